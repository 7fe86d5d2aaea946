section
-- ===== PART A: goes FIRST, ahead of the names: the tables' words, and 'selects' of the private methods out of them =====
/-- a private method of a class that the tables say can be made, by its rows of tables_1 -/
def lw_okq (q : MethodName × Nat) : Prop := (q.1.cls ≠ "java/lang/invoke/MethodHandle" ∧ q.1.cls ≠ "java/lang/invoke/VarHandle") ∧ Cond.instantiable q.1.cls q.2 ∈ tables_1 ∧ Cond.privateMethod q.1 ∈ tables_1 ∧ Cond.instanceMethod q.1 ∈ tables_1
theorem lw_p0 : lw_okq (⟨"PaintballAtlas$Round", "reset", "(I)V"⟩, 8) := ⟨⟨by decide +kernel, by decide +kernel⟩, List.mem_of_getElem? (i := 34) (by decide +kernel), List.mem_of_getElem? (i := 95) (by decide +kernel), List.mem_of_getElem? (i := 96) (by decide +kernel)⟩
theorem lw_p1 : lw_okq (⟨"java/lang/Throwable", "fillInStackTrace", "(I)Ljava/lang/Throwable;"⟩, 6) := ⟨⟨by decide +kernel, by decide +kernel⟩, List.mem_of_getElem? (i := 213) (by decide +kernel), List.mem_of_getElem? (i := 211) (by decide +kernel), List.mem_of_getElem? (i := 212) (by decide +kernel)⟩
theorem lw_p2 : lw_okq (⟨"PaintballAtlas", "checkRound", "()V"⟩, 4) := ⟨⟨by decide +kernel, by decide +kernel⟩, List.mem_of_getElem? (i := 15) (by decide +kernel), List.mem_of_getElem? (i := 314) (by decide +kernel), List.mem_of_getElem? (i := 315) (by decide +kernel)⟩
theorem lw_p3 : lw_okq (⟨"PaintballAtlas$Round", "strikes", "(ILPaintballAtlas$Field;)Z"⟩, 8) := ⟨⟨by decide +kernel, by decide +kernel⟩, List.mem_of_getElem? (i := 34) (by decide +kernel), List.mem_of_getElem? (i := 376) (by decide +kernel), List.mem_of_getElem? (i := 377) (by decide +kernel)⟩
theorem lw_p4 : lw_okq (⟨"PaintballAtlas$Table", "enterWin", "(II)V"⟩, 4) := ⟨⟨by decide +kernel, by decide +kernel⟩, List.mem_of_getElem? (i := 124) (by decide +kernel), List.mem_of_getElem? (i := 456) (by decide +kernel), List.mem_of_getElem? (i := 457) (by decide +kernel)⟩
theorem lw_p5 : lw_okq (⟨"PaintballAtlas$Table", "takePenalties", "()V"⟩, 4) := ⟨⟨by decide +kernel, by decide +kernel⟩, List.mem_of_getElem? (i := 124) (by decide +kernel), List.mem_of_getElem? (i := 460) (by decide +kernel), List.mem_of_getElem? (i := 461) (by decide +kernel)⟩
theorem lw_p6 : lw_okq (⟨"PaintballAtlas$Table", "isAhead", "(II)Z"⟩, 4) := ⟨⟨by decide +kernel, by decide +kernel⟩, List.mem_of_getElem? (i := 124) (by decide +kernel), List.mem_of_getElem? (i := 528) (by decide +kernel), List.mem_of_getElem? (i := 529) (by decide +kernel)⟩
def lw_privs_1 : List (MethodName × Nat) := [(⟨"PaintballAtlas$Round", "reset", "(I)V"⟩, 8), (⟨"java/lang/Throwable", "fillInStackTrace", "(I)Ljava/lang/Throwable;"⟩, 6), (⟨"PaintballAtlas", "checkRound", "()V"⟩, 4), (⟨"PaintballAtlas$Round", "strikes", "(ILPaintballAtlas$Field;)Z"⟩, 8), (⟨"PaintballAtlas$Table", "enterWin", "(II)V"⟩, 4), (⟨"PaintballAtlas$Table", "takePenalties", "()V"⟩, 4), (⟨"PaintballAtlas$Table", "isAhead", "(II)Z"⟩, 4)]
theorem lw_r1 : ∀ q ∈ lw_privs_1, lw_okq q := List.forall_mem_cons.mpr ⟨lw_p0, List.forall_mem_cons.mpr ⟨lw_p1, List.forall_mem_cons.mpr ⟨lw_p2, List.forall_mem_cons.mpr ⟨lw_p3, List.forall_mem_cons.mpr ⟨lw_p4, List.forall_mem_cons.mpr ⟨lw_p5, List.forall_mem_cons.mpr ⟨lw_p6, fun _ h => absurd h List.not_mem_nil⟩⟩⟩⟩⟩⟩⟩
def lw_privs : List (MethodName × Nat) := lw_privs_1
def lw_tbl : List Cond := k2_sels lw_privs ++ tables_1
theorem lw_privs_ok : ∀ q ∈ lw_privs, lw_okq q := lw_r1
/-! ===== BEGIN words of one list among another's, by their places ===== -/
theorem goodIn_r {big : List Cond} (ws : List Cond) (ps : List Nat) (hp : ws = ps.filterMap (fun i => big[i]?)) (h : ws.all goodWord = true) : GoodIn big ws := by
  intro w hw
  have h1 := List.all_eq_true.mp h w hw
  rw [hp] at hw
  obtain ⟨i, -, hi⟩ := List.mem_filterMap.mp hw
  have hm : w ∈ big := by first | exact List.mem_of_getElem? hi | exact List.getElem?_mem hi
  exact ⟨hm, good_of_word h1⟩
theorem goodIn_app {big a b : List Cond} (ha : GoodIn big a) (hb : GoodIn big b) : GoodIn big (a ++ b) := fun w h => (List.mem_append.mp h).elim (ha w) (hb w)
theorem goodIn_ca {big a b : List Cond} {c : Cond} (ha : GoodIn big (c :: a)) (hb : GoodIn big b) : GoodIn big (c :: (a ++ b)) := fun w h => (List.mem_cons.mp h).elim (fun e => ha w (List.mem_cons.mpr (Or.inl e))) (fun h => (List.mem_append.mp h).elim (fun h => ha w (List.mem_cons.mpr (Or.inr h))) (hb w))
theorem goodIn_sub {big ws : List Cond} (hm : ∀ w ∈ ws, w ∈ big) (h : ws.all goodWord = true) : GoodIn big ws := fun w hw => ⟨hm w hw, good_of_word (List.all_eq_true.mp h w hw)⟩
/-! ===== END ===== -/

/-! ===== BEGIN new T[n][m]: the outer array a place, the inner ones among the pooled ===== -/
/-- f, but v at every address of l -/
def vr_up {α : Type} (f : Nat → α) (l : List Nat) (v : α) : Nat → α := fun a => if a ∈ l then v else f a
theorem vr_up_in {α : Type} {f : Nat → α} {l : List Nat} {v : α} {a : Nat} (h : a ∈ l) : vr_up f l v a = v := if_pos h
theorem vr_up_ne {α : Type} {f : Nat → α} {l : List Nat} {v : α} {a : Nat} (h : a ∉ l) : vr_up f l v a = f a := if_neg h
theorem vr_rows {L l : List Nat} {f : Nat → va_E} {e : va_E} (h : ∀ a, a ∈ l → a ∉ L) : va_pl L f ++ l.map (fun a => (a, e)) = va_pl (L ++ l) (vr_up f l e) := by
  unfold va_pl
  rw [List.map_append]
  congr 1
  · apply List.map_congr_left
    intro a ha
    rw [vr_up_ne (fun q => h a q ha)]
  · apply List.map_congr_left
    intro a ha
    rw [vr_up_in ha]
theorem vr_lay {X rows : va_W} {x : Nat × va_E} {pl : va_W} {D : va_G} {cl : List vw_C} {H : Heap} (hP : va_P D cl (((X ++ pl) ++ [x]) ++ rows) H) : va_P D cl ((X ++ [x]) ++ (pl ++ rows)) H := by
  rw [List.append_assoc (X ++ pl)] at hP
  have h := va_P.swap hP
  rw [← List.append_assoc X] at h
  have h2 := va_P.swap h
  rw [List.append_assoc (X ++ [x])] at h2
  exact h2
theorem vr_layD {X rows : va_W} {x : Nat × va_E} {pl : va_W} {A : Nat → Prop} (hD : va_D A (((X ++ pl) ++ [x]) ++ rows)) : va_D A ((X ++ [x]) ++ (pl ++ rows)) := by
  rw [List.append_assoc (X ++ pl)] at hD
  have h := va_D.swap hD
  rw [← List.append_assoc X] at h
  have h2 := va_D.swap h
  rw [List.append_assoc (X ++ [x])] at h2
  exact h2
theorem vr_outer (c : ClassId) (N h0 : Nat) : ∀ i : Nat, Jvm.Free.Multi.outerC c N h0 i = arrV c N (fun j => va_rf (if j < i then some (h0 + 1 + j) else none))
  | 0 => by
    show ({ cls := c, slots := Array.replicate N .null, vm := .none } : Cell) = _
    rw [arrV_new]
    refine congrArg (arrV c N) (funext fun j => ?_)
    simp [va_rf]
  | i + 1 => by
    show (Jvm.Free.Multi.outerC c N h0 i).setSlot i (.ref (h0 + 1 + i)) = _
    rw [vr_outer c N h0 i, arrV_store]
    refine congrArg (arrV c N) (funext fun j => ?_)
    by_cases e : j = i
    · subst e
      simp [updV, va_rf]
    · by_cases h : j < i
      · simp [updV, e, h, Nat.lt_succ_of_lt h]
      · simp [updV, e, h, show ¬ j < i + 1 by omega]
section VGM
variable {p : Program} {l : Launch} {e : Env} {R : Room} {s : State} {m : MethodId} {args : Array Value} {below : List Frame} {meth : Method} {c : Code} {H : Heap} {locs : List Loc} {cells slots : Nat} {Q : State → Prop}
variable {cc : ByteArray} {pc : Nat} {ls : Array Slot} {rest : List Value} {D : va_G} {cl : List vw_C} {A : Nat → Prop} {a : Nat} {tys : List (ClassId × FieldType)} {ws : va_W} {H0 : Heap}
theorem va_mna {X : va_W} {L : List Nat} {f : Nat → va_E} {cc : ByteArray} (hexec : p.tables.exec = Jvm.exec) (hb : c.code = cc) {own : String} {index : Nat} {ty : FieldType} {cy : ClassId} (hown : s.vm.findClass own = some m.cls) (hclink : (Cond.classLink own index ("[" ++ (FieldType.array ty).toString)).before args s = true) (hover : (Cond.arrayOver (.array ty)).before args s = true) (harr : (Cond.arrayClass ty).before args s = true) (hcy : s.vm.findClass (FieldType.array ty).toString = some cy)
    (hK : va_K D cl tys s) (hP : va_P D cl (X ++ va_pl L f) H) (hD : va_D A (X ++ va_pl L f)) (hS : va_S A H0 H locs) (hA : ∀ q, H0.size ≤ q → A q) {n k : Int32} {N' K' : Nat} {z : vp_A} (hn : ¬ n < 0) (hk : ¬ k < 0) (hN : n.toNatClampNeg = N') (hM : k.toNatClampNeg = K')
    (hb1 : N' * 4 ≤ 536870912) (hb2 : K' * componentBytes ty ≤ 536870912) (hb3 : K' ≤ 536870912) (hdf : fits ty (defaultValue ty) = true) (hdd : (defaultValue ty).isDefault = true) (hcells : cells + (1 + N') ≤ R.cells) (hslots : slots + (N' + N' * K') ≤ R.slots) (hz : ∀ c : ClassId, Jvm.Free.Multi.innerC c K' (defaultValue ty) = vp_cell c z) (hdg : decode cc pc = .ok (.multianewarray index 2, 4))
    (kk : ∀ (q : Nat) (r : Nat → Nat) (cA : ClassId) (H1 : Heap), (∀ i j : Nat, i < N' → j < N' → r i = r j → i = j) → (∀ i : Nat, i < N' → r i ∉ L) → va_K D cl (tys ++ [(cA, .array ty)]) s →
      va_P D cl ((X ++ [(q, .inl (cA, N', .inr (.inr (.inr (.inr (fun i => if i < N' then some (r i) else none))))))]) ++ va_pl (L ++ (List.range N').map r) (vr_up f ((List.range N').map r) (.inl (cy, z)))) H1 → va_D A ((X ++ [(q, .inl (cA, N', .inr (.inr (.inr (.inr (fun i => if i < N' then some (r i) else none))))))]) ++ va_pl (L ++ (List.range N').map r) (vr_up f ((List.range N').map r) (.inl (cy, z)))) → va_S A H0 H1 locs →
      W p l e R s m args below meth c H1 locs (cells + 1 + N') (slots + N' + N' * K') Q (F0 m (pc + 4) ls (.ref q :: rest))) : W p l e R s m args below meth c H locs cells slots Q (F0 m pc ls (.int k :: .int n :: rest)) := by
  subst hN
  subst hM
  intro T hT Xs
  obtain ⟨vm₁, cA, comp, -, fA, fC, hO, -, X', step⟩ := Xs.multianewarray2F hexec hown hclink hover harr (g := F0 m pc ls (.int k :: .int n :: rest)) rfl (by rw [hb]; exact hdg) rfl hn hk hb1 hb2 hb3 hdf hdd hcells hslots
  have ec : some cy = some comp := hcy.symm.trans fC
  cases ec
  generalize hF : Jvm.Free.Multi.fill (T.setVm vm₁) cA cy n.toNatClampNeg k.toNatClampNeg (defaultValue ty) n.toNatClampNeg = F at X' step
  have hTh : (T.setVm vm₁).heap = H := hT
  obtain ⟨f1, f2, -, -⟩ := Jvm.Free.Multi.fill_facts (T.setVm vm₁) cA cy n.toNatClampNeg k.toNatClampNeg (defaultValue ty) n.toNatClampNeg
  rw [hF, hTh] at f1 f2
  have hold : ∀ x : Nat, x < H.size → F.heap[x]? = H[x]? := fun x hx => by
    have := Jvm.Free.Multi.fill_old (T.setVm vm₁) cA cy n.toNatClampNeg k.toNatClampNeg (defaultValue ty) (a := x) (by rw [hTh]; exact hx) n.toNatClampNeg
    rw [hF, hTh] at this
    exact this
  have hrow : ∀ j : Nat, j < n.toNatClampNeg → F.heap[H.size + 1 + j]? = some (vp_cell cy z) := fun j hj => by
    have := Jvm.Free.Multi.fill_inner (T.setVm vm₁) cA cy n.toNatClampNeg k.toNatClampNeg (defaultValue ty) n.toNatClampNeg j hj
    rw [hF, hTh, hz] at this
    exact this
  have hout : Jvm.Free.Multi.outerC cA n.toNatClampNeg H.size n.toNatClampNeg = vp_cell cA (n.toNatClampNeg, .inr (.inr (.inr (.inr (fun i => if i < n.toNatClampNeg then some (H.size + 1 + i) else none))))) := by
    rw [vp_cell_q]
    exact vr_outer cA n.toNatClampNeg H.size n.toNatClampNeg
  rw [hout] at f2
  have hlt : ∀ a, a ∈ L → a < H.size := fun a ha => by
    obtain ⟨k9, hk9⟩ := va_pl_get (X := X) (f := f) ha
    exact (hP k9 _ hk9).lt
  have hnl : ∀ i : Nat, i < n.toNatClampNeg → H.size + 1 + i ∉ L := fun i _ h => by
    have := hlt _ h
    omega
  have hnm : ∀ a, a ∈ (List.range n.toNatClampNeg).map (fun i => H.size + 1 + i) → a ∉ L := fun a ha h => by
    obtain ⟨i, -, rfl⟩ := List.mem_map.mp ha
    have := hlt _ h
    omega
  have hP0 : va_P D cl (X ++ va_pl L f) F.heap := hP.kept (fun k9 x hx => hold x.1 ((hP k9 x hx).lt))
  have hP1 : va_P D cl ((X ++ va_pl L f) ++ [(H.size, .inl (cA, n.toNatClampNeg, .inr (.inr (.inr (.inr (fun i => if i < n.toNatClampNeg then some (H.size + 1 + i) else none))))))]) F.heap := hP0.app (fun k9 x hx => by
    have h0 : k9 < 1 := (List.getElem?_eq_some_iff.mp hx).1
    rw [show k9 = 0 by omega] at hx
    cases hx
    exact f2)
  have hP2 : va_P D cl (((X ++ va_pl L f) ++ [(H.size, .inl (cA, n.toNatClampNeg, .inr (.inr (.inr (.inr (fun i => if i < n.toNatClampNeg then some (H.size + 1 + i) else none))))))]) ++ ((List.range n.toNatClampNeg).map (fun i => H.size + 1 + i)).map (fun a => (a, .inl (cy, z)))) F.heap := hP1.app (fun k9 x hx => by
    obtain ⟨a, ha, rfl⟩ := List.mem_map.mp (List.mem_of_getElem? hx)
    obtain ⟨i, hi, rfl⟩ := List.mem_map.mp ha
    exact hrow i (List.mem_range.mp hi))
  have hD2 : va_D A (((X ++ va_pl L f) ++ [(H.size, .inl (cA, n.toNatClampNeg, .inr (.inr (.inr (.inr (fun i => if i < n.toNatClampNeg then some (H.size + 1 + i) else none))))))]) ++ ((List.range n.toNatClampNeg).map (fun i => H.size + 1 + i)).map (fun a => (a, .inl (cy, z)))) := by
    have hD1 := hD.push (e := .inl (cA, n.toNatClampNeg, .inr (.inr (.inr (.inr (fun i => if i < n.toNatClampNeg then some (H.size + 1 + i) else none)))))) hP rfl (hA _ hS.1)
    generalize hW1 : (X ++ va_pl L f) ++ [(H.size, .inl (cA, n.toNatClampNeg, .inr (.inr (.inr (.inr (fun i => if i < n.toNatClampNeg then some (H.size + 1 + i) else none))))))] = W1 at hD1 hP1 ⊢
    have hle : ∀ (k9 : Nat) (x : Nat × va_E), W1[k9]? = some x → x.1 ≤ H.size := fun k9 x hx => by
      rw [← hW1] at hx
      by_cases hl : k9 < (X ++ va_pl L f).length
      · rw [List.getElem?_append_left hl] at hx
        exact Nat.le_of_lt ((hP k9 x hx).lt)
      · rw [List.getElem?_append_right (by omega)] at hx
        have h0 : k9 - (X ++ va_pl L f).length < 1 := (List.getElem?_eq_some_iff.mp hx).1
        rw [show k9 - (X ++ va_pl L f).length = 0 by omega] at hx
        cases hx
        exact Nat.le_refl _
    have hr : ∀ (k9 : Nat) (x : Nat × va_E), (((List.range n.toNatClampNeg).map (fun i => H.size + 1 + i)).map (fun a => ((a, .inl (cy, z)) : Nat × va_E)))[k9]? = some x → x.1 = H.size + 1 + k9 := fun k9 x hx => by
      rw [List.getElem?_map, List.getElem?_map] at hx
      by_cases h9 : k9 < n.toNatClampNeg
      · rw [List.getElem?_range h9] at hx
        cases hx
        rfl
      · have hn0 : (List.range n.toNatClampNeg)[k9]? = none := List.getElem?_eq_none (by rw [List.length_range]; omega)
        rw [hn0] at hx
        cases hx
    refine ⟨fun i j x y hi hj hxy => ?_, fun k9 x hx => ?_⟩
    · by_cases h1 : i < W1.length <;> by_cases h2 : j < W1.length
      · rw [List.getElem?_append_left h1] at hi
        rw [List.getElem?_append_left h2] at hj
        exact hD1.1 i j x y hi hj hxy
      · rw [List.getElem?_append_left h1] at hi
        rw [List.getElem?_append_right (by omega)] at hj
        have := hle _ _ hi
        have := hr _ _ hj
        omega
      · rw [List.getElem?_append_right (by omega)] at hi
        rw [List.getElem?_append_left h2] at hj
        have := hle _ _ hj
        have := hr _ _ hi
        omega
      · rw [List.getElem?_append_right (by omega)] at hi hj
        have := hr _ _ hi
        have := hr _ _ hj
        omega
    · by_cases h1 : k9 < W1.length
      · rw [List.getElem?_append_left h1] at hx
        exact hD1.2 k9 x hx
      · rw [List.getElem?_append_right (by omega)] at hx
        have := hr _ _ hx
        exact hA _ (by have := hS.1; omega)
  have hAr : ArrOfT s cA (.array ty) := fun N9 z9 => by
    obtain ⟨-, k9, hk9, cm9, hkk9⟩ := (hO 0 0 0).1
    exact ⟨(fun q hq => by cases hq), k9, hk9, cm9, hkk9⟩
  have hK2 : va_K D cl (tys ++ [(cA, .array ty)]) s := ⟨hK.1, fun k9 x hx => by
    by_cases hl : k9 < tys.length
    · rw [List.getElem?_append_left hl] at hx
      exact hK.2 k9 x hx
    · rw [List.getElem?_append_right (by omega)] at hx
      have h0 : k9 - tys.length < 1 := (List.getElem?_eq_some_iff.mp hx).1
      rw [show k9 - tys.length = 0 by omega] at hx
      cases hx
      exact ⟨hAr, fA⟩⟩
  obtain ⟨t, a1, b1⟩ := kk H.size (fun i => H.size + 1 + i) cA F.heap (fun i j _ _ h => by have h9 : H.size + 1 + i = H.size + 1 + j := h; omega) hnl hK2 (by rw [← vr_rows hnm]; exact vr_lay hP2) (by rw [← vr_rows hnm]; exact vr_layD hD2) ⟨by rw [f1]; have := hS.1; omega, fun x h1 h2 => (hold x (Nat.lt_of_lt_of_le h1 hS.1)).trans (hS.2.1 x h1 h2), hS.2.2⟩ F rfl X'
  refine ⟨t, step t ?_, b1⟩
  have e : T.heap.size = H.size := by rw [hT]
  rw [e]
  exact a1
end VGM
/-! ===== END ===== -/

/-! ===== BEGIN exceptions that leave a method, and their catching by the caller (launches without stack traces) ===== -/
section VXA
/-! The laws vx_back, vx_callV, vx_callS, vx_callSW, vx_throw0, vx_throwS follow proofs of the library, with one case more: JvmDerived/Free/Laws.lean (Back.of_free), Shelf42/LK1.lean (callV, callS), Shelf/KitTraced.lean (throwNew0V, throwNewS). -/
/-- where a method has thrown q: the class by its name, the cell, what was written, the world -/
def vx_T (XC : String → State → State → Prop) (st : State) (q : Addr) (t : State) (mc ms : Nat) (free : Addr → Prop) : Prop :=
  ∃ (E : String) (ce : Cell) (L : List Loc), XC E st t ∧ t.heap[q]? = some ce ∧ ce.vm = .none ∧ st.vm.findClass E = some ce.cls ∧ st.WarmedH t.vm ∧ st.sameButNew ({ t with vm := st.vm } : State) L mc ms ∧ ∀ z ∈ L, free z.base
def vx_Q (Qc : Array Value → State → Outcome → State → Prop) (XC : String → State → State → Prop) (mc ms : Nat) (free : Addr → Prop) : Array Value → State → Outcome → State → Prop := fun a st o t =>
  (Qc a st o t ∧ ∃ L, FrameEnd st o t L mc ms ∧ ∀ q ∈ L, free q.base) ∨ ∃ q, o = .threw q ∧ vx_T XC st q t mc ms free
/-- a callee that returns or throws -/
def vx_Met (l : Launch) (y : MethodName) (ws : List Cond) (rm : Room) (Pc : Array Value → State → Prop) (Qc : Array Value → State → Outcome → State → Prop) (XC : String → State → State → Prop) (mc ms : Nat) (free : Addr → Prop) : Prop :=
  MetFree l y (headSpec ws rm) Pc (fun _ _ _ _ _ => True) (vx_Q Qc XC mc ms free)
def vx_Post (XC : String → State → State → Prop) (mc ms : Nat) (free : Addr → Prop) : Pt → Array Value → Addr → Pt → Prop := fun A a q B =>
  ∃ (g : JFrame) (mk : MethodId) (t : State) (L : List Loc) (E : String) (ce : Cell), B.U.heap = t.heap ∧ B.U.vm = t.vm ∧ XC E (A.U.calling g mk a) t ∧ t.heap[q]? = some ce ∧ ce.vm = .none ∧ A.U.vm.findClass E = some ce.cls ∧ B.locs = A.locs ++ L ∧ (∀ z ∈ L, free z.base) ∧ B.cells = A.cells + mc ∧ B.slots = A.slots + ms
def vx_Back (l : Launch) (R : Room) (p : Program) (e : Env) (below : List Frame) (s : State) (sargs : Array Value) (y : MethodName) (len W9 : Nat)
    (Pre : Pt → Array Value → Prop) (Post : Pt → Array Value → Option Value → Pt → Prop) (PostX : Pt → Array Value → Addr → Pt → Prop) : Prop :=
  ∀ (m : MethodId) (meth : Method) (c : Code) (A : Pt) (g : JFrame) (ig : Instr) (mk : MethodId) (a : Array Value),
    Stand p l e R s m sargs below meth c A.U A.locs A.cells A.slots → g.method = m → g.locals.size = c.maxLocals → decode c.code g.pc = .ok (ig, len) →
    2 * g.monitorRoom + (g.stack.map fun v => v.category).sum ≤ W9 → A.U.methodNamed? y = some mk → Pre A a →
    (∃ (v : Option Value) (B : Pt), Stand p l e R s m sargs below meth c B.U B.locs B.cells B.slots ∧ Post A a v B ∧
      Steps p.tables e below (doInvoke e (A.U.setTop g) [] mk a).1 (B.U.setTop { g with pc := g.pc + len, stack := v.toList ++ g.stack })) ∨
    (∃ (q : Addr) (B : Pt), Stand p l e R s m sargs below meth c B.U B.locs B.cells B.slots ∧ PostX A a q B ∧
      Steps p.tables e below (doInvoke e (A.U.setTop g) [] mk a).1 ((B.U.setTop g).pushFrame (.throwing q)))
section Payer
variable {l : Launch} {R : Room} {p : Program} {e : Env} {below : List Frame} {s : State} {sargs : Array Value} {y : MethodName} {len W9 : Nat}
theorem vx_back {ws : List Cond} {rm : Room} {Pc : Array Value → State → Prop} {Qc : Array Value → State → Outcome → State → Prop} {XC : String → State → State → Prop} {mc ms : Nat} {free : Addr → Prop} {bytes : ByteArray} {maxL : Nat} {ret : Option FieldType}
    (hM : vx_Met l y ws rm Pc Qc XC mc ms free) (hblind : FrameBlind Pc) (hrc : rm.cells = mc) (hrs : rm.slots = ms)
    (hframes : rm.frames + 1 ≤ R.frames) (hlocals : W9 + (maxL + 11) + rm.locals ≤ R.locals)
    (hws : ∀ w ∈ ws, ∀ a' U, s.WarmedH U.vm → w.before a' U = true) (hcode : Cond.code y bytes maxL ret ∈ ws) (hinit : ∀ a' U, s.WarmedH U.vm → (Cond.initialized y.cls).before a' U = true) :
    vx_Back l R p e below s sargs y len W9 (PreOf R mc ms Pc) (PostOf Qc mc ms free) (vx_Post XC mc ms free) := by
  intro m meth c A g ig mk a X hg hsize hdg hW hn hp
  have h1 : (headSpec ws rm).pre.before a A.U = true := atoms_intro fun w hw => hws w hw _ _ X.warmed
  have h2 : (Cond.code y bytes maxL ret).before a A.U = true := hws _ hcode _ _ X.warmed
  have h3 : (Cond.initialized y.cls).before a A.U = true := hinit _ _ X.warmed
  have h4 : A.cells + (headSpec ws rm).room.cells ≤ R.cells := by rw [show (headSpec ws rm).room.cells = mc from hrc]; exact hp.1
  have h5 : A.slots + (headSpec ws rm).room.slots ≤ R.slots := by rw [show (headSpec ws rm).room.slots = ms from hrs]; exact hp.2.1
  have hPc : Pc a (A.U.calling g mk a) := hblind _ _ _ _ hp.2.2
  obtain ⟨U, Ls, c0, s0⟩ := A
  dsimp only [Pt.U, Pt.locs, Pt.cells, Pt.slots] at h1 h2 h3 h4 h5 X hn hPc ⊢
  obtain ⟨methY, cY, hmY, hcY, -, hlY, -, -, -, -⟩ := Cond.code_spec hn h2
  obtain ⟨kY, hkY, -⟩ := className_of_methodNamed hn
  have hinitY : kY.init = .initialized := Cond.initialized_spec (findClass_of_methodNamed hn) hkY h3
  have h : At U g.method c below := by rw [hg]; exact X.here
  have hlocals9 : W9 + (maxL + 11) + (headSpec ws rm).room.locals ≤ R.locals := hlocals
  have happ : (headSpec ws rm).appliesLoose y e.platform (U.calling g mk a) = true :=
    Spec.appliesLoose_calling (g := g) h hdg hn hkY hinitY
      (X.room_calling (g := g) (R' := (headSpec ws rm).room) hsize hmY hcY hframes (by rw [hlY]; omega) h4 h5) h1
  obtain ⟨mid, hmid⟩ := h.above
  have hfr : (U.setTop g).frames = (.java g :: mid) ++ below := by rw [State.frames_setTop' g h.top, hmid]; rfl
  obtain ⟨o, s₂, hsteps, -, hend, hq⟩ := Steps.callFree hM p X.admits X.cas X.clock (acts := []) hfr happ hPc trivial
  have hq' : vx_Q Qc XC mc ms free a (U.calling g mk a) o s₂ := hq
  rw [State.frames_setTop' g h.top] at hend
  obtain ⟨g₀, hg0⟩ := Option.isSome_iff_exists.mp h.top
  obtain ⟨r, hr⟩ := State.topJava?_eq_some.mp hg0
  have hr' : (({ U with heap := s₂.heap, slotsUsed := s₂.slotsUsed } : State).setVm s₂.vm).frames = .java g₀ :: r := hr
  rcases hq' with ⟨hqc, L, hfe, hL⟩ | ⟨q, rfl, E, ce, L, hx, hce, hcv, hcl, hW₂, hsm, hL⟩
  · obtain ⟨⟨v, rfl⟩, hW₂, e2, q2, q3, q4, q5, q6⟩ := id hfe
    have e3 : s₂ = ({ (U.calling g mk a).setFrames s₂.frames with heap := s₂.heap, slotsUsed := s₂.slotsUsed } : State).setVm s₂.vm := by
      have : s₂ = ({ s₂ with vm := (U.calling g mk a).vm } : State).setVm s₂.vm := rfl
      rw [e2] at this
      exact this
    obtain ⟨c₂, i₂, len₂, hc₂, hd₂, hf₂⟩ := hend
    have hW' : U.WarmedH s₂.vm := hW₂
    have hcc : c₂ = c := by
      have h1 : s₂.code? g.method = U.code? g.method := by
        rw [State.code?_eq, State.code?_eq, hW'.alike.method?]
      exact Option.some.inj (hc₂.symm.trans (h1.trans h.code))
    subst hcc
    have hlen : len₂ = len := by rw [hdg] at hd₂; cases hd₂; rfl
    subst hlen
    have hs₂ : s₂ = (({ U with heap := s₂.heap, slotsUsed := s₂.slotsUsed } : State).setVm s₂.vm).setTop { g with pc := g.pc + len₂, stack := v.toList ++ g.stack } := by
      refine e3.trans ?_
      rw [hf₂, State.calling_eq h.top, State.setFrames_setFrames, State.setTop_of_frames _ hr', hr]
      rfl
    have hsame : U.sameButNew ({ U with heap := s₂.heap, slotsUsed := s₂.slotsUsed } : State) L mc ms := by
      refine ⟨?_, q2, q3, q4, q5, q6⟩
      obtain ⟨t, ht, -⟩ := State.frames_cons hr
      show ({ U with heap := s₂.heap, slotsUsed := s₂.slotsUsed } : State) = { U.setFrames U.frames with heap := s₂.heap, slotsUsed := s₂.slotsUsed }
      rw [State.setFrames_self ht]
    subst hg
    refine Or.inl ⟨v, ⟨(({ U with heap := s₂.heap, slotsUsed := s₂.slotsUsed } : State).setVm s₂.vm), Ls ++ L, c0 + mc, s0 + ms⟩,
      ⟨X.admits, X.cas, X.clock, X.frames, X.room, X.hears, X.method, X.code, (X.here.setHeapUsed s₂.heap s₂.slotsUsed).setVm hW'.alike, X.tail, State.WarmedH.trans X.warmed hW', X.limits, X.bytes, X.same.trans (hsame.setVm s.vm)⟩,
      ⟨g, mk, s₂, L, rfl, rfl, hqc, rfl, hL, rfl, rfl⟩, ?_⟩
    show Steps p.tables e below _ ((({ U with heap := s₂.heap, slotsUsed := s₂.slotsUsed } : State).setVm s₂.vm).setTop { g with pc := g.pc + len₂, stack := v.toList ++ g.stack })
    rw [← hs₂]
    exact hsteps
  · obtain ⟨e2, q2, q3, q4, q5, q6⟩ := id hsm
    have e3 : s₂ = ({ (U.calling g mk a).setFrames s₂.frames with heap := s₂.heap, slotsUsed := s₂.slotsUsed } : State).setVm s₂.vm := by
      have : s₂ = ({ s₂ with vm := (U.calling g mk a).vm } : State).setVm s₂.vm := rfl
      rw [e2] at this
      exact this
    have hf₂ : s₂.frames = .throwing q :: .java g :: U.frames.tail := hend
    have hW' : U.WarmedH s₂.vm := hW₂
    have hs₂ : s₂ = ((({ U with heap := s₂.heap, slotsUsed := s₂.slotsUsed } : State).setVm s₂.vm).setTop g).pushFrame (.throwing q) := by
      refine e3.trans ?_
      rw [hf₂, State.calling_eq h.top, State.setFrames_setFrames, State.pushFrame, State.frames_setTop _ hr', State.setTop_of_frames _ hr', State.setFrames_setFrames, hr]
      rfl
    have hsame : U.sameButNew ({ U with heap := s₂.heap, slotsUsed := s₂.slotsUsed } : State) L mc ms := by
      refine ⟨?_, q2, q3, q4, q5, q6⟩
      obtain ⟨t, ht, -⟩ := State.frames_cons hr
      show ({ U with heap := s₂.heap, slotsUsed := s₂.slotsUsed } : State) = { U.setFrames U.frames with heap := s₂.heap, slotsUsed := s₂.slotsUsed }
      rw [State.setFrames_self ht]
    subst hg
    refine Or.inr ⟨q, ⟨(({ U with heap := s₂.heap, slotsUsed := s₂.slotsUsed } : State).setVm s₂.vm), Ls ++ L, c0 + mc, s0 + ms⟩,
      ⟨X.admits, X.cas, X.clock, X.frames, X.room, X.hears, X.method, X.code, (X.here.setHeapUsed s₂.heap s₂.slotsUsed).setVm hW'.alike, X.tail, State.WarmedH.trans X.warmed hW', X.limits, X.bytes, X.same.trans (hsame.setVm s.vm)⟩,
      ⟨g, mk, s₂, L, E, ce, rfl, rfl, hx, hce, hcv, hcl, rfl, hL, rfl, rfl⟩, ?_⟩
    show Steps p.tables e below _ (((({ U with heap := s₂.heap, slotsUsed := s₂.slotsUsed } : State).setVm s₂.vm).setTop g).pushFrame (.throwing q))
    rw [← hs₂]
    exact hsteps
end Payer
section Calls
variable {p : Program} {l : Launch} {e : Env} {R : Room} {s : State} {m : MethodId} {args : Array Value} {below : List Frame} {meth : Method} {c : Code} {T : State} {locs : List Loc} {cells slots : Nat}
theorem vx_callV (X : Stand p l e R s m args below meth c T locs cells slots) (hexec : p.tables.exec = Jvm.exec) {own C : String} {index : Nat} {y : MethodName} {bytes : ByteArray} {maxL : Nat} {ret : Option FieldType}
    (hown : s.vm.findClass own = some m.cls) (hlink : (Cond.methodLink own index y).before args s = true) (hinst : (Cond.instanceMethod y).before args s = true) (hsel : (Cond.selects C y y).before args s = true)
    (hcode : (Cond.code y bytes maxL ret).before args s = true) (hy : y.cls ≠ "java/lang/invoke/MethodHandle" ∧ y.cls ≠ "java/lang/invoke/VarHandle")
    {W9 : Nat} {Pre : Pt → Array Value → Prop} {Post : Pt → Array Value → Option Value → Pt → Prop} {PostX : Pt → Array Value → Addr → Pt → Prop} (hK : vx_Back l R p e below s args y 3 W9 Pre Post PostX)
    {b : Addr} {cellB : Cell} (hcell : T.heap[b]? = some cellB) (hobj : cellB.vm.isStatics = false) (hcls : s.vm.findClass C = some cellB.cls)
    {g : JFrame} (hg : g.method = m) (hsize : g.locals.size = c.maxLocals) {argsL rest : List Value} (hlen : ∀ sig, parseMethodDescriptor y.desc = some sig → argsL.length = sig.parameters.length)
    (hstack : g.stack = argsL.reverse ++ .ref b :: rest) (hW : 2 * g.monitorRoom + (rest.map fun v => v.category).sum ≤ W9) (hdg : decode c.code g.pc = .ok (.invokevirtual index, 3))
    (hpre : ∀ vm₁, s.WarmedH vm₁ → Pre ⟨T.setVm vm₁, locs, cells, slots⟩ (Value.ref b :: argsL).toArray) :
    (∃ (v : Option Value) (vm₁ : Vm) (B : Pt), s.WarmedH vm₁ ∧ Stand p l e R s m args below meth c B.U B.locs B.cells B.slots ∧ Post ⟨T.setVm vm₁, locs, cells, slots⟩ (Value.ref b :: argsL).toArray v B ∧
      ∀ target, Steps p.tables e below (B.U.setTop { g with pc := g.pc + 3, stack := v.toList ++ rest }) target → Steps p.tables e below (T.setTop g) target) ∨
    (∃ (q : Addr) (vm₁ : Vm) (B : Pt), s.WarmedH vm₁ ∧ Stand p l e R s m args below meth c B.U B.locs B.cells B.slots ∧ PostX ⟨T.setVm vm₁, locs, cells, slots⟩ (Value.ref b :: argsL).toArray q B ∧
      Steps p.tables e below (T.setTop g) ((B.U.setTop { g with stack := rest }).pushFrame (.throwing q))) := by
  obtain ⟨mk, methM, hnamed, hmethM, hstM, habM⟩ := Cond.instanceMethod_spec hinst
  obtain ⟨methM', cM, hmethM', -, -, -, -, -, -, hsigM⟩ := Cond.code_spec hnamed hcode
  cases hmethM.symm.trans hmethM'
  obtain ⟨c2, r2, m2, q1, q2, q3, q4, kP, hkP, hkPi⟩ := Cond.selects_spec hsel
  cases hcls.symm.trans q1
  cases (State.methodFound?_of_named hnamed hy).symm.trans q2
  cases hnamed.symm.trans q3
  have hselP : selectMethod e.platform s.vm cellB.cls mk = .method mk := by rw [Launch.admits_selectMethod X.admits]; exact q4
  obtain ⟨vm₁, X₁, hstep₁⟩ := X.invokevirtual hexec hown hlink hnamed hmethM hstM hkP hkPi hy (a := b) (cell := cellB) hcell
    (fun z h => by rw [h] at hobj; cases hobj) hselP hmethM habM hkP hkPi (g := g) hg (argsL := argsL) (rest := rest) (hlen _ hsigM) hstack hdg
  rcases hK m meth c ⟨T.setVm vm₁, locs, cells, slots⟩ { g with stack := rest } (.invokevirtual index) mk (Value.ref b :: argsL).toArray X₁ hg hsize hdg hW (X₁.named hnamed) (hpre vm₁ X₁.warmed) with ⟨v, B, X', hpost, hsteps⟩ | ⟨q, B, X', hpost, hsteps⟩
  · exact Or.inl ⟨v, vm₁, B, X₁.warmed, X', hpost, fun target h => hstep₁ _ fun acts => by rw [doInvoke_state]; exact hsteps.trans h⟩
  · exact Or.inr ⟨q, vm₁, B, X₁.warmed, X', hpost, hstep₁ _ fun acts => by rw [doInvoke_state]; exact hsteps⟩
theorem vx_callS (X : Stand p l e R s m args below meth c T locs cells slots) (hexec : p.tables.exec = Jvm.exec) {own : String} {index : Nat} {y : MethodName} {bytes : ByteArray} {maxL : Nat} {ret : Option FieldType}
    (hown : s.vm.findClass own = some m.cls) (hlink : (Cond.methodLink own index y).before args s = true) (hstat : (Cond.static y).before args s = true) (hinit : (Cond.initialized y.cls).before args s = true)
    (hcode : (Cond.code y bytes maxL ret).before args s = true) (hy : y.cls ≠ "java/lang/invoke/MethodHandle" ∧ y.cls ≠ "java/lang/invoke/VarHandle")
    {W9 : Nat} {Pre : Pt → Array Value → Prop} {Post : Pt → Array Value → Option Value → Pt → Prop} {PostX : Pt → Array Value → Addr → Pt → Prop} (hK : vx_Back l R p e below s args y 3 W9 Pre Post PostX)
    {g : JFrame} (hg : g.method = m) (hsize : g.locals.size = c.maxLocals) {argsL rest : List Value} (hlen : ∀ sig, parseMethodDescriptor y.desc = some sig → argsL.length = sig.parameters.length)
    (hstack : g.stack = argsL.reverse ++ rest) (hW : 2 * g.monitorRoom + (rest.map fun v => v.category).sum ≤ W9) (hdg : decode c.code g.pc = .ok (.invokestatic index, 3))
    (hpre : ∀ vm₁, s.WarmedH vm₁ → Pre ⟨T.setVm vm₁, locs, cells, slots⟩ argsL.toArray) :
    (∃ (v : Option Value) (vm₁ : Vm) (B : Pt), s.WarmedH vm₁ ∧ Stand p l e R s m args below meth c B.U B.locs B.cells B.slots ∧ Post ⟨T.setVm vm₁, locs, cells, slots⟩ argsL.toArray v B ∧
      ∀ target, Steps p.tables e below (B.U.setTop { g with pc := g.pc + 3, stack := v.toList ++ rest }) target → Steps p.tables e below (T.setTop g) target) ∨
    (∃ (q : Addr) (vm₁ : Vm) (B : Pt), s.WarmedH vm₁ ∧ Stand p l e R s m args below meth c B.U B.locs B.cells B.slots ∧ PostX ⟨T.setVm vm₁, locs, cells, slots⟩ argsL.toArray q B ∧
      Steps p.tables e below (T.setTop g) ((B.U.setTop { g with stack := rest }).pushFrame (.throwing q))) := by
  obtain ⟨mk, hnamed⟩ := Cond.code_named hcode
  obtain ⟨methM, cM, hmethM, -, -, -, -, -, -, hsigM⟩ := Cond.code_spec hnamed hcode
  have hstatic : methM.isStatic = true := Cond.static_spec hnamed hmethM hstat
  obtain ⟨kP, hkP, -⟩ := className_of_methodNamed hnamed
  have hinitP : kP.init = .initialized := Cond.initialized_spec (findClass_of_methodNamed hnamed) hkP hinit
  obtain ⟨vm₁, X₁, hstep₁⟩ := X.invokestatic hexec hown hlink hnamed hmethM hstatic hkP hinitP hy (g := g) hg (argsL := argsL) (rest := rest) (hlen _ hsigM) hstack hdg
  rcases hK m meth c ⟨T.setVm vm₁, locs, cells, slots⟩ { g with stack := rest } (.invokestatic index) mk argsL.toArray X₁ hg hsize hdg hW (X₁.named hnamed) (hpre vm₁ X₁.warmed) with ⟨v, B, X', hpost, hsteps⟩ | ⟨q, B, X', hpost, hsteps⟩
  · exact Or.inl ⟨v, vm₁, B, X₁.warmed, X', hpost, fun target h => hstep₁ _ fun acts => by rw [doInvoke_state]; exact hsteps.trans h⟩
  · exact Or.inr ⟨q, vm₁, B, X₁.warmed, X', hpost, hstep₁ _ fun acts => by rw [doInvoke_state]; exact hsteps⟩
end Calls
theorem vx_cls {s : State} {T : State} {vm₁ : Vm} {E : String} {k : ClassId} (hW : s.WarmedH vm₁) (h : (T.setVm vm₁).vm.findClass E = some k) : s.vm.findClass E = some k := by
  have h1 : vm₁.findClass E = some k := h
  rw [hW.alike.findClass] at h1
  exact h1
/-- the method's frame g, with q thrown over it -/
def vx_W (p : Program) (l : Launch) (e : Env) (R : Room) (s : State) (m : MethodId) (args : Array Value) (below : List Frame) (meth : Method) (c : Code) (H : Heap) (locs : List Loc) (cells slots : Nat) (Q : State → Prop) (g : JFrame) (q : Addr) : Prop :=
  ∀ T : State, T.heap = H → Stand p l e R s m args below meth c T locs cells slots → ∃ t, Steps p.tables e below ((T.setTop g).pushFrame (.throwing q)) t ∧ Q t
def vx_Run (p : Program) (l : Launch) (e : Env) (R : Room) (s : State) (m : MethodId) (args : Array Value) (below : List Frame) (meth : Method) (c : Code) (H : Heap) (locs : List Loc) (cells slots mc ms : Nat) (g : JFrame) (rest : List Value) (Qa : State → Outcome → State → Prop) (XC : String → State → State → Prop) (free : Addr → Prop) : Prop :=
  ∀ T : State, T.heap = H → Stand p l e R s m args below meth c T locs cells slots →
    (∃ (v : Option Value) (st₀ t T' : State) (L : List Loc), st₀.heap = H ∧ Stand p l e R s m args below meth c T' (locs ++ L) (cells + mc) (slots + ms) ∧ (∀ q ∈ L, free q.base) ∧ T'.heap = t.heap ∧ T'.vm = t.vm ∧ Qa st₀ (.returned v) t ∧
      Goes p e below T g T' { g with pc := g.pc + 3, stack := v.toList ++ rest }) ∨
    (∃ (q : Addr) (st₀ t T' : State) (L : List Loc) (E : String) (ce : Cell), st₀.heap = H ∧ Stand p l e R s m args below meth c T' (locs ++ L) (cells + mc) (slots + ms) ∧ (∀ z ∈ L, free z.base) ∧ T'.heap = t.heap ∧ T'.vm = t.vm ∧ XC E st₀ t ∧ t.heap[q]? = some ce ∧ ce.vm = .none ∧ s.vm.findClass E = some ce.cls ∧
      Steps p.tables e below (T.setTop g) ((T'.setTop { g with stack := rest }).pushFrame (.throwing q)))
def vx_X {S : Type} (px : S → Prop) (B : String → S → State → Prop) (A : Nat → Prop) : String → State → State → Prop := fun E st t => ∃ u : S, px u ∧ B E u t ∧ va_F A st t
section Runs
variable {p : Program} {l : Launch} {e : Env} {R : Room} {s : State} {m : MethodId} {args : Array Value} {below : List Frame} {meth : Method} {c : Code} {H : Heap} {locs : List Loc} {cells slots : Nat}
variable {y : MethodName} {bytes cc : ByteArray} {maxL nL mc ms n index : Nat} {ret : Option FieldType} {ws : List Cond} {rm : Room} {Pc : Array Value → State → Prop} {Qc : Array Value → State → Outcome → State → Prop} {XC : String → State → State → Prop} {free : Addr → Prop} {Ts : List Cond} {own C : String} {b : Addr} {As rest : List Value} {g : JFrame}
theorem vx_callBack (cb : CallB R s args own index y bytes maxL ret ws rm mc ms n) (hM : vx_Met l y ws rm Pc Qc XC mc ms free) (hbl : FrameBlind Pc) : vx_Back l R p e below s args y 3 8 (PreOf R mc ms Pc) (PostOf Qc mc ms free) (vx_Post XC mc ms free) := by
  obtain ⟨hrc, hrs, hfr, hlo, hws, hcw, -, hini, -⟩ := cb
  exact vx_back (bytes := bytes) (maxL := maxL) (ret := ret) hM hbl hrc hrs hfr hlo hws hcw (fun a' U hW => word_at hW (Or.inl (by first | rfl | simp [Cond.onTables, Cond.keeps, Cond.steady])) hini)
theorem vx_runV (S : CallFix p m c cc nL s args Ts own) (hM : vx_Met l y ws rm Pc Qc XC mc ms free) (cw : CallW R s args own C index y bytes maxL ret ws rm mc ms n) (hp : PreV s H C b Pc As)
    (hg : g.method = m) (hn : As.length = n) (hsize : g.locals.size = nL) (hstack : g.stack = As.reverse ++ .ref b :: rest) (hW : 2 * g.monitorRoom + (rest.map fun v => v.category).sum ≤ 8) (hdg : decode cc g.pc = .ok (.invokevirtual index, 3)) (hf : cells + mc ≤ R.cells ∧ slots + ms ≤ R.slots) :
    vx_Run p l e R s m args below meth c H locs cells slots mc ms g rest (Qc (Value.ref b :: As).toArray) XC free := by
  have hK : vx_Back l R p e below s args y 3 8 (PreOf R mc ms Pc) (PostOf Qc mc ms free) (vx_Post XC mc ms free) := vx_callBack cw.1 hM hp.1
  obtain ⟨⟨-, -, -, -, -, -, hcode, -, hy, hlen, hl⟩, hin, hse⟩ := cw
  obtain ⟨hx, hb, hml, ho, -⟩ := S
  obtain ⟨-, ⟨cellB, hcB, hoB, hclB⟩, hPc⟩ := hp
  intro T hT X
  rcases vx_callV X hx (C := C) (bytes := bytes) (maxL := maxL) (ret := ret) ho hl hin hse hcode hy hK (by rw [hT]; exact hcB) hoB hclB hg (hsize.trans hml.symm) (argsL := As) (rest := rest) (fun sig h => hn.trans (hlen sig h)) hstack hW (by rw [hb]; exact hdg)
    (fun vm₁ hW₁ => ⟨hf.1, hf.2, hPc (T.setVm vm₁) hT hW₁⟩) with ⟨v, vm₁, ⟨U', l2, c2, s2⟩, hW₁, X', ⟨g', mk, t, L, e1, e2, hq, h1, hL, h2, h3⟩, st⟩ | ⟨q, vm₁, ⟨U', l2, c2, s2⟩, hW₁, X', ⟨g', mk, t, L, E, ce, e1, e2, hq, hce, hcv, hcl, h1, hL, h2, h3⟩, st⟩
  · dsimp only [Pt.U, Pt.locs, Pt.cells, Pt.slots] at X' e1 e2 h1 h2 h3 st
    subst h1; subst h2; subst h3
    exact Or.inl ⟨v, (T.setVm vm₁).calling g' mk (Value.ref b :: As).toArray, t, U', L, hT, X', hL, e1, e2, hq, st⟩
  · dsimp only [Pt.U, Pt.locs, Pt.cells, Pt.slots] at X' e1 e2 h1 h2 h3 st hcl
    subst h1; subst h2; subst h3
    exact Or.inr ⟨q, (T.setVm vm₁).calling g' mk (Value.ref b :: As).toArray, t, U', L, E, ce, hT, X', hL, e1, e2, hq, hce, hcv, vx_cls hW₁ hcl, st⟩
theorem vx_runS (S : CallFix p m c cc nL s args Ts own) (hM : vx_Met l y ws rm Pc Qc XC mc ms free) (cw : CallB R s args own index y bytes maxL ret ws rm mc ms n ∧ (Cond.static y).before args s = true) (hp : PreS s H Pc As)
    (hg : g.method = m) (hn : As.length = n) (hsize : g.locals.size = nL) (hstack : g.stack = As.reverse ++ rest) (hW : 2 * g.monitorRoom + (rest.map fun v => v.category).sum ≤ 8) (hdg : decode cc g.pc = .ok (.invokestatic index, 3)) (hf : cells + mc ≤ R.cells ∧ slots + ms ≤ R.slots) :
    vx_Run p l e R s m args below meth c H locs cells slots mc ms g rest (Qc As.toArray) XC free := by
  have hK : vx_Back l R p e below s args y 3 8 (PreOf R mc ms Pc) (PostOf Qc mc ms free) (vx_Post XC mc ms free) := vx_callBack cw.1 hM hp.1
  obtain ⟨⟨-, -, -, -, -, -, hcode, hini, hy, hlen, hl⟩, hstt⟩ := cw
  obtain ⟨hx, hb, hml, ho, -⟩ := S
  intro T hT X
  rcases vx_callS X hx (bytes := bytes) (maxL := maxL) (ret := ret) ho hl hstt hini hcode hy hK hg (hsize.trans hml.symm) (argsL := As) (rest := rest) (fun sig h => hn.trans (hlen sig h)) hstack hW (by rw [hb]; exact hdg)
    (fun vm₁ hW₁ => ⟨hf.1, hf.2, hp.2 (T.setVm vm₁) hT hW₁⟩) with ⟨v, vm₁, ⟨U', l2, c2, s2⟩, hW₁, X', ⟨g', mk, t, L, e1, e2, hq, h1, hL, h2, h3⟩, st⟩ | ⟨q, vm₁, ⟨U', l2, c2, s2⟩, hW₁, X', ⟨g', mk, t, L, E, ce, e1, e2, hq, hce, hcv, hcl, h1, hL, h2, h3⟩, st⟩
  · dsimp only [Pt.U, Pt.locs, Pt.cells, Pt.slots] at X' e1 e2 h1 h2 h3 st
    subst h1; subst h2; subst h3
    exact Or.inl ⟨v, (T.setVm vm₁).calling g' mk As.toArray, t, U', L, hT, X', hL, e1, e2, hq, st⟩
  · dsimp only [Pt.U, Pt.locs, Pt.cells, Pt.slots] at X' e1 e2 h1 h2 h3 st hcl
    subst h1; subst h2; subst h3
    exact Or.inr ⟨q, (T.setVm vm₁).calling g' mk As.toArray, t, U', L, E, ce, hT, X', hL, e1, e2, hq, hce, hcv, vx_cls hW₁ hcl, st⟩
end Runs
section Rows
variable {p : Program} {l : Launch} {e : Env} {R : Room} {s : State} {m : MethodId} {args : Array Value} {below : List Frame} {meth : Method} {c : Code} {H : Heap} {locs : List Loc} {cells slots : Nat} {Q : State → Prop}
variable {mc ms : Nat} {free : Addr → Prop} {A0 A1 : Nat → Prop} {H0 : Heap} {a : Array Value} {pc : Nat} {ls : Array Slot} {st0 rest : List Value}
theorem vx_keep {st₀ t T' : State} {L : List Loc} (h0 : st₀.heap = H) (e1 : T'.heap = t.heap) (hS : va_S A0 H0 H locs) (hA : ∀ q, q < H.size → A1 q → A0 q) (hf : ∀ q, free q → A0 q) (hL : ∀ q ∈ L, free q.base) (hF : va_F A1 st₀ t) :
    H.size ≤ T'.heap.size ∧ (∀ q : Nat, q < H.size → ¬ A1 q → T'.heap[q]? = H[q]?) ∧ va_S A0 H0 T'.heap (locs ++ L) := by
  obtain ⟨hz, hk⟩ := hF
  rw [h0] at hz hk
  exact ⟨by rw [e1]; exact hz, fun q h1 h2 => by rw [e1]; exact hk q h1 h2,
    ⟨Nat.le_trans hS.1 (by rw [e1]; exact hz), fun q h1 h2 => by rw [e1, hk q (Nat.lt_of_lt_of_le h1 hS.1) (fun z => h2 (hA q (Nat.lt_of_lt_of_le h1 hS.1) z))]; exact hS.2.1 q h1 h2, fun q hq => by
      rcases List.mem_append.mp hq with h | h
      · exact hS.2.2 q h
      · exact hf _ (hL q h)⟩⟩
theorem vx_calli {S SX : Type} {post : Int32 → S → Prop} {px : SX → Prop} {B : S → State → Prop} {BX : String → SX → State → Prop} {AX : Nat → Prop} (hr : vx_Run p l e R s m args below meth c H locs cells slots mc ms (F0 m pc ls st0) rest (va_Qi post B A1 a) (vx_X px BX AX) free) (hS : va_S A0 H0 H locs) (hA : ∀ q, q < H.size → A1 q → A0 q) (hf : ∀ q, free q → A0 q) (hAX : ∀ q, q < H.size → AX q → A0 q)
    (kx : ∀ (E : String) (ce : Cell) (q9 : Addr) (u : SX) (t : State) (H1 : Heap) (locs1 : List Loc), t.heap = H1 → s.vm.Alike t.vm → px u → BX E u t → H.size ≤ H1.size → (∀ q : Nat, q < H.size → ¬ AX q → H1[q]? = H[q]?) → va_S A0 H0 H1 locs1 → H1[q9]? = some ce → ce.vm = .none → s.vm.findClass E = some ce.cls → vx_W p l e R s m args below meth c H1 locs1 (cells + mc) (slots + ms) Q (F0 m pc ls rest) q9)
    (kk : ∀ (r : Int32) (u : S) (t : State) (H1 : Heap) (locs1 : List Loc), t.heap = H1 → s.vm.Alike t.vm → post r u → B u t → H.size ≤ H1.size → (∀ q : Nat, q < H.size → ¬ A1 q → H1[q]? = H[q]?) → va_S A0 H0 H1 locs1 → W p l e R s m args below meth c H1 locs1 (cells + mc) (slots + ms) Q (F0 m (pc + 3) ls (.int r :: rest))) : W p l e R s m args below meth c H locs cells slots Q (F0 m pc ls st0) := by
  intro T hT X
  rcases hr T hT X with ⟨v, st₀, t, T', L, h0, X', hL, e1, e2, ⟨⟨r, u, hv, hp, hb⟩, hF⟩, st⟩ | ⟨q, st₀, t, T', L, E, ce, h0, X', hL, e1, e2, ⟨u, hp, hb, hF⟩, hce, hcv, hcl, st⟩
  · cases hv
    obtain ⟨k1, k2, k3⟩ := vx_keep h0 e1 hS hA hf hL hF
    obtain ⟨t2, a1, b1⟩ := kk r u t T'.heap (locs ++ L) e1.symm (by rw [← e2]; exact X'.warmed.alike) hp hb k1 k2 k3 T' rfl X'
    exact ⟨t2, st t2 a1, b1⟩
  · obtain ⟨k1, k2, k3⟩ := vx_keep h0 e1 hS hAX hf hL hF
    obtain ⟨t2, a1, b1⟩ := kx E ce q u t T'.heap (locs ++ L) e1.symm (by rw [← e2]; exact X'.warmed.alike) hp hb k1 k2 k3 (by rw [e1]; exact hce) hcv hcl T' rfl X'
    exact ⟨t2, st.trans a1, b1⟩
theorem vx_calll {S SX : Type} {post : Int64 → S → Prop} {px : SX → Prop} {B : S → State → Prop} {BX : String → SX → State → Prop} {AX : Nat → Prop} (hr : vx_Run p l e R s m args below meth c H locs cells slots mc ms (F0 m pc ls st0) rest (va_Ql post B A1 a) (vx_X px BX AX) free) (hS : va_S A0 H0 H locs) (hA : ∀ q, q < H.size → A1 q → A0 q) (hf : ∀ q, free q → A0 q) (hAX : ∀ q, q < H.size → AX q → A0 q)
    (kx : ∀ (E : String) (ce : Cell) (q9 : Addr) (u : SX) (t : State) (H1 : Heap) (locs1 : List Loc), t.heap = H1 → s.vm.Alike t.vm → px u → BX E u t → H.size ≤ H1.size → (∀ q : Nat, q < H.size → ¬ AX q → H1[q]? = H[q]?) → va_S A0 H0 H1 locs1 → H1[q9]? = some ce → ce.vm = .none → s.vm.findClass E = some ce.cls → vx_W p l e R s m args below meth c H1 locs1 (cells + mc) (slots + ms) Q (F0 m pc ls rest) q9)
    (kk : ∀ (r : Int64) (u : S) (t : State) (H1 : Heap) (locs1 : List Loc), t.heap = H1 → s.vm.Alike t.vm → post r u → B u t → H.size ≤ H1.size → (∀ q : Nat, q < H.size → ¬ A1 q → H1[q]? = H[q]?) → va_S A0 H0 H1 locs1 → W p l e R s m args below meth c H1 locs1 (cells + mc) (slots + ms) Q (F0 m (pc + 3) ls (.long r :: rest))) : W p l e R s m args below meth c H locs cells slots Q (F0 m pc ls st0) := by
  intro T hT X
  rcases hr T hT X with ⟨v, st₀, t, T', L, h0, X', hL, e1, e2, ⟨⟨r, u, hv, hp, hb⟩, hF⟩, st⟩ | ⟨q, st₀, t, T', L, E, ce, h0, X', hL, e1, e2, ⟨u, hp, hb, hF⟩, hce, hcv, hcl, st⟩
  · cases hv
    obtain ⟨k1, k2, k3⟩ := vx_keep h0 e1 hS hA hf hL hF
    obtain ⟨t2, a1, b1⟩ := kk r u t T'.heap (locs ++ L) e1.symm (by rw [← e2]; exact X'.warmed.alike) hp hb k1 k2 k3 T' rfl X'
    exact ⟨t2, st t2 a1, b1⟩
  · obtain ⟨k1, k2, k3⟩ := vx_keep h0 e1 hS hAX hf hL hF
    obtain ⟨t2, a1, b1⟩ := kx E ce q u t T'.heap (locs ++ L) e1.symm (by rw [← e2]; exact X'.warmed.alike) hp hb k1 k2 k3 (by rw [e1]; exact hce) hcv hcl T' rfl X'
    exact ⟨t2, st.trans a1, b1⟩
theorem vx_callf {S SX : Type} {post : UInt32 → S → Prop} {px : SX → Prop} {B : S → State → Prop} {BX : String → SX → State → Prop} {AX : Nat → Prop} (hr : vx_Run p l e R s m args below meth c H locs cells slots mc ms (F0 m pc ls st0) rest (va_Qf post B A1 a) (vx_X px BX AX) free) (hS : va_S A0 H0 H locs) (hA : ∀ q, q < H.size → A1 q → A0 q) (hf : ∀ q, free q → A0 q) (hAX : ∀ q, q < H.size → AX q → A0 q)
    (kx : ∀ (E : String) (ce : Cell) (q9 : Addr) (u : SX) (t : State) (H1 : Heap) (locs1 : List Loc), t.heap = H1 → s.vm.Alike t.vm → px u → BX E u t → H.size ≤ H1.size → (∀ q : Nat, q < H.size → ¬ AX q → H1[q]? = H[q]?) → va_S A0 H0 H1 locs1 → H1[q9]? = some ce → ce.vm = .none → s.vm.findClass E = some ce.cls → vx_W p l e R s m args below meth c H1 locs1 (cells + mc) (slots + ms) Q (F0 m pc ls rest) q9)
    (kk : ∀ (r : UInt32) (u : S) (t : State) (H1 : Heap) (locs1 : List Loc), t.heap = H1 → s.vm.Alike t.vm → post r u → B u t → H.size ≤ H1.size → (∀ q : Nat, q < H.size → ¬ A1 q → H1[q]? = H[q]?) → va_S A0 H0 H1 locs1 → W p l e R s m args below meth c H1 locs1 (cells + mc) (slots + ms) Q (F0 m (pc + 3) ls (.float r :: rest))) : W p l e R s m args below meth c H locs cells slots Q (F0 m pc ls st0) := by
  intro T hT X
  rcases hr T hT X with ⟨v, st₀, t, T', L, h0, X', hL, e1, e2, ⟨⟨r, u, hv, hp, hb⟩, hF⟩, st⟩ | ⟨q, st₀, t, T', L, E, ce, h0, X', hL, e1, e2, ⟨u, hp, hb, hF⟩, hce, hcv, hcl, st⟩
  · cases hv
    obtain ⟨k1, k2, k3⟩ := vx_keep h0 e1 hS hA hf hL hF
    obtain ⟨t2, a1, b1⟩ := kk r u t T'.heap (locs ++ L) e1.symm (by rw [← e2]; exact X'.warmed.alike) hp hb k1 k2 k3 T' rfl X'
    exact ⟨t2, st t2 a1, b1⟩
  · obtain ⟨k1, k2, k3⟩ := vx_keep h0 e1 hS hAX hf hL hF
    obtain ⟨t2, a1, b1⟩ := kx E ce q u t T'.heap (locs ++ L) e1.symm (by rw [← e2]; exact X'.warmed.alike) hp hb k1 k2 k3 (by rw [e1]; exact hce) hcv hcl T' rfl X'
    exact ⟨t2, st.trans a1, b1⟩
theorem vx_calld {S SX : Type} {post : UInt64 → S → Prop} {px : SX → Prop} {B : S → State → Prop} {BX : String → SX → State → Prop} {AX : Nat → Prop} (hr : vx_Run p l e R s m args below meth c H locs cells slots mc ms (F0 m pc ls st0) rest (va_Qd post B A1 a) (vx_X px BX AX) free) (hS : va_S A0 H0 H locs) (hA : ∀ q, q < H.size → A1 q → A0 q) (hf : ∀ q, free q → A0 q) (hAX : ∀ q, q < H.size → AX q → A0 q)
    (kx : ∀ (E : String) (ce : Cell) (q9 : Addr) (u : SX) (t : State) (H1 : Heap) (locs1 : List Loc), t.heap = H1 → s.vm.Alike t.vm → px u → BX E u t → H.size ≤ H1.size → (∀ q : Nat, q < H.size → ¬ AX q → H1[q]? = H[q]?) → va_S A0 H0 H1 locs1 → H1[q9]? = some ce → ce.vm = .none → s.vm.findClass E = some ce.cls → vx_W p l e R s m args below meth c H1 locs1 (cells + mc) (slots + ms) Q (F0 m pc ls rest) q9)
    (kk : ∀ (r : UInt64) (u : S) (t : State) (H1 : Heap) (locs1 : List Loc), t.heap = H1 → s.vm.Alike t.vm → post r u → B u t → H.size ≤ H1.size → (∀ q : Nat, q < H.size → ¬ A1 q → H1[q]? = H[q]?) → va_S A0 H0 H1 locs1 → W p l e R s m args below meth c H1 locs1 (cells + mc) (slots + ms) Q (F0 m (pc + 3) ls (.double r :: rest))) : W p l e R s m args below meth c H locs cells slots Q (F0 m pc ls st0) := by
  intro T hT X
  rcases hr T hT X with ⟨v, st₀, t, T', L, h0, X', hL, e1, e2, ⟨⟨r, u, hv, hp, hb⟩, hF⟩, st⟩ | ⟨q, st₀, t, T', L, E, ce, h0, X', hL, e1, e2, ⟨u, hp, hb, hF⟩, hce, hcv, hcl, st⟩
  · cases hv
    obtain ⟨k1, k2, k3⟩ := vx_keep h0 e1 hS hA hf hL hF
    obtain ⟨t2, a1, b1⟩ := kk r u t T'.heap (locs ++ L) e1.symm (by rw [← e2]; exact X'.warmed.alike) hp hb k1 k2 k3 T' rfl X'
    exact ⟨t2, st t2 a1, b1⟩
  · obtain ⟨k1, k2, k3⟩ := vx_keep h0 e1 hS hAX hf hL hF
    obtain ⟨t2, a1, b1⟩ := kx E ce q u t T'.heap (locs ++ L) e1.symm (by rw [← e2]; exact X'.warmed.alike) hp hb k1 k2 k3 (by rw [e1]; exact hce) hcv hcl T' rfl X'
    exact ⟨t2, st.trans a1, b1⟩
theorem vx_callv {S SX : Type} {post : S → Prop} {px : SX → Prop} {B : S → State → Prop} {BX : String → SX → State → Prop} {AX : Nat → Prop} (hr : vx_Run p l e R s m args below meth c H locs cells slots mc ms (F0 m pc ls st0) rest (va_Qv post B A1 a) (vx_X px BX AX) free) (hS : va_S A0 H0 H locs) (hA : ∀ q, q < H.size → A1 q → A0 q) (hf : ∀ q, free q → A0 q) (hAX : ∀ q, q < H.size → AX q → A0 q)
    (kx : ∀ (E : String) (ce : Cell) (q9 : Addr) (u : SX) (t : State) (H1 : Heap) (locs1 : List Loc), t.heap = H1 → s.vm.Alike t.vm → px u → BX E u t → H.size ≤ H1.size → (∀ q : Nat, q < H.size → ¬ AX q → H1[q]? = H[q]?) → va_S A0 H0 H1 locs1 → H1[q9]? = some ce → ce.vm = .none → s.vm.findClass E = some ce.cls → vx_W p l e R s m args below meth c H1 locs1 (cells + mc) (slots + ms) Q (F0 m pc ls rest) q9)
    (kk : ∀ (u : S) (t : State) (H1 : Heap) (locs1 : List Loc), t.heap = H1 → s.vm.Alike t.vm → post u → B u t → H.size ≤ H1.size → (∀ q : Nat, q < H.size → ¬ A1 q → H1[q]? = H[q]?) → va_S A0 H0 H1 locs1 → W p l e R s m args below meth c H1 locs1 (cells + mc) (slots + ms) Q (F0 m (pc + 3) ls (rest))) : W p l e R s m args below meth c H locs cells slots Q (F0 m pc ls st0) := by
  intro T hT X
  rcases hr T hT X with ⟨v, st₀, t, T', L, h0, X', hL, e1, e2, ⟨⟨u, hv, hp, hb⟩, hF⟩, st⟩ | ⟨q, st₀, t, T', L, E, ce, h0, X', hL, e1, e2, ⟨u, hp, hb, hF⟩, hce, hcv, hcl, st⟩
  · cases hv
    obtain ⟨k1, k2, k3⟩ := vx_keep h0 e1 hS hA hf hL hF
    obtain ⟨t2, a1, b1⟩ := kk u t T'.heap (locs ++ L) e1.symm (by rw [← e2]; exact X'.warmed.alike) hp hb k1 k2 k3 T' rfl X'
    exact ⟨t2, st t2 a1, b1⟩
  · obtain ⟨k1, k2, k3⟩ := vx_keep h0 e1 hS hAX hf hL hF
    obtain ⟨t2, a1, b1⟩ := kx E ce q u t T'.heap (locs ++ L) e1.symm (by rw [← e2]; exact X'.warmed.alike) hp hb k1 k2 k3 (by rw [e1]; exact hce) hcv hcl T' rfl X'
    exact ⟨t2, st.trans a1, b1⟩
/-- caught by the row x of this method's table; the rows ahead don't take it -/
theorem vx_catch {own name : String} {E : String} {ce : Cell} {q : Addr} (hown : s.vm.findClass own = some m.cls) (pre : List ExceptionTableEntry) (x : ExceptionTableEntry) (suf : List ExceptionTableEntry) (hsplit : c.exceptionTable.toList = pre ++ x :: suf)
    (hpass : ∀ z ∈ pre, covers z pc = false ∨ (z.catchType ≠ 0 ∧ ∃ nm : String, (Cond.classLink own z.catchType nm).before args s = true ∧ va_Nc E nm s)) (hx : covers x pc = true) (h0 : x.catchType ≠ 0)
    (hlink : (Cond.classLink own x.catchType name).before args s = true) (hcast : (Cond.castable E name).before args s = true) (hcell : H[q]? = some ce) (hv : ce.vm = .none) (hcl : s.vm.findClass E = some ce.cls)
    (kk : W p l e R s m args below meth c H locs cells slots Q (F0 m x.handlerPc ls [.ref q])) : vx_W p l e R s m args below meth c H locs cells slots Q (F0 m pc ls rest) q := by
  intro T hT X
  have hpl : e.platform.magicAccessors = ({} : Platform).magicAccessors := by rw [X.admits.platform]
  obtain ⟨c3, c4, hc3, hc4, hasg⟩ := Cond.castable_spec hcast
  cases Option.some.inj (hc3.symm.trans hcl)
  obtain ⟨c5, hc5, hcl5⟩ := Cond.classLink_spec hown hlink e.platform hpl
  cases Option.some.inj (hc4.symm.trans hc5)
  obtain ⟨vm', X', st⟩ := X.thenCaughtThrough q (g := F0 m pc ls rest) rfl (Steps.refl _) (by rw [hT]; exact hcell) (by rw [hv]; rfl) (by obtain ⟨k9, h9, -⟩ := Vm.findClass_spec hcl; exact ⟨k9, h9⟩) pre x suf hsplit
    (fun z hz => by
      rcases hpass z hz with h | ⟨hz0, nm, hl1, hn1⟩
      · exact Or.inl h
      · obtain ⟨c6, hc6, hcl6⟩ := Cond.classLink_spec hown hl1 e.platform hpl
        obtain ⟨a8, b8, h1, h2, h3⟩ := hn1
        cases Option.some.inj (h1.symm.trans hcl)
        cases Option.some.inj (h2.symm.trans hc6)
        exact Or.inr ⟨hz0, _, hcl6, h3⟩) hx (Or.inr ⟨h0, c4, hcl5, hasg⟩)
  obtain ⟨t, a1, b1⟩ := kk (T.setVm vm') hT X'
  exact ⟨t, st.trans a1, b1⟩
end Rows
section Ends
variable {p : Program} {l : Launch} {e : Env} {R : Room} {s : State} {m : MethodId} {args : Array Value} {below : List Frame} {meth : Method} {c : Code} {H : Heap} {locs : List Loc} {cells slots : Nat} {Q : State → Prop}
variable {mc ms : Nat} {free : Addr → Prop} {A0 A1 : Nat → Prop} {H0 : Heap} {a : Array Value} {ls : Array Slot} {st0 rest : List Value}
variable {Qc : Array Value → State → Outcome → State → Prop} {XC : String → State → State → Prop}
/-- what a body that may throw owes at its end -/
def vx_MQ (below : List Frame) (Qc : Array Value → State → Outcome → State → Prop) (XC : String → State → State → Prop) (a : Array Value) (s : State) (mc ms : Nat) (free : Addr → Prop) : State → Prop := fun t =>
  ∃ o, t.status = .running ∧ Ended t below o ∧ vx_Q Qc XC mc ms free a s o t
theorem vx_ret {g : JFrame} {mc ms : Nat} (k : W p l e R s m args below meth c H locs cells slots (MQ below Qc args s mc ms free) g) : W p l e R s m args below meth c H locs cells slots (vx_MQ below Qc XC args s mc ms free) g := by
  intro T hT X
  obtain ⟨t, a1, o, b1, b2, b3, b4⟩ := k T hT X
  exact ⟨t, a1, o, b1, b2, Or.inl ⟨b3, b4⟩⟩
/-- not caught here: it goes on to the caller -/
theorem vx_widen {g : JFrame} {q : Addr} {k n : Nat} (h1 : cells ≤ k) (h2 : slots ≤ n) (kk : vx_W p l e R s m args below meth c H locs k n Q g q) : vx_W p l e R s m args below meth c H locs cells slots Q g q := fun T hT X => kk T hT (stand_widen X h1 h2)
theorem vx_out {pc : Nat} {E : String} {ce : Cell} {q : Addr} {mc ms : Nat} (hout : ∀ x ∈ c.exceptionTable.toList, covers x pc = false) (hlocks : meth.locks = false) (hcell : H[q]? = some ce) (hv : ce.vm = .none) (hcl : s.vm.findClass E = some ce.cls)
    (hx : ∀ t : State, t.heap = H → s.vm.Alike t.vm → XC E s t) (hf : ∀ z ∈ locs, free z.base) (hc : cells ≤ mc) (hs : slots ≤ ms) :
    vx_W p l e R s m args below meth c H locs cells slots (vx_MQ below Qc XC args s mc ms free) (F0 m pc ls rest) q := by
  intro T hT X
  obtain ⟨st1, hrun, hend, hW, hsm⟩ := X.leaveThrown q (g := F0 m pc ls rest) rfl rfl rfl hout hlocks
  have hcell9 : (T.setFrames (.throwing q :: below)).heap[q]? = some ce := by
    show T.heap[q]? = some ce
    rw [hT]; exact hcell
  exact ⟨_, st1, .threw q, hrun, hend, Or.inr ⟨q, rfl, E, ce, locs, hx _ hT hW.alike, hcell9, hv, hcl, hW, hsm.mono hc hs, hf⟩⟩
theorem vx_frame {U : State} {k n : Nat} (h : s.sameButNew ({ U with vm := s.vm } : State) locs k n) : s.heap.size ≤ U.heap.size ∧ ∀ q : Nat, q < s.heap.size → (∀ z ∈ locs, z.base ≠ q) → U.heap[q]? = s.heap[q]? := by
  obtain ⟨-, h2, -, -, -, h6⟩ := h
  refine ⟨h2, fun q hq hz => ?_⟩
  obtain ⟨c9, e1, e2, e3, e4⟩ := h6 q _ (Array.getElem?_eq_getElem hq)
  have hs : c9.slots = (s.heap[q]).slots := Array.ext_getElem? fun i => e4 i fun hm => hz _ hm rfl
  have h9 : c9 = s.heap[q] := by
    rw [hs] at e2
    exact e2
  have e5 : U.heap[q]? = some c9 := e1
  rw [e5, h9, Array.getElem?_eq_getElem hq]
/-- the words of a throw but the four that speak of the heap -/
def vx_no (w : Cond) : Bool := decide (w ≠ .isRef (.static Bundle.tN "UNASSIGNED_STACK" Bundle.steD)) && decide (w ≠ .isRef (.static Bundle.tN "SUPPRESSED_SENTINEL" Bundle.listD)) && decide (w ≠ .laysStatic Bundle.tN "UNASSIGNED_STACK" Bundle.steD) && decide (w ≠ .laysStatic Bundle.tN "SUPPRESSED_SENTINEL" Bundle.listD)
def vx_at0 (own : String) (ic : Nat) (X : String) (names : List String) : List Cond := (Bundle.ownAtoms0 own ic X names).filter vx_no
def vx_atS (own : String) (ic : Nat) (X : String) (names : List String) : List Cond := (Bundle.ownAtoms own ic X names).filter vx_no
/-- a word that the tables alone decide, or a good one -/
def vx_ot (w : Cond) : Bool := w.onTables || goodWord w
theorem vx_ot_at {args a' : Array Value} {s U : State} {w : Cond} (hW : s.WarmedH U.vm) (hvm : s.vm = U.vm) (hg : vx_ot w = true) (h : w.before args s = true) : w.before a' U = true := by
  simp only [vx_ot, Bool.or_eq_true] at hg
  rcases hg with hg | hg
  · exact va_tabs hg hvm h
  · exact word_at hW (good_of_word hg) h
/-- a list's words: the good ones out of the method's own list, the others by premises of their own -/
theorem vx_hat {args : Array Value} {s : State} {L B : List Cond} (h1 : ∀ w ∈ L.filter goodWord, w.before args s = true) (h2 : ∀ w ∈ L.filter (fun w => !goodWord w), w ∈ B) (h3 : ∀ w ∈ B, w.before args s = true) : ∀ w ∈ L, w.before args s = true := by
  intro w hw
  by_cases g : goodWord w = true
  · exact h1 w (List.mem_filter.mpr ⟨hw, g⟩)
  · refine h3 w (h2 w (List.mem_filter.mpr ⟨hw, ?_⟩))
    show (!goodWord w) = true
    cases hgw : goodWord w
    · rfl
    · exact absurd hgw g
theorem vx_c {args : Array Value} {s : State} {w : Cond} {B : List Cond} (h : w.before args s = true) (t : ∀ w ∈ B, w.before args s = true) : ∀ w' ∈ w :: B, w'.before args s = true := fun w' h' => (List.mem_cons.mp h').elim (fun e => by rw [e]; exact h) (t w')
theorem vx_n {args : Array Value} {s : State} : ∀ w ∈ ([] : List Cond), w.before args s = true := fun _ h => nomatch h
theorem vx_own {args : Array Value} {s : State} {L : List Cond} (h1 : ∀ w ∈ L.filter vx_no, w.before args s = true)
    (hU : (Cond.isRef (.static Bundle.tN "UNASSIGNED_STACK" Bundle.steD)).before args s = true) (hN : (Cond.isRef (.static Bundle.tN "SUPPRESSED_SENTINEL" Bundle.listD)).before args s = true)
    (lU : (Cond.laysStatic Bundle.tN "UNASSIGNED_STACK" Bundle.steD).before args s = true) (lN : (Cond.laysStatic Bundle.tN "SUPPRESSED_SENTINEL" Bundle.listD).before args s = true) : ∀ w ∈ L, w.before args s = true := by
  intro w hw
  by_cases e1 : w = .isRef (.static Bundle.tN "UNASSIGNED_STACK" Bundle.steD)
  · rw [e1]; exact hU
  · by_cases e2 : w = .isRef (.static Bundle.tN "SUPPRESSED_SENTINEL" Bundle.listD)
    · rw [e2]; exact hN
    · by_cases e3 : w = .laysStatic Bundle.tN "UNASSIGNED_STACK" Bundle.steD
      · rw [e3]; exact lU
      · by_cases e4 : w = .laysStatic Bundle.tN "SUPPRESSED_SENTINEL" Bundle.listD
        · rw [e4]; exact lN
        · exact h1 w (List.mem_filter.mpr ⟨hw, by unfold vx_no; rw [decide_eq_true e1, decide_eq_true e2, decide_eq_true e3, decide_eq_true e4]; rfl⟩)
/-- where a static field lies, its class's statics cell in H -/
def vx_L (C n d : String) (A : Nat → Prop) (U : State) (H : Heap) : Prop := ∃ (c : ClassId) (k : Class) (i : Nat) (f : Field) (a : Nat) (cell : Cell), U.vm.findClass C = some c ∧ U.fieldFound? C n d = some (c, k, i, f) ∧ f.isStatic = true ∧ k.statics = some a ∧ H[a]? = some cell ∧ cell.vm.isStatics = true ∧ cell.cls = c ∧ f.slot < cell.slots.size ∧ k.staticTypes[f.slot]? = some f.type ∧ ¬ A a
theorem vx_L.moved {C n d : String} {A : Nat → Prop} {u U : State} {H : Heap} (hvm : u.vm.Alike U.vm) (h : vx_L C n d A u H) : vx_L C n d A U H := by
  obtain ⟨c, k, i, f, a, cell, h1, h2, h3, h4, h5, h6, h7, h8, h9, h10⟩ := h
  obtain ⟨k', hi', he⟩ := State.fieldFound?_setVm hvm h2
  exact ⟨c, k', i, f, a, cell, by rw [hvm.findClass]; exact h1, hi', h3, by rw [he]; exact h4, h5, h6, h7, h8, by rw [he]; exact h9, h10⟩
theorem vx_L.kept {C n d : String} {A : Nat → Prop} {U : State} {H H1 : Heap} (h : vx_L C n d A U H) (hq : ∀ a : Nat, a < H.size → ¬ A a → H1[a]? = H[a]?) : vx_L C n d A U H1 := by
  obtain ⟨c, k, i, f, a, cell, h1, h2, h3, h4, h5, h6, h7, h8, h9, h10⟩ := h
  exact ⟨c, k, i, f, a, cell, h1, h2, h3, h4, by rw [hq a (Array.getElem?_eq_some_iff.mp h5).1 h10]; exact h5, h6, h7, h8, h9, h10⟩
theorem vx_L.narrow {C n d : String} {A B : Nat → Prop} {U : State} {H : Heap} (h : vx_L C n d A U H) (hAB : ∀ q, B q → A q) : vx_L C n d B U H := by
  obtain ⟨c, k, i, f, a, cell, h1, h2, h3, h4, h5, h6, h7, h8, h9, h10⟩ := h
  exact ⟨c, k, i, f, a, cell, h1, h2, h3, h4, h5, h6, h7, h8, h9, fun z => h10 (hAB _ z)⟩
theorem vx_L.word {C n d : String} {A : Nat → Prop} {s : State} {args : Array Value} (h : vx_L C n d A s s.heap) : (Cond.laysStatic C n d).before args s = true := by
  obtain ⟨c, k, i, f, a, cell, h1, h2, h3, h4, h5, h6, h7, h8, h9, -⟩ := h
  show (Cond.laysStatic C n d).holds args s none s [] = true
  exact Cond.laysStatic_of h1 h2 h3 h4 h5 h6 h7 h8 h9
/-- .. and what it holds: null or some reference -/
def vx_Zq (C n d : String) (A : Nat → Prop) (U : State) (H : Heap) : Prop := va_Zq C n d A U H ∧ vx_L C n d A U H
theorem vx_Zq.moved {C n d : String} {A : Nat → Prop} {u U : State} {H : Heap} (hvm : u.vm.Alike U.vm) (h : vx_Zq C n d A u H) : vx_Zq C n d A U H := ⟨va_Zq.moved hvm h.1, vx_L.moved hvm h.2⟩
theorem vx_Zq.kept {C n d : String} {A : Nat → Prop} {U : State} {H H1 : Heap} (h : vx_Zq C n d A U H) (hq : ∀ a : Nat, a < H.size → ¬ A a → H1[a]? = H[a]?) : vx_Zq C n d A U H1 := ⟨va_Zq.kept h.1 hq, vx_L.kept h.2 hq⟩
theorem vx_Zq.narrow {C n d : String} {A B : Nat → Prop} {U : State} {H : Heap} (h : vx_Zq C n d A U H) (hAB : ∀ q, B q → A q) : vx_Zq C n d B U H := ⟨va_Zq.narrow h.1 hAB, vx_L.narrow h.2 hAB⟩
theorem vx_Zqof {args : Array Value} {s : State} {C n d : String} {A : Nat → Prop} (hl : (Cond.laysStatic C n d).before args s = true) (hini : (Cond.initialized C).before args s = true) (h : (Cond.isRef (.static C n d)).before args s = true) (hA : ∀ a : Nat, a < s.heap.size → ¬ A a) : vx_Zq C n d A s s.heap := by
  refine ⟨va_Zqof hl hini h hA, ?_⟩
  obtain ⟨c, k, i, f, a, cell, h1, h2, h3, h4, h5, h6, h7, h8, h9⟩ := Cond.laysStatic_spec hl
  exact ⟨c, k, i, f, a, cell, h1, h2, h3, h4, h5, h6, h7, h8, h9, hA a (Array.getElem?_eq_some_iff.mp h5).1⟩
theorem vx_isRef {C n d : String} {v : Value} {A : Nat → Prop} {s : State} {args : Array Value} (h : va_Z C n d v A s s.heap) (hv : v.isRef = true) : (Cond.isRef (.static C n d)).before args s = true := by
  obtain ⟨cf, kf, fi, f, a, cell, h1, h2, h3, h4, h5, h6, h7, -⟩ := h
  have he : (Term.static C n d).eval args s none [] s = some v := by
    simp [Term.eval, State.fieldNamed?, h1, h2, h4, h5, h6, h7]
  simp only [Cond.before, Cond.holds, Cond.value, he]
  cases v <;> simp_all [Value.isRef]
theorem vx_isRefq {C n d : String} {A : Nat → Prop} {s : State} {args : Array Value} (h : va_Zq C n d A s s.heap) : (Cond.isRef (.static C n d)).before args s = true := by
  rcases h with h | ⟨t, h⟩
  · exact vx_isRef h rfl
  · exact vx_isRef h rfl
/-- the same frame, seen from here: as if the method were called anew in this heap -/
theorem vx_rebase {T : State} (X : Stand p l e R s m args below meth c T locs cells slots) {R' : Room} (hf : R'.frames ≤ R.frames) (hl : R'.locals ≤ R.locals) (hc : cells + R'.cells ≤ R.cells) (hs : slots + R'.slots ≤ R.slots) :
    Stand p l e R' ((T.setVm s.vm).setFrames (.invoking m args :: below)) m args below meth c T [] 0 0 := by
  have htop : (T.setVm s.vm).topJava?.isSome := X.here.top
  have hF : ((T.setVm s.vm).setFrames (.invoking m args :: below)).frames = .invoking m args :: below := State.frames_setFrames _ (State.cur_lt_of_top htop)
  obtain ⟨g₀, hg0⟩ := Option.isSome_iff_exists.mp htop
  obtain ⟨r, hr⟩ := State.topJava?_eq_some.mp hg0
  have hl9 : e.platform.stackLimits (T.setVm s.vm).me = e.platform.stackLimits s.me := X.limits
  have hb9 : (T.setVm s.vm).me.stackBytes = s.me.stackBytes := X.bytes
  refine ⟨X.admits, X.cas, X.clock, hF, ?_, X.hears, X.method, X.code, X.here, X.tail, X.warmed, ?_, ?_, ?_⟩
  · have h := X.room
    have hU : ((T.setVm s.vm).setFrames (.invoking m args :: below)).localsInUse = s.localsInUse := by
      rw [State.localsInUse_invoking hF (meth := meth) (c := c) X.method X.code, State.localsInUse_invoking X.frames X.method X.code]
    simp only [State.hasRoom, Bool.and_eq_true, decide_eq_true_eq] at h ⊢
    obtain ⟨⟨⟨⟨h1, h2, h3, h4, h5, h6⟩, h7⟩, h8⟩, h9⟩ := h
    rw [X.frames, List.length_cons] at h2 h3
    have q1 := X.heapSize
    have q2 := X.used
    simp only [hF, hU, List.length_cons, State.stackLimits_setFrames, State.stackBytes_setFrames, hl9, hb9]
    refine ⟨⟨⟨⟨by omega, by omega, by omega, by omega, by omega, h6⟩, ?_⟩, ?_⟩, X.book⟩
    · show T.heap.size + R'.cells ≤ e.platform.maxCells
      omega
    · show T.slotsUsed + R'.slots ≤ e.platform.maxSlots
      omega
  · rw [State.stackLimits_setFrames]; rfl
  · rw [State.stackBytes_setFrames]; rfl
  · refine ⟨?_, Nat.le_refl _, Nat.le_refl _, ?_, ?_, fun a c9 h9 => ⟨c9, h9, rfl, rfl, fun _ _ => rfl⟩⟩
    · obtain ⟨t, ht, -⟩ := State.frames_cons hr
      show T.setVm s.vm = { ((T.setVm s.vm).setFrames (.invoking m args :: below)).setFrames (T.setVm s.vm).frames with heap := T.heap, slotsUsed := T.slotsUsed }
      rw [State.setFrames_setFrames, State.setFrames_self ht]
      rfl
    · show T.slotsUsed = T.slotsUsed + ((T.heap.toList.drop T.heap.size).map (·.slots.size)).sum
      rw [List.drop_eq_nil_of_le (Nat.le_of_eq Array.length_toList)]
      rfl
    · show ((T.heap.toList.drop T.heap.size).map (·.slots.size)).sum ≤ 0
      rw [List.drop_eq_nil_of_le (Nat.le_of_eq Array.length_toList)]
      exact Nat.le_refl _
/-- 'throw new E()': new; dup; invokespecial; athrow -/
theorem vx_throw0 {cc : ByteArray} {pc : Nat} (hexec : p.tables.exec = Jvm.exec) (hb : c.code = cc) (hl : l.stackTraces = false) {own cls : String} {names : List String} {ik ic mc ms : Nat} {A : Nat → Prop}
    (hown : s.vm.findClass own = some m.cls) (hcls : Bundle.fit cls = true) (hnames : ∀ n ∈ names, Bundle.fit n = true)
    (hk : (Cond.classLink own ik cls).before args s = true) (hini : (Cond.initialized cls).before args s = true) (hat : ∀ w ∈ vx_at0 own ic cls names, w.before args s = true)
    (hgood : ∀ w ∈ Cond.classLink own ik cls :: Cond.initialized cls :: vx_at0 own ic cls names, vx_ot w = true)
    (hU : vx_Zq Bundle.tN "UNASSIGNED_STACK" Bundle.steD A s s.heap) (hN : vx_Zq Bundle.tN "SUPPRESSED_SENTINEL" Bundle.listD A s s.heap) (hS : va_S A s.heap H locs) (hsize : ls.size = c.maxLocals)
    (d0 : decode cc pc = .ok (.new ik, 3)) (d3 : decode cc (pc + 3) = .ok (.dup, 1)) (d4 : decode cc (pc + 4) = .ok (.invokespecial ic, 3)) (d7 : decode cc (pc + 7) = .ok (.athrow, 1))
    (hout : ∀ x ∈ c.exceptionTable.toList, covers x (pc + 7) = false)
    (hRframes : names.length + 3 < R.frames) (hRlocals : (rest.map fun v => v.category).sum + (13 * (names.length + 1) + 42) ≤ R.locals) (hRcells : cells + 1 ≤ R.cells) (hRslots : slots + 6 ≤ R.slots) (hlocks : meth.locks = false)
    (hx : ∀ t : State, s.vm.Alike t.vm → H.size ≤ t.heap.size → (∀ q : Nat, q < H.size → t.heap[q]? = H[q]?) → XC cls s t)
    (hf : ∀ z ∈ locs, free z.base) (hc : cells + 1 ≤ mc) (hs : slots + 6 ≤ ms) :
    W p l e R s m args below meth c H locs cells slots (vx_MQ below Qc XC args s mc ms free) (F0 m pc ls rest) := by
  intro T hT X
  have htr : e.platform.stackTraces = false := (show e.platform.stackTraces = l.stackTraces by rw [X.admits.platform]).trans hl
  have Y := vx_rebase X (R' := { frames := R.frames, locals := R.locals, cells := 1, slots := 6 }) (Nat.le_refl _) (Nat.le_refl _) hRcells hRslots
  obtain ⟨s', hA⟩ : ∃ z, z = (T.setVm s.vm).setFrames (.invoking m args :: below) := ⟨_, rfl⟩
  rw [← hA] at Y
  have hvm : s'.vm = s.vm := by rw [hA]; rfl
  have hhp : s'.heap = H := by rw [hA]; exact hT
  have hW0 : s.WarmedH s'.vm := by rw [hvm]; exact State.WarmedH.refl s
  have hat' : ∀ w ∈ vx_at0 own ic cls names, w.before args s' = true := fun w hw => vx_ot_at hW0 hvm.symm (hgood w (List.mem_cons_of_mem _ (List.mem_cons_of_mem _ hw))) (hat w hw)
  have hk' : (Cond.classLink own ik cls).before args s' = true := vx_ot_at hW0 hvm.symm (hgood _ List.mem_cons_self) hk
  have hini' : (Cond.initialized cls).before args s' = true := vx_ot_at hW0 hvm.symm (hgood _ (List.mem_cons_of_mem _ List.mem_cons_self)) hini
  have hU' : vx_Zq Bundle.tN "UNASSIGNED_STACK" Bundle.steD A s' s'.heap := by rw [hhp]; exact vx_Zq.moved hW0.alike (hU.kept hS.2.1)
  have hN' : vx_Zq Bundle.tN "SUPPRESSED_SENTINEL" Bundle.listD A s' s'.heap := by rw [hhp]; exact vx_Zq.moved hW0.alike (hN.kept hS.2.1)
  have h : ∀ w ∈ Bundle.ownAtoms0 own ic cls names, w.before args s' = true := vx_own hat' (vx_isRefq hU'.1) (vx_isRefq hN'.1) hU'.2.word hN'.2.word
  have hown' : s'.vm.findClass own = some m.cls := by rw [hvm]; exact hown
  have hins : (Cond.instantiable cls 6).before args s' = true := h _ (by simp [Bundle.ownAtoms0])
  obtain ⟨vm₁, cX, kX, hfX, hkX, -, -, X₁, st1⟩ := Y.newCold hexec (own := own) (C := cls) (index := ik) (n := 6) hown' hk' hins hini'
    (g := F0 m pc ls rest) rfl (by rw [hb]; exact d0) (Nat.le_refl _) (Nat.le_refl _)
  generalize hT1 : (T.setVm vm₁).pushCell { cls := cX, slots := kX.instanceTypes.map defaultValue, vm := .none } = T1 at X₁ st1
  have hcat : (Value.ref T.heap.size).category = 1 := rfl
  have hcellA : T1.heap[T.heap.size]? = some (freshCell cX kX) := by rw [← hT1]; exact State.heap_pushCell_size _ _
  have d3' : decode c.code (pc + 3) = .ok (.dup, 1) := by rw [hb]; exact d3
  obtain ⟨U, hsteps, hrun, hend, hW, hsame, ce, hce, hO⟩ := X₁.ctorThrow0 hexec htr (own := own) (cls := cls) (names := names) (ic := ic) hown' hcls hnames h (fun x hx => nomatch hx) hfX hkX hcellA (by rw [hhp, hT]; exact Nat.le_refl _)
    (g := { method := m, pc := pc + 4, locals := ls, stack := .ref T.heap.size :: .ref T.heap.size :: rest, locked := none }) rfl hsize rfl rfl (rest := rest) rfl
    (by rw [hb]; exact d4) (by rw [hb]; exact d7) hout hRframes (by simp only [List.map_cons, List.sum_cons, hcat]; omega) hlocks
  obtain ⟨f1, f2⟩ := vx_frame hsame
  rw [hhp] at f1 f2
  have hWs : s.WarmedH U.vm := State.WarmedH.trans hW0 hW
  have hcl : s.vm.findClass cls = some ce.cls := by
    have h9 := hO.cls
    rw [hvm] at h9
    exact h9
  have hall : s.sameButNew ({ U with vm := s.vm } : State) locs mc ms := by
    subst hA
    obtain ⟨e1, e2⟩ := hsame
    rw [State.setFrames_setFrames] at e1
    have h2 : (T.setVm s.vm).sameButNew ({ U with vm := s.vm } : State) [] (0 + 1) (0 + 6) := ⟨e1, e2⟩
    have h3 := X.same.trans h2
    rw [List.append_nil] at h3
    exact h3.mono hc hs
  refine ⟨U, ?_, .threw T.heap.size, hrun, hend, Or.inr ⟨T.heap.size, rfl, cls, ce, locs, hx U hWs.alike f1 (fun q hq => f2 q hq (fun z hz => nomatch hz)), hce, hO.vm, hcl, hWs, hall, hf⟩⟩
  refine st1 _ ?_
  show Steps p.tables e below (T1.setTop { method := m, pc := pc + 3, locals := ls, stack := .ref T.heap.size :: rest, locked := none }) _
  jvm_step X₁.here [X₁.here.top, hexec, d3', Value.category]
  exact hsteps
/-- 'throw new E("text")': new; dup; ldc; invokespecial; athrow -/
theorem vx_throwS {cc : ByteArray} {pc : Nat} (hexec : p.tables.exec = Jvm.exec) (hb : c.code = cc) (hl : l.stackTraces = false) {own cls text : String} {names : List String} {ik is ic mc ms sa : Nat} {A : Nat → Prop}
    (hown : s.vm.findClass own = some m.cls) (hcls : Bundle.fit cls = true) (hnames : ∀ n ∈ names, Bundle.fit n = true)
    (hk : (Cond.classLink own ik cls).before args s = true) (hini : (Cond.initialized cls).before args s = true) (hstr : vk_R own is text sa s) (hat : ∀ w ∈ vx_atS own ic cls names, w.before args s = true)
    (hgood : ∀ w ∈ Cond.classLink own ik cls :: Cond.initialized cls :: vx_atS own ic cls names, vx_ot w = true)
    (hU : vx_Zq Bundle.tN "UNASSIGNED_STACK" Bundle.steD A s s.heap) (hN : vx_Zq Bundle.tN "SUPPRESSED_SENTINEL" Bundle.listD A s s.heap) (hS : va_S A s.heap H locs) (hsize : ls.size = c.maxLocals)
    (d0 : decode cc pc = .ok (.new ik, 3)) (d3 : decode cc (pc + 3) = .ok (.dup, 1)) (d4 : decode cc (pc + 4) = .ok (.ldc is, 2)) (d6 : decode cc (pc + 6) = .ok (.invokespecial ic, 3)) (d9 : decode cc (pc + 9) = .ok (.athrow, 1))
    (hout : ∀ x ∈ c.exceptionTable.toList, covers x (pc + 9) = false)
    (hRframes : names.length + 3 < R.frames) (hRlocals : (rest.map fun v => v.category).sum + (13 * (names.length + 1) + 43) ≤ R.locals) (hRcells : cells + 1 ≤ R.cells) (hRslots : slots + 6 ≤ R.slots) (hlocks : meth.locks = false)
    (hx : ∀ t : State, s.vm.Alike t.vm → H.size ≤ t.heap.size → (∀ q : Nat, q < H.size → t.heap[q]? = H[q]?) → XC cls s t)
    (hf : ∀ z ∈ locs, free z.base) (hc : cells + 1 ≤ mc) (hs : slots + 6 ≤ ms) :
    W p l e R s m args below meth c H locs cells slots (vx_MQ below Qc XC args s mc ms free) (F0 m pc ls rest) := by
  intro T hT X
  have htr : e.platform.stackTraces = false := (show e.platform.stackTraces = l.stackTraces by rw [X.admits.platform]).trans hl
  have Y := vx_rebase X (R' := { frames := R.frames, locals := R.locals, cells := 1, slots := 6 }) (Nat.le_refl _) (Nat.le_refl _) hRcells hRslots
  obtain ⟨s', hA⟩ : ∃ z, z = (T.setVm s.vm).setFrames (.invoking m args :: below) := ⟨_, rfl⟩
  rw [← hA] at Y
  have hvm : s'.vm = s.vm := by rw [hA]; rfl
  have hhp : s'.heap = H := by rw [hA]; exact hT
  have hW0 : s.WarmedH s'.vm := by rw [hvm]; exact State.WarmedH.refl s
  have hat' : ∀ w ∈ vx_atS own ic cls names, w.before args s' = true := fun w hw => vx_ot_at hW0 hvm.symm (hgood w (List.mem_cons_of_mem _ (List.mem_cons_of_mem _ hw))) (hat w hw)
  have hk' : (Cond.classLink own ik cls).before args s' = true := vx_ot_at hW0 hvm.symm (hgood _ List.mem_cons_self) hk
  have hini' : (Cond.initialized cls).before args s' = true := vx_ot_at hW0 hvm.symm (hgood _ (List.mem_cons_of_mem _ List.mem_cons_self)) hini
  have hU' : vx_Zq Bundle.tN "UNASSIGNED_STACK" Bundle.steD A s' s'.heap := by rw [hhp]; exact vx_Zq.moved hW0.alike (hU.kept hS.2.1)
  have hN' : vx_Zq Bundle.tN "SUPPRESSED_SENTINEL" Bundle.listD A s' s'.heap := by rw [hhp]; exact vx_Zq.moved hW0.alike (hN.kept hS.2.1)
  have h : ∀ w ∈ Bundle.ownAtoms own ic cls names, w.before args s' = true := vx_own hat' (vx_isRefq hU'.1) (vx_isRefq hN'.1) hU'.2.word hN'.2.word
  have hown' : s'.vm.findClass own = some m.cls := by rw [hvm]; exact hown
  have hins : (Cond.instantiable cls 6).before args s' = true := h _ (by simp [Bundle.ownAtoms])
  obtain ⟨vm₁, cX, kX, hfX, hkX, -, -, X₁, st1⟩ := Y.newCold hexec (own := own) (C := cls) (index := ik) (n := 6) hown' hk' hins hini'
    (g := F0 m pc ls rest) rfl (by rw [hb]; exact d0) (Nat.le_refl _) (Nat.le_refl _)
  generalize hT1 : (T.setVm vm₁).pushCell { cls := cX, slots := kX.instanceTypes.map defaultValue, vm := .none } = T1 at X₁ st1
  have hcat : (Value.ref T.heap.size).category = 1 := rfl
  have hcellA : T1.heap[T.heap.size]? = some (freshCell cX kX) := by rw [← hT1]; exact State.heap_pushCell_size _ _
  have d3' : decode c.code (pc + 3) = .ok (.dup, 1) := by rw [hb]; exact d3
  have d4' : decode c.code (pc + 4) = .ok (.ldc is, 2) := by rw [hb]; exact d4
  have hstr' : vk_R own is text sa s' := vk_R.warm hW0 hstr
  obtain ⟨U, hsteps, hrun, hend, hW, hsame, ce, hce, hO⟩ := X₁.ctorThrowS hexec htr (own := own) (cls := cls) (names := names) (ic := ic) hown' hcls hnames h (fun x hx => nomatch hx) hfX hkX hcellA (by rw [hhp, hT]; exact Nat.le_refl _) (msg := .ref sa) rfl
    (g := { method := m, pc := pc + 6, locals := ls, stack := .ref sa :: .ref T.heap.size :: .ref T.heap.size :: rest, locked := none }) rfl hsize rfl rfl (rest := rest) rfl
    (by rw [hb]; exact d6) (by rw [hb]; exact d9) hout hRframes (by simp only [List.map_cons, List.sum_cons, hcat]; omega) hlocks
  obtain ⟨f1, f2⟩ := vx_frame hsame
  rw [hhp] at f1 f2
  have hWs : s.WarmedH U.vm := State.WarmedH.trans hW0 hW
  have hcl : s.vm.findClass cls = some ce.cls := by
    have h9 := hO.cls
    rw [hvm] at h9
    exact h9
  have hall : s.sameButNew ({ U with vm := s.vm } : State) locs mc ms := by
    subst hA
    obtain ⟨e1, e2⟩ := hsame
    rw [State.setFrames_setFrames] at e1
    have h2 : (T.setVm s.vm).sameButNew ({ U with vm := s.vm } : State) [] (0 + 1) (0 + 6) := ⟨e1, e2⟩
    have h3 := X.same.trans h2
    rw [List.append_nil] at h3
    exact h3.mono hc hs
  refine ⟨U, ?_, .threw T.heap.size, hrun, hend, Or.inr ⟨T.heap.size, rfl, cls, ce, locs, hx U hWs.alike f1 (fun q hq => f2 q hq (fun z hz => nomatch hz)), hce, hO.vm, hcl, hWs, hall, hf⟩⟩
  refine st1 _ ?_
  show Steps p.tables e below (T1.setTop { method := m, pc := pc + 3, locals := ls, stack := .ref T.heap.size :: rest, locked := none }) _
  jvm_step X₁.here [X₁.here.top, hexec, d3', Value.category]
  exact X₁.ldcString hexec (own := own) (text := text) (index := is) (a := sa) hown' hstr'.1 hstr'.2
    (g := { method := m, pc := pc + 4, locals := ls, stack := .ref T.heap.size :: .ref T.heap.size :: rest, locked := none }) rfl d4' _ hsteps
/-- 'throw new E("text")', the text by a wide index -/
theorem vx_throwSW {cc : ByteArray} {pc : Nat} (hexec : p.tables.exec = Jvm.exec) (hb : c.code = cc) (hl : l.stackTraces = false) {own cls text : String} {names : List String} {ik is ic mc ms sa : Nat} {A : Nat → Prop}
    (hown : s.vm.findClass own = some m.cls) (hcls : Bundle.fit cls = true) (hnames : ∀ n ∈ names, Bundle.fit n = true)
    (hk : (Cond.classLink own ik cls).before args s = true) (hini : (Cond.initialized cls).before args s = true) (hstr : vk_R own is text sa s) (hat : ∀ w ∈ vx_atS own ic cls names, w.before args s = true)
    (hgood : ∀ w ∈ Cond.classLink own ik cls :: Cond.initialized cls :: vx_atS own ic cls names, vx_ot w = true)
    (hU : vx_Zq Bundle.tN "UNASSIGNED_STACK" Bundle.steD A s s.heap) (hN : vx_Zq Bundle.tN "SUPPRESSED_SENTINEL" Bundle.listD A s s.heap) (hS : va_S A s.heap H locs) (hsize : ls.size = c.maxLocals)
    (d0 : decode cc pc = .ok (.new ik, 3)) (d3 : decode cc (pc + 3) = .ok (.dup, 1)) (d4 : decode cc (pc + 4) = .ok (.ldc_w is, 3)) (d7 : decode cc (pc + 7) = .ok (.invokespecial ic, 3)) (d10 : decode cc (pc + 10) = .ok (.athrow, 1))
    (hout : ∀ x ∈ c.exceptionTable.toList, covers x (pc + 10) = false)
    (hRframes : names.length + 3 < R.frames) (hRlocals : (rest.map fun v => v.category).sum + (13 * (names.length + 1) + 43) ≤ R.locals) (hRcells : cells + 1 ≤ R.cells) (hRslots : slots + 6 ≤ R.slots) (hlocks : meth.locks = false)
    (hx : ∀ t : State, s.vm.Alike t.vm → H.size ≤ t.heap.size → (∀ q : Nat, q < H.size → t.heap[q]? = H[q]?) → XC cls s t)
    (hf : ∀ z ∈ locs, free z.base) (hc : cells + 1 ≤ mc) (hs : slots + 6 ≤ ms) :
    W p l e R s m args below meth c H locs cells slots (vx_MQ below Qc XC args s mc ms free) (F0 m pc ls rest) := by
  intro T hT X
  have htr : e.platform.stackTraces = false := (show e.platform.stackTraces = l.stackTraces by rw [X.admits.platform]).trans hl
  have Y := vx_rebase X (R' := { frames := R.frames, locals := R.locals, cells := 1, slots := 6 }) (Nat.le_refl _) (Nat.le_refl _) hRcells hRslots
  obtain ⟨s', hA⟩ : ∃ z, z = (T.setVm s.vm).setFrames (.invoking m args :: below) := ⟨_, rfl⟩
  rw [← hA] at Y
  have hvm : s'.vm = s.vm := by rw [hA]; rfl
  have hhp : s'.heap = H := by rw [hA]; exact hT
  have hW0 : s.WarmedH s'.vm := by rw [hvm]; exact State.WarmedH.refl s
  have hat' : ∀ w ∈ vx_atS own ic cls names, w.before args s' = true := fun w hw => vx_ot_at hW0 hvm.symm (hgood w (List.mem_cons_of_mem _ (List.mem_cons_of_mem _ hw))) (hat w hw)
  have hk' : (Cond.classLink own ik cls).before args s' = true := vx_ot_at hW0 hvm.symm (hgood _ List.mem_cons_self) hk
  have hini' : (Cond.initialized cls).before args s' = true := vx_ot_at hW0 hvm.symm (hgood _ (List.mem_cons_of_mem _ List.mem_cons_self)) hini
  have hU' : vx_Zq Bundle.tN "UNASSIGNED_STACK" Bundle.steD A s' s'.heap := by rw [hhp]; exact vx_Zq.moved hW0.alike (hU.kept hS.2.1)
  have hN' : vx_Zq Bundle.tN "SUPPRESSED_SENTINEL" Bundle.listD A s' s'.heap := by rw [hhp]; exact vx_Zq.moved hW0.alike (hN.kept hS.2.1)
  have h : ∀ w ∈ Bundle.ownAtoms own ic cls names, w.before args s' = true := vx_own hat' (vx_isRefq hU'.1) (vx_isRefq hN'.1) hU'.2.word hN'.2.word
  have hown' : s'.vm.findClass own = some m.cls := by rw [hvm]; exact hown
  have hins : (Cond.instantiable cls 6).before args s' = true := h _ (by simp [Bundle.ownAtoms])
  obtain ⟨vm₁, cX, kX, hfX, hkX, -, -, X₁, st1⟩ := Y.newCold hexec (own := own) (C := cls) (index := ik) (n := 6) hown' hk' hins hini'
    (g := F0 m pc ls rest) rfl (by rw [hb]; exact d0) (Nat.le_refl _) (Nat.le_refl _)
  generalize hT1 : (T.setVm vm₁).pushCell { cls := cX, slots := kX.instanceTypes.map defaultValue, vm := .none } = T1 at X₁ st1
  have hcat : (Value.ref T.heap.size).category = 1 := rfl
  have hcellA : T1.heap[T.heap.size]? = some (freshCell cX kX) := by rw [← hT1]; exact State.heap_pushCell_size _ _
  have d3' : decode c.code (pc + 3) = .ok (.dup, 1) := by rw [hb]; exact d3
  have d4' : decode c.code (pc + 4) = .ok (.ldc_w is, 3) := by rw [hb]; exact d4
  have hstr' : vk_R own is text sa s' := vk_R.warm hW0 hstr
  obtain ⟨U, hsteps, hrun, hend, hW, hsame, ce, hce, hO⟩ := X₁.ctorThrowS hexec htr (own := own) (cls := cls) (names := names) (ic := ic) hown' hcls hnames h (fun x hx => nomatch hx) hfX hkX hcellA (by rw [hhp, hT]; exact Nat.le_refl _) (msg := .ref sa) rfl
    (g := { method := m, pc := pc + 7, locals := ls, stack := .ref sa :: .ref T.heap.size :: .ref T.heap.size :: rest, locked := none }) rfl hsize rfl rfl (rest := rest) rfl
    (by rw [hb]; exact d7) (by rw [hb]; exact d10) hout hRframes (by simp only [List.map_cons, List.sum_cons, hcat]; omega) hlocks
  obtain ⟨f1, f2⟩ := vx_frame hsame
  rw [hhp] at f1 f2
  have hWs : s.WarmedH U.vm := State.WarmedH.trans hW0 hW
  have hcl : s.vm.findClass cls = some ce.cls := by
    have h9 := hO.cls
    rw [hvm] at h9
    exact h9
  have hall : s.sameButNew ({ U with vm := s.vm } : State) locs mc ms := by
    subst hA
    obtain ⟨e1, e2⟩ := hsame
    rw [State.setFrames_setFrames] at e1
    have h2 : (T.setVm s.vm).sameButNew ({ U with vm := s.vm } : State) [] (0 + 1) (0 + 6) := ⟨e1, e2⟩
    have h3 := X.same.trans h2
    rw [List.append_nil] at h3
    exact h3.mono hc hs
  refine ⟨U, ?_, .threw T.heap.size, hrun, hend, Or.inr ⟨T.heap.size, rfl, cls, ce, locs, hx U hWs.alike f1 (fun q hq => f2 q hq (fun z hz => nomatch hz)), hce, hO.vm, hcl, hWs, hall, hf⟩⟩
  refine st1 _ ?_
  show Steps p.tables e below (T1.setTop { method := m, pc := pc + 3, locals := ls, stack := .ref T.heap.size :: rest, locked := none }) _
  jvm_step X₁.here [X₁.here.top, hexec, d3', Value.category]
  exact X₁.ldcStringW hexec (own := own) (text := text) (index := is) (a := sa) hown' hstr'.1 hstr'.2
    (g := { method := m, pc := pc + 4, locals := ls, stack := .ref T.heap.size :: .ref T.heap.size :: rest, locked := none }) rfl d4' _ hsteps
end Ends
section Bodies
variable {l : Launch}
theorem vx_ofW {y : MethodName} {ws ws' : List Cond} {rm : Room} {Pc : Array Value → State → Prop} {Qc : Array Value → State → Outcome → State → Prop} {XC : String → State → State → Prop} {mc ms : Nat} {free : Addr → Prop} {cc : ByteArray} {maxL : Nat} {ret : Option FieldType}
    (hy : plainName y.cls = true) (hw : ws = Cond.code y cc maxL ret :: ws')
    (body : ∀ p e s m args below meth c s₁, BodyLoose p l y (headSpec ws rm) cc maxL ret e s m args below meth c s₁ → c.maxLocals = maxL → (∀ x ∈ c.exceptionTable.toList, False) → Pc args s →
      W p l e (headSpec ws rm).room s m args below meth c s.heap [] 0 0 (vx_MQ below Qc XC args s mc ms free) (entryFrame m args maxL)) : vx_Met l y ws rm Pc Qc XC mc ms free := by
  refine MetFree.of_bodyS (code := cc) (maxLocals := maxL) (ret := ret) hy ?_ ?_
  · intro args s m h hn
    obtain ⟨meth, c, h1, h2, h3, h4, h5, h6, -, -⟩ := Cond.code_spec hn (atoms_spec (ws := ws) h _ (by rw [hw]; exact List.mem_cons_self))
    exact ⟨meth, c, h1, h2, h3, h4, h5, h6⟩
  · intro p e s m args below meth c s₁ B hml hP _
    have hh0 : s₁.heap = s.heap := by rw [B.state]; rfl
    have ht : ∀ x ∈ c.exceptionTable.toList, False := by
      obtain ⟨meth9, c9, h1, h2, -, -, -, -, h7, -⟩ := Cond.code_spec B.named (atoms_spec (ws := ws) B.pre _ (by rw [hw]; exact List.mem_cons_self))
      cases Option.some.inj (h1.symm.trans B.method)
      cases Option.some.inj (h2.symm.trans (Stand.of_body B).code)
      intro x hx
      rw [Array.isEmpty_iff.mp h7] at hx
      cases hx
    obtain ⟨t, a1, o, b1, b2, b3⟩ := body p e s m args below meth c s₁ B hml ht hP s₁ hh0 (Stand.of_body B)
    exact ⟨t, o, a1, b1, b2, b3⟩
/-- the table of a body with handlers -/
theorem vx_table {p : Program} {x y : MethodName} {S : Spec} {cc bytes : ByteArray} {maxL maxL' : Nat} {ret ret' : Option FieldType} {e : Env} {s s₁ : State} {m : MethodId} {args : Array Value} {below : List Frame} {meth : Method} {c : Code} {hh : List (Nat × Nat × Nat × Nat)}
    (B : BodyLoose p l y S cc maxL ret e s m args below meth c s₁) (h : (Cond.codeWith y bytes maxL' ret' hh).before args s = true) : c.exceptionTable.toList = tableOf hh := by
  obtain ⟨m9, meth9, c9, hn9, h1, h2, -, -, h6, -⟩ := Cond.codeWith_spec h
  cases Option.some.inj (hn9.symm.trans B.named)
  cases Option.some.inj (h1.symm.trans B.method)
  cases Option.some.inj (h2.symm.trans (Stand.of_body B).code)
  rw [← h6, table_eq]
end Bodies
end VXA
/-! ===== END ===== -/
/-! ===== BEGIN a static call of a method with an exception table ===== -/
section VXS
variable {p : Program} {l : Launch} {e : Env} {R : Room} {s : State} {m : MethodId} {args : Array Value} {below : List Frame} {meth : Method} {c : Code} {T : State} {H : Heap} {locs : List Loc} {cells slots : Nat}
abbrev vx_CSW (R : Room) (s : State) (args : Array Value) (own : String) (index : Nat) (y : MethodName) (bytes : ByteArray) (maxL : Nat) (ret : Option FieldType) (hh : List (Nat × Nat × Nat × Nat)) (ws : List Cond) (rm : Room) (mc ms n : Nat) : Prop :=
  (rm.cells = mc ∧ rm.slots = ms ∧ rm.frames + 1 ≤ R.frames ∧ 8 + (maxL + 11) + rm.locals ≤ R.locals ∧ (∀ w ∈ ws, ∀ (a' : Array Value) (U : State), s.WarmedH U.vm → w.before a' U = true) ∧ Cond.codeWith y bytes maxL ret hh ∈ ws) ∧
  (Cond.codeWith y bytes maxL ret hh).before args s = true ∧ (Cond.initialized y.cls).before args s = true ∧ (y.cls ≠ "java/lang/invoke/MethodHandle" ∧ y.cls ≠ "java/lang/invoke/VarHandle") ∧
  (∀ sig, parseMethodDescriptor y.desc = some sig → n = sig.parameters.length) ∧ (Cond.methodLink own index y).before args s = true ∧ (Cond.static y).before args s = true
theorem vx_cwSW {own : String} {index maxL mc ms : Nat} {y : MethodName} {bytes : ByteArray} {ret : Option FieldType} {hh : List (Nat × Nat × Nat × Nat)} {Ts ws ws' : List Cond} {rm : Room} (n : Nat) (ht : ∀ w ∈ Ts, w.before args s = true) (hT : GoodIn Ts (va_wsS own index y ws)) (hw : ws = Cond.codeWith y bytes maxL ret hh :: ws') (hrc : rm.cells = mc) (hrs : rm.slots = ms)
    (hd : y.cls ≠ "java/lang/invoke/MethodHandle" ∧ y.cls ≠ "java/lang/invoke/VarHandle" ∧ (parseMethodDescriptor y.desc).map (fun d => d.parameters.length) = some n) (hR : rm.frames + 1 ≤ R.frames ∧ 8 + (maxL + 11) + rm.locals ≤ R.locals) :
    vx_CSW R s args own index y bytes maxL ret hh ws rm mc ms n := by
  have ok : ∀ w ∈ va_wsS own index y ws, w.before args s = true := fun w h => ht w (hT w h).1
  have hG : GoodIn Ts ws := fun w h => hT w (by unfold va_wsS; exact List.mem_append_right _ h)
  have hc : Cond.codeWith y bytes maxL ret hh ∈ ws := by rw [hw]; exact List.mem_cons_self
  refine ⟨⟨hrc, hrs, hR.1, hR.2, pay_in ht hG, hc⟩, ht _ (hG _ hc).1, ok _ (by simp [va_wsS]), ⟨hd.1, hd.2.1⟩, fun sig h => ?_, ok _ (by simp [va_wsS]), ok _ (by simp [va_wsS])⟩
  have h2 := hd.2.2
  rw [h] at h2
  exact (Option.some.inj h2).symm
theorem vx_callSW (X : Stand p l e R s m args below meth c T locs cells slots) (hexec : p.tables.exec = Jvm.exec) {own : String} {index : Nat} {y : MethodName} {bytes : ByteArray} {maxL : Nat} {ret : Option FieldType} {hh : List (Nat × Nat × Nat × Nat)}
    (hown : s.vm.findClass own = some m.cls) (hlink : (Cond.methodLink own index y).before args s = true) (hstat : (Cond.static y).before args s = true) (hinit : (Cond.initialized y.cls).before args s = true)
    (hcode : (Cond.codeWith y bytes maxL ret hh).before args s = true) (hy : y.cls ≠ "java/lang/invoke/MethodHandle" ∧ y.cls ≠ "java/lang/invoke/VarHandle")
    {W9 : Nat} {Pre : Pt → Array Value → Prop} {Post : Pt → Array Value → Option Value → Pt → Prop} (hK : Back l R p e below s args y 3 W9 Pre Post)
    {g : JFrame} (hg : g.method = m) (hsize : g.locals.size = c.maxLocals) {argsL rest : List Value} (hlen : ∀ sig, parseMethodDescriptor y.desc = some sig → argsL.length = sig.parameters.length)
    (hstack : g.stack = argsL.reverse ++ rest) (hW : 2 * g.monitorRoom + (rest.map fun v => v.category).sum ≤ W9) (hdg : decode c.code g.pc = .ok (.invokestatic index, 3))
    (hpre : ∀ vm₁, s.WarmedH vm₁ → Pre ⟨T.setVm vm₁, locs, cells, slots⟩ argsL.toArray) :
    ∃ (v : Option Value) (vm₁ : Vm) (B : Pt), s.WarmedH vm₁ ∧ Stand p l e R s m args below meth c B.U B.locs B.cells B.slots ∧ Post ⟨T.setVm vm₁, locs, cells, slots⟩ argsL.toArray v B ∧
      ∀ target, Steps p.tables e below (B.U.setTop { g with pc := g.pc + 3, stack := v.toList ++ rest }) target → Steps p.tables e below (T.setTop g) target := by
  obtain ⟨mk, methM, cM, hnamed, hmethM, -, -, -, -, -, -, hsigM⟩ := Cond.codeWith_spec hcode
  have hstatic : methM.isStatic = true := Cond.static_spec hnamed hmethM hstat
  obtain ⟨kP, hkP, -⟩ := className_of_methodNamed hnamed
  have hinitP : kP.init = .initialized := Cond.initialized_spec (findClass_of_methodNamed hnamed) hkP hinit
  obtain ⟨vm₁, X₁, hstep₁⟩ := X.invokestatic hexec hown hlink hnamed hmethM hstatic hkP hinitP hy (g := g) hg (argsL := argsL) (rest := rest) (hlen _ hsigM) hstack hdg
  obtain ⟨v, B, X', hpost, hsteps⟩ := hK m meth c ⟨T.setVm vm₁, locs, cells, slots⟩ { g with stack := rest } (.invokestatic index) mk argsL.toArray X₁ hg hsize hdg hW (X₁.named hnamed) (hpre vm₁ X₁.warmed)
  exact ⟨v, vm₁, B, X₁.warmed, X', hpost, fun target h => hstep₁ _ fun acts => by rw [doInvoke_state]; exact hsteps.trans h⟩
theorem vx_runSW {y : MethodName} {bytes cc : ByteArray} {maxL nL mc ms n index : Nat} {ret : Option FieldType} {hh : List (Nat × Nat × Nat × Nat)} {ws : List Cond} {rm : Room} {Pc : Array Value → State → Prop} {Qc : Array Value → State → Outcome → State → Prop} {free : Addr → Prop} {Ts : List Cond} {own : String} {As rest : List Value} {g : JFrame}
    (S : CallFix p m c cc nL s args Ts own) (hM : Met l y ws rm Pc Qc mc ms free) (cw : vx_CSW R s args own index y bytes maxL ret hh ws rm mc ms n) (hp : PreS s H Pc As)
    (hg : g.method = m) (hn : As.length = n) (hsize : g.locals.size = nL) (hstack : g.stack = As.reverse ++ rest) (hW : 2 * g.monitorRoom + (rest.map fun v => v.category).sum ≤ 8) (hdg : decode cc g.pc = .ok (.invokestatic index, 3)) (hf : cells + mc ≤ R.cells ∧ slots + ms ≤ R.slots) :
    va_Run p l e R s m args below meth c H locs cells slots mc ms g rest (Qc As.toArray) (free) := by
  obtain ⟨⟨hrc, hrs, hfr, hlo, hws, hcw⟩, hcode, hini, hy, hlen, hl, hstt⟩ := cw
  have hK : Back l R p e below s args y 3 8 (PreOf R mc ms Pc) (PostOf Qc mc ms free) := va_backW (hh := hh) (bytes := bytes) (maxL := maxL) (ret := ret) hM hp.1 hrc hrs hfr hlo hws hcw (fun a' U hW => word_at hW (Or.inl (by first | rfl | simp [Cond.onTables, Cond.keeps, Cond.steady])) hini)
  obtain ⟨hx, hb, hml, ho, -⟩ := S
  intro T hT X
  obtain ⟨v, vm₁, ⟨U', l2, c2, s2⟩, hW₁, X', ⟨g', mk, t, L, e1, e2, hq, h1, hL, h2, h3⟩, st⟩ := vx_callSW X hx (hh := hh) (bytes := bytes) (maxL := maxL) (ret := ret) ho hl hstt hini hcode hy hK hg (hsize.trans hml.symm) (argsL := As) (rest := rest) (fun sig h => hn.trans (hlen sig h)) hstack hW (by rw [hb]; exact hdg)
    (fun vm₁ hW₁ => ⟨hf.1, hf.2, hp.2 (T.setVm vm₁) hT hW₁⟩)
  dsimp only [Pt.U, Pt.locs, Pt.cells, Pt.slots] at X' e1 e2 h1 h2 h3 st
  subst h1; subst h2; subst h3
  exact ⟨v, (T.setVm vm₁).calling g' mk As.toArray, t, U', L, hT, X', hL, e1, e2, hq, st⟩
/-- not caught here, past rows that name other classes: it goes on to the caller -/
theorem vx_outP {p : Program} {l : Launch} {e : Env} {R : Room} {s : State} {m : MethodId} {args : Array Value} {below : List Frame} {meth : Method} {c : Code} {H : Heap} {locs : List Loc} {cells slots : Nat} {free : Addr → Prop} {ls : Array Slot} {rest : List Value} {Qc : Array Value → State → Outcome → State → Prop} {XC : String → State → State → Prop}
    {pc : Nat} {own E : String} {ce : Cell} {q : Addr} {mc ms : Nat} (hown : s.vm.findClass own = some m.cls) (hlocks : meth.locks = false)
    (hpass : ∀ z ∈ c.exceptionTable.toList, covers z pc = false ∨ (z.catchType ≠ 0 ∧ ∃ nm : String, (Cond.classLink own z.catchType nm).before args s = true ∧ va_Nc E nm s)) (hcell : H[q]? = some ce) (hv : ce.vm = .none) (hcl : s.vm.findClass E = some ce.cls)
    (hx : ∀ t : State, t.heap = H → s.vm.Alike t.vm → XC E s t) (hf : ∀ z ∈ locs, free z.base) (hc : cells ≤ mc) (hs : slots ≤ ms) :
    vx_W p l e R s m args below meth c H locs cells slots (vx_MQ below Qc XC args s mc ms free) (F0 m pc ls rest) q := by
  intro T hT X
  have hpl : e.platform.magicAccessors = ({} : Platform).magicAccessors := by rw [X.admits.platform]
  obtain ⟨vm', hW', X', st⟩ := X.outThrough hlocks q (g := F0 m pc ls rest) rfl rfl rfl (cell := ce) (by rw [hT]; exact hcell) (by rw [hv]; rfl)
    (by obtain ⟨k9, h9, -⟩ := Vm.findClass_spec hcl; exact ⟨k9, h9⟩) (fun z hz => by
      rcases hpass z hz with h | ⟨hz0, nm, hl1, hn1⟩
      · exact Or.inl h
      · obtain ⟨c6, hc6, hcl6⟩ := Cond.classLink_spec hown hl1 e.platform hpl
        obtain ⟨a8, b8, h1, h2, h3⟩ := hn1
        cases Option.some.inj (h1.symm.trans hcl)
        cases Option.some.inj (h2.symm.trans hc6)
        exact Or.inr ⟨hz0, _, hcl6, h3⟩)
  obtain ⟨g₀, hfr⟩ := X'.frames_eq
  have hcell9 : ((T.setVm vm').setFrames (.throwing q :: below)).heap[q]? = some ce := by
    show T.heap[q]? = some ce
    rw [hT]; exact hcell
  have hend : Ended ((T.setVm vm').setFrames (.throwing q :: below)) below (.threw q) := State.frames_setFrames _ (State.cur_lt_of_frames hfr)
  refine ⟨(T.setVm vm').setFrames (.throwing q :: below), ?_, .threw q, X'.here.running, hend, Or.inr ⟨q, rfl, E, ce, locs, hx _ hT (X'.ends _).1.alike, hcell9, hv, hcl, (X'.ends _).1, (X'.ends _).2.mono hc hs, hf⟩⟩
  rw [X.pushThrowing_eq]
  exact st
/-- a thing of a world lies in the heap -/
theorem vx_lt {D : va_G} {cl : List vw_C} {ws : va_W} {H1 : Heap} (h : va_P D cl ws H1) {k : Nat} {q : Nat × va_E} (hk : ws[k]? = some q) : q.1 < H1.size := (h k q hk).lt
end VXS
/-! ===== END ===== -/
/-! ===== BEGIN methods with a table of their own: called by a name, returning or throwing ===== -/
section VXH
/-! vx_backW, vx_callVX, vx_callSX, vx_callVW, vx_runVW, vx_runVX, vx_runSX, vx_ofWH follow the same proofs as their sisters above (Free/Laws.lean, Shelf42/LK1.lean); vx_outP calls Shelf42/NT130.lean (outThrough). -/
section
variable {l : Launch} {R : Room} {p : Program} {e : Env} {below : List Frame} {s : State} {sargs : Array Value} {y : MethodName} {len W9 : Nat}
theorem vx_backW {ws : List Cond} {rm : Room} {Pc : Array Value → State → Prop} {Qc : Array Value → State → Outcome → State → Prop} {XC : String → State → State → Prop} {mc ms : Nat} {free : Addr → Prop} {bytes : ByteArray} {maxL : Nat} {ret : Option FieldType} {hh : List (Nat × Nat × Nat × Nat)}
    (hM : vx_Met l y ws rm Pc Qc XC mc ms free) (hblind : FrameBlind Pc) (hrc : rm.cells = mc) (hrs : rm.slots = ms)
    (hframes : rm.frames + 1 ≤ R.frames) (hlocals : W9 + (maxL + 11) + rm.locals ≤ R.locals)
    (hws : ∀ w ∈ ws, ∀ a' U, s.WarmedH U.vm → w.before a' U = true) (hcode : Cond.codeWith y bytes maxL ret hh ∈ ws) (hinit : ∀ a' U, s.WarmedH U.vm → (Cond.initialized y.cls).before a' U = true) :
    vx_Back l R p e below s sargs y len W9 (PreOf R mc ms Pc) (PostOf Qc mc ms free) (vx_Post XC mc ms free) := by
  intro m meth c A g ig mk a X hg hsize hdg hW hn hp
  have h1 : (headSpec ws rm).pre.before a A.U = true := atoms_intro fun w hw => hws w hw _ _ X.warmed
  have h2 : (Cond.codeWith y bytes maxL ret hh).before a A.U = true := hws _ hcode _ _ X.warmed
  have h3 : (Cond.initialized y.cls).before a A.U = true := hinit _ _ X.warmed
  have h4 : A.cells + (headSpec ws rm).room.cells ≤ R.cells := by rw [show (headSpec ws rm).room.cells = mc from hrc]; exact hp.1
  have h5 : A.slots + (headSpec ws rm).room.slots ≤ R.slots := by rw [show (headSpec ws rm).room.slots = ms from hrs]; exact hp.2.1
  have hPc : Pc a (A.U.calling g mk a) := hblind _ _ _ _ hp.2.2
  obtain ⟨U, Ls, c0, s0⟩ := A
  dsimp only [Pt.U, Pt.locs, Pt.cells, Pt.slots] at h1 h2 h3 h4 h5 X hn hPc ⊢
  obtain ⟨m9, methY, cY, hn9, hmY, hcY, -, hlY, -⟩ := Cond.codeWith_spec h2
  cases Option.some.inj (hn9.symm.trans hn)
  obtain ⟨kY, hkY, -⟩ := className_of_methodNamed hn
  have hinitY : kY.init = .initialized := Cond.initialized_spec (findClass_of_methodNamed hn) hkY h3
  have h : At U g.method c below := by rw [hg]; exact X.here
  have hlocals9 : W9 + (maxL + 11) + (headSpec ws rm).room.locals ≤ R.locals := hlocals
  have happ : (headSpec ws rm).appliesLoose y e.platform (U.calling g mk a) = true :=
    Spec.appliesLoose_calling (g := g) h hdg hn hkY hinitY
      (X.room_calling (g := g) (R' := (headSpec ws rm).room) hsize hmY hcY hframes (by rw [hlY]; omega) h4 h5) h1
  obtain ⟨mid, hmid⟩ := h.above
  have hfr : (U.setTop g).frames = (.java g :: mid) ++ below := by rw [State.frames_setTop' g h.top, hmid]; rfl
  obtain ⟨o, s₂, hsteps, -, hend, hq⟩ := Steps.callFree hM p X.admits X.cas X.clock (acts := []) hfr happ hPc trivial
  have hq' : vx_Q Qc XC mc ms free a (U.calling g mk a) o s₂ := hq
  rw [State.frames_setTop' g h.top] at hend
  obtain ⟨g₀, hg0⟩ := Option.isSome_iff_exists.mp h.top
  obtain ⟨r, hr⟩ := State.topJava?_eq_some.mp hg0
  have hr' : (({ U with heap := s₂.heap, slotsUsed := s₂.slotsUsed } : State).setVm s₂.vm).frames = .java g₀ :: r := hr
  rcases hq' with ⟨hqc, L, hfe, hL⟩ | ⟨q, rfl, E, ce, L, hx, hce, hcv, hcl, hW₂, hsm, hL⟩
  · obtain ⟨⟨v, rfl⟩, hW₂, e2, q2, q3, q4, q5, q6⟩ := id hfe
    have e3 : s₂ = ({ (U.calling g mk a).setFrames s₂.frames with heap := s₂.heap, slotsUsed := s₂.slotsUsed } : State).setVm s₂.vm := by
      have : s₂ = ({ s₂ with vm := (U.calling g mk a).vm } : State).setVm s₂.vm := rfl
      rw [e2] at this
      exact this
    obtain ⟨c₂, i₂, len₂, hc₂, hd₂, hf₂⟩ := hend
    have hW' : U.WarmedH s₂.vm := hW₂
    have hcc : c₂ = c := by
      have h1 : s₂.code? g.method = U.code? g.method := by
        rw [State.code?_eq, State.code?_eq, hW'.alike.method?]
      exact Option.some.inj (hc₂.symm.trans (h1.trans h.code))
    subst hcc
    have hlen : len₂ = len := by rw [hdg] at hd₂; cases hd₂; rfl
    subst hlen
    have hs₂ : s₂ = (({ U with heap := s₂.heap, slotsUsed := s₂.slotsUsed } : State).setVm s₂.vm).setTop { g with pc := g.pc + len₂, stack := v.toList ++ g.stack } := by
      refine e3.trans ?_
      rw [hf₂, State.calling_eq h.top, State.setFrames_setFrames, State.setTop_of_frames _ hr', hr]
      rfl
    have hsame : U.sameButNew ({ U with heap := s₂.heap, slotsUsed := s₂.slotsUsed } : State) L mc ms := by
      refine ⟨?_, q2, q3, q4, q5, q6⟩
      obtain ⟨t, ht, -⟩ := State.frames_cons hr
      show ({ U with heap := s₂.heap, slotsUsed := s₂.slotsUsed } : State) = { U.setFrames U.frames with heap := s₂.heap, slotsUsed := s₂.slotsUsed }
      rw [State.setFrames_self ht]
    subst hg
    refine Or.inl ⟨v, ⟨(({ U with heap := s₂.heap, slotsUsed := s₂.slotsUsed } : State).setVm s₂.vm), Ls ++ L, c0 + mc, s0 + ms⟩,
      ⟨X.admits, X.cas, X.clock, X.frames, X.room, X.hears, X.method, X.code, (X.here.setHeapUsed s₂.heap s₂.slotsUsed).setVm hW'.alike, X.tail, State.WarmedH.trans X.warmed hW', X.limits, X.bytes, X.same.trans (hsame.setVm s.vm)⟩,
      ⟨g, mk, s₂, L, rfl, rfl, hqc, rfl, hL, rfl, rfl⟩, ?_⟩
    show Steps p.tables e below _ ((({ U with heap := s₂.heap, slotsUsed := s₂.slotsUsed } : State).setVm s₂.vm).setTop { g with pc := g.pc + len₂, stack := v.toList ++ g.stack })
    rw [← hs₂]
    exact hsteps
  · obtain ⟨e2, q2, q3, q4, q5, q6⟩ := id hsm
    have e3 : s₂ = ({ (U.calling g mk a).setFrames s₂.frames with heap := s₂.heap, slotsUsed := s₂.slotsUsed } : State).setVm s₂.vm := by
      have : s₂ = ({ s₂ with vm := (U.calling g mk a).vm } : State).setVm s₂.vm := rfl
      rw [e2] at this
      exact this
    have hf₂ : s₂.frames = .throwing q :: .java g :: U.frames.tail := hend
    have hW' : U.WarmedH s₂.vm := hW₂
    have hs₂ : s₂ = ((({ U with heap := s₂.heap, slotsUsed := s₂.slotsUsed } : State).setVm s₂.vm).setTop g).pushFrame (.throwing q) := by
      refine e3.trans ?_
      rw [hf₂, State.calling_eq h.top, State.setFrames_setFrames, State.pushFrame, State.frames_setTop _ hr', State.setTop_of_frames _ hr', State.setFrames_setFrames, hr]
      rfl
    have hsame : U.sameButNew ({ U with heap := s₂.heap, slotsUsed := s₂.slotsUsed } : State) L mc ms := by
      refine ⟨?_, q2, q3, q4, q5, q6⟩
      obtain ⟨t, ht, -⟩ := State.frames_cons hr
      show ({ U with heap := s₂.heap, slotsUsed := s₂.slotsUsed } : State) = { U.setFrames U.frames with heap := s₂.heap, slotsUsed := s₂.slotsUsed }
      rw [State.setFrames_self ht]
    subst hg
    refine Or.inr ⟨q, ⟨(({ U with heap := s₂.heap, slotsUsed := s₂.slotsUsed } : State).setVm s₂.vm), Ls ++ L, c0 + mc, s0 + ms⟩,
      ⟨X.admits, X.cas, X.clock, X.frames, X.room, X.hears, X.method, X.code, (X.here.setHeapUsed s₂.heap s₂.slotsUsed).setVm hW'.alike, X.tail, State.WarmedH.trans X.warmed hW', X.limits, X.bytes, X.same.trans (hsame.setVm s.vm)⟩,
      ⟨g, mk, s₂, L, E, ce, rfl, rfl, hx, hce, hcv, hcl, rfl, hL, rfl, rfl⟩, ?_⟩
    show Steps p.tables e below _ (((({ U with heap := s₂.heap, slotsUsed := s₂.slotsUsed } : State).setVm s₂.vm).setTop g).pushFrame (.throwing q))
    rw [← hs₂]
    exact hsteps
end
variable {p : Program} {l : Launch} {e : Env} {R : Room} {s : State} {m : MethodId} {args : Array Value} {below : List Frame} {meth : Method} {c : Code} {T : State} {H : Heap} {locs : List Loc} {cells slots : Nat}
theorem vx_callVX (X : Stand p l e R s m args below meth c T locs cells slots) (hexec : p.tables.exec = Jvm.exec) {own C : String} {index : Nat} {y : MethodName} {bytes : ByteArray} {maxL : Nat} {ret : Option FieldType} {hh : List (Nat × Nat × Nat × Nat)}
    (hown : s.vm.findClass own = some m.cls) (hlink : (Cond.methodLink own index y).before args s = true) (hinst : (Cond.instanceMethod y).before args s = true) (hsel : (Cond.selects C y y).before args s = true)
    (hcode : (Cond.codeWith y bytes maxL ret hh).before args s = true) (hy : y.cls ≠ "java/lang/invoke/MethodHandle" ∧ y.cls ≠ "java/lang/invoke/VarHandle")
    {W9 : Nat} {Pre : Pt → Array Value → Prop} {Post : Pt → Array Value → Option Value → Pt → Prop} {PostX : Pt → Array Value → Addr → Pt → Prop} (hK : vx_Back l R p e below s args y 3 W9 Pre Post PostX)
    {b : Addr} {cellB : Cell} (hcell : T.heap[b]? = some cellB) (hobj : cellB.vm.isStatics = false) (hcls : s.vm.findClass C = some cellB.cls)
    {g : JFrame} (hg : g.method = m) (hsize : g.locals.size = c.maxLocals) {argsL rest : List Value} (hlen : ∀ sig, parseMethodDescriptor y.desc = some sig → argsL.length = sig.parameters.length)
    (hstack : g.stack = argsL.reverse ++ .ref b :: rest) (hW : 2 * g.monitorRoom + (rest.map fun v => v.category).sum ≤ W9) (hdg : decode c.code g.pc = .ok (.invokevirtual index, 3))
    (hpre : ∀ vm₁, s.WarmedH vm₁ → Pre ⟨T.setVm vm₁, locs, cells, slots⟩ (Value.ref b :: argsL).toArray) :
    (∃ (v : Option Value) (vm₁ : Vm) (B : Pt), s.WarmedH vm₁ ∧ Stand p l e R s m args below meth c B.U B.locs B.cells B.slots ∧ Post ⟨T.setVm vm₁, locs, cells, slots⟩ (Value.ref b :: argsL).toArray v B ∧
      ∀ target, Steps p.tables e below (B.U.setTop { g with pc := g.pc + 3, stack := v.toList ++ rest }) target → Steps p.tables e below (T.setTop g) target) ∨
    (∃ (q : Addr) (vm₁ : Vm) (B : Pt), s.WarmedH vm₁ ∧ Stand p l e R s m args below meth c B.U B.locs B.cells B.slots ∧ PostX ⟨T.setVm vm₁, locs, cells, slots⟩ (Value.ref b :: argsL).toArray q B ∧
      Steps p.tables e below (T.setTop g) ((B.U.setTop { g with stack := rest }).pushFrame (.throwing q))) := by
  obtain ⟨mk, methM, hnamed, hmethM, hstM, habM⟩ := Cond.instanceMethod_spec hinst
  obtain ⟨m8, methM', cM, hn8, hmethM', -, -, -, -, -, -, hsigM⟩ := Cond.codeWith_spec hcode
  cases Option.some.inj (hn8.symm.trans hnamed)
  cases hmethM.symm.trans hmethM'
  obtain ⟨c2, r2, m2, q1, q2, q3, q4, kP, hkP, hkPi⟩ := Cond.selects_spec hsel
  cases hcls.symm.trans q1
  cases (State.methodFound?_of_named hnamed hy).symm.trans q2
  cases hnamed.symm.trans q3
  have hselP : selectMethod e.platform s.vm cellB.cls mk = .method mk := by rw [Launch.admits_selectMethod X.admits]; exact q4
  obtain ⟨vm₁, X₁, hstep₁⟩ := X.invokevirtual hexec hown hlink hnamed hmethM hstM hkP hkPi hy (a := b) (cell := cellB) hcell
    (fun z h => by rw [h] at hobj; cases hobj) hselP hmethM habM hkP hkPi (g := g) hg (argsL := argsL) (rest := rest) (hlen _ hsigM) hstack hdg
  rcases hK m meth c ⟨T.setVm vm₁, locs, cells, slots⟩ { g with stack := rest } (.invokevirtual index) mk (Value.ref b :: argsL).toArray X₁ hg hsize hdg hW (X₁.named hnamed) (hpre vm₁ X₁.warmed) with ⟨v, B, X', hpost, hsteps⟩ | ⟨q, B, X', hpost, hsteps⟩
  · exact Or.inl ⟨v, vm₁, B, X₁.warmed, X', hpost, fun target h => hstep₁ _ fun acts => by rw [doInvoke_state]; exact hsteps.trans h⟩
  · exact Or.inr ⟨q, vm₁, B, X₁.warmed, X', hpost, hstep₁ _ fun acts => by rw [doInvoke_state]; exact hsteps⟩
theorem vx_callSX (X : Stand p l e R s m args below meth c T locs cells slots) (hexec : p.tables.exec = Jvm.exec) {own : String} {index : Nat} {y : MethodName} {bytes : ByteArray} {maxL : Nat} {ret : Option FieldType} {hh : List (Nat × Nat × Nat × Nat)}
    (hown : s.vm.findClass own = some m.cls) (hlink : (Cond.methodLink own index y).before args s = true) (hstat : (Cond.static y).before args s = true) (hinit : (Cond.initialized y.cls).before args s = true)
    (hcode : (Cond.codeWith y bytes maxL ret hh).before args s = true) (hy : y.cls ≠ "java/lang/invoke/MethodHandle" ∧ y.cls ≠ "java/lang/invoke/VarHandle")
    {W9 : Nat} {Pre : Pt → Array Value → Prop} {Post : Pt → Array Value → Option Value → Pt → Prop} {PostX : Pt → Array Value → Addr → Pt → Prop} (hK : vx_Back l R p e below s args y 3 W9 Pre Post PostX)
    {g : JFrame} (hg : g.method = m) (hsize : g.locals.size = c.maxLocals) {argsL rest : List Value} (hlen : ∀ sig, parseMethodDescriptor y.desc = some sig → argsL.length = sig.parameters.length)
    (hstack : g.stack = argsL.reverse ++ rest) (hW : 2 * g.monitorRoom + (rest.map fun v => v.category).sum ≤ W9) (hdg : decode c.code g.pc = .ok (.invokestatic index, 3))
    (hpre : ∀ vm₁, s.WarmedH vm₁ → Pre ⟨T.setVm vm₁, locs, cells, slots⟩ argsL.toArray) :
    (∃ (v : Option Value) (vm₁ : Vm) (B : Pt), s.WarmedH vm₁ ∧ Stand p l e R s m args below meth c B.U B.locs B.cells B.slots ∧ Post ⟨T.setVm vm₁, locs, cells, slots⟩ argsL.toArray v B ∧
      ∀ target, Steps p.tables e below (B.U.setTop { g with pc := g.pc + 3, stack := v.toList ++ rest }) target → Steps p.tables e below (T.setTop g) target) ∨
    (∃ (q : Addr) (vm₁ : Vm) (B : Pt), s.WarmedH vm₁ ∧ Stand p l e R s m args below meth c B.U B.locs B.cells B.slots ∧ PostX ⟨T.setVm vm₁, locs, cells, slots⟩ argsL.toArray q B ∧
      Steps p.tables e below (T.setTop g) ((B.U.setTop { g with stack := rest }).pushFrame (.throwing q))) := by
  obtain ⟨mk, methM, cM, hnamed, hmethM, -, -, -, -, -, -, hsigM⟩ := Cond.codeWith_spec hcode
  have hstatic : methM.isStatic = true := Cond.static_spec hnamed hmethM hstat
  obtain ⟨kP, hkP, -⟩ := className_of_methodNamed hnamed
  have hinitP : kP.init = .initialized := Cond.initialized_spec (findClass_of_methodNamed hnamed) hkP hinit
  obtain ⟨vm₁, X₁, hstep₁⟩ := X.invokestatic hexec hown hlink hnamed hmethM hstatic hkP hinitP hy (g := g) hg (argsL := argsL) (rest := rest) (hlen _ hsigM) hstack hdg
  rcases hK m meth c ⟨T.setVm vm₁, locs, cells, slots⟩ { g with stack := rest } (.invokestatic index) mk argsL.toArray X₁ hg hsize hdg hW (X₁.named hnamed) (hpre vm₁ X₁.warmed) with ⟨v, B, X', hpost, hsteps⟩ | ⟨q, B, X', hpost, hsteps⟩
  · exact Or.inl ⟨v, vm₁, B, X₁.warmed, X', hpost, fun target h => hstep₁ _ fun acts => by rw [doInvoke_state]; exact hsteps.trans h⟩
  · exact Or.inr ⟨q, vm₁, B, X₁.warmed, X', hpost, hstep₁ _ fun acts => by rw [doInvoke_state]; exact hsteps⟩
theorem vx_callVW (X : Stand p l e R s m args below meth c T locs cells slots) (hexec : p.tables.exec = Jvm.exec) {own C : String} {index : Nat} {y : MethodName} {bytes : ByteArray} {maxL : Nat} {ret : Option FieldType} {hh : List (Nat × Nat × Nat × Nat)}
    (hown : s.vm.findClass own = some m.cls) (hlink : (Cond.methodLink own index y).before args s = true) (hinst : (Cond.instanceMethod y).before args s = true) (hsel : (Cond.selects C y y).before args s = true)
    (hcode : (Cond.codeWith y bytes maxL ret hh).before args s = true) (hy : y.cls ≠ "java/lang/invoke/MethodHandle" ∧ y.cls ≠ "java/lang/invoke/VarHandle")
    {W9 : Nat} {Pre : Pt → Array Value → Prop} {Post : Pt → Array Value → Option Value → Pt → Prop} (hK : Back l R p e below s args y 3 W9 Pre Post)
    {b : Addr} {cellB : Cell} (hcell : T.heap[b]? = some cellB) (hobj : cellB.vm.isStatics = false) (hcls : s.vm.findClass C = some cellB.cls)
    {g : JFrame} (hg : g.method = m) (hsize : g.locals.size = c.maxLocals) {argsL rest : List Value} (hlen : ∀ sig, parseMethodDescriptor y.desc = some sig → argsL.length = sig.parameters.length)
    (hstack : g.stack = argsL.reverse ++ .ref b :: rest) (hW : 2 * g.monitorRoom + (rest.map fun v => v.category).sum ≤ W9) (hdg : decode c.code g.pc = .ok (.invokevirtual index, 3))
    (hpre : ∀ vm₁, s.WarmedH vm₁ → Pre ⟨T.setVm vm₁, locs, cells, slots⟩ (Value.ref b :: argsL).toArray) :
    ∃ (v : Option Value) (vm₁ : Vm) (B : Pt), s.WarmedH vm₁ ∧ Stand p l e R s m args below meth c B.U B.locs B.cells B.slots ∧ Post ⟨T.setVm vm₁, locs, cells, slots⟩ (Value.ref b :: argsL).toArray v B ∧
      ∀ target, Steps p.tables e below (B.U.setTop { g with pc := g.pc + 3, stack := v.toList ++ rest }) target → Steps p.tables e below (T.setTop g) target := by
  obtain ⟨mk, methM, hnamed, hmethM, hstM, habM⟩ := Cond.instanceMethod_spec hinst
  obtain ⟨m8, methM', cM, hn8, hmethM', -, -, -, -, -, -, hsigM⟩ := Cond.codeWith_spec hcode
  cases Option.some.inj (hn8.symm.trans hnamed)
  cases hmethM.symm.trans hmethM'
  obtain ⟨c2, r2, m2, q1, q2, q3, q4, kP, hkP, hkPi⟩ := Cond.selects_spec hsel
  cases hcls.symm.trans q1
  cases (State.methodFound?_of_named hnamed hy).symm.trans q2
  cases hnamed.symm.trans q3
  have hselP : selectMethod e.platform s.vm cellB.cls mk = .method mk := by rw [Launch.admits_selectMethod X.admits]; exact q4
  obtain ⟨vm₁, X₁, hstep₁⟩ := X.invokevirtual hexec hown hlink hnamed hmethM hstM hkP hkPi hy (a := b) (cell := cellB) hcell
    (fun z h => by rw [h] at hobj; cases hobj) hselP hmethM habM hkP hkPi (g := g) hg (argsL := argsL) (rest := rest) (hlen _ hsigM) hstack hdg
  obtain ⟨v, B, X', hpost, hsteps⟩ := hK m meth c ⟨T.setVm vm₁, locs, cells, slots⟩ { g with stack := rest } (.invokevirtual index) mk (Value.ref b :: argsL).toArray X₁ hg hsize hdg hW (X₁.named hnamed) (hpre vm₁ X₁.warmed)
  exact ⟨v, vm₁, B, X₁.warmed, X', hpost, fun target h => hstep₁ _ fun acts => by rw [doInvoke_state]; exact hsteps.trans h⟩
abbrev vx_CVW (R : Room) (s : State) (args : Array Value) (own C : String) (index : Nat) (y : MethodName) (bytes : ByteArray) (maxL : Nat) (ret : Option FieldType) (hh : List (Nat × Nat × Nat × Nat)) (ws : List Cond) (rm : Room) (mc ms n : Nat) : Prop :=
  (rm.cells = mc ∧ rm.slots = ms ∧ rm.frames + 1 ≤ R.frames ∧ 8 + (maxL + 11) + rm.locals ≤ R.locals ∧ (∀ w ∈ ws, ∀ (a' : Array Value) (U : State), s.WarmedH U.vm → w.before a' U = true) ∧ Cond.codeWith y bytes maxL ret hh ∈ ws) ∧
  (Cond.codeWith y bytes maxL ret hh).before args s = true ∧ (Cond.initialized y.cls).before args s = true ∧ (y.cls ≠ "java/lang/invoke/MethodHandle" ∧ y.cls ≠ "java/lang/invoke/VarHandle") ∧
  (∀ sig, parseMethodDescriptor y.desc = some sig → n = sig.parameters.length) ∧ (Cond.methodLink own index y).before args s = true ∧ (Cond.instanceMethod y).before args s = true ∧ (Cond.selects C y y).before args s = true
theorem vx_cwVW {own C : String} {index maxL mc ms : Nat} {y : MethodName} {bytes : ByteArray} {ret : Option FieldType} {hh : List (Nat × Nat × Nat × Nat)} {Ts ws ws' : List Cond} {rm : Room} (n : Nat) (ht : ∀ w ∈ Ts, w.before args s = true) (hT : GoodIn Ts (wsV own index C y ws)) (hw : ws = Cond.codeWith y bytes maxL ret hh :: ws') (hrc : rm.cells = mc) (hrs : rm.slots = ms)
    (hd : y.cls = C ∧ y.cls ≠ "java/lang/invoke/MethodHandle" ∧ y.cls ≠ "java/lang/invoke/VarHandle" ∧ (parseMethodDescriptor y.desc).map (fun d => d.parameters.length) = some n) (hR : rm.frames + 1 ≤ R.frames ∧ 8 + (maxL + 11) + rm.locals ≤ R.locals) :
    vx_CVW R s args own C index y bytes maxL ret hh ws rm mc ms n := by
  obtain ⟨hC, hd⟩ := hd
  subst hC
  have ok : ∀ w ∈ wsV own index y.cls y ws, w.before args s = true := fun w h => ht w (hT w h).1
  have hG : GoodIn Ts ws := fun w h => hT w (by unfold wsV; exact List.mem_append_right _ h)
  have hc : Cond.codeWith y bytes maxL ret hh ∈ ws := by rw [hw]; exact List.mem_cons_self
  refine ⟨⟨hrc, hrs, hR.1, hR.2, pay_in ht hG, hc⟩, ht _ (hG _ hc).1, ok _ (by simp [wsV]), ⟨hd.1, hd.2.1⟩, fun sig h => ?_, ok _ (by simp [wsV]), ok _ (by simp [wsV]), ok _ (by simp [wsV])⟩
  have h2 := hd.2.2
  rw [h] at h2
  exact (Option.some.inj h2).symm
theorem vx_runVW {y : MethodName} {bytes cc : ByteArray} {maxL nL mc ms n index : Nat} {ret : Option FieldType} {hh : List (Nat × Nat × Nat × Nat)} {ws : List Cond} {rm : Room} {Pc : Array Value → State → Prop} {Qc : Array Value → State → Outcome → State → Prop} {free : Addr → Prop} {Ts : List Cond} {own C : String} {b : Addr} {As rest : List Value} {g : JFrame}
    (S : CallFix p m c cc nL s args Ts own) (hM : Met l y ws rm Pc Qc mc ms free) (cw : vx_CVW R s args own C index y bytes maxL ret hh ws rm mc ms n) (hp : PreV s H C b Pc As)
    (hg : g.method = m) (hn : As.length = n) (hsize : g.locals.size = nL) (hstack : g.stack = As.reverse ++ .ref b :: rest) (hW : 2 * g.monitorRoom + (rest.map fun v => v.category).sum ≤ 8) (hdg : decode cc g.pc = .ok (.invokevirtual index, 3)) (hf : cells + mc ≤ R.cells ∧ slots + ms ≤ R.slots) :
    va_Run p l e R s m args below meth c H locs cells slots mc ms g rest (Qc (Value.ref b :: As).toArray) free := by
  obtain ⟨⟨hrc, hrs, hfr, hlo, hws, hcw⟩, hcode, hini, hy, hlen, hl, hin, hse⟩ := cw
  have hK : Back l R p e below s args y 3 8 (PreOf R mc ms Pc) (PostOf Qc mc ms free) := va_backW (hh := hh) (bytes := bytes) (maxL := maxL) (ret := ret) hM hp.1 hrc hrs hfr hlo hws hcw (fun a' U hW => word_at hW (Or.inl (by first | rfl | simp [Cond.onTables, Cond.keeps, Cond.steady])) hini)
  obtain ⟨hx, hb, hml, ho, -⟩ := S
  obtain ⟨-, ⟨cellB, hcB, hoB, hclB⟩, hPc⟩ := hp
  intro T hT X
  obtain ⟨v, vm₁, ⟨U', l2, c2, s2⟩, hW₁, X', ⟨g', mk, t, L, e1, e2, hq, h1, hL, h2, h3⟩, st⟩ := vx_callVW X hx (C := C) (hh := hh) (bytes := bytes) (maxL := maxL) (ret := ret) ho hl hin hse hcode hy hK (by rw [hT]; exact hcB) hoB hclB hg (hsize.trans hml.symm) (argsL := As) (rest := rest) (fun sig h => hn.trans (hlen sig h)) hstack hW (by rw [hb]; exact hdg)
    (fun vm₁ hW₁ => ⟨hf.1, hf.2, hPc (T.setVm vm₁) hT hW₁⟩)
  dsimp only [Pt.U, Pt.locs, Pt.cells, Pt.slots] at X' e1 e2 h1 h2 h3 st
  subst h1; subst h2; subst h3
  exact ⟨v, (T.setVm vm₁).calling g' mk (Value.ref b :: As).toArray, t, U', L, hT, X', hL, e1, e2, hq, st⟩
section
variable {y : MethodName} {bytes cc : ByteArray} {maxL nL mc ms n index : Nat} {ret : Option FieldType} {ws : List Cond} {rm : Room} {Pc : Array Value → State → Prop} {Qc : Array Value → State → Outcome → State → Prop} {XC : String → State → State → Prop} {free : Addr → Prop} {Ts : List Cond} {own C : String} {b : Addr} {As rest : List Value} {g : JFrame}
theorem vx_runVX {hh : List (Nat × Nat × Nat × Nat)} (S : CallFix p m c cc nL s args Ts own) (hM : vx_Met l y ws rm Pc Qc XC mc ms free) (cw : vx_CVW R s args own C index y bytes maxL ret hh ws rm mc ms n) (hp : PreV s H C b Pc As)
    (hg : g.method = m) (hn : As.length = n) (hsize : g.locals.size = nL) (hstack : g.stack = As.reverse ++ .ref b :: rest) (hW : 2 * g.monitorRoom + (rest.map fun v => v.category).sum ≤ 8) (hdg : decode cc g.pc = .ok (.invokevirtual index, 3)) (hf : cells + mc ≤ R.cells ∧ slots + ms ≤ R.slots) :
    vx_Run p l e R s m args below meth c H locs cells slots mc ms g rest (Qc (Value.ref b :: As).toArray) XC free := by
  obtain ⟨⟨hrc, hrs, hfr, hlo, hws, hcw⟩, hcode, hini, hy, hlen, hl, hin, hse⟩ := cw
  have hK : vx_Back l R p e below s args y 3 8 (PreOf R mc ms Pc) (PostOf Qc mc ms free) (vx_Post XC mc ms free) := vx_backW (hh := hh) (bytes := bytes) (maxL := maxL) (ret := ret) hM hp.1 hrc hrs hfr hlo hws hcw (fun a' U hW => word_at hW (Or.inl (by first | rfl | simp [Cond.onTables, Cond.keeps, Cond.steady])) hini)
  obtain ⟨hx, hb, hml, ho, -⟩ := S
  obtain ⟨-, ⟨cellB, hcB, hoB, hclB⟩, hPc⟩ := hp
  intro T hT X
  rcases vx_callVX X hx (C := C) (hh := hh) (bytes := bytes) (maxL := maxL) (ret := ret) ho hl hin hse hcode hy hK (by rw [hT]; exact hcB) hoB hclB hg (hsize.trans hml.symm) (argsL := As) (rest := rest) (fun sig h => hn.trans (hlen sig h)) hstack hW (by rw [hb]; exact hdg)
    (fun vm₁ hW₁ => ⟨hf.1, hf.2, hPc (T.setVm vm₁) hT hW₁⟩) with ⟨v, vm₁, ⟨U', l2, c2, s2⟩, hW₁, X', ⟨g', mk, t, L, e1, e2, hq, h1, hL, h2, h3⟩, st⟩ | ⟨q, vm₁, ⟨U', l2, c2, s2⟩, hW₁, X', ⟨g', mk, t, L, E, ce, e1, e2, hq, hce, hcv, hcl, h1, hL, h2, h3⟩, st⟩
  · dsimp only [Pt.U, Pt.locs, Pt.cells, Pt.slots] at X' e1 e2 h1 h2 h3 st
    subst h1; subst h2; subst h3
    exact Or.inl ⟨v, (T.setVm vm₁).calling g' mk (Value.ref b :: As).toArray, t, U', L, hT, X', hL, e1, e2, hq, st⟩
  · dsimp only [Pt.U, Pt.locs, Pt.cells, Pt.slots] at X' e1 e2 h1 h2 h3 st hcl
    subst h1; subst h2; subst h3
    exact Or.inr ⟨q, (T.setVm vm₁).calling g' mk (Value.ref b :: As).toArray, t, U', L, E, ce, hT, X', hL, e1, e2, hq, hce, hcv, vx_cls hW₁ hcl, st⟩
theorem vx_runSX {hh : List (Nat × Nat × Nat × Nat)} (S : CallFix p m c cc nL s args Ts own) (hM : vx_Met l y ws rm Pc Qc XC mc ms free) (cw : vx_CSW R s args own index y bytes maxL ret hh ws rm mc ms n) (hp : PreS s H Pc As)
    (hg : g.method = m) (hn : As.length = n) (hsize : g.locals.size = nL) (hstack : g.stack = As.reverse ++ rest) (hW : 2 * g.monitorRoom + (rest.map fun v => v.category).sum ≤ 8) (hdg : decode cc g.pc = .ok (.invokestatic index, 3)) (hf : cells + mc ≤ R.cells ∧ slots + ms ≤ R.slots) :
    vx_Run p l e R s m args below meth c H locs cells slots mc ms g rest (Qc As.toArray) XC free := by
  obtain ⟨⟨hrc, hrs, hfr, hlo, hws, hcw⟩, hcode, hini, hy, hlen, hl, hstt⟩ := cw
  have hK : vx_Back l R p e below s args y 3 8 (PreOf R mc ms Pc) (PostOf Qc mc ms free) (vx_Post XC mc ms free) := vx_backW (hh := hh) (bytes := bytes) (maxL := maxL) (ret := ret) hM hp.1 hrc hrs hfr hlo hws hcw (fun a' U hW => word_at hW (Or.inl (by first | rfl | simp [Cond.onTables, Cond.keeps, Cond.steady])) hini)
  obtain ⟨hx, hb, hml, ho, -⟩ := S
  intro T hT X
  rcases vx_callSX X hx (hh := hh) (bytes := bytes) (maxL := maxL) (ret := ret) ho hl hstt hini hcode hy hK hg (hsize.trans hml.symm) (argsL := As) (rest := rest) (fun sig h => hn.trans (hlen sig h)) hstack hW (by rw [hb]; exact hdg)
    (fun vm₁ hW₁ => ⟨hf.1, hf.2, hp.2 (T.setVm vm₁) hT hW₁⟩) with ⟨v, vm₁, ⟨U', l2, c2, s2⟩, hW₁, X', ⟨g', mk, t, L, e1, e2, hq, h1, hL, h2, h3⟩, st⟩ | ⟨q, vm₁, ⟨U', l2, c2, s2⟩, hW₁, X', ⟨g', mk, t, L, E, ce, e1, e2, hq, hce, hcv, hcl, h1, hL, h2, h3⟩, st⟩
  · dsimp only [Pt.U, Pt.locs, Pt.cells, Pt.slots] at X' e1 e2 h1 h2 h3 st
    subst h1; subst h2; subst h3
    exact Or.inl ⟨v, (T.setVm vm₁).calling g' mk As.toArray, t, U', L, hT, X', hL, e1, e2, hq, st⟩
  · dsimp only [Pt.U, Pt.locs, Pt.cells, Pt.slots] at X' e1 e2 h1 h2 h3 st hcl
    subst h1; subst h2; subst h3
    exact Or.inr ⟨q, (T.setVm vm₁).calling g' mk As.toArray, t, U', L, E, ce, hT, X', hL, e1, e2, hq, hce, hcv, vx_cls hW₁ hcl, st⟩
end
end VXH
theorem vx_ofWH {l : Launch} {y : MethodName} {ws ws' : List Cond} {rm : Room} {Pc : Array Value → State → Prop} {Qc : Array Value → State → Outcome → State → Prop} {XC : String → State → State → Prop} {mc ms : Nat} {free : Addr → Prop} {cc : ByteArray} {maxL : Nat} {ret : Option FieldType} {hh : List (Nat × Nat × Nat × Nat)}
    (hy : plainName y.cls = true) (hw : ws = Cond.codeWith y cc maxL ret hh :: ws')
    (body : ∀ p e s m args below meth c s₁, BodyLoose p l y (headSpec ws rm) cc maxL ret e s m args below meth c s₁ → c.maxLocals = maxL → Pc args s →
      W p l e (headSpec ws rm).room s m args below meth c s.heap [] 0 0 (vx_MQ below Qc XC args s mc ms free) (entryFrame m args maxL)) : vx_Met l y ws rm Pc Qc XC mc ms free := by
  refine MetFree.of_bodyS (code := cc) (maxLocals := maxL) (ret := ret) hy ?_ ?_
  · intro args s m h hn
    obtain ⟨m9, meth, c, hn9, h1, h2, h3, h4, -, h5, h6, -⟩ := Cond.codeWith_spec (atoms_spec (ws := ws) h _ (by rw [hw]; exact List.mem_cons_self))
    cases hn.symm.trans hn9
    exact ⟨meth, c, h1, h2, h3, h4, h5, h6⟩
  · intro p e s m args below meth c s₁ B hml hP _
    have hh0 : s₁.heap = s.heap := by rw [B.state]; rfl
    obtain ⟨t, a1, o, b1, b2, b3⟩ := body p e s m args below meth c s₁ B hml hP s₁ hh0 (Stand.of_body B)
    exact ⟨t, o, a1, b1, b2, b3⟩
/-! ===== END ===== -/
end
section
/-! ===== BEGIN printed: names, fields, word lists, decode rows ===== -/
def RX0 : String := "PaintballAtlas$Calls"
def TX0 : u_T := fun k => match k with
  | 0 => ("PaintballAtlas$Calls", "count", "I", false)
  | 1 => ("PaintballAtlas$Calls", "players", "[I", true)
  | 2 => ("PaintballAtlas$Calls", "cells", "[I", true)
  | 3 => ("PaintballAtlas$Calls", "ticks", "[I", true)
  | _ => ("PaintballAtlas$Calls", "disputed", "[Z", true)
def tyX0 : Nat → FieldType := fun k => match k with
  | 0 => .int
  | 1 => .array .int
  | 2 => .array .int
  | 3 => .array .int
  | _ => .array .boolean
abbrev wsX00 : List Cond := u_ws RX0 TX0 5
theorem nmX0 : ∀ a, a < 5 → ∀ b, b < 5 → a ≠ b → (TX0 a).2.1 ≠ (TX0 b).2.1 := by decide +kernel
theorem tyX0_ok : ∀ k, k < 5 → parseFieldDescriptor (TX0 k).2.2.1 = some (tyX0 k) := by decide +kernel
abbrev cX0_init : ByteArray := prog_2_method_1_code
def yX0_init : MethodName := ⟨RX0, "<init>", "()V"⟩
abbrev cX0_add : ByteArray := prog_2_method_2_code
def yX0_add : MethodName := ⟨RX0, "add", "(III)I"⟩
def RX1 : String := "PaintballAtlas$Field"
def TX1 : u_T := fun k => match k with
  | _ => ("PaintballAtlas$Field", "bunkers", "[Z", true)
def tyX1 : Nat → FieldType := fun k => match k with
  | _ => .array .boolean
abbrev wsX10 : List Cond := u_ws RX1 TX1 1
theorem nmX1 : ∀ a, a < 1 → ∀ b, b < 1 → a ≠ b → (TX1 a).2.1 ≠ (TX1 b).2.1 := by decide +kernel
theorem tyX1_ok : ∀ k, k < 1 → parseFieldDescriptor (TX1 k).2.2.1 = some (tyX1 k) := by decide +kernel
abbrev cX1_init : ByteArray := prog_3_method_1_code
def yX1_init : MethodName := ⟨RX1, "<init>", "()V"⟩
abbrev cX1_distance : ByteArray := prog_3_method_2_code
def yX1_distance : MethodName := ⟨RX1, "distance", "(II)I"⟩
abbrev cX1_hasBunker : ByteArray := prog_3_method_3_code
def yX1_hasBunker : MethodName := ⟨RX1, "hasBunker", "(I)Z"⟩
abbrev cX1_turnBunker : ByteArray := prog_3_method_4_code
def yX1_turnBunker : MethodName := ⟨RX1, "turnBunker", "(I)Z"⟩
abbrev cX1_countSeen : ByteArray := prog_3_method_5_code
def yX1_countSeen : MethodName := ⟨RX1, "countSeen", "(I)I"⟩
abbrev cX1_hasSight : ByteArray := prog_3_method_6_code
def yX1_hasSight : MethodName := ⟨RX1, "hasSight", "(II)Z"⟩
abbrev cX1_lineEnters : ByteArray := prog_3_method_7_code
def yX1_lineEnters : MethodName := ⟨RX1, "lineEnters", "(III)Z"⟩
def RX2 : String := "PaintballAtlas$Round"
def TX2 : u_T := fun k => match k with
  | 0 => ("PaintballAtlas$Round", "home", "I", false)
  | 1 => ("PaintballAtlas$Round", "away", "I", false)
  | 2 => ("PaintballAtlas$Round", "tick", "I", false)
  | 3 => ("PaintballAtlas$Round", "cells", "[I", true)
  | 4 => ("PaintballAtlas$Round", "hits", "[I", true)
  | 5 => ("PaintballAtlas$Round", "lastShots", "[I", true)
  | 6 => ("PaintballAtlas$Round", "shots", "LPaintballAtlas$Shots;", true)
  | _ => ("PaintballAtlas$Round", "calls", "LPaintballAtlas$Calls;", true)
def tyX2 : Nat → FieldType := fun k => match k with
  | 0 => .int
  | 1 => .int
  | 2 => .int
  | 3 => .array .int
  | 4 => .array .int
  | 5 => .array .int
  | 6 => .object "PaintballAtlas$Shots"
  | _ => .object "PaintballAtlas$Calls"
abbrev wsX20 : List Cond := u_ws RX2 TX2 8
theorem nmX2 : ∀ a, a < 8 → ∀ b, b < 8 → a ≠ b → (TX2 a).2.1 ≠ (TX2 b).2.1 := by decide +kernel
theorem tyX2_ok : ∀ k, k < 8 → parseFieldDescriptor (TX2 k).2.2.1 = some (tyX2 k) := by decide +kernel
abbrev cX2_init : ByteArray := prog_4_method_1_code
def yX2_init : MethodName := ⟨RX2, "<init>", "()V"⟩
abbrev cX2_start : ByteArray := prog_4_method_2_code
def yX2_start : MethodName := ⟨RX2, "start", "(II)V"⟩
abbrev cX2_close : ByteArray := prog_4_method_3_code
def yX2_close : MethodName := ⟨RX2, "close", "()V"⟩
abbrev cX2_reset : ByteArray := prog_4_method_4_code
def yX2_reset : MethodName := ⟨RX2, "reset", "(I)V"⟩
abbrev cX2_isPlayed : ByteArray := prog_4_method_5_code
def yX2_isPlayed : MethodName := ⟨RX2, "isPlayed", "()Z"⟩
abbrev cX2_time : ByteArray := prog_4_method_6_code
def yX2_time : MethodName := ⟨RX2, "time", "()I"⟩
abbrev cX2_homeTeam : ByteArray := prog_4_method_7_code
def yX2_homeTeam : MethodName := ⟨RX2, "homeTeam", "()I"⟩
abbrev cX2_awayTeam : ByteArray := prog_4_method_8_code
def yX2_awayTeam : MethodName := ⟨RX2, "awayTeam", "()I"⟩
abbrev cX2_cellOf : ByteArray := prog_4_method_9_code
def yX2_cellOf : MethodName := ⟨RX2, "cellOf", "(I)I"⟩
abbrev cX2_hitOf : ByteArray := prog_4_method_10_code
def yX2_hitOf : MethodName := ⟨RX2, "hitOf", "(I)I"⟩
abbrev cX2_playerOn : ByteArray := prog_4_method_11_code
def yX2_playerOn : MethodName := ⟨RX2, "playerOn", "(I)I"⟩
abbrev cX2_put : ByteArray := prog_4_method_12_code
def yX2_put : MethodName := ⟨RX2, "put", "(II)V"⟩
abbrev cX2_mayFire : ByteArray := prog_4_method_13_code
def yX2_mayFire : MethodName := ⟨RX2, "mayFire", "(I)Z"⟩
abbrev cX2_fire : ByteArray := prog_4_method_14_code
def yX2_fire : MethodName := ⟨RX2, "fire", "(II)I"⟩
abbrev cX2_countFlying : ByteArray := prog_4_method_15_code
def yX2_countFlying : MethodName := ⟨RX2, "countFlying", "()I"⟩
abbrev cX2_nextTick : ByteArray := prog_4_method_16_code
def yX2_nextTick : MethodName := ⟨RX2, "nextTick", "(LPaintballAtlas$Field;)I"⟩
abbrev cX2_strikes : ByteArray := prog_4_method_17_code
def yX2_strikes : MethodName := ⟨RX2, "strikes", "(ILPaintballAtlas$Field;)Z"⟩
abbrev cX2_mayCall : ByteArray := prog_4_method_18_code
def yX2_mayCall : MethodName := ⟨RX2, "mayCall", "()Z"⟩
abbrev cX2_callOut : ByteArray := prog_4_method_19_code
def yX2_callOut : MethodName := ⟨RX2, "callOut", "(I)I"⟩
abbrev cX2_hasCall : ByteArray := prog_4_method_20_code
def yX2_hasCall : MethodName := ⟨RX2, "hasCall", "(I)Z"⟩
abbrev cX2_isDisputed : ByteArray := prog_4_method_21_code
def yX2_isDisputed : MethodName := ⟨RX2, "isDisputed", "(I)Z"⟩
abbrev cX2_teamCalled : ByteArray := prog_4_method_22_code
def yX2_teamCalled : MethodName := ⟨RX2, "teamCalled", "(I)I"⟩
abbrev cX2_judge : ByteArray := prog_4_method_23_code
def yX2_judge : MethodName := ⟨RX2, "judge", "(I)Z"⟩
abbrev cX2_margin : ByteArray := prog_4_method_24_code
def yX2_margin : MethodName := ⟨RX2, "margin", "()I"⟩
def RX3 : String := "PaintballAtlas$Shots"
def TX3 : u_T := fun k => match k with
  | 0 => ("PaintballAtlas$Shots", "count", "I", false)
  | 1 => ("PaintballAtlas$Shots", "shooters", "[I", true)
  | 2 => ("PaintballAtlas$Shots", "origins", "[I", true)
  | 3 => ("PaintballAtlas$Shots", "targets", "[I", true)
  | _ => ("PaintballAtlas$Shots", "arrivals", "[I", true)
def tyX3 : Nat → FieldType := fun k => match k with
  | 0 => .int
  | 1 => .array .int
  | 2 => .array .int
  | 3 => .array .int
  | _ => .array .int
abbrev wsX30 : List Cond := u_ws RX3 TX3 5
theorem nmX3 : ∀ a, a < 5 → ∀ b, b < 5 → a ≠ b → (TX3 a).2.1 ≠ (TX3 b).2.1 := by decide +kernel
theorem tyX3_ok : ∀ k, k < 5 → parseFieldDescriptor (TX3 k).2.2.1 = some (tyX3 k) := by decide +kernel
abbrev cX3_init : ByteArray := prog_5_method_1_code
def yX3_init : MethodName := ⟨RX3, "<init>", "()V"⟩
abbrev cX3_add : ByteArray := prog_5_method_2_code
def yX3_add : MethodName := ⟨RX3, "add", "(IIII)V"⟩
def RX4 : String := "PaintballAtlas$Table"
def TX4 : u_T := fun k => match k with
  | 0 => ("PaintballAtlas$Table", "points", "[I", true)
  | 1 => ("PaintballAtlas$Table", "fines", "[I", true)
  | 2 => ("PaintballAtlas$Table", "differences", "[I", true)
  | _ => ("PaintballAtlas$Table", "wins", "[[I", true)
def tyX4 : Nat → FieldType := fun k => match k with
  | 0 => .array .int
  | 1 => .array .int
  | 2 => .array .int
  | _ => .array (.array .int)
abbrev wsX40 : List Cond := u_ws RX4 TX4 4
theorem nmX4 : ∀ a, a < 4 → ∀ b, b < 4 → a ≠ b → (TX4 a).2.1 ≠ (TX4 b).2.1 := by decide +kernel
theorem tyX4_ok : ∀ k, k < 4 → parseFieldDescriptor (TX4 k).2.2.1 = some (tyX4 k) := by decide +kernel
abbrev cX4_init : ByteArray := prog_6_method_1_code
def yX4_init : MethodName := ⟨RX4, "<init>", "()V"⟩
abbrev cX4_pointsOf : ByteArray := prog_6_method_2_code
def yX4_pointsOf : MethodName := ⟨RX4, "pointsOf", "(I)I"⟩
abbrev cX4_finesOf : ByteArray := prog_6_method_3_code
def yX4_finesOf : MethodName := ⟨RX4, "finesOf", "(I)I"⟩
abbrev cX4_differenceOf : ByteArray := prog_6_method_4_code
def yX4_differenceOf : MethodName := ⟨RX4, "differenceOf", "(I)I"⟩
abbrev cX4_fine : ByteArray := prog_6_method_5_code
def yX4_fine : MethodName := ⟨RX4, "fine", "(I)V"⟩
abbrev cX4_enter : ByteArray := prog_6_method_6_code
def yX4_enter : MethodName := ⟨RX4, "enter", "(III)V"⟩
abbrev cX4_enterWin : ByteArray := prog_6_method_7_code
def yX4_enterWin : MethodName := ⟨RX4, "enterWin", "(II)V"⟩
abbrev cX4_takePenalties : ByteArray := prog_6_method_8_code
def yX4_takePenalties : MethodName := ⟨RX4, "takePenalties", "()V"⟩
abbrev cX4_placeOf : ByteArray := prog_6_method_9_code
def yX4_placeOf : MethodName := ⟨RX4, "placeOf", "(I)I"⟩
abbrev cX4_isAhead : ByteArray := prog_6_method_10_code
def yX4_isAhead : MethodName := ⟨RX4, "isAhead", "(II)Z"⟩
def RX5 : String := "PaintballAtlas"
def TX5 : u_T := fun k => match k with
  | 0 => ("PaintballAtlas", "field", "LPaintballAtlas$Field;", true)
  | 1 => ("PaintballAtlas", "round", "LPaintballAtlas$Round;", true)
  | 2 => ("PaintballAtlas", "table", "LPaintballAtlas$Table;", true)
  | _ => ("PaintballAtlas", "refereeCells", "[I", true)
def tyX5 : Nat → FieldType := fun k => match k with
  | 0 => .object "PaintballAtlas$Field"
  | 1 => .object "PaintballAtlas$Round"
  | 2 => .object "PaintballAtlas$Table"
  | _ => .array .int
abbrev wsX50 : List Cond := u_ws RX5 TX5 4
theorem nmX5 : ∀ a, a < 4 → ∀ b, b < 4 → a ≠ b → (TX5 a).2.1 ≠ (TX5 b).2.1 := by decide +kernel
theorem tyX5_ok : ∀ k, k < 4 → parseFieldDescriptor (TX5 k).2.2.1 = some (tyX5 k) := by decide +kernel
abbrev cX5_init : ByteArray := prog_1_method_1_code
def yX5_init : MethodName := ⟨RX5, "<init>", "()V"⟩
abbrev cX5_toggleBunker : ByteArray := prog_1_method_2_code
def yX5_toggleBunker : MethodName := ⟨RX5, "toggleBunker", "(I)Z"⟩
abbrev cX5_sees : ByteArray := prog_1_method_3_code
def yX5_sees : MethodName := ⟨RX5, "sees", "(II)Z"⟩
abbrev cX5_view : ByteArray := prog_1_method_4_code
def yX5_view : MethodName := ⟨RX5, "view", "(I)I"⟩
abbrev cX5_setReferee : ByteArray := prog_1_method_5_code
def yX5_setReferee : MethodName := ⟨RX5, "setReferee", "(II)I"⟩
abbrev cX5_begin : ByteArray := prog_1_method_6_code
def yX5_begin : MethodName := ⟨RX5, "begin", "(II)V"⟩
abbrev cX5_move : ByteArray := prog_1_method_7_code
def yX5_move : MethodName := ⟨RX5, "move", "(II)I"⟩
abbrev cX5_shoot : ByteArray := prog_1_method_8_code
def yX5_shoot : MethodName := ⟨RX5, "shoot", "(II)I"⟩
abbrev cX5_pass : ByteArray := prog_1_method_9_code
def yX5_pass : MethodName := ⟨RX5, "pass", "(I)I"⟩
abbrev cX5_call : ByteArray := prog_1_method_10_code
def yX5_call : MethodName := ⟨RX5, "call", "(II)I"⟩
abbrev cX5_dispute : ByteArray := prog_1_method_11_code
def yX5_dispute : MethodName := ⟨RX5, "dispute", "(I)Z"⟩
abbrev cX5_end : ByteArray := prog_1_method_12_code
def yX5_end : MethodName := ⟨RX5, "end", "()I"⟩
abbrev cX5_tick : ByteArray := prog_1_method_13_code
def yX5_tick : MethodName := ⟨RX5, "tick", "()I"⟩
abbrev cX5_where : ByteArray := prog_1_method_14_code
def yX5_where : MethodName := ⟨RX5, "where", "(I)I"⟩
abbrev cX5_hit : ByteArray := prog_1_method_15_code
def yX5_hit : MethodName := ⟨RX5, "hit", "(I)I"⟩
abbrev cX5_flying : ByteArray := prog_1_method_16_code
def yX5_flying : MethodName := ⟨RX5, "flying", "()I"⟩
abbrev cX5_points : ByteArray := prog_1_method_17_code
def yX5_points : MethodName := ⟨RX5, "points", "(I)I"⟩
abbrev cX5_fines : ByteArray := prog_1_method_18_code
def yX5_fines : MethodName := ⟨RX5, "fines", "(I)I"⟩
abbrev cX5_difference : ByteArray := prog_1_method_19_code
def yX5_difference : MethodName := ⟨RX5, "difference", "(I)I"⟩
abbrev cX5_place : ByteArray := prog_1_method_20_code
def yX5_place : MethodName := ⟨RX5, "place", "(I)I"⟩
abbrev cX5_checkCell : ByteArray := prog_1_method_21_code
def yX5_checkCell : MethodName := ⟨RX5, "checkCell", "(I)V"⟩
abbrev cX5_checkTeam : ByteArray := prog_1_method_22_code
def yX5_checkTeam : MethodName := ⟨RX5, "checkTeam", "(I)V"⟩
abbrev cX5_checkPlayer : ByteArray := prog_1_method_23_code
def yX5_checkPlayer : MethodName := ⟨RX5, "checkPlayer", "(I)V"⟩
abbrev cX5_checkReferee : ByteArray := prog_1_method_24_code
def yX5_checkReferee : MethodName := ⟨RX5, "checkReferee", "(I)V"⟩
abbrev cX5_checkRound : ByteArray := prog_1_method_25_code
def yX5_checkRound : MethodName := ⟨RX5, "checkRound", "()V"⟩
def RX6 : String := "PaintballAtlasModel"
def TX6 : u_T := fun k => match k with
  | _ => ("", "", "", false)
def tyX6 : Nat → FieldType := fun k => match k with
  | _ => .int
abbrev wsX60 : List Cond := u_ws RX6 TX6 0
theorem nmX6 : ∀ a, a < 0 → ∀ b, b < 0 → a ≠ b → (TX6 a).2.1 ≠ (TX6 b).2.1 := by decide +kernel
theorem tyX6_ok : ∀ k, k < 0 → parseFieldDescriptor (TX6 k).2.2.1 = some (tyX6 k) := by decide +kernel
def RJ9 : String := "java/lang/Math"
def TJ9 : u_T := fun k => match k with
  | _ => ("", "", "", false)
def tyJ9 : Nat → FieldType := fun k => match k with
  | _ => .int
abbrev wsJ90 : List Cond := u_ws RJ9 TJ9 0
theorem nmJ9 : ∀ a, a < 0 → ∀ b, b < 0 → a ≠ b → (TJ9 a).2.1 ≠ (TJ9 b).2.1 := by decide +kernel
theorem tyJ9_ok : ∀ k, k < 0 → parseFieldDescriptor (TJ9 k).2.2.1 = some (tyJ9 k) := by decide +kernel
abbrev cJ9_abs_0f7a4 : ByteArray := prog_13_method_59_code
def yJ9_abs_0f7a4 : MethodName := ⟨RJ9, "abs", "(I)I"⟩
abbrev cJ9_max_7cf53 : ByteArray := prog_13_method_65_code
def yJ9_max_7cf53 : MethodName := ⟨RJ9, "max", "(II)I"⟩
abbrev cJ9_min_7cf53 : ByteArray := prog_13_method_69_code
def yJ9_min_7cf53 : MethodName := ⟨RJ9, "min", "(II)I"⟩
def RJ0 : String := "java/lang/String"
def TJ0 : u_T := fun k => match k with
  | _ => ("", "", "", false)
def tyJ0 : Nat → FieldType := fun k => match k with
  | _ => .int
abbrev wsJ00 : List Cond := u_ws RJ0 TJ0 0
theorem nmJ0 : ∀ a, a < 0 → ∀ b, b < 0 → a ≠ b → (TJ0 a).2.1 ≠ (TJ0 b).2.1 := by decide +kernel
theorem tyJ0_ok : ∀ k, k < 0 → parseFieldDescriptor (TJ0 k).2.2.1 = some (tyJ0 k) := by decide +kernel
def RL : String := "PaintballAtlasLaw"
abbrev cL_part : ByteArray := method_2_code
def yL_part : MethodName := ⟨RL, "part", "([III)I"⟩
abbrev cL_begins : ByteArray := method_3_code
def yL_begins : MethodName := ⟨RL, "begins", "(LPaintballAtlas;II)I"⟩
abbrev cL_does : ByteArray := method_4_code
def yL_does : MethodName := ⟨RL, "does", "(LPaintballAtlas;III)I"⟩
abbrev cL_asks : ByteArray := method_5_code
def yL_asks : MethodName := ⟨RL, "asks", "(LPaintballAtlas;III)I"⟩
abbrev cL_isBunker : ByteArray := method_6_code
def yL_isBunker : MethodName := ⟨RL, "isBunker", "([II)Z"⟩
abbrev cL_apart : ByteArray := method_7_code
def yL_apart : MethodName := ⟨RL, "apart", "(II)I"⟩
abbrev cL_isSight : ByteArray := method_8_code
def yL_isSight : MethodName := ⟨RL, "isSight", "(LPaintballAtlas;[III)Z"⟩
abbrev cL_isView : ByteArray := method_9_code
def yL_isView : MethodName := ⟨RL, "isView", "(LPaintballAtlas;[II)Z"⟩
abbrev cL_isTable : ByteArray := method_10_code
def yL_isTable : MethodName := ⟨RL, "isTable", "(LPaintballAtlas;[I[I)Z"⟩
abbrev cL_isRound : ByteArray := method_11_code
def yL_isRound : MethodName := ⟨RL, "isRound", "(LPaintballAtlas;[I[I)Z"⟩
abbrev cL_isFree : ByteArray := method_12_code
def yL_isFree : MethodName := ⟨RL, "isFree", "([I[II)Z"⟩
abbrev cL_isMove : ByteArray := method_13_code
def yL_isMove : MethodName := ⟨RL, "isMove", "(LPaintballAtlas;[I[III)Z"⟩
abbrev cL_isShot : ByteArray := method_14_code
def yL_isShot : MethodName := ⟨RL, "isShot", "(LPaintballAtlas;[I[III)Z"⟩
abbrev cL_isCall : ByteArray := method_15_code
def yL_isCall : MethodName := ⟨RL, "isCall", "(LPaintballAtlas;[I[I[III)Z"⟩
abbrev cL_isDispute : ByteArray := method_16_code
def yL_isDispute : MethodName := ⟨RL, "isDispute", "(LPaintballAtlas;[I[I[I[II)Z"⟩
abbrev cL_isEnd : ByteArray := method_17_code
def yL_isEnd : MethodName := ⟨RL, "isEnd", "(LPaintballAtlas;[I[I[I[I)Z"⟩
abbrev cL_isBegun : ByteArray := method_18_code
def yL_isBegun : MethodName := ⟨RL, "isBegun", "(LPaintballAtlas;[I[III)Z"⟩
abbrev cL_isDone : ByteArray := method_19_code
def yL_isDone : MethodName := ⟨RL, "isDone", "(LPaintballAtlas;[II[I[I[I[I[I)Z"⟩
abbrev cL_law : ByteArray := code
def yL_law : MethodName := ⟨RL, "law", "([I)Z"⟩
def wsX0_init : List Cond := .code yX0_init cX0_init 1 none :: ([.methodLink RX0 3 objectInit, .instanceMethod objectInit, .code objectInit ⟨#[0xb1]⟩ 1 none, .arrayClass .int, .fieldLink RX0 9 "PaintballAtlas$Calls" "players" "[I", .fieldLink RX0 15 "PaintballAtlas$Calls" "cells" "[I", .fieldLink RX0 18 "PaintballAtlas$Calls" "ticks" "[I", .arrayClass .boolean, .fieldLink RX0 21 "PaintballAtlas$Calls" "disputed" "[Z"] ++ wsX00)
def wsX0_add : List Cond := .code yX0_add cX0_add 4 (some .int) :: ([.fieldLink RX0 9 "PaintballAtlas$Calls" "players" "[I", .fieldLink RX0 25 "PaintballAtlas$Calls" "count" "I", .fieldLink RX0 15 "PaintballAtlas$Calls" "cells" "[I", .fieldLink RX0 18 "PaintballAtlas$Calls" "ticks" "[I", .fieldLink RX0 21 "PaintballAtlas$Calls" "disputed" "[Z"] ++ wsX00)
def wsX1_init : List Cond := .code yX1_init cX1_init 1 none :: ([.methodLink RX1 3 objectInit, .instanceMethod objectInit, .code objectInit ⟨#[0xb1]⟩ 1 none, .arrayClass .boolean, .fieldLink RX1 9 "PaintballAtlas$Field" "bunkers" "[Z"] ++ wsX10)
def wsX1_distance : List Cond := .code yX1_distance cX1_distance 4 (some .int) :: ([.methodLink RX1 15 Lib.Math.abs.name, .static Lib.Math.abs.name, .initialized "java/lang/Math", .code Lib.Math.abs.name Lib.Math.abs.code 1 (some .int), .methodLink RX1 21 Lib.Math.max.name, .static Lib.Math.max.name, .code Lib.Math.max.name Lib.Math.max.code 2 (some .int)])
def wsX1_hasBunker : List Cond := .code yX1_hasBunker cX1_hasBunker 2 (some .boolean) :: ([.fieldLink RX1 9 "PaintballAtlas$Field" "bunkers" "[Z"] ++ wsX10)
def wsX1_turnBunker : List Cond := .code yX1_turnBunker cX1_turnBunker 2 (some .boolean) :: ([.fieldLink RX1 9 "PaintballAtlas$Field" "bunkers" "[Z"] ++ wsX10)
def wsX1_lineEnters : List Cond := .code yX1_lineEnters cX1_lineEnters 8 (some .boolean) :: ([.methodLink RX1 15 Lib.Math.abs.name, .static Lib.Math.abs.name, .initialized "java/lang/Math", .code Lib.Math.abs.name Lib.Math.abs.code 1 (some .int)])
def wsX1_hasSight : List Cond := .code yX1_hasSight cX1_hasSight 10 (some .boolean) :: ([.fieldLink RX1 9 "PaintballAtlas$Field" "bunkers" "[Z", .methodLink RX1 29 Lib.Math.min.name, .static Lib.Math.min.name, .initialized "java/lang/Math", .code Lib.Math.min.name Lib.Math.min.code 2 (some .int), .methodLink RX1 21 Lib.Math.max.name, .static Lib.Math.max.name, .code Lib.Math.max.name Lib.Math.max.code 2 (some .int), .methodLink RX1 32 yX1_lineEnters, .static yX1_lineEnters, .initialized RX1, .code yX1_lineEnters cX1_lineEnters 8 (some .boolean), .methodLink RX1 15 Lib.Math.abs.name, .static Lib.Math.abs.name, .code Lib.Math.abs.name Lib.Math.abs.code 1 (some .int)] ++ wsX10)
def wsX1_countSeen : List Cond := .code yX1_countSeen cX1_countSeen 4 (some .int) :: ([.methodLink RX1 25 yX1_hasSight, .instanceMethod yX1_hasSight, .selects RX1 yX1_hasSight yX1_hasSight, .initialized RX1, .code yX1_hasSight cX1_hasSight 10 (some .boolean), .fieldLink RX1 9 "PaintballAtlas$Field" "bunkers" "[Z", .methodLink RX1 29 Lib.Math.min.name, .static Lib.Math.min.name, .initialized "java/lang/Math", .code Lib.Math.min.name Lib.Math.min.code 2 (some .int), .methodLink RX1 21 Lib.Math.max.name, .static Lib.Math.max.name, .code Lib.Math.max.name Lib.Math.max.code 2 (some .int), .methodLink RX1 32 yX1_lineEnters, .static yX1_lineEnters, .code yX1_lineEnters cX1_lineEnters 8 (some .boolean), .methodLink RX1 15 Lib.Math.abs.name, .static Lib.Math.abs.name, .code Lib.Math.abs.name Lib.Math.abs.code 1 (some .int)] ++ wsX10)
def wsX3_init : List Cond := .code yX3_init cX3_init 1 none :: ([.methodLink RX3 3 objectInit, .instanceMethod objectInit, .code objectInit ⟨#[0xb1]⟩ 1 none, .arrayClass .int, .fieldLink RX3 9 "PaintballAtlas$Shots" "shooters" "[I", .fieldLink RX3 15 "PaintballAtlas$Shots" "origins" "[I", .fieldLink RX3 18 "PaintballAtlas$Shots" "targets" "[I", .fieldLink RX3 21 "PaintballAtlas$Shots" "arrivals" "[I"] ++ wsX30)
def wsX2_reset : List Cond := .code yX2_reset cX2_reset 3 none :: ([.fieldLink RX2 15 "PaintballAtlas$Round" "cells" "[I", .fieldLink RX2 19 "PaintballAtlas$Round" "hits" "[I", .fieldLink RX2 22 "PaintballAtlas$Round" "lastShots" "[I", .fieldLink RX2 28 "PaintballAtlas$Round" "shots" "LPaintballAtlas$Shots;", .fieldLink RX2 49 "PaintballAtlas$Shots" "count" "I", .fieldLink RX2 35 "PaintballAtlas$Round" "calls" "LPaintballAtlas$Calls;", .fieldLink RX2 52 "PaintballAtlas$Calls" "count" "I"] ++ wsX20 ++ wsX30 ++ wsX00)
def wsX2_init_r1 : List Cond := [Cond.methodLink RX2 3 objectInit, Cond.instanceMethod objectInit, Cond.code objectInit ⟨#[0xb1]⟩ 1 none, Cond.fieldLink RX2 9 "PaintballAtlas$Round" "tick" "I", Cond.arrayClass .int, Cond.fieldLink RX2 15 "PaintballAtlas$Round" "cells" "[I", Cond.fieldLink RX2 19 "PaintballAtlas$Round" "hits" "[I", Cond.fieldLink RX2 22 "PaintballAtlas$Round" "lastShots" "[I", Cond.classLink RX2 25 RX3, Cond.instantiable RX3 5, Cond.initialized RX3, Cond.fieldLink RX2 28 "PaintballAtlas$Round" "shots" "LPaintballAtlas$Shots;", Cond.classLink RX2 32 RX0, Cond.instantiable RX0 5, Cond.initialized RX0, Cond.fieldLink RX2 35 "PaintballAtlas$Round" "calls" "LPaintballAtlas$Calls;", Cond.instanceMethod yX3_init, Cond.code yX3_init cX3_init 1 none, Cond.methodLink RX3 3 objectInit, Cond.fieldLink RX3 9 "PaintballAtlas$Shots" "shooters" "[I", Cond.fieldLink RX3 15 "PaintballAtlas$Shots" "origins" "[I", Cond.fieldLink RX3 18 "PaintballAtlas$Shots" "targets" "[I", Cond.fieldLink RX3 21 "PaintballAtlas$Shots" "arrivals" "[I", Cond.instanceMethod yX0_init]
def wsX2_init_r2 : List Cond := [Cond.code yX0_init cX0_init 1 none, Cond.methodLink RX0 3 objectInit, Cond.fieldLink RX0 9 "PaintballAtlas$Calls" "players" "[I", Cond.fieldLink RX0 15 "PaintballAtlas$Calls" "cells" "[I", Cond.fieldLink RX0 18 "PaintballAtlas$Calls" "ticks" "[I", Cond.arrayClass .boolean, Cond.fieldLink RX0 21 "PaintballAtlas$Calls" "disputed" "[Z", Cond.methodLink RX2 39 yX2_reset, Cond.instanceMethod yX2_reset, Cond.selects RX2 yX2_reset yX2_reset, Cond.initialized RX2, Cond.code yX2_reset cX2_reset 3 none, Cond.fieldLink RX2 49 "PaintballAtlas$Shots" "count" "I", Cond.fieldLink RX2 52 "PaintballAtlas$Calls" "count" "I"]
def wsX2_init : List Cond := .code yX2_init cX2_init 1 none :: ((wsX2_init_r1 ++ wsX2_init_r2) ++ wsX20 ++ wsX30 ++ wsX00)
def wsX2_start : List Cond := .code yX2_start cX2_start 3 none :: ([.fieldLink RX2 43 "PaintballAtlas$Round" "home" "I", .fieldLink RX2 46 "PaintballAtlas$Round" "away" "I", .fieldLink RX2 9 "PaintballAtlas$Round" "tick" "I", .methodLink RX2 39 yX2_reset, .instanceMethod yX2_reset, .selects RX2 yX2_reset yX2_reset, .initialized RX2, .code yX2_reset cX2_reset 3 none, .fieldLink RX2 15 "PaintballAtlas$Round" "cells" "[I", .fieldLink RX2 19 "PaintballAtlas$Round" "hits" "[I", .fieldLink RX2 22 "PaintballAtlas$Round" "lastShots" "[I", .fieldLink RX2 28 "PaintballAtlas$Round" "shots" "LPaintballAtlas$Shots;", .fieldLink RX2 49 "PaintballAtlas$Shots" "count" "I", .fieldLink RX2 35 "PaintballAtlas$Round" "calls" "LPaintballAtlas$Calls;", .fieldLink RX2 52 "PaintballAtlas$Calls" "count" "I"] ++ wsX20 ++ wsX30 ++ wsX00)
def wsX2_close : List Cond := .code yX2_close cX2_close 1 none :: ([.fieldLink RX2 9 "PaintballAtlas$Round" "tick" "I", .methodLink RX2 39 yX2_reset, .instanceMethod yX2_reset, .selects RX2 yX2_reset yX2_reset, .initialized RX2, .code yX2_reset cX2_reset 3 none, .fieldLink RX2 15 "PaintballAtlas$Round" "cells" "[I", .fieldLink RX2 19 "PaintballAtlas$Round" "hits" "[I", .fieldLink RX2 22 "PaintballAtlas$Round" "lastShots" "[I", .fieldLink RX2 28 "PaintballAtlas$Round" "shots" "LPaintballAtlas$Shots;", .fieldLink RX2 49 "PaintballAtlas$Shots" "count" "I", .fieldLink RX2 35 "PaintballAtlas$Round" "calls" "LPaintballAtlas$Calls;", .fieldLink RX2 52 "PaintballAtlas$Calls" "count" "I"] ++ wsX20 ++ wsX30 ++ wsX00)
def wsX2_isPlayed : List Cond := .code yX2_isPlayed cX2_isPlayed 1 (some .boolean) :: ([.fieldLink RX2 9 "PaintballAtlas$Round" "tick" "I"] ++ wsX20)
def wsX2_time : List Cond := .code yX2_time cX2_time 1 (some .int) :: ([.fieldLink RX2 9 "PaintballAtlas$Round" "tick" "I"] ++ wsX20)
def wsX2_homeTeam : List Cond := .code yX2_homeTeam cX2_homeTeam 1 (some .int) :: ([.fieldLink RX2 43 "PaintballAtlas$Round" "home" "I"] ++ wsX20)
def wsX2_awayTeam : List Cond := .code yX2_awayTeam cX2_awayTeam 1 (some .int) :: ([.fieldLink RX2 46 "PaintballAtlas$Round" "away" "I"] ++ wsX20)
def wsX2_cellOf : List Cond := .code yX2_cellOf cX2_cellOf 2 (some .int) :: ([.fieldLink RX2 15 "PaintballAtlas$Round" "cells" "[I"] ++ wsX20)
def wsX2_hitOf : List Cond := .code yX2_hitOf cX2_hitOf 2 (some .int) :: ([.fieldLink RX2 19 "PaintballAtlas$Round" "hits" "[I"] ++ wsX20)
def wsX2_playerOn : List Cond := .code yX2_playerOn cX2_playerOn 3 (some .int) :: ([.fieldLink RX2 15 "PaintballAtlas$Round" "cells" "[I"] ++ wsX20)
def wsX2_put : List Cond := .code yX2_put cX2_put 3 none :: ([.fieldLink RX2 15 "PaintballAtlas$Round" "cells" "[I"] ++ wsX20)
def wsX2_mayFire : List Cond := .code yX2_mayFire cX2_mayFire 2 (some .boolean) :: ([.fieldLink RX2 22 "PaintballAtlas$Round" "lastShots" "[I", .fieldLink RX2 9 "PaintballAtlas$Round" "tick" "I", .fieldLink RX2 28 "PaintballAtlas$Round" "shots" "LPaintballAtlas$Shots;", .fieldLink RX2 49 "PaintballAtlas$Shots" "count" "I"] ++ wsX20 ++ wsX30)
def wsX3_add : List Cond := .code yX3_add cX3_add 5 none :: ([.fieldLink RX3 9 "PaintballAtlas$Shots" "shooters" "[I", .fieldLink RX3 24 "PaintballAtlas$Shots" "count" "I", .fieldLink RX3 15 "PaintballAtlas$Shots" "origins" "[I", .fieldLink RX3 18 "PaintballAtlas$Shots" "targets" "[I", .fieldLink RX3 21 "PaintballAtlas$Shots" "arrivals" "[I"] ++ wsX30)
def wsX2_fire_r1 : List Cond := [Cond.fieldLink RX2 15 "PaintballAtlas$Round" "cells" "[I", Cond.fieldLink RX2 9 "PaintballAtlas$Round" "tick" "I", Cond.fieldLink RX2 22 "PaintballAtlas$Round" "lastShots" "[I", Cond.fieldLink RX2 28 "PaintballAtlas$Round" "shots" "LPaintballAtlas$Shots;", Cond.methodLink RX2 53 yX1_distance, Cond.static yX1_distance, Cond.initialized RX1, Cond.code yX1_distance cX1_distance 4 (some .int), Cond.methodLink RX1 15 Lib.Math.abs.name, Cond.static Lib.Math.abs.name, Cond.initialized "java/lang/Math", Cond.code Lib.Math.abs.name Lib.Math.abs.code 1 (some .int), Cond.methodLink RX1 21 Lib.Math.max.name, Cond.static Lib.Math.max.name, Cond.code Lib.Math.max.name Lib.Math.max.code 2 (some .int), Cond.methodLink RX2 59 yX3_add, Cond.instanceMethod yX3_add, Cond.selects RX3 yX3_add yX3_add, Cond.initialized RX3, Cond.code yX3_add cX3_add 5 none, Cond.fieldLink RX3 9 "PaintballAtlas$Shots" "shooters" "[I", Cond.fieldLink RX3 24 "PaintballAtlas$Shots" "count" "I", Cond.fieldLink RX3 15 "PaintballAtlas$Shots" "origins" "[I", Cond.fieldLink RX3 18 "PaintballAtlas$Shots" "targets" "[I"]
def wsX2_fire_r2 : List Cond := [Cond.fieldLink RX3 21 "PaintballAtlas$Shots" "arrivals" "[I"]
def wsX2_fire : List Cond := .code yX2_fire cX2_fire 5 (some .int) :: ((wsX2_fire_r1 ++ wsX2_fire_r2) ++ wsX20 ++ wsX30)
def wsX2_countFlying : List Cond := .code yX2_countFlying cX2_countFlying 3 (some .int) :: ([.fieldLink RX2 28 "PaintballAtlas$Round" "shots" "LPaintballAtlas$Shots;", .fieldLink RX2 49 "PaintballAtlas$Shots" "count" "I", .fieldLink RX2 63 "PaintballAtlas$Shots" "arrivals" "[I", .fieldLink RX2 9 "PaintballAtlas$Round" "tick" "I"] ++ wsX20 ++ wsX30)
def wsX2_strikes_r1 : List Cond := [Cond.fieldLink RX2 28 "PaintballAtlas$Round" "shots" "LPaintballAtlas$Shots;", Cond.fieldLink RX2 70 "PaintballAtlas$Shots" "targets" "[I", Cond.fieldLink RX2 77 "PaintballAtlas$Shots" "shooters" "[I", Cond.fieldLink RX2 80 "PaintballAtlas$Shots" "origins" "[I", Cond.fieldLink RX2 19 "PaintballAtlas$Round" "hits" "[I", Cond.fieldLink RX2 9 "PaintballAtlas$Round" "tick" "I", Cond.methodLink RX2 73 yX2_playerOn, Cond.instanceMethod yX2_playerOn, Cond.selects RX2 yX2_playerOn yX2_playerOn, Cond.initialized RX2, Cond.code yX2_playerOn cX2_playerOn 3 (some .int), Cond.fieldLink RX2 15 "PaintballAtlas$Round" "cells" "[I", Cond.methodLink RX2 83 yX1_hasSight, Cond.instanceMethod yX1_hasSight, Cond.selects RX1 yX1_hasSight yX1_hasSight, Cond.initialized RX1, Cond.code yX1_hasSight cX1_hasSight 10 (some .boolean), Cond.fieldLink RX1 9 "PaintballAtlas$Field" "bunkers" "[Z", Cond.methodLink RX1 29 Lib.Math.min.name, Cond.static Lib.Math.min.name, Cond.initialized "java/lang/Math", Cond.code Lib.Math.min.name Lib.Math.min.code 2 (some .int), Cond.methodLink RX1 21 Lib.Math.max.name, Cond.static Lib.Math.max.name]
def wsX2_strikes_r2 : List Cond := [Cond.code Lib.Math.max.name Lib.Math.max.code 2 (some .int), Cond.methodLink RX1 32 yX1_lineEnters, Cond.static yX1_lineEnters, Cond.code yX1_lineEnters cX1_lineEnters 8 (some .boolean), Cond.methodLink RX1 15 Lib.Math.abs.name, Cond.static Lib.Math.abs.name, Cond.code Lib.Math.abs.name Lib.Math.abs.code 1 (some .int)]
def wsX2_strikes : List Cond := .code yX2_strikes cX2_strikes 5 (some .boolean) :: ((wsX2_strikes_r1 ++ wsX2_strikes_r2) ++ wsX20 ++ wsX30 ++ wsX10)
def wsX2_nextTick_r1 : List Cond := [Cond.fieldLink RX2 9 "PaintballAtlas$Round" "tick" "I", Cond.fieldLink RX2 28 "PaintballAtlas$Round" "shots" "LPaintballAtlas$Shots;", Cond.fieldLink RX2 49 "PaintballAtlas$Shots" "count" "I", Cond.fieldLink RX2 63 "PaintballAtlas$Shots" "arrivals" "[I", Cond.methodLink RX2 66 yX2_strikes, Cond.instanceMethod yX2_strikes, Cond.selects RX2 yX2_strikes yX2_strikes, Cond.initialized RX2, Cond.code yX2_strikes cX2_strikes 5 (some .boolean), Cond.fieldLink RX2 70 "PaintballAtlas$Shots" "targets" "[I", Cond.fieldLink RX2 77 "PaintballAtlas$Shots" "shooters" "[I", Cond.fieldLink RX2 80 "PaintballAtlas$Shots" "origins" "[I", Cond.fieldLink RX2 19 "PaintballAtlas$Round" "hits" "[I", Cond.methodLink RX2 73 yX2_playerOn, Cond.instanceMethod yX2_playerOn, Cond.selects RX2 yX2_playerOn yX2_playerOn, Cond.code yX2_playerOn cX2_playerOn 3 (some .int), Cond.fieldLink RX2 15 "PaintballAtlas$Round" "cells" "[I", Cond.methodLink RX2 83 yX1_hasSight, Cond.instanceMethod yX1_hasSight, Cond.selects RX1 yX1_hasSight yX1_hasSight, Cond.initialized RX1, Cond.code yX1_hasSight cX1_hasSight 10 (some .boolean), Cond.fieldLink RX1 9 "PaintballAtlas$Field" "bunkers" "[Z"]
def wsX2_nextTick_r2 : List Cond := [Cond.methodLink RX1 29 Lib.Math.min.name, Cond.static Lib.Math.min.name, Cond.initialized "java/lang/Math", Cond.code Lib.Math.min.name Lib.Math.min.code 2 (some .int), Cond.methodLink RX1 21 Lib.Math.max.name, Cond.static Lib.Math.max.name, Cond.code Lib.Math.max.name Lib.Math.max.code 2 (some .int), Cond.methodLink RX1 32 yX1_lineEnters, Cond.static yX1_lineEnters, Cond.code yX1_lineEnters cX1_lineEnters 8 (some .boolean), Cond.methodLink RX1 15 Lib.Math.abs.name, Cond.static Lib.Math.abs.name, Cond.code Lib.Math.abs.name Lib.Math.abs.code 1 (some .int)]
def wsX2_nextTick : List Cond := .code yX2_nextTick cX2_nextTick 4 (some .int) :: ((wsX2_nextTick_r1 ++ wsX2_nextTick_r2) ++ wsX20 ++ wsX30 ++ wsX10)
def wsX2_mayCall : List Cond := .code yX2_mayCall cX2_mayCall 1 (some .boolean) :: ([.fieldLink RX2 35 "PaintballAtlas$Round" "calls" "LPaintballAtlas$Calls;", .fieldLink RX2 52 "PaintballAtlas$Calls" "count" "I"] ++ wsX20 ++ wsX00)
def wsX2_callOut : List Cond := .code yX2_callOut cX2_callOut 3 (some .int) :: ([.fieldLink RX2 35 "PaintballAtlas$Round" "calls" "LPaintballAtlas$Calls;", .fieldLink RX2 15 "PaintballAtlas$Round" "cells" "[I", .fieldLink RX2 9 "PaintballAtlas$Round" "tick" "I", .methodLink RX2 87 yX0_add, .instanceMethod yX0_add, .selects RX0 yX0_add yX0_add, .initialized RX0, .code yX0_add cX0_add 4 (some .int), .fieldLink RX0 9 "PaintballAtlas$Calls" "players" "[I", .fieldLink RX0 25 "PaintballAtlas$Calls" "count" "I", .fieldLink RX0 15 "PaintballAtlas$Calls" "cells" "[I", .fieldLink RX0 18 "PaintballAtlas$Calls" "ticks" "[I", .fieldLink RX0 21 "PaintballAtlas$Calls" "disputed" "[Z"] ++ wsX20 ++ wsX00)
def wsX2_hasCall : List Cond := .code yX2_hasCall cX2_hasCall 2 (some .boolean) :: ([.fieldLink RX2 35 "PaintballAtlas$Round" "calls" "LPaintballAtlas$Calls;", .fieldLink RX2 52 "PaintballAtlas$Calls" "count" "I"] ++ wsX20 ++ wsX00)
def wsX2_isDisputed : List Cond := .code yX2_isDisputed cX2_isDisputed 2 (some .boolean) :: ([.fieldLink RX2 35 "PaintballAtlas$Round" "calls" "LPaintballAtlas$Calls;", .fieldLink RX2 90 "PaintballAtlas$Calls" "disputed" "[Z"] ++ wsX20 ++ wsX00)
def wsX2_teamCalled : List Cond := .code yX2_teamCalled cX2_teamCalled 2 (some .int) :: ([.fieldLink RX2 35 "PaintballAtlas$Round" "calls" "LPaintballAtlas$Calls;", .fieldLink RX2 94 "PaintballAtlas$Calls" "players" "[I", .fieldLink RX2 43 "PaintballAtlas$Round" "home" "I", .fieldLink RX2 46 "PaintballAtlas$Round" "away" "I"] ++ wsX20 ++ wsX00)
def wsX2_judge : List Cond := .code yX2_judge cX2_judge 4 (some .boolean) :: ([.fieldLink RX2 35 "PaintballAtlas$Round" "calls" "LPaintballAtlas$Calls;", .fieldLink RX2 94 "PaintballAtlas$Calls" "players" "[I", .fieldLink RX2 90 "PaintballAtlas$Calls" "disputed" "[Z", .fieldLink RX2 19 "PaintballAtlas$Round" "hits" "[I", .fieldLink RX2 97 "PaintballAtlas$Calls" "ticks" "[I", .fieldLink RX2 100 "PaintballAtlas$Calls" "cells" "[I", .fieldLink RX2 15 "PaintballAtlas$Round" "cells" "[I", .methodLink RX2 73 yX2_playerOn, .instanceMethod yX2_playerOn, .selects RX2 yX2_playerOn yX2_playerOn, .initialized RX2, .code yX2_playerOn cX2_playerOn 3 (some .int)] ++ wsX20 ++ wsX00)
def wsX2_margin : List Cond := .code yX2_margin cX2_margin 3 (some .int) :: ([.fieldLink RX2 15 "PaintballAtlas$Round" "cells" "[I", .fieldLink RX2 19 "PaintballAtlas$Round" "hits" "[I"] ++ wsX20)
def wsX4_init : List Cond := .code yX4_init cX4_init 1 none :: ([.methodLink RX4 3 objectInit, .instanceMethod objectInit, .code objectInit ⟨#[0xb1]⟩ 1 none, .arrayClass .int, .fieldLink RX4 9 "PaintballAtlas$Table" "points" "[I", .fieldLink RX4 15 "PaintballAtlas$Table" "fines" "[I", .fieldLink RX4 18 "PaintballAtlas$Table" "differences" "[I", .classLink RX4 21 "[[I", .fieldLink RX4 23 "PaintballAtlas$Table" "wins" "[[I"] ++ wsX40)
def wsX4_pointsOf : List Cond := .code yX4_pointsOf cX4_pointsOf 2 (some .int) :: ([.fieldLink RX4 9 "PaintballAtlas$Table" "points" "[I"] ++ wsX40)
def wsX4_finesOf : List Cond := .code yX4_finesOf cX4_finesOf 2 (some .int) :: ([.fieldLink RX4 15 "PaintballAtlas$Table" "fines" "[I"] ++ wsX40)
def wsX4_differenceOf : List Cond := .code yX4_differenceOf cX4_differenceOf 2 (some .int) :: ([.fieldLink RX4 18 "PaintballAtlas$Table" "differences" "[I"] ++ wsX40)
def wsX4_fine : List Cond := .code yX4_fine cX4_fine 2 none :: ([.fieldLink RX4 15 "PaintballAtlas$Table" "fines" "[I"] ++ wsX40)
def wsX4_enterWin : List Cond := .code yX4_enterWin cX4_enterWin 3 none :: ([.fieldLink RX4 9 "PaintballAtlas$Table" "points" "[I", .fieldLink RX4 23 "PaintballAtlas$Table" "wins" "[[I"] ++ wsX40)
def wsX4_takePenalties : List Cond := .code yX4_takePenalties cX4_takePenalties 2 none :: ([.fieldLink RX4 15 "PaintballAtlas$Table" "fines" "[I", .fieldLink RX4 9 "PaintballAtlas$Table" "points" "[I"] ++ wsX40)
def wsX4_enter : List Cond := .code yX4_enter cX4_enter 4 none :: ([.fieldLink RX4 18 "PaintballAtlas$Table" "differences" "[I", .fieldLink RX4 9 "PaintballAtlas$Table" "points" "[I", .methodLink RX4 26 yX4_enterWin, .instanceMethod yX4_enterWin, .selects RX4 yX4_enterWin yX4_enterWin, .initialized RX4, .code yX4_enterWin cX4_enterWin 3 none, .fieldLink RX4 23 "PaintballAtlas$Table" "wins" "[[I", .methodLink RX4 30 yX4_takePenalties, .instanceMethod yX4_takePenalties, .selects RX4 yX4_takePenalties yX4_takePenalties, .code yX4_takePenalties cX4_takePenalties 2 none, .fieldLink RX4 15 "PaintballAtlas$Table" "fines" "[I"] ++ wsX40)
def wsX4_isAhead : List Cond := .code yX4_isAhead cX4_isAhead 3 (some .boolean) :: ([.fieldLink RX4 9 "PaintballAtlas$Table" "points" "[I", .fieldLink RX4 23 "PaintballAtlas$Table" "wins" "[[I", .fieldLink RX4 18 "PaintballAtlas$Table" "differences" "[I"] ++ wsX40)
def wsX4_placeOf : List Cond := .code yX4_placeOf cX4_placeOf 4 (some .int) :: ([.methodLink RX4 33 yX4_isAhead, .instanceMethod yX4_isAhead, .selects RX4 yX4_isAhead yX4_isAhead, .initialized RX4, .code yX4_isAhead cX4_isAhead 3 (some .boolean), .fieldLink RX4 9 "PaintballAtlas$Table" "points" "[I", .fieldLink RX4 23 "PaintballAtlas$Table" "wins" "[[I", .fieldLink RX4 18 "PaintballAtlas$Table" "differences" "[I"] ++ wsX40)
def wsX5_init_r1 : List Cond := [Cond.methodLink RX5 3 objectInit, Cond.instanceMethod objectInit, Cond.code objectInit ⟨#[0xb1]⟩ 1 none, Cond.classLink RX5 9 RX1, Cond.instantiable RX1 1, Cond.initialized RX1, Cond.fieldLink RX5 12 "PaintballAtlas" "field" "LPaintballAtlas$Field;", Cond.classLink RX5 16 RX2, Cond.instantiable RX2 8, Cond.initialized RX2, Cond.fieldLink RX5 19 "PaintballAtlas" "round" "LPaintballAtlas$Round;", Cond.classLink RX5 23 RX4, Cond.instantiable RX4 4, Cond.initialized RX4, Cond.fieldLink RX5 26 "PaintballAtlas" "table" "LPaintballAtlas$Table;", Cond.arrayClass .int, Cond.fieldLink RX5 30 "PaintballAtlas" "refereeCells" "[I", Cond.instanceMethod yX1_init, Cond.code yX1_init cX1_init 1 none, Cond.methodLink RX1 3 objectInit, Cond.arrayClass .boolean, Cond.fieldLink RX1 9 "PaintballAtlas$Field" "bunkers" "[Z", Cond.methodLink RX5 18 yX2_init, Cond.instanceMethod yX2_init]
def wsX5_init_r2 : List Cond := [Cond.code yX2_init cX2_init 1 none, Cond.methodLink RX2 3 objectInit, Cond.fieldLink RX2 9 "PaintballAtlas$Round" "tick" "I", Cond.fieldLink RX2 15 "PaintballAtlas$Round" "cells" "[I", Cond.fieldLink RX2 19 "PaintballAtlas$Round" "hits" "[I", Cond.fieldLink RX2 22 "PaintballAtlas$Round" "lastShots" "[I", Cond.classLink RX2 25 RX3, Cond.instantiable RX3 5, Cond.initialized RX3, Cond.fieldLink RX2 28 "PaintballAtlas$Round" "shots" "LPaintballAtlas$Shots;", Cond.classLink RX2 32 RX0, Cond.instantiable RX0 5, Cond.initialized RX0, Cond.fieldLink RX2 35 "PaintballAtlas$Round" "calls" "LPaintballAtlas$Calls;", Cond.instanceMethod yX3_init, Cond.code yX3_init cX3_init 1 none, Cond.methodLink RX3 3 objectInit, Cond.fieldLink RX3 9 "PaintballAtlas$Shots" "shooters" "[I", Cond.fieldLink RX3 15 "PaintballAtlas$Shots" "origins" "[I", Cond.fieldLink RX3 18 "PaintballAtlas$Shots" "targets" "[I", Cond.fieldLink RX3 21 "PaintballAtlas$Shots" "arrivals" "[I", Cond.instanceMethod yX0_init, Cond.code yX0_init cX0_init 1 none, Cond.methodLink RX0 3 objectInit]
def wsX5_init_r3 : List Cond := [Cond.fieldLink RX0 9 "PaintballAtlas$Calls" "players" "[I", Cond.fieldLink RX0 15 "PaintballAtlas$Calls" "cells" "[I", Cond.fieldLink RX0 18 "PaintballAtlas$Calls" "ticks" "[I", Cond.fieldLink RX0 21 "PaintballAtlas$Calls" "disputed" "[Z", Cond.methodLink RX2 39 yX2_reset, Cond.instanceMethod yX2_reset, Cond.selects RX2 yX2_reset yX2_reset, Cond.code yX2_reset cX2_reset 3 none, Cond.fieldLink RX2 49 "PaintballAtlas$Shots" "count" "I", Cond.fieldLink RX2 52 "PaintballAtlas$Calls" "count" "I", Cond.instanceMethod yX4_init, Cond.code yX4_init cX4_init 1 none, Cond.methodLink RX4 3 objectInit, Cond.fieldLink RX4 9 "PaintballAtlas$Table" "points" "[I", Cond.fieldLink RX4 15 "PaintballAtlas$Table" "fines" "[I", Cond.fieldLink RX4 18 "PaintballAtlas$Table" "differences" "[I", Cond.classLink RX4 21 "[[I", Cond.fieldLink RX4 23 "PaintballAtlas$Table" "wins" "[[I"]
def wsX5_init : List Cond := .code yX5_init cX5_init 1 none :: ((wsX5_init_r1 ++ (wsX5_init_r2 ++ wsX5_init_r3)) ++ wsX10 ++ wsX50 ++ wsX20 ++ wsX40 ++ wsX30 ++ wsX00)
def wsX5_checkCell : List Cond := .code yX5_checkCell cX5_checkCell 1 none :: ([.classLink RX5 135 "java/lang/IndexOutOfBoundsException", .initialized "java/lang/IndexOutOfBoundsException"] ++ (vx_atS RX5 139 "java/lang/IndexOutOfBoundsException" ["java/lang/RuntimeException", "java/lang/Exception"]).filter goodWord)
def wsX5_toggleBunker : List Cond := .code yX5_toggleBunker cX5_toggleBunker 2 (some .boolean) :: ([.classLink RX5 42 "java/lang/IllegalStateException", .initialized "java/lang/IllegalStateException", .fieldLink RX5 19 "PaintballAtlas" "round" "LPaintballAtlas$Round;", .fieldLink RX5 12 "PaintballAtlas" "field" "LPaintballAtlas$Field;", .methodLink RX5 34 yX5_checkCell, .static yX5_checkCell, .initialized RX5, .code yX5_checkCell cX5_checkCell 1 none, .classLink RX5 135 "java/lang/IndexOutOfBoundsException", .initialized "java/lang/IndexOutOfBoundsException", .methodLink RX5 38 yX2_isPlayed, .instanceMethod yX2_isPlayed, .selects RX2 yX2_isPlayed yX2_isPlayed, .initialized RX2, .code yX2_isPlayed cX2_isPlayed 1 (some .boolean), .fieldLink RX2 9 "PaintballAtlas$Round" "tick" "I", .methodLink RX5 49 yX1_turnBunker, .instanceMethod yX1_turnBunker, .selects RX1 yX1_turnBunker yX1_turnBunker, .initialized RX1, .code yX1_turnBunker cX1_turnBunker 2 (some .boolean), .fieldLink RX1 9 "PaintballAtlas$Field" "bunkers" "[Z"] ++ wsX50 ++ wsX20 ++ wsX10 ++ (vx_atS RX5 46 "java/lang/IllegalStateException" ["java/lang/RuntimeException", "java/lang/Exception"]).filter goodWord ++ (vx_atS RX5 139 "java/lang/IndexOutOfBoundsException" ["java/lang/RuntimeException", "java/lang/Exception"]).filter goodWord)
def wsX5_sees_r1 : List Cond := [Cond.fieldLink RX5 12 "PaintballAtlas" "field" "LPaintballAtlas$Field;", Cond.methodLink RX5 34 yX5_checkCell, Cond.static yX5_checkCell, Cond.initialized RX5, Cond.code yX5_checkCell cX5_checkCell 1 none, Cond.classLink RX5 135 "java/lang/IndexOutOfBoundsException", Cond.initialized "java/lang/IndexOutOfBoundsException", Cond.methodLink RX5 53 yX1_hasSight, Cond.instanceMethod yX1_hasSight, Cond.selects RX1 yX1_hasSight yX1_hasSight, Cond.initialized RX1, Cond.code yX1_hasSight cX1_hasSight 10 (some .boolean), Cond.fieldLink RX1 9 "PaintballAtlas$Field" "bunkers" "[Z", Cond.methodLink RX1 29 Lib.Math.min.name, Cond.static Lib.Math.min.name, Cond.initialized "java/lang/Math", Cond.code Lib.Math.min.name Lib.Math.min.code 2 (some .int), Cond.methodLink RX1 21 Lib.Math.max.name, Cond.static Lib.Math.max.name, Cond.code Lib.Math.max.name Lib.Math.max.code 2 (some .int), Cond.methodLink RX1 32 yX1_lineEnters, Cond.static yX1_lineEnters, Cond.code yX1_lineEnters cX1_lineEnters 8 (some .boolean), Cond.methodLink RX1 15 Lib.Math.abs.name]
def wsX5_sees_r2 : List Cond := [Cond.static Lib.Math.abs.name, Cond.code Lib.Math.abs.name Lib.Math.abs.code 1 (some .int)]
def wsX5_sees : List Cond := .code yX5_sees cX5_sees 3 (some .boolean) :: ((wsX5_sees_r1 ++ wsX5_sees_r2) ++ wsX50 ++ wsX10 ++ (vx_atS RX5 139 "java/lang/IndexOutOfBoundsException" ["java/lang/RuntimeException", "java/lang/Exception"]).filter goodWord)
def wsX5_view_r1 : List Cond := [Cond.fieldLink RX5 12 "PaintballAtlas" "field" "LPaintballAtlas$Field;", Cond.methodLink RX5 34 yX5_checkCell, Cond.static yX5_checkCell, Cond.initialized RX5, Cond.code yX5_checkCell cX5_checkCell 1 none, Cond.classLink RX5 135 "java/lang/IndexOutOfBoundsException", Cond.initialized "java/lang/IndexOutOfBoundsException", Cond.methodLink RX5 57 yX1_countSeen, Cond.instanceMethod yX1_countSeen, Cond.selects RX1 yX1_countSeen yX1_countSeen, Cond.initialized RX1, Cond.code yX1_countSeen cX1_countSeen 4 (some .int), Cond.methodLink RX1 25 yX1_hasSight, Cond.instanceMethod yX1_hasSight, Cond.selects RX1 yX1_hasSight yX1_hasSight, Cond.code yX1_hasSight cX1_hasSight 10 (some .boolean), Cond.fieldLink RX1 9 "PaintballAtlas$Field" "bunkers" "[Z", Cond.methodLink RX1 29 Lib.Math.min.name, Cond.static Lib.Math.min.name, Cond.initialized "java/lang/Math", Cond.code Lib.Math.min.name Lib.Math.min.code 2 (some .int), Cond.methodLink RX1 21 Lib.Math.max.name, Cond.static Lib.Math.max.name, Cond.code Lib.Math.max.name Lib.Math.max.code 2 (some .int)]
def wsX5_view_r2 : List Cond := [Cond.methodLink RX1 32 yX1_lineEnters, Cond.static yX1_lineEnters, Cond.code yX1_lineEnters cX1_lineEnters 8 (some .boolean), Cond.methodLink RX1 15 Lib.Math.abs.name, Cond.static Lib.Math.abs.name, Cond.code Lib.Math.abs.name Lib.Math.abs.code 1 (some .int)]
def wsX5_view : List Cond := .code yX5_view cX5_view 2 (some .int) :: ((wsX5_view_r1 ++ wsX5_view_r2) ++ wsX50 ++ wsX10 ++ (vx_atS RX5 139 "java/lang/IndexOutOfBoundsException" ["java/lang/RuntimeException", "java/lang/Exception"]).filter goodWord)
def wsX5_checkReferee : List Cond := .code yX5_checkReferee cX5_checkReferee 1 none :: ([.classLink RX5 135 "java/lang/IndexOutOfBoundsException", .initialized "java/lang/IndexOutOfBoundsException"] ++ (vx_atS RX5 139 "java/lang/IndexOutOfBoundsException" ["java/lang/RuntimeException", "java/lang/Exception"]).filter goodWord)
def wsX5_setReferee : List Cond := .code yX5_setReferee cX5_setReferee 4 (some .int) :: ([.fieldLink RX5 30 "PaintballAtlas" "refereeCells" "[I", .methodLink RX5 61 yX5_checkReferee, .static yX5_checkReferee, .initialized RX5, .code yX5_checkReferee cX5_checkReferee 1 none, .classLink RX5 135 "java/lang/IndexOutOfBoundsException", .initialized "java/lang/IndexOutOfBoundsException", .methodLink RX5 34 yX5_checkCell, .static yX5_checkCell, .code yX5_checkCell cX5_checkCell 1 none] ++ wsX50 ++ (vx_atS RX5 139 "java/lang/IndexOutOfBoundsException" ["java/lang/RuntimeException", "java/lang/Exception"]).filter goodWord)
def wsX5_checkTeam : List Cond := .code yX5_checkTeam cX5_checkTeam 1 none :: ([.classLink RX5 135 "java/lang/IndexOutOfBoundsException", .initialized "java/lang/IndexOutOfBoundsException"] ++ (vx_atS RX5 139 "java/lang/IndexOutOfBoundsException" ["java/lang/RuntimeException", "java/lang/Exception"]).filter goodWord)
def wsX5_begin_r1 : List Cond := [Cond.classLink RX5 67 "java/lang/IllegalArgumentException", Cond.initialized "java/lang/IllegalArgumentException", Cond.classLink RX5 42 "java/lang/IllegalStateException", Cond.initialized "java/lang/IllegalStateException", Cond.fieldLink RX5 19 "PaintballAtlas" "round" "LPaintballAtlas$Round;", Cond.methodLink RX5 64 yX5_checkTeam, Cond.static yX5_checkTeam, Cond.initialized RX5, Cond.code yX5_checkTeam cX5_checkTeam 1 none, Cond.classLink RX5 135 "java/lang/IndexOutOfBoundsException", Cond.initialized "java/lang/IndexOutOfBoundsException", Cond.methodLink RX5 38 yX2_isPlayed, Cond.instanceMethod yX2_isPlayed, Cond.selects RX2 yX2_isPlayed yX2_isPlayed, Cond.initialized RX2, Cond.code yX2_isPlayed cX2_isPlayed 1 (some .boolean), Cond.fieldLink RX2 9 "PaintballAtlas$Round" "tick" "I", Cond.methodLink RX5 72 yX2_start, Cond.instanceMethod yX2_start, Cond.selects RX2 yX2_start yX2_start, Cond.code yX2_start cX2_start 3 none, Cond.fieldLink RX2 43 "PaintballAtlas$Round" "home" "I", Cond.fieldLink RX2 46 "PaintballAtlas$Round" "away" "I", Cond.methodLink RX2 39 yX2_reset]
def wsX5_begin_r2 : List Cond := [Cond.instanceMethod yX2_reset, Cond.selects RX2 yX2_reset yX2_reset, Cond.code yX2_reset cX2_reset 3 none, Cond.fieldLink RX2 15 "PaintballAtlas$Round" "cells" "[I", Cond.fieldLink RX2 19 "PaintballAtlas$Round" "hits" "[I", Cond.fieldLink RX2 22 "PaintballAtlas$Round" "lastShots" "[I", Cond.fieldLink RX2 28 "PaintballAtlas$Round" "shots" "LPaintballAtlas$Shots;", Cond.fieldLink RX2 49 "PaintballAtlas$Shots" "count" "I", Cond.fieldLink RX2 35 "PaintballAtlas$Round" "calls" "LPaintballAtlas$Calls;", Cond.fieldLink RX2 52 "PaintballAtlas$Calls" "count" "I"]
def wsX5_begin : List Cond := .code yX5_begin cX5_begin 3 none :: ((wsX5_begin_r1 ++ wsX5_begin_r2) ++ wsX50 ++ wsX20 ++ wsX30 ++ wsX00 ++ (vx_atS RX5 71 "java/lang/IllegalArgumentException" ["java/lang/RuntimeException", "java/lang/Exception"]).filter goodWord ++ (vx_atS RX5 46 "java/lang/IllegalStateException" ["java/lang/RuntimeException", "java/lang/Exception"]).filter goodWord ++ (vx_atS RX5 139 "java/lang/IndexOutOfBoundsException" ["java/lang/RuntimeException", "java/lang/Exception"]).filter goodWord)
def wsX5_checkPlayer : List Cond := .code yX5_checkPlayer cX5_checkPlayer 1 none :: ([.classLink RX5 135 "java/lang/IndexOutOfBoundsException", .initialized "java/lang/IndexOutOfBoundsException"] ++ (vx_atS RX5 139 "java/lang/IndexOutOfBoundsException" ["java/lang/RuntimeException", "java/lang/Exception"]).filter goodWord)
def wsX5_checkRound : List Cond := .code yX5_checkRound cX5_checkRound 1 none :: ([.classLink RX5 42 "java/lang/IllegalStateException", .initialized "java/lang/IllegalStateException", .fieldLink RX5 19 "PaintballAtlas" "round" "LPaintballAtlas$Round;", .methodLink RX5 38 yX2_isPlayed, .instanceMethod yX2_isPlayed, .selects RX2 yX2_isPlayed yX2_isPlayed, .initialized RX2, .code yX2_isPlayed cX2_isPlayed 1 (some .boolean), .fieldLink RX2 9 "PaintballAtlas$Round" "tick" "I"] ++ wsX50 ++ wsX20 ++ (vx_atS RX5 46 "java/lang/IllegalStateException" ["java/lang/RuntimeException", "java/lang/Exception"]).filter goodWord)
def wsX5_move_r1 : List Cond := [Cond.classLink RX5 42 "java/lang/IllegalStateException", Cond.initialized "java/lang/IllegalStateException", Cond.fieldLink RX5 19 "PaintballAtlas" "round" "LPaintballAtlas$Round;", Cond.fieldLink RX5 12 "PaintballAtlas" "field" "LPaintballAtlas$Field;", Cond.methodLink RX5 76 yX5_checkPlayer, Cond.static yX5_checkPlayer, Cond.initialized RX5, Cond.code yX5_checkPlayer cX5_checkPlayer 1 none, Cond.classLink RX5 135 "java/lang/IndexOutOfBoundsException", Cond.initialized "java/lang/IndexOutOfBoundsException", Cond.methodLink RX5 34 yX5_checkCell, Cond.static yX5_checkCell, Cond.code yX5_checkCell cX5_checkCell 1 none, Cond.methodLink RX5 79 yX5_checkRound, Cond.instanceMethod yX5_checkRound, Cond.selects RX5 yX5_checkRound yX5_checkRound, Cond.code yX5_checkRound cX5_checkRound 1 none, Cond.methodLink RX5 38 yX2_isPlayed, Cond.instanceMethod yX2_isPlayed, Cond.selects RX2 yX2_isPlayed yX2_isPlayed, Cond.initialized RX2, Cond.code yX2_isPlayed cX2_isPlayed 1 (some .boolean), Cond.fieldLink RX2 9 "PaintballAtlas$Round" "tick" "I", Cond.methodLink RX5 82 yX2_cellOf]
def wsX5_move_r2 : List Cond := [Cond.instanceMethod yX2_cellOf, Cond.selects RX2 yX2_cellOf yX2_cellOf, Cond.code yX2_cellOf cX2_cellOf 2 (some .int), Cond.fieldLink RX2 15 "PaintballAtlas$Round" "cells" "[I", Cond.methodLink RX5 87 yX1_distance, Cond.static yX1_distance, Cond.initialized RX1, Cond.code yX1_distance cX1_distance 4 (some .int), Cond.methodLink RX1 15 Lib.Math.abs.name, Cond.static Lib.Math.abs.name, Cond.initialized "java/lang/Math", Cond.code Lib.Math.abs.name Lib.Math.abs.code 1 (some .int), Cond.methodLink RX1 21 Lib.Math.max.name, Cond.static Lib.Math.max.name, Cond.code Lib.Math.max.name Lib.Math.max.code 2 (some .int), Cond.methodLink RX5 93 yX1_hasBunker, Cond.instanceMethod yX1_hasBunker, Cond.selects RX1 yX1_hasBunker yX1_hasBunker, Cond.code yX1_hasBunker cX1_hasBunker 2 (some .boolean), Cond.fieldLink RX1 9 "PaintballAtlas$Field" "bunkers" "[Z", Cond.methodLink RX5 96 yX2_playerOn, Cond.instanceMethod yX2_playerOn, Cond.selects RX2 yX2_playerOn yX2_playerOn, Cond.code yX2_playerOn cX2_playerOn 3 (some .int)]
def wsX5_move_r3 : List Cond := [Cond.methodLink RX5 101 yX2_put, Cond.instanceMethod yX2_put, Cond.selects RX2 yX2_put yX2_put, Cond.code yX2_put cX2_put 3 none]
def wsX5_move : List Cond := .code yX5_move cX5_move 4 (some .int) :: ((wsX5_move_r1 ++ (wsX5_move_r2 ++ wsX5_move_r3)) ++ wsX50 ++ wsX20 ++ wsX10 ++ (vx_atS RX5 46 "java/lang/IllegalStateException" ["java/lang/RuntimeException", "java/lang/Exception"]).filter goodWord ++ (vx_atS RX5 139 "java/lang/IndexOutOfBoundsException" ["java/lang/RuntimeException", "java/lang/Exception"]).filter goodWord)
def wsX5_shoot_r1 : List Cond := [Cond.classLink RX5 42 "java/lang/IllegalStateException", Cond.initialized "java/lang/IllegalStateException", Cond.fieldLink RX5 19 "PaintballAtlas" "round" "LPaintballAtlas$Round;", Cond.methodLink RX5 76 yX5_checkPlayer, Cond.static yX5_checkPlayer, Cond.initialized RX5, Cond.code yX5_checkPlayer cX5_checkPlayer 1 none, Cond.classLink RX5 135 "java/lang/IndexOutOfBoundsException", Cond.initialized "java/lang/IndexOutOfBoundsException", Cond.methodLink RX5 34 yX5_checkCell, Cond.static yX5_checkCell, Cond.code yX5_checkCell cX5_checkCell 1 none, Cond.methodLink RX5 79 yX5_checkRound, Cond.instanceMethod yX5_checkRound, Cond.selects RX5 yX5_checkRound yX5_checkRound, Cond.code yX5_checkRound cX5_checkRound 1 none, Cond.methodLink RX5 38 yX2_isPlayed, Cond.instanceMethod yX2_isPlayed, Cond.selects RX2 yX2_isPlayed yX2_isPlayed, Cond.initialized RX2, Cond.code yX2_isPlayed cX2_isPlayed 1 (some .boolean), Cond.fieldLink RX2 9 "PaintballAtlas$Round" "tick" "I", Cond.methodLink RX5 82 yX2_cellOf, Cond.instanceMethod yX2_cellOf]
def wsX5_shoot_r2 : List Cond := [Cond.selects RX2 yX2_cellOf yX2_cellOf, Cond.code yX2_cellOf cX2_cellOf 2 (some .int), Cond.fieldLink RX2 15 "PaintballAtlas$Round" "cells" "[I", Cond.methodLink RX5 108 yX2_mayFire, Cond.instanceMethod yX2_mayFire, Cond.selects RX2 yX2_mayFire yX2_mayFire, Cond.code yX2_mayFire cX2_mayFire 2 (some .boolean), Cond.fieldLink RX2 22 "PaintballAtlas$Round" "lastShots" "[I", Cond.fieldLink RX2 28 "PaintballAtlas$Round" "shots" "LPaintballAtlas$Shots;", Cond.fieldLink RX2 49 "PaintballAtlas$Shots" "count" "I", Cond.methodLink RX5 113 yX2_fire, Cond.instanceMethod yX2_fire, Cond.selects RX2 yX2_fire yX2_fire, Cond.code yX2_fire cX2_fire 5 (some .int), Cond.methodLink RX2 53 yX1_distance, Cond.static yX1_distance, Cond.initialized RX1, Cond.code yX1_distance cX1_distance 4 (some .int), Cond.methodLink RX1 15 Lib.Math.abs.name, Cond.static Lib.Math.abs.name, Cond.initialized "java/lang/Math", Cond.code Lib.Math.abs.name Lib.Math.abs.code 1 (some .int), Cond.methodLink RX1 21 Lib.Math.max.name, Cond.static Lib.Math.max.name]
def wsX5_shoot_r3 : List Cond := [Cond.code Lib.Math.max.name Lib.Math.max.code 2 (some .int), Cond.methodLink RX2 59 yX3_add, Cond.instanceMethod yX3_add, Cond.selects RX3 yX3_add yX3_add, Cond.initialized RX3, Cond.code yX3_add cX3_add 5 none, Cond.fieldLink RX3 9 "PaintballAtlas$Shots" "shooters" "[I", Cond.fieldLink RX3 24 "PaintballAtlas$Shots" "count" "I", Cond.fieldLink RX3 15 "PaintballAtlas$Shots" "origins" "[I", Cond.fieldLink RX3 18 "PaintballAtlas$Shots" "targets" "[I", Cond.fieldLink RX3 21 "PaintballAtlas$Shots" "arrivals" "[I"]
def wsX5_shoot : List Cond := .code yX5_shoot cX5_shoot 4 (some .int) :: ((wsX5_shoot_r1 ++ (wsX5_shoot_r2 ++ wsX5_shoot_r3)) ++ wsX50 ++ wsX20 ++ wsX30 ++ (vx_atS RX5 46 "java/lang/IllegalStateException" ["java/lang/RuntimeException", "java/lang/Exception"]).filter goodWord ++ (vx_atS RX5 139 "java/lang/IndexOutOfBoundsException" ["java/lang/RuntimeException", "java/lang/Exception"]).filter goodWord)
def wsX5_pass_r1 : List Cond := [Cond.classLink RX5 67 "java/lang/IllegalArgumentException", Cond.initialized "java/lang/IllegalArgumentException", Cond.fieldLink RX5 19 "PaintballAtlas" "round" "LPaintballAtlas$Round;", Cond.fieldLink RX5 12 "PaintballAtlas" "field" "LPaintballAtlas$Field;", Cond.methodLink RX5 79 yX5_checkRound, Cond.instanceMethod yX5_checkRound, Cond.selects RX5 yX5_checkRound yX5_checkRound, Cond.initialized RX5, Cond.code yX5_checkRound cX5_checkRound 1 none, Cond.classLink RX5 42 "java/lang/IllegalStateException", Cond.initialized "java/lang/IllegalStateException", Cond.methodLink RX5 38 yX2_isPlayed, Cond.instanceMethod yX2_isPlayed, Cond.selects RX2 yX2_isPlayed yX2_isPlayed, Cond.initialized RX2, Cond.code yX2_isPlayed cX2_isPlayed 1 (some .boolean), Cond.fieldLink RX2 9 "PaintballAtlas$Round" "tick" "I", Cond.methodLink RX5 118 yX2_nextTick, Cond.instanceMethod yX2_nextTick, Cond.selects RX2 yX2_nextTick yX2_nextTick, Cond.code yX2_nextTick cX2_nextTick 4 (some .int), Cond.fieldLink RX2 28 "PaintballAtlas$Round" "shots" "LPaintballAtlas$Shots;", Cond.fieldLink RX2 49 "PaintballAtlas$Shots" "count" "I", Cond.fieldLink RX2 63 "PaintballAtlas$Shots" "arrivals" "[I"]
def wsX5_pass_r2 : List Cond := [Cond.methodLink RX2 66 yX2_strikes, Cond.instanceMethod yX2_strikes, Cond.selects RX2 yX2_strikes yX2_strikes, Cond.code yX2_strikes cX2_strikes 5 (some .boolean), Cond.fieldLink RX2 70 "PaintballAtlas$Shots" "targets" "[I", Cond.fieldLink RX2 77 "PaintballAtlas$Shots" "shooters" "[I", Cond.fieldLink RX2 80 "PaintballAtlas$Shots" "origins" "[I", Cond.fieldLink RX2 19 "PaintballAtlas$Round" "hits" "[I", Cond.methodLink RX2 73 yX2_playerOn, Cond.instanceMethod yX2_playerOn, Cond.selects RX2 yX2_playerOn yX2_playerOn, Cond.code yX2_playerOn cX2_playerOn 3 (some .int), Cond.fieldLink RX2 15 "PaintballAtlas$Round" "cells" "[I", Cond.methodLink RX2 83 yX1_hasSight, Cond.instanceMethod yX1_hasSight, Cond.selects RX1 yX1_hasSight yX1_hasSight, Cond.initialized RX1, Cond.code yX1_hasSight cX1_hasSight 10 (some .boolean), Cond.fieldLink RX1 9 "PaintballAtlas$Field" "bunkers" "[Z", Cond.methodLink RX1 29 Lib.Math.min.name, Cond.static Lib.Math.min.name, Cond.initialized "java/lang/Math", Cond.code Lib.Math.min.name Lib.Math.min.code 2 (some .int), Cond.methodLink RX1 21 Lib.Math.max.name]
def wsX5_pass_r3 : List Cond := [Cond.static Lib.Math.max.name, Cond.code Lib.Math.max.name Lib.Math.max.code 2 (some .int), Cond.methodLink RX1 32 yX1_lineEnters, Cond.static yX1_lineEnters, Cond.code yX1_lineEnters cX1_lineEnters 8 (some .boolean), Cond.methodLink RX1 15 Lib.Math.abs.name, Cond.static Lib.Math.abs.name, Cond.code Lib.Math.abs.name Lib.Math.abs.code 1 (some .int)]
def wsX5_pass : List Cond := .code yX5_pass cX5_pass 4 (some .int) :: ((wsX5_pass_r1 ++ (wsX5_pass_r2 ++ wsX5_pass_r3)) ++ wsX50 ++ wsX20 ++ wsX30 ++ wsX10 ++ (vx_atS RX5 71 "java/lang/IllegalArgumentException" ["java/lang/RuntimeException", "java/lang/Exception"]).filter goodWord ++ (vx_atS RX5 46 "java/lang/IllegalStateException" ["java/lang/RuntimeException", "java/lang/Exception"]).filter goodWord)
def wsX5_call_r1 : List Cond := [Cond.classLink RX5 42 "java/lang/IllegalStateException", Cond.initialized "java/lang/IllegalStateException", Cond.fieldLink RX5 19 "PaintballAtlas" "round" "LPaintballAtlas$Round;", Cond.fieldLink RX5 12 "PaintballAtlas" "field" "LPaintballAtlas$Field;", Cond.fieldLink RX5 30 "PaintballAtlas" "refereeCells" "[I", Cond.methodLink RX5 61 yX5_checkReferee, Cond.static yX5_checkReferee, Cond.initialized RX5, Cond.code yX5_checkReferee cX5_checkReferee 1 none, Cond.classLink RX5 135 "java/lang/IndexOutOfBoundsException", Cond.initialized "java/lang/IndexOutOfBoundsException", Cond.methodLink RX5 76 yX5_checkPlayer, Cond.static yX5_checkPlayer, Cond.code yX5_checkPlayer cX5_checkPlayer 1 none, Cond.methodLink RX5 79 yX5_checkRound, Cond.instanceMethod yX5_checkRound, Cond.selects RX5 yX5_checkRound yX5_checkRound, Cond.code yX5_checkRound cX5_checkRound 1 none, Cond.methodLink RX5 38 yX2_isPlayed, Cond.instanceMethod yX2_isPlayed, Cond.selects RX2 yX2_isPlayed yX2_isPlayed, Cond.initialized RX2, Cond.code yX2_isPlayed cX2_isPlayed 1 (some .boolean), Cond.fieldLink RX2 9 "PaintballAtlas$Round" "tick" "I"]
def wsX5_call_r2 : List Cond := [Cond.methodLink RX5 82 yX2_cellOf, Cond.instanceMethod yX2_cellOf, Cond.selects RX2 yX2_cellOf yX2_cellOf, Cond.code yX2_cellOf cX2_cellOf 2 (some .int), Cond.fieldLink RX2 15 "PaintballAtlas$Round" "cells" "[I", Cond.methodLink RX5 53 yX1_hasSight, Cond.instanceMethod yX1_hasSight, Cond.selects RX1 yX1_hasSight yX1_hasSight, Cond.initialized RX1, Cond.code yX1_hasSight cX1_hasSight 10 (some .boolean), Cond.fieldLink RX1 9 "PaintballAtlas$Field" "bunkers" "[Z", Cond.methodLink RX1 29 Lib.Math.min.name, Cond.static Lib.Math.min.name, Cond.initialized "java/lang/Math", Cond.code Lib.Math.min.name Lib.Math.min.code 2 (some .int), Cond.methodLink RX1 21 Lib.Math.max.name, Cond.static Lib.Math.max.name, Cond.code Lib.Math.max.name Lib.Math.max.code 2 (some .int), Cond.methodLink RX1 32 yX1_lineEnters, Cond.static yX1_lineEnters, Cond.code yX1_lineEnters cX1_lineEnters 8 (some .boolean), Cond.methodLink RX1 15 Lib.Math.abs.name, Cond.static Lib.Math.abs.name, Cond.code Lib.Math.abs.name Lib.Math.abs.code 1 (some .int)]
def wsX5_call_r3 : List Cond := [Cond.methodLink RX5 124 yX2_mayCall, Cond.instanceMethod yX2_mayCall, Cond.selects RX2 yX2_mayCall yX2_mayCall, Cond.code yX2_mayCall cX2_mayCall 1 (some .boolean), Cond.fieldLink RX2 35 "PaintballAtlas$Round" "calls" "LPaintballAtlas$Calls;", Cond.fieldLink RX2 52 "PaintballAtlas$Calls" "count" "I", Cond.methodLink RX5 129 yX2_callOut, Cond.instanceMethod yX2_callOut, Cond.selects RX2 yX2_callOut yX2_callOut, Cond.code yX2_callOut cX2_callOut 3 (some .int), Cond.methodLink RX2 87 yX0_add, Cond.instanceMethod yX0_add, Cond.selects RX0 yX0_add yX0_add, Cond.initialized RX0, Cond.code yX0_add cX0_add 4 (some .int), Cond.fieldLink RX0 9 "PaintballAtlas$Calls" "players" "[I", Cond.fieldLink RX0 25 "PaintballAtlas$Calls" "count" "I", Cond.fieldLink RX0 15 "PaintballAtlas$Calls" "cells" "[I", Cond.fieldLink RX0 18 "PaintballAtlas$Calls" "ticks" "[I", Cond.fieldLink RX0 21 "PaintballAtlas$Calls" "disputed" "[Z"]
def wsX5_call : List Cond := .code yX5_call cX5_call 4 (some .int) :: ((wsX5_call_r1 ++ (wsX5_call_r2 ++ wsX5_call_r3)) ++ wsX50 ++ wsX20 ++ wsX10 ++ wsX00 ++ (vx_atS RX5 46 "java/lang/IllegalStateException" ["java/lang/RuntimeException", "java/lang/Exception"]).filter goodWord ++ (vx_atS RX5 139 "java/lang/IndexOutOfBoundsException" ["java/lang/RuntimeException", "java/lang/Exception"]).filter goodWord)
def wsX5_dispute_r1 : List Cond := [Cond.classLink RX5 135 "java/lang/IndexOutOfBoundsException", Cond.initialized "java/lang/IndexOutOfBoundsException", Cond.classLink RX5 42 "java/lang/IllegalStateException", Cond.initialized "java/lang/IllegalStateException", Cond.fieldLink RX5 19 "PaintballAtlas" "round" "LPaintballAtlas$Round;", Cond.fieldLink RX5 26 "PaintballAtlas" "table" "LPaintballAtlas$Table;", Cond.methodLink RX5 132 yX2_hasCall, Cond.instanceMethod yX2_hasCall, Cond.selects RX2 yX2_hasCall yX2_hasCall, Cond.initialized RX2, Cond.code yX2_hasCall cX2_hasCall 2 (some .boolean), Cond.fieldLink RX2 35 "PaintballAtlas$Round" "calls" "LPaintballAtlas$Calls;", Cond.fieldLink RX2 52 "PaintballAtlas$Calls" "count" "I", Cond.methodLink RX5 140 yX2_isDisputed, Cond.instanceMethod yX2_isDisputed, Cond.selects RX2 yX2_isDisputed yX2_isDisputed, Cond.code yX2_isDisputed cX2_isDisputed 2 (some .boolean), Cond.fieldLink RX2 90 "PaintballAtlas$Calls" "disputed" "[Z", Cond.methodLink RX5 145 yX2_judge, Cond.instanceMethod yX2_judge, Cond.selects RX2 yX2_judge yX2_judge, Cond.code yX2_judge cX2_judge 4 (some .boolean), Cond.fieldLink RX2 94 "PaintballAtlas$Calls" "players" "[I", Cond.fieldLink RX2 19 "PaintballAtlas$Round" "hits" "[I"]
def wsX5_dispute_r2 : List Cond := [Cond.fieldLink RX2 97 "PaintballAtlas$Calls" "ticks" "[I", Cond.fieldLink RX2 100 "PaintballAtlas$Calls" "cells" "[I", Cond.fieldLink RX2 15 "PaintballAtlas$Round" "cells" "[I", Cond.methodLink RX2 73 yX2_playerOn, Cond.instanceMethod yX2_playerOn, Cond.selects RX2 yX2_playerOn yX2_playerOn, Cond.code yX2_playerOn cX2_playerOn 3 (some .int), Cond.methodLink RX5 148 yX2_teamCalled, Cond.instanceMethod yX2_teamCalled, Cond.selects RX2 yX2_teamCalled yX2_teamCalled, Cond.code yX2_teamCalled cX2_teamCalled 2 (some .int), Cond.fieldLink RX2 43 "PaintballAtlas$Round" "home" "I", Cond.fieldLink RX2 46 "PaintballAtlas$Round" "away" "I", Cond.methodLink RX5 151 yX4_fine, Cond.instanceMethod yX4_fine, Cond.selects RX4 yX4_fine yX4_fine, Cond.initialized RX4, Cond.code yX4_fine cX4_fine 2 none, Cond.fieldLink RX4 15 "PaintballAtlas$Table" "fines" "[I"]
def wsX5_dispute : List Cond := .code yX5_dispute cX5_dispute 3 (some .boolean) :: ((wsX5_dispute_r1 ++ wsX5_dispute_r2) ++ wsX50 ++ wsX20 ++ wsX00 ++ wsX40 ++ (vx_atS RX5 139 "java/lang/IndexOutOfBoundsException" ["java/lang/RuntimeException", "java/lang/Exception"]).filter goodWord ++ (vx_atS RX5 46 "java/lang/IllegalStateException" ["java/lang/RuntimeException", "java/lang/Exception"]).filter goodWord)
def wsX5_end_r1 : List Cond := [Cond.fieldLink RX5 19 "PaintballAtlas" "round" "LPaintballAtlas$Round;", Cond.fieldLink RX5 26 "PaintballAtlas" "table" "LPaintballAtlas$Table;", Cond.methodLink RX5 79 yX5_checkRound, Cond.instanceMethod yX5_checkRound, Cond.selects RX5 yX5_checkRound yX5_checkRound, Cond.initialized RX5, Cond.code yX5_checkRound cX5_checkRound 1 none, Cond.classLink RX5 42 "java/lang/IllegalStateException", Cond.initialized "java/lang/IllegalStateException", Cond.methodLink RX5 38 yX2_isPlayed, Cond.instanceMethod yX2_isPlayed, Cond.selects RX2 yX2_isPlayed yX2_isPlayed, Cond.initialized RX2, Cond.code yX2_isPlayed cX2_isPlayed 1 (some .boolean), Cond.fieldLink RX2 9 "PaintballAtlas$Round" "tick" "I", Cond.methodLink RX5 154 yX2_margin, Cond.instanceMethod yX2_margin, Cond.selects RX2 yX2_margin yX2_margin, Cond.code yX2_margin cX2_margin 3 (some .int), Cond.fieldLink RX2 15 "PaintballAtlas$Round" "cells" "[I", Cond.fieldLink RX2 19 "PaintballAtlas$Round" "hits" "[I", Cond.methodLink RX5 158 yX2_homeTeam, Cond.instanceMethod yX2_homeTeam, Cond.selects RX2 yX2_homeTeam yX2_homeTeam]
def wsX5_end_r2 : List Cond := [Cond.code yX2_homeTeam cX2_homeTeam 1 (some .int), Cond.fieldLink RX2 43 "PaintballAtlas$Round" "home" "I", Cond.methodLink RX5 161 yX2_awayTeam, Cond.instanceMethod yX2_awayTeam, Cond.selects RX2 yX2_awayTeam yX2_awayTeam, Cond.code yX2_awayTeam cX2_awayTeam 1 (some .int), Cond.fieldLink RX2 46 "PaintballAtlas$Round" "away" "I", Cond.methodLink RX5 164 yX4_enter, Cond.instanceMethod yX4_enter, Cond.selects RX4 yX4_enter yX4_enter, Cond.initialized RX4, Cond.code yX4_enter cX4_enter 4 none, Cond.fieldLink RX4 18 "PaintballAtlas$Table" "differences" "[I", Cond.fieldLink RX4 9 "PaintballAtlas$Table" "points" "[I", Cond.methodLink RX4 26 yX4_enterWin, Cond.instanceMethod yX4_enterWin, Cond.selects RX4 yX4_enterWin yX4_enterWin, Cond.code yX4_enterWin cX4_enterWin 3 none, Cond.fieldLink RX4 23 "PaintballAtlas$Table" "wins" "[[I", Cond.methodLink RX4 30 yX4_takePenalties, Cond.instanceMethod yX4_takePenalties, Cond.selects RX4 yX4_takePenalties yX4_takePenalties, Cond.code yX4_takePenalties cX4_takePenalties 2 none, Cond.fieldLink RX4 15 "PaintballAtlas$Table" "fines" "[I"]
def wsX5_end_r3 : List Cond := [Cond.methodLink RX5 168 yX2_close, Cond.instanceMethod yX2_close, Cond.selects RX2 yX2_close yX2_close, Cond.code yX2_close cX2_close 1 none, Cond.methodLink RX2 39 yX2_reset, Cond.instanceMethod yX2_reset, Cond.selects RX2 yX2_reset yX2_reset, Cond.code yX2_reset cX2_reset 3 none, Cond.fieldLink RX2 22 "PaintballAtlas$Round" "lastShots" "[I", Cond.fieldLink RX2 28 "PaintballAtlas$Round" "shots" "LPaintballAtlas$Shots;", Cond.fieldLink RX2 49 "PaintballAtlas$Shots" "count" "I", Cond.fieldLink RX2 35 "PaintballAtlas$Round" "calls" "LPaintballAtlas$Calls;", Cond.fieldLink RX2 52 "PaintballAtlas$Calls" "count" "I"]
def wsX5_end : List Cond := .code yX5_end cX5_end 2 (some .int) :: ((wsX5_end_r1 ++ (wsX5_end_r2 ++ wsX5_end_r3)) ++ wsX50 ++ wsX20 ++ wsX40 ++ wsX30 ++ wsX00 ++ (vx_atS RX5 46 "java/lang/IllegalStateException" ["java/lang/RuntimeException", "java/lang/Exception"]).filter goodWord)
def wsX5_tick : List Cond := .code yX5_tick cX5_tick 1 (some .int) :: ([.fieldLink RX5 19 "PaintballAtlas" "round" "LPaintballAtlas$Round;", .methodLink RX5 171 yX2_time, .instanceMethod yX2_time, .selects RX2 yX2_time yX2_time, .initialized RX2, .code yX2_time cX2_time 1 (some .int), .fieldLink RX2 9 "PaintballAtlas$Round" "tick" "I"] ++ wsX50 ++ wsX20)
def wsX5_where : List Cond := .code yX5_where cX5_where 2 (some .int) :: ([.fieldLink RX5 19 "PaintballAtlas" "round" "LPaintballAtlas$Round;", .methodLink RX5 76 yX5_checkPlayer, .static yX5_checkPlayer, .initialized RX5, .code yX5_checkPlayer cX5_checkPlayer 1 none, .classLink RX5 135 "java/lang/IndexOutOfBoundsException", .initialized "java/lang/IndexOutOfBoundsException", .methodLink RX5 82 yX2_cellOf, .instanceMethod yX2_cellOf, .selects RX2 yX2_cellOf yX2_cellOf, .initialized RX2, .code yX2_cellOf cX2_cellOf 2 (some .int), .fieldLink RX2 15 "PaintballAtlas$Round" "cells" "[I"] ++ wsX50 ++ wsX20 ++ (vx_atS RX5 139 "java/lang/IndexOutOfBoundsException" ["java/lang/RuntimeException", "java/lang/Exception"]).filter goodWord)
def wsX5_hit : List Cond := .code yX5_hit cX5_hit 2 (some .int) :: ([.fieldLink RX5 19 "PaintballAtlas" "round" "LPaintballAtlas$Round;", .methodLink RX5 76 yX5_checkPlayer, .static yX5_checkPlayer, .initialized RX5, .code yX5_checkPlayer cX5_checkPlayer 1 none, .classLink RX5 135 "java/lang/IndexOutOfBoundsException", .initialized "java/lang/IndexOutOfBoundsException", .methodLink RX5 174 yX2_hitOf, .instanceMethod yX2_hitOf, .selects RX2 yX2_hitOf yX2_hitOf, .initialized RX2, .code yX2_hitOf cX2_hitOf 2 (some .int), .fieldLink RX2 19 "PaintballAtlas$Round" "hits" "[I"] ++ wsX50 ++ wsX20 ++ (vx_atS RX5 139 "java/lang/IndexOutOfBoundsException" ["java/lang/RuntimeException", "java/lang/Exception"]).filter goodWord)
def wsX5_flying : List Cond := .code yX5_flying cX5_flying 1 (some .int) :: ([.fieldLink RX5 19 "PaintballAtlas" "round" "LPaintballAtlas$Round;", .methodLink RX5 177 yX2_countFlying, .instanceMethod yX2_countFlying, .selects RX2 yX2_countFlying yX2_countFlying, .initialized RX2, .code yX2_countFlying cX2_countFlying 3 (some .int), .fieldLink RX2 28 "PaintballAtlas$Round" "shots" "LPaintballAtlas$Shots;", .fieldLink RX2 49 "PaintballAtlas$Shots" "count" "I", .fieldLink RX2 63 "PaintballAtlas$Shots" "arrivals" "[I", .fieldLink RX2 9 "PaintballAtlas$Round" "tick" "I"] ++ wsX50 ++ wsX20 ++ wsX30)
def wsX5_points : List Cond := .code yX5_points cX5_points 2 (some .int) :: ([.fieldLink RX5 26 "PaintballAtlas" "table" "LPaintballAtlas$Table;", .methodLink RX5 64 yX5_checkTeam, .static yX5_checkTeam, .initialized RX5, .code yX5_checkTeam cX5_checkTeam 1 none, .classLink RX5 135 "java/lang/IndexOutOfBoundsException", .initialized "java/lang/IndexOutOfBoundsException", .methodLink RX5 180 yX4_pointsOf, .instanceMethod yX4_pointsOf, .selects RX4 yX4_pointsOf yX4_pointsOf, .initialized RX4, .code yX4_pointsOf cX4_pointsOf 2 (some .int), .fieldLink RX4 9 "PaintballAtlas$Table" "points" "[I"] ++ wsX50 ++ wsX40 ++ (vx_atS RX5 139 "java/lang/IndexOutOfBoundsException" ["java/lang/RuntimeException", "java/lang/Exception"]).filter goodWord)
def wsX5_fines : List Cond := .code yX5_fines cX5_fines 2 (some .int) :: ([.fieldLink RX5 26 "PaintballAtlas" "table" "LPaintballAtlas$Table;", .methodLink RX5 64 yX5_checkTeam, .static yX5_checkTeam, .initialized RX5, .code yX5_checkTeam cX5_checkTeam 1 none, .classLink RX5 135 "java/lang/IndexOutOfBoundsException", .initialized "java/lang/IndexOutOfBoundsException", .methodLink RX5 183 yX4_finesOf, .instanceMethod yX4_finesOf, .selects RX4 yX4_finesOf yX4_finesOf, .initialized RX4, .code yX4_finesOf cX4_finesOf 2 (some .int), .fieldLink RX4 15 "PaintballAtlas$Table" "fines" "[I"] ++ wsX50 ++ wsX40 ++ (vx_atS RX5 139 "java/lang/IndexOutOfBoundsException" ["java/lang/RuntimeException", "java/lang/Exception"]).filter goodWord)
def wsX5_difference : List Cond := .code yX5_difference cX5_difference 2 (some .int) :: ([.fieldLink RX5 26 "PaintballAtlas" "table" "LPaintballAtlas$Table;", .methodLink RX5 64 yX5_checkTeam, .static yX5_checkTeam, .initialized RX5, .code yX5_checkTeam cX5_checkTeam 1 none, .classLink RX5 135 "java/lang/IndexOutOfBoundsException", .initialized "java/lang/IndexOutOfBoundsException", .methodLink RX5 186 yX4_differenceOf, .instanceMethod yX4_differenceOf, .selects RX4 yX4_differenceOf yX4_differenceOf, .initialized RX4, .code yX4_differenceOf cX4_differenceOf 2 (some .int), .fieldLink RX4 18 "PaintballAtlas$Table" "differences" "[I"] ++ wsX50 ++ wsX40 ++ (vx_atS RX5 139 "java/lang/IndexOutOfBoundsException" ["java/lang/RuntimeException", "java/lang/Exception"]).filter goodWord)
def wsX5_place : List Cond := .code yX5_place cX5_place 2 (some .int) :: ([.fieldLink RX5 26 "PaintballAtlas" "table" "LPaintballAtlas$Table;", .methodLink RX5 64 yX5_checkTeam, .static yX5_checkTeam, .initialized RX5, .code yX5_checkTeam cX5_checkTeam 1 none, .classLink RX5 135 "java/lang/IndexOutOfBoundsException", .initialized "java/lang/IndexOutOfBoundsException", .methodLink RX5 189 yX4_placeOf, .instanceMethod yX4_placeOf, .selects RX4 yX4_placeOf yX4_placeOf, .initialized RX4, .code yX4_placeOf cX4_placeOf 4 (some .int), .methodLink RX4 33 yX4_isAhead, .instanceMethod yX4_isAhead, .selects RX4 yX4_isAhead yX4_isAhead, .code yX4_isAhead cX4_isAhead 3 (some .boolean), .fieldLink RX4 9 "PaintballAtlas$Table" "points" "[I", .fieldLink RX4 23 "PaintballAtlas$Table" "wins" "[[I", .fieldLink RX4 18 "PaintballAtlas$Table" "differences" "[I"] ++ wsX50 ++ wsX40 ++ (vx_atS RX5 139 "java/lang/IndexOutOfBoundsException" ["java/lang/RuntimeException", "java/lang/Exception"]).filter goodWord)
def wsJ9_abs_0f7a4 : List Cond := .code yJ9_abs_0f7a4 cJ9_abs_0f7a4 1 (some .int) :: ([])
def wsJ9_max_7cf53 : List Cond := .code yJ9_max_7cf53 cJ9_max_7cf53 2 (some .int) :: ([])
def wsJ9_min_7cf53 : List Cond := .code yJ9_min_7cf53 cJ9_min_7cf53 2 (some .int) :: ([])
def wsL_part : List Cond := .code yL_part cL_part 4 (some .int) :: ([.constant RL 7 (2147483647)])
def wsL_begins_r1 : List Cond := [Cond.methodLink RL 8 yX5_begin, Cond.instanceMethod yX5_begin, Cond.selects RX5 yX5_begin yX5_begin, Cond.initialized RX5, Cond.code yX5_begin cX5_begin 3 none, Cond.classLink RX5 67 "java/lang/IllegalArgumentException", Cond.initialized "java/lang/IllegalArgumentException", Cond.classLink RX5 42 "java/lang/IllegalStateException", Cond.initialized "java/lang/IllegalStateException", Cond.fieldLink RX5 19 "PaintballAtlas" "round" "LPaintballAtlas$Round;", Cond.methodLink RX5 64 yX5_checkTeam, Cond.static yX5_checkTeam, Cond.code yX5_checkTeam cX5_checkTeam 1 none, Cond.classLink RX5 135 "java/lang/IndexOutOfBoundsException", Cond.initialized "java/lang/IndexOutOfBoundsException", Cond.methodLink RX5 38 yX2_isPlayed, Cond.instanceMethod yX2_isPlayed, Cond.selects RX2 yX2_isPlayed yX2_isPlayed, Cond.initialized RX2, Cond.code yX2_isPlayed cX2_isPlayed 1 (some .boolean), Cond.fieldLink RX2 9 "PaintballAtlas$Round" "tick" "I", Cond.methodLink RX5 72 yX2_start, Cond.instanceMethod yX2_start, Cond.selects RX2 yX2_start yX2_start]
def wsL_begins_r2 : List Cond := [Cond.code yX2_start cX2_start 3 none, Cond.fieldLink RX2 43 "PaintballAtlas$Round" "home" "I", Cond.fieldLink RX2 46 "PaintballAtlas$Round" "away" "I", Cond.methodLink RX2 39 yX2_reset, Cond.instanceMethod yX2_reset, Cond.selects RX2 yX2_reset yX2_reset, Cond.code yX2_reset cX2_reset 3 none, Cond.fieldLink RX2 15 "PaintballAtlas$Round" "cells" "[I", Cond.fieldLink RX2 19 "PaintballAtlas$Round" "hits" "[I", Cond.fieldLink RX2 22 "PaintballAtlas$Round" "lastShots" "[I", Cond.fieldLink RX2 28 "PaintballAtlas$Round" "shots" "LPaintballAtlas$Shots;", Cond.fieldLink RX2 49 "PaintballAtlas$Shots" "count" "I", Cond.fieldLink RX2 35 "PaintballAtlas$Round" "calls" "LPaintballAtlas$Calls;", Cond.fieldLink RX2 52 "PaintballAtlas$Calls" "count" "I"]
def wsL_begins : List Cond := .code yL_begins cL_begins 3 (some .int) :: ((wsL_begins_r1 ++ wsL_begins_r2) ++ wsX50 ++ wsX20 ++ wsX30 ++ wsX00 ++ (vx_atS RX5 71 "java/lang/IllegalArgumentException" ["java/lang/RuntimeException", "java/lang/Exception"]).filter goodWord ++ (vx_atS RX5 46 "java/lang/IllegalStateException" ["java/lang/RuntimeException", "java/lang/Exception"]).filter goodWord ++ (vx_atS RX5 139 "java/lang/IndexOutOfBoundsException" ["java/lang/RuntimeException", "java/lang/Exception"]).filter goodWord)
def wsL_does_r1 : List Cond := [Cond.classLink RL 48 "java/lang/IndexOutOfBoundsException", Cond.classLink RL 50 "java/lang/IllegalArgumentException", Cond.classLink RL 52 "java/lang/IllegalStateException", Cond.methodLink RL 14 yX5_toggleBunker, Cond.instanceMethod yX5_toggleBunker, Cond.selects RX5 yX5_toggleBunker yX5_toggleBunker, Cond.initialized RX5, Cond.code yX5_toggleBunker cX5_toggleBunker 2 (some .boolean), Cond.classLink RX5 42 "java/lang/IllegalStateException", Cond.initialized "java/lang/IllegalStateException", Cond.fieldLink RX5 19 "PaintballAtlas" "round" "LPaintballAtlas$Round;", Cond.fieldLink RX5 12 "PaintballAtlas" "field" "LPaintballAtlas$Field;", Cond.methodLink RX5 34 yX5_checkCell, Cond.static yX5_checkCell, Cond.code yX5_checkCell cX5_checkCell 1 none, Cond.classLink RX5 135 "java/lang/IndexOutOfBoundsException", Cond.initialized "java/lang/IndexOutOfBoundsException", Cond.methodLink RX5 38 yX2_isPlayed, Cond.instanceMethod yX2_isPlayed, Cond.selects RX2 yX2_isPlayed yX2_isPlayed, Cond.initialized RX2, Cond.code yX2_isPlayed cX2_isPlayed 1 (some .boolean), Cond.fieldLink RX2 9 "PaintballAtlas$Round" "tick" "I", Cond.methodLink RX5 49 yX1_turnBunker]
def wsL_does_r2 : List Cond := [Cond.instanceMethod yX1_turnBunker, Cond.selects RX1 yX1_turnBunker yX1_turnBunker, Cond.initialized RX1, Cond.code yX1_turnBunker cX1_turnBunker 2 (some .boolean), Cond.fieldLink RX1 9 "PaintballAtlas$Field" "bunkers" "[Z", Cond.methodLink RL 18 yX5_setReferee, Cond.instanceMethod yX5_setReferee, Cond.selects RX5 yX5_setReferee yX5_setReferee, Cond.code yX5_setReferee cX5_setReferee 4 (some .int), Cond.fieldLink RX5 30 "PaintballAtlas" "refereeCells" "[I", Cond.methodLink RX5 61 yX5_checkReferee, Cond.static yX5_checkReferee, Cond.code yX5_checkReferee cX5_checkReferee 1 none, Cond.methodLink RL 22 yL_begins, Cond.static yL_begins, Cond.initialized RL, Cond.code yL_begins cL_begins 3 (some .int), Cond.methodLink RL 8 yX5_begin, Cond.instanceMethod yX5_begin, Cond.selects RX5 yX5_begin yX5_begin, Cond.code yX5_begin cX5_begin 3 none, Cond.classLink RX5 67 "java/lang/IllegalArgumentException", Cond.initialized "java/lang/IllegalArgumentException", Cond.methodLink RX5 64 yX5_checkTeam]
def wsL_does_r3 : List Cond := [Cond.static yX5_checkTeam, Cond.code yX5_checkTeam cX5_checkTeam 1 none, Cond.methodLink RX5 72 yX2_start, Cond.instanceMethod yX2_start, Cond.selects RX2 yX2_start yX2_start, Cond.code yX2_start cX2_start 3 none, Cond.fieldLink RX2 43 "PaintballAtlas$Round" "home" "I", Cond.fieldLink RX2 46 "PaintballAtlas$Round" "away" "I", Cond.methodLink RX2 39 yX2_reset, Cond.instanceMethod yX2_reset, Cond.selects RX2 yX2_reset yX2_reset, Cond.code yX2_reset cX2_reset 3 none, Cond.fieldLink RX2 15 "PaintballAtlas$Round" "cells" "[I", Cond.fieldLink RX2 19 "PaintballAtlas$Round" "hits" "[I", Cond.fieldLink RX2 22 "PaintballAtlas$Round" "lastShots" "[I", Cond.fieldLink RX2 28 "PaintballAtlas$Round" "shots" "LPaintballAtlas$Shots;", Cond.fieldLink RX2 49 "PaintballAtlas$Shots" "count" "I", Cond.fieldLink RX2 35 "PaintballAtlas$Round" "calls" "LPaintballAtlas$Calls;", Cond.fieldLink RX2 52 "PaintballAtlas$Calls" "count" "I", Cond.methodLink RL 28 yX5_move, Cond.instanceMethod yX5_move, Cond.selects RX5 yX5_move yX5_move, Cond.code yX5_move cX5_move 4 (some .int), Cond.methodLink RX5 76 yX5_checkPlayer]
def wsL_does_r4 : List Cond := [Cond.static yX5_checkPlayer, Cond.code yX5_checkPlayer cX5_checkPlayer 1 none, Cond.methodLink RX5 79 yX5_checkRound, Cond.instanceMethod yX5_checkRound, Cond.selects RX5 yX5_checkRound yX5_checkRound, Cond.code yX5_checkRound cX5_checkRound 1 none, Cond.methodLink RX5 82 yX2_cellOf, Cond.instanceMethod yX2_cellOf, Cond.selects RX2 yX2_cellOf yX2_cellOf, Cond.code yX2_cellOf cX2_cellOf 2 (some .int), Cond.methodLink RX5 87 yX1_distance, Cond.static yX1_distance, Cond.code yX1_distance cX1_distance 4 (some .int), Cond.methodLink RX1 15 Lib.Math.abs.name, Cond.static Lib.Math.abs.name, Cond.initialized "java/lang/Math", Cond.code Lib.Math.abs.name Lib.Math.abs.code 1 (some .int), Cond.methodLink RX1 21 Lib.Math.max.name, Cond.static Lib.Math.max.name, Cond.code Lib.Math.max.name Lib.Math.max.code 2 (some .int), Cond.methodLink RX5 93 yX1_hasBunker, Cond.instanceMethod yX1_hasBunker, Cond.selects RX1 yX1_hasBunker yX1_hasBunker, Cond.code yX1_hasBunker cX1_hasBunker 2 (some .boolean)]
def wsL_does_r5 : List Cond := [Cond.methodLink RX5 96 yX2_playerOn, Cond.instanceMethod yX2_playerOn, Cond.selects RX2 yX2_playerOn yX2_playerOn, Cond.code yX2_playerOn cX2_playerOn 3 (some .int), Cond.methodLink RX5 101 yX2_put, Cond.instanceMethod yX2_put, Cond.selects RX2 yX2_put yX2_put, Cond.code yX2_put cX2_put 3 none, Cond.methodLink RL 31 yX5_shoot, Cond.instanceMethod yX5_shoot, Cond.selects RX5 yX5_shoot yX5_shoot, Cond.code yX5_shoot cX5_shoot 4 (some .int), Cond.methodLink RX5 108 yX2_mayFire, Cond.instanceMethod yX2_mayFire, Cond.selects RX2 yX2_mayFire yX2_mayFire, Cond.code yX2_mayFire cX2_mayFire 2 (some .boolean), Cond.methodLink RX5 113 yX2_fire, Cond.instanceMethod yX2_fire, Cond.selects RX2 yX2_fire yX2_fire, Cond.code yX2_fire cX2_fire 5 (some .int), Cond.methodLink RX2 53 yX1_distance, Cond.methodLink RX2 59 yX3_add, Cond.instanceMethod yX3_add, Cond.selects RX3 yX3_add yX3_add]
def wsL_does_r6 : List Cond := [Cond.initialized RX3, Cond.code yX3_add cX3_add 5 none, Cond.fieldLink RX3 9 "PaintballAtlas$Shots" "shooters" "[I", Cond.fieldLink RX3 24 "PaintballAtlas$Shots" "count" "I", Cond.fieldLink RX3 15 "PaintballAtlas$Shots" "origins" "[I", Cond.fieldLink RX3 18 "PaintballAtlas$Shots" "targets" "[I", Cond.fieldLink RX3 21 "PaintballAtlas$Shots" "arrivals" "[I", Cond.methodLink RL 34 yX5_pass, Cond.instanceMethod yX5_pass, Cond.selects RX5 yX5_pass yX5_pass, Cond.code yX5_pass cX5_pass 4 (some .int), Cond.methodLink RX5 118 yX2_nextTick, Cond.instanceMethod yX2_nextTick, Cond.selects RX2 yX2_nextTick yX2_nextTick, Cond.code yX2_nextTick cX2_nextTick 4 (some .int), Cond.fieldLink RX2 63 "PaintballAtlas$Shots" "arrivals" "[I", Cond.methodLink RX2 66 yX2_strikes, Cond.instanceMethod yX2_strikes, Cond.selects RX2 yX2_strikes yX2_strikes, Cond.code yX2_strikes cX2_strikes 5 (some .boolean), Cond.fieldLink RX2 70 "PaintballAtlas$Shots" "targets" "[I", Cond.fieldLink RX2 77 "PaintballAtlas$Shots" "shooters" "[I", Cond.fieldLink RX2 80 "PaintballAtlas$Shots" "origins" "[I", Cond.methodLink RX2 73 yX2_playerOn]
def wsL_does_r7 : List Cond := [Cond.methodLink RX2 83 yX1_hasSight, Cond.instanceMethod yX1_hasSight, Cond.selects RX1 yX1_hasSight yX1_hasSight, Cond.code yX1_hasSight cX1_hasSight 10 (some .boolean), Cond.methodLink RX1 29 Lib.Math.min.name, Cond.static Lib.Math.min.name, Cond.code Lib.Math.min.name Lib.Math.min.code 2 (some .int), Cond.methodLink RX1 32 yX1_lineEnters, Cond.static yX1_lineEnters, Cond.code yX1_lineEnters cX1_lineEnters 8 (some .boolean), Cond.methodLink RL 38 yX5_call, Cond.instanceMethod yX5_call, Cond.selects RX5 yX5_call yX5_call, Cond.code yX5_call cX5_call 4 (some .int), Cond.methodLink RX5 53 yX1_hasSight, Cond.methodLink RX5 124 yX2_mayCall, Cond.instanceMethod yX2_mayCall, Cond.selects RX2 yX2_mayCall yX2_mayCall, Cond.code yX2_mayCall cX2_mayCall 1 (some .boolean), Cond.methodLink RX5 129 yX2_callOut, Cond.instanceMethod yX2_callOut, Cond.selects RX2 yX2_callOut yX2_callOut, Cond.code yX2_callOut cX2_callOut 3 (some .int), Cond.methodLink RX2 87 yX0_add]
def wsL_does_r8 : List Cond := [Cond.instanceMethod yX0_add, Cond.selects RX0 yX0_add yX0_add, Cond.initialized RX0, Cond.code yX0_add cX0_add 4 (some .int), Cond.fieldLink RX0 9 "PaintballAtlas$Calls" "players" "[I", Cond.fieldLink RX0 25 "PaintballAtlas$Calls" "count" "I", Cond.fieldLink RX0 15 "PaintballAtlas$Calls" "cells" "[I", Cond.fieldLink RX0 18 "PaintballAtlas$Calls" "ticks" "[I", Cond.fieldLink RX0 21 "PaintballAtlas$Calls" "disputed" "[Z", Cond.methodLink RL 41 yX5_dispute, Cond.instanceMethod yX5_dispute, Cond.selects RX5 yX5_dispute yX5_dispute, Cond.code yX5_dispute cX5_dispute 3 (some .boolean), Cond.fieldLink RX5 26 "PaintballAtlas" "table" "LPaintballAtlas$Table;", Cond.methodLink RX5 132 yX2_hasCall, Cond.instanceMethod yX2_hasCall, Cond.selects RX2 yX2_hasCall yX2_hasCall, Cond.code yX2_hasCall cX2_hasCall 2 (some .boolean), Cond.methodLink RX5 140 yX2_isDisputed, Cond.instanceMethod yX2_isDisputed, Cond.selects RX2 yX2_isDisputed yX2_isDisputed, Cond.code yX2_isDisputed cX2_isDisputed 2 (some .boolean), Cond.fieldLink RX2 90 "PaintballAtlas$Calls" "disputed" "[Z", Cond.methodLink RX5 145 yX2_judge]
def wsL_does_r9 : List Cond := [Cond.instanceMethod yX2_judge, Cond.selects RX2 yX2_judge yX2_judge, Cond.code yX2_judge cX2_judge 4 (some .boolean), Cond.fieldLink RX2 94 "PaintballAtlas$Calls" "players" "[I", Cond.fieldLink RX2 97 "PaintballAtlas$Calls" "ticks" "[I", Cond.fieldLink RX2 100 "PaintballAtlas$Calls" "cells" "[I", Cond.methodLink RX5 148 yX2_teamCalled, Cond.instanceMethod yX2_teamCalled, Cond.selects RX2 yX2_teamCalled yX2_teamCalled, Cond.code yX2_teamCalled cX2_teamCalled 2 (some .int), Cond.methodLink RX5 151 yX4_fine, Cond.instanceMethod yX4_fine, Cond.selects RX4 yX4_fine yX4_fine, Cond.initialized RX4, Cond.code yX4_fine cX4_fine 2 none, Cond.fieldLink RX4 15 "PaintballAtlas$Table" "fines" "[I", Cond.methodLink RL 44 yX5_end, Cond.instanceMethod yX5_end, Cond.selects RX5 yX5_end yX5_end, Cond.code yX5_end cX5_end 2 (some .int), Cond.methodLink RX5 154 yX2_margin, Cond.instanceMethod yX2_margin, Cond.selects RX2 yX2_margin yX2_margin, Cond.code yX2_margin cX2_margin 3 (some .int)]
def wsL_does_r10 : List Cond := [Cond.methodLink RX5 158 yX2_homeTeam, Cond.instanceMethod yX2_homeTeam, Cond.selects RX2 yX2_homeTeam yX2_homeTeam, Cond.code yX2_homeTeam cX2_homeTeam 1 (some .int), Cond.methodLink RX5 161 yX2_awayTeam, Cond.instanceMethod yX2_awayTeam, Cond.selects RX2 yX2_awayTeam yX2_awayTeam, Cond.code yX2_awayTeam cX2_awayTeam 1 (some .int), Cond.methodLink RX5 164 yX4_enter, Cond.instanceMethod yX4_enter, Cond.selects RX4 yX4_enter yX4_enter, Cond.code yX4_enter cX4_enter 4 none, Cond.fieldLink RX4 18 "PaintballAtlas$Table" "differences" "[I", Cond.fieldLink RX4 9 "PaintballAtlas$Table" "points" "[I", Cond.methodLink RX4 26 yX4_enterWin, Cond.instanceMethod yX4_enterWin, Cond.selects RX4 yX4_enterWin yX4_enterWin, Cond.code yX4_enterWin cX4_enterWin 3 none, Cond.fieldLink RX4 23 "PaintballAtlas$Table" "wins" "[[I", Cond.methodLink RX4 30 yX4_takePenalties, Cond.instanceMethod yX4_takePenalties, Cond.selects RX4 yX4_takePenalties yX4_takePenalties, Cond.code yX4_takePenalties cX4_takePenalties 2 none, Cond.methodLink RX5 168 yX2_close]
def wsL_does_r11 : List Cond := [Cond.instanceMethod yX2_close, Cond.selects RX2 yX2_close yX2_close, Cond.code yX2_close cX2_close 1 none]
def wsL_does : List Cond := .codeWith yL_does cL_does 5 (some .int) [(0, 130, 131, 48), (0, 130, 136, 50), (0, 130, 141, 52)] :: ((wsL_does_r1 ++ (wsL_does_r2 ++ (wsL_does_r3 ++ (wsL_does_r4 ++ (wsL_does_r5 ++ (wsL_does_r6 ++ (wsL_does_r7 ++ (wsL_does_r8 ++ (wsL_does_r9 ++ (wsL_does_r10 ++ wsL_does_r11)))))))))) ++ wsX50 ++ wsX20 ++ wsX10 ++ wsX30 ++ wsX00 ++ wsX40 ++ (vx_atS RX5 46 "java/lang/IllegalStateException" ["java/lang/RuntimeException", "java/lang/Exception"]).filter goodWord ++ (vx_atS RX5 139 "java/lang/IndexOutOfBoundsException" ["java/lang/RuntimeException", "java/lang/Exception"]).filter goodWord ++ (vx_atS RX5 71 "java/lang/IllegalArgumentException" ["java/lang/RuntimeException", "java/lang/Exception"]).filter goodWord)
def wsL_asks_r1 : List Cond := [Cond.classLink RL 48 "java/lang/IndexOutOfBoundsException", Cond.methodLink RL 54 yX5_sees, Cond.instanceMethod yX5_sees, Cond.selects RX5 yX5_sees yX5_sees, Cond.initialized RX5, Cond.code yX5_sees cX5_sees 3 (some .boolean), Cond.fieldLink RX5 12 "PaintballAtlas" "field" "LPaintballAtlas$Field;", Cond.methodLink RX5 34 yX5_checkCell, Cond.static yX5_checkCell, Cond.code yX5_checkCell cX5_checkCell 1 none, Cond.classLink RX5 135 "java/lang/IndexOutOfBoundsException", Cond.initialized "java/lang/IndexOutOfBoundsException", Cond.methodLink RX5 53 yX1_hasSight, Cond.instanceMethod yX1_hasSight, Cond.selects RX1 yX1_hasSight yX1_hasSight, Cond.initialized RX1, Cond.code yX1_hasSight cX1_hasSight 10 (some .boolean), Cond.fieldLink RX1 9 "PaintballAtlas$Field" "bunkers" "[Z", Cond.methodLink RX1 29 Lib.Math.min.name, Cond.static Lib.Math.min.name, Cond.initialized "java/lang/Math", Cond.code Lib.Math.min.name Lib.Math.min.code 2 (some .int), Cond.methodLink RX1 21 Lib.Math.max.name, Cond.static Lib.Math.max.name]
def wsL_asks_r2 : List Cond := [Cond.code Lib.Math.max.name Lib.Math.max.code 2 (some .int), Cond.methodLink RX1 32 yX1_lineEnters, Cond.static yX1_lineEnters, Cond.code yX1_lineEnters cX1_lineEnters 8 (some .boolean), Cond.methodLink RX1 15 Lib.Math.abs.name, Cond.static Lib.Math.abs.name, Cond.code Lib.Math.abs.name Lib.Math.abs.code 1 (some .int), Cond.methodLink RL 58 yX5_view, Cond.instanceMethod yX5_view, Cond.selects RX5 yX5_view yX5_view, Cond.code yX5_view cX5_view 2 (some .int), Cond.methodLink RX5 57 yX1_countSeen, Cond.instanceMethod yX1_countSeen, Cond.selects RX1 yX1_countSeen yX1_countSeen, Cond.code yX1_countSeen cX1_countSeen 4 (some .int), Cond.methodLink RX1 25 yX1_hasSight, Cond.methodLink RL 61 yX5_where, Cond.instanceMethod yX5_where, Cond.selects RX5 yX5_where yX5_where, Cond.code yX5_where cX5_where 2 (some .int), Cond.fieldLink RX5 19 "PaintballAtlas" "round" "LPaintballAtlas$Round;", Cond.methodLink RX5 76 yX5_checkPlayer, Cond.static yX5_checkPlayer, Cond.code yX5_checkPlayer cX5_checkPlayer 1 none]
def wsL_asks_r3 : List Cond := [Cond.methodLink RX5 82 yX2_cellOf, Cond.instanceMethod yX2_cellOf, Cond.selects RX2 yX2_cellOf yX2_cellOf, Cond.initialized RX2, Cond.code yX2_cellOf cX2_cellOf 2 (some .int), Cond.fieldLink RX2 15 "PaintballAtlas$Round" "cells" "[I", Cond.methodLink RL 64 yX5_hit, Cond.instanceMethod yX5_hit, Cond.selects RX5 yX5_hit yX5_hit, Cond.code yX5_hit cX5_hit 2 (some .int), Cond.methodLink RX5 174 yX2_hitOf, Cond.instanceMethod yX2_hitOf, Cond.selects RX2 yX2_hitOf yX2_hitOf, Cond.code yX2_hitOf cX2_hitOf 2 (some .int), Cond.fieldLink RX2 19 "PaintballAtlas$Round" "hits" "[I", Cond.methodLink RL 67 yX5_points, Cond.instanceMethod yX5_points, Cond.selects RX5 yX5_points yX5_points, Cond.code yX5_points cX5_points 2 (some .int), Cond.fieldLink RX5 26 "PaintballAtlas" "table" "LPaintballAtlas$Table;", Cond.methodLink RX5 64 yX5_checkTeam, Cond.static yX5_checkTeam, Cond.code yX5_checkTeam cX5_checkTeam 1 none, Cond.methodLink RX5 180 yX4_pointsOf]
def wsL_asks_r4 : List Cond := [Cond.instanceMethod yX4_pointsOf, Cond.selects RX4 yX4_pointsOf yX4_pointsOf, Cond.initialized RX4, Cond.code yX4_pointsOf cX4_pointsOf 2 (some .int), Cond.fieldLink RX4 9 "PaintballAtlas$Table" "points" "[I", Cond.methodLink RL 70 yX5_fines, Cond.instanceMethod yX5_fines, Cond.selects RX5 yX5_fines yX5_fines, Cond.code yX5_fines cX5_fines 2 (some .int), Cond.methodLink RX5 183 yX4_finesOf, Cond.instanceMethod yX4_finesOf, Cond.selects RX4 yX4_finesOf yX4_finesOf, Cond.code yX4_finesOf cX4_finesOf 2 (some .int), Cond.fieldLink RX4 15 "PaintballAtlas$Table" "fines" "[I", Cond.methodLink RL 73 yX5_difference, Cond.instanceMethod yX5_difference, Cond.selects RX5 yX5_difference yX5_difference, Cond.code yX5_difference cX5_difference 2 (some .int), Cond.methodLink RX5 186 yX4_differenceOf, Cond.instanceMethod yX4_differenceOf, Cond.selects RX4 yX4_differenceOf yX4_differenceOf, Cond.code yX4_differenceOf cX4_differenceOf 2 (some .int), Cond.fieldLink RX4 18 "PaintballAtlas$Table" "differences" "[I", Cond.methodLink RL 76 yX5_place]
def wsL_asks_r5 : List Cond := [Cond.instanceMethod yX5_place, Cond.selects RX5 yX5_place yX5_place, Cond.code yX5_place cX5_place 2 (some .int), Cond.methodLink RX5 189 yX4_placeOf, Cond.instanceMethod yX4_placeOf, Cond.selects RX4 yX4_placeOf yX4_placeOf, Cond.code yX4_placeOf cX4_placeOf 4 (some .int), Cond.methodLink RX4 33 yX4_isAhead, Cond.instanceMethod yX4_isAhead, Cond.selects RX4 yX4_isAhead yX4_isAhead, Cond.code yX4_isAhead cX4_isAhead 3 (some .boolean), Cond.fieldLink RX4 23 "PaintballAtlas$Table" "wins" "[[I"]
def wsL_asks : List Cond := .codeWith yL_asks cL_asks 5 (some .int) [(0, 105, 106, 48)] :: ((wsL_asks_r1 ++ (wsL_asks_r2 ++ (wsL_asks_r3 ++ (wsL_asks_r4 ++ wsL_asks_r5)))) ++ wsX50 ++ wsX10 ++ wsX20 ++ wsX40 ++ (vx_atS RX5 139 "java/lang/IndexOutOfBoundsException" ["java/lang/RuntimeException", "java/lang/Exception"]).filter goodWord)
def wsL_isBunker : List Cond := .code yL_isBunker cL_isBunker 2 (some .boolean) :: ([])
def wsL_apart : List Cond := .code yL_apart cL_apart 4 (some .int) :: ([])
def wsL_isSight_r1 : List Cond := [Cond.methodLink RL 54 yX5_sees, Cond.instanceMethod yX5_sees, Cond.selects RX5 yX5_sees yX5_sees, Cond.initialized RX5, Cond.code yX5_sees cX5_sees 3 (some .boolean), Cond.fieldLink RX5 12 "PaintballAtlas" "field" "LPaintballAtlas$Field;", Cond.methodLink RX5 34 yX5_checkCell, Cond.static yX5_checkCell, Cond.code yX5_checkCell cX5_checkCell 1 none, Cond.classLink RX5 135 "java/lang/IndexOutOfBoundsException", Cond.initialized "java/lang/IndexOutOfBoundsException", Cond.methodLink RX5 53 yX1_hasSight, Cond.instanceMethod yX1_hasSight, Cond.selects RX1 yX1_hasSight yX1_hasSight, Cond.initialized RX1, Cond.code yX1_hasSight cX1_hasSight 10 (some .boolean), Cond.fieldLink RX1 9 "PaintballAtlas$Field" "bunkers" "[Z", Cond.methodLink RX1 29 Lib.Math.min.name, Cond.static Lib.Math.min.name, Cond.initialized "java/lang/Math", Cond.code Lib.Math.min.name Lib.Math.min.code 2 (some .int), Cond.methodLink RX1 21 Lib.Math.max.name, Cond.static Lib.Math.max.name, Cond.code Lib.Math.max.name Lib.Math.max.code 2 (some .int)]
def wsL_isSight_r2 : List Cond := [Cond.methodLink RX1 32 yX1_lineEnters, Cond.static yX1_lineEnters, Cond.code yX1_lineEnters cX1_lineEnters 8 (some .boolean), Cond.methodLink RX1 15 Lib.Math.abs.name, Cond.static Lib.Math.abs.name, Cond.code Lib.Math.abs.name Lib.Math.abs.code 1 (some .int), Cond.methodLink RL 79 yL_isBunker, Cond.static yL_isBunker, Cond.initialized RL, Cond.code yL_isBunker cL_isBunker 2 (some .boolean), Cond.methodLink RL 83 yL_apart, Cond.static yL_apart, Cond.code yL_apart cL_apart 4 (some .int)]
def wsL_isSight : List Cond := .code yL_isSight cL_isSight 13 (some .boolean) :: ((wsL_isSight_r1 ++ wsL_isSight_r2) ++ wsX50 ++ wsX10 ++ (vx_atS RX5 139 "java/lang/IndexOutOfBoundsException" ["java/lang/RuntimeException", "java/lang/Exception"]).filter goodWord)
def wsL_isView_r1 : List Cond := [Cond.methodLink RL 54 yX5_sees, Cond.instanceMethod yX5_sees, Cond.selects RX5 yX5_sees yX5_sees, Cond.initialized RX5, Cond.code yX5_sees cX5_sees 3 (some .boolean), Cond.fieldLink RX5 12 "PaintballAtlas" "field" "LPaintballAtlas$Field;", Cond.methodLink RX5 34 yX5_checkCell, Cond.static yX5_checkCell, Cond.code yX5_checkCell cX5_checkCell 1 none, Cond.classLink RX5 135 "java/lang/IndexOutOfBoundsException", Cond.initialized "java/lang/IndexOutOfBoundsException", Cond.methodLink RX5 53 yX1_hasSight, Cond.instanceMethod yX1_hasSight, Cond.selects RX1 yX1_hasSight yX1_hasSight, Cond.initialized RX1, Cond.code yX1_hasSight cX1_hasSight 10 (some .boolean), Cond.fieldLink RX1 9 "PaintballAtlas$Field" "bunkers" "[Z", Cond.methodLink RX1 29 Lib.Math.min.name, Cond.static Lib.Math.min.name, Cond.initialized "java/lang/Math", Cond.code Lib.Math.min.name Lib.Math.min.code 2 (some .int), Cond.methodLink RX1 21 Lib.Math.max.name, Cond.static Lib.Math.max.name, Cond.code Lib.Math.max.name Lib.Math.max.code 2 (some .int)]
def wsL_isView_r2 : List Cond := [Cond.methodLink RX1 32 yX1_lineEnters, Cond.static yX1_lineEnters, Cond.code yX1_lineEnters cX1_lineEnters 8 (some .boolean), Cond.methodLink RX1 15 Lib.Math.abs.name, Cond.static Lib.Math.abs.name, Cond.code Lib.Math.abs.name Lib.Math.abs.code 1 (some .int), Cond.methodLink RL 58 yX5_view, Cond.instanceMethod yX5_view, Cond.selects RX5 yX5_view yX5_view, Cond.code yX5_view cX5_view 2 (some .int), Cond.methodLink RX5 57 yX1_countSeen, Cond.instanceMethod yX1_countSeen, Cond.selects RX1 yX1_countSeen yX1_countSeen, Cond.code yX1_countSeen cX1_countSeen 4 (some .int), Cond.methodLink RX1 25 yX1_hasSight, Cond.methodLink RL 79 yL_isBunker, Cond.static yL_isBunker, Cond.initialized RL, Cond.code yL_isBunker cL_isBunker 2 (some .boolean)]
def wsL_isView : List Cond := .code yL_isView cL_isView 5 (some .boolean) :: ((wsL_isView_r1 ++ wsL_isView_r2) ++ wsX50 ++ wsX10 ++ (vx_atS RX5 139 "java/lang/IndexOutOfBoundsException" ["java/lang/RuntimeException", "java/lang/Exception"]).filter goodWord)
def wsL_isTable_r1 : List Cond := [Cond.methodLink RL 86 yL_asks, Cond.static yL_asks, Cond.initialized RL, Cond.codeWith yL_asks cL_asks 5 (some .int) [(0, 105, 106, 48)], Cond.classLink RL 48 "java/lang/IndexOutOfBoundsException", Cond.methodLink RL 54 yX5_sees, Cond.instanceMethod yX5_sees, Cond.selects RX5 yX5_sees yX5_sees, Cond.initialized RX5, Cond.code yX5_sees cX5_sees 3 (some .boolean), Cond.fieldLink RX5 12 "PaintballAtlas" "field" "LPaintballAtlas$Field;", Cond.methodLink RX5 34 yX5_checkCell, Cond.static yX5_checkCell, Cond.code yX5_checkCell cX5_checkCell 1 none, Cond.classLink RX5 135 "java/lang/IndexOutOfBoundsException", Cond.initialized "java/lang/IndexOutOfBoundsException", Cond.methodLink RX5 53 yX1_hasSight, Cond.instanceMethod yX1_hasSight, Cond.selects RX1 yX1_hasSight yX1_hasSight, Cond.initialized RX1, Cond.code yX1_hasSight cX1_hasSight 10 (some .boolean), Cond.fieldLink RX1 9 "PaintballAtlas$Field" "bunkers" "[Z", Cond.methodLink RX1 29 Lib.Math.min.name, Cond.static Lib.Math.min.name]
def wsL_isTable_r2 : List Cond := [Cond.initialized "java/lang/Math", Cond.code Lib.Math.min.name Lib.Math.min.code 2 (some .int), Cond.methodLink RX1 21 Lib.Math.max.name, Cond.static Lib.Math.max.name, Cond.code Lib.Math.max.name Lib.Math.max.code 2 (some .int), Cond.methodLink RX1 32 yX1_lineEnters, Cond.static yX1_lineEnters, Cond.code yX1_lineEnters cX1_lineEnters 8 (some .boolean), Cond.methodLink RX1 15 Lib.Math.abs.name, Cond.static Lib.Math.abs.name, Cond.code Lib.Math.abs.name Lib.Math.abs.code 1 (some .int), Cond.methodLink RL 58 yX5_view, Cond.instanceMethod yX5_view, Cond.selects RX5 yX5_view yX5_view, Cond.code yX5_view cX5_view 2 (some .int), Cond.methodLink RX5 57 yX1_countSeen, Cond.instanceMethod yX1_countSeen, Cond.selects RX1 yX1_countSeen yX1_countSeen, Cond.code yX1_countSeen cX1_countSeen 4 (some .int), Cond.methodLink RX1 25 yX1_hasSight, Cond.methodLink RL 61 yX5_where, Cond.instanceMethod yX5_where, Cond.selects RX5 yX5_where yX5_where, Cond.code yX5_where cX5_where 2 (some .int)]
def wsL_isTable_r3 : List Cond := [Cond.fieldLink RX5 19 "PaintballAtlas" "round" "LPaintballAtlas$Round;", Cond.methodLink RX5 76 yX5_checkPlayer, Cond.static yX5_checkPlayer, Cond.code yX5_checkPlayer cX5_checkPlayer 1 none, Cond.methodLink RX5 82 yX2_cellOf, Cond.instanceMethod yX2_cellOf, Cond.selects RX2 yX2_cellOf yX2_cellOf, Cond.initialized RX2, Cond.code yX2_cellOf cX2_cellOf 2 (some .int), Cond.fieldLink RX2 15 "PaintballAtlas$Round" "cells" "[I", Cond.methodLink RL 64 yX5_hit, Cond.instanceMethod yX5_hit, Cond.selects RX5 yX5_hit yX5_hit, Cond.code yX5_hit cX5_hit 2 (some .int), Cond.methodLink RX5 174 yX2_hitOf, Cond.instanceMethod yX2_hitOf, Cond.selects RX2 yX2_hitOf yX2_hitOf, Cond.code yX2_hitOf cX2_hitOf 2 (some .int), Cond.fieldLink RX2 19 "PaintballAtlas$Round" "hits" "[I", Cond.methodLink RL 67 yX5_points, Cond.instanceMethod yX5_points, Cond.selects RX5 yX5_points yX5_points, Cond.code yX5_points cX5_points 2 (some .int), Cond.fieldLink RX5 26 "PaintballAtlas" "table" "LPaintballAtlas$Table;"]
def wsL_isTable_r4 : List Cond := [Cond.methodLink RX5 64 yX5_checkTeam, Cond.static yX5_checkTeam, Cond.code yX5_checkTeam cX5_checkTeam 1 none, Cond.methodLink RX5 180 yX4_pointsOf, Cond.instanceMethod yX4_pointsOf, Cond.selects RX4 yX4_pointsOf yX4_pointsOf, Cond.initialized RX4, Cond.code yX4_pointsOf cX4_pointsOf 2 (some .int), Cond.fieldLink RX4 9 "PaintballAtlas$Table" "points" "[I", Cond.methodLink RL 70 yX5_fines, Cond.instanceMethod yX5_fines, Cond.selects RX5 yX5_fines yX5_fines, Cond.code yX5_fines cX5_fines 2 (some .int), Cond.methodLink RX5 183 yX4_finesOf, Cond.instanceMethod yX4_finesOf, Cond.selects RX4 yX4_finesOf yX4_finesOf, Cond.code yX4_finesOf cX4_finesOf 2 (some .int), Cond.fieldLink RX4 15 "PaintballAtlas$Table" "fines" "[I", Cond.methodLink RL 73 yX5_difference, Cond.instanceMethod yX5_difference, Cond.selects RX5 yX5_difference yX5_difference, Cond.code yX5_difference cX5_difference 2 (some .int), Cond.methodLink RX5 186 yX4_differenceOf, Cond.instanceMethod yX4_differenceOf]
def wsL_isTable_r5 : List Cond := [Cond.selects RX4 yX4_differenceOf yX4_differenceOf, Cond.code yX4_differenceOf cX4_differenceOf 2 (some .int), Cond.fieldLink RX4 18 "PaintballAtlas$Table" "differences" "[I", Cond.methodLink RL 76 yX5_place, Cond.instanceMethod yX5_place, Cond.selects RX5 yX5_place yX5_place, Cond.code yX5_place cX5_place 2 (some .int), Cond.methodLink RX5 189 yX4_placeOf, Cond.instanceMethod yX4_placeOf, Cond.selects RX4 yX4_placeOf yX4_placeOf, Cond.code yX4_placeOf cX4_placeOf 4 (some .int), Cond.methodLink RX4 33 yX4_isAhead, Cond.instanceMethod yX4_isAhead, Cond.selects RX4 yX4_isAhead yX4_isAhead, Cond.code yX4_isAhead cX4_isAhead 3 (some .boolean), Cond.fieldLink RX4 23 "PaintballAtlas$Table" "wins" "[[I"]
def wsL_isTable : List Cond := .code yL_isTable cL_isTable 11 (some .boolean) :: ((wsL_isTable_r1 ++ (wsL_isTable_r2 ++ (wsL_isTable_r3 ++ (wsL_isTable_r4 ++ wsL_isTable_r5)))) ++ wsX50 ++ wsX10 ++ wsX20 ++ wsX40 ++ (vx_atS RX5 139 "java/lang/IndexOutOfBoundsException" ["java/lang/RuntimeException", "java/lang/Exception"]).filter goodWord)
def wsL_isRound_r1 : List Cond := [Cond.methodLink RL 90 yX5_tick, Cond.instanceMethod yX5_tick, Cond.selects RX5 yX5_tick yX5_tick, Cond.initialized RX5, Cond.code yX5_tick cX5_tick 1 (some .int), Cond.fieldLink RX5 19 "PaintballAtlas" "round" "LPaintballAtlas$Round;", Cond.methodLink RX5 171 yX2_time, Cond.instanceMethod yX2_time, Cond.selects RX2 yX2_time yX2_time, Cond.initialized RX2, Cond.code yX2_time cX2_time 1 (some .int), Cond.fieldLink RX2 9 "PaintballAtlas$Round" "tick" "I", Cond.methodLink RL 93 yX5_flying, Cond.instanceMethod yX5_flying, Cond.selects RX5 yX5_flying yX5_flying, Cond.code yX5_flying cX5_flying 1 (some .int), Cond.methodLink RX5 177 yX2_countFlying, Cond.instanceMethod yX2_countFlying, Cond.selects RX2 yX2_countFlying yX2_countFlying, Cond.code yX2_countFlying cX2_countFlying 3 (some .int), Cond.fieldLink RX2 28 "PaintballAtlas$Round" "shots" "LPaintballAtlas$Shots;", Cond.fieldLink RX2 49 "PaintballAtlas$Shots" "count" "I", Cond.fieldLink RX2 63 "PaintballAtlas$Shots" "arrivals" "[I", Cond.methodLink RL 86 yL_asks]
def wsL_isRound_r2 : List Cond := [Cond.static yL_asks, Cond.initialized RL, Cond.codeWith yL_asks cL_asks 5 (some .int) [(0, 105, 106, 48)], Cond.classLink RL 48 "java/lang/IndexOutOfBoundsException", Cond.methodLink RL 54 yX5_sees, Cond.instanceMethod yX5_sees, Cond.selects RX5 yX5_sees yX5_sees, Cond.code yX5_sees cX5_sees 3 (some .boolean), Cond.fieldLink RX5 12 "PaintballAtlas" "field" "LPaintballAtlas$Field;", Cond.methodLink RX5 34 yX5_checkCell, Cond.static yX5_checkCell, Cond.code yX5_checkCell cX5_checkCell 1 none, Cond.classLink RX5 135 "java/lang/IndexOutOfBoundsException", Cond.initialized "java/lang/IndexOutOfBoundsException", Cond.methodLink RX5 53 yX1_hasSight, Cond.instanceMethod yX1_hasSight, Cond.selects RX1 yX1_hasSight yX1_hasSight, Cond.initialized RX1, Cond.code yX1_hasSight cX1_hasSight 10 (some .boolean), Cond.fieldLink RX1 9 "PaintballAtlas$Field" "bunkers" "[Z", Cond.methodLink RX1 29 Lib.Math.min.name, Cond.static Lib.Math.min.name, Cond.initialized "java/lang/Math", Cond.code Lib.Math.min.name Lib.Math.min.code 2 (some .int)]
def wsL_isRound_r3 : List Cond := [Cond.methodLink RX1 21 Lib.Math.max.name, Cond.static Lib.Math.max.name, Cond.code Lib.Math.max.name Lib.Math.max.code 2 (some .int), Cond.methodLink RX1 32 yX1_lineEnters, Cond.static yX1_lineEnters, Cond.code yX1_lineEnters cX1_lineEnters 8 (some .boolean), Cond.methodLink RX1 15 Lib.Math.abs.name, Cond.static Lib.Math.abs.name, Cond.code Lib.Math.abs.name Lib.Math.abs.code 1 (some .int), Cond.methodLink RL 58 yX5_view, Cond.instanceMethod yX5_view, Cond.selects RX5 yX5_view yX5_view, Cond.code yX5_view cX5_view 2 (some .int), Cond.methodLink RX5 57 yX1_countSeen, Cond.instanceMethod yX1_countSeen, Cond.selects RX1 yX1_countSeen yX1_countSeen, Cond.code yX1_countSeen cX1_countSeen 4 (some .int), Cond.methodLink RX1 25 yX1_hasSight, Cond.methodLink RL 61 yX5_where, Cond.instanceMethod yX5_where, Cond.selects RX5 yX5_where yX5_where, Cond.code yX5_where cX5_where 2 (some .int), Cond.methodLink RX5 76 yX5_checkPlayer, Cond.static yX5_checkPlayer]
def wsL_isRound_r4 : List Cond := [Cond.code yX5_checkPlayer cX5_checkPlayer 1 none, Cond.methodLink RX5 82 yX2_cellOf, Cond.instanceMethod yX2_cellOf, Cond.selects RX2 yX2_cellOf yX2_cellOf, Cond.code yX2_cellOf cX2_cellOf 2 (some .int), Cond.fieldLink RX2 15 "PaintballAtlas$Round" "cells" "[I", Cond.methodLink RL 64 yX5_hit, Cond.instanceMethod yX5_hit, Cond.selects RX5 yX5_hit yX5_hit, Cond.code yX5_hit cX5_hit 2 (some .int), Cond.methodLink RX5 174 yX2_hitOf, Cond.instanceMethod yX2_hitOf, Cond.selects RX2 yX2_hitOf yX2_hitOf, Cond.code yX2_hitOf cX2_hitOf 2 (some .int), Cond.fieldLink RX2 19 "PaintballAtlas$Round" "hits" "[I", Cond.methodLink RL 67 yX5_points, Cond.instanceMethod yX5_points, Cond.selects RX5 yX5_points yX5_points, Cond.code yX5_points cX5_points 2 (some .int), Cond.fieldLink RX5 26 "PaintballAtlas" "table" "LPaintballAtlas$Table;", Cond.methodLink RX5 64 yX5_checkTeam, Cond.static yX5_checkTeam, Cond.code yX5_checkTeam cX5_checkTeam 1 none, Cond.methodLink RX5 180 yX4_pointsOf]
def wsL_isRound_r5 : List Cond := [Cond.instanceMethod yX4_pointsOf, Cond.selects RX4 yX4_pointsOf yX4_pointsOf, Cond.initialized RX4, Cond.code yX4_pointsOf cX4_pointsOf 2 (some .int), Cond.fieldLink RX4 9 "PaintballAtlas$Table" "points" "[I", Cond.methodLink RL 70 yX5_fines, Cond.instanceMethod yX5_fines, Cond.selects RX5 yX5_fines yX5_fines, Cond.code yX5_fines cX5_fines 2 (some .int), Cond.methodLink RX5 183 yX4_finesOf, Cond.instanceMethod yX4_finesOf, Cond.selects RX4 yX4_finesOf yX4_finesOf, Cond.code yX4_finesOf cX4_finesOf 2 (some .int), Cond.fieldLink RX4 15 "PaintballAtlas$Table" "fines" "[I", Cond.methodLink RL 73 yX5_difference, Cond.instanceMethod yX5_difference, Cond.selects RX5 yX5_difference yX5_difference, Cond.code yX5_difference cX5_difference 2 (some .int), Cond.methodLink RX5 186 yX4_differenceOf, Cond.instanceMethod yX4_differenceOf, Cond.selects RX4 yX4_differenceOf yX4_differenceOf, Cond.code yX4_differenceOf cX4_differenceOf 2 (some .int), Cond.fieldLink RX4 18 "PaintballAtlas$Table" "differences" "[I", Cond.methodLink RL 76 yX5_place]
def wsL_isRound_r6 : List Cond := [Cond.instanceMethod yX5_place, Cond.selects RX5 yX5_place yX5_place, Cond.code yX5_place cX5_place 2 (some .int), Cond.methodLink RX5 189 yX4_placeOf, Cond.instanceMethod yX4_placeOf, Cond.selects RX4 yX4_placeOf yX4_placeOf, Cond.code yX4_placeOf cX4_placeOf 4 (some .int), Cond.methodLink RX4 33 yX4_isAhead, Cond.instanceMethod yX4_isAhead, Cond.selects RX4 yX4_isAhead yX4_isAhead, Cond.code yX4_isAhead cX4_isAhead 3 (some .boolean), Cond.fieldLink RX4 23 "PaintballAtlas$Table" "wins" "[[I"]
def wsL_isRound : List Cond := .code yL_isRound cL_isRound 7 (some .boolean) :: ((wsL_isRound_r1 ++ (wsL_isRound_r2 ++ (wsL_isRound_r3 ++ (wsL_isRound_r4 ++ (wsL_isRound_r5 ++ wsL_isRound_r6))))) ++ wsX50 ++ wsX20 ++ wsX30 ++ wsX10 ++ wsX40 ++ (vx_atS RX5 139 "java/lang/IndexOutOfBoundsException" ["java/lang/RuntimeException", "java/lang/Exception"]).filter goodWord)
def wsL_isFree : List Cond := .code yL_isFree cL_isFree 5 (some .boolean) :: ([.methodLink RL 79 yL_isBunker, .static yL_isBunker, .initialized RL, .code yL_isBunker cL_isBunker 2 (some .boolean)])
def wsL_isMove_r1 : List Cond := [Cond.methodLink RL 83 yL_apart, Cond.static yL_apart, Cond.initialized RL, Cond.code yL_apart cL_apart 4 (some .int), Cond.methodLink RL 96 yL_isFree, Cond.static yL_isFree, Cond.code yL_isFree cL_isFree 5 (some .boolean), Cond.methodLink RL 79 yL_isBunker, Cond.static yL_isBunker, Cond.code yL_isBunker cL_isBunker 2 (some .boolean), Cond.methodLink RL 100 yL_does, Cond.static yL_does, Cond.codeWith yL_does cL_does 5 (some .int) [(0, 130, 131, 48), (0, 130, 136, 50), (0, 130, 141, 52)], Cond.classLink RL 48 "java/lang/IndexOutOfBoundsException", Cond.classLink RL 50 "java/lang/IllegalArgumentException", Cond.classLink RL 52 "java/lang/IllegalStateException", Cond.methodLink RL 14 yX5_toggleBunker, Cond.instanceMethod yX5_toggleBunker, Cond.selects RX5 yX5_toggleBunker yX5_toggleBunker, Cond.initialized RX5, Cond.code yX5_toggleBunker cX5_toggleBunker 2 (some .boolean), Cond.classLink RX5 42 "java/lang/IllegalStateException", Cond.initialized "java/lang/IllegalStateException", Cond.fieldLink RX5 19 "PaintballAtlas" "round" "LPaintballAtlas$Round;"]
def wsL_isMove_r2 : List Cond := [Cond.fieldLink RX5 12 "PaintballAtlas" "field" "LPaintballAtlas$Field;", Cond.methodLink RX5 34 yX5_checkCell, Cond.static yX5_checkCell, Cond.code yX5_checkCell cX5_checkCell 1 none, Cond.classLink RX5 135 "java/lang/IndexOutOfBoundsException", Cond.initialized "java/lang/IndexOutOfBoundsException", Cond.methodLink RX5 38 yX2_isPlayed, Cond.instanceMethod yX2_isPlayed, Cond.selects RX2 yX2_isPlayed yX2_isPlayed, Cond.initialized RX2, Cond.code yX2_isPlayed cX2_isPlayed 1 (some .boolean), Cond.fieldLink RX2 9 "PaintballAtlas$Round" "tick" "I", Cond.methodLink RX5 49 yX1_turnBunker, Cond.instanceMethod yX1_turnBunker, Cond.selects RX1 yX1_turnBunker yX1_turnBunker, Cond.initialized RX1, Cond.code yX1_turnBunker cX1_turnBunker 2 (some .boolean), Cond.fieldLink RX1 9 "PaintballAtlas$Field" "bunkers" "[Z", Cond.methodLink RL 18 yX5_setReferee, Cond.instanceMethod yX5_setReferee, Cond.selects RX5 yX5_setReferee yX5_setReferee, Cond.code yX5_setReferee cX5_setReferee 4 (some .int), Cond.fieldLink RX5 30 "PaintballAtlas" "refereeCells" "[I", Cond.methodLink RX5 61 yX5_checkReferee]
def wsL_isMove_r3 : List Cond := [Cond.static yX5_checkReferee, Cond.code yX5_checkReferee cX5_checkReferee 1 none, Cond.methodLink RL 22 yL_begins, Cond.static yL_begins, Cond.code yL_begins cL_begins 3 (some .int), Cond.methodLink RL 8 yX5_begin, Cond.instanceMethod yX5_begin, Cond.selects RX5 yX5_begin yX5_begin, Cond.code yX5_begin cX5_begin 3 none, Cond.classLink RX5 67 "java/lang/IllegalArgumentException", Cond.initialized "java/lang/IllegalArgumentException", Cond.methodLink RX5 64 yX5_checkTeam, Cond.static yX5_checkTeam, Cond.code yX5_checkTeam cX5_checkTeam 1 none, Cond.methodLink RX5 72 yX2_start, Cond.instanceMethod yX2_start, Cond.selects RX2 yX2_start yX2_start, Cond.code yX2_start cX2_start 3 none, Cond.fieldLink RX2 43 "PaintballAtlas$Round" "home" "I", Cond.fieldLink RX2 46 "PaintballAtlas$Round" "away" "I", Cond.methodLink RX2 39 yX2_reset, Cond.instanceMethod yX2_reset, Cond.selects RX2 yX2_reset yX2_reset, Cond.code yX2_reset cX2_reset 3 none]
def wsL_isMove_r4 : List Cond := [Cond.fieldLink RX2 15 "PaintballAtlas$Round" "cells" "[I", Cond.fieldLink RX2 19 "PaintballAtlas$Round" "hits" "[I", Cond.fieldLink RX2 22 "PaintballAtlas$Round" "lastShots" "[I", Cond.fieldLink RX2 28 "PaintballAtlas$Round" "shots" "LPaintballAtlas$Shots;", Cond.fieldLink RX2 49 "PaintballAtlas$Shots" "count" "I", Cond.fieldLink RX2 35 "PaintballAtlas$Round" "calls" "LPaintballAtlas$Calls;", Cond.fieldLink RX2 52 "PaintballAtlas$Calls" "count" "I", Cond.methodLink RL 28 yX5_move, Cond.instanceMethod yX5_move, Cond.selects RX5 yX5_move yX5_move, Cond.code yX5_move cX5_move 4 (some .int), Cond.methodLink RX5 76 yX5_checkPlayer, Cond.static yX5_checkPlayer, Cond.code yX5_checkPlayer cX5_checkPlayer 1 none, Cond.methodLink RX5 79 yX5_checkRound, Cond.instanceMethod yX5_checkRound, Cond.selects RX5 yX5_checkRound yX5_checkRound, Cond.code yX5_checkRound cX5_checkRound 1 none, Cond.methodLink RX5 82 yX2_cellOf, Cond.instanceMethod yX2_cellOf, Cond.selects RX2 yX2_cellOf yX2_cellOf, Cond.code yX2_cellOf cX2_cellOf 2 (some .int), Cond.methodLink RX5 87 yX1_distance, Cond.static yX1_distance]
def wsL_isMove_r5 : List Cond := [Cond.code yX1_distance cX1_distance 4 (some .int), Cond.methodLink RX1 15 Lib.Math.abs.name, Cond.static Lib.Math.abs.name, Cond.initialized "java/lang/Math", Cond.code Lib.Math.abs.name Lib.Math.abs.code 1 (some .int), Cond.methodLink RX1 21 Lib.Math.max.name, Cond.static Lib.Math.max.name, Cond.code Lib.Math.max.name Lib.Math.max.code 2 (some .int), Cond.methodLink RX5 93 yX1_hasBunker, Cond.instanceMethod yX1_hasBunker, Cond.selects RX1 yX1_hasBunker yX1_hasBunker, Cond.code yX1_hasBunker cX1_hasBunker 2 (some .boolean), Cond.methodLink RX5 96 yX2_playerOn, Cond.instanceMethod yX2_playerOn, Cond.selects RX2 yX2_playerOn yX2_playerOn, Cond.code yX2_playerOn cX2_playerOn 3 (some .int), Cond.methodLink RX5 101 yX2_put, Cond.instanceMethod yX2_put, Cond.selects RX2 yX2_put yX2_put, Cond.code yX2_put cX2_put 3 none, Cond.methodLink RL 31 yX5_shoot, Cond.instanceMethod yX5_shoot, Cond.selects RX5 yX5_shoot yX5_shoot, Cond.code yX5_shoot cX5_shoot 4 (some .int)]
def wsL_isMove_r6 : List Cond := [Cond.methodLink RX5 108 yX2_mayFire, Cond.instanceMethod yX2_mayFire, Cond.selects RX2 yX2_mayFire yX2_mayFire, Cond.code yX2_mayFire cX2_mayFire 2 (some .boolean), Cond.methodLink RX5 113 yX2_fire, Cond.instanceMethod yX2_fire, Cond.selects RX2 yX2_fire yX2_fire, Cond.code yX2_fire cX2_fire 5 (some .int), Cond.methodLink RX2 53 yX1_distance, Cond.methodLink RX2 59 yX3_add, Cond.instanceMethod yX3_add, Cond.selects RX3 yX3_add yX3_add, Cond.initialized RX3, Cond.code yX3_add cX3_add 5 none, Cond.fieldLink RX3 9 "PaintballAtlas$Shots" "shooters" "[I", Cond.fieldLink RX3 24 "PaintballAtlas$Shots" "count" "I", Cond.fieldLink RX3 15 "PaintballAtlas$Shots" "origins" "[I", Cond.fieldLink RX3 18 "PaintballAtlas$Shots" "targets" "[I", Cond.fieldLink RX3 21 "PaintballAtlas$Shots" "arrivals" "[I", Cond.methodLink RL 34 yX5_pass, Cond.instanceMethod yX5_pass, Cond.selects RX5 yX5_pass yX5_pass, Cond.code yX5_pass cX5_pass 4 (some .int), Cond.methodLink RX5 118 yX2_nextTick]
def wsL_isMove_r7 : List Cond := [Cond.instanceMethod yX2_nextTick, Cond.selects RX2 yX2_nextTick yX2_nextTick, Cond.code yX2_nextTick cX2_nextTick 4 (some .int), Cond.fieldLink RX2 63 "PaintballAtlas$Shots" "arrivals" "[I", Cond.methodLink RX2 66 yX2_strikes, Cond.instanceMethod yX2_strikes, Cond.selects RX2 yX2_strikes yX2_strikes, Cond.code yX2_strikes cX2_strikes 5 (some .boolean), Cond.fieldLink RX2 70 "PaintballAtlas$Shots" "targets" "[I", Cond.fieldLink RX2 77 "PaintballAtlas$Shots" "shooters" "[I", Cond.fieldLink RX2 80 "PaintballAtlas$Shots" "origins" "[I", Cond.methodLink RX2 73 yX2_playerOn, Cond.methodLink RX2 83 yX1_hasSight, Cond.instanceMethod yX1_hasSight, Cond.selects RX1 yX1_hasSight yX1_hasSight, Cond.code yX1_hasSight cX1_hasSight 10 (some .boolean), Cond.methodLink RX1 29 Lib.Math.min.name, Cond.static Lib.Math.min.name, Cond.code Lib.Math.min.name Lib.Math.min.code 2 (some .int), Cond.methodLink RX1 32 yX1_lineEnters, Cond.static yX1_lineEnters, Cond.code yX1_lineEnters cX1_lineEnters 8 (some .boolean), Cond.methodLink RL 38 yX5_call, Cond.instanceMethod yX5_call]
def wsL_isMove_r8 : List Cond := [Cond.selects RX5 yX5_call yX5_call, Cond.code yX5_call cX5_call 4 (some .int), Cond.methodLink RX5 53 yX1_hasSight, Cond.methodLink RX5 124 yX2_mayCall, Cond.instanceMethod yX2_mayCall, Cond.selects RX2 yX2_mayCall yX2_mayCall, Cond.code yX2_mayCall cX2_mayCall 1 (some .boolean), Cond.methodLink RX5 129 yX2_callOut, Cond.instanceMethod yX2_callOut, Cond.selects RX2 yX2_callOut yX2_callOut, Cond.code yX2_callOut cX2_callOut 3 (some .int), Cond.methodLink RX2 87 yX0_add, Cond.instanceMethod yX0_add, Cond.selects RX0 yX0_add yX0_add, Cond.initialized RX0, Cond.code yX0_add cX0_add 4 (some .int), Cond.fieldLink RX0 9 "PaintballAtlas$Calls" "players" "[I", Cond.fieldLink RX0 25 "PaintballAtlas$Calls" "count" "I", Cond.fieldLink RX0 15 "PaintballAtlas$Calls" "cells" "[I", Cond.fieldLink RX0 18 "PaintballAtlas$Calls" "ticks" "[I", Cond.fieldLink RX0 21 "PaintballAtlas$Calls" "disputed" "[Z", Cond.methodLink RL 41 yX5_dispute, Cond.instanceMethod yX5_dispute, Cond.selects RX5 yX5_dispute yX5_dispute]
def wsL_isMove_r9 : List Cond := [Cond.code yX5_dispute cX5_dispute 3 (some .boolean), Cond.fieldLink RX5 26 "PaintballAtlas" "table" "LPaintballAtlas$Table;", Cond.methodLink RX5 132 yX2_hasCall, Cond.instanceMethod yX2_hasCall, Cond.selects RX2 yX2_hasCall yX2_hasCall, Cond.code yX2_hasCall cX2_hasCall 2 (some .boolean), Cond.methodLink RX5 140 yX2_isDisputed, Cond.instanceMethod yX2_isDisputed, Cond.selects RX2 yX2_isDisputed yX2_isDisputed, Cond.code yX2_isDisputed cX2_isDisputed 2 (some .boolean), Cond.fieldLink RX2 90 "PaintballAtlas$Calls" "disputed" "[Z", Cond.methodLink RX5 145 yX2_judge, Cond.instanceMethod yX2_judge, Cond.selects RX2 yX2_judge yX2_judge, Cond.code yX2_judge cX2_judge 4 (some .boolean), Cond.fieldLink RX2 94 "PaintballAtlas$Calls" "players" "[I", Cond.fieldLink RX2 97 "PaintballAtlas$Calls" "ticks" "[I", Cond.fieldLink RX2 100 "PaintballAtlas$Calls" "cells" "[I", Cond.methodLink RX5 148 yX2_teamCalled, Cond.instanceMethod yX2_teamCalled, Cond.selects RX2 yX2_teamCalled yX2_teamCalled, Cond.code yX2_teamCalled cX2_teamCalled 2 (some .int), Cond.methodLink RX5 151 yX4_fine, Cond.instanceMethod yX4_fine]
def wsL_isMove_r10 : List Cond := [Cond.selects RX4 yX4_fine yX4_fine, Cond.initialized RX4, Cond.code yX4_fine cX4_fine 2 none, Cond.fieldLink RX4 15 "PaintballAtlas$Table" "fines" "[I", Cond.methodLink RL 44 yX5_end, Cond.instanceMethod yX5_end, Cond.selects RX5 yX5_end yX5_end, Cond.code yX5_end cX5_end 2 (some .int), Cond.methodLink RX5 154 yX2_margin, Cond.instanceMethod yX2_margin, Cond.selects RX2 yX2_margin yX2_margin, Cond.code yX2_margin cX2_margin 3 (some .int), Cond.methodLink RX5 158 yX2_homeTeam, Cond.instanceMethod yX2_homeTeam, Cond.selects RX2 yX2_homeTeam yX2_homeTeam, Cond.code yX2_homeTeam cX2_homeTeam 1 (some .int), Cond.methodLink RX5 161 yX2_awayTeam, Cond.instanceMethod yX2_awayTeam, Cond.selects RX2 yX2_awayTeam yX2_awayTeam, Cond.code yX2_awayTeam cX2_awayTeam 1 (some .int), Cond.methodLink RX5 164 yX4_enter, Cond.instanceMethod yX4_enter, Cond.selects RX4 yX4_enter yX4_enter, Cond.code yX4_enter cX4_enter 4 none]
def wsL_isMove_r11 : List Cond := [Cond.fieldLink RX4 18 "PaintballAtlas$Table" "differences" "[I", Cond.fieldLink RX4 9 "PaintballAtlas$Table" "points" "[I", Cond.methodLink RX4 26 yX4_enterWin, Cond.instanceMethod yX4_enterWin, Cond.selects RX4 yX4_enterWin yX4_enterWin, Cond.code yX4_enterWin cX4_enterWin 3 none, Cond.fieldLink RX4 23 "PaintballAtlas$Table" "wins" "[[I", Cond.methodLink RX4 30 yX4_takePenalties, Cond.instanceMethod yX4_takePenalties, Cond.selects RX4 yX4_takePenalties yX4_takePenalties, Cond.code yX4_takePenalties cX4_takePenalties 2 none, Cond.methodLink RX5 168 yX2_close, Cond.instanceMethod yX2_close, Cond.selects RX2 yX2_close yX2_close, Cond.code yX2_close cX2_close 1 none]
def wsL_isMove : List Cond := .code yL_isMove cL_isMove 8 (some .boolean) :: ((wsL_isMove_r1 ++ (wsL_isMove_r2 ++ (wsL_isMove_r3 ++ (wsL_isMove_r4 ++ (wsL_isMove_r5 ++ (wsL_isMove_r6 ++ (wsL_isMove_r7 ++ (wsL_isMove_r8 ++ (wsL_isMove_r9 ++ (wsL_isMove_r10 ++ wsL_isMove_r11)))))))))) ++ wsX50 ++ wsX20 ++ wsX10 ++ wsX30 ++ wsX00 ++ wsX40 ++ (vx_atS RX5 46 "java/lang/IllegalStateException" ["java/lang/RuntimeException", "java/lang/Exception"]).filter goodWord ++ (vx_atS RX5 139 "java/lang/IndexOutOfBoundsException" ["java/lang/RuntimeException", "java/lang/Exception"]).filter goodWord ++ (vx_atS RX5 71 "java/lang/IllegalArgumentException" ["java/lang/RuntimeException", "java/lang/Exception"]).filter goodWord)
def wsL_isShot_r1 : List Cond := [Cond.methodLink RL 83 yL_apart, Cond.static yL_apart, Cond.initialized RL, Cond.code yL_apart cL_apart 4 (some .int), Cond.methodLink RL 93 yX5_flying, Cond.instanceMethod yX5_flying, Cond.selects RX5 yX5_flying yX5_flying, Cond.initialized RX5, Cond.code yX5_flying cX5_flying 1 (some .int), Cond.fieldLink RX5 19 "PaintballAtlas" "round" "LPaintballAtlas$Round;", Cond.methodLink RX5 177 yX2_countFlying, Cond.instanceMethod yX2_countFlying, Cond.selects RX2 yX2_countFlying yX2_countFlying, Cond.initialized RX2, Cond.code yX2_countFlying cX2_countFlying 3 (some .int), Cond.fieldLink RX2 28 "PaintballAtlas$Round" "shots" "LPaintballAtlas$Shots;", Cond.fieldLink RX2 49 "PaintballAtlas$Shots" "count" "I", Cond.fieldLink RX2 63 "PaintballAtlas$Shots" "arrivals" "[I", Cond.fieldLink RX2 9 "PaintballAtlas$Round" "tick" "I", Cond.methodLink RL 100 yL_does, Cond.static yL_does, Cond.codeWith yL_does cL_does 5 (some .int) [(0, 130, 131, 48), (0, 130, 136, 50), (0, 130, 141, 52)], Cond.classLink RL 48 "java/lang/IndexOutOfBoundsException", Cond.classLink RL 50 "java/lang/IllegalArgumentException"]
def wsL_isShot_r2 : List Cond := [Cond.classLink RL 52 "java/lang/IllegalStateException", Cond.methodLink RL 14 yX5_toggleBunker, Cond.instanceMethod yX5_toggleBunker, Cond.selects RX5 yX5_toggleBunker yX5_toggleBunker, Cond.code yX5_toggleBunker cX5_toggleBunker 2 (some .boolean), Cond.classLink RX5 42 "java/lang/IllegalStateException", Cond.initialized "java/lang/IllegalStateException", Cond.fieldLink RX5 12 "PaintballAtlas" "field" "LPaintballAtlas$Field;", Cond.methodLink RX5 34 yX5_checkCell, Cond.static yX5_checkCell, Cond.code yX5_checkCell cX5_checkCell 1 none, Cond.classLink RX5 135 "java/lang/IndexOutOfBoundsException", Cond.initialized "java/lang/IndexOutOfBoundsException", Cond.methodLink RX5 38 yX2_isPlayed, Cond.instanceMethod yX2_isPlayed, Cond.selects RX2 yX2_isPlayed yX2_isPlayed, Cond.code yX2_isPlayed cX2_isPlayed 1 (some .boolean), Cond.methodLink RX5 49 yX1_turnBunker, Cond.instanceMethod yX1_turnBunker, Cond.selects RX1 yX1_turnBunker yX1_turnBunker, Cond.initialized RX1, Cond.code yX1_turnBunker cX1_turnBunker 2 (some .boolean), Cond.fieldLink RX1 9 "PaintballAtlas$Field" "bunkers" "[Z", Cond.methodLink RL 18 yX5_setReferee]
def wsL_isShot_r3 : List Cond := [Cond.instanceMethod yX5_setReferee, Cond.selects RX5 yX5_setReferee yX5_setReferee, Cond.code yX5_setReferee cX5_setReferee 4 (some .int), Cond.fieldLink RX5 30 "PaintballAtlas" "refereeCells" "[I", Cond.methodLink RX5 61 yX5_checkReferee, Cond.static yX5_checkReferee, Cond.code yX5_checkReferee cX5_checkReferee 1 none, Cond.methodLink RL 22 yL_begins, Cond.static yL_begins, Cond.code yL_begins cL_begins 3 (some .int), Cond.methodLink RL 8 yX5_begin, Cond.instanceMethod yX5_begin, Cond.selects RX5 yX5_begin yX5_begin, Cond.code yX5_begin cX5_begin 3 none, Cond.classLink RX5 67 "java/lang/IllegalArgumentException", Cond.initialized "java/lang/IllegalArgumentException", Cond.methodLink RX5 64 yX5_checkTeam, Cond.static yX5_checkTeam, Cond.code yX5_checkTeam cX5_checkTeam 1 none, Cond.methodLink RX5 72 yX2_start, Cond.instanceMethod yX2_start, Cond.selects RX2 yX2_start yX2_start, Cond.code yX2_start cX2_start 3 none, Cond.fieldLink RX2 43 "PaintballAtlas$Round" "home" "I"]
def wsL_isShot_r4 : List Cond := [Cond.fieldLink RX2 46 "PaintballAtlas$Round" "away" "I", Cond.methodLink RX2 39 yX2_reset, Cond.instanceMethod yX2_reset, Cond.selects RX2 yX2_reset yX2_reset, Cond.code yX2_reset cX2_reset 3 none, Cond.fieldLink RX2 15 "PaintballAtlas$Round" "cells" "[I", Cond.fieldLink RX2 19 "PaintballAtlas$Round" "hits" "[I", Cond.fieldLink RX2 22 "PaintballAtlas$Round" "lastShots" "[I", Cond.fieldLink RX2 35 "PaintballAtlas$Round" "calls" "LPaintballAtlas$Calls;", Cond.fieldLink RX2 52 "PaintballAtlas$Calls" "count" "I", Cond.methodLink RL 28 yX5_move, Cond.instanceMethod yX5_move, Cond.selects RX5 yX5_move yX5_move, Cond.code yX5_move cX5_move 4 (some .int), Cond.methodLink RX5 76 yX5_checkPlayer, Cond.static yX5_checkPlayer, Cond.code yX5_checkPlayer cX5_checkPlayer 1 none, Cond.methodLink RX5 79 yX5_checkRound, Cond.instanceMethod yX5_checkRound, Cond.selects RX5 yX5_checkRound yX5_checkRound, Cond.code yX5_checkRound cX5_checkRound 1 none, Cond.methodLink RX5 82 yX2_cellOf, Cond.instanceMethod yX2_cellOf, Cond.selects RX2 yX2_cellOf yX2_cellOf]
def wsL_isShot_r5 : List Cond := [Cond.code yX2_cellOf cX2_cellOf 2 (some .int), Cond.methodLink RX5 87 yX1_distance, Cond.static yX1_distance, Cond.code yX1_distance cX1_distance 4 (some .int), Cond.methodLink RX1 15 Lib.Math.abs.name, Cond.static Lib.Math.abs.name, Cond.initialized "java/lang/Math", Cond.code Lib.Math.abs.name Lib.Math.abs.code 1 (some .int), Cond.methodLink RX1 21 Lib.Math.max.name, Cond.static Lib.Math.max.name, Cond.code Lib.Math.max.name Lib.Math.max.code 2 (some .int), Cond.methodLink RX5 93 yX1_hasBunker, Cond.instanceMethod yX1_hasBunker, Cond.selects RX1 yX1_hasBunker yX1_hasBunker, Cond.code yX1_hasBunker cX1_hasBunker 2 (some .boolean), Cond.methodLink RX5 96 yX2_playerOn, Cond.instanceMethod yX2_playerOn, Cond.selects RX2 yX2_playerOn yX2_playerOn, Cond.code yX2_playerOn cX2_playerOn 3 (some .int), Cond.methodLink RX5 101 yX2_put, Cond.instanceMethod yX2_put, Cond.selects RX2 yX2_put yX2_put, Cond.code yX2_put cX2_put 3 none, Cond.methodLink RL 31 yX5_shoot]
def wsL_isShot_r6 : List Cond := [Cond.instanceMethod yX5_shoot, Cond.selects RX5 yX5_shoot yX5_shoot, Cond.code yX5_shoot cX5_shoot 4 (some .int), Cond.methodLink RX5 108 yX2_mayFire, Cond.instanceMethod yX2_mayFire, Cond.selects RX2 yX2_mayFire yX2_mayFire, Cond.code yX2_mayFire cX2_mayFire 2 (some .boolean), Cond.methodLink RX5 113 yX2_fire, Cond.instanceMethod yX2_fire, Cond.selects RX2 yX2_fire yX2_fire, Cond.code yX2_fire cX2_fire 5 (some .int), Cond.methodLink RX2 53 yX1_distance, Cond.methodLink RX2 59 yX3_add, Cond.instanceMethod yX3_add, Cond.selects RX3 yX3_add yX3_add, Cond.initialized RX3, Cond.code yX3_add cX3_add 5 none, Cond.fieldLink RX3 9 "PaintballAtlas$Shots" "shooters" "[I", Cond.fieldLink RX3 24 "PaintballAtlas$Shots" "count" "I", Cond.fieldLink RX3 15 "PaintballAtlas$Shots" "origins" "[I", Cond.fieldLink RX3 18 "PaintballAtlas$Shots" "targets" "[I", Cond.fieldLink RX3 21 "PaintballAtlas$Shots" "arrivals" "[I", Cond.methodLink RL 34 yX5_pass, Cond.instanceMethod yX5_pass]
def wsL_isShot_r7 : List Cond := [Cond.selects RX5 yX5_pass yX5_pass, Cond.code yX5_pass cX5_pass 4 (some .int), Cond.methodLink RX5 118 yX2_nextTick, Cond.instanceMethod yX2_nextTick, Cond.selects RX2 yX2_nextTick yX2_nextTick, Cond.code yX2_nextTick cX2_nextTick 4 (some .int), Cond.methodLink RX2 66 yX2_strikes, Cond.instanceMethod yX2_strikes, Cond.selects RX2 yX2_strikes yX2_strikes, Cond.code yX2_strikes cX2_strikes 5 (some .boolean), Cond.fieldLink RX2 70 "PaintballAtlas$Shots" "targets" "[I", Cond.fieldLink RX2 77 "PaintballAtlas$Shots" "shooters" "[I", Cond.fieldLink RX2 80 "PaintballAtlas$Shots" "origins" "[I", Cond.methodLink RX2 73 yX2_playerOn, Cond.methodLink RX2 83 yX1_hasSight, Cond.instanceMethod yX1_hasSight, Cond.selects RX1 yX1_hasSight yX1_hasSight, Cond.code yX1_hasSight cX1_hasSight 10 (some .boolean), Cond.methodLink RX1 29 Lib.Math.min.name, Cond.static Lib.Math.min.name, Cond.code Lib.Math.min.name Lib.Math.min.code 2 (some .int), Cond.methodLink RX1 32 yX1_lineEnters, Cond.static yX1_lineEnters, Cond.code yX1_lineEnters cX1_lineEnters 8 (some .boolean)]
def wsL_isShot_r8 : List Cond := [Cond.methodLink RL 38 yX5_call, Cond.instanceMethod yX5_call, Cond.selects RX5 yX5_call yX5_call, Cond.code yX5_call cX5_call 4 (some .int), Cond.methodLink RX5 53 yX1_hasSight, Cond.methodLink RX5 124 yX2_mayCall, Cond.instanceMethod yX2_mayCall, Cond.selects RX2 yX2_mayCall yX2_mayCall, Cond.code yX2_mayCall cX2_mayCall 1 (some .boolean), Cond.methodLink RX5 129 yX2_callOut, Cond.instanceMethod yX2_callOut, Cond.selects RX2 yX2_callOut yX2_callOut, Cond.code yX2_callOut cX2_callOut 3 (some .int), Cond.methodLink RX2 87 yX0_add, Cond.instanceMethod yX0_add, Cond.selects RX0 yX0_add yX0_add, Cond.initialized RX0, Cond.code yX0_add cX0_add 4 (some .int), Cond.fieldLink RX0 9 "PaintballAtlas$Calls" "players" "[I", Cond.fieldLink RX0 25 "PaintballAtlas$Calls" "count" "I", Cond.fieldLink RX0 15 "PaintballAtlas$Calls" "cells" "[I", Cond.fieldLink RX0 18 "PaintballAtlas$Calls" "ticks" "[I", Cond.fieldLink RX0 21 "PaintballAtlas$Calls" "disputed" "[Z", Cond.methodLink RL 41 yX5_dispute]
def wsL_isShot_r9 : List Cond := [Cond.instanceMethod yX5_dispute, Cond.selects RX5 yX5_dispute yX5_dispute, Cond.code yX5_dispute cX5_dispute 3 (some .boolean), Cond.fieldLink RX5 26 "PaintballAtlas" "table" "LPaintballAtlas$Table;", Cond.methodLink RX5 132 yX2_hasCall, Cond.instanceMethod yX2_hasCall, Cond.selects RX2 yX2_hasCall yX2_hasCall, Cond.code yX2_hasCall cX2_hasCall 2 (some .boolean), Cond.methodLink RX5 140 yX2_isDisputed, Cond.instanceMethod yX2_isDisputed, Cond.selects RX2 yX2_isDisputed yX2_isDisputed, Cond.code yX2_isDisputed cX2_isDisputed 2 (some .boolean), Cond.fieldLink RX2 90 "PaintballAtlas$Calls" "disputed" "[Z", Cond.methodLink RX5 145 yX2_judge, Cond.instanceMethod yX2_judge, Cond.selects RX2 yX2_judge yX2_judge, Cond.code yX2_judge cX2_judge 4 (some .boolean), Cond.fieldLink RX2 94 "PaintballAtlas$Calls" "players" "[I", Cond.fieldLink RX2 97 "PaintballAtlas$Calls" "ticks" "[I", Cond.fieldLink RX2 100 "PaintballAtlas$Calls" "cells" "[I", Cond.methodLink RX5 148 yX2_teamCalled, Cond.instanceMethod yX2_teamCalled, Cond.selects RX2 yX2_teamCalled yX2_teamCalled, Cond.code yX2_teamCalled cX2_teamCalled 2 (some .int)]
def wsL_isShot_r10 : List Cond := [Cond.methodLink RX5 151 yX4_fine, Cond.instanceMethod yX4_fine, Cond.selects RX4 yX4_fine yX4_fine, Cond.initialized RX4, Cond.code yX4_fine cX4_fine 2 none, Cond.fieldLink RX4 15 "PaintballAtlas$Table" "fines" "[I", Cond.methodLink RL 44 yX5_end, Cond.instanceMethod yX5_end, Cond.selects RX5 yX5_end yX5_end, Cond.code yX5_end cX5_end 2 (some .int), Cond.methodLink RX5 154 yX2_margin, Cond.instanceMethod yX2_margin, Cond.selects RX2 yX2_margin yX2_margin, Cond.code yX2_margin cX2_margin 3 (some .int), Cond.methodLink RX5 158 yX2_homeTeam, Cond.instanceMethod yX2_homeTeam, Cond.selects RX2 yX2_homeTeam yX2_homeTeam, Cond.code yX2_homeTeam cX2_homeTeam 1 (some .int), Cond.methodLink RX5 161 yX2_awayTeam, Cond.instanceMethod yX2_awayTeam, Cond.selects RX2 yX2_awayTeam yX2_awayTeam, Cond.code yX2_awayTeam cX2_awayTeam 1 (some .int), Cond.methodLink RX5 164 yX4_enter, Cond.instanceMethod yX4_enter]
def wsL_isShot_r11 : List Cond := [Cond.selects RX4 yX4_enter yX4_enter, Cond.code yX4_enter cX4_enter 4 none, Cond.fieldLink RX4 18 "PaintballAtlas$Table" "differences" "[I", Cond.fieldLink RX4 9 "PaintballAtlas$Table" "points" "[I", Cond.methodLink RX4 26 yX4_enterWin, Cond.instanceMethod yX4_enterWin, Cond.selects RX4 yX4_enterWin yX4_enterWin, Cond.code yX4_enterWin cX4_enterWin 3 none, Cond.fieldLink RX4 23 "PaintballAtlas$Table" "wins" "[[I", Cond.methodLink RX4 30 yX4_takePenalties, Cond.instanceMethod yX4_takePenalties, Cond.selects RX4 yX4_takePenalties yX4_takePenalties, Cond.code yX4_takePenalties cX4_takePenalties 2 none, Cond.methodLink RX5 168 yX2_close, Cond.instanceMethod yX2_close, Cond.selects RX2 yX2_close yX2_close, Cond.code yX2_close cX2_close 1 none]
def wsL_isShot : List Cond := .code yL_isShot cL_isShot 9 (some .boolean) :: ((wsL_isShot_r1 ++ (wsL_isShot_r2 ++ (wsL_isShot_r3 ++ (wsL_isShot_r4 ++ (wsL_isShot_r5 ++ (wsL_isShot_r6 ++ (wsL_isShot_r7 ++ (wsL_isShot_r8 ++ (wsL_isShot_r9 ++ (wsL_isShot_r10 ++ wsL_isShot_r11)))))))))) ++ wsX50 ++ wsX20 ++ wsX30 ++ wsX10 ++ wsX00 ++ wsX40 ++ (vx_atS RX5 46 "java/lang/IllegalStateException" ["java/lang/RuntimeException", "java/lang/Exception"]).filter goodWord ++ (vx_atS RX5 139 "java/lang/IndexOutOfBoundsException" ["java/lang/RuntimeException", "java/lang/Exception"]).filter goodWord ++ (vx_atS RX5 71 "java/lang/IllegalArgumentException" ["java/lang/RuntimeException", "java/lang/Exception"]).filter goodWord)
def wsL_isCall_r1 : List Cond := [Cond.methodLink RL 54 yX5_sees, Cond.instanceMethod yX5_sees, Cond.selects RX5 yX5_sees yX5_sees, Cond.initialized RX5, Cond.code yX5_sees cX5_sees 3 (some .boolean), Cond.fieldLink RX5 12 "PaintballAtlas" "field" "LPaintballAtlas$Field;", Cond.methodLink RX5 34 yX5_checkCell, Cond.static yX5_checkCell, Cond.code yX5_checkCell cX5_checkCell 1 none, Cond.classLink RX5 135 "java/lang/IndexOutOfBoundsException", Cond.initialized "java/lang/IndexOutOfBoundsException", Cond.methodLink RX5 53 yX1_hasSight, Cond.instanceMethod yX1_hasSight, Cond.selects RX1 yX1_hasSight yX1_hasSight, Cond.initialized RX1, Cond.code yX1_hasSight cX1_hasSight 10 (some .boolean), Cond.fieldLink RX1 9 "PaintballAtlas$Field" "bunkers" "[Z", Cond.methodLink RX1 29 Lib.Math.min.name, Cond.static Lib.Math.min.name, Cond.initialized "java/lang/Math", Cond.code Lib.Math.min.name Lib.Math.min.code 2 (some .int), Cond.methodLink RX1 21 Lib.Math.max.name, Cond.static Lib.Math.max.name, Cond.code Lib.Math.max.name Lib.Math.max.code 2 (some .int)]
def wsL_isCall_r2 : List Cond := [Cond.methodLink RX1 32 yX1_lineEnters, Cond.static yX1_lineEnters, Cond.code yX1_lineEnters cX1_lineEnters 8 (some .boolean), Cond.methodLink RX1 15 Lib.Math.abs.name, Cond.static Lib.Math.abs.name, Cond.code Lib.Math.abs.name Lib.Math.abs.code 1 (some .int), Cond.methodLink RL 100 yL_does, Cond.static yL_does, Cond.initialized RL, Cond.codeWith yL_does cL_does 5 (some .int) [(0, 130, 131, 48), (0, 130, 136, 50), (0, 130, 141, 52)], Cond.classLink RL 48 "java/lang/IndexOutOfBoundsException", Cond.classLink RL 50 "java/lang/IllegalArgumentException", Cond.classLink RL 52 "java/lang/IllegalStateException", Cond.methodLink RL 14 yX5_toggleBunker, Cond.instanceMethod yX5_toggleBunker, Cond.selects RX5 yX5_toggleBunker yX5_toggleBunker, Cond.code yX5_toggleBunker cX5_toggleBunker 2 (some .boolean), Cond.classLink RX5 42 "java/lang/IllegalStateException", Cond.initialized "java/lang/IllegalStateException", Cond.fieldLink RX5 19 "PaintballAtlas" "round" "LPaintballAtlas$Round;", Cond.methodLink RX5 38 yX2_isPlayed, Cond.instanceMethod yX2_isPlayed, Cond.selects RX2 yX2_isPlayed yX2_isPlayed, Cond.initialized RX2]
def wsL_isCall_r3 : List Cond := [Cond.code yX2_isPlayed cX2_isPlayed 1 (some .boolean), Cond.fieldLink RX2 9 "PaintballAtlas$Round" "tick" "I", Cond.methodLink RX5 49 yX1_turnBunker, Cond.instanceMethod yX1_turnBunker, Cond.selects RX1 yX1_turnBunker yX1_turnBunker, Cond.code yX1_turnBunker cX1_turnBunker 2 (some .boolean), Cond.methodLink RL 18 yX5_setReferee, Cond.instanceMethod yX5_setReferee, Cond.selects RX5 yX5_setReferee yX5_setReferee, Cond.code yX5_setReferee cX5_setReferee 4 (some .int), Cond.fieldLink RX5 30 "PaintballAtlas" "refereeCells" "[I", Cond.methodLink RX5 61 yX5_checkReferee, Cond.static yX5_checkReferee, Cond.code yX5_checkReferee cX5_checkReferee 1 none, Cond.methodLink RL 22 yL_begins, Cond.static yL_begins, Cond.code yL_begins cL_begins 3 (some .int), Cond.methodLink RL 8 yX5_begin, Cond.instanceMethod yX5_begin, Cond.selects RX5 yX5_begin yX5_begin, Cond.code yX5_begin cX5_begin 3 none, Cond.classLink RX5 67 "java/lang/IllegalArgumentException", Cond.initialized "java/lang/IllegalArgumentException", Cond.methodLink RX5 64 yX5_checkTeam]
def wsL_isCall_r4 : List Cond := [Cond.static yX5_checkTeam, Cond.code yX5_checkTeam cX5_checkTeam 1 none, Cond.methodLink RX5 72 yX2_start, Cond.instanceMethod yX2_start, Cond.selects RX2 yX2_start yX2_start, Cond.code yX2_start cX2_start 3 none, Cond.fieldLink RX2 43 "PaintballAtlas$Round" "home" "I", Cond.fieldLink RX2 46 "PaintballAtlas$Round" "away" "I", Cond.methodLink RX2 39 yX2_reset, Cond.instanceMethod yX2_reset, Cond.selects RX2 yX2_reset yX2_reset, Cond.code yX2_reset cX2_reset 3 none, Cond.fieldLink RX2 15 "PaintballAtlas$Round" "cells" "[I", Cond.fieldLink RX2 19 "PaintballAtlas$Round" "hits" "[I", Cond.fieldLink RX2 22 "PaintballAtlas$Round" "lastShots" "[I", Cond.fieldLink RX2 28 "PaintballAtlas$Round" "shots" "LPaintballAtlas$Shots;", Cond.fieldLink RX2 49 "PaintballAtlas$Shots" "count" "I", Cond.fieldLink RX2 35 "PaintballAtlas$Round" "calls" "LPaintballAtlas$Calls;", Cond.fieldLink RX2 52 "PaintballAtlas$Calls" "count" "I", Cond.methodLink RL 28 yX5_move, Cond.instanceMethod yX5_move, Cond.selects RX5 yX5_move yX5_move, Cond.code yX5_move cX5_move 4 (some .int), Cond.methodLink RX5 76 yX5_checkPlayer]
def wsL_isCall_r5 : List Cond := [Cond.static yX5_checkPlayer, Cond.code yX5_checkPlayer cX5_checkPlayer 1 none, Cond.methodLink RX5 79 yX5_checkRound, Cond.instanceMethod yX5_checkRound, Cond.selects RX5 yX5_checkRound yX5_checkRound, Cond.code yX5_checkRound cX5_checkRound 1 none, Cond.methodLink RX5 82 yX2_cellOf, Cond.instanceMethod yX2_cellOf, Cond.selects RX2 yX2_cellOf yX2_cellOf, Cond.code yX2_cellOf cX2_cellOf 2 (some .int), Cond.methodLink RX5 87 yX1_distance, Cond.static yX1_distance, Cond.code yX1_distance cX1_distance 4 (some .int), Cond.methodLink RX5 93 yX1_hasBunker, Cond.instanceMethod yX1_hasBunker, Cond.selects RX1 yX1_hasBunker yX1_hasBunker, Cond.code yX1_hasBunker cX1_hasBunker 2 (some .boolean), Cond.methodLink RX5 96 yX2_playerOn, Cond.instanceMethod yX2_playerOn, Cond.selects RX2 yX2_playerOn yX2_playerOn, Cond.code yX2_playerOn cX2_playerOn 3 (some .int), Cond.methodLink RX5 101 yX2_put, Cond.instanceMethod yX2_put, Cond.selects RX2 yX2_put yX2_put]
def wsL_isCall_r6 : List Cond := [Cond.code yX2_put cX2_put 3 none, Cond.methodLink RL 31 yX5_shoot, Cond.instanceMethod yX5_shoot, Cond.selects RX5 yX5_shoot yX5_shoot, Cond.code yX5_shoot cX5_shoot 4 (some .int), Cond.methodLink RX5 108 yX2_mayFire, Cond.instanceMethod yX2_mayFire, Cond.selects RX2 yX2_mayFire yX2_mayFire, Cond.code yX2_mayFire cX2_mayFire 2 (some .boolean), Cond.methodLink RX5 113 yX2_fire, Cond.instanceMethod yX2_fire, Cond.selects RX2 yX2_fire yX2_fire, Cond.code yX2_fire cX2_fire 5 (some .int), Cond.methodLink RX2 53 yX1_distance, Cond.methodLink RX2 59 yX3_add, Cond.instanceMethod yX3_add, Cond.selects RX3 yX3_add yX3_add, Cond.initialized RX3, Cond.code yX3_add cX3_add 5 none, Cond.fieldLink RX3 9 "PaintballAtlas$Shots" "shooters" "[I", Cond.fieldLink RX3 24 "PaintballAtlas$Shots" "count" "I", Cond.fieldLink RX3 15 "PaintballAtlas$Shots" "origins" "[I", Cond.fieldLink RX3 18 "PaintballAtlas$Shots" "targets" "[I", Cond.fieldLink RX3 21 "PaintballAtlas$Shots" "arrivals" "[I"]
def wsL_isCall_r7 : List Cond := [Cond.methodLink RL 34 yX5_pass, Cond.instanceMethod yX5_pass, Cond.selects RX5 yX5_pass yX5_pass, Cond.code yX5_pass cX5_pass 4 (some .int), Cond.methodLink RX5 118 yX2_nextTick, Cond.instanceMethod yX2_nextTick, Cond.selects RX2 yX2_nextTick yX2_nextTick, Cond.code yX2_nextTick cX2_nextTick 4 (some .int), Cond.fieldLink RX2 63 "PaintballAtlas$Shots" "arrivals" "[I", Cond.methodLink RX2 66 yX2_strikes, Cond.instanceMethod yX2_strikes, Cond.selects RX2 yX2_strikes yX2_strikes, Cond.code yX2_strikes cX2_strikes 5 (some .boolean), Cond.fieldLink RX2 70 "PaintballAtlas$Shots" "targets" "[I", Cond.fieldLink RX2 77 "PaintballAtlas$Shots" "shooters" "[I", Cond.fieldLink RX2 80 "PaintballAtlas$Shots" "origins" "[I", Cond.methodLink RX2 73 yX2_playerOn, Cond.methodLink RX2 83 yX1_hasSight, Cond.methodLink RL 38 yX5_call, Cond.instanceMethod yX5_call, Cond.selects RX5 yX5_call yX5_call, Cond.code yX5_call cX5_call 4 (some .int), Cond.methodLink RX5 124 yX2_mayCall, Cond.instanceMethod yX2_mayCall]
def wsL_isCall_r8 : List Cond := [Cond.selects RX2 yX2_mayCall yX2_mayCall, Cond.code yX2_mayCall cX2_mayCall 1 (some .boolean), Cond.methodLink RX5 129 yX2_callOut, Cond.instanceMethod yX2_callOut, Cond.selects RX2 yX2_callOut yX2_callOut, Cond.code yX2_callOut cX2_callOut 3 (some .int), Cond.methodLink RX2 87 yX0_add, Cond.instanceMethod yX0_add, Cond.selects RX0 yX0_add yX0_add, Cond.initialized RX0, Cond.code yX0_add cX0_add 4 (some .int), Cond.fieldLink RX0 9 "PaintballAtlas$Calls" "players" "[I", Cond.fieldLink RX0 25 "PaintballAtlas$Calls" "count" "I", Cond.fieldLink RX0 15 "PaintballAtlas$Calls" "cells" "[I", Cond.fieldLink RX0 18 "PaintballAtlas$Calls" "ticks" "[I", Cond.fieldLink RX0 21 "PaintballAtlas$Calls" "disputed" "[Z", Cond.methodLink RL 41 yX5_dispute, Cond.instanceMethod yX5_dispute, Cond.selects RX5 yX5_dispute yX5_dispute, Cond.code yX5_dispute cX5_dispute 3 (some .boolean), Cond.fieldLink RX5 26 "PaintballAtlas" "table" "LPaintballAtlas$Table;", Cond.methodLink RX5 132 yX2_hasCall, Cond.instanceMethod yX2_hasCall, Cond.selects RX2 yX2_hasCall yX2_hasCall]
def wsL_isCall_r9 : List Cond := [Cond.code yX2_hasCall cX2_hasCall 2 (some .boolean), Cond.methodLink RX5 140 yX2_isDisputed, Cond.instanceMethod yX2_isDisputed, Cond.selects RX2 yX2_isDisputed yX2_isDisputed, Cond.code yX2_isDisputed cX2_isDisputed 2 (some .boolean), Cond.fieldLink RX2 90 "PaintballAtlas$Calls" "disputed" "[Z", Cond.methodLink RX5 145 yX2_judge, Cond.instanceMethod yX2_judge, Cond.selects RX2 yX2_judge yX2_judge, Cond.code yX2_judge cX2_judge 4 (some .boolean), Cond.fieldLink RX2 94 "PaintballAtlas$Calls" "players" "[I", Cond.fieldLink RX2 97 "PaintballAtlas$Calls" "ticks" "[I", Cond.fieldLink RX2 100 "PaintballAtlas$Calls" "cells" "[I", Cond.methodLink RX5 148 yX2_teamCalled, Cond.instanceMethod yX2_teamCalled, Cond.selects RX2 yX2_teamCalled yX2_teamCalled, Cond.code yX2_teamCalled cX2_teamCalled 2 (some .int), Cond.methodLink RX5 151 yX4_fine, Cond.instanceMethod yX4_fine, Cond.selects RX4 yX4_fine yX4_fine, Cond.initialized RX4, Cond.code yX4_fine cX4_fine 2 none, Cond.fieldLink RX4 15 "PaintballAtlas$Table" "fines" "[I", Cond.methodLink RL 44 yX5_end]
def wsL_isCall_r10 : List Cond := [Cond.instanceMethod yX5_end, Cond.selects RX5 yX5_end yX5_end, Cond.code yX5_end cX5_end 2 (some .int), Cond.methodLink RX5 154 yX2_margin, Cond.instanceMethod yX2_margin, Cond.selects RX2 yX2_margin yX2_margin, Cond.code yX2_margin cX2_margin 3 (some .int), Cond.methodLink RX5 158 yX2_homeTeam, Cond.instanceMethod yX2_homeTeam, Cond.selects RX2 yX2_homeTeam yX2_homeTeam, Cond.code yX2_homeTeam cX2_homeTeam 1 (some .int), Cond.methodLink RX5 161 yX2_awayTeam, Cond.instanceMethod yX2_awayTeam, Cond.selects RX2 yX2_awayTeam yX2_awayTeam, Cond.code yX2_awayTeam cX2_awayTeam 1 (some .int), Cond.methodLink RX5 164 yX4_enter, Cond.instanceMethod yX4_enter, Cond.selects RX4 yX4_enter yX4_enter, Cond.code yX4_enter cX4_enter 4 none, Cond.fieldLink RX4 18 "PaintballAtlas$Table" "differences" "[I", Cond.fieldLink RX4 9 "PaintballAtlas$Table" "points" "[I", Cond.methodLink RX4 26 yX4_enterWin, Cond.instanceMethod yX4_enterWin, Cond.selects RX4 yX4_enterWin yX4_enterWin]
def wsL_isCall_r11 : List Cond := [Cond.code yX4_enterWin cX4_enterWin 3 none, Cond.fieldLink RX4 23 "PaintballAtlas$Table" "wins" "[[I", Cond.methodLink RX4 30 yX4_takePenalties, Cond.instanceMethod yX4_takePenalties, Cond.selects RX4 yX4_takePenalties yX4_takePenalties, Cond.code yX4_takePenalties cX4_takePenalties 2 none, Cond.methodLink RX5 168 yX2_close, Cond.instanceMethod yX2_close, Cond.selects RX2 yX2_close yX2_close, Cond.code yX2_close cX2_close 1 none]
def wsL_isCall : List Cond := .code yL_isCall cL_isCall 9 (some .boolean) :: ((wsL_isCall_r1 ++ (wsL_isCall_r2 ++ (wsL_isCall_r3 ++ (wsL_isCall_r4 ++ (wsL_isCall_r5 ++ (wsL_isCall_r6 ++ (wsL_isCall_r7 ++ (wsL_isCall_r8 ++ (wsL_isCall_r9 ++ (wsL_isCall_r10 ++ wsL_isCall_r11)))))))))) ++ wsX50 ++ wsX10 ++ wsX20 ++ wsX30 ++ wsX00 ++ wsX40 ++ (vx_atS RX5 139 "java/lang/IndexOutOfBoundsException" ["java/lang/RuntimeException", "java/lang/Exception"]).filter goodWord ++ (vx_atS RX5 46 "java/lang/IllegalStateException" ["java/lang/RuntimeException", "java/lang/Exception"]).filter goodWord ++ (vx_atS RX5 71 "java/lang/IllegalArgumentException" ["java/lang/RuntimeException", "java/lang/Exception"]).filter goodWord)
def wsL_isDispute_r1 : List Cond := [Cond.methodLink RL 100 yL_does, Cond.static yL_does, Cond.initialized RL, Cond.codeWith yL_does cL_does 5 (some .int) [(0, 130, 131, 48), (0, 130, 136, 50), (0, 130, 141, 52)], Cond.classLink RL 48 "java/lang/IndexOutOfBoundsException", Cond.classLink RL 50 "java/lang/IllegalArgumentException", Cond.classLink RL 52 "java/lang/IllegalStateException", Cond.methodLink RL 14 yX5_toggleBunker, Cond.instanceMethod yX5_toggleBunker, Cond.selects RX5 yX5_toggleBunker yX5_toggleBunker, Cond.initialized RX5, Cond.code yX5_toggleBunker cX5_toggleBunker 2 (some .boolean), Cond.classLink RX5 42 "java/lang/IllegalStateException", Cond.initialized "java/lang/IllegalStateException", Cond.fieldLink RX5 19 "PaintballAtlas" "round" "LPaintballAtlas$Round;", Cond.fieldLink RX5 12 "PaintballAtlas" "field" "LPaintballAtlas$Field;", Cond.methodLink RX5 34 yX5_checkCell, Cond.static yX5_checkCell, Cond.code yX5_checkCell cX5_checkCell 1 none, Cond.classLink RX5 135 "java/lang/IndexOutOfBoundsException", Cond.initialized "java/lang/IndexOutOfBoundsException", Cond.methodLink RX5 38 yX2_isPlayed, Cond.instanceMethod yX2_isPlayed, Cond.selects RX2 yX2_isPlayed yX2_isPlayed]
def wsL_isDispute_r2 : List Cond := [Cond.initialized RX2, Cond.code yX2_isPlayed cX2_isPlayed 1 (some .boolean), Cond.fieldLink RX2 9 "PaintballAtlas$Round" "tick" "I", Cond.methodLink RX5 49 yX1_turnBunker, Cond.instanceMethod yX1_turnBunker, Cond.selects RX1 yX1_turnBunker yX1_turnBunker, Cond.initialized RX1, Cond.code yX1_turnBunker cX1_turnBunker 2 (some .boolean), Cond.fieldLink RX1 9 "PaintballAtlas$Field" "bunkers" "[Z", Cond.methodLink RL 18 yX5_setReferee, Cond.instanceMethod yX5_setReferee, Cond.selects RX5 yX5_setReferee yX5_setReferee, Cond.code yX5_setReferee cX5_setReferee 4 (some .int), Cond.fieldLink RX5 30 "PaintballAtlas" "refereeCells" "[I", Cond.methodLink RX5 61 yX5_checkReferee, Cond.static yX5_checkReferee, Cond.code yX5_checkReferee cX5_checkReferee 1 none, Cond.methodLink RL 22 yL_begins, Cond.static yL_begins, Cond.code yL_begins cL_begins 3 (some .int), Cond.methodLink RL 8 yX5_begin, Cond.instanceMethod yX5_begin, Cond.selects RX5 yX5_begin yX5_begin, Cond.code yX5_begin cX5_begin 3 none]
def wsL_isDispute_r3 : List Cond := [Cond.classLink RX5 67 "java/lang/IllegalArgumentException", Cond.initialized "java/lang/IllegalArgumentException", Cond.methodLink RX5 64 yX5_checkTeam, Cond.static yX5_checkTeam, Cond.code yX5_checkTeam cX5_checkTeam 1 none, Cond.methodLink RX5 72 yX2_start, Cond.instanceMethod yX2_start, Cond.selects RX2 yX2_start yX2_start, Cond.code yX2_start cX2_start 3 none, Cond.fieldLink RX2 43 "PaintballAtlas$Round" "home" "I", Cond.fieldLink RX2 46 "PaintballAtlas$Round" "away" "I", Cond.methodLink RX2 39 yX2_reset, Cond.instanceMethod yX2_reset, Cond.selects RX2 yX2_reset yX2_reset, Cond.code yX2_reset cX2_reset 3 none, Cond.fieldLink RX2 15 "PaintballAtlas$Round" "cells" "[I", Cond.fieldLink RX2 19 "PaintballAtlas$Round" "hits" "[I", Cond.fieldLink RX2 22 "PaintballAtlas$Round" "lastShots" "[I", Cond.fieldLink RX2 28 "PaintballAtlas$Round" "shots" "LPaintballAtlas$Shots;", Cond.fieldLink RX2 49 "PaintballAtlas$Shots" "count" "I", Cond.fieldLink RX2 35 "PaintballAtlas$Round" "calls" "LPaintballAtlas$Calls;", Cond.fieldLink RX2 52 "PaintballAtlas$Calls" "count" "I", Cond.methodLink RL 28 yX5_move, Cond.instanceMethod yX5_move]
def wsL_isDispute_r4 : List Cond := [Cond.selects RX5 yX5_move yX5_move, Cond.code yX5_move cX5_move 4 (some .int), Cond.methodLink RX5 76 yX5_checkPlayer, Cond.static yX5_checkPlayer, Cond.code yX5_checkPlayer cX5_checkPlayer 1 none, Cond.methodLink RX5 79 yX5_checkRound, Cond.instanceMethod yX5_checkRound, Cond.selects RX5 yX5_checkRound yX5_checkRound, Cond.code yX5_checkRound cX5_checkRound 1 none, Cond.methodLink RX5 82 yX2_cellOf, Cond.instanceMethod yX2_cellOf, Cond.selects RX2 yX2_cellOf yX2_cellOf, Cond.code yX2_cellOf cX2_cellOf 2 (some .int), Cond.methodLink RX5 87 yX1_distance, Cond.static yX1_distance, Cond.code yX1_distance cX1_distance 4 (some .int), Cond.methodLink RX1 15 Lib.Math.abs.name, Cond.static Lib.Math.abs.name, Cond.initialized "java/lang/Math", Cond.code Lib.Math.abs.name Lib.Math.abs.code 1 (some .int), Cond.methodLink RX1 21 Lib.Math.max.name, Cond.static Lib.Math.max.name, Cond.code Lib.Math.max.name Lib.Math.max.code 2 (some .int), Cond.methodLink RX5 93 yX1_hasBunker]
def wsL_isDispute_r5 : List Cond := [Cond.instanceMethod yX1_hasBunker, Cond.selects RX1 yX1_hasBunker yX1_hasBunker, Cond.code yX1_hasBunker cX1_hasBunker 2 (some .boolean), Cond.methodLink RX5 96 yX2_playerOn, Cond.instanceMethod yX2_playerOn, Cond.selects RX2 yX2_playerOn yX2_playerOn, Cond.code yX2_playerOn cX2_playerOn 3 (some .int), Cond.methodLink RX5 101 yX2_put, Cond.instanceMethod yX2_put, Cond.selects RX2 yX2_put yX2_put, Cond.code yX2_put cX2_put 3 none, Cond.methodLink RL 31 yX5_shoot, Cond.instanceMethod yX5_shoot, Cond.selects RX5 yX5_shoot yX5_shoot, Cond.code yX5_shoot cX5_shoot 4 (some .int), Cond.methodLink RX5 108 yX2_mayFire, Cond.instanceMethod yX2_mayFire, Cond.selects RX2 yX2_mayFire yX2_mayFire, Cond.code yX2_mayFire cX2_mayFire 2 (some .boolean), Cond.methodLink RX5 113 yX2_fire, Cond.instanceMethod yX2_fire, Cond.selects RX2 yX2_fire yX2_fire, Cond.code yX2_fire cX2_fire 5 (some .int), Cond.methodLink RX2 53 yX1_distance]
def wsL_isDispute_r6 : List Cond := [Cond.methodLink RX2 59 yX3_add, Cond.instanceMethod yX3_add, Cond.selects RX3 yX3_add yX3_add, Cond.initialized RX3, Cond.code yX3_add cX3_add 5 none, Cond.fieldLink RX3 9 "PaintballAtlas$Shots" "shooters" "[I", Cond.fieldLink RX3 24 "PaintballAtlas$Shots" "count" "I", Cond.fieldLink RX3 15 "PaintballAtlas$Shots" "origins" "[I", Cond.fieldLink RX3 18 "PaintballAtlas$Shots" "targets" "[I", Cond.fieldLink RX3 21 "PaintballAtlas$Shots" "arrivals" "[I", Cond.methodLink RL 34 yX5_pass, Cond.instanceMethod yX5_pass, Cond.selects RX5 yX5_pass yX5_pass, Cond.code yX5_pass cX5_pass 4 (some .int), Cond.methodLink RX5 118 yX2_nextTick, Cond.instanceMethod yX2_nextTick, Cond.selects RX2 yX2_nextTick yX2_nextTick, Cond.code yX2_nextTick cX2_nextTick 4 (some .int), Cond.fieldLink RX2 63 "PaintballAtlas$Shots" "arrivals" "[I", Cond.methodLink RX2 66 yX2_strikes, Cond.instanceMethod yX2_strikes, Cond.selects RX2 yX2_strikes yX2_strikes, Cond.code yX2_strikes cX2_strikes 5 (some .boolean), Cond.fieldLink RX2 70 "PaintballAtlas$Shots" "targets" "[I"]
def wsL_isDispute_r7 : List Cond := [Cond.fieldLink RX2 77 "PaintballAtlas$Shots" "shooters" "[I", Cond.fieldLink RX2 80 "PaintballAtlas$Shots" "origins" "[I", Cond.methodLink RX2 73 yX2_playerOn, Cond.methodLink RX2 83 yX1_hasSight, Cond.instanceMethod yX1_hasSight, Cond.selects RX1 yX1_hasSight yX1_hasSight, Cond.code yX1_hasSight cX1_hasSight 10 (some .boolean), Cond.methodLink RX1 29 Lib.Math.min.name, Cond.static Lib.Math.min.name, Cond.code Lib.Math.min.name Lib.Math.min.code 2 (some .int), Cond.methodLink RX1 32 yX1_lineEnters, Cond.static yX1_lineEnters, Cond.code yX1_lineEnters cX1_lineEnters 8 (some .boolean), Cond.methodLink RL 38 yX5_call, Cond.instanceMethod yX5_call, Cond.selects RX5 yX5_call yX5_call, Cond.code yX5_call cX5_call 4 (some .int), Cond.methodLink RX5 53 yX1_hasSight, Cond.methodLink RX5 124 yX2_mayCall, Cond.instanceMethod yX2_mayCall, Cond.selects RX2 yX2_mayCall yX2_mayCall, Cond.code yX2_mayCall cX2_mayCall 1 (some .boolean), Cond.methodLink RX5 129 yX2_callOut, Cond.instanceMethod yX2_callOut]
def wsL_isDispute_r8 : List Cond := [Cond.selects RX2 yX2_callOut yX2_callOut, Cond.code yX2_callOut cX2_callOut 3 (some .int), Cond.methodLink RX2 87 yX0_add, Cond.instanceMethod yX0_add, Cond.selects RX0 yX0_add yX0_add, Cond.initialized RX0, Cond.code yX0_add cX0_add 4 (some .int), Cond.fieldLink RX0 9 "PaintballAtlas$Calls" "players" "[I", Cond.fieldLink RX0 25 "PaintballAtlas$Calls" "count" "I", Cond.fieldLink RX0 15 "PaintballAtlas$Calls" "cells" "[I", Cond.fieldLink RX0 18 "PaintballAtlas$Calls" "ticks" "[I", Cond.fieldLink RX0 21 "PaintballAtlas$Calls" "disputed" "[Z", Cond.methodLink RL 41 yX5_dispute, Cond.instanceMethod yX5_dispute, Cond.selects RX5 yX5_dispute yX5_dispute, Cond.code yX5_dispute cX5_dispute 3 (some .boolean), Cond.fieldLink RX5 26 "PaintballAtlas" "table" "LPaintballAtlas$Table;", Cond.methodLink RX5 132 yX2_hasCall, Cond.instanceMethod yX2_hasCall, Cond.selects RX2 yX2_hasCall yX2_hasCall, Cond.code yX2_hasCall cX2_hasCall 2 (some .boolean), Cond.methodLink RX5 140 yX2_isDisputed, Cond.instanceMethod yX2_isDisputed, Cond.selects RX2 yX2_isDisputed yX2_isDisputed]
def wsL_isDispute_r9 : List Cond := [Cond.code yX2_isDisputed cX2_isDisputed 2 (some .boolean), Cond.fieldLink RX2 90 "PaintballAtlas$Calls" "disputed" "[Z", Cond.methodLink RX5 145 yX2_judge, Cond.instanceMethod yX2_judge, Cond.selects RX2 yX2_judge yX2_judge, Cond.code yX2_judge cX2_judge 4 (some .boolean), Cond.fieldLink RX2 94 "PaintballAtlas$Calls" "players" "[I", Cond.fieldLink RX2 97 "PaintballAtlas$Calls" "ticks" "[I", Cond.fieldLink RX2 100 "PaintballAtlas$Calls" "cells" "[I", Cond.methodLink RX5 148 yX2_teamCalled, Cond.instanceMethod yX2_teamCalled, Cond.selects RX2 yX2_teamCalled yX2_teamCalled, Cond.code yX2_teamCalled cX2_teamCalled 2 (some .int), Cond.methodLink RX5 151 yX4_fine, Cond.instanceMethod yX4_fine, Cond.selects RX4 yX4_fine yX4_fine, Cond.initialized RX4, Cond.code yX4_fine cX4_fine 2 none, Cond.fieldLink RX4 15 "PaintballAtlas$Table" "fines" "[I", Cond.methodLink RL 44 yX5_end, Cond.instanceMethod yX5_end, Cond.selects RX5 yX5_end yX5_end, Cond.code yX5_end cX5_end 2 (some .int), Cond.methodLink RX5 154 yX2_margin]
def wsL_isDispute_r10 : List Cond := [Cond.instanceMethod yX2_margin, Cond.selects RX2 yX2_margin yX2_margin, Cond.code yX2_margin cX2_margin 3 (some .int), Cond.methodLink RX5 158 yX2_homeTeam, Cond.instanceMethod yX2_homeTeam, Cond.selects RX2 yX2_homeTeam yX2_homeTeam, Cond.code yX2_homeTeam cX2_homeTeam 1 (some .int), Cond.methodLink RX5 161 yX2_awayTeam, Cond.instanceMethod yX2_awayTeam, Cond.selects RX2 yX2_awayTeam yX2_awayTeam, Cond.code yX2_awayTeam cX2_awayTeam 1 (some .int), Cond.methodLink RX5 164 yX4_enter, Cond.instanceMethod yX4_enter, Cond.selects RX4 yX4_enter yX4_enter, Cond.code yX4_enter cX4_enter 4 none, Cond.fieldLink RX4 18 "PaintballAtlas$Table" "differences" "[I", Cond.fieldLink RX4 9 "PaintballAtlas$Table" "points" "[I", Cond.methodLink RX4 26 yX4_enterWin, Cond.instanceMethod yX4_enterWin, Cond.selects RX4 yX4_enterWin yX4_enterWin, Cond.code yX4_enterWin cX4_enterWin 3 none, Cond.fieldLink RX4 23 "PaintballAtlas$Table" "wins" "[[I", Cond.methodLink RX4 30 yX4_takePenalties, Cond.instanceMethod yX4_takePenalties]
def wsL_isDispute_r11 : List Cond := [Cond.selects RX4 yX4_takePenalties yX4_takePenalties, Cond.code yX4_takePenalties cX4_takePenalties 2 none, Cond.methodLink RX5 168 yX2_close, Cond.instanceMethod yX2_close, Cond.selects RX2 yX2_close yX2_close, Cond.code yX2_close cX2_close 1 none, Cond.methodLink RL 96 yL_isFree, Cond.static yL_isFree, Cond.code yL_isFree cL_isFree 5 (some .boolean), Cond.methodLink RL 79 yL_isBunker, Cond.static yL_isBunker, Cond.code yL_isBunker cL_isBunker 2 (some .boolean)]
def wsL_isDispute : List Cond := .code yL_isDispute cL_isDispute 9 (some .boolean) :: ((wsL_isDispute_r1 ++ (wsL_isDispute_r2 ++ (wsL_isDispute_r3 ++ (wsL_isDispute_r4 ++ (wsL_isDispute_r5 ++ (wsL_isDispute_r6 ++ (wsL_isDispute_r7 ++ (wsL_isDispute_r8 ++ (wsL_isDispute_r9 ++ (wsL_isDispute_r10 ++ wsL_isDispute_r11)))))))))) ++ wsX50 ++ wsX20 ++ wsX10 ++ wsX30 ++ wsX00 ++ wsX40 ++ (vx_atS RX5 46 "java/lang/IllegalStateException" ["java/lang/RuntimeException", "java/lang/Exception"]).filter goodWord ++ (vx_atS RX5 139 "java/lang/IndexOutOfBoundsException" ["java/lang/RuntimeException", "java/lang/Exception"]).filter goodWord ++ (vx_atS RX5 71 "java/lang/IllegalArgumentException" ["java/lang/RuntimeException", "java/lang/Exception"]).filter goodWord)
def wsL_isEnd_r1 : List Cond := [Cond.methodLink RL 100 yL_does, Cond.static yL_does, Cond.initialized RL, Cond.codeWith yL_does cL_does 5 (some .int) [(0, 130, 131, 48), (0, 130, 136, 50), (0, 130, 141, 52)], Cond.classLink RL 48 "java/lang/IndexOutOfBoundsException", Cond.classLink RL 50 "java/lang/IllegalArgumentException", Cond.classLink RL 52 "java/lang/IllegalStateException", Cond.methodLink RL 14 yX5_toggleBunker, Cond.instanceMethod yX5_toggleBunker, Cond.selects RX5 yX5_toggleBunker yX5_toggleBunker, Cond.initialized RX5, Cond.code yX5_toggleBunker cX5_toggleBunker 2 (some .boolean), Cond.classLink RX5 42 "java/lang/IllegalStateException", Cond.initialized "java/lang/IllegalStateException", Cond.fieldLink RX5 19 "PaintballAtlas" "round" "LPaintballAtlas$Round;", Cond.fieldLink RX5 12 "PaintballAtlas" "field" "LPaintballAtlas$Field;", Cond.methodLink RX5 34 yX5_checkCell, Cond.static yX5_checkCell, Cond.code yX5_checkCell cX5_checkCell 1 none, Cond.classLink RX5 135 "java/lang/IndexOutOfBoundsException", Cond.initialized "java/lang/IndexOutOfBoundsException", Cond.methodLink RX5 38 yX2_isPlayed, Cond.instanceMethod yX2_isPlayed, Cond.selects RX2 yX2_isPlayed yX2_isPlayed]
def wsL_isEnd_r2 : List Cond := [Cond.initialized RX2, Cond.code yX2_isPlayed cX2_isPlayed 1 (some .boolean), Cond.fieldLink RX2 9 "PaintballAtlas$Round" "tick" "I", Cond.methodLink RX5 49 yX1_turnBunker, Cond.instanceMethod yX1_turnBunker, Cond.selects RX1 yX1_turnBunker yX1_turnBunker, Cond.initialized RX1, Cond.code yX1_turnBunker cX1_turnBunker 2 (some .boolean), Cond.fieldLink RX1 9 "PaintballAtlas$Field" "bunkers" "[Z", Cond.methodLink RL 18 yX5_setReferee, Cond.instanceMethod yX5_setReferee, Cond.selects RX5 yX5_setReferee yX5_setReferee, Cond.code yX5_setReferee cX5_setReferee 4 (some .int), Cond.fieldLink RX5 30 "PaintballAtlas" "refereeCells" "[I", Cond.methodLink RX5 61 yX5_checkReferee, Cond.static yX5_checkReferee, Cond.code yX5_checkReferee cX5_checkReferee 1 none, Cond.methodLink RL 22 yL_begins, Cond.static yL_begins, Cond.code yL_begins cL_begins 3 (some .int), Cond.methodLink RL 8 yX5_begin, Cond.instanceMethod yX5_begin, Cond.selects RX5 yX5_begin yX5_begin, Cond.code yX5_begin cX5_begin 3 none]
def wsL_isEnd_r3 : List Cond := [Cond.classLink RX5 67 "java/lang/IllegalArgumentException", Cond.initialized "java/lang/IllegalArgumentException", Cond.methodLink RX5 64 yX5_checkTeam, Cond.static yX5_checkTeam, Cond.code yX5_checkTeam cX5_checkTeam 1 none, Cond.methodLink RX5 72 yX2_start, Cond.instanceMethod yX2_start, Cond.selects RX2 yX2_start yX2_start, Cond.code yX2_start cX2_start 3 none, Cond.fieldLink RX2 43 "PaintballAtlas$Round" "home" "I", Cond.fieldLink RX2 46 "PaintballAtlas$Round" "away" "I", Cond.methodLink RX2 39 yX2_reset, Cond.instanceMethod yX2_reset, Cond.selects RX2 yX2_reset yX2_reset, Cond.code yX2_reset cX2_reset 3 none, Cond.fieldLink RX2 15 "PaintballAtlas$Round" "cells" "[I", Cond.fieldLink RX2 19 "PaintballAtlas$Round" "hits" "[I", Cond.fieldLink RX2 22 "PaintballAtlas$Round" "lastShots" "[I", Cond.fieldLink RX2 28 "PaintballAtlas$Round" "shots" "LPaintballAtlas$Shots;", Cond.fieldLink RX2 49 "PaintballAtlas$Shots" "count" "I", Cond.fieldLink RX2 35 "PaintballAtlas$Round" "calls" "LPaintballAtlas$Calls;", Cond.fieldLink RX2 52 "PaintballAtlas$Calls" "count" "I", Cond.methodLink RL 28 yX5_move, Cond.instanceMethod yX5_move]
def wsL_isEnd_r4 : List Cond := [Cond.selects RX5 yX5_move yX5_move, Cond.code yX5_move cX5_move 4 (some .int), Cond.methodLink RX5 76 yX5_checkPlayer, Cond.static yX5_checkPlayer, Cond.code yX5_checkPlayer cX5_checkPlayer 1 none, Cond.methodLink RX5 79 yX5_checkRound, Cond.instanceMethod yX5_checkRound, Cond.selects RX5 yX5_checkRound yX5_checkRound, Cond.code yX5_checkRound cX5_checkRound 1 none, Cond.methodLink RX5 82 yX2_cellOf, Cond.instanceMethod yX2_cellOf, Cond.selects RX2 yX2_cellOf yX2_cellOf, Cond.code yX2_cellOf cX2_cellOf 2 (some .int), Cond.methodLink RX5 87 yX1_distance, Cond.static yX1_distance, Cond.code yX1_distance cX1_distance 4 (some .int), Cond.methodLink RX1 15 Lib.Math.abs.name, Cond.static Lib.Math.abs.name, Cond.initialized "java/lang/Math", Cond.code Lib.Math.abs.name Lib.Math.abs.code 1 (some .int), Cond.methodLink RX1 21 Lib.Math.max.name, Cond.static Lib.Math.max.name, Cond.code Lib.Math.max.name Lib.Math.max.code 2 (some .int), Cond.methodLink RX5 93 yX1_hasBunker]
def wsL_isEnd_r5 : List Cond := [Cond.instanceMethod yX1_hasBunker, Cond.selects RX1 yX1_hasBunker yX1_hasBunker, Cond.code yX1_hasBunker cX1_hasBunker 2 (some .boolean), Cond.methodLink RX5 96 yX2_playerOn, Cond.instanceMethod yX2_playerOn, Cond.selects RX2 yX2_playerOn yX2_playerOn, Cond.code yX2_playerOn cX2_playerOn 3 (some .int), Cond.methodLink RX5 101 yX2_put, Cond.instanceMethod yX2_put, Cond.selects RX2 yX2_put yX2_put, Cond.code yX2_put cX2_put 3 none, Cond.methodLink RL 31 yX5_shoot, Cond.instanceMethod yX5_shoot, Cond.selects RX5 yX5_shoot yX5_shoot, Cond.code yX5_shoot cX5_shoot 4 (some .int), Cond.methodLink RX5 108 yX2_mayFire, Cond.instanceMethod yX2_mayFire, Cond.selects RX2 yX2_mayFire yX2_mayFire, Cond.code yX2_mayFire cX2_mayFire 2 (some .boolean), Cond.methodLink RX5 113 yX2_fire, Cond.instanceMethod yX2_fire, Cond.selects RX2 yX2_fire yX2_fire, Cond.code yX2_fire cX2_fire 5 (some .int), Cond.methodLink RX2 53 yX1_distance]
def wsL_isEnd_r6 : List Cond := [Cond.methodLink RX2 59 yX3_add, Cond.instanceMethod yX3_add, Cond.selects RX3 yX3_add yX3_add, Cond.initialized RX3, Cond.code yX3_add cX3_add 5 none, Cond.fieldLink RX3 9 "PaintballAtlas$Shots" "shooters" "[I", Cond.fieldLink RX3 24 "PaintballAtlas$Shots" "count" "I", Cond.fieldLink RX3 15 "PaintballAtlas$Shots" "origins" "[I", Cond.fieldLink RX3 18 "PaintballAtlas$Shots" "targets" "[I", Cond.fieldLink RX3 21 "PaintballAtlas$Shots" "arrivals" "[I", Cond.methodLink RL 34 yX5_pass, Cond.instanceMethod yX5_pass, Cond.selects RX5 yX5_pass yX5_pass, Cond.code yX5_pass cX5_pass 4 (some .int), Cond.methodLink RX5 118 yX2_nextTick, Cond.instanceMethod yX2_nextTick, Cond.selects RX2 yX2_nextTick yX2_nextTick, Cond.code yX2_nextTick cX2_nextTick 4 (some .int), Cond.fieldLink RX2 63 "PaintballAtlas$Shots" "arrivals" "[I", Cond.methodLink RX2 66 yX2_strikes, Cond.instanceMethod yX2_strikes, Cond.selects RX2 yX2_strikes yX2_strikes, Cond.code yX2_strikes cX2_strikes 5 (some .boolean), Cond.fieldLink RX2 70 "PaintballAtlas$Shots" "targets" "[I"]
def wsL_isEnd_r7 : List Cond := [Cond.fieldLink RX2 77 "PaintballAtlas$Shots" "shooters" "[I", Cond.fieldLink RX2 80 "PaintballAtlas$Shots" "origins" "[I", Cond.methodLink RX2 73 yX2_playerOn, Cond.methodLink RX2 83 yX1_hasSight, Cond.instanceMethod yX1_hasSight, Cond.selects RX1 yX1_hasSight yX1_hasSight, Cond.code yX1_hasSight cX1_hasSight 10 (some .boolean), Cond.methodLink RX1 29 Lib.Math.min.name, Cond.static Lib.Math.min.name, Cond.code Lib.Math.min.name Lib.Math.min.code 2 (some .int), Cond.methodLink RX1 32 yX1_lineEnters, Cond.static yX1_lineEnters, Cond.code yX1_lineEnters cX1_lineEnters 8 (some .boolean), Cond.methodLink RL 38 yX5_call, Cond.instanceMethod yX5_call, Cond.selects RX5 yX5_call yX5_call, Cond.code yX5_call cX5_call 4 (some .int), Cond.methodLink RX5 53 yX1_hasSight, Cond.methodLink RX5 124 yX2_mayCall, Cond.instanceMethod yX2_mayCall, Cond.selects RX2 yX2_mayCall yX2_mayCall, Cond.code yX2_mayCall cX2_mayCall 1 (some .boolean), Cond.methodLink RX5 129 yX2_callOut, Cond.instanceMethod yX2_callOut]
def wsL_isEnd_r8 : List Cond := [Cond.selects RX2 yX2_callOut yX2_callOut, Cond.code yX2_callOut cX2_callOut 3 (some .int), Cond.methodLink RX2 87 yX0_add, Cond.instanceMethod yX0_add, Cond.selects RX0 yX0_add yX0_add, Cond.initialized RX0, Cond.code yX0_add cX0_add 4 (some .int), Cond.fieldLink RX0 9 "PaintballAtlas$Calls" "players" "[I", Cond.fieldLink RX0 25 "PaintballAtlas$Calls" "count" "I", Cond.fieldLink RX0 15 "PaintballAtlas$Calls" "cells" "[I", Cond.fieldLink RX0 18 "PaintballAtlas$Calls" "ticks" "[I", Cond.fieldLink RX0 21 "PaintballAtlas$Calls" "disputed" "[Z", Cond.methodLink RL 41 yX5_dispute, Cond.instanceMethod yX5_dispute, Cond.selects RX5 yX5_dispute yX5_dispute, Cond.code yX5_dispute cX5_dispute 3 (some .boolean), Cond.fieldLink RX5 26 "PaintballAtlas" "table" "LPaintballAtlas$Table;", Cond.methodLink RX5 132 yX2_hasCall, Cond.instanceMethod yX2_hasCall, Cond.selects RX2 yX2_hasCall yX2_hasCall, Cond.code yX2_hasCall cX2_hasCall 2 (some .boolean), Cond.methodLink RX5 140 yX2_isDisputed, Cond.instanceMethod yX2_isDisputed, Cond.selects RX2 yX2_isDisputed yX2_isDisputed]
def wsL_isEnd_r9 : List Cond := [Cond.code yX2_isDisputed cX2_isDisputed 2 (some .boolean), Cond.fieldLink RX2 90 "PaintballAtlas$Calls" "disputed" "[Z", Cond.methodLink RX5 145 yX2_judge, Cond.instanceMethod yX2_judge, Cond.selects RX2 yX2_judge yX2_judge, Cond.code yX2_judge cX2_judge 4 (some .boolean), Cond.fieldLink RX2 94 "PaintballAtlas$Calls" "players" "[I", Cond.fieldLink RX2 97 "PaintballAtlas$Calls" "ticks" "[I", Cond.fieldLink RX2 100 "PaintballAtlas$Calls" "cells" "[I", Cond.methodLink RX5 148 yX2_teamCalled, Cond.instanceMethod yX2_teamCalled, Cond.selects RX2 yX2_teamCalled yX2_teamCalled, Cond.code yX2_teamCalled cX2_teamCalled 2 (some .int), Cond.methodLink RX5 151 yX4_fine, Cond.instanceMethod yX4_fine, Cond.selects RX4 yX4_fine yX4_fine, Cond.initialized RX4, Cond.code yX4_fine cX4_fine 2 none, Cond.fieldLink RX4 15 "PaintballAtlas$Table" "fines" "[I", Cond.methodLink RL 44 yX5_end, Cond.instanceMethod yX5_end, Cond.selects RX5 yX5_end yX5_end, Cond.code yX5_end cX5_end 2 (some .int), Cond.methodLink RX5 154 yX2_margin]
def wsL_isEnd_r10 : List Cond := [Cond.instanceMethod yX2_margin, Cond.selects RX2 yX2_margin yX2_margin, Cond.code yX2_margin cX2_margin 3 (some .int), Cond.methodLink RX5 158 yX2_homeTeam, Cond.instanceMethod yX2_homeTeam, Cond.selects RX2 yX2_homeTeam yX2_homeTeam, Cond.code yX2_homeTeam cX2_homeTeam 1 (some .int), Cond.methodLink RX5 161 yX2_awayTeam, Cond.instanceMethod yX2_awayTeam, Cond.selects RX2 yX2_awayTeam yX2_awayTeam, Cond.code yX2_awayTeam cX2_awayTeam 1 (some .int), Cond.methodLink RX5 164 yX4_enter, Cond.instanceMethod yX4_enter, Cond.selects RX4 yX4_enter yX4_enter, Cond.code yX4_enter cX4_enter 4 none, Cond.fieldLink RX4 18 "PaintballAtlas$Table" "differences" "[I", Cond.fieldLink RX4 9 "PaintballAtlas$Table" "points" "[I", Cond.methodLink RX4 26 yX4_enterWin, Cond.instanceMethod yX4_enterWin, Cond.selects RX4 yX4_enterWin yX4_enterWin, Cond.code yX4_enterWin cX4_enterWin 3 none, Cond.fieldLink RX4 23 "PaintballAtlas$Table" "wins" "[[I", Cond.methodLink RX4 30 yX4_takePenalties, Cond.instanceMethod yX4_takePenalties]
def wsL_isEnd_r11 : List Cond := [Cond.selects RX4 yX4_takePenalties yX4_takePenalties, Cond.code yX4_takePenalties cX4_takePenalties 2 none, Cond.methodLink RX5 168 yX2_close, Cond.instanceMethod yX2_close, Cond.selects RX2 yX2_close yX2_close, Cond.code yX2_close cX2_close 1 none]
def wsL_isEnd : List Cond := .code yL_isEnd cL_isEnd 9 (some .boolean) :: ((wsL_isEnd_r1 ++ (wsL_isEnd_r2 ++ (wsL_isEnd_r3 ++ (wsL_isEnd_r4 ++ (wsL_isEnd_r5 ++ (wsL_isEnd_r6 ++ (wsL_isEnd_r7 ++ (wsL_isEnd_r8 ++ (wsL_isEnd_r9 ++ (wsL_isEnd_r10 ++ wsL_isEnd_r11)))))))))) ++ wsX50 ++ wsX20 ++ wsX10 ++ wsX30 ++ wsX00 ++ wsX40 ++ (vx_atS RX5 46 "java/lang/IllegalStateException" ["java/lang/RuntimeException", "java/lang/Exception"]).filter goodWord ++ (vx_atS RX5 139 "java/lang/IndexOutOfBoundsException" ["java/lang/RuntimeException", "java/lang/Exception"]).filter goodWord ++ (vx_atS RX5 71 "java/lang/IllegalArgumentException" ["java/lang/RuntimeException", "java/lang/Exception"]).filter goodWord)
def wsL_isBegun_r1 : List Cond := [Cond.methodLink RL 100 yL_does, Cond.static yL_does, Cond.initialized RL, Cond.codeWith yL_does cL_does 5 (some .int) [(0, 130, 131, 48), (0, 130, 136, 50), (0, 130, 141, 52)], Cond.classLink RL 48 "java/lang/IndexOutOfBoundsException", Cond.classLink RL 50 "java/lang/IllegalArgumentException", Cond.classLink RL 52 "java/lang/IllegalStateException", Cond.methodLink RL 14 yX5_toggleBunker, Cond.instanceMethod yX5_toggleBunker, Cond.selects RX5 yX5_toggleBunker yX5_toggleBunker, Cond.initialized RX5, Cond.code yX5_toggleBunker cX5_toggleBunker 2 (some .boolean), Cond.classLink RX5 42 "java/lang/IllegalStateException", Cond.initialized "java/lang/IllegalStateException", Cond.fieldLink RX5 19 "PaintballAtlas" "round" "LPaintballAtlas$Round;", Cond.fieldLink RX5 12 "PaintballAtlas" "field" "LPaintballAtlas$Field;", Cond.methodLink RX5 34 yX5_checkCell, Cond.static yX5_checkCell, Cond.code yX5_checkCell cX5_checkCell 1 none, Cond.classLink RX5 135 "java/lang/IndexOutOfBoundsException", Cond.initialized "java/lang/IndexOutOfBoundsException", Cond.methodLink RX5 38 yX2_isPlayed, Cond.instanceMethod yX2_isPlayed, Cond.selects RX2 yX2_isPlayed yX2_isPlayed]
def wsL_isBegun_r2 : List Cond := [Cond.initialized RX2, Cond.code yX2_isPlayed cX2_isPlayed 1 (some .boolean), Cond.fieldLink RX2 9 "PaintballAtlas$Round" "tick" "I", Cond.methodLink RX5 49 yX1_turnBunker, Cond.instanceMethod yX1_turnBunker, Cond.selects RX1 yX1_turnBunker yX1_turnBunker, Cond.initialized RX1, Cond.code yX1_turnBunker cX1_turnBunker 2 (some .boolean), Cond.fieldLink RX1 9 "PaintballAtlas$Field" "bunkers" "[Z", Cond.methodLink RL 18 yX5_setReferee, Cond.instanceMethod yX5_setReferee, Cond.selects RX5 yX5_setReferee yX5_setReferee, Cond.code yX5_setReferee cX5_setReferee 4 (some .int), Cond.fieldLink RX5 30 "PaintballAtlas" "refereeCells" "[I", Cond.methodLink RX5 61 yX5_checkReferee, Cond.static yX5_checkReferee, Cond.code yX5_checkReferee cX5_checkReferee 1 none, Cond.methodLink RL 22 yL_begins, Cond.static yL_begins, Cond.code yL_begins cL_begins 3 (some .int), Cond.methodLink RL 8 yX5_begin, Cond.instanceMethod yX5_begin, Cond.selects RX5 yX5_begin yX5_begin, Cond.code yX5_begin cX5_begin 3 none]
def wsL_isBegun_r3 : List Cond := [Cond.classLink RX5 67 "java/lang/IllegalArgumentException", Cond.initialized "java/lang/IllegalArgumentException", Cond.methodLink RX5 64 yX5_checkTeam, Cond.static yX5_checkTeam, Cond.code yX5_checkTeam cX5_checkTeam 1 none, Cond.methodLink RX5 72 yX2_start, Cond.instanceMethod yX2_start, Cond.selects RX2 yX2_start yX2_start, Cond.code yX2_start cX2_start 3 none, Cond.fieldLink RX2 43 "PaintballAtlas$Round" "home" "I", Cond.fieldLink RX2 46 "PaintballAtlas$Round" "away" "I", Cond.methodLink RX2 39 yX2_reset, Cond.instanceMethod yX2_reset, Cond.selects RX2 yX2_reset yX2_reset, Cond.code yX2_reset cX2_reset 3 none, Cond.fieldLink RX2 15 "PaintballAtlas$Round" "cells" "[I", Cond.fieldLink RX2 19 "PaintballAtlas$Round" "hits" "[I", Cond.fieldLink RX2 22 "PaintballAtlas$Round" "lastShots" "[I", Cond.fieldLink RX2 28 "PaintballAtlas$Round" "shots" "LPaintballAtlas$Shots;", Cond.fieldLink RX2 49 "PaintballAtlas$Shots" "count" "I", Cond.fieldLink RX2 35 "PaintballAtlas$Round" "calls" "LPaintballAtlas$Calls;", Cond.fieldLink RX2 52 "PaintballAtlas$Calls" "count" "I", Cond.methodLink RL 28 yX5_move, Cond.instanceMethod yX5_move]
def wsL_isBegun_r4 : List Cond := [Cond.selects RX5 yX5_move yX5_move, Cond.code yX5_move cX5_move 4 (some .int), Cond.methodLink RX5 76 yX5_checkPlayer, Cond.static yX5_checkPlayer, Cond.code yX5_checkPlayer cX5_checkPlayer 1 none, Cond.methodLink RX5 79 yX5_checkRound, Cond.instanceMethod yX5_checkRound, Cond.selects RX5 yX5_checkRound yX5_checkRound, Cond.code yX5_checkRound cX5_checkRound 1 none, Cond.methodLink RX5 82 yX2_cellOf, Cond.instanceMethod yX2_cellOf, Cond.selects RX2 yX2_cellOf yX2_cellOf, Cond.code yX2_cellOf cX2_cellOf 2 (some .int), Cond.methodLink RX5 87 yX1_distance, Cond.static yX1_distance, Cond.code yX1_distance cX1_distance 4 (some .int), Cond.methodLink RX1 15 Lib.Math.abs.name, Cond.static Lib.Math.abs.name, Cond.initialized "java/lang/Math", Cond.code Lib.Math.abs.name Lib.Math.abs.code 1 (some .int), Cond.methodLink RX1 21 Lib.Math.max.name, Cond.static Lib.Math.max.name, Cond.code Lib.Math.max.name Lib.Math.max.code 2 (some .int), Cond.methodLink RX5 93 yX1_hasBunker]
def wsL_isBegun_r5 : List Cond := [Cond.instanceMethod yX1_hasBunker, Cond.selects RX1 yX1_hasBunker yX1_hasBunker, Cond.code yX1_hasBunker cX1_hasBunker 2 (some .boolean), Cond.methodLink RX5 96 yX2_playerOn, Cond.instanceMethod yX2_playerOn, Cond.selects RX2 yX2_playerOn yX2_playerOn, Cond.code yX2_playerOn cX2_playerOn 3 (some .int), Cond.methodLink RX5 101 yX2_put, Cond.instanceMethod yX2_put, Cond.selects RX2 yX2_put yX2_put, Cond.code yX2_put cX2_put 3 none, Cond.methodLink RL 31 yX5_shoot, Cond.instanceMethod yX5_shoot, Cond.selects RX5 yX5_shoot yX5_shoot, Cond.code yX5_shoot cX5_shoot 4 (some .int), Cond.methodLink RX5 108 yX2_mayFire, Cond.instanceMethod yX2_mayFire, Cond.selects RX2 yX2_mayFire yX2_mayFire, Cond.code yX2_mayFire cX2_mayFire 2 (some .boolean), Cond.methodLink RX5 113 yX2_fire, Cond.instanceMethod yX2_fire, Cond.selects RX2 yX2_fire yX2_fire, Cond.code yX2_fire cX2_fire 5 (some .int), Cond.methodLink RX2 53 yX1_distance]
def wsL_isBegun_r6 : List Cond := [Cond.methodLink RX2 59 yX3_add, Cond.instanceMethod yX3_add, Cond.selects RX3 yX3_add yX3_add, Cond.initialized RX3, Cond.code yX3_add cX3_add 5 none, Cond.fieldLink RX3 9 "PaintballAtlas$Shots" "shooters" "[I", Cond.fieldLink RX3 24 "PaintballAtlas$Shots" "count" "I", Cond.fieldLink RX3 15 "PaintballAtlas$Shots" "origins" "[I", Cond.fieldLink RX3 18 "PaintballAtlas$Shots" "targets" "[I", Cond.fieldLink RX3 21 "PaintballAtlas$Shots" "arrivals" "[I", Cond.methodLink RL 34 yX5_pass, Cond.instanceMethod yX5_pass, Cond.selects RX5 yX5_pass yX5_pass, Cond.code yX5_pass cX5_pass 4 (some .int), Cond.methodLink RX5 118 yX2_nextTick, Cond.instanceMethod yX2_nextTick, Cond.selects RX2 yX2_nextTick yX2_nextTick, Cond.code yX2_nextTick cX2_nextTick 4 (some .int), Cond.fieldLink RX2 63 "PaintballAtlas$Shots" "arrivals" "[I", Cond.methodLink RX2 66 yX2_strikes, Cond.instanceMethod yX2_strikes, Cond.selects RX2 yX2_strikes yX2_strikes, Cond.code yX2_strikes cX2_strikes 5 (some .boolean), Cond.fieldLink RX2 70 "PaintballAtlas$Shots" "targets" "[I"]
def wsL_isBegun_r7 : List Cond := [Cond.fieldLink RX2 77 "PaintballAtlas$Shots" "shooters" "[I", Cond.fieldLink RX2 80 "PaintballAtlas$Shots" "origins" "[I", Cond.methodLink RX2 73 yX2_playerOn, Cond.methodLink RX2 83 yX1_hasSight, Cond.instanceMethod yX1_hasSight, Cond.selects RX1 yX1_hasSight yX1_hasSight, Cond.code yX1_hasSight cX1_hasSight 10 (some .boolean), Cond.methodLink RX1 29 Lib.Math.min.name, Cond.static Lib.Math.min.name, Cond.code Lib.Math.min.name Lib.Math.min.code 2 (some .int), Cond.methodLink RX1 32 yX1_lineEnters, Cond.static yX1_lineEnters, Cond.code yX1_lineEnters cX1_lineEnters 8 (some .boolean), Cond.methodLink RL 38 yX5_call, Cond.instanceMethod yX5_call, Cond.selects RX5 yX5_call yX5_call, Cond.code yX5_call cX5_call 4 (some .int), Cond.methodLink RX5 53 yX1_hasSight, Cond.methodLink RX5 124 yX2_mayCall, Cond.instanceMethod yX2_mayCall, Cond.selects RX2 yX2_mayCall yX2_mayCall, Cond.code yX2_mayCall cX2_mayCall 1 (some .boolean), Cond.methodLink RX5 129 yX2_callOut, Cond.instanceMethod yX2_callOut]
def wsL_isBegun_r8 : List Cond := [Cond.selects RX2 yX2_callOut yX2_callOut, Cond.code yX2_callOut cX2_callOut 3 (some .int), Cond.methodLink RX2 87 yX0_add, Cond.instanceMethod yX0_add, Cond.selects RX0 yX0_add yX0_add, Cond.initialized RX0, Cond.code yX0_add cX0_add 4 (some .int), Cond.fieldLink RX0 9 "PaintballAtlas$Calls" "players" "[I", Cond.fieldLink RX0 25 "PaintballAtlas$Calls" "count" "I", Cond.fieldLink RX0 15 "PaintballAtlas$Calls" "cells" "[I", Cond.fieldLink RX0 18 "PaintballAtlas$Calls" "ticks" "[I", Cond.fieldLink RX0 21 "PaintballAtlas$Calls" "disputed" "[Z", Cond.methodLink RL 41 yX5_dispute, Cond.instanceMethod yX5_dispute, Cond.selects RX5 yX5_dispute yX5_dispute, Cond.code yX5_dispute cX5_dispute 3 (some .boolean), Cond.fieldLink RX5 26 "PaintballAtlas" "table" "LPaintballAtlas$Table;", Cond.methodLink RX5 132 yX2_hasCall, Cond.instanceMethod yX2_hasCall, Cond.selects RX2 yX2_hasCall yX2_hasCall, Cond.code yX2_hasCall cX2_hasCall 2 (some .boolean), Cond.methodLink RX5 140 yX2_isDisputed, Cond.instanceMethod yX2_isDisputed, Cond.selects RX2 yX2_isDisputed yX2_isDisputed]
def wsL_isBegun_r9 : List Cond := [Cond.code yX2_isDisputed cX2_isDisputed 2 (some .boolean), Cond.fieldLink RX2 90 "PaintballAtlas$Calls" "disputed" "[Z", Cond.methodLink RX5 145 yX2_judge, Cond.instanceMethod yX2_judge, Cond.selects RX2 yX2_judge yX2_judge, Cond.code yX2_judge cX2_judge 4 (some .boolean), Cond.fieldLink RX2 94 "PaintballAtlas$Calls" "players" "[I", Cond.fieldLink RX2 97 "PaintballAtlas$Calls" "ticks" "[I", Cond.fieldLink RX2 100 "PaintballAtlas$Calls" "cells" "[I", Cond.methodLink RX5 148 yX2_teamCalled, Cond.instanceMethod yX2_teamCalled, Cond.selects RX2 yX2_teamCalled yX2_teamCalled, Cond.code yX2_teamCalled cX2_teamCalled 2 (some .int), Cond.methodLink RX5 151 yX4_fine, Cond.instanceMethod yX4_fine, Cond.selects RX4 yX4_fine yX4_fine, Cond.initialized RX4, Cond.code yX4_fine cX4_fine 2 none, Cond.fieldLink RX4 15 "PaintballAtlas$Table" "fines" "[I", Cond.methodLink RL 44 yX5_end, Cond.instanceMethod yX5_end, Cond.selects RX5 yX5_end yX5_end, Cond.code yX5_end cX5_end 2 (some .int), Cond.methodLink RX5 154 yX2_margin]
def wsL_isBegun_r10 : List Cond := [Cond.instanceMethod yX2_margin, Cond.selects RX2 yX2_margin yX2_margin, Cond.code yX2_margin cX2_margin 3 (some .int), Cond.methodLink RX5 158 yX2_homeTeam, Cond.instanceMethod yX2_homeTeam, Cond.selects RX2 yX2_homeTeam yX2_homeTeam, Cond.code yX2_homeTeam cX2_homeTeam 1 (some .int), Cond.methodLink RX5 161 yX2_awayTeam, Cond.instanceMethod yX2_awayTeam, Cond.selects RX2 yX2_awayTeam yX2_awayTeam, Cond.code yX2_awayTeam cX2_awayTeam 1 (some .int), Cond.methodLink RX5 164 yX4_enter, Cond.instanceMethod yX4_enter, Cond.selects RX4 yX4_enter yX4_enter, Cond.code yX4_enter cX4_enter 4 none, Cond.fieldLink RX4 18 "PaintballAtlas$Table" "differences" "[I", Cond.fieldLink RX4 9 "PaintballAtlas$Table" "points" "[I", Cond.methodLink RX4 26 yX4_enterWin, Cond.instanceMethod yX4_enterWin, Cond.selects RX4 yX4_enterWin yX4_enterWin, Cond.code yX4_enterWin cX4_enterWin 3 none, Cond.fieldLink RX4 23 "PaintballAtlas$Table" "wins" "[[I", Cond.methodLink RX4 30 yX4_takePenalties, Cond.instanceMethod yX4_takePenalties]
def wsL_isBegun_r11 : List Cond := [Cond.selects RX4 yX4_takePenalties yX4_takePenalties, Cond.code yX4_takePenalties cX4_takePenalties 2 none, Cond.methodLink RX5 168 yX2_close, Cond.instanceMethod yX2_close, Cond.selects RX2 yX2_close yX2_close, Cond.code yX2_close cX2_close 1 none]
def wsL_isBegun : List Cond := .code yL_isBegun cL_isBegun 7 (some .boolean) :: ((wsL_isBegun_r1 ++ (wsL_isBegun_r2 ++ (wsL_isBegun_r3 ++ (wsL_isBegun_r4 ++ (wsL_isBegun_r5 ++ (wsL_isBegun_r6 ++ (wsL_isBegun_r7 ++ (wsL_isBegun_r8 ++ (wsL_isBegun_r9 ++ (wsL_isBegun_r10 ++ wsL_isBegun_r11)))))))))) ++ wsX50 ++ wsX20 ++ wsX10 ++ wsX30 ++ wsX00 ++ wsX40 ++ (vx_atS RX5 46 "java/lang/IllegalStateException" ["java/lang/RuntimeException", "java/lang/Exception"]).filter goodWord ++ (vx_atS RX5 139 "java/lang/IndexOutOfBoundsException" ["java/lang/RuntimeException", "java/lang/Exception"]).filter goodWord ++ (vx_atS RX5 71 "java/lang/IllegalArgumentException" ["java/lang/RuntimeException", "java/lang/Exception"]).filter goodWord)
def wsL_isDone_r1 : List Cond := [Cond.methodLink RL 103 yL_part, Cond.static yL_part, Cond.initialized RL, Cond.code yL_part cL_part 4 (some .int), Cond.constant RL 7 (2147483647), Cond.methodLink RL 79 yL_isBunker, Cond.static yL_isBunker, Cond.code yL_isBunker cL_isBunker 2 (some .boolean), Cond.methodLink RL 100 yL_does, Cond.static yL_does, Cond.codeWith yL_does cL_does 5 (some .int) [(0, 130, 131, 48), (0, 130, 136, 50), (0, 130, 141, 52)], Cond.classLink RL 48 "java/lang/IndexOutOfBoundsException", Cond.classLink RL 50 "java/lang/IllegalArgumentException", Cond.classLink RL 52 "java/lang/IllegalStateException", Cond.methodLink RL 14 yX5_toggleBunker, Cond.instanceMethod yX5_toggleBunker, Cond.selects RX5 yX5_toggleBunker yX5_toggleBunker, Cond.initialized RX5, Cond.code yX5_toggleBunker cX5_toggleBunker 2 (some .boolean), Cond.classLink RX5 42 "java/lang/IllegalStateException", Cond.initialized "java/lang/IllegalStateException", Cond.fieldLink RX5 19 "PaintballAtlas" "round" "LPaintballAtlas$Round;", Cond.fieldLink RX5 12 "PaintballAtlas" "field" "LPaintballAtlas$Field;", Cond.methodLink RX5 34 yX5_checkCell]
def wsL_isDone_r2 : List Cond := [Cond.static yX5_checkCell, Cond.code yX5_checkCell cX5_checkCell 1 none, Cond.classLink RX5 135 "java/lang/IndexOutOfBoundsException", Cond.initialized "java/lang/IndexOutOfBoundsException", Cond.methodLink RX5 38 yX2_isPlayed, Cond.instanceMethod yX2_isPlayed, Cond.selects RX2 yX2_isPlayed yX2_isPlayed, Cond.initialized RX2, Cond.code yX2_isPlayed cX2_isPlayed 1 (some .boolean), Cond.fieldLink RX2 9 "PaintballAtlas$Round" "tick" "I", Cond.methodLink RX5 49 yX1_turnBunker, Cond.instanceMethod yX1_turnBunker, Cond.selects RX1 yX1_turnBunker yX1_turnBunker, Cond.initialized RX1, Cond.code yX1_turnBunker cX1_turnBunker 2 (some .boolean), Cond.fieldLink RX1 9 "PaintballAtlas$Field" "bunkers" "[Z", Cond.methodLink RL 18 yX5_setReferee, Cond.instanceMethod yX5_setReferee, Cond.selects RX5 yX5_setReferee yX5_setReferee, Cond.code yX5_setReferee cX5_setReferee 4 (some .int), Cond.fieldLink RX5 30 "PaintballAtlas" "refereeCells" "[I", Cond.methodLink RX5 61 yX5_checkReferee, Cond.static yX5_checkReferee, Cond.code yX5_checkReferee cX5_checkReferee 1 none]
def wsL_isDone_r3 : List Cond := [Cond.methodLink RL 22 yL_begins, Cond.static yL_begins, Cond.code yL_begins cL_begins 3 (some .int), Cond.methodLink RL 8 yX5_begin, Cond.instanceMethod yX5_begin, Cond.selects RX5 yX5_begin yX5_begin, Cond.code yX5_begin cX5_begin 3 none, Cond.classLink RX5 67 "java/lang/IllegalArgumentException", Cond.initialized "java/lang/IllegalArgumentException", Cond.methodLink RX5 64 yX5_checkTeam, Cond.static yX5_checkTeam, Cond.code yX5_checkTeam cX5_checkTeam 1 none, Cond.methodLink RX5 72 yX2_start, Cond.instanceMethod yX2_start, Cond.selects RX2 yX2_start yX2_start, Cond.code yX2_start cX2_start 3 none, Cond.fieldLink RX2 43 "PaintballAtlas$Round" "home" "I", Cond.fieldLink RX2 46 "PaintballAtlas$Round" "away" "I", Cond.methodLink RX2 39 yX2_reset, Cond.instanceMethod yX2_reset, Cond.selects RX2 yX2_reset yX2_reset, Cond.code yX2_reset cX2_reset 3 none, Cond.fieldLink RX2 15 "PaintballAtlas$Round" "cells" "[I", Cond.fieldLink RX2 19 "PaintballAtlas$Round" "hits" "[I"]
def wsL_isDone_r4 : List Cond := [Cond.fieldLink RX2 22 "PaintballAtlas$Round" "lastShots" "[I", Cond.fieldLink RX2 28 "PaintballAtlas$Round" "shots" "LPaintballAtlas$Shots;", Cond.fieldLink RX2 49 "PaintballAtlas$Shots" "count" "I", Cond.fieldLink RX2 35 "PaintballAtlas$Round" "calls" "LPaintballAtlas$Calls;", Cond.fieldLink RX2 52 "PaintballAtlas$Calls" "count" "I", Cond.methodLink RL 28 yX5_move, Cond.instanceMethod yX5_move, Cond.selects RX5 yX5_move yX5_move, Cond.code yX5_move cX5_move 4 (some .int), Cond.methodLink RX5 76 yX5_checkPlayer, Cond.static yX5_checkPlayer, Cond.code yX5_checkPlayer cX5_checkPlayer 1 none, Cond.methodLink RX5 79 yX5_checkRound, Cond.instanceMethod yX5_checkRound, Cond.selects RX5 yX5_checkRound yX5_checkRound, Cond.code yX5_checkRound cX5_checkRound 1 none, Cond.methodLink RX5 82 yX2_cellOf, Cond.instanceMethod yX2_cellOf, Cond.selects RX2 yX2_cellOf yX2_cellOf, Cond.code yX2_cellOf cX2_cellOf 2 (some .int), Cond.methodLink RX5 87 yX1_distance, Cond.static yX1_distance, Cond.code yX1_distance cX1_distance 4 (some .int), Cond.methodLink RX1 15 Lib.Math.abs.name]
def wsL_isDone_r5 : List Cond := [Cond.static Lib.Math.abs.name, Cond.initialized "java/lang/Math", Cond.code Lib.Math.abs.name Lib.Math.abs.code 1 (some .int), Cond.methodLink RX1 21 Lib.Math.max.name, Cond.static Lib.Math.max.name, Cond.code Lib.Math.max.name Lib.Math.max.code 2 (some .int), Cond.methodLink RX5 93 yX1_hasBunker, Cond.instanceMethod yX1_hasBunker, Cond.selects RX1 yX1_hasBunker yX1_hasBunker, Cond.code yX1_hasBunker cX1_hasBunker 2 (some .boolean), Cond.methodLink RX5 96 yX2_playerOn, Cond.instanceMethod yX2_playerOn, Cond.selects RX2 yX2_playerOn yX2_playerOn, Cond.code yX2_playerOn cX2_playerOn 3 (some .int), Cond.methodLink RX5 101 yX2_put, Cond.instanceMethod yX2_put, Cond.selects RX2 yX2_put yX2_put, Cond.code yX2_put cX2_put 3 none, Cond.methodLink RL 31 yX5_shoot, Cond.instanceMethod yX5_shoot, Cond.selects RX5 yX5_shoot yX5_shoot, Cond.code yX5_shoot cX5_shoot 4 (some .int), Cond.methodLink RX5 108 yX2_mayFire, Cond.instanceMethod yX2_mayFire]
def wsL_isDone_r6 : List Cond := [Cond.selects RX2 yX2_mayFire yX2_mayFire, Cond.code yX2_mayFire cX2_mayFire 2 (some .boolean), Cond.methodLink RX5 113 yX2_fire, Cond.instanceMethod yX2_fire, Cond.selects RX2 yX2_fire yX2_fire, Cond.code yX2_fire cX2_fire 5 (some .int), Cond.methodLink RX2 53 yX1_distance, Cond.methodLink RX2 59 yX3_add, Cond.instanceMethod yX3_add, Cond.selects RX3 yX3_add yX3_add, Cond.initialized RX3, Cond.code yX3_add cX3_add 5 none, Cond.fieldLink RX3 9 "PaintballAtlas$Shots" "shooters" "[I", Cond.fieldLink RX3 24 "PaintballAtlas$Shots" "count" "I", Cond.fieldLink RX3 15 "PaintballAtlas$Shots" "origins" "[I", Cond.fieldLink RX3 18 "PaintballAtlas$Shots" "targets" "[I", Cond.fieldLink RX3 21 "PaintballAtlas$Shots" "arrivals" "[I", Cond.methodLink RL 34 yX5_pass, Cond.instanceMethod yX5_pass, Cond.selects RX5 yX5_pass yX5_pass, Cond.code yX5_pass cX5_pass 4 (some .int), Cond.methodLink RX5 118 yX2_nextTick, Cond.instanceMethod yX2_nextTick, Cond.selects RX2 yX2_nextTick yX2_nextTick]
def wsL_isDone_r7 : List Cond := [Cond.code yX2_nextTick cX2_nextTick 4 (some .int), Cond.fieldLink RX2 63 "PaintballAtlas$Shots" "arrivals" "[I", Cond.methodLink RX2 66 yX2_strikes, Cond.instanceMethod yX2_strikes, Cond.selects RX2 yX2_strikes yX2_strikes, Cond.code yX2_strikes cX2_strikes 5 (some .boolean), Cond.fieldLink RX2 70 "PaintballAtlas$Shots" "targets" "[I", Cond.fieldLink RX2 77 "PaintballAtlas$Shots" "shooters" "[I", Cond.fieldLink RX2 80 "PaintballAtlas$Shots" "origins" "[I", Cond.methodLink RX2 73 yX2_playerOn, Cond.methodLink RX2 83 yX1_hasSight, Cond.instanceMethod yX1_hasSight, Cond.selects RX1 yX1_hasSight yX1_hasSight, Cond.code yX1_hasSight cX1_hasSight 10 (some .boolean), Cond.methodLink RX1 29 Lib.Math.min.name, Cond.static Lib.Math.min.name, Cond.code Lib.Math.min.name Lib.Math.min.code 2 (some .int), Cond.methodLink RX1 32 yX1_lineEnters, Cond.static yX1_lineEnters, Cond.code yX1_lineEnters cX1_lineEnters 8 (some .boolean), Cond.methodLink RL 38 yX5_call, Cond.instanceMethod yX5_call, Cond.selects RX5 yX5_call yX5_call, Cond.code yX5_call cX5_call 4 (some .int)]
def wsL_isDone_r8 : List Cond := [Cond.methodLink RX5 53 yX1_hasSight, Cond.methodLink RX5 124 yX2_mayCall, Cond.instanceMethod yX2_mayCall, Cond.selects RX2 yX2_mayCall yX2_mayCall, Cond.code yX2_mayCall cX2_mayCall 1 (some .boolean), Cond.methodLink RX5 129 yX2_callOut, Cond.instanceMethod yX2_callOut, Cond.selects RX2 yX2_callOut yX2_callOut, Cond.code yX2_callOut cX2_callOut 3 (some .int), Cond.methodLink RX2 87 yX0_add, Cond.instanceMethod yX0_add, Cond.selects RX0 yX0_add yX0_add, Cond.initialized RX0, Cond.code yX0_add cX0_add 4 (some .int), Cond.fieldLink RX0 9 "PaintballAtlas$Calls" "players" "[I", Cond.fieldLink RX0 25 "PaintballAtlas$Calls" "count" "I", Cond.fieldLink RX0 15 "PaintballAtlas$Calls" "cells" "[I", Cond.fieldLink RX0 18 "PaintballAtlas$Calls" "ticks" "[I", Cond.fieldLink RX0 21 "PaintballAtlas$Calls" "disputed" "[Z", Cond.methodLink RL 41 yX5_dispute, Cond.instanceMethod yX5_dispute, Cond.selects RX5 yX5_dispute yX5_dispute, Cond.code yX5_dispute cX5_dispute 3 (some .boolean), Cond.fieldLink RX5 26 "PaintballAtlas" "table" "LPaintballAtlas$Table;"]
def wsL_isDone_r9 : List Cond := [Cond.methodLink RX5 132 yX2_hasCall, Cond.instanceMethod yX2_hasCall, Cond.selects RX2 yX2_hasCall yX2_hasCall, Cond.code yX2_hasCall cX2_hasCall 2 (some .boolean), Cond.methodLink RX5 140 yX2_isDisputed, Cond.instanceMethod yX2_isDisputed, Cond.selects RX2 yX2_isDisputed yX2_isDisputed, Cond.code yX2_isDisputed cX2_isDisputed 2 (some .boolean), Cond.fieldLink RX2 90 "PaintballAtlas$Calls" "disputed" "[Z", Cond.methodLink RX5 145 yX2_judge, Cond.instanceMethod yX2_judge, Cond.selects RX2 yX2_judge yX2_judge, Cond.code yX2_judge cX2_judge 4 (some .boolean), Cond.fieldLink RX2 94 "PaintballAtlas$Calls" "players" "[I", Cond.fieldLink RX2 97 "PaintballAtlas$Calls" "ticks" "[I", Cond.fieldLink RX2 100 "PaintballAtlas$Calls" "cells" "[I", Cond.methodLink RX5 148 yX2_teamCalled, Cond.instanceMethod yX2_teamCalled, Cond.selects RX2 yX2_teamCalled yX2_teamCalled, Cond.code yX2_teamCalled cX2_teamCalled 2 (some .int), Cond.methodLink RX5 151 yX4_fine, Cond.instanceMethod yX4_fine, Cond.selects RX4 yX4_fine yX4_fine, Cond.initialized RX4]
def wsL_isDone_r10 : List Cond := [Cond.code yX4_fine cX4_fine 2 none, Cond.fieldLink RX4 15 "PaintballAtlas$Table" "fines" "[I", Cond.methodLink RL 44 yX5_end, Cond.instanceMethod yX5_end, Cond.selects RX5 yX5_end yX5_end, Cond.code yX5_end cX5_end 2 (some .int), Cond.methodLink RX5 154 yX2_margin, Cond.instanceMethod yX2_margin, Cond.selects RX2 yX2_margin yX2_margin, Cond.code yX2_margin cX2_margin 3 (some .int), Cond.methodLink RX5 158 yX2_homeTeam, Cond.instanceMethod yX2_homeTeam, Cond.selects RX2 yX2_homeTeam yX2_homeTeam, Cond.code yX2_homeTeam cX2_homeTeam 1 (some .int), Cond.methodLink RX5 161 yX2_awayTeam, Cond.instanceMethod yX2_awayTeam, Cond.selects RX2 yX2_awayTeam yX2_awayTeam, Cond.code yX2_awayTeam cX2_awayTeam 1 (some .int), Cond.methodLink RX5 164 yX4_enter, Cond.instanceMethod yX4_enter, Cond.selects RX4 yX4_enter yX4_enter, Cond.code yX4_enter cX4_enter 4 none, Cond.fieldLink RX4 18 "PaintballAtlas$Table" "differences" "[I", Cond.fieldLink RX4 9 "PaintballAtlas$Table" "points" "[I"]
def wsL_isDone_r11 : List Cond := [Cond.methodLink RX4 26 yX4_enterWin, Cond.instanceMethod yX4_enterWin, Cond.selects RX4 yX4_enterWin yX4_enterWin, Cond.code yX4_enterWin cX4_enterWin 3 none, Cond.fieldLink RX4 23 "PaintballAtlas$Table" "wins" "[[I", Cond.methodLink RX4 30 yX4_takePenalties, Cond.instanceMethod yX4_takePenalties, Cond.selects RX4 yX4_takePenalties yX4_takePenalties, Cond.code yX4_takePenalties cX4_takePenalties 2 none, Cond.methodLink RX5 168 yX2_close, Cond.instanceMethod yX2_close, Cond.selects RX2 yX2_close yX2_close, Cond.code yX2_close cX2_close 1 none, Cond.methodLink RL 107 yL_isBegun, Cond.static yL_isBegun, Cond.code yL_isBegun cL_isBegun 7 (some .boolean), Cond.methodLink RL 111 yL_isMove, Cond.static yL_isMove, Cond.code yL_isMove cL_isMove 8 (some .boolean), Cond.methodLink RL 83 yL_apart, Cond.static yL_apart, Cond.code yL_apart cL_apart 4 (some .int), Cond.methodLink RL 96 yL_isFree, Cond.static yL_isFree]
def wsL_isDone_r12 : List Cond := [Cond.code yL_isFree cL_isFree 5 (some .boolean), Cond.methodLink RL 114 yL_isShot, Cond.static yL_isShot, Cond.code yL_isShot cL_isShot 9 (some .boolean), Cond.methodLink RL 93 yX5_flying, Cond.instanceMethod yX5_flying, Cond.selects RX5 yX5_flying yX5_flying, Cond.code yX5_flying cX5_flying 1 (some .int), Cond.methodLink RX5 177 yX2_countFlying, Cond.instanceMethod yX2_countFlying, Cond.selects RX2 yX2_countFlying yX2_countFlying, Cond.code yX2_countFlying cX2_countFlying 3 (some .int), Cond.methodLink RL 117 yL_isCall, Cond.static yL_isCall, Cond.code yL_isCall cL_isCall 9 (some .boolean), Cond.methodLink RL 54 yX5_sees, Cond.instanceMethod yX5_sees, Cond.selects RX5 yX5_sees yX5_sees, Cond.code yX5_sees cX5_sees 3 (some .boolean), Cond.methodLink RL 121 yL_isDispute, Cond.static yL_isDispute, Cond.code yL_isDispute cL_isDispute 9 (some .boolean), Cond.methodLink RL 125 yL_isEnd, Cond.static yL_isEnd]
def wsL_isDone_r13 : List Cond := [Cond.code yL_isEnd cL_isEnd 9 (some .boolean), Cond.methodLink RL 129 yL_isView, Cond.static yL_isView, Cond.code yL_isView cL_isView 5 (some .boolean), Cond.methodLink RL 58 yX5_view, Cond.instanceMethod yX5_view, Cond.selects RX5 yX5_view yX5_view, Cond.code yX5_view cX5_view 2 (some .int), Cond.methodLink RX5 57 yX1_countSeen, Cond.instanceMethod yX1_countSeen, Cond.selects RX1 yX1_countSeen yX1_countSeen, Cond.code yX1_countSeen cX1_countSeen 4 (some .int), Cond.methodLink RX1 25 yX1_hasSight]
def wsL_isDone : List Cond := .code yL_isDone cL_isDone 16 (some .boolean) :: ((wsL_isDone_r1 ++ (wsL_isDone_r2 ++ (wsL_isDone_r3 ++ (wsL_isDone_r4 ++ (wsL_isDone_r5 ++ (wsL_isDone_r6 ++ (wsL_isDone_r7 ++ (wsL_isDone_r8 ++ (wsL_isDone_r9 ++ (wsL_isDone_r10 ++ (wsL_isDone_r11 ++ (wsL_isDone_r12 ++ wsL_isDone_r13)))))))))))) ++ wsX50 ++ wsX20 ++ wsX10 ++ wsX30 ++ wsX00 ++ wsX40 ++ (vx_atS RX5 46 "java/lang/IllegalStateException" ["java/lang/RuntimeException", "java/lang/Exception"]).filter goodWord ++ (vx_atS RX5 139 "java/lang/IndexOutOfBoundsException" ["java/lang/RuntimeException", "java/lang/Exception"]).filter goodWord ++ (vx_atS RX5 71 "java/lang/IllegalArgumentException" ["java/lang/RuntimeException", "java/lang/Exception"]).filter goodWord)
def wsL_law0_r1 : List Cond := [Cond.classLink RL 9 RX5, Cond.instantiable RX5 4, Cond.initialized RX5, Cond.arrayClass .int, Cond.methodLink RL 133 yX5_init, Cond.instanceMethod yX5_init, Cond.code yX5_init cX5_init 1 none, Cond.methodLink RX5 3 objectInit, Cond.instanceMethod objectInit, Cond.code objectInit ⟨#[0xb1]⟩ 1 none, Cond.classLink RX5 9 RX1, Cond.instantiable RX1 1, Cond.initialized RX1, Cond.fieldLink RX5 12 "PaintballAtlas" "field" "LPaintballAtlas$Field;", Cond.classLink RX5 16 RX2, Cond.instantiable RX2 8, Cond.initialized RX2, Cond.fieldLink RX5 19 "PaintballAtlas" "round" "LPaintballAtlas$Round;", Cond.classLink RX5 23 RX4, Cond.instantiable RX4 4, Cond.initialized RX4, Cond.fieldLink RX5 26 "PaintballAtlas" "table" "LPaintballAtlas$Table;", Cond.fieldLink RX5 30 "PaintballAtlas" "refereeCells" "[I", Cond.instanceMethod yX1_init]
def wsL_law0_r2 : List Cond := [Cond.code yX1_init cX1_init 1 none, Cond.methodLink RX1 3 objectInit, Cond.arrayClass .boolean, Cond.fieldLink RX1 9 "PaintballAtlas$Field" "bunkers" "[Z", Cond.methodLink RX5 18 yX2_init, Cond.instanceMethod yX2_init, Cond.code yX2_init cX2_init 1 none, Cond.methodLink RX2 3 objectInit, Cond.fieldLink RX2 9 "PaintballAtlas$Round" "tick" "I", Cond.fieldLink RX2 15 "PaintballAtlas$Round" "cells" "[I", Cond.fieldLink RX2 19 "PaintballAtlas$Round" "hits" "[I", Cond.fieldLink RX2 22 "PaintballAtlas$Round" "lastShots" "[I", Cond.classLink RX2 25 RX3, Cond.instantiable RX3 5, Cond.initialized RX3, Cond.fieldLink RX2 28 "PaintballAtlas$Round" "shots" "LPaintballAtlas$Shots;", Cond.classLink RX2 32 RX0, Cond.instantiable RX0 5, Cond.initialized RX0, Cond.fieldLink RX2 35 "PaintballAtlas$Round" "calls" "LPaintballAtlas$Calls;", Cond.instanceMethod yX3_init, Cond.code yX3_init cX3_init 1 none, Cond.methodLink RX3 3 objectInit, Cond.fieldLink RX3 9 "PaintballAtlas$Shots" "shooters" "[I"]
def wsL_law0_r3 : List Cond := [Cond.fieldLink RX3 15 "PaintballAtlas$Shots" "origins" "[I", Cond.fieldLink RX3 18 "PaintballAtlas$Shots" "targets" "[I", Cond.fieldLink RX3 21 "PaintballAtlas$Shots" "arrivals" "[I", Cond.instanceMethod yX0_init, Cond.code yX0_init cX0_init 1 none, Cond.methodLink RX0 3 objectInit, Cond.fieldLink RX0 9 "PaintballAtlas$Calls" "players" "[I", Cond.fieldLink RX0 15 "PaintballAtlas$Calls" "cells" "[I", Cond.fieldLink RX0 18 "PaintballAtlas$Calls" "ticks" "[I", Cond.fieldLink RX0 21 "PaintballAtlas$Calls" "disputed" "[Z", Cond.methodLink RX2 39 yX2_reset, Cond.instanceMethod yX2_reset, Cond.selects RX2 yX2_reset yX2_reset, Cond.code yX2_reset cX2_reset 3 none, Cond.fieldLink RX2 49 "PaintballAtlas$Shots" "count" "I", Cond.fieldLink RX2 52 "PaintballAtlas$Calls" "count" "I", Cond.instanceMethod yX4_init, Cond.code yX4_init cX4_init 1 none, Cond.methodLink RX4 3 objectInit, Cond.fieldLink RX4 9 "PaintballAtlas$Table" "points" "[I", Cond.fieldLink RX4 15 "PaintballAtlas$Table" "fines" "[I", Cond.fieldLink RX4 18 "PaintballAtlas$Table" "differences" "[I", Cond.classLink RX4 21 "[[I", Cond.fieldLink RX4 23 "PaintballAtlas$Table" "wins" "[[I"]
def wsL_law0_r4 : List Cond := [Cond.methodLink RL 134 yL_isRound, Cond.static yL_isRound, Cond.initialized RL, Cond.code yL_isRound cL_isRound 7 (some .boolean), Cond.methodLink RL 90 yX5_tick, Cond.instanceMethod yX5_tick, Cond.selects RX5 yX5_tick yX5_tick, Cond.code yX5_tick cX5_tick 1 (some .int), Cond.methodLink RX5 171 yX2_time, Cond.instanceMethod yX2_time, Cond.selects RX2 yX2_time yX2_time, Cond.code yX2_time cX2_time 1 (some .int), Cond.methodLink RL 93 yX5_flying, Cond.instanceMethod yX5_flying, Cond.selects RX5 yX5_flying yX5_flying, Cond.code yX5_flying cX5_flying 1 (some .int), Cond.methodLink RX5 177 yX2_countFlying, Cond.instanceMethod yX2_countFlying, Cond.selects RX2 yX2_countFlying yX2_countFlying, Cond.code yX2_countFlying cX2_countFlying 3 (some .int), Cond.fieldLink RX2 63 "PaintballAtlas$Shots" "arrivals" "[I", Cond.methodLink RL 86 yL_asks, Cond.static yL_asks, Cond.codeWith yL_asks cL_asks 5 (some .int) [(0, 105, 106, 48)]]
def wsL_law0_r5 : List Cond := [Cond.classLink RL 48 "java/lang/IndexOutOfBoundsException", Cond.methodLink RL 54 yX5_sees, Cond.instanceMethod yX5_sees, Cond.selects RX5 yX5_sees yX5_sees, Cond.code yX5_sees cX5_sees 3 (some .boolean), Cond.methodLink RX5 34 yX5_checkCell, Cond.static yX5_checkCell, Cond.code yX5_checkCell cX5_checkCell 1 none, Cond.classLink RX5 135 "java/lang/IndexOutOfBoundsException", Cond.initialized "java/lang/IndexOutOfBoundsException", Cond.methodLink RX5 53 yX1_hasSight, Cond.instanceMethod yX1_hasSight, Cond.selects RX1 yX1_hasSight yX1_hasSight, Cond.code yX1_hasSight cX1_hasSight 10 (some .boolean), Cond.methodLink RX1 29 Lib.Math.min.name, Cond.static Lib.Math.min.name, Cond.initialized "java/lang/Math", Cond.code Lib.Math.min.name Lib.Math.min.code 2 (some .int), Cond.methodLink RX1 21 Lib.Math.max.name, Cond.static Lib.Math.max.name, Cond.code Lib.Math.max.name Lib.Math.max.code 2 (some .int), Cond.methodLink RX1 32 yX1_lineEnters, Cond.static yX1_lineEnters, Cond.code yX1_lineEnters cX1_lineEnters 8 (some .boolean)]
def wsL_law0_r6 : List Cond := [Cond.methodLink RX1 15 Lib.Math.abs.name, Cond.static Lib.Math.abs.name, Cond.code Lib.Math.abs.name Lib.Math.abs.code 1 (some .int), Cond.methodLink RL 58 yX5_view, Cond.instanceMethod yX5_view, Cond.selects RX5 yX5_view yX5_view, Cond.code yX5_view cX5_view 2 (some .int), Cond.methodLink RX5 57 yX1_countSeen, Cond.instanceMethod yX1_countSeen, Cond.selects RX1 yX1_countSeen yX1_countSeen, Cond.code yX1_countSeen cX1_countSeen 4 (some .int), Cond.methodLink RX1 25 yX1_hasSight, Cond.methodLink RL 61 yX5_where, Cond.instanceMethod yX5_where, Cond.selects RX5 yX5_where yX5_where, Cond.code yX5_where cX5_where 2 (some .int), Cond.methodLink RX5 76 yX5_checkPlayer, Cond.static yX5_checkPlayer, Cond.code yX5_checkPlayer cX5_checkPlayer 1 none, Cond.methodLink RX5 82 yX2_cellOf, Cond.instanceMethod yX2_cellOf, Cond.selects RX2 yX2_cellOf yX2_cellOf, Cond.code yX2_cellOf cX2_cellOf 2 (some .int), Cond.methodLink RL 64 yX5_hit]
def wsL_law0_r7 : List Cond := [Cond.instanceMethod yX5_hit, Cond.selects RX5 yX5_hit yX5_hit, Cond.code yX5_hit cX5_hit 2 (some .int), Cond.methodLink RX5 174 yX2_hitOf, Cond.instanceMethod yX2_hitOf, Cond.selects RX2 yX2_hitOf yX2_hitOf, Cond.code yX2_hitOf cX2_hitOf 2 (some .int), Cond.methodLink RL 67 yX5_points, Cond.instanceMethod yX5_points, Cond.selects RX5 yX5_points yX5_points, Cond.code yX5_points cX5_points 2 (some .int), Cond.methodLink RX5 64 yX5_checkTeam, Cond.static yX5_checkTeam, Cond.code yX5_checkTeam cX5_checkTeam 1 none, Cond.methodLink RX5 180 yX4_pointsOf, Cond.instanceMethod yX4_pointsOf, Cond.selects RX4 yX4_pointsOf yX4_pointsOf, Cond.code yX4_pointsOf cX4_pointsOf 2 (some .int), Cond.methodLink RL 70 yX5_fines, Cond.instanceMethod yX5_fines, Cond.selects RX5 yX5_fines yX5_fines, Cond.code yX5_fines cX5_fines 2 (some .int), Cond.methodLink RX5 183 yX4_finesOf, Cond.instanceMethod yX4_finesOf]
def wsL_law0_r8 : List Cond := [Cond.selects RX4 yX4_finesOf yX4_finesOf, Cond.code yX4_finesOf cX4_finesOf 2 (some .int), Cond.methodLink RL 73 yX5_difference, Cond.instanceMethod yX5_difference, Cond.selects RX5 yX5_difference yX5_difference, Cond.code yX5_difference cX5_difference 2 (some .int), Cond.methodLink RX5 186 yX4_differenceOf, Cond.instanceMethod yX4_differenceOf, Cond.selects RX4 yX4_differenceOf yX4_differenceOf, Cond.code yX4_differenceOf cX4_differenceOf 2 (some .int), Cond.methodLink RL 76 yX5_place, Cond.instanceMethod yX5_place, Cond.selects RX5 yX5_place yX5_place, Cond.code yX5_place cX5_place 2 (some .int), Cond.methodLink RX5 189 yX4_placeOf, Cond.instanceMethod yX4_placeOf, Cond.selects RX4 yX4_placeOf yX4_placeOf, Cond.code yX4_placeOf cX4_placeOf 4 (some .int), Cond.methodLink RX4 33 yX4_isAhead, Cond.instanceMethod yX4_isAhead, Cond.selects RX4 yX4_isAhead yX4_isAhead, Cond.code yX4_isAhead cX4_isAhead 3 (some .boolean), Cond.methodLink RL 138 yL_isTable, Cond.static yL_isTable]
def wsL_law0_r9 : List Cond := [Cond.code yL_isTable cL_isTable 11 (some .boolean), Cond.methodLink RL 141 yL_isDone, Cond.static yL_isDone, Cond.code yL_isDone cL_isDone 16 (some .boolean), Cond.methodLink RL 103 yL_part, Cond.static yL_part, Cond.code yL_part cL_part 4 (some .int), Cond.constant RL 7 (2147483647), Cond.methodLink RL 79 yL_isBunker, Cond.static yL_isBunker, Cond.code yL_isBunker cL_isBunker 2 (some .boolean), Cond.methodLink RL 100 yL_does, Cond.static yL_does, Cond.codeWith yL_does cL_does 5 (some .int) [(0, 130, 131, 48), (0, 130, 136, 50), (0, 130, 141, 52)], Cond.classLink RL 50 "java/lang/IllegalArgumentException", Cond.classLink RL 52 "java/lang/IllegalStateException", Cond.methodLink RL 14 yX5_toggleBunker, Cond.instanceMethod yX5_toggleBunker, Cond.selects RX5 yX5_toggleBunker yX5_toggleBunker, Cond.code yX5_toggleBunker cX5_toggleBunker 2 (some .boolean), Cond.classLink RX5 42 "java/lang/IllegalStateException", Cond.initialized "java/lang/IllegalStateException", Cond.methodLink RX5 38 yX2_isPlayed, Cond.instanceMethod yX2_isPlayed]
def wsL_law0_r10 : List Cond := [Cond.selects RX2 yX2_isPlayed yX2_isPlayed, Cond.code yX2_isPlayed cX2_isPlayed 1 (some .boolean), Cond.methodLink RX5 49 yX1_turnBunker, Cond.instanceMethod yX1_turnBunker, Cond.selects RX1 yX1_turnBunker yX1_turnBunker, Cond.code yX1_turnBunker cX1_turnBunker 2 (some .boolean), Cond.methodLink RL 18 yX5_setReferee, Cond.instanceMethod yX5_setReferee, Cond.selects RX5 yX5_setReferee yX5_setReferee, Cond.code yX5_setReferee cX5_setReferee 4 (some .int), Cond.methodLink RX5 61 yX5_checkReferee, Cond.static yX5_checkReferee, Cond.code yX5_checkReferee cX5_checkReferee 1 none, Cond.methodLink RL 22 yL_begins, Cond.static yL_begins, Cond.code yL_begins cL_begins 3 (some .int), Cond.methodLink RL 8 yX5_begin, Cond.instanceMethod yX5_begin, Cond.selects RX5 yX5_begin yX5_begin, Cond.code yX5_begin cX5_begin 3 none, Cond.classLink RX5 67 "java/lang/IllegalArgumentException", Cond.initialized "java/lang/IllegalArgumentException", Cond.methodLink RX5 72 yX2_start, Cond.instanceMethod yX2_start]
def wsL_law0_r11 : List Cond := [Cond.selects RX2 yX2_start yX2_start, Cond.code yX2_start cX2_start 3 none, Cond.fieldLink RX2 43 "PaintballAtlas$Round" "home" "I", Cond.fieldLink RX2 46 "PaintballAtlas$Round" "away" "I", Cond.methodLink RL 28 yX5_move, Cond.instanceMethod yX5_move, Cond.selects RX5 yX5_move yX5_move, Cond.code yX5_move cX5_move 4 (some .int), Cond.methodLink RX5 79 yX5_checkRound, Cond.instanceMethod yX5_checkRound, Cond.selects RX5 yX5_checkRound yX5_checkRound, Cond.code yX5_checkRound cX5_checkRound 1 none, Cond.methodLink RX5 87 yX1_distance, Cond.static yX1_distance, Cond.code yX1_distance cX1_distance 4 (some .int), Cond.methodLink RX5 93 yX1_hasBunker, Cond.instanceMethod yX1_hasBunker, Cond.selects RX1 yX1_hasBunker yX1_hasBunker, Cond.code yX1_hasBunker cX1_hasBunker 2 (some .boolean), Cond.methodLink RX5 96 yX2_playerOn, Cond.instanceMethod yX2_playerOn, Cond.selects RX2 yX2_playerOn yX2_playerOn, Cond.code yX2_playerOn cX2_playerOn 3 (some .int), Cond.methodLink RX5 101 yX2_put]
def wsL_law0_r12 : List Cond := [Cond.instanceMethod yX2_put, Cond.selects RX2 yX2_put yX2_put, Cond.code yX2_put cX2_put 3 none, Cond.methodLink RL 31 yX5_shoot, Cond.instanceMethod yX5_shoot, Cond.selects RX5 yX5_shoot yX5_shoot, Cond.code yX5_shoot cX5_shoot 4 (some .int), Cond.methodLink RX5 108 yX2_mayFire, Cond.instanceMethod yX2_mayFire, Cond.selects RX2 yX2_mayFire yX2_mayFire, Cond.code yX2_mayFire cX2_mayFire 2 (some .boolean), Cond.methodLink RX5 113 yX2_fire, Cond.instanceMethod yX2_fire, Cond.selects RX2 yX2_fire yX2_fire, Cond.code yX2_fire cX2_fire 5 (some .int), Cond.methodLink RX2 53 yX1_distance, Cond.methodLink RX2 59 yX3_add, Cond.instanceMethod yX3_add, Cond.selects RX3 yX3_add yX3_add, Cond.code yX3_add cX3_add 5 none, Cond.fieldLink RX3 24 "PaintballAtlas$Shots" "count" "I", Cond.methodLink RL 34 yX5_pass, Cond.instanceMethod yX5_pass, Cond.selects RX5 yX5_pass yX5_pass]
def wsL_law0_r13 : List Cond := [Cond.code yX5_pass cX5_pass 4 (some .int), Cond.methodLink RX5 118 yX2_nextTick, Cond.instanceMethod yX2_nextTick, Cond.selects RX2 yX2_nextTick yX2_nextTick, Cond.code yX2_nextTick cX2_nextTick 4 (some .int), Cond.methodLink RX2 66 yX2_strikes, Cond.instanceMethod yX2_strikes, Cond.selects RX2 yX2_strikes yX2_strikes, Cond.code yX2_strikes cX2_strikes 5 (some .boolean), Cond.fieldLink RX2 70 "PaintballAtlas$Shots" "targets" "[I", Cond.fieldLink RX2 77 "PaintballAtlas$Shots" "shooters" "[I", Cond.fieldLink RX2 80 "PaintballAtlas$Shots" "origins" "[I", Cond.methodLink RX2 73 yX2_playerOn, Cond.methodLink RX2 83 yX1_hasSight, Cond.methodLink RL 38 yX5_call, Cond.instanceMethod yX5_call, Cond.selects RX5 yX5_call yX5_call, Cond.code yX5_call cX5_call 4 (some .int), Cond.methodLink RX5 124 yX2_mayCall, Cond.instanceMethod yX2_mayCall, Cond.selects RX2 yX2_mayCall yX2_mayCall, Cond.code yX2_mayCall cX2_mayCall 1 (some .boolean), Cond.methodLink RX5 129 yX2_callOut, Cond.instanceMethod yX2_callOut]
def wsL_law0_r14 : List Cond := [Cond.selects RX2 yX2_callOut yX2_callOut, Cond.code yX2_callOut cX2_callOut 3 (some .int), Cond.methodLink RX2 87 yX0_add, Cond.instanceMethod yX0_add, Cond.selects RX0 yX0_add yX0_add, Cond.code yX0_add cX0_add 4 (some .int), Cond.fieldLink RX0 25 "PaintballAtlas$Calls" "count" "I", Cond.methodLink RL 41 yX5_dispute, Cond.instanceMethod yX5_dispute, Cond.selects RX5 yX5_dispute yX5_dispute, Cond.code yX5_dispute cX5_dispute 3 (some .boolean), Cond.methodLink RX5 132 yX2_hasCall, Cond.instanceMethod yX2_hasCall, Cond.selects RX2 yX2_hasCall yX2_hasCall, Cond.code yX2_hasCall cX2_hasCall 2 (some .boolean), Cond.methodLink RX5 140 yX2_isDisputed, Cond.instanceMethod yX2_isDisputed, Cond.selects RX2 yX2_isDisputed yX2_isDisputed, Cond.code yX2_isDisputed cX2_isDisputed 2 (some .boolean), Cond.fieldLink RX2 90 "PaintballAtlas$Calls" "disputed" "[Z", Cond.methodLink RX5 145 yX2_judge, Cond.instanceMethod yX2_judge, Cond.selects RX2 yX2_judge yX2_judge, Cond.code yX2_judge cX2_judge 4 (some .boolean)]
def wsL_law0_r15 : List Cond := [Cond.fieldLink RX2 94 "PaintballAtlas$Calls" "players" "[I", Cond.fieldLink RX2 97 "PaintballAtlas$Calls" "ticks" "[I", Cond.fieldLink RX2 100 "PaintballAtlas$Calls" "cells" "[I", Cond.methodLink RX5 148 yX2_teamCalled, Cond.instanceMethod yX2_teamCalled, Cond.selects RX2 yX2_teamCalled yX2_teamCalled, Cond.code yX2_teamCalled cX2_teamCalled 2 (some .int), Cond.methodLink RX5 151 yX4_fine, Cond.instanceMethod yX4_fine, Cond.selects RX4 yX4_fine yX4_fine, Cond.code yX4_fine cX4_fine 2 none, Cond.methodLink RL 44 yX5_end, Cond.instanceMethod yX5_end, Cond.selects RX5 yX5_end yX5_end, Cond.code yX5_end cX5_end 2 (some .int), Cond.methodLink RX5 154 yX2_margin, Cond.instanceMethod yX2_margin, Cond.selects RX2 yX2_margin yX2_margin, Cond.code yX2_margin cX2_margin 3 (some .int), Cond.methodLink RX5 158 yX2_homeTeam, Cond.instanceMethod yX2_homeTeam, Cond.selects RX2 yX2_homeTeam yX2_homeTeam, Cond.code yX2_homeTeam cX2_homeTeam 1 (some .int), Cond.methodLink RX5 161 yX2_awayTeam]
def wsL_law0_r16 : List Cond := [Cond.instanceMethod yX2_awayTeam, Cond.selects RX2 yX2_awayTeam yX2_awayTeam, Cond.code yX2_awayTeam cX2_awayTeam 1 (some .int), Cond.methodLink RX5 164 yX4_enter, Cond.instanceMethod yX4_enter, Cond.selects RX4 yX4_enter yX4_enter, Cond.code yX4_enter cX4_enter 4 none, Cond.methodLink RX4 26 yX4_enterWin, Cond.instanceMethod yX4_enterWin, Cond.selects RX4 yX4_enterWin yX4_enterWin, Cond.code yX4_enterWin cX4_enterWin 3 none, Cond.methodLink RX4 30 yX4_takePenalties, Cond.instanceMethod yX4_takePenalties, Cond.selects RX4 yX4_takePenalties yX4_takePenalties, Cond.code yX4_takePenalties cX4_takePenalties 2 none, Cond.methodLink RX5 168 yX2_close, Cond.instanceMethod yX2_close, Cond.selects RX2 yX2_close yX2_close, Cond.code yX2_close cX2_close 1 none, Cond.methodLink RL 107 yL_isBegun, Cond.static yL_isBegun, Cond.code yL_isBegun cL_isBegun 7 (some .boolean), Cond.methodLink RL 111 yL_isMove, Cond.static yL_isMove]
def wsL_law0_r17 : List Cond := [Cond.code yL_isMove cL_isMove 8 (some .boolean), Cond.methodLink RL 83 yL_apart, Cond.static yL_apart, Cond.code yL_apart cL_apart 4 (some .int), Cond.methodLink RL 96 yL_isFree, Cond.static yL_isFree, Cond.code yL_isFree cL_isFree 5 (some .boolean), Cond.methodLink RL 114 yL_isShot, Cond.static yL_isShot, Cond.code yL_isShot cL_isShot 9 (some .boolean), Cond.methodLink RL 117 yL_isCall, Cond.static yL_isCall, Cond.code yL_isCall cL_isCall 9 (some .boolean), Cond.methodLink RL 121 yL_isDispute, Cond.static yL_isDispute, Cond.code yL_isDispute cL_isDispute 9 (some .boolean), Cond.methodLink RL 125 yL_isEnd, Cond.static yL_isEnd, Cond.code yL_isEnd cL_isEnd 9 (some .boolean), Cond.methodLink RL 129 yL_isView, Cond.static yL_isView, Cond.code yL_isView cL_isView 5 (some .boolean), Cond.methodLink RL 145 yL_isSight, Cond.static yL_isSight]
def wsL_law0_r18 : List Cond := [Cond.code yL_isSight cL_isSight 13 (some .boolean)]
def wsL_law0 : List Cond := (wsL_law0_r1 ++ (wsL_law0_r2 ++ (wsL_law0_r3 ++ (wsL_law0_r4 ++ (wsL_law0_r5 ++ (wsL_law0_r6 ++ (wsL_law0_r7 ++ (wsL_law0_r8 ++ (wsL_law0_r9 ++ (wsL_law0_r10 ++ (wsL_law0_r11 ++ (wsL_law0_r12 ++ (wsL_law0_r13 ++ (wsL_law0_r14 ++ (wsL_law0_r15 ++ (wsL_law0_r16 ++ (wsL_law0_r17 ++ wsL_law0_r18))))))))))))))))) ++ wsX50 ++ wsX10 ++ wsX20 ++ wsX40 ++ wsX30 ++ wsX00 ++ ([] : List Cond)
def wsL_law : List Cond := wsL_law0 ++ (vx_atS RX5 139 "java/lang/IndexOutOfBoundsException" ["java/lang/RuntimeException", "java/lang/Exception"]).filter goodWord ++ (vx_atS RX5 46 "java/lang/IllegalStateException" ["java/lang/RuntimeException", "java/lang/Exception"]).filter goodWord ++ (vx_atS RX5 71 "java/lang/IllegalArgumentException" ["java/lang/RuntimeException", "java/lang/Exception"]).filter goodWord
end
section
theorem in_app {a b c : List Cond} (ha : ∀ w ∈ a, w ∈ c) (hb : ∀ w ∈ b, w ∈ c) : ∀ w ∈ a ++ b, w ∈ c := fun w h => (List.mem_append.mp h).elim (ha w) (hb w)
theorem in_nil {c : List Cond} : ∀ w ∈ ([] : List Cond), w ∈ c := fun _ h => nomatch h
set_option maxRecDepth 20000 in
theorem wsL_in_r1 : ∀ w ∈ wsL_law0_r1, w ∈ lw_tbl := fun w h => (goodIn_p wsL_law0_r1 [25, 28] (by decide +kernel) (by decide +kernel) w h).1
set_option maxRecDepth 20000 in
theorem wsL_in_r2 : ∀ w ∈ wsL_law0_r2, w ∈ lw_tbl := fun w h => (goodIn_p wsL_law0_r2 [33, 44, 50] (by decide +kernel) (by decide +kernel) w h).1
set_option maxRecDepth 20000 in
theorem wsL_in_r3 : ∀ w ∈ wsL_law0_r3, w ∈ lw_tbl := fun w h => (goodIn_p wsL_law0_r3 [78, 104, 134] (by decide +kernel) (by decide +kernel) w h).1
set_option maxRecDepth 20000 in
theorem wsL_in_r4 : ∀ w ∈ wsL_law0_r4, w ∈ lw_tbl := fun w h => (goodIn_p wsL_law0_r4 [552, 556, 560, 564, 568] (by decide +kernel) (by decide +kernel) w h).1
set_option maxRecDepth 20000 in
theorem wsL_in_r5 : ∀ w ∈ wsL_law0_r5, w ∈ lw_tbl := fun w h => (goodIn_p wsL_law0_r5 [480, 180, 390, 393, 338, 396] (by decide +kernel) (by decide +kernel) w h).1
end
section
set_option maxRecDepth 20000 in
theorem wsL_in_r6 : ∀ w ∈ wsL_law0_r6, w ∈ lw_tbl := fun w h => (goodIn_p wsL_law0_r6 [335, 484, 488, 493, 318, 328] (by decide +kernel) (by decide +kernel) w h).1
set_option maxRecDepth 20000 in
theorem wsL_in_r7 : ∀ w ∈ wsL_law0_r7, w ∈ lw_tbl := fun w h => (goodIn_p wsL_law0_r7 [497, 501, 505, 290, 509, 513] (by decide +kernel) (by decide +kernel) w h).1
set_option maxRecDepth 20000 in
theorem wsL_in_r8 : ∀ w ∈ wsL_law0_r8, w ∈ lw_tbl := fun w h => (goodIn_p wsL_law0_r8 [517, 521, 525, 529, 533, 537] (by decide +kernel) (by decide +kernel) w h).1
end
section
set_option maxRecDepth 20000 in
theorem wsL_in_r9 : ∀ w ∈ wsL_law0_r9, w ∈ lw_tbl := fun w h => (goodIn_p wsL_law0_r9 [549, 571, 166, 543, 177] rfl (by decide +kernel) w h).1
end
section
set_option maxRecDepth 20000 in
theorem wsL_in_r10 : ∀ w ∈ wsL_law0_r10, w ∈ lw_tbl := fun w h => (goodIn_p wsL_law0_r10 [252, 272, 276, 279, 283, 287] (by decide +kernel) (by decide +kernel) w h).1
set_option maxRecDepth 20000 in
theorem wsL_in_r11 : ∀ w ∈ wsL_law0_r11, w ∈ lw_tbl := fun w h => (goodIn_p wsL_law0_r11 [311, 315, 323, 332, 343, 347] (by decide +kernel) (by decide +kernel) w h).1
set_option maxRecDepth 20000 in
theorem wsL_in_r12 : ∀ w ∈ wsL_law0_r12, w ∈ lw_tbl := fun w h => (goodIn_p wsL_law0_r12 [352, 356, 362, 367, 372] (by decide +kernel) (by decide +kernel) w h).1
set_option maxRecDepth 20000 in
theorem wsL_in_r13 : ∀ w ∈ wsL_law0_r13, w ∈ lw_tbl := fun w h => (goodIn_p wsL_law0_r13 [376, 381, 385, 400, 406] (by decide +kernel) (by decide +kernel) w h).1
end
section
set_option maxRecDepth 20000 in
theorem wsL_in_r14 : ∀ w ∈ wsL_law0_r14, w ∈ lw_tbl := fun w h => (goodIn_p wsL_law0_r14 [411, 415, 419, 423, 428, 433] (by decide +kernel) (by decide +kernel) w h).1
set_option maxRecDepth 20000 in
theorem wsL_in_r15 : ∀ w ∈ wsL_law0_r15, w ∈ lw_tbl := fun w h => (goodIn_p wsL_law0_r15 [437, 441, 445, 449, 453] (by decide +kernel) (by decide +kernel) w h).1
set_option maxRecDepth 20000 in
theorem wsL_in_r16 : ∀ w ∈ wsL_law0_r16, w ∈ lw_tbl := fun w h => (goodIn_p wsL_law0_r16 [457, 461, 465, 469, 473, 574] (by decide +kernel) (by decide +kernel) w h).1
set_option maxRecDepth 20000 in
theorem wsL_in_r17 : ∀ w ∈ wsL_law0_r17, w ∈ lw_tbl := fun w h => (goodIn_p wsL_law0_r17 [577, 546, 580, 583, 586, 589, 592, 595] (by decide +kernel) (by decide +kernel) w h).1
set_option maxRecDepth 20000 in
theorem wsL_in_r18 : ∀ w ∈ wsL_law0_r18, w ∈ lw_tbl := fun w h => (goodIn_p wsL_law0_r18 [540] (by decide +kernel) (by decide +kernel) w h).1
set_option maxRecDepth 20000 in
theorem wsL_in_X50 : ∀ w ∈ wsX50, w ∈ lw_tbl := by decide +kernel
set_option maxRecDepth 20000 in
theorem wsL_in_X10 : ∀ w ∈ wsX10, w ∈ lw_tbl := by decide +kernel
set_option maxRecDepth 20000 in
theorem wsL_in_X20 : ∀ w ∈ wsX20, w ∈ lw_tbl := by decide +kernel
set_option maxRecDepth 20000 in
theorem wsL_in_X40 : ∀ w ∈ wsX40, w ∈ lw_tbl := by decide +kernel
set_option maxRecDepth 20000 in
theorem wsL_in_X30 : ∀ w ∈ wsX30, w ∈ lw_tbl := by decide +kernel
set_option maxRecDepth 20000 in
theorem wsL_in_X00 : ∀ w ∈ wsX00, w ∈ lw_tbl := by decide +kernel
theorem wsL_law_in0 : ∀ w ∈ wsL_law0, w ∈ lw_tbl := (in_app (in_app (in_app (in_app (in_app (in_app (in_app (in_app wsL_in_r1 (in_app wsL_in_r2 (in_app wsL_in_r3 (in_app wsL_in_r4 (in_app wsL_in_r5 (in_app wsL_in_r6 (in_app wsL_in_r7 (in_app wsL_in_r8 (in_app wsL_in_r9 (in_app wsL_in_r10 (in_app wsL_in_r11 (in_app wsL_in_r12 (in_app wsL_in_r13 (in_app wsL_in_r14 (in_app wsL_in_r15 (in_app wsL_in_r16 (in_app wsL_in_r17 wsL_in_r18))))))))))))))))) wsL_in_X50) wsL_in_X10) wsL_in_X20) wsL_in_X40) wsL_in_X30) wsL_in_X00) in_nil)
end
section
theorem wsL_law_x0 : ∀ w ∈ (vx_atS RX5 139 "java/lang/IndexOutOfBoundsException" ["java/lang/RuntimeException", "java/lang/Exception"]).filter goodWord, w ∈ lw_tbl := by decide +kernel
theorem wsL_law_x1 : ∀ w ∈ (vx_atS RX5 46 "java/lang/IllegalStateException" ["java/lang/RuntimeException", "java/lang/Exception"]).filter goodWord, w ∈ lw_tbl := by decide +kernel
theorem wsL_law_x2 : ∀ w ∈ (vx_atS RX5 71 "java/lang/IllegalArgumentException" ["java/lang/RuntimeException", "java/lang/Exception"]).filter goodWord, w ∈ lw_tbl := by decide +kernel
theorem wsL_law_in : ∀ w ∈ wsL_law, w ∈ lw_tbl := fun w h => (List.mem_append.mp h).elim (fun h => (List.mem_append.mp h).elim (fun h => (List.mem_append.mp h).elim (fun h => wsL_law_in0 w h) (fun h => wsL_law_x0 w h)) (fun h => wsL_law_x1 w h)) (fun h => wsL_law_x2 w h)
theorem inlX0 : ∀ w ∈ wsX00, w ∈ wsL_law := fun _ h => List.mem_append_left _ (List.mem_append_left _ (List.mem_append_left _ (List.mem_append_left _ (List.mem_append_right _ h))))
theorem inX0 : ∀ w ∈ wsX00, w ∈ lw_tbl := fun w h => wsL_law_in w (inlX0 w h)
theorem inlX1 : ∀ w ∈ wsX10, w ∈ wsL_law := fun _ h => List.mem_append_left _ (List.mem_append_left _ (List.mem_append_left _ (List.mem_append_left _ (List.mem_append_left _ (List.mem_append_left _ (List.mem_append_left _ (List.mem_append_left _ (List.mem_append_right _ h))))))))
theorem inX1 : ∀ w ∈ wsX10, w ∈ lw_tbl := fun w h => wsL_law_in w (inlX1 w h)
theorem inlX2 : ∀ w ∈ wsX20, w ∈ wsL_law := fun _ h => List.mem_append_left _ (List.mem_append_left _ (List.mem_append_left _ (List.mem_append_left _ (List.mem_append_left _ (List.mem_append_left _ (List.mem_append_left _ (List.mem_append_right _ h)))))))
theorem inX2 : ∀ w ∈ wsX20, w ∈ lw_tbl := fun w h => wsL_law_in w (inlX2 w h)
theorem inlX3 : ∀ w ∈ wsX30, w ∈ wsL_law := fun _ h => List.mem_append_left _ (List.mem_append_left _ (List.mem_append_left _ (List.mem_append_left _ (List.mem_append_left _ (List.mem_append_right _ h)))))
theorem inX3 : ∀ w ∈ wsX30, w ∈ lw_tbl := fun w h => wsL_law_in w (inlX3 w h)
theorem inlX4 : ∀ w ∈ wsX40, w ∈ wsL_law := fun _ h => List.mem_append_left _ (List.mem_append_left _ (List.mem_append_left _ (List.mem_append_left _ (List.mem_append_left _ (List.mem_append_left _ (List.mem_append_right _ h))))))
theorem inX4 : ∀ w ∈ wsX40, w ∈ lw_tbl := fun w h => wsL_law_in w (inlX4 w h)
theorem inlX5 : ∀ w ∈ wsX50, w ∈ wsL_law := fun _ h => List.mem_append_left _ (List.mem_append_left _ (List.mem_append_left _ (List.mem_append_left _ (List.mem_append_left _ (List.mem_append_left _ (List.mem_append_left _ (List.mem_append_left _ (List.mem_append_left _ (List.mem_append_right _ h)))))))))
theorem inX5 : ∀ w ∈ wsX50, w ∈ lw_tbl := fun w h => wsL_law_in w (inlX5 w h)
theorem inX6 : ∀ w ∈ wsX60, w ∈ lw_tbl := by decide +kernel
theorem inJ9 : ∀ w ∈ wsJ90, w ∈ lw_tbl := by decide +kernel
theorem inJ0 : ∀ w ∈ wsJ00, w ∈ lw_tbl := by decide +kernel
theorem dX0_init_0 : decode cX0_init 0 = .ok (.aload_n 0, 1) := by decide +kernel
theorem dX0_init_1 : decode cX0_init 1 = .ok (.invokespecial 3, 3) := by decide +kernel
theorem dX0_init_4 : decode cX0_init 4 = .ok (.aload_n 0, 1) := by decide +kernel
theorem dX0_init_5 : decode cX0_init 5 = .ok (.sipush 512, 3) := by decide +kernel
theorem dX0_init_8 : decode cX0_init 8 = .ok (.newarray .int, 2) := by decide +kernel
theorem dX0_init_10 : decode cX0_init 10 = .ok (.putfield 9, 3) := by decide +kernel
theorem dX0_init_13 : decode cX0_init 13 = .ok (.aload_n 0, 1) := by decide +kernel
theorem dX0_init_14 : decode cX0_init 14 = .ok (.sipush 512, 3) := by decide +kernel
theorem dX0_init_17 : decode cX0_init 17 = .ok (.newarray .int, 2) := by decide +kernel
theorem dX0_init_19 : decode cX0_init 19 = .ok (.putfield 15, 3) := by decide +kernel
theorem dX0_init_22 : decode cX0_init 22 = .ok (.aload_n 0, 1) := by decide +kernel
theorem dX0_init_23 : decode cX0_init 23 = .ok (.sipush 512, 3) := by decide +kernel
theorem dX0_init_26 : decode cX0_init 26 = .ok (.newarray .int, 2) := by decide +kernel
theorem dX0_init_28 : decode cX0_init 28 = .ok (.putfield 18, 3) := by decide +kernel
theorem dX0_init_31 : decode cX0_init 31 = .ok (.aload_n 0, 1) := by decide +kernel
theorem dX0_init_32 : decode cX0_init 32 = .ok (.sipush 512, 3) := by decide +kernel
theorem dX0_init_35 : decode cX0_init 35 = .ok (.newarray .boolean, 2) := by decide +kernel
theorem dX0_init_37 : decode cX0_init 37 = .ok (.putfield 21, 3) := by decide +kernel
theorem dX0_init_40 : decode cX0_init 40 = .ok (.return_, 1) := by decide +kernel
theorem dX0_add_0 : decode cX0_add 0 = .ok (.aload_n 0, 1) := by decide +kernel
theorem dX0_add_1 : decode cX0_add 1 = .ok (.getfield 9, 3) := by decide +kernel
theorem dX0_add_4 : decode cX0_add 4 = .ok (.aload_n 0, 1) := by decide +kernel
theorem dX0_add_5 : decode cX0_add 5 = .ok (.getfield 25, 3) := by decide +kernel
theorem dX0_add_8 : decode cX0_add 8 = .ok (.iload_n 1, 1) := by decide +kernel
theorem dX0_add_9 : decode cX0_add 9 = .ok (.iastore, 1) := by decide +kernel
theorem dX0_add_10 : decode cX0_add 10 = .ok (.aload_n 0, 1) := by decide +kernel
theorem dX0_add_11 : decode cX0_add 11 = .ok (.getfield 15, 3) := by decide +kernel
theorem dX0_add_14 : decode cX0_add 14 = .ok (.aload_n 0, 1) := by decide +kernel
theorem dX0_add_15 : decode cX0_add 15 = .ok (.getfield 25, 3) := by decide +kernel
theorem dX0_add_18 : decode cX0_add 18 = .ok (.iload_n 2, 1) := by decide +kernel
theorem dX0_add_19 : decode cX0_add 19 = .ok (.iastore, 1) := by decide +kernel
theorem dX0_add_20 : decode cX0_add 20 = .ok (.aload_n 0, 1) := by decide +kernel
theorem dX0_add_21 : decode cX0_add 21 = .ok (.getfield 18, 3) := by decide +kernel
theorem dX0_add_24 : decode cX0_add 24 = .ok (.aload_n 0, 1) := by decide +kernel
theorem dX0_add_25 : decode cX0_add 25 = .ok (.getfield 25, 3) := by decide +kernel
theorem dX0_add_28 : decode cX0_add 28 = .ok (.iload_n 3, 1) := by decide +kernel
theorem dX0_add_29 : decode cX0_add 29 = .ok (.iastore, 1) := by decide +kernel
theorem dX0_add_30 : decode cX0_add 30 = .ok (.aload_n 0, 1) := by decide +kernel
theorem dX0_add_31 : decode cX0_add 31 = .ok (.getfield 21, 3) := by decide +kernel
theorem dX0_add_34 : decode cX0_add 34 = .ok (.aload_n 0, 1) := by decide +kernel
theorem dX0_add_35 : decode cX0_add 35 = .ok (.getfield 25, 3) := by decide +kernel
theorem dX0_add_38 : decode cX0_add 38 = .ok (.iconst 0, 1) := by decide +kernel
theorem dX0_add_39 : decode cX0_add 39 = .ok (.bastore, 1) := by decide +kernel
theorem dX0_add_40 : decode cX0_add 40 = .ok (.aload_n 0, 1) := by decide +kernel
theorem dX0_add_41 : decode cX0_add 41 = .ok (.dup, 1) := by decide +kernel
theorem dX0_add_42 : decode cX0_add 42 = .ok (.getfield 25, 3) := by decide +kernel
theorem dX0_add_45 : decode cX0_add 45 = .ok (.iconst 1, 1) := by decide +kernel
theorem dX0_add_46 : decode cX0_add 46 = .ok (.iadd, 1) := by decide +kernel
theorem dX0_add_47 : decode cX0_add 47 = .ok (.putfield 25, 3) := by decide +kernel
theorem dX0_add_50 : decode cX0_add 50 = .ok (.aload_n 0, 1) := by decide +kernel
theorem dX0_add_51 : decode cX0_add 51 = .ok (.getfield 25, 3) := by decide +kernel
theorem dX0_add_54 : decode cX0_add 54 = .ok (.iconst 1, 1) := by decide +kernel
theorem dX0_add_55 : decode cX0_add 55 = .ok (.isub, 1) := by decide +kernel
theorem dX0_add_56 : decode cX0_add 56 = .ok (.ireturn, 1) := by decide +kernel
theorem dX1_init_0 : decode cX1_init 0 = .ok (.aload_n 0, 1) := by decide +kernel
theorem dX1_init_1 : decode cX1_init 1 = .ok (.invokespecial 3, 3) := by decide +kernel
theorem dX1_init_4 : decode cX1_init 4 = .ok (.aload_n 0, 1) := by decide +kernel
theorem dX1_init_5 : decode cX1_init 5 = .ok (.sipush 144, 3) := by decide +kernel
theorem dX1_init_8 : decode cX1_init 8 = .ok (.newarray .boolean, 2) := by decide +kernel
theorem dX1_init_10 : decode cX1_init 10 = .ok (.putfield 9, 3) := by decide +kernel
theorem dX1_init_13 : decode cX1_init 13 = .ok (.return_, 1) := by decide +kernel
theorem dX1_distance_0 : decode cX1_distance 0 = .ok (.iload_n 0, 1) := by decide +kernel
theorem dX1_distance_1 : decode cX1_distance 1 = .ok (.bipush 12, 2) := by decide +kernel
theorem dX1_distance_3 : decode cX1_distance 3 = .ok (.idiv, 1) := by decide +kernel
theorem dX1_distance_4 : decode cX1_distance 4 = .ok (.iload_n 1, 1) := by decide +kernel
theorem dX1_distance_5 : decode cX1_distance 5 = .ok (.bipush 12, 2) := by decide +kernel
theorem dX1_distance_7 : decode cX1_distance 7 = .ok (.idiv, 1) := by decide +kernel
theorem dX1_distance_8 : decode cX1_distance 8 = .ok (.isub, 1) := by decide +kernel
theorem dX1_distance_9 : decode cX1_distance 9 = .ok (.invokestatic 15, 3) := by decide +kernel
theorem dX1_distance_12 : decode cX1_distance 12 = .ok (.istore_n 2, 1) := by decide +kernel
theorem dX1_distance_13 : decode cX1_distance 13 = .ok (.iload_n 0, 1) := by decide +kernel
theorem dX1_distance_14 : decode cX1_distance 14 = .ok (.bipush 12, 2) := by decide +kernel
theorem dX1_distance_16 : decode cX1_distance 16 = .ok (.irem, 1) := by decide +kernel
theorem dX1_distance_17 : decode cX1_distance 17 = .ok (.iload_n 1, 1) := by decide +kernel
theorem dX1_distance_18 : decode cX1_distance 18 = .ok (.bipush 12, 2) := by decide +kernel
theorem dX1_distance_20 : decode cX1_distance 20 = .ok (.irem, 1) := by decide +kernel
theorem dX1_distance_21 : decode cX1_distance 21 = .ok (.isub, 1) := by decide +kernel
theorem dX1_distance_22 : decode cX1_distance 22 = .ok (.invokestatic 15, 3) := by decide +kernel
theorem dX1_distance_25 : decode cX1_distance 25 = .ok (.istore_n 3, 1) := by decide +kernel
theorem dX1_distance_26 : decode cX1_distance 26 = .ok (.iload_n 2, 1) := by decide +kernel
theorem dX1_distance_27 : decode cX1_distance 27 = .ok (.iload_n 3, 1) := by decide +kernel
theorem dX1_distance_28 : decode cX1_distance 28 = .ok (.invokestatic 21, 3) := by decide +kernel
theorem dX1_distance_31 : decode cX1_distance 31 = .ok (.ireturn, 1) := by decide +kernel
theorem dX1_hasBunker_0 : decode cX1_hasBunker 0 = .ok (.aload_n 0, 1) := by decide +kernel
theorem dX1_hasBunker_1 : decode cX1_hasBunker 1 = .ok (.getfield 9, 3) := by decide +kernel
theorem dX1_hasBunker_4 : decode cX1_hasBunker 4 = .ok (.iload_n 1, 1) := by decide +kernel
theorem dX1_hasBunker_5 : decode cX1_hasBunker 5 = .ok (.baload, 1) := by decide +kernel
theorem dX1_hasBunker_6 : decode cX1_hasBunker 6 = .ok (.ireturn, 1) := by decide +kernel
theorem dX1_turnBunker_0 : decode cX1_turnBunker 0 = .ok (.aload_n 0, 1) := by decide +kernel
theorem dX1_turnBunker_1 : decode cX1_turnBunker 1 = .ok (.getfield 9, 3) := by decide +kernel
theorem dX1_turnBunker_4 : decode cX1_turnBunker 4 = .ok (.iload_n 1, 1) := by decide +kernel
theorem dX1_turnBunker_5 : decode cX1_turnBunker 5 = .ok (.aload_n 0, 1) := by decide +kernel
theorem dX1_turnBunker_6 : decode cX1_turnBunker 6 = .ok (.getfield 9, 3) := by decide +kernel
theorem dX1_turnBunker_9 : decode cX1_turnBunker 9 = .ok (.iload_n 1, 1) := by decide +kernel
theorem dX1_turnBunker_10 : decode cX1_turnBunker 10 = .ok (.baload, 1) := by decide +kernel
theorem dX1_turnBunker_11 : decode cX1_turnBunker 11 = .ok (.ifCond .ne 7, 3) := by decide +kernel
theorem dX1_turnBunker_14 : decode cX1_turnBunker 14 = .ok (.iconst 1, 1) := by decide +kernel
theorem dX1_turnBunker_15 : decode cX1_turnBunker 15 = .ok (.goto 4, 3) := by decide +kernel
theorem dX1_turnBunker_18 : decode cX1_turnBunker 18 = .ok (.iconst 0, 1) := by decide +kernel
theorem dX1_turnBunker_19 : decode cX1_turnBunker 19 = .ok (.bastore, 1) := by decide +kernel
theorem dX1_turnBunker_20 : decode cX1_turnBunker 20 = .ok (.aload_n 0, 1) := by decide +kernel
theorem dX1_turnBunker_21 : decode cX1_turnBunker 21 = .ok (.getfield 9, 3) := by decide +kernel
theorem dX1_turnBunker_24 : decode cX1_turnBunker 24 = .ok (.iload_n 1, 1) := by decide +kernel
theorem dX1_turnBunker_25 : decode cX1_turnBunker 25 = .ok (.baload, 1) := by decide +kernel
theorem dX1_turnBunker_26 : decode cX1_turnBunker 26 = .ok (.ireturn, 1) := by decide +kernel
set_option maxRecDepth 20000 in
theorem ggX1_countSeen_X1_hasSight : GoodIn wsX1_countSeen wsX1_hasSight := goodIn_r _ [5, 6, 7, 8, 9, 10, 11, 12, 13, 14, 15, 4, 16, 17, 18, 19, 20] (by decide +kernel) (by decide +kernel)
set_option maxRecDepth 20000 in
theorem gX1_countSeen_X1_hasSight : GoodIn wsX1_countSeen (wsV RX1 25 RX1 yX1_hasSight wsX1_hasSight) := goodIn_app (goodIn_of _ (by decide +kernel)) ggX1_countSeen_X1_hasSight
theorem dX1_countSeen_0 : decode cX1_countSeen 0 = .ok (.iconst 0, 1) := by decide +kernel
theorem dX1_countSeen_1 : decode cX1_countSeen 1 = .ok (.istore_n 2, 1) := by decide +kernel
theorem dX1_countSeen_2 : decode cX1_countSeen 2 = .ok (.iconst 0, 1) := by decide +kernel
theorem dX1_countSeen_3 : decode cX1_countSeen 3 = .ok (.istore_n 3, 1) := by decide +kernel
theorem dX1_countSeen_4 : decode cX1_countSeen 4 = .ok (.iload_n 3, 1) := by decide +kernel
theorem dX1_countSeen_5 : decode cX1_countSeen 5 = .ok (.sipush 144, 3) := by decide +kernel
theorem dX1_countSeen_8 : decode cX1_countSeen 8 = .ok (.if_icmp .ge 21, 3) := by decide +kernel
theorem dX1_countSeen_11 : decode cX1_countSeen 11 = .ok (.aload_n 0, 1) := by decide +kernel
theorem dX1_countSeen_12 : decode cX1_countSeen 12 = .ok (.iload_n 1, 1) := by decide +kernel
theorem dX1_countSeen_13 : decode cX1_countSeen 13 = .ok (.iload_n 3, 1) := by decide +kernel
theorem dX1_countSeen_14 : decode cX1_countSeen 14 = .ok (.invokevirtual 25, 3) := by decide +kernel
theorem dX1_countSeen_17 : decode cX1_countSeen 17 = .ok (.ifCond .eq 6, 3) := by decide +kernel
theorem dX1_countSeen_20 : decode cX1_countSeen 20 = .ok (.iinc 2 1, 3) := by decide +kernel
theorem dX1_countSeen_23 : decode cX1_countSeen 23 = .ok (.iinc 3 1, 3) := by decide +kernel
theorem dX1_countSeen_26 : decode cX1_countSeen 26 = .ok (.goto (-22), 3) := by decide +kernel
theorem dX1_countSeen_29 : decode cX1_countSeen 29 = .ok (.iload_n 2, 1) := by decide +kernel
theorem dX1_countSeen_30 : decode cX1_countSeen 30 = .ok (.ireturn, 1) := by decide +kernel
set_option maxRecDepth 20000 in
theorem ggX1_hasSight_X1_lineEnters : GoodIn wsX1_hasSight wsX1_lineEnters := goodIn_r _ [12, 13, 14, 4, 15] (by decide +kernel) (by decide +kernel)
set_option maxRecDepth 20000 in
theorem gX1_hasSight_X1_lineEnters : GoodIn wsX1_hasSight (va_wsS RX1 32 yX1_lineEnters wsX1_lineEnters) := goodIn_app (goodIn_of _ (by decide +kernel)) ggX1_hasSight_X1_lineEnters
theorem dX1_hasSight_0 : decode cX1_hasSight 0 = .ok (.iload_n 1, 1) := by decide +kernel
theorem dX1_hasSight_1 : decode cX1_hasSight 1 = .ok (.iload_n 2, 1) := by decide +kernel
theorem dX1_hasSight_2 : decode cX1_hasSight 2 = .ok (.if_icmp .ne 18, 3) := by decide +kernel
theorem dX1_hasSight_5 : decode cX1_hasSight 5 = .ok (.aload_n 0, 1) := by decide +kernel
theorem dX1_hasSight_6 : decode cX1_hasSight 6 = .ok (.getfield 9, 3) := by decide +kernel
theorem dX1_hasSight_9 : decode cX1_hasSight 9 = .ok (.iload_n 1, 1) := by decide +kernel
theorem dX1_hasSight_10 : decode cX1_hasSight 10 = .ok (.baload, 1) := by decide +kernel
theorem dX1_hasSight_11 : decode cX1_hasSight 11 = .ok (.ifCond .ne 7, 3) := by decide +kernel
theorem dX1_hasSight_14 : decode cX1_hasSight 14 = .ok (.iconst 1, 1) := by decide +kernel
theorem dX1_hasSight_15 : decode cX1_hasSight 15 = .ok (.goto 4, 3) := by decide +kernel
theorem dX1_hasSight_18 : decode cX1_hasSight 18 = .ok (.iconst 0, 1) := by decide +kernel
theorem dX1_hasSight_19 : decode cX1_hasSight 19 = .ok (.ireturn, 1) := by decide +kernel
theorem dX1_hasSight_20 : decode cX1_hasSight 20 = .ok (.iload_n 1, 1) := by decide +kernel
theorem dX1_hasSight_21 : decode cX1_hasSight 21 = .ok (.bipush 12, 2) := by decide +kernel
theorem dX1_hasSight_23 : decode cX1_hasSight 23 = .ok (.idiv, 1) := by decide +kernel
theorem dX1_hasSight_24 : decode cX1_hasSight 24 = .ok (.iload_n 2, 1) := by decide +kernel
theorem dX1_hasSight_25 : decode cX1_hasSight 25 = .ok (.bipush 12, 2) := by decide +kernel
theorem dX1_hasSight_27 : decode cX1_hasSight 27 = .ok (.idiv, 1) := by decide +kernel
theorem dX1_hasSight_28 : decode cX1_hasSight 28 = .ok (.invokestatic 29, 3) := by decide +kernel
theorem dX1_hasSight_31 : decode cX1_hasSight 31 = .ok (.istore_n 3, 1) := by decide +kernel
theorem dX1_hasSight_32 : decode cX1_hasSight 32 = .ok (.iload_n 1, 1) := by decide +kernel
theorem dX1_hasSight_33 : decode cX1_hasSight 33 = .ok (.bipush 12, 2) := by decide +kernel
theorem dX1_hasSight_35 : decode cX1_hasSight 35 = .ok (.idiv, 1) := by decide +kernel
theorem dX1_hasSight_36 : decode cX1_hasSight 36 = .ok (.iload_n 2, 1) := by decide +kernel
theorem dX1_hasSight_37 : decode cX1_hasSight 37 = .ok (.bipush 12, 2) := by decide +kernel
theorem dX1_hasSight_39 : decode cX1_hasSight 39 = .ok (.idiv, 1) := by decide +kernel
theorem dX1_hasSight_40 : decode cX1_hasSight 40 = .ok (.invokestatic 21, 3) := by decide +kernel
theorem dX1_hasSight_43 : decode cX1_hasSight 43 = .ok (.istore 4, 2) := by decide +kernel
theorem dX1_hasSight_45 : decode cX1_hasSight 45 = .ok (.iload_n 1, 1) := by decide +kernel
theorem dX1_hasSight_46 : decode cX1_hasSight 46 = .ok (.bipush 12, 2) := by decide +kernel
theorem dX1_hasSight_48 : decode cX1_hasSight 48 = .ok (.irem, 1) := by decide +kernel
theorem dX1_hasSight_49 : decode cX1_hasSight 49 = .ok (.iload_n 2, 1) := by decide +kernel
theorem dX1_hasSight_50 : decode cX1_hasSight 50 = .ok (.bipush 12, 2) := by decide +kernel
theorem dX1_hasSight_52 : decode cX1_hasSight 52 = .ok (.irem, 1) := by decide +kernel
theorem dX1_hasSight_53 : decode cX1_hasSight 53 = .ok (.invokestatic 29, 3) := by decide +kernel
theorem dX1_hasSight_56 : decode cX1_hasSight 56 = .ok (.istore 5, 2) := by decide +kernel
theorem dX1_hasSight_58 : decode cX1_hasSight 58 = .ok (.iload_n 1, 1) := by decide +kernel
theorem dX1_hasSight_59 : decode cX1_hasSight 59 = .ok (.bipush 12, 2) := by decide +kernel
theorem dX1_hasSight_61 : decode cX1_hasSight 61 = .ok (.irem, 1) := by decide +kernel
theorem dX1_hasSight_62 : decode cX1_hasSight 62 = .ok (.iload_n 2, 1) := by decide +kernel
theorem dX1_hasSight_63 : decode cX1_hasSight 63 = .ok (.bipush 12, 2) := by decide +kernel
theorem dX1_hasSight_65 : decode cX1_hasSight 65 = .ok (.irem, 1) := by decide +kernel
theorem dX1_hasSight_66 : decode cX1_hasSight 66 = .ok (.invokestatic 21, 3) := by decide +kernel
theorem dX1_hasSight_69 : decode cX1_hasSight 69 = .ok (.istore 6, 2) := by decide +kernel
theorem dX1_hasSight_71 : decode cX1_hasSight 71 = .ok (.iload_n 3, 1) := by decide +kernel
theorem dX1_hasSight_72 : decode cX1_hasSight 72 = .ok (.istore 7, 2) := by decide +kernel
theorem dX1_hasSight_74 : decode cX1_hasSight 74 = .ok (.iload 7, 2) := by decide +kernel
theorem dX1_hasSight_76 : decode cX1_hasSight 76 = .ok (.iload 4, 2) := by decide +kernel
theorem dX1_hasSight_78 : decode cX1_hasSight 78 = .ok (.if_icmp .gt 58, 3) := by decide +kernel
theorem dX1_hasSight_81 : decode cX1_hasSight 81 = .ok (.iload 5, 2) := by decide +kernel
theorem dX1_hasSight_83 : decode cX1_hasSight 83 = .ok (.istore 8, 2) := by decide +kernel
theorem dX1_hasSight_85 : decode cX1_hasSight 85 = .ok (.iload 8, 2) := by decide +kernel
theorem dX1_hasSight_87 : decode cX1_hasSight 87 = .ok (.iload 6, 2) := by decide +kernel
theorem dX1_hasSight_89 : decode cX1_hasSight 89 = .ok (.if_icmp .gt 41, 3) := by decide +kernel
theorem dX1_hasSight_92 : decode cX1_hasSight 92 = .ok (.bipush 12, 2) := by decide +kernel
theorem dX1_hasSight_94 : decode cX1_hasSight 94 = .ok (.iload 7, 2) := by decide +kernel
theorem dX1_hasSight_96 : decode cX1_hasSight 96 = .ok (.imul, 1) := by decide +kernel
theorem dX1_hasSight_97 : decode cX1_hasSight 97 = .ok (.iload 8, 2) := by decide +kernel
theorem dX1_hasSight_99 : decode cX1_hasSight 99 = .ok (.iadd, 1) := by decide +kernel
theorem dX1_hasSight_100 : decode cX1_hasSight 100 = .ok (.istore 9, 2) := by decide +kernel
theorem dX1_hasSight_102 : decode cX1_hasSight 102 = .ok (.aload_n 0, 1) := by decide +kernel
theorem dX1_hasSight_103 : decode cX1_hasSight 103 = .ok (.getfield 9, 3) := by decide +kernel
theorem dX1_hasSight_106 : decode cX1_hasSight 106 = .ok (.iload 9, 2) := by decide +kernel
theorem dX1_hasSight_108 : decode cX1_hasSight 108 = .ok (.baload, 1) := by decide +kernel
theorem dX1_hasSight_109 : decode cX1_hasSight 109 = .ok (.ifCond .eq 15, 3) := by decide +kernel
theorem dX1_hasSight_112 : decode cX1_hasSight 112 = .ok (.iload_n 1, 1) := by decide +kernel
theorem dX1_hasSight_113 : decode cX1_hasSight 113 = .ok (.iload_n 2, 1) := by decide +kernel
theorem dX1_hasSight_114 : decode cX1_hasSight 114 = .ok (.iload 9, 2) := by decide +kernel
theorem dX1_hasSight_116 : decode cX1_hasSight 116 = .ok (.invokestatic 32, 3) := by decide +kernel
theorem dX1_hasSight_119 : decode cX1_hasSight 119 = .ok (.ifCond .eq 5, 3) := by decide +kernel
theorem dX1_hasSight_122 : decode cX1_hasSight 122 = .ok (.iconst 0, 1) := by decide +kernel
theorem dX1_hasSight_123 : decode cX1_hasSight 123 = .ok (.ireturn, 1) := by decide +kernel
theorem dX1_hasSight_124 : decode cX1_hasSight 124 = .ok (.iinc 8 1, 3) := by decide +kernel
theorem dX1_hasSight_127 : decode cX1_hasSight 127 = .ok (.goto (-42), 3) := by decide +kernel
theorem dX1_hasSight_130 : decode cX1_hasSight 130 = .ok (.iinc 7 1, 3) := by decide +kernel
theorem dX1_hasSight_133 : decode cX1_hasSight 133 = .ok (.goto (-59), 3) := by decide +kernel
theorem dX1_hasSight_136 : decode cX1_hasSight 136 = .ok (.iconst 1, 1) := by decide +kernel
theorem dX1_hasSight_137 : decode cX1_hasSight 137 = .ok (.ireturn, 1) := by decide +kernel
theorem dX1_lineEnters_0 : decode cX1_lineEnters 0 = .ok (.iload_n 1, 1) := by decide +kernel
theorem dX1_lineEnters_1 : decode cX1_lineEnters 1 = .ok (.bipush 12, 2) := by decide +kernel
theorem dX1_lineEnters_3 : decode cX1_lineEnters 3 = .ok (.idiv, 1) := by decide +kernel
theorem dX1_lineEnters_4 : decode cX1_lineEnters 4 = .ok (.iload_n 0, 1) := by decide +kernel
theorem dX1_lineEnters_5 : decode cX1_lineEnters 5 = .ok (.bipush 12, 2) := by decide +kernel
theorem dX1_lineEnters_7 : decode cX1_lineEnters 7 = .ok (.idiv, 1) := by decide +kernel
theorem dX1_lineEnters_8 : decode cX1_lineEnters 8 = .ok (.isub, 1) := by decide +kernel
theorem dX1_lineEnters_9 : decode cX1_lineEnters 9 = .ok (.istore_n 3, 1) := by decide +kernel
theorem dX1_lineEnters_10 : decode cX1_lineEnters 10 = .ok (.iload_n 1, 1) := by decide +kernel
theorem dX1_lineEnters_11 : decode cX1_lineEnters 11 = .ok (.bipush 12, 2) := by decide +kernel
theorem dX1_lineEnters_13 : decode cX1_lineEnters 13 = .ok (.irem, 1) := by decide +kernel
theorem dX1_lineEnters_14 : decode cX1_lineEnters 14 = .ok (.iload_n 0, 1) := by decide +kernel
theorem dX1_lineEnters_15 : decode cX1_lineEnters 15 = .ok (.bipush 12, 2) := by decide +kernel
theorem dX1_lineEnters_17 : decode cX1_lineEnters 17 = .ok (.irem, 1) := by decide +kernel
theorem dX1_lineEnters_18 : decode cX1_lineEnters 18 = .ok (.isub, 1) := by decide +kernel
theorem dX1_lineEnters_19 : decode cX1_lineEnters 19 = .ok (.istore 4, 2) := by decide +kernel
theorem dX1_lineEnters_21 : decode cX1_lineEnters 21 = .ok (.iload_n 2, 1) := by decide +kernel
theorem dX1_lineEnters_22 : decode cX1_lineEnters 22 = .ok (.bipush 12, 2) := by decide +kernel
theorem dX1_lineEnters_24 : decode cX1_lineEnters 24 = .ok (.idiv, 1) := by decide +kernel
theorem dX1_lineEnters_25 : decode cX1_lineEnters 25 = .ok (.iload_n 0, 1) := by decide +kernel
theorem dX1_lineEnters_26 : decode cX1_lineEnters 26 = .ok (.bipush 12, 2) := by decide +kernel
theorem dX1_lineEnters_28 : decode cX1_lineEnters 28 = .ok (.idiv, 1) := by decide +kernel
theorem dX1_lineEnters_29 : decode cX1_lineEnters 29 = .ok (.isub, 1) := by decide +kernel
theorem dX1_lineEnters_30 : decode cX1_lineEnters 30 = .ok (.istore 5, 2) := by decide +kernel
theorem dX1_lineEnters_32 : decode cX1_lineEnters 32 = .ok (.iload_n 2, 1) := by decide +kernel
theorem dX1_lineEnters_33 : decode cX1_lineEnters 33 = .ok (.bipush 12, 2) := by decide +kernel
theorem dX1_lineEnters_35 : decode cX1_lineEnters 35 = .ok (.irem, 1) := by decide +kernel
theorem dX1_lineEnters_36 : decode cX1_lineEnters 36 = .ok (.iload_n 0, 1) := by decide +kernel
theorem dX1_lineEnters_37 : decode cX1_lineEnters 37 = .ok (.bipush 12, 2) := by decide +kernel
theorem dX1_lineEnters_39 : decode cX1_lineEnters 39 = .ok (.irem, 1) := by decide +kernel
theorem dX1_lineEnters_40 : decode cX1_lineEnters 40 = .ok (.isub, 1) := by decide +kernel
theorem dX1_lineEnters_41 : decode cX1_lineEnters 41 = .ok (.istore 6, 2) := by decide +kernel
theorem dX1_lineEnters_43 : decode cX1_lineEnters 43 = .ok (.iload_n 3, 1) := by decide +kernel
theorem dX1_lineEnters_44 : decode cX1_lineEnters 44 = .ok (.iload 6, 2) := by decide +kernel
theorem dX1_lineEnters_46 : decode cX1_lineEnters 46 = .ok (.imul, 1) := by decide +kernel
theorem dX1_lineEnters_47 : decode cX1_lineEnters 47 = .ok (.iload 4, 2) := by decide +kernel
theorem dX1_lineEnters_49 : decode cX1_lineEnters 49 = .ok (.iload 5, 2) := by decide +kernel
theorem dX1_lineEnters_51 : decode cX1_lineEnters 51 = .ok (.imul, 1) := by decide +kernel
theorem dX1_lineEnters_52 : decode cX1_lineEnters 52 = .ok (.isub, 1) := by decide +kernel
theorem dX1_lineEnters_53 : decode cX1_lineEnters 53 = .ok (.istore 7, 2) := by decide +kernel
theorem dX1_lineEnters_55 : decode cX1_lineEnters 55 = .ok (.iconst 2, 1) := by decide +kernel
theorem dX1_lineEnters_56 : decode cX1_lineEnters 56 = .ok (.iload 7, 2) := by decide +kernel
theorem dX1_lineEnters_58 : decode cX1_lineEnters 58 = .ok (.invokestatic 15, 3) := by decide +kernel
theorem dX1_lineEnters_61 : decode cX1_lineEnters 61 = .ok (.imul, 1) := by decide +kernel
theorem dX1_lineEnters_62 : decode cX1_lineEnters 62 = .ok (.iload_n 3, 1) := by decide +kernel
theorem dX1_lineEnters_63 : decode cX1_lineEnters 63 = .ok (.invokestatic 15, 3) := by decide +kernel
theorem dX1_lineEnters_66 : decode cX1_lineEnters 66 = .ok (.iload 4, 2) := by decide +kernel
theorem dX1_lineEnters_68 : decode cX1_lineEnters 68 = .ok (.invokestatic 15, 3) := by decide +kernel
theorem dX1_lineEnters_71 : decode cX1_lineEnters 71 = .ok (.iadd, 1) := by decide +kernel
theorem dX1_lineEnters_72 : decode cX1_lineEnters 72 = .ok (.if_icmp .ge 7, 3) := by decide +kernel
theorem dX1_lineEnters_75 : decode cX1_lineEnters 75 = .ok (.iconst 1, 1) := by decide +kernel
theorem dX1_lineEnters_76 : decode cX1_lineEnters 76 = .ok (.goto 4, 3) := by decide +kernel
theorem dX1_lineEnters_79 : decode cX1_lineEnters 79 = .ok (.iconst 0, 1) := by decide +kernel
theorem dX1_lineEnters_80 : decode cX1_lineEnters 80 = .ok (.ireturn, 1) := by decide +kernel
set_option maxRecDepth 20000 in
theorem ggX2_init_X3_init : GoodIn wsX2_init wsX3_init := goodIn_r _ [18, 19, 2, 3, 5, 20, 21, 22, 23, 47, 48, 49, 50, 51] (by decide +kernel) (by decide +kernel)
set_option maxRecDepth 20000 in
theorem gX2_init_X3_init_n27 : GoodIn wsX2_init (wsX3_init) := ggX2_init_X3_init
set_option maxRecDepth 20000 in
theorem ggX2_init_X0_init : GoodIn wsX2_init wsX0_init := goodIn_r _ [25, 26, 2, 3, 5, 27, 28, 29, 30, 31, 52, 53, 54, 55, 56] (by decide +kernel) (by decide +kernel)
set_option maxRecDepth 20000 in
theorem gX2_init_X0_init_n34 : GoodIn wsX2_init (wsX0_init) := ggX2_init_X0_init
set_option maxRecDepth 20000 in
theorem ggX2_init_X2_reset : GoodIn wsX2_init wsX2_reset := goodIn_r _ [36, 6, 7, 8, 12, 37, 16, 38, 39, 40, 41, 42, 43, 44, 45, 46, 47, 48, 49, 50, 51, 52, 53, 54, 55, 56] (by decide +kernel) (by decide +kernel)
set_option maxRecDepth 20000 in
theorem gX2_init_X2_reset : GoodIn wsX2_init (wsV RX2 39 RX2 yX2_reset wsX2_reset) := goodIn_app (goodIn_of _ (by decide +kernel)) ggX2_init_X2_reset
theorem dX2_init_0 : decode cX2_init 0 = .ok (.aload_n 0, 1) := by decide +kernel
theorem dX2_init_1 : decode cX2_init 1 = .ok (.invokespecial 3, 3) := by decide +kernel
theorem dX2_init_4 : decode cX2_init 4 = .ok (.aload_n 0, 1) := by decide +kernel
theorem dX2_init_5 : decode cX2_init 5 = .ok (.iconst (-1), 1) := by decide +kernel
theorem dX2_init_6 : decode cX2_init 6 = .ok (.putfield 9, 3) := by decide +kernel
theorem dX2_init_9 : decode cX2_init 9 = .ok (.aload_n 0, 1) := by decide +kernel
theorem dX2_init_10 : decode cX2_init 10 = .ok (.bipush 6, 2) := by decide +kernel
theorem dX2_init_12 : decode cX2_init 12 = .ok (.newarray .int, 2) := by decide +kernel
theorem dX2_init_14 : decode cX2_init 14 = .ok (.putfield 15, 3) := by decide +kernel
theorem dX2_init_17 : decode cX2_init 17 = .ok (.aload_n 0, 1) := by decide +kernel
theorem dX2_init_18 : decode cX2_init 18 = .ok (.bipush 6, 2) := by decide +kernel
theorem dX2_init_20 : decode cX2_init 20 = .ok (.newarray .int, 2) := by decide +kernel
theorem dX2_init_22 : decode cX2_init 22 = .ok (.putfield 19, 3) := by decide +kernel
theorem dX2_init_25 : decode cX2_init 25 = .ok (.aload_n 0, 1) := by decide +kernel
theorem dX2_init_26 : decode cX2_init 26 = .ok (.bipush 6, 2) := by decide +kernel
theorem dX2_init_28 : decode cX2_init 28 = .ok (.newarray .int, 2) := by decide +kernel
theorem dX2_init_30 : decode cX2_init 30 = .ok (.putfield 22, 3) := by decide +kernel
theorem dX2_init_33 : decode cX2_init 33 = .ok (.aload_n 0, 1) := by decide +kernel
theorem dX2_init_34 : decode cX2_init 34 = .ok (.new 25, 3) := by decide +kernel
theorem dX2_init_37 : decode cX2_init 37 = .ok (.dup, 1) := by decide +kernel
theorem dX2_init_38 : decode cX2_init 38 = .ok (.invokespecial 27, 3) := by decide +kernel
theorem dX2_init_41 : decode cX2_init 41 = .ok (.putfield 28, 3) := by decide +kernel
theorem dX2_init_44 : decode cX2_init 44 = .ok (.aload_n 0, 1) := by decide +kernel
theorem dX2_init_45 : decode cX2_init 45 = .ok (.new 32, 3) := by decide +kernel
theorem dX2_init_48 : decode cX2_init 48 = .ok (.dup, 1) := by decide +kernel
theorem dX2_init_49 : decode cX2_init 49 = .ok (.invokespecial 34, 3) := by decide +kernel
theorem dX2_init_52 : decode cX2_init 52 = .ok (.putfield 35, 3) := by decide +kernel
theorem dX2_init_55 : decode cX2_init 55 = .ok (.aload_n 0, 1) := by decide +kernel
theorem dX2_init_56 : decode cX2_init 56 = .ok (.bipush (-2), 2) := by decide +kernel
theorem dX2_init_58 : decode cX2_init 58 = .ok (.invokevirtual 39, 3) := by decide +kernel
theorem dX2_init_61 : decode cX2_init 61 = .ok (.return_, 1) := by decide +kernel
set_option maxRecDepth 20000 in
theorem ggX2_start_X2_reset : GoodIn wsX2_start wsX2_reset := goodIn_r _ [8, 9, 10, 11, 12, 13, 14, 15, 16, 17, 18, 19, 20, 21, 22, 23, 24, 25, 26, 27, 28, 29, 30, 31, 32, 33] (by decide +kernel) (by decide +kernel)
set_option maxRecDepth 20000 in
theorem gX2_start_X2_reset : GoodIn wsX2_start (wsV RX2 39 RX2 yX2_reset wsX2_reset) := goodIn_app (goodIn_of _ (by decide +kernel)) ggX2_start_X2_reset
theorem dX2_start_0 : decode cX2_start 0 = .ok (.aload_n 0, 1) := by decide +kernel
theorem dX2_start_1 : decode cX2_start 1 = .ok (.iload_n 1, 1) := by decide +kernel
theorem dX2_start_2 : decode cX2_start 2 = .ok (.putfield 43, 3) := by decide +kernel
theorem dX2_start_5 : decode cX2_start 5 = .ok (.aload_n 0, 1) := by decide +kernel
theorem dX2_start_6 : decode cX2_start 6 = .ok (.iload_n 2, 1) := by decide +kernel
theorem dX2_start_7 : decode cX2_start 7 = .ok (.putfield 46, 3) := by decide +kernel
theorem dX2_start_10 : decode cX2_start 10 = .ok (.aload_n 0, 1) := by decide +kernel
theorem dX2_start_11 : decode cX2_start 11 = .ok (.iconst 0, 1) := by decide +kernel
theorem dX2_start_12 : decode cX2_start 12 = .ok (.putfield 9, 3) := by decide +kernel
theorem dX2_start_15 : decode cX2_start 15 = .ok (.aload_n 0, 1) := by decide +kernel
theorem dX2_start_16 : decode cX2_start 16 = .ok (.iconst (-1), 1) := by decide +kernel
theorem dX2_start_17 : decode cX2_start 17 = .ok (.invokevirtual 39, 3) := by decide +kernel
theorem dX2_start_20 : decode cX2_start 20 = .ok (.return_, 1) := by decide +kernel
set_option maxRecDepth 20000 in
theorem ggX2_close_X2_reset : GoodIn wsX2_close wsX2_reset := goodIn_r _ [6, 7, 8, 9, 10, 11, 12, 13, 14, 15, 16, 17, 18, 19, 20, 21, 22, 23, 24, 25, 26, 27, 28, 29, 30, 31] (by decide +kernel) (by decide +kernel)
set_option maxRecDepth 20000 in
theorem gX2_close_X2_reset : GoodIn wsX2_close (wsV RX2 39 RX2 yX2_reset wsX2_reset) := goodIn_app (goodIn_of _ (by decide +kernel)) ggX2_close_X2_reset
theorem dX2_close_0 : decode cX2_close 0 = .ok (.aload_n 0, 1) := by decide +kernel
theorem dX2_close_1 : decode cX2_close 1 = .ok (.iconst (-1), 1) := by decide +kernel
theorem dX2_close_2 : decode cX2_close 2 = .ok (.putfield 9, 3) := by decide +kernel
theorem dX2_close_5 : decode cX2_close 5 = .ok (.aload_n 0, 1) := by decide +kernel
theorem dX2_close_6 : decode cX2_close 6 = .ok (.bipush (-2), 2) := by decide +kernel
theorem dX2_close_8 : decode cX2_close 8 = .ok (.invokevirtual 39, 3) := by decide +kernel
theorem dX2_close_11 : decode cX2_close 11 = .ok (.return_, 1) := by decide +kernel
theorem dX2_reset_0 : decode cX2_reset 0 = .ok (.iconst 0, 1) := by decide +kernel
theorem dX2_reset_1 : decode cX2_reset 1 = .ok (.istore_n 2, 1) := by decide +kernel
theorem dX2_reset_2 : decode cX2_reset 2 = .ok (.iload_n 2, 1) := by decide +kernel
theorem dX2_reset_3 : decode cX2_reset 3 = .ok (.bipush 6, 2) := by decide +kernel
theorem dX2_reset_5 : decode cX2_reset 5 = .ok (.if_icmp .ge 30, 3) := by decide +kernel
theorem dX2_reset_8 : decode cX2_reset 8 = .ok (.aload_n 0, 1) := by decide +kernel
theorem dX2_reset_9 : decode cX2_reset 9 = .ok (.getfield 15, 3) := by decide +kernel
theorem dX2_reset_12 : decode cX2_reset 12 = .ok (.iload_n 2, 1) := by decide +kernel
theorem dX2_reset_13 : decode cX2_reset 13 = .ok (.iload_n 1, 1) := by decide +kernel
theorem dX2_reset_14 : decode cX2_reset 14 = .ok (.iastore, 1) := by decide +kernel
theorem dX2_reset_15 : decode cX2_reset 15 = .ok (.aload_n 0, 1) := by decide +kernel
theorem dX2_reset_16 : decode cX2_reset 16 = .ok (.getfield 19, 3) := by decide +kernel
theorem dX2_reset_19 : decode cX2_reset 19 = .ok (.iload_n 2, 1) := by decide +kernel
theorem dX2_reset_20 : decode cX2_reset 20 = .ok (.iconst (-1), 1) := by decide +kernel
theorem dX2_reset_21 : decode cX2_reset 21 = .ok (.iastore, 1) := by decide +kernel
theorem dX2_reset_22 : decode cX2_reset 22 = .ok (.aload_n 0, 1) := by decide +kernel
theorem dX2_reset_23 : decode cX2_reset 23 = .ok (.getfield 22, 3) := by decide +kernel
theorem dX2_reset_26 : decode cX2_reset 26 = .ok (.iload_n 2, 1) := by decide +kernel
theorem dX2_reset_27 : decode cX2_reset 27 = .ok (.iconst (-1), 1) := by decide +kernel
theorem dX2_reset_28 : decode cX2_reset 28 = .ok (.iastore, 1) := by decide +kernel
theorem dX2_reset_29 : decode cX2_reset 29 = .ok (.iinc 2 1, 3) := by decide +kernel
theorem dX2_reset_32 : decode cX2_reset 32 = .ok (.goto (-30), 3) := by decide +kernel
theorem dX2_reset_35 : decode cX2_reset 35 = .ok (.aload_n 0, 1) := by decide +kernel
theorem dX2_reset_36 : decode cX2_reset 36 = .ok (.getfield 28, 3) := by decide +kernel
theorem dX2_reset_39 : decode cX2_reset 39 = .ok (.iconst 0, 1) := by decide +kernel
theorem dX2_reset_40 : decode cX2_reset 40 = .ok (.putfield 49, 3) := by decide +kernel
theorem dX2_reset_43 : decode cX2_reset 43 = .ok (.aload_n 0, 1) := by decide +kernel
theorem dX2_reset_44 : decode cX2_reset 44 = .ok (.getfield 35, 3) := by decide +kernel
theorem dX2_reset_47 : decode cX2_reset 47 = .ok (.iconst 0, 1) := by decide +kernel
theorem dX2_reset_48 : decode cX2_reset 48 = .ok (.putfield 52, 3) := by decide +kernel
theorem dX2_reset_51 : decode cX2_reset 51 = .ok (.return_, 1) := by decide +kernel
theorem dX2_isPlayed_0 : decode cX2_isPlayed 0 = .ok (.aload_n 0, 1) := by decide +kernel
theorem dX2_isPlayed_1 : decode cX2_isPlayed 1 = .ok (.getfield 9, 3) := by decide +kernel
theorem dX2_isPlayed_4 : decode cX2_isPlayed 4 = .ok (.iconst (-1), 1) := by decide +kernel
theorem dX2_isPlayed_5 : decode cX2_isPlayed 5 = .ok (.if_icmp .eq 7, 3) := by decide +kernel
theorem dX2_isPlayed_8 : decode cX2_isPlayed 8 = .ok (.iconst 1, 1) := by decide +kernel
theorem dX2_isPlayed_9 : decode cX2_isPlayed 9 = .ok (.goto 4, 3) := by decide +kernel
theorem dX2_isPlayed_12 : decode cX2_isPlayed 12 = .ok (.iconst 0, 1) := by decide +kernel
theorem dX2_isPlayed_13 : decode cX2_isPlayed 13 = .ok (.ireturn, 1) := by decide +kernel
theorem dX2_time_0 : decode cX2_time 0 = .ok (.aload_n 0, 1) := by decide +kernel
theorem dX2_time_1 : decode cX2_time 1 = .ok (.getfield 9, 3) := by decide +kernel
theorem dX2_time_4 : decode cX2_time 4 = .ok (.ireturn, 1) := by decide +kernel
theorem dX2_homeTeam_0 : decode cX2_homeTeam 0 = .ok (.aload_n 0, 1) := by decide +kernel
theorem dX2_homeTeam_1 : decode cX2_homeTeam 1 = .ok (.getfield 43, 3) := by decide +kernel
theorem dX2_homeTeam_4 : decode cX2_homeTeam 4 = .ok (.ireturn, 1) := by decide +kernel
theorem dX2_awayTeam_0 : decode cX2_awayTeam 0 = .ok (.aload_n 0, 1) := by decide +kernel
theorem dX2_awayTeam_1 : decode cX2_awayTeam 1 = .ok (.getfield 46, 3) := by decide +kernel
theorem dX2_awayTeam_4 : decode cX2_awayTeam 4 = .ok (.ireturn, 1) := by decide +kernel
theorem dX2_cellOf_0 : decode cX2_cellOf 0 = .ok (.aload_n 0, 1) := by decide +kernel
theorem dX2_cellOf_1 : decode cX2_cellOf 1 = .ok (.getfield 15, 3) := by decide +kernel
theorem dX2_cellOf_4 : decode cX2_cellOf 4 = .ok (.iload_n 1, 1) := by decide +kernel
theorem dX2_cellOf_5 : decode cX2_cellOf 5 = .ok (.iaload, 1) := by decide +kernel
theorem dX2_cellOf_6 : decode cX2_cellOf 6 = .ok (.ireturn, 1) := by decide +kernel
theorem dX2_hitOf_0 : decode cX2_hitOf 0 = .ok (.aload_n 0, 1) := by decide +kernel
theorem dX2_hitOf_1 : decode cX2_hitOf 1 = .ok (.getfield 19, 3) := by decide +kernel
theorem dX2_hitOf_4 : decode cX2_hitOf 4 = .ok (.iload_n 1, 1) := by decide +kernel
theorem dX2_hitOf_5 : decode cX2_hitOf 5 = .ok (.iaload, 1) := by decide +kernel
theorem dX2_hitOf_6 : decode cX2_hitOf 6 = .ok (.ireturn, 1) := by decide +kernel
theorem dX2_playerOn_0 : decode cX2_playerOn 0 = .ok (.iconst 0, 1) := by decide +kernel
theorem dX2_playerOn_1 : decode cX2_playerOn 1 = .ok (.istore_n 2, 1) := by decide +kernel
theorem dX2_playerOn_2 : decode cX2_playerOn 2 = .ok (.iload_n 2, 1) := by decide +kernel
theorem dX2_playerOn_3 : decode cX2_playerOn 3 = .ok (.bipush 6, 2) := by decide +kernel
theorem dX2_playerOn_5 : decode cX2_playerOn 5 = .ok (.if_icmp .ge 21, 3) := by decide +kernel
theorem dX2_playerOn_8 : decode cX2_playerOn 8 = .ok (.aload_n 0, 1) := by decide +kernel
theorem dX2_playerOn_9 : decode cX2_playerOn 9 = .ok (.getfield 15, 3) := by decide +kernel
theorem dX2_playerOn_12 : decode cX2_playerOn 12 = .ok (.iload_n 2, 1) := by decide +kernel
theorem dX2_playerOn_13 : decode cX2_playerOn 13 = .ok (.iaload, 1) := by decide +kernel
theorem dX2_playerOn_14 : decode cX2_playerOn 14 = .ok (.iload_n 1, 1) := by decide +kernel
theorem dX2_playerOn_15 : decode cX2_playerOn 15 = .ok (.if_icmp .ne 5, 3) := by decide +kernel
theorem dX2_playerOn_18 : decode cX2_playerOn 18 = .ok (.iload_n 2, 1) := by decide +kernel
theorem dX2_playerOn_19 : decode cX2_playerOn 19 = .ok (.ireturn, 1) := by decide +kernel
theorem dX2_playerOn_20 : decode cX2_playerOn 20 = .ok (.iinc 2 1, 3) := by decide +kernel
theorem dX2_playerOn_23 : decode cX2_playerOn 23 = .ok (.goto (-21), 3) := by decide +kernel
theorem dX2_playerOn_26 : decode cX2_playerOn 26 = .ok (.iconst (-1), 1) := by decide +kernel
theorem dX2_playerOn_27 : decode cX2_playerOn 27 = .ok (.ireturn, 1) := by decide +kernel
theorem dX2_put_0 : decode cX2_put 0 = .ok (.aload_n 0, 1) := by decide +kernel
theorem dX2_put_1 : decode cX2_put 1 = .ok (.getfield 15, 3) := by decide +kernel
theorem dX2_put_4 : decode cX2_put 4 = .ok (.iload_n 1, 1) := by decide +kernel
theorem dX2_put_5 : decode cX2_put 5 = .ok (.iload_n 2, 1) := by decide +kernel
theorem dX2_put_6 : decode cX2_put 6 = .ok (.iastore, 1) := by decide +kernel
theorem dX2_put_7 : decode cX2_put 7 = .ok (.return_, 1) := by decide +kernel
theorem dX2_mayFire_0 : decode cX2_mayFire 0 = .ok (.aload_n 0, 1) := by decide +kernel
theorem dX2_mayFire_1 : decode cX2_mayFire 1 = .ok (.getfield 22, 3) := by decide +kernel
theorem dX2_mayFire_4 : decode cX2_mayFire 4 = .ok (.iload_n 1, 1) := by decide +kernel
theorem dX2_mayFire_5 : decode cX2_mayFire 5 = .ok (.iaload, 1) := by decide +kernel
theorem dX2_mayFire_6 : decode cX2_mayFire 6 = .ok (.aload_n 0, 1) := by decide +kernel
theorem dX2_mayFire_7 : decode cX2_mayFire 7 = .ok (.getfield 9, 3) := by decide +kernel
theorem dX2_mayFire_10 : decode cX2_mayFire 10 = .ok (.if_icmp .eq 19, 3) := by decide +kernel
theorem dX2_mayFire_13 : decode cX2_mayFire 13 = .ok (.aload_n 0, 1) := by decide +kernel
theorem dX2_mayFire_14 : decode cX2_mayFire 14 = .ok (.getfield 28, 3) := by decide +kernel
theorem dX2_mayFire_17 : decode cX2_mayFire 17 = .ok (.getfield 49, 3) := by decide +kernel
theorem dX2_mayFire_20 : decode cX2_mayFire 20 = .ok (.bipush 100, 2) := by decide +kernel
theorem dX2_mayFire_22 : decode cX2_mayFire 22 = .ok (.if_icmp .ge 7, 3) := by decide +kernel
theorem dX2_mayFire_25 : decode cX2_mayFire 25 = .ok (.iconst 1, 1) := by decide +kernel
theorem dX2_mayFire_26 : decode cX2_mayFire 26 = .ok (.goto 4, 3) := by decide +kernel
theorem dX2_mayFire_29 : decode cX2_mayFire 29 = .ok (.iconst 0, 1) := by decide +kernel
theorem dX2_mayFire_30 : decode cX2_mayFire 30 = .ok (.ireturn, 1) := by decide +kernel
set_option maxRecDepth 20000 in
theorem ggX2_fire_X1_distance : GoodIn wsX2_fire wsX1_distance := goodIn_r _ [8, 9, 10, 11, 12, 13, 14, 15] (by decide +kernel) (by decide +kernel)
set_option maxRecDepth 20000 in
theorem gX2_fire_X1_distance : GoodIn wsX2_fire (va_wsS RX2 53 yX1_distance wsX1_distance) := goodIn_app (goodIn_of _ (by decide +kernel)) ggX2_fire_X1_distance
set_option maxRecDepth 20000 in
theorem ggX2_fire_X3_add : GoodIn wsX2_fire wsX3_add := goodIn_r _ [20, 21, 22, 23, 24, 25, 34, 35, 36, 37, 38] (by decide +kernel) (by decide +kernel)
set_option maxRecDepth 20000 in
theorem gX2_fire_X3_add : GoodIn wsX2_fire (wsV RX2 59 RX3 yX3_add wsX3_add) := goodIn_app (goodIn_of _ (by decide +kernel)) ggX2_fire_X3_add
theorem dX2_fire_0 : decode cX2_fire 0 = .ok (.aload_n 0, 1) := by decide +kernel
theorem dX2_fire_1 : decode cX2_fire 1 = .ok (.getfield 15, 3) := by decide +kernel
theorem dX2_fire_4 : decode cX2_fire 4 = .ok (.iload_n 1, 1) := by decide +kernel
theorem dX2_fire_5 : decode cX2_fire 5 = .ok (.iaload, 1) := by decide +kernel
theorem dX2_fire_6 : decode cX2_fire 6 = .ok (.istore_n 3, 1) := by decide +kernel
theorem dX2_fire_7 : decode cX2_fire 7 = .ok (.aload_n 0, 1) := by decide +kernel
theorem dX2_fire_8 : decode cX2_fire 8 = .ok (.getfield 9, 3) := by decide +kernel
theorem dX2_fire_11 : decode cX2_fire 11 = .ok (.iload_n 3, 1) := by decide +kernel
theorem dX2_fire_12 : decode cX2_fire 12 = .ok (.iload_n 2, 1) := by decide +kernel
theorem dX2_fire_13 : decode cX2_fire 13 = .ok (.invokestatic 53, 3) := by decide +kernel
theorem dX2_fire_16 : decode cX2_fire 16 = .ok (.iconst 3, 1) := by decide +kernel
theorem dX2_fire_17 : decode cX2_fire 17 = .ok (.iadd, 1) := by decide +kernel
theorem dX2_fire_18 : decode cX2_fire 18 = .ok (.iconst 4, 1) := by decide +kernel
theorem dX2_fire_19 : decode cX2_fire 19 = .ok (.idiv, 1) := by decide +kernel
theorem dX2_fire_20 : decode cX2_fire 20 = .ok (.iadd, 1) := by decide +kernel
theorem dX2_fire_21 : decode cX2_fire 21 = .ok (.istore 4, 2) := by decide +kernel
theorem dX2_fire_23 : decode cX2_fire 23 = .ok (.aload_n 0, 1) := by decide +kernel
theorem dX2_fire_24 : decode cX2_fire 24 = .ok (.getfield 22, 3) := by decide +kernel
theorem dX2_fire_27 : decode cX2_fire 27 = .ok (.iload_n 1, 1) := by decide +kernel
theorem dX2_fire_28 : decode cX2_fire 28 = .ok (.aload_n 0, 1) := by decide +kernel
theorem dX2_fire_29 : decode cX2_fire 29 = .ok (.getfield 9, 3) := by decide +kernel
theorem dX2_fire_32 : decode cX2_fire 32 = .ok (.iastore, 1) := by decide +kernel
theorem dX2_fire_33 : decode cX2_fire 33 = .ok (.aload_n 0, 1) := by decide +kernel
theorem dX2_fire_34 : decode cX2_fire 34 = .ok (.getfield 28, 3) := by decide +kernel
theorem dX2_fire_37 : decode cX2_fire 37 = .ok (.iload_n 1, 1) := by decide +kernel
theorem dX2_fire_38 : decode cX2_fire 38 = .ok (.iload_n 3, 1) := by decide +kernel
theorem dX2_fire_39 : decode cX2_fire 39 = .ok (.iload_n 2, 1) := by decide +kernel
theorem dX2_fire_40 : decode cX2_fire 40 = .ok (.iload 4, 2) := by decide +kernel
theorem dX2_fire_42 : decode cX2_fire 42 = .ok (.invokevirtual 59, 3) := by decide +kernel
theorem dX2_fire_45 : decode cX2_fire 45 = .ok (.iload 4, 2) := by decide +kernel
theorem dX2_fire_47 : decode cX2_fire 47 = .ok (.ireturn, 1) := by decide +kernel
theorem dX2_countFlying_0 : decode cX2_countFlying 0 = .ok (.iconst 0, 1) := by decide +kernel
theorem dX2_countFlying_1 : decode cX2_countFlying 1 = .ok (.istore_n 1, 1) := by decide +kernel
theorem dX2_countFlying_2 : decode cX2_countFlying 2 = .ok (.iconst 0, 1) := by decide +kernel
theorem dX2_countFlying_3 : decode cX2_countFlying 3 = .ok (.istore_n 2, 1) := by decide +kernel
theorem dX2_countFlying_4 : decode cX2_countFlying 4 = .ok (.iload_n 2, 1) := by decide +kernel
theorem dX2_countFlying_5 : decode cX2_countFlying 5 = .ok (.aload_n 0, 1) := by decide +kernel
theorem dX2_countFlying_6 : decode cX2_countFlying 6 = .ok (.getfield 28, 3) := by decide +kernel
theorem dX2_countFlying_9 : decode cX2_countFlying 9 = .ok (.getfield 49, 3) := by decide +kernel
theorem dX2_countFlying_12 : decode cX2_countFlying 12 = .ok (.if_icmp .ge 28, 3) := by decide +kernel
theorem dX2_countFlying_15 : decode cX2_countFlying 15 = .ok (.aload_n 0, 1) := by decide +kernel
theorem dX2_countFlying_16 : decode cX2_countFlying 16 = .ok (.getfield 28, 3) := by decide +kernel
theorem dX2_countFlying_19 : decode cX2_countFlying 19 = .ok (.getfield 63, 3) := by decide +kernel
theorem dX2_countFlying_22 : decode cX2_countFlying 22 = .ok (.iload_n 2, 1) := by decide +kernel
theorem dX2_countFlying_23 : decode cX2_countFlying 23 = .ok (.iaload, 1) := by decide +kernel
theorem dX2_countFlying_24 : decode cX2_countFlying 24 = .ok (.aload_n 0, 1) := by decide +kernel
theorem dX2_countFlying_25 : decode cX2_countFlying 25 = .ok (.getfield 9, 3) := by decide +kernel
theorem dX2_countFlying_28 : decode cX2_countFlying 28 = .ok (.if_icmp .le 6, 3) := by decide +kernel
theorem dX2_countFlying_31 : decode cX2_countFlying 31 = .ok (.iinc 1 1, 3) := by decide +kernel
theorem dX2_countFlying_34 : decode cX2_countFlying 34 = .ok (.iinc 2 1, 3) := by decide +kernel
theorem dX2_countFlying_37 : decode cX2_countFlying 37 = .ok (.goto (-33), 3) := by decide +kernel
theorem dX2_countFlying_40 : decode cX2_countFlying 40 = .ok (.iload_n 1, 1) := by decide +kernel
theorem dX2_countFlying_41 : decode cX2_countFlying 41 = .ok (.ireturn, 1) := by decide +kernel
set_option maxRecDepth 20000 in
theorem ggX2_nextTick_X2_strikes : GoodIn wsX2_nextTick wsX2_strikes := goodIn_r _ [9, 2, 10, 11, 12, 13, 1, 14, 15, 16, 8, 17, 18, 19, 20, 21, 22, 23, 24, 25, 26, 27, 28, 29, 30, 31, 32, 33, 34, 35, 36, 37, 38, 39, 40, 41, 42, 43, 44, 45, 46, 47, 48, 49, 50, 51] (by decide +kernel) (by decide +kernel)
set_option maxRecDepth 20000 in
theorem gX2_nextTick_X2_strikes : GoodIn wsX2_nextTick (wsV RX2 66 RX2 yX2_strikes wsX2_strikes) := goodIn_app (goodIn_of _ (by decide +kernel)) ggX2_nextTick_X2_strikes
theorem dX2_nextTick_0 : decode cX2_nextTick 0 = .ok (.aload_n 0, 1) := by decide +kernel
theorem dX2_nextTick_1 : decode cX2_nextTick 1 = .ok (.dup, 1) := by decide +kernel
theorem dX2_nextTick_2 : decode cX2_nextTick 2 = .ok (.getfield 9, 3) := by decide +kernel
theorem dX2_nextTick_5 : decode cX2_nextTick 5 = .ok (.iconst 1, 1) := by decide +kernel
theorem dX2_nextTick_6 : decode cX2_nextTick 6 = .ok (.iadd, 1) := by decide +kernel
theorem dX2_nextTick_7 : decode cX2_nextTick 7 = .ok (.putfield 9, 3) := by decide +kernel
theorem dX2_nextTick_10 : decode cX2_nextTick 10 = .ok (.iconst 0, 1) := by decide +kernel
theorem dX2_nextTick_11 : decode cX2_nextTick 11 = .ok (.istore_n 2, 1) := by decide +kernel
theorem dX2_nextTick_12 : decode cX2_nextTick 12 = .ok (.iconst 0, 1) := by decide +kernel
theorem dX2_nextTick_13 : decode cX2_nextTick 13 = .ok (.istore_n 3, 1) := by decide +kernel
theorem dX2_nextTick_14 : decode cX2_nextTick 14 = .ok (.iload_n 3, 1) := by decide +kernel
theorem dX2_nextTick_15 : decode cX2_nextTick 15 = .ok (.aload_n 0, 1) := by decide +kernel
theorem dX2_nextTick_16 : decode cX2_nextTick 16 = .ok (.getfield 28, 3) := by decide +kernel
theorem dX2_nextTick_19 : decode cX2_nextTick 19 = .ok (.getfield 49, 3) := by decide +kernel
theorem dX2_nextTick_22 : decode cX2_nextTick 22 = .ok (.if_icmp .ge 37, 3) := by decide +kernel
theorem dX2_nextTick_25 : decode cX2_nextTick 25 = .ok (.aload_n 0, 1) := by decide +kernel
theorem dX2_nextTick_26 : decode cX2_nextTick 26 = .ok (.getfield 28, 3) := by decide +kernel
theorem dX2_nextTick_29 : decode cX2_nextTick 29 = .ok (.getfield 63, 3) := by decide +kernel
theorem dX2_nextTick_32 : decode cX2_nextTick 32 = .ok (.iload_n 3, 1) := by decide +kernel
theorem dX2_nextTick_33 : decode cX2_nextTick 33 = .ok (.iaload, 1) := by decide +kernel
theorem dX2_nextTick_34 : decode cX2_nextTick 34 = .ok (.aload_n 0, 1) := by decide +kernel
theorem dX2_nextTick_35 : decode cX2_nextTick 35 = .ok (.getfield 9, 3) := by decide +kernel
theorem dX2_nextTick_38 : decode cX2_nextTick 38 = .ok (.if_icmp .ne 15, 3) := by decide +kernel
theorem dX2_nextTick_41 : decode cX2_nextTick 41 = .ok (.aload_n 0, 1) := by decide +kernel
theorem dX2_nextTick_42 : decode cX2_nextTick 42 = .ok (.iload_n 3, 1) := by decide +kernel
theorem dX2_nextTick_43 : decode cX2_nextTick 43 = .ok (.aload_n 1, 1) := by decide +kernel
theorem dX2_nextTick_44 : decode cX2_nextTick 44 = .ok (.invokevirtual 66, 3) := by decide +kernel
theorem dX2_nextTick_47 : decode cX2_nextTick 47 = .ok (.ifCond .eq 6, 3) := by decide +kernel
theorem dX2_nextTick_50 : decode cX2_nextTick 50 = .ok (.iinc 2 1, 3) := by decide +kernel
theorem dX2_nextTick_53 : decode cX2_nextTick 53 = .ok (.iinc 3 1, 3) := by decide +kernel
theorem dX2_nextTick_56 : decode cX2_nextTick 56 = .ok (.goto (-42), 3) := by decide +kernel
theorem dX2_nextTick_59 : decode cX2_nextTick 59 = .ok (.iload_n 2, 1) := by decide +kernel
theorem dX2_nextTick_60 : decode cX2_nextTick 60 = .ok (.ireturn, 1) := by decide +kernel
set_option maxRecDepth 20000 in
theorem ggX2_strikes_X2_playerOn : GoodIn wsX2_strikes wsX2_playerOn := goodIn_r _ [11, 12, 32, 33, 34, 35, 36, 37, 38, 39] (by decide +kernel) (by decide +kernel)
set_option maxRecDepth 20000 in
theorem gX2_strikes_X2_playerOn : GoodIn wsX2_strikes (wsV RX2 73 RX2 yX2_playerOn wsX2_playerOn) := goodIn_app (goodIn_of _ (by decide +kernel)) ggX2_strikes_X2_playerOn
set_option maxRecDepth 20000 in
theorem ggX2_strikes_X1_hasSight : GoodIn wsX2_strikes wsX1_hasSight := goodIn_r _ [17, 18, 19, 20, 21, 22, 23, 24, 25, 26, 27, 16, 28, 29, 30, 31, 45] (by decide +kernel) (by decide +kernel)
set_option maxRecDepth 20000 in
theorem gX2_strikes_X1_hasSight : GoodIn wsX2_strikes (wsV RX2 83 RX1 yX1_hasSight wsX1_hasSight) := goodIn_app (goodIn_of _ (by decide +kernel)) ggX2_strikes_X1_hasSight
theorem dX2_strikes_0 : decode cX2_strikes 0 = .ok (.aload_n 0, 1) := by decide +kernel
theorem dX2_strikes_1 : decode cX2_strikes 1 = .ok (.getfield 28, 3) := by decide +kernel
theorem dX2_strikes_4 : decode cX2_strikes 4 = .ok (.getfield 70, 3) := by decide +kernel
theorem dX2_strikes_7 : decode cX2_strikes 7 = .ok (.iload_n 1, 1) := by decide +kernel
theorem dX2_strikes_8 : decode cX2_strikes 8 = .ok (.iaload, 1) := by decide +kernel
theorem dX2_strikes_9 : decode cX2_strikes 9 = .ok (.istore_n 3, 1) := by decide +kernel
theorem dX2_strikes_10 : decode cX2_strikes 10 = .ok (.aload_n 0, 1) := by decide +kernel
theorem dX2_strikes_11 : decode cX2_strikes 11 = .ok (.iload_n 3, 1) := by decide +kernel
theorem dX2_strikes_12 : decode cX2_strikes 12 = .ok (.invokevirtual 73, 3) := by decide +kernel
theorem dX2_strikes_15 : decode cX2_strikes 15 = .ok (.istore 4, 2) := by decide +kernel
theorem dX2_strikes_17 : decode cX2_strikes 17 = .ok (.iload 4, 2) := by decide +kernel
theorem dX2_strikes_19 : decode cX2_strikes 19 = .ok (.iconst (-1), 1) := by decide +kernel
theorem dX2_strikes_20 : decode cX2_strikes 20 = .ok (.if_icmp .eq 17, 3) := by decide +kernel
theorem dX2_strikes_23 : decode cX2_strikes 23 = .ok (.iload 4, 2) := by decide +kernel
theorem dX2_strikes_25 : decode cX2_strikes 25 = .ok (.aload_n 0, 1) := by decide +kernel
theorem dX2_strikes_26 : decode cX2_strikes 26 = .ok (.getfield 28, 3) := by decide +kernel
theorem dX2_strikes_29 : decode cX2_strikes 29 = .ok (.getfield 77, 3) := by decide +kernel
theorem dX2_strikes_32 : decode cX2_strikes 32 = .ok (.iload_n 1, 1) := by decide +kernel
theorem dX2_strikes_33 : decode cX2_strikes 33 = .ok (.iaload, 1) := by decide +kernel
theorem dX2_strikes_34 : decode cX2_strikes 34 = .ok (.if_icmp .ne 5, 3) := by decide +kernel
theorem dX2_strikes_37 : decode cX2_strikes 37 = .ok (.iconst 0, 1) := by decide +kernel
theorem dX2_strikes_38 : decode cX2_strikes 38 = .ok (.ireturn, 1) := by decide +kernel
theorem dX2_strikes_39 : decode cX2_strikes 39 = .ok (.aload_n 2, 1) := by decide +kernel
theorem dX2_strikes_40 : decode cX2_strikes 40 = .ok (.aload_n 0, 1) := by decide +kernel
theorem dX2_strikes_41 : decode cX2_strikes 41 = .ok (.getfield 28, 3) := by decide +kernel
theorem dX2_strikes_44 : decode cX2_strikes 44 = .ok (.getfield 80, 3) := by decide +kernel
theorem dX2_strikes_47 : decode cX2_strikes 47 = .ok (.iload_n 1, 1) := by decide +kernel
theorem dX2_strikes_48 : decode cX2_strikes 48 = .ok (.iaload, 1) := by decide +kernel
theorem dX2_strikes_49 : decode cX2_strikes 49 = .ok (.iload_n 3, 1) := by decide +kernel
theorem dX2_strikes_50 : decode cX2_strikes 50 = .ok (.invokevirtual 83, 3) := by decide +kernel
theorem dX2_strikes_53 : decode cX2_strikes 53 = .ok (.ifCond .ne 5, 3) := by decide +kernel
theorem dX2_strikes_56 : decode cX2_strikes 56 = .ok (.iconst 0, 1) := by decide +kernel
theorem dX2_strikes_57 : decode cX2_strikes 57 = .ok (.ireturn, 1) := by decide +kernel
theorem dX2_strikes_58 : decode cX2_strikes 58 = .ok (.aload_n 0, 1) := by decide +kernel
theorem dX2_strikes_59 : decode cX2_strikes 59 = .ok (.getfield 19, 3) := by decide +kernel
theorem dX2_strikes_62 : decode cX2_strikes 62 = .ok (.iload 4, 2) := by decide +kernel
theorem dX2_strikes_64 : decode cX2_strikes 64 = .ok (.iaload, 1) := by decide +kernel
theorem dX2_strikes_65 : decode cX2_strikes 65 = .ok (.iconst (-1), 1) := by decide +kernel
theorem dX2_strikes_66 : decode cX2_strikes 66 = .ok (.if_icmp .ne 14, 3) := by decide +kernel
theorem dX2_strikes_69 : decode cX2_strikes 69 = .ok (.aload_n 0, 1) := by decide +kernel
theorem dX2_strikes_70 : decode cX2_strikes 70 = .ok (.getfield 19, 3) := by decide +kernel
theorem dX2_strikes_73 : decode cX2_strikes 73 = .ok (.iload 4, 2) := by decide +kernel
theorem dX2_strikes_75 : decode cX2_strikes 75 = .ok (.aload_n 0, 1) := by decide +kernel
theorem dX2_strikes_76 : decode cX2_strikes 76 = .ok (.getfield 9, 3) := by decide +kernel
theorem dX2_strikes_79 : decode cX2_strikes 79 = .ok (.iastore, 1) := by decide +kernel
theorem dX2_strikes_80 : decode cX2_strikes 80 = .ok (.iconst 1, 1) := by decide +kernel
theorem dX2_strikes_81 : decode cX2_strikes 81 = .ok (.ireturn, 1) := by decide +kernel
theorem dX2_mayCall_0 : decode cX2_mayCall 0 = .ok (.aload_n 0, 1) := by decide +kernel
theorem dX2_mayCall_1 : decode cX2_mayCall 1 = .ok (.getfield 35, 3) := by decide +kernel
theorem dX2_mayCall_4 : decode cX2_mayCall 4 = .ok (.getfield 52, 3) := by decide +kernel
theorem dX2_mayCall_7 : decode cX2_mayCall 7 = .ok (.sipush 512, 3) := by decide +kernel
theorem dX2_mayCall_10 : decode cX2_mayCall 10 = .ok (.if_icmp .ge 7, 3) := by decide +kernel
theorem dX2_mayCall_13 : decode cX2_mayCall 13 = .ok (.iconst 1, 1) := by decide +kernel
theorem dX2_mayCall_14 : decode cX2_mayCall 14 = .ok (.goto 4, 3) := by decide +kernel
theorem dX2_mayCall_17 : decode cX2_mayCall 17 = .ok (.iconst 0, 1) := by decide +kernel
theorem dX2_mayCall_18 : decode cX2_mayCall 18 = .ok (.ireturn, 1) := by decide +kernel
set_option maxRecDepth 20000 in
theorem ggX2_callOut_X0_add : GoodIn wsX2_callOut wsX0_add := goodIn_r _ [8, 9, 10, 11, 12, 13, 22, 23, 24, 25, 26] (by decide +kernel) (by decide +kernel)
set_option maxRecDepth 20000 in
theorem gX2_callOut_X0_add : GoodIn wsX2_callOut (wsV RX2 87 RX0 yX0_add wsX0_add) := goodIn_app (goodIn_of _ (by decide +kernel)) ggX2_callOut_X0_add
theorem dX2_callOut_0 : decode cX2_callOut 0 = .ok (.aload_n 0, 1) := by decide +kernel
theorem dX2_callOut_1 : decode cX2_callOut 1 = .ok (.getfield 35, 3) := by decide +kernel
theorem dX2_callOut_4 : decode cX2_callOut 4 = .ok (.iload_n 1, 1) := by decide +kernel
theorem dX2_callOut_5 : decode cX2_callOut 5 = .ok (.aload_n 0, 1) := by decide +kernel
theorem dX2_callOut_6 : decode cX2_callOut 6 = .ok (.getfield 15, 3) := by decide +kernel
theorem dX2_callOut_9 : decode cX2_callOut 9 = .ok (.iload_n 1, 1) := by decide +kernel
theorem dX2_callOut_10 : decode cX2_callOut 10 = .ok (.iaload, 1) := by decide +kernel
theorem dX2_callOut_11 : decode cX2_callOut 11 = .ok (.aload_n 0, 1) := by decide +kernel
theorem dX2_callOut_12 : decode cX2_callOut 12 = .ok (.getfield 9, 3) := by decide +kernel
theorem dX2_callOut_15 : decode cX2_callOut 15 = .ok (.invokevirtual 87, 3) := by decide +kernel
theorem dX2_callOut_18 : decode cX2_callOut 18 = .ok (.istore_n 2, 1) := by decide +kernel
theorem dX2_callOut_19 : decode cX2_callOut 19 = .ok (.aload_n 0, 1) := by decide +kernel
theorem dX2_callOut_20 : decode cX2_callOut 20 = .ok (.getfield 15, 3) := by decide +kernel
theorem dX2_callOut_23 : decode cX2_callOut 23 = .ok (.iload_n 1, 1) := by decide +kernel
theorem dX2_callOut_24 : decode cX2_callOut 24 = .ok (.bipush (-2), 2) := by decide +kernel
theorem dX2_callOut_26 : decode cX2_callOut 26 = .ok (.iastore, 1) := by decide +kernel
theorem dX2_callOut_27 : decode cX2_callOut 27 = .ok (.iload_n 2, 1) := by decide +kernel
theorem dX2_callOut_28 : decode cX2_callOut 28 = .ok (.ireturn, 1) := by decide +kernel
theorem dX2_hasCall_0 : decode cX2_hasCall 0 = .ok (.iload_n 1, 1) := by decide +kernel
theorem dX2_hasCall_1 : decode cX2_hasCall 1 = .ok (.ifCond .lt 18, 3) := by decide +kernel
theorem dX2_hasCall_4 : decode cX2_hasCall 4 = .ok (.iload_n 1, 1) := by decide +kernel
theorem dX2_hasCall_5 : decode cX2_hasCall 5 = .ok (.aload_n 0, 1) := by decide +kernel
theorem dX2_hasCall_6 : decode cX2_hasCall 6 = .ok (.getfield 35, 3) := by decide +kernel
theorem dX2_hasCall_9 : decode cX2_hasCall 9 = .ok (.getfield 52, 3) := by decide +kernel
theorem dX2_hasCall_12 : decode cX2_hasCall 12 = .ok (.if_icmp .ge 7, 3) := by decide +kernel
theorem dX2_hasCall_15 : decode cX2_hasCall 15 = .ok (.iconst 1, 1) := by decide +kernel
theorem dX2_hasCall_16 : decode cX2_hasCall 16 = .ok (.goto 4, 3) := by decide +kernel
theorem dX2_hasCall_19 : decode cX2_hasCall 19 = .ok (.iconst 0, 1) := by decide +kernel
theorem dX2_hasCall_20 : decode cX2_hasCall 20 = .ok (.ireturn, 1) := by decide +kernel
theorem dX2_isDisputed_0 : decode cX2_isDisputed 0 = .ok (.aload_n 0, 1) := by decide +kernel
theorem dX2_isDisputed_1 : decode cX2_isDisputed 1 = .ok (.getfield 35, 3) := by decide +kernel
theorem dX2_isDisputed_4 : decode cX2_isDisputed 4 = .ok (.getfield 90, 3) := by decide +kernel
theorem dX2_isDisputed_7 : decode cX2_isDisputed 7 = .ok (.iload_n 1, 1) := by decide +kernel
theorem dX2_isDisputed_8 : decode cX2_isDisputed 8 = .ok (.baload, 1) := by decide +kernel
theorem dX2_isDisputed_9 : decode cX2_isDisputed 9 = .ok (.ireturn, 1) := by decide +kernel
theorem dX2_teamCalled_0 : decode cX2_teamCalled 0 = .ok (.aload_n 0, 1) := by decide +kernel
theorem dX2_teamCalled_1 : decode cX2_teamCalled 1 = .ok (.getfield 35, 3) := by decide +kernel
theorem dX2_teamCalled_4 : decode cX2_teamCalled 4 = .ok (.getfield 94, 3) := by decide +kernel
theorem dX2_teamCalled_7 : decode cX2_teamCalled 7 = .ok (.iload_n 1, 1) := by decide +kernel
theorem dX2_teamCalled_8 : decode cX2_teamCalled 8 = .ok (.iaload, 1) := by decide +kernel
theorem dX2_teamCalled_9 : decode cX2_teamCalled 9 = .ok (.iconst 3, 1) := by decide +kernel
theorem dX2_teamCalled_10 : decode cX2_teamCalled 10 = .ok (.if_icmp .ge 10, 3) := by decide +kernel
theorem dX2_teamCalled_13 : decode cX2_teamCalled 13 = .ok (.aload_n 0, 1) := by decide +kernel
theorem dX2_teamCalled_14 : decode cX2_teamCalled 14 = .ok (.getfield 43, 3) := by decide +kernel
theorem dX2_teamCalled_17 : decode cX2_teamCalled 17 = .ok (.goto 7, 3) := by decide +kernel
theorem dX2_teamCalled_20 : decode cX2_teamCalled 20 = .ok (.aload_n 0, 1) := by decide +kernel
theorem dX2_teamCalled_21 : decode cX2_teamCalled 21 = .ok (.getfield 46, 3) := by decide +kernel
theorem dX2_teamCalled_24 : decode cX2_teamCalled 24 = .ok (.ireturn, 1) := by decide +kernel
set_option maxRecDepth 20000 in
theorem ggX2_judge_X2_playerOn : GoodIn wsX2_judge wsX2_playerOn := goodIn_r _ [12, 7, 13, 14, 15, 16, 17, 18, 19, 20] (by decide +kernel) (by decide +kernel)
set_option maxRecDepth 20000 in
theorem gX2_judge_X2_playerOn : GoodIn wsX2_judge (wsV RX2 73 RX2 yX2_playerOn wsX2_playerOn) := goodIn_app (goodIn_of _ (by decide +kernel)) ggX2_judge_X2_playerOn
theorem dX2_judge_0 : decode cX2_judge 0 = .ok (.aload_n 0, 1) := by decide +kernel
theorem dX2_judge_1 : decode cX2_judge 1 = .ok (.getfield 35, 3) := by decide +kernel
theorem dX2_judge_4 : decode cX2_judge 4 = .ok (.getfield 94, 3) := by decide +kernel
theorem dX2_judge_7 : decode cX2_judge 7 = .ok (.iload_n 1, 1) := by decide +kernel
theorem dX2_judge_8 : decode cX2_judge 8 = .ok (.iaload, 1) := by decide +kernel
theorem dX2_judge_9 : decode cX2_judge 9 = .ok (.istore_n 2, 1) := by decide +kernel
theorem dX2_judge_10 : decode cX2_judge 10 = .ok (.aload_n 0, 1) := by decide +kernel
theorem dX2_judge_11 : decode cX2_judge 11 = .ok (.getfield 35, 3) := by decide +kernel
theorem dX2_judge_14 : decode cX2_judge 14 = .ok (.getfield 90, 3) := by decide +kernel
theorem dX2_judge_17 : decode cX2_judge 17 = .ok (.iload_n 1, 1) := by decide +kernel
theorem dX2_judge_18 : decode cX2_judge 18 = .ok (.iconst 1, 1) := by decide +kernel
theorem dX2_judge_19 : decode cX2_judge 19 = .ok (.bastore, 1) := by decide +kernel
theorem dX2_judge_20 : decode cX2_judge 20 = .ok (.aload_n 0, 1) := by decide +kernel
theorem dX2_judge_21 : decode cX2_judge 21 = .ok (.getfield 19, 3) := by decide +kernel
theorem dX2_judge_24 : decode cX2_judge 24 = .ok (.iload_n 2, 1) := by decide +kernel
theorem dX2_judge_25 : decode cX2_judge 25 = .ok (.iaload, 1) := by decide +kernel
theorem dX2_judge_26 : decode cX2_judge 26 = .ok (.iconst (-1), 1) := by decide +kernel
theorem dX2_judge_27 : decode cX2_judge 27 = .ok (.if_icmp .eq 23, 3) := by decide +kernel
theorem dX2_judge_30 : decode cX2_judge 30 = .ok (.aload_n 0, 1) := by decide +kernel
theorem dX2_judge_31 : decode cX2_judge 31 = .ok (.getfield 19, 3) := by decide +kernel
theorem dX2_judge_34 : decode cX2_judge 34 = .ok (.iload_n 2, 1) := by decide +kernel
theorem dX2_judge_35 : decode cX2_judge 35 = .ok (.iaload, 1) := by decide +kernel
theorem dX2_judge_36 : decode cX2_judge 36 = .ok (.aload_n 0, 1) := by decide +kernel
theorem dX2_judge_37 : decode cX2_judge 37 = .ok (.getfield 35, 3) := by decide +kernel
theorem dX2_judge_40 : decode cX2_judge 40 = .ok (.getfield 97, 3) := by decide +kernel
theorem dX2_judge_43 : decode cX2_judge 43 = .ok (.iload_n 1, 1) := by decide +kernel
theorem dX2_judge_44 : decode cX2_judge 44 = .ok (.iaload, 1) := by decide +kernel
theorem dX2_judge_45 : decode cX2_judge 45 = .ok (.if_icmp .gt 5, 3) := by decide +kernel
theorem dX2_judge_48 : decode cX2_judge 48 = .ok (.iconst 1, 1) := by decide +kernel
theorem dX2_judge_49 : decode cX2_judge 49 = .ok (.ireturn, 1) := by decide +kernel
theorem dX2_judge_50 : decode cX2_judge 50 = .ok (.aload_n 0, 1) := by decide +kernel
theorem dX2_judge_51 : decode cX2_judge 51 = .ok (.getfield 35, 3) := by decide +kernel
theorem dX2_judge_54 : decode cX2_judge 54 = .ok (.getfield 100, 3) := by decide +kernel
theorem dX2_judge_57 : decode cX2_judge 57 = .ok (.iload_n 1, 1) := by decide +kernel
theorem dX2_judge_58 : decode cX2_judge 58 = .ok (.iaload, 1) := by decide +kernel
theorem dX2_judge_59 : decode cX2_judge 59 = .ok (.istore_n 3, 1) := by decide +kernel
theorem dX2_judge_60 : decode cX2_judge 60 = .ok (.aload_n 0, 1) := by decide +kernel
theorem dX2_judge_61 : decode cX2_judge 61 = .ok (.getfield 15, 3) := by decide +kernel
theorem dX2_judge_64 : decode cX2_judge 64 = .ok (.iload_n 2, 1) := by decide +kernel
theorem dX2_judge_65 : decode cX2_judge 65 = .ok (.aload_n 0, 1) := by decide +kernel
theorem dX2_judge_66 : decode cX2_judge 66 = .ok (.iload_n 3, 1) := by decide +kernel
theorem dX2_judge_67 : decode cX2_judge 67 = .ok (.invokevirtual 73, 3) := by decide +kernel
theorem dX2_judge_70 : decode cX2_judge 70 = .ok (.iconst (-1), 1) := by decide +kernel
theorem dX2_judge_71 : decode cX2_judge 71 = .ok (.if_icmp .ne 7, 3) := by decide +kernel
theorem dX2_judge_74 : decode cX2_judge 74 = .ok (.iload_n 3, 1) := by decide +kernel
theorem dX2_judge_75 : decode cX2_judge 75 = .ok (.goto 4, 3) := by decide +kernel
theorem dX2_judge_78 : decode cX2_judge 78 = .ok (.iconst (-1), 1) := by decide +kernel
theorem dX2_judge_79 : decode cX2_judge 79 = .ok (.iastore, 1) := by decide +kernel
theorem dX2_judge_80 : decode cX2_judge 80 = .ok (.iconst 0, 1) := by decide +kernel
theorem dX2_judge_81 : decode cX2_judge 81 = .ok (.ireturn, 1) := by decide +kernel
theorem dX2_margin_0 : decode cX2_margin 0 = .ok (.iconst 0, 1) := by decide +kernel
theorem dX2_margin_1 : decode cX2_margin 1 = .ok (.istore_n 1, 1) := by decide +kernel
theorem dX2_margin_2 : decode cX2_margin 2 = .ok (.iconst 0, 1) := by decide +kernel
theorem dX2_margin_3 : decode cX2_margin 3 = .ok (.istore_n 2, 1) := by decide +kernel
theorem dX2_margin_4 : decode cX2_margin 4 = .ok (.iload_n 2, 1) := by decide +kernel
theorem dX2_margin_5 : decode cX2_margin 5 = .ok (.bipush 6, 2) := by decide +kernel
theorem dX2_margin_7 : decode cX2_margin 7 = .ok (.if_icmp .ge 43, 3) := by decide +kernel
theorem dX2_margin_10 : decode cX2_margin 10 = .ok (.aload_n 0, 1) := by decide +kernel
theorem dX2_margin_11 : decode cX2_margin 11 = .ok (.getfield 15, 3) := by decide +kernel
theorem dX2_margin_14 : decode cX2_margin 14 = .ok (.iload_n 2, 1) := by decide +kernel
theorem dX2_margin_15 : decode cX2_margin 15 = .ok (.iaload, 1) := by decide +kernel
theorem dX2_margin_16 : decode cX2_margin 16 = .ok (.bipush (-2), 2) := by decide +kernel
theorem dX2_margin_18 : decode cX2_margin 18 = .ok (.if_icmp .eq 26, 3) := by decide +kernel
theorem dX2_margin_21 : decode cX2_margin 21 = .ok (.aload_n 0, 1) := by decide +kernel
theorem dX2_margin_22 : decode cX2_margin 22 = .ok (.getfield 19, 3) := by decide +kernel
theorem dX2_margin_25 : decode cX2_margin 25 = .ok (.iload_n 2, 1) := by decide +kernel
theorem dX2_margin_26 : decode cX2_margin 26 = .ok (.iaload, 1) := by decide +kernel
theorem dX2_margin_27 : decode cX2_margin 27 = .ok (.iconst (-1), 1) := by decide +kernel
theorem dX2_margin_28 : decode cX2_margin 28 = .ok (.if_icmp .ne 16, 3) := by decide +kernel
theorem dX2_margin_31 : decode cX2_margin 31 = .ok (.iload_n 1, 1) := by decide +kernel
theorem dX2_margin_32 : decode cX2_margin 32 = .ok (.iload_n 2, 1) := by decide +kernel
theorem dX2_margin_33 : decode cX2_margin 33 = .ok (.iconst 3, 1) := by decide +kernel
theorem dX2_margin_34 : decode cX2_margin 34 = .ok (.if_icmp .ge 7, 3) := by decide +kernel
theorem dX2_margin_37 : decode cX2_margin 37 = .ok (.iconst 1, 1) := by decide +kernel
theorem dX2_margin_38 : decode cX2_margin 38 = .ok (.goto 4, 3) := by decide +kernel
theorem dX2_margin_41 : decode cX2_margin 41 = .ok (.iconst (-1), 1) := by decide +kernel
theorem dX2_margin_42 : decode cX2_margin 42 = .ok (.iadd, 1) := by decide +kernel
theorem dX2_margin_43 : decode cX2_margin 43 = .ok (.istore_n 1, 1) := by decide +kernel
theorem dX2_margin_44 : decode cX2_margin 44 = .ok (.iinc 2 1, 3) := by decide +kernel
theorem dX2_margin_47 : decode cX2_margin 47 = .ok (.goto (-43), 3) := by decide +kernel
theorem dX2_margin_50 : decode cX2_margin 50 = .ok (.iload_n 1, 1) := by decide +kernel
theorem dX2_margin_51 : decode cX2_margin 51 = .ok (.ireturn, 1) := by decide +kernel
theorem dX3_init_0 : decode cX3_init 0 = .ok (.aload_n 0, 1) := by decide +kernel
theorem dX3_init_1 : decode cX3_init 1 = .ok (.invokespecial 3, 3) := by decide +kernel
theorem dX3_init_4 : decode cX3_init 4 = .ok (.aload_n 0, 1) := by decide +kernel
theorem dX3_init_5 : decode cX3_init 5 = .ok (.bipush 100, 2) := by decide +kernel
theorem dX3_init_7 : decode cX3_init 7 = .ok (.newarray .int, 2) := by decide +kernel
theorem dX3_init_9 : decode cX3_init 9 = .ok (.putfield 9, 3) := by decide +kernel
theorem dX3_init_12 : decode cX3_init 12 = .ok (.aload_n 0, 1) := by decide +kernel
theorem dX3_init_13 : decode cX3_init 13 = .ok (.bipush 100, 2) := by decide +kernel
theorem dX3_init_15 : decode cX3_init 15 = .ok (.newarray .int, 2) := by decide +kernel
theorem dX3_init_17 : decode cX3_init 17 = .ok (.putfield 15, 3) := by decide +kernel
theorem dX3_init_20 : decode cX3_init 20 = .ok (.aload_n 0, 1) := by decide +kernel
theorem dX3_init_21 : decode cX3_init 21 = .ok (.bipush 100, 2) := by decide +kernel
theorem dX3_init_23 : decode cX3_init 23 = .ok (.newarray .int, 2) := by decide +kernel
theorem dX3_init_25 : decode cX3_init 25 = .ok (.putfield 18, 3) := by decide +kernel
theorem dX3_init_28 : decode cX3_init 28 = .ok (.aload_n 0, 1) := by decide +kernel
theorem dX3_init_29 : decode cX3_init 29 = .ok (.bipush 100, 2) := by decide +kernel
theorem dX3_init_31 : decode cX3_init 31 = .ok (.newarray .int, 2) := by decide +kernel
theorem dX3_init_33 : decode cX3_init 33 = .ok (.putfield 21, 3) := by decide +kernel
theorem dX3_init_36 : decode cX3_init 36 = .ok (.return_, 1) := by decide +kernel
theorem dX3_add_0 : decode cX3_add 0 = .ok (.aload_n 0, 1) := by decide +kernel
theorem dX3_add_1 : decode cX3_add 1 = .ok (.getfield 9, 3) := by decide +kernel
theorem dX3_add_4 : decode cX3_add 4 = .ok (.aload_n 0, 1) := by decide +kernel
theorem dX3_add_5 : decode cX3_add 5 = .ok (.getfield 24, 3) := by decide +kernel
theorem dX3_add_8 : decode cX3_add 8 = .ok (.iload_n 1, 1) := by decide +kernel
theorem dX3_add_9 : decode cX3_add 9 = .ok (.iastore, 1) := by decide +kernel
theorem dX3_add_10 : decode cX3_add 10 = .ok (.aload_n 0, 1) := by decide +kernel
theorem dX3_add_11 : decode cX3_add 11 = .ok (.getfield 15, 3) := by decide +kernel
theorem dX3_add_14 : decode cX3_add 14 = .ok (.aload_n 0, 1) := by decide +kernel
theorem dX3_add_15 : decode cX3_add 15 = .ok (.getfield 24, 3) := by decide +kernel
theorem dX3_add_18 : decode cX3_add 18 = .ok (.iload_n 2, 1) := by decide +kernel
theorem dX3_add_19 : decode cX3_add 19 = .ok (.iastore, 1) := by decide +kernel
theorem dX3_add_20 : decode cX3_add 20 = .ok (.aload_n 0, 1) := by decide +kernel
theorem dX3_add_21 : decode cX3_add 21 = .ok (.getfield 18, 3) := by decide +kernel
theorem dX3_add_24 : decode cX3_add 24 = .ok (.aload_n 0, 1) := by decide +kernel
theorem dX3_add_25 : decode cX3_add 25 = .ok (.getfield 24, 3) := by decide +kernel
theorem dX3_add_28 : decode cX3_add 28 = .ok (.iload_n 3, 1) := by decide +kernel
theorem dX3_add_29 : decode cX3_add 29 = .ok (.iastore, 1) := by decide +kernel
theorem dX3_add_30 : decode cX3_add 30 = .ok (.aload_n 0, 1) := by decide +kernel
theorem dX3_add_31 : decode cX3_add 31 = .ok (.getfield 21, 3) := by decide +kernel
theorem dX3_add_34 : decode cX3_add 34 = .ok (.aload_n 0, 1) := by decide +kernel
theorem dX3_add_35 : decode cX3_add 35 = .ok (.getfield 24, 3) := by decide +kernel
theorem dX3_add_38 : decode cX3_add 38 = .ok (.iload 4, 2) := by decide +kernel
theorem dX3_add_40 : decode cX3_add 40 = .ok (.iastore, 1) := by decide +kernel
theorem dX3_add_41 : decode cX3_add 41 = .ok (.aload_n 0, 1) := by decide +kernel
theorem dX3_add_42 : decode cX3_add 42 = .ok (.dup, 1) := by decide +kernel
theorem dX3_add_43 : decode cX3_add 43 = .ok (.getfield 24, 3) := by decide +kernel
theorem dX3_add_46 : decode cX3_add 46 = .ok (.iconst 1, 1) := by decide +kernel
theorem dX3_add_47 : decode cX3_add 47 = .ok (.iadd, 1) := by decide +kernel
theorem dX3_add_48 : decode cX3_add 48 = .ok (.putfield 24, 3) := by decide +kernel
theorem dX3_add_51 : decode cX3_add 51 = .ok (.return_, 1) := by decide +kernel
theorem dX4_init_0 : decode cX4_init 0 = .ok (.aload_n 0, 1) := by decide +kernel
theorem dX4_init_1 : decode cX4_init 1 = .ok (.invokespecial 3, 3) := by decide +kernel
theorem dX4_init_4 : decode cX4_init 4 = .ok (.aload_n 0, 1) := by decide +kernel
theorem dX4_init_5 : decode cX4_init 5 = .ok (.bipush 6, 2) := by decide +kernel
theorem dX4_init_7 : decode cX4_init 7 = .ok (.newarray .int, 2) := by decide +kernel
theorem dX4_init_9 : decode cX4_init 9 = .ok (.putfield 9, 3) := by decide +kernel
theorem dX4_init_12 : decode cX4_init 12 = .ok (.aload_n 0, 1) := by decide +kernel
theorem dX4_init_13 : decode cX4_init 13 = .ok (.bipush 6, 2) := by decide +kernel
theorem dX4_init_15 : decode cX4_init 15 = .ok (.newarray .int, 2) := by decide +kernel
theorem dX4_init_17 : decode cX4_init 17 = .ok (.putfield 15, 3) := by decide +kernel
theorem dX4_init_20 : decode cX4_init 20 = .ok (.aload_n 0, 1) := by decide +kernel
theorem dX4_init_21 : decode cX4_init 21 = .ok (.bipush 6, 2) := by decide +kernel
theorem dX4_init_23 : decode cX4_init 23 = .ok (.newarray .int, 2) := by decide +kernel
theorem dX4_init_25 : decode cX4_init 25 = .ok (.putfield 18, 3) := by decide +kernel
theorem dX4_init_28 : decode cX4_init 28 = .ok (.aload_n 0, 1) := by decide +kernel
theorem dX4_init_29 : decode cX4_init 29 = .ok (.bipush 6, 2) := by decide +kernel
theorem dX4_init_31 : decode cX4_init 31 = .ok (.bipush 6, 2) := by decide +kernel
theorem dX4_init_33 : decode cX4_init 33 = .ok (.multianewarray 21 2, 4) := by decide +kernel
theorem dX4_init_37 : decode cX4_init 37 = .ok (.putfield 23, 3) := by decide +kernel
theorem dX4_init_40 : decode cX4_init 40 = .ok (.return_, 1) := by decide +kernel
theorem dX4_pointsOf_0 : decode cX4_pointsOf 0 = .ok (.aload_n 0, 1) := by decide +kernel
theorem dX4_pointsOf_1 : decode cX4_pointsOf 1 = .ok (.getfield 9, 3) := by decide +kernel
theorem dX4_pointsOf_4 : decode cX4_pointsOf 4 = .ok (.iload_n 1, 1) := by decide +kernel
theorem dX4_pointsOf_5 : decode cX4_pointsOf 5 = .ok (.iaload, 1) := by decide +kernel
theorem dX4_pointsOf_6 : decode cX4_pointsOf 6 = .ok (.ireturn, 1) := by decide +kernel
theorem dX4_finesOf_0 : decode cX4_finesOf 0 = .ok (.aload_n 0, 1) := by decide +kernel
theorem dX4_finesOf_1 : decode cX4_finesOf 1 = .ok (.getfield 15, 3) := by decide +kernel
theorem dX4_finesOf_4 : decode cX4_finesOf 4 = .ok (.iload_n 1, 1) := by decide +kernel
theorem dX4_finesOf_5 : decode cX4_finesOf 5 = .ok (.iaload, 1) := by decide +kernel
theorem dX4_finesOf_6 : decode cX4_finesOf 6 = .ok (.ireturn, 1) := by decide +kernel
theorem dX4_differenceOf_0 : decode cX4_differenceOf 0 = .ok (.aload_n 0, 1) := by decide +kernel
theorem dX4_differenceOf_1 : decode cX4_differenceOf 1 = .ok (.getfield 18, 3) := by decide +kernel
theorem dX4_differenceOf_4 : decode cX4_differenceOf 4 = .ok (.iload_n 1, 1) := by decide +kernel
theorem dX4_differenceOf_5 : decode cX4_differenceOf 5 = .ok (.iaload, 1) := by decide +kernel
theorem dX4_differenceOf_6 : decode cX4_differenceOf 6 = .ok (.ireturn, 1) := by decide +kernel
theorem dX4_fine_0 : decode cX4_fine 0 = .ok (.aload_n 0, 1) := by decide +kernel
theorem dX4_fine_1 : decode cX4_fine 1 = .ok (.getfield 15, 3) := by decide +kernel
theorem dX4_fine_4 : decode cX4_fine 4 = .ok (.iload_n 1, 1) := by decide +kernel
theorem dX4_fine_5 : decode cX4_fine 5 = .ok (.dup2, 1) := by decide +kernel
theorem dX4_fine_6 : decode cX4_fine 6 = .ok (.iaload, 1) := by decide +kernel
theorem dX4_fine_7 : decode cX4_fine 7 = .ok (.iconst 1, 1) := by decide +kernel
theorem dX4_fine_8 : decode cX4_fine 8 = .ok (.iadd, 1) := by decide +kernel
theorem dX4_fine_9 : decode cX4_fine 9 = .ok (.iastore, 1) := by decide +kernel
theorem dX4_fine_10 : decode cX4_fine 10 = .ok (.return_, 1) := by decide +kernel
set_option maxRecDepth 20000 in
theorem ggX4_enter_X4_enterWin : GoodIn wsX4_enter wsX4_enterWin := goodIn_r _ [7, 2, 8, 14, 15, 16, 17] (by decide +kernel) (by decide +kernel)
set_option maxRecDepth 20000 in
theorem gX4_enter_X4_enterWin : GoodIn wsX4_enter (wsV RX4 26 RX4 yX4_enterWin wsX4_enterWin) := goodIn_app (goodIn_of _ (by decide +kernel)) ggX4_enter_X4_enterWin
set_option maxRecDepth 20000 in
theorem ggX4_enter_X4_takePenalties : GoodIn wsX4_enter wsX4_takePenalties := goodIn_r _ [12, 13, 2, 14, 15, 16, 17] (by decide +kernel) (by decide +kernel)
set_option maxRecDepth 20000 in
theorem gX4_enter_X4_takePenalties : GoodIn wsX4_enter (wsV RX4 30 RX4 yX4_takePenalties wsX4_takePenalties) := goodIn_app (goodIn_of _ (by decide +kernel)) ggX4_enter_X4_takePenalties
theorem dX4_enter_0 : decode cX4_enter 0 = .ok (.aload_n 0, 1) := by decide +kernel
theorem dX4_enter_1 : decode cX4_enter 1 = .ok (.getfield 18, 3) := by decide +kernel
theorem dX4_enter_4 : decode cX4_enter 4 = .ok (.iload_n 1, 1) := by decide +kernel
theorem dX4_enter_5 : decode cX4_enter 5 = .ok (.dup2, 1) := by decide +kernel
theorem dX4_enter_6 : decode cX4_enter 6 = .ok (.iaload, 1) := by decide +kernel
theorem dX4_enter_7 : decode cX4_enter 7 = .ok (.iload_n 3, 1) := by decide +kernel
theorem dX4_enter_8 : decode cX4_enter 8 = .ok (.iadd, 1) := by decide +kernel
theorem dX4_enter_9 : decode cX4_enter 9 = .ok (.iastore, 1) := by decide +kernel
theorem dX4_enter_10 : decode cX4_enter 10 = .ok (.aload_n 0, 1) := by decide +kernel
theorem dX4_enter_11 : decode cX4_enter 11 = .ok (.getfield 18, 3) := by decide +kernel
theorem dX4_enter_14 : decode cX4_enter 14 = .ok (.iload_n 2, 1) := by decide +kernel
theorem dX4_enter_15 : decode cX4_enter 15 = .ok (.dup2, 1) := by decide +kernel
theorem dX4_enter_16 : decode cX4_enter 16 = .ok (.iaload, 1) := by decide +kernel
theorem dX4_enter_17 : decode cX4_enter 17 = .ok (.iload_n 3, 1) := by decide +kernel
theorem dX4_enter_18 : decode cX4_enter 18 = .ok (.isub, 1) := by decide +kernel
theorem dX4_enter_19 : decode cX4_enter 19 = .ok (.iastore, 1) := by decide +kernel
theorem dX4_enter_20 : decode cX4_enter 20 = .ok (.iload_n 3, 1) := by decide +kernel
theorem dX4_enter_21 : decode cX4_enter 21 = .ok (.ifCond .le 12, 3) := by decide +kernel
theorem dX4_enter_24 : decode cX4_enter 24 = .ok (.aload_n 0, 1) := by decide +kernel
theorem dX4_enter_25 : decode cX4_enter 25 = .ok (.iload_n 1, 1) := by decide +kernel
theorem dX4_enter_26 : decode cX4_enter 26 = .ok (.iload_n 2, 1) := by decide +kernel
theorem dX4_enter_27 : decode cX4_enter 27 = .ok (.invokevirtual 26, 3) := by decide +kernel
theorem dX4_enter_30 : decode cX4_enter 30 = .ok (.goto 36, 3) := by decide +kernel
theorem dX4_enter_33 : decode cX4_enter 33 = .ok (.iload_n 3, 1) := by decide +kernel
theorem dX4_enter_34 : decode cX4_enter 34 = .ok (.ifCond .ge 12, 3) := by decide +kernel
theorem dX4_enter_37 : decode cX4_enter 37 = .ok (.aload_n 0, 1) := by decide +kernel
theorem dX4_enter_38 : decode cX4_enter 38 = .ok (.iload_n 2, 1) := by decide +kernel
theorem dX4_enter_39 : decode cX4_enter 39 = .ok (.iload_n 1, 1) := by decide +kernel
theorem dX4_enter_40 : decode cX4_enter 40 = .ok (.invokevirtual 26, 3) := by decide +kernel
theorem dX4_enter_43 : decode cX4_enter 43 = .ok (.goto 23, 3) := by decide +kernel
theorem dX4_enter_46 : decode cX4_enter 46 = .ok (.aload_n 0, 1) := by decide +kernel
theorem dX4_enter_47 : decode cX4_enter 47 = .ok (.getfield 9, 3) := by decide +kernel
theorem dX4_enter_50 : decode cX4_enter 50 = .ok (.iload_n 1, 1) := by decide +kernel
theorem dX4_enter_51 : decode cX4_enter 51 = .ok (.dup2, 1) := by decide +kernel
theorem dX4_enter_52 : decode cX4_enter 52 = .ok (.iaload, 1) := by decide +kernel
theorem dX4_enter_53 : decode cX4_enter 53 = .ok (.iconst 1, 1) := by decide +kernel
theorem dX4_enter_54 : decode cX4_enter 54 = .ok (.iadd, 1) := by decide +kernel
theorem dX4_enter_55 : decode cX4_enter 55 = .ok (.iastore, 1) := by decide +kernel
theorem dX4_enter_56 : decode cX4_enter 56 = .ok (.aload_n 0, 1) := by decide +kernel
theorem dX4_enter_57 : decode cX4_enter 57 = .ok (.getfield 9, 3) := by decide +kernel
theorem dX4_enter_60 : decode cX4_enter 60 = .ok (.iload_n 2, 1) := by decide +kernel
theorem dX4_enter_61 : decode cX4_enter 61 = .ok (.dup2, 1) := by decide +kernel
theorem dX4_enter_62 : decode cX4_enter 62 = .ok (.iaload, 1) := by decide +kernel
theorem dX4_enter_63 : decode cX4_enter 63 = .ok (.iconst 1, 1) := by decide +kernel
theorem dX4_enter_64 : decode cX4_enter 64 = .ok (.iadd, 1) := by decide +kernel
theorem dX4_enter_65 : decode cX4_enter 65 = .ok (.iastore, 1) := by decide +kernel
theorem dX4_enter_66 : decode cX4_enter 66 = .ok (.aload_n 0, 1) := by decide +kernel
theorem dX4_enter_67 : decode cX4_enter 67 = .ok (.invokevirtual 30, 3) := by decide +kernel
theorem dX4_enter_70 : decode cX4_enter 70 = .ok (.return_, 1) := by decide +kernel
theorem dX4_enterWin_0 : decode cX4_enterWin 0 = .ok (.aload_n 0, 1) := by decide +kernel
theorem dX4_enterWin_1 : decode cX4_enterWin 1 = .ok (.getfield 9, 3) := by decide +kernel
theorem dX4_enterWin_4 : decode cX4_enterWin 4 = .ok (.iload_n 1, 1) := by decide +kernel
theorem dX4_enterWin_5 : decode cX4_enterWin 5 = .ok (.dup2, 1) := by decide +kernel
theorem dX4_enterWin_6 : decode cX4_enterWin 6 = .ok (.iaload, 1) := by decide +kernel
theorem dX4_enterWin_7 : decode cX4_enterWin 7 = .ok (.iconst 3, 1) := by decide +kernel
theorem dX4_enterWin_8 : decode cX4_enterWin 8 = .ok (.iadd, 1) := by decide +kernel
theorem dX4_enterWin_9 : decode cX4_enterWin 9 = .ok (.iastore, 1) := by decide +kernel
theorem dX4_enterWin_10 : decode cX4_enterWin 10 = .ok (.aload_n 0, 1) := by decide +kernel
theorem dX4_enterWin_11 : decode cX4_enterWin 11 = .ok (.getfield 23, 3) := by decide +kernel
theorem dX4_enterWin_14 : decode cX4_enterWin 14 = .ok (.iload_n 1, 1) := by decide +kernel
theorem dX4_enterWin_15 : decode cX4_enterWin 15 = .ok (.aaload, 1) := by decide +kernel
theorem dX4_enterWin_16 : decode cX4_enterWin 16 = .ok (.iload_n 2, 1) := by decide +kernel
theorem dX4_enterWin_17 : decode cX4_enterWin 17 = .ok (.dup2, 1) := by decide +kernel
theorem dX4_enterWin_18 : decode cX4_enterWin 18 = .ok (.iaload, 1) := by decide +kernel
theorem dX4_enterWin_19 : decode cX4_enterWin 19 = .ok (.iconst 1, 1) := by decide +kernel
theorem dX4_enterWin_20 : decode cX4_enterWin 20 = .ok (.iadd, 1) := by decide +kernel
theorem dX4_enterWin_21 : decode cX4_enterWin 21 = .ok (.iastore, 1) := by decide +kernel
theorem dX4_enterWin_22 : decode cX4_enterWin 22 = .ok (.return_, 1) := by decide +kernel
theorem dX4_takePenalties_0 : decode cX4_takePenalties 0 = .ok (.iconst 0, 1) := by decide +kernel
theorem dX4_takePenalties_1 : decode cX4_takePenalties 1 = .ok (.istore_n 1, 1) := by decide +kernel
theorem dX4_takePenalties_2 : decode cX4_takePenalties 2 = .ok (.iload_n 1, 1) := by decide +kernel
theorem dX4_takePenalties_3 : decode cX4_takePenalties 3 = .ok (.bipush 6, 2) := by decide +kernel
theorem dX4_takePenalties_5 : decode cX4_takePenalties 5 = .ok (.if_icmp .ge 39, 3) := by decide +kernel
theorem dX4_takePenalties_8 : decode cX4_takePenalties 8 = .ok (.aload_n 0, 1) := by decide +kernel
theorem dX4_takePenalties_9 : decode cX4_takePenalties 9 = .ok (.getfield 15, 3) := by decide +kernel
theorem dX4_takePenalties_12 : decode cX4_takePenalties 12 = .ok (.iload_n 1, 1) := by decide +kernel
theorem dX4_takePenalties_13 : decode cX4_takePenalties 13 = .ok (.iaload, 1) := by decide +kernel
theorem dX4_takePenalties_14 : decode cX4_takePenalties 14 = .ok (.iconst 2, 1) := by decide +kernel
theorem dX4_takePenalties_15 : decode cX4_takePenalties 15 = .ok (.if_icmp .lt 23, 3) := by decide +kernel
theorem dX4_takePenalties_18 : decode cX4_takePenalties 18 = .ok (.aload_n 0, 1) := by decide +kernel
theorem dX4_takePenalties_19 : decode cX4_takePenalties 19 = .ok (.getfield 9, 3) := by decide +kernel
theorem dX4_takePenalties_22 : decode cX4_takePenalties 22 = .ok (.iload_n 1, 1) := by decide +kernel
theorem dX4_takePenalties_23 : decode cX4_takePenalties 23 = .ok (.dup2, 1) := by decide +kernel
theorem dX4_takePenalties_24 : decode cX4_takePenalties 24 = .ok (.iaload, 1) := by decide +kernel
theorem dX4_takePenalties_25 : decode cX4_takePenalties 25 = .ok (.iconst 1, 1) := by decide +kernel
theorem dX4_takePenalties_26 : decode cX4_takePenalties 26 = .ok (.isub, 1) := by decide +kernel
theorem dX4_takePenalties_27 : decode cX4_takePenalties 27 = .ok (.iastore, 1) := by decide +kernel
theorem dX4_takePenalties_28 : decode cX4_takePenalties 28 = .ok (.aload_n 0, 1) := by decide +kernel
theorem dX4_takePenalties_29 : decode cX4_takePenalties 29 = .ok (.getfield 15, 3) := by decide +kernel
theorem dX4_takePenalties_32 : decode cX4_takePenalties 32 = .ok (.iload_n 1, 1) := by decide +kernel
theorem dX4_takePenalties_33 : decode cX4_takePenalties 33 = .ok (.dup2, 1) := by decide +kernel
theorem dX4_takePenalties_34 : decode cX4_takePenalties 34 = .ok (.iaload, 1) := by decide +kernel
theorem dX4_takePenalties_35 : decode cX4_takePenalties 35 = .ok (.iconst 2, 1) := by decide +kernel
theorem dX4_takePenalties_36 : decode cX4_takePenalties 36 = .ok (.isub, 1) := by decide +kernel
theorem dX4_takePenalties_37 : decode cX4_takePenalties 37 = .ok (.iastore, 1) := by decide +kernel
theorem dX4_takePenalties_38 : decode cX4_takePenalties 38 = .ok (.iinc 1 1, 3) := by decide +kernel
theorem dX4_takePenalties_41 : decode cX4_takePenalties 41 = .ok (.goto (-39), 3) := by decide +kernel
theorem dX4_takePenalties_44 : decode cX4_takePenalties 44 = .ok (.return_, 1) := by decide +kernel
set_option maxRecDepth 20000 in
theorem ggX4_placeOf_X4_isAhead : GoodIn wsX4_placeOf wsX4_isAhead := goodIn_r _ [5, 6, 7, 8, 9, 10, 11, 12] (by decide +kernel) (by decide +kernel)
set_option maxRecDepth 20000 in
theorem gX4_placeOf_X4_isAhead : GoodIn wsX4_placeOf (wsV RX4 33 RX4 yX4_isAhead wsX4_isAhead) := goodIn_app (goodIn_of _ (by decide +kernel)) ggX4_placeOf_X4_isAhead
theorem dX4_placeOf_0 : decode cX4_placeOf 0 = .ok (.iconst 1, 1) := by decide +kernel
theorem dX4_placeOf_1 : decode cX4_placeOf 1 = .ok (.istore_n 2, 1) := by decide +kernel
theorem dX4_placeOf_2 : decode cX4_placeOf 2 = .ok (.iconst 0, 1) := by decide +kernel
theorem dX4_placeOf_3 : decode cX4_placeOf 3 = .ok (.istore_n 3, 1) := by decide +kernel
theorem dX4_placeOf_4 : decode cX4_placeOf 4 = .ok (.iload_n 3, 1) := by decide +kernel
theorem dX4_placeOf_5 : decode cX4_placeOf 5 = .ok (.bipush 6, 2) := by decide +kernel
theorem dX4_placeOf_7 : decode cX4_placeOf 7 = .ok (.if_icmp .ge 26, 3) := by decide +kernel
theorem dX4_placeOf_10 : decode cX4_placeOf 10 = .ok (.iload_n 3, 1) := by decide +kernel
theorem dX4_placeOf_11 : decode cX4_placeOf 11 = .ok (.iload_n 1, 1) := by decide +kernel
theorem dX4_placeOf_12 : decode cX4_placeOf 12 = .ok (.if_icmp .eq 15, 3) := by decide +kernel
theorem dX4_placeOf_15 : decode cX4_placeOf 15 = .ok (.aload_n 0, 1) := by decide +kernel
theorem dX4_placeOf_16 : decode cX4_placeOf 16 = .ok (.iload_n 3, 1) := by decide +kernel
theorem dX4_placeOf_17 : decode cX4_placeOf 17 = .ok (.iload_n 1, 1) := by decide +kernel
theorem dX4_placeOf_18 : decode cX4_placeOf 18 = .ok (.invokevirtual 33, 3) := by decide +kernel
theorem dX4_placeOf_21 : decode cX4_placeOf 21 = .ok (.ifCond .eq 6, 3) := by decide +kernel
theorem dX4_placeOf_24 : decode cX4_placeOf 24 = .ok (.iinc 2 1, 3) := by decide +kernel
theorem dX4_placeOf_27 : decode cX4_placeOf 27 = .ok (.iinc 3 1, 3) := by decide +kernel
theorem dX4_placeOf_30 : decode cX4_placeOf 30 = .ok (.goto (-26), 3) := by decide +kernel
theorem dX4_placeOf_33 : decode cX4_placeOf 33 = .ok (.iload_n 2, 1) := by decide +kernel
theorem dX4_placeOf_34 : decode cX4_placeOf 34 = .ok (.ireturn, 1) := by decide +kernel
theorem dX4_isAhead_0 : decode cX4_isAhead 0 = .ok (.aload_n 0, 1) := by decide +kernel
theorem dX4_isAhead_1 : decode cX4_isAhead 1 = .ok (.getfield 9, 3) := by decide +kernel
theorem dX4_isAhead_4 : decode cX4_isAhead 4 = .ok (.iload_n 1, 1) := by decide +kernel
theorem dX4_isAhead_5 : decode cX4_isAhead 5 = .ok (.iaload, 1) := by decide +kernel
theorem dX4_isAhead_6 : decode cX4_isAhead 6 = .ok (.aload_n 0, 1) := by decide +kernel
theorem dX4_isAhead_7 : decode cX4_isAhead 7 = .ok (.getfield 9, 3) := by decide +kernel
theorem dX4_isAhead_10 : decode cX4_isAhead 10 = .ok (.iload_n 2, 1) := by decide +kernel
theorem dX4_isAhead_11 : decode cX4_isAhead 11 = .ok (.iaload, 1) := by decide +kernel
theorem dX4_isAhead_12 : decode cX4_isAhead 12 = .ok (.if_icmp .eq 24, 3) := by decide +kernel
theorem dX4_isAhead_15 : decode cX4_isAhead 15 = .ok (.aload_n 0, 1) := by decide +kernel
theorem dX4_isAhead_16 : decode cX4_isAhead 16 = .ok (.getfield 9, 3) := by decide +kernel
theorem dX4_isAhead_19 : decode cX4_isAhead 19 = .ok (.iload_n 1, 1) := by decide +kernel
theorem dX4_isAhead_20 : decode cX4_isAhead 20 = .ok (.iaload, 1) := by decide +kernel
theorem dX4_isAhead_21 : decode cX4_isAhead 21 = .ok (.aload_n 0, 1) := by decide +kernel
theorem dX4_isAhead_22 : decode cX4_isAhead 22 = .ok (.getfield 9, 3) := by decide +kernel
theorem dX4_isAhead_25 : decode cX4_isAhead 25 = .ok (.iload_n 2, 1) := by decide +kernel
theorem dX4_isAhead_26 : decode cX4_isAhead 26 = .ok (.iaload, 1) := by decide +kernel
theorem dX4_isAhead_27 : decode cX4_isAhead 27 = .ok (.if_icmp .le 7, 3) := by decide +kernel
theorem dX4_isAhead_30 : decode cX4_isAhead 30 = .ok (.iconst 1, 1) := by decide +kernel
theorem dX4_isAhead_31 : decode cX4_isAhead 31 = .ok (.goto 4, 3) := by decide +kernel
theorem dX4_isAhead_34 : decode cX4_isAhead 34 = .ok (.iconst 0, 1) := by decide +kernel
theorem dX4_isAhead_35 : decode cX4_isAhead 35 = .ok (.ireturn, 1) := by decide +kernel
theorem dX4_isAhead_36 : decode cX4_isAhead 36 = .ok (.aload_n 0, 1) := by decide +kernel
theorem dX4_isAhead_37 : decode cX4_isAhead 37 = .ok (.getfield 23, 3) := by decide +kernel
theorem dX4_isAhead_40 : decode cX4_isAhead 40 = .ok (.iload_n 1, 1) := by decide +kernel
theorem dX4_isAhead_41 : decode cX4_isAhead 41 = .ok (.aaload, 1) := by decide +kernel
theorem dX4_isAhead_42 : decode cX4_isAhead 42 = .ok (.iload_n 2, 1) := by decide +kernel
theorem dX4_isAhead_43 : decode cX4_isAhead 43 = .ok (.iaload, 1) := by decide +kernel
theorem dX4_isAhead_44 : decode cX4_isAhead 44 = .ok (.aload_n 0, 1) := by decide +kernel
theorem dX4_isAhead_45 : decode cX4_isAhead 45 = .ok (.getfield 23, 3) := by decide +kernel
theorem dX4_isAhead_48 : decode cX4_isAhead 48 = .ok (.iload_n 2, 1) := by decide +kernel
theorem dX4_isAhead_49 : decode cX4_isAhead 49 = .ok (.aaload, 1) := by decide +kernel
theorem dX4_isAhead_50 : decode cX4_isAhead 50 = .ok (.iload_n 1, 1) := by decide +kernel
theorem dX4_isAhead_51 : decode cX4_isAhead 51 = .ok (.iaload, 1) := by decide +kernel
theorem dX4_isAhead_52 : decode cX4_isAhead 52 = .ok (.if_icmp .eq 28, 3) := by decide +kernel
theorem dX4_isAhead_55 : decode cX4_isAhead 55 = .ok (.aload_n 0, 1) := by decide +kernel
theorem dX4_isAhead_56 : decode cX4_isAhead 56 = .ok (.getfield 23, 3) := by decide +kernel
theorem dX4_isAhead_59 : decode cX4_isAhead 59 = .ok (.iload_n 1, 1) := by decide +kernel
theorem dX4_isAhead_60 : decode cX4_isAhead 60 = .ok (.aaload, 1) := by decide +kernel
theorem dX4_isAhead_61 : decode cX4_isAhead 61 = .ok (.iload_n 2, 1) := by decide +kernel
theorem dX4_isAhead_62 : decode cX4_isAhead 62 = .ok (.iaload, 1) := by decide +kernel
theorem dX4_isAhead_63 : decode cX4_isAhead 63 = .ok (.aload_n 0, 1) := by decide +kernel
theorem dX4_isAhead_64 : decode cX4_isAhead 64 = .ok (.getfield 23, 3) := by decide +kernel
theorem dX4_isAhead_67 : decode cX4_isAhead 67 = .ok (.iload_n 2, 1) := by decide +kernel
theorem dX4_isAhead_68 : decode cX4_isAhead 68 = .ok (.aaload, 1) := by decide +kernel
theorem dX4_isAhead_69 : decode cX4_isAhead 69 = .ok (.iload_n 1, 1) := by decide +kernel
theorem dX4_isAhead_70 : decode cX4_isAhead 70 = .ok (.iaload, 1) := by decide +kernel
theorem dX4_isAhead_71 : decode cX4_isAhead 71 = .ok (.if_icmp .le 7, 3) := by decide +kernel
theorem dX4_isAhead_74 : decode cX4_isAhead 74 = .ok (.iconst 1, 1) := by decide +kernel
theorem dX4_isAhead_75 : decode cX4_isAhead 75 = .ok (.goto 4, 3) := by decide +kernel
theorem dX4_isAhead_78 : decode cX4_isAhead 78 = .ok (.iconst 0, 1) := by decide +kernel
theorem dX4_isAhead_79 : decode cX4_isAhead 79 = .ok (.ireturn, 1) := by decide +kernel
theorem dX4_isAhead_80 : decode cX4_isAhead 80 = .ok (.aload_n 0, 1) := by decide +kernel
theorem dX4_isAhead_81 : decode cX4_isAhead 81 = .ok (.getfield 18, 3) := by decide +kernel
theorem dX4_isAhead_84 : decode cX4_isAhead 84 = .ok (.iload_n 1, 1) := by decide +kernel
theorem dX4_isAhead_85 : decode cX4_isAhead 85 = .ok (.iaload, 1) := by decide +kernel
theorem dX4_isAhead_86 : decode cX4_isAhead 86 = .ok (.aload_n 0, 1) := by decide +kernel
theorem dX4_isAhead_87 : decode cX4_isAhead 87 = .ok (.getfield 18, 3) := by decide +kernel
theorem dX4_isAhead_90 : decode cX4_isAhead 90 = .ok (.iload_n 2, 1) := by decide +kernel
theorem dX4_isAhead_91 : decode cX4_isAhead 91 = .ok (.iaload, 1) := by decide +kernel
theorem dX4_isAhead_92 : decode cX4_isAhead 92 = .ok (.if_icmp .eq 24, 3) := by decide +kernel
theorem dX4_isAhead_95 : decode cX4_isAhead 95 = .ok (.aload_n 0, 1) := by decide +kernel
theorem dX4_isAhead_96 : decode cX4_isAhead 96 = .ok (.getfield 18, 3) := by decide +kernel
theorem dX4_isAhead_99 : decode cX4_isAhead 99 = .ok (.iload_n 1, 1) := by decide +kernel
theorem dX4_isAhead_100 : decode cX4_isAhead 100 = .ok (.iaload, 1) := by decide +kernel
theorem dX4_isAhead_101 : decode cX4_isAhead 101 = .ok (.aload_n 0, 1) := by decide +kernel
theorem dX4_isAhead_102 : decode cX4_isAhead 102 = .ok (.getfield 18, 3) := by decide +kernel
theorem dX4_isAhead_105 : decode cX4_isAhead 105 = .ok (.iload_n 2, 1) := by decide +kernel
theorem dX4_isAhead_106 : decode cX4_isAhead 106 = .ok (.iaload, 1) := by decide +kernel
theorem dX4_isAhead_107 : decode cX4_isAhead 107 = .ok (.if_icmp .le 7, 3) := by decide +kernel
theorem dX4_isAhead_110 : decode cX4_isAhead 110 = .ok (.iconst 1, 1) := by decide +kernel
theorem dX4_isAhead_111 : decode cX4_isAhead 111 = .ok (.goto 4, 3) := by decide +kernel
theorem dX4_isAhead_114 : decode cX4_isAhead 114 = .ok (.iconst 0, 1) := by decide +kernel
theorem dX4_isAhead_115 : decode cX4_isAhead 115 = .ok (.ireturn, 1) := by decide +kernel
theorem dX4_isAhead_116 : decode cX4_isAhead 116 = .ok (.iload_n 1, 1) := by decide +kernel
theorem dX4_isAhead_117 : decode cX4_isAhead 117 = .ok (.iload_n 2, 1) := by decide +kernel
theorem dX4_isAhead_118 : decode cX4_isAhead 118 = .ok (.if_icmp .ge 7, 3) := by decide +kernel
theorem dX4_isAhead_121 : decode cX4_isAhead 121 = .ok (.iconst 1, 1) := by decide +kernel
theorem dX4_isAhead_122 : decode cX4_isAhead 122 = .ok (.goto 4, 3) := by decide +kernel
theorem dX4_isAhead_125 : decode cX4_isAhead 125 = .ok (.iconst 0, 1) := by decide +kernel
theorem dX4_isAhead_126 : decode cX4_isAhead 126 = .ok (.ireturn, 1) := by decide +kernel
set_option maxRecDepth 20000 in
theorem ggX5_init_X1_init : GoodIn wsX5_init wsX1_init := goodIn_r _ [19, 20, 2, 3, 21, 22, 67] (by decide +kernel) (by decide +kernel)
set_option maxRecDepth 20000 in
theorem gX5_init_X1_init_n11 : GoodIn wsX5_init (wsX1_init) := ggX5_init_X1_init
set_option maxRecDepth 20000 in
theorem ggX5_init_X2_init : GoodIn wsX5_init wsX2_init := goodIn_r _ [25, 26, 2, 3, 27, 16, 28, 29, 30, 31, 32, 33, 34, 35, 36, 37, 38, 39, 40, 41, 42, 43, 44, 45, 46, 47, 48, 49, 50, 51, 21, 52, 53, 54, 55, 10, 56, 57, 58, 72, 73, 74, 75, 76, 77, 78, 79, 84, 85, 86, 87, 88, 89, 90, 91, 92, 93] (by decide +kernel) (by decide +kernel)
set_option maxRecDepth 20000 in
theorem gX5_init_X2_init : GoodIn wsX5_init (wsX2_init) := ggX5_init_X2_init
set_option maxRecDepth 20000 in
theorem ggX5_init_X4_init : GoodIn wsX5_init wsX4_init := goodIn_r _ [60, 61, 2, 3, 16, 62, 63, 64, 65, 66, 80, 81, 82, 83] (by decide +kernel) (by decide +kernel)
set_option maxRecDepth 20000 in
theorem gX5_init_X4_init_n25 : GoodIn wsX5_init (wsX4_init) := ggX5_init_X4_init
theorem dX5_init_0 : decode cX5_init 0 = .ok (.aload_n 0, 1) := by decide +kernel
theorem dX5_init_1 : decode cX5_init 1 = .ok (.invokespecial 3, 3) := by decide +kernel
theorem dX5_init_4 : decode cX5_init 4 = .ok (.aload_n 0, 1) := by decide +kernel
theorem dX5_init_5 : decode cX5_init 5 = .ok (.new 9, 3) := by decide +kernel
theorem dX5_init_8 : decode cX5_init 8 = .ok (.dup, 1) := by decide +kernel
theorem dX5_init_9 : decode cX5_init 9 = .ok (.invokespecial 11, 3) := by decide +kernel
theorem dX5_init_12 : decode cX5_init 12 = .ok (.putfield 12, 3) := by decide +kernel
theorem dX5_init_15 : decode cX5_init 15 = .ok (.aload_n 0, 1) := by decide +kernel
theorem dX5_init_16 : decode cX5_init 16 = .ok (.new 16, 3) := by decide +kernel
theorem dX5_init_19 : decode cX5_init 19 = .ok (.dup, 1) := by decide +kernel
theorem dX5_init_20 : decode cX5_init 20 = .ok (.invokespecial 18, 3) := by decide +kernel
theorem dX5_init_23 : decode cX5_init 23 = .ok (.putfield 19, 3) := by decide +kernel
theorem dX5_init_26 : decode cX5_init 26 = .ok (.aload_n 0, 1) := by decide +kernel
theorem dX5_init_27 : decode cX5_init 27 = .ok (.new 23, 3) := by decide +kernel
theorem dX5_init_30 : decode cX5_init 30 = .ok (.dup, 1) := by decide +kernel
theorem dX5_init_31 : decode cX5_init 31 = .ok (.invokespecial 25, 3) := by decide +kernel
theorem dX5_init_34 : decode cX5_init 34 = .ok (.putfield 26, 3) := by decide +kernel
theorem dX5_init_37 : decode cX5_init 37 = .ok (.aload_n 0, 1) := by decide +kernel
theorem dX5_init_38 : decode cX5_init 38 = .ok (.iconst 2, 1) := by decide +kernel
theorem dX5_init_39 : decode cX5_init 39 = .ok (.newarray .int, 2) := by decide +kernel
theorem dX5_init_41 : decode cX5_init 41 = .ok (.dup, 1) := by decide +kernel
theorem dX5_init_42 : decode cX5_init 42 = .ok (.iconst 0, 1) := by decide +kernel
theorem dX5_init_43 : decode cX5_init 43 = .ok (.iconst 0, 1) := by decide +kernel
theorem dX5_init_44 : decode cX5_init 44 = .ok (.iastore, 1) := by decide +kernel
theorem dX5_init_45 : decode cX5_init 45 = .ok (.dup, 1) := by decide +kernel
theorem dX5_init_46 : decode cX5_init 46 = .ok (.iconst 1, 1) := by decide +kernel
theorem dX5_init_47 : decode cX5_init 47 = .ok (.sipush 143, 3) := by decide +kernel
theorem dX5_init_50 : decode cX5_init 50 = .ok (.iastore, 1) := by decide +kernel
theorem dX5_init_51 : decode cX5_init 51 = .ok (.putfield 30, 3) := by decide +kernel
theorem dX5_init_54 : decode cX5_init 54 = .ok (.return_, 1) := by decide +kernel
set_option maxRecDepth 20000 in
theorem ggX5_toggleBunker_X5_checkCell : GoodIn wsX5_toggleBunker wsX5_checkCell := goodIn_ca (goodIn_r _ [8, 9, 10] (by decide +kernel) (by decide +kernel)) (goodIn_sub (fun _ h => List.mem_cons_of_mem _ (List.mem_append_right _ h)) (by decide +kernel))
set_option maxRecDepth 20000 in
theorem gX5_toggleBunker_X5_checkCell : GoodIn wsX5_toggleBunker (va_wsS RX5 34 yX5_checkCell wsX5_checkCell) := goodIn_app (goodIn_of _ (by decide +kernel)) ggX5_toggleBunker_X5_checkCell
set_option maxRecDepth 20000 in
theorem ggX5_toggleBunker_X2_isPlayed : GoodIn wsX5_toggleBunker wsX2_isPlayed := goodIn_r _ [15, 16, 27, 28, 29, 30, 31, 32, 33, 34] (by decide +kernel) (by decide +kernel)
set_option maxRecDepth 20000 in
theorem gX5_toggleBunker_X2_isPlayed : GoodIn wsX5_toggleBunker (wsV RX5 38 RX2 yX2_isPlayed wsX2_isPlayed) := goodIn_app (goodIn_of _ (by decide +kernel)) ggX5_toggleBunker_X2_isPlayed
set_option maxRecDepth 20000 in
theorem ggX5_toggleBunker_X1_turnBunker : GoodIn wsX5_toggleBunker wsX1_turnBunker := goodIn_r _ [21, 22, 35] (by decide +kernel) (by decide +kernel)
set_option maxRecDepth 20000 in
theorem gX5_toggleBunker_X1_turnBunker : GoodIn wsX5_toggleBunker (wsV RX5 49 RX1 yX1_turnBunker wsX1_turnBunker) := goodIn_app (goodIn_of _ (by decide +kernel)) ggX5_toggleBunker_X1_turnBunker
theorem dX5_toggleBunker_0 : decode cX5_toggleBunker 0 = .ok (.iload_n 1, 1) := by decide +kernel
theorem dX5_toggleBunker_1 : decode cX5_toggleBunker 1 = .ok (.invokestatic 34, 3) := by decide +kernel
theorem dX5_toggleBunker_4 : decode cX5_toggleBunker 4 = .ok (.aload_n 0, 1) := by decide +kernel
theorem dX5_toggleBunker_5 : decode cX5_toggleBunker 5 = .ok (.getfield 19, 3) := by decide +kernel
theorem dX5_toggleBunker_8 : decode cX5_toggleBunker 8 = .ok (.invokevirtual 38, 3) := by decide +kernel
theorem dX5_toggleBunker_11 : decode cX5_toggleBunker 11 = .ok (.ifCond .eq 13, 3) := by decide +kernel
theorem dX5_toggleBunker_14 : decode cX5_toggleBunker 14 = .ok (.new 42, 3) := by decide +kernel
theorem dX5_toggleBunker_17 : decode cX5_toggleBunker 17 = .ok (.dup, 1) := by decide +kernel
theorem dX5_toggleBunker_18 : decode cX5_toggleBunker 18 = .ok (.ldc 44, 2) := by decide +kernel
theorem dX5_toggleBunker_20 : decode cX5_toggleBunker 20 = .ok (.invokespecial 46, 3) := by decide +kernel
theorem dX5_toggleBunker_23 : decode cX5_toggleBunker 23 = .ok (.athrow, 1) := by decide +kernel
theorem dX5_toggleBunker_24 : decode cX5_toggleBunker 24 = .ok (.aload_n 0, 1) := by decide +kernel
theorem dX5_toggleBunker_25 : decode cX5_toggleBunker 25 = .ok (.getfield 12, 3) := by decide +kernel
theorem dX5_toggleBunker_28 : decode cX5_toggleBunker 28 = .ok (.iload_n 1, 1) := by decide +kernel
theorem dX5_toggleBunker_29 : decode cX5_toggleBunker 29 = .ok (.invokevirtual 49, 3) := by decide +kernel
theorem dX5_toggleBunker_32 : decode cX5_toggleBunker 32 = .ok (.ireturn, 1) := by decide +kernel
set_option maxRecDepth 20000 in
theorem ggX5_sees_X5_checkCell : GoodIn wsX5_sees wsX5_checkCell := goodIn_ca (goodIn_r _ [5, 6, 7] (by decide +kernel) (by decide +kernel)) (goodIn_sub (fun _ h => List.mem_cons_of_mem _ (List.mem_append_right _ h)) (by decide +kernel))
set_option maxRecDepth 20000 in
theorem gX5_sees_X5_checkCell : GoodIn wsX5_sees (va_wsS RX5 34 yX5_checkCell wsX5_checkCell) := goodIn_app (goodIn_of _ (by decide +kernel)) ggX5_sees_X5_checkCell
set_option maxRecDepth 20000 in
theorem ggX5_sees_X1_hasSight : GoodIn wsX5_sees wsX1_hasSight := goodIn_r _ [12, 13, 14, 15, 16, 17, 18, 19, 20, 21, 22, 11, 23, 24, 25, 26, 31] (by decide +kernel) (by decide +kernel)
set_option maxRecDepth 20000 in
theorem gX5_sees_X1_hasSight : GoodIn wsX5_sees (wsV RX5 53 RX1 yX1_hasSight wsX1_hasSight) := goodIn_app (goodIn_of _ (by decide +kernel)) ggX5_sees_X1_hasSight
theorem dX5_sees_0 : decode cX5_sees 0 = .ok (.iload_n 1, 1) := by decide +kernel
theorem dX5_sees_1 : decode cX5_sees 1 = .ok (.invokestatic 34, 3) := by decide +kernel
theorem dX5_sees_4 : decode cX5_sees 4 = .ok (.iload_n 2, 1) := by decide +kernel
theorem dX5_sees_5 : decode cX5_sees 5 = .ok (.invokestatic 34, 3) := by decide +kernel
theorem dX5_sees_8 : decode cX5_sees 8 = .ok (.aload_n 0, 1) := by decide +kernel
theorem dX5_sees_9 : decode cX5_sees 9 = .ok (.getfield 12, 3) := by decide +kernel
theorem dX5_sees_12 : decode cX5_sees 12 = .ok (.iload_n 1, 1) := by decide +kernel
theorem dX5_sees_13 : decode cX5_sees 13 = .ok (.iload_n 2, 1) := by decide +kernel
theorem dX5_sees_14 : decode cX5_sees 14 = .ok (.invokevirtual 53, 3) := by decide +kernel
theorem dX5_sees_17 : decode cX5_sees 17 = .ok (.ireturn, 1) := by decide +kernel
set_option maxRecDepth 20000 in
theorem ggX5_view_X5_checkCell : GoodIn wsX5_view wsX5_checkCell := goodIn_ca (goodIn_r _ [5, 6, 7] (by decide +kernel) (by decide +kernel)) (goodIn_sub (fun _ h => List.mem_cons_of_mem _ (List.mem_append_right _ h)) (by decide +kernel))
set_option maxRecDepth 20000 in
theorem gX5_view_X5_checkCell : GoodIn wsX5_view (va_wsS RX5 34 yX5_checkCell wsX5_checkCell) := goodIn_app (goodIn_of _ (by decide +kernel)) ggX5_view_X5_checkCell
set_option maxRecDepth 20000 in
theorem ggX5_view_X1_countSeen : GoodIn wsX5_view wsX1_countSeen := goodIn_r _ [12, 13, 14, 15, 11, 16, 17, 18, 19, 20, 21, 22, 23, 24, 25, 26, 27, 28, 29, 30, 35] (by decide +kernel) (by decide +kernel)
set_option maxRecDepth 20000 in
theorem gX5_view_X1_countSeen : GoodIn wsX5_view (wsV RX5 57 RX1 yX1_countSeen wsX1_countSeen) := goodIn_app (goodIn_of _ (by decide +kernel)) ggX5_view_X1_countSeen
theorem dX5_view_0 : decode cX5_view 0 = .ok (.iload_n 1, 1) := by decide +kernel
theorem dX5_view_1 : decode cX5_view 1 = .ok (.invokestatic 34, 3) := by decide +kernel
theorem dX5_view_4 : decode cX5_view 4 = .ok (.aload_n 0, 1) := by decide +kernel
theorem dX5_view_5 : decode cX5_view 5 = .ok (.getfield 12, 3) := by decide +kernel
theorem dX5_view_8 : decode cX5_view 8 = .ok (.iload_n 1, 1) := by decide +kernel
theorem dX5_view_9 : decode cX5_view 9 = .ok (.invokevirtual 57, 3) := by decide +kernel
theorem dX5_view_12 : decode cX5_view 12 = .ok (.ireturn, 1) := by decide +kernel
set_option maxRecDepth 20000 in
theorem ggX5_setReferee_X5_checkReferee : GoodIn wsX5_setReferee wsX5_checkReferee := goodIn_ca (goodIn_r _ [5, 6, 7] (by decide +kernel) (by decide +kernel)) (goodIn_sub (fun _ h => List.mem_cons_of_mem _ (List.mem_append_right _ h)) (by decide +kernel))
set_option maxRecDepth 20000 in
theorem gX5_setReferee_X5_checkReferee : GoodIn wsX5_setReferee (va_wsS RX5 61 yX5_checkReferee wsX5_checkReferee) := goodIn_app (goodIn_of _ (by decide +kernel)) ggX5_setReferee_X5_checkReferee
set_option maxRecDepth 20000 in
theorem ggX5_setReferee_X5_checkCell : GoodIn wsX5_setReferee wsX5_checkCell := goodIn_ca (goodIn_r _ [10, 6, 7] (by decide +kernel) (by decide +kernel)) (goodIn_sub (fun _ h => List.mem_cons_of_mem _ (List.mem_append_right _ h)) (by decide +kernel))
set_option maxRecDepth 20000 in
theorem gX5_setReferee_X5_checkCell : GoodIn wsX5_setReferee (va_wsS RX5 34 yX5_checkCell wsX5_checkCell) := goodIn_app (goodIn_of _ (by decide +kernel)) ggX5_setReferee_X5_checkCell
theorem dX5_setReferee_0 : decode cX5_setReferee 0 = .ok (.iload_n 1, 1) := by decide +kernel
theorem dX5_setReferee_1 : decode cX5_setReferee 1 = .ok (.invokestatic 61, 3) := by decide +kernel
theorem dX5_setReferee_4 : decode cX5_setReferee 4 = .ok (.iload_n 2, 1) := by decide +kernel
theorem dX5_setReferee_5 : decode cX5_setReferee 5 = .ok (.invokestatic 34, 3) := by decide +kernel
theorem dX5_setReferee_8 : decode cX5_setReferee 8 = .ok (.aload_n 0, 1) := by decide +kernel
theorem dX5_setReferee_9 : decode cX5_setReferee 9 = .ok (.getfield 30, 3) := by decide +kernel
theorem dX5_setReferee_12 : decode cX5_setReferee 12 = .ok (.iload_n 1, 1) := by decide +kernel
theorem dX5_setReferee_13 : decode cX5_setReferee 13 = .ok (.iaload, 1) := by decide +kernel
theorem dX5_setReferee_14 : decode cX5_setReferee 14 = .ok (.istore_n 3, 1) := by decide +kernel
theorem dX5_setReferee_15 : decode cX5_setReferee 15 = .ok (.aload_n 0, 1) := by decide +kernel
theorem dX5_setReferee_16 : decode cX5_setReferee 16 = .ok (.getfield 30, 3) := by decide +kernel
theorem dX5_setReferee_19 : decode cX5_setReferee 19 = .ok (.iload_n 1, 1) := by decide +kernel
theorem dX5_setReferee_20 : decode cX5_setReferee 20 = .ok (.iload_n 2, 1) := by decide +kernel
theorem dX5_setReferee_21 : decode cX5_setReferee 21 = .ok (.iastore, 1) := by decide +kernel
theorem dX5_setReferee_22 : decode cX5_setReferee 22 = .ok (.iload_n 3, 1) := by decide +kernel
theorem dX5_setReferee_23 : decode cX5_setReferee 23 = .ok (.ireturn, 1) := by decide +kernel
set_option maxRecDepth 20000 in
theorem ggX5_begin_X5_checkTeam : GoodIn wsX5_begin wsX5_checkTeam := goodIn_ca (goodIn_r _ [9, 10, 11] (by decide +kernel) (by decide +kernel)) (goodIn_sub (fun _ h => List.mem_cons_of_mem _ (List.mem_append_right _ h)) (by decide +kernel))
set_option maxRecDepth 20000 in
theorem gX5_begin_X5_checkTeam : GoodIn wsX5_begin (va_wsS RX5 64 yX5_checkTeam wsX5_checkTeam) := goodIn_app (goodIn_of _ (by decide +kernel)) ggX5_begin_X5_checkTeam
set_option maxRecDepth 20000 in
theorem ggX5_begin_X2_isPlayed : GoodIn wsX5_begin wsX2_isPlayed := goodIn_r _ [16, 17, 39, 40, 41, 42, 43, 44, 45, 46] (by decide +kernel) (by decide +kernel)
set_option maxRecDepth 20000 in
theorem gX5_begin_X2_isPlayed : GoodIn wsX5_begin (wsV RX5 38 RX2 yX2_isPlayed wsX2_isPlayed) := goodIn_app (goodIn_of _ (by decide +kernel)) ggX5_begin_X2_isPlayed
set_option maxRecDepth 20000 in
theorem ggX5_begin_X2_start : GoodIn wsX5_begin wsX2_start := goodIn_r _ [21, 22, 23, 17, 24, 25, 26, 15, 27, 28, 29, 30, 31, 32, 33, 34, 39, 40, 41, 42, 43, 44, 45, 46, 47, 48, 49, 50, 51, 52, 53, 54, 55, 56] (by decide +kernel) (by decide +kernel)
set_option maxRecDepth 20000 in
theorem gX5_begin_X2_start : GoodIn wsX5_begin (wsV RX5 72 RX2 yX2_start wsX2_start) := goodIn_app (goodIn_of _ (by decide +kernel)) ggX5_begin_X2_start
theorem dX5_begin_0 : decode cX5_begin 0 = .ok (.iload_n 1, 1) := by decide +kernel
theorem dX5_begin_1 : decode cX5_begin 1 = .ok (.invokestatic 64, 3) := by decide +kernel
theorem dX5_begin_4 : decode cX5_begin 4 = .ok (.iload_n 2, 1) := by decide +kernel
theorem dX5_begin_5 : decode cX5_begin 5 = .ok (.invokestatic 64, 3) := by decide +kernel
theorem dX5_begin_8 : decode cX5_begin 8 = .ok (.iload_n 1, 1) := by decide +kernel
theorem dX5_begin_9 : decode cX5_begin 9 = .ok (.iload_n 2, 1) := by decide +kernel
theorem dX5_begin_10 : decode cX5_begin 10 = .ok (.if_icmp .ne 13, 3) := by decide +kernel
theorem dX5_begin_13 : decode cX5_begin 13 = .ok (.new 67, 3) := by decide +kernel
theorem dX5_begin_16 : decode cX5_begin 16 = .ok (.dup, 1) := by decide +kernel
theorem dX5_begin_17 : decode cX5_begin 17 = .ok (.ldc 69, 2) := by decide +kernel
theorem dX5_begin_19 : decode cX5_begin 19 = .ok (.invokespecial 71, 3) := by decide +kernel
theorem dX5_begin_22 : decode cX5_begin 22 = .ok (.athrow, 1) := by decide +kernel
theorem dX5_begin_23 : decode cX5_begin 23 = .ok (.aload_n 0, 1) := by decide +kernel
theorem dX5_begin_24 : decode cX5_begin 24 = .ok (.getfield 19, 3) := by decide +kernel
theorem dX5_begin_27 : decode cX5_begin 27 = .ok (.invokevirtual 38, 3) := by decide +kernel
theorem dX5_begin_30 : decode cX5_begin 30 = .ok (.ifCond .eq 13, 3) := by decide +kernel
theorem dX5_begin_33 : decode cX5_begin 33 = .ok (.new 42, 3) := by decide +kernel
theorem dX5_begin_36 : decode cX5_begin 36 = .ok (.dup, 1) := by decide +kernel
theorem dX5_begin_37 : decode cX5_begin 37 = .ok (.ldc 44, 2) := by decide +kernel
theorem dX5_begin_39 : decode cX5_begin 39 = .ok (.invokespecial 46, 3) := by decide +kernel
theorem dX5_begin_42 : decode cX5_begin 42 = .ok (.athrow, 1) := by decide +kernel
theorem dX5_begin_43 : decode cX5_begin 43 = .ok (.aload_n 0, 1) := by decide +kernel
theorem dX5_begin_44 : decode cX5_begin 44 = .ok (.getfield 19, 3) := by decide +kernel
theorem dX5_begin_47 : decode cX5_begin 47 = .ok (.iload_n 1, 1) := by decide +kernel
theorem dX5_begin_48 : decode cX5_begin 48 = .ok (.iload_n 2, 1) := by decide +kernel
theorem dX5_begin_49 : decode cX5_begin 49 = .ok (.invokevirtual 72, 3) := by decide +kernel
theorem dX5_begin_52 : decode cX5_begin 52 = .ok (.return_, 1) := by decide +kernel
set_option maxRecDepth 20000 in
theorem ggX5_move_X5_checkPlayer : GoodIn wsX5_move wsX5_checkPlayer := goodIn_ca (goodIn_r _ [8, 9, 10] (by decide +kernel) (by decide +kernel)) (goodIn_sub (fun _ h => List.mem_cons_of_mem _ (List.mem_append_right _ h)) (by decide +kernel))
set_option maxRecDepth 20000 in
theorem gX5_move_X5_checkPlayer : GoodIn wsX5_move (va_wsS RX5 76 yX5_checkPlayer wsX5_checkPlayer) := goodIn_app (goodIn_of _ (by decide +kernel)) ggX5_move_X5_checkPlayer
set_option maxRecDepth 20000 in
theorem ggX5_move_X5_checkCell : GoodIn wsX5_move wsX5_checkCell := goodIn_ca (goodIn_r _ [13, 9, 10] (by decide +kernel) (by decide +kernel)) (goodIn_sub (fun _ h => List.mem_cons_of_mem _ (List.mem_append_right _ h)) (by decide +kernel))
set_option maxRecDepth 20000 in
theorem gX5_move_X5_checkCell : GoodIn wsX5_move (va_wsS RX5 34 yX5_checkCell wsX5_checkCell) := goodIn_app (goodIn_of _ (by decide +kernel)) ggX5_move_X5_checkCell
set_option maxRecDepth 20000 in
theorem ggX5_move_X5_checkRound : GoodIn wsX5_move wsX5_checkRound := goodIn_ca (goodIn_r _ [17, 1, 2, 3, 18, 19, 20, 21, 22, 23, 53, 54, 55, 56, 57, 58, 59, 60, 61, 62, 63, 64] (by decide +kernel) (by decide +kernel)) (goodIn_sub (fun _ h => List.mem_cons_of_mem _ (List.mem_append_left _ (List.mem_append_right _ h))) (by decide +kernel))
set_option maxRecDepth 20000 in
theorem gX5_move_X5_checkRound : GoodIn wsX5_move (wsV RX5 79 RX5 yX5_checkRound wsX5_checkRound) := goodIn_app (goodIn_of _ (by decide +kernel)) ggX5_move_X5_checkRound
set_option maxRecDepth 20000 in
theorem ggX5_move_X2_cellOf : GoodIn wsX5_move wsX2_cellOf := goodIn_r _ [27, 28, 57, 58, 59, 60, 61, 62, 63, 64] (by decide +kernel) (by decide +kernel)
set_option maxRecDepth 20000 in
theorem gX5_move_X2_cellOf : GoodIn wsX5_move (wsV RX5 82 RX2 yX2_cellOf wsX2_cellOf) := goodIn_app (goodIn_of _ (by decide +kernel)) ggX5_move_X2_cellOf
set_option maxRecDepth 20000 in
theorem ggX5_move_X1_distance : GoodIn wsX5_move wsX1_distance := goodIn_r _ [32, 33, 34, 35, 36, 37, 38, 39] (by decide +kernel) (by decide +kernel)
set_option maxRecDepth 20000 in
theorem gX5_move_X1_distance : GoodIn wsX5_move (va_wsS RX5 87 yX1_distance wsX1_distance) := goodIn_app (goodIn_of _ (by decide +kernel)) ggX5_move_X1_distance
set_option maxRecDepth 20000 in
theorem ggX5_move_X1_hasBunker : GoodIn wsX5_move wsX1_hasBunker := goodIn_r _ [43, 44, 65] (by decide +kernel) (by decide +kernel)
set_option maxRecDepth 20000 in
theorem gX5_move_X1_hasBunker : GoodIn wsX5_move (wsV RX5 93 RX1 yX1_hasBunker wsX1_hasBunker) := goodIn_app (goodIn_of _ (by decide +kernel)) ggX5_move_X1_hasBunker
set_option maxRecDepth 20000 in
theorem ggX5_move_X2_playerOn : GoodIn wsX5_move wsX2_playerOn := goodIn_r _ [48, 28, 57, 58, 59, 60, 61, 62, 63, 64] (by decide +kernel) (by decide +kernel)
set_option maxRecDepth 20000 in
theorem gX5_move_X2_playerOn : GoodIn wsX5_move (wsV RX5 96 RX2 yX2_playerOn wsX2_playerOn) := goodIn_app (goodIn_of _ (by decide +kernel)) ggX5_move_X2_playerOn
set_option maxRecDepth 20000 in
theorem ggX5_move_X2_put : GoodIn wsX5_move wsX2_put := goodIn_r _ [52, 28, 57, 58, 59, 60, 61, 62, 63, 64] (by decide +kernel) (by decide +kernel)
set_option maxRecDepth 20000 in
theorem gX5_move_X2_put : GoodIn wsX5_move (wsV RX5 101 RX2 yX2_put wsX2_put) := goodIn_app (goodIn_of _ (by decide +kernel)) ggX5_move_X2_put
theorem dX5_move_0 : decode cX5_move 0 = .ok (.iload_n 1, 1) := by decide +kernel
theorem dX5_move_1 : decode cX5_move 1 = .ok (.invokestatic 76, 3) := by decide +kernel
theorem dX5_move_4 : decode cX5_move 4 = .ok (.iload_n 2, 1) := by decide +kernel
theorem dX5_move_5 : decode cX5_move 5 = .ok (.invokestatic 34, 3) := by decide +kernel
theorem dX5_move_8 : decode cX5_move 8 = .ok (.aload_n 0, 1) := by decide +kernel
theorem dX5_move_9 : decode cX5_move 9 = .ok (.invokevirtual 79, 3) := by decide +kernel
theorem dX5_move_12 : decode cX5_move 12 = .ok (.aload_n 0, 1) := by decide +kernel
theorem dX5_move_13 : decode cX5_move 13 = .ok (.getfield 19, 3) := by decide +kernel
theorem dX5_move_16 : decode cX5_move 16 = .ok (.iload_n 1, 1) := by decide +kernel
theorem dX5_move_17 : decode cX5_move 17 = .ok (.invokevirtual 82, 3) := by decide +kernel
theorem dX5_move_20 : decode cX5_move 20 = .ok (.istore_n 3, 1) := by decide +kernel
theorem dX5_move_21 : decode cX5_move 21 = .ok (.iload_n 3, 1) := by decide +kernel
theorem dX5_move_22 : decode cX5_move 22 = .ok (.bipush (-2), 2) := by decide +kernel
theorem dX5_move_24 : decode cX5_move 24 = .ok (.if_icmp .ne 13, 3) := by decide +kernel
theorem dX5_move_27 : decode cX5_move 27 = .ok (.new 42, 3) := by decide +kernel
theorem dX5_move_30 : decode cX5_move 30 = .ok (.dup, 1) := by decide +kernel
theorem dX5_move_31 : decode cX5_move 31 = .ok (.ldc 85, 2) := by decide +kernel
theorem dX5_move_33 : decode cX5_move 33 = .ok (.invokespecial 46, 3) := by decide +kernel
theorem dX5_move_36 : decode cX5_move 36 = .ok (.athrow, 1) := by decide +kernel
theorem dX5_move_37 : decode cX5_move 37 = .ok (.iload_n 3, 1) := by decide +kernel
theorem dX5_move_38 : decode cX5_move 38 = .ok (.ifCond .lt 22, 3) := by decide +kernel
theorem dX5_move_41 : decode cX5_move 41 = .ok (.iload_n 3, 1) := by decide +kernel
theorem dX5_move_42 : decode cX5_move 42 = .ok (.iload_n 2, 1) := by decide +kernel
theorem dX5_move_43 : decode cX5_move 43 = .ok (.invokestatic 87, 3) := by decide +kernel
theorem dX5_move_46 : decode cX5_move 46 = .ok (.iconst 1, 1) := by decide +kernel
theorem dX5_move_47 : decode cX5_move 47 = .ok (.if_icmp .eq 13, 3) := by decide +kernel
theorem dX5_move_50 : decode cX5_move 50 = .ok (.new 42, 3) := by decide +kernel
theorem dX5_move_53 : decode cX5_move 53 = .ok (.dup, 1) := by decide +kernel
theorem dX5_move_54 : decode cX5_move 54 = .ok (.ldc 91, 2) := by decide +kernel
theorem dX5_move_56 : decode cX5_move 56 = .ok (.invokespecial 46, 3) := by decide +kernel
theorem dX5_move_59 : decode cX5_move 59 = .ok (.athrow, 1) := by decide +kernel
theorem dX5_move_60 : decode cX5_move 60 = .ok (.aload_n 0, 1) := by decide +kernel
theorem dX5_move_61 : decode cX5_move 61 = .ok (.getfield 12, 3) := by decide +kernel
theorem dX5_move_64 : decode cX5_move 64 = .ok (.iload_n 2, 1) := by decide +kernel
theorem dX5_move_65 : decode cX5_move 65 = .ok (.invokevirtual 93, 3) := by decide +kernel
theorem dX5_move_68 : decode cX5_move 68 = .ok (.ifCond .ne 15, 3) := by decide +kernel
theorem dX5_move_71 : decode cX5_move 71 = .ok (.aload_n 0, 1) := by decide +kernel
theorem dX5_move_72 : decode cX5_move 72 = .ok (.getfield 19, 3) := by decide +kernel
theorem dX5_move_75 : decode cX5_move 75 = .ok (.iload_n 2, 1) := by decide +kernel
theorem dX5_move_76 : decode cX5_move 76 = .ok (.invokevirtual 96, 3) := by decide +kernel
theorem dX5_move_79 : decode cX5_move 79 = .ok (.iconst (-1), 1) := by decide +kernel
theorem dX5_move_80 : decode cX5_move 80 = .ok (.if_icmp .eq 13, 3) := by decide +kernel
theorem dX5_move_83 : decode cX5_move 83 = .ok (.new 42, 3) := by decide +kernel
theorem dX5_move_86 : decode cX5_move 86 = .ok (.dup, 1) := by decide +kernel
theorem dX5_move_87 : decode cX5_move 87 = .ok (.ldc 99, 2) := by decide +kernel
theorem dX5_move_89 : decode cX5_move 89 = .ok (.invokespecial 46, 3) := by decide +kernel
theorem dX5_move_92 : decode cX5_move 92 = .ok (.athrow, 1) := by decide +kernel
theorem dX5_move_93 : decode cX5_move 93 = .ok (.aload_n 0, 1) := by decide +kernel
theorem dX5_move_94 : decode cX5_move 94 = .ok (.getfield 19, 3) := by decide +kernel
theorem dX5_move_97 : decode cX5_move 97 = .ok (.iload_n 1, 1) := by decide +kernel
theorem dX5_move_98 : decode cX5_move 98 = .ok (.iload_n 2, 1) := by decide +kernel
theorem dX5_move_99 : decode cX5_move 99 = .ok (.invokevirtual 101, 3) := by decide +kernel
theorem dX5_move_102 : decode cX5_move 102 = .ok (.iload_n 3, 1) := by decide +kernel
theorem dX5_move_103 : decode cX5_move 103 = .ok (.ireturn, 1) := by decide +kernel
set_option maxRecDepth 20000 in
theorem ggX5_shoot_X5_checkPlayer : GoodIn wsX5_shoot wsX5_checkPlayer := goodIn_ca (goodIn_r _ [7, 8, 9] (by decide +kernel) (by decide +kernel)) (goodIn_sub (fun _ h => List.mem_cons_of_mem _ (List.mem_append_right _ h)) (by decide +kernel))
set_option maxRecDepth 20000 in
theorem gX5_shoot_X5_checkPlayer : GoodIn wsX5_shoot (va_wsS RX5 76 yX5_checkPlayer wsX5_checkPlayer) := goodIn_app (goodIn_of _ (by decide +kernel)) ggX5_shoot_X5_checkPlayer
set_option maxRecDepth 20000 in
theorem ggX5_shoot_X5_checkCell : GoodIn wsX5_shoot wsX5_checkCell := goodIn_ca (goodIn_r _ [12, 8, 9] (by decide +kernel) (by decide +kernel)) (goodIn_sub (fun _ h => List.mem_cons_of_mem _ (List.mem_append_right _ h)) (by decide +kernel))
set_option maxRecDepth 20000 in
theorem gX5_shoot_X5_checkCell : GoodIn wsX5_shoot (va_wsS RX5 34 yX5_checkCell wsX5_checkCell) := goodIn_app (goodIn_of _ (by decide +kernel)) ggX5_shoot_X5_checkCell
set_option maxRecDepth 20000 in
theorem ggX5_shoot_X5_checkRound : GoodIn wsX5_shoot wsX5_checkRound := goodIn_ca (goodIn_r _ [16, 1, 2, 3, 17, 18, 19, 20, 21, 22, 60, 61, 62, 63, 64, 65, 66, 67, 68, 69, 70, 71] (by decide +kernel) (by decide +kernel)) (goodIn_sub (fun _ h => List.mem_cons_of_mem _ (List.mem_append_left _ (List.mem_append_right _ h))) (by decide +kernel))
set_option maxRecDepth 20000 in
theorem gX5_shoot_X5_checkRound : GoodIn wsX5_shoot (wsV RX5 79 RX5 yX5_checkRound wsX5_checkRound) := goodIn_app (goodIn_of _ (by decide +kernel)) ggX5_shoot_X5_checkRound
set_option maxRecDepth 20000 in
theorem ggX5_shoot_X2_cellOf : GoodIn wsX5_shoot wsX2_cellOf := goodIn_r _ [26, 27, 64, 65, 66, 67, 68, 69, 70, 71] (by decide +kernel) (by decide +kernel)
set_option maxRecDepth 20000 in
theorem gX5_shoot_X2_cellOf : GoodIn wsX5_shoot (wsV RX5 82 RX2 yX2_cellOf wsX2_cellOf) := goodIn_app (goodIn_of _ (by decide +kernel)) ggX5_shoot_X2_cellOf
set_option maxRecDepth 20000 in
theorem ggX5_shoot_X2_mayFire : GoodIn wsX5_shoot wsX2_mayFire := goodIn_r _ [31, 32, 22, 33, 34, 64, 65, 66, 67, 68, 69, 70, 71, 72, 73, 74, 75, 76] (by decide +kernel) (by decide +kernel)
set_option maxRecDepth 20000 in
theorem gX5_shoot_X2_mayFire : GoodIn wsX5_shoot (wsV RX5 108 RX2 yX2_mayFire wsX2_mayFire) := goodIn_app (goodIn_of _ (by decide +kernel)) ggX5_shoot_X2_mayFire
set_option maxRecDepth 20000 in
theorem ggX5_shoot_X2_fire : GoodIn wsX5_shoot wsX2_fire := goodIn_r _ [38, 27, 22, 32, 33, 39, 40, 41, 42, 43, 44, 45, 46, 47, 48, 49, 50, 51, 52, 53, 54, 55, 56, 57, 58, 59, 64, 65, 66, 67, 68, 69, 70, 71, 72, 73, 74, 75, 76] (by decide +kernel) (by decide +kernel)
set_option maxRecDepth 20000 in
theorem gX5_shoot_X2_fire : GoodIn wsX5_shoot (wsV RX5 113 RX2 yX2_fire wsX2_fire) := goodIn_app (goodIn_of _ (by decide +kernel)) ggX5_shoot_X2_fire
theorem dX5_shoot_0 : decode cX5_shoot 0 = .ok (.iload_n 1, 1) := by decide +kernel
theorem dX5_shoot_1 : decode cX5_shoot 1 = .ok (.invokestatic 76, 3) := by decide +kernel
theorem dX5_shoot_4 : decode cX5_shoot 4 = .ok (.iload_n 2, 1) := by decide +kernel
theorem dX5_shoot_5 : decode cX5_shoot 5 = .ok (.invokestatic 34, 3) := by decide +kernel
theorem dX5_shoot_8 : decode cX5_shoot 8 = .ok (.aload_n 0, 1) := by decide +kernel
theorem dX5_shoot_9 : decode cX5_shoot 9 = .ok (.invokevirtual 79, 3) := by decide +kernel
theorem dX5_shoot_12 : decode cX5_shoot 12 = .ok (.aload_n 0, 1) := by decide +kernel
theorem dX5_shoot_13 : decode cX5_shoot 13 = .ok (.getfield 19, 3) := by decide +kernel
theorem dX5_shoot_16 : decode cX5_shoot 16 = .ok (.iload_n 1, 1) := by decide +kernel
theorem dX5_shoot_17 : decode cX5_shoot 17 = .ok (.invokevirtual 82, 3) := by decide +kernel
theorem dX5_shoot_20 : decode cX5_shoot 20 = .ok (.istore_n 3, 1) := by decide +kernel
theorem dX5_shoot_21 : decode cX5_shoot 21 = .ok (.iload_n 3, 1) := by decide +kernel
theorem dX5_shoot_22 : decode cX5_shoot 22 = .ok (.ifCond .ge 13, 3) := by decide +kernel
theorem dX5_shoot_25 : decode cX5_shoot 25 = .ok (.new 42, 3) := by decide +kernel
theorem dX5_shoot_28 : decode cX5_shoot 28 = .ok (.dup, 1) := by decide +kernel
theorem dX5_shoot_29 : decode cX5_shoot 29 = .ok (.ldc 104, 2) := by decide +kernel
theorem dX5_shoot_31 : decode cX5_shoot 31 = .ok (.invokespecial 46, 3) := by decide +kernel
theorem dX5_shoot_34 : decode cX5_shoot 34 = .ok (.athrow, 1) := by decide +kernel
theorem dX5_shoot_35 : decode cX5_shoot 35 = .ok (.iload_n 3, 1) := by decide +kernel
theorem dX5_shoot_36 : decode cX5_shoot 36 = .ok (.iload_n 2, 1) := by decide +kernel
theorem dX5_shoot_37 : decode cX5_shoot 37 = .ok (.if_icmp .ne 13, 3) := by decide +kernel
theorem dX5_shoot_40 : decode cX5_shoot 40 = .ok (.new 42, 3) := by decide +kernel
theorem dX5_shoot_43 : decode cX5_shoot 43 = .ok (.dup, 1) := by decide +kernel
theorem dX5_shoot_44 : decode cX5_shoot 44 = .ok (.ldc 106, 2) := by decide +kernel
theorem dX5_shoot_46 : decode cX5_shoot 46 = .ok (.invokespecial 46, 3) := by decide +kernel
theorem dX5_shoot_49 : decode cX5_shoot 49 = .ok (.athrow, 1) := by decide +kernel
theorem dX5_shoot_50 : decode cX5_shoot 50 = .ok (.aload_n 0, 1) := by decide +kernel
theorem dX5_shoot_51 : decode cX5_shoot 51 = .ok (.getfield 19, 3) := by decide +kernel
theorem dX5_shoot_54 : decode cX5_shoot 54 = .ok (.iload_n 1, 1) := by decide +kernel
theorem dX5_shoot_55 : decode cX5_shoot 55 = .ok (.invokevirtual 108, 3) := by decide +kernel
theorem dX5_shoot_58 : decode cX5_shoot 58 = .ok (.ifCond .ne 13, 3) := by decide +kernel
theorem dX5_shoot_61 : decode cX5_shoot 61 = .ok (.new 42, 3) := by decide +kernel
theorem dX5_shoot_64 : decode cX5_shoot 64 = .ok (.dup, 1) := by decide +kernel
theorem dX5_shoot_65 : decode cX5_shoot 65 = .ok (.ldc 111, 2) := by decide +kernel
theorem dX5_shoot_67 : decode cX5_shoot 67 = .ok (.invokespecial 46, 3) := by decide +kernel
theorem dX5_shoot_70 : decode cX5_shoot 70 = .ok (.athrow, 1) := by decide +kernel
theorem dX5_shoot_71 : decode cX5_shoot 71 = .ok (.aload_n 0, 1) := by decide +kernel
theorem dX5_shoot_72 : decode cX5_shoot 72 = .ok (.getfield 19, 3) := by decide +kernel
theorem dX5_shoot_75 : decode cX5_shoot 75 = .ok (.iload_n 1, 1) := by decide +kernel
theorem dX5_shoot_76 : decode cX5_shoot 76 = .ok (.iload_n 2, 1) := by decide +kernel
theorem dX5_shoot_77 : decode cX5_shoot 77 = .ok (.invokevirtual 113, 3) := by decide +kernel
theorem dX5_shoot_80 : decode cX5_shoot 80 = .ok (.ireturn, 1) := by decide +kernel
set_option maxRecDepth 20000 in
theorem ggX5_pass_X5_checkRound : GoodIn wsX5_pass wsX5_checkRound := goodIn_ca (goodIn_r _ [9, 10, 11, 3, 12, 13, 14, 15, 16, 17, 57, 58, 59, 60, 61, 62, 63, 64, 65, 66, 67, 68] (by decide +kernel) (by decide +kernel)) (goodIn_sub (fun _ h => List.mem_cons_of_mem _ (List.mem_append_right _ h)) (by decide +kernel))
set_option maxRecDepth 20000 in
theorem gX5_pass_X5_checkRound : GoodIn wsX5_pass (wsV RX5 79 RX5 yX5_checkRound wsX5_checkRound) := goodIn_app (goodIn_of _ (by decide +kernel)) ggX5_pass_X5_checkRound
set_option maxRecDepth 20000 in
theorem ggX5_pass_X2_nextTick : GoodIn wsX5_pass wsX2_nextTick := goodIn_r _ [21, 17, 22, 23, 24, 25, 26, 27, 15, 28, 29, 30, 31, 32, 33, 34, 35, 36, 37, 38, 39, 40, 41, 42, 43, 44, 45, 46, 47, 48, 49, 50, 51, 52, 53, 54, 55, 56, 61, 62, 63, 64, 65, 66, 67, 68, 69, 70, 71, 72, 73, 74] (by decide +kernel) (by decide +kernel)
set_option maxRecDepth 20000 in
theorem gX5_pass_X2_nextTick : GoodIn wsX5_pass (wsV RX5 118 RX2 yX2_nextTick wsX2_nextTick) := goodIn_app (goodIn_of _ (by decide +kernel)) ggX5_pass_X2_nextTick
theorem dX5_pass_0 : decode cX5_pass 0 = .ok (.iload_n 1, 1) := by decide +kernel
theorem dX5_pass_1 : decode cX5_pass 1 = .ok (.iconst 1, 1) := by decide +kernel
theorem dX5_pass_2 : decode cX5_pass 2 = .ok (.if_icmp .lt 9, 3) := by decide +kernel
theorem dX5_pass_5 : decode cX5_pass 5 = .ok (.iload_n 1, 1) := by decide +kernel
theorem dX5_pass_6 : decode cX5_pass 6 = .ok (.bipush 50, 2) := by decide +kernel
theorem dX5_pass_8 : decode cX5_pass 8 = .ok (.if_icmp .le 13, 3) := by decide +kernel
theorem dX5_pass_11 : decode cX5_pass 11 = .ok (.new 67, 3) := by decide +kernel
theorem dX5_pass_14 : decode cX5_pass 14 = .ok (.dup, 1) := by decide +kernel
theorem dX5_pass_15 : decode cX5_pass 15 = .ok (.ldc 116, 2) := by decide +kernel
theorem dX5_pass_17 : decode cX5_pass 17 = .ok (.invokespecial 71, 3) := by decide +kernel
theorem dX5_pass_20 : decode cX5_pass 20 = .ok (.athrow, 1) := by decide +kernel
theorem dX5_pass_21 : decode cX5_pass 21 = .ok (.aload_n 0, 1) := by decide +kernel
theorem dX5_pass_22 : decode cX5_pass 22 = .ok (.invokevirtual 79, 3) := by decide +kernel
theorem dX5_pass_25 : decode cX5_pass 25 = .ok (.iconst 0, 1) := by decide +kernel
theorem dX5_pass_26 : decode cX5_pass 26 = .ok (.istore_n 2, 1) := by decide +kernel
theorem dX5_pass_27 : decode cX5_pass 27 = .ok (.iconst 0, 1) := by decide +kernel
theorem dX5_pass_28 : decode cX5_pass 28 = .ok (.istore_n 3, 1) := by decide +kernel
theorem dX5_pass_29 : decode cX5_pass 29 = .ok (.iload_n 3, 1) := by decide +kernel
theorem dX5_pass_30 : decode cX5_pass 30 = .ok (.iload_n 1, 1) := by decide +kernel
theorem dX5_pass_31 : decode cX5_pass 31 = .ok (.if_icmp .ge 23, 3) := by decide +kernel
theorem dX5_pass_34 : decode cX5_pass 34 = .ok (.iload_n 2, 1) := by decide +kernel
theorem dX5_pass_35 : decode cX5_pass 35 = .ok (.aload_n 0, 1) := by decide +kernel
theorem dX5_pass_36 : decode cX5_pass 36 = .ok (.getfield 19, 3) := by decide +kernel
theorem dX5_pass_39 : decode cX5_pass 39 = .ok (.aload_n 0, 1) := by decide +kernel
theorem dX5_pass_40 : decode cX5_pass 40 = .ok (.getfield 12, 3) := by decide +kernel
theorem dX5_pass_43 : decode cX5_pass 43 = .ok (.invokevirtual 118, 3) := by decide +kernel
theorem dX5_pass_46 : decode cX5_pass 46 = .ok (.iadd, 1) := by decide +kernel
theorem dX5_pass_47 : decode cX5_pass 47 = .ok (.istore_n 2, 1) := by decide +kernel
theorem dX5_pass_48 : decode cX5_pass 48 = .ok (.iinc 3 1, 3) := by decide +kernel
theorem dX5_pass_51 : decode cX5_pass 51 = .ok (.goto (-22), 3) := by decide +kernel
theorem dX5_pass_54 : decode cX5_pass 54 = .ok (.iload_n 2, 1) := by decide +kernel
theorem dX5_pass_55 : decode cX5_pass 55 = .ok (.ireturn, 1) := by decide +kernel
set_option maxRecDepth 20000 in
theorem ggX5_call_X5_checkReferee : GoodIn wsX5_call wsX5_checkReferee := goodIn_ca (goodIn_r _ [9, 10, 11] (by decide +kernel) (by decide +kernel)) (goodIn_sub (fun _ h => List.mem_cons_of_mem _ (List.mem_append_right _ h)) (by decide +kernel))
set_option maxRecDepth 20000 in
theorem gX5_call_X5_checkReferee : GoodIn wsX5_call (va_wsS RX5 61 yX5_checkReferee wsX5_checkReferee) := goodIn_app (goodIn_of _ (by decide +kernel)) ggX5_call_X5_checkReferee
set_option maxRecDepth 20000 in
theorem ggX5_call_X5_checkPlayer : GoodIn wsX5_call wsX5_checkPlayer := goodIn_ca (goodIn_r _ [14, 10, 11] (by decide +kernel) (by decide +kernel)) (goodIn_sub (fun _ h => List.mem_cons_of_mem _ (List.mem_append_right _ h)) (by decide +kernel))
set_option maxRecDepth 20000 in
theorem gX5_call_X5_checkPlayer : GoodIn wsX5_call (va_wsS RX5 76 yX5_checkPlayer wsX5_checkPlayer) := goodIn_app (goodIn_of _ (by decide +kernel)) ggX5_call_X5_checkPlayer
set_option maxRecDepth 20000 in
theorem ggX5_call_X5_checkRound : GoodIn wsX5_call wsX5_checkRound := goodIn_ca (goodIn_r _ [18, 1, 2, 3, 19, 20, 21, 22, 23, 24, 69, 70, 71, 72, 73, 74, 75, 76, 77, 78, 79, 80] (by decide +kernel) (by decide +kernel)) (goodIn_sub (fun _ h => List.mem_cons_of_mem _ (List.mem_append_left _ (List.mem_append_right _ h))) (by decide +kernel))
set_option maxRecDepth 20000 in
theorem gX5_call_X5_checkRound : GoodIn wsX5_call (wsV RX5 79 RX5 yX5_checkRound wsX5_checkRound) := goodIn_app (goodIn_of _ (by decide +kernel)) ggX5_call_X5_checkRound
set_option maxRecDepth 20000 in
theorem ggX5_call_X2_cellOf : GoodIn wsX5_call wsX2_cellOf := goodIn_r _ [28, 29, 73, 74, 75, 76, 77, 78, 79, 80] (by decide +kernel) (by decide +kernel)
set_option maxRecDepth 20000 in
theorem gX5_call_X2_cellOf : GoodIn wsX5_call (wsV RX5 82 RX2 yX2_cellOf wsX2_cellOf) := goodIn_app (goodIn_of _ (by decide +kernel)) ggX5_call_X2_cellOf
set_option maxRecDepth 20000 in
theorem ggX5_call_X1_hasSight : GoodIn wsX5_call wsX1_hasSight := goodIn_r _ [34, 35, 36, 37, 38, 39, 40, 41, 42, 43, 44, 33, 45, 46, 47, 48, 81] (by decide +kernel) (by decide +kernel)
set_option maxRecDepth 20000 in
theorem gX5_call_X1_hasSight : GoodIn wsX5_call (wsV RX5 53 RX1 yX1_hasSight wsX1_hasSight) := goodIn_app (goodIn_of _ (by decide +kernel)) ggX5_call_X1_hasSight
set_option maxRecDepth 20000 in
theorem ggX5_call_X2_mayCall : GoodIn wsX5_call wsX2_mayCall := goodIn_r _ [52, 53, 54, 73, 74, 75, 76, 77, 78, 79, 80, 82, 83, 84, 85, 86] (by decide +kernel) (by decide +kernel)
set_option maxRecDepth 20000 in
theorem gX5_call_X2_mayCall : GoodIn wsX5_call (wsV RX5 124 RX2 yX2_mayCall wsX2_mayCall) := goodIn_app (goodIn_of _ (by decide +kernel)) ggX5_call_X2_mayCall
set_option maxRecDepth 20000 in
theorem ggX5_call_X2_callOut : GoodIn wsX5_call wsX2_callOut := goodIn_r _ [58, 53, 29, 24, 59, 60, 61, 62, 63, 64, 65, 66, 67, 68, 73, 74, 75, 76, 77, 78, 79, 80, 82, 83, 84, 85, 86] (by decide +kernel) (by decide +kernel)
set_option maxRecDepth 20000 in
theorem gX5_call_X2_callOut : GoodIn wsX5_call (wsV RX5 129 RX2 yX2_callOut wsX2_callOut) := goodIn_app (goodIn_of _ (by decide +kernel)) ggX5_call_X2_callOut
theorem dX5_call_0 : decode cX5_call 0 = .ok (.iload_n 1, 1) := by decide +kernel
theorem dX5_call_1 : decode cX5_call 1 = .ok (.invokestatic 61, 3) := by decide +kernel
theorem dX5_call_4 : decode cX5_call 4 = .ok (.iload_n 2, 1) := by decide +kernel
theorem dX5_call_5 : decode cX5_call 5 = .ok (.invokestatic 76, 3) := by decide +kernel
theorem dX5_call_8 : decode cX5_call 8 = .ok (.aload_n 0, 1) := by decide +kernel
theorem dX5_call_9 : decode cX5_call 9 = .ok (.invokevirtual 79, 3) := by decide +kernel
theorem dX5_call_12 : decode cX5_call 12 = .ok (.aload_n 0, 1) := by decide +kernel
theorem dX5_call_13 : decode cX5_call 13 = .ok (.getfield 19, 3) := by decide +kernel
theorem dX5_call_16 : decode cX5_call 16 = .ok (.iload_n 2, 1) := by decide +kernel
theorem dX5_call_17 : decode cX5_call 17 = .ok (.invokevirtual 82, 3) := by decide +kernel
theorem dX5_call_20 : decode cX5_call 20 = .ok (.istore_n 3, 1) := by decide +kernel
theorem dX5_call_21 : decode cX5_call 21 = .ok (.iload_n 3, 1) := by decide +kernel
theorem dX5_call_22 : decode cX5_call 22 = .ok (.ifCond .ge 13, 3) := by decide +kernel
theorem dX5_call_25 : decode cX5_call 25 = .ok (.new 42, 3) := by decide +kernel
theorem dX5_call_28 : decode cX5_call 28 = .ok (.dup, 1) := by decide +kernel
theorem dX5_call_29 : decode cX5_call 29 = .ok (.ldc 104, 2) := by decide +kernel
theorem dX5_call_31 : decode cX5_call 31 = .ok (.invokespecial 46, 3) := by decide +kernel
theorem dX5_call_34 : decode cX5_call 34 = .ok (.athrow, 1) := by decide +kernel
theorem dX5_call_35 : decode cX5_call 35 = .ok (.aload_n 0, 1) := by decide +kernel
theorem dX5_call_36 : decode cX5_call 36 = .ok (.getfield 12, 3) := by decide +kernel
theorem dX5_call_39 : decode cX5_call 39 = .ok (.aload_n 0, 1) := by decide +kernel
theorem dX5_call_40 : decode cX5_call 40 = .ok (.getfield 30, 3) := by decide +kernel
theorem dX5_call_43 : decode cX5_call 43 = .ok (.iload_n 1, 1) := by decide +kernel
theorem dX5_call_44 : decode cX5_call 44 = .ok (.iaload, 1) := by decide +kernel
theorem dX5_call_45 : decode cX5_call 45 = .ok (.iload_n 3, 1) := by decide +kernel
theorem dX5_call_46 : decode cX5_call 46 = .ok (.invokevirtual 53, 3) := by decide +kernel
theorem dX5_call_49 : decode cX5_call 49 = .ok (.ifCond .ne 13, 3) := by decide +kernel
theorem dX5_call_52 : decode cX5_call 52 = .ok (.new 42, 3) := by decide +kernel
theorem dX5_call_55 : decode cX5_call 55 = .ok (.dup, 1) := by decide +kernel
theorem dX5_call_56 : decode cX5_call 56 = .ok (.ldc 122, 2) := by decide +kernel
theorem dX5_call_58 : decode cX5_call 58 = .ok (.invokespecial 46, 3) := by decide +kernel
theorem dX5_call_61 : decode cX5_call 61 = .ok (.athrow, 1) := by decide +kernel
theorem dX5_call_62 : decode cX5_call 62 = .ok (.aload_n 0, 1) := by decide +kernel
theorem dX5_call_63 : decode cX5_call 63 = .ok (.getfield 19, 3) := by decide +kernel
theorem dX5_call_66 : decode cX5_call 66 = .ok (.invokevirtual 124, 3) := by decide +kernel
theorem dX5_call_69 : decode cX5_call 69 = .ok (.ifCond .ne 13, 3) := by decide +kernel
theorem dX5_call_72 : decode cX5_call 72 = .ok (.new 42, 3) := by decide +kernel
theorem dX5_call_75 : decode cX5_call 75 = .ok (.dup, 1) := by decide +kernel
theorem dX5_call_76 : decode cX5_call 76 = .ok (.ldc 127, 2) := by decide +kernel
theorem dX5_call_78 : decode cX5_call 78 = .ok (.invokespecial 46, 3) := by decide +kernel
theorem dX5_call_81 : decode cX5_call 81 = .ok (.athrow, 1) := by decide +kernel
theorem dX5_call_82 : decode cX5_call 82 = .ok (.aload_n 0, 1) := by decide +kernel
theorem dX5_call_83 : decode cX5_call 83 = .ok (.getfield 19, 3) := by decide +kernel
theorem dX5_call_86 : decode cX5_call 86 = .ok (.iload_n 2, 1) := by decide +kernel
theorem dX5_call_87 : decode cX5_call 87 = .ok (.invokevirtual 129, 3) := by decide +kernel
theorem dX5_call_90 : decode cX5_call 90 = .ok (.ireturn, 1) := by decide +kernel
set_option maxRecDepth 20000 in
theorem ggX5_dispute_X2_hasCall : GoodIn wsX5_dispute wsX2_hasCall := goodIn_r _ [11, 12, 13, 48, 49, 50, 51, 52, 53, 54, 55, 56, 57, 58, 59, 60] (by decide +kernel) (by decide +kernel)
set_option maxRecDepth 20000 in
theorem gX5_dispute_X2_hasCall : GoodIn wsX5_dispute (wsV RX5 132 RX2 yX2_hasCall wsX2_hasCall) := goodIn_app (goodIn_of _ (by decide +kernel)) ggX5_dispute_X2_hasCall
set_option maxRecDepth 20000 in
theorem ggX5_dispute_X2_isDisputed : GoodIn wsX5_dispute wsX2_isDisputed := goodIn_r _ [17, 12, 18, 48, 49, 50, 51, 52, 53, 54, 55, 56, 57, 58, 59, 60] (by decide +kernel) (by decide +kernel)
set_option maxRecDepth 20000 in
theorem gX5_dispute_X2_isDisputed : GoodIn wsX5_dispute (wsV RX5 140 RX2 yX2_isDisputed wsX2_isDisputed) := goodIn_app (goodIn_of _ (by decide +kernel)) ggX5_dispute_X2_isDisputed
set_option maxRecDepth 20000 in
theorem ggX5_dispute_X2_judge : GoodIn wsX5_dispute wsX2_judge := goodIn_r _ [22, 12, 23, 18, 24, 25, 26, 27, 28, 29, 30, 10, 31, 48, 49, 50, 51, 52, 53, 54, 55, 56, 57, 58, 59, 60] (by decide +kernel) (by decide +kernel)
set_option maxRecDepth 20000 in
theorem gX5_dispute_X2_judge : GoodIn wsX5_dispute (wsV RX5 145 RX2 yX2_judge wsX2_judge) := goodIn_app (goodIn_of _ (by decide +kernel)) ggX5_dispute_X2_judge
set_option maxRecDepth 20000 in
theorem ggX5_dispute_X2_teamCalled : GoodIn wsX5_dispute wsX2_teamCalled := goodIn_r _ [35, 12, 23, 36, 37, 48, 49, 50, 51, 52, 53, 54, 55, 56, 57, 58, 59, 60] (by decide +kernel) (by decide +kernel)
set_option maxRecDepth 20000 in
theorem gX5_dispute_X2_teamCalled : GoodIn wsX5_dispute (wsV RX5 148 RX2 yX2_teamCalled wsX2_teamCalled) := goodIn_app (goodIn_of _ (by decide +kernel)) ggX5_dispute_X2_teamCalled
set_option maxRecDepth 20000 in
theorem ggX5_dispute_X4_fine : GoodIn wsX5_dispute wsX4_fine := goodIn_r _ [42, 43, 61, 62, 63, 64] (by decide +kernel) (by decide +kernel)
set_option maxRecDepth 20000 in
theorem gX5_dispute_X4_fine : GoodIn wsX5_dispute (wsV RX5 151 RX4 yX4_fine wsX4_fine) := goodIn_app (goodIn_of _ (by decide +kernel)) ggX5_dispute_X4_fine
theorem dX5_dispute_0 : decode cX5_dispute 0 = .ok (.aload_n 0, 1) := by decide +kernel
theorem dX5_dispute_1 : decode cX5_dispute 1 = .ok (.getfield 19, 3) := by decide +kernel
theorem dX5_dispute_4 : decode cX5_dispute 4 = .ok (.iload_n 1, 1) := by decide +kernel
theorem dX5_dispute_5 : decode cX5_dispute 5 = .ok (.invokevirtual 132, 3) := by decide +kernel
theorem dX5_dispute_8 : decode cX5_dispute 8 = .ok (.ifCond .ne 13, 3) := by decide +kernel
theorem dX5_dispute_11 : decode cX5_dispute 11 = .ok (.new 135, 3) := by decide +kernel
theorem dX5_dispute_14 : decode cX5_dispute 14 = .ok (.dup, 1) := by decide +kernel
theorem dX5_dispute_15 : decode cX5_dispute 15 = .ok (.ldc 137, 2) := by decide +kernel
theorem dX5_dispute_17 : decode cX5_dispute 17 = .ok (.invokespecial 139, 3) := by decide +kernel
theorem dX5_dispute_20 : decode cX5_dispute 20 = .ok (.athrow, 1) := by decide +kernel
theorem dX5_dispute_21 : decode cX5_dispute 21 = .ok (.aload_n 0, 1) := by decide +kernel
theorem dX5_dispute_22 : decode cX5_dispute 22 = .ok (.getfield 19, 3) := by decide +kernel
theorem dX5_dispute_25 : decode cX5_dispute 25 = .ok (.iload_n 1, 1) := by decide +kernel
theorem dX5_dispute_26 : decode cX5_dispute 26 = .ok (.invokevirtual 140, 3) := by decide +kernel
theorem dX5_dispute_29 : decode cX5_dispute 29 = .ok (.ifCond .eq 13, 3) := by decide +kernel
theorem dX5_dispute_32 : decode cX5_dispute 32 = .ok (.new 42, 3) := by decide +kernel
theorem dX5_dispute_35 : decode cX5_dispute 35 = .ok (.dup, 1) := by decide +kernel
theorem dX5_dispute_36 : decode cX5_dispute 36 = .ok (.ldc 143, 2) := by decide +kernel
theorem dX5_dispute_38 : decode cX5_dispute 38 = .ok (.invokespecial 46, 3) := by decide +kernel
theorem dX5_dispute_41 : decode cX5_dispute 41 = .ok (.athrow, 1) := by decide +kernel
theorem dX5_dispute_42 : decode cX5_dispute 42 = .ok (.aload_n 0, 1) := by decide +kernel
theorem dX5_dispute_43 : decode cX5_dispute 43 = .ok (.getfield 19, 3) := by decide +kernel
theorem dX5_dispute_46 : decode cX5_dispute 46 = .ok (.iload_n 1, 1) := by decide +kernel
theorem dX5_dispute_47 : decode cX5_dispute 47 = .ok (.invokevirtual 145, 3) := by decide +kernel
theorem dX5_dispute_50 : decode cX5_dispute 50 = .ok (.istore_n 2, 1) := by decide +kernel
theorem dX5_dispute_51 : decode cX5_dispute 51 = .ok (.iload_n 2, 1) := by decide +kernel
theorem dX5_dispute_52 : decode cX5_dispute 52 = .ok (.ifCond .eq 18, 3) := by decide +kernel
theorem dX5_dispute_55 : decode cX5_dispute 55 = .ok (.aload_n 0, 1) := by decide +kernel
theorem dX5_dispute_56 : decode cX5_dispute 56 = .ok (.getfield 26, 3) := by decide +kernel
theorem dX5_dispute_59 : decode cX5_dispute 59 = .ok (.aload_n 0, 1) := by decide +kernel
theorem dX5_dispute_60 : decode cX5_dispute 60 = .ok (.getfield 19, 3) := by decide +kernel
theorem dX5_dispute_63 : decode cX5_dispute 63 = .ok (.iload_n 1, 1) := by decide +kernel
theorem dX5_dispute_64 : decode cX5_dispute 64 = .ok (.invokevirtual 148, 3) := by decide +kernel
theorem dX5_dispute_67 : decode cX5_dispute 67 = .ok (.invokevirtual 151, 3) := by decide +kernel
theorem dX5_dispute_70 : decode cX5_dispute 70 = .ok (.iload_n 2, 1) := by decide +kernel
theorem dX5_dispute_71 : decode cX5_dispute 71 = .ok (.ireturn, 1) := by decide +kernel
set_option maxRecDepth 20000 in
theorem ggX5_end_X5_checkRound : GoodIn wsX5_end wsX5_checkRound := goodIn_ca (goodIn_r _ [7, 8, 9, 1, 10, 11, 12, 13, 14, 15, 62, 63, 64, 65, 66, 67, 68, 69, 70, 71, 72, 73] (by decide +kernel) (by decide +kernel)) (goodIn_sub (fun _ h => List.mem_cons_of_mem _ (List.mem_append_right _ h)) (by decide +kernel))
set_option maxRecDepth 20000 in
theorem gX5_end_X5_checkRound : GoodIn wsX5_end (wsV RX5 79 RX5 yX5_checkRound wsX5_checkRound) := goodIn_app (goodIn_of _ (by decide +kernel)) ggX5_end_X5_checkRound
set_option maxRecDepth 20000 in
theorem ggX5_end_X2_margin : GoodIn wsX5_end wsX2_margin := goodIn_r _ [19, 20, 21, 66, 67, 68, 69, 70, 71, 72, 73] (by decide +kernel) (by decide +kernel)
set_option maxRecDepth 20000 in
theorem gX5_end_X2_margin : GoodIn wsX5_end (wsV RX5 154 RX2 yX2_margin wsX2_margin) := goodIn_app (goodIn_of _ (by decide +kernel)) ggX5_end_X2_margin
set_option maxRecDepth 20000 in
theorem ggX5_end_X2_homeTeam : GoodIn wsX5_end wsX2_homeTeam := goodIn_r _ [25, 26, 66, 67, 68, 69, 70, 71, 72, 73] (by decide +kernel) (by decide +kernel)
set_option maxRecDepth 20000 in
theorem gX5_end_X2_homeTeam : GoodIn wsX5_end (wsV RX5 158 RX2 yX2_homeTeam wsX2_homeTeam) := goodIn_app (goodIn_of _ (by decide +kernel)) ggX5_end_X2_homeTeam
set_option maxRecDepth 20000 in
theorem ggX5_end_X2_awayTeam : GoodIn wsX5_end wsX2_awayTeam := goodIn_r _ [30, 31, 66, 67, 68, 69, 70, 71, 72, 73] (by decide +kernel) (by decide +kernel)
set_option maxRecDepth 20000 in
theorem gX5_end_X2_awayTeam : GoodIn wsX5_end (wsV RX5 161 RX2 yX2_awayTeam wsX2_awayTeam) := goodIn_app (goodIn_of _ (by decide +kernel)) ggX5_end_X2_awayTeam
set_option maxRecDepth 20000 in
theorem ggX5_end_X4_enter : GoodIn wsX5_end wsX4_enter := goodIn_r _ [36, 37, 38, 39, 40, 41, 35, 42, 43, 44, 45, 46, 47, 48, 74, 75, 76, 77] (by decide +kernel) (by decide +kernel)
set_option maxRecDepth 20000 in
theorem gX5_end_X4_enter : GoodIn wsX5_end (wsV RX5 164 RX4 yX4_enter wsX4_enter) := goodIn_app (goodIn_of _ (by decide +kernel)) ggX5_end_X4_enter
set_option maxRecDepth 20000 in
theorem ggX5_end_X2_close : GoodIn wsX5_end wsX2_close := goodIn_r _ [52, 15, 53, 54, 55, 13, 56, 20, 21, 57, 58, 59, 60, 61, 66, 67, 68, 69, 70, 71, 72, 73, 78, 79, 80, 81, 82, 83, 84, 85, 86, 87] (by decide +kernel) (by decide +kernel)
set_option maxRecDepth 20000 in
theorem gX5_end_X2_close : GoodIn wsX5_end (wsV RX5 168 RX2 yX2_close wsX2_close) := goodIn_app (goodIn_of _ (by decide +kernel)) ggX5_end_X2_close
theorem dX5_end_0 : decode cX5_end 0 = .ok (.aload_n 0, 1) := by decide +kernel
theorem dX5_end_1 : decode cX5_end 1 = .ok (.invokevirtual 79, 3) := by decide +kernel
theorem dX5_end_4 : decode cX5_end 4 = .ok (.aload_n 0, 1) := by decide +kernel
theorem dX5_end_5 : decode cX5_end 5 = .ok (.getfield 19, 3) := by decide +kernel
theorem dX5_end_8 : decode cX5_end 8 = .ok (.invokevirtual 154, 3) := by decide +kernel
theorem dX5_end_11 : decode cX5_end 11 = .ok (.istore_n 1, 1) := by decide +kernel
theorem dX5_end_12 : decode cX5_end 12 = .ok (.aload_n 0, 1) := by decide +kernel
theorem dX5_end_13 : decode cX5_end 13 = .ok (.getfield 26, 3) := by decide +kernel
theorem dX5_end_16 : decode cX5_end 16 = .ok (.aload_n 0, 1) := by decide +kernel
theorem dX5_end_17 : decode cX5_end 17 = .ok (.getfield 19, 3) := by decide +kernel
theorem dX5_end_20 : decode cX5_end 20 = .ok (.invokevirtual 158, 3) := by decide +kernel
theorem dX5_end_23 : decode cX5_end 23 = .ok (.aload_n 0, 1) := by decide +kernel
theorem dX5_end_24 : decode cX5_end 24 = .ok (.getfield 19, 3) := by decide +kernel
theorem dX5_end_27 : decode cX5_end 27 = .ok (.invokevirtual 161, 3) := by decide +kernel
theorem dX5_end_30 : decode cX5_end 30 = .ok (.iload_n 1, 1) := by decide +kernel
theorem dX5_end_31 : decode cX5_end 31 = .ok (.invokevirtual 164, 3) := by decide +kernel
theorem dX5_end_34 : decode cX5_end 34 = .ok (.aload_n 0, 1) := by decide +kernel
theorem dX5_end_35 : decode cX5_end 35 = .ok (.getfield 19, 3) := by decide +kernel
theorem dX5_end_38 : decode cX5_end 38 = .ok (.invokevirtual 168, 3) := by decide +kernel
theorem dX5_end_41 : decode cX5_end 41 = .ok (.iload_n 1, 1) := by decide +kernel
theorem dX5_end_42 : decode cX5_end 42 = .ok (.ireturn, 1) := by decide +kernel
set_option maxRecDepth 20000 in
theorem ggX5_tick_X2_time : GoodIn wsX5_tick wsX2_time := goodIn_r _ [6, 7, 12, 13, 14, 15, 16, 17, 18, 19] (by decide +kernel) (by decide +kernel)
set_option maxRecDepth 20000 in
theorem gX5_tick_X2_time : GoodIn wsX5_tick (wsV RX5 171 RX2 yX2_time wsX2_time) := goodIn_app (goodIn_of _ (by decide +kernel)) ggX5_tick_X2_time
theorem dX5_tick_0 : decode cX5_tick 0 = .ok (.aload_n 0, 1) := by decide +kernel
theorem dX5_tick_1 : decode cX5_tick 1 = .ok (.getfield 19, 3) := by decide +kernel
theorem dX5_tick_4 : decode cX5_tick 4 = .ok (.invokevirtual 171, 3) := by decide +kernel
theorem dX5_tick_7 : decode cX5_tick 7 = .ok (.ireturn, 1) := by decide +kernel
set_option maxRecDepth 20000 in
theorem ggX5_where_X5_checkPlayer : GoodIn wsX5_where wsX5_checkPlayer := goodIn_ca (goodIn_r _ [5, 6, 7] (by decide +kernel) (by decide +kernel)) (goodIn_sub (fun _ h => List.mem_cons_of_mem _ (List.mem_append_right _ h)) (by decide +kernel))
set_option maxRecDepth 20000 in
theorem gX5_where_X5_checkPlayer : GoodIn wsX5_where (va_wsS RX5 76 yX5_checkPlayer wsX5_checkPlayer) := goodIn_app (goodIn_of _ (by decide +kernel)) ggX5_where_X5_checkPlayer
set_option maxRecDepth 20000 in
theorem ggX5_where_X2_cellOf : GoodIn wsX5_where wsX2_cellOf := goodIn_r _ [12, 13, 18, 19, 20, 21, 22, 23, 24, 25] (by decide +kernel) (by decide +kernel)
set_option maxRecDepth 20000 in
theorem gX5_where_X2_cellOf : GoodIn wsX5_where (wsV RX5 82 RX2 yX2_cellOf wsX2_cellOf) := goodIn_app (goodIn_of _ (by decide +kernel)) ggX5_where_X2_cellOf
theorem dX5_where_0 : decode cX5_where 0 = .ok (.iload_n 1, 1) := by decide +kernel
theorem dX5_where_1 : decode cX5_where 1 = .ok (.invokestatic 76, 3) := by decide +kernel
theorem dX5_where_4 : decode cX5_where 4 = .ok (.aload_n 0, 1) := by decide +kernel
theorem dX5_where_5 : decode cX5_where 5 = .ok (.getfield 19, 3) := by decide +kernel
theorem dX5_where_8 : decode cX5_where 8 = .ok (.iload_n 1, 1) := by decide +kernel
theorem dX5_where_9 : decode cX5_where 9 = .ok (.invokevirtual 82, 3) := by decide +kernel
theorem dX5_where_12 : decode cX5_where 12 = .ok (.ireturn, 1) := by decide +kernel
set_option maxRecDepth 20000 in
theorem ggX5_hit_X5_checkPlayer : GoodIn wsX5_hit wsX5_checkPlayer := goodIn_ca (goodIn_r _ [5, 6, 7] (by decide +kernel) (by decide +kernel)) (goodIn_sub (fun _ h => List.mem_cons_of_mem _ (List.mem_append_right _ h)) (by decide +kernel))
set_option maxRecDepth 20000 in
theorem gX5_hit_X5_checkPlayer : GoodIn wsX5_hit (va_wsS RX5 76 yX5_checkPlayer wsX5_checkPlayer) := goodIn_app (goodIn_of _ (by decide +kernel)) ggX5_hit_X5_checkPlayer
set_option maxRecDepth 20000 in
theorem ggX5_hit_X2_hitOf : GoodIn wsX5_hit wsX2_hitOf := goodIn_r _ [12, 13, 18, 19, 20, 21, 22, 23, 24, 25] (by decide +kernel) (by decide +kernel)
set_option maxRecDepth 20000 in
theorem gX5_hit_X2_hitOf : GoodIn wsX5_hit (wsV RX5 174 RX2 yX2_hitOf wsX2_hitOf) := goodIn_app (goodIn_of _ (by decide +kernel)) ggX5_hit_X2_hitOf
theorem dX5_hit_0 : decode cX5_hit 0 = .ok (.iload_n 1, 1) := by decide +kernel
theorem dX5_hit_1 : decode cX5_hit 1 = .ok (.invokestatic 76, 3) := by decide +kernel
theorem dX5_hit_4 : decode cX5_hit 4 = .ok (.aload_n 0, 1) := by decide +kernel
theorem dX5_hit_5 : decode cX5_hit 5 = .ok (.getfield 19, 3) := by decide +kernel
theorem dX5_hit_8 : decode cX5_hit 8 = .ok (.iload_n 1, 1) := by decide +kernel
theorem dX5_hit_9 : decode cX5_hit 9 = .ok (.invokevirtual 174, 3) := by decide +kernel
theorem dX5_hit_12 : decode cX5_hit 12 = .ok (.ireturn, 1) := by decide +kernel
set_option maxRecDepth 20000 in
theorem ggX5_flying_X2_countFlying : GoodIn wsX5_flying wsX2_countFlying := goodIn_r _ [6, 7, 8, 9, 10, 15, 16, 17, 18, 19, 20, 21, 22, 23, 24, 25, 26, 27] (by decide +kernel) (by decide +kernel)
set_option maxRecDepth 20000 in
theorem gX5_flying_X2_countFlying : GoodIn wsX5_flying (wsV RX5 177 RX2 yX2_countFlying wsX2_countFlying) := goodIn_app (goodIn_of _ (by decide +kernel)) ggX5_flying_X2_countFlying
theorem dX5_flying_0 : decode cX5_flying 0 = .ok (.aload_n 0, 1) := by decide +kernel
theorem dX5_flying_1 : decode cX5_flying 1 = .ok (.getfield 19, 3) := by decide +kernel
theorem dX5_flying_4 : decode cX5_flying 4 = .ok (.invokevirtual 177, 3) := by decide +kernel
theorem dX5_flying_7 : decode cX5_flying 7 = .ok (.ireturn, 1) := by decide +kernel
set_option maxRecDepth 20000 in
theorem ggX5_points_X5_checkTeam : GoodIn wsX5_points wsX5_checkTeam := goodIn_ca (goodIn_r _ [5, 6, 7] (by decide +kernel) (by decide +kernel)) (goodIn_sub (fun _ h => List.mem_cons_of_mem _ (List.mem_append_right _ h)) (by decide +kernel))
set_option maxRecDepth 20000 in
theorem gX5_points_X5_checkTeam : GoodIn wsX5_points (va_wsS RX5 64 yX5_checkTeam wsX5_checkTeam) := goodIn_app (goodIn_of _ (by decide +kernel)) ggX5_points_X5_checkTeam
set_option maxRecDepth 20000 in
theorem ggX5_points_X4_pointsOf : GoodIn wsX5_points wsX4_pointsOf := goodIn_r _ [12, 13, 18, 19, 20, 21] (by decide +kernel) (by decide +kernel)
set_option maxRecDepth 20000 in
theorem gX5_points_X4_pointsOf : GoodIn wsX5_points (wsV RX5 180 RX4 yX4_pointsOf wsX4_pointsOf) := goodIn_app (goodIn_of _ (by decide +kernel)) ggX5_points_X4_pointsOf
theorem dX5_points_0 : decode cX5_points 0 = .ok (.iload_n 1, 1) := by decide +kernel
theorem dX5_points_1 : decode cX5_points 1 = .ok (.invokestatic 64, 3) := by decide +kernel
theorem dX5_points_4 : decode cX5_points 4 = .ok (.aload_n 0, 1) := by decide +kernel
theorem dX5_points_5 : decode cX5_points 5 = .ok (.getfield 26, 3) := by decide +kernel
theorem dX5_points_8 : decode cX5_points 8 = .ok (.iload_n 1, 1) := by decide +kernel
theorem dX5_points_9 : decode cX5_points 9 = .ok (.invokevirtual 180, 3) := by decide +kernel
theorem dX5_points_12 : decode cX5_points 12 = .ok (.ireturn, 1) := by decide +kernel
set_option maxRecDepth 20000 in
theorem ggX5_fines_X5_checkTeam : GoodIn wsX5_fines wsX5_checkTeam := goodIn_ca (goodIn_r _ [5, 6, 7] (by decide +kernel) (by decide +kernel)) (goodIn_sub (fun _ h => List.mem_cons_of_mem _ (List.mem_append_right _ h)) (by decide +kernel))
set_option maxRecDepth 20000 in
theorem gX5_fines_X5_checkTeam : GoodIn wsX5_fines (va_wsS RX5 64 yX5_checkTeam wsX5_checkTeam) := goodIn_app (goodIn_of _ (by decide +kernel)) ggX5_fines_X5_checkTeam
set_option maxRecDepth 20000 in
theorem ggX5_fines_X4_finesOf : GoodIn wsX5_fines wsX4_finesOf := goodIn_r _ [12, 13, 18, 19, 20, 21] (by decide +kernel) (by decide +kernel)
set_option maxRecDepth 20000 in
theorem gX5_fines_X4_finesOf : GoodIn wsX5_fines (wsV RX5 183 RX4 yX4_finesOf wsX4_finesOf) := goodIn_app (goodIn_of _ (by decide +kernel)) ggX5_fines_X4_finesOf
theorem dX5_fines_0 : decode cX5_fines 0 = .ok (.iload_n 1, 1) := by decide +kernel
theorem dX5_fines_1 : decode cX5_fines 1 = .ok (.invokestatic 64, 3) := by decide +kernel
theorem dX5_fines_4 : decode cX5_fines 4 = .ok (.aload_n 0, 1) := by decide +kernel
theorem dX5_fines_5 : decode cX5_fines 5 = .ok (.getfield 26, 3) := by decide +kernel
theorem dX5_fines_8 : decode cX5_fines 8 = .ok (.iload_n 1, 1) := by decide +kernel
theorem dX5_fines_9 : decode cX5_fines 9 = .ok (.invokevirtual 183, 3) := by decide +kernel
theorem dX5_fines_12 : decode cX5_fines 12 = .ok (.ireturn, 1) := by decide +kernel
set_option maxRecDepth 20000 in
theorem ggX5_difference_X5_checkTeam : GoodIn wsX5_difference wsX5_checkTeam := goodIn_ca (goodIn_r _ [5, 6, 7] (by decide +kernel) (by decide +kernel)) (goodIn_sub (fun _ h => List.mem_cons_of_mem _ (List.mem_append_right _ h)) (by decide +kernel))
set_option maxRecDepth 20000 in
theorem gX5_difference_X5_checkTeam : GoodIn wsX5_difference (va_wsS RX5 64 yX5_checkTeam wsX5_checkTeam) := goodIn_app (goodIn_of _ (by decide +kernel)) ggX5_difference_X5_checkTeam
set_option maxRecDepth 20000 in
theorem ggX5_difference_X4_differenceOf : GoodIn wsX5_difference wsX4_differenceOf := goodIn_r _ [12, 13, 18, 19, 20, 21] (by decide +kernel) (by decide +kernel)
set_option maxRecDepth 20000 in
theorem gX5_difference_X4_differenceOf : GoodIn wsX5_difference (wsV RX5 186 RX4 yX4_differenceOf wsX4_differenceOf) := goodIn_app (goodIn_of _ (by decide +kernel)) ggX5_difference_X4_differenceOf
theorem dX5_difference_0 : decode cX5_difference 0 = .ok (.iload_n 1, 1) := by decide +kernel
theorem dX5_difference_1 : decode cX5_difference 1 = .ok (.invokestatic 64, 3) := by decide +kernel
theorem dX5_difference_4 : decode cX5_difference 4 = .ok (.aload_n 0, 1) := by decide +kernel
theorem dX5_difference_5 : decode cX5_difference 5 = .ok (.getfield 26, 3) := by decide +kernel
theorem dX5_difference_8 : decode cX5_difference 8 = .ok (.iload_n 1, 1) := by decide +kernel
theorem dX5_difference_9 : decode cX5_difference 9 = .ok (.invokevirtual 186, 3) := by decide +kernel
theorem dX5_difference_12 : decode cX5_difference 12 = .ok (.ireturn, 1) := by decide +kernel
set_option maxRecDepth 20000 in
theorem ggX5_place_X5_checkTeam : GoodIn wsX5_place wsX5_checkTeam := goodIn_ca (goodIn_r _ [5, 6, 7] (by decide +kernel) (by decide +kernel)) (goodIn_sub (fun _ h => List.mem_cons_of_mem _ (List.mem_append_right _ h)) (by decide +kernel))
set_option maxRecDepth 20000 in
theorem gX5_place_X5_checkTeam : GoodIn wsX5_place (va_wsS RX5 64 yX5_checkTeam wsX5_checkTeam) := goodIn_app (goodIn_of _ (by decide +kernel)) ggX5_place_X5_checkTeam
set_option maxRecDepth 20000 in
theorem ggX5_place_X4_placeOf : GoodIn wsX5_place wsX4_placeOf := goodIn_r _ [12, 13, 14, 15, 11, 16, 17, 18, 19, 24, 25, 26, 27] (by decide +kernel) (by decide +kernel)
set_option maxRecDepth 20000 in
theorem gX5_place_X4_placeOf : GoodIn wsX5_place (wsV RX5 189 RX4 yX4_placeOf wsX4_placeOf) := goodIn_app (goodIn_of _ (by decide +kernel)) ggX5_place_X4_placeOf
theorem dX5_place_0 : decode cX5_place 0 = .ok (.iload_n 1, 1) := by decide +kernel
theorem dX5_place_1 : decode cX5_place 1 = .ok (.invokestatic 64, 3) := by decide +kernel
theorem dX5_place_4 : decode cX5_place 4 = .ok (.aload_n 0, 1) := by decide +kernel
theorem dX5_place_5 : decode cX5_place 5 = .ok (.getfield 26, 3) := by decide +kernel
theorem dX5_place_8 : decode cX5_place 8 = .ok (.iload_n 1, 1) := by decide +kernel
theorem dX5_place_9 : decode cX5_place 9 = .ok (.invokevirtual 189, 3) := by decide +kernel
theorem dX5_place_12 : decode cX5_place 12 = .ok (.ireturn, 1) := by decide +kernel
theorem dX5_checkCell_0 : decode cX5_checkCell 0 = .ok (.iload_n 0, 1) := by decide +kernel
theorem dX5_checkCell_1 : decode cX5_checkCell 1 = .ok (.ifCond .lt 10, 3) := by decide +kernel
theorem dX5_checkCell_4 : decode cX5_checkCell 4 = .ok (.iload_n 0, 1) := by decide +kernel
theorem dX5_checkCell_5 : decode cX5_checkCell 5 = .ok (.sipush 144, 3) := by decide +kernel
theorem dX5_checkCell_8 : decode cX5_checkCell 8 = .ok (.if_icmp .lt 13, 3) := by decide +kernel
theorem dX5_checkCell_11 : decode cX5_checkCell 11 = .ok (.new 135, 3) := by decide +kernel
theorem dX5_checkCell_14 : decode cX5_checkCell 14 = .ok (.dup, 1) := by decide +kernel
theorem dX5_checkCell_15 : decode cX5_checkCell 15 = .ok (.ldc 192, 2) := by decide +kernel
theorem dX5_checkCell_17 : decode cX5_checkCell 17 = .ok (.invokespecial 139, 3) := by decide +kernel
theorem dX5_checkCell_20 : decode cX5_checkCell 20 = .ok (.athrow, 1) := by decide +kernel
theorem dX5_checkCell_21 : decode cX5_checkCell 21 = .ok (.return_, 1) := by decide +kernel
theorem dX5_checkTeam_0 : decode cX5_checkTeam 0 = .ok (.iload_n 0, 1) := by decide +kernel
theorem dX5_checkTeam_1 : decode cX5_checkTeam 1 = .ok (.ifCond .lt 9, 3) := by decide +kernel
theorem dX5_checkTeam_4 : decode cX5_checkTeam 4 = .ok (.iload_n 0, 1) := by decide +kernel
theorem dX5_checkTeam_5 : decode cX5_checkTeam 5 = .ok (.bipush 6, 2) := by decide +kernel
theorem dX5_checkTeam_7 : decode cX5_checkTeam 7 = .ok (.if_icmp .lt 13, 3) := by decide +kernel
theorem dX5_checkTeam_10 : decode cX5_checkTeam 10 = .ok (.new 135, 3) := by decide +kernel
theorem dX5_checkTeam_13 : decode cX5_checkTeam 13 = .ok (.dup, 1) := by decide +kernel
theorem dX5_checkTeam_14 : decode cX5_checkTeam 14 = .ok (.ldc 194, 2) := by decide +kernel
theorem dX5_checkTeam_16 : decode cX5_checkTeam 16 = .ok (.invokespecial 139, 3) := by decide +kernel
theorem dX5_checkTeam_19 : decode cX5_checkTeam 19 = .ok (.athrow, 1) := by decide +kernel
theorem dX5_checkTeam_20 : decode cX5_checkTeam 20 = .ok (.return_, 1) := by decide +kernel
theorem dX5_checkPlayer_0 : decode cX5_checkPlayer 0 = .ok (.iload_n 0, 1) := by decide +kernel
theorem dX5_checkPlayer_1 : decode cX5_checkPlayer 1 = .ok (.ifCond .lt 9, 3) := by decide +kernel
theorem dX5_checkPlayer_4 : decode cX5_checkPlayer 4 = .ok (.iload_n 0, 1) := by decide +kernel
theorem dX5_checkPlayer_5 : decode cX5_checkPlayer 5 = .ok (.bipush 6, 2) := by decide +kernel
theorem dX5_checkPlayer_7 : decode cX5_checkPlayer 7 = .ok (.if_icmp .lt 13, 3) := by decide +kernel
theorem dX5_checkPlayer_10 : decode cX5_checkPlayer 10 = .ok (.new 135, 3) := by decide +kernel
theorem dX5_checkPlayer_13 : decode cX5_checkPlayer 13 = .ok (.dup, 1) := by decide +kernel
theorem dX5_checkPlayer_14 : decode cX5_checkPlayer 14 = .ok (.ldc 196, 2) := by decide +kernel
theorem dX5_checkPlayer_16 : decode cX5_checkPlayer 16 = .ok (.invokespecial 139, 3) := by decide +kernel
theorem dX5_checkPlayer_19 : decode cX5_checkPlayer 19 = .ok (.athrow, 1) := by decide +kernel
theorem dX5_checkPlayer_20 : decode cX5_checkPlayer 20 = .ok (.return_, 1) := by decide +kernel
theorem dX5_checkReferee_0 : decode cX5_checkReferee 0 = .ok (.iload_n 0, 1) := by decide +kernel
theorem dX5_checkReferee_1 : decode cX5_checkReferee 1 = .ok (.ifCond .lt 8, 3) := by decide +kernel
theorem dX5_checkReferee_4 : decode cX5_checkReferee 4 = .ok (.iload_n 0, 1) := by decide +kernel
theorem dX5_checkReferee_5 : decode cX5_checkReferee 5 = .ok (.iconst 2, 1) := by decide +kernel
theorem dX5_checkReferee_6 : decode cX5_checkReferee 6 = .ok (.if_icmp .lt 13, 3) := by decide +kernel
theorem dX5_checkReferee_9 : decode cX5_checkReferee 9 = .ok (.new 135, 3) := by decide +kernel
theorem dX5_checkReferee_12 : decode cX5_checkReferee 12 = .ok (.dup, 1) := by decide +kernel
theorem dX5_checkReferee_13 : decode cX5_checkReferee 13 = .ok (.ldc 198, 2) := by decide +kernel
theorem dX5_checkReferee_15 : decode cX5_checkReferee 15 = .ok (.invokespecial 139, 3) := by decide +kernel
theorem dX5_checkReferee_18 : decode cX5_checkReferee 18 = .ok (.athrow, 1) := by decide +kernel
theorem dX5_checkReferee_19 : decode cX5_checkReferee 19 = .ok (.return_, 1) := by decide +kernel
set_option maxRecDepth 20000 in
theorem ggX5_checkRound_X2_isPlayed : GoodIn wsX5_checkRound wsX2_isPlayed := goodIn_r _ [8, 9, 14, 15, 16, 17, 18, 19, 20, 21] (by decide +kernel) (by decide +kernel)
set_option maxRecDepth 20000 in
theorem gX5_checkRound_X2_isPlayed : GoodIn wsX5_checkRound (wsV RX5 38 RX2 yX2_isPlayed wsX2_isPlayed) := goodIn_app (goodIn_of _ (by decide +kernel)) ggX5_checkRound_X2_isPlayed
theorem dX5_checkRound_0 : decode cX5_checkRound 0 = .ok (.aload_n 0, 1) := by decide +kernel
theorem dX5_checkRound_1 : decode cX5_checkRound 1 = .ok (.getfield 19, 3) := by decide +kernel
theorem dX5_checkRound_4 : decode cX5_checkRound 4 = .ok (.invokevirtual 38, 3) := by decide +kernel
theorem dX5_checkRound_7 : decode cX5_checkRound 7 = .ok (.ifCond .ne 13, 3) := by decide +kernel
theorem dX5_checkRound_10 : decode cX5_checkRound 10 = .ok (.new 42, 3) := by decide +kernel
theorem dX5_checkRound_13 : decode cX5_checkRound 13 = .ok (.dup, 1) := by decide +kernel
theorem dX5_checkRound_14 : decode cX5_checkRound 14 = .ok (.ldc 200, 2) := by decide +kernel
theorem dX5_checkRound_16 : decode cX5_checkRound 16 = .ok (.invokespecial 46, 3) := by decide +kernel
theorem dX5_checkRound_19 : decode cX5_checkRound 19 = .ok (.athrow, 1) := by decide +kernel
theorem dX5_checkRound_20 : decode cX5_checkRound 20 = .ok (.return_, 1) := by decide +kernel
theorem dJ9_abs_0f7a4_0 : decode cJ9_abs_0f7a4 0 = .ok (.iload_n 0, 1) := by decide +kernel
theorem dJ9_abs_0f7a4_1 : decode cJ9_abs_0f7a4 1 = .ok (.ifCond .ge 8, 3) := by decide +kernel
theorem dJ9_abs_0f7a4_4 : decode cJ9_abs_0f7a4 4 = .ok (.iload_n 0, 1) := by decide +kernel
theorem dJ9_abs_0f7a4_5 : decode cJ9_abs_0f7a4 5 = .ok (.ineg, 1) := by decide +kernel
theorem dJ9_abs_0f7a4_6 : decode cJ9_abs_0f7a4 6 = .ok (.goto 4, 3) := by decide +kernel
theorem dJ9_abs_0f7a4_9 : decode cJ9_abs_0f7a4 9 = .ok (.iload_n 0, 1) := by decide +kernel
theorem dJ9_abs_0f7a4_10 : decode cJ9_abs_0f7a4 10 = .ok (.ireturn, 1) := by decide +kernel
theorem dJ9_max_7cf53_0 : decode cJ9_max_7cf53 0 = .ok (.iload_n 0, 1) := by decide +kernel
theorem dJ9_max_7cf53_1 : decode cJ9_max_7cf53 1 = .ok (.iload_n 1, 1) := by decide +kernel
theorem dJ9_max_7cf53_2 : decode cJ9_max_7cf53 2 = .ok (.if_icmp .lt 7, 3) := by decide +kernel
theorem dJ9_max_7cf53_5 : decode cJ9_max_7cf53 5 = .ok (.iload_n 0, 1) := by decide +kernel
theorem dJ9_max_7cf53_6 : decode cJ9_max_7cf53 6 = .ok (.goto 4, 3) := by decide +kernel
theorem dJ9_max_7cf53_9 : decode cJ9_max_7cf53 9 = .ok (.iload_n 1, 1) := by decide +kernel
theorem dJ9_max_7cf53_10 : decode cJ9_max_7cf53 10 = .ok (.ireturn, 1) := by decide +kernel
theorem dJ9_min_7cf53_0 : decode cJ9_min_7cf53 0 = .ok (.iload_n 0, 1) := by decide +kernel
theorem dJ9_min_7cf53_1 : decode cJ9_min_7cf53 1 = .ok (.iload_n 1, 1) := by decide +kernel
theorem dJ9_min_7cf53_2 : decode cJ9_min_7cf53 2 = .ok (.if_icmp .gt 7, 3) := by decide +kernel
theorem dJ9_min_7cf53_5 : decode cJ9_min_7cf53 5 = .ok (.iload_n 0, 1) := by decide +kernel
theorem dJ9_min_7cf53_6 : decode cJ9_min_7cf53 6 = .ok (.goto 4, 3) := by decide +kernel
theorem dJ9_min_7cf53_9 : decode cJ9_min_7cf53 9 = .ok (.iload_n 1, 1) := by decide +kernel
theorem dJ9_min_7cf53_10 : decode cJ9_min_7cf53 10 = .ok (.ireturn, 1) := by decide +kernel
end
section
theorem goodIn_hd {big a : List Cond} {c : Cond} (hc : c ∈ big) (h1 : k2_isCode c = true) (ha : GoodIn big a) : GoodIn big (c :: a) := fun w h => (List.mem_cons.mp h).elim (fun e => by
  subst e
  refine ⟨hc, ?_⟩
  cases w <;> first | (simp [k2_isCode] at h1; done) | exact Or.inl rfl) (fun h => ha w h)
theorem dL_part_0 : decode cL_part 0 = .ok (.iload_n 1, 1) := by decide +kernel
theorem dL_part_1 : decode cL_part 1 = .ok (.aload_n 0, 1) := by decide +kernel
theorem dL_part_2 : decode cL_part 2 = .ok (.arraylength, 1) := by decide +kernel
theorem dL_part_3 : decode cL_part 3 = .ok (.if_icmp .ge 9, 3) := by decide +kernel
theorem dL_part_6 : decode cL_part 6 = .ok (.aload_n 0, 1) := by decide +kernel
theorem dL_part_7 : decode cL_part 7 = .ok (.iload_n 1, 1) := by decide +kernel
theorem dL_part_8 : decode cL_part 8 = .ok (.iaload, 1) := by decide +kernel
theorem dL_part_9 : decode cL_part 9 = .ok (.goto 16, 3) := by decide +kernel
theorem dL_part_12 : decode cL_part 12 = .ok (.sipush 431, 3) := by decide +kernel
theorem dL_part_15 : decode cL_part 15 = .ok (.iload_n 1, 1) := by decide +kernel
theorem dL_part_16 : decode cL_part 16 = .ok (.imul, 1) := by decide +kernel
theorem dL_part_17 : decode cL_part 17 = .ok (.sipush 283, 3) := by decide +kernel
theorem dL_part_20 : decode cL_part 20 = .ok (.iload_n 1, 1) := by decide +kernel
theorem dL_part_21 : decode cL_part 21 = .ok (.imul, 1) := by decide +kernel
theorem dL_part_22 : decode cL_part 22 = .ok (.iload_n 1, 1) := by decide +kernel
theorem dL_part_23 : decode cL_part 23 = .ok (.imul, 1) := by decide +kernel
theorem dL_part_24 : decode cL_part 24 = .ok (.iadd, 1) := by decide +kernel
theorem dL_part_25 : decode cL_part 25 = .ok (.istore_n 3, 1) := by decide +kernel
theorem dL_part_26 : decode cL_part 26 = .ok (.iload_n 3, 1) := by decide +kernel
theorem dL_part_27 : decode cL_part 27 = .ok (.ldc 7, 2) := by decide +kernel
theorem dL_part_29 : decode cL_part 29 = .ok (.iand, 1) := by decide +kernel
theorem dL_part_30 : decode cL_part 30 = .ok (.iload_n 2, 1) := by decide +kernel
theorem dL_part_31 : decode cL_part 31 = .ok (.irem, 1) := by decide +kernel
theorem dL_part_32 : decode cL_part 32 = .ok (.ireturn, 1) := by decide +kernel
set_option maxRecDepth 20000 in
theorem ggL_begins_X5_begin : GoodIn wsL_begins wsX5_begin := goodIn_ca (goodIn_ca (goodIn_ca (goodIn_r _ [5, 6, 7, 8, 9, 10, 11, 12, 4, 13, 14, 15, 16, 17, 18, 19, 20, 21, 22, 23, 24, 25, 26, 27, 28, 29, 30, 31, 32, 33, 34, 35, 36, 37, 38, 39, 40, 41, 42, 43, 44, 45, 46, 47, 48, 49, 50, 51, 52, 53, 54, 55, 56, 57, 58, 59, 60] (by decide +kernel) (by decide +kernel)) (goodIn_sub (fun _ h => List.mem_cons_of_mem _ (List.mem_append_left _ (List.mem_append_left _ (List.mem_append_right _ h)))) (by decide +kernel))) (goodIn_sub (fun _ h => List.mem_cons_of_mem _ (List.mem_append_left _ (List.mem_append_right _ h))) (by decide +kernel))) (goodIn_sub (fun _ h => List.mem_cons_of_mem _ (List.mem_append_right _ h)) (by decide +kernel))
set_option maxRecDepth 20000 in
theorem gL_begins_X5_begin : GoodIn wsL_begins (wsV RL 8 RX5 yX5_begin wsX5_begin) := goodIn_app (goodIn_of _ (by decide +kernel)) ggL_begins_X5_begin
theorem dL_begins_0 : decode cL_begins 0 = .ok (.aload_n 0, 1) := by decide +kernel
theorem dL_begins_1 : decode cL_begins 1 = .ok (.iload_n 1, 1) := by decide +kernel
theorem dL_begins_2 : decode cL_begins 2 = .ok (.iload_n 2, 1) := by decide +kernel
theorem dL_begins_3 : decode cL_begins 3 = .ok (.invokevirtual 8, 3) := by decide +kernel
theorem dL_begins_6 : decode cL_begins 6 = .ok (.iconst 0, 1) := by decide +kernel
theorem dL_begins_7 : decode cL_begins 7 = .ok (.ireturn, 1) := by decide +kernel
set_option maxRecDepth 20000 in
theorem ggL_does_X5_toggleBunker : GoodIn wsL_does wsX5_toggleBunker := goodIn_ca (goodIn_ca (goodIn_r _ [8, 9, 10, 11, 12, 13, 14, 7, 15, 16, 17, 18, 19, 20, 21, 22, 23, 24, 25, 26, 27, 28, 29, 244, 245, 246, 247, 248, 249, 250, 251, 252, 253, 254, 255, 256] (by decide +kernel) (by decide +kernel)) (goodIn_sub (fun _ h => List.mem_cons_of_mem _ (List.mem_append_left _ (List.mem_append_left _ (List.mem_append_right _ h)))) (by decide +kernel))) (goodIn_sub (fun _ h => List.mem_cons_of_mem _ (List.mem_append_left _ (List.mem_append_right _ h))) (by decide +kernel))
set_option maxRecDepth 20000 in
theorem gL_does_X5_toggleBunker : GoodIn wsL_does (wsV RL 14 RX5 yX5_toggleBunker wsX5_toggleBunker) := goodIn_app (goodIn_of _ (by decide +kernel)) ggL_does_X5_toggleBunker
set_option maxRecDepth 20000 in
theorem ggL_does_X5_setReferee : GoodIn wsL_does wsX5_setReferee := goodIn_ca (goodIn_r _ [33, 34, 35, 36, 7, 37, 16, 17, 13, 14, 15, 244, 245, 246, 247] (by decide +kernel) (by decide +kernel)) (goodIn_sub (fun _ h => List.mem_cons_of_mem _ (List.mem_append_left _ (List.mem_append_right _ h))) (by decide +kernel))
set_option maxRecDepth 20000 in
theorem gL_does_X5_setReferee : GoodIn wsL_does (wsV RL 18 RX5 yX5_setReferee wsX5_setReferee) := goodIn_app (goodIn_of _ (by decide +kernel)) ggL_does_X5_setReferee
set_option maxRecDepth 20000 in
theorem ggL_does_L_begins : GoodIn wsL_does wsL_begins := goodIn_ca (goodIn_ca (goodIn_ca (goodIn_r _ [41, 42, 43, 44, 7, 45, 46, 47, 9, 10, 11, 48, 49, 50, 16, 17, 18, 19, 20, 21, 22, 23, 51, 52, 53, 54, 55, 56, 57, 58, 59, 60, 61, 62, 63, 64, 65, 66, 67, 244, 245, 246, 247, 248, 249, 250, 251, 252, 253, 254, 255, 257, 258, 259, 260, 261, 262, 263, 264, 265, 266] (by decide +kernel) (by decide +kernel)) (goodIn_sub (fun _ h => List.mem_cons_of_mem _ (List.mem_append_right _ h)) (by decide +kernel))) (goodIn_sub (fun _ h => List.mem_cons_of_mem _ (List.mem_append_left _ (List.mem_append_left _ (List.mem_append_right _ h)))) (by decide +kernel))) (goodIn_sub (fun _ h => List.mem_cons_of_mem _ (List.mem_append_left _ (List.mem_append_right _ h))) (by decide +kernel))
set_option maxRecDepth 20000 in
theorem gL_does_L_begins : GoodIn wsL_does (va_wsS RL 22 yL_begins wsL_begins) := goodIn_app (goodIn_of _ (by decide +kernel)) ggL_does_L_begins
set_option maxRecDepth 20000 in
theorem ggL_does_X5_move : GoodIn wsL_does wsX5_move := goodIn_ca (goodIn_ca (goodIn_r _ [71, 9, 10, 11, 12, 72, 73, 7, 74, 16, 17, 13, 14, 15, 75, 76, 77, 78, 18, 19, 20, 21, 22, 23, 79, 80, 81, 82, 61, 83, 84, 27, 85, 86, 87, 88, 89, 90, 91, 92, 93, 94, 95, 96, 29, 97, 98, 99, 100, 101, 102, 103, 104, 244, 245, 246, 247, 248, 249, 250, 251, 252, 253, 254, 255, 256] (by decide +kernel) (by decide +kernel)) (goodIn_sub (fun _ h => List.mem_cons_of_mem _ (List.mem_append_left _ (List.mem_append_left _ (List.mem_append_right _ h)))) (by decide +kernel))) (goodIn_sub (fun _ h => List.mem_cons_of_mem _ (List.mem_append_left _ (List.mem_append_right _ h))) (by decide +kernel))
set_option maxRecDepth 20000 in
theorem gL_does_X5_move : GoodIn wsL_does (wsV RL 28 RX5 yX5_move wsX5_move) := goodIn_app (goodIn_of _ (by decide +kernel)) ggL_does_X5_move
set_option maxRecDepth 20000 in
theorem ggL_does_X5_shoot : GoodIn wsL_does wsX5_shoot := goodIn_ca (goodIn_ca (goodIn_r _ [108, 9, 10, 11, 72, 73, 7, 74, 16, 17, 13, 14, 15, 75, 76, 77, 78, 18, 19, 20, 21, 22, 23, 79, 80, 81, 82, 61, 109, 110, 111, 112, 63, 64, 65, 113, 114, 115, 116, 117, 84, 27, 85, 86, 87, 88, 89, 90, 91, 92, 118, 119, 120, 121, 122, 123, 124, 125, 126, 127, 244, 245, 246, 247, 248, 249, 250, 251, 252, 253, 254, 255, 257, 258, 259, 260, 261] (by decide +kernel) (by decide +kernel)) (goodIn_sub (fun _ h => List.mem_cons_of_mem _ (List.mem_append_left _ (List.mem_append_left _ (List.mem_append_right _ h)))) (by decide +kernel))) (goodIn_sub (fun _ h => List.mem_cons_of_mem _ (List.mem_append_left _ (List.mem_append_right _ h))) (by decide +kernel))
set_option maxRecDepth 20000 in
theorem gL_does_X5_shoot : GoodIn wsL_does (wsV RL 31 RX5 yX5_shoot wsX5_shoot) := goodIn_app (goodIn_of _ (by decide +kernel)) ggL_does_X5_shoot
set_option maxRecDepth 20000 in
theorem ggL_does_X5_pass : GoodIn wsL_does wsX5_pass := goodIn_ca (goodIn_ca (goodIn_r _ [131, 46, 47, 11, 12, 75, 76, 77, 7, 78, 9, 10, 18, 19, 20, 21, 22, 23, 132, 133, 134, 135, 64, 65, 136, 137, 138, 139, 140, 141, 142, 143, 62, 144, 98, 99, 100, 61, 145, 146, 147, 27, 148, 29, 149, 150, 88, 151, 90, 91, 92, 152, 153, 154, 86, 87, 89, 244, 245, 246, 247, 248, 249, 250, 251, 252, 253, 254, 255, 257, 258, 259, 260, 261, 256] (by decide +kernel) (by decide +kernel)) (goodIn_sub (fun _ h => List.mem_cons_of_mem _ (List.mem_append_right _ h)) (by decide +kernel))) (goodIn_sub (fun _ h => List.mem_cons_of_mem _ (List.mem_append_left _ (List.mem_append_left _ (List.mem_append_right _ h)))) (by decide +kernel))
set_option maxRecDepth 20000 in
theorem gL_does_X5_pass : GoodIn wsL_does (wsV RL 34 RX5 yX5_pass wsX5_pass) := goodIn_app (goodIn_of _ (by decide +kernel)) ggL_does_X5_pass
set_option maxRecDepth 20000 in
theorem ggL_does_X5_call : GoodIn wsL_does wsX5_call := goodIn_ca (goodIn_ca (goodIn_r _ [158, 9, 10, 11, 12, 34, 35, 36, 7, 37, 16, 17, 72, 73, 74, 75, 76, 77, 78, 18, 19, 20, 21, 22, 23, 79, 80, 81, 82, 61, 159, 146, 147, 27, 148, 29, 149, 150, 88, 151, 90, 91, 92, 152, 153, 154, 86, 87, 89, 160, 161, 162, 163, 66, 67, 164, 165, 166, 167, 168, 169, 170, 171, 172, 173, 174, 175, 176, 177, 244, 245, 246, 247, 248, 249, 250, 251, 252, 253, 254, 255, 256, 262, 263, 264, 265, 266] (by decide +kernel) (by decide +kernel)) (goodIn_sub (fun _ h => List.mem_cons_of_mem _ (List.mem_append_left _ (List.mem_append_left _ (List.mem_append_right _ h)))) (by decide +kernel))) (goodIn_sub (fun _ h => List.mem_cons_of_mem _ (List.mem_append_left _ (List.mem_append_right _ h))) (by decide +kernel))
set_option maxRecDepth 20000 in
theorem gL_does_X5_call : GoodIn wsL_does (wsV RL 38 RX5 yX5_call wsX5_call) := goodIn_app (goodIn_of _ (by decide +kernel)) ggL_does_X5_call
set_option maxRecDepth 20000 in
theorem ggL_does_X5_dispute : GoodIn wsL_does wsX5_dispute := goodIn_ca (goodIn_ca (goodIn_r _ [181, 16, 17, 9, 10, 11, 182, 183, 184, 185, 21, 186, 66, 67, 187, 188, 189, 190, 191, 192, 193, 194, 195, 196, 62, 197, 198, 61, 144, 98, 99, 100, 199, 200, 201, 202, 55, 56, 203, 204, 205, 206, 207, 208, 244, 245, 246, 247, 248, 249, 250, 251, 252, 253, 254, 255, 262, 263, 264, 265, 266, 267, 268, 269, 270] (by decide +kernel) (by decide +kernel)) (goodIn_sub (fun _ h => List.mem_cons_of_mem _ (List.mem_append_left _ (List.mem_append_right _ h))) (by decide +kernel))) (goodIn_sub (fun _ h => List.mem_cons_of_mem _ (List.mem_append_left _ (List.mem_append_left _ (List.mem_append_right _ h)))) (by decide +kernel))
set_option maxRecDepth 20000 in
theorem gL_does_X5_dispute : GoodIn wsL_does (wsV RL 41 RX5 yX5_dispute wsX5_dispute) := goodIn_app (goodIn_of _ (by decide +kernel)) ggL_does_X5_dispute
set_option maxRecDepth 20000 in
theorem ggL_does_X5_end : GoodIn wsL_does wsX5_end := goodIn_ca (goodIn_r _ [212, 11, 182, 75, 76, 77, 7, 78, 9, 10, 18, 19, 20, 21, 22, 23, 213, 214, 215, 216, 61, 62, 217, 218, 219, 220, 55, 221, 222, 223, 224, 56, 225, 226, 227, 206, 228, 229, 230, 231, 232, 233, 234, 235, 236, 237, 238, 239, 208, 240, 241, 242, 243, 57, 58, 59, 60, 63, 64, 65, 66, 67, 244, 245, 246, 247, 248, 249, 250, 251, 252, 253, 254, 255, 267, 268, 269, 270, 257, 258, 259, 260, 261, 262, 263, 264, 265, 266] (by decide +kernel) (by decide +kernel)) (goodIn_sub (fun _ h => List.mem_cons_of_mem _ (List.mem_append_left _ (List.mem_append_left _ (List.mem_append_right _ h)))) (by decide +kernel))
set_option maxRecDepth 20000 in
theorem gL_does_X5_end : GoodIn wsL_does (wsV RL 44 RX5 yX5_end wsX5_end) := goodIn_app (goodIn_of _ (by decide +kernel)) ggL_does_X5_end
theorem dL_does_0 : decode cL_does 0 = .ok (.iload_n 1, 1) := by decide +kernel
theorem dL_does_1 : decode cL_does 1 = .ok (.ifCond .ne 19, 3) := by decide +kernel
theorem dL_does_4 : decode cL_does 4 = .ok (.aload_n 0, 1) := by decide +kernel
theorem dL_does_5 : decode cL_does 5 = .ok (.iload_n 2, 1) := by decide +kernel
theorem dL_does_6 : decode cL_does 6 = .ok (.invokevirtual 14, 3) := by decide +kernel
theorem dL_does_9 : decode cL_does 9 = .ok (.ifCond .eq 7, 3) := by decide +kernel
theorem dL_does_12 : decode cL_does 12 = .ok (.iconst 1, 1) := by decide +kernel
theorem dL_does_13 : decode cL_does 13 = .ok (.goto 117, 3) := by decide +kernel
theorem dL_does_16 : decode cL_does 16 = .ok (.iconst 0, 1) := by decide +kernel
theorem dL_does_17 : decode cL_does 17 = .ok (.goto 113, 3) := by decide +kernel
theorem dL_does_20 : decode cL_does 20 = .ok (.iload_n 1, 1) := by decide +kernel
theorem dL_does_21 : decode cL_does 21 = .ok (.iconst 1, 1) := by decide +kernel
theorem dL_does_22 : decode cL_does 22 = .ok (.if_icmp .ne 12, 3) := by decide +kernel
theorem dL_does_25 : decode cL_does 25 = .ok (.aload_n 0, 1) := by decide +kernel
theorem dL_does_26 : decode cL_does 26 = .ok (.iload_n 2, 1) := by decide +kernel
theorem dL_does_27 : decode cL_does 27 = .ok (.iload_n 3, 1) := by decide +kernel
theorem dL_does_28 : decode cL_does 28 = .ok (.invokevirtual 18, 3) := by decide +kernel
theorem dL_does_31 : decode cL_does 31 = .ok (.goto 99, 3) := by decide +kernel
theorem dL_does_34 : decode cL_does 34 = .ok (.iload_n 1, 1) := by decide +kernel
theorem dL_does_35 : decode cL_does 35 = .ok (.iconst 2, 1) := by decide +kernel
theorem dL_does_36 : decode cL_does 36 = .ok (.if_icmp .ne 12, 3) := by decide +kernel
theorem dL_does_39 : decode cL_does 39 = .ok (.aload_n 0, 1) := by decide +kernel
theorem dL_does_40 : decode cL_does 40 = .ok (.iload_n 2, 1) := by decide +kernel
theorem dL_does_41 : decode cL_does 41 = .ok (.iload_n 3, 1) := by decide +kernel
theorem dL_does_42 : decode cL_does 42 = .ok (.invokestatic 22, 3) := by decide +kernel
theorem dL_does_45 : decode cL_does 45 = .ok (.goto 85, 3) := by decide +kernel
theorem dL_does_48 : decode cL_does 48 = .ok (.iload_n 1, 1) := by decide +kernel
theorem dL_does_49 : decode cL_does 49 = .ok (.iconst 3, 1) := by decide +kernel
theorem dL_does_50 : decode cL_does 50 = .ok (.if_icmp .ne 12, 3) := by decide +kernel
theorem dL_does_53 : decode cL_does 53 = .ok (.aload_n 0, 1) := by decide +kernel
theorem dL_does_54 : decode cL_does 54 = .ok (.iload_n 2, 1) := by decide +kernel
theorem dL_does_55 : decode cL_does 55 = .ok (.iload_n 3, 1) := by decide +kernel
theorem dL_does_56 : decode cL_does 56 = .ok (.invokevirtual 28, 3) := by decide +kernel
theorem dL_does_59 : decode cL_does 59 = .ok (.goto 71, 3) := by decide +kernel
theorem dL_does_62 : decode cL_does 62 = .ok (.iload_n 1, 1) := by decide +kernel
theorem dL_does_63 : decode cL_does 63 = .ok (.iconst 4, 1) := by decide +kernel
theorem dL_does_64 : decode cL_does 64 = .ok (.if_icmp .ne 12, 3) := by decide +kernel
theorem dL_does_67 : decode cL_does 67 = .ok (.aload_n 0, 1) := by decide +kernel
theorem dL_does_68 : decode cL_does 68 = .ok (.iload_n 2, 1) := by decide +kernel
theorem dL_does_69 : decode cL_does 69 = .ok (.iload_n 3, 1) := by decide +kernel
theorem dL_does_70 : decode cL_does 70 = .ok (.invokevirtual 31, 3) := by decide +kernel
theorem dL_does_73 : decode cL_does 73 = .ok (.goto 57, 3) := by decide +kernel
theorem dL_does_76 : decode cL_does 76 = .ok (.iload_n 1, 1) := by decide +kernel
theorem dL_does_77 : decode cL_does 77 = .ok (.iconst 5, 1) := by decide +kernel
theorem dL_does_78 : decode cL_does 78 = .ok (.if_icmp .ne 11, 3) := by decide +kernel
theorem dL_does_81 : decode cL_does 81 = .ok (.aload_n 0, 1) := by decide +kernel
theorem dL_does_82 : decode cL_does 82 = .ok (.iload_n 2, 1) := by decide +kernel
theorem dL_does_83 : decode cL_does 83 = .ok (.invokevirtual 34, 3) := by decide +kernel
theorem dL_does_86 : decode cL_does 86 = .ok (.goto 44, 3) := by decide +kernel
theorem dL_does_89 : decode cL_does 89 = .ok (.iload_n 1, 1) := by decide +kernel
theorem dL_does_90 : decode cL_does 90 = .ok (.bipush 6, 2) := by decide +kernel
theorem dL_does_92 : decode cL_does 92 = .ok (.if_icmp .ne 12, 3) := by decide +kernel
theorem dL_does_95 : decode cL_does 95 = .ok (.aload_n 0, 1) := by decide +kernel
theorem dL_does_96 : decode cL_does 96 = .ok (.iload_n 2, 1) := by decide +kernel
theorem dL_does_97 : decode cL_does 97 = .ok (.iload_n 3, 1) := by decide +kernel
theorem dL_does_98 : decode cL_does 98 = .ok (.invokevirtual 38, 3) := by decide +kernel
theorem dL_does_101 : decode cL_does 101 = .ok (.goto 29, 3) := by decide +kernel
theorem dL_does_104 : decode cL_does 104 = .ok (.iload_n 1, 1) := by decide +kernel
theorem dL_does_105 : decode cL_does 105 = .ok (.bipush 7, 2) := by decide +kernel
theorem dL_does_107 : decode cL_does 107 = .ok (.if_icmp .ne 19, 3) := by decide +kernel
theorem dL_does_110 : decode cL_does 110 = .ok (.aload_n 0, 1) := by decide +kernel
theorem dL_does_111 : decode cL_does 111 = .ok (.iload_n 2, 1) := by decide +kernel
theorem dL_does_112 : decode cL_does 112 = .ok (.invokevirtual 41, 3) := by decide +kernel
theorem dL_does_115 : decode cL_does 115 = .ok (.ifCond .eq 7, 3) := by decide +kernel
theorem dL_does_118 : decode cL_does 118 = .ok (.iconst 1, 1) := by decide +kernel
theorem dL_does_119 : decode cL_does 119 = .ok (.goto 11, 3) := by decide +kernel
theorem dL_does_122 : decode cL_does 122 = .ok (.iconst 0, 1) := by decide +kernel
theorem dL_does_123 : decode cL_does 123 = .ok (.goto 7, 3) := by decide +kernel
theorem dL_does_126 : decode cL_does 126 = .ok (.aload_n 0, 1) := by decide +kernel
theorem dL_does_127 : decode cL_does 127 = .ok (.invokevirtual 44, 3) := by decide +kernel
theorem dL_does_130 : decode cL_does 130 = .ok (.ireturn, 1) := by decide +kernel
theorem dL_does_131 : decode cL_does 131 = .ok (.astore 4, 2) := by decide +kernel
theorem dL_does_133 : decode cL_does 133 = .ok (.bipush (-30), 2) := by decide +kernel
theorem dL_does_135 : decode cL_does 135 = .ok (.ireturn, 1) := by decide +kernel
theorem dL_does_136 : decode cL_does 136 = .ok (.astore 4, 2) := by decide +kernel
theorem dL_does_138 : decode cL_does 138 = .ok (.bipush (-20), 2) := by decide +kernel
theorem dL_does_140 : decode cL_does 140 = .ok (.ireturn, 1) := by decide +kernel
theorem dL_does_141 : decode cL_does 141 = .ok (.astore 4, 2) := by decide +kernel
theorem dL_does_143 : decode cL_does 143 = .ok (.bipush (-10), 2) := by decide +kernel
theorem dL_does_145 : decode cL_does 145 = .ok (.ireturn, 1) := by decide +kernel
set_option maxRecDepth 20000 in
theorem ggL_asks_X5_sees : GoodIn wsL_asks wsX5_sees := goodIn_ca (goodIn_r _ [6, 7, 8, 9, 5, 10, 11, 12, 13, 14, 15, 16, 17, 18, 19, 20, 21, 22, 23, 24, 25, 26, 27, 28, 29, 30, 31, 109, 110, 111, 112, 113] (by decide +kernel) (by decide +kernel)) (goodIn_sub (fun _ h => List.mem_cons_of_mem _ (List.mem_append_right _ h)) (by decide +kernel))
set_option maxRecDepth 20000 in
theorem gL_asks_X5_sees : GoodIn wsL_asks (wsV RL 54 RX5 yX5_sees wsX5_sees) := goodIn_app (goodIn_of _ (by decide +kernel)) ggL_asks_X5_sees
set_option maxRecDepth 20000 in
theorem ggL_asks_X5_view : GoodIn wsL_asks wsX5_view := goodIn_ca (goodIn_r _ [35, 7, 8, 9, 5, 10, 11, 12, 36, 37, 38, 16, 39, 40, 14, 15, 17, 18, 19, 20, 21, 22, 23, 24, 25, 26, 27, 28, 29, 30, 31, 109, 110, 111, 112, 113] (by decide +kernel) (by decide +kernel)) (goodIn_sub (fun _ h => List.mem_cons_of_mem _ (List.mem_append_right _ h)) (by decide +kernel))
set_option maxRecDepth 20000 in
theorem gL_asks_X5_view : GoodIn wsL_asks (wsV RL 58 RX5 yX5_view wsX5_view) := goodIn_app (goodIn_of _ (by decide +kernel)) ggL_asks_X5_view
set_option maxRecDepth 20000 in
theorem ggL_asks_X5_where : GoodIn wsL_asks wsX5_where := goodIn_ca (goodIn_r _ [44, 45, 46, 47, 5, 48, 11, 12, 49, 50, 51, 52, 53, 54, 109, 110, 111, 112, 114, 115, 116, 117, 118, 119, 120, 121] (by decide +kernel) (by decide +kernel)) (goodIn_sub (fun _ h => List.mem_cons_of_mem _ (List.mem_append_right _ h)) (by decide +kernel))
set_option maxRecDepth 20000 in
theorem gL_asks_X5_where : GoodIn wsL_asks (wsV RL 61 RX5 yX5_where wsX5_where) := goodIn_app (goodIn_of _ (by decide +kernel)) ggL_asks_X5_where
set_option maxRecDepth 20000 in
theorem ggL_asks_X5_hit : GoodIn wsL_asks wsX5_hit := goodIn_ca (goodIn_r _ [58, 45, 46, 47, 5, 48, 11, 12, 59, 60, 61, 52, 62, 63, 109, 110, 111, 112, 114, 115, 116, 117, 118, 119, 120, 121] (by decide +kernel) (by decide +kernel)) (goodIn_sub (fun _ h => List.mem_cons_of_mem _ (List.mem_append_right _ h)) (by decide +kernel))
set_option maxRecDepth 20000 in
theorem gL_asks_X5_hit : GoodIn wsL_asks (wsV RL 64 RX5 yX5_hit wsX5_hit) := goodIn_app (goodIn_of _ (by decide +kernel)) ggL_asks_X5_hit
set_option maxRecDepth 20000 in
theorem ggL_asks_X5_points : GoodIn wsL_asks wsX5_points := goodIn_ca (goodIn_r _ [67, 68, 69, 70, 5, 71, 11, 12, 72, 73, 74, 75, 76, 77, 109, 110, 111, 112, 122, 123, 124, 125] (by decide +kernel) (by decide +kernel)) (goodIn_sub (fun _ h => List.mem_cons_of_mem _ (List.mem_append_right _ h)) (by decide +kernel))
set_option maxRecDepth 20000 in
theorem gL_asks_X5_points : GoodIn wsL_asks (wsV RL 67 RX5 yX5_points wsX5_points) := goodIn_app (goodIn_of _ (by decide +kernel)) ggL_asks_X5_points
set_option maxRecDepth 20000 in
theorem ggL_asks_X5_fines : GoodIn wsL_asks wsX5_fines := goodIn_ca (goodIn_r _ [81, 68, 69, 70, 5, 71, 11, 12, 82, 83, 84, 75, 85, 86, 109, 110, 111, 112, 122, 123, 124, 125] (by decide +kernel) (by decide +kernel)) (goodIn_sub (fun _ h => List.mem_cons_of_mem _ (List.mem_append_right _ h)) (by decide +kernel))
set_option maxRecDepth 20000 in
theorem gL_asks_X5_fines : GoodIn wsL_asks (wsV RL 70 RX5 yX5_fines wsX5_fines) := goodIn_app (goodIn_of _ (by decide +kernel)) ggL_asks_X5_fines
set_option maxRecDepth 20000 in
theorem ggL_asks_X5_difference : GoodIn wsL_asks wsX5_difference := goodIn_ca (goodIn_r _ [90, 68, 69, 70, 5, 71, 11, 12, 91, 92, 93, 75, 94, 95, 109, 110, 111, 112, 122, 123, 124, 125] (by decide +kernel) (by decide +kernel)) (goodIn_sub (fun _ h => List.mem_cons_of_mem _ (List.mem_append_right _ h)) (by decide +kernel))
set_option maxRecDepth 20000 in
theorem gL_asks_X5_difference : GoodIn wsL_asks (wsV RL 73 RX5 yX5_difference wsX5_difference) := goodIn_app (goodIn_of _ (by decide +kernel)) ggL_asks_X5_difference
set_option maxRecDepth 20000 in
theorem ggL_asks_X5_place : GoodIn wsL_asks wsX5_place := goodIn_ca (goodIn_r _ [99, 68, 69, 70, 5, 71, 11, 12, 100, 101, 102, 75, 103, 104, 105, 106, 107, 77, 108, 95, 109, 110, 111, 112, 122, 123, 124, 125] (by decide +kernel) (by decide +kernel)) (goodIn_sub (fun _ h => List.mem_cons_of_mem _ (List.mem_append_right _ h)) (by decide +kernel))
set_option maxRecDepth 20000 in
theorem gL_asks_X5_place : GoodIn wsL_asks (wsV RL 76 RX5 yX5_place wsX5_place) := goodIn_app (goodIn_of _ (by decide +kernel)) ggL_asks_X5_place
theorem dL_asks_0 : decode cL_asks 0 = .ok (.iload_n 1, 1) := by decide +kernel
theorem dL_asks_1 : decode cL_asks 1 = .ok (.ifCond .ne 20, 3) := by decide +kernel
theorem dL_asks_4 : decode cL_asks 4 = .ok (.aload_n 0, 1) := by decide +kernel
theorem dL_asks_5 : decode cL_asks 5 = .ok (.iload_n 2, 1) := by decide +kernel
theorem dL_asks_6 : decode cL_asks 6 = .ok (.iload_n 3, 1) := by decide +kernel
theorem dL_asks_7 : decode cL_asks 7 = .ok (.invokevirtual 54, 3) := by decide +kernel
theorem dL_asks_10 : decode cL_asks 10 = .ok (.ifCond .eq 7, 3) := by decide +kernel
theorem dL_asks_13 : decode cL_asks 13 = .ok (.iconst 1, 1) := by decide +kernel
theorem dL_asks_14 : decode cL_asks 14 = .ok (.goto 91, 3) := by decide +kernel
theorem dL_asks_17 : decode cL_asks 17 = .ok (.iconst 0, 1) := by decide +kernel
theorem dL_asks_18 : decode cL_asks 18 = .ok (.goto 87, 3) := by decide +kernel
theorem dL_asks_21 : decode cL_asks 21 = .ok (.iload_n 1, 1) := by decide +kernel
theorem dL_asks_22 : decode cL_asks 22 = .ok (.iconst 1, 1) := by decide +kernel
theorem dL_asks_23 : decode cL_asks 23 = .ok (.if_icmp .ne 11, 3) := by decide +kernel
theorem dL_asks_26 : decode cL_asks 26 = .ok (.aload_n 0, 1) := by decide +kernel
theorem dL_asks_27 : decode cL_asks 27 = .ok (.iload_n 2, 1) := by decide +kernel
theorem dL_asks_28 : decode cL_asks 28 = .ok (.invokevirtual 58, 3) := by decide +kernel
theorem dL_asks_31 : decode cL_asks 31 = .ok (.goto 74, 3) := by decide +kernel
theorem dL_asks_34 : decode cL_asks 34 = .ok (.iload_n 1, 1) := by decide +kernel
theorem dL_asks_35 : decode cL_asks 35 = .ok (.iconst 2, 1) := by decide +kernel
theorem dL_asks_36 : decode cL_asks 36 = .ok (.if_icmp .ne 11, 3) := by decide +kernel
theorem dL_asks_39 : decode cL_asks 39 = .ok (.aload_n 0, 1) := by decide +kernel
theorem dL_asks_40 : decode cL_asks 40 = .ok (.iload_n 2, 1) := by decide +kernel
theorem dL_asks_41 : decode cL_asks 41 = .ok (.invokevirtual 61, 3) := by decide +kernel
theorem dL_asks_44 : decode cL_asks 44 = .ok (.goto 61, 3) := by decide +kernel
theorem dL_asks_47 : decode cL_asks 47 = .ok (.iload_n 1, 1) := by decide +kernel
theorem dL_asks_48 : decode cL_asks 48 = .ok (.iconst 3, 1) := by decide +kernel
theorem dL_asks_49 : decode cL_asks 49 = .ok (.if_icmp .ne 11, 3) := by decide +kernel
theorem dL_asks_52 : decode cL_asks 52 = .ok (.aload_n 0, 1) := by decide +kernel
theorem dL_asks_53 : decode cL_asks 53 = .ok (.iload_n 2, 1) := by decide +kernel
theorem dL_asks_54 : decode cL_asks 54 = .ok (.invokevirtual 64, 3) := by decide +kernel
theorem dL_asks_57 : decode cL_asks 57 = .ok (.goto 48, 3) := by decide +kernel
theorem dL_asks_60 : decode cL_asks 60 = .ok (.iload_n 1, 1) := by decide +kernel
theorem dL_asks_61 : decode cL_asks 61 = .ok (.iconst 4, 1) := by decide +kernel
theorem dL_asks_62 : decode cL_asks 62 = .ok (.if_icmp .ne 11, 3) := by decide +kernel
theorem dL_asks_65 : decode cL_asks 65 = .ok (.aload_n 0, 1) := by decide +kernel
theorem dL_asks_66 : decode cL_asks 66 = .ok (.iload_n 2, 1) := by decide +kernel
theorem dL_asks_67 : decode cL_asks 67 = .ok (.invokevirtual 67, 3) := by decide +kernel
theorem dL_asks_70 : decode cL_asks 70 = .ok (.goto 35, 3) := by decide +kernel
theorem dL_asks_73 : decode cL_asks 73 = .ok (.iload_n 1, 1) := by decide +kernel
theorem dL_asks_74 : decode cL_asks 74 = .ok (.iconst 5, 1) := by decide +kernel
theorem dL_asks_75 : decode cL_asks 75 = .ok (.if_icmp .ne 11, 3) := by decide +kernel
theorem dL_asks_78 : decode cL_asks 78 = .ok (.aload_n 0, 1) := by decide +kernel
theorem dL_asks_79 : decode cL_asks 79 = .ok (.iload_n 2, 1) := by decide +kernel
theorem dL_asks_80 : decode cL_asks 80 = .ok (.invokevirtual 70, 3) := by decide +kernel
theorem dL_asks_83 : decode cL_asks 83 = .ok (.goto 22, 3) := by decide +kernel
theorem dL_asks_86 : decode cL_asks 86 = .ok (.iload_n 1, 1) := by decide +kernel
theorem dL_asks_87 : decode cL_asks 87 = .ok (.bipush 6, 2) := by decide +kernel
theorem dL_asks_89 : decode cL_asks 89 = .ok (.if_icmp .ne 11, 3) := by decide +kernel
theorem dL_asks_92 : decode cL_asks 92 = .ok (.aload_n 0, 1) := by decide +kernel
theorem dL_asks_93 : decode cL_asks 93 = .ok (.iload_n 2, 1) := by decide +kernel
theorem dL_asks_94 : decode cL_asks 94 = .ok (.invokevirtual 73, 3) := by decide +kernel
theorem dL_asks_97 : decode cL_asks 97 = .ok (.goto 8, 3) := by decide +kernel
theorem dL_asks_100 : decode cL_asks 100 = .ok (.aload_n 0, 1) := by decide +kernel
theorem dL_asks_101 : decode cL_asks 101 = .ok (.iload_n 2, 1) := by decide +kernel
theorem dL_asks_102 : decode cL_asks 102 = .ok (.invokevirtual 76, 3) := by decide +kernel
theorem dL_asks_105 : decode cL_asks 105 = .ok (.ireturn, 1) := by decide +kernel
theorem dL_asks_106 : decode cL_asks 106 = .ok (.astore 4, 2) := by decide +kernel
theorem dL_asks_108 : decode cL_asks 108 = .ok (.bipush (-30), 2) := by decide +kernel
theorem dL_asks_110 : decode cL_asks 110 = .ok (.ireturn, 1) := by decide +kernel
theorem dL_isBunker_0 : decode cL_isBunker 0 = .ok (.aload_n 0, 1) := by decide +kernel
theorem dL_isBunker_1 : decode cL_isBunker 1 = .ok (.iload_n 1, 1) := by decide +kernel
theorem dL_isBunker_2 : decode cL_isBunker 2 = .ok (.bipush 12, 2) := by decide +kernel
theorem dL_isBunker_4 : decode cL_isBunker 4 = .ok (.idiv, 1) := by decide +kernel
theorem dL_isBunker_5 : decode cL_isBunker 5 = .ok (.iaload, 1) := by decide +kernel
theorem dL_isBunker_6 : decode cL_isBunker 6 = .ok (.iload_n 1, 1) := by decide +kernel
theorem dL_isBunker_7 : decode cL_isBunker 7 = .ok (.bipush 12, 2) := by decide +kernel
theorem dL_isBunker_9 : decode cL_isBunker 9 = .ok (.irem, 1) := by decide +kernel
theorem dL_isBunker_10 : decode cL_isBunker 10 = .ok (.ishr, 1) := by decide +kernel
theorem dL_isBunker_11 : decode cL_isBunker 11 = .ok (.iconst 1, 1) := by decide +kernel
theorem dL_isBunker_12 : decode cL_isBunker 12 = .ok (.iand, 1) := by decide +kernel
theorem dL_isBunker_13 : decode cL_isBunker 13 = .ok (.iconst 1, 1) := by decide +kernel
theorem dL_isBunker_14 : decode cL_isBunker 14 = .ok (.if_icmp .ne 7, 3) := by decide +kernel
theorem dL_isBunker_17 : decode cL_isBunker 17 = .ok (.iconst 1, 1) := by decide +kernel
theorem dL_isBunker_18 : decode cL_isBunker 18 = .ok (.goto 4, 3) := by decide +kernel
theorem dL_isBunker_21 : decode cL_isBunker 21 = .ok (.iconst 0, 1) := by decide +kernel
theorem dL_isBunker_22 : decode cL_isBunker 22 = .ok (.ireturn, 1) := by decide +kernel
theorem dL_apart_0 : decode cL_apart 0 = .ok (.iload_n 0, 1) := by decide +kernel
theorem dL_apart_1 : decode cL_apart 1 = .ok (.bipush 12, 2) := by decide +kernel
theorem dL_apart_3 : decode cL_apart 3 = .ok (.idiv, 1) := by decide +kernel
theorem dL_apart_4 : decode cL_apart 4 = .ok (.iload_n 1, 1) := by decide +kernel
theorem dL_apart_5 : decode cL_apart 5 = .ok (.bipush 12, 2) := by decide +kernel
theorem dL_apart_7 : decode cL_apart 7 = .ok (.idiv, 1) := by decide +kernel
theorem dL_apart_8 : decode cL_apart 8 = .ok (.if_icmp .le 15, 3) := by decide +kernel
theorem dL_apart_11 : decode cL_apart 11 = .ok (.iload_n 0, 1) := by decide +kernel
theorem dL_apart_12 : decode cL_apart 12 = .ok (.bipush 12, 2) := by decide +kernel
theorem dL_apart_14 : decode cL_apart 14 = .ok (.idiv, 1) := by decide +kernel
theorem dL_apart_15 : decode cL_apart 15 = .ok (.iload_n 1, 1) := by decide +kernel
theorem dL_apart_16 : decode cL_apart 16 = .ok (.bipush 12, 2) := by decide +kernel
theorem dL_apart_18 : decode cL_apart 18 = .ok (.idiv, 1) := by decide +kernel
theorem dL_apart_19 : decode cL_apart 19 = .ok (.isub, 1) := by decide +kernel
theorem dL_apart_20 : decode cL_apart 20 = .ok (.goto 12, 3) := by decide +kernel
theorem dL_apart_23 : decode cL_apart 23 = .ok (.iload_n 1, 1) := by decide +kernel
theorem dL_apart_24 : decode cL_apart 24 = .ok (.bipush 12, 2) := by decide +kernel
theorem dL_apart_26 : decode cL_apart 26 = .ok (.idiv, 1) := by decide +kernel
theorem dL_apart_27 : decode cL_apart 27 = .ok (.iload_n 0, 1) := by decide +kernel
theorem dL_apart_28 : decode cL_apart 28 = .ok (.bipush 12, 2) := by decide +kernel
theorem dL_apart_30 : decode cL_apart 30 = .ok (.idiv, 1) := by decide +kernel
theorem dL_apart_31 : decode cL_apart 31 = .ok (.isub, 1) := by decide +kernel
theorem dL_apart_32 : decode cL_apart 32 = .ok (.istore_n 2, 1) := by decide +kernel
theorem dL_apart_33 : decode cL_apart 33 = .ok (.iload_n 0, 1) := by decide +kernel
theorem dL_apart_34 : decode cL_apart 34 = .ok (.bipush 12, 2) := by decide +kernel
theorem dL_apart_36 : decode cL_apart 36 = .ok (.irem, 1) := by decide +kernel
theorem dL_apart_37 : decode cL_apart 37 = .ok (.iload_n 1, 1) := by decide +kernel
theorem dL_apart_38 : decode cL_apart 38 = .ok (.bipush 12, 2) := by decide +kernel
theorem dL_apart_40 : decode cL_apart 40 = .ok (.irem, 1) := by decide +kernel
theorem dL_apart_41 : decode cL_apart 41 = .ok (.if_icmp .le 15, 3) := by decide +kernel
theorem dL_apart_44 : decode cL_apart 44 = .ok (.iload_n 0, 1) := by decide +kernel
theorem dL_apart_45 : decode cL_apart 45 = .ok (.bipush 12, 2) := by decide +kernel
theorem dL_apart_47 : decode cL_apart 47 = .ok (.irem, 1) := by decide +kernel
theorem dL_apart_48 : decode cL_apart 48 = .ok (.iload_n 1, 1) := by decide +kernel
theorem dL_apart_49 : decode cL_apart 49 = .ok (.bipush 12, 2) := by decide +kernel
theorem dL_apart_51 : decode cL_apart 51 = .ok (.irem, 1) := by decide +kernel
theorem dL_apart_52 : decode cL_apart 52 = .ok (.isub, 1) := by decide +kernel
theorem dL_apart_53 : decode cL_apart 53 = .ok (.goto 12, 3) := by decide +kernel
theorem dL_apart_56 : decode cL_apart 56 = .ok (.iload_n 1, 1) := by decide +kernel
theorem dL_apart_57 : decode cL_apart 57 = .ok (.bipush 12, 2) := by decide +kernel
theorem dL_apart_59 : decode cL_apart 59 = .ok (.irem, 1) := by decide +kernel
theorem dL_apart_60 : decode cL_apart 60 = .ok (.iload_n 0, 1) := by decide +kernel
theorem dL_apart_61 : decode cL_apart 61 = .ok (.bipush 12, 2) := by decide +kernel
theorem dL_apart_63 : decode cL_apart 63 = .ok (.irem, 1) := by decide +kernel
theorem dL_apart_64 : decode cL_apart 64 = .ok (.isub, 1) := by decide +kernel
theorem dL_apart_65 : decode cL_apart 65 = .ok (.istore_n 3, 1) := by decide +kernel
theorem dL_apart_66 : decode cL_apart 66 = .ok (.iload_n 2, 1) := by decide +kernel
theorem dL_apart_67 : decode cL_apart 67 = .ok (.iload_n 3, 1) := by decide +kernel
theorem dL_apart_68 : decode cL_apart 68 = .ok (.if_icmp .le 7, 3) := by decide +kernel
theorem dL_apart_71 : decode cL_apart 71 = .ok (.iload_n 2, 1) := by decide +kernel
theorem dL_apart_72 : decode cL_apart 72 = .ok (.goto 4, 3) := by decide +kernel
theorem dL_apart_75 : decode cL_apart 75 = .ok (.iload_n 3, 1) := by decide +kernel
theorem dL_apart_76 : decode cL_apart 76 = .ok (.ireturn, 1) := by decide +kernel
set_option maxRecDepth 20000 in
theorem ggL_isSight_X5_sees : GoodIn wsL_isSight wsX5_sees := goodIn_ca (goodIn_r _ [5, 6, 7, 8, 4, 9, 10, 11, 12, 13, 14, 15, 16, 17, 18, 19, 20, 21, 22, 23, 24, 25, 26, 27, 28, 29, 30, 38, 39, 40, 41, 42] (by decide +kernel) (by decide +kernel)) (goodIn_sub (fun _ h => List.mem_cons_of_mem _ (List.mem_append_right _ h)) (by decide +kernel))
set_option maxRecDepth 20000 in
theorem gL_isSight_X5_sees : GoodIn wsL_isSight (wsV RL 54 RX5 yX5_sees wsX5_sees) := goodIn_app (goodIn_of _ (by decide +kernel)) ggL_isSight_X5_sees
set_option maxRecDepth 20000 in
theorem ggL_isSight_L_isBunker : GoodIn wsL_isSight wsL_isBunker := goodIn_r _ [34] (by decide +kernel) (by decide +kernel)
set_option maxRecDepth 20000 in
theorem gL_isSight_L_isBunker : GoodIn wsL_isSight (va_wsS RL 79 yL_isBunker wsL_isBunker) := goodIn_app (goodIn_of _ (by decide +kernel)) ggL_isSight_L_isBunker
set_option maxRecDepth 20000 in
theorem ggL_isSight_L_apart : GoodIn wsL_isSight wsL_apart := goodIn_r _ [37] (by decide +kernel) (by decide +kernel)
set_option maxRecDepth 20000 in
theorem gL_isSight_L_apart : GoodIn wsL_isSight (va_wsS RL 83 yL_apart wsL_apart) := goodIn_app (goodIn_of _ (by decide +kernel)) ggL_isSight_L_apart
end
section
theorem dL_isSight_0 : decode cL_isSight 0 = .ok (.aload_n 0, 1) := by decide +kernel
theorem dL_isSight_1 : decode cL_isSight 1 = .ok (.iload_n 2, 1) := by decide +kernel
theorem dL_isSight_2 : decode cL_isSight 2 = .ok (.iload_n 3, 1) := by decide +kernel
theorem dL_isSight_3 : decode cL_isSight 3 = .ok (.invokevirtual 54, 3) := by decide +kernel
theorem dL_isSight_6 : decode cL_isSight 6 = .ok (.istore 4, 2) := by decide +kernel
theorem dL_isSight_8 : decode cL_isSight 8 = .ok (.aload_n 1, 1) := by decide +kernel
theorem dL_isSight_9 : decode cL_isSight 9 = .ok (.iload_n 2, 1) := by decide +kernel
theorem dL_isSight_10 : decode cL_isSight 10 = .ok (.invokestatic 79, 3) := by decide +kernel
theorem dL_isSight_13 : decode cL_isSight 13 = .ok (.ifCond .ne 15, 3) := by decide +kernel
theorem dL_isSight_16 : decode cL_isSight 16 = .ok (.aload_n 1, 1) := by decide +kernel
theorem dL_isSight_17 : decode cL_isSight 17 = .ok (.iload_n 3, 1) := by decide +kernel
theorem dL_isSight_18 : decode cL_isSight 18 = .ok (.invokestatic 79, 3) := by decide +kernel
theorem dL_isSight_21 : decode cL_isSight 21 = .ok (.ifCond .ne 7, 3) := by decide +kernel
theorem dL_isSight_24 : decode cL_isSight 24 = .ok (.iconst 1, 1) := by decide +kernel
theorem dL_isSight_25 : decode cL_isSight 25 = .ok (.goto 4, 3) := by decide +kernel
theorem dL_isSight_28 : decode cL_isSight 28 = .ok (.iconst 0, 1) := by decide +kernel
theorem dL_isSight_29 : decode cL_isSight 29 = .ok (.istore 5, 2) := by decide +kernel
theorem dL_isSight_31 : decode cL_isSight 31 = .ok (.iload_n 3, 1) := by decide +kernel
theorem dL_isSight_32 : decode cL_isSight 32 = .ok (.bipush 12, 2) := by decide +kernel
theorem dL_isSight_34 : decode cL_isSight 34 = .ok (.idiv, 1) := by decide +kernel
theorem dL_isSight_35 : decode cL_isSight 35 = .ok (.iload_n 2, 1) := by decide +kernel
theorem dL_isSight_36 : decode cL_isSight 36 = .ok (.bipush 12, 2) := by decide +kernel
theorem dL_isSight_38 : decode cL_isSight 38 = .ok (.idiv, 1) := by decide +kernel
theorem dL_isSight_39 : decode cL_isSight 39 = .ok (.isub, 1) := by decide +kernel
theorem dL_isSight_40 : decode cL_isSight 40 = .ok (.istore 6, 2) := by decide +kernel
theorem dL_isSight_42 : decode cL_isSight 42 = .ok (.iload_n 3, 1) := by decide +kernel
theorem dL_isSight_43 : decode cL_isSight 43 = .ok (.bipush 12, 2) := by decide +kernel
theorem dL_isSight_45 : decode cL_isSight 45 = .ok (.irem, 1) := by decide +kernel
theorem dL_isSight_46 : decode cL_isSight 46 = .ok (.iload_n 2, 1) := by decide +kernel
theorem dL_isSight_47 : decode cL_isSight 47 = .ok (.bipush 12, 2) := by decide +kernel
theorem dL_isSight_49 : decode cL_isSight 49 = .ok (.irem, 1) := by decide +kernel
theorem dL_isSight_50 : decode cL_isSight 50 = .ok (.isub, 1) := by decide +kernel
theorem dL_isSight_51 : decode cL_isSight 51 = .ok (.istore 7, 2) := by decide +kernel
theorem dL_isSight_53 : decode cL_isSight 53 = .ok (.iload 6, 2) := by decide +kernel
theorem dL_isSight_55 : decode cL_isSight 55 = .ok (.ifCond .eq 23, 3) := by decide +kernel
theorem dL_isSight_58 : decode cL_isSight 58 = .ok (.iload 7, 2) := by decide +kernel
theorem dL_isSight_60 : decode cL_isSight 60 = .ok (.ifCond .eq 18, 3) := by decide +kernel
theorem dL_isSight_63 : decode cL_isSight 63 = .ok (.iload 6, 2) := by decide +kernel
theorem dL_isSight_65 : decode cL_isSight 65 = .ok (.iload 7, 2) := by decide +kernel
theorem dL_isSight_67 : decode cL_isSight 67 = .ok (.if_icmp .eq 11, 3) := by decide +kernel
theorem dL_isSight_70 : decode cL_isSight 70 = .ok (.iload 6, 2) := by decide +kernel
theorem dL_isSight_72 : decode cL_isSight 72 = .ok (.iload 7, 2) := by decide +kernel
theorem dL_isSight_74 : decode cL_isSight 74 = .ok (.ineg, 1) := by decide +kernel
theorem dL_isSight_75 : decode cL_isSight 75 = .ok (.if_icmp .ne 7, 3) := by decide +kernel
theorem dL_isSight_78 : decode cL_isSight 78 = .ok (.iconst 1, 1) := by decide +kernel
theorem dL_isSight_79 : decode cL_isSight 79 = .ok (.goto 4, 3) := by decide +kernel
theorem dL_isSight_82 : decode cL_isSight 82 = .ok (.iconst 0, 1) := by decide +kernel
theorem dL_isSight_83 : decode cL_isSight 83 = .ok (.istore 8, 2) := by decide +kernel
theorem dL_isSight_85 : decode cL_isSight 85 = .ok (.iload 5, 2) := by decide +kernel
theorem dL_isSight_87 : decode cL_isSight 87 = .ok (.istore 9, 2) := by decide +kernel
theorem dL_isSight_89 : decode cL_isSight 89 = .ok (.iload_n 2, 1) := by decide +kernel
theorem dL_isSight_90 : decode cL_isSight 90 = .ok (.iload_n 3, 1) := by decide +kernel
theorem dL_isSight_91 : decode cL_isSight 91 = .ok (.invokestatic 83, 3) := by decide +kernel
theorem dL_isSight_94 : decode cL_isSight 94 = .ok (.istore 10, 2) := by decide +kernel
theorem dL_isSight_96 : decode cL_isSight 96 = .ok (.iconst 1, 1) := by decide +kernel
theorem dL_isSight_97 : decode cL_isSight 97 = .ok (.istore 11, 2) := by decide +kernel
theorem dL_isSight_99 : decode cL_isSight 99 = .ok (.iload 11, 2) := by decide +kernel
theorem dL_isSight_101 : decode cL_isSight 101 = .ok (.iload 10, 2) := by decide +kernel
theorem dL_isSight_103 : decode cL_isSight 103 = .ok (.if_icmp .ge 52, 3) := by decide +kernel
theorem dL_isSight_106 : decode cL_isSight 106 = .ok (.iload 8, 2) := by decide +kernel
theorem dL_isSight_108 : decode cL_isSight 108 = .ok (.ifCond .eq 47, 3) := by decide +kernel
theorem dL_isSight_111 : decode cL_isSight 111 = .ok (.iload 9, 2) := by decide +kernel
theorem dL_isSight_113 : decode cL_isSight 113 = .ok (.ifCond .eq 33, 3) := by decide +kernel
theorem dL_isSight_116 : decode cL_isSight 116 = .ok (.aload_n 1, 1) := by decide +kernel
theorem dL_isSight_117 : decode cL_isSight 117 = .ok (.iload_n 2, 1) := by decide +kernel
theorem dL_isSight_118 : decode cL_isSight 118 = .ok (.iload 11, 2) := by decide +kernel
theorem dL_isSight_120 : decode cL_isSight 120 = .ok (.iload 6, 2) := by decide +kernel
theorem dL_isSight_122 : decode cL_isSight 122 = .ok (.iload 10, 2) := by decide +kernel
theorem dL_isSight_124 : decode cL_isSight 124 = .ok (.idiv, 1) := by decide +kernel
theorem dL_isSight_125 : decode cL_isSight 125 = .ok (.bipush 12, 2) := by decide +kernel
theorem dL_isSight_127 : decode cL_isSight 127 = .ok (.imul, 1) := by decide +kernel
theorem dL_isSight_128 : decode cL_isSight 128 = .ok (.iload 7, 2) := by decide +kernel
theorem dL_isSight_130 : decode cL_isSight 130 = .ok (.iload 10, 2) := by decide +kernel
theorem dL_isSight_132 : decode cL_isSight 132 = .ok (.idiv, 1) := by decide +kernel
theorem dL_isSight_133 : decode cL_isSight 133 = .ok (.iadd, 1) := by decide +kernel
theorem dL_isSight_134 : decode cL_isSight 134 = .ok (.imul, 1) := by decide +kernel
theorem dL_isSight_135 : decode cL_isSight 135 = .ok (.iadd, 1) := by decide +kernel
theorem dL_isSight_136 : decode cL_isSight 136 = .ok (.invokestatic 79, 3) := by decide +kernel
theorem dL_isSight_139 : decode cL_isSight 139 = .ok (.ifCond .ne 7, 3) := by decide +kernel
theorem dL_isSight_142 : decode cL_isSight 142 = .ok (.iconst 1, 1) := by decide +kernel
theorem dL_isSight_143 : decode cL_isSight 143 = .ok (.goto 4, 3) := by decide +kernel
theorem dL_isSight_146 : decode cL_isSight 146 = .ok (.iconst 0, 1) := by decide +kernel
theorem dL_isSight_147 : decode cL_isSight 147 = .ok (.istore 9, 2) := by decide +kernel
theorem dL_isSight_149 : decode cL_isSight 149 = .ok (.iinc 11 1, 3) := by decide +kernel
theorem dL_isSight_152 : decode cL_isSight 152 = .ok (.goto (-53), 3) := by decide +kernel
theorem dL_isSight_155 : decode cL_isSight 155 = .ok (.iconst 0, 1) := by decide +kernel
theorem dL_isSight_156 : decode cL_isSight 156 = .ok (.istore 11, 2) := by decide +kernel
theorem dL_isSight_158 : decode cL_isSight 158 = .ok (.iload_n 2, 1) := by decide +kernel
theorem dL_isSight_159 : decode cL_isSight 159 = .ok (.bipush 12, 2) := by decide +kernel
theorem dL_isSight_161 : decode cL_isSight 161 = .ok (.idiv, 1) := by decide +kernel
theorem dL_isSight_162 : decode cL_isSight 162 = .ok (.iload_n 3, 1) := by decide +kernel
theorem dL_isSight_163 : decode cL_isSight 163 = .ok (.bipush 12, 2) := by decide +kernel
theorem dL_isSight_165 : decode cL_isSight 165 = .ok (.idiv, 1) := by decide +kernel
theorem dL_isSight_166 : decode cL_isSight 166 = .ok (.if_icmp .ge 10, 3) := by decide +kernel
theorem dL_isSight_169 : decode cL_isSight 169 = .ok (.iload_n 2, 1) := by decide +kernel
theorem dL_isSight_170 : decode cL_isSight 170 = .ok (.bipush 12, 2) := by decide +kernel
theorem dL_isSight_172 : decode cL_isSight 172 = .ok (.idiv, 1) := by decide +kernel
theorem dL_isSight_173 : decode cL_isSight 173 = .ok (.goto 7, 3) := by decide +kernel
theorem dL_isSight_176 : decode cL_isSight 176 = .ok (.iload_n 3, 1) := by decide +kernel
theorem dL_isSight_177 : decode cL_isSight 177 = .ok (.bipush 12, 2) := by decide +kernel
theorem dL_isSight_179 : decode cL_isSight 179 = .ok (.idiv, 1) := by decide +kernel
theorem dL_isSight_180 : decode cL_isSight 180 = .ok (.istore 12, 2) := by decide +kernel
theorem dL_isSight_182 : decode cL_isSight 182 = .ok (.iload 12, 2) := by decide +kernel
theorem dL_isSight_184 : decode cL_isSight 184 = .ok (.iload_n 2, 1) := by decide +kernel
theorem dL_isSight_185 : decode cL_isSight 185 = .ok (.bipush 12, 2) := by decide +kernel
theorem dL_isSight_187 : decode cL_isSight 187 = .ok (.idiv, 1) := by decide +kernel
theorem dL_isSight_188 : decode cL_isSight 188 = .ok (.if_icmp .le 12, 3) := by decide +kernel
theorem dL_isSight_191 : decode cL_isSight 191 = .ok (.iload 12, 2) := by decide +kernel
theorem dL_isSight_193 : decode cL_isSight 193 = .ok (.iload_n 3, 1) := by decide +kernel
theorem dL_isSight_194 : decode cL_isSight 194 = .ok (.bipush 12, 2) := by decide +kernel
theorem dL_isSight_196 : decode cL_isSight 196 = .ok (.idiv, 1) := by decide +kernel
theorem dL_isSight_197 : decode cL_isSight 197 = .ok (.if_icmp .gt 18, 3) := by decide +kernel
theorem dL_isSight_200 : decode cL_isSight 200 = .ok (.iload 11, 2) := by decide +kernel
theorem dL_isSight_202 : decode cL_isSight 202 = .ok (.aload_n 1, 1) := by decide +kernel
theorem dL_isSight_203 : decode cL_isSight 203 = .ok (.iload 12, 2) := by decide +kernel
theorem dL_isSight_205 : decode cL_isSight 205 = .ok (.iaload, 1) := by decide +kernel
theorem dL_isSight_206 : decode cL_isSight 206 = .ok (.ior, 1) := by decide +kernel
theorem dL_isSight_207 : decode cL_isSight 207 = .ok (.istore 11, 2) := by decide +kernel
theorem dL_isSight_209 : decode cL_isSight 209 = .ok (.iinc 12 1, 3) := by decide +kernel
theorem dL_isSight_212 : decode cL_isSight 212 = .ok (.goto (-30), 3) := by decide +kernel
theorem dL_isSight_215 : decode cL_isSight 215 = .ok (.iload 4, 2) := by decide +kernel
theorem dL_isSight_217 : decode cL_isSight 217 = .ok (.aload_n 0, 1) := by decide +kernel
theorem dL_isSight_218 : decode cL_isSight 218 = .ok (.iload_n 3, 1) := by decide +kernel
theorem dL_isSight_219 : decode cL_isSight 219 = .ok (.iload_n 2, 1) := by decide +kernel
theorem dL_isSight_220 : decode cL_isSight 220 = .ok (.invokevirtual 54, 3) := by decide +kernel
theorem dL_isSight_223 : decode cL_isSight 223 = .ok (.if_icmp .ne 42, 3) := by decide +kernel
theorem dL_isSight_226 : decode cL_isSight 226 = .ok (.iload 8, 2) := by decide +kernel
theorem dL_isSight_228 : decode cL_isSight 228 = .ok (.ifCond .eq 13, 3) := by decide +kernel
theorem dL_isSight_231 : decode cL_isSight 231 = .ok (.iload 4, 2) := by decide +kernel
theorem dL_isSight_233 : decode cL_isSight 233 = .ok (.iload 9, 2) := by decide +kernel
theorem dL_isSight_235 : decode cL_isSight 235 = .ok (.if_icmp .ne 30, 3) := by decide +kernel
theorem dL_isSight_238 : decode cL_isSight 238 = .ok (.goto 13, 3) := by decide +kernel
theorem dL_isSight_241 : decode cL_isSight 241 = .ok (.iload 4, 2) := by decide +kernel
theorem dL_isSight_243 : decode cL_isSight 243 = .ok (.ifCond .eq 8, 3) := by decide +kernel
theorem dL_isSight_246 : decode cL_isSight 246 = .ok (.iload 5, 2) := by decide +kernel
theorem dL_isSight_248 : decode cL_isSight 248 = .ok (.ifCond .eq 17, 3) := by decide +kernel
theorem dL_isSight_251 : decode cL_isSight 251 = .ok (.iload 11, 2) := by decide +kernel
theorem dL_isSight_253 : decode cL_isSight 253 = .ok (.ifCond .gt 8, 3) := by decide +kernel
theorem dL_isSight_256 : decode cL_isSight 256 = .ok (.iload 4, 2) := by decide +kernel
theorem dL_isSight_258 : decode cL_isSight 258 = .ok (.ifCond .eq 7, 3) := by decide +kernel
theorem dL_isSight_261 : decode cL_isSight 261 = .ok (.iconst 1, 1) := by decide +kernel
theorem dL_isSight_262 : decode cL_isSight 262 = .ok (.goto 4, 3) := by decide +kernel
theorem dL_isSight_265 : decode cL_isSight 265 = .ok (.iconst 0, 1) := by decide +kernel
theorem dL_isSight_266 : decode cL_isSight 266 = .ok (.ireturn, 1) := by decide +kernel
set_option maxRecDepth 20000 in
theorem ggL_isView_X5_sees : GoodIn wsL_isView wsX5_sees := goodIn_ca (goodIn_r _ [5, 6, 7, 8, 4, 9, 10, 11, 12, 13, 14, 15, 16, 17, 18, 19, 20, 21, 22, 23, 24, 25, 26, 27, 28, 29, 30, 44, 45, 46, 47, 48] (by decide +kernel) (by decide +kernel)) (goodIn_sub (fun _ h => List.mem_cons_of_mem _ (List.mem_append_right _ h)) (by decide +kernel))
set_option maxRecDepth 20000 in
theorem gL_isView_X5_sees : GoodIn wsL_isView (wsV RL 54 RX5 yX5_sees wsX5_sees) := goodIn_app (goodIn_of _ (by decide +kernel)) ggL_isView_X5_sees
set_option maxRecDepth 20000 in
theorem ggL_isView_X5_view : GoodIn wsL_isView wsX5_view := goodIn_ca (goodIn_r _ [34, 6, 7, 8, 4, 9, 10, 11, 35, 36, 37, 15, 38, 39, 13, 14, 16, 17, 18, 19, 20, 21, 22, 23, 24, 25, 26, 27, 28, 29, 30, 44, 45, 46, 47, 48] (by decide +kernel) (by decide +kernel)) (goodIn_sub (fun _ h => List.mem_cons_of_mem _ (List.mem_append_right _ h)) (by decide +kernel))
set_option maxRecDepth 20000 in
theorem gL_isView_X5_view : GoodIn wsL_isView (wsV RL 58 RX5 yX5_view wsX5_view) := goodIn_app (goodIn_of _ (by decide +kernel)) ggL_isView_X5_view
set_option maxRecDepth 20000 in
theorem ggL_isView_L_isBunker : GoodIn wsL_isView wsL_isBunker := goodIn_r _ [43] (by decide +kernel) (by decide +kernel)
set_option maxRecDepth 20000 in
theorem gL_isView_L_isBunker : GoodIn wsL_isView (va_wsS RL 79 yL_isBunker wsL_isBunker) := goodIn_app (goodIn_of _ (by decide +kernel)) ggL_isView_L_isBunker
theorem dL_isView_0 : decode cL_isView 0 = .ok (.iconst 0, 1) := by decide +kernel
theorem dL_isView_1 : decode cL_isView 1 = .ok (.istore_n 3, 1) := by decide +kernel
theorem dL_isView_2 : decode cL_isView 2 = .ok (.iconst 0, 1) := by decide +kernel
theorem dL_isView_3 : decode cL_isView 3 = .ok (.istore 4, 2) := by decide +kernel
theorem dL_isView_5 : decode cL_isView 5 = .ok (.iload 4, 2) := by decide +kernel
theorem dL_isView_7 : decode cL_isView 7 = .ok (.sipush 144, 3) := by decide +kernel
theorem dL_isView_10 : decode cL_isView 10 = .ok (.if_icmp .ge 27, 3) := by decide +kernel
theorem dL_isView_13 : decode cL_isView 13 = .ok (.iload_n 3, 1) := by decide +kernel
theorem dL_isView_14 : decode cL_isView 14 = .ok (.aload_n 0, 1) := by decide +kernel
theorem dL_isView_15 : decode cL_isView 15 = .ok (.iload_n 2, 1) := by decide +kernel
theorem dL_isView_16 : decode cL_isView 16 = .ok (.iload 4, 2) := by decide +kernel
theorem dL_isView_18 : decode cL_isView 18 = .ok (.invokevirtual 54, 3) := by decide +kernel
theorem dL_isView_21 : decode cL_isView 21 = .ok (.ifCond .eq 7, 3) := by decide +kernel
theorem dL_isView_24 : decode cL_isView 24 = .ok (.iconst 1, 1) := by decide +kernel
theorem dL_isView_25 : decode cL_isView 25 = .ok (.goto 4, 3) := by decide +kernel
theorem dL_isView_28 : decode cL_isView 28 = .ok (.iconst 0, 1) := by decide +kernel
theorem dL_isView_29 : decode cL_isView 29 = .ok (.iadd, 1) := by decide +kernel
theorem dL_isView_30 : decode cL_isView 30 = .ok (.istore_n 3, 1) := by decide +kernel
theorem dL_isView_31 : decode cL_isView 31 = .ok (.iinc 4 1, 3) := by decide +kernel
theorem dL_isView_34 : decode cL_isView 34 = .ok (.goto (-29), 3) := by decide +kernel
theorem dL_isView_37 : decode cL_isView 37 = .ok (.aload_n 0, 1) := by decide +kernel
theorem dL_isView_38 : decode cL_isView 38 = .ok (.iload_n 2, 1) := by decide +kernel
theorem dL_isView_39 : decode cL_isView 39 = .ok (.invokevirtual 58, 3) := by decide +kernel
theorem dL_isView_42 : decode cL_isView 42 = .ok (.iload_n 3, 1) := by decide +kernel
theorem dL_isView_43 : decode cL_isView 43 = .ok (.if_icmp .ne 24, 3) := by decide +kernel
theorem dL_isView_46 : decode cL_isView 46 = .ok (.iload_n 3, 1) := by decide +kernel
theorem dL_isView_47 : decode cL_isView 47 = .ok (.ifCond .ne 7, 3) := by decide +kernel
theorem dL_isView_50 : decode cL_isView 50 = .ok (.iconst 1, 1) := by decide +kernel
theorem dL_isView_51 : decode cL_isView 51 = .ok (.goto 4, 3) := by decide +kernel
theorem dL_isView_54 : decode cL_isView 54 = .ok (.iconst 0, 1) := by decide +kernel
theorem dL_isView_55 : decode cL_isView 55 = .ok (.aload_n 1, 1) := by decide +kernel
theorem dL_isView_56 : decode cL_isView 56 = .ok (.iload_n 2, 1) := by decide +kernel
theorem dL_isView_57 : decode cL_isView 57 = .ok (.invokestatic 79, 3) := by decide +kernel
theorem dL_isView_60 : decode cL_isView 60 = .ok (.if_icmp .ne 7, 3) := by decide +kernel
theorem dL_isView_63 : decode cL_isView 63 = .ok (.iconst 1, 1) := by decide +kernel
theorem dL_isView_64 : decode cL_isView 64 = .ok (.goto 4, 3) := by decide +kernel
theorem dL_isView_67 : decode cL_isView 67 = .ok (.iconst 0, 1) := by decide +kernel
theorem dL_isView_68 : decode cL_isView 68 = .ok (.ireturn, 1) := by decide +kernel
set_option maxRecDepth 20000 in
theorem ggL_isTable_L_asks : GoodIn wsL_isTable wsL_asks := goodIn_ca (goodIn_r _ [4, 5, 6, 7, 8, 9, 10, 11, 12, 13, 14, 15, 16, 17, 18, 19, 20, 21, 22, 23, 24, 25, 26, 27, 28, 29, 30, 31, 32, 33, 34, 35, 36, 37, 38, 39, 40, 41, 42, 43, 44, 45, 46, 47, 48, 49, 50, 51, 52, 53, 54, 55, 56, 57, 58, 59, 60, 61, 62, 63, 64, 65, 66, 67, 68, 69, 70, 71, 72, 73, 74, 75, 76, 77, 78, 79, 80, 81, 82, 83, 84, 85, 86, 87, 88, 89, 90, 91, 92, 93, 94, 95, 96, 97, 98, 99, 100, 101, 102, 103, 104, 105, 106, 107, 108, 109, 110, 111, 112, 113, 114, 115, 116, 117, 118, 119, 120, 121, 122, 123, 124, 125, 126, 127, 128, 129] (by decide +kernel) (by decide +kernel)) (goodIn_sub (fun _ h => List.mem_cons_of_mem _ (List.mem_append_right _ h)) (by decide +kernel))
set_option maxRecDepth 20000 in
theorem gL_isTable_L_asks : GoodIn wsL_isTable (va_wsS RL 86 yL_asks wsL_asks) := goodIn_app (goodIn_of _ (by decide +kernel)) ggL_isTable_L_asks
set_option maxRecDepth 20000 in
theorem ggL_isTable_X5_points : GoodIn wsL_isTable wsX5_points := goodIn_ca (goodIn_r _ [71, 72, 73, 74, 9, 75, 15, 16, 76, 77, 78, 79, 80, 81, 113, 114, 115, 116, 126, 127, 128, 129] (by decide +kernel) (by decide +kernel)) (goodIn_sub (fun _ h => List.mem_cons_of_mem _ (List.mem_append_right _ h)) (by decide +kernel))
set_option maxRecDepth 20000 in
theorem gL_isTable_X5_points : GoodIn wsL_isTable (wsV RL 67 RX5 yX5_points wsX5_points) := goodIn_app (goodIn_of _ (by decide +kernel)) ggL_isTable_X5_points
set_option maxRecDepth 20000 in
theorem ggL_isTable_X5_fines : GoodIn wsL_isTable wsX5_fines := goodIn_ca (goodIn_r _ [85, 72, 73, 74, 9, 75, 15, 16, 86, 87, 88, 79, 89, 90, 113, 114, 115, 116, 126, 127, 128, 129] (by decide +kernel) (by decide +kernel)) (goodIn_sub (fun _ h => List.mem_cons_of_mem _ (List.mem_append_right _ h)) (by decide +kernel))
set_option maxRecDepth 20000 in
theorem gL_isTable_X5_fines : GoodIn wsL_isTable (wsV RL 70 RX5 yX5_fines wsX5_fines) := goodIn_app (goodIn_of _ (by decide +kernel)) ggL_isTable_X5_fines
set_option maxRecDepth 20000 in
theorem ggL_isTable_X5_difference : GoodIn wsL_isTable wsX5_difference := goodIn_ca (goodIn_r _ [94, 72, 73, 74, 9, 75, 15, 16, 95, 96, 97, 79, 98, 99, 113, 114, 115, 116, 126, 127, 128, 129] (by decide +kernel) (by decide +kernel)) (goodIn_sub (fun _ h => List.mem_cons_of_mem _ (List.mem_append_right _ h)) (by decide +kernel))
set_option maxRecDepth 20000 in
theorem gL_isTable_X5_difference : GoodIn wsL_isTable (wsV RL 73 RX5 yX5_difference wsX5_difference) := goodIn_app (goodIn_of _ (by decide +kernel)) ggL_isTable_X5_difference
set_option maxRecDepth 20000 in
theorem ggL_isTable_X5_place : GoodIn wsL_isTable wsX5_place := goodIn_ca (goodIn_r _ [103, 72, 73, 74, 9, 75, 15, 16, 104, 105, 106, 79, 107, 108, 109, 110, 111, 81, 112, 99, 113, 114, 115, 116, 126, 127, 128, 129] (by decide +kernel) (by decide +kernel)) (goodIn_sub (fun _ h => List.mem_cons_of_mem _ (List.mem_append_right _ h)) (by decide +kernel))
set_option maxRecDepth 20000 in
theorem gL_isTable_X5_place : GoodIn wsL_isTable (wsV RL 76 RX5 yX5_place wsX5_place) := goodIn_app (goodIn_of _ (by decide +kernel)) ggL_isTable_X5_place
theorem dL_isTable_0 : decode cL_isTable 0 = .ok (.aload_n 0, 1) := by decide +kernel
theorem dL_isTable_1 : decode cL_isTable 1 = .ok (.iconst 4, 1) := by decide +kernel
theorem dL_isTable_2 : decode cL_isTable 2 = .ok (.bipush 6, 2) := by decide +kernel
theorem dL_isTable_4 : decode cL_isTable 4 = .ok (.iconst 0, 1) := by decide +kernel
theorem dL_isTable_5 : decode cL_isTable 5 = .ok (.invokestatic 86, 3) := by decide +kernel
theorem dL_isTable_8 : decode cL_isTable 8 = .ok (.bipush (-30), 2) := by decide +kernel
theorem dL_isTable_10 : decode cL_isTable 10 = .ok (.if_icmp .ne 46, 3) := by decide +kernel
theorem dL_isTable_13 : decode cL_isTable 13 = .ok (.aload_n 0, 1) := by decide +kernel
theorem dL_isTable_14 : decode cL_isTable 14 = .ok (.iconst 5, 1) := by decide +kernel
theorem dL_isTable_15 : decode cL_isTable 15 = .ok (.iconst (-1), 1) := by decide +kernel
theorem dL_isTable_16 : decode cL_isTable 16 = .ok (.iconst 0, 1) := by decide +kernel
theorem dL_isTable_17 : decode cL_isTable 17 = .ok (.invokestatic 86, 3) := by decide +kernel
theorem dL_isTable_20 : decode cL_isTable 20 = .ok (.bipush (-30), 2) := by decide +kernel
theorem dL_isTable_22 : decode cL_isTable 22 = .ok (.if_icmp .ne 34, 3) := by decide +kernel
theorem dL_isTable_25 : decode cL_isTable 25 = .ok (.aload_n 0, 1) := by decide +kernel
theorem dL_isTable_26 : decode cL_isTable 26 = .ok (.bipush 6, 2) := by decide +kernel
theorem dL_isTable_28 : decode cL_isTable 28 = .ok (.bipush 6, 2) := by decide +kernel
theorem dL_isTable_30 : decode cL_isTable 30 = .ok (.iconst 0, 1) := by decide +kernel
theorem dL_isTable_31 : decode cL_isTable 31 = .ok (.invokestatic 86, 3) := by decide +kernel
theorem dL_isTable_34 : decode cL_isTable 34 = .ok (.bipush (-30), 2) := by decide +kernel
theorem dL_isTable_36 : decode cL_isTable 36 = .ok (.if_icmp .ne 20, 3) := by decide +kernel
theorem dL_isTable_39 : decode cL_isTable 39 = .ok (.aload_n 0, 1) := by decide +kernel
theorem dL_isTable_40 : decode cL_isTable 40 = .ok (.bipush 7, 2) := by decide +kernel
theorem dL_isTable_42 : decode cL_isTable 42 = .ok (.iconst (-1), 1) := by decide +kernel
theorem dL_isTable_43 : decode cL_isTable 43 = .ok (.iconst 0, 1) := by decide +kernel
theorem dL_isTable_44 : decode cL_isTable 44 = .ok (.invokestatic 86, 3) := by decide +kernel
theorem dL_isTable_47 : decode cL_isTable 47 = .ok (.bipush (-30), 2) := by decide +kernel
theorem dL_isTable_49 : decode cL_isTable 49 = .ok (.if_icmp .ne 7, 3) := by decide +kernel
theorem dL_isTable_52 : decode cL_isTable 52 = .ok (.iconst 1, 1) := by decide +kernel
theorem dL_isTable_53 : decode cL_isTable 53 = .ok (.goto 4, 3) := by decide +kernel
theorem dL_isTable_56 : decode cL_isTable 56 = .ok (.iconst 0, 1) := by decide +kernel
theorem dL_isTable_57 : decode cL_isTable 57 = .ok (.istore_n 3, 1) := by decide +kernel
theorem dL_isTable_58 : decode cL_isTable 58 = .ok (.iconst 0, 1) := by decide +kernel
theorem dL_isTable_59 : decode cL_isTable 59 = .ok (.istore 4, 2) := by decide +kernel
theorem dL_isTable_61 : decode cL_isTable 61 = .ok (.iload 4, 2) := by decide +kernel
theorem dL_isTable_63 : decode cL_isTable 63 = .ok (.bipush 6, 2) := by decide +kernel
theorem dL_isTable_65 : decode cL_isTable 65 = .ok (.if_icmp .ge 214, 3) := by decide +kernel
theorem dL_isTable_68 : decode cL_isTable 68 = .ok (.iload_n 3, 1) := by decide +kernel
theorem dL_isTable_69 : decode cL_isTable 69 = .ok (.ifCond .eq 210, 3) := by decide +kernel
theorem dL_isTable_72 : decode cL_isTable 72 = .ok (.iconst 1, 1) := by decide +kernel
theorem dL_isTable_73 : decode cL_isTable 73 = .ok (.istore 5, 2) := by decide +kernel
theorem dL_isTable_75 : decode cL_isTable 75 = .ok (.iconst 0, 1) := by decide +kernel
theorem dL_isTable_76 : decode cL_isTable 76 = .ok (.istore 6, 2) := by decide +kernel
theorem dL_isTable_78 : decode cL_isTable 78 = .ok (.iload 6, 2) := by decide +kernel
theorem dL_isTable_80 : decode cL_isTable 80 = .ok (.bipush 6, 2) := by decide +kernel
theorem dL_isTable_82 : decode cL_isTable 82 = .ok (.if_icmp .ge 125, 3) := by decide +kernel
theorem dL_isTable_85 : decode cL_isTable 85 = .ok (.aload_n 1, 1) := by decide +kernel
theorem dL_isTable_86 : decode cL_isTable 86 = .ok (.iconst 3, 1) := by decide +kernel
theorem dL_isTable_87 : decode cL_isTable 87 = .ok (.iload 6, 2) := by decide +kernel
theorem dL_isTable_89 : decode cL_isTable 89 = .ok (.imul, 1) := by decide +kernel
theorem dL_isTable_90 : decode cL_isTable 90 = .ok (.iaload, 1) := by decide +kernel
theorem dL_isTable_91 : decode cL_isTable 91 = .ok (.aload_n 1, 1) := by decide +kernel
theorem dL_isTable_92 : decode cL_isTable 92 = .ok (.iconst 3, 1) := by decide +kernel
theorem dL_isTable_93 : decode cL_isTable 93 = .ok (.iload 4, 2) := by decide +kernel
theorem dL_isTable_95 : decode cL_isTable 95 = .ok (.imul, 1) := by decide +kernel
theorem dL_isTable_96 : decode cL_isTable 96 = .ok (.iaload, 1) := by decide +kernel
theorem dL_isTable_97 : decode cL_isTable 97 = .ok (.isub, 1) := by decide +kernel
theorem dL_isTable_98 : decode cL_isTable 98 = .ok (.istore 7, 2) := by decide +kernel
theorem dL_isTable_100 : decode cL_isTable 100 = .ok (.aload_n 2, 1) := by decide +kernel
theorem dL_isTable_101 : decode cL_isTable 101 = .ok (.bipush 6, 2) := by decide +kernel
theorem dL_isTable_103 : decode cL_isTable 103 = .ok (.iload 6, 2) := by decide +kernel
theorem dL_isTable_105 : decode cL_isTable 105 = .ok (.imul, 1) := by decide +kernel
theorem dL_isTable_106 : decode cL_isTable 106 = .ok (.iload 4, 2) := by decide +kernel
theorem dL_isTable_108 : decode cL_isTable 108 = .ok (.iadd, 1) := by decide +kernel
theorem dL_isTable_109 : decode cL_isTable 109 = .ok (.iaload, 1) := by decide +kernel
theorem dL_isTable_110 : decode cL_isTable 110 = .ok (.aload_n 2, 1) := by decide +kernel
theorem dL_isTable_111 : decode cL_isTable 111 = .ok (.bipush 6, 2) := by decide +kernel
theorem dL_isTable_113 : decode cL_isTable 113 = .ok (.iload 4, 2) := by decide +kernel
theorem dL_isTable_115 : decode cL_isTable 115 = .ok (.imul, 1) := by decide +kernel
theorem dL_isTable_116 : decode cL_isTable 116 = .ok (.iload 6, 2) := by decide +kernel
theorem dL_isTable_118 : decode cL_isTable 118 = .ok (.iadd, 1) := by decide +kernel
theorem dL_isTable_119 : decode cL_isTable 119 = .ok (.iaload, 1) := by decide +kernel
theorem dL_isTable_120 : decode cL_isTable 120 = .ok (.isub, 1) := by decide +kernel
theorem dL_isTable_121 : decode cL_isTable 121 = .ok (.istore 8, 2) := by decide +kernel
theorem dL_isTable_123 : decode cL_isTable 123 = .ok (.aload_n 1, 1) := by decide +kernel
theorem dL_isTable_124 : decode cL_isTable 124 = .ok (.iconst 3, 1) := by decide +kernel
theorem dL_isTable_125 : decode cL_isTable 125 = .ok (.iload 6, 2) := by decide +kernel
theorem dL_isTable_127 : decode cL_isTable 127 = .ok (.imul, 1) := by decide +kernel
theorem dL_isTable_128 : decode cL_isTable 128 = .ok (.iconst 2, 1) := by decide +kernel
theorem dL_isTable_129 : decode cL_isTable 129 = .ok (.iadd, 1) := by decide +kernel
theorem dL_isTable_130 : decode cL_isTable 130 = .ok (.iaload, 1) := by decide +kernel
theorem dL_isTable_131 : decode cL_isTable 131 = .ok (.aload_n 1, 1) := by decide +kernel
theorem dL_isTable_132 : decode cL_isTable 132 = .ok (.iconst 3, 1) := by decide +kernel
theorem dL_isTable_133 : decode cL_isTable 133 = .ok (.iload 4, 2) := by decide +kernel
theorem dL_isTable_135 : decode cL_isTable 135 = .ok (.imul, 1) := by decide +kernel
theorem dL_isTable_136 : decode cL_isTable 136 = .ok (.iconst 2, 1) := by decide +kernel
theorem dL_isTable_137 : decode cL_isTable 137 = .ok (.iadd, 1) := by decide +kernel
theorem dL_isTable_138 : decode cL_isTable 138 = .ok (.iaload, 1) := by decide +kernel
theorem dL_isTable_139 : decode cL_isTable 139 = .ok (.isub, 1) := by decide +kernel
theorem dL_isTable_140 : decode cL_isTable 140 = .ok (.istore 9, 2) := by decide +kernel
theorem dL_isTable_142 : decode cL_isTable 142 = .ok (.iload 7, 2) := by decide +kernel
theorem dL_isTable_144 : decode cL_isTable 144 = .ok (.ifCond .gt 35, 3) := by decide +kernel
theorem dL_isTable_147 : decode cL_isTable 147 = .ok (.iload 7, 2) := by decide +kernel
theorem dL_isTable_149 : decode cL_isTable 149 = .ok (.ifCond .ne 34, 3) := by decide +kernel
theorem dL_isTable_152 : decode cL_isTable 152 = .ok (.iload 8, 2) := by decide +kernel
theorem dL_isTable_154 : decode cL_isTable 154 = .ok (.ifCond .gt 25, 3) := by decide +kernel
theorem dL_isTable_157 : decode cL_isTable 157 = .ok (.iload 8, 2) := by decide +kernel
theorem dL_isTable_159 : decode cL_isTable 159 = .ok (.ifCond .ne 24, 3) := by decide +kernel
theorem dL_isTable_162 : decode cL_isTable 162 = .ok (.iload 9, 2) := by decide +kernel
theorem dL_isTable_164 : decode cL_isTable 164 = .ok (.ifCond .gt 15, 3) := by decide +kernel
theorem dL_isTable_167 : decode cL_isTable 167 = .ok (.iload 9, 2) := by decide +kernel
theorem dL_isTable_169 : decode cL_isTable 169 = .ok (.ifCond .ne 14, 3) := by decide +kernel
theorem dL_isTable_172 : decode cL_isTable 172 = .ok (.iload 6, 2) := by decide +kernel
theorem dL_isTable_174 : decode cL_isTable 174 = .ok (.iload 4, 2) := by decide +kernel
theorem dL_isTable_176 : decode cL_isTable 176 = .ok (.if_icmp .ge 7, 3) := by decide +kernel
theorem dL_isTable_179 : decode cL_isTable 179 = .ok (.iconst 1, 1) := by decide +kernel
theorem dL_isTable_180 : decode cL_isTable 180 = .ok (.goto 4, 3) := by decide +kernel
theorem dL_isTable_183 : decode cL_isTable 183 = .ok (.iconst 0, 1) := by decide +kernel
theorem dL_isTable_184 : decode cL_isTable 184 = .ok (.istore 10, 2) := by decide +kernel
theorem dL_isTable_186 : decode cL_isTable 186 = .ok (.iload 5, 2) := by decide +kernel
theorem dL_isTable_188 : decode cL_isTable 188 = .ok (.iload 10, 2) := by decide +kernel
theorem dL_isTable_190 : decode cL_isTable 190 = .ok (.ifCond .eq 7, 3) := by decide +kernel
theorem dL_isTable_193 : decode cL_isTable 193 = .ok (.iconst 1, 1) := by decide +kernel
theorem dL_isTable_194 : decode cL_isTable 194 = .ok (.goto 4, 3) := by decide +kernel
theorem dL_isTable_197 : decode cL_isTable 197 = .ok (.iconst 0, 1) := by decide +kernel
theorem dL_isTable_198 : decode cL_isTable 198 = .ok (.iadd, 1) := by decide +kernel
theorem dL_isTable_199 : decode cL_isTable 199 = .ok (.istore 5, 2) := by decide +kernel
theorem dL_isTable_201 : decode cL_isTable 201 = .ok (.iinc 6 1, 3) := by decide +kernel
theorem dL_isTable_204 : decode cL_isTable 204 = .ok (.goto (-126), 3) := by decide +kernel
theorem dL_isTable_207 : decode cL_isTable 207 = .ok (.aload_n 0, 1) := by decide +kernel
theorem dL_isTable_208 : decode cL_isTable 208 = .ok (.iload 4, 2) := by decide +kernel
theorem dL_isTable_210 : decode cL_isTable 210 = .ok (.invokevirtual 67, 3) := by decide +kernel
theorem dL_isTable_213 : decode cL_isTable 213 = .ok (.aload_n 1, 1) := by decide +kernel
theorem dL_isTable_214 : decode cL_isTable 214 = .ok (.iconst 3, 1) := by decide +kernel
theorem dL_isTable_215 : decode cL_isTable 215 = .ok (.iload 4, 2) := by decide +kernel
theorem dL_isTable_217 : decode cL_isTable 217 = .ok (.imul, 1) := by decide +kernel
theorem dL_isTable_218 : decode cL_isTable 218 = .ok (.iaload, 1) := by decide +kernel
theorem dL_isTable_219 : decode cL_isTable 219 = .ok (.if_icmp .ne 52, 3) := by decide +kernel
theorem dL_isTable_222 : decode cL_isTable 222 = .ok (.aload_n 0, 1) := by decide +kernel
theorem dL_isTable_223 : decode cL_isTable 223 = .ok (.iload 4, 2) := by decide +kernel
theorem dL_isTable_225 : decode cL_isTable 225 = .ok (.invokevirtual 70, 3) := by decide +kernel
theorem dL_isTable_228 : decode cL_isTable 228 = .ok (.aload_n 1, 1) := by decide +kernel
theorem dL_isTable_229 : decode cL_isTable 229 = .ok (.iconst 3, 1) := by decide +kernel
theorem dL_isTable_230 : decode cL_isTable 230 = .ok (.iload 4, 2) := by decide +kernel
theorem dL_isTable_232 : decode cL_isTable 232 = .ok (.imul, 1) := by decide +kernel
theorem dL_isTable_233 : decode cL_isTable 233 = .ok (.iconst 1, 1) := by decide +kernel
theorem dL_isTable_234 : decode cL_isTable 234 = .ok (.iadd, 1) := by decide +kernel
theorem dL_isTable_235 : decode cL_isTable 235 = .ok (.iaload, 1) := by decide +kernel
theorem dL_isTable_236 : decode cL_isTable 236 = .ok (.if_icmp .ne 35, 3) := by decide +kernel
theorem dL_isTable_239 : decode cL_isTable 239 = .ok (.aload_n 0, 1) := by decide +kernel
theorem dL_isTable_240 : decode cL_isTable 240 = .ok (.iload 4, 2) := by decide +kernel
theorem dL_isTable_242 : decode cL_isTable 242 = .ok (.invokevirtual 73, 3) := by decide +kernel
theorem dL_isTable_245 : decode cL_isTable 245 = .ok (.aload_n 1, 1) := by decide +kernel
theorem dL_isTable_246 : decode cL_isTable 246 = .ok (.iconst 3, 1) := by decide +kernel
theorem dL_isTable_247 : decode cL_isTable 247 = .ok (.iload 4, 2) := by decide +kernel
theorem dL_isTable_249 : decode cL_isTable 249 = .ok (.imul, 1) := by decide +kernel
theorem dL_isTable_250 : decode cL_isTable 250 = .ok (.iconst 2, 1) := by decide +kernel
theorem dL_isTable_251 : decode cL_isTable 251 = .ok (.iadd, 1) := by decide +kernel
theorem dL_isTable_252 : decode cL_isTable 252 = .ok (.iaload, 1) := by decide +kernel
theorem dL_isTable_253 : decode cL_isTable 253 = .ok (.if_icmp .ne 18, 3) := by decide +kernel
theorem dL_isTable_256 : decode cL_isTable 256 = .ok (.aload_n 0, 1) := by decide +kernel
theorem dL_isTable_257 : decode cL_isTable 257 = .ok (.iload 4, 2) := by decide +kernel
theorem dL_isTable_259 : decode cL_isTable 259 = .ok (.invokevirtual 76, 3) := by decide +kernel
theorem dL_isTable_262 : decode cL_isTable 262 = .ok (.iload 5, 2) := by decide +kernel
theorem dL_isTable_264 : decode cL_isTable 264 = .ok (.if_icmp .ne 7, 3) := by decide +kernel
theorem dL_isTable_267 : decode cL_isTable 267 = .ok (.iconst 1, 1) := by decide +kernel
theorem dL_isTable_268 : decode cL_isTable 268 = .ok (.goto 4, 3) := by decide +kernel
theorem dL_isTable_271 : decode cL_isTable 271 = .ok (.iconst 0, 1) := by decide +kernel
theorem dL_isTable_272 : decode cL_isTable 272 = .ok (.istore_n 3, 1) := by decide +kernel
theorem dL_isTable_273 : decode cL_isTable 273 = .ok (.iinc 4 1, 3) := by decide +kernel
theorem dL_isTable_276 : decode cL_isTable 276 = .ok (.goto (-215), 3) := by decide +kernel
theorem dL_isTable_279 : decode cL_isTable 279 = .ok (.iload_n 3, 1) := by decide +kernel
theorem dL_isTable_280 : decode cL_isTable 280 = .ok (.ireturn, 1) := by decide +kernel
set_option maxRecDepth 20000 in
theorem ggL_isRound_X5_tick : GoodIn wsL_isRound wsX5_tick := goodIn_r _ [5, 6, 7, 8, 9, 10, 11, 12, 133, 134, 135, 136, 137, 138, 139, 140, 141, 142, 143, 144] (by decide +kernel) (by decide +kernel)
set_option maxRecDepth 20000 in
theorem gL_isRound_X5_tick : GoodIn wsL_isRound (wsV RL 90 RX5 yX5_tick wsX5_tick) := goodIn_app (goodIn_of _ (by decide +kernel)) ggL_isRound_X5_tick
set_option maxRecDepth 20000 in
theorem ggL_isRound_X5_flying : GoodIn wsL_isRound wsX5_flying := goodIn_r _ [16, 6, 17, 18, 19, 10, 20, 21, 22, 23, 12, 133, 134, 135, 136, 137, 138, 139, 140, 141, 142, 143, 144, 145, 146, 147, 148, 149] (by decide +kernel) (by decide +kernel)
set_option maxRecDepth 20000 in
theorem gL_isRound_X5_flying : GoodIn wsL_isRound (wsV RL 93 RX5 yX5_flying wsX5_flying) := goodIn_app (goodIn_of _ (by decide +kernel)) ggL_isRound_X5_flying
set_option maxRecDepth 20000 in
theorem ggL_isRound_L_asks : GoodIn wsL_isRound wsL_asks := goodIn_ca (goodIn_r _ [27, 28, 29, 30, 31, 4, 32, 33, 34, 35, 36, 37, 38, 39, 40, 41, 42, 43, 44, 45, 46, 47, 48, 49, 50, 51, 52, 53, 54, 55, 56, 57, 58, 59, 60, 61, 62, 63, 64, 65, 66, 67, 68, 69, 70, 6, 71, 72, 73, 74, 75, 76, 10, 77, 78, 79, 80, 81, 82, 83, 84, 85, 86, 87, 88, 89, 90, 91, 92, 93, 94, 95, 96, 97, 98, 99, 100, 101, 102, 103, 104, 105, 106, 107, 108, 109, 110, 111, 112, 113, 114, 115, 116, 117, 118, 119, 120, 121, 122, 123, 124, 125, 126, 127, 128, 129, 130, 131, 132, 133, 134, 135, 136, 150, 137, 138, 139, 140, 141, 142, 143, 144, 151, 152, 153, 154] (by decide +kernel) (by decide +kernel)) (goodIn_sub (fun _ h => List.mem_cons_of_mem _ (List.mem_append_right _ h)) (by decide +kernel))
set_option maxRecDepth 20000 in
theorem gL_isRound_L_asks : GoodIn wsL_isRound (va_wsS RL 86 yL_asks wsL_asks) := goodIn_app (goodIn_of _ (by decide +kernel)) ggL_isRound_L_asks
set_option maxRecDepth 20000 in
theorem ggL_isRound_X5_hit : GoodIn wsL_isRound wsX5_hit := goodIn_ca (goodIn_r _ [82, 6, 71, 72, 4, 73, 37, 38, 83, 84, 85, 10, 86, 87, 133, 134, 135, 136, 137, 138, 139, 140, 141, 142, 143, 144] (by decide +kernel) (by decide +kernel)) (goodIn_sub (fun _ h => List.mem_cons_of_mem _ (List.mem_append_right _ h)) (by decide +kernel))
set_option maxRecDepth 20000 in
theorem gL_isRound_X5_hit : GoodIn wsL_isRound (wsV RL 64 RX5 yX5_hit wsX5_hit) := goodIn_app (goodIn_of _ (by decide +kernel)) ggL_isRound_X5_hit
set_option maxRecDepth 20000 in
theorem ggL_isRound_X5_where : GoodIn wsL_isRound wsX5_where := goodIn_ca (goodIn_r _ [70, 6, 71, 72, 4, 73, 37, 38, 74, 75, 76, 10, 77, 78, 133, 134, 135, 136, 137, 138, 139, 140, 141, 142, 143, 144] (by decide +kernel) (by decide +kernel)) (goodIn_sub (fun _ h => List.mem_cons_of_mem _ (List.mem_append_right _ h)) (by decide +kernel))
set_option maxRecDepth 20000 in
theorem gL_isRound_X5_where : GoodIn wsL_isRound (wsV RL 61 RX5 yX5_where wsX5_where) := goodIn_app (goodIn_of _ (by decide +kernel)) ggL_isRound_X5_where
end
section
theorem dL_isRound_0 : decode cL_isRound 0 = .ok (.aload_n 1, 1) := by decide +kernel
theorem dL_isRound_1 : decode cL_isRound 1 = .ok (.bipush 14, 2) := by decide +kernel
theorem dL_isRound_3 : decode cL_isRound 3 = .ok (.iaload, 1) := by decide +kernel
theorem dL_isRound_4 : decode cL_isRound 4 = .ok (.ifCond .lt 7, 3) := by decide +kernel
theorem dL_isRound_7 : decode cL_isRound 7 = .ok (.iconst 1, 1) := by decide +kernel
theorem dL_isRound_8 : decode cL_isRound 8 = .ok (.goto 4, 3) := by decide +kernel
theorem dL_isRound_11 : decode cL_isRound 11 = .ok (.iconst 0, 1) := by decide +kernel
theorem dL_isRound_12 : decode cL_isRound 12 = .ok (.istore_n 3, 1) := by decide +kernel
theorem dL_isRound_13 : decode cL_isRound 13 = .ok (.aload_n 0, 1) := by decide +kernel
theorem dL_isRound_14 : decode cL_isRound 14 = .ok (.invokevirtual 90, 3) := by decide +kernel
theorem dL_isRound_17 : decode cL_isRound 17 = .ok (.aload_n 1, 1) := by decide +kernel
theorem dL_isRound_18 : decode cL_isRound 18 = .ok (.bipush 14, 2) := by decide +kernel
theorem dL_isRound_20 : decode cL_isRound 20 = .ok (.iaload, 1) := by decide +kernel
theorem dL_isRound_21 : decode cL_isRound 21 = .ok (.if_icmp .ne 58, 3) := by decide +kernel
theorem dL_isRound_24 : decode cL_isRound 24 = .ok (.aload_n 0, 1) := by decide +kernel
theorem dL_isRound_25 : decode cL_isRound 25 = .ok (.invokevirtual 93, 3) := by decide +kernel
theorem dL_isRound_28 : decode cL_isRound 28 = .ok (.ifCond .lt 51, 3) := by decide +kernel
theorem dL_isRound_31 : decode cL_isRound 31 = .ok (.aload_n 0, 1) := by decide +kernel
theorem dL_isRound_32 : decode cL_isRound 32 = .ok (.invokevirtual 93, 3) := by decide +kernel
theorem dL_isRound_35 : decode cL_isRound 35 = .ok (.iload_n 3, 1) := by decide +kernel
theorem dL_isRound_36 : decode cL_isRound 36 = .ok (.ifCond .eq 10, 3) := by decide +kernel
theorem dL_isRound_39 : decode cL_isRound 39 = .ok (.aload_n 1, 1) := by decide +kernel
theorem dL_isRound_40 : decode cL_isRound 40 = .ok (.bipush 15, 2) := by decide +kernel
theorem dL_isRound_42 : decode cL_isRound 42 = .ok (.iaload, 1) := by decide +kernel
theorem dL_isRound_43 : decode cL_isRound 43 = .ok (.goto 4, 3) := by decide +kernel
theorem dL_isRound_46 : decode cL_isRound 46 = .ok (.iconst 0, 1) := by decide +kernel
theorem dL_isRound_47 : decode cL_isRound 47 = .ok (.if_icmp .gt 32, 3) := by decide +kernel
theorem dL_isRound_50 : decode cL_isRound 50 = .ok (.aload_n 0, 1) := by decide +kernel
theorem dL_isRound_51 : decode cL_isRound 51 = .ok (.iconst 2, 1) := by decide +kernel
theorem dL_isRound_52 : decode cL_isRound 52 = .ok (.bipush 6, 2) := by decide +kernel
theorem dL_isRound_54 : decode cL_isRound 54 = .ok (.iconst 0, 1) := by decide +kernel
theorem dL_isRound_55 : decode cL_isRound 55 = .ok (.invokestatic 86, 3) := by decide +kernel
theorem dL_isRound_58 : decode cL_isRound 58 = .ok (.bipush (-30), 2) := by decide +kernel
theorem dL_isRound_60 : decode cL_isRound 60 = .ok (.if_icmp .ne 19, 3) := by decide +kernel
theorem dL_isRound_63 : decode cL_isRound 63 = .ok (.aload_n 0, 1) := by decide +kernel
theorem dL_isRound_64 : decode cL_isRound 64 = .ok (.iconst 3, 1) := by decide +kernel
theorem dL_isRound_65 : decode cL_isRound 65 = .ok (.iconst (-1), 1) := by decide +kernel
theorem dL_isRound_66 : decode cL_isRound 66 = .ok (.iconst 0, 1) := by decide +kernel
theorem dL_isRound_67 : decode cL_isRound 67 = .ok (.invokestatic 86, 3) := by decide +kernel
theorem dL_isRound_70 : decode cL_isRound 70 = .ok (.bipush (-30), 2) := by decide +kernel
theorem dL_isRound_72 : decode cL_isRound 72 = .ok (.if_icmp .ne 7, 3) := by decide +kernel
theorem dL_isRound_75 : decode cL_isRound 75 = .ok (.iconst 1, 1) := by decide +kernel
theorem dL_isRound_76 : decode cL_isRound 76 = .ok (.goto 4, 3) := by decide +kernel
theorem dL_isRound_79 : decode cL_isRound 79 = .ok (.iconst 0, 1) := by decide +kernel
theorem dL_isRound_80 : decode cL_isRound 80 = .ok (.istore 4, 2) := by decide +kernel
theorem dL_isRound_82 : decode cL_isRound 82 = .ok (.iconst 0, 1) := by decide +kernel
theorem dL_isRound_83 : decode cL_isRound 83 = .ok (.istore 5, 2) := by decide +kernel
theorem dL_isRound_85 : decode cL_isRound 85 = .ok (.iload 5, 2) := by decide +kernel
theorem dL_isRound_87 : decode cL_isRound 87 = .ok (.bipush 6, 2) := by decide +kernel
theorem dL_isRound_89 : decode cL_isRound 89 = .ok (.if_icmp .ge 115, 3) := by decide +kernel
theorem dL_isRound_92 : decode cL_isRound 92 = .ok (.iload 4, 2) := by decide +kernel
theorem dL_isRound_94 : decode cL_isRound 94 = .ok (.ifCond .eq 110, 3) := by decide +kernel
theorem dL_isRound_97 : decode cL_isRound 97 = .ok (.aload_n 0, 1) := by decide +kernel
theorem dL_isRound_98 : decode cL_isRound 98 = .ok (.iload 5, 2) := by decide +kernel
theorem dL_isRound_100 : decode cL_isRound 100 = .ok (.invokevirtual 64, 3) := by decide +kernel
theorem dL_isRound_103 : decode cL_isRound 103 = .ok (.istore 6, 2) := by decide +kernel
theorem dL_isRound_105 : decode cL_isRound 105 = .ok (.aload_n 0, 1) := by decide +kernel
theorem dL_isRound_106 : decode cL_isRound 106 = .ok (.iload 5, 2) := by decide +kernel
theorem dL_isRound_108 : decode cL_isRound 108 = .ok (.invokevirtual 61, 3) := by decide +kernel
theorem dL_isRound_111 : decode cL_isRound 111 = .ok (.iload_n 3, 1) := by decide +kernel
theorem dL_isRound_112 : decode cL_isRound 112 = .ok (.ifCond .eq 10, 3) := by decide +kernel
theorem dL_isRound_115 : decode cL_isRound 115 = .ok (.aload_n 2, 1) := by decide +kernel
theorem dL_isRound_116 : decode cL_isRound 116 = .ok (.iload 5, 2) := by decide +kernel
theorem dL_isRound_118 : decode cL_isRound 118 = .ok (.iaload, 1) := by decide +kernel
theorem dL_isRound_119 : decode cL_isRound 119 = .ok (.goto 5, 3) := by decide +kernel
theorem dL_isRound_122 : decode cL_isRound 122 = .ok (.bipush (-2), 2) := by decide +kernel
theorem dL_isRound_124 : decode cL_isRound 124 = .ok (.if_icmp .ne 62, 3) := by decide +kernel
theorem dL_isRound_127 : decode cL_isRound 127 = .ok (.iload 6, 2) := by decide +kernel
theorem dL_isRound_129 : decode cL_isRound 129 = .ok (.iconst (-1), 1) := by decide +kernel
theorem dL_isRound_130 : decode cL_isRound 130 = .ok (.if_icmp .lt 56, 3) := by decide +kernel
theorem dL_isRound_133 : decode cL_isRound 133 = .ok (.iload 6, 2) := by decide +kernel
theorem dL_isRound_135 : decode cL_isRound 135 = .ok (.aload_n 1, 1) := by decide +kernel
theorem dL_isRound_136 : decode cL_isRound 136 = .ok (.bipush 14, 2) := by decide +kernel
theorem dL_isRound_138 : decode cL_isRound 138 = .ok (.iaload, 1) := by decide +kernel
theorem dL_isRound_139 : decode cL_isRound 139 = .ok (.if_icmp .gt 47, 3) := by decide +kernel
theorem dL_isRound_142 : decode cL_isRound 142 = .ok (.iload 6, 2) := by decide +kernel
theorem dL_isRound_144 : decode cL_isRound 144 = .ok (.ifCond .eq 42, 3) := by decide +kernel
theorem dL_isRound_147 : decode cL_isRound 147 = .ok (.iload_n 3, 1) := by decide +kernel
theorem dL_isRound_148 : decode cL_isRound 148 = .ok (.ifCond .eq 28, 3) := by decide +kernel
theorem dL_isRound_151 : decode cL_isRound 151 = .ok (.aload_n 2, 1) := by decide +kernel
theorem dL_isRound_152 : decode cL_isRound 152 = .ok (.bipush 6, 2) := by decide +kernel
theorem dL_isRound_154 : decode cL_isRound 154 = .ok (.iload 5, 2) := by decide +kernel
theorem dL_isRound_156 : decode cL_isRound 156 = .ok (.iadd, 1) := by decide +kernel
theorem dL_isRound_157 : decode cL_isRound 157 = .ok (.iaload, 1) := by decide +kernel
theorem dL_isRound_158 : decode cL_isRound 158 = .ok (.ifCond .lt 24, 3) := by decide +kernel
theorem dL_isRound_161 : decode cL_isRound 161 = .ok (.iload 6, 2) := by decide +kernel
theorem dL_isRound_163 : decode cL_isRound 163 = .ok (.aload_n 2, 1) := by decide +kernel
theorem dL_isRound_164 : decode cL_isRound 164 = .ok (.bipush 6, 2) := by decide +kernel
theorem dL_isRound_166 : decode cL_isRound 166 = .ok (.iload 5, 2) := by decide +kernel
theorem dL_isRound_168 : decode cL_isRound 168 = .ok (.iadd, 1) := by decide +kernel
theorem dL_isRound_169 : decode cL_isRound 169 = .ok (.iaload, 1) := by decide +kernel
theorem dL_isRound_170 : decode cL_isRound 170 = .ok (.if_icmp .ne 16, 3) := by decide +kernel
theorem dL_isRound_173 : decode cL_isRound 173 = .ok (.goto 9, 3) := by decide +kernel
theorem dL_isRound_176 : decode cL_isRound 176 = .ok (.iload 6, 2) := by decide +kernel
theorem dL_isRound_178 : decode cL_isRound 178 = .ok (.iconst (-1), 1) := by decide +kernel
theorem dL_isRound_179 : decode cL_isRound 179 = .ok (.if_icmp .ne 7, 3) := by decide +kernel
theorem dL_isRound_182 : decode cL_isRound 182 = .ok (.iconst 1, 1) := by decide +kernel
theorem dL_isRound_183 : decode cL_isRound 183 = .ok (.goto 4, 3) := by decide +kernel
theorem dL_isRound_186 : decode cL_isRound 186 = .ok (.iconst 0, 1) := by decide +kernel
theorem dL_isRound_187 : decode cL_isRound 187 = .ok (.istore 4, 2) := by decide +kernel
theorem dL_isRound_189 : decode cL_isRound 189 = .ok (.aload_n 2, 1) := by decide +kernel
theorem dL_isRound_190 : decode cL_isRound 190 = .ok (.bipush 6, 2) := by decide +kernel
theorem dL_isRound_192 : decode cL_isRound 192 = .ok (.iload 5, 2) := by decide +kernel
theorem dL_isRound_194 : decode cL_isRound 194 = .ok (.iadd, 1) := by decide +kernel
theorem dL_isRound_195 : decode cL_isRound 195 = .ok (.iload 6, 2) := by decide +kernel
theorem dL_isRound_197 : decode cL_isRound 197 = .ok (.iastore, 1) := by decide +kernel
theorem dL_isRound_198 : decode cL_isRound 198 = .ok (.iinc 5 1, 3) := by decide +kernel
theorem dL_isRound_201 : decode cL_isRound 201 = .ok (.goto (-116), 3) := by decide +kernel
theorem dL_isRound_204 : decode cL_isRound 204 = .ok (.iload 4, 2) := by decide +kernel
theorem dL_isRound_206 : decode cL_isRound 206 = .ok (.ireturn, 1) := by decide +kernel
set_option maxRecDepth 20000 in
theorem ggL_isFree_L_isBunker : GoodIn wsL_isFree wsL_isBunker := goodIn_r _ [4] (by decide +kernel) (by decide +kernel)
set_option maxRecDepth 20000 in
theorem gL_isFree_L_isBunker : GoodIn wsL_isFree (va_wsS RL 79 yL_isBunker wsL_isBunker) := goodIn_app (goodIn_of _ (by decide +kernel)) ggL_isFree_L_isBunker
theorem dL_isFree_0 : decode cL_isFree 0 = .ok (.aload_n 0, 1) := by decide +kernel
theorem dL_isFree_1 : decode cL_isFree 1 = .ok (.iload_n 2, 1) := by decide +kernel
theorem dL_isFree_2 : decode cL_isFree 2 = .ok (.invokestatic 79, 3) := by decide +kernel
theorem dL_isFree_5 : decode cL_isFree 5 = .ok (.ifCond .ne 7, 3) := by decide +kernel
theorem dL_isFree_8 : decode cL_isFree 8 = .ok (.iconst 1, 1) := by decide +kernel
theorem dL_isFree_9 : decode cL_isFree 9 = .ok (.goto 4, 3) := by decide +kernel
theorem dL_isFree_12 : decode cL_isFree 12 = .ok (.iconst 0, 1) := by decide +kernel
theorem dL_isFree_13 : decode cL_isFree 13 = .ok (.istore_n 3, 1) := by decide +kernel
theorem dL_isFree_14 : decode cL_isFree 14 = .ok (.iconst 0, 1) := by decide +kernel
theorem dL_isFree_15 : decode cL_isFree 15 = .ok (.istore 4, 2) := by decide +kernel
theorem dL_isFree_17 : decode cL_isFree 17 = .ok (.iload 4, 2) := by decide +kernel
theorem dL_isFree_19 : decode cL_isFree 19 = .ok (.bipush 6, 2) := by decide +kernel
theorem dL_isFree_21 : decode cL_isFree 21 = .ok (.if_icmp .ge 27, 3) := by decide +kernel
theorem dL_isFree_24 : decode cL_isFree 24 = .ok (.iload_n 3, 1) := by decide +kernel
theorem dL_isFree_25 : decode cL_isFree 25 = .ok (.ifCond .eq 15, 3) := by decide +kernel
theorem dL_isFree_28 : decode cL_isFree 28 = .ok (.aload_n 1, 1) := by decide +kernel
theorem dL_isFree_29 : decode cL_isFree 29 = .ok (.iload 4, 2) := by decide +kernel
theorem dL_isFree_31 : decode cL_isFree 31 = .ok (.iaload, 1) := by decide +kernel
theorem dL_isFree_32 : decode cL_isFree 32 = .ok (.iload_n 2, 1) := by decide +kernel
theorem dL_isFree_33 : decode cL_isFree 33 = .ok (.if_icmp .eq 7, 3) := by decide +kernel
theorem dL_isFree_36 : decode cL_isFree 36 = .ok (.iconst 1, 1) := by decide +kernel
theorem dL_isFree_37 : decode cL_isFree 37 = .ok (.goto 4, 3) := by decide +kernel
theorem dL_isFree_40 : decode cL_isFree 40 = .ok (.iconst 0, 1) := by decide +kernel
theorem dL_isFree_41 : decode cL_isFree 41 = .ok (.istore_n 3, 1) := by decide +kernel
theorem dL_isFree_42 : decode cL_isFree 42 = .ok (.iinc 4 1, 3) := by decide +kernel
theorem dL_isFree_45 : decode cL_isFree 45 = .ok (.goto (-28), 3) := by decide +kernel
theorem dL_isFree_48 : decode cL_isFree 48 = .ok (.iload_n 3, 1) := by decide +kernel
theorem dL_isFree_49 : decode cL_isFree 49 = .ok (.ireturn, 1) := by decide +kernel
set_option maxRecDepth 20000 in
theorem ggL_isMove_L_apart : GoodIn wsL_isMove wsL_apart := goodIn_r _ [4] (by decide +kernel) (by decide +kernel)
set_option maxRecDepth 20000 in
theorem gL_isMove_L_apart : GoodIn wsL_isMove (va_wsS RL 83 yL_apart wsL_apart) := goodIn_app (goodIn_of _ (by decide +kernel)) ggL_isMove_L_apart
set_option maxRecDepth 20000 in
theorem ggL_isMove_L_isFree : GoodIn wsL_isMove wsL_isFree := goodIn_r _ [7, 8, 9, 3, 10] (by decide +kernel) (by decide +kernel)
set_option maxRecDepth 20000 in
theorem gL_isMove_L_isFree : GoodIn wsL_isMove (va_wsS RL 96 yL_isFree wsL_isFree) := goodIn_app (goodIn_of _ (by decide +kernel)) ggL_isMove_L_isFree
set_option maxRecDepth 20000 in
theorem ggL_isMove_L_does : GoodIn wsL_isMove wsL_does := goodIn_ca (goodIn_ca (goodIn_ca (goodIn_r _ [13, 14, 15, 16, 17, 18, 19, 20, 21, 22, 23, 24, 25, 26, 27, 28, 29, 30, 31, 32, 33, 34, 35, 36, 37, 38, 39, 40, 41, 42, 43, 44, 45, 46, 47, 48, 49, 50, 51, 52, 3, 53, 54, 55, 56, 57, 58, 59, 60, 61, 62, 63, 64, 65, 66, 67, 68, 69, 70, 71, 72, 73, 74, 75, 76, 77, 78, 79, 80, 81, 82, 83, 84, 85, 86, 87, 88, 89, 90, 91, 92, 93, 94, 95, 96, 97, 98, 99, 100, 101, 102, 103, 104, 105, 106, 107, 108, 109, 110, 111, 112, 113, 114, 115, 116, 117, 118, 119, 120, 121, 122, 123, 124, 125, 126, 127, 128, 129, 130, 131, 132, 133, 134, 135, 136, 137, 138, 139, 140, 141, 142, 143, 144, 145, 146, 147, 148, 149, 150, 151, 152, 153, 154, 155, 156, 157, 158, 159, 160, 161, 162, 163, 164, 165, 166, 167, 168, 169, 170, 171, 172, 173, 174, 175, 176, 177, 178, 179, 180, 181, 182, 183, 184, 185, 186, 187, 188, 189, 190, 191, 192, 193, 194, 195, 196, 197, 198, 199, 200, 201, 202, 203, 204, 205, 206, 207, 208, 209, 210, 211, 212, 213, 214, 215, 216, 217, 218, 219, 220, 221, 222, 223, 224, 225, 226, 227, 228, 229, 230, 231, 232, 233, 234, 235, 236, 237, 238, 239, 240, 241, 242, 243, 244, 245, 246, 247, 248, 249, 250, 251, 252, 253, 254, 255, 256, 257, 258, 259, 260, 261, 262, 263, 264, 265, 266, 267, 268, 269, 270, 271, 272, 273, 274, 275, 276, 277, 278, 279, 280, 281, 282] (by decide +kernel) (by decide +kernel)) (goodIn_sub (fun _ h => List.mem_cons_of_mem _ (List.mem_append_left _ (List.mem_append_left _ (List.mem_append_right _ h)))) (by decide +kernel))) (goodIn_sub (fun _ h => List.mem_cons_of_mem _ (List.mem_append_left _ (List.mem_append_right _ h))) (by decide +kernel))) (goodIn_sub (fun _ h => List.mem_cons_of_mem _ (List.mem_append_right _ h)) (by decide +kernel))
set_option maxRecDepth 20000 in
theorem gL_isMove_L_does : GoodIn wsL_isMove (va_wsS RL 100 yL_does wsL_does) := goodIn_app (goodIn_of _ (by decide +kernel)) ggL_isMove_L_does
theorem dL_isMove_0 : decode cL_isMove 0 = .ok (.iload_n 3, 1) := by decide +kernel
theorem dL_isMove_1 : decode cL_isMove 1 = .ok (.bipush 6, 2) := by decide +kernel
theorem dL_isMove_3 : decode cL_isMove 3 = .ok (.if_icmp .ge 15, 3) := by decide +kernel
theorem dL_isMove_6 : decode cL_isMove 6 = .ok (.iload 4, 2) := by decide +kernel
theorem dL_isMove_8 : decode cL_isMove 8 = .ok (.sipush 144, 3) := by decide +kernel
theorem dL_isMove_11 : decode cL_isMove 11 = .ok (.if_icmp .ge 7, 3) := by decide +kernel
theorem dL_isMove_14 : decode cL_isMove 14 = .ok (.iconst 1, 1) := by decide +kernel
theorem dL_isMove_15 : decode cL_isMove 15 = .ok (.goto 4, 3) := by decide +kernel
theorem dL_isMove_18 : decode cL_isMove 18 = .ok (.iconst 0, 1) := by decide +kernel
theorem dL_isMove_19 : decode cL_isMove 19 = .ok (.istore 5, 2) := by decide +kernel
theorem dL_isMove_21 : decode cL_isMove 21 = .ok (.iload 5, 2) := by decide +kernel
theorem dL_isMove_23 : decode cL_isMove 23 = .ok (.ifCond .eq 51, 3) := by decide +kernel
theorem dL_isMove_26 : decode cL_isMove 26 = .ok (.aload_n 1, 1) := by decide +kernel
theorem dL_isMove_27 : decode cL_isMove 27 = .ok (.bipush 14, 2) := by decide +kernel
theorem dL_isMove_29 : decode cL_isMove 29 = .ok (.iaload, 1) := by decide +kernel
theorem dL_isMove_30 : decode cL_isMove 30 = .ok (.ifCond .lt 44, 3) := by decide +kernel
theorem dL_isMove_33 : decode cL_isMove 33 = .ok (.aload_n 2, 1) := by decide +kernel
theorem dL_isMove_34 : decode cL_isMove 34 = .ok (.iload_n 3, 1) := by decide +kernel
theorem dL_isMove_35 : decode cL_isMove 35 = .ok (.iaload, 1) := by decide +kernel
theorem dL_isMove_36 : decode cL_isMove 36 = .ok (.bipush (-2), 2) := by decide +kernel
theorem dL_isMove_38 : decode cL_isMove 38 = .ok (.if_icmp .le 36, 3) := by decide +kernel
theorem dL_isMove_41 : decode cL_isMove 41 = .ok (.aload_n 2, 1) := by decide +kernel
theorem dL_isMove_42 : decode cL_isMove 42 = .ok (.iload_n 3, 1) := by decide +kernel
theorem dL_isMove_43 : decode cL_isMove 43 = .ok (.iaload, 1) := by decide +kernel
theorem dL_isMove_44 : decode cL_isMove 44 = .ok (.iconst (-1), 1) := by decide +kernel
theorem dL_isMove_45 : decode cL_isMove 45 = .ok (.if_icmp .eq 15, 3) := by decide +kernel
theorem dL_isMove_48 : decode cL_isMove 48 = .ok (.aload_n 2, 1) := by decide +kernel
theorem dL_isMove_49 : decode cL_isMove 49 = .ok (.iload_n 3, 1) := by decide +kernel
theorem dL_isMove_50 : decode cL_isMove 50 = .ok (.iaload, 1) := by decide +kernel
theorem dL_isMove_51 : decode cL_isMove 51 = .ok (.iload 4, 2) := by decide +kernel
theorem dL_isMove_53 : decode cL_isMove 53 = .ok (.invokestatic 83, 3) := by decide +kernel
theorem dL_isMove_56 : decode cL_isMove 56 = .ok (.iconst 1, 1) := by decide +kernel
theorem dL_isMove_57 : decode cL_isMove 57 = .ok (.if_icmp .ne 17, 3) := by decide +kernel
theorem dL_isMove_60 : decode cL_isMove 60 = .ok (.aload_n 1, 1) := by decide +kernel
theorem dL_isMove_61 : decode cL_isMove 61 = .ok (.aload_n 2, 1) := by decide +kernel
theorem dL_isMove_62 : decode cL_isMove 62 = .ok (.iload 4, 2) := by decide +kernel
theorem dL_isMove_64 : decode cL_isMove 64 = .ok (.invokestatic 96, 3) := by decide +kernel
theorem dL_isMove_67 : decode cL_isMove 67 = .ok (.ifCond .eq 7, 3) := by decide +kernel
theorem dL_isMove_70 : decode cL_isMove 70 = .ok (.iconst 1, 1) := by decide +kernel
theorem dL_isMove_71 : decode cL_isMove 71 = .ok (.goto 4, 3) := by decide +kernel
theorem dL_isMove_74 : decode cL_isMove 74 = .ok (.iconst 0, 1) := by decide +kernel
theorem dL_isMove_75 : decode cL_isMove 75 = .ok (.istore 6, 2) := by decide +kernel
theorem dL_isMove_77 : decode cL_isMove 77 = .ok (.iload 5, 2) := by decide +kernel
theorem dL_isMove_79 : decode cL_isMove 79 = .ok (.ifCond .ne 8, 3) := by decide +kernel
theorem dL_isMove_82 : decode cL_isMove 82 = .ok (.bipush (-30), 2) := by decide +kernel
theorem dL_isMove_84 : decode cL_isMove 84 = .ok (.goto 16, 3) := by decide +kernel
theorem dL_isMove_87 : decode cL_isMove 87 = .ok (.iload 6, 2) := by decide +kernel
theorem dL_isMove_89 : decode cL_isMove 89 = .ok (.ifCond .eq 9, 3) := by decide +kernel
theorem dL_isMove_92 : decode cL_isMove 92 = .ok (.aload_n 2, 1) := by decide +kernel
theorem dL_isMove_93 : decode cL_isMove 93 = .ok (.iload_n 3, 1) := by decide +kernel
theorem dL_isMove_94 : decode cL_isMove 94 = .ok (.iaload, 1) := by decide +kernel
theorem dL_isMove_95 : decode cL_isMove 95 = .ok (.goto 5, 3) := by decide +kernel
theorem dL_isMove_98 : decode cL_isMove 98 = .ok (.bipush (-10), 2) := by decide +kernel
theorem dL_isMove_100 : decode cL_isMove 100 = .ok (.istore 7, 2) := by decide +kernel
theorem dL_isMove_102 : decode cL_isMove 102 = .ok (.iload 6, 2) := by decide +kernel
theorem dL_isMove_104 : decode cL_isMove 104 = .ok (.ifCond .eq 8, 3) := by decide +kernel
theorem dL_isMove_107 : decode cL_isMove 107 = .ok (.aload_n 2, 1) := by decide +kernel
theorem dL_isMove_108 : decode cL_isMove 108 = .ok (.iload_n 3, 1) := by decide +kernel
theorem dL_isMove_109 : decode cL_isMove 109 = .ok (.iload 4, 2) := by decide +kernel
theorem dL_isMove_111 : decode cL_isMove 111 = .ok (.iastore, 1) := by decide +kernel
theorem dL_isMove_112 : decode cL_isMove 112 = .ok (.aload_n 0, 1) := by decide +kernel
theorem dL_isMove_113 : decode cL_isMove 113 = .ok (.iconst 3, 1) := by decide +kernel
theorem dL_isMove_114 : decode cL_isMove 114 = .ok (.iload_n 3, 1) := by decide +kernel
theorem dL_isMove_115 : decode cL_isMove 115 = .ok (.iload 4, 2) := by decide +kernel
theorem dL_isMove_117 : decode cL_isMove 117 = .ok (.invokestatic 100, 3) := by decide +kernel
theorem dL_isMove_120 : decode cL_isMove 120 = .ok (.iload 7, 2) := by decide +kernel
theorem dL_isMove_122 : decode cL_isMove 122 = .ok (.if_icmp .ne 7, 3) := by decide +kernel
theorem dL_isMove_125 : decode cL_isMove 125 = .ok (.iconst 1, 1) := by decide +kernel
theorem dL_isMove_126 : decode cL_isMove 126 = .ok (.goto 4, 3) := by decide +kernel
theorem dL_isMove_129 : decode cL_isMove 129 = .ok (.iconst 0, 1) := by decide +kernel
theorem dL_isMove_130 : decode cL_isMove 130 = .ok (.ireturn, 1) := by decide +kernel
set_option maxRecDepth 20000 in
theorem ggL_isShot_L_apart : GoodIn wsL_isShot wsL_apart := goodIn_r _ [4] (by decide +kernel) (by decide +kernel)
set_option maxRecDepth 20000 in
theorem gL_isShot_L_apart : GoodIn wsL_isShot (va_wsS RL 83 yL_apart wsL_apart) := goodIn_app (goodIn_of _ (by decide +kernel)) ggL_isShot_L_apart
set_option maxRecDepth 20000 in
theorem ggL_isShot_X5_flying : GoodIn wsL_isShot wsX5_flying := goodIn_r _ [9, 10, 11, 12, 13, 14, 15, 16, 17, 18, 19, 258, 259, 260, 261, 262, 263, 264, 265, 266, 267, 268, 269, 270, 271, 272, 273, 274] (by decide +kernel) (by decide +kernel)
set_option maxRecDepth 20000 in
theorem gL_isShot_X5_flying : GoodIn wsL_isShot (wsV RL 93 RX5 yX5_flying wsX5_flying) := goodIn_app (goodIn_of _ (by decide +kernel)) ggL_isShot_X5_flying
set_option maxRecDepth 20000 in
theorem ggL_isShot_L_does : GoodIn wsL_isShot wsL_does := goodIn_ca (goodIn_ca (goodIn_ca (goodIn_r _ [22, 23, 24, 25, 26, 27, 28, 8, 29, 30, 31, 10, 32, 33, 34, 35, 36, 37, 38, 39, 40, 14, 41, 19, 42, 43, 44, 45, 46, 47, 48, 49, 50, 51, 52, 53, 54, 55, 56, 57, 3, 58, 59, 60, 61, 62, 63, 64, 65, 66, 67, 68, 69, 70, 71, 72, 73, 74, 75, 76, 77, 78, 79, 80, 16, 17, 81, 82, 83, 84, 85, 86, 87, 88, 89, 90, 91, 92, 93, 94, 95, 96, 97, 98, 99, 100, 101, 102, 103, 104, 105, 106, 107, 108, 109, 110, 111, 112, 113, 114, 115, 116, 117, 118, 119, 120, 121, 122, 123, 124, 125, 126, 127, 128, 129, 130, 131, 132, 133, 134, 135, 136, 137, 138, 139, 140, 141, 142, 143, 144, 145, 146, 147, 148, 149, 150, 18, 151, 152, 153, 154, 155, 156, 157, 158, 159, 160, 161, 162, 163, 164, 165, 166, 167, 168, 169, 170, 171, 172, 173, 174, 175, 176, 177, 178, 179, 180, 181, 182, 183, 184, 185, 186, 187, 188, 189, 190, 191, 192, 193, 194, 195, 196, 197, 198, 199, 200, 201, 202, 203, 204, 205, 206, 207, 208, 209, 210, 211, 212, 213, 214, 215, 216, 217, 218, 219, 220, 221, 222, 223, 224, 225, 226, 227, 228, 229, 230, 231, 232, 233, 234, 235, 236, 237, 238, 239, 240, 241, 242, 243, 244, 245, 246, 247, 248, 249, 250, 251, 252, 253, 254, 255, 256, 257, 258, 259, 260, 261, 262, 263, 264, 265, 266, 267, 268, 269, 275, 270, 271, 272, 273, 274, 276, 277, 278, 279, 280, 281, 282, 283, 284] (by decide +kernel) (by decide +kernel)) (goodIn_sub (fun _ h => List.mem_cons_of_mem _ (List.mem_append_left _ (List.mem_append_left _ (List.mem_append_right _ h)))) (by decide +kernel))) (goodIn_sub (fun _ h => List.mem_cons_of_mem _ (List.mem_append_left _ (List.mem_append_right _ h))) (by decide +kernel))) (goodIn_sub (fun _ h => List.mem_cons_of_mem _ (List.mem_append_right _ h)) (by decide +kernel))
set_option maxRecDepth 20000 in
theorem gL_isShot_L_does : GoodIn wsL_isShot (va_wsS RL 100 yL_does wsL_does) := goodIn_app (goodIn_of _ (by decide +kernel)) ggL_isShot_L_does
theorem dL_isShot_0 : decode cL_isShot 0 = .ok (.iload_n 3, 1) := by decide +kernel
theorem dL_isShot_1 : decode cL_isShot 1 = .ok (.bipush 6, 2) := by decide +kernel
theorem dL_isShot_3 : decode cL_isShot 3 = .ok (.if_icmp .ge 15, 3) := by decide +kernel
theorem dL_isShot_6 : decode cL_isShot 6 = .ok (.iload 4, 2) := by decide +kernel
theorem dL_isShot_8 : decode cL_isShot 8 = .ok (.sipush 144, 3) := by decide +kernel
theorem dL_isShot_11 : decode cL_isShot 11 = .ok (.if_icmp .ge 7, 3) := by decide +kernel
theorem dL_isShot_14 : decode cL_isShot 14 = .ok (.iconst 1, 1) := by decide +kernel
theorem dL_isShot_15 : decode cL_isShot 15 = .ok (.goto 4, 3) := by decide +kernel
theorem dL_isShot_18 : decode cL_isShot 18 = .ok (.iconst 0, 1) := by decide +kernel
theorem dL_isShot_19 : decode cL_isShot 19 = .ok (.istore 5, 2) := by decide +kernel
theorem dL_isShot_21 : decode cL_isShot 21 = .ok (.iload 5, 2) := by decide +kernel
theorem dL_isShot_23 : decode cL_isShot 23 = .ok (.ifCond .eq 50, 3) := by decide +kernel
theorem dL_isShot_26 : decode cL_isShot 26 = .ok (.aload_n 1, 1) := by decide +kernel
theorem dL_isShot_27 : decode cL_isShot 27 = .ok (.bipush 14, 2) := by decide +kernel
theorem dL_isShot_29 : decode cL_isShot 29 = .ok (.iaload, 1) := by decide +kernel
theorem dL_isShot_30 : decode cL_isShot 30 = .ok (.ifCond .lt 43, 3) := by decide +kernel
theorem dL_isShot_33 : decode cL_isShot 33 = .ok (.aload_n 2, 1) := by decide +kernel
theorem dL_isShot_34 : decode cL_isShot 34 = .ok (.iload_n 3, 1) := by decide +kernel
theorem dL_isShot_35 : decode cL_isShot 35 = .ok (.iaload, 1) := by decide +kernel
theorem dL_isShot_36 : decode cL_isShot 36 = .ok (.ifCond .lt 37, 3) := by decide +kernel
theorem dL_isShot_39 : decode cL_isShot 39 = .ok (.aload_n 2, 1) := by decide +kernel
theorem dL_isShot_40 : decode cL_isShot 40 = .ok (.bipush 12, 2) := by decide +kernel
theorem dL_isShot_42 : decode cL_isShot 42 = .ok (.iload_n 3, 1) := by decide +kernel
theorem dL_isShot_43 : decode cL_isShot 43 = .ok (.iadd, 1) := by decide +kernel
theorem dL_isShot_44 : decode cL_isShot 44 = .ok (.iaload, 1) := by decide +kernel
theorem dL_isShot_45 : decode cL_isShot 45 = .ok (.aload_n 1, 1) := by decide +kernel
theorem dL_isShot_46 : decode cL_isShot 46 = .ok (.bipush 14, 2) := by decide +kernel
theorem dL_isShot_48 : decode cL_isShot 48 = .ok (.iaload, 1) := by decide +kernel
theorem dL_isShot_49 : decode cL_isShot 49 = .ok (.if_icmp .eq 24, 3) := by decide +kernel
theorem dL_isShot_52 : decode cL_isShot 52 = .ok (.aload_n 2, 1) := by decide +kernel
theorem dL_isShot_53 : decode cL_isShot 53 = .ok (.iload_n 3, 1) := by decide +kernel
theorem dL_isShot_54 : decode cL_isShot 54 = .ok (.iaload, 1) := by decide +kernel
theorem dL_isShot_55 : decode cL_isShot 55 = .ok (.iload 4, 2) := by decide +kernel
theorem dL_isShot_57 : decode cL_isShot 57 = .ok (.if_icmp .eq 16, 3) := by decide +kernel
theorem dL_isShot_60 : decode cL_isShot 60 = .ok (.aload_n 1, 1) := by decide +kernel
theorem dL_isShot_61 : decode cL_isShot 61 = .ok (.bipush 15, 2) := by decide +kernel
theorem dL_isShot_63 : decode cL_isShot 63 = .ok (.iaload, 1) := by decide +kernel
theorem dL_isShot_64 : decode cL_isShot 64 = .ok (.bipush 100, 2) := by decide +kernel
theorem dL_isShot_66 : decode cL_isShot 66 = .ok (.if_icmp .ge 7, 3) := by decide +kernel
theorem dL_isShot_69 : decode cL_isShot 69 = .ok (.iconst 1, 1) := by decide +kernel
theorem dL_isShot_70 : decode cL_isShot 70 = .ok (.goto 4, 3) := by decide +kernel
theorem dL_isShot_73 : decode cL_isShot 73 = .ok (.iconst 0, 1) := by decide +kernel
theorem dL_isShot_74 : decode cL_isShot 74 = .ok (.istore 6, 2) := by decide +kernel
theorem dL_isShot_76 : decode cL_isShot 76 = .ok (.iload 5, 2) := by decide +kernel
theorem dL_isShot_78 : decode cL_isShot 78 = .ok (.ifCond .ne 8, 3) := by decide +kernel
theorem dL_isShot_81 : decode cL_isShot 81 = .ok (.bipush (-30), 2) := by decide +kernel
theorem dL_isShot_83 : decode cL_isShot 83 = .ok (.goto 30, 3) := by decide +kernel
theorem dL_isShot_86 : decode cL_isShot 86 = .ok (.iload 6, 2) := by decide +kernel
theorem dL_isShot_88 : decode cL_isShot 88 = .ok (.ifCond .eq 23, 3) := by decide +kernel
theorem dL_isShot_91 : decode cL_isShot 91 = .ok (.aload_n 1, 1) := by decide +kernel
theorem dL_isShot_92 : decode cL_isShot 92 = .ok (.bipush 14, 2) := by decide +kernel
theorem dL_isShot_94 : decode cL_isShot 94 = .ok (.iaload, 1) := by decide +kernel
theorem dL_isShot_95 : decode cL_isShot 95 = .ok (.aload_n 2, 1) := by decide +kernel
theorem dL_isShot_96 : decode cL_isShot 96 = .ok (.iload_n 3, 1) := by decide +kernel
theorem dL_isShot_97 : decode cL_isShot 97 = .ok (.iaload, 1) := by decide +kernel
theorem dL_isShot_98 : decode cL_isShot 98 = .ok (.iload 4, 2) := by decide +kernel
theorem dL_isShot_100 : decode cL_isShot 100 = .ok (.invokestatic 83, 3) := by decide +kernel
theorem dL_isShot_103 : decode cL_isShot 103 = .ok (.iconst 3, 1) := by decide +kernel
theorem dL_isShot_104 : decode cL_isShot 104 = .ok (.iadd, 1) := by decide +kernel
theorem dL_isShot_105 : decode cL_isShot 105 = .ok (.iconst 4, 1) := by decide +kernel
theorem dL_isShot_106 : decode cL_isShot 106 = .ok (.idiv, 1) := by decide +kernel
theorem dL_isShot_107 : decode cL_isShot 107 = .ok (.iadd, 1) := by decide +kernel
theorem dL_isShot_108 : decode cL_isShot 108 = .ok (.goto 5, 3) := by decide +kernel
theorem dL_isShot_111 : decode cL_isShot 111 = .ok (.bipush (-10), 2) := by decide +kernel
theorem dL_isShot_113 : decode cL_isShot 113 = .ok (.istore 7, 2) := by decide +kernel
theorem dL_isShot_115 : decode cL_isShot 115 = .ok (.aload_n 0, 1) := by decide +kernel
theorem dL_isShot_116 : decode cL_isShot 116 = .ok (.invokevirtual 93, 3) := by decide +kernel
theorem dL_isShot_119 : decode cL_isShot 119 = .ok (.istore 8, 2) := by decide +kernel
theorem dL_isShot_121 : decode cL_isShot 121 = .ok (.iload 6, 2) := by decide +kernel
theorem dL_isShot_123 : decode cL_isShot 123 = .ok (.ifCond .eq 21, 3) := by decide +kernel
theorem dL_isShot_126 : decode cL_isShot 126 = .ok (.aload_n 2, 1) := by decide +kernel
theorem dL_isShot_127 : decode cL_isShot 127 = .ok (.bipush 12, 2) := by decide +kernel
theorem dL_isShot_129 : decode cL_isShot 129 = .ok (.iload_n 3, 1) := by decide +kernel
theorem dL_isShot_130 : decode cL_isShot 130 = .ok (.iadd, 1) := by decide +kernel
theorem dL_isShot_131 : decode cL_isShot 131 = .ok (.aload_n 1, 1) := by decide +kernel
theorem dL_isShot_132 : decode cL_isShot 132 = .ok (.bipush 14, 2) := by decide +kernel
theorem dL_isShot_134 : decode cL_isShot 134 = .ok (.iaload, 1) := by decide +kernel
theorem dL_isShot_135 : decode cL_isShot 135 = .ok (.iastore, 1) := by decide +kernel
theorem dL_isShot_136 : decode cL_isShot 136 = .ok (.aload_n 1, 1) := by decide +kernel
theorem dL_isShot_137 : decode cL_isShot 137 = .ok (.bipush 15, 2) := by decide +kernel
theorem dL_isShot_139 : decode cL_isShot 139 = .ok (.dup2, 1) := by decide +kernel
theorem dL_isShot_140 : decode cL_isShot 140 = .ok (.iaload, 1) := by decide +kernel
theorem dL_isShot_141 : decode cL_isShot 141 = .ok (.iconst 1, 1) := by decide +kernel
theorem dL_isShot_142 : decode cL_isShot 142 = .ok (.iadd, 1) := by decide +kernel
theorem dL_isShot_143 : decode cL_isShot 143 = .ok (.iastore, 1) := by decide +kernel
theorem dL_isShot_144 : decode cL_isShot 144 = .ok (.aload_n 0, 1) := by decide +kernel
theorem dL_isShot_145 : decode cL_isShot 145 = .ok (.iconst 4, 1) := by decide +kernel
theorem dL_isShot_146 : decode cL_isShot 146 = .ok (.iload_n 3, 1) := by decide +kernel
theorem dL_isShot_147 : decode cL_isShot 147 = .ok (.iload 4, 2) := by decide +kernel
theorem dL_isShot_149 : decode cL_isShot 149 = .ok (.invokestatic 100, 3) := by decide +kernel
theorem dL_isShot_152 : decode cL_isShot 152 = .ok (.iload 7, 2) := by decide +kernel
theorem dL_isShot_154 : decode cL_isShot 154 = .ok (.if_icmp .ne 27, 3) := by decide +kernel
theorem dL_isShot_157 : decode cL_isShot 157 = .ok (.aload_n 0, 1) := by decide +kernel
theorem dL_isShot_158 : decode cL_isShot 158 = .ok (.invokevirtual 93, 3) := by decide +kernel
theorem dL_isShot_161 : decode cL_isShot 161 = .ok (.iload 8, 2) := by decide +kernel
theorem dL_isShot_163 : decode cL_isShot 163 = .ok (.iload 6, 2) := by decide +kernel
theorem dL_isShot_165 : decode cL_isShot 165 = .ok (.ifCond .eq 7, 3) := by decide +kernel
theorem dL_isShot_168 : decode cL_isShot 168 = .ok (.iconst 1, 1) := by decide +kernel
theorem dL_isShot_169 : decode cL_isShot 169 = .ok (.goto 4, 3) := by decide +kernel
theorem dL_isShot_172 : decode cL_isShot 172 = .ok (.iconst 0, 1) := by decide +kernel
theorem dL_isShot_173 : decode cL_isShot 173 = .ok (.iadd, 1) := by decide +kernel
theorem dL_isShot_174 : decode cL_isShot 174 = .ok (.if_icmp .ne 7, 3) := by decide +kernel
theorem dL_isShot_177 : decode cL_isShot 177 = .ok (.iconst 1, 1) := by decide +kernel
theorem dL_isShot_178 : decode cL_isShot 178 = .ok (.goto 4, 3) := by decide +kernel
theorem dL_isShot_181 : decode cL_isShot 181 = .ok (.iconst 0, 1) := by decide +kernel
theorem dL_isShot_182 : decode cL_isShot 182 = .ok (.ireturn, 1) := by decide +kernel
set_option maxRecDepth 20000 in
theorem ggL_isCall_X5_sees : GoodIn wsL_isCall wsX5_sees := goodIn_ca (goodIn_r _ [5, 6, 7, 8, 4, 9, 10, 11, 12, 13, 14, 15, 16, 17, 18, 19, 20, 21, 22, 23, 24, 25, 26, 27, 28, 29, 30, 251, 252, 253, 254, 255] (by decide +kernel) (by decide +kernel)) (goodIn_sub (fun _ h => List.mem_cons_of_mem _ (List.mem_append_left _ (List.mem_append_left _ (List.mem_append_right _ h)))) (by decide +kernel))
set_option maxRecDepth 20000 in
theorem gL_isCall_X5_sees : GoodIn wsL_isCall (wsV RL 54 RX5 yX5_sees wsX5_sees) := goodIn_app (goodIn_of _ (by decide +kernel)) ggL_isCall_X5_sees
set_option maxRecDepth 20000 in
theorem ggL_isCall_L_does : GoodIn wsL_isCall wsL_does := goodIn_ca (goodIn_ca (goodIn_ca (goodIn_r _ [34, 35, 36, 37, 38, 39, 40, 4, 41, 42, 43, 44, 6, 7, 8, 9, 10, 11, 45, 46, 47, 48, 49, 50, 51, 52, 53, 15, 54, 17, 55, 56, 57, 58, 59, 60, 61, 62, 63, 64, 33, 65, 66, 67, 68, 69, 70, 71, 72, 73, 74, 75, 76, 77, 78, 79, 80, 81, 82, 83, 84, 85, 86, 87, 88, 89, 90, 91, 92, 93, 94, 95, 96, 97, 98, 99, 100, 101, 102, 103, 104, 105, 106, 107, 108, 109, 28, 29, 20, 30, 22, 23, 24, 110, 111, 112, 113, 114, 115, 116, 117, 118, 119, 120, 121, 122, 123, 124, 125, 126, 127, 128, 129, 130, 131, 132, 133, 134, 135, 136, 137, 138, 139, 140, 141, 142, 143, 144, 145, 146, 147, 148, 149, 150, 151, 152, 153, 154, 155, 156, 157, 158, 159, 160, 161, 162, 13, 14, 16, 18, 19, 21, 25, 26, 27, 163, 164, 165, 166, 12, 167, 168, 169, 170, 171, 172, 173, 174, 175, 176, 177, 178, 179, 180, 181, 182, 183, 184, 185, 186, 187, 188, 189, 190, 191, 192, 193, 194, 195, 196, 197, 198, 199, 200, 201, 202, 203, 204, 205, 206, 207, 208, 209, 210, 211, 212, 213, 214, 215, 216, 217, 218, 219, 220, 221, 222, 223, 224, 225, 226, 227, 228, 229, 230, 231, 232, 233, 234, 235, 236, 237, 238, 239, 240, 241, 242, 243, 244, 245, 246, 247, 248, 249, 250, 251, 252, 253, 254, 256, 257, 258, 259, 260, 261, 262, 263, 255, 264, 265, 266, 267, 268, 269, 270, 271, 272, 273, 274, 275, 276, 277] (by decide +kernel) (by decide +kernel)) (goodIn_sub (fun _ h => List.mem_cons_of_mem _ (List.mem_append_left _ (List.mem_append_right _ h))) (by decide +kernel))) (goodIn_sub (fun _ h => List.mem_cons_of_mem _ (List.mem_append_left _ (List.mem_append_left _ (List.mem_append_right _ h)))) (by decide +kernel))) (goodIn_sub (fun _ h => List.mem_cons_of_mem _ (List.mem_append_right _ h)) (by decide +kernel))
set_option maxRecDepth 20000 in
theorem gL_isCall_L_does : GoodIn wsL_isCall (va_wsS RL 100 yL_does wsL_does) := goodIn_app (goodIn_of _ (by decide +kernel)) ggL_isCall_L_does
end
section
theorem dL_isCall_0 : decode cL_isCall 0 = .ok (.iload 4, 2) := by decide +kernel
theorem dL_isCall_2 : decode cL_isCall 2 = .ok (.iconst 2, 1) := by decide +kernel
theorem dL_isCall_3 : decode cL_isCall 3 = .ok (.if_icmp .ge 14, 3) := by decide +kernel
theorem dL_isCall_6 : decode cL_isCall 6 = .ok (.iload 5, 2) := by decide +kernel
theorem dL_isCall_8 : decode cL_isCall 8 = .ok (.bipush 6, 2) := by decide +kernel
theorem dL_isCall_10 : decode cL_isCall 10 = .ok (.if_icmp .ge 7, 3) := by decide +kernel
theorem dL_isCall_13 : decode cL_isCall 13 = .ok (.iconst 1, 1) := by decide +kernel
theorem dL_isCall_14 : decode cL_isCall 14 = .ok (.goto 4, 3) := by decide +kernel
theorem dL_isCall_17 : decode cL_isCall 17 = .ok (.iconst 0, 1) := by decide +kernel
theorem dL_isCall_18 : decode cL_isCall 18 = .ok (.istore 6, 2) := by decide +kernel
theorem dL_isCall_20 : decode cL_isCall 20 = .ok (.iload 6, 2) := by decide +kernel
theorem dL_isCall_22 : decode cL_isCall 22 = .ok (.ifCond .eq 39, 3) := by decide +kernel
theorem dL_isCall_25 : decode cL_isCall 25 = .ok (.aload_n 1, 1) := by decide +kernel
theorem dL_isCall_26 : decode cL_isCall 26 = .ok (.bipush 14, 2) := by decide +kernel
theorem dL_isCall_28 : decode cL_isCall 28 = .ok (.iaload, 1) := by decide +kernel
theorem dL_isCall_29 : decode cL_isCall 29 = .ok (.ifCond .lt 32, 3) := by decide +kernel
theorem dL_isCall_32 : decode cL_isCall 32 = .ok (.aload_n 2, 1) := by decide +kernel
theorem dL_isCall_33 : decode cL_isCall 33 = .ok (.iload 5, 2) := by decide +kernel
theorem dL_isCall_35 : decode cL_isCall 35 = .ok (.iaload, 1) := by decide +kernel
theorem dL_isCall_36 : decode cL_isCall 36 = .ok (.ifCond .lt 25, 3) := by decide +kernel
theorem dL_isCall_39 : decode cL_isCall 39 = .ok (.aload_n 0, 1) := by decide +kernel
theorem dL_isCall_40 : decode cL_isCall 40 = .ok (.aload_n 1, 1) := by decide +kernel
theorem dL_isCall_41 : decode cL_isCall 41 = .ok (.bipush 12, 2) := by decide +kernel
theorem dL_isCall_43 : decode cL_isCall 43 = .ok (.iload 4, 2) := by decide +kernel
theorem dL_isCall_45 : decode cL_isCall 45 = .ok (.iadd, 1) := by decide +kernel
theorem dL_isCall_46 : decode cL_isCall 46 = .ok (.iaload, 1) := by decide +kernel
theorem dL_isCall_47 : decode cL_isCall 47 = .ok (.aload_n 2, 1) := by decide +kernel
theorem dL_isCall_48 : decode cL_isCall 48 = .ok (.iload 5, 2) := by decide +kernel
theorem dL_isCall_50 : decode cL_isCall 50 = .ok (.iaload, 1) := by decide +kernel
theorem dL_isCall_51 : decode cL_isCall 51 = .ok (.invokevirtual 54, 3) := by decide +kernel
theorem dL_isCall_54 : decode cL_isCall 54 = .ok (.ifCond .eq 7, 3) := by decide +kernel
theorem dL_isCall_57 : decode cL_isCall 57 = .ok (.iconst 1, 1) := by decide +kernel
theorem dL_isCall_58 : decode cL_isCall 58 = .ok (.goto 4, 3) := by decide +kernel
theorem dL_isCall_61 : decode cL_isCall 61 = .ok (.iconst 0, 1) := by decide +kernel
theorem dL_isCall_62 : decode cL_isCall 62 = .ok (.istore 7, 2) := by decide +kernel
theorem dL_isCall_64 : decode cL_isCall 64 = .ok (.iload 6, 2) := by decide +kernel
theorem dL_isCall_66 : decode cL_isCall 66 = .ok (.ifCond .ne 8, 3) := by decide +kernel
theorem dL_isCall_69 : decode cL_isCall 69 = .ok (.bipush (-30), 2) := by decide +kernel
theorem dL_isCall_71 : decode cL_isCall 71 = .ok (.goto 17, 3) := by decide +kernel
theorem dL_isCall_74 : decode cL_isCall 74 = .ok (.iload 7, 2) := by decide +kernel
theorem dL_isCall_76 : decode cL_isCall 76 = .ok (.ifCond .eq 10, 3) := by decide +kernel
theorem dL_isCall_79 : decode cL_isCall 79 = .ok (.aload_n 1, 1) := by decide +kernel
theorem dL_isCall_80 : decode cL_isCall 80 = .ok (.bipush 16, 2) := by decide +kernel
theorem dL_isCall_82 : decode cL_isCall 82 = .ok (.iaload, 1) := by decide +kernel
theorem dL_isCall_83 : decode cL_isCall 83 = .ok (.goto 5, 3) := by decide +kernel
theorem dL_isCall_86 : decode cL_isCall 86 = .ok (.bipush (-10), 2) := by decide +kernel
theorem dL_isCall_88 : decode cL_isCall 88 = .ok (.istore 8, 2) := by decide +kernel
theorem dL_isCall_90 : decode cL_isCall 90 = .ok (.iload 7, 2) := by decide +kernel
theorem dL_isCall_92 : decode cL_isCall 92 = .ok (.ifCond .eq 43, 3) := by decide +kernel
theorem dL_isCall_95 : decode cL_isCall 95 = .ok (.aload_n 1, 1) := by decide +kernel
theorem dL_isCall_96 : decode cL_isCall 96 = .ok (.bipush 16, 2) := by decide +kernel
theorem dL_isCall_98 : decode cL_isCall 98 = .ok (.iaload, 1) := by decide +kernel
theorem dL_isCall_99 : decode cL_isCall 99 = .ok (.bipush 20, 2) := by decide +kernel
theorem dL_isCall_101 : decode cL_isCall 101 = .ok (.if_icmp .ge 34, 3) := by decide +kernel
theorem dL_isCall_104 : decode cL_isCall 104 = .ok (.aload_n 3, 1) := by decide +kernel
theorem dL_isCall_105 : decode cL_isCall 105 = .ok (.aload_n 1, 1) := by decide +kernel
theorem dL_isCall_106 : decode cL_isCall 106 = .ok (.bipush 16, 2) := by decide +kernel
theorem dL_isCall_108 : decode cL_isCall 108 = .ok (.iaload, 1) := by decide +kernel
theorem dL_isCall_109 : decode cL_isCall 109 = .ok (.iload 5, 2) := by decide +kernel
theorem dL_isCall_111 : decode cL_isCall 111 = .ok (.iastore, 1) := by decide +kernel
theorem dL_isCall_112 : decode cL_isCall 112 = .ok (.aload_n 3, 1) := by decide +kernel
theorem dL_isCall_113 : decode cL_isCall 113 = .ok (.bipush 20, 2) := by decide +kernel
theorem dL_isCall_115 : decode cL_isCall 115 = .ok (.aload_n 1, 1) := by decide +kernel
theorem dL_isCall_116 : decode cL_isCall 116 = .ok (.bipush 16, 2) := by decide +kernel
theorem dL_isCall_118 : decode cL_isCall 118 = .ok (.iaload, 1) := by decide +kernel
theorem dL_isCall_119 : decode cL_isCall 119 = .ok (.iadd, 1) := by decide +kernel
theorem dL_isCall_120 : decode cL_isCall 120 = .ok (.aload_n 2, 1) := by decide +kernel
theorem dL_isCall_121 : decode cL_isCall 121 = .ok (.iload 5, 2) := by decide +kernel
theorem dL_isCall_123 : decode cL_isCall 123 = .ok (.iaload, 1) := by decide +kernel
theorem dL_isCall_124 : decode cL_isCall 124 = .ok (.iastore, 1) := by decide +kernel
theorem dL_isCall_125 : decode cL_isCall 125 = .ok (.aload_n 3, 1) := by decide +kernel
theorem dL_isCall_126 : decode cL_isCall 126 = .ok (.bipush 40, 2) := by decide +kernel
theorem dL_isCall_128 : decode cL_isCall 128 = .ok (.aload_n 1, 1) := by decide +kernel
theorem dL_isCall_129 : decode cL_isCall 129 = .ok (.bipush 16, 2) := by decide +kernel
theorem dL_isCall_131 : decode cL_isCall 131 = .ok (.iaload, 1) := by decide +kernel
theorem dL_isCall_132 : decode cL_isCall 132 = .ok (.iadd, 1) := by decide +kernel
theorem dL_isCall_133 : decode cL_isCall 133 = .ok (.iconst 0, 1) := by decide +kernel
theorem dL_isCall_134 : decode cL_isCall 134 = .ok (.iastore, 1) := by decide +kernel
theorem dL_isCall_135 : decode cL_isCall 135 = .ok (.iload 7, 2) := by decide +kernel
theorem dL_isCall_137 : decode cL_isCall 137 = .ok (.ifCond .eq 17, 3) := by decide +kernel
theorem dL_isCall_140 : decode cL_isCall 140 = .ok (.aload_n 1, 1) := by decide +kernel
theorem dL_isCall_141 : decode cL_isCall 141 = .ok (.bipush 16, 2) := by decide +kernel
theorem dL_isCall_143 : decode cL_isCall 143 = .ok (.dup2, 1) := by decide +kernel
theorem dL_isCall_144 : decode cL_isCall 144 = .ok (.iaload, 1) := by decide +kernel
theorem dL_isCall_145 : decode cL_isCall 145 = .ok (.iconst 1, 1) := by decide +kernel
theorem dL_isCall_146 : decode cL_isCall 146 = .ok (.iadd, 1) := by decide +kernel
theorem dL_isCall_147 : decode cL_isCall 147 = .ok (.iastore, 1) := by decide +kernel
theorem dL_isCall_148 : decode cL_isCall 148 = .ok (.aload_n 2, 1) := by decide +kernel
theorem dL_isCall_149 : decode cL_isCall 149 = .ok (.iload 5, 2) := by decide +kernel
theorem dL_isCall_151 : decode cL_isCall 151 = .ok (.bipush (-2), 2) := by decide +kernel
theorem dL_isCall_153 : decode cL_isCall 153 = .ok (.iastore, 1) := by decide +kernel
theorem dL_isCall_154 : decode cL_isCall 154 = .ok (.aload_n 0, 1) := by decide +kernel
theorem dL_isCall_155 : decode cL_isCall 155 = .ok (.bipush 6, 2) := by decide +kernel
theorem dL_isCall_157 : decode cL_isCall 157 = .ok (.iload 4, 2) := by decide +kernel
theorem dL_isCall_159 : decode cL_isCall 159 = .ok (.iload 5, 2) := by decide +kernel
theorem dL_isCall_161 : decode cL_isCall 161 = .ok (.invokestatic 100, 3) := by decide +kernel
theorem dL_isCall_164 : decode cL_isCall 164 = .ok (.iload 8, 2) := by decide +kernel
theorem dL_isCall_166 : decode cL_isCall 166 = .ok (.if_icmp .ne 7, 3) := by decide +kernel
theorem dL_isCall_169 : decode cL_isCall 169 = .ok (.iconst 1, 1) := by decide +kernel
theorem dL_isCall_170 : decode cL_isCall 170 = .ok (.goto 4, 3) := by decide +kernel
theorem dL_isCall_173 : decode cL_isCall 173 = .ok (.iconst 0, 1) := by decide +kernel
theorem dL_isCall_174 : decode cL_isCall 174 = .ok (.ireturn, 1) := by decide +kernel
set_option maxRecDepth 20000 in
theorem ggL_isDispute_L_does : GoodIn wsL_isDispute wsL_does := goodIn_ca (goodIn_ca (goodIn_ca (goodIn_r _ [4, 5, 6, 7, 8, 9, 10, 11, 12, 13, 14, 15, 16, 17, 18, 19, 20, 21, 22, 23, 24, 25, 26, 27, 28, 29, 30, 31, 32, 33, 34, 35, 36, 37, 38, 39, 40, 41, 42, 43, 3, 44, 45, 46, 47, 48, 49, 50, 51, 52, 53, 54, 55, 56, 57, 58, 59, 60, 61, 62, 63, 64, 65, 66, 67, 68, 69, 70, 71, 72, 73, 74, 75, 76, 77, 78, 79, 80, 81, 82, 83, 84, 85, 86, 87, 88, 89, 90, 91, 92, 93, 94, 95, 96, 97, 98, 99, 100, 101, 102, 103, 104, 105, 106, 107, 108, 109, 110, 111, 112, 113, 114, 115, 116, 117, 118, 119, 120, 121, 122, 123, 124, 125, 126, 127, 128, 129, 130, 131, 132, 133, 134, 135, 136, 137, 138, 139, 140, 141, 142, 143, 144, 145, 146, 147, 148, 149, 150, 151, 152, 153, 154, 155, 156, 157, 158, 159, 160, 161, 162, 163, 164, 165, 166, 167, 168, 169, 170, 171, 172, 173, 174, 175, 176, 177, 178, 179, 180, 181, 182, 183, 184, 185, 186, 187, 188, 189, 190, 191, 192, 193, 194, 195, 196, 197, 198, 199, 200, 201, 202, 203, 204, 205, 206, 207, 208, 209, 210, 211, 212, 213, 214, 215, 216, 217, 218, 219, 220, 221, 222, 223, 224, 225, 226, 227, 228, 229, 230, 231, 232, 233, 234, 235, 236, 237, 238, 239, 240, 241, 242, 243, 244, 245, 246, 253, 254, 255, 256, 257, 258, 259, 260, 261, 262, 263, 264, 265, 266, 267, 268, 269, 270, 271, 272, 273, 274, 275, 276, 277, 278, 279] (by decide +kernel) (by decide +kernel)) (goodIn_sub (fun _ h => List.mem_cons_of_mem _ (List.mem_append_left _ (List.mem_append_left _ (List.mem_append_right _ h)))) (by decide +kernel))) (goodIn_sub (fun _ h => List.mem_cons_of_mem _ (List.mem_append_left _ (List.mem_append_right _ h))) (by decide +kernel))) (goodIn_sub (fun _ h => List.mem_cons_of_mem _ (List.mem_append_right _ h)) (by decide +kernel))
set_option maxRecDepth 20000 in
theorem gL_isDispute_L_does : GoodIn wsL_isDispute (va_wsS RL 100 yL_does wsL_does) := goodIn_app (goodIn_of _ (by decide +kernel)) ggL_isDispute_L_does
set_option maxRecDepth 20000 in
theorem ggL_isDispute_L_isFree : GoodIn wsL_isDispute wsL_isFree := goodIn_r _ [249, 250, 251, 3, 252] (by decide +kernel) (by decide +kernel)
set_option maxRecDepth 20000 in
theorem gL_isDispute_L_isFree : GoodIn wsL_isDispute (va_wsS RL 96 yL_isFree wsL_isFree) := goodIn_app (goodIn_of _ (by decide +kernel)) ggL_isDispute_L_isFree
theorem dL_isDispute_0 : decode cL_isDispute 0 = .ok (.aload_n 1, 1) := by decide +kernel
theorem dL_isDispute_1 : decode cL_isDispute 1 = .ok (.bipush 14, 2) := by decide +kernel
theorem dL_isDispute_3 : decode cL_isDispute 3 = .ok (.iaload, 1) := by decide +kernel
theorem dL_isDispute_4 : decode cL_isDispute 4 = .ok (.ifCond .lt 16, 3) := by decide +kernel
theorem dL_isDispute_7 : decode cL_isDispute 7 = .ok (.iload 5, 2) := by decide +kernel
theorem dL_isDispute_9 : decode cL_isDispute 9 = .ok (.aload_n 1, 1) := by decide +kernel
theorem dL_isDispute_10 : decode cL_isDispute 10 = .ok (.bipush 16, 2) := by decide +kernel
theorem dL_isDispute_12 : decode cL_isDispute 12 = .ok (.iaload, 1) := by decide +kernel
theorem dL_isDispute_13 : decode cL_isDispute 13 = .ok (.if_icmp .ge 7, 3) := by decide +kernel
theorem dL_isDispute_16 : decode cL_isDispute 16 = .ok (.iconst 1, 1) := by decide +kernel
theorem dL_isDispute_17 : decode cL_isDispute 17 = .ok (.goto 4, 3) := by decide +kernel
theorem dL_isDispute_20 : decode cL_isDispute 20 = .ok (.iconst 0, 1) := by decide +kernel
theorem dL_isDispute_21 : decode cL_isDispute 21 = .ok (.istore 6, 2) := by decide +kernel
theorem dL_isDispute_23 : decode cL_isDispute 23 = .ok (.iload 6, 2) := by decide +kernel
theorem dL_isDispute_25 : decode cL_isDispute 25 = .ok (.ifCond .eq 14, 3) := by decide +kernel
theorem dL_isDispute_28 : decode cL_isDispute 28 = .ok (.aload_n 3, 1) := by decide +kernel
theorem dL_isDispute_29 : decode cL_isDispute 29 = .ok (.bipush 40, 2) := by decide +kernel
theorem dL_isDispute_31 : decode cL_isDispute 31 = .ok (.iload 5, 2) := by decide +kernel
theorem dL_isDispute_33 : decode cL_isDispute 33 = .ok (.iadd, 1) := by decide +kernel
theorem dL_isDispute_34 : decode cL_isDispute 34 = .ok (.iaload, 1) := by decide +kernel
theorem dL_isDispute_35 : decode cL_isDispute 35 = .ok (.iconst 1, 1) := by decide +kernel
theorem dL_isDispute_36 : decode cL_isDispute 36 = .ok (.if_icmp .ne 33, 3) := by decide +kernel
theorem dL_isDispute_39 : decode cL_isDispute 39 = .ok (.aload_n 0, 1) := by decide +kernel
theorem dL_isDispute_40 : decode cL_isDispute 40 = .ok (.bipush 7, 2) := by decide +kernel
theorem dL_isDispute_42 : decode cL_isDispute 42 = .ok (.iload 5, 2) := by decide +kernel
theorem dL_isDispute_44 : decode cL_isDispute 44 = .ok (.iconst 0, 1) := by decide +kernel
theorem dL_isDispute_45 : decode cL_isDispute 45 = .ok (.invokestatic 100, 3) := by decide +kernel
theorem dL_isDispute_48 : decode cL_isDispute 48 = .ok (.iload 6, 2) := by decide +kernel
theorem dL_isDispute_50 : decode cL_isDispute 50 = .ok (.ifCond .eq 8, 3) := by decide +kernel
theorem dL_isDispute_53 : decode cL_isDispute 53 = .ok (.bipush (-10), 2) := by decide +kernel
theorem dL_isDispute_55 : decode cL_isDispute 55 = .ok (.goto 5, 3) := by decide +kernel
theorem dL_isDispute_58 : decode cL_isDispute 58 = .ok (.bipush (-30), 2) := by decide +kernel
theorem dL_isDispute_60 : decode cL_isDispute 60 = .ok (.if_icmp .ne 7, 3) := by decide +kernel
theorem dL_isDispute_63 : decode cL_isDispute 63 = .ok (.iconst 1, 1) := by decide +kernel
theorem dL_isDispute_64 : decode cL_isDispute 64 = .ok (.goto 4, 3) := by decide +kernel
theorem dL_isDispute_67 : decode cL_isDispute 67 = .ok (.iconst 0, 1) := by decide +kernel
theorem dL_isDispute_68 : decode cL_isDispute 68 = .ok (.ireturn, 1) := by decide +kernel
theorem dL_isDispute_69 : decode cL_isDispute 69 = .ok (.aload_n 3, 1) := by decide +kernel
theorem dL_isDispute_70 : decode cL_isDispute 70 = .ok (.iload 5, 2) := by decide +kernel
theorem dL_isDispute_72 : decode cL_isDispute 72 = .ok (.iaload, 1) := by decide +kernel
theorem dL_isDispute_73 : decode cL_isDispute 73 = .ok (.istore 7, 2) := by decide +kernel
theorem dL_isDispute_75 : decode cL_isDispute 75 = .ok (.aload_n 3, 1) := by decide +kernel
theorem dL_isDispute_76 : decode cL_isDispute 76 = .ok (.bipush 40, 2) := by decide +kernel
theorem dL_isDispute_78 : decode cL_isDispute 78 = .ok (.iload 5, 2) := by decide +kernel
theorem dL_isDispute_80 : decode cL_isDispute 80 = .ok (.iadd, 1) := by decide +kernel
theorem dL_isDispute_81 : decode cL_isDispute 81 = .ok (.iconst 1, 1) := by decide +kernel
theorem dL_isDispute_82 : decode cL_isDispute 82 = .ok (.iastore, 1) := by decide +kernel
theorem dL_isDispute_83 : decode cL_isDispute 83 = .ok (.aload_n 2, 1) := by decide +kernel
theorem dL_isDispute_84 : decode cL_isDispute 84 = .ok (.bipush 6, 2) := by decide +kernel
theorem dL_isDispute_86 : decode cL_isDispute 86 = .ok (.iload 7, 2) := by decide +kernel
theorem dL_isDispute_88 : decode cL_isDispute 88 = .ok (.iadd, 1) := by decide +kernel
theorem dL_isDispute_89 : decode cL_isDispute 89 = .ok (.iaload, 1) := by decide +kernel
theorem dL_isDispute_90 : decode cL_isDispute 90 = .ok (.ifCond .le 7, 3) := by decide +kernel
theorem dL_isDispute_93 : decode cL_isDispute 93 = .ok (.iconst 1, 1) := by decide +kernel
theorem dL_isDispute_94 : decode cL_isDispute 94 = .ok (.goto 4, 3) := by decide +kernel
theorem dL_isDispute_97 : decode cL_isDispute 97 = .ok (.iconst 0, 1) := by decide +kernel
theorem dL_isDispute_98 : decode cL_isDispute 98 = .ok (.istore 8, 2) := by decide +kernel
theorem dL_isDispute_100 : decode cL_isDispute 100 = .ok (.iload 8, 2) := by decide +kernel
theorem dL_isDispute_102 : decode cL_isDispute 102 = .ok (.ifCond .eq 32, 3) := by decide +kernel
theorem dL_isDispute_105 : decode cL_isDispute 105 = .ok (.aload 4, 2) := by decide +kernel
theorem dL_isDispute_107 : decode cL_isDispute 107 = .ok (.iconst 3, 1) := by decide +kernel
theorem dL_isDispute_108 : decode cL_isDispute 108 = .ok (.aload_n 1, 1) := by decide +kernel
theorem dL_isDispute_109 : decode cL_isDispute 109 = .ok (.iload 7, 2) := by decide +kernel
theorem dL_isDispute_111 : decode cL_isDispute 111 = .ok (.iconst 3, 1) := by decide +kernel
theorem dL_isDispute_112 : decode cL_isDispute 112 = .ok (.if_icmp .ge 8, 3) := by decide +kernel
theorem dL_isDispute_115 : decode cL_isDispute 115 = .ok (.bipush 17, 2) := by decide +kernel
theorem dL_isDispute_117 : decode cL_isDispute 117 = .ok (.goto 5, 3) := by decide +kernel
theorem dL_isDispute_120 : decode cL_isDispute 120 = .ok (.bipush 18, 2) := by decide +kernel
theorem dL_isDispute_122 : decode cL_isDispute 122 = .ok (.iaload, 1) := by decide +kernel
theorem dL_isDispute_123 : decode cL_isDispute 123 = .ok (.imul, 1) := by decide +kernel
theorem dL_isDispute_124 : decode cL_isDispute 124 = .ok (.iconst 1, 1) := by decide +kernel
theorem dL_isDispute_125 : decode cL_isDispute 125 = .ok (.iadd, 1) := by decide +kernel
theorem dL_isDispute_126 : decode cL_isDispute 126 = .ok (.dup2, 1) := by decide +kernel
theorem dL_isDispute_127 : decode cL_isDispute 127 = .ok (.iaload, 1) := by decide +kernel
theorem dL_isDispute_128 : decode cL_isDispute 128 = .ok (.iconst 1, 1) := by decide +kernel
theorem dL_isDispute_129 : decode cL_isDispute 129 = .ok (.iadd, 1) := by decide +kernel
theorem dL_isDispute_130 : decode cL_isDispute 130 = .ok (.iastore, 1) := by decide +kernel
theorem dL_isDispute_131 : decode cL_isDispute 131 = .ok (.goto 33, 3) := by decide +kernel
theorem dL_isDispute_134 : decode cL_isDispute 134 = .ok (.aload_n 2, 1) := by decide +kernel
theorem dL_isDispute_135 : decode cL_isDispute 135 = .ok (.iload 7, 2) := by decide +kernel
theorem dL_isDispute_137 : decode cL_isDispute 137 = .ok (.aload_n 1, 1) := by decide +kernel
theorem dL_isDispute_138 : decode cL_isDispute 138 = .ok (.aload_n 2, 1) := by decide +kernel
theorem dL_isDispute_139 : decode cL_isDispute 139 = .ok (.aload_n 3, 1) := by decide +kernel
theorem dL_isDispute_140 : decode cL_isDispute 140 = .ok (.bipush 20, 2) := by decide +kernel
theorem dL_isDispute_142 : decode cL_isDispute 142 = .ok (.iload 5, 2) := by decide +kernel
theorem dL_isDispute_144 : decode cL_isDispute 144 = .ok (.iadd, 1) := by decide +kernel
theorem dL_isDispute_145 : decode cL_isDispute 145 = .ok (.iaload, 1) := by decide +kernel
theorem dL_isDispute_146 : decode cL_isDispute 146 = .ok (.invokestatic 96, 3) := by decide +kernel
theorem dL_isDispute_149 : decode cL_isDispute 149 = .ok (.ifCond .eq 13, 3) := by decide +kernel
theorem dL_isDispute_152 : decode cL_isDispute 152 = .ok (.aload_n 3, 1) := by decide +kernel
theorem dL_isDispute_153 : decode cL_isDispute 153 = .ok (.bipush 20, 2) := by decide +kernel
theorem dL_isDispute_155 : decode cL_isDispute 155 = .ok (.iload 5, 2) := by decide +kernel
theorem dL_isDispute_157 : decode cL_isDispute 157 = .ok (.iadd, 1) := by decide +kernel
theorem dL_isDispute_158 : decode cL_isDispute 158 = .ok (.iaload, 1) := by decide +kernel
theorem dL_isDispute_159 : decode cL_isDispute 159 = .ok (.goto 4, 3) := by decide +kernel
theorem dL_isDispute_162 : decode cL_isDispute 162 = .ok (.iconst (-1), 1) := by decide +kernel
theorem dL_isDispute_163 : decode cL_isDispute 163 = .ok (.iastore, 1) := by decide +kernel
theorem dL_isDispute_164 : decode cL_isDispute 164 = .ok (.aload_n 0, 1) := by decide +kernel
theorem dL_isDispute_165 : decode cL_isDispute 165 = .ok (.bipush 7, 2) := by decide +kernel
theorem dL_isDispute_167 : decode cL_isDispute 167 = .ok (.iload 5, 2) := by decide +kernel
theorem dL_isDispute_169 : decode cL_isDispute 169 = .ok (.iconst 0, 1) := by decide +kernel
theorem dL_isDispute_170 : decode cL_isDispute 170 = .ok (.invokestatic 100, 3) := by decide +kernel
theorem dL_isDispute_173 : decode cL_isDispute 173 = .ok (.iload 8, 2) := by decide +kernel
theorem dL_isDispute_175 : decode cL_isDispute 175 = .ok (.ifCond .eq 7, 3) := by decide +kernel
theorem dL_isDispute_178 : decode cL_isDispute 178 = .ok (.iconst 1, 1) := by decide +kernel
theorem dL_isDispute_179 : decode cL_isDispute 179 = .ok (.goto 4, 3) := by decide +kernel
theorem dL_isDispute_182 : decode cL_isDispute 182 = .ok (.iconst 0, 1) := by decide +kernel
theorem dL_isDispute_183 : decode cL_isDispute 183 = .ok (.if_icmp .ne 7, 3) := by decide +kernel
theorem dL_isDispute_186 : decode cL_isDispute 186 = .ok (.iconst 1, 1) := by decide +kernel
theorem dL_isDispute_187 : decode cL_isDispute 187 = .ok (.goto 4, 3) := by decide +kernel
theorem dL_isDispute_190 : decode cL_isDispute 190 = .ok (.iconst 0, 1) := by decide +kernel
theorem dL_isDispute_191 : decode cL_isDispute 191 = .ok (.ireturn, 1) := by decide +kernel
set_option maxRecDepth 20000 in
theorem ggL_isEnd_L_does : GoodIn wsL_isEnd wsL_does := goodIn_ca (goodIn_ca (goodIn_ca (goodIn_r _ [4, 5, 6, 7, 8, 9, 10, 11, 12, 13, 14, 15, 16, 17, 18, 19, 20, 21, 22, 23, 24, 25, 26, 27, 28, 29, 30, 31, 32, 33, 34, 35, 36, 37, 38, 39, 40, 41, 42, 43, 3, 44, 45, 46, 47, 48, 49, 50, 51, 52, 53, 54, 55, 56, 57, 58, 59, 60, 61, 62, 63, 64, 65, 66, 67, 68, 69, 70, 71, 72, 73, 74, 75, 76, 77, 78, 79, 80, 81, 82, 83, 84, 85, 86, 87, 88, 89, 90, 91, 92, 93, 94, 95, 96, 97, 98, 99, 100, 101, 102, 103, 104, 105, 106, 107, 108, 109, 110, 111, 112, 113, 114, 115, 116, 117, 118, 119, 120, 121, 122, 123, 124, 125, 126, 127, 128, 129, 130, 131, 132, 133, 134, 135, 136, 137, 138, 139, 140, 141, 142, 143, 144, 145, 146, 147, 148, 149, 150, 151, 152, 153, 154, 155, 156, 157, 158, 159, 160, 161, 162, 163, 164, 165, 166, 167, 168, 169, 170, 171, 172, 173, 174, 175, 176, 177, 178, 179, 180, 181, 182, 183, 184, 185, 186, 187, 188, 189, 190, 191, 192, 193, 194, 195, 196, 197, 198, 199, 200, 201, 202, 203, 204, 205, 206, 207, 208, 209, 210, 211, 212, 213, 214, 215, 216, 217, 218, 219, 220, 221, 222, 223, 224, 225, 226, 227, 228, 229, 230, 231, 232, 233, 234, 235, 236, 237, 238, 239, 240, 241, 242, 243, 244, 245, 246, 247, 248, 249, 250, 251, 252, 253, 254, 255, 256, 257, 258, 259, 260, 261, 262, 263, 264, 265, 266, 267, 268, 269, 270, 271, 272, 273] (by decide +kernel) (by decide +kernel)) (goodIn_sub (fun _ h => List.mem_cons_of_mem _ (List.mem_append_left _ (List.mem_append_left _ (List.mem_append_right _ h)))) (by decide +kernel))) (goodIn_sub (fun _ h => List.mem_cons_of_mem _ (List.mem_append_left _ (List.mem_append_right _ h))) (by decide +kernel))) (goodIn_sub (fun _ h => List.mem_cons_of_mem _ (List.mem_append_right _ h)) (by decide +kernel))
set_option maxRecDepth 20000 in
theorem gL_isEnd_L_does : GoodIn wsL_isEnd (va_wsS RL 100 yL_does wsL_does) := goodIn_app (goodIn_of _ (by decide +kernel)) ggL_isEnd_L_does
set_option maxRecDepth 20000 in
theorem ggL_isEnd_X5_end : GoodIn wsL_isEnd wsX5_end := goodIn_ca (goodIn_r _ [215, 15, 185, 78, 79, 80, 11, 81, 13, 14, 22, 23, 24, 25, 26, 27, 216, 217, 218, 219, 64, 65, 220, 221, 222, 223, 58, 224, 225, 226, 227, 59, 228, 229, 230, 209, 231, 232, 233, 234, 235, 236, 237, 238, 239, 240, 241, 242, 211, 243, 244, 245, 246, 60, 61, 62, 63, 66, 67, 68, 69, 70, 247, 248, 249, 250, 251, 252, 253, 254, 255, 256, 257, 258, 270, 271, 272, 273, 260, 261, 262, 263, 264, 265, 266, 267, 268, 269] (by decide +kernel) (by decide +kernel)) (goodIn_sub (fun _ h => List.mem_cons_of_mem _ (List.mem_append_left _ (List.mem_append_left _ (List.mem_append_right _ h)))) (by decide +kernel))
set_option maxRecDepth 20000 in
theorem gL_isEnd_X5_end : GoodIn wsL_isEnd (wsV RL 44 RX5 yX5_end wsX5_end) := goodIn_app (goodIn_of _ (by decide +kernel)) ggL_isEnd_X5_end
end
section
theorem dL_isEnd_0 : decode cL_isEnd 0 = .ok (.aload_n 1, 1) := by decide +kernel
theorem dL_isEnd_1 : decode cL_isEnd 1 = .ok (.bipush 14, 2) := by decide +kernel
theorem dL_isEnd_3 : decode cL_isEnd 3 = .ok (.iaload, 1) := by decide +kernel
theorem dL_isEnd_4 : decode cL_isEnd 4 = .ok (.ifCond .ge 22, 3) := by decide +kernel
theorem dL_isEnd_7 : decode cL_isEnd 7 = .ok (.aload_n 0, 1) := by decide +kernel
theorem dL_isEnd_8 : decode cL_isEnd 8 = .ok (.bipush 8, 2) := by decide +kernel
theorem dL_isEnd_10 : decode cL_isEnd 10 = .ok (.iconst 0, 1) := by decide +kernel
theorem dL_isEnd_11 : decode cL_isEnd 11 = .ok (.iconst 0, 1) := by decide +kernel
theorem dL_isEnd_12 : decode cL_isEnd 12 = .ok (.invokestatic 100, 3) := by decide +kernel
theorem dL_isEnd_15 : decode cL_isEnd 15 = .ok (.bipush (-10), 2) := by decide +kernel
theorem dL_isEnd_17 : decode cL_isEnd 17 = .ok (.if_icmp .ne 7, 3) := by decide +kernel
theorem dL_isEnd_20 : decode cL_isEnd 20 = .ok (.iconst 1, 1) := by decide +kernel
theorem dL_isEnd_21 : decode cL_isEnd 21 = .ok (.goto 4, 3) := by decide +kernel
theorem dL_isEnd_24 : decode cL_isEnd 24 = .ok (.iconst 0, 1) := by decide +kernel
theorem dL_isEnd_25 : decode cL_isEnd 25 = .ok (.ireturn, 1) := by decide +kernel
theorem dL_isEnd_26 : decode cL_isEnd 26 = .ok (.iconst 0, 1) := by decide +kernel
theorem dL_isEnd_27 : decode cL_isEnd 27 = .ok (.istore 5, 2) := by decide +kernel
theorem dL_isEnd_29 : decode cL_isEnd 29 = .ok (.iconst 0, 1) := by decide +kernel
theorem dL_isEnd_30 : decode cL_isEnd 30 = .ok (.istore 6, 2) := by decide +kernel
theorem dL_isEnd_32 : decode cL_isEnd 32 = .ok (.iload 6, 2) := by decide +kernel
theorem dL_isEnd_34 : decode cL_isEnd 34 = .ok (.bipush 6, 2) := by decide +kernel
theorem dL_isEnd_36 : decode cL_isEnd 36 = .ok (.if_icmp .ge 48, 3) := by decide +kernel
theorem dL_isEnd_39 : decode cL_isEnd 39 = .ok (.iload 5, 2) := by decide +kernel
theorem dL_isEnd_41 : decode cL_isEnd 41 = .ok (.aload_n 2, 1) := by decide +kernel
theorem dL_isEnd_42 : decode cL_isEnd 42 = .ok (.iload 6, 2) := by decide +kernel
theorem dL_isEnd_44 : decode cL_isEnd 44 = .ok (.iaload, 1) := by decide +kernel
theorem dL_isEnd_45 : decode cL_isEnd 45 = .ok (.bipush (-2), 2) := by decide +kernel
theorem dL_isEnd_47 : decode cL_isEnd 47 = .ok (.if_icmp .eq 13, 3) := by decide +kernel
theorem dL_isEnd_50 : decode cL_isEnd 50 = .ok (.aload_n 2, 1) := by decide +kernel
theorem dL_isEnd_51 : decode cL_isEnd 51 = .ok (.bipush 6, 2) := by decide +kernel
theorem dL_isEnd_53 : decode cL_isEnd 53 = .ok (.iload 6, 2) := by decide +kernel
theorem dL_isEnd_55 : decode cL_isEnd 55 = .ok (.iadd, 1) := by decide +kernel
theorem dL_isEnd_56 : decode cL_isEnd 56 = .ok (.iaload, 1) := by decide +kernel
theorem dL_isEnd_57 : decode cL_isEnd 57 = .ok (.ifCond .le 7, 3) := by decide +kernel
theorem dL_isEnd_60 : decode cL_isEnd 60 = .ok (.iconst 0, 1) := by decide +kernel
theorem dL_isEnd_61 : decode cL_isEnd 61 = .ok (.goto 14, 3) := by decide +kernel
theorem dL_isEnd_64 : decode cL_isEnd 64 = .ok (.iload 6, 2) := by decide +kernel
theorem dL_isEnd_66 : decode cL_isEnd 66 = .ok (.iconst 3, 1) := by decide +kernel
theorem dL_isEnd_67 : decode cL_isEnd 67 = .ok (.if_icmp .ge 7, 3) := by decide +kernel
theorem dL_isEnd_70 : decode cL_isEnd 70 = .ok (.iconst 1, 1) := by decide +kernel
theorem dL_isEnd_71 : decode cL_isEnd 71 = .ok (.goto 4, 3) := by decide +kernel
theorem dL_isEnd_74 : decode cL_isEnd 74 = .ok (.iconst (-1), 1) := by decide +kernel
theorem dL_isEnd_75 : decode cL_isEnd 75 = .ok (.iadd, 1) := by decide +kernel
theorem dL_isEnd_76 : decode cL_isEnd 76 = .ok (.istore 5, 2) := by decide +kernel
theorem dL_isEnd_78 : decode cL_isEnd 78 = .ok (.iinc 6 1, 3) := by decide +kernel
theorem dL_isEnd_81 : decode cL_isEnd 81 = .ok (.goto (-49), 3) := by decide +kernel
theorem dL_isEnd_84 : decode cL_isEnd 84 = .ok (.aload_n 1, 1) := by decide +kernel
theorem dL_isEnd_85 : decode cL_isEnd 85 = .ok (.bipush 14, 2) := by decide +kernel
theorem dL_isEnd_87 : decode cL_isEnd 87 = .ok (.iconst (-1), 1) := by decide +kernel
theorem dL_isEnd_88 : decode cL_isEnd 88 = .ok (.iastore, 1) := by decide +kernel
theorem dL_isEnd_89 : decode cL_isEnd 89 = .ok (.aload_n 1, 1) := by decide +kernel
theorem dL_isEnd_90 : decode cL_isEnd 90 = .ok (.bipush 17, 2) := by decide +kernel
theorem dL_isEnd_92 : decode cL_isEnd 92 = .ok (.iaload, 1) := by decide +kernel
theorem dL_isEnd_93 : decode cL_isEnd 93 = .ok (.istore 6, 2) := by decide +kernel
theorem dL_isEnd_95 : decode cL_isEnd 95 = .ok (.aload_n 1, 1) := by decide +kernel
theorem dL_isEnd_96 : decode cL_isEnd 96 = .ok (.bipush 18, 2) := by decide +kernel
theorem dL_isEnd_98 : decode cL_isEnd 98 = .ok (.iaload, 1) := by decide +kernel
theorem dL_isEnd_99 : decode cL_isEnd 99 = .ok (.istore 7, 2) := by decide +kernel
theorem dL_isEnd_101 : decode cL_isEnd 101 = .ok (.aload_n 3, 1) := by decide +kernel
theorem dL_isEnd_102 : decode cL_isEnd 102 = .ok (.iconst 3, 1) := by decide +kernel
theorem dL_isEnd_103 : decode cL_isEnd 103 = .ok (.iload 6, 2) := by decide +kernel
theorem dL_isEnd_105 : decode cL_isEnd 105 = .ok (.imul, 1) := by decide +kernel
theorem dL_isEnd_106 : decode cL_isEnd 106 = .ok (.dup2, 1) := by decide +kernel
theorem dL_isEnd_107 : decode cL_isEnd 107 = .ok (.iaload, 1) := by decide +kernel
theorem dL_isEnd_108 : decode cL_isEnd 108 = .ok (.iload 5, 2) := by decide +kernel
theorem dL_isEnd_110 : decode cL_isEnd 110 = .ok (.ifCond .le 7, 3) := by decide +kernel
theorem dL_isEnd_113 : decode cL_isEnd 113 = .ok (.iconst 3, 1) := by decide +kernel
theorem dL_isEnd_114 : decode cL_isEnd 114 = .ok (.goto 13, 3) := by decide +kernel
theorem dL_isEnd_117 : decode cL_isEnd 117 = .ok (.iload 5, 2) := by decide +kernel
theorem dL_isEnd_119 : decode cL_isEnd 119 = .ok (.ifCond .ne 7, 3) := by decide +kernel
theorem dL_isEnd_122 : decode cL_isEnd 122 = .ok (.iconst 1, 1) := by decide +kernel
theorem dL_isEnd_123 : decode cL_isEnd 123 = .ok (.goto 4, 3) := by decide +kernel
theorem dL_isEnd_126 : decode cL_isEnd 126 = .ok (.iconst 0, 1) := by decide +kernel
theorem dL_isEnd_127 : decode cL_isEnd 127 = .ok (.iadd, 1) := by decide +kernel
theorem dL_isEnd_128 : decode cL_isEnd 128 = .ok (.iastore, 1) := by decide +kernel
theorem dL_isEnd_129 : decode cL_isEnd 129 = .ok (.aload_n 3, 1) := by decide +kernel
theorem dL_isEnd_130 : decode cL_isEnd 130 = .ok (.iconst 3, 1) := by decide +kernel
theorem dL_isEnd_131 : decode cL_isEnd 131 = .ok (.iload 7, 2) := by decide +kernel
theorem dL_isEnd_133 : decode cL_isEnd 133 = .ok (.imul, 1) := by decide +kernel
theorem dL_isEnd_134 : decode cL_isEnd 134 = .ok (.dup2, 1) := by decide +kernel
theorem dL_isEnd_135 : decode cL_isEnd 135 = .ok (.iaload, 1) := by decide +kernel
theorem dL_isEnd_136 : decode cL_isEnd 136 = .ok (.iload 5, 2) := by decide +kernel
theorem dL_isEnd_138 : decode cL_isEnd 138 = .ok (.ifCond .le 7, 3) := by decide +kernel
theorem dL_isEnd_141 : decode cL_isEnd 141 = .ok (.iconst 0, 1) := by decide +kernel
theorem dL_isEnd_142 : decode cL_isEnd 142 = .ok (.goto 13, 3) := by decide +kernel
theorem dL_isEnd_145 : decode cL_isEnd 145 = .ok (.iload 5, 2) := by decide +kernel
theorem dL_isEnd_147 : decode cL_isEnd 147 = .ok (.ifCond .ne 7, 3) := by decide +kernel
theorem dL_isEnd_150 : decode cL_isEnd 150 = .ok (.iconst 1, 1) := by decide +kernel
theorem dL_isEnd_151 : decode cL_isEnd 151 = .ok (.goto 4, 3) := by decide +kernel
theorem dL_isEnd_154 : decode cL_isEnd 154 = .ok (.iconst 3, 1) := by decide +kernel
theorem dL_isEnd_155 : decode cL_isEnd 155 = .ok (.iadd, 1) := by decide +kernel
theorem dL_isEnd_156 : decode cL_isEnd 156 = .ok (.iastore, 1) := by decide +kernel
theorem dL_isEnd_157 : decode cL_isEnd 157 = .ok (.aload_n 3, 1) := by decide +kernel
theorem dL_isEnd_158 : decode cL_isEnd 158 = .ok (.iconst 3, 1) := by decide +kernel
theorem dL_isEnd_159 : decode cL_isEnd 159 = .ok (.iload 6, 2) := by decide +kernel
theorem dL_isEnd_161 : decode cL_isEnd 161 = .ok (.imul, 1) := by decide +kernel
theorem dL_isEnd_162 : decode cL_isEnd 162 = .ok (.iconst 2, 1) := by decide +kernel
theorem dL_isEnd_163 : decode cL_isEnd 163 = .ok (.iadd, 1) := by decide +kernel
theorem dL_isEnd_164 : decode cL_isEnd 164 = .ok (.dup2, 1) := by decide +kernel
theorem dL_isEnd_165 : decode cL_isEnd 165 = .ok (.iaload, 1) := by decide +kernel
theorem dL_isEnd_166 : decode cL_isEnd 166 = .ok (.iload 5, 2) := by decide +kernel
theorem dL_isEnd_168 : decode cL_isEnd 168 = .ok (.iadd, 1) := by decide +kernel
theorem dL_isEnd_169 : decode cL_isEnd 169 = .ok (.iastore, 1) := by decide +kernel
theorem dL_isEnd_170 : decode cL_isEnd 170 = .ok (.aload_n 3, 1) := by decide +kernel
theorem dL_isEnd_171 : decode cL_isEnd 171 = .ok (.iconst 3, 1) := by decide +kernel
theorem dL_isEnd_172 : decode cL_isEnd 172 = .ok (.iload 7, 2) := by decide +kernel
theorem dL_isEnd_174 : decode cL_isEnd 174 = .ok (.imul, 1) := by decide +kernel
theorem dL_isEnd_175 : decode cL_isEnd 175 = .ok (.iconst 2, 1) := by decide +kernel
theorem dL_isEnd_176 : decode cL_isEnd 176 = .ok (.iadd, 1) := by decide +kernel
theorem dL_isEnd_177 : decode cL_isEnd 177 = .ok (.dup2, 1) := by decide +kernel
theorem dL_isEnd_178 : decode cL_isEnd 178 = .ok (.iaload, 1) := by decide +kernel
theorem dL_isEnd_179 : decode cL_isEnd 179 = .ok (.iload 5, 2) := by decide +kernel
theorem dL_isEnd_181 : decode cL_isEnd 181 = .ok (.isub, 1) := by decide +kernel
theorem dL_isEnd_182 : decode cL_isEnd 182 = .ok (.iastore, 1) := by decide +kernel
theorem dL_isEnd_183 : decode cL_isEnd 183 = .ok (.aload 4, 2) := by decide +kernel
theorem dL_isEnd_185 : decode cL_isEnd 185 = .ok (.bipush 6, 2) := by decide +kernel
theorem dL_isEnd_187 : decode cL_isEnd 187 = .ok (.iload 6, 2) := by decide +kernel
theorem dL_isEnd_189 : decode cL_isEnd 189 = .ok (.imul, 1) := by decide +kernel
theorem dL_isEnd_190 : decode cL_isEnd 190 = .ok (.iload 7, 2) := by decide +kernel
theorem dL_isEnd_192 : decode cL_isEnd 192 = .ok (.iadd, 1) := by decide +kernel
theorem dL_isEnd_193 : decode cL_isEnd 193 = .ok (.dup2, 1) := by decide +kernel
theorem dL_isEnd_194 : decode cL_isEnd 194 = .ok (.iaload, 1) := by decide +kernel
theorem dL_isEnd_195 : decode cL_isEnd 195 = .ok (.iload 5, 2) := by decide +kernel
theorem dL_isEnd_197 : decode cL_isEnd 197 = .ok (.ifCond .le 7, 3) := by decide +kernel
theorem dL_isEnd_200 : decode cL_isEnd 200 = .ok (.iconst 1, 1) := by decide +kernel
theorem dL_isEnd_201 : decode cL_isEnd 201 = .ok (.goto 4, 3) := by decide +kernel
theorem dL_isEnd_204 : decode cL_isEnd 204 = .ok (.iconst 0, 1) := by decide +kernel
theorem dL_isEnd_205 : decode cL_isEnd 205 = .ok (.iadd, 1) := by decide +kernel
theorem dL_isEnd_206 : decode cL_isEnd 206 = .ok (.iastore, 1) := by decide +kernel
theorem dL_isEnd_207 : decode cL_isEnd 207 = .ok (.aload 4, 2) := by decide +kernel
theorem dL_isEnd_209 : decode cL_isEnd 209 = .ok (.bipush 6, 2) := by decide +kernel
theorem dL_isEnd_211 : decode cL_isEnd 211 = .ok (.iload 7, 2) := by decide +kernel
theorem dL_isEnd_213 : decode cL_isEnd 213 = .ok (.imul, 1) := by decide +kernel
theorem dL_isEnd_214 : decode cL_isEnd 214 = .ok (.iload 6, 2) := by decide +kernel
theorem dL_isEnd_216 : decode cL_isEnd 216 = .ok (.iadd, 1) := by decide +kernel
theorem dL_isEnd_217 : decode cL_isEnd 217 = .ok (.dup2, 1) := by decide +kernel
theorem dL_isEnd_218 : decode cL_isEnd 218 = .ok (.iaload, 1) := by decide +kernel
theorem dL_isEnd_219 : decode cL_isEnd 219 = .ok (.iload 5, 2) := by decide +kernel
theorem dL_isEnd_221 : decode cL_isEnd 221 = .ok (.ifCond .ge 7, 3) := by decide +kernel
theorem dL_isEnd_224 : decode cL_isEnd 224 = .ok (.iconst 1, 1) := by decide +kernel
theorem dL_isEnd_225 : decode cL_isEnd 225 = .ok (.goto 4, 3) := by decide +kernel
theorem dL_isEnd_228 : decode cL_isEnd 228 = .ok (.iconst 0, 1) := by decide +kernel
theorem dL_isEnd_229 : decode cL_isEnd 229 = .ok (.iadd, 1) := by decide +kernel
theorem dL_isEnd_230 : decode cL_isEnd 230 = .ok (.iastore, 1) := by decide +kernel
theorem dL_isEnd_231 : decode cL_isEnd 231 = .ok (.iconst 0, 1) := by decide +kernel
theorem dL_isEnd_232 : decode cL_isEnd 232 = .ok (.istore 8, 2) := by decide +kernel
theorem dL_isEnd_234 : decode cL_isEnd 234 = .ok (.iload 8, 2) := by decide +kernel
theorem dL_isEnd_236 : decode cL_isEnd 236 = .ok (.bipush 6, 2) := by decide +kernel
theorem dL_isEnd_238 : decode cL_isEnd 238 = .ok (.if_icmp .ge 63, 3) := by decide +kernel
theorem dL_isEnd_241 : decode cL_isEnd 241 = .ok (.aload_n 3, 1) := by decide +kernel
theorem dL_isEnd_242 : decode cL_isEnd 242 = .ok (.iconst 3, 1) := by decide +kernel
theorem dL_isEnd_243 : decode cL_isEnd 243 = .ok (.iload 8, 2) := by decide +kernel
theorem dL_isEnd_245 : decode cL_isEnd 245 = .ok (.imul, 1) := by decide +kernel
theorem dL_isEnd_246 : decode cL_isEnd 246 = .ok (.dup2, 1) := by decide +kernel
theorem dL_isEnd_247 : decode cL_isEnd 247 = .ok (.iaload, 1) := by decide +kernel
theorem dL_isEnd_248 : decode cL_isEnd 248 = .ok (.aload_n 3, 1) := by decide +kernel
theorem dL_isEnd_249 : decode cL_isEnd 249 = .ok (.iconst 3, 1) := by decide +kernel
theorem dL_isEnd_250 : decode cL_isEnd 250 = .ok (.iload 8, 2) := by decide +kernel
theorem dL_isEnd_252 : decode cL_isEnd 252 = .ok (.imul, 1) := by decide +kernel
theorem dL_isEnd_253 : decode cL_isEnd 253 = .ok (.iconst 1, 1) := by decide +kernel
theorem dL_isEnd_254 : decode cL_isEnd 254 = .ok (.iadd, 1) := by decide +kernel
theorem dL_isEnd_255 : decode cL_isEnd 255 = .ok (.iaload, 1) := by decide +kernel
theorem dL_isEnd_256 : decode cL_isEnd 256 = .ok (.iconst 1, 1) := by decide +kernel
theorem dL_isEnd_257 : decode cL_isEnd 257 = .ok (.if_icmp .le 7, 3) := by decide +kernel
theorem dL_isEnd_260 : decode cL_isEnd 260 = .ok (.iconst 1, 1) := by decide +kernel
theorem dL_isEnd_261 : decode cL_isEnd 261 = .ok (.goto 4, 3) := by decide +kernel
theorem dL_isEnd_264 : decode cL_isEnd 264 = .ok (.iconst 0, 1) := by decide +kernel
theorem dL_isEnd_265 : decode cL_isEnd 265 = .ok (.isub, 1) := by decide +kernel
theorem dL_isEnd_266 : decode cL_isEnd 266 = .ok (.iastore, 1) := by decide +kernel
theorem dL_isEnd_267 : decode cL_isEnd 267 = .ok (.aload_n 3, 1) := by decide +kernel
theorem dL_isEnd_268 : decode cL_isEnd 268 = .ok (.iconst 3, 1) := by decide +kernel
theorem dL_isEnd_269 : decode cL_isEnd 269 = .ok (.iload 8, 2) := by decide +kernel
theorem dL_isEnd_271 : decode cL_isEnd 271 = .ok (.imul, 1) := by decide +kernel
theorem dL_isEnd_272 : decode cL_isEnd 272 = .ok (.iconst 1, 1) := by decide +kernel
theorem dL_isEnd_273 : decode cL_isEnd 273 = .ok (.iadd, 1) := by decide +kernel
theorem dL_isEnd_274 : decode cL_isEnd 274 = .ok (.dup2, 1) := by decide +kernel
theorem dL_isEnd_275 : decode cL_isEnd 275 = .ok (.iaload, 1) := by decide +kernel
theorem dL_isEnd_276 : decode cL_isEnd 276 = .ok (.aload_n 3, 1) := by decide +kernel
theorem dL_isEnd_277 : decode cL_isEnd 277 = .ok (.iconst 3, 1) := by decide +kernel
theorem dL_isEnd_278 : decode cL_isEnd 278 = .ok (.iload 8, 2) := by decide +kernel
theorem dL_isEnd_280 : decode cL_isEnd 280 = .ok (.imul, 1) := by decide +kernel
theorem dL_isEnd_281 : decode cL_isEnd 281 = .ok (.iconst 1, 1) := by decide +kernel
theorem dL_isEnd_282 : decode cL_isEnd 282 = .ok (.iadd, 1) := by decide +kernel
theorem dL_isEnd_283 : decode cL_isEnd 283 = .ok (.iaload, 1) := by decide +kernel
theorem dL_isEnd_284 : decode cL_isEnd 284 = .ok (.iconst 1, 1) := by decide +kernel
theorem dL_isEnd_285 : decode cL_isEnd 285 = .ok (.if_icmp .le 7, 3) := by decide +kernel
theorem dL_isEnd_288 : decode cL_isEnd 288 = .ok (.iconst 2, 1) := by decide +kernel
theorem dL_isEnd_289 : decode cL_isEnd 289 = .ok (.goto 4, 3) := by decide +kernel
theorem dL_isEnd_292 : decode cL_isEnd 292 = .ok (.iconst 0, 1) := by decide +kernel
theorem dL_isEnd_293 : decode cL_isEnd 293 = .ok (.isub, 1) := by decide +kernel
theorem dL_isEnd_294 : decode cL_isEnd 294 = .ok (.iastore, 1) := by decide +kernel
theorem dL_isEnd_295 : decode cL_isEnd 295 = .ok (.iinc 8 1, 3) := by decide +kernel
theorem dL_isEnd_298 : decode cL_isEnd 298 = .ok (.goto (-64), 3) := by decide +kernel
theorem dL_isEnd_301 : decode cL_isEnd 301 = .ok (.aload_n 0, 1) := by decide +kernel
theorem dL_isEnd_302 : decode cL_isEnd 302 = .ok (.invokevirtual 44, 3) := by decide +kernel
theorem dL_isEnd_305 : decode cL_isEnd 305 = .ok (.iload 5, 2) := by decide +kernel
theorem dL_isEnd_307 : decode cL_isEnd 307 = .ok (.if_icmp .ne 7, 3) := by decide +kernel
theorem dL_isEnd_310 : decode cL_isEnd 310 = .ok (.iconst 1, 1) := by decide +kernel
theorem dL_isEnd_311 : decode cL_isEnd 311 = .ok (.goto 4, 3) := by decide +kernel
theorem dL_isEnd_314 : decode cL_isEnd 314 = .ok (.iconst 0, 1) := by decide +kernel
theorem dL_isEnd_315 : decode cL_isEnd 315 = .ok (.ireturn, 1) := by decide +kernel
set_option maxRecDepth 20000 in
theorem ggL_isBegun_L_does : GoodIn wsL_isBegun wsL_does := goodIn_ca (goodIn_ca (goodIn_ca (goodIn_r _ [4, 5, 6, 7, 8, 9, 10, 11, 12, 13, 14, 15, 16, 17, 18, 19, 20, 21, 22, 23, 24, 25, 26, 27, 28, 29, 30, 31, 32, 33, 34, 35, 36, 37, 38, 39, 40, 41, 42, 43, 3, 44, 45, 46, 47, 48, 49, 50, 51, 52, 53, 54, 55, 56, 57, 58, 59, 60, 61, 62, 63, 64, 65, 66, 67, 68, 69, 70, 71, 72, 73, 74, 75, 76, 77, 78, 79, 80, 81, 82, 83, 84, 85, 86, 87, 88, 89, 90, 91, 92, 93, 94, 95, 96, 97, 98, 99, 100, 101, 102, 103, 104, 105, 106, 107, 108, 109, 110, 111, 112, 113, 114, 115, 116, 117, 118, 119, 120, 121, 122, 123, 124, 125, 126, 127, 128, 129, 130, 131, 132, 133, 134, 135, 136, 137, 138, 139, 140, 141, 142, 143, 144, 145, 146, 147, 148, 149, 150, 151, 152, 153, 154, 155, 156, 157, 158, 159, 160, 161, 162, 163, 164, 165, 166, 167, 168, 169, 170, 171, 172, 173, 174, 175, 176, 177, 178, 179, 180, 181, 182, 183, 184, 185, 186, 187, 188, 189, 190, 191, 192, 193, 194, 195, 196, 197, 198, 199, 200, 201, 202, 203, 204, 205, 206, 207, 208, 209, 210, 211, 212, 213, 214, 215, 216, 217, 218, 219, 220, 221, 222, 223, 224, 225, 226, 227, 228, 229, 230, 231, 232, 233, 234, 235, 236, 237, 238, 239, 240, 241, 242, 243, 244, 245, 246, 247, 248, 249, 250, 251, 252, 253, 254, 255, 256, 257, 258, 259, 260, 261, 262, 263, 264, 265, 266, 267, 268, 269, 270, 271, 272, 273] (by decide +kernel) (by decide +kernel)) (goodIn_sub (fun _ h => List.mem_cons_of_mem _ (List.mem_append_left _ (List.mem_append_left _ (List.mem_append_right _ h)))) (by decide +kernel))) (goodIn_sub (fun _ h => List.mem_cons_of_mem _ (List.mem_append_left _ (List.mem_append_right _ h))) (by decide +kernel))) (goodIn_sub (fun _ h => List.mem_cons_of_mem _ (List.mem_append_right _ h)) (by decide +kernel))
set_option maxRecDepth 20000 in
theorem gL_isBegun_L_does : GoodIn wsL_isBegun (va_wsS RL 100 yL_does wsL_does) := goodIn_app (goodIn_of _ (by decide +kernel)) ggL_isBegun_L_does
theorem dL_isBegun_0 : decode cL_isBegun 0 = .ok (.iload_n 3, 1) := by decide +kernel
theorem dL_isBegun_1 : decode cL_isBegun 1 = .ok (.iconst 5, 1) := by decide +kernel
theorem dL_isBegun_2 : decode cL_isBegun 2 = .ok (.if_icmp .gt 9, 3) := by decide +kernel
theorem dL_isBegun_5 : decode cL_isBegun 5 = .ok (.iload 4, 2) := by decide +kernel
theorem dL_isBegun_7 : decode cL_isBegun 7 = .ok (.iconst 5, 1) := by decide +kernel
theorem dL_isBegun_8 : decode cL_isBegun 8 = .ok (.if_icmp .le 8, 3) := by decide +kernel
theorem dL_isBegun_11 : decode cL_isBegun 11 = .ok (.bipush (-30), 2) := by decide +kernel
theorem dL_isBegun_13 : decode cL_isBegun 13 = .ok (.goto 27, 3) := by decide +kernel
theorem dL_isBegun_16 : decode cL_isBegun 16 = .ok (.iload_n 3, 1) := by decide +kernel
theorem dL_isBegun_17 : decode cL_isBegun 17 = .ok (.iload 4, 2) := by decide +kernel
theorem dL_isBegun_19 : decode cL_isBegun 19 = .ok (.if_icmp .ne 8, 3) := by decide +kernel
theorem dL_isBegun_22 : decode cL_isBegun 22 = .ok (.bipush (-20), 2) := by decide +kernel
theorem dL_isBegun_24 : decode cL_isBegun 24 = .ok (.goto 16, 3) := by decide +kernel
theorem dL_isBegun_27 : decode cL_isBegun 27 = .ok (.aload_n 1, 1) := by decide +kernel
theorem dL_isBegun_28 : decode cL_isBegun 28 = .ok (.bipush 14, 2) := by decide +kernel
theorem dL_isBegun_30 : decode cL_isBegun 30 = .ok (.iaload, 1) := by decide +kernel
theorem dL_isBegun_31 : decode cL_isBegun 31 = .ok (.ifCond .lt 8, 3) := by decide +kernel
theorem dL_isBegun_34 : decode cL_isBegun 34 = .ok (.bipush (-10), 2) := by decide +kernel
theorem dL_isBegun_36 : decode cL_isBegun 36 = .ok (.goto 4, 3) := by decide +kernel
theorem dL_isBegun_39 : decode cL_isBegun 39 = .ok (.iconst 0, 1) := by decide +kernel
theorem dL_isBegun_40 : decode cL_isBegun 40 = .ok (.istore 5, 2) := by decide +kernel
theorem dL_isBegun_42 : decode cL_isBegun 42 = .ok (.iload 5, 2) := by decide +kernel
theorem dL_isBegun_44 : decode cL_isBegun 44 = .ok (.ifCond .ne 66, 3) := by decide +kernel
theorem dL_isBegun_47 : decode cL_isBegun 47 = .ok (.aload_n 1, 1) := by decide +kernel
theorem dL_isBegun_48 : decode cL_isBegun 48 = .ok (.bipush 14, 2) := by decide +kernel
theorem dL_isBegun_50 : decode cL_isBegun 50 = .ok (.iconst 0, 1) := by decide +kernel
theorem dL_isBegun_51 : decode cL_isBegun 51 = .ok (.iastore, 1) := by decide +kernel
theorem dL_isBegun_52 : decode cL_isBegun 52 = .ok (.aload_n 1, 1) := by decide +kernel
theorem dL_isBegun_53 : decode cL_isBegun 53 = .ok (.bipush 15, 2) := by decide +kernel
theorem dL_isBegun_55 : decode cL_isBegun 55 = .ok (.iconst 0, 1) := by decide +kernel
theorem dL_isBegun_56 : decode cL_isBegun 56 = .ok (.iastore, 1) := by decide +kernel
theorem dL_isBegun_57 : decode cL_isBegun 57 = .ok (.aload_n 1, 1) := by decide +kernel
theorem dL_isBegun_58 : decode cL_isBegun 58 = .ok (.bipush 16, 2) := by decide +kernel
theorem dL_isBegun_60 : decode cL_isBegun 60 = .ok (.iconst 0, 1) := by decide +kernel
theorem dL_isBegun_61 : decode cL_isBegun 61 = .ok (.iastore, 1) := by decide +kernel
theorem dL_isBegun_62 : decode cL_isBegun 62 = .ok (.aload_n 1, 1) := by decide +kernel
theorem dL_isBegun_63 : decode cL_isBegun 63 = .ok (.bipush 17, 2) := by decide +kernel
theorem dL_isBegun_65 : decode cL_isBegun 65 = .ok (.iload_n 3, 1) := by decide +kernel
theorem dL_isBegun_66 : decode cL_isBegun 66 = .ok (.iastore, 1) := by decide +kernel
theorem dL_isBegun_67 : decode cL_isBegun 67 = .ok (.aload_n 1, 1) := by decide +kernel
theorem dL_isBegun_68 : decode cL_isBegun 68 = .ok (.bipush 18, 2) := by decide +kernel
theorem dL_isBegun_70 : decode cL_isBegun 70 = .ok (.iload 4, 2) := by decide +kernel
theorem dL_isBegun_72 : decode cL_isBegun 72 = .ok (.iastore, 1) := by decide +kernel
theorem dL_isBegun_73 : decode cL_isBegun 73 = .ok (.iconst 0, 1) := by decide +kernel
theorem dL_isBegun_74 : decode cL_isBegun 74 = .ok (.istore 6, 2) := by decide +kernel
theorem dL_isBegun_76 : decode cL_isBegun 76 = .ok (.iload 6, 2) := by decide +kernel
theorem dL_isBegun_78 : decode cL_isBegun 78 = .ok (.bipush 6, 2) := by decide +kernel
theorem dL_isBegun_80 : decode cL_isBegun 80 = .ok (.if_icmp .ge 30, 3) := by decide +kernel
theorem dL_isBegun_83 : decode cL_isBegun 83 = .ok (.aload_n 2, 1) := by decide +kernel
theorem dL_isBegun_84 : decode cL_isBegun 84 = .ok (.iload 6, 2) := by decide +kernel
theorem dL_isBegun_86 : decode cL_isBegun 86 = .ok (.iconst (-1), 1) := by decide +kernel
theorem dL_isBegun_87 : decode cL_isBegun 87 = .ok (.iastore, 1) := by decide +kernel
theorem dL_isBegun_88 : decode cL_isBegun 88 = .ok (.aload_n 2, 1) := by decide +kernel
theorem dL_isBegun_89 : decode cL_isBegun 89 = .ok (.bipush 6, 2) := by decide +kernel
theorem dL_isBegun_91 : decode cL_isBegun 91 = .ok (.iload 6, 2) := by decide +kernel
theorem dL_isBegun_93 : decode cL_isBegun 93 = .ok (.iadd, 1) := by decide +kernel
theorem dL_isBegun_94 : decode cL_isBegun 94 = .ok (.iconst (-1), 1) := by decide +kernel
theorem dL_isBegun_95 : decode cL_isBegun 95 = .ok (.iastore, 1) := by decide +kernel
theorem dL_isBegun_96 : decode cL_isBegun 96 = .ok (.aload_n 2, 1) := by decide +kernel
theorem dL_isBegun_97 : decode cL_isBegun 97 = .ok (.bipush 12, 2) := by decide +kernel
theorem dL_isBegun_99 : decode cL_isBegun 99 = .ok (.iload 6, 2) := by decide +kernel
theorem dL_isBegun_101 : decode cL_isBegun 101 = .ok (.iadd, 1) := by decide +kernel
theorem dL_isBegun_102 : decode cL_isBegun 102 = .ok (.iconst (-1), 1) := by decide +kernel
theorem dL_isBegun_103 : decode cL_isBegun 103 = .ok (.iastore, 1) := by decide +kernel
theorem dL_isBegun_104 : decode cL_isBegun 104 = .ok (.iinc 6 1, 3) := by decide +kernel
theorem dL_isBegun_107 : decode cL_isBegun 107 = .ok (.goto (-31), 3) := by decide +kernel
theorem dL_isBegun_110 : decode cL_isBegun 110 = .ok (.aload_n 0, 1) := by decide +kernel
theorem dL_isBegun_111 : decode cL_isBegun 111 = .ok (.iconst 2, 1) := by decide +kernel
theorem dL_isBegun_112 : decode cL_isBegun 112 = .ok (.iload_n 3, 1) := by decide +kernel
theorem dL_isBegun_113 : decode cL_isBegun 113 = .ok (.iload 4, 2) := by decide +kernel
theorem dL_isBegun_115 : decode cL_isBegun 115 = .ok (.invokestatic 100, 3) := by decide +kernel
theorem dL_isBegun_118 : decode cL_isBegun 118 = .ok (.iload 5, 2) := by decide +kernel
theorem dL_isBegun_120 : decode cL_isBegun 120 = .ok (.if_icmp .ne 7, 3) := by decide +kernel
theorem dL_isBegun_123 : decode cL_isBegun 123 = .ok (.iconst 1, 1) := by decide +kernel
theorem dL_isBegun_124 : decode cL_isBegun 124 = .ok (.goto 4, 3) := by decide +kernel
theorem dL_isBegun_127 : decode cL_isBegun 127 = .ok (.iconst 0, 1) := by decide +kernel
theorem dL_isBegun_128 : decode cL_isBegun 128 = .ok (.ireturn, 1) := by decide +kernel
set_option maxRecDepth 20000 in
theorem ggL_isDone_L_part : GoodIn wsL_isDone wsL_part := goodIn_r _ [4, 5] (by decide +kernel) (by decide +kernel)
set_option maxRecDepth 20000 in
theorem gL_isDone_L_part : GoodIn wsL_isDone (va_wsS RL 103 yL_part wsL_part) := goodIn_app (goodIn_of _ (by decide +kernel)) ggL_isDone_L_part
set_option maxRecDepth 20000 in
theorem ggL_isDone_L_isBunker : GoodIn wsL_isDone wsL_isBunker := goodIn_r _ [8] (by decide +kernel) (by decide +kernel)
set_option maxRecDepth 20000 in
theorem gL_isDone_L_isBunker : GoodIn wsL_isDone (va_wsS RL 79 yL_isBunker wsL_isBunker) := goodIn_app (goodIn_of _ (by decide +kernel)) ggL_isDone_L_isBunker
set_option maxRecDepth 20000 in
theorem ggL_isDone_L_does : GoodIn wsL_isDone wsL_does := goodIn_ca (goodIn_ca (goodIn_ca (goodIn_r _ [11, 12, 13, 14, 15, 16, 17, 18, 19, 20, 21, 22, 23, 24, 25, 26, 27, 28, 29, 30, 31, 32, 33, 34, 35, 36, 37, 38, 39, 40, 41, 42, 43, 44, 45, 46, 47, 48, 49, 50, 3, 51, 52, 53, 54, 55, 56, 57, 58, 59, 60, 61, 62, 63, 64, 65, 66, 67, 68, 69, 70, 71, 72, 73, 74, 75, 76, 77, 78, 79, 80, 81, 82, 83, 84, 85, 86, 87, 88, 89, 90, 91, 92, 93, 94, 95, 96, 97, 98, 99, 100, 101, 102, 103, 104, 105, 106, 107, 108, 109, 110, 111, 112, 113, 114, 115, 116, 117, 118, 119, 120, 121, 122, 123, 124, 125, 126, 127, 128, 129, 130, 131, 132, 133, 134, 135, 136, 137, 138, 139, 140, 141, 142, 143, 144, 145, 146, 147, 148, 149, 150, 151, 152, 153, 154, 155, 156, 157, 158, 159, 160, 161, 162, 163, 164, 165, 166, 167, 168, 169, 170, 171, 172, 173, 174, 175, 176, 177, 178, 179, 180, 181, 182, 183, 184, 185, 186, 187, 188, 189, 190, 191, 192, 193, 194, 195, 196, 197, 198, 199, 200, 201, 202, 203, 204, 205, 206, 207, 208, 209, 210, 211, 212, 213, 214, 215, 216, 217, 218, 219, 220, 221, 222, 223, 224, 225, 226, 227, 228, 229, 230, 231, 232, 233, 234, 235, 236, 237, 238, 239, 240, 241, 242, 243, 244, 245, 246, 247, 248, 249, 250, 251, 252, 253, 302, 303, 304, 305, 306, 307, 308, 309, 310, 311, 312, 313, 314, 315, 316, 317, 318, 319, 320, 321, 322, 323, 324, 325, 326, 327, 328] (by decide +kernel) (by decide +kernel)) (goodIn_sub (fun _ h => List.mem_cons_of_mem _ (List.mem_append_left _ (List.mem_append_left _ (List.mem_append_right _ h)))) (by decide +kernel))) (goodIn_sub (fun _ h => List.mem_cons_of_mem _ (List.mem_append_left _ (List.mem_append_right _ h))) (by decide +kernel))) (goodIn_sub (fun _ h => List.mem_cons_of_mem _ (List.mem_append_right _ h)) (by decide +kernel))
set_option maxRecDepth 20000 in
theorem gL_isDone_L_does : GoodIn wsL_isDone (va_wsS RL 100 yL_does wsL_does) := goodIn_app (goodIn_of _ (by decide +kernel)) ggL_isDone_L_does
end
section
set_option maxRecDepth 20000 in
theorem ggL_isDone_L_isBegun : GoodIn wsL_isDone wsL_isBegun := goodIn_ca (goodIn_ca (goodIn_ca (goodIn_r _ [256, 9, 10, 3, 11, 12, 13, 14, 15, 16, 17, 18, 19, 20, 21, 22, 23, 24, 25, 26, 27, 28, 29, 30, 31, 32, 33, 34, 35, 36, 37, 38, 39, 40, 41, 42, 43, 44, 45, 46, 47, 48, 49, 50, 51, 52, 53, 54, 55, 56, 57, 58, 59, 60, 61, 62, 63, 64, 65, 66, 67, 68, 69, 70, 71, 72, 73, 74, 75, 76, 77, 78, 79, 80, 81, 82, 83, 84, 85, 86, 87, 88, 89, 90, 91, 92, 93, 94, 95, 96, 97, 98, 99, 100, 101, 102, 103, 104, 105, 106, 107, 108, 109, 110, 111, 112, 113, 114, 115, 116, 117, 118, 119, 120, 121, 122, 123, 124, 125, 126, 127, 128, 129, 130, 131, 132, 133, 134, 135, 136, 137, 138, 139, 140, 141, 142, 143, 144, 145, 146, 147, 148, 149, 150, 151, 152, 153, 154, 155, 156, 157, 158, 159, 160, 161, 162, 163, 164, 165, 166, 167, 168, 169, 170, 171, 172, 173, 174, 175, 176, 177, 178, 179, 180, 181, 182, 183, 184, 185, 186, 187, 188, 189, 190, 191, 192, 193, 194, 195, 196, 197, 198, 199, 200, 201, 202, 203, 204, 205, 206, 207, 208, 209, 210, 211, 212, 213, 214, 215, 216, 217, 218, 219, 220, 221, 222, 223, 224, 225, 226, 227, 228, 229, 230, 231, 232, 233, 234, 235, 236, 237, 238, 239, 240, 241, 242, 243, 244, 245, 246, 247, 248, 249, 250, 251, 252, 253, 302, 303, 304, 305, 306, 307, 308, 309, 310, 311, 312, 313, 314, 315, 316, 317, 318, 319, 320, 321, 322, 323, 324, 325, 326, 327, 328] (by decide +kernel) (by decide +kernel)) (goodIn_sub (fun _ h => List.mem_cons_of_mem _ (List.mem_append_left _ (List.mem_append_left _ (List.mem_append_right _ h)))) (by decide +kernel))) (goodIn_sub (fun _ h => List.mem_cons_of_mem _ (List.mem_append_left _ (List.mem_append_right _ h))) (by decide +kernel))) (goodIn_sub (fun _ h => List.mem_cons_of_mem _ (List.mem_append_right _ h)) (by decide +kernel))
set_option maxRecDepth 20000 in
theorem gL_isDone_L_isBegun : GoodIn wsL_isDone (va_wsS RL 107 yL_isBegun wsL_isBegun) := goodIn_app (goodIn_of _ (by decide +kernel)) ggL_isDone_L_isBegun
set_option maxRecDepth 20000 in
theorem ggL_isDone_L_isMove : GoodIn wsL_isDone wsL_isMove := goodIn_ca (goodIn_ca (goodIn_ca (goodIn_r _ [259, 260, 261, 3, 262, 263, 264, 265, 6, 7, 8, 9, 10, 11, 12, 13, 14, 15, 16, 17, 18, 19, 20, 21, 22, 23, 24, 25, 26, 27, 28, 29, 30, 31, 32, 33, 34, 35, 36, 37, 38, 39, 40, 41, 42, 43, 44, 45, 46, 47, 48, 49, 50, 51, 52, 53, 54, 55, 56, 57, 58, 59, 60, 61, 62, 63, 64, 65, 66, 67, 68, 69, 70, 71, 72, 73, 74, 75, 76, 77, 78, 79, 80, 81, 82, 83, 84, 85, 86, 87, 88, 89, 90, 91, 92, 93, 94, 95, 96, 97, 98, 99, 100, 101, 102, 103, 104, 105, 106, 107, 108, 109, 110, 111, 112, 113, 114, 115, 116, 117, 118, 119, 120, 121, 122, 123, 124, 125, 126, 127, 128, 129, 130, 131, 132, 133, 134, 135, 136, 137, 138, 139, 140, 141, 142, 143, 144, 145, 146, 147, 148, 149, 150, 151, 152, 153, 154, 155, 156, 157, 158, 159, 160, 161, 162, 163, 164, 165, 166, 167, 168, 169, 170, 171, 172, 173, 174, 175, 176, 177, 178, 179, 180, 181, 182, 183, 184, 185, 186, 187, 188, 189, 190, 191, 192, 193, 194, 195, 196, 197, 198, 199, 200, 201, 202, 203, 204, 205, 206, 207, 208, 209, 210, 211, 212, 213, 214, 215, 216, 217, 218, 219, 220, 221, 222, 223, 224, 225, 226, 227, 228, 229, 230, 231, 232, 233, 234, 235, 236, 237, 238, 239, 240, 241, 242, 243, 244, 245, 246, 247, 248, 249, 250, 251, 252, 253, 302, 303, 304, 305, 306, 307, 308, 309, 310, 311, 312, 313, 314, 315, 316, 317, 318, 319, 320, 321, 322, 323, 324, 325, 326, 327, 328] (by decide +kernel) (by decide +kernel)) (goodIn_sub (fun _ h => List.mem_cons_of_mem _ (List.mem_append_left _ (List.mem_append_left _ (List.mem_append_right _ h)))) (by decide +kernel))) (goodIn_sub (fun _ h => List.mem_cons_of_mem _ (List.mem_append_left _ (List.mem_append_right _ h))) (by decide +kernel))) (goodIn_sub (fun _ h => List.mem_cons_of_mem _ (List.mem_append_right _ h)) (by decide +kernel))
set_option maxRecDepth 20000 in
theorem gL_isDone_L_isMove : GoodIn wsL_isDone (va_wsS RL 111 yL_isMove wsL_isMove) := goodIn_app (goodIn_of _ (by decide +kernel)) ggL_isDone_L_isMove
set_option maxRecDepth 20000 in
theorem ggL_isDone_L_isShot : GoodIn wsL_isDone wsL_isShot := goodIn_ca (goodIn_ca (goodIn_ca (goodIn_r _ [268, 260, 261, 3, 262, 269, 270, 271, 18, 272, 22, 273, 274, 275, 32, 276, 74, 75, 146, 34, 9, 10, 11, 12, 13, 14, 15, 16, 17, 19, 20, 21, 23, 24, 25, 26, 27, 28, 29, 30, 31, 33, 35, 36, 37, 38, 39, 40, 41, 42, 43, 44, 45, 46, 47, 48, 49, 50, 51, 52, 53, 54, 55, 56, 57, 58, 59, 60, 61, 62, 63, 64, 65, 66, 67, 68, 69, 70, 71, 72, 73, 76, 77, 78, 79, 80, 81, 82, 83, 84, 85, 86, 87, 88, 89, 90, 91, 92, 93, 94, 95, 96, 97, 98, 99, 100, 101, 102, 103, 104, 105, 106, 107, 108, 109, 110, 111, 112, 113, 114, 115, 116, 117, 118, 119, 120, 121, 122, 123, 124, 125, 126, 127, 128, 129, 130, 131, 132, 133, 134, 135, 136, 137, 138, 139, 140, 141, 142, 143, 144, 145, 147, 148, 149, 150, 151, 152, 153, 154, 155, 156, 157, 158, 159, 160, 161, 162, 163, 164, 165, 166, 167, 168, 169, 170, 171, 172, 173, 174, 175, 176, 177, 178, 179, 180, 181, 182, 183, 184, 185, 186, 187, 188, 189, 190, 191, 192, 193, 194, 195, 196, 197, 198, 199, 200, 201, 202, 203, 204, 205, 206, 207, 208, 209, 210, 211, 212, 213, 214, 215, 216, 217, 218, 219, 220, 221, 222, 223, 224, 225, 226, 227, 228, 229, 230, 231, 232, 233, 234, 235, 236, 237, 238, 239, 240, 241, 242, 243, 244, 245, 246, 247, 248, 249, 250, 251, 252, 253, 302, 303, 304, 305, 306, 307, 308, 309, 310, 311, 312, 313, 315, 316, 317, 318, 319, 314, 320, 321, 322, 323, 324, 325, 326, 327, 328] (by decide +kernel) (by decide +kernel)) (goodIn_sub (fun _ h => List.mem_cons_of_mem _ (List.mem_append_left _ (List.mem_append_left _ (List.mem_append_right _ h)))) (by decide +kernel))) (goodIn_sub (fun _ h => List.mem_cons_of_mem _ (List.mem_append_left _ (List.mem_append_right _ h))) (by decide +kernel))) (goodIn_sub (fun _ h => List.mem_cons_of_mem _ (List.mem_append_right _ h)) (by decide +kernel))
set_option maxRecDepth 20000 in
theorem gL_isDone_L_isShot : GoodIn wsL_isDone (va_wsS RL 114 yL_isShot wsL_isShot) := goodIn_app (goodIn_of _ (by decide +kernel)) ggL_isDone_L_isShot
set_option maxRecDepth 20000 in
theorem ggL_isDone_X5_flying : GoodIn wsL_isDone wsX5_flying := goodIn_r _ [272, 22, 273, 274, 275, 32, 276, 74, 75, 146, 34, 302, 303, 304, 305, 306, 307, 308, 309, 310, 311, 312, 313, 315, 316, 317, 318, 319] (by decide +kernel) (by decide +kernel)
set_option maxRecDepth 20000 in
theorem gL_isDone_X5_flying : GoodIn wsL_isDone (wsV RL 93 RX5 yX5_flying wsX5_flying) := goodIn_app (goodIn_of _ (by decide +kernel)) ggL_isDone_X5_flying
end
section
set_option maxRecDepth 20000 in
theorem ggL_isDone_L_isCall : GoodIn wsL_isDone wsL_isCall := goodIn_ca (goodIn_ca (goodIn_ca (goodIn_r _ [279, 280, 281, 282, 18, 283, 23, 24, 25, 26, 27, 28, 169, 156, 157, 38, 158, 40, 159, 160, 98, 161, 100, 101, 102, 162, 163, 164, 96, 97, 99, 9, 10, 3, 11, 12, 13, 14, 15, 16, 17, 19, 20, 21, 22, 29, 30, 31, 32, 33, 34, 35, 36, 37, 39, 41, 42, 43, 44, 45, 46, 47, 48, 49, 50, 51, 52, 53, 54, 55, 56, 57, 58, 59, 60, 61, 62, 63, 64, 65, 66, 67, 68, 69, 70, 71, 72, 73, 74, 75, 76, 77, 78, 79, 80, 81, 82, 83, 84, 85, 86, 87, 88, 89, 90, 91, 92, 93, 94, 95, 103, 104, 105, 106, 107, 108, 109, 110, 111, 112, 113, 114, 115, 116, 117, 118, 119, 120, 121, 122, 123, 124, 125, 126, 127, 128, 129, 130, 131, 132, 133, 134, 135, 136, 137, 138, 139, 140, 141, 142, 143, 144, 145, 146, 147, 148, 149, 150, 151, 152, 153, 154, 155, 165, 166, 167, 168, 170, 171, 172, 173, 174, 175, 176, 177, 178, 179, 180, 181, 182, 183, 184, 185, 186, 187, 188, 189, 190, 191, 192, 193, 194, 195, 196, 197, 198, 199, 200, 201, 202, 203, 204, 205, 206, 207, 208, 209, 210, 211, 212, 213, 214, 215, 216, 217, 218, 219, 220, 221, 222, 223, 224, 225, 226, 227, 228, 229, 230, 231, 232, 233, 234, 235, 236, 237, 238, 239, 240, 241, 242, 243, 244, 245, 246, 247, 248, 249, 250, 251, 252, 253, 302, 303, 304, 305, 314, 306, 307, 308, 309, 310, 311, 312, 313, 315, 316, 317, 318, 319, 320, 321, 322, 323, 324, 325, 326, 327, 328] (by decide +kernel) (by decide +kernel)) (goodIn_sub (fun _ h => List.mem_cons_of_mem _ (List.mem_append_left _ (List.mem_append_right _ h))) (by decide +kernel))) (goodIn_sub (fun _ h => List.mem_cons_of_mem _ (List.mem_append_left _ (List.mem_append_left _ (List.mem_append_right _ h)))) (by decide +kernel))) (goodIn_sub (fun _ h => List.mem_cons_of_mem _ (List.mem_append_right _ h)) (by decide +kernel))
set_option maxRecDepth 20000 in
theorem gL_isDone_L_isCall : GoodIn wsL_isDone (va_wsS RL 117 yL_isCall wsL_isCall) := goodIn_app (goodIn_of _ (by decide +kernel)) ggL_isDone_L_isCall
set_option maxRecDepth 20000 in
theorem ggL_isDone_L_isDispute : GoodIn wsL_isDone wsL_isDispute := goodIn_ca (goodIn_ca (goodIn_ca (goodIn_r _ [286, 9, 10, 3, 11, 12, 13, 14, 15, 16, 17, 18, 19, 20, 21, 22, 23, 24, 25, 26, 27, 28, 29, 30, 31, 32, 33, 34, 35, 36, 37, 38, 39, 40, 41, 42, 43, 44, 45, 46, 47, 48, 49, 50, 51, 52, 53, 54, 55, 56, 57, 58, 59, 60, 61, 62, 63, 64, 65, 66, 67, 68, 69, 70, 71, 72, 73, 74, 75, 76, 77, 78, 79, 80, 81, 82, 83, 84, 85, 86, 87, 88, 89, 90, 91, 92, 93, 94, 95, 96, 97, 98, 99, 100, 101, 102, 103, 104, 105, 106, 107, 108, 109, 110, 111, 112, 113, 114, 115, 116, 117, 118, 119, 120, 121, 122, 123, 124, 125, 126, 127, 128, 129, 130, 131, 132, 133, 134, 135, 136, 137, 138, 139, 140, 141, 142, 143, 144, 145, 146, 147, 148, 149, 150, 151, 152, 153, 154, 155, 156, 157, 158, 159, 160, 161, 162, 163, 164, 165, 166, 167, 168, 169, 170, 171, 172, 173, 174, 175, 176, 177, 178, 179, 180, 181, 182, 183, 184, 185, 186, 187, 188, 189, 190, 191, 192, 193, 194, 195, 196, 197, 198, 199, 200, 201, 202, 203, 204, 205, 206, 207, 208, 209, 210, 211, 212, 213, 214, 215, 216, 217, 218, 219, 220, 221, 222, 223, 224, 225, 226, 227, 228, 229, 230, 231, 232, 233, 234, 235, 236, 237, 238, 239, 240, 241, 242, 243, 244, 245, 246, 247, 248, 249, 250, 251, 252, 253, 263, 264, 265, 6, 7, 8, 302, 303, 304, 305, 306, 307, 308, 309, 310, 311, 312, 313, 314, 315, 316, 317, 318, 319, 320, 321, 322, 323, 324, 325, 326, 327, 328] (by decide +kernel) (by decide +kernel)) (goodIn_sub (fun _ h => List.mem_cons_of_mem _ (List.mem_append_left _ (List.mem_append_left _ (List.mem_append_right _ h)))) (by decide +kernel))) (goodIn_sub (fun _ h => List.mem_cons_of_mem _ (List.mem_append_left _ (List.mem_append_right _ h))) (by decide +kernel))) (goodIn_sub (fun _ h => List.mem_cons_of_mem _ (List.mem_append_right _ h)) (by decide +kernel))
set_option maxRecDepth 20000 in
theorem gL_isDone_L_isDispute : GoodIn wsL_isDone (va_wsS RL 121 yL_isDispute wsL_isDispute) := goodIn_app (goodIn_of _ (by decide +kernel)) ggL_isDone_L_isDispute
set_option maxRecDepth 20000 in
theorem ggL_isDone_L_isEnd : GoodIn wsL_isDone wsL_isEnd := goodIn_ca (goodIn_ca (goodIn_ca (goodIn_r _ [289, 9, 10, 3, 11, 12, 13, 14, 15, 16, 17, 18, 19, 20, 21, 22, 23, 24, 25, 26, 27, 28, 29, 30, 31, 32, 33, 34, 35, 36, 37, 38, 39, 40, 41, 42, 43, 44, 45, 46, 47, 48, 49, 50, 51, 52, 53, 54, 55, 56, 57, 58, 59, 60, 61, 62, 63, 64, 65, 66, 67, 68, 69, 70, 71, 72, 73, 74, 75, 76, 77, 78, 79, 80, 81, 82, 83, 84, 85, 86, 87, 88, 89, 90, 91, 92, 93, 94, 95, 96, 97, 98, 99, 100, 101, 102, 103, 104, 105, 106, 107, 108, 109, 110, 111, 112, 113, 114, 115, 116, 117, 118, 119, 120, 121, 122, 123, 124, 125, 126, 127, 128, 129, 130, 131, 132, 133, 134, 135, 136, 137, 138, 139, 140, 141, 142, 143, 144, 145, 146, 147, 148, 149, 150, 151, 152, 153, 154, 155, 156, 157, 158, 159, 160, 161, 162, 163, 164, 165, 166, 167, 168, 169, 170, 171, 172, 173, 174, 175, 176, 177, 178, 179, 180, 181, 182, 183, 184, 185, 186, 187, 188, 189, 190, 191, 192, 193, 194, 195, 196, 197, 198, 199, 200, 201, 202, 203, 204, 205, 206, 207, 208, 209, 210, 211, 212, 213, 214, 215, 216, 217, 218, 219, 220, 221, 222, 223, 224, 225, 226, 227, 228, 229, 230, 231, 232, 233, 234, 235, 236, 237, 238, 239, 240, 241, 242, 243, 244, 245, 246, 247, 248, 249, 250, 251, 252, 253, 302, 303, 304, 305, 306, 307, 308, 309, 310, 311, 312, 313, 314, 315, 316, 317, 318, 319, 320, 321, 322, 323, 324, 325, 326, 327, 328] (by decide +kernel) (by decide +kernel)) (goodIn_sub (fun _ h => List.mem_cons_of_mem _ (List.mem_append_left _ (List.mem_append_left _ (List.mem_append_right _ h)))) (by decide +kernel))) (goodIn_sub (fun _ h => List.mem_cons_of_mem _ (List.mem_append_left _ (List.mem_append_right _ h))) (by decide +kernel))) (goodIn_sub (fun _ h => List.mem_cons_of_mem _ (List.mem_append_right _ h)) (by decide +kernel))
set_option maxRecDepth 20000 in
theorem gL_isDone_L_isEnd : GoodIn wsL_isDone (va_wsS RL 125 yL_isEnd wsL_isEnd) := goodIn_app (goodIn_of _ (by decide +kernel)) ggL_isDone_L_isEnd
set_option maxRecDepth 20000 in
theorem ggL_isDone_L_isView : GoodIn wsL_isDone wsL_isView := goodIn_ca (goodIn_r _ [292, 280, 281, 282, 18, 283, 23, 24, 25, 26, 27, 28, 169, 156, 157, 38, 158, 40, 159, 160, 98, 161, 100, 101, 102, 162, 163, 164, 96, 97, 99, 293, 294, 295, 296, 297, 298, 299, 300, 301, 6, 7, 3, 8, 302, 303, 304, 305, 314] (by decide +kernel) (by decide +kernel)) (goodIn_sub (fun _ h => List.mem_cons_of_mem _ (List.mem_append_left _ (List.mem_append_right _ h))) (by decide +kernel))
set_option maxRecDepth 20000 in
theorem gL_isDone_L_isView : GoodIn wsL_isDone (va_wsS RL 129 yL_isView wsL_isView) := goodIn_app (goodIn_of _ (by decide +kernel)) ggL_isDone_L_isView
end
section
theorem dL_isDone_0 : decode cL_isDone 0 = .ok (.aload_n 1, 1) := by decide +kernel
theorem dL_isDone_1 : decode cL_isDone 1 = .ok (.iload_n 2, 1) := by decide +kernel
theorem dL_isDone_2 : decode cL_isDone 2 = .ok (.bipush 40, 2) := by decide +kernel
theorem dL_isDone_4 : decode cL_isDone 4 = .ok (.invokestatic 103, 3) := by decide +kernel
theorem dL_isDone_7 : decode cL_isDone 7 = .ok (.istore 8, 2) := by decide +kernel
theorem dL_isDone_9 : decode cL_isDone 9 = .ok (.aload_n 1, 1) := by decide +kernel
theorem dL_isDone_10 : decode cL_isDone 10 = .ok (.iload_n 2, 1) := by decide +kernel
theorem dL_isDone_11 : decode cL_isDone 11 = .ok (.iconst 1, 1) := by decide +kernel
theorem dL_isDone_12 : decode cL_isDone 12 = .ok (.iadd, 1) := by decide +kernel
theorem dL_isDone_13 : decode cL_isDone 13 = .ok (.sipush 6000, 3) := by decide +kernel
theorem dL_isDone_16 : decode cL_isDone 16 = .ok (.invokestatic 103, 3) := by decide +kernel
theorem dL_isDone_19 : decode cL_isDone 19 = .ok (.istore 9, 2) := by decide +kernel
theorem dL_isDone_21 : decode cL_isDone 21 = .ok (.aload_n 1, 1) := by decide +kernel
theorem dL_isDone_22 : decode cL_isDone 22 = .ok (.iload_n 2, 1) := by decide +kernel
theorem dL_isDone_23 : decode cL_isDone 23 = .ok (.iconst 2, 1) := by decide +kernel
theorem dL_isDone_24 : decode cL_isDone 24 = .ok (.iadd, 1) := by decide +kernel
theorem dL_isDone_25 : decode cL_isDone 25 = .ok (.sipush 7000, 3) := by decide +kernel
theorem dL_isDone_28 : decode cL_isDone 28 = .ok (.invokestatic 103, 3) := by decide +kernel
theorem dL_isDone_31 : decode cL_isDone 31 = .ok (.istore 10, 2) := by decide +kernel
theorem dL_isDone_33 : decode cL_isDone 33 = .ok (.iload 9, 2) := by decide +kernel
theorem dL_isDone_35 : decode cL_isDone 35 = .ok (.bipush 30, 2) := by decide +kernel
theorem dL_isDone_37 : decode cL_isDone 37 = .ok (.irem, 1) := by decide +kernel
theorem dL_isDone_38 : decode cL_isDone 38 = .ok (.ifCond .ne 8, 3) := by decide +kernel
theorem dL_isDone_41 : decode cL_isDone 41 = .ok (.bipush 6, 2) := by decide +kernel
theorem dL_isDone_43 : decode cL_isDone 43 = .ok (.goto 8, 3) := by decide +kernel
theorem dL_isDone_46 : decode cL_isDone 46 = .ok (.iload 9, 2) := by decide +kernel
theorem dL_isDone_48 : decode cL_isDone 48 = .ok (.bipush 6, 2) := by decide +kernel
theorem dL_isDone_50 : decode cL_isDone 50 = .ok (.irem, 1) := by decide +kernel
theorem dL_isDone_51 : decode cL_isDone 51 = .ok (.istore 11, 2) := by decide +kernel
theorem dL_isDone_53 : decode cL_isDone 53 = .ok (.iload 10, 2) := by decide +kernel
theorem dL_isDone_55 : decode cL_isDone 55 = .ok (.bipush 40, 2) := by decide +kernel
theorem dL_isDone_57 : decode cL_isDone 57 = .ok (.irem, 1) := by decide +kernel
theorem dL_isDone_58 : decode cL_isDone 58 = .ok (.ifCond .ne 9, 3) := by decide +kernel
theorem dL_isDone_61 : decode cL_isDone 61 = .ok (.sipush 144, 3) := by decide +kernel
theorem dL_isDone_64 : decode cL_isDone 64 = .ok (.goto 20, 3) := by decide +kernel
theorem dL_isDone_67 : decode cL_isDone 67 = .ok (.bipush 12, 2) := by decide +kernel
theorem dL_isDone_69 : decode cL_isDone 69 = .ok (.iload 10, 2) := by decide +kernel
theorem dL_isDone_71 : decode cL_isDone 71 = .ok (.bipush 6, 2) := by decide +kernel
theorem dL_isDone_73 : decode cL_isDone 73 = .ok (.irem, 1) := by decide +kernel
theorem dL_isDone_74 : decode cL_isDone 74 = .ok (.imul, 1) := by decide +kernel
theorem dL_isDone_75 : decode cL_isDone 75 = .ok (.iload 10, 2) := by decide +kernel
theorem dL_isDone_77 : decode cL_isDone 77 = .ok (.bipush 6, 2) := by decide +kernel
theorem dL_isDone_79 : decode cL_isDone 79 = .ok (.idiv, 1) := by decide +kernel
theorem dL_isDone_80 : decode cL_isDone 80 = .ok (.bipush 7, 2) := by decide +kernel
theorem dL_isDone_82 : decode cL_isDone 82 = .ok (.irem, 1) := by decide +kernel
theorem dL_isDone_83 : decode cL_isDone 83 = .ok (.iadd, 1) := by decide +kernel
theorem dL_isDone_84 : decode cL_isDone 84 = .ok (.istore 12, 2) := by decide +kernel
theorem dL_isDone_86 : decode cL_isDone 86 = .ok (.iload 8, 2) := by decide +kernel
theorem dL_isDone_88 : decode cL_isDone 88 = .ok (.bipush 6, 2) := by decide +kernel
theorem dL_isDone_90 : decode cL_isDone 90 = .ok (.if_icmp .ge 85, 3) := by decide +kernel
theorem dL_isDone_93 : decode cL_isDone 93 = .ok (.iload 12, 2) := by decide +kernel
theorem dL_isDone_95 : decode cL_isDone 95 = .ok (.sipush 144, 3) := by decide +kernel
theorem dL_isDone_98 : decode cL_isDone 98 = .ok (.if_icmp .ne 8, 3) := by decide +kernel
theorem dL_isDone_101 : decode cL_isDone 101 = .ok (.bipush (-30), 2) := by decide +kernel
theorem dL_isDone_103 : decode cL_isDone 103 = .ok (.goto 29, 3) := by decide +kernel
theorem dL_isDone_106 : decode cL_isDone 106 = .ok (.aload_n 3, 1) := by decide +kernel
theorem dL_isDone_107 : decode cL_isDone 107 = .ok (.bipush 14, 2) := by decide +kernel
theorem dL_isDone_109 : decode cL_isDone 109 = .ok (.iaload, 1) := by decide +kernel
theorem dL_isDone_110 : decode cL_isDone 110 = .ok (.ifCond .lt 8, 3) := by decide +kernel
theorem dL_isDone_113 : decode cL_isDone 113 = .ok (.bipush (-10), 2) := by decide +kernel
theorem dL_isDone_115 : decode cL_isDone 115 = .ok (.goto 17, 3) := by decide +kernel
theorem dL_isDone_118 : decode cL_isDone 118 = .ok (.aload_n 3, 1) := by decide +kernel
theorem dL_isDone_119 : decode cL_isDone 119 = .ok (.iload 12, 2) := by decide +kernel
theorem dL_isDone_121 : decode cL_isDone 121 = .ok (.invokestatic 79, 3) := by decide +kernel
theorem dL_isDone_124 : decode cL_isDone 124 = .ok (.ifCond .eq 7, 3) := by decide +kernel
theorem dL_isDone_127 : decode cL_isDone 127 = .ok (.iconst 0, 1) := by decide +kernel
theorem dL_isDone_128 : decode cL_isDone 128 = .ok (.goto 4, 3) := by decide +kernel
theorem dL_isDone_131 : decode cL_isDone 131 = .ok (.iconst 1, 1) := by decide +kernel
theorem dL_isDone_132 : decode cL_isDone 132 = .ok (.istore 13, 2) := by decide +kernel
theorem dL_isDone_134 : decode cL_isDone 134 = .ok (.iload 13, 2) := by decide +kernel
theorem dL_isDone_136 : decode cL_isDone 136 = .ok (.ifCond .lt 20, 3) := by decide +kernel
theorem dL_isDone_139 : decode cL_isDone 139 = .ok (.aload_n 3, 1) := by decide +kernel
theorem dL_isDone_140 : decode cL_isDone 140 = .ok (.iload 12, 2) := by decide +kernel
theorem dL_isDone_142 : decode cL_isDone 142 = .ok (.bipush 12, 2) := by decide +kernel
theorem dL_isDone_144 : decode cL_isDone 144 = .ok (.idiv, 1) := by decide +kernel
theorem dL_isDone_145 : decode cL_isDone 145 = .ok (.dup2, 1) := by decide +kernel
theorem dL_isDone_146 : decode cL_isDone 146 = .ok (.iaload, 1) := by decide +kernel
theorem dL_isDone_147 : decode cL_isDone 147 = .ok (.iconst 1, 1) := by decide +kernel
theorem dL_isDone_148 : decode cL_isDone 148 = .ok (.iload 12, 2) := by decide +kernel
theorem dL_isDone_150 : decode cL_isDone 150 = .ok (.bipush 12, 2) := by decide +kernel
theorem dL_isDone_152 : decode cL_isDone 152 = .ok (.irem, 1) := by decide +kernel
theorem dL_isDone_153 : decode cL_isDone 153 = .ok (.ishl, 1) := by decide +kernel
theorem dL_isDone_154 : decode cL_isDone 154 = .ok (.ixor, 1) := by decide +kernel
theorem dL_isDone_155 : decode cL_isDone 155 = .ok (.iastore, 1) := by decide +kernel
theorem dL_isDone_156 : decode cL_isDone 156 = .ok (.aload_n 0, 1) := by decide +kernel
theorem dL_isDone_157 : decode cL_isDone 157 = .ok (.iconst 0, 1) := by decide +kernel
theorem dL_isDone_158 : decode cL_isDone 158 = .ok (.iload 12, 2) := by decide +kernel
theorem dL_isDone_160 : decode cL_isDone 160 = .ok (.iconst 0, 1) := by decide +kernel
theorem dL_isDone_161 : decode cL_isDone 161 = .ok (.invokestatic 100, 3) := by decide +kernel
theorem dL_isDone_164 : decode cL_isDone 164 = .ok (.iload 13, 2) := by decide +kernel
theorem dL_isDone_166 : decode cL_isDone 166 = .ok (.if_icmp .ne 7, 3) := by decide +kernel
theorem dL_isDone_169 : decode cL_isDone 169 = .ok (.iconst 1, 1) := by decide +kernel
theorem dL_isDone_170 : decode cL_isDone 170 = .ok (.goto 4, 3) := by decide +kernel
theorem dL_isDone_173 : decode cL_isDone 173 = .ok (.iconst 0, 1) := by decide +kernel
theorem dL_isDone_174 : decode cL_isDone 174 = .ok (.ireturn, 1) := by decide +kernel
theorem dL_isDone_175 : decode cL_isDone 175 = .ok (.iload 8, 2) := by decide +kernel
theorem dL_isDone_177 : decode cL_isDone 177 = .ok (.bipush 6, 2) := by decide +kernel
theorem dL_isDone_179 : decode cL_isDone 179 = .ok (.if_icmp .ne 71, 3) := by decide +kernel
theorem dL_isDone_182 : decode cL_isDone 182 = .ok (.iload 9, 2) := by decide +kernel
theorem dL_isDone_184 : decode cL_isDone 184 = .ok (.iconst 3, 1) := by decide +kernel
theorem dL_isDone_185 : decode cL_isDone 185 = .ok (.irem, 1) := by decide +kernel
theorem dL_isDone_186 : decode cL_isDone 186 = .ok (.istore 13, 2) := by decide +kernel
theorem dL_isDone_188 : decode cL_isDone 188 = .ok (.iload 13, 2) := by decide +kernel
theorem dL_isDone_190 : decode cL_isDone 190 = .ok (.iconst 2, 1) := by decide +kernel
theorem dL_isDone_191 : decode cL_isDone 191 = .ok (.if_icmp .eq 11, 3) := by decide +kernel
theorem dL_isDone_194 : decode cL_isDone 194 = .ok (.iload 12, 2) := by decide +kernel
theorem dL_isDone_196 : decode cL_isDone 196 = .ok (.sipush 144, 3) := by decide +kernel
theorem dL_isDone_199 : decode cL_isDone 199 = .ok (.if_icmp .ne 8, 3) := by decide +kernel
theorem dL_isDone_202 : decode cL_isDone 202 = .ok (.bipush (-30), 2) := by decide +kernel
theorem dL_isDone_204 : decode cL_isDone 204 = .ok (.goto 10, 3) := by decide +kernel
theorem dL_isDone_207 : decode cL_isDone 207 = .ok (.aload_n 3, 1) := by decide +kernel
theorem dL_isDone_208 : decode cL_isDone 208 = .ok (.bipush 12, 2) := by decide +kernel
theorem dL_isDone_210 : decode cL_isDone 210 = .ok (.iload 13, 2) := by decide +kernel
theorem dL_isDone_212 : decode cL_isDone 212 = .ok (.iadd, 1) := by decide +kernel
theorem dL_isDone_213 : decode cL_isDone 213 = .ok (.iaload, 1) := by decide +kernel
theorem dL_isDone_214 : decode cL_isDone 214 = .ok (.istore 14, 2) := by decide +kernel
theorem dL_isDone_216 : decode cL_isDone 216 = .ok (.iload 14, 2) := by decide +kernel
theorem dL_isDone_218 : decode cL_isDone 218 = .ok (.ifCond .lt 12, 3) := by decide +kernel
theorem dL_isDone_221 : decode cL_isDone 221 = .ok (.aload_n 3, 1) := by decide +kernel
theorem dL_isDone_222 : decode cL_isDone 222 = .ok (.bipush 12, 2) := by decide +kernel
theorem dL_isDone_224 : decode cL_isDone 224 = .ok (.iload 13, 2) := by decide +kernel
theorem dL_isDone_226 : decode cL_isDone 226 = .ok (.iadd, 1) := by decide +kernel
theorem dL_isDone_227 : decode cL_isDone 227 = .ok (.iload 12, 2) := by decide +kernel
theorem dL_isDone_229 : decode cL_isDone 229 = .ok (.iastore, 1) := by decide +kernel
theorem dL_isDone_230 : decode cL_isDone 230 = .ok (.aload_n 0, 1) := by decide +kernel
theorem dL_isDone_231 : decode cL_isDone 231 = .ok (.iconst 1, 1) := by decide +kernel
theorem dL_isDone_232 : decode cL_isDone 232 = .ok (.iload 13, 2) := by decide +kernel
theorem dL_isDone_234 : decode cL_isDone 234 = .ok (.iload 12, 2) := by decide +kernel
theorem dL_isDone_236 : decode cL_isDone 236 = .ok (.invokestatic 100, 3) := by decide +kernel
theorem dL_isDone_239 : decode cL_isDone 239 = .ok (.iload 14, 2) := by decide +kernel
theorem dL_isDone_241 : decode cL_isDone 241 = .ok (.if_icmp .ne 7, 3) := by decide +kernel
theorem dL_isDone_244 : decode cL_isDone 244 = .ok (.iconst 1, 1) := by decide +kernel
theorem dL_isDone_245 : decode cL_isDone 245 = .ok (.goto 4, 3) := by decide +kernel
theorem dL_isDone_248 : decode cL_isDone 248 = .ok (.iconst 0, 1) := by decide +kernel
theorem dL_isDone_249 : decode cL_isDone 249 = .ok (.ireturn, 1) := by decide +kernel
theorem dL_isDone_250 : decode cL_isDone 250 = .ok (.iload 8, 2) := by decide +kernel
theorem dL_isDone_252 : decode cL_isDone 252 = .ok (.bipush 11, 2) := by decide +kernel
theorem dL_isDone_254 : decode cL_isDone 254 = .ok (.if_icmp .ge 21, 3) := by decide +kernel
theorem dL_isDone_257 : decode cL_isDone 257 = .ok (.aload_n 0, 1) := by decide +kernel
theorem dL_isDone_258 : decode cL_isDone 258 = .ok (.aload_n 3, 1) := by decide +kernel
theorem dL_isDone_259 : decode cL_isDone 259 = .ok (.aload 4, 2) := by decide +kernel
theorem dL_isDone_261 : decode cL_isDone 261 = .ok (.iload 9, 2) := by decide +kernel
theorem dL_isDone_263 : decode cL_isDone 263 = .ok (.bipush 7, 2) := by decide +kernel
theorem dL_isDone_265 : decode cL_isDone 265 = .ok (.irem, 1) := by decide +kernel
theorem dL_isDone_266 : decode cL_isDone 266 = .ok (.iload 10, 2) := by decide +kernel
theorem dL_isDone_268 : decode cL_isDone 268 = .ok (.bipush 6, 2) := by decide +kernel
theorem dL_isDone_270 : decode cL_isDone 270 = .ok (.irem, 1) := by decide +kernel
theorem dL_isDone_271 : decode cL_isDone 271 = .ok (.invokestatic 107, 3) := by decide +kernel
theorem dL_isDone_274 : decode cL_isDone 274 = .ok (.ireturn, 1) := by decide +kernel
theorem dL_isDone_275 : decode cL_isDone 275 = .ok (.iload 8, 2) := by decide +kernel
theorem dL_isDone_277 : decode cL_isDone 277 = .ok (.bipush 20, 2) := by decide +kernel
theorem dL_isDone_279 : decode cL_isDone 279 = .ok (.if_icmp .ge 72, 3) := by decide +kernel
theorem dL_isDone_282 : decode cL_isDone 282 = .ok (.iload 11, 2) := by decide +kernel
theorem dL_isDone_284 : decode cL_isDone 284 = .ok (.bipush 6, 2) := by decide +kernel
theorem dL_isDone_286 : decode cL_isDone 286 = .ok (.if_icmp .ge 35, 3) := by decide +kernel
theorem dL_isDone_289 : decode cL_isDone 289 = .ok (.aload 4, 2) := by decide +kernel
theorem dL_isDone_291 : decode cL_isDone 291 = .ok (.iload 11, 2) := by decide +kernel
theorem dL_isDone_293 : decode cL_isDone 293 = .ok (.iaload, 1) := by decide +kernel
theorem dL_isDone_294 : decode cL_isDone 294 = .ok (.ifCond .lt 27, 3) := by decide +kernel
theorem dL_isDone_297 : decode cL_isDone 297 = .ok (.iload 10, 2) := by decide +kernel
theorem dL_isDone_299 : decode cL_isDone 299 = .ok (.iconst 3, 1) := by decide +kernel
theorem dL_isDone_300 : decode cL_isDone 300 = .ok (.irem, 1) := by decide +kernel
theorem dL_isDone_301 : decode cL_isDone 301 = .ok (.ifCond .le 20, 3) := by decide +kernel
theorem dL_isDone_304 : decode cL_isDone 304 = .ok (.aload 4, 2) := by decide +kernel
theorem dL_isDone_306 : decode cL_isDone 306 = .ok (.iload 11, 2) := by decide +kernel
theorem dL_isDone_308 : decode cL_isDone 308 = .ok (.iaload, 1) := by decide +kernel
theorem dL_isDone_309 : decode cL_isDone 309 = .ok (.bipush 12, 2) := by decide +kernel
theorem dL_isDone_311 : decode cL_isDone 311 = .ok (.irem, 1) := by decide +kernel
theorem dL_isDone_312 : decode cL_isDone 312 = .ok (.bipush 11, 2) := by decide +kernel
theorem dL_isDone_314 : decode cL_isDone 314 = .ok (.if_icmp .ge 7, 3) := by decide +kernel
theorem dL_isDone_317 : decode cL_isDone 317 = .ok (.iconst 1, 1) := by decide +kernel
theorem dL_isDone_318 : decode cL_isDone 318 = .ok (.goto 4, 3) := by decide +kernel
theorem dL_isDone_321 : decode cL_isDone 321 = .ok (.iconst 0, 1) := by decide +kernel
theorem dL_isDone_322 : decode cL_isDone 322 = .ok (.istore 13, 2) := by decide +kernel
theorem dL_isDone_324 : decode cL_isDone 324 = .ok (.aload_n 0, 1) := by decide +kernel
theorem dL_isDone_325 : decode cL_isDone 325 = .ok (.aload_n 3, 1) := by decide +kernel
theorem dL_isDone_326 : decode cL_isDone 326 = .ok (.aload 4, 2) := by decide +kernel
theorem dL_isDone_328 : decode cL_isDone 328 = .ok (.iload 11, 2) := by decide +kernel
theorem dL_isDone_330 : decode cL_isDone 330 = .ok (.iload 13, 2) := by decide +kernel
theorem dL_isDone_332 : decode cL_isDone 332 = .ok (.ifCond .eq 13, 3) := by decide +kernel
theorem dL_isDone_335 : decode cL_isDone 335 = .ok (.aload 4, 2) := by decide +kernel
theorem dL_isDone_337 : decode cL_isDone 337 = .ok (.iload 11, 2) := by decide +kernel
theorem dL_isDone_339 : decode cL_isDone 339 = .ok (.iaload, 1) := by decide +kernel
theorem dL_isDone_340 : decode cL_isDone 340 = .ok (.iconst 1, 1) := by decide +kernel
theorem dL_isDone_341 : decode cL_isDone 341 = .ok (.iadd, 1) := by decide +kernel
theorem dL_isDone_342 : decode cL_isDone 342 = .ok (.goto 5, 3) := by decide +kernel
theorem dL_isDone_345 : decode cL_isDone 345 = .ok (.iload 12, 2) := by decide +kernel
theorem dL_isDone_347 : decode cL_isDone 347 = .ok (.invokestatic 111, 3) := by decide +kernel
theorem dL_isDone_350 : decode cL_isDone 350 = .ok (.ireturn, 1) := by decide +kernel
theorem dL_isDone_351 : decode cL_isDone 351 = .ok (.iload 8, 2) := by decide +kernel
theorem dL_isDone_353 : decode cL_isDone 353 = .ok (.bipush 27, 2) := by decide +kernel
theorem dL_isDone_355 : decode cL_isDone 355 = .ok (.if_icmp .ge 48, 3) := by decide +kernel
theorem dL_isDone_358 : decode cL_isDone 358 = .ok (.iload 10, 2) := by decide +kernel
theorem dL_isDone_360 : decode cL_isDone 360 = .ok (.bipush 42, 2) := by decide +kernel
theorem dL_isDone_362 : decode cL_isDone 362 = .ok (.idiv, 1) := by decide +kernel
theorem dL_isDone_363 : decode cL_isDone 363 = .ok (.bipush 6, 2) := by decide +kernel
theorem dL_isDone_365 : decode cL_isDone 365 = .ok (.irem, 1) := by decide +kernel
theorem dL_isDone_366 : decode cL_isDone 366 = .ok (.istore 13, 2) := by decide +kernel
theorem dL_isDone_368 : decode cL_isDone 368 = .ok (.aload_n 0, 1) := by decide +kernel
theorem dL_isDone_369 : decode cL_isDone 369 = .ok (.aload_n 3, 1) := by decide +kernel
theorem dL_isDone_370 : decode cL_isDone 370 = .ok (.aload 4, 2) := by decide +kernel
theorem dL_isDone_372 : decode cL_isDone 372 = .ok (.iload 11, 2) := by decide +kernel
theorem dL_isDone_374 : decode cL_isDone 374 = .ok (.aload 4, 2) := by decide +kernel
theorem dL_isDone_376 : decode cL_isDone 376 = .ok (.iload 13, 2) := by decide +kernel
theorem dL_isDone_378 : decode cL_isDone 378 = .ok (.iaload, 1) := by decide +kernel
theorem dL_isDone_379 : decode cL_isDone 379 = .ok (.ifCond .lt 18, 3) := by decide +kernel
theorem dL_isDone_382 : decode cL_isDone 382 = .ok (.iload 10, 2) := by decide +kernel
theorem dL_isDone_384 : decode cL_isDone 384 = .ok (.iconst 4, 1) := by decide +kernel
theorem dL_isDone_385 : decode cL_isDone 385 = .ok (.irem, 1) := by decide +kernel
theorem dL_isDone_386 : decode cL_isDone 386 = .ok (.ifCond .le 11, 3) := by decide +kernel
theorem dL_isDone_389 : decode cL_isDone 389 = .ok (.aload 4, 2) := by decide +kernel
theorem dL_isDone_391 : decode cL_isDone 391 = .ok (.iload 13, 2) := by decide +kernel
theorem dL_isDone_393 : decode cL_isDone 393 = .ok (.iaload, 1) := by decide +kernel
theorem dL_isDone_394 : decode cL_isDone 394 = .ok (.goto 5, 3) := by decide +kernel
theorem dL_isDone_397 : decode cL_isDone 397 = .ok (.iload 12, 2) := by decide +kernel
theorem dL_isDone_399 : decode cL_isDone 399 = .ok (.invokestatic 114, 3) := by decide +kernel
theorem dL_isDone_402 : decode cL_isDone 402 = .ok (.ireturn, 1) := by decide +kernel
theorem dL_isDone_403 : decode cL_isDone 403 = .ok (.iload 8, 2) := by decide +kernel
theorem dL_isDone_405 : decode cL_isDone 405 = .ok (.bipush 32, 2) := by decide +kernel
theorem dL_isDone_407 : decode cL_isDone 407 = .ok (.if_icmp .ge 111, 3) := by decide +kernel
theorem dL_isDone_410 : decode cL_isDone 410 = .ok (.iload 10, 2) := by decide +kernel
theorem dL_isDone_412 : decode cL_isDone 412 = .ok (.bipush 25, 2) := by decide +kernel
theorem dL_isDone_414 : decode cL_isDone 414 = .ok (.irem, 1) := by decide +kernel
theorem dL_isDone_415 : decode cL_isDone 415 = .ok (.ifCond .ne 8, 3) := by decide +kernel
theorem dL_isDone_418 : decode cL_isDone 418 = .ok (.bipush 51, 2) := by decide +kernel
theorem dL_isDone_420 : decode cL_isDone 420 = .ok (.goto 9, 3) := by decide +kernel
theorem dL_isDone_423 : decode cL_isDone 423 = .ok (.iconst 1, 1) := by decide +kernel
theorem dL_isDone_424 : decode cL_isDone 424 = .ok (.iload 10, 2) := by decide +kernel
theorem dL_isDone_426 : decode cL_isDone 426 = .ok (.iconst 4, 1) := by decide +kernel
theorem dL_isDone_427 : decode cL_isDone 427 = .ok (.irem, 1) := by decide +kernel
theorem dL_isDone_428 : decode cL_isDone 428 = .ok (.iadd, 1) := by decide +kernel
theorem dL_isDone_429 : decode cL_isDone 429 = .ok (.istore 13, 2) := by decide +kernel
theorem dL_isDone_431 : decode cL_isDone 431 = .ok (.aload_n 0, 1) := by decide +kernel
theorem dL_isDone_432 : decode cL_isDone 432 = .ok (.invokevirtual 93, 3) := by decide +kernel
theorem dL_isDone_435 : decode cL_isDone 435 = .ok (.istore 14, 2) := by decide +kernel
theorem dL_isDone_437 : decode cL_isDone 437 = .ok (.aload_n 0, 1) := by decide +kernel
theorem dL_isDone_438 : decode cL_isDone 438 = .ok (.iconst 5, 1) := by decide +kernel
theorem dL_isDone_439 : decode cL_isDone 439 = .ok (.iload 13, 2) := by decide +kernel
theorem dL_isDone_441 : decode cL_isDone 441 = .ok (.iconst 0, 1) := by decide +kernel
theorem dL_isDone_442 : decode cL_isDone 442 = .ok (.invokestatic 100, 3) := by decide +kernel
theorem dL_isDone_445 : decode cL_isDone 445 = .ok (.istore 15, 2) := by decide +kernel
theorem dL_isDone_447 : decode cL_isDone 447 = .ok (.iload 13, 2) := by decide +kernel
theorem dL_isDone_449 : decode cL_isDone 449 = .ok (.bipush 50, 2) := by decide +kernel
theorem dL_isDone_451 : decode cL_isDone 451 = .ok (.if_icmp .gt 10, 3) := by decide +kernel
theorem dL_isDone_454 : decode cL_isDone 454 = .ok (.aload_n 3, 1) := by decide +kernel
theorem dL_isDone_455 : decode cL_isDone 455 = .ok (.bipush 14, 2) := by decide +kernel
theorem dL_isDone_457 : decode cL_isDone 457 = .ok (.iaload, 1) := by decide +kernel
theorem dL_isDone_458 : decode cL_isDone 458 = .ok (.ifCond .ge 28, 3) := by decide +kernel
theorem dL_isDone_461 : decode cL_isDone 461 = .ok (.iload 15, 2) := by decide +kernel
theorem dL_isDone_463 : decode cL_isDone 463 = .ok (.iload 13, 2) := by decide +kernel
theorem dL_isDone_465 : decode cL_isDone 465 = .ok (.bipush 50, 2) := by decide +kernel
theorem dL_isDone_467 : decode cL_isDone 467 = .ok (.if_icmp .le 8, 3) := by decide +kernel
theorem dL_isDone_470 : decode cL_isDone 470 = .ok (.bipush (-20), 2) := by decide +kernel
theorem dL_isDone_472 : decode cL_isDone 472 = .ok (.goto 5, 3) := by decide +kernel
theorem dL_isDone_475 : decode cL_isDone 475 = .ok (.bipush (-10), 2) := by decide +kernel
theorem dL_isDone_477 : decode cL_isDone 477 = .ok (.if_icmp .ne 7, 3) := by decide +kernel
theorem dL_isDone_480 : decode cL_isDone 480 = .ok (.iconst 1, 1) := by decide +kernel
theorem dL_isDone_481 : decode cL_isDone 481 = .ok (.goto 4, 3) := by decide +kernel
theorem dL_isDone_484 : decode cL_isDone 484 = .ok (.iconst 0, 1) := by decide +kernel
theorem dL_isDone_485 : decode cL_isDone 485 = .ok (.ireturn, 1) := by decide +kernel
theorem dL_isDone_486 : decode cL_isDone 486 = .ok (.aload_n 3, 1) := by decide +kernel
theorem dL_isDone_487 : decode cL_isDone 487 = .ok (.bipush 14, 2) := by decide +kernel
theorem dL_isDone_489 : decode cL_isDone 489 = .ok (.dup2, 1) := by decide +kernel
theorem dL_isDone_490 : decode cL_isDone 490 = .ok (.iaload, 1) := by decide +kernel
theorem dL_isDone_491 : decode cL_isDone 491 = .ok (.iload 13, 2) := by decide +kernel
theorem dL_isDone_493 : decode cL_isDone 493 = .ok (.iadd, 1) := by decide +kernel
theorem dL_isDone_494 : decode cL_isDone 494 = .ok (.iastore, 1) := by decide +kernel
theorem dL_isDone_495 : decode cL_isDone 495 = .ok (.iload 15, 2) := by decide +kernel
theorem dL_isDone_497 : decode cL_isDone 497 = .ok (.ifCond .lt 19, 3) := by decide +kernel
theorem dL_isDone_500 : decode cL_isDone 500 = .ok (.iload 15, 2) := by decide +kernel
theorem dL_isDone_502 : decode cL_isDone 502 = .ok (.iload 14, 2) := by decide +kernel
theorem dL_isDone_504 : decode cL_isDone 504 = .ok (.aload_n 0, 1) := by decide +kernel
theorem dL_isDone_505 : decode cL_isDone 505 = .ok (.invokevirtual 93, 3) := by decide +kernel
theorem dL_isDone_508 : decode cL_isDone 508 = .ok (.isub, 1) := by decide +kernel
theorem dL_isDone_509 : decode cL_isDone 509 = .ok (.if_icmp .gt 7, 3) := by decide +kernel
theorem dL_isDone_512 : decode cL_isDone 512 = .ok (.iconst 1, 1) := by decide +kernel
theorem dL_isDone_513 : decode cL_isDone 513 = .ok (.goto 4, 3) := by decide +kernel
theorem dL_isDone_516 : decode cL_isDone 516 = .ok (.iconst 0, 1) := by decide +kernel
theorem dL_isDone_517 : decode cL_isDone 517 = .ok (.ireturn, 1) := by decide +kernel
theorem dL_isDone_518 : decode cL_isDone 518 = .ok (.iload 8, 2) := by decide +kernel
theorem dL_isDone_520 : decode cL_isDone 520 = .ok (.bipush 35, 2) := by decide +kernel
theorem dL_isDone_522 : decode cL_isDone 522 = .ok (.if_icmp .ge 39, 3) := by decide +kernel
theorem dL_isDone_525 : decode cL_isDone 525 = .ok (.aload_n 3, 1) := by decide +kernel
theorem dL_isDone_526 : decode cL_isDone 526 = .ok (.bipush 16, 2) := by decide +kernel
theorem dL_isDone_528 : decode cL_isDone 528 = .ok (.iaload, 1) := by decide +kernel
theorem dL_isDone_529 : decode cL_isDone 529 = .ok (.bipush 18, 2) := by decide +kernel
theorem dL_isDone_531 : decode cL_isDone 531 = .ok (.if_icmp .gt 24, 3) := by decide +kernel
theorem dL_isDone_534 : decode cL_isDone 534 = .ok (.aload_n 0, 1) := by decide +kernel
theorem dL_isDone_535 : decode cL_isDone 535 = .ok (.aload_n 3, 1) := by decide +kernel
theorem dL_isDone_536 : decode cL_isDone 536 = .ok (.aload 4, 2) := by decide +kernel
theorem dL_isDone_538 : decode cL_isDone 538 = .ok (.aload 5, 2) := by decide +kernel
theorem dL_isDone_540 : decode cL_isDone 540 = .ok (.iload 9, 2) := by decide +kernel
theorem dL_isDone_542 : decode cL_isDone 542 = .ok (.bipush 30, 2) := by decide +kernel
theorem dL_isDone_544 : decode cL_isDone 544 = .ok (.idiv, 1) := by decide +kernel
theorem dL_isDone_545 : decode cL_isDone 545 = .ok (.iconst 3, 1) := by decide +kernel
theorem dL_isDone_546 : decode cL_isDone 546 = .ok (.irem, 1) := by decide +kernel
theorem dL_isDone_547 : decode cL_isDone 547 = .ok (.iload 11, 2) := by decide +kernel
theorem dL_isDone_549 : decode cL_isDone 549 = .ok (.invokestatic 117, 3) := by decide +kernel
theorem dL_isDone_552 : decode cL_isDone 552 = .ok (.ifCond .eq 7, 3) := by decide +kernel
theorem dL_isDone_555 : decode cL_isDone 555 = .ok (.iconst 1, 1) := by decide +kernel
theorem dL_isDone_556 : decode cL_isDone 556 = .ok (.goto 4, 3) := by decide +kernel
theorem dL_isDone_559 : decode cL_isDone 559 = .ok (.iconst 0, 1) := by decide +kernel
theorem dL_isDone_560 : decode cL_isDone 560 = .ok (.ireturn, 1) := by decide +kernel
theorem dL_isDone_561 : decode cL_isDone 561 = .ok (.iload 8, 2) := by decide +kernel
theorem dL_isDone_563 : decode cL_isDone 563 = .ok (.bipush 37, 2) := by decide +kernel
theorem dL_isDone_565 : decode cL_isDone 565 = .ok (.if_icmp .ge 35, 3) := by decide +kernel
theorem dL_isDone_568 : decode cL_isDone 568 = .ok (.aload_n 0, 1) := by decide +kernel
theorem dL_isDone_569 : decode cL_isDone 569 = .ok (.aload_n 3, 1) := by decide +kernel
theorem dL_isDone_570 : decode cL_isDone 570 = .ok (.aload 4, 2) := by decide +kernel
theorem dL_isDone_572 : decode cL_isDone 572 = .ok (.aload 5, 2) := by decide +kernel
theorem dL_isDone_574 : decode cL_isDone 574 = .ok (.aload 6, 2) := by decide +kernel
theorem dL_isDone_576 : decode cL_isDone 576 = .ok (.iload 10, 2) := by decide +kernel
theorem dL_isDone_578 : decode cL_isDone 578 = .ok (.aload_n 3, 1) := by decide +kernel
theorem dL_isDone_579 : decode cL_isDone 579 = .ok (.bipush 14, 2) := by decide +kernel
theorem dL_isDone_581 : decode cL_isDone 581 = .ok (.iaload, 1) := by decide +kernel
theorem dL_isDone_582 : decode cL_isDone 582 = .ok (.ifCond .ge 7, 3) := by decide +kernel
theorem dL_isDone_585 : decode cL_isDone 585 = .ok (.iconst 2, 1) := by decide +kernel
theorem dL_isDone_586 : decode cL_isDone 586 = .ok (.goto 9, 3) := by decide +kernel
theorem dL_isDone_589 : decode cL_isDone 589 = .ok (.aload_n 3, 1) := by decide +kernel
theorem dL_isDone_590 : decode cL_isDone 590 = .ok (.bipush 16, 2) := by decide +kernel
theorem dL_isDone_592 : decode cL_isDone 592 = .ok (.iaload, 1) := by decide +kernel
theorem dL_isDone_593 : decode cL_isDone 593 = .ok (.iconst 1, 1) := by decide +kernel
theorem dL_isDone_594 : decode cL_isDone 594 = .ok (.iadd, 1) := by decide +kernel
theorem dL_isDone_595 : decode cL_isDone 595 = .ok (.irem, 1) := by decide +kernel
theorem dL_isDone_596 : decode cL_isDone 596 = .ok (.invokestatic 121, 3) := by decide +kernel
theorem dL_isDone_599 : decode cL_isDone 599 = .ok (.ireturn, 1) := by decide +kernel
theorem dL_isDone_600 : decode cL_isDone 600 = .ok (.iload 8, 2) := by decide +kernel
theorem dL_isDone_602 : decode cL_isDone 602 = .ok (.bipush 39, 2) := by decide +kernel
theorem dL_isDone_604 : decode cL_isDone 604 = .ok (.if_icmp .ge 15, 3) := by decide +kernel
theorem dL_isDone_607 : decode cL_isDone 607 = .ok (.aload_n 0, 1) := by decide +kernel
theorem dL_isDone_608 : decode cL_isDone 608 = .ok (.aload_n 3, 1) := by decide +kernel
theorem dL_isDone_609 : decode cL_isDone 609 = .ok (.aload 4, 2) := by decide +kernel
theorem dL_isDone_611 : decode cL_isDone 611 = .ok (.aload 6, 2) := by decide +kernel
theorem dL_isDone_613 : decode cL_isDone 613 = .ok (.aload 7, 2) := by decide +kernel
theorem dL_isDone_615 : decode cL_isDone 615 = .ok (.invokestatic 125, 3) := by decide +kernel
theorem dL_isDone_618 : decode cL_isDone 618 = .ok (.ireturn, 1) := by decide +kernel
theorem dL_isDone_619 : decode cL_isDone 619 = .ok (.aload_n 0, 1) := by decide +kernel
theorem dL_isDone_620 : decode cL_isDone 620 = .ok (.aload_n 3, 1) := by decide +kernel
theorem dL_isDone_621 : decode cL_isDone 621 = .ok (.iload 12, 2) := by decide +kernel
theorem dL_isDone_623 : decode cL_isDone 623 = .ok (.sipush 144, 3) := by decide +kernel
theorem dL_isDone_626 : decode cL_isDone 626 = .ok (.irem, 1) := by decide +kernel
theorem dL_isDone_627 : decode cL_isDone 627 = .ok (.invokestatic 129, 3) := by decide +kernel
theorem dL_isDone_630 : decode cL_isDone 630 = .ok (.ireturn, 1) := by decide +kernel
set_option maxRecDepth 20000 in
theorem ggL_law_X5_init : GoodIn wsL_law wsX5_init := goodIn_r _ [6, 7, 8, 9, 10, 11, 12, 13, 14, 15, 16, 17, 18, 19, 20, 21, 3, 22, 23, 24, 25, 26, 27, 28, 29, 30, 31, 32, 33, 34, 35, 36, 37, 38, 39, 40, 41, 42, 43, 44, 45, 46, 47, 48, 49, 50, 51, 52, 53, 54, 55, 56, 57, 58, 59, 60, 61, 62, 63, 64, 65, 66, 67, 68, 69, 70, 71, 413, 409, 410, 411, 412, 414, 415, 416, 417, 418, 419, 420, 421, 422, 423, 424, 425, 426, 427, 428, 429, 430, 431, 432, 433, 434, 435] (by decide +kernel) (by decide +kernel)
set_option maxRecDepth 20000 in
theorem gL_law_X5_init : GoodIn wsL_law (wsX5_init) := ggL_law_X5_init
set_option maxRecDepth 20000 in
theorem ggL_law_L_isRound : GoodIn wsL_law wsL_isRound := goodIn_ca (goodIn_r _ [75, 76, 77, 78, 2, 79, 17, 80, 81, 82, 16, 83, 32, 84, 85, 86, 87, 88, 89, 90, 91, 39, 62, 92, 93, 94, 74, 95, 96, 97, 98, 99, 100, 13, 101, 102, 103, 104, 105, 106, 107, 108, 12, 109, 27, 110, 111, 112, 113, 114, 115, 116, 117, 118, 119, 120, 121, 122, 123, 124, 125, 126, 127, 128, 129, 130, 131, 132, 133, 134, 135, 136, 137, 138, 139, 140, 141, 142, 33, 143, 144, 145, 146, 147, 148, 149, 150, 34, 151, 152, 153, 154, 21, 155, 156, 157, 158, 159, 160, 20, 161, 67, 162, 163, 164, 165, 166, 167, 168, 169, 68, 170, 171, 172, 173, 174, 175, 176, 177, 69, 178, 179, 180, 181, 182, 183, 184, 185, 186, 187, 188, 189, 71, 409, 410, 411, 412, 414, 415, 416, 417, 418, 419, 420, 421, 426, 427, 428, 429, 430, 413, 422, 423, 424, 425] (by decide +kernel) (by decide +kernel)) (goodIn_sub (fun _ h => List.mem_append_left _ (List.mem_append_left _ (List.mem_append_right _ h))) (by decide +kernel))
set_option maxRecDepth 20000 in
theorem gL_law_L_isRound : GoodIn wsL_law (va_wsS RL 134 yL_isRound wsL_isRound) := goodIn_app (goodIn_of _ (by decide +kernel)) ggL_law_L_isRound
end
section
set_option maxRecDepth 20000 in
theorem ggd_r1 : GoodIn wsL_law wsL_isDone_r1 := goodIn_r _ [196, 197, 74, 198, 199, 200, 201, 202, 203, 204, 205, 96, 206, 207, 208, 209, 210, 2, 211, 212, 213, 17, 13, 101] (by decide +kernel) (by decide +kernel)
set_option maxRecDepth 20000 in
theorem ggd_r2 : GoodIn wsL_law wsL_isDone_r2 := goodIn_r _ [102, 103, 104, 105, 214, 215, 216, 16, 217, 32, 218, 219, 220, 12, 221, 27, 222, 223, 224, 225, 22, 226, 227, 228] (by decide +kernel) (by decide +kernel)
set_option maxRecDepth 20000 in
theorem ggd_r3 : GoodIn wsL_law wsL_isDone_r3 := goodIn_r _ [229, 230, 231, 232, 233, 234, 235, 236, 237, 155, 156, 157, 238, 239, 240, 241, 242, 243, 58, 59, 60, 61, 33, 34] (by decide +kernel) (by decide +kernel)
set_option maxRecDepth 20000 in
theorem ggd_r4 : GoodIn wsL_law wsL_isDone_r4 := goodIn_r _ [35, 39, 62, 43, 63, 244, 245, 246, 247, 136, 137, 138, 248, 249, 250, 251, 139, 140, 141, 142, 252, 253, 254, 120] (by decide +kernel) (by decide +kernel)
set_option maxRecDepth 20000 in
theorem ggd_r5 : GoodIn wsL_law wsL_isDone_r5 := goodIn_r _ [121, 112, 122, 114, 115, 116, 255, 256, 257, 258, 259, 260, 261, 262, 263, 264, 265, 266, 267, 268, 269, 270, 271, 272] (by decide +kernel) (by decide +kernel)
set_option maxRecDepth 20000 in
theorem ggd_r6 : GoodIn wsL_law wsL_isDone_r6 := goodIn_r _ [273, 274, 275, 276, 277, 278, 279, 280, 281, 282, 38, 283, 47, 284, 48, 49, 50, 285, 286, 287, 288, 289, 290, 291] (by decide +kernel) (by decide +kernel)
set_option maxRecDepth 20000 in
theorem ggd_r7 : GoodIn wsL_law wsL_isDone_r7 := goodIn_r _ [292, 92, 293, 294, 295, 296, 297, 298, 299, 300, 301, 107, 108, 109, 110, 111, 113, 117, 118, 119, 302, 303, 304, 305] (by decide +kernel) (by decide +kernel)
set_option maxRecDepth 20000 in
theorem ggd_r8 : GoodIn wsL_law wsL_isDone_r8 := goodIn_r _ [106, 306, 307, 308, 309, 310, 311, 312, 313, 314, 315, 316, 42, 317, 54, 318, 55, 56, 57, 319, 320, 321, 322, 21] (by decide +kernel) (by decide +kernel)
end
section
set_option maxRecDepth 20000 in
theorem ggd_r9 : GoodIn wsL_law wsL_isDone_r9 := goodIn_r _ [323, 324, 325, 326, 327, 328, 329, 330, 331, 332, 333, 334, 335, 336, 337, 338, 339, 340, 341, 342, 343, 344, 345, 20] (by decide +kernel) (by decide +kernel)
set_option maxRecDepth 20000 in
theorem ggd_r10 : GoodIn wsL_law wsL_isDone_r10 := goodIn_r _ [346, 68, 347, 348, 349, 350, 351, 352, 353, 354, 355, 356, 357, 358, 359, 360, 361, 362, 363, 364, 365, 366, 69, 67] (by decide +kernel) (by decide +kernel)
set_option maxRecDepth 20000 in
theorem ggd_r11 : GoodIn wsL_law wsL_isDone_r11 := goodIn_r _ [367, 368, 369, 370, 71, 371, 372, 373, 374, 375, 376, 377, 378, 379, 380, 381, 382, 383, 384, 385, 386, 387, 388, 389] (by decide +kernel) (by decide +kernel)
set_option maxRecDepth 20000 in
theorem ggd_r12 : GoodIn wsL_law wsL_isDone_r12 := goodIn_r _ [390, 391, 392, 393, 84, 85, 86, 87, 88, 89, 90, 91, 394, 395, 396, 97, 98, 99, 100, 397, 398, 399, 400, 401] (by decide +kernel) (by decide +kernel)
set_option maxRecDepth 20000 in
theorem ggd_r13 : GoodIn wsL_law wsL_isDone_r13 := goodIn_r _ [402, 403, 404, 405, 123, 124, 125, 126, 127, 128, 129, 130, 131] (by decide +kernel) (by decide +kernel)
theorem ggd_X50 : GoodIn wsL_law wsX50 := goodIn_sub inlX5 (by decide +kernel)
theorem ggd_X20 : GoodIn wsL_law wsX20 := goodIn_sub inlX2 (by decide +kernel)
theorem ggd_X10 : GoodIn wsL_law wsX10 := goodIn_sub inlX1 (by decide +kernel)
theorem ggd_X30 : GoodIn wsL_law wsX30 := goodIn_sub inlX3 (by decide +kernel)
theorem ggd_X00 : GoodIn wsL_law wsX00 := goodIn_sub inlX0 (by decide +kernel)
theorem ggd_X40 : GoodIn wsL_law wsX40 := goodIn_sub inlX4 (by decide +kernel)
end
section
set_option maxRecDepth 20000 in
theorem ggL_law_L_isTable : GoodIn wsL_law wsL_isTable := goodIn_ca (goodIn_r _ [192, 93, 94, 74, 95, 96, 97, 98, 99, 2, 100, 13, 101, 102, 103, 104, 105, 106, 107, 108, 12, 109, 27, 110, 111, 112, 113, 114, 115, 116, 117, 118, 119, 120, 121, 122, 123, 124, 125, 126, 127, 128, 129, 130, 131, 132, 133, 134, 135, 17, 136, 137, 138, 139, 140, 141, 16, 142, 33, 143, 144, 145, 146, 147, 148, 149, 150, 34, 151, 152, 153, 154, 21, 155, 156, 157, 158, 159, 160, 20, 161, 67, 162, 163, 164, 165, 166, 167, 168, 169, 68, 170, 171, 172, 173, 174, 175, 176, 177, 69, 178, 179, 180, 181, 182, 183, 184, 185, 186, 187, 188, 189, 71, 409, 410, 411, 412, 413, 414, 415, 416, 417, 418, 419, 420, 421, 422, 423, 424, 425] (by decide +kernel) (by decide +kernel)) (goodIn_sub (fun _ h => List.mem_append_left _ (List.mem_append_left _ (List.mem_append_right _ h))) (by decide +kernel))
set_option maxRecDepth 20000 in
theorem gL_law_L_isTable : GoodIn wsL_law (va_wsS RL 138 yL_isTable wsL_isTable) := goodIn_app (goodIn_of _ (by decide +kernel)) ggL_law_L_isTable
set_option maxRecDepth 20000 in
theorem ggL_law_L_isDone : GoodIn wsL_law wsL_isDone := goodIn_ca (goodIn_ca (goodIn_ca (goodIn_hd (List.mem_of_getElem? (i := 195) rfl) rfl (goodIn_app (goodIn_app (goodIn_app (goodIn_app (goodIn_app (goodIn_app (goodIn_app ggd_r1 (goodIn_app ggd_r2 (goodIn_app ggd_r3 (goodIn_app ggd_r4 (goodIn_app ggd_r5 (goodIn_app ggd_r6 (goodIn_app ggd_r7 (goodIn_app ggd_r8 (goodIn_app ggd_r9 (goodIn_app ggd_r10 (goodIn_app ggd_r11 (goodIn_app ggd_r12 ggd_r13)))))))))))) ggd_X50) ggd_X20) ggd_X10) ggd_X30) ggd_X00) ggd_X40)) (goodIn_sub (fun _ h => List.mem_append_left _ (List.mem_append_right _ h)) (by decide +kernel))) (goodIn_sub (fun _ h => List.mem_append_left _ (List.mem_append_left _ (List.mem_append_right _ h))) (by decide +kernel))) (goodIn_sub (fun _ h => List.mem_append_right _ h) (by decide +kernel))
set_option maxRecDepth 20000 in
theorem gL_law_L_isDone : GoodIn wsL_law (va_wsS RL 141 yL_isDone wsL_isDone) := goodIn_app (goodIn_of _ (by decide +kernel)) ggL_law_L_isDone
end
section
set_option maxRecDepth 20000 in
theorem ggL_law_L_part : GoodIn wsL_law wsL_part := goodIn_r _ [198, 199] (by decide +kernel) (by decide +kernel)
set_option maxRecDepth 20000 in
theorem gL_law_L_part : GoodIn wsL_law (va_wsS RL 103 yL_part wsL_part) := goodIn_app (goodIn_of _ (by decide +kernel)) ggL_law_L_part
set_option maxRecDepth 20000 in
theorem ggL_law_L_isSight : GoodIn wsL_law wsL_isSight := goodIn_ca (goodIn_r _ [408, 97, 98, 99, 2, 100, 13, 101, 102, 103, 104, 105, 106, 107, 108, 12, 109, 27, 110, 111, 112, 113, 114, 115, 116, 117, 118, 119, 120, 121, 122, 200, 201, 74, 202, 385, 386, 387, 409, 410, 411, 412, 413] (by decide +kernel) (by decide +kernel)) (goodIn_sub (fun _ h => List.mem_append_left _ (List.mem_append_left _ (List.mem_append_right _ h))) (by decide +kernel))
set_option maxRecDepth 20000 in
theorem gL_law_L_isSight : GoodIn wsL_law (va_wsS RL 145 yL_isSight wsL_isSight) := goodIn_app (goodIn_of _ (by decide +kernel)) ggL_law_L_isSight
set_option maxRecDepth 20000 in
theorem ggL_law_L_asks : GoodIn wsL_law wsL_asks := goodIn_ca (goodIn_r _ [95, 96, 97, 98, 99, 2, 100, 13, 101, 102, 103, 104, 105, 106, 107, 108, 12, 109, 27, 110, 111, 112, 113, 114, 115, 116, 117, 118, 119, 120, 121, 122, 123, 124, 125, 126, 127, 128, 129, 130, 131, 132, 133, 134, 135, 17, 136, 137, 138, 139, 140, 141, 16, 142, 33, 143, 144, 145, 146, 147, 148, 149, 150, 34, 151, 152, 153, 154, 21, 155, 156, 157, 158, 159, 160, 20, 161, 67, 162, 163, 164, 165, 166, 167, 168, 169, 68, 170, 171, 172, 173, 174, 175, 176, 177, 69, 178, 179, 180, 181, 182, 183, 184, 185, 186, 187, 188, 189, 71, 409, 410, 411, 412, 413, 414, 415, 416, 417, 418, 419, 420, 421, 422, 423, 424, 425] (by decide +kernel) (by decide +kernel)) (goodIn_sub (fun _ h => List.mem_append_left _ (List.mem_append_left _ (List.mem_append_right _ h))) (by decide +kernel))
set_option maxRecDepth 20000 in
theorem gL_law_L_asks : GoodIn wsL_law (va_wsS RL 86 yL_asks wsL_asks) := goodIn_app (goodIn_of _ (by decide +kernel)) ggL_law_L_asks
set_option maxRecDepth 20000 in
theorem ggL_law_L_does : GoodIn wsL_law wsL_does := goodIn_ca (goodIn_ca (goodIn_ca (goodIn_r _ [205, 96, 206, 207, 208, 209, 210, 2, 211, 212, 213, 17, 13, 101, 102, 103, 104, 105, 214, 215, 216, 16, 217, 32, 218, 219, 220, 12, 221, 27, 222, 223, 224, 225, 22, 226, 227, 228, 229, 230, 74, 231, 232, 233, 234, 235, 236, 237, 155, 156, 157, 238, 239, 240, 241, 242, 243, 58, 59, 60, 61, 33, 34, 35, 39, 62, 43, 63, 244, 245, 246, 247, 136, 137, 138, 248, 249, 250, 251, 139, 140, 141, 142, 252, 253, 254, 120, 121, 112, 122, 114, 115, 116, 255, 256, 257, 258, 259, 260, 261, 262, 263, 264, 265, 266, 267, 268, 269, 270, 271, 272, 273, 274, 275, 276, 277, 278, 279, 280, 281, 282, 38, 283, 47, 284, 48, 49, 50, 285, 286, 287, 288, 289, 290, 291, 292, 92, 293, 294, 295, 296, 297, 298, 299, 300, 301, 107, 108, 109, 110, 111, 113, 117, 118, 119, 302, 303, 304, 305, 106, 306, 307, 308, 309, 310, 311, 312, 313, 314, 315, 316, 42, 317, 54, 318, 55, 56, 57, 319, 320, 321, 322, 21, 323, 324, 325, 326, 327, 328, 329, 330, 331, 332, 333, 334, 335, 336, 337, 338, 339, 340, 341, 342, 343, 344, 345, 20, 346, 68, 347, 348, 349, 350, 351, 352, 353, 354, 355, 356, 357, 358, 359, 360, 361, 362, 363, 364, 365, 366, 69, 67, 367, 368, 369, 370, 71, 371, 372, 373, 374, 375, 376, 377, 378, 409, 410, 411, 412, 414, 415, 416, 417, 418, 419, 420, 421, 413, 426, 427, 428, 429, 430, 431, 432, 433, 434, 435, 422, 423, 424, 425] (by decide +kernel) (by decide +kernel)) (goodIn_sub (fun _ h => List.mem_append_left _ (List.mem_append_right _ h)) (by decide +kernel))) (goodIn_sub (fun _ h => List.mem_append_left _ (List.mem_append_left _ (List.mem_append_right _ h))) (by decide +kernel))) (goodIn_sub (fun _ h => List.mem_append_right _ h) (by decide +kernel))
set_option maxRecDepth 20000 in
theorem gL_law_L_does : GoodIn wsL_law (va_wsS RL 100 yL_does wsL_does) := goodIn_app (goodIn_of _ (by decide +kernel)) ggL_law_L_does
end
section
theorem dL_law_0 : decode cL_law 0 = .ok (.new 9, 3) := by decide +kernel
theorem dL_law_3 : decode cL_law 3 = .ok (.dup, 1) := by decide +kernel
theorem dL_law_4 : decode cL_law 4 = .ok (.invokespecial 133, 3) := by decide +kernel
theorem dL_law_7 : decode cL_law 7 = .ok (.astore_n 1, 1) := by decide +kernel
theorem dL_law_8 : decode cL_law 8 = .ok (.bipush 19, 2) := by decide +kernel
theorem dL_law_10 : decode cL_law 10 = .ok (.newarray .int, 2) := by decide +kernel
theorem dL_law_12 : decode cL_law 12 = .ok (.astore_n 2, 1) := by decide +kernel
theorem dL_law_13 : decode cL_law 13 = .ok (.bipush 18, 2) := by decide +kernel
theorem dL_law_15 : decode cL_law 15 = .ok (.newarray .int, 2) := by decide +kernel
theorem dL_law_17 : decode cL_law 17 = .ok (.astore_n 3, 1) := by decide +kernel
theorem dL_law_18 : decode cL_law 18 = .ok (.bipush 60, 2) := by decide +kernel
theorem dL_law_20 : decode cL_law 20 = .ok (.newarray .int, 2) := by decide +kernel
theorem dL_law_22 : decode cL_law 22 = .ok (.astore 4, 2) := by decide +kernel
theorem dL_law_24 : decode cL_law 24 = .ok (.bipush 18, 2) := by decide +kernel
theorem dL_law_26 : decode cL_law 26 = .ok (.newarray .int, 2) := by decide +kernel
theorem dL_law_28 : decode cL_law 28 = .ok (.astore 5, 2) := by decide +kernel
theorem dL_law_30 : decode cL_law 30 = .ok (.bipush 36, 2) := by decide +kernel
theorem dL_law_32 : decode cL_law 32 = .ok (.newarray .int, 2) := by decide +kernel
theorem dL_law_34 : decode cL_law 34 = .ok (.astore 6, 2) := by decide +kernel
theorem dL_law_36 : decode cL_law 36 = .ok (.aload_n 2, 1) := by decide +kernel
theorem dL_law_37 : decode cL_law 37 = .ok (.bipush 13, 2) := by decide +kernel
theorem dL_law_39 : decode cL_law 39 = .ok (.sipush 143, 3) := by decide +kernel
theorem dL_law_42 : decode cL_law 42 = .ok (.iastore, 1) := by decide +kernel
theorem dL_law_43 : decode cL_law 43 = .ok (.aload_n 2, 1) := by decide +kernel
theorem dL_law_44 : decode cL_law 44 = .ok (.bipush 14, 2) := by decide +kernel
theorem dL_law_46 : decode cL_law 46 = .ok (.iconst (-1), 1) := by decide +kernel
theorem dL_law_47 : decode cL_law 47 = .ok (.iastore, 1) := by decide +kernel
theorem dL_law_48 : decode cL_law 48 = .ok (.iconst 0, 1) := by decide +kernel
theorem dL_law_49 : decode cL_law 49 = .ok (.istore 7, 2) := by decide +kernel
theorem dL_law_51 : decode cL_law 51 = .ok (.iload 7, 2) := by decide +kernel
theorem dL_law_53 : decode cL_law 53 = .ok (.bipush 6, 2) := by decide +kernel
theorem dL_law_55 : decode cL_law 55 = .ok (.if_icmp .ge 23, 3) := by decide +kernel
theorem dL_law_58 : decode cL_law 58 = .ok (.aload_n 3, 1) := by decide +kernel
theorem dL_law_59 : decode cL_law 59 = .ok (.iload 7, 2) := by decide +kernel
theorem dL_law_61 : decode cL_law 61 = .ok (.bipush (-2), 2) := by decide +kernel
theorem dL_law_63 : decode cL_law 63 = .ok (.iastore, 1) := by decide +kernel
theorem dL_law_64 : decode cL_law 64 = .ok (.aload_n 3, 1) := by decide +kernel
theorem dL_law_65 : decode cL_law 65 = .ok (.bipush 6, 2) := by decide +kernel
theorem dL_law_67 : decode cL_law 67 = .ok (.iload 7, 2) := by decide +kernel
theorem dL_law_69 : decode cL_law 69 = .ok (.iadd, 1) := by decide +kernel
theorem dL_law_70 : decode cL_law 70 = .ok (.iconst (-1), 1) := by decide +kernel
theorem dL_law_71 : decode cL_law 71 = .ok (.iastore, 1) := by decide +kernel
theorem dL_law_72 : decode cL_law 72 = .ok (.iinc 7 1, 3) := by decide +kernel
theorem dL_law_75 : decode cL_law 75 = .ok (.goto (-24), 3) := by decide +kernel
theorem dL_law_78 : decode cL_law 78 = .ok (.aload_n 1, 1) := by decide +kernel
theorem dL_law_79 : decode cL_law 79 = .ok (.aload_n 2, 1) := by decide +kernel
theorem dL_law_80 : decode cL_law 80 = .ok (.aload_n 3, 1) := by decide +kernel
theorem dL_law_81 : decode cL_law 81 = .ok (.invokestatic 134, 3) := by decide +kernel
theorem dL_law_84 : decode cL_law 84 = .ok (.ifCond .eq 18, 3) := by decide +kernel
theorem dL_law_87 : decode cL_law 87 = .ok (.aload_n 1, 1) := by decide +kernel
theorem dL_law_88 : decode cL_law 88 = .ok (.aload 5, 2) := by decide +kernel
theorem dL_law_90 : decode cL_law 90 = .ok (.aload 6, 2) := by decide +kernel
theorem dL_law_92 : decode cL_law 92 = .ok (.invokestatic 138, 3) := by decide +kernel
theorem dL_law_95 : decode cL_law 95 = .ok (.ifCond .eq 7, 3) := by decide +kernel
theorem dL_law_98 : decode cL_law 98 = .ok (.iconst 1, 1) := by decide +kernel
theorem dL_law_99 : decode cL_law 99 = .ok (.goto 4, 3) := by decide +kernel
theorem dL_law_102 : decode cL_law 102 = .ok (.iconst 0, 1) := by decide +kernel
theorem dL_law_103 : decode cL_law 103 = .ok (.istore 7, 2) := by decide +kernel
theorem dL_law_105 : decode cL_law 105 = .ok (.iconst 0, 1) := by decide +kernel
theorem dL_law_106 : decode cL_law 106 = .ok (.istore 8, 2) := by decide +kernel
theorem dL_law_108 : decode cL_law 108 = .ok (.iload 8, 2) := by decide +kernel
theorem dL_law_110 : decode cL_law 110 = .ok (.bipush 60, 2) := by decide +kernel
theorem dL_law_112 : decode cL_law 112 = .ok (.if_icmp .ge 95, 3) := by decide +kernel
theorem dL_law_115 : decode cL_law 115 = .ok (.iload 7, 2) := by decide +kernel
theorem dL_law_117 : decode cL_law 117 = .ok (.ifCond .eq 90, 3) := by decide +kernel
theorem dL_law_120 : decode cL_law 120 = .ok (.aload_n 1, 1) := by decide +kernel
theorem dL_law_121 : decode cL_law 121 = .ok (.aload_n 0, 1) := by decide +kernel
theorem dL_law_122 : decode cL_law 122 = .ok (.iconst 3, 1) := by decide +kernel
theorem dL_law_123 : decode cL_law 123 = .ok (.iload 8, 2) := by decide +kernel
theorem dL_law_125 : decode cL_law 125 = .ok (.imul, 1) := by decide +kernel
theorem dL_law_126 : decode cL_law 126 = .ok (.aload_n 2, 1) := by decide +kernel
theorem dL_law_127 : decode cL_law 127 = .ok (.aload_n 3, 1) := by decide +kernel
theorem dL_law_128 : decode cL_law 128 = .ok (.aload 4, 2) := by decide +kernel
theorem dL_law_130 : decode cL_law 130 = .ok (.aload 5, 2) := by decide +kernel
theorem dL_law_132 : decode cL_law 132 = .ok (.aload 6, 2) := by decide +kernel
theorem dL_law_134 : decode cL_law 134 = .ok (.invokestatic 141, 3) := by decide +kernel
theorem dL_law_137 : decode cL_law 137 = .ok (.ifCond .eq 61, 3) := by decide +kernel
theorem dL_law_140 : decode cL_law 140 = .ok (.aload_n 1, 1) := by decide +kernel
theorem dL_law_141 : decode cL_law 141 = .ok (.aload_n 2, 1) := by decide +kernel
theorem dL_law_142 : decode cL_law 142 = .ok (.aload_n 3, 1) := by decide +kernel
theorem dL_law_143 : decode cL_law 143 = .ok (.invokestatic 134, 3) := by decide +kernel
theorem dL_law_146 : decode cL_law 146 = .ok (.ifCond .eq 52, 3) := by decide +kernel
theorem dL_law_149 : decode cL_law 149 = .ok (.aload_n 1, 1) := by decide +kernel
theorem dL_law_150 : decode cL_law 150 = .ok (.aload 5, 2) := by decide +kernel
theorem dL_law_152 : decode cL_law 152 = .ok (.aload 6, 2) := by decide +kernel
theorem dL_law_154 : decode cL_law 154 = .ok (.invokestatic 138, 3) := by decide +kernel
theorem dL_law_157 : decode cL_law 157 = .ok (.ifCond .eq 41, 3) := by decide +kernel
theorem dL_law_160 : decode cL_law 160 = .ok (.aload_n 1, 1) := by decide +kernel
theorem dL_law_161 : decode cL_law 161 = .ok (.aload_n 2, 1) := by decide +kernel
theorem dL_law_162 : decode cL_law 162 = .ok (.aload_n 0, 1) := by decide +kernel
theorem dL_law_163 : decode cL_law 163 = .ok (.iconst 3, 1) := by decide +kernel
theorem dL_law_164 : decode cL_law 164 = .ok (.iload 8, 2) := by decide +kernel
theorem dL_law_166 : decode cL_law 166 = .ok (.imul, 1) := by decide +kernel
theorem dL_law_167 : decode cL_law 167 = .ok (.iconst 1, 1) := by decide +kernel
theorem dL_law_168 : decode cL_law 168 = .ok (.iadd, 1) := by decide +kernel
theorem dL_law_169 : decode cL_law 169 = .ok (.sipush 144, 3) := by decide +kernel
theorem dL_law_172 : decode cL_law 172 = .ok (.invokestatic 103, 3) := by decide +kernel
theorem dL_law_175 : decode cL_law 175 = .ok (.aload_n 0, 1) := by decide +kernel
theorem dL_law_176 : decode cL_law 176 = .ok (.iconst 3, 1) := by decide +kernel
theorem dL_law_177 : decode cL_law 177 = .ok (.iload 8, 2) := by decide +kernel
theorem dL_law_179 : decode cL_law 179 = .ok (.imul, 1) := by decide +kernel
theorem dL_law_180 : decode cL_law 180 = .ok (.iconst 2, 1) := by decide +kernel
theorem dL_law_181 : decode cL_law 181 = .ok (.iadd, 1) := by decide +kernel
theorem dL_law_182 : decode cL_law 182 = .ok (.sipush 144, 3) := by decide +kernel
theorem dL_law_185 : decode cL_law 185 = .ok (.invokestatic 103, 3) := by decide +kernel
theorem dL_law_188 : decode cL_law 188 = .ok (.invokestatic 145, 3) := by decide +kernel
theorem dL_law_191 : decode cL_law 191 = .ok (.ifCond .eq 7, 3) := by decide +kernel
theorem dL_law_194 : decode cL_law 194 = .ok (.iconst 1, 1) := by decide +kernel
theorem dL_law_195 : decode cL_law 195 = .ok (.goto 4, 3) := by decide +kernel
theorem dL_law_198 : decode cL_law 198 = .ok (.iconst 0, 1) := by decide +kernel
theorem dL_law_199 : decode cL_law 199 = .ok (.istore 7, 2) := by decide +kernel
theorem dL_law_201 : decode cL_law 201 = .ok (.iinc 8 1, 3) := by decide +kernel
theorem dL_law_204 : decode cL_law 204 = .ok (.goto (-96), 3) := by decide +kernel
theorem dL_law_207 : decode cL_law 207 = .ok (.iload 7, 2) := by decide +kernel
theorem dL_law_209 : decode cL_law 209 = .ok (.ifCond .eq 134, 3) := by decide +kernel
theorem dL_law_212 : decode cL_law 212 = .ok (.aload_n 1, 1) := by decide +kernel
theorem dL_law_213 : decode cL_law 213 = .ok (.iconst 0, 1) := by decide +kernel
theorem dL_law_214 : decode cL_law 214 = .ok (.sipush 144, 3) := by decide +kernel
theorem dL_law_217 : decode cL_law 217 = .ok (.iconst 0, 1) := by decide +kernel
theorem dL_law_218 : decode cL_law 218 = .ok (.invokestatic 86, 3) := by decide +kernel
theorem dL_law_221 : decode cL_law 221 = .ok (.bipush (-30), 2) := by decide +kernel
theorem dL_law_223 : decode cL_law 223 = .ok (.if_icmp .ne 120, 3) := by decide +kernel
theorem dL_law_226 : decode cL_law 226 = .ok (.aload_n 1, 1) := by decide +kernel
theorem dL_law_227 : decode cL_law 227 = .ok (.iconst 1, 1) := by decide +kernel
theorem dL_law_228 : decode cL_law 228 = .ok (.iconst (-1), 1) := by decide +kernel
theorem dL_law_229 : decode cL_law 229 = .ok (.iconst 0, 1) := by decide +kernel
theorem dL_law_230 : decode cL_law 230 = .ok (.invokestatic 86, 3) := by decide +kernel
theorem dL_law_233 : decode cL_law 233 = .ok (.bipush (-30), 2) := by decide +kernel
theorem dL_law_235 : decode cL_law 235 = .ok (.if_icmp .ne 108, 3) := by decide +kernel
theorem dL_law_238 : decode cL_law 238 = .ok (.aload_n 1, 1) := by decide +kernel
theorem dL_law_239 : decode cL_law 239 = .ok (.iconst 0, 1) := by decide +kernel
theorem dL_law_240 : decode cL_law 240 = .ok (.iconst (-1), 1) := by decide +kernel
theorem dL_law_241 : decode cL_law 241 = .ok (.iconst 0, 1) := by decide +kernel
theorem dL_law_242 : decode cL_law 242 = .ok (.invokestatic 100, 3) := by decide +kernel
theorem dL_law_245 : decode cL_law 245 = .ok (.bipush (-30), 2) := by decide +kernel
theorem dL_law_247 : decode cL_law 247 = .ok (.if_icmp .ne 96, 3) := by decide +kernel
theorem dL_law_250 : decode cL_law 250 = .ok (.aload_n 1, 1) := by decide +kernel
theorem dL_law_251 : decode cL_law 251 = .ok (.iconst 1, 1) := by decide +kernel
theorem dL_law_252 : decode cL_law 252 = .ok (.iconst 0, 1) := by decide +kernel
theorem dL_law_253 : decode cL_law 253 = .ok (.iconst (-1), 1) := by decide +kernel
theorem dL_law_254 : decode cL_law 254 = .ok (.invokestatic 100, 3) := by decide +kernel
theorem dL_law_257 : decode cL_law 257 = .ok (.bipush (-30), 2) := by decide +kernel
theorem dL_law_259 : decode cL_law 259 = .ok (.if_icmp .ne 84, 3) := by decide +kernel
theorem dL_law_262 : decode cL_law 262 = .ok (.aload_n 1, 1) := by decide +kernel
theorem dL_law_263 : decode cL_law 263 = .ok (.iconst 2, 1) := by decide +kernel
theorem dL_law_264 : decode cL_law 264 = .ok (.iconst (-1), 1) := by decide +kernel
theorem dL_law_265 : decode cL_law 265 = .ok (.iconst (-1), 1) := by decide +kernel
theorem dL_law_266 : decode cL_law 266 = .ok (.invokestatic 100, 3) := by decide +kernel
theorem dL_law_269 : decode cL_law 269 = .ok (.bipush (-30), 2) := by decide +kernel
theorem dL_law_271 : decode cL_law 271 = .ok (.if_icmp .ne 72, 3) := by decide +kernel
theorem dL_law_274 : decode cL_law 274 = .ok (.aload_n 1, 1) := by decide +kernel
theorem dL_law_275 : decode cL_law 275 = .ok (.iconst 3, 1) := by decide +kernel
theorem dL_law_276 : decode cL_law 276 = .ok (.bipush 6, 2) := by decide +kernel
theorem dL_law_278 : decode cL_law 278 = .ok (.iconst 0, 1) := by decide +kernel
theorem dL_law_279 : decode cL_law 279 = .ok (.invokestatic 100, 3) := by decide +kernel
theorem dL_law_282 : decode cL_law 282 = .ok (.bipush (-30), 2) := by decide +kernel
theorem dL_law_284 : decode cL_law 284 = .ok (.if_icmp .ne 59, 3) := by decide +kernel
theorem dL_law_287 : decode cL_law 287 = .ok (.aload_n 1, 1) := by decide +kernel
theorem dL_law_288 : decode cL_law 288 = .ok (.iconst 4, 1) := by decide +kernel
theorem dL_law_289 : decode cL_law 289 = .ok (.iconst 0, 1) := by decide +kernel
theorem dL_law_290 : decode cL_law 290 = .ok (.sipush 144, 3) := by decide +kernel
theorem dL_law_293 : decode cL_law 293 = .ok (.invokestatic 100, 3) := by decide +kernel
theorem dL_law_296 : decode cL_law 296 = .ok (.bipush (-30), 2) := by decide +kernel
theorem dL_law_298 : decode cL_law 298 = .ok (.if_icmp .ne 45, 3) := by decide +kernel
theorem dL_law_301 : decode cL_law 301 = .ok (.aload_n 1, 1) := by decide +kernel
theorem dL_law_302 : decode cL_law 302 = .ok (.iconst 5, 1) := by decide +kernel
theorem dL_law_303 : decode cL_law 303 = .ok (.iconst 0, 1) := by decide +kernel
theorem dL_law_304 : decode cL_law 304 = .ok (.iconst 0, 1) := by decide +kernel
theorem dL_law_305 : decode cL_law 305 = .ok (.invokestatic 100, 3) := by decide +kernel
theorem dL_law_308 : decode cL_law 308 = .ok (.bipush (-20), 2) := by decide +kernel
theorem dL_law_310 : decode cL_law 310 = .ok (.if_icmp .ne 33, 3) := by decide +kernel
theorem dL_law_313 : decode cL_law 313 = .ok (.aload_n 1, 1) := by decide +kernel
theorem dL_law_314 : decode cL_law 314 = .ok (.bipush 6, 2) := by decide +kernel
theorem dL_law_316 : decode cL_law 316 = .ok (.iconst 2, 1) := by decide +kernel
theorem dL_law_317 : decode cL_law 317 = .ok (.iconst 0, 1) := by decide +kernel
theorem dL_law_318 : decode cL_law 318 = .ok (.invokestatic 100, 3) := by decide +kernel
theorem dL_law_321 : decode cL_law 321 = .ok (.bipush (-30), 2) := by decide +kernel
theorem dL_law_323 : decode cL_law 323 = .ok (.if_icmp .ne 20, 3) := by decide +kernel
theorem dL_law_326 : decode cL_law 326 = .ok (.aload_n 1, 1) := by decide +kernel
theorem dL_law_327 : decode cL_law 327 = .ok (.bipush 7, 2) := by decide +kernel
theorem dL_law_329 : decode cL_law 329 = .ok (.iconst (-1), 1) := by decide +kernel
theorem dL_law_330 : decode cL_law 330 = .ok (.iconst 0, 1) := by decide +kernel
theorem dL_law_331 : decode cL_law 331 = .ok (.invokestatic 100, 3) := by decide +kernel
theorem dL_law_334 : decode cL_law 334 = .ok (.bipush (-30), 2) := by decide +kernel
theorem dL_law_336 : decode cL_law 336 = .ok (.if_icmp .ne 7, 3) := by decide +kernel
theorem dL_law_339 : decode cL_law 339 = .ok (.iconst 1, 1) := by decide +kernel
theorem dL_law_340 : decode cL_law 340 = .ok (.goto 4, 3) := by decide +kernel
theorem dL_law_343 : decode cL_law 343 = .ok (.iconst 0, 1) := by decide +kernel
theorem dL_law_344 : decode cL_law 344 = .ok (.ireturn, 1) := by decide +kernel
abbrev vwCl : List vw_C := [(RX0, TX0, 5), (RX1, TX1, 1), (RX2, TX2, 8), (RX3, TX3, 5), (RX4, TX4, 4), (RX5, TX5, 4)]
end
