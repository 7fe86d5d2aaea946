/-! THE CLAIM OUT OF ONE WALK OF THE LAW'S BODY. Your part is whole_start (and what it stands on); all else here is the same for every law, but numbers. -/
def R_law : String := "PaintballAtlasLaw"
def lw_P (b : Addr) (xs : List Int32) (args : Array Value) (s : State) : Prop := args = #[.ref b] ∧ s.IntsAt b xs ∧ xs.length ≤ 260 ∧ (Jvm.Cond.and given_1 narrow_1).before args s = true
def lw_Q (_ : Array Value) (s : State) (o : Outcome) (t : State) : Prop := o = .returned (some (.int 1)) ∧ Framed s o t [] 622787 7232821
def lw_Z (below : List Frame) (a : Array Value) (s : State) : State → Prop := fun t => ∃ o, t.status = .running ∧ Ended t below o ∧ lw_Q a s o t
/-- the law's own end, with 1 on the stack, nothing written that was there before, its room as the claim has it -/
theorem lw_ret {p : Program} {l : Launch} {e : Env} {s : State} {m : MethodId} {below : List Frame} {meth : Method} {c : Code} {b : Nat} (hx : p.tables.exec = Jvm.exec) (hb : c.code = code) (hr : meth.sig.returnType = ret) (hlocks : meth.locks = false) {pc : Nat} {H : Heap} {ls : Array Slot} (hdg : decode code pc = .ok (.ireturn, 1)) : W p l e room_1 s m #[Value.ref b] below meth c H [] 622787 7232821 (lw_Z below #[Value.ref b] s) (F0 m pc ls [.int 1]) := by
  intro T hT X
  obtain ⟨fs, hret, hrun, hended, hW, hframe⟩ := X.leave (v := some (.int 1)) (hlocks := hlocks) (fun h => by rw [hr] at h; cases h)
  have hmeth' : T.vm.method? m = some meth := X.method'
  refine ⟨T.setFrames fs, ?_, .returned (some (.int 1)), hrun, hended, rfl, ⟨_, rfl⟩, hW, hframe⟩
  jvm_step X.here [X.here.top, hx, hb, hdg, hmeth', hr, ret, narrow_b1]
  (try refine ⟨rfl, ?_⟩); (try refine ⟨rfl, ?_⟩)
  first | (intro acts; rw [hret _ acts rfl rfl rfl]) | rw [hret _ _ rfl rfl rfl]
  exact Steps.refl _
/-- what holds at the law's entry: the machine, the code, the tables' words (any of lw_tbl by 'hts w (by decide +kernel)'), the script of L ints xs at the cell b, what the Statement gives of the start (any of its parts by flat_of_before) -/
def lw_At (p : Program) (s : State) (m : MethodId) (meth : Method) (c : Code) (b L : Nat) (xs : Nat → Int32) : Prop :=
  p.tables.exec = Jvm.exec ∧ c.code = code ∧ meth.sig.returnType = ret ∧ c.maxLocals = 9 ∧ s.vm.findClass R_law = some m.cls ∧ (∀ w ∈ lw_tbl, w.before #[Value.ref b] s = true) ∧ va_X b L xs s s.heap ∧ b < s.heap.size ∧ meth.locks = false ∧ (Jvm.Cond.and given_1 narrow_1).before #[Value.ref b] s = true
/-- what stands in the law for its whole run -/
def lawC (p : Program) (s : State) (m : MethodId) (c : Code) (D : va_G) (cI cZ cJ cA : ClassId) (b L : Nat) (xs : Nat → Int32) (sx : Nat → Nat) : Prop :=
  p.tables.exec = Jvm.exec ∧ c.code = cL_law ∧ c.maxLocals = 9 ∧ s.vm.findClass RL = some m.cls ∧ (∀ w ∈ wsL_law, w.before #[Value.ref b] s = true) ∧ va_X b L xs s s.heap ∧ b < s.heap.size ∧ xE sx (fun q : Nat => s.heap.size ≤ q) s s.heap ∧ xN s ∧ va_K D vwCl (tyL cI cZ cJ cA) s
theorem in_tb {w : Cond} (h : w ∈ tables_1) : w ∈ lw_tbl := List.mem_append_right (k2_sels lw_privs) h
theorem arr_of {s : State} {cA : ClassId} {k : Class} {comp : ClassId} {ty : FieldType} (hk : s.vm.classes[cA]? = some k) (hkind : k.kind = .array comp ty) : ArrOfT s cA ty := fun n z => ⟨(fun q hq => by cases hq), k, hk, comp, hkind⟩
set_option maxHeartbeats 4000000 in
set_option maxRecDepth 100000 in
theorem start_C {p : Program} {s : State} {m : MethodId} {meth : Method} {c : Code} {b L : Nat} {xs : Nat → Int32} (C0 : lw_At p s m meth c b L xs) : ∃ (D : va_G) (cI cZ cJ cA : ClassId) (sx : Nat → Nat), lawC p s m c D cI cZ cJ cA b L xs sx ∧ eX s := by
  obtain ⟨hx, hb, hr, hml, hown, hts, hX, hbl, hlocks, hgv⟩ := C0
  have htl : ∀ w ∈ wsL_law, w.before #[Value.ref b] s = true := fun w h => hts w (wsL_law_in w h)
  have hs := flat_of_before _ hgv
  have hi0 := htl (.instantiable RX0 5) (by decide +kernel)
  obtain ⟨c0, i0, k0⟩ := u_known (C := RX0) (T := TX0) (N := 5) (n := 5) htl inlX0 hi0
  have hi1 := htl (.instantiable RX1 1) (by decide +kernel)
  obtain ⟨c1, i1, k1⟩ := u_known (C := RX1) (T := TX1) (N := 1) (n := 1) htl inlX1 hi1
  have hi2 := htl (.instantiable RX2 8) (by decide +kernel)
  obtain ⟨c2, i2, k2⟩ := u_known (C := RX2) (T := TX2) (N := 8) (n := 8) htl inlX2 hi2
  have hi3 := htl (.instantiable RX3 5) (by decide +kernel)
  obtain ⟨c3, i3, k3⟩ := u_known (C := RX3) (T := TX3) (N := 5) (n := 5) htl inlX3 hi3
  have hi4 := htl (.instantiable RX4 4) (by decide +kernel)
  obtain ⟨c4, i4, k4⟩ := u_known (C := RX4) (T := TX4) (N := 4) (n := 4) htl inlX4 hi4
  have hi5 := htl (.instantiable RX5 4) (by decide +kernel)
  obtain ⟨c5, i5, k5⟩ := u_known (C := RX5) (T := TX5) (N := 4) (n := 4) htl inlX5 hi5
  obtain ⟨cI, aI, bI, fI, gI, hI⟩ := Cond.arrayClass_spec (hts (.arrayClass .int) (in_tb (List.mem_of_getElem? (i := 66) (by decide +kernel))))
  obtain ⟨cZ, aZ, bZ, fZ, gZ, hZ⟩ := Cond.arrayClass_spec (hts (.arrayClass .boolean) (in_tb (List.mem_of_getElem? (i := 32) (by decide +kernel))))
  obtain ⟨cJ, aJ, bJ, fJ, gJ, hJ⟩ := Cond.arrayClass_spec (hts (.arrayClass .byte) (in_tb (List.mem_of_getElem? (i := 241) (by decide +kernel))))
  have hov := (hts (.arrayOver (.array .int)) (in_tb (List.mem_of_getElem? (i := 130) (by decide +kernel))))
  obtain ⟨bA, cA, aA, _, gA, hA, fA⟩ := Cond.arrayOver_specA hov
  obtain ⟨cur, hcur⟩ : ∃ cur, s.vm.findClass RX5 = some cur := by
    obtain ⟨cC, kC, hfc, -⟩ := Cond.instantiable_spec hi5
    exact ⟨_, hfc⟩
  have hw44 := (hts (.stringRef RX5 44 "a round is being played") (in_tb (List.mem_of_getElem? (i := 255) (by decide +kernel))))
  obtain ⟨_, _, _, q44, -, -, -, -, -, e44⟩ := Cond.stringRef_spec hcur hw44
  have hw69 := (hts (.stringRef RX5 69 "a team does not play against itself") (in_tb (List.mem_of_getElem? (i := 294) (by decide +kernel))))
  obtain ⟨_, _, _, q69, -, -, -, -, -, e69⟩ := Cond.stringRef_spec hcur hw69
  have hw85 := (hts (.stringRef RX5 85 "the player is out") (in_tb (List.mem_of_getElem? (i := 322) (by decide +kernel))))
  obtain ⟨_, _, _, q85, -, -, -, -, -, e85⟩ := Cond.stringRef_spec hcur hw85
  have hw91 := (hts (.stringRef RX5 91 "the cell is no neighbour") (in_tb (List.mem_of_getElem? (i := 332) (by decide +kernel))))
  obtain ⟨_, _, _, q91, -, -, -, -, -, e91⟩ := Cond.stringRef_spec hcur hw91
  have hw99 := (hts (.stringRef RX5 99 "the cell is taken") (in_tb (List.mem_of_getElem? (i := 341) (by decide +kernel))))
  obtain ⟨_, _, _, q99, -, -, -, -, -, e99⟩ := Cond.stringRef_spec hcur hw99
  have hw104 := (hts (.stringRef RX5 104 "the player is out or not placed") (in_tb (List.mem_of_getElem? (i := 350) (by decide +kernel))))
  obtain ⟨_, _, _, q104, -, -, -, -, -, e104⟩ := Cond.stringRef_spec hcur hw104
  have hw106 := (hts (.stringRef RX5 106 "the distance is 0") (in_tb (List.mem_of_getElem? (i := 351) (by decide +kernel))))
  obtain ⟨_, _, _, q106, -, -, -, -, -, e106⟩ := Cond.stringRef_spec hcur hw106
  have hw111 := (hts (.stringRef RX5 111 "the player has shot in this tick, or the shots are used up") (in_tb (List.mem_of_getElem? (i := 356) (by decide +kernel))))
  obtain ⟨_, _, _, q111, -, -, -, -, -, e111⟩ := Cond.stringRef_spec hcur hw111
  have hw116 := (hts (.stringRef RX5 116 "ticks out of range") (in_tb (List.mem_of_getElem? (i := 370) (by decide +kernel))))
  obtain ⟨_, _, _, q116, -, -, -, -, -, e116⟩ := Cond.stringRef_spec hcur hw116
  have hw122 := (hts (.stringRef RX5 122 "the referee does not see the player") (in_tb (List.mem_of_getElem? (i := 395) (by decide +kernel))))
  obtain ⟨_, _, _, q122, -, -, -, -, -, e122⟩ := Cond.stringRef_spec hcur hw122
  have hw127 := (hts (.stringRef RX5 127 "the calls are used up") (in_tb (List.mem_of_getElem? (i := 400) (by decide +kernel))))
  obtain ⟨_, _, _, q127, -, -, -, -, -, e127⟩ := Cond.stringRef_spec hcur hw127
  have hw137 := (hts (.stringRef RX5 137 "no such call") (in_tb (List.mem_of_getElem? (i := 417) (by decide +kernel))))
  obtain ⟨_, _, _, q137, -, -, -, -, -, e137⟩ := Cond.stringRef_spec hcur hw137
  have hw143 := (hts (.stringRef RX5 143 "the call was disputed") (in_tb (List.mem_of_getElem? (i := 422) (by decide +kernel))))
  obtain ⟨_, _, _, q143, -, -, -, -, -, e143⟩ := Cond.stringRef_spec hcur hw143
  have hw192 := (hts (.stringRef RX5 192 "no such cell") (in_tb (List.mem_of_getElem? (i := 215) (by decide +kernel))))
  obtain ⟨_, _, _, q192, -, -, -, -, -, e192⟩ := Cond.stringRef_spec hcur hw192
  have hw194 := (hts (.stringRef RX5 194 "no such team") (in_tb (List.mem_of_getElem? (i := 284) (by decide +kernel))))
  obtain ⟨_, _, _, q194, -, -, -, -, -, e194⟩ := Cond.stringRef_spec hcur hw194
  have hw196 := (hts (.stringRef RX5 196 "no such player") (in_tb (List.mem_of_getElem? (i := 312) (by decide +kernel))))
  obtain ⟨_, _, _, q196, -, -, -, -, -, e196⟩ := Cond.stringRef_spec hcur hw196
  have hw198 := (hts (.stringRef RX5 198 "no such referee") (in_tb (List.mem_of_getElem? (i := 273) (by decide +kernel))))
  obtain ⟨_, _, _, q198, -, -, -, -, -, e198⟩ := Cond.stringRef_spec hcur hw198
  have hw200 := (hts (.stringRef RX5 200 "no round is being played") (in_tb (List.mem_of_getElem? (i := 317) (by decide +kernel))))
  obtain ⟨_, _, _, q200, -, -, -, -, -, e200⟩ := Cond.stringRef_spec hcur hw200
  have hT := (hts (.initialized "java/lang/Throwable") (in_tb (List.mem_of_getElem? (i := 7) (by decide +kernel))))
  have hAA : ∀ a : Nat, a < s.heap.size → ¬ (fun q : Nat => s.heap.size ≤ q) a := fun a h => Nat.not_le.mpr h
  have hZ1 := vx_Zqof (A := fun q : Nat => s.heap.size ≤ q) (hts (.laysStatic Bundle.tN "UNASSIGNED_STACK" Bundle.steD) (in_tb (List.mem_of_getElem? (i := 201) (by decide +kernel)))) hT (hs (.isRef (.static Bundle.tN "UNASSIGNED_STACK" Bundle.steD)) (by decide +kernel)) hAA
  have hZ2 := vx_Zqof (A := fun q : Nat => s.heap.size ≤ q) (hts (.laysStatic Bundle.tN "SUPPRESSED_SENTINEL" Bundle.listD) (in_tb (List.mem_of_getElem? (i := 203) (by decide +kernel)))) hT (hs (.isRef (.static Bundle.tN "SUPPRESSED_SENTINEL" Bundle.listD)) (by decide +kernel)) hAA
  have hn1 : va_Nw (.castable "java/lang/IndexOutOfBoundsException" "java/lang/IndexOutOfBoundsException") s := va_Nw.of rfl (hts (.castable "java/lang/IndexOutOfBoundsException" "java/lang/IndexOutOfBoundsException") (in_tb (List.mem_of_getElem? (i := 176) (by decide +kernel))))
  have hn2 : va_Nw (.castable "java/lang/IllegalArgumentException" "java/lang/IllegalArgumentException") s := va_Nw.of rfl (hts (.castable "java/lang/IllegalArgumentException" "java/lang/IllegalArgumentException") (in_tb (List.mem_of_getElem? (i := 287) (by decide +kernel))))
  have hn3 : va_Nw (.castable "java/lang/IllegalStateException" "java/lang/IllegalStateException") s := va_Nw.of rfl (hts (.castable "java/lang/IllegalStateException" "java/lang/IllegalStateException") (in_tb (List.mem_of_getElem? (i := 248) (by decide +kernel))))
  have hd1 : va_Nw (.declares ⟨"java/lang/RuntimeException", "<init>", "(Ljava/lang/String;)V"⟩) s := va_Nw.of rfl (hts (.declares ⟨"java/lang/RuntimeException", "<init>", "(Ljava/lang/String;)V"⟩) (in_tb (List.mem_of_getElem? (i := 178) (by decide +kernel))))
  have hd2 : va_Nw (.declares ⟨"java/lang/Exception", "<init>", "(Ljava/lang/String;)V"⟩) s := va_Nw.of rfl (hts (.declares ⟨"java/lang/Exception", "<init>", "(Ljava/lang/String;)V"⟩) (in_tb (List.mem_of_getElem? (i := 180) (by decide +kernel))))
  have hd3 : va_Nw (.declares ⟨"java/lang/Throwable", "<init>", "(Ljava/lang/String;)V"⟩) s := va_Nw.of rfl (hts (.declares ⟨"java/lang/Throwable", "<init>", "(Ljava/lang/String;)V"⟩) (in_tb (List.mem_of_getElem? (i := 182) (by decide +kernel))))
  have hE : xE (fun k => if k = 44 then q44 else if k = 69 then q69 else if k = 85 then q85 else if k = 91 then q91 else if k = 99 then q99 else if k = 104 then q104 else if k = 106 then q106 else if k = 111 then q111 else if k = 116 then q116 else if k = 122 then q122 else if k = 127 then q127 else if k = 137 then q137 else if k = 143 then q143 else if k = 192 then q192 else if k = 194 then q194 else if k = 196 then q196 else if k = 198 then q198 else if k = 200 then q200 else 0) (fun q : Nat => s.heap.size ≤ q) s s.heap := ⟨⟨hZ1, hZ2⟩, ⟨hn1, hn2, hn3, hd1, hd2, hd3⟩, vk_R.of hw44 e44, vk_R.of hw69 e69, vk_R.of hw85 e85, vk_R.of hw91 e91, vk_R.of hw99 e99, vk_R.of hw104 e104, vk_R.of hw106 e106, vk_R.of hw111 e111, vk_R.of hw116 e116, vk_R.of hw122 e122, vk_R.of hw127 e127, vk_R.of hw137 e137, vk_R.of hw143 e143, vk_R.of hw192 e192, vk_R.of hw194 e194, vk_R.of hw196 e196, vk_R.of hw198 e198, vk_R.of hw200 e200⟩
  have hN : xN s := ⟨va_Nc.of (hs (.not (.castable "java/lang/IllegalArgumentException" "java/lang/IndexOutOfBoundsException")) (by decide +kernel)), va_Nc.of (hs (.not (.castable "java/lang/IllegalStateException" "java/lang/IndexOutOfBoundsException")) (by decide +kernel)), va_Nc.of (hs (.not (.castable "java/lang/IllegalStateException" "java/lang/IllegalArgumentException")) (by decide +kernel))⟩
  have hX9 : eX s := ⟨va_Nw.of rfl (hts (.methodLinkNest RX5 11 yX1_init "PaintballAtlas") (in_tb (List.mem_of_getElem? (i := 24) (by decide +kernel)))), va_Nw.of rfl (hts (.methodLinkNest RX5 25 yX4_init "PaintballAtlas") (in_tb (List.mem_of_getElem? (i := 125) (by decide +kernel)))), ⟨va_Nw.of rfl (hts (.methodLinkNest RX2 27 yX3_init "PaintballAtlas") (in_tb (List.mem_of_getElem? (i := 41) (by decide +kernel)))), va_Nw.of rfl (hts (.methodLinkNest RX2 34 yX0_init "PaintballAtlas") (in_tb (List.mem_of_getElem? (i := 69) (by decide +kernel))))⟩, hov⟩
  have hK : va_K ((fun k => ([c0, c1, c2, c3, c4, c5] : List ClassId).getD k c0), (fun k => ([i0, i1, i2, i3, i4, i5] : List (Nat → Nat)).getD k i0)) vwCl (tyL cI cZ cJ cA) s := by
    refine ⟨?_, ?_⟩
    · intro k q hq
      match k, hq with
      | 0, hq => cases hq; exact k0
      | 1, hq => cases hq; exact k1
      | 2, hq => cases hq; exact k2
      | 3, hq => cases hq; exact k3
      | 4, hq => cases hq; exact k4
      | 5, hq => cases hq; exact k5
      | k + 6, hq => simp [vwCl] at hq
    · intro k q hq
      match k, hq with
      | 0, hq => cases hq; exact ⟨arr_of gI hI, fI⟩
      | 1, hq => cases hq; exact ⟨arr_of gZ hZ, fZ⟩
      | 2, hq => cases hq; exact ⟨arr_of gJ hJ, fJ⟩
      | 3, hq => cases hq; exact ⟨arr_of gA hA, fA⟩
      | k + 4, hq => simp at hq
  exact ⟨_, cI, cZ, cJ, cA, _, ⟨hx, hb, hml, hown, htl, hX, hbl, hE, hN, hK⟩, hX9⟩
