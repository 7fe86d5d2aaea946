/-! ===== state pictures and rows of my own ===== -/
abbrev tyL (cI cZ cJ cA : ClassId) : List (ClassId × FieldType) := [(cI, .int), (cZ, .boolean), (cJ, .byte), (cA, .array .int)]
abbrev pcR (D : va_G) (ty : List (ClassId × FieldType)) (ws : va_W) (sz : Nat) (U : State) : Prop := U.heap.size = sz ∧ va_P D vwCl ws U.heap ∧ va_K D vwCl ty U
abbrev pcW (D : va_G) (ty : List (ClassId × FieldType)) (ws : va_W) (sz : Nat) (U : State) : Prop := U.heap.size = sz ∧ va_P D vwCl ws U.heap ∧ va_K D vwCl ty U ∧ va_D (fun _ => True) ws
abbrev bcW (D : va_G) (ty : List (ClassId × FieldType)) (A : Nat → Prop) (ws : va_W) (t : State) : Prop := va_P D vwCl ws t.heap ∧ va_K D vwCl ty t ∧ va_D A ws
theorem pcR_bl {av : List Value} {D : va_G} {ty : List (ClassId × FieldType)} {ws : va_W} {sz : Nat} : FrameBlind (va_Pc av (pcR D ty ws sz)) := fun a U g mk q => by
  obtain ⟨q0, q1, qP, qK⟩ := q
  exact ⟨q0, q1, qP, va_K.moved (u := U) (U := U.calling g mk a) (Vm.Alike.refl U.vm) qK⟩
theorem pcW_bl {av : List Value} {D : va_G} {ty : List (ClassId × FieldType)} {ws : va_W} {sz : Nat} : FrameBlind (va_Pc av (pcW D ty ws sz)) := fun a U g mk q => by
  obtain ⟨q0, q1, qP, qK, qD⟩ := q
  exact ⟨q0, q1, qP, va_K.moved (u := U) (U := U.calling g mk a) (Vm.Alike.refl U.vm) qK, qD⟩
theorem rd_P {D : va_G} {cl : List vw_C} {ws : va_W} {H H1 : Heap} (hP : va_P D cl ws H) (hk : ∀ q : Nat, q < H.size → ¬ H.size ≤ q → H1[q]? = H[q]?) : va_P D cl ws H1 :=
  hP.kept (fun k q hq => hk q.1 (hP k q hq).lt (Nat.not_le.mpr (hP k q hq).lt))
theorem rd_free {A : Nat → Prop} {H0 H : Heap} {locs : List Loc} (hS : va_S A H0 H locs) (hA : ∀ q : Nat, H0.size ≤ q → A q) : ∀ q : Nat, H.size ≤ q → A q := fun q h => hA q (Nat.le_trans hS.1 h)
theorem nz01 {v : Int32} (h : v = 0 ∨ v = 1) : narrow .boolean (.int v) = .int v := by rcases h with rfl | rfl <;> rfl
section OWN
variable {p : Program} {l : Launch} {e : Env} {R : Room} {s : State} {m : MethodId} {args : Array Value} {below : List Frame} {meth : Method} {c : Code} {H : Heap} {locs : List Loc} {cells slots : Nat} {Q : State → Prop}
variable {cc : ByteArray} {pc : Nat} {ls : Array Slot} {rest : List Value} {D : va_G} {cl : List vw_C} {A : Nat → Prop} {a : Nat} {tys : List (ClassId × FieldType)} {ws : va_W} {H0 : Heap}
theorem tp_eq {x y : Int32} (h : x = y) (k : W p l e R s m args below meth c H locs cells slots Q (F0 m pc ls (.int y :: rest))) : W p l e R s m args below meth c H locs cells slots Q (F0 m pc ls (.int x :: rest)) := by rw [h]; exact k
theorem tp_eqv {x y : Value} (h : x = y) (k : W p l e R s m args below meth c H locs cells slots Q (F0 m pc ls (y :: rest))) : W p l e R s m args below meth c H locs cells slots Q (F0 m pc ls (x :: rest)) := by rw [h]; exact k
/-- aaload out of an array of arrays -/
theorem ald2 (hexec : p.tables.exec = Jvm.exec) (hb : c.code = cc) (hK : va_K D cl tys s) (hP : va_P D cl ws H) (q0 t0 : Nat) {cA : ClassId} {n : Nat} {f : Nat → Option Nat} {ty : FieldType} (ha : ws[q0]? = some (a, .inl (cA, n, .inr (.inr (.inr (.inr f)))))) (ht : tys[t0]? = some (cA, .array ty)) {i : Int32} (hin : vp_in i n) (hdg : decode cc pc = .ok (.aaload, 1))
    (kk : W p l e R s m args below meth c H locs cells slots Q (F0 m (pc + 1) ls (va_rf (f i.toNatClampNeg) :: rest))) : W p l e R s m args below meth c H locs cells slots Q (F0 m pc ls (.int i :: .ref a :: rest)) := by
  have hlt : i.toNatClampNeg < n := Nat.not_le.mp fun q => hin (Or.inr q)
  exact W.aald (v := va_rf (f i.toNatClampNeg)) (ty := .array ty) hexec hb (hP q0 _ ha) ((hK.2 t0 _ ht).1 n (fun j => va_rf (f j))) rfl (fun q => by cases q) (by show ¬ (i < 0 ∨ (arrV _ _ _).slots.size ≤ _); rw [arrV_size]; exact hin) (by show (arrV _ _ _).slots[_]? = _; rw [arrV_read _ _ hlt]) rfl rfl hdg kk
/-- two ways that come together with a value on the stack -/
theorem jn_v {st st2 : List Value} {ls2 : Array Slot} {pc2 : Nat} (E : Int32)
    (k1 : (∀ v : Int32, v = E → W p l e R s m args below meth c H locs cells slots Q (F0 m pc2 ls2 (.int v :: st2))) → W p l e R s m args below meth c H locs cells slots Q (F0 m pc ls st))
    (k2 : ∀ v : Int32, v = E → W p l e R s m args below meth c H locs cells slots Q (F0 m pc2 ls2 (.int v :: st2))) : W p l e R s m args below meth c H locs cells slots Q (F0 m pc ls st) := k1 k2
/-- a loop: σ its own numbers, I what holds at its head, μ what falls -/
theorem lpW {σ : Type} (I : σ → Heap → List Loc → Array Slot → Prop) (μ : σ → Nat) {st : List Value}
    (body : ∀ (x : σ) (H : Heap) (locs : List Loc) (ls : Array Slot), I x H locs ls → (∀ (y : σ) (H1 : Heap) (locs1 : List Loc) (ls1 : Array Slot), μ y < μ x → I y H1 locs1 ls1 → W p l e R s m args below meth c H1 locs1 cells slots Q (F0 m pc ls1 st)) → W p l e R s m args below meth c H locs cells slots Q (F0 m pc ls st))
    (x : σ) (hI : I x H locs ls) : W p l e R s m args below meth c H locs cells slots Q (F0 m pc ls st) := by
  have h : ∀ (n : Nat) (x : σ) (H : Heap) (locs : List Loc) (ls : Array Slot), μ x < n → I x H locs ls → W p l e R s m args below meth c H locs cells slots Q (F0 m pc ls st) := by
    intro n
    induction n with
    | zero => intro x H locs ls h; exact absurd h (Nat.not_lt_zero _)
    | succ n ih =>
      intro x H locs ls h hI
      exact body x H locs ls hI (fun y H1 locs1 ls1 hy hI1 => ih y H1 locs1 ls1 (by omega) hI1)
  exact h (μ x + 1) x H locs ls (Nat.lt_succ_self _) hI
end OWN
def z_max (x y : Int32) : Int32 := if x < y then y else x
def z_min (x y : Int32) : Int32 := if y < x then y else x
def z_abs (x : Int32) : Int32 := if 0 ≤ x then x else 0 - x
theorem va_S_mono {A B : Nat → Prop} {H0 H : Heap} {locs : List Loc} (h : va_S A H0 H locs) (hAB : ∀ q : Nat, H0.size ≤ q → B q) (hA : ∀ q : Nat, A q → H0.size ≤ q := by exact fun _ h => h) : va_S B H0 H locs :=
  ⟨h.1, fun q h1 h2 => h.2.1 q h1 (fun h3 => h2 (hAB q (hA q h3))), fun z hz => hAB _ (hA _ (h.2.2 z hz))⟩
theorem va_F_of {A : Nat → Prop} {s t : State} {H : Heap} {locs : List Loc} (hS : va_S A s.heap H locs) (h2 : H.size ≤ t.heap.size) (h3 : ∀ q : Nat, q < H.size → t.heap[q]? = H[q]?) : va_F A s t :=
  ⟨Nat.le_trans hS.1 h2, fun q h h' => (h3 q (Nat.lt_of_lt_of_le h hS.1)).trans (hS.2.1 q h h')⟩
/-- which exception a code means -/
def thr (E : String) (k : Int32) : Prop := (k = 1 ∧ E = "java/lang/IndexOutOfBoundsException") ∨ (k = 2 ∧ E = "java/lang/IllegalArgumentException") ∨ (k = 3 ∧ E = "java/lang/IllegalStateException")
theorem thr_ne {E : String} {k : Int32} (h : thr E k) : ¬ k = 0 := by
  rcases h with ⟨rfl, -⟩ | ⟨rfl, -⟩ | ⟨rfl, -⟩ <;> decide
theorem thr_eq {E : String} {k k2 : Int32} (h : k2 = k) (h1 : thr E k2) : thr E k := h ▸ h1
theorem thr_1 {k : Int32} (h : 1 = k) : thr "java/lang/IndexOutOfBoundsException" k := Or.inl ⟨h.symm, rfl⟩
theorem thr_2 {k : Int32} (h : 2 = k) : thr "java/lang/IllegalArgumentException" k := Or.inr (Or.inl ⟨h.symm, rfl⟩)
theorem thr_3 {k : Int32} (h : 3 = k) : thr "java/lang/IllegalStateException" k := Or.inr (Or.inr ⟨h.symm, rfl⟩)
/-- what a throw in PaintballAtlas stands on: two statics of Throwable, three classes castable to themselves, the written texts -/
def xE (sa : Nat → Nat) (A : Nat → Prop) (U : State) (H : Heap) : Prop :=
  (vx_Zq Bundle.tN "UNASSIGNED_STACK" Bundle.steD A U H ∧ vx_Zq Bundle.tN "SUPPRESSED_SENTINEL" Bundle.listD A U H) ∧
  (va_Nw (.castable "java/lang/IndexOutOfBoundsException" "java/lang/IndexOutOfBoundsException") U ∧ va_Nw (.castable "java/lang/IllegalArgumentException" "java/lang/IllegalArgumentException") U ∧ va_Nw (.castable "java/lang/IllegalStateException" "java/lang/IllegalStateException") U ∧ va_Nw (.declares ⟨"java/lang/RuntimeException", "<init>", "(Ljava/lang/String;)V"⟩) U ∧ va_Nw (.declares ⟨"java/lang/Exception", "<init>", "(Ljava/lang/String;)V"⟩) U ∧ va_Nw (.declares ⟨"java/lang/Throwable", "<init>", "(Ljava/lang/String;)V"⟩) U) ∧
  (vk_R RX5 44 "a round is being played" (sa 44) U ∧ vk_R RX5 69 "a team does not play against itself" (sa 69) U ∧ vk_R RX5 85 "the player is out" (sa 85) U ∧ vk_R RX5 91 "the cell is no neighbour" (sa 91) U ∧ vk_R RX5 99 "the cell is taken" (sa 99) U ∧ vk_R RX5 104 "the player is out or not placed" (sa 104) U ∧ vk_R RX5 106 "the distance is 0" (sa 106) U ∧ vk_R RX5 111 "the player has shot in this tick, or the shots are used up" (sa 111) U ∧ vk_R RX5 116 "ticks out of range" (sa 116) U ∧ vk_R RX5 122 "the referee does not see the player" (sa 122) U ∧ vk_R RX5 127 "the calls are used up" (sa 127) U ∧ vk_R RX5 137 "no such call" (sa 137) U ∧ vk_R RX5 143 "the call was disputed" (sa 143) U ∧ vk_R RX5 192 "no such cell" (sa 192) U ∧ vk_R RX5 194 "no such team" (sa 194) U ∧ vk_R RX5 196 "no such player" (sa 196) U ∧ vk_R RX5 198 "no such referee" (sa 198) U ∧ vk_R RX5 200 "no round is being played" (sa 200) U)
theorem xE.narrow {sa : Nat → Nat} {A B : Nat → Prop} {U : State} {H : Heap} (h : xE sa A U H) (hAB : ∀ q, B q → A q) : xE sa B U H := ⟨⟨h.1.1.narrow hAB, h.1.2.narrow hAB⟩, h.2⟩
theorem xE.same {sa : Nat → Nat} {A : Nat → Prop} {u U : State} {H : Heap} (hv : U.vm = u.vm) (h : xE sa A u H) : xE sa A U H := by
  have hal : u.vm.Alike U.vm := by rw [hv]; exact Vm.Alike.refl _
  refine ⟨⟨vx_Zq.moved hal h.1.1, vx_Zq.moved hal h.1.2⟩, ⟨va_Nw.same rfl hv.symm h.2.1.1, va_Nw.same rfl hv.symm h.2.1.2.1, va_Nw.same rfl hv.symm h.2.1.2.2.1, va_Nw.same rfl hv.symm h.2.1.2.2.2.1, va_Nw.same rfl hv.symm h.2.1.2.2.2.2.1, va_Nw.same rfl hv.symm h.2.1.2.2.2.2.2⟩, ?_⟩
  have h2 := h.2.2
  exact ⟨vk_R.same hv (h2.1), vk_R.same hv (h2.2.1), vk_R.same hv (h2.2.2.1), vk_R.same hv (h2.2.2.2.1), vk_R.same hv (h2.2.2.2.2.1), vk_R.same hv (h2.2.2.2.2.2.1), vk_R.same hv (h2.2.2.2.2.2.2.1), vk_R.same hv (h2.2.2.2.2.2.2.2.1), vk_R.same hv (h2.2.2.2.2.2.2.2.2.1), vk_R.same hv (h2.2.2.2.2.2.2.2.2.2.1), vk_R.same hv (h2.2.2.2.2.2.2.2.2.2.2.1), vk_R.same hv (h2.2.2.2.2.2.2.2.2.2.2.2.1), vk_R.same hv (h2.2.2.2.2.2.2.2.2.2.2.2.2.1), vk_R.same hv (h2.2.2.2.2.2.2.2.2.2.2.2.2.2.1), vk_R.same hv (h2.2.2.2.2.2.2.2.2.2.2.2.2.2.2.1), vk_R.same hv (h2.2.2.2.2.2.2.2.2.2.2.2.2.2.2.2.1), vk_R.same hv (h2.2.2.2.2.2.2.2.2.2.2.2.2.2.2.2.2.1), vk_R.same hv (h2.2.2.2.2.2.2.2.2.2.2.2.2.2.2.2.2.2)⟩
theorem xE.warm {sa : Nat → Nat} {A : Nat → Prop} {s U : State} {H : Heap} (hW : s.WarmedH U.vm) (h : xE sa A s H) : xE sa A U H := by
  refine ⟨⟨vx_Zq.moved hW.alike h.1.1, vx_Zq.moved hW.alike h.1.2⟩, ⟨va_Nw.warmC hW h.2.1.1, va_Nw.warmC hW h.2.1.2.1, va_Nw.warmC hW h.2.1.2.2.1, va_Nw.warmD hW h.2.1.2.2.2.1, va_Nw.warmD hW h.2.1.2.2.2.2.1, va_Nw.warmD hW h.2.1.2.2.2.2.2⟩, ?_⟩
  have h2 := h.2.2
  exact ⟨vk_R.warm hW (h2.1), vk_R.warm hW (h2.2.1), vk_R.warm hW (h2.2.2.1), vk_R.warm hW (h2.2.2.2.1), vk_R.warm hW (h2.2.2.2.2.1), vk_R.warm hW (h2.2.2.2.2.2.1), vk_R.warm hW (h2.2.2.2.2.2.2.1), vk_R.warm hW (h2.2.2.2.2.2.2.2.1), vk_R.warm hW (h2.2.2.2.2.2.2.2.2.1), vk_R.warm hW (h2.2.2.2.2.2.2.2.2.2.1), vk_R.warm hW (h2.2.2.2.2.2.2.2.2.2.2.1), vk_R.warm hW (h2.2.2.2.2.2.2.2.2.2.2.2.1), vk_R.warm hW (h2.2.2.2.2.2.2.2.2.2.2.2.2.1), vk_R.warm hW (h2.2.2.2.2.2.2.2.2.2.2.2.2.2.1), vk_R.warm hW (h2.2.2.2.2.2.2.2.2.2.2.2.2.2.2.1), vk_R.warm hW (h2.2.2.2.2.2.2.2.2.2.2.2.2.2.2.2.1), vk_R.warm hW (h2.2.2.2.2.2.2.2.2.2.2.2.2.2.2.2.2.1), vk_R.warm hW (h2.2.2.2.2.2.2.2.2.2.2.2.2.2.2.2.2.2)⟩
theorem xE.kept {sa : Nat → Nat} {A : Nat → Prop} {U : State} {H H1 : Heap} (h : xE sa A U H) (hq : ∀ a : Nat, a < H.size → ¬ A a → H1[a]? = H[a]?) : xE sa A U H1 := ⟨⟨h.1.1.kept hq, h.1.2.kept hq⟩, h.2⟩
theorem xE.call {sa : Nat → Nat} {A A0 B : Nat → Prop} {s U : State} {H : Heap} {locs : List Loc} (h : xE sa A s s.heap) (hS : va_S A0 s.heap H locs) (hB : ∀ q, B q → A0 q) (hU : U.heap = H) (hW : s.WarmedH U.vm) (hA : ∀ q, A0 q → A q := by exact fun _ h => h) : xE sa B U U.heap := by
  rw [hU]
  exact (((h.narrow hA).kept hS.2.1).narrow hB).warm hW
theorem xE.u {sa : Nat → Nat} {A : Nat → Prop} {U : State} {H : Heap} (h : xE sa A U H) : vx_Zq Bundle.tN "UNASSIGNED_STACK" Bundle.steD A U H := h.1.1
theorem xE.n {sa : Nat → Nat} {A : Nat → Prop} {U : State} {H : Heap} (h : xE sa A U H) : vx_Zq Bundle.tN "SUPPRESSED_SENTINEL" Bundle.listD A U H := h.1.2
theorem xE.n1 {sa : Nat → Nat} {A : Nat → Prop} {U : State} {H : Heap} (h : xE sa A U H) : va_Nw (.castable "java/lang/IndexOutOfBoundsException" "java/lang/IndexOutOfBoundsException") U := h.2.1.1
theorem xE.n2 {sa : Nat → Nat} {A : Nat → Prop} {U : State} {H : Heap} (h : xE sa A U H) : va_Nw (.castable "java/lang/IllegalArgumentException" "java/lang/IllegalArgumentException") U := h.2.1.2.1
theorem xE.n3 {sa : Nat → Nat} {A : Nat → Prop} {U : State} {H : Heap} (h : xE sa A U H) : va_Nw (.castable "java/lang/IllegalStateException" "java/lang/IllegalStateException") U := h.2.1.2.2.1
theorem xE.s44 {sa : Nat → Nat} {A : Nat → Prop} {U : State} {H : Heap} (h : xE sa A U H) : vk_R RX5 44 "a round is being played" (sa 44) U := h.2.2.1
theorem xE.s69 {sa : Nat → Nat} {A : Nat → Prop} {U : State} {H : Heap} (h : xE sa A U H) : vk_R RX5 69 "a team does not play against itself" (sa 69) U := h.2.2.2.1
theorem xE.s85 {sa : Nat → Nat} {A : Nat → Prop} {U : State} {H : Heap} (h : xE sa A U H) : vk_R RX5 85 "the player is out" (sa 85) U := h.2.2.2.2.1
theorem xE.s91 {sa : Nat → Nat} {A : Nat → Prop} {U : State} {H : Heap} (h : xE sa A U H) : vk_R RX5 91 "the cell is no neighbour" (sa 91) U := h.2.2.2.2.2.1
theorem xE.s99 {sa : Nat → Nat} {A : Nat → Prop} {U : State} {H : Heap} (h : xE sa A U H) : vk_R RX5 99 "the cell is taken" (sa 99) U := h.2.2.2.2.2.2.1
theorem xE.s104 {sa : Nat → Nat} {A : Nat → Prop} {U : State} {H : Heap} (h : xE sa A U H) : vk_R RX5 104 "the player is out or not placed" (sa 104) U := h.2.2.2.2.2.2.2.1
theorem xE.s106 {sa : Nat → Nat} {A : Nat → Prop} {U : State} {H : Heap} (h : xE sa A U H) : vk_R RX5 106 "the distance is 0" (sa 106) U := h.2.2.2.2.2.2.2.2.1
theorem xE.s111 {sa : Nat → Nat} {A : Nat → Prop} {U : State} {H : Heap} (h : xE sa A U H) : vk_R RX5 111 "the player has shot in this tick, or the shots are used up" (sa 111) U := h.2.2.2.2.2.2.2.2.2.1
theorem xE.s116 {sa : Nat → Nat} {A : Nat → Prop} {U : State} {H : Heap} (h : xE sa A U H) : vk_R RX5 116 "ticks out of range" (sa 116) U := h.2.2.2.2.2.2.2.2.2.2.1
theorem xE.s122 {sa : Nat → Nat} {A : Nat → Prop} {U : State} {H : Heap} (h : xE sa A U H) : vk_R RX5 122 "the referee does not see the player" (sa 122) U := h.2.2.2.2.2.2.2.2.2.2.2.1
theorem xE.s127 {sa : Nat → Nat} {A : Nat → Prop} {U : State} {H : Heap} (h : xE sa A U H) : vk_R RX5 127 "the calls are used up" (sa 127) U := h.2.2.2.2.2.2.2.2.2.2.2.2.1
theorem xE.s137 {sa : Nat → Nat} {A : Nat → Prop} {U : State} {H : Heap} (h : xE sa A U H) : vk_R RX5 137 "no such call" (sa 137) U := h.2.2.2.2.2.2.2.2.2.2.2.2.2.1
theorem xE.s143 {sa : Nat → Nat} {A : Nat → Prop} {U : State} {H : Heap} (h : xE sa A U H) : vk_R RX5 143 "the call was disputed" (sa 143) U := h.2.2.2.2.2.2.2.2.2.2.2.2.2.2.1
theorem xE.s192 {sa : Nat → Nat} {A : Nat → Prop} {U : State} {H : Heap} (h : xE sa A U H) : vk_R RX5 192 "no such cell" (sa 192) U := h.2.2.2.2.2.2.2.2.2.2.2.2.2.2.2.1
theorem xE.s194 {sa : Nat → Nat} {A : Nat → Prop} {U : State} {H : Heap} (h : xE sa A U H) : vk_R RX5 194 "no such team" (sa 194) U := h.2.2.2.2.2.2.2.2.2.2.2.2.2.2.2.2.1
theorem xE.s196 {sa : Nat → Nat} {A : Nat → Prop} {U : State} {H : Heap} (h : xE sa A U H) : vk_R RX5 196 "no such player" (sa 196) U := h.2.2.2.2.2.2.2.2.2.2.2.2.2.2.2.2.2.1
theorem xE.s198 {sa : Nat → Nat} {A : Nat → Prop} {U : State} {H : Heap} (h : xE sa A U H) : vk_R RX5 198 "no such referee" (sa 198) U := h.2.2.2.2.2.2.2.2.2.2.2.2.2.2.2.2.2.2.1
theorem xE.s200 {sa : Nat → Nat} {A : Nat → Prop} {U : State} {H : Heap} (h : xE sa A U H) : vk_R RX5 200 "no round is being played" (sa 200) U := h.2.2.2.2.2.2.2.2.2.2.2.2.2.2.2.2.2.2.2
theorem xE.d1 {sa : Nat → Nat} {A : Nat → Prop} {U : State} {H : Heap} (h : xE sa A U H) : va_Nw (.declares ⟨"java/lang/RuntimeException", "<init>", "(Ljava/lang/String;)V"⟩) U := h.2.1.2.2.2.1
theorem xE.d2 {sa : Nat → Nat} {A : Nat → Prop} {U : State} {H : Heap} (h : xE sa A U H) : va_Nw (.declares ⟨"java/lang/Exception", "<init>", "(Ljava/lang/String;)V"⟩) U := h.2.1.2.2.2.2.1
theorem xE.d3 {sa : Nat → Nat} {A : Nat → Prop} {U : State} {H : Heap} (h : xE sa A U H) : va_Nw (.declares ⟨"java/lang/Throwable", "<init>", "(Ljava/lang/String;)V"⟩) U := h.2.1.2.2.2.2.2
abbrev pcX (B : State → Prop) (sa : Nat → Nat) (A : Nat → Prop) (U : State) : Prop := B U ∧ xE sa A U U.heap
theorem pcXR_bl {av : List Value} {D : va_G} {ty : List (ClassId × FieldType)} {ws : va_W} {sz : Nat} {sa : Nat → Nat} {A : Nat → Prop} : FrameBlind (va_Pc av (pcX (pcR D ty ws sz) sa A)) := fun a U g mk q => by
  obtain ⟨q0, ⟨q1, qP, qK⟩, qE⟩ := q
  exact ⟨q0, ⟨q1, qP, va_K.moved (u := U) (U := U.calling g mk a) (Vm.Alike.refl U.vm) qK⟩, xE.same (u := U) (U := U.calling g mk a) rfl qE⟩
theorem pcXW_bl {av : List Value} {D : va_G} {ty : List (ClassId × FieldType)} {ws : va_W} {sz : Nat} {sa : Nat → Nat} {A : Nat → Prop} : FrameBlind (va_Pc av (pcX (pcW D ty ws sz) sa A)) := fun a U g mk q => by
  obtain ⟨q0, ⟨q1, qP, qK, qD⟩, qE⟩ := q
  exact ⟨q0, ⟨q1, qP, va_K.moved (u := U) (U := U.calling g mk a) (Vm.Alike.refl U.vm) qK, qD⟩, xE.same (u := U) (U := U.calling g mk a) rfl qE⟩
