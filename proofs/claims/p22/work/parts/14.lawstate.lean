/-! ===== the law's small methods: what they stand on ===== -/
def xN (U : State) : Prop := va_Nc "java/lang/IllegalArgumentException" "java/lang/IndexOutOfBoundsException" U ∧ va_Nc "java/lang/IllegalStateException" "java/lang/IndexOutOfBoundsException" U ∧ va_Nc "java/lang/IllegalStateException" "java/lang/IllegalArgumentException" U
theorem xN.moved {u U : State} (hvm : u.vm.Alike U.vm) (h : xN u) : xN U := ⟨va_Nc.moved hvm h.1, va_Nc.moved hvm h.2.1, va_Nc.moved hvm h.2.2⟩
theorem xN.n21 {U : State} (h : xN U) : va_Nc "java/lang/IllegalArgumentException" "java/lang/IndexOutOfBoundsException" U := h.1
theorem xN.n31 {U : State} (h : xN U) : va_Nc "java/lang/IllegalStateException" "java/lang/IndexOutOfBoundsException" U := h.2.1
theorem xN.n32 {U : State} (h : xN U) : va_Nc "java/lang/IllegalStateException" "java/lang/IllegalArgumentException" U := h.2.2
abbrev pcL (B : State → Prop) (sx : Nat → Nat) (A : Nat → Prop) (U : State) : Prop := (B U ∧ xE sx A U U.heap) ∧ xN U
theorem pcL_bl {av : List Value} {D : va_G} {ty : List (ClassId × FieldType)} {ws : va_W} {sz : Nat} {sx : Nat → Nat} {A : Nat → Prop} : FrameBlind (va_Pc av (pcL (pcW D ty ws sz) sx A)) := fun a U g mk q => by
  obtain ⟨q0, ⟨⟨q1, qP, qK, qD⟩, qE⟩, qN⟩ := q
  exact ⟨q0, ⟨⟨q1, qP, va_K.moved (u := U) (U := U.calling g mk a) (Vm.Alike.refl U.vm) qK, qD⟩, xE.same (u := U) (U := U.calling g mk a) rfl qE⟩, xN.moved (u := U) (U := U.calling g mk a) (Vm.Alike.refl U.vm) qN⟩
theorem thr_E1 {E : String} {k : Int32} (h : thr E k) (hk : k = 1) : E = "java/lang/IndexOutOfBoundsException" := by
  rcases h with ⟨-, h⟩ | ⟨h2, -⟩ | ⟨h2, -⟩
  · exact h
  · rw [hk] at h2; exact absurd h2 (by decide)
  · rw [hk] at h2; exact absurd h2 (by decide)
theorem thr_E2 {E : String} {k : Int32} (h : thr E k) (hk : k = 2) : E = "java/lang/IllegalArgumentException" := by
  rcases h with ⟨h2, -⟩ | ⟨-, h⟩ | ⟨h2, -⟩
  · rw [hk] at h2; exact absurd h2 (by decide)
  · exact h
  · rw [hk] at h2; exact absurd h2 (by decide)
theorem thr_E3 {E : String} {k : Int32} (h : thr E k) (hk : k = 3) : E = "java/lang/IllegalStateException" := by
  rcases h with ⟨h2, -⟩ | ⟨h2, -⟩ | ⟨-, h⟩
  · rw [hk] at h2; exact absurd h2 (by decide)
  · rw [hk] at h2; exact absurd h2 (by decide)
  · exact h
/-- the codes that a method's end may have -/
def kA (k : Int32) : Prop := k = 0 ∨ k = 1
def kR (k : Int32) : Prop := k = 0 ∨ k = 3
def kB (k : Int32) : Prop := k = 0 ∨ k = 1 ∨ k = 3
def kC (k : Int32) : Prop := k = 0 ∨ k = 1 ∨ k = 2 ∨ k = 3
def kP (k : Int32) : Prop := k = 0 ∨ k = 2 ∨ k = 3
theorem kA.b {k : Int32} (h : kA k) : kB k := h.elim Or.inl (fun h => Or.inr (Or.inl h))
theorem kR.b {k : Int32} (h : kR k) : kB k := h.elim Or.inl (fun h => Or.inr (Or.inr h))
theorem kA.c {k : Int32} (h : kA k) : kC k := h.elim Or.inl (fun h => Or.inr (Or.inl h))
theorem kR.p {k : Int32} (h : kR k) : kP k := h.elim Or.inl (fun h => Or.inr (Or.inr h))
theorem ka_cell (p : Int32) : kA (k_X5_checkCell p) := by
  unfold k_X5_checkCell
  (repeat' split) <;> first | exact Or.inl rfl | exact Or.inr rfl
theorem ka_team (p : Int32) : kA (k_X5_checkTeam p) := by
  unfold k_X5_checkTeam
  (repeat' split) <;> first | exact Or.inl rfl | exact Or.inr rfl
theorem ka_player (p : Int32) : kA (k_X5_checkPlayer p) := by
  unfold k_X5_checkPlayer
  (repeat' split) <;> first | exact Or.inl rfl | exact Or.inr rfl
theorem ka_referee (p : Int32) : kA (k_X5_checkReferee p) := by
  unfold k_X5_checkReferee
  (repeat' split) <;> first | exact Or.inl rfl | exact Or.inr rfl
theorem kr_round (hm aw tk : Int32) : kR (k_X5_checkRound hm aw tk) := by
  unfold k_X5_checkRound
  (repeat' split) <;> first | exact Or.inl rfl | exact Or.inr rfl
theorem kR.c {k : Int32} (h : kR k) : kC k := h.elim Or.inl (fun h => Or.inr (Or.inr (Or.inr h)))
theorem pcLR_bl {av : List Value} {D : va_G} {ty : List (ClassId × FieldType)} {ws : va_W} {sz : Nat} {sx : Nat → Nat} {A : Nat → Prop} : FrameBlind (va_Pc av (pcL (pcR D ty ws sz) sx A)) := fun a U g mk q => by
  obtain ⟨q0, ⟨⟨q1, qP, qK⟩, qE⟩, qN⟩ := q
  exact ⟨q0, ⟨⟨q1, qP, va_K.moved (u := U) (U := U.calling g mk a) (Vm.Alike.refl U.vm) qK⟩, xE.same (u := U) (U := U.calling g mk a) rfl qE⟩, xN.moved (u := U) (U := U.calling g mk a) (Vm.Alike.refl U.vm) qN⟩
/-- a method that reads the law's script: it lies outside what the method may write -/
abbrev pcS (A : Nat → Prop) (B : State → Prop) (b L : Nat) (xs : Nat → Int32) (_ : Nat) (U : State) : Prop := B U ∧ b < U.heap.size ∧ ¬ A b ∧ va_X b L xs U U.heap
theorem pcS_bl {av : List Value} {A : Nat → Prop} {B : State → Prop} {b L : Nat} {xs : Nat → Int32} {sz : Nat} (hB : FrameBlind (va_Pc av B)) : FrameBlind (va_Pc av (pcS A B b L xs sz)) := fun a U g mk q => by
  obtain ⟨q0, qB, q1, q2, qX⟩ := q
  exact ⟨q0, (hB a U g mk ⟨q0, qB⟩).2, q1, q2, va_X.moved (u := U) (U := U.calling g mk a) (Vm.Alike.refl U.vm) qX⟩
theorem sc_mv {b L : Nat} {xs : Nat → Int32} {A : Nat → Prop} {s U : State} {H : Heap} {locs : List Loc} (hX : va_X b L xs s s.heap) (hbl : b < s.heap.size) (hbA : ¬ A b) (hS : va_S A s.heap H locs) (hv : s.vm.Alike U.vm) : va_X b L xs U H := (hX.kept (hS.2.1 b hbl hbA)).moved hv
section JNW
variable {p : Program} {l : Launch} {e : Env} {R : Room} {s : State} {m : MethodId} {args : Array Value} {below : List Frame} {meth : Method} {c : Code} {H : Heap} {locs : List Loc} {cells slots : Nat} {Q : State → Prop}
/-- ways that come together with a number on the stack, whatever the heap has become -/
theorem jn_w {pc : Nat} {ls : Array Slot} {st st2 : List Value} {pc2 cells2 slots2 : Nat} (I : Heap → List Loc → Array Slot → Prop) (E : Int32)
    (k1 : (∀ (H1 : Heap) (locs1 : List Loc) (ls1 : Array Slot), I H1 locs1 ls1 → W p l e R s m args below meth c H1 locs1 cells2 slots2 Q (F0 m pc2 ls1 (.int E :: st2))) → W p l e R s m args below meth c H locs cells slots Q (F0 m pc ls st))
    (k2 : ∀ (H1 : Heap) (locs1 : List Loc) (ls1 : Array Slot), I H1 locs1 ls1 → W p l e R s m args below meth c H1 locs1 cells2 slots2 Q (F0 m pc2 ls1 (.int E :: st2))) : W p l e R s m args below meth c H locs cells slots Q (F0 m pc ls st) := k1 k2
end JNW
theorem nI_cl {x : Int32} {N : Nat} (h : vp_in x N) (hN : N < 2 ^ 31 := by decide) : x = nI x.toNatClampNeg := by
  obtain ⟨j, hj, rfl⟩ := vp_in_of h hN
  rw [nI_clamp (by omega)]
theorem vp_nneg {x : Int32} {N : Nat} (h : vp_in x N) : ¬ x < 0 := fun q => h (Or.inl q)
