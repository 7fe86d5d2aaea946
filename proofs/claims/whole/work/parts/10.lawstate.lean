/-! ===== the law's small methods: what they stand on ===== -/
def xN (U : State) : Prop := va_Nc "java/lang/IllegalArgumentException" "java/lang/IndexOutOfBoundsException" U ∧ va_Nc "java/lang/IllegalStateException" "java/lang/IndexOutOfBoundsException" U ∧ va_Nc "java/lang/IllegalStateException" "java/lang/IllegalArgumentException" U
theorem xN.moved {u U : State} (hvm : u.vm.Alike U.vm) (h : xN u) : xN U := ⟨va_Nc.moved hvm h.1, va_Nc.moved hvm h.2.1, va_Nc.moved hvm h.2.2⟩
theorem xN.n21 {U : State} (h : xN U) : va_Nc "java/lang/IllegalArgumentException" "java/lang/IndexOutOfBoundsException" U := h.1
theorem xN.n31 {U : State} (h : xN U) : va_Nc "java/lang/IllegalStateException" "java/lang/IndexOutOfBoundsException" U := h.2.1
theorem xN.n32 {U : State} (h : xN U) : va_Nc "java/lang/IllegalStateException" "java/lang/IllegalArgumentException" U := h.2.2
abbrev pcL (B : State → Prop) (sx : Nat → Nat) (A : Nat → Prop) (U : State) : Prop := (B U ∧ xE sx A U U.heap) ∧ xN U
theorem pcL_bl {av : List Value} {D : va_G} {ty : List (ClassId × FieldType)} {ws : va_W} {sz : Nat} {sx : Nat → Nat} {A : Nat → Prop} : FrameBlind (va_Pc av (pcL (pcW D ty ws sz) sx A)) := fun a U g mk q => by
  obtain ⟨q0, ⟨⟨q1, qP, qK, qD⟩, qE⟩, qN⟩ := q
  exact ⟨q0, ⟨⟨q1, qP, va_K.moved (u := U) (U := U.calling g mk a) (Vm.Alike.refl U.vm) qK, qD⟩, xE.same (u := U) (U := U.calling g mk a) rfl qE⟩, xN.moved (u := U) (U := U.calling g mk a) (Vm.Alike.refl U.vm) qN⟩
theorem thr_E1 {E : String} {k : Int32} (h : thr E k) (hk : k = 1) : E = "java/lang/IndexOutOfBoundsException" := by
  rcases h with ⟨-, h⟩ | ⟨h2, -⟩ | ⟨h2, -⟩
  · exact h
  · rw [hk] at h2; exact absurd h2 (by decide)
  · rw [hk] at h2; exact absurd h2 (by decide)
theorem thr_E2 {E : String} {k : Int32} (h : thr E k) (hk : k = 2) : E = "java/lang/IllegalArgumentException" := by
  rcases h with ⟨h2, -⟩ | ⟨-, h⟩ | ⟨h2, -⟩
  · rw [hk] at h2; exact absurd h2 (by decide)
  · exact h
  · rw [hk] at h2; exact absurd h2 (by decide)
theorem thr_E3 {E : String} {k : Int32} (h : thr E k) (hk : k = 3) : E = "java/lang/IllegalStateException" := by
  rcases h with ⟨h2, -⟩ | ⟨h2, -⟩ | ⟨-, h⟩
  · rw [hk] at h2; exact absurd h2 (by decide)
  · rw [hk] at h2; exact absurd h2 (by decide)
  · exact h
/-- the codes that a method's end may have -/
def kA (k : Int32) : Prop := k = 0 ∨ k = 1
def kR (k : Int32) : Prop := k = 0 ∨ k = 3
def kB (k : Int32) : Prop := k = 0 ∨ k = 1 ∨ k = 3
def kC (k : Int32) : Prop := k = 0 ∨ k = 1 ∨ k = 2 ∨ k = 3
def kP (k : Int32) : Prop := k = 0 ∨ k = 2 ∨ k = 3
theorem kA.b {k : Int32} (h : kA k) : kB k := h.elim Or.inl (fun h => Or.inr (Or.inl h))
theorem kR.b {k : Int32} (h : kR k) : kB k := h.elim Or.inl (fun h => Or.inr (Or.inr h))
theorem kA.c {k : Int32} (h : kA k) : kC k := h.elim Or.inl (fun h => Or.inr (Or.inl h))
theorem kR.p {k : Int32} (h : kR k) : kP k := h.elim Or.inl (fun h => Or.inr (Or.inr h))
theorem ka_cell (p : Int32) : kA (k_X5_checkCell p) := by
  unfold k_X5_checkCell
  (repeat' split) <;> first | exact Or.inl rfl | exact Or.inr rfl
theorem ka_team (p : Int32) : kA (k_X5_checkTeam p) := by
  unfold k_X5_checkTeam
  (repeat' split) <;> first | exact Or.inl rfl | exact Or.inr rfl
theorem ka_player (p : Int32) : kA (k_X5_checkPlayer p) := by
  unfold k_X5_checkPlayer
  (repeat' split) <;> first | exact Or.inl rfl | exact Or.inr rfl
theorem ka_referee (p : Int32) : kA (k_X5_checkReferee p) := by
  unfold k_X5_checkReferee
  (repeat' split) <;> first | exact Or.inl rfl | exact Or.inr rfl
theorem kr_round (hm aw tk : Int32) : kR (k_X5_checkRound hm aw tk) := by
  unfold k_X5_checkRound
  (repeat' split) <;> first | exact Or.inl rfl | exact Or.inr rfl
