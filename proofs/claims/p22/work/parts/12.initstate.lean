/-! ===== constructors: what they stand on ===== -/
theorem k_same {D : va_G} {cl : List vw_C} {tys : List (ClassId × FieldType)} {s : State} {c0 cA : ClassId} {ty : FieldType} (hK : va_K D cl tys s) (hK1 : va_K D cl (tys ++ [(cA, ty)]) s) (t0 : Nat) (ht : tys[t0]? = some (c0, ty)) (hty : ∀ c c1 : ClassId, va_RA s c ty → va_RA s c1 ty → c = c1) : c0 = cA := by
  have h1 := (hK.2 t0 _ ht).2
  have h2 := (hK1.2 tys.length (cA, ty) (by rw [List.getElem?_append_right (Nat.le_refl _), Nat.sub_self]; rfl)).2
  exact hty _ _ h1 h2
theorem ra_int {s : State} : ∀ c c1 : ClassId, va_RA s c .int → va_RA s c1 .int → c = c1 := fun c c1 h1 h2 => by
  have h3 : s.vm.findClass ("[" ++ FieldType.toString .int) = some c := h1
  have h4 : s.vm.findClass ("[" ++ FieldType.toString .int) = some c1 := h2
  exact Option.some.inj (h3.symm.trans h4)
theorem ra_bool {s : State} : ∀ c c1 : ClassId, va_RA s c .boolean → va_RA s c1 .boolean → c = c1 := fun c c1 h1 h2 => by
  have h3 : s.vm.findClass ("[" ++ FieldType.toString .boolean) = some c := h1
  have h4 : s.vm.findClass ("[" ++ FieldType.toString .boolean) = some c1 := h2
  exact Option.some.inj (h3.symm.trans h4)
theorem ra_long {s : State} : ∀ c c1 : ClassId, va_RA s c .long → va_RA s c1 .long → c = c1 := fun c c1 h1 h2 => by
  have h3 : s.vm.findClass ("[" ++ FieldType.toString .long) = some c := h1
  have h4 : s.vm.findClass ("[" ++ FieldType.toString .long) = some c1 := h2
  exact Option.some.inj (h3.symm.trans h4)
theorem ra_arr {s : State} : ∀ c c1 : ClassId, va_RA s c (.array .int) → va_RA s c1 (.array .int) → c = c1 := fun c c1 h1 h2 => by
  have h3 : s.vm.findClass ("[" ++ FieldType.toString (.array .int)) = some c := h1
  have h4 : s.vm.findClass ("[" ++ FieldType.toString (.array .int)) = some c1 := h2
  exact Option.some.inj (h3.symm.trans h4)
/-- words that a constructor carries along -/
def eN (_ : State) : Prop := True
def eR (U : State) : Prop := va_Nw (.methodLinkNest RX2 27 yX3_init "PaintballAtlas") U ∧ va_Nw (.methodLinkNest RX2 34 yX0_init "PaintballAtlas") U
def eT (U : State) : Prop := (Cond.arrayOver (.array .int)).before #[] U = true
def eX (U : State) : Prop := va_Nw (.methodLinkNest RX5 11 yX1_init "PaintballAtlas") U ∧ va_Nw (.methodLinkNest RX5 25 yX4_init "PaintballAtlas") U ∧ eR U ∧ eT U
theorem eN.same {u U : State} (_ : u.vm = U.vm) (_ : eN u) : eN U := trivial
theorem eN.warm {u U : State} (_ : u.WarmedH U.vm) (_ : eN u) : eN U := trivial
theorem eR.same {u U : State} (h : u.vm = U.vm) (e : eR u) : eR U := ⟨va_Nw.same rfl h e.1, va_Nw.same rfl h e.2⟩
theorem eR.warm {u U : State} (h : u.WarmedH U.vm) (e : eR u) : eR U := ⟨va_Nw.warmM h e.1, va_Nw.warmM h e.2⟩
theorem eT.alike {u U : State} (h : u.vm.Alike U.vm) (e : eT u) : eT U := by
  have h1 := Cond.arrayOver_setVmC (args := #[]) (s := u) h (.array .int)
  unfold eT at e ⊢
  rw [← h1] at e
  exact e
theorem eT.same {u U : State} (h : u.vm = U.vm) (e : eT u) : eT U := eT.alike (by rw [h]; exact Vm.Alike.refl _) e
theorem eT.warm {u U : State} (h : u.WarmedH U.vm) (e : eT u) : eT U := eT.alike h.alike e
theorem eX.same {u U : State} (h : u.vm = U.vm) (e : eX u) : eX U := ⟨va_Nw.same rfl h e.1, va_Nw.same rfl h e.2.1, e.2.2.1.same h, e.2.2.2.same h⟩
theorem eX.warm {u U : State} (h : u.WarmedH U.vm) (e : eX u) : eX U := ⟨va_Nw.warmM h e.1, va_Nw.warmM h e.2.1, e.2.2.1.warm h, e.2.2.2.warm h⟩
abbrev pcN (B E : State → Prop) (U : State) : Prop := B U ∧ E U
theorem pcN_bl {av : List Value} {D : va_G} {ty : List (ClassId × FieldType)} {ws : va_W} {sz : Nat} {E : State → Prop} (hE : ∀ {u U : State}, u.vm = U.vm → E u → E U) : FrameBlind (va_Pc av (pcN (pcW D ty ws sz) E)) := fun a U g mk q => by
  obtain ⟨q0, ⟨q1, qP, qK, qD⟩, qE⟩ := q
  exact ⟨q0, ⟨q1, qP, va_K.moved (u := U) (U := U.calling g mk a) (Vm.Alike.refl U.vm) qK, qD⟩, hE (u := U) (U := U.calling g mk a) rfl qE⟩
