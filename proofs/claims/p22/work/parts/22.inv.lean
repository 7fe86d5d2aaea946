/-! ===== what the class and the law's own numbers have in common ===== -/
def InvR (rf lb : Nat → Int32) : Prop := ∀ j : Nat, j < 2 → lb (12 + j) = rf j ∧ vp_in (rf j) 144
/-- a small number, behind n steps -/
def bdd (n : Nat) (x : Int32) : Prop := -(16 * (n : Int)) ≤ x.toInt ∧ x.toInt ≤ 16 * (n : Int)
def InvT (n : Nat) (pt fn df : Nat → Int32) (wn : Nat → Nat → Int32) (lt lw : Nat → Int32) : Prop :=
  (∀ k : Nat, k < 6 → (lt (3 * k) = pt k ∧ lt (3 * k + 1) = fn k ∧ lt (3 * k + 2) = df k) ∧ bdd n (pt k) ∧ bdd n (fn k) ∧ bdd n (df k)) ∧ ∀ i j : Nat, i < 6 → j < 6 → lw (6 * i + j) = wn i j ∧ bdd n (wn i j)
def rngP (f : Nat → Int32) : Prop := ∀ j : Nat, j < 6 → f j = (-2) ∨ f j = (-1) ∨ vp_in (f j) 144
def InvC (bk ce hi : Nat → Int32) (kn : Nat) (ka kb kc kd lc : Nat → Int32) : Prop :=
  (∀ j : Nat, j < kn → (lc j = ka j ∧ lc (20 + j) = kb j ∧ lc (40 + j) = kd j) ∧ vp_in (ka j) 6 ∧ (vp_in (kb j) 144 ∧ bk (kb j).toNatClampNeg = 0) ∧ (kd j = 0 → ce (ka j).toNatClampNeg = (-2) ∧ (hi (ka j).toNatClampNeg = (-1) ∨ hi (ka j).toNatClampNeg ≤ kc j))) ∧
  ∀ i j : Nat, i < kn → j < kn → kd i = 0 → kd j = 0 → ka i = ka j → i = j
def Off (tk : Int32) (ce hi : Nat → Int32) (sn kn : Nat) : Prop := tk = (-1) ∧ sn = 0 ∧ kn = 0 ∧ (∀ j : Nat, j < 6 → ce j = (-2)) ∧ ∀ j : Nat, j < 6 → hi j = (-1)
def hitP (T : Nat) (hi : Nat → Int32) : Prop := ∀ j : Nat, j < 6 → hi j = (-1) ∨ ∃ h : Nat, 1 ≤ h ∧ h ≤ T ∧ hi j = nI h
def On (n : Nat) (bk : Nat → Int32) (tk : Int32) (ce hi la : Nat → Int32) (sn : Nat) (sb sc : Nat → Int32) (kn : Nat) (ka kb kc kd lb lp lc : Nat → Int32) : Prop :=
  (∃ T : Nat, T ≤ 50 * n ∧ tk = nI T ∧ hitP T hi) ∧ (lb 15 = nI sn ∧ lb 16 = nI kn) ∧ (∀ j : Nat, j < 6 → lp j = ce j ∧ lp (12 + j) = la j) ∧
  (rngP ce ∧ ∀ j : Nat, j < 6 → 0 ≤ ce j → bk (ce j).toNatClampNeg = 0) ∧ (∀ j : Nat, j < sn → vp_in (sb j) 144 ∧ vp_in (sc j) 144) ∧ InvC bk ce hi kn ka kb kc kd lc
def Core (n : Nat) (rf : Nat → Int32) (bk : Nat → Int32) (hm : Int32) (aw : Int32) (tk : Int32) (ce : Nat → Int32) (hi : Nat → Int32) (la : Nat → Int32) (sn : Nat) (sa : Nat → Int32) (sb : Nat → Int32) (sc : Nat → Int32) (sd : Nat → Int32) (kn : Nat) (ka : Nat → Int32) (kb : Nat → Int32) (kc : Nat → Int32) (kd : Nat → Int32) (pt : Nat → Int32) (fn : Nat → Int32) (df : Nat → Int32) (wn : Nat → Nat → Int32) (lb : Nat → Int32) (lp : Nat → Int32) (lc : Nat → Int32) (lt : Nat → Int32) (lw : Nat → Int32) : Prop :=
  InvF bk lb ∧ InvR rf lb ∧ InvT n pt fn df wn lt lw ∧ (lb 17 = hm ∧ lb 18 = aw ∧ vp_in hm 6 ∧ vp_in aw 6) ∧ lb 14 = tk ∧ (∃ m : Nat, m ≤ 19 ∧ lb 16 = nI m) ∧ rngP lp ∧ (sn ≤ 100 ∧ kn ≤ 19) ∧ b01 kd ∧
  (Off tk ce hi sn kn ∨ On n bk tk ce hi la sn sb sc kn ka kb kc kd lb lp lc)
def InvA (n : Nat) (rf : Nat → Int32) (bk : Nat → Int32) (hm : Int32) (aw : Int32) (tk : Int32) (ce : Nat → Int32) (hi : Nat → Int32) (la : Nat → Int32) (sn : Nat) (sa : Nat → Int32) (sb : Nat → Int32) (sc : Nat → Int32) (sd : Nat → Int32) (kn : Nat) (ka : Nat → Int32) (kb : Nat → Int32) (kc : Nat → Int32) (kd : Nat → Int32) (pt : Nat → Int32) (fn : Nat → Int32) (df : Nat → Int32) (wn : Nat → Nat → Int32) (lb : Nat → Int32) (lp : Nat → Int32) (lc : Nat → Int32) (lt : Nat → Int32) (lw : Nat → Int32) : Prop := Core n rf bk hm aw tk ce hi la sn sa sb sc sd kn ka kb kc kd pt fn df wn lb lp lc lt lw ∧ ∀ j : Nat, j < 6 → lp (6 + j) = hi j
def InvB (n : Nat) (rf : Nat → Int32) (bk : Nat → Int32) (hm : Int32) (aw : Int32) (tk : Int32) (ce : Nat → Int32) (hi : Nat → Int32) (la : Nat → Int32) (sn : Nat) (sa : Nat → Int32) (sb : Nat → Int32) (sc : Nat → Int32) (sd : Nat → Int32) (kn : Nat) (ka : Nat → Int32) (kb : Nat → Int32) (kc : Nat → Int32) (kd : Nat → Int32) (pt : Nat → Int32) (fn : Nat → Int32) (df : Nat → Int32) (wn : Nat → Nat → Int32) (lb : Nat → Int32) (lp : Nat → Int32) (lc : Nat → Int32) (lt : Nat → Int32) (lw : Nat → Int32) : Prop := Core n rf bk hm aw tk ce hi la sn sa sb sc sd kn ka kb kc kd pt fn df wn lb lp lc lt lw ∧ (tk = (-1) ∨ ∀ j : Nat, j < 6 → lp (6 + j) < 0 ∨ lp (6 + j) = hi j)
theorem bdd.step {n : Nat} {x : Int32} (h : bdd n x) : bdd (n + 1) x := by unfold bdd at *; omega
theorem InvT.step {n : Nat} {pt fn df : Nat → Int32} {wn : Nat → Nat → Int32} {lt lw : Nat → Int32} (h : InvT n pt fn df wn lt lw) : InvT (n + 1) pt fn df wn lt lw :=
  ⟨fun k hk => ⟨(h.1 k hk).1, (h.1 k hk).2.1.step, (h.1 k hk).2.2.1.step, (h.1 k hk).2.2.2.step⟩, fun i j hi hj => ⟨(h.2 i j hi hj).1, (h.2 i j hi hj).2.step⟩⟩
theorem On.step {n : Nat} {bk : Nat → Int32} {tk : Int32} {ce hi la : Nat → Int32} {sn : Nat} {sb sc : Nat → Int32} {kn : Nat} {ka kb kc kd lb lp lc : Nat → Int32} (h : On n bk tk ce hi la sn sb sc kn ka kb kc kd lb lp lc) : On (n + 1) bk tk ce hi la sn sb sc kn ka kb kc kd lb lp lc := by
  obtain ⟨⟨T, h1, h2⟩, h3⟩ := h
  exact ⟨⟨T, by omega, h2⟩, h3⟩
theorem Core.step {n : Nat} {rf : Nat → Int32} {bk : Nat → Int32} {hm : Int32} {aw : Int32} {tk : Int32} {ce : Nat → Int32} {hi : Nat → Int32} {la : Nat → Int32} {sn : Nat} {sa : Nat → Int32} {sb : Nat → Int32} {sc : Nat → Int32} {sd : Nat → Int32} {kn : Nat} {ka : Nat → Int32} {kb : Nat → Int32} {kc : Nat → Int32} {kd : Nat → Int32} {pt : Nat → Int32} {fn : Nat → Int32} {df : Nat → Int32} {wn : Nat → Nat → Int32} {lb : Nat → Int32} {lp : Nat → Int32} {lc : Nat → Int32} {lt : Nat → Int32} {lw : Nat → Int32} (h : Core n rf bk hm aw tk ce hi la sn sa sb sc sd kn ka kb kc kd pt fn df wn lb lp lc lt lw) : Core (n + 1) rf bk hm aw tk ce hi la sn sa sb sc sd kn ka kb kc kd pt fn df wn lb lp lc lt lw := by
  obtain ⟨h1, h2, h3, h4, h5, h6, h7, h8, h9, h10⟩ := h
  exact ⟨h1, h2, h3.step, h4, h5, h6, h7, h8, h9, h10.elim Or.inl (fun q => Or.inr q.step)⟩
theorem InvA.toB {n : Nat} {rf : Nat → Int32} {bk : Nat → Int32} {hm : Int32} {aw : Int32} {tk : Int32} {ce : Nat → Int32} {hi : Nat → Int32} {la : Nat → Int32} {sn : Nat} {sa : Nat → Int32} {sb : Nat → Int32} {sc : Nat → Int32} {sd : Nat → Int32} {kn : Nat} {ka : Nat → Int32} {kb : Nat → Int32} {kc : Nat → Int32} {kd : Nat → Int32} {pt : Nat → Int32} {fn : Nat → Int32} {df : Nat → Int32} {wn : Nat → Nat → Int32} {lb : Nat → Int32} {lp : Nat → Int32} {lc : Nat → Int32} {lt : Nat → Int32} {lw : Nat → Int32} (h : InvA n rf bk hm aw tk ce hi la sn sa sb sc sd kn ka kb kc kd pt fn df wn lb lp lc lt lw) : InvB n rf bk hm aw tk ce hi la sn sa sb sc sd kn ka kb kc kd pt fn df wn lb lp lc lt lw := ⟨h.1, Or.inr fun j hj => Or.inr (h.2 j hj)⟩
theorem InvA.keep {n : Nat} {rf : Nat → Int32} {bk : Nat → Int32} {hm : Int32} {aw : Int32} {tk : Int32} {ce : Nat → Int32} {hi : Nat → Int32} {la : Nat → Int32} {sn : Nat} {sa : Nat → Int32} {sb : Nat → Int32} {sc : Nat → Int32} {sd : Nat → Int32} {kn : Nat} {ka : Nat → Int32} {kb : Nat → Int32} {kc : Nat → Int32} {kd : Nat → Int32} {pt : Nat → Int32} {fn : Nat → Int32} {df : Nat → Int32} {wn : Nat → Nat → Int32} {lb : Nat → Int32} {lp : Nat → Int32} {lc : Nat → Int32} {lt : Nat → Int32} {lw : Nat → Int32} (h : InvA n rf bk hm aw tk ce hi la sn sa sb sc sd kn ka kb kc kd pt fn df wn lb lp lc lt lw) : InvB (n + 1) rf bk hm aw tk ce hi la sn sa sb sc sd kn ka kb kc kd pt fn df wn lb lp lc lt lw := ⟨h.1.step, Or.inr fun j hj => Or.inr (h.2 j hj)⟩
theorem Core.f {n : Nat} {rf : Nat → Int32} {bk : Nat → Int32} {hm : Int32} {aw : Int32} {tk : Int32} {ce : Nat → Int32} {hi : Nat → Int32} {la : Nat → Int32} {sn : Nat} {sa : Nat → Int32} {sb : Nat → Int32} {sc : Nat → Int32} {sd : Nat → Int32} {kn : Nat} {ka : Nat → Int32} {kb : Nat → Int32} {kc : Nat → Int32} {kd : Nat → Int32} {pt : Nat → Int32} {fn : Nat → Int32} {df : Nat → Int32} {wn : Nat → Nat → Int32} {lb : Nat → Int32} {lp : Nat → Int32} {lc : Nat → Int32} {lt : Nat → Int32} {lw : Nat → Int32} (h : Core n rf bk hm aw tk ce hi la sn sa sb sc sd kn ka kb kc kd pt fn df wn lb lp lc lt lw) : InvF bk lb := h.1
theorem Core.r {n : Nat} {rf : Nat → Int32} {bk : Nat → Int32} {hm : Int32} {aw : Int32} {tk : Int32} {ce : Nat → Int32} {hi : Nat → Int32} {la : Nat → Int32} {sn : Nat} {sa : Nat → Int32} {sb : Nat → Int32} {sc : Nat → Int32} {sd : Nat → Int32} {kn : Nat} {ka : Nat → Int32} {kb : Nat → Int32} {kc : Nat → Int32} {kd : Nat → Int32} {pt : Nat → Int32} {fn : Nat → Int32} {df : Nat → Int32} {wn : Nat → Nat → Int32} {lb : Nat → Int32} {lp : Nat → Int32} {lc : Nat → Int32} {lt : Nat → Int32} {lw : Nat → Int32} (h : Core n rf bk hm aw tk ce hi la sn sa sb sc sd kn ka kb kc kd pt fn df wn lb lp lc lt lw) : InvR rf lb := h.2.1
theorem Core.t {n : Nat} {rf : Nat → Int32} {bk : Nat → Int32} {hm : Int32} {aw : Int32} {tk : Int32} {ce : Nat → Int32} {hi : Nat → Int32} {la : Nat → Int32} {sn : Nat} {sa : Nat → Int32} {sb : Nat → Int32} {sc : Nat → Int32} {sd : Nat → Int32} {kn : Nat} {ka : Nat → Int32} {kb : Nat → Int32} {kc : Nat → Int32} {kd : Nat → Int32} {pt : Nat → Int32} {fn : Nat → Int32} {df : Nat → Int32} {wn : Nat → Nat → Int32} {lb : Nat → Int32} {lp : Nat → Int32} {lc : Nat → Int32} {lt : Nat → Int32} {lw : Nat → Int32} (h : Core n rf bk hm aw tk ce hi la sn sa sb sc sd kn ka kb kc kd pt fn df wn lb lp lc lt lw) : InvT n pt fn df wn lt lw := h.2.2.1
theorem Core.tm {n : Nat} {rf : Nat → Int32} {bk : Nat → Int32} {hm : Int32} {aw : Int32} {tk : Int32} {ce : Nat → Int32} {hi : Nat → Int32} {la : Nat → Int32} {sn : Nat} {sa : Nat → Int32} {sb : Nat → Int32} {sc : Nat → Int32} {sd : Nat → Int32} {kn : Nat} {ka : Nat → Int32} {kb : Nat → Int32} {kc : Nat → Int32} {kd : Nat → Int32} {pt : Nat → Int32} {fn : Nat → Int32} {df : Nat → Int32} {wn : Nat → Nat → Int32} {lb : Nat → Int32} {lp : Nat → Int32} {lc : Nat → Int32} {lt : Nat → Int32} {lw : Nat → Int32} (h : Core n rf bk hm aw tk ce hi la sn sa sb sc sd kn ka kb kc kd pt fn df wn lb lp lc lt lw) : lb 17 = hm ∧ lb 18 = aw ∧ vp_in hm 6 ∧ vp_in aw 6 := h.2.2.2.1
theorem Core.b14 {n : Nat} {rf : Nat → Int32} {bk : Nat → Int32} {hm : Int32} {aw : Int32} {tk : Int32} {ce : Nat → Int32} {hi : Nat → Int32} {la : Nat → Int32} {sn : Nat} {sa : Nat → Int32} {sb : Nat → Int32} {sc : Nat → Int32} {sd : Nat → Int32} {kn : Nat} {ka : Nat → Int32} {kb : Nat → Int32} {kc : Nat → Int32} {kd : Nat → Int32} {pt : Nat → Int32} {fn : Nat → Int32} {df : Nat → Int32} {wn : Nat → Nat → Int32} {lb : Nat → Int32} {lp : Nat → Int32} {lc : Nat → Int32} {lt : Nat → Int32} {lw : Nat → Int32} (h : Core n rf bk hm aw tk ce hi la sn sa sb sc sd kn ka kb kc kd pt fn df wn lb lp lc lt lw) : lb 14 = tk := h.2.2.2.2.1
theorem Core.b16 {n : Nat} {rf : Nat → Int32} {bk : Nat → Int32} {hm : Int32} {aw : Int32} {tk : Int32} {ce : Nat → Int32} {hi : Nat → Int32} {la : Nat → Int32} {sn : Nat} {sa : Nat → Int32} {sb : Nat → Int32} {sc : Nat → Int32} {sd : Nat → Int32} {kn : Nat} {ka : Nat → Int32} {kb : Nat → Int32} {kc : Nat → Int32} {kd : Nat → Int32} {pt : Nat → Int32} {fn : Nat → Int32} {df : Nat → Int32} {wn : Nat → Nat → Int32} {lb : Nat → Int32} {lp : Nat → Int32} {lc : Nat → Int32} {lt : Nat → Int32} {lw : Nat → Int32} (h : Core n rf bk hm aw tk ce hi la sn sa sb sc sd kn ka kb kc kd pt fn df wn lb lp lc lt lw) : ∃ m : Nat, m ≤ 19 ∧ lb 16 = nI m := h.2.2.2.2.2.1
theorem Core.lpr {n : Nat} {rf : Nat → Int32} {bk : Nat → Int32} {hm : Int32} {aw : Int32} {tk : Int32} {ce : Nat → Int32} {hi : Nat → Int32} {la : Nat → Int32} {sn : Nat} {sa : Nat → Int32} {sb : Nat → Int32} {sc : Nat → Int32} {sd : Nat → Int32} {kn : Nat} {ka : Nat → Int32} {kb : Nat → Int32} {kc : Nat → Int32} {kd : Nat → Int32} {pt : Nat → Int32} {fn : Nat → Int32} {df : Nat → Int32} {wn : Nat → Nat → Int32} {lb : Nat → Int32} {lp : Nat → Int32} {lc : Nat → Int32} {lt : Nat → Int32} {lw : Nat → Int32} (h : Core n rf bk hm aw tk ce hi la sn sa sb sc sd kn ka kb kc kd pt fn df wn lb lp lc lt lw) : rngP lp := h.2.2.2.2.2.2.1
theorem Core.cnt {n : Nat} {rf : Nat → Int32} {bk : Nat → Int32} {hm : Int32} {aw : Int32} {tk : Int32} {ce : Nat → Int32} {hi : Nat → Int32} {la : Nat → Int32} {sn : Nat} {sa : Nat → Int32} {sb : Nat → Int32} {sc : Nat → Int32} {sd : Nat → Int32} {kn : Nat} {ka : Nat → Int32} {kb : Nat → Int32} {kc : Nat → Int32} {kd : Nat → Int32} {pt : Nat → Int32} {fn : Nat → Int32} {df : Nat → Int32} {wn : Nat → Nat → Int32} {lb : Nat → Int32} {lp : Nat → Int32} {lc : Nat → Int32} {lt : Nat → Int32} {lw : Nat → Int32} (h : Core n rf bk hm aw tk ce hi la sn sa sb sc sd kn ka kb kc kd pt fn df wn lb lp lc lt lw) : sn ≤ 100 ∧ kn ≤ 19 := h.2.2.2.2.2.2.2.1
theorem Core.kd01 {n : Nat} {rf : Nat → Int32} {bk : Nat → Int32} {hm : Int32} {aw : Int32} {tk : Int32} {ce : Nat → Int32} {hi : Nat → Int32} {la : Nat → Int32} {sn : Nat} {sa : Nat → Int32} {sb : Nat → Int32} {sc : Nat → Int32} {sd : Nat → Int32} {kn : Nat} {ka : Nat → Int32} {kb : Nat → Int32} {kc : Nat → Int32} {kd : Nat → Int32} {pt : Nat → Int32} {fn : Nat → Int32} {df : Nat → Int32} {wn : Nat → Nat → Int32} {lb : Nat → Int32} {lp : Nat → Int32} {lc : Nat → Int32} {lt : Nat → Int32} {lw : Nat → Int32} (h : Core n rf bk hm aw tk ce hi la sn sa sb sc sd kn ka kb kc kd pt fn df wn lb lp lc lt lw) : b01 kd := h.2.2.2.2.2.2.2.2.1
theorem Core.st {n : Nat} {rf : Nat → Int32} {bk : Nat → Int32} {hm : Int32} {aw : Int32} {tk : Int32} {ce : Nat → Int32} {hi : Nat → Int32} {la : Nat → Int32} {sn : Nat} {sa : Nat → Int32} {sb : Nat → Int32} {sc : Nat → Int32} {sd : Nat → Int32} {kn : Nat} {ka : Nat → Int32} {kb : Nat → Int32} {kc : Nat → Int32} {kd : Nat → Int32} {pt : Nat → Int32} {fn : Nat → Int32} {df : Nat → Int32} {wn : Nat → Nat → Int32} {lb : Nat → Int32} {lp : Nat → Int32} {lc : Nat → Int32} {lt : Nat → Int32} {lw : Nat → Int32} (h : Core n rf bk hm aw tk ce hi la sn sa sb sc sd kn ka kb kc kd pt fn df wn lb lp lc lt lw) : Off tk ce hi sn kn ∨ On n bk tk ce hi la sn sb sc kn ka kb kc kd lb lp lc := h.2.2.2.2.2.2.2.2.2
theorem Core.cei {n : Nat} {rf : Nat → Int32} {bk : Nat → Int32} {hm : Int32} {aw : Int32} {tk : Int32} {ce : Nat → Int32} {hi : Nat → Int32} {la : Nat → Int32} {sn : Nat} {sa : Nat → Int32} {sb : Nat → Int32} {sc : Nat → Int32} {sd : Nat → Int32} {kn : Nat} {ka : Nat → Int32} {kb : Nat → Int32} {kc : Nat → Int32} {kd : Nat → Int32} {pt : Nat → Int32} {fn : Nat → Int32} {df : Nat → Int32} {wn : Nat → Nat → Int32} {lb : Nat → Int32} {lp : Nat → Int32} {lc : Nat → Int32} {lt : Nat → Int32} {lw : Nat → Int32} (h : Core n rf bk hm aw tk ce hi la sn sa sb sc sd kn ka kb kc kd pt fn df wn lb lp lc lt lw) : ∀ j : Nat, j < 6 → 0 ≤ ce j → vp_in (ce j) 144 := fun j hj h0 => by
  rcases h.st with q | q
  · rw [q.2.2.2.1 j hj] at h0; exact absurd h0 (by decide)
  · rcases q.2.2.2.1.1 j hj with z | z | z
    · rw [z] at h0; exact absurd h0 (by decide)
    · rw [z] at h0; exact absurd h0 (by decide)
    · exact z
theorem Core.kai {n : Nat} {rf : Nat → Int32} {bk : Nat → Int32} {hm : Int32} {aw : Int32} {tk : Int32} {ce : Nat → Int32} {hi : Nat → Int32} {la : Nat → Int32} {sn : Nat} {sa : Nat → Int32} {sb : Nat → Int32} {sc : Nat → Int32} {sd : Nat → Int32} {kn : Nat} {ka : Nat → Int32} {kb : Nat → Int32} {kc : Nat → Int32} {kd : Nat → Int32} {pt : Nat → Int32} {fn : Nat → Int32} {df : Nat → Int32} {wn : Nat → Nat → Int32} {lb : Nat → Int32} {lp : Nat → Int32} {lc : Nat → Int32} {lt : Nat → Int32} {lw : Nat → Int32} (h : Core n rf bk hm aw tk ce hi la sn sa sb sc sd kn ka kb kc kd pt fn df wn lb lp lc lt lw) : ∀ j : Nat, j < kn → vp_in (ka j) 6 := fun j hj => by
  rcases h.st with q | q
  · rw [q.2.2.1] at hj; exact absurd hj (Nat.not_lt_zero _)
  · exact (q.2.2.2.2.2.1 j hj).2.1
theorem Core.sbi {n : Nat} {rf : Nat → Int32} {bk : Nat → Int32} {hm : Int32} {aw : Int32} {tk : Int32} {ce : Nat → Int32} {hi : Nat → Int32} {la : Nat → Int32} {sn : Nat} {sa : Nat → Int32} {sb : Nat → Int32} {sc : Nat → Int32} {sd : Nat → Int32} {kn : Nat} {ka : Nat → Int32} {kb : Nat → Int32} {kc : Nat → Int32} {kd : Nat → Int32} {pt : Nat → Int32} {fn : Nat → Int32} {df : Nat → Int32} {wn : Nat → Nat → Int32} {lb : Nat → Int32} {lp : Nat → Int32} {lc : Nat → Int32} {lt : Nat → Int32} {lw : Nat → Int32} (h : Core n rf bk hm aw tk ce hi la sn sa sb sc sd kn ka kb kc kd pt fn df wn lb lp lc lt lw) : ∀ j : Nat, j < sn → vp_in (sb j) 144 := fun j hj => by
  rcases h.st with q | q
  · rw [q.2.1] at hj; exact absurd hj (Nat.not_lt_zero _)
  · exact (q.2.2.2.2.1 j hj).1
theorem Core.sci {n : Nat} {rf : Nat → Int32} {bk : Nat → Int32} {hm : Int32} {aw : Int32} {tk : Int32} {ce : Nat → Int32} {hi : Nat → Int32} {la : Nat → Int32} {sn : Nat} {sa : Nat → Int32} {sb : Nat → Int32} {sc : Nat → Int32} {sd : Nat → Int32} {kn : Nat} {ka : Nat → Int32} {kb : Nat → Int32} {kc : Nat → Int32} {kd : Nat → Int32} {pt : Nat → Int32} {fn : Nat → Int32} {df : Nat → Int32} {wn : Nat → Nat → Int32} {lb : Nat → Int32} {lp : Nat → Int32} {lc : Nat → Int32} {lt : Nat → Int32} {lw : Nat → Int32} (h : Core n rf bk hm aw tk ce hi la sn sa sb sc sd kn ka kb kc kd pt fn df wn lb lp lc lt lw) : ∀ j : Nat, j < sn → vp_in (sc j) 144 := fun j hj => by
  rcases h.st with q | q
  · rw [q.2.1] at hj; exact absurd hj (Nat.not_lt_zero _)
  · exact (q.2.2.2.2.1 j hj).2
theorem tk_pl {T : Nat} (hT : T < 2 ^ 31) : ¬ nI T = (-1) ∧ ¬ nI T < 0 := ⟨fun q => nI_pos (n := T) hT (by rw [q]; decide), nI_pos hT⟩
theorem Core.hlp {n : Nat} {rf : Nat → Int32} {bk : Nat → Int32} {hm : Int32} {aw : Int32} {tk : Int32} {ce : Nat → Int32} {hi : Nat → Int32} {la : Nat → Int32} {sn : Nat} {sa : Nat → Int32} {sb : Nat → Int32} {sc : Nat → Int32} {sd : Nat → Int32} {kn : Nat} {ka : Nat → Int32} {kb : Nat → Int32} {kc : Nat → Int32} {kd : Nat → Int32} {pt : Nat → Int32} {fn : Nat → Int32} {df : Nat → Int32} {wn : Nat → Nat → Int32} {lb : Nat → Int32} {lp : Nat → Int32} {lc : Nat → Int32} {lt : Nat → Int32} {lw : Nat → Int32} (h : Core n rf bk hm aw tk ce hi la sn sa sb sc sd kn ka kb kc kd pt fn df wn lb lp lc lt lw) : ∀ j : Nat, j < 6 → lp j = (-2) ∨ lp j = (-1) ∨ vp_in (lp j) 144 := h.lpr
theorem Core.hon {n : Nat} {rf : Nat → Int32} {bk : Nat → Int32} {hm : Int32} {aw : Int32} {tk : Int32} {ce : Nat → Int32} {hi : Nat → Int32} {la : Nat → Int32} {sn : Nat} {sa : Nat → Int32} {sb : Nat → Int32} {sc : Nat → Int32} {sd : Nat → Int32} {kn : Nat} {ka : Nat → Int32} {kb : Nat → Int32} {kc : Nat → Int32} {kd : Nat → Int32} {pt : Nat → Int32} {fn : Nat → Int32} {df : Nat → Int32} {wn : Nat → Nat → Int32} {lb : Nat → Int32} {lp : Nat → Int32} {lc : Nat → Int32} {lt : Nat → Int32} {lw : Nat → Int32} (h : Core n rf bk hm aw tk ce hi la sn sa sb sc sd kn ka kb kc kd pt fn df wn lb lp lc lt lw) (h0 : 0 ≤ lb 14) : ¬ f_X2_isPlayed hm aw tk = 0 := by
  rw [h.b14] at h0
  exact (rd_on hm aw (fun q => by rw [q] at h0; exact absurd h0 (by decide))).2
theorem rng_upd {f : Nat → Int32} (h : rngP f) (k : Nat) {x : Int32} (hx : x = (-2) ∨ x = (-1) ∨ vp_in x 144) : rngP (upd f k x) := fun j hj => by
  by_cases q : j = k
  · rw [q, upd_at]; exact hx
  · rw [upd_ne _ _ q]; exact h j hj
theorem rng_far {f : Nat → Int32} (h : rngP f) {k : Nat} (hk : 6 ≤ k) (x : Int32) : rngP (upd f k x) := fun j hj => by
  rw [upd_ne _ _ (by omega)]; exact h j hj
theorem pOn_iff (ce : Nat → Int32) (p : Int32) : pOn ce p = (-1) ↔ ∀ j : Nat, j < 6 → ¬ ce j = p := ⟨free_of, fun h => (pOn_no h).symm⟩
theorem fr_eq {bk lb lp : Nat → Int32} {c : Nat} (h : InvF bk lb) (hc : c < 144) : ∀ n : Nat, frN lb lp c n = sI (bk c = 0 ∧ ∀ j : Nat, j < n → ¬ lp j = nI c)
  | 0 => by
    rw [frN]
    unfold j_L_isFree_13
    rw [isB h hc]
    by_cases q : bk c = 0
    · rw [if_pos q, sI_pos ⟨q, fun j hj => absurd hj (Nat.not_lt_zero j)⟩]
    · rw [if_neg q, sI_neg (fun z => q z.1)]
  | n + 1 => by
    rw [frN, fr_eq h hc n]
    unfold j_L_isFree_41
    by_cases q : bk c = 0 ∧ ∀ j : Nat, j < n → ¬ lp j = nI c
    · rw [sI_pos q, if_neg (by decide)]
      by_cases z : lp n = nI c
      · rw [if_pos z, sI_neg (fun w => w.2 n (Nat.lt_succ_self n) z)]
      · rw [if_neg z, sI_pos ⟨q.1, all_s q.2 z⟩]
    · rw [sI_neg q, if_pos rfl, sI_neg (fun w => q ⟨w.1, fun j hj => w.2 j (Nat.lt_succ_of_lt hj)⟩)]
theorem fr_on {bk lb lp ce : Nat → Int32} {c : Nat} (h : InvF bk lb) (hc : c < 144) (hl : ∀ j : Nat, j < 6 → lp j = ce j) : (bk c = 0 ∧ pOn ce (nI c) = (-1) ∧ frN lb lp c 6 = 1) ∨ ((¬ bk c = 0 ∨ ¬ pOn ce (nI c) = (-1)) ∧ frN lb lp c 6 = 0) := by
  rw [fr_eq h hc, pOn_iff]
  by_cases q : bk c = 0 ∧ ∀ j : Nat, j < 6 → ¬ lp j = nI c
  · exact Or.inl ⟨q.1, fun j hj => by rw [← hl j hj]; exact q.2 j hj, sI_pos q⟩
  · refine Or.inr ⟨?_, sI_neg q⟩
    by_cases z : bk c = 0
    · exact Or.inr fun w => q ⟨z, fun j hj => by rw [hl j hj]; exact w j hj⟩
    · exact Or.inl z
/-- one player's place is another one -/
theorem On.put {n : Nat} {bk : Nat → Int32} {tk : Int32} {ce hi la : Nat → Int32} {sn : Nat} {sb sc : Nat → Int32} {kn : Nat} {ka kb kc kd lb lp lc : Nat → Int32} (h : On n bk tk ce hi la sn sb sc kn ka kb kc kd lb lp lc) {p : Nat} (hp : p < 6) {x : Int32} (hx : x = (-2) ∨ x = (-1) ∨ (vp_in x 144 ∧ bk x.toNatClampNeg = 0)) (hc : x = (-2) ∨ ∀ j : Nat, j < kn → kd j = 0 → ¬ (ka j).toNatClampNeg = p) : On n bk tk (upd ce p x) hi la sn sb sc kn ka kb kc kd lb (upd lp p x) lc := by
  obtain ⟨h1, h2, h3, h4, h5, h6⟩ := h
  refine ⟨h1, h2, fun j hj => ⟨?_, ?_⟩, ⟨rng_upd h4.1 p (hx.imp id (fun q => q.imp id (fun q => q.1))), fun j hj => ?_⟩, h5, fun j hj => ⟨(h6.1 j hj).1, (h6.1 j hj).2.1, (h6.1 j hj).2.2.1, fun q => ⟨?_, ((h6.1 j hj).2.2.2 q).2⟩⟩, h6.2⟩
  · by_cases q : j = p
    · rw [q, upd_at, upd_at]
    · rw [upd_ne _ _ q, upd_ne _ _ q]; exact (h3 j hj).1
  · rw [upd_ne _ _ (by omega)]; exact (h3 j hj).2
  · by_cases q : j = p
    · rw [q, upd_at]
      intro h0
      rcases hx with z | z | z
      · rw [z] at h0; exact absurd h0 (by decide)
      · rw [z] at h0; exact absurd h0 (by decide)
      · exact z.2
    · rw [upd_ne _ _ q]; exact h4.2 j hj
  · by_cases z : (ka j).toNatClampNeg = p
    · rcases hc with w | w
      · rw [z, upd_at, w]
      · exact absurd z (w j hj q)
    · rw [upd_ne _ _ z]; exact ((h6.1 j hj).2.2.2 q).1
