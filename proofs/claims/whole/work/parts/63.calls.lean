/-! THE TWO SIDES TOGETHER: calls that touch numbers alone -/
/-- what of the model's row sticks and rooms speak of is as it was -/
def LR (f f' : Nat → Int32) : Prop := ∀ j, (j = 0 ∨ j = 2 ∨ j = 7 ∨ (9 ≤ j ∧ j < 51) ∨ 201 ≤ j) → f' j = f j
theorem LR.rf {f : Nat → Int32} : LR f f := fun _ _ => rfl
theorem LR.up {f f' : Nat → Int32} (h : LR f f') {k : Nat} {v : Int32} (hk : ¬ (k = 0 ∨ k = 2 ∨ k = 7 ∨ (9 ≤ k ∧ k < 51) ∨ 201 ≤ k)) : LR f (upd f' k v) := fun j hj => by
  simp only [upd]
  rw [if_neg (show ¬ j = k from fun c => hk (c ▸ hj))]
  exact h j hj
def KX (τ τ' : St) : Prop := ∀ k, (k = 2 ∨ 38 ≤ k) → τ' k = τ k
def KM (σ σ' : St) : Prop := ∀ k, (k = 2 ∨ k = 3 ∨ k = 24 ∨ k = 25) → σ' k = σ k
theorem KX.rf {τ : St} : KX τ τ := fun _ _ => rfl
theorem KM.rf {σ : St} : KM σ σ := fun _ _ => rfl
theorem KX.up {τ τ' : St} (h : KX τ τ') {k j : Nat} {v : Int32} (hk : ¬ (k = 2 ∨ 38 ≤ k)) : KX τ (up2 τ' k j v) := fun q hq => by
  simp only [up2, upC]
  rw [if_neg (show ¬ q = k from fun c => hk (c ▸ hq))]
  exact h q hq
theorem KM.up {σ σ' : St} (h : KM σ σ') {k j : Nat} {v : Int32} (hk : ¬ (k = 2 ∨ k = 3 ∨ k = 24 ∨ k = 25)) : KM σ (up2 σ' k j v) := fun q hq => by
  simp only [up2, upC]
  rw [if_neg (show ¬ q = k from fun c => hk (c ▸ hq))]
  exact h q hq
/-- a tape holds signs -/
def TP (f : Nat → Int32) : Prop := ∀ i, i < 100 → 0 ≤ (f (101 + i)).toInt ∧ (f (101 + i)).toInt ≤ 127
def TK (f f' : Nat → Int32) : Prop := TP f → TP f'
theorem TK.rf {f : Nat → Int32} : TK f f := fun h => h
theorem TK.up {f f' : Nat → Int32} (h : TK f f') {k : Nat} {v : Int32} (hk : ¬ (101 ≤ k ∧ k < 201)) : TK f (upd f' k v) := fun q i hi => by
  simp only [upd]
  rw [if_neg (by omega)]
  exact h q i hi
theorem TK.sign {f f' : Nat → Int32} (h : TK f f') {k : Nat} {v : Int32} (hv : 0 ≤ v.toInt ∧ v.toInt ≤ 127) : TK f (upd f' k v) := fun q i hi => by
  simp only [upd]
  split
  · exact hv
  · exact h q i hi
/-- what stands behind a call that touches numbers alone -/
def Q1 (τ σ : St) (r q : Int32 × St) : Prop := r.1 = q.1 ∧ RN 20 r.2 (q.2 1) ∧ IB (q.2 1) ∧ LR (σ 1) (q.2 1) ∧ KX τ r.2 ∧ KM σ q.2 ∧ TK (σ 1) (q.2 1)
theorem Q1.same {τ σ : St} {v : Int32} (h : RN 20 τ (σ 1)) (hI : IB (σ 1)) : Q1 τ σ (v, τ) (v, σ) := ⟨rfl, h, hI, LR.rf, KX.rf, KM.rf, TK.rf⟩
section CALLS1
variable {τ σ : St}
theorem in_iff {a b c : Int32} : (f_X12_in a b c = 0) ↔ ¬ (b.toInt ≤ a.toInt ∧ a.toInt ≤ c.toInt) := by
  unfold f_X12_in
  simp only [ti_lt]
  split
  · simp; omega
  · split
    · simp; omega
    · simp; omega
theorem wall_eq (h : RN 20 τ (σ 1)) (hI : IB (σ 1)) (a : Int32) : (f_X5_isWall τ a = 0 ↔ ¬ (0 ≤ a.toInt ∧ a.toInt < (σ 1 1).toInt)) ∧ (f_X12_isWall σ a = 0 ↔ ¬ (0 ≤ a.toInt ∧ a.toInt < (σ 1 1).toInt)) := by
  have h1 := hI.2.1
  have e : τ 28 0 = σ 1 1 := h.n1
  unfold f_X12_isWall f_X5_isWall
  rw [in_iff, e, ti_sub (by simp; omega) (by simp; omega)]
  simp only [ti_lt, ti_le, Int32.reduceToInt]
  constructor
  · split
    · simp; omega
    · split
      · simp; omega
      · simp; omega
  · omega
theorem q_at (h : RN 20 τ (σ 1)) (hI : IB (σ 1)) (a b : Int32) : f_X11_at τ a b = f_X12_at σ a b := by
  unfold f_X11_at f_X12_at
  obtain ⟨q, r⟩ := wall_eq h hI a
  by_cases c : f_X5_isWall τ a = 0
  · rw [if_pos c, if_pos (r.mpr (q.mp c))]
  · rw [if_neg c, if_neg (fun z => c (q.mpr (r.mp z)))]
    have r := Classical.not_not.mp (fun z => c (q.mpr z))
    have h1 := hI.2.1
    have l : ix a < 6 := lt6 (by omega) (by omega)
    unfold f_X5_gap f_X12_gapOf
    rw [ixS (n := 51) rfl (by omega) (by decide) (by omega), ixS (n := 57) rfl (by omega) (by decide) (by omega), ← h.lo _ l, ← h.hi _ l]
theorem c_feed (h : RN 20 τ (σ 1)) (hI : IB (σ 1)) (a : Int32) : Q1 τ σ (f_X11_feed τ a) (f_X12_feed σ a) := by
  have e : τ 21 0 = σ 1 6 := h.n6
  have b := hI.2.2.2.2.2.2.1
  unfold f_X11_feed f_X12_feed
  rw [e]
  simp only [in_iff]
  simp only [ti_lt, ti_le, ti_eq, Int32.reduceToInt]
  (repeat' split) <;> first | (exfalso; omega) | exact Q1.same h hI | skip
  have i1 := ixS (n := 101) (e := 101) (a := σ 1 6) rfl (by omega) (by decide) (by omega)
  have i2 : ix (σ 1 6) < 100 := ix_lt (by omega) (by omega)
  rw [i1, up2_ne (by omega)]
  exact ⟨rfl, (h.up a (PM.tp i2)).up (σ 1 6 + 1) PM.n6, (hI.tape i2 a).c6 (by rw [ti_add (by simp; omega) (by simp; omega)]; simp; omega), (LR.rf.up (by omega)).up (by omega), (KX.rf.up (by omega)).up (by omega), (KM.rf.up (by omega)).up (by omega), (TK.rf.sign (k := 101 + ix (σ 1 6)) (v := a) (by omega)).up (by omega)⟩
theorem c_wall (h : RN 20 τ (σ 1)) (hI : IB (σ 1)) : Q1 τ σ (f_X11_wall τ) (f_X12_wall σ) := by
  have e : τ 28 0 = σ 1 1 := h.n1
  have b := hI.2.1
  unfold f_X11_wall f_X12_wall
  rw [e]
  simp only [ti_lt, ti_le, ti_eq, Int32.reduceToInt]
  (repeat' split) <;> first | (exfalso; omega) | exact Q1.same h hI | skip
  have i1 := ixS (n := 51) (e := 51) (a := σ 1 1) rfl (by omega) (by decide) (by omega)
  have i3 := ixS (n := 57) (e := 57) (a := σ 1 1) rfl (by omega) (by decide) (by omega)
  have i2 : ix (σ 1 1) < 6 := ix_lt (by omega) (by omega)
  rw [i1, i3, up2_ne (by omega), up2_ne (by omega)]
  refine ⟨?_, ((h.up 0 (PM.lo i2)).up 999 (PM.hi i2)).up (σ 1 1 + 1) PM.n1, (hI.wl2 (u := 0) (v := 999) i2 (by simp)).c1 ?_, ((LR.rf.up (by omega)).up (by omega)).up (by omega), ((KX.rf.up (by omega)).up (by omega)).up (by omega), ((KM.rf.up (by omega)).up (by omega)).up (by omega), ((TK.rf.up (by omega)).up (by omega)).up (by omega)⟩
  · show σ 1 1 + 1 - 1 = σ 1 1
    rw [← Int32.toInt_inj, ti_sub (by rw [ti_add (by simp; omega) (by simp; omega)]; simp; omega) (by rw [ti_add (by simp; omega) (by simp; omega)]; simp; omega), ti_add (by simp; omega) (by simp; omega)]
    simp
  · have a1 : (σ 1 1 + 1).toInt = (σ 1 1).toInt + 1 := by rw [ti_add (by simp; omega) (by simp; omega)]; rfl
    have a2 : upd (upd (σ 1) (51 + ix (σ 1 1)) 0) (57 + ix (σ 1 1)) 999 1 = σ 1 1 := by simp only [upd]; rw [if_neg (by omega), if_neg (by omega)]
    rw [a1, a2]
    omega
theorem c_known (h : RN 20 τ (σ 1)) (hI : IB (σ 1)) (a b c : Int32) : Q1 τ σ (f_X11_known τ a b c) (f_X12_known σ a b c) := by
  have bb := hI.2.1
  unfold f_X11_known f_X12_known
  simp only [(wall_eq h hI a).1, (wall_eq h hI a).2, in_iff]
  simp only [ti_lt, ti_le, ti_eq, Int32.reduceToInt]
  (repeat' split) <;> first | (exfalso; omega) | exact Q1.same h hI | skip
  have i1 := ixS (n := 51) (e := 51) (a := a) rfl (by omega) (by decide) (by omega)
  have i3 := ixS (n := 57) (e := 57) (a := a) rfl (by omega) (by decide) (by omega)
  have i2 : ix a < 6 := ix_lt (by omega) (by omega)
  unfold f_X5_gap f_X12_gapOf
  rw [i1, i3]
  refine ⟨?_, (h.up b (PM.lo i2)).up c (PM.hi i2), hI.wl2 (u := b) (v := c) i2 (by omega), (LR.rf.up (by omega)).up (by omega), (KX.rf.up (by omega)).up (by omega), (KM.rf.up (by omega)).up (by omega), (TK.rf.up (by omega)).up (by omega)⟩
  show τ 27 (ix a) - τ 26 (ix a) = _
  rw [← h.lo _ i2, ← h.hi _ i2]
theorem c_step (h : RN 20 τ (σ 1)) (hI : IB (σ 1)) (a b : Int32) : Q1 τ σ (f_X11_step τ a b) (f_X12_step σ a b) := by
  have e : τ 32 0 = σ 1 3 := h.n3
  have bb := hI.2.2.2.1
  have bl := hI.2.2.2.2.2.2.2.2.2.2.2.2.2.2.2.1
  unfold f_X11_step f_X12_step
  rw [e]
  simp only [in_iff]
  simp only [ti_lt, ti_le, ti_eq, Int32.reduceToInt]
  (repeat' split) <;> first | (exfalso; omega) | exact Q1.same h hI | skip
  · exact ⟨rfl, h.up 0 PM.n3, hI.c3 (by simp) (fun i hi => by simp at hi; omega), LR.rf.up (by omega), KX.rf.up (by omega), KM.rf.up (by omega), TK.rf.up (by omega)⟩
  · have i1 := ixS (n := 63) (e := 63) (a := σ 1 3) rfl (by omega) (by decide) (by omega)
    have i3 := ixS (n := 71) (e := 71) (a := σ 1 3) rfl (by omega) (by decide) (by omega)
    have i2 : ix (σ 1 3) < 8 := ix_lt (by omega) (by omega)
    have i4 := ti_ix (i := σ 1 3) (by omega)
    have a1 : (σ 1 3 + 1).toInt = (σ 1 3).toInt + 1 := by rw [ti_add (by simp; omega) (by simp; omega)]; rfl
    have w3 : up2 σ 1 (63 + ix (σ 1 3)) a 1 3 = σ 1 3 := up2_ne (by omega)
    have w4 : up2 (up2 σ 1 (63 + ix (σ 1 3)) a) 1 (71 + ix (σ 1 3)) b 1 3 = σ 1 3 := by rw [up2_ne (by omega), w3]
    rw [i1, w3, i3, w4]
    refine ⟨rfl, ((h.up a (PM.wy i2)).up b (PM.lg i2)).up (σ 1 3 + 1) PM.n3, ((hI.way (v := a) i2 (by omega)).leng (v := b) i2 (by omega)).c3 (by omega) (fun i hi => ?_), ((LR.rf.up (by omega)).up (by omega)).up (by omega), ((KX.rf.up (by omega)).up (by omega)).up (by omega), ((KM.rf.up (by omega)).up (by omega)).up (by omega), ((TK.rf.up (by omega)).up (by omega)).up (by omega)⟩
    simp only [upd]
    by_cases c : i = ix (σ 1 3)
    · rw [if_pos (by omega)]
      omega
    · rw [if_neg (by omega), if_neg (by omega)]
      exact bl i (by omega)
theorem c_mark (h : RN 20 τ (σ 1)) (hI : IB (σ 1)) (a : Int32) : Q1 τ σ (f_X11_mark τ a) (f_X12_mark σ a) := by
  have e : τ 34 0 = σ 1 4 := h.n4
  have bb := hI.2.2.2.2.1
  have bl := hI.2.2.2.2.2.2.2.2.2.2.2.2.2.2.2.2.1
  have key : ¬ a.toInt = -1 → 1 ≤ a.toInt → a.toInt ≤ 999 → Q1 τ σ (if (σ 1 4).toInt < 6 then (σ 1 4 + 1, up2 (up2 τ 33 (ix (σ 1 4)) a) 34 0 (σ 1 4 + 1)) else (-4, τ)) (f_X12_mark_57 σ a) := by
    intro _ _ _
    unfold f_X12_mark_57
    simp only [ti_eq, Int32.reduceToInt]
    (repeat' split) <;> first | (exfalso; omega) | exact Q1.same h hI | skip
    have i1 := ixS (n := 79) (e := 79) (a := σ 1 4) rfl (by omega) (by decide) (by omega)
    have i2 : ix (σ 1 4) < 6 := ix_lt (by omega) (by omega)
    have i4 := ti_ix (i := σ 1 4) (by omega)
    have a1 : (σ 1 4 + 1).toInt = (σ 1 4).toInt + 1 := by rw [ti_add (by simp; omega) (by simp; omega)]; rfl
    rw [i1, up2_ne (by omega)]
    refine ⟨rfl, (h.up a (PM.mk i2)).up (σ 1 4 + 1) PM.n4, (hI.mrk (v := a) i2 (by omega)).c4 (by omega) (fun i hi => ?_), (LR.rf.up (by omega)).up (by omega), (KX.rf.up (by omega)).up (by omega), (KM.rf.up (by omega)).up (by omega), (TK.rf.up (by omega)).up (by omega)⟩
    simp only [upd]
    by_cases c : i = ix (σ 1 4)
    · rw [if_pos (by omega)]
      omega
    · rw [if_neg (by omega)]
      exact bl i (by omega)
  unfold f_X11_mark f_X12_mark
  rw [e]
  simp only [in_iff]
  by_cases c0 : (σ 1 4).toInt ≤ 0
  · rw [if_pos (show σ 1 4 ≤ 0 from ti_le.mpr c0), if_pos (show σ 1 4 ≤ 0 from ti_le.mpr c0)]
    simp only [ti_lt, ti_le, ti_eq, Int32.reduceToInt] at key ⊢
    (repeat' split) <;> first | (exfalso; omega) | exact Q1.same h hI | (have k := key (by omega) (by omega) (by omega); first | (rw [if_pos (by omega)] at k; exact k) | (rw [if_neg (by omega)] at k; exact k)) | skip
    exact ⟨rfl, h.up 0 PM.n4, hI.c4 (by simp) (fun i hi => by simp at hi; omega), LR.rf.up (by omega), KX.rf.up (by omega), KM.rf.up (by omega), TK.rf.up (by omega)⟩
  · rw [if_neg (show ¬ σ 1 4 ≤ 0 from fun c => c0 (ti_le.mp c)), if_neg (show ¬ σ 1 4 ≤ 0 from fun c => c0 (ti_le.mp c))]
    have i4 : (σ 1 4 - 1).toInt = (σ 1 4).toInt - 1 := by rw [ti_sub (by simp; omega) (by simp; omega)]; rfl
    have i6 : (79 + σ 1 4).toInt = 79 + (σ 1 4).toInt := by rw [ti_add (by simp; omega) (by simp; omega)]; rfl
    have i5 : ix (79 + σ 1 4 - 1) = 79 + ix (σ 1 4 - 1) := by
      have q : (79 + σ 1 4 - 1).toInt = 78 + (σ 1 4).toInt := by rw [ti_sub (by rw [i6]; simp; omega) (by rw [i6]; simp; omega), i6]; simp; omega
      have q1 := ti_ix (i := 79 + σ 1 4 - 1) (by omega)
      have q2 := ti_ix (i := σ 1 4 - 1) (by omega)
      omega
    have i2 : ix (σ 1 4 - 1) < 6 := ix_lt (by omega) (by omega)
    have i7 := ti_ix (i := σ 1 4 - 1) (by omega)
    have e2 : τ 33 (ix (σ 1 4 - 1)) = σ 1 (79 + ix (σ 1 4 - 1)) := h.mk _ i2
    have b2 := bl (ix (σ 1 4 - 1)) (by omega)
    rw [i5, e2]
    simp only [ti_lt, ti_le, ti_eq, Int32.reduceToInt] at key ⊢
    (repeat' split) <;> first | (exfalso; omega) | exact Q1.same h hI | (have k := key (by omega) (by omega) (by omega); first | (rw [if_pos (by omega)] at k; exact k) | (rw [if_neg (by omega)] at k; exact k)) | skip
    exact ⟨rfl, h.up 0 PM.n4, hI.c4 (by simp) (fun i hi => by simp at hi; omega), LR.rf.up (by omega), KX.rf.up (by omega), KM.rf.up (by omega), TK.rf.up (by omega)⟩
theorem c_book (h : RN 20 τ (σ 1)) (hI : IB (σ 1)) (a b : Int32) : Q1 τ σ (f_X11_book τ a b) (f_X12_book σ a b) := by
  have e : τ 37 0 = σ 1 5 := h.n5
  have bb := hI.2.2.2.2.2.1
  have bw := hI.2.1
  have bl := hI.2.2.2.2.2.2.2.2.2.2.2.2.2.2.2.2.2.1
  have bl2 := hI.2.2.2.2.2.2.2.2.2.2.2.2.2.2.2.2.2.2.1
  unfold f_X11_book f_X12_book
  rw [e]
  simp only [(wall_eq h hI a).1, (wall_eq h hI a).2, in_iff]
  simp only [ti_lt, ti_le, ti_eq, Int32.reduceToInt]
  (repeat' split) <;> first | (exfalso; omega) | exact Q1.same h hI | skip
  · exact ⟨rfl, h.up 0 PM.n5, hI.c5 (by simp) (fun i hi => by simp at hi; omega), LR.rf.up (by omega), KX.rf.up (by omega), KM.rf.up (by omega), TK.rf.up (by omega)⟩
  · have i1 := ixS (n := 85) (e := 85) (a := σ 1 5) rfl (by omega) (by decide) (by omega)
    have i3 := ixS (n := 93) (e := 93) (a := σ 1 5) rfl (by omega) (by decide) (by omega)
    have i2 : ix (σ 1 5) < 8 := ix_lt (by omega) (by omega)
    have i4 := ti_ix (i := σ 1 5) (by omega)
    have a1 : (σ 1 5 + 1).toInt = (σ 1 5).toInt + 1 := by rw [ti_add (by simp; omega) (by simp; omega)]; rfl
    have w3 : up2 σ 1 (85 + ix (σ 1 5)) a 1 5 = σ 1 5 := up2_ne (by omega)
    have w4 : up2 (up2 σ 1 (85 + ix (σ 1 5)) a) 1 (93 + ix (σ 1 5)) b 1 5 = σ 1 5 := by rw [up2_ne (by omega), w3]
    rw [i1, w3, i3, w4]
    have w1 : upd (σ 1) (85 + ix (σ 1 5)) a 1 = σ 1 1 := by simp only [upd]; rw [if_neg (by omega)]
    refine ⟨rfl, ((h.up a (PM.bw i2)).up b (PM.bl i2)).up (σ 1 5 + 1) PM.n5, ((hI.bkw (v := a) i2 (by omega)).bkl (v := b) i2 (by omega)).c5 (by omega) (fun i hi => ?_), ((LR.rf.up (by omega)).up (by omega)).up (by omega), ((KX.rf.up (by omega)).up (by omega)).up (by omega), ((KM.rf.up (by omega)).up (by omega)).up (by omega), ((TK.rf.up (by omega)).up (by omega)).up (by omega)⟩
    have d1 : i < 8 := by omega
    simp only [upd]
    by_cases c : i = ix (σ 1 5)
    · rw [if_neg (by omega), if_pos (by omega), if_neg (show ¬ 1 = 93 + ix (σ 1 5) by omega), if_neg (show ¬ 1 = 85 + ix (σ 1 5) by omega), if_pos (by omega)]
      omega
    · rw [if_neg (by omega), if_neg (by omega), if_neg (show ¬ 1 = 93 + ix (σ 1 5) by omega), if_neg (show ¬ 1 = 85 + ix (σ 1 5) by omega), if_neg (by omega), if_neg (by omega)]
      exact ⟨bl i (by omega), bl2 i (by omega)⟩
end CALLS1
