/-! THE TWO SIDES TOGETHER: the component's numbers tau, its references rho, their data dt; the model's numbers sigma -/
/-- a stick's data are the model's numbers of stick i -/
def SD (d : Nat → Int32) (f : Nat → Int32) (i : Nat) : Prop :=
  d 0 = nI i ∧ d 1 = f (9 + i) ∧ d 2 = f (15 + i) ∧ d 3 = f (21 + i) ∧ (d 1 = 6 → ∀ j, j < 4 → d (4 + j) = f (27 + 4 * i + j))
/-- the numbers of a state of the component (from row b on) are the model's row f -/
def RN (b : Nat) (τ : St) (f : Nat → Int32) : Prop :=
  (τ (b + 5) 0 = f 0) ∧ (τ (b + 8) 0 = f 1) ∧ (τ (b + 3) 0 = f 2) ∧ (τ (b + 12) 0 = f 3) ∧ (τ (b + 14) 0 = f 4) ∧ (τ (b + 17) 0 = f 5) ∧ (τ (b + 1) 0 = f 6) ∧ (τ (b + 9) 0 = f 8) ∧ (∀ i, i < 6 → τ (b + 6) i = f (51 + i)) ∧ (∀ i, i < 6 → τ (b + 7) i = f (57 + i)) ∧ (∀ i, i < 8 → τ (b + 10) i = f (63 + i)) ∧ (∀ i, i < 8 → τ (b + 11) i = f (71 + i)) ∧ (∀ i, i < 6 → τ (b + 13) i = f (79 + i)) ∧ (∀ i, i < 8 → τ (b + 15) i = f (85 + i)) ∧ (∀ i, i < 8 → τ (b + 16) i = f (93 + i)) ∧ (∀ i, i < 100 → τ (b + 0) i = f (101 + i))
theorem RN.n0 {b : Nat} {τ : St} {f : Nat → Int32} (h : RN b τ f) : τ (b + 5) 0 = f 0 := h.1
theorem RN.n1 {b : Nat} {τ : St} {f : Nat → Int32} (h : RN b τ f) : τ (b + 8) 0 = f 1 := h.2.1
theorem RN.n2 {b : Nat} {τ : St} {f : Nat → Int32} (h : RN b τ f) : τ (b + 3) 0 = f 2 := h.2.2.1
theorem RN.n3 {b : Nat} {τ : St} {f : Nat → Int32} (h : RN b τ f) : τ (b + 12) 0 = f 3 := h.2.2.2.1
theorem RN.n4 {b : Nat} {τ : St} {f : Nat → Int32} (h : RN b τ f) : τ (b + 14) 0 = f 4 := h.2.2.2.2.1
theorem RN.n5 {b : Nat} {τ : St} {f : Nat → Int32} (h : RN b τ f) : τ (b + 17) 0 = f 5 := h.2.2.2.2.2.1
theorem RN.n6 {b : Nat} {τ : St} {f : Nat → Int32} (h : RN b τ f) : τ (b + 1) 0 = f 6 := h.2.2.2.2.2.2.1
theorem RN.n8 {b : Nat} {τ : St} {f : Nat → Int32} (h : RN b τ f) : τ (b + 9) 0 = f 8 := h.2.2.2.2.2.2.2.1
theorem RN.lo {b : Nat} {τ : St} {f : Nat → Int32} (h : RN b τ f) : ∀ i, i < 6 → τ (b + 6) i = f (51 + i) := h.2.2.2.2.2.2.2.2.1
theorem RN.hi {b : Nat} {τ : St} {f : Nat → Int32} (h : RN b τ f) : ∀ i, i < 6 → τ (b + 7) i = f (57 + i) := h.2.2.2.2.2.2.2.2.2.1
theorem RN.wy {b : Nat} {τ : St} {f : Nat → Int32} (h : RN b τ f) : ∀ i, i < 8 → τ (b + 10) i = f (63 + i) := h.2.2.2.2.2.2.2.2.2.2.1
theorem RN.lg {b : Nat} {τ : St} {f : Nat → Int32} (h : RN b τ f) : ∀ i, i < 8 → τ (b + 11) i = f (71 + i) := h.2.2.2.2.2.2.2.2.2.2.2.1
theorem RN.mk {b : Nat} {τ : St} {f : Nat → Int32} (h : RN b τ f) : ∀ i, i < 6 → τ (b + 13) i = f (79 + i) := h.2.2.2.2.2.2.2.2.2.2.2.2.1
theorem RN.bw {b : Nat} {τ : St} {f : Nat → Int32} (h : RN b τ f) : ∀ i, i < 8 → τ (b + 15) i = f (85 + i) := h.2.2.2.2.2.2.2.2.2.2.2.2.2.1
theorem RN.bl {b : Nat} {τ : St} {f : Nat → Int32} (h : RN b τ f) : ∀ i, i < 8 → τ (b + 16) i = f (93 + i) := h.2.2.2.2.2.2.2.2.2.2.2.2.2.2.1
theorem RN.tp {b : Nat} {τ : St} {f : Nat → Int32} (h : RN b τ f) : ∀ i, i < 100 → τ (b + 0) i = f (101 + i) := h.2.2.2.2.2.2.2.2.2.2.2.2.2.2.2
theorem lt6 {a : Int32} (h1 : 0 ≤ a.toInt) (h2 : a.toInt < 6) : ix a < 6 := ix_lt h1 h2
theorem ixS {n : Nat} {e a : Int32} (hn : e.toInt = n) (h1 : 0 ≤ a.toInt) (h0 : n ≤ 100000) (h2 : a.toInt ≤ 100000) : ix (e + a) = n + ix a := ixl hn h1 h0 h2
/-- which number of the component's (row b + k, place i) is which of the model's (place j) -/
def PM (k i j : Nat) : Prop := (k = 5 ∧ i = 0 ∧ j = 0) ∨ (k = 8 ∧ i = 0 ∧ j = 1) ∨ (k = 3 ∧ i = 0 ∧ j = 2) ∨ (k = 12 ∧ i = 0 ∧ j = 3) ∨ (k = 14 ∧ i = 0 ∧ j = 4) ∨ (k = 17 ∧ i = 0 ∧ j = 5) ∨ (k = 1 ∧ i = 0 ∧ j = 6) ∨ (k = 9 ∧ i = 0 ∧ j = 8) ∨ (k = 6 ∧ i < 6 ∧ j = 51 + i) ∨ (k = 7 ∧ i < 6 ∧ j = 57 + i) ∨ (k = 10 ∧ i < 8 ∧ j = 63 + i) ∨ (k = 11 ∧ i < 8 ∧ j = 71 + i) ∨ (k = 13 ∧ i < 6 ∧ j = 79 + i) ∨ (k = 15 ∧ i < 8 ∧ j = 85 + i) ∨ (k = 16 ∧ i < 8 ∧ j = 93 + i) ∨ (k = 0 ∧ i < 100 ∧ j = 101 + i)
theorem PM.n0 : PM 5 0 0 := Or.inl (⟨rfl, rfl, rfl⟩)
theorem PM.n1 : PM 8 0 1 := Or.inr (Or.inl (⟨rfl, rfl, rfl⟩))
theorem PM.n2 : PM 3 0 2 := Or.inr (Or.inr (Or.inl (⟨rfl, rfl, rfl⟩)))
theorem PM.n3 : PM 12 0 3 := Or.inr (Or.inr (Or.inr (Or.inl (⟨rfl, rfl, rfl⟩))))
theorem PM.n4 : PM 14 0 4 := Or.inr (Or.inr (Or.inr (Or.inr (Or.inl (⟨rfl, rfl, rfl⟩)))))
theorem PM.n5 : PM 17 0 5 := Or.inr (Or.inr (Or.inr (Or.inr (Or.inr (Or.inl (⟨rfl, rfl, rfl⟩))))))
theorem PM.n6 : PM 1 0 6 := Or.inr (Or.inr (Or.inr (Or.inr (Or.inr (Or.inr (Or.inl (⟨rfl, rfl, rfl⟩)))))))
theorem PM.n8 : PM 9 0 8 := Or.inr (Or.inr (Or.inr (Or.inr (Or.inr (Or.inr (Or.inr (Or.inl (⟨rfl, rfl, rfl⟩))))))))
theorem PM.lo {i : Nat} (h : i < 6) : PM 6 i (51 + i) := Or.inr (Or.inr (Or.inr (Or.inr (Or.inr (Or.inr (Or.inr (Or.inr (Or.inl (⟨rfl, h, rfl⟩)))))))))
theorem PM.hi {i : Nat} (h : i < 6) : PM 7 i (57 + i) := Or.inr (Or.inr (Or.inr (Or.inr (Or.inr (Or.inr (Or.inr (Or.inr (Or.inr (Or.inl (⟨rfl, h, rfl⟩))))))))))
theorem PM.wy {i : Nat} (h : i < 8) : PM 10 i (63 + i) := Or.inr (Or.inr (Or.inr (Or.inr (Or.inr (Or.inr (Or.inr (Or.inr (Or.inr (Or.inr (Or.inl (⟨rfl, h, rfl⟩)))))))))))
theorem PM.lg {i : Nat} (h : i < 8) : PM 11 i (71 + i) := Or.inr (Or.inr (Or.inr (Or.inr (Or.inr (Or.inr (Or.inr (Or.inr (Or.inr (Or.inr (Or.inr (Or.inl (⟨rfl, h, rfl⟩))))))))))))
theorem PM.mk {i : Nat} (h : i < 6) : PM 13 i (79 + i) := Or.inr (Or.inr (Or.inr (Or.inr (Or.inr (Or.inr (Or.inr (Or.inr (Or.inr (Or.inr (Or.inr (Or.inr (Or.inl (⟨rfl, h, rfl⟩)))))))))))))
theorem PM.bw {i : Nat} (h : i < 8) : PM 15 i (85 + i) := Or.inr (Or.inr (Or.inr (Or.inr (Or.inr (Or.inr (Or.inr (Or.inr (Or.inr (Or.inr (Or.inr (Or.inr (Or.inr (Or.inl (⟨rfl, h, rfl⟩))))))))))))))
theorem PM.bl {i : Nat} (h : i < 8) : PM 16 i (93 + i) := Or.inr (Or.inr (Or.inr (Or.inr (Or.inr (Or.inr (Or.inr (Or.inr (Or.inr (Or.inr (Or.inr (Or.inr (Or.inr (Or.inr (Or.inl (⟨rfl, h, rfl⟩)))))))))))))))
theorem PM.tp {i : Nat} (h : i < 100) : PM 0 i (101 + i) := Or.inr (Or.inr (Or.inr (Or.inr (Or.inr (Or.inr (Or.inr (Or.inr (Or.inr (Or.inr (Or.inr (Or.inr (Or.inr (Or.inr (Or.inr (⟨rfl, h, rfl⟩)))))))))))))))
theorem RN_iff {b : Nat} {τ : St} {f : Nat → Int32} : RN b τ f ↔ ∀ k i j, PM k i j → τ (b + k) i = f j := by
  constructor
  · intro h k i j hp
    unfold PM at hp
    rcases hp with ⟨rfl, rfl, rfl⟩ | ⟨rfl, rfl, rfl⟩ | ⟨rfl, rfl, rfl⟩ | ⟨rfl, rfl, rfl⟩ | ⟨rfl, rfl, rfl⟩ | ⟨rfl, rfl, rfl⟩ | ⟨rfl, rfl, rfl⟩ | ⟨rfl, rfl, rfl⟩ | ⟨rfl, hi, rfl⟩ | ⟨rfl, hi, rfl⟩ | ⟨rfl, hi, rfl⟩ | ⟨rfl, hi, rfl⟩ | ⟨rfl, hi, rfl⟩ | ⟨rfl, hi, rfl⟩ | ⟨rfl, hi, rfl⟩ | ⟨rfl, hi, rfl⟩
    · exact h.n0
    · exact h.n1
    · exact h.n2
    · exact h.n3
    · exact h.n4
    · exact h.n5
    · exact h.n6
    · exact h.n8
    · exact h.lo i hi
    · exact h.hi i hi
    · exact h.wy i hi
    · exact h.lg i hi
    · exact h.mk i hi
    · exact h.bw i hi
    · exact h.bl i hi
    · exact h.tp i hi
  · intro h
    refine ⟨h _ _ _ PM.n0, h _ _ _ PM.n1, h _ _ _ PM.n2, h _ _ _ PM.n3, h _ _ _ PM.n4, h _ _ _ PM.n5, h _ _ _ PM.n6, h _ _ _ PM.n8, fun i hi => h _ _ _ (PM.lo hi), fun i hi => h _ _ _ (PM.hi hi), fun i hi => h _ _ _ (PM.wy hi), fun i hi => h _ _ _ (PM.lg hi), fun i hi => h _ _ _ (PM.mk hi), fun i hi => h _ _ _ (PM.bw hi), fun i hi => h _ _ _ (PM.bl hi), fun i hi => h _ _ _ (PM.tp hi)⟩
theorem PM_inj {k i j k0 i0 j0 : Nat} (h : PM k i j) (h0 : PM k0 i0 j0) : (k = k0 ∧ i = i0) ↔ j = j0 := by
  unfold PM at h h0
  constructor
  · rintro ⟨rfl, rfl⟩
    rcases h with ⟨rfl, rfl, rfl⟩ | ⟨rfl, rfl, rfl⟩ | ⟨rfl, rfl, rfl⟩ | ⟨rfl, rfl, rfl⟩ | ⟨rfl, rfl, rfl⟩ | ⟨rfl, rfl, rfl⟩ | ⟨rfl, rfl, rfl⟩ | ⟨rfl, rfl, rfl⟩ | ⟨rfl, hi, rfl⟩ | ⟨rfl, hi, rfl⟩ | ⟨rfl, hi, rfl⟩ | ⟨rfl, hi, rfl⟩ | ⟨rfl, hi, rfl⟩ | ⟨rfl, hi, rfl⟩ | ⟨rfl, hi, rfl⟩ | ⟨rfl, hi, rfl⟩ <;> (simp at h0; omega)
  · rintro rfl
    rcases h with ⟨rfl, rfl, rfl⟩ | ⟨rfl, rfl, rfl⟩ | ⟨rfl, rfl, rfl⟩ | ⟨rfl, rfl, rfl⟩ | ⟨rfl, rfl, rfl⟩ | ⟨rfl, rfl, rfl⟩ | ⟨rfl, rfl, rfl⟩ | ⟨rfl, rfl, rfl⟩ | ⟨rfl, hi, rfl⟩ | ⟨rfl, hi, rfl⟩ | ⟨rfl, hi, rfl⟩ | ⟨rfl, hi, rfl⟩ | ⟨rfl, hi, rfl⟩ | ⟨rfl, hi, rfl⟩ | ⟨rfl, hi, rfl⟩ | ⟨rfl, hi, rfl⟩ <;> omega
theorem RN.up {b : Nat} {τ : St} {f : Nat → Int32} (h : RN b τ f) {k i j : Nat} (v : Int32) (hp : PM k i j) : RN b (up2 τ (b + k) i v) (upd f j v) := by
  rw [RN_iff] at h ⊢
  intro k' i' j' hp'
  have q := PM_inj hp' hp
  have r := h k' i' j' hp'
  simp only [up2, upC, upd]
  by_cases c : j' = j
  · obtain ⟨q1, q2⟩ := q.mpr c
    rw [if_pos (by omega), if_pos c]
    simp only [upd]
    rw [if_pos q2]
  · rw [if_neg c]
    split
    · simp only [upd]
      split
      · exact absurd (q.mp ⟨by omega, by assumption⟩) c
      · rw [← r]
        congr 1
        omega
    · exact r
theorem IB.tape {f : Nat → Int32} (hI : IB f) {i0 : Nat} (h0 : i0 < 100) (v : Int32) : IB (upd f (101 + i0) v) := by
  refine ⟨?_, ?_, ?_, ?_, ?_, ?_, ?_, ?_, ?_, fun i hi => ?_, fun i hi => ?_, fun i hi => ?_, fun i hi => ?_, fun i hi => ?_, fun i hi => ?_, fun i hi => ?_, fun i hi => ?_, fun i hi => ?_, fun i hi => ?_, fun i hi => ?_, fun i hi => ?_, fun i hi => ?_⟩
  · have q := hI.1
    have q2 := hI.2.2.1
    simp only [upd] at *
    (repeat' split) <;> omega
  · have q := hI.2.1
    have q2 := hI.2.2.1
    simp only [upd] at *
    (repeat' split) <;> omega
  · have q := hI.2.2.1
    have q2 := hI.2.2.1
    simp only [upd] at *
    (repeat' split) <;> omega
  · have q := hI.2.2.2.1
    have q2 := hI.2.2.1
    simp only [upd] at *
    (repeat' split) <;> omega
  · have q := hI.2.2.2.2.1
    have q2 := hI.2.2.1
    simp only [upd] at *
    (repeat' split) <;> omega
  · have q := hI.2.2.2.2.2.1
    have q2 := hI.2.2.1
    simp only [upd] at *
    (repeat' split) <;> omega
  · have q := hI.2.2.2.2.2.2.1
    have q2 := hI.2.2.1
    simp only [upd] at *
    (repeat' split) <;> omega
  · have q := hI.2.2.2.2.2.2.2.1
    have q2 := hI.2.2.1
    simp only [upd] at *
    (repeat' split) <;> omega
  · have q := hI.2.2.2.2.2.2.2.2.1
    have q2 := hI.2.2.1
    simp only [upd] at *
    (repeat' split) <;> omega
  · have q := hI.2.2.2.2.2.2.2.2.2.1 i
    have b3 := hI.2.2.2.1.2
    have b4 := hI.2.2.2.2.1.2
    have b5 := hI.2.2.2.2.2.1.2
    simp only [upd] at *
    (repeat' split at hi) <;> (repeat' split) <;> first | omega | (have q2 := q (by omega); omega) | (have q3 := hI.2.1; omega) | (have q3 := hx i (by omega); omega)
  · have q := hI.2.2.2.2.2.2.2.2.2.2.1 i
    have b3 := hI.2.2.2.1.2
    have b4 := hI.2.2.2.2.1.2
    have b5 := hI.2.2.2.2.2.1.2
    simp only [upd] at *
    (repeat' split at hi) <;> (repeat' split) <;> first | omega | (have q2 := q (by omega); omega) | (have q3 := hI.2.1; omega) | (have q3 := hx i (by omega); omega)
  · have q := hI.2.2.2.2.2.2.2.2.2.2.2.1 i
    have b3 := hI.2.2.2.1.2
    have b4 := hI.2.2.2.2.1.2
    have b5 := hI.2.2.2.2.2.1.2
    simp only [upd] at *
    (repeat' split at hi) <;> (repeat' split) <;> first | omega | (have q2 := q (by omega); omega) | (have q3 := hI.2.1; omega) | (have q3 := hx i (by omega); omega)
  · have q := hI.2.2.2.2.2.2.2.2.2.2.2.2.1 i
    have b3 := hI.2.2.2.1.2
    have b4 := hI.2.2.2.2.1.2
    have b5 := hI.2.2.2.2.2.1.2
    simp only [upd] at *
    (repeat' split at hi) <;> (repeat' split) <;> first | omega | (have q2 := q (by omega); omega) | (have q3 := hI.2.1; omega) | (have q3 := hx i (by omega); omega)
  · have q := hI.2.2.2.2.2.2.2.2.2.2.2.2.2.1 i
    have b3 := hI.2.2.2.1.2
    have b4 := hI.2.2.2.2.1.2
    have b5 := hI.2.2.2.2.2.1.2
    simp only [upd] at *
    (repeat' split at hi) <;> (repeat' split) <;> first | omega | (have q2 := q (by omega); omega) | (have q3 := hI.2.1; omega) | (have q3 := hx i (by omega); omega)
  · have q := hI.2.2.2.2.2.2.2.2.2.2.2.2.2.2.1 i
    have b3 := hI.2.2.2.1.2
    have b4 := hI.2.2.2.2.1.2
    have b5 := hI.2.2.2.2.2.1.2
    simp only [upd] at *
    (repeat' split at hi) <;> (repeat' split) <;> first | omega | (have q2 := q (by omega); omega) | (have q3 := hI.2.1; omega) | (have q3 := hx i (by omega); omega)
  · have q := hI.2.2.2.2.2.2.2.2.2.2.2.2.2.2.2.1 i
    have b3 := hI.2.2.2.1.2
    have b4 := hI.2.2.2.2.1.2
    have b5 := hI.2.2.2.2.2.1.2
    simp only [upd] at *
    (repeat' split at hi) <;> (repeat' split) <;> first | omega | (have q2 := q (by omega); omega) | (have q3 := hI.2.1; omega) | (have q3 := hx i (by omega); omega)
  · have q := hI.2.2.2.2.2.2.2.2.2.2.2.2.2.2.2.2.1 i
    have b3 := hI.2.2.2.1.2
    have b4 := hI.2.2.2.2.1.2
    have b5 := hI.2.2.2.2.2.1.2
    simp only [upd] at *
    (repeat' split at hi) <;> (repeat' split) <;> first | omega | (have q2 := q (by omega); omega) | (have q3 := hI.2.1; omega) | (have q3 := hx i (by omega); omega)
  · have q := hI.2.2.2.2.2.2.2.2.2.2.2.2.2.2.2.2.2.1 i
    have b3 := hI.2.2.2.1.2
    have b4 := hI.2.2.2.2.1.2
    have b5 := hI.2.2.2.2.2.1.2
    simp only [upd] at *
    (repeat' split at hi) <;> (repeat' split) <;> first | omega | (have q2 := q (by omega); omega) | (have q3 := hI.2.1; omega) | (have q3 := hx i (by omega); omega)
  · have q := hI.2.2.2.2.2.2.2.2.2.2.2.2.2.2.2.2.2.2.1 i
    have b3 := hI.2.2.2.1.2
    have b4 := hI.2.2.2.2.1.2
    have b5 := hI.2.2.2.2.2.1.2
    simp only [upd] at *
    (repeat' split at hi) <;> (repeat' split) <;> first | omega | (have q2 := q (by omega); omega) | (have q3 := hI.2.1; omega) | (have q3 := hx i (by omega); omega)
  · have q := hI.2.2.2.2.2.2.2.2.2.2.2.2.2.2.2.2.2.2.2.1 i
    have b3 := hI.2.2.2.1.2
    have b4 := hI.2.2.2.2.1.2
    have b5 := hI.2.2.2.2.2.1.2
    simp only [upd] at *
    (repeat' split at hi) <;> (repeat' split) <;> first | omega | (have q2 := q (by omega); omega) | (have q3 := hI.2.1; omega) | (have q3 := hx i (by omega); omega)
  · have q := hI.2.2.2.2.2.2.2.2.2.2.2.2.2.2.2.2.2.2.2.2.1 i
    have b3 := hI.2.2.2.1.2
    have b4 := hI.2.2.2.2.1.2
    have b5 := hI.2.2.2.2.2.1.2
    simp only [upd] at *
    (repeat' split at hi) <;> (repeat' split) <;> first | omega | (have q2 := q (by omega); omega) | (have q3 := hI.2.1; omega) | (have q3 := hx i (by omega); omega)
  · have q := hI.2.2.2.2.2.2.2.2.2.2.2.2.2.2.2.2.2.2.2.2.2 i
    have b3 := hI.2.2.2.1.2
    have b4 := hI.2.2.2.2.1.2
    have b5 := hI.2.2.2.2.2.1.2
    simp only [upd] at *
    (repeat' split at hi) <;> (repeat' split) <;> first | omega | (have q2 := q (by omega); omega) | (have q3 := hI.2.1; omega) | (have q3 := hx i (by omega); omega)
theorem IB.c0 {f : Nat → Int32} (hI : IB f) {v : Int32} (h0 : 0 ≤ v.toInt ∧ v.toInt ≤ 6) : IB (upd f 0 v) := by
  refine ⟨?_, ?_, ?_, ?_, ?_, ?_, ?_, ?_, ?_, fun i hi => ?_, fun i hi => ?_, fun i hi => ?_, fun i hi => ?_, fun i hi => ?_, fun i hi => ?_, fun i hi => ?_, fun i hi => ?_, fun i hi => ?_, fun i hi => ?_, fun i hi => ?_, fun i hi => ?_, fun i hi => ?_⟩
  · have q := hI.1
    have q2 := hI.2.2.1
    simp only [upd] at *
    (repeat' split) <;> omega
  · have q := hI.2.1
    have q2 := hI.2.2.1
    simp only [upd] at *
    (repeat' split) <;> omega
  · have q := hI.2.2.1
    have q2 := hI.2.2.1
    simp only [upd] at *
    (repeat' split) <;> omega
  · have q := hI.2.2.2.1
    have q2 := hI.2.2.1
    simp only [upd] at *
    (repeat' split) <;> omega
  · have q := hI.2.2.2.2.1
    have q2 := hI.2.2.1
    simp only [upd] at *
    (repeat' split) <;> omega
  · have q := hI.2.2.2.2.2.1
    have q2 := hI.2.2.1
    simp only [upd] at *
    (repeat' split) <;> omega
  · have q := hI.2.2.2.2.2.2.1
    have q2 := hI.2.2.1
    simp only [upd] at *
    (repeat' split) <;> omega
  · have q := hI.2.2.2.2.2.2.2.1
    have q2 := hI.2.2.1
    simp only [upd] at *
    (repeat' split) <;> omega
  · have q := hI.2.2.2.2.2.2.2.2.1
    have q2 := hI.2.2.1
    simp only [upd] at *
    (repeat' split) <;> omega
  · have q := hI.2.2.2.2.2.2.2.2.2.1 i
    have b3 := hI.2.2.2.1.2
    have b4 := hI.2.2.2.2.1.2
    have b5 := hI.2.2.2.2.2.1.2
    simp only [upd] at *
    (repeat' split at hi) <;> (repeat' split) <;> first | omega | (have q2 := q (by omega); omega) | (have q3 := hI.2.1; omega) | (have q3 := hx i (by omega); omega)
  · have q := hI.2.2.2.2.2.2.2.2.2.2.1 i
    have b3 := hI.2.2.2.1.2
    have b4 := hI.2.2.2.2.1.2
    have b5 := hI.2.2.2.2.2.1.2
    simp only [upd] at *
    (repeat' split at hi) <;> (repeat' split) <;> first | omega | (have q2 := q (by omega); omega) | (have q3 := hI.2.1; omega) | (have q3 := hx i (by omega); omega)
  · have q := hI.2.2.2.2.2.2.2.2.2.2.2.1 i
    have b3 := hI.2.2.2.1.2
    have b4 := hI.2.2.2.2.1.2
    have b5 := hI.2.2.2.2.2.1.2
    simp only [upd] at *
    (repeat' split at hi) <;> (repeat' split) <;> first | omega | (have q2 := q (by omega); omega) | (have q3 := hI.2.1; omega) | (have q3 := hx i (by omega); omega)
  · have q := hI.2.2.2.2.2.2.2.2.2.2.2.2.1 i
    have b3 := hI.2.2.2.1.2
    have b4 := hI.2.2.2.2.1.2
    have b5 := hI.2.2.2.2.2.1.2
    simp only [upd] at *
    (repeat' split at hi) <;> (repeat' split) <;> first | omega | (have q2 := q (by omega); omega) | (have q3 := hI.2.1; omega) | (have q3 := hx i (by omega); omega)
  · have q := hI.2.2.2.2.2.2.2.2.2.2.2.2.2.1 i
    have b3 := hI.2.2.2.1.2
    have b4 := hI.2.2.2.2.1.2
    have b5 := hI.2.2.2.2.2.1.2
    simp only [upd] at *
    (repeat' split at hi) <;> (repeat' split) <;> first | omega | (have q2 := q (by omega); omega) | (have q3 := hI.2.1; omega) | (have q3 := hx i (by omega); omega)
  · have q := hI.2.2.2.2.2.2.2.2.2.2.2.2.2.2.1 i
    have b3 := hI.2.2.2.1.2
    have b4 := hI.2.2.2.2.1.2
    have b5 := hI.2.2.2.2.2.1.2
    simp only [upd] at *
    (repeat' split at hi) <;> (repeat' split) <;> first | omega | (have q2 := q (by omega); omega) | (have q3 := hI.2.1; omega) | (have q3 := hx i (by omega); omega)
  · have q := hI.2.2.2.2.2.2.2.2.2.2.2.2.2.2.2.1 i
    have b3 := hI.2.2.2.1.2
    have b4 := hI.2.2.2.2.1.2
    have b5 := hI.2.2.2.2.2.1.2
    simp only [upd] at *
    (repeat' split at hi) <;> (repeat' split) <;> first | omega | (have q2 := q (by omega); omega) | (have q3 := hI.2.1; omega) | (have q3 := hx i (by omega); omega)
  · have q := hI.2.2.2.2.2.2.2.2.2.2.2.2.2.2.2.2.1 i
    have b3 := hI.2.2.2.1.2
    have b4 := hI.2.2.2.2.1.2
    have b5 := hI.2.2.2.2.2.1.2
    simp only [upd] at *
    (repeat' split at hi) <;> (repeat' split) <;> first | omega | (have q2 := q (by omega); omega) | (have q3 := hI.2.1; omega) | (have q3 := hx i (by omega); omega)
  · have q := hI.2.2.2.2.2.2.2.2.2.2.2.2.2.2.2.2.2.1 i
    have b3 := hI.2.2.2.1.2
    have b4 := hI.2.2.2.2.1.2
    have b5 := hI.2.2.2.2.2.1.2
    simp only [upd] at *
    (repeat' split at hi) <;> (repeat' split) <;> first | omega | (have q2 := q (by omega); omega) | (have q3 := hI.2.1; omega) | (have q3 := hx i (by omega); omega)
  · have q := hI.2.2.2.2.2.2.2.2.2.2.2.2.2.2.2.2.2.2.1 i
    have b3 := hI.2.2.2.1.2
    have b4 := hI.2.2.2.2.1.2
    have b5 := hI.2.2.2.2.2.1.2
    simp only [upd] at *
    (repeat' split at hi) <;> (repeat' split) <;> first | omega | (have q2 := q (by omega); omega) | (have q3 := hI.2.1; omega) | (have q3 := hx i (by omega); omega)
  · have q := hI.2.2.2.2.2.2.2.2.2.2.2.2.2.2.2.2.2.2.2.1 i
    have b3 := hI.2.2.2.1.2
    have b4 := hI.2.2.2.2.1.2
    have b5 := hI.2.2.2.2.2.1.2
    simp only [upd] at *
    (repeat' split at hi) <;> (repeat' split) <;> first | omega | (have q2 := q (by omega); omega) | (have q3 := hI.2.1; omega) | (have q3 := hx i (by omega); omega)
  · have q := hI.2.2.2.2.2.2.2.2.2.2.2.2.2.2.2.2.2.2.2.2.1 i
    have b3 := hI.2.2.2.1.2
    have b4 := hI.2.2.2.2.1.2
    have b5 := hI.2.2.2.2.2.1.2
    simp only [upd] at *
    (repeat' split at hi) <;> (repeat' split) <;> first | omega | (have q2 := q (by omega); omega) | (have q3 := hI.2.1; omega) | (have q3 := hx i (by omega); omega)
  · have q := hI.2.2.2.2.2.2.2.2.2.2.2.2.2.2.2.2.2.2.2.2.2 i
    have b3 := hI.2.2.2.1.2
    have b4 := hI.2.2.2.2.1.2
    have b5 := hI.2.2.2.2.2.1.2
    simp only [upd] at *
    (repeat' split at hi) <;> (repeat' split) <;> first | omega | (have q2 := q (by omega); omega) | (have q3 := hI.2.1; omega) | (have q3 := hx i (by omega); omega)
theorem IB.c1 {f : Nat → Int32} (hI : IB f) {v : Int32} (h0 : (f 1).toInt ≤ v.toInt ∧ v.toInt ≤ 6) : IB (upd f 1 v) := by
  refine ⟨?_, ?_, ?_, ?_, ?_, ?_, ?_, ?_, ?_, fun i hi => ?_, fun i hi => ?_, fun i hi => ?_, fun i hi => ?_, fun i hi => ?_, fun i hi => ?_, fun i hi => ?_, fun i hi => ?_, fun i hi => ?_, fun i hi => ?_, fun i hi => ?_, fun i hi => ?_, fun i hi => ?_⟩
  · have q := hI.1
    have q2 := hI.2.2.1
    simp only [upd] at *
    (repeat' split) <;> omega
  · have q := hI.2.1
    have q2 := hI.2.2.1
    simp only [upd] at *
    (repeat' split) <;> omega
  · have q := hI.2.2.1
    have q2 := hI.2.2.1
    simp only [upd] at *
    (repeat' split) <;> omega
  · have q := hI.2.2.2.1
    have q2 := hI.2.2.1
    simp only [upd] at *
    (repeat' split) <;> omega
  · have q := hI.2.2.2.2.1
    have q2 := hI.2.2.1
    simp only [upd] at *
    (repeat' split) <;> omega
  · have q := hI.2.2.2.2.2.1
    have q2 := hI.2.2.1
    simp only [upd] at *
    (repeat' split) <;> omega
  · have q := hI.2.2.2.2.2.2.1
    have q2 := hI.2.2.1
    simp only [upd] at *
    (repeat' split) <;> omega
  · have q := hI.2.2.2.2.2.2.2.1
    have q2 := hI.2.2.1
    simp only [upd] at *
    (repeat' split) <;> omega
  · have q := hI.2.2.2.2.2.2.2.2.1
    have q2 := hI.2.2.1
    simp only [upd] at *
    (repeat' split) <;> omega
  · have q := hI.2.2.2.2.2.2.2.2.2.1 i
    have b3 := hI.2.2.2.1.2
    have b4 := hI.2.2.2.2.1.2
    have b5 := hI.2.2.2.2.2.1.2
    simp only [upd] at *
    (repeat' split at hi) <;> (repeat' split) <;> first | omega | (have q2 := q (by omega); omega) | (have q3 := hI.2.1; omega) | (have q3 := hx i (by omega); omega)
  · have q := hI.2.2.2.2.2.2.2.2.2.2.1 i
    have b3 := hI.2.2.2.1.2
    have b4 := hI.2.2.2.2.1.2
    have b5 := hI.2.2.2.2.2.1.2
    simp only [upd] at *
    (repeat' split at hi) <;> (repeat' split) <;> first | omega | (have q2 := q (by omega); omega) | (have q3 := hI.2.1; omega) | (have q3 := hx i (by omega); omega)
  · have q := hI.2.2.2.2.2.2.2.2.2.2.2.1 i
    have b3 := hI.2.2.2.1.2
    have b4 := hI.2.2.2.2.1.2
    have b5 := hI.2.2.2.2.2.1.2
    simp only [upd] at *
    (repeat' split at hi) <;> (repeat' split) <;> first | omega | (have q2 := q (by omega); omega) | (have q3 := hI.2.1; omega) | (have q3 := hx i (by omega); omega)
  · have q := hI.2.2.2.2.2.2.2.2.2.2.2.2.1 i
    have b3 := hI.2.2.2.1.2
    have b4 := hI.2.2.2.2.1.2
    have b5 := hI.2.2.2.2.2.1.2
    simp only [upd] at *
    (repeat' split at hi) <;> (repeat' split) <;> first | omega | (have q2 := q (by omega); omega) | (have q3 := hI.2.1; omega) | (have q3 := hx i (by omega); omega)
  · have q := hI.2.2.2.2.2.2.2.2.2.2.2.2.2.1 i
    have b3 := hI.2.2.2.1.2
    have b4 := hI.2.2.2.2.1.2
    have b5 := hI.2.2.2.2.2.1.2
    simp only [upd] at *
    (repeat' split at hi) <;> (repeat' split) <;> first | omega | (have q2 := q (by omega); omega) | (have q3 := hI.2.1; omega) | (have q3 := hx i (by omega); omega)
  · have q := hI.2.2.2.2.2.2.2.2.2.2.2.2.2.2.1 i
    have b3 := hI.2.2.2.1.2
    have b4 := hI.2.2.2.2.1.2
    have b5 := hI.2.2.2.2.2.1.2
    simp only [upd] at *
    (repeat' split at hi) <;> (repeat' split) <;> first | omega | (have q2 := q (by omega); omega) | (have q3 := hI.2.1; omega) | (have q3 := hx i (by omega); omega)
  · have q := hI.2.2.2.2.2.2.2.2.2.2.2.2.2.2.2.1 i
    have b3 := hI.2.2.2.1.2
    have b4 := hI.2.2.2.2.1.2
    have b5 := hI.2.2.2.2.2.1.2
    simp only [upd] at *
    (repeat' split at hi) <;> (repeat' split) <;> first | omega | (have q2 := q (by omega); omega) | (have q3 := hI.2.1; omega) | (have q3 := hx i (by omega); omega)
  · have q := hI.2.2.2.2.2.2.2.2.2.2.2.2.2.2.2.2.1 i
    have b3 := hI.2.2.2.1.2
    have b4 := hI.2.2.2.2.1.2
    have b5 := hI.2.2.2.2.2.1.2
    simp only [upd] at *
    (repeat' split at hi) <;> (repeat' split) <;> first | omega | (have q2 := q (by omega); omega) | (have q3 := hI.2.1; omega) | (have q3 := hx i (by omega); omega)
  · have q := hI.2.2.2.2.2.2.2.2.2.2.2.2.2.2.2.2.2.1 i
    have b3 := hI.2.2.2.1.2
    have b4 := hI.2.2.2.2.1.2
    have b5 := hI.2.2.2.2.2.1.2
    simp only [upd] at *
    (repeat' split at hi) <;> (repeat' split) <;> first | omega | (have q2 := q (by omega); omega) | (have q3 := hI.2.1; omega) | (have q3 := hx i (by omega); omega)
  · have q := hI.2.2.2.2.2.2.2.2.2.2.2.2.2.2.2.2.2.2.1 i
    have b3 := hI.2.2.2.1.2
    have b4 := hI.2.2.2.2.1.2
    have b5 := hI.2.2.2.2.2.1.2
    simp only [upd] at *
    (repeat' split at hi) <;> (repeat' split) <;> first | omega | (have q2 := q (by omega); omega) | (have q3 := hI.2.1; omega) | (have q3 := hx i (by omega); omega)
  · have q := hI.2.2.2.2.2.2.2.2.2.2.2.2.2.2.2.2.2.2.2.1 i
    have b3 := hI.2.2.2.1.2
    have b4 := hI.2.2.2.2.1.2
    have b5 := hI.2.2.2.2.2.1.2
    simp only [upd] at *
    (repeat' split at hi) <;> (repeat' split) <;> first | omega | (have q2 := q (by omega); omega) | (have q3 := hI.2.1; omega) | (have q3 := hx i (by omega); omega)
  · have q := hI.2.2.2.2.2.2.2.2.2.2.2.2.2.2.2.2.2.2.2.2.1 i
    have b3 := hI.2.2.2.1.2
    have b4 := hI.2.2.2.2.1.2
    have b5 := hI.2.2.2.2.2.1.2
    simp only [upd] at *
    (repeat' split at hi) <;> (repeat' split) <;> first | omega | (have q2 := q (by omega); omega) | (have q3 := hI.2.1; omega) | (have q3 := hx i (by omega); omega)
  · have q := hI.2.2.2.2.2.2.2.2.2.2.2.2.2.2.2.2.2.2.2.2.2 i
    have b3 := hI.2.2.2.1.2
    have b4 := hI.2.2.2.2.1.2
    have b5 := hI.2.2.2.2.2.1.2
    simp only [upd] at *
    (repeat' split at hi) <;> (repeat' split) <;> first | omega | (have q2 := q (by omega); omega) | (have q3 := hI.2.1; omega) | (have q3 := hx i (by omega); omega)
theorem IB.c3 {f : Nat → Int32} (hI : IB f) {v : Int32} (h0 : 0 ≤ v.toInt ∧ v.toInt ≤ 8) (hx : ∀ i : Nat, (i : Int) < v.toInt → 1 ≤ (f (71 + i)).toInt ∧ (f (71 + i)).toInt ≤ 99) : IB (upd f 3 v) := by
  refine ⟨?_, ?_, ?_, ?_, ?_, ?_, ?_, ?_, ?_, fun i hi => ?_, fun i hi => ?_, fun i hi => ?_, fun i hi => ?_, fun i hi => ?_, fun i hi => ?_, fun i hi => ?_, fun i hi => ?_, fun i hi => ?_, fun i hi => ?_, fun i hi => ?_, fun i hi => ?_, fun i hi => ?_⟩
  · have q := hI.1
    have q2 := hI.2.2.1
    simp only [upd] at *
    (repeat' split) <;> omega
  · have q := hI.2.1
    have q2 := hI.2.2.1
    simp only [upd] at *
    (repeat' split) <;> omega
  · have q := hI.2.2.1
    have q2 := hI.2.2.1
    simp only [upd] at *
    (repeat' split) <;> omega
  · have q := hI.2.2.2.1
    have q2 := hI.2.2.1
    simp only [upd] at *
    (repeat' split) <;> omega
  · have q := hI.2.2.2.2.1
    have q2 := hI.2.2.1
    simp only [upd] at *
    (repeat' split) <;> omega
  · have q := hI.2.2.2.2.2.1
    have q2 := hI.2.2.1
    simp only [upd] at *
    (repeat' split) <;> omega
  · have q := hI.2.2.2.2.2.2.1
    have q2 := hI.2.2.1
    simp only [upd] at *
    (repeat' split) <;> omega
  · have q := hI.2.2.2.2.2.2.2.1
    have q2 := hI.2.2.1
    simp only [upd] at *
    (repeat' split) <;> omega
  · have q := hI.2.2.2.2.2.2.2.2.1
    have q2 := hI.2.2.1
    simp only [upd] at *
    (repeat' split) <;> omega
  · have q := hI.2.2.2.2.2.2.2.2.2.1 i
    have b3 := hI.2.2.2.1.2
    have b4 := hI.2.2.2.2.1.2
    have b5 := hI.2.2.2.2.2.1.2
    simp only [upd] at *
    (repeat' split at hi) <;> (repeat' split) <;> first | omega | (have q2 := q (by omega); omega) | (have q3 := hI.2.1; omega) | (have q3 := hx i (by omega); omega)
  · have q := hI.2.2.2.2.2.2.2.2.2.2.1 i
    have b3 := hI.2.2.2.1.2
    have b4 := hI.2.2.2.2.1.2
    have b5 := hI.2.2.2.2.2.1.2
    simp only [upd] at *
    (repeat' split at hi) <;> (repeat' split) <;> first | omega | (have q2 := q (by omega); omega) | (have q3 := hI.2.1; omega) | (have q3 := hx i (by omega); omega)
  · have q := hI.2.2.2.2.2.2.2.2.2.2.2.1 i
    have b3 := hI.2.2.2.1.2
    have b4 := hI.2.2.2.2.1.2
    have b5 := hI.2.2.2.2.2.1.2
    simp only [upd] at *
    (repeat' split at hi) <;> (repeat' split) <;> first | omega | (have q2 := q (by omega); omega) | (have q3 := hI.2.1; omega) | (have q3 := hx i (by omega); omega)
  · have q := hI.2.2.2.2.2.2.2.2.2.2.2.2.1 i
    have b3 := hI.2.2.2.1.2
    have b4 := hI.2.2.2.2.1.2
    have b5 := hI.2.2.2.2.2.1.2
    simp only [upd] at *
    (repeat' split at hi) <;> (repeat' split) <;> first | omega | (have q2 := q (by omega); omega) | (have q3 := hI.2.1; omega) | (have q3 := hx i (by omega); omega)
  · have q := hI.2.2.2.2.2.2.2.2.2.2.2.2.2.1 i
    have b3 := hI.2.2.2.1.2
    have b4 := hI.2.2.2.2.1.2
    have b5 := hI.2.2.2.2.2.1.2
    simp only [upd] at *
    (repeat' split at hi) <;> (repeat' split) <;> first | omega | (have q2 := q (by omega); omega) | (have q3 := hI.2.1; omega) | (have q3 := hx i (by omega); omega)
  · have q := hI.2.2.2.2.2.2.2.2.2.2.2.2.2.2.1 i
    have b3 := hI.2.2.2.1.2
    have b4 := hI.2.2.2.2.1.2
    have b5 := hI.2.2.2.2.2.1.2
    simp only [upd] at *
    (repeat' split at hi) <;> (repeat' split) <;> first | omega | (have q2 := q (by omega); omega) | (have q3 := hI.2.1; omega) | (have q3 := hx i (by omega); omega)
  · have q := hI.2.2.2.2.2.2.2.2.2.2.2.2.2.2.2.1 i
    have b3 := hI.2.2.2.1.2
    have b4 := hI.2.2.2.2.1.2
    have b5 := hI.2.2.2.2.2.1.2
    simp only [upd] at *
    (repeat' split at hi) <;> (repeat' split) <;> first | omega | (have q2 := q (by omega); omega) | (have q3 := hI.2.1; omega) | (have q3 := hx i (by omega); omega)
  · have q := hI.2.2.2.2.2.2.2.2.2.2.2.2.2.2.2.2.1 i
    have b3 := hI.2.2.2.1.2
    have b4 := hI.2.2.2.2.1.2
    have b5 := hI.2.2.2.2.2.1.2
    simp only [upd] at *
    (repeat' split at hi) <;> (repeat' split) <;> first | omega | (have q2 := q (by omega); omega) | (have q3 := hI.2.1; omega) | (have q3 := hx i (by omega); omega)
  · have q := hI.2.2.2.2.2.2.2.2.2.2.2.2.2.2.2.2.2.1 i
    have b3 := hI.2.2.2.1.2
    have b4 := hI.2.2.2.2.1.2
    have b5 := hI.2.2.2.2.2.1.2
    simp only [upd] at *
    (repeat' split at hi) <;> (repeat' split) <;> first | omega | (have q2 := q (by omega); omega) | (have q3 := hI.2.1; omega) | (have q3 := hx i (by omega); omega)
  · have q := hI.2.2.2.2.2.2.2.2.2.2.2.2.2.2.2.2.2.2.1 i
    have b3 := hI.2.2.2.1.2
    have b4 := hI.2.2.2.2.1.2
    have b5 := hI.2.2.2.2.2.1.2
    simp only [upd] at *
    (repeat' split at hi) <;> (repeat' split) <;> first | omega | (have q2 := q (by omega); omega) | (have q3 := hI.2.1; omega) | (have q3 := hx i (by omega); omega)
  · have q := hI.2.2.2.2.2.2.2.2.2.2.2.2.2.2.2.2.2.2.2.1 i
    have b3 := hI.2.2.2.1.2
    have b4 := hI.2.2.2.2.1.2
    have b5 := hI.2.2.2.2.2.1.2
    simp only [upd] at *
    (repeat' split at hi) <;> (repeat' split) <;> first | omega | (have q2 := q (by omega); omega) | (have q3 := hI.2.1; omega) | (have q3 := hx i (by omega); omega)
  · have q := hI.2.2.2.2.2.2.2.2.2.2.2.2.2.2.2.2.2.2.2.2.1 i
    have b3 := hI.2.2.2.1.2
    have b4 := hI.2.2.2.2.1.2
    have b5 := hI.2.2.2.2.2.1.2
    simp only [upd] at *
    (repeat' split at hi) <;> (repeat' split) <;> first | omega | (have q2 := q (by omega); omega) | (have q3 := hI.2.1; omega) | (have q3 := hx i (by omega); omega)
  · have q := hI.2.2.2.2.2.2.2.2.2.2.2.2.2.2.2.2.2.2.2.2.2 i
    have b3 := hI.2.2.2.1.2
    have b4 := hI.2.2.2.2.1.2
    have b5 := hI.2.2.2.2.2.1.2
    simp only [upd] at *
    (repeat' split at hi) <;> (repeat' split) <;> first | omega | (have q2 := q (by omega); omega) | (have q3 := hI.2.1; omega) | (have q3 := hx i (by omega); omega)
theorem IB.c4 {f : Nat → Int32} (hI : IB f) {v : Int32} (h0 : 0 ≤ v.toInt ∧ v.toInt ≤ 6) (hx : ∀ i : Nat, (i : Int) < v.toInt → 1 ≤ (f (79 + i)).toInt ∧ (f (79 + i)).toInt ≤ 999) : IB (upd f 4 v) := by
  refine ⟨?_, ?_, ?_, ?_, ?_, ?_, ?_, ?_, ?_, fun i hi => ?_, fun i hi => ?_, fun i hi => ?_, fun i hi => ?_, fun i hi => ?_, fun i hi => ?_, fun i hi => ?_, fun i hi => ?_, fun i hi => ?_, fun i hi => ?_, fun i hi => ?_, fun i hi => ?_, fun i hi => ?_⟩
  · have q := hI.1
    have q2 := hI.2.2.1
    simp only [upd] at *
    (repeat' split) <;> omega
  · have q := hI.2.1
    have q2 := hI.2.2.1
    simp only [upd] at *
    (repeat' split) <;> omega
  · have q := hI.2.2.1
    have q2 := hI.2.2.1
    simp only [upd] at *
    (repeat' split) <;> omega
  · have q := hI.2.2.2.1
    have q2 := hI.2.2.1
    simp only [upd] at *
    (repeat' split) <;> omega
  · have q := hI.2.2.2.2.1
    have q2 := hI.2.2.1
    simp only [upd] at *
    (repeat' split) <;> omega
  · have q := hI.2.2.2.2.2.1
    have q2 := hI.2.2.1
    simp only [upd] at *
    (repeat' split) <;> omega
  · have q := hI.2.2.2.2.2.2.1
    have q2 := hI.2.2.1
    simp only [upd] at *
    (repeat' split) <;> omega
  · have q := hI.2.2.2.2.2.2.2.1
    have q2 := hI.2.2.1
    simp only [upd] at *
    (repeat' split) <;> omega
  · have q := hI.2.2.2.2.2.2.2.2.1
    have q2 := hI.2.2.1
    simp only [upd] at *
    (repeat' split) <;> omega
  · have q := hI.2.2.2.2.2.2.2.2.2.1 i
    have b3 := hI.2.2.2.1.2
    have b4 := hI.2.2.2.2.1.2
    have b5 := hI.2.2.2.2.2.1.2
    simp only [upd] at *
    (repeat' split at hi) <;> (repeat' split) <;> first | omega | (have q2 := q (by omega); omega) | (have q3 := hI.2.1; omega) | (have q3 := hx i (by omega); omega)
  · have q := hI.2.2.2.2.2.2.2.2.2.2.1 i
    have b3 := hI.2.2.2.1.2
    have b4 := hI.2.2.2.2.1.2
    have b5 := hI.2.2.2.2.2.1.2
    simp only [upd] at *
    (repeat' split at hi) <;> (repeat' split) <;> first | omega | (have q2 := q (by omega); omega) | (have q3 := hI.2.1; omega) | (have q3 := hx i (by omega); omega)
  · have q := hI.2.2.2.2.2.2.2.2.2.2.2.1 i
    have b3 := hI.2.2.2.1.2
    have b4 := hI.2.2.2.2.1.2
    have b5 := hI.2.2.2.2.2.1.2
    simp only [upd] at *
    (repeat' split at hi) <;> (repeat' split) <;> first | omega | (have q2 := q (by omega); omega) | (have q3 := hI.2.1; omega) | (have q3 := hx i (by omega); omega)
  · have q := hI.2.2.2.2.2.2.2.2.2.2.2.2.1 i
    have b3 := hI.2.2.2.1.2
    have b4 := hI.2.2.2.2.1.2
    have b5 := hI.2.2.2.2.2.1.2
    simp only [upd] at *
    (repeat' split at hi) <;> (repeat' split) <;> first | omega | (have q2 := q (by omega); omega) | (have q3 := hI.2.1; omega) | (have q3 := hx i (by omega); omega)
  · have q := hI.2.2.2.2.2.2.2.2.2.2.2.2.2.1 i
    have b3 := hI.2.2.2.1.2
    have b4 := hI.2.2.2.2.1.2
    have b5 := hI.2.2.2.2.2.1.2
    simp only [upd] at *
    (repeat' split at hi) <;> (repeat' split) <;> first | omega | (have q2 := q (by omega); omega) | (have q3 := hI.2.1; omega) | (have q3 := hx i (by omega); omega)
  · have q := hI.2.2.2.2.2.2.2.2.2.2.2.2.2.2.1 i
    have b3 := hI.2.2.2.1.2
    have b4 := hI.2.2.2.2.1.2
    have b5 := hI.2.2.2.2.2.1.2
    simp only [upd] at *
    (repeat' split at hi) <;> (repeat' split) <;> first | omega | (have q2 := q (by omega); omega) | (have q3 := hI.2.1; omega) | (have q3 := hx i (by omega); omega)
  · have q := hI.2.2.2.2.2.2.2.2.2.2.2.2.2.2.2.1 i
    have b3 := hI.2.2.2.1.2
    have b4 := hI.2.2.2.2.1.2
    have b5 := hI.2.2.2.2.2.1.2
    simp only [upd] at *
    (repeat' split at hi) <;> (repeat' split) <;> first | omega | (have q2 := q (by omega); omega) | (have q3 := hI.2.1; omega) | (have q3 := hx i (by omega); omega)
  · have q := hI.2.2.2.2.2.2.2.2.2.2.2.2.2.2.2.2.1 i
    have b3 := hI.2.2.2.1.2
    have b4 := hI.2.2.2.2.1.2
    have b5 := hI.2.2.2.2.2.1.2
    simp only [upd] at *
    (repeat' split at hi) <;> (repeat' split) <;> first | omega | (have q2 := q (by omega); omega) | (have q3 := hI.2.1; omega) | (have q3 := hx i (by omega); omega)
  · have q := hI.2.2.2.2.2.2.2.2.2.2.2.2.2.2.2.2.2.1 i
    have b3 := hI.2.2.2.1.2
    have b4 := hI.2.2.2.2.1.2
    have b5 := hI.2.2.2.2.2.1.2
    simp only [upd] at *
    (repeat' split at hi) <;> (repeat' split) <;> first | omega | (have q2 := q (by omega); omega) | (have q3 := hI.2.1; omega) | (have q3 := hx i (by omega); omega)
  · have q := hI.2.2.2.2.2.2.2.2.2.2.2.2.2.2.2.2.2.2.1 i
    have b3 := hI.2.2.2.1.2
    have b4 := hI.2.2.2.2.1.2
    have b5 := hI.2.2.2.2.2.1.2
    simp only [upd] at *
    (repeat' split at hi) <;> (repeat' split) <;> first | omega | (have q2 := q (by omega); omega) | (have q3 := hI.2.1; omega) | (have q3 := hx i (by omega); omega)
  · have q := hI.2.2.2.2.2.2.2.2.2.2.2.2.2.2.2.2.2.2.2.1 i
    have b3 := hI.2.2.2.1.2
    have b4 := hI.2.2.2.2.1.2
    have b5 := hI.2.2.2.2.2.1.2
    simp only [upd] at *
    (repeat' split at hi) <;> (repeat' split) <;> first | omega | (have q2 := q (by omega); omega) | (have q3 := hI.2.1; omega) | (have q3 := hx i (by omega); omega)
  · have q := hI.2.2.2.2.2.2.2.2.2.2.2.2.2.2.2.2.2.2.2.2.1 i
    have b3 := hI.2.2.2.1.2
    have b4 := hI.2.2.2.2.1.2
    have b5 := hI.2.2.2.2.2.1.2
    simp only [upd] at *
    (repeat' split at hi) <;> (repeat' split) <;> first | omega | (have q2 := q (by omega); omega) | (have q3 := hI.2.1; omega) | (have q3 := hx i (by omega); omega)
  · have q := hI.2.2.2.2.2.2.2.2.2.2.2.2.2.2.2.2.2.2.2.2.2 i
    have b3 := hI.2.2.2.1.2
    have b4 := hI.2.2.2.2.1.2
    have b5 := hI.2.2.2.2.2.1.2
    simp only [upd] at *
    (repeat' split at hi) <;> (repeat' split) <;> first | omega | (have q2 := q (by omega); omega) | (have q3 := hI.2.1; omega) | (have q3 := hx i (by omega); omega)
theorem IB.c5 {f : Nat → Int32} (hI : IB f) {v : Int32} (h0 : 0 ≤ v.toInt ∧ v.toInt ≤ 8) (hx : ∀ i : Nat, (i : Int) < v.toInt → (0 ≤ (f (85 + i)).toInt ∧ (f (85 + i)).toInt < (f 1).toInt) ∧ 0 ≤ (f (93 + i)).toInt ∧ (f (93 + i)).toInt ≤ 999) : IB (upd f 5 v) := by
  refine ⟨?_, ?_, ?_, ?_, ?_, ?_, ?_, ?_, ?_, fun i hi => ?_, fun i hi => ?_, fun i hi => ?_, fun i hi => ?_, fun i hi => ?_, fun i hi => ?_, fun i hi => ?_, fun i hi => ?_, fun i hi => ?_, fun i hi => ?_, fun i hi => ?_, fun i hi => ?_, fun i hi => ?_⟩
  · have q := hI.1
    have q2 := hI.2.2.1
    simp only [upd] at *
    (repeat' split) <;> omega
  · have q := hI.2.1
    have q2 := hI.2.2.1
    simp only [upd] at *
    (repeat' split) <;> omega
  · have q := hI.2.2.1
    have q2 := hI.2.2.1
    simp only [upd] at *
    (repeat' split) <;> omega
  · have q := hI.2.2.2.1
    have q2 := hI.2.2.1
    simp only [upd] at *
    (repeat' split) <;> omega
  · have q := hI.2.2.2.2.1
    have q2 := hI.2.2.1
    simp only [upd] at *
    (repeat' split) <;> omega
  · have q := hI.2.2.2.2.2.1
    have q2 := hI.2.2.1
    simp only [upd] at *
    (repeat' split) <;> omega
  · have q := hI.2.2.2.2.2.2.1
    have q2 := hI.2.2.1
    simp only [upd] at *
    (repeat' split) <;> omega
  · have q := hI.2.2.2.2.2.2.2.1
    have q2 := hI.2.2.1
    simp only [upd] at *
    (repeat' split) <;> omega
  · have q := hI.2.2.2.2.2.2.2.2.1
    have q2 := hI.2.2.1
    simp only [upd] at *
    (repeat' split) <;> omega
  · have q := hI.2.2.2.2.2.2.2.2.2.1 i
    have b3 := hI.2.2.2.1.2
    have b4 := hI.2.2.2.2.1.2
    have b5 := hI.2.2.2.2.2.1.2
    simp only [upd] at *
    (repeat' split at hi) <;> (repeat' split) <;> first | omega | (have q2 := q (by omega); omega) | (have q3 := hI.2.1; omega) | (have q3 := hx i (by omega); omega)
  · have q := hI.2.2.2.2.2.2.2.2.2.2.1 i
    have b3 := hI.2.2.2.1.2
    have b4 := hI.2.2.2.2.1.2
    have b5 := hI.2.2.2.2.2.1.2
    simp only [upd] at *
    (repeat' split at hi) <;> (repeat' split) <;> first | omega | (have q2 := q (by omega); omega) | (have q3 := hI.2.1; omega) | (have q3 := hx i (by omega); omega)
  · have q := hI.2.2.2.2.2.2.2.2.2.2.2.1 i
    have b3 := hI.2.2.2.1.2
    have b4 := hI.2.2.2.2.1.2
    have b5 := hI.2.2.2.2.2.1.2
    simp only [upd] at *
    (repeat' split at hi) <;> (repeat' split) <;> first | omega | (have q2 := q (by omega); omega) | (have q3 := hI.2.1; omega) | (have q3 := hx i (by omega); omega)
  · have q := hI.2.2.2.2.2.2.2.2.2.2.2.2.1 i
    have b3 := hI.2.2.2.1.2
    have b4 := hI.2.2.2.2.1.2
    have b5 := hI.2.2.2.2.2.1.2
    simp only [upd] at *
    (repeat' split at hi) <;> (repeat' split) <;> first | omega | (have q2 := q (by omega); omega) | (have q3 := hI.2.1; omega) | (have q3 := hx i (by omega); omega)
  · have q := hI.2.2.2.2.2.2.2.2.2.2.2.2.2.1 i
    have b3 := hI.2.2.2.1.2
    have b4 := hI.2.2.2.2.1.2
    have b5 := hI.2.2.2.2.2.1.2
    simp only [upd] at *
    (repeat' split at hi) <;> (repeat' split) <;> first | omega | (have q2 := q (by omega); omega) | (have q3 := hI.2.1; omega) | (have q3 := hx i (by omega); omega)
  · have q := hI.2.2.2.2.2.2.2.2.2.2.2.2.2.2.1 i
    have b3 := hI.2.2.2.1.2
    have b4 := hI.2.2.2.2.1.2
    have b5 := hI.2.2.2.2.2.1.2
    simp only [upd] at *
    (repeat' split at hi) <;> (repeat' split) <;> first | omega | (have q2 := q (by omega); omega) | (have q3 := hI.2.1; omega) | (have q3 := hx i (by omega); omega)
  · have q := hI.2.2.2.2.2.2.2.2.2.2.2.2.2.2.2.1 i
    have b3 := hI.2.2.2.1.2
    have b4 := hI.2.2.2.2.1.2
    have b5 := hI.2.2.2.2.2.1.2
    simp only [upd] at *
    (repeat' split at hi) <;> (repeat' split) <;> first | omega | (have q2 := q (by omega); omega) | (have q3 := hI.2.1; omega) | (have q3 := hx i (by omega); omega)
  · have q := hI.2.2.2.2.2.2.2.2.2.2.2.2.2.2.2.2.1 i
    have b3 := hI.2.2.2.1.2
    have b4 := hI.2.2.2.2.1.2
    have b5 := hI.2.2.2.2.2.1.2
    simp only [upd] at *
    (repeat' split at hi) <;> (repeat' split) <;> first | omega | (have q2 := q (by omega); omega) | (have q3 := hI.2.1; omega) | (have q3 := hx i (by omega); omega)
  · have q := hI.2.2.2.2.2.2.2.2.2.2.2.2.2.2.2.2.2.1 i
    have b3 := hI.2.2.2.1.2
    have b4 := hI.2.2.2.2.1.2
    have b5 := hI.2.2.2.2.2.1.2
    simp only [upd] at *
    (repeat' split at hi) <;> (repeat' split) <;> first | omega | (have q2 := q (by omega); omega) | (have q3 := hI.2.1; omega) | (have q3 := hx i (by omega); omega)
  · have q := hI.2.2.2.2.2.2.2.2.2.2.2.2.2.2.2.2.2.2.1 i
    have b3 := hI.2.2.2.1.2
    have b4 := hI.2.2.2.2.1.2
    have b5 := hI.2.2.2.2.2.1.2
    simp only [upd] at *
    (repeat' split at hi) <;> (repeat' split) <;> first | omega | (have q2 := q (by omega); omega) | (have q3 := hI.2.1; omega) | (have q3 := hx i (by omega); omega)
  · have q := hI.2.2.2.2.2.2.2.2.2.2.2.2.2.2.2.2.2.2.2.1 i
    have b3 := hI.2.2.2.1.2
    have b4 := hI.2.2.2.2.1.2
    have b5 := hI.2.2.2.2.2.1.2
    simp only [upd] at *
    (repeat' split at hi) <;> (repeat' split) <;> first | omega | (have q2 := q (by omega); omega) | (have q3 := hI.2.1; omega) | (have q3 := hx i (by omega); omega)
  · have q := hI.2.2.2.2.2.2.2.2.2.2.2.2.2.2.2.2.2.2.2.2.1 i
    have b3 := hI.2.2.2.1.2
    have b4 := hI.2.2.2.2.1.2
    have b5 := hI.2.2.2.2.2.1.2
    simp only [upd] at *
    (repeat' split at hi) <;> (repeat' split) <;> first | omega | (have q2 := q (by omega); omega) | (have q3 := hI.2.1; omega) | (have q3 := hx i (by omega); omega)
  · have q := hI.2.2.2.2.2.2.2.2.2.2.2.2.2.2.2.2.2.2.2.2.2 i
    have b3 := hI.2.2.2.1.2
    have b4 := hI.2.2.2.2.1.2
    have b5 := hI.2.2.2.2.2.1.2
    simp only [upd] at *
    (repeat' split at hi) <;> (repeat' split) <;> first | omega | (have q2 := q (by omega); omega) | (have q3 := hI.2.1; omega) | (have q3 := hx i (by omega); omega)
theorem IB.c6 {f : Nat → Int32} (hI : IB f) {v : Int32} (h0 : 0 ≤ v.toInt ∧ v.toInt ≤ 100) : IB (upd f 6 v) := by
  refine ⟨?_, ?_, ?_, ?_, ?_, ?_, ?_, ?_, ?_, fun i hi => ?_, fun i hi => ?_, fun i hi => ?_, fun i hi => ?_, fun i hi => ?_, fun i hi => ?_, fun i hi => ?_, fun i hi => ?_, fun i hi => ?_, fun i hi => ?_, fun i hi => ?_, fun i hi => ?_, fun i hi => ?_⟩
  · have q := hI.1
    have q2 := hI.2.2.1
    simp only [upd] at *
    (repeat' split) <;> omega
  · have q := hI.2.1
    have q2 := hI.2.2.1
    simp only [upd] at *
    (repeat' split) <;> omega
  · have q := hI.2.2.1
    have q2 := hI.2.2.1
    simp only [upd] at *
    (repeat' split) <;> omega
  · have q := hI.2.2.2.1
    have q2 := hI.2.2.1
    simp only [upd] at *
    (repeat' split) <;> omega
  · have q := hI.2.2.2.2.1
    have q2 := hI.2.2.1
    simp only [upd] at *
    (repeat' split) <;> omega
  · have q := hI.2.2.2.2.2.1
    have q2 := hI.2.2.1
    simp only [upd] at *
    (repeat' split) <;> omega
  · have q := hI.2.2.2.2.2.2.1
    have q2 := hI.2.2.1
    simp only [upd] at *
    (repeat' split) <;> omega
  · have q := hI.2.2.2.2.2.2.2.1
    have q2 := hI.2.2.1
    simp only [upd] at *
    (repeat' split) <;> omega
  · have q := hI.2.2.2.2.2.2.2.2.1
    have q2 := hI.2.2.1
    simp only [upd] at *
    (repeat' split) <;> omega
  · have q := hI.2.2.2.2.2.2.2.2.2.1 i
    have b3 := hI.2.2.2.1.2
    have b4 := hI.2.2.2.2.1.2
    have b5 := hI.2.2.2.2.2.1.2
    simp only [upd] at *
    (repeat' split at hi) <;> (repeat' split) <;> first | omega | (have q2 := q (by omega); omega) | (have q3 := hI.2.1; omega) | (have q3 := hx i (by omega); omega)
  · have q := hI.2.2.2.2.2.2.2.2.2.2.1 i
    have b3 := hI.2.2.2.1.2
    have b4 := hI.2.2.2.2.1.2
    have b5 := hI.2.2.2.2.2.1.2
    simp only [upd] at *
    (repeat' split at hi) <;> (repeat' split) <;> first | omega | (have q2 := q (by omega); omega) | (have q3 := hI.2.1; omega) | (have q3 := hx i (by omega); omega)
  · have q := hI.2.2.2.2.2.2.2.2.2.2.2.1 i
    have b3 := hI.2.2.2.1.2
    have b4 := hI.2.2.2.2.1.2
    have b5 := hI.2.2.2.2.2.1.2
    simp only [upd] at *
    (repeat' split at hi) <;> (repeat' split) <;> first | omega | (have q2 := q (by omega); omega) | (have q3 := hI.2.1; omega) | (have q3 := hx i (by omega); omega)
  · have q := hI.2.2.2.2.2.2.2.2.2.2.2.2.1 i
    have b3 := hI.2.2.2.1.2
    have b4 := hI.2.2.2.2.1.2
    have b5 := hI.2.2.2.2.2.1.2
    simp only [upd] at *
    (repeat' split at hi) <;> (repeat' split) <;> first | omega | (have q2 := q (by omega); omega) | (have q3 := hI.2.1; omega) | (have q3 := hx i (by omega); omega)
  · have q := hI.2.2.2.2.2.2.2.2.2.2.2.2.2.1 i
    have b3 := hI.2.2.2.1.2
    have b4 := hI.2.2.2.2.1.2
    have b5 := hI.2.2.2.2.2.1.2
    simp only [upd] at *
    (repeat' split at hi) <;> (repeat' split) <;> first | omega | (have q2 := q (by omega); omega) | (have q3 := hI.2.1; omega) | (have q3 := hx i (by omega); omega)
  · have q := hI.2.2.2.2.2.2.2.2.2.2.2.2.2.2.1 i
    have b3 := hI.2.2.2.1.2
    have b4 := hI.2.2.2.2.1.2
    have b5 := hI.2.2.2.2.2.1.2
    simp only [upd] at *
    (repeat' split at hi) <;> (repeat' split) <;> first | omega | (have q2 := q (by omega); omega) | (have q3 := hI.2.1; omega) | (have q3 := hx i (by omega); omega)
  · have q := hI.2.2.2.2.2.2.2.2.2.2.2.2.2.2.2.1 i
    have b3 := hI.2.2.2.1.2
    have b4 := hI.2.2.2.2.1.2
    have b5 := hI.2.2.2.2.2.1.2
    simp only [upd] at *
    (repeat' split at hi) <;> (repeat' split) <;> first | omega | (have q2 := q (by omega); omega) | (have q3 := hI.2.1; omega) | (have q3 := hx i (by omega); omega)
  · have q := hI.2.2.2.2.2.2.2.2.2.2.2.2.2.2.2.2.1 i
    have b3 := hI.2.2.2.1.2
    have b4 := hI.2.2.2.2.1.2
    have b5 := hI.2.2.2.2.2.1.2
    simp only [upd] at *
    (repeat' split at hi) <;> (repeat' split) <;> first | omega | (have q2 := q (by omega); omega) | (have q3 := hI.2.1; omega) | (have q3 := hx i (by omega); omega)
  · have q := hI.2.2.2.2.2.2.2.2.2.2.2.2.2.2.2.2.2.1 i
    have b3 := hI.2.2.2.1.2
    have b4 := hI.2.2.2.2.1.2
    have b5 := hI.2.2.2.2.2.1.2
    simp only [upd] at *
    (repeat' split at hi) <;> (repeat' split) <;> first | omega | (have q2 := q (by omega); omega) | (have q3 := hI.2.1; omega) | (have q3 := hx i (by omega); omega)
  · have q := hI.2.2.2.2.2.2.2.2.2.2.2.2.2.2.2.2.2.2.1 i
    have b3 := hI.2.2.2.1.2
    have b4 := hI.2.2.2.2.1.2
    have b5 := hI.2.2.2.2.2.1.2
    simp only [upd] at *
    (repeat' split at hi) <;> (repeat' split) <;> first | omega | (have q2 := q (by omega); omega) | (have q3 := hI.2.1; omega) | (have q3 := hx i (by omega); omega)
  · have q := hI.2.2.2.2.2.2.2.2.2.2.2.2.2.2.2.2.2.2.2.1 i
    have b3 := hI.2.2.2.1.2
    have b4 := hI.2.2.2.2.1.2
    have b5 := hI.2.2.2.2.2.1.2
    simp only [upd] at *
    (repeat' split at hi) <;> (repeat' split) <;> first | omega | (have q2 := q (by omega); omega) | (have q3 := hI.2.1; omega) | (have q3 := hx i (by omega); omega)
  · have q := hI.2.2.2.2.2.2.2.2.2.2.2.2.2.2.2.2.2.2.2.2.1 i
    have b3 := hI.2.2.2.1.2
    have b4 := hI.2.2.2.2.1.2
    have b5 := hI.2.2.2.2.2.1.2
    simp only [upd] at *
    (repeat' split at hi) <;> (repeat' split) <;> first | omega | (have q2 := q (by omega); omega) | (have q3 := hI.2.1; omega) | (have q3 := hx i (by omega); omega)
  · have q := hI.2.2.2.2.2.2.2.2.2.2.2.2.2.2.2.2.2.2.2.2.2 i
    have b3 := hI.2.2.2.1.2
    have b4 := hI.2.2.2.2.1.2
    have b5 := hI.2.2.2.2.2.1.2
    simp only [upd] at *
    (repeat' split at hi) <;> (repeat' split) <;> first | omega | (have q2 := q (by omega); omega) | (have q3 := hI.2.1; omega) | (have q3 := hx i (by omega); omega)
theorem IB.c8 {f : Nat → Int32} (hI : IB f) {v : Int32} (h0 : 0 ≤ v.toInt ∧ v.toInt ≤ 9930) : IB (upd f 8 v) := by
  refine ⟨?_, ?_, ?_, ?_, ?_, ?_, ?_, ?_, ?_, fun i hi => ?_, fun i hi => ?_, fun i hi => ?_, fun i hi => ?_, fun i hi => ?_, fun i hi => ?_, fun i hi => ?_, fun i hi => ?_, fun i hi => ?_, fun i hi => ?_, fun i hi => ?_, fun i hi => ?_, fun i hi => ?_⟩
  · have q := hI.1
    have q2 := hI.2.2.1
    simp only [upd] at *
    (repeat' split) <;> omega
  · have q := hI.2.1
    have q2 := hI.2.2.1
    simp only [upd] at *
    (repeat' split) <;> omega
  · have q := hI.2.2.1
    have q2 := hI.2.2.1
    simp only [upd] at *
    (repeat' split) <;> omega
  · have q := hI.2.2.2.1
    have q2 := hI.2.2.1
    simp only [upd] at *
    (repeat' split) <;> omega
  · have q := hI.2.2.2.2.1
    have q2 := hI.2.2.1
    simp only [upd] at *
    (repeat' split) <;> omega
  · have q := hI.2.2.2.2.2.1
    have q2 := hI.2.2.1
    simp only [upd] at *
    (repeat' split) <;> omega
  · have q := hI.2.2.2.2.2.2.1
    have q2 := hI.2.2.1
    simp only [upd] at *
    (repeat' split) <;> omega
  · have q := hI.2.2.2.2.2.2.2.1
    have q2 := hI.2.2.1
    simp only [upd] at *
    (repeat' split) <;> omega
  · have q := hI.2.2.2.2.2.2.2.2.1
    have q2 := hI.2.2.1
    simp only [upd] at *
    (repeat' split) <;> omega
  · have q := hI.2.2.2.2.2.2.2.2.2.1 i
    have b3 := hI.2.2.2.1.2
    have b4 := hI.2.2.2.2.1.2
    have b5 := hI.2.2.2.2.2.1.2
    simp only [upd] at *
    (repeat' split at hi) <;> (repeat' split) <;> first | omega | (have q2 := q (by omega); omega) | (have q3 := hI.2.1; omega) | (have q3 := hx i (by omega); omega)
  · have q := hI.2.2.2.2.2.2.2.2.2.2.1 i
    have b3 := hI.2.2.2.1.2
    have b4 := hI.2.2.2.2.1.2
    have b5 := hI.2.2.2.2.2.1.2
    simp only [upd] at *
    (repeat' split at hi) <;> (repeat' split) <;> first | omega | (have q2 := q (by omega); omega) | (have q3 := hI.2.1; omega) | (have q3 := hx i (by omega); omega)
  · have q := hI.2.2.2.2.2.2.2.2.2.2.2.1 i
    have b3 := hI.2.2.2.1.2
    have b4 := hI.2.2.2.2.1.2
    have b5 := hI.2.2.2.2.2.1.2
    simp only [upd] at *
    (repeat' split at hi) <;> (repeat' split) <;> first | omega | (have q2 := q (by omega); omega) | (have q3 := hI.2.1; omega) | (have q3 := hx i (by omega); omega)
  · have q := hI.2.2.2.2.2.2.2.2.2.2.2.2.1 i
    have b3 := hI.2.2.2.1.2
    have b4 := hI.2.2.2.2.1.2
    have b5 := hI.2.2.2.2.2.1.2
    simp only [upd] at *
    (repeat' split at hi) <;> (repeat' split) <;> first | omega | (have q2 := q (by omega); omega) | (have q3 := hI.2.1; omega) | (have q3 := hx i (by omega); omega)
  · have q := hI.2.2.2.2.2.2.2.2.2.2.2.2.2.1 i
    have b3 := hI.2.2.2.1.2
    have b4 := hI.2.2.2.2.1.2
    have b5 := hI.2.2.2.2.2.1.2
    simp only [upd] at *
    (repeat' split at hi) <;> (repeat' split) <;> first | omega | (have q2 := q (by omega); omega) | (have q3 := hI.2.1; omega) | (have q3 := hx i (by omega); omega)
  · have q := hI.2.2.2.2.2.2.2.2.2.2.2.2.2.2.1 i
    have b3 := hI.2.2.2.1.2
    have b4 := hI.2.2.2.2.1.2
    have b5 := hI.2.2.2.2.2.1.2
    simp only [upd] at *
    (repeat' split at hi) <;> (repeat' split) <;> first | omega | (have q2 := q (by omega); omega) | (have q3 := hI.2.1; omega) | (have q3 := hx i (by omega); omega)
  · have q := hI.2.2.2.2.2.2.2.2.2.2.2.2.2.2.2.1 i
    have b3 := hI.2.2.2.1.2
    have b4 := hI.2.2.2.2.1.2
    have b5 := hI.2.2.2.2.2.1.2
    simp only [upd] at *
    (repeat' split at hi) <;> (repeat' split) <;> first | omega | (have q2 := q (by omega); omega) | (have q3 := hI.2.1; omega) | (have q3 := hx i (by omega); omega)
  · have q := hI.2.2.2.2.2.2.2.2.2.2.2.2.2.2.2.2.1 i
    have b3 := hI.2.2.2.1.2
    have b4 := hI.2.2.2.2.1.2
    have b5 := hI.2.2.2.2.2.1.2
    simp only [upd] at *
    (repeat' split at hi) <;> (repeat' split) <;> first | omega | (have q2 := q (by omega); omega) | (have q3 := hI.2.1; omega) | (have q3 := hx i (by omega); omega)
  · have q := hI.2.2.2.2.2.2.2.2.2.2.2.2.2.2.2.2.2.1 i
    have b3 := hI.2.2.2.1.2
    have b4 := hI.2.2.2.2.1.2
    have b5 := hI.2.2.2.2.2.1.2
    simp only [upd] at *
    (repeat' split at hi) <;> (repeat' split) <;> first | omega | (have q2 := q (by omega); omega) | (have q3 := hI.2.1; omega) | (have q3 := hx i (by omega); omega)
  · have q := hI.2.2.2.2.2.2.2.2.2.2.2.2.2.2.2.2.2.2.1 i
    have b3 := hI.2.2.2.1.2
    have b4 := hI.2.2.2.2.1.2
    have b5 := hI.2.2.2.2.2.1.2
    simp only [upd] at *
    (repeat' split at hi) <;> (repeat' split) <;> first | omega | (have q2 := q (by omega); omega) | (have q3 := hI.2.1; omega) | (have q3 := hx i (by omega); omega)
  · have q := hI.2.2.2.2.2.2.2.2.2.2.2.2.2.2.2.2.2.2.2.1 i
    have b3 := hI.2.2.2.1.2
    have b4 := hI.2.2.2.2.1.2
    have b5 := hI.2.2.2.2.2.1.2
    simp only [upd] at *
    (repeat' split at hi) <;> (repeat' split) <;> first | omega | (have q2 := q (by omega); omega) | (have q3 := hI.2.1; omega) | (have q3 := hx i (by omega); omega)
  · have q := hI.2.2.2.2.2.2.2.2.2.2.2.2.2.2.2.2.2.2.2.2.1 i
    have b3 := hI.2.2.2.1.2
    have b4 := hI.2.2.2.2.1.2
    have b5 := hI.2.2.2.2.2.1.2
    simp only [upd] at *
    (repeat' split at hi) <;> (repeat' split) <;> first | omega | (have q2 := q (by omega); omega) | (have q3 := hI.2.1; omega) | (have q3 := hx i (by omega); omega)
  · have q := hI.2.2.2.2.2.2.2.2.2.2.2.2.2.2.2.2.2.2.2.2.2 i
    have b3 := hI.2.2.2.1.2
    have b4 := hI.2.2.2.2.1.2
    have b5 := hI.2.2.2.2.2.1.2
    simp only [upd] at *
    (repeat' split at hi) <;> (repeat' split) <;> first | omega | (have q2 := q (by omega); omega) | (have q3 := hI.2.1; omega) | (have q3 := hx i (by omega); omega)
theorem IB.way {f : Nat → Int32} (hI : IB f) {i0 : Nat} {v : Int32} (h0 : i0 < 8) (h1 : 0 ≤ v.toInt ∧ v.toInt ≤ 3) : IB (upd f (63 + i0) v) := by
  refine ⟨?_, ?_, ?_, ?_, ?_, ?_, ?_, ?_, ?_, fun i hi => ?_, fun i hi => ?_, fun i hi => ?_, fun i hi => ?_, fun i hi => ?_, fun i hi => ?_, fun i hi => ?_, fun i hi => ?_, fun i hi => ?_, fun i hi => ?_, fun i hi => ?_, fun i hi => ?_, fun i hi => ?_⟩
  · have q := hI.1
    have q2 := hI.2.2.1
    simp only [upd] at *
    (repeat' split) <;> omega
  · have q := hI.2.1
    have q2 := hI.2.2.1
    simp only [upd] at *
    (repeat' split) <;> omega
  · have q := hI.2.2.1
    have q2 := hI.2.2.1
    simp only [upd] at *
    (repeat' split) <;> omega
  · have q := hI.2.2.2.1
    have q2 := hI.2.2.1
    simp only [upd] at *
    (repeat' split) <;> omega
  · have q := hI.2.2.2.2.1
    have q2 := hI.2.2.1
    simp only [upd] at *
    (repeat' split) <;> omega
  · have q := hI.2.2.2.2.2.1
    have q2 := hI.2.2.1
    simp only [upd] at *
    (repeat' split) <;> omega
  · have q := hI.2.2.2.2.2.2.1
    have q2 := hI.2.2.1
    simp only [upd] at *
    (repeat' split) <;> omega
  · have q := hI.2.2.2.2.2.2.2.1
    have q2 := hI.2.2.1
    simp only [upd] at *
    (repeat' split) <;> omega
  · have q := hI.2.2.2.2.2.2.2.2.1
    have q2 := hI.2.2.1
    simp only [upd] at *
    (repeat' split) <;> omega
  · have q := hI.2.2.2.2.2.2.2.2.2.1 i
    have b3 := hI.2.2.2.1.2
    have b4 := hI.2.2.2.2.1.2
    have b5 := hI.2.2.2.2.2.1.2
    simp only [upd] at *
    (repeat' split at hi) <;> (repeat' split) <;> first | omega | (have q2 := q (by omega); omega) | (have q3 := hI.2.1; omega) | (have q3 := hx i (by omega); omega)
  · have q := hI.2.2.2.2.2.2.2.2.2.2.1 i
    have b3 := hI.2.2.2.1.2
    have b4 := hI.2.2.2.2.1.2
    have b5 := hI.2.2.2.2.2.1.2
    simp only [upd] at *
    (repeat' split at hi) <;> (repeat' split) <;> first | omega | (have q2 := q (by omega); omega) | (have q3 := hI.2.1; omega) | (have q3 := hx i (by omega); omega)
  · have q := hI.2.2.2.2.2.2.2.2.2.2.2.1 i
    have b3 := hI.2.2.2.1.2
    have b4 := hI.2.2.2.2.1.2
    have b5 := hI.2.2.2.2.2.1.2
    simp only [upd] at *
    (repeat' split at hi) <;> (repeat' split) <;> first | omega | (have q2 := q (by omega); omega) | (have q3 := hI.2.1; omega) | (have q3 := hx i (by omega); omega)
  · have q := hI.2.2.2.2.2.2.2.2.2.2.2.2.1 i
    have b3 := hI.2.2.2.1.2
    have b4 := hI.2.2.2.2.1.2
    have b5 := hI.2.2.2.2.2.1.2
    simp only [upd] at *
    (repeat' split at hi) <;> (repeat' split) <;> first | omega | (have q2 := q (by omega); omega) | (have q3 := hI.2.1; omega) | (have q3 := hx i (by omega); omega)
  · have q := hI.2.2.2.2.2.2.2.2.2.2.2.2.2.1 i
    have b3 := hI.2.2.2.1.2
    have b4 := hI.2.2.2.2.1.2
    have b5 := hI.2.2.2.2.2.1.2
    simp only [upd] at *
    (repeat' split at hi) <;> (repeat' split) <;> first | omega | (have q2 := q (by omega); omega) | (have q3 := hI.2.1; omega) | (have q3 := hx i (by omega); omega)
  · have q := hI.2.2.2.2.2.2.2.2.2.2.2.2.2.2.1 i
    have b3 := hI.2.2.2.1.2
    have b4 := hI.2.2.2.2.1.2
    have b5 := hI.2.2.2.2.2.1.2
    simp only [upd] at *
    (repeat' split at hi) <;> (repeat' split) <;> first | omega | (have q2 := q (by omega); omega) | (have q3 := hI.2.1; omega) | (have q3 := hx i (by omega); omega)
  · have q := hI.2.2.2.2.2.2.2.2.2.2.2.2.2.2.2.1 i
    have b3 := hI.2.2.2.1.2
    have b4 := hI.2.2.2.2.1.2
    have b5 := hI.2.2.2.2.2.1.2
    simp only [upd] at *
    (repeat' split at hi) <;> (repeat' split) <;> first | omega | (have q2 := q (by omega); omega) | (have q3 := hI.2.1; omega) | (have q3 := hx i (by omega); omega)
  · have q := hI.2.2.2.2.2.2.2.2.2.2.2.2.2.2.2.2.1 i
    have b3 := hI.2.2.2.1.2
    have b4 := hI.2.2.2.2.1.2
    have b5 := hI.2.2.2.2.2.1.2
    simp only [upd] at *
    (repeat' split at hi) <;> (repeat' split) <;> first | omega | (have q2 := q (by omega); omega) | (have q3 := hI.2.1; omega) | (have q3 := hx i (by omega); omega)
  · have q := hI.2.2.2.2.2.2.2.2.2.2.2.2.2.2.2.2.2.1 i
    have b3 := hI.2.2.2.1.2
    have b4 := hI.2.2.2.2.1.2
    have b5 := hI.2.2.2.2.2.1.2
    simp only [upd] at *
    (repeat' split at hi) <;> (repeat' split) <;> first | omega | (have q2 := q (by omega); omega) | (have q3 := hI.2.1; omega) | (have q3 := hx i (by omega); omega)
  · have q := hI.2.2.2.2.2.2.2.2.2.2.2.2.2.2.2.2.2.2.1 i
    have b3 := hI.2.2.2.1.2
    have b4 := hI.2.2.2.2.1.2
    have b5 := hI.2.2.2.2.2.1.2
    simp only [upd] at *
    (repeat' split at hi) <;> (repeat' split) <;> first | omega | (have q2 := q (by omega); omega) | (have q3 := hI.2.1; omega) | (have q3 := hx i (by omega); omega)
  · have q := hI.2.2.2.2.2.2.2.2.2.2.2.2.2.2.2.2.2.2.2.1 i
    have b3 := hI.2.2.2.1.2
    have b4 := hI.2.2.2.2.1.2
    have b5 := hI.2.2.2.2.2.1.2
    simp only [upd] at *
    (repeat' split at hi) <;> (repeat' split) <;> first | omega | (have q2 := q (by omega); omega) | (have q3 := hI.2.1; omega) | (have q3 := hx i (by omega); omega)
  · have q := hI.2.2.2.2.2.2.2.2.2.2.2.2.2.2.2.2.2.2.2.2.1 i
    have b3 := hI.2.2.2.1.2
    have b4 := hI.2.2.2.2.1.2
    have b5 := hI.2.2.2.2.2.1.2
    simp only [upd] at *
    (repeat' split at hi) <;> (repeat' split) <;> first | omega | (have q2 := q (by omega); omega) | (have q3 := hI.2.1; omega) | (have q3 := hx i (by omega); omega)
  · have q := hI.2.2.2.2.2.2.2.2.2.2.2.2.2.2.2.2.2.2.2.2.2 i
    have b3 := hI.2.2.2.1.2
    have b4 := hI.2.2.2.2.1.2
    have b5 := hI.2.2.2.2.2.1.2
    simp only [upd] at *
    (repeat' split at hi) <;> (repeat' split) <;> first | omega | (have q2 := q (by omega); omega) | (have q3 := hI.2.1; omega) | (have q3 := hx i (by omega); omega)
theorem IB.leng {f : Nat → Int32} (hI : IB f) {i0 : Nat} {v : Int32} (h0 : i0 < 8) (h1 : 1 ≤ v.toInt ∧ v.toInt ≤ 99) : IB (upd f (71 + i0) v) := by
  refine ⟨?_, ?_, ?_, ?_, ?_, ?_, ?_, ?_, ?_, fun i hi => ?_, fun i hi => ?_, fun i hi => ?_, fun i hi => ?_, fun i hi => ?_, fun i hi => ?_, fun i hi => ?_, fun i hi => ?_, fun i hi => ?_, fun i hi => ?_, fun i hi => ?_, fun i hi => ?_, fun i hi => ?_⟩
  · have q := hI.1
    have q2 := hI.2.2.1
    simp only [upd] at *
    (repeat' split) <;> omega
  · have q := hI.2.1
    have q2 := hI.2.2.1
    simp only [upd] at *
    (repeat' split) <;> omega
  · have q := hI.2.2.1
    have q2 := hI.2.2.1
    simp only [upd] at *
    (repeat' split) <;> omega
  · have q := hI.2.2.2.1
    have q2 := hI.2.2.1
    simp only [upd] at *
    (repeat' split) <;> omega
  · have q := hI.2.2.2.2.1
    have q2 := hI.2.2.1
    simp only [upd] at *
    (repeat' split) <;> omega
  · have q := hI.2.2.2.2.2.1
    have q2 := hI.2.2.1
    simp only [upd] at *
    (repeat' split) <;> omega
  · have q := hI.2.2.2.2.2.2.1
    have q2 := hI.2.2.1
    simp only [upd] at *
    (repeat' split) <;> omega
  · have q := hI.2.2.2.2.2.2.2.1
    have q2 := hI.2.2.1
    simp only [upd] at *
    (repeat' split) <;> omega
  · have q := hI.2.2.2.2.2.2.2.2.1
    have q2 := hI.2.2.1
    simp only [upd] at *
    (repeat' split) <;> omega
  · have q := hI.2.2.2.2.2.2.2.2.2.1 i
    have b3 := hI.2.2.2.1.2
    have b4 := hI.2.2.2.2.1.2
    have b5 := hI.2.2.2.2.2.1.2
    simp only [upd] at *
    (repeat' split at hi) <;> (repeat' split) <;> first | omega | (have q2 := q (by omega); omega) | (have q3 := hI.2.1; omega) | (have q3 := hx i (by omega); omega)
  · have q := hI.2.2.2.2.2.2.2.2.2.2.1 i
    have b3 := hI.2.2.2.1.2
    have b4 := hI.2.2.2.2.1.2
    have b5 := hI.2.2.2.2.2.1.2
    simp only [upd] at *
    (repeat' split at hi) <;> (repeat' split) <;> first | omega | (have q2 := q (by omega); omega) | (have q3 := hI.2.1; omega) | (have q3 := hx i (by omega); omega)
  · have q := hI.2.2.2.2.2.2.2.2.2.2.2.1 i
    have b3 := hI.2.2.2.1.2
    have b4 := hI.2.2.2.2.1.2
    have b5 := hI.2.2.2.2.2.1.2
    simp only [upd] at *
    (repeat' split at hi) <;> (repeat' split) <;> first | omega | (have q2 := q (by omega); omega) | (have q3 := hI.2.1; omega) | (have q3 := hx i (by omega); omega)
  · have q := hI.2.2.2.2.2.2.2.2.2.2.2.2.1 i
    have b3 := hI.2.2.2.1.2
    have b4 := hI.2.2.2.2.1.2
    have b5 := hI.2.2.2.2.2.1.2
    simp only [upd] at *
    (repeat' split at hi) <;> (repeat' split) <;> first | omega | (have q2 := q (by omega); omega) | (have q3 := hI.2.1; omega) | (have q3 := hx i (by omega); omega)
  · have q := hI.2.2.2.2.2.2.2.2.2.2.2.2.2.1 i
    have b3 := hI.2.2.2.1.2
    have b4 := hI.2.2.2.2.1.2
    have b5 := hI.2.2.2.2.2.1.2
    simp only [upd] at *
    (repeat' split at hi) <;> (repeat' split) <;> first | omega | (have q2 := q (by omega); omega) | (have q3 := hI.2.1; omega) | (have q3 := hx i (by omega); omega)
  · have q := hI.2.2.2.2.2.2.2.2.2.2.2.2.2.2.1 i
    have b3 := hI.2.2.2.1.2
    have b4 := hI.2.2.2.2.1.2
    have b5 := hI.2.2.2.2.2.1.2
    simp only [upd] at *
    (repeat' split at hi) <;> (repeat' split) <;> first | omega | (have q2 := q (by omega); omega) | (have q3 := hI.2.1; omega) | (have q3 := hx i (by omega); omega)
  · have q := hI.2.2.2.2.2.2.2.2.2.2.2.2.2.2.2.1 i
    have b3 := hI.2.2.2.1.2
    have b4 := hI.2.2.2.2.1.2
    have b5 := hI.2.2.2.2.2.1.2
    simp only [upd] at *
    (repeat' split at hi) <;> (repeat' split) <;> first | omega | (have q2 := q (by omega); omega) | (have q3 := hI.2.1; omega) | (have q3 := hx i (by omega); omega)
  · have q := hI.2.2.2.2.2.2.2.2.2.2.2.2.2.2.2.2.1 i
    have b3 := hI.2.2.2.1.2
    have b4 := hI.2.2.2.2.1.2
    have b5 := hI.2.2.2.2.2.1.2
    simp only [upd] at *
    (repeat' split at hi) <;> (repeat' split) <;> first | omega | (have q2 := q (by omega); omega) | (have q3 := hI.2.1; omega) | (have q3 := hx i (by omega); omega)
  · have q := hI.2.2.2.2.2.2.2.2.2.2.2.2.2.2.2.2.2.1 i
    have b3 := hI.2.2.2.1.2
    have b4 := hI.2.2.2.2.1.2
    have b5 := hI.2.2.2.2.2.1.2
    simp only [upd] at *
    (repeat' split at hi) <;> (repeat' split) <;> first | omega | (have q2 := q (by omega); omega) | (have q3 := hI.2.1; omega) | (have q3 := hx i (by omega); omega)
  · have q := hI.2.2.2.2.2.2.2.2.2.2.2.2.2.2.2.2.2.2.1 i
    have b3 := hI.2.2.2.1.2
    have b4 := hI.2.2.2.2.1.2
    have b5 := hI.2.2.2.2.2.1.2
    simp only [upd] at *
    (repeat' split at hi) <;> (repeat' split) <;> first | omega | (have q2 := q (by omega); omega) | (have q3 := hI.2.1; omega) | (have q3 := hx i (by omega); omega)
  · have q := hI.2.2.2.2.2.2.2.2.2.2.2.2.2.2.2.2.2.2.2.1 i
    have b3 := hI.2.2.2.1.2
    have b4 := hI.2.2.2.2.1.2
    have b5 := hI.2.2.2.2.2.1.2
    simp only [upd] at *
    (repeat' split at hi) <;> (repeat' split) <;> first | omega | (have q2 := q (by omega); omega) | (have q3 := hI.2.1; omega) | (have q3 := hx i (by omega); omega)
  · have q := hI.2.2.2.2.2.2.2.2.2.2.2.2.2.2.2.2.2.2.2.2.1 i
    have b3 := hI.2.2.2.1.2
    have b4 := hI.2.2.2.2.1.2
    have b5 := hI.2.2.2.2.2.1.2
    simp only [upd] at *
    (repeat' split at hi) <;> (repeat' split) <;> first | omega | (have q2 := q (by omega); omega) | (have q3 := hI.2.1; omega) | (have q3 := hx i (by omega); omega)
  · have q := hI.2.2.2.2.2.2.2.2.2.2.2.2.2.2.2.2.2.2.2.2.2 i
    have b3 := hI.2.2.2.1.2
    have b4 := hI.2.2.2.2.1.2
    have b5 := hI.2.2.2.2.2.1.2
    simp only [upd] at *
    (repeat' split at hi) <;> (repeat' split) <;> first | omega | (have q2 := q (by omega); omega) | (have q3 := hI.2.1; omega) | (have q3 := hx i (by omega); omega)
theorem IB.mrk {f : Nat → Int32} (hI : IB f) {i0 : Nat} {v : Int32} (h0 : i0 < 6) (h1 : 1 ≤ v.toInt ∧ v.toInt ≤ 999) : IB (upd f (79 + i0) v) := by
  refine ⟨?_, ?_, ?_, ?_, ?_, ?_, ?_, ?_, ?_, fun i hi => ?_, fun i hi => ?_, fun i hi => ?_, fun i hi => ?_, fun i hi => ?_, fun i hi => ?_, fun i hi => ?_, fun i hi => ?_, fun i hi => ?_, fun i hi => ?_, fun i hi => ?_, fun i hi => ?_, fun i hi => ?_⟩
  · have q := hI.1
    have q2 := hI.2.2.1
    simp only [upd] at *
    (repeat' split) <;> omega
  · have q := hI.2.1
    have q2 := hI.2.2.1
    simp only [upd] at *
    (repeat' split) <;> omega
  · have q := hI.2.2.1
    have q2 := hI.2.2.1
    simp only [upd] at *
    (repeat' split) <;> omega
  · have q := hI.2.2.2.1
    have q2 := hI.2.2.1
    simp only [upd] at *
    (repeat' split) <;> omega
  · have q := hI.2.2.2.2.1
    have q2 := hI.2.2.1
    simp only [upd] at *
    (repeat' split) <;> omega
  · have q := hI.2.2.2.2.2.1
    have q2 := hI.2.2.1
    simp only [upd] at *
    (repeat' split) <;> omega
  · have q := hI.2.2.2.2.2.2.1
    have q2 := hI.2.2.1
    simp only [upd] at *
    (repeat' split) <;> omega
  · have q := hI.2.2.2.2.2.2.2.1
    have q2 := hI.2.2.1
    simp only [upd] at *
    (repeat' split) <;> omega
  · have q := hI.2.2.2.2.2.2.2.2.1
    have q2 := hI.2.2.1
    simp only [upd] at *
    (repeat' split) <;> omega
  · have q := hI.2.2.2.2.2.2.2.2.2.1 i
    have b3 := hI.2.2.2.1.2
    have b4 := hI.2.2.2.2.1.2
    have b5 := hI.2.2.2.2.2.1.2
    simp only [upd] at *
    (repeat' split at hi) <;> (repeat' split) <;> first | omega | (have q2 := q (by omega); omega) | (have q3 := hI.2.1; omega) | (have q3 := hx i (by omega); omega)
  · have q := hI.2.2.2.2.2.2.2.2.2.2.1 i
    have b3 := hI.2.2.2.1.2
    have b4 := hI.2.2.2.2.1.2
    have b5 := hI.2.2.2.2.2.1.2
    simp only [upd] at *
    (repeat' split at hi) <;> (repeat' split) <;> first | omega | (have q2 := q (by omega); omega) | (have q3 := hI.2.1; omega) | (have q3 := hx i (by omega); omega)
  · have q := hI.2.2.2.2.2.2.2.2.2.2.2.1 i
    have b3 := hI.2.2.2.1.2
    have b4 := hI.2.2.2.2.1.2
    have b5 := hI.2.2.2.2.2.1.2
    simp only [upd] at *
    (repeat' split at hi) <;> (repeat' split) <;> first | omega | (have q2 := q (by omega); omega) | (have q3 := hI.2.1; omega) | (have q3 := hx i (by omega); omega)
  · have q := hI.2.2.2.2.2.2.2.2.2.2.2.2.1 i
    have b3 := hI.2.2.2.1.2
    have b4 := hI.2.2.2.2.1.2
    have b5 := hI.2.2.2.2.2.1.2
    simp only [upd] at *
    (repeat' split at hi) <;> (repeat' split) <;> first | omega | (have q2 := q (by omega); omega) | (have q3 := hI.2.1; omega) | (have q3 := hx i (by omega); omega)
  · have q := hI.2.2.2.2.2.2.2.2.2.2.2.2.2.1 i
    have b3 := hI.2.2.2.1.2
    have b4 := hI.2.2.2.2.1.2
    have b5 := hI.2.2.2.2.2.1.2
    simp only [upd] at *
    (repeat' split at hi) <;> (repeat' split) <;> first | omega | (have q2 := q (by omega); omega) | (have q3 := hI.2.1; omega) | (have q3 := hx i (by omega); omega)
  · have q := hI.2.2.2.2.2.2.2.2.2.2.2.2.2.2.1 i
    have b3 := hI.2.2.2.1.2
    have b4 := hI.2.2.2.2.1.2
    have b5 := hI.2.2.2.2.2.1.2
    simp only [upd] at *
    (repeat' split at hi) <;> (repeat' split) <;> first | omega | (have q2 := q (by omega); omega) | (have q3 := hI.2.1; omega) | (have q3 := hx i (by omega); omega)
  · have q := hI.2.2.2.2.2.2.2.2.2.2.2.2.2.2.2.1 i
    have b3 := hI.2.2.2.1.2
    have b4 := hI.2.2.2.2.1.2
    have b5 := hI.2.2.2.2.2.1.2
    simp only [upd] at *
    (repeat' split at hi) <;> (repeat' split) <;> first | omega | (have q2 := q (by omega); omega) | (have q3 := hI.2.1; omega) | (have q3 := hx i (by omega); omega)
  · have q := hI.2.2.2.2.2.2.2.2.2.2.2.2.2.2.2.2.1 i
    have b3 := hI.2.2.2.1.2
    have b4 := hI.2.2.2.2.1.2
    have b5 := hI.2.2.2.2.2.1.2
    simp only [upd] at *
    (repeat' split at hi) <;> (repeat' split) <;> first | omega | (have q2 := q (by omega); omega) | (have q3 := hI.2.1; omega) | (have q3 := hx i (by omega); omega)
  · have q := hI.2.2.2.2.2.2.2.2.2.2.2.2.2.2.2.2.2.1 i
    have b3 := hI.2.2.2.1.2
    have b4 := hI.2.2.2.2.1.2
    have b5 := hI.2.2.2.2.2.1.2
    simp only [upd] at *
    (repeat' split at hi) <;> (repeat' split) <;> first | omega | (have q2 := q (by omega); omega) | (have q3 := hI.2.1; omega) | (have q3 := hx i (by omega); omega)
  · have q := hI.2.2.2.2.2.2.2.2.2.2.2.2.2.2.2.2.2.2.1 i
    have b3 := hI.2.2.2.1.2
    have b4 := hI.2.2.2.2.1.2
    have b5 := hI.2.2.2.2.2.1.2
    simp only [upd] at *
    (repeat' split at hi) <;> (repeat' split) <;> first | omega | (have q2 := q (by omega); omega) | (have q3 := hI.2.1; omega) | (have q3 := hx i (by omega); omega)
  · have q := hI.2.2.2.2.2.2.2.2.2.2.2.2.2.2.2.2.2.2.2.1 i
    have b3 := hI.2.2.2.1.2
    have b4 := hI.2.2.2.2.1.2
    have b5 := hI.2.2.2.2.2.1.2
    simp only [upd] at *
    (repeat' split at hi) <;> (repeat' split) <;> first | omega | (have q2 := q (by omega); omega) | (have q3 := hI.2.1; omega) | (have q3 := hx i (by omega); omega)
  · have q := hI.2.2.2.2.2.2.2.2.2.2.2.2.2.2.2.2.2.2.2.2.1 i
    have b3 := hI.2.2.2.1.2
    have b4 := hI.2.2.2.2.1.2
    have b5 := hI.2.2.2.2.2.1.2
    simp only [upd] at *
    (repeat' split at hi) <;> (repeat' split) <;> first | omega | (have q2 := q (by omega); omega) | (have q3 := hI.2.1; omega) | (have q3 := hx i (by omega); omega)
  · have q := hI.2.2.2.2.2.2.2.2.2.2.2.2.2.2.2.2.2.2.2.2.2 i
    have b3 := hI.2.2.2.1.2
    have b4 := hI.2.2.2.2.1.2
    have b5 := hI.2.2.2.2.2.1.2
    simp only [upd] at *
    (repeat' split at hi) <;> (repeat' split) <;> first | omega | (have q2 := q (by omega); omega) | (have q3 := hI.2.1; omega) | (have q3 := hx i (by omega); omega)
theorem IB.bkw {f : Nat → Int32} (hI : IB f) {i0 : Nat} {v : Int32} (h0 : i0 < 8) (h1 : 0 ≤ v.toInt ∧ v.toInt < (f 1).toInt) : IB (upd f (85 + i0) v) := by
  refine ⟨?_, ?_, ?_, ?_, ?_, ?_, ?_, ?_, ?_, fun i hi => ?_, fun i hi => ?_, fun i hi => ?_, fun i hi => ?_, fun i hi => ?_, fun i hi => ?_, fun i hi => ?_, fun i hi => ?_, fun i hi => ?_, fun i hi => ?_, fun i hi => ?_, fun i hi => ?_, fun i hi => ?_⟩
  · have q := hI.1
    have q2 := hI.2.2.1
    simp only [upd] at *
    (repeat' split) <;> omega
  · have q := hI.2.1
    have q2 := hI.2.2.1
    simp only [upd] at *
    (repeat' split) <;> omega
  · have q := hI.2.2.1
    have q2 := hI.2.2.1
    simp only [upd] at *
    (repeat' split) <;> omega
  · have q := hI.2.2.2.1
    have q2 := hI.2.2.1
    simp only [upd] at *
    (repeat' split) <;> omega
  · have q := hI.2.2.2.2.1
    have q2 := hI.2.2.1
    simp only [upd] at *
    (repeat' split) <;> omega
  · have q := hI.2.2.2.2.2.1
    have q2 := hI.2.2.1
    simp only [upd] at *
    (repeat' split) <;> omega
  · have q := hI.2.2.2.2.2.2.1
    have q2 := hI.2.2.1
    simp only [upd] at *
    (repeat' split) <;> omega
  · have q := hI.2.2.2.2.2.2.2.1
    have q2 := hI.2.2.1
    simp only [upd] at *
    (repeat' split) <;> omega
  · have q := hI.2.2.2.2.2.2.2.2.1
    have q2 := hI.2.2.1
    simp only [upd] at *
    (repeat' split) <;> omega
  · have q := hI.2.2.2.2.2.2.2.2.2.1 i
    have b3 := hI.2.2.2.1.2
    have b4 := hI.2.2.2.2.1.2
    have b5 := hI.2.2.2.2.2.1.2
    simp only [upd] at *
    (repeat' split at hi) <;> (repeat' split) <;> first | omega | (have q2 := q (by omega); omega) | (have q3 := hI.2.1; omega) | (have q3 := hx i (by omega); omega)
  · have q := hI.2.2.2.2.2.2.2.2.2.2.1 i
    have b3 := hI.2.2.2.1.2
    have b4 := hI.2.2.2.2.1.2
    have b5 := hI.2.2.2.2.2.1.2
    simp only [upd] at *
    (repeat' split at hi) <;> (repeat' split) <;> first | omega | (have q2 := q (by omega); omega) | (have q3 := hI.2.1; omega) | (have q3 := hx i (by omega); omega)
  · have q := hI.2.2.2.2.2.2.2.2.2.2.2.1 i
    have b3 := hI.2.2.2.1.2
    have b4 := hI.2.2.2.2.1.2
    have b5 := hI.2.2.2.2.2.1.2
    simp only [upd] at *
    (repeat' split at hi) <;> (repeat' split) <;> first | omega | (have q2 := q (by omega); omega) | (have q3 := hI.2.1; omega) | (have q3 := hx i (by omega); omega)
  · have q := hI.2.2.2.2.2.2.2.2.2.2.2.2.1 i
    have b3 := hI.2.2.2.1.2
    have b4 := hI.2.2.2.2.1.2
    have b5 := hI.2.2.2.2.2.1.2
    simp only [upd] at *
    (repeat' split at hi) <;> (repeat' split) <;> first | omega | (have q2 := q (by omega); omega) | (have q3 := hI.2.1; omega) | (have q3 := hx i (by omega); omega)
  · have q := hI.2.2.2.2.2.2.2.2.2.2.2.2.2.1 i
    have b3 := hI.2.2.2.1.2
    have b4 := hI.2.2.2.2.1.2
    have b5 := hI.2.2.2.2.2.1.2
    simp only [upd] at *
    (repeat' split at hi) <;> (repeat' split) <;> first | omega | (have q2 := q (by omega); omega) | (have q3 := hI.2.1; omega) | (have q3 := hx i (by omega); omega)
  · have q := hI.2.2.2.2.2.2.2.2.2.2.2.2.2.2.1 i
    have b3 := hI.2.2.2.1.2
    have b4 := hI.2.2.2.2.1.2
    have b5 := hI.2.2.2.2.2.1.2
    simp only [upd] at *
    (repeat' split at hi) <;> (repeat' split) <;> first | omega | (have q2 := q (by omega); omega) | (have q3 := hI.2.1; omega) | (have q3 := hx i (by omega); omega)
  · have q := hI.2.2.2.2.2.2.2.2.2.2.2.2.2.2.2.1 i
    have b3 := hI.2.2.2.1.2
    have b4 := hI.2.2.2.2.1.2
    have b5 := hI.2.2.2.2.2.1.2
    simp only [upd] at *
    (repeat' split at hi) <;> (repeat' split) <;> first | omega | (have q2 := q (by omega); omega) | (have q3 := hI.2.1; omega) | (have q3 := hx i (by omega); omega)
  · have q := hI.2.2.2.2.2.2.2.2.2.2.2.2.2.2.2.2.1 i
    have b3 := hI.2.2.2.1.2
    have b4 := hI.2.2.2.2.1.2
    have b5 := hI.2.2.2.2.2.1.2
    simp only [upd] at *
    (repeat' split at hi) <;> (repeat' split) <;> first | omega | (have q2 := q (by omega); omega) | (have q3 := hI.2.1; omega) | (have q3 := hx i (by omega); omega)
  · have q := hI.2.2.2.2.2.2.2.2.2.2.2.2.2.2.2.2.2.1 i
    have b3 := hI.2.2.2.1.2
    have b4 := hI.2.2.2.2.1.2
    have b5 := hI.2.2.2.2.2.1.2
    simp only [upd] at *
    (repeat' split at hi) <;> (repeat' split) <;> first | omega | (have q2 := q (by omega); omega) | (have q3 := hI.2.1; omega) | (have q3 := hx i (by omega); omega)
  · have q := hI.2.2.2.2.2.2.2.2.2.2.2.2.2.2.2.2.2.2.1 i
    have b3 := hI.2.2.2.1.2
    have b4 := hI.2.2.2.2.1.2
    have b5 := hI.2.2.2.2.2.1.2
    simp only [upd] at *
    (repeat' split at hi) <;> (repeat' split) <;> first | omega | (have q2 := q (by omega); omega) | (have q3 := hI.2.1; omega) | (have q3 := hx i (by omega); omega)
  · have q := hI.2.2.2.2.2.2.2.2.2.2.2.2.2.2.2.2.2.2.2.1 i
    have b3 := hI.2.2.2.1.2
    have b4 := hI.2.2.2.2.1.2
    have b5 := hI.2.2.2.2.2.1.2
    simp only [upd] at *
    (repeat' split at hi) <;> (repeat' split) <;> first | omega | (have q2 := q (by omega); omega) | (have q3 := hI.2.1; omega) | (have q3 := hx i (by omega); omega)
  · have q := hI.2.2.2.2.2.2.2.2.2.2.2.2.2.2.2.2.2.2.2.2.1 i
    have b3 := hI.2.2.2.1.2
    have b4 := hI.2.2.2.2.1.2
    have b5 := hI.2.2.2.2.2.1.2
    simp only [upd] at *
    (repeat' split at hi) <;> (repeat' split) <;> first | omega | (have q2 := q (by omega); omega) | (have q3 := hI.2.1; omega) | (have q3 := hx i (by omega); omega)
  · have q := hI.2.2.2.2.2.2.2.2.2.2.2.2.2.2.2.2.2.2.2.2.2 i
    have b3 := hI.2.2.2.1.2
    have b4 := hI.2.2.2.2.1.2
    have b5 := hI.2.2.2.2.2.1.2
    simp only [upd] at *
    (repeat' split at hi) <;> (repeat' split) <;> first | omega | (have q2 := q (by omega); omega) | (have q3 := hI.2.1; omega) | (have q3 := hx i (by omega); omega)
theorem IB.bkl {f : Nat → Int32} (hI : IB f) {i0 : Nat} {v : Int32} (h0 : i0 < 8) (h1 : 0 ≤ v.toInt ∧ v.toInt ≤ 999) : IB (upd f (93 + i0) v) := by
  refine ⟨?_, ?_, ?_, ?_, ?_, ?_, ?_, ?_, ?_, fun i hi => ?_, fun i hi => ?_, fun i hi => ?_, fun i hi => ?_, fun i hi => ?_, fun i hi => ?_, fun i hi => ?_, fun i hi => ?_, fun i hi => ?_, fun i hi => ?_, fun i hi => ?_, fun i hi => ?_, fun i hi => ?_⟩
  · have q := hI.1
    have q2 := hI.2.2.1
    simp only [upd] at *
    (repeat' split) <;> omega
  · have q := hI.2.1
    have q2 := hI.2.2.1
    simp only [upd] at *
    (repeat' split) <;> omega
  · have q := hI.2.2.1
    have q2 := hI.2.2.1
    simp only [upd] at *
    (repeat' split) <;> omega
  · have q := hI.2.2.2.1
    have q2 := hI.2.2.1
    simp only [upd] at *
    (repeat' split) <;> omega
  · have q := hI.2.2.2.2.1
    have q2 := hI.2.2.1
    simp only [upd] at *
    (repeat' split) <;> omega
  · have q := hI.2.2.2.2.2.1
    have q2 := hI.2.2.1
    simp only [upd] at *
    (repeat' split) <;> omega
  · have q := hI.2.2.2.2.2.2.1
    have q2 := hI.2.2.1
    simp only [upd] at *
    (repeat' split) <;> omega
  · have q := hI.2.2.2.2.2.2.2.1
    have q2 := hI.2.2.1
    simp only [upd] at *
    (repeat' split) <;> omega
  · have q := hI.2.2.2.2.2.2.2.2.1
    have q2 := hI.2.2.1
    simp only [upd] at *
    (repeat' split) <;> omega
  · have q := hI.2.2.2.2.2.2.2.2.2.1 i
    have b3 := hI.2.2.2.1.2
    have b4 := hI.2.2.2.2.1.2
    have b5 := hI.2.2.2.2.2.1.2
    simp only [upd] at *
    (repeat' split at hi) <;> (repeat' split) <;> first | omega | (have q2 := q (by omega); omega) | (have q3 := hI.2.1; omega) | (have q3 := hx i (by omega); omega)
  · have q := hI.2.2.2.2.2.2.2.2.2.2.1 i
    have b3 := hI.2.2.2.1.2
    have b4 := hI.2.2.2.2.1.2
    have b5 := hI.2.2.2.2.2.1.2
    simp only [upd] at *
    (repeat' split at hi) <;> (repeat' split) <;> first | omega | (have q2 := q (by omega); omega) | (have q3 := hI.2.1; omega) | (have q3 := hx i (by omega); omega)
  · have q := hI.2.2.2.2.2.2.2.2.2.2.2.1 i
    have b3 := hI.2.2.2.1.2
    have b4 := hI.2.2.2.2.1.2
    have b5 := hI.2.2.2.2.2.1.2
    simp only [upd] at *
    (repeat' split at hi) <;> (repeat' split) <;> first | omega | (have q2 := q (by omega); omega) | (have q3 := hI.2.1; omega) | (have q3 := hx i (by omega); omega)
  · have q := hI.2.2.2.2.2.2.2.2.2.2.2.2.1 i
    have b3 := hI.2.2.2.1.2
    have b4 := hI.2.2.2.2.1.2
    have b5 := hI.2.2.2.2.2.1.2
    simp only [upd] at *
    (repeat' split at hi) <;> (repeat' split) <;> first | omega | (have q2 := q (by omega); omega) | (have q3 := hI.2.1; omega) | (have q3 := hx i (by omega); omega)
  · have q := hI.2.2.2.2.2.2.2.2.2.2.2.2.2.1 i
    have b3 := hI.2.2.2.1.2
    have b4 := hI.2.2.2.2.1.2
    have b5 := hI.2.2.2.2.2.1.2
    simp only [upd] at *
    (repeat' split at hi) <;> (repeat' split) <;> first | omega | (have q2 := q (by omega); omega) | (have q3 := hI.2.1; omega) | (have q3 := hx i (by omega); omega)
  · have q := hI.2.2.2.2.2.2.2.2.2.2.2.2.2.2.1 i
    have b3 := hI.2.2.2.1.2
    have b4 := hI.2.2.2.2.1.2
    have b5 := hI.2.2.2.2.2.1.2
    simp only [upd] at *
    (repeat' split at hi) <;> (repeat' split) <;> first | omega | (have q2 := q (by omega); omega) | (have q3 := hI.2.1; omega) | (have q3 := hx i (by omega); omega)
  · have q := hI.2.2.2.2.2.2.2.2.2.2.2.2.2.2.2.1 i
    have b3 := hI.2.2.2.1.2
    have b4 := hI.2.2.2.2.1.2
    have b5 := hI.2.2.2.2.2.1.2
    simp only [upd] at *
    (repeat' split at hi) <;> (repeat' split) <;> first | omega | (have q2 := q (by omega); omega) | (have q3 := hI.2.1; omega) | (have q3 := hx i (by omega); omega)
  · have q := hI.2.2.2.2.2.2.2.2.2.2.2.2.2.2.2.2.1 i
    have b3 := hI.2.2.2.1.2
    have b4 := hI.2.2.2.2.1.2
    have b5 := hI.2.2.2.2.2.1.2
    simp only [upd] at *
    (repeat' split at hi) <;> (repeat' split) <;> first | omega | (have q2 := q (by omega); omega) | (have q3 := hI.2.1; omega) | (have q3 := hx i (by omega); omega)
  · have q := hI.2.2.2.2.2.2.2.2.2.2.2.2.2.2.2.2.2.1 i
    have b3 := hI.2.2.2.1.2
    have b4 := hI.2.2.2.2.1.2
    have b5 := hI.2.2.2.2.2.1.2
    simp only [upd] at *
    (repeat' split at hi) <;> (repeat' split) <;> first | omega | (have q2 := q (by omega); omega) | (have q3 := hI.2.1; omega) | (have q3 := hx i (by omega); omega)
  · have q := hI.2.2.2.2.2.2.2.2.2.2.2.2.2.2.2.2.2.2.1 i
    have b3 := hI.2.2.2.1.2
    have b4 := hI.2.2.2.2.1.2
    have b5 := hI.2.2.2.2.2.1.2
    simp only [upd] at *
    (repeat' split at hi) <;> (repeat' split) <;> first | omega | (have q2 := q (by omega); omega) | (have q3 := hI.2.1; omega) | (have q3 := hx i (by omega); omega)
  · have q := hI.2.2.2.2.2.2.2.2.2.2.2.2.2.2.2.2.2.2.2.1 i
    have b3 := hI.2.2.2.1.2
    have b4 := hI.2.2.2.2.1.2
    have b5 := hI.2.2.2.2.2.1.2
    simp only [upd] at *
    (repeat' split at hi) <;> (repeat' split) <;> first | omega | (have q2 := q (by omega); omega) | (have q3 := hI.2.1; omega) | (have q3 := hx i (by omega); omega)
  · have q := hI.2.2.2.2.2.2.2.2.2.2.2.2.2.2.2.2.2.2.2.2.1 i
    have b3 := hI.2.2.2.1.2
    have b4 := hI.2.2.2.2.1.2
    have b5 := hI.2.2.2.2.2.1.2
    simp only [upd] at *
    (repeat' split at hi) <;> (repeat' split) <;> first | omega | (have q2 := q (by omega); omega) | (have q3 := hI.2.1; omega) | (have q3 := hx i (by omega); omega)
  · have q := hI.2.2.2.2.2.2.2.2.2.2.2.2.2.2.2.2.2.2.2.2.2 i
    have b3 := hI.2.2.2.1.2
    have b4 := hI.2.2.2.2.1.2
    have b5 := hI.2.2.2.2.2.1.2
    simp only [upd] at *
    (repeat' split at hi) <;> (repeat' split) <;> first | omega | (have q2 := q (by omega); omega) | (have q3 := hI.2.1; omega) | (have q3 := hx i (by omega); omega)
theorem IB.wl2 {f : Nat → Int32} (hI : IB f) {i0 : Nat} {u v : Int32} (h0 : i0 < 6) (h1 : 0 ≤ u.toInt ∧ u.toInt ≤ v.toInt ∧ v.toInt ≤ 999) : IB (upd (upd f (51 + i0) u) (57 + i0) v) := by
  refine ⟨?_, ?_, ?_, ?_, ?_, ?_, ?_, ?_, ?_, fun i hi => ?_, fun i hi => ?_, fun i hi => ?_, fun i hi => ?_, fun i hi => ?_, fun i hi => ?_, fun i hi => ?_, fun i hi => ?_, fun i hi => ?_, fun i hi => ?_, fun i hi => ?_, fun i hi => ?_, fun i hi => ?_⟩
  · have q := hI.1
    have q2 := hI.2.2.1
    simp only [upd] at *
    (repeat' split) <;> omega
  · have q := hI.2.1
    have q2 := hI.2.2.1
    simp only [upd] at *
    (repeat' split) <;> omega
  · have q := hI.2.2.1
    have q2 := hI.2.2.1
    simp only [upd] at *
    (repeat' split) <;> omega
  · have q := hI.2.2.2.1
    have q2 := hI.2.2.1
    simp only [upd] at *
    (repeat' split) <;> omega
  · have q := hI.2.2.2.2.1
    have q2 := hI.2.2.1
    simp only [upd] at *
    (repeat' split) <;> omega
  · have q := hI.2.2.2.2.2.1
    have q2 := hI.2.2.1
    simp only [upd] at *
    (repeat' split) <;> omega
  · have q := hI.2.2.2.2.2.2.1
    have q2 := hI.2.2.1
    simp only [upd] at *
    (repeat' split) <;> omega
  · have q := hI.2.2.2.2.2.2.2.1
    have q2 := hI.2.2.1
    simp only [upd] at *
    (repeat' split) <;> omega
  · have q := hI.2.2.2.2.2.2.2.2.1
    have q2 := hI.2.2.1
    simp only [upd] at *
    (repeat' split) <;> omega
  · have q := hI.2.2.2.2.2.2.2.2.2.1 i
    have b3 := hI.2.2.2.1.2
    have b4 := hI.2.2.2.2.1.2
    have b5 := hI.2.2.2.2.2.1.2
    simp only [upd] at *
    (repeat' split at hi) <;> (repeat' split) <;> first | omega | (have q2 := q (by omega); omega) | (have q3 := hI.2.1; omega) | (have q3 := hx i (by omega); omega)
  · have q := hI.2.2.2.2.2.2.2.2.2.2.1 i
    have b3 := hI.2.2.2.1.2
    have b4 := hI.2.2.2.2.1.2
    have b5 := hI.2.2.2.2.2.1.2
    simp only [upd] at *
    (repeat' split at hi) <;> (repeat' split) <;> first | omega | (have q2 := q (by omega); omega) | (have q3 := hI.2.1; omega) | (have q3 := hx i (by omega); omega)
  · have q := hI.2.2.2.2.2.2.2.2.2.2.2.1 i
    have b3 := hI.2.2.2.1.2
    have b4 := hI.2.2.2.2.1.2
    have b5 := hI.2.2.2.2.2.1.2
    simp only [upd] at *
    (repeat' split at hi) <;> (repeat' split) <;> first | omega | (have q2 := q (by omega); omega) | (have q3 := hI.2.1; omega) | (have q3 := hx i (by omega); omega)
  · have q := hI.2.2.2.2.2.2.2.2.2.2.2.2.1 i
    have b3 := hI.2.2.2.1.2
    have b4 := hI.2.2.2.2.1.2
    have b5 := hI.2.2.2.2.2.1.2
    simp only [upd] at *
    (repeat' split at hi) <;> (repeat' split) <;> first | omega | (have q2 := q (by omega); omega) | (have q3 := hI.2.1; omega) | (have q3 := hx i (by omega); omega)
  · have q := hI.2.2.2.2.2.2.2.2.2.2.2.2.2.1 i
    have b3 := hI.2.2.2.1.2
    have b4 := hI.2.2.2.2.1.2
    have b5 := hI.2.2.2.2.2.1.2
    simp only [upd] at *
    (repeat' split at hi) <;> (repeat' split) <;> first | omega | (have q2 := q (by omega); omega) | (have q3 := hI.2.1; omega) | (have q3 := hx i (by omega); omega)
  · have q := hI.2.2.2.2.2.2.2.2.2.2.2.2.2.2.1 i
    have b3 := hI.2.2.2.1.2
    have b4 := hI.2.2.2.2.1.2
    have b5 := hI.2.2.2.2.2.1.2
    simp only [upd] at *
    (repeat' split at hi) <;> (repeat' split) <;> first | omega | (have q2 := q (by omega); omega) | (have q3 := hI.2.1; omega) | (have q3 := hx i (by omega); omega)
  · have q := hI.2.2.2.2.2.2.2.2.2.2.2.2.2.2.2.1 i
    have b3 := hI.2.2.2.1.2
    have b4 := hI.2.2.2.2.1.2
    have b5 := hI.2.2.2.2.2.1.2
    simp only [upd] at *
    (repeat' split at hi) <;> (repeat' split) <;> first | omega | (have q2 := q (by omega); omega) | (have q3 := hI.2.1; omega) | (have q3 := hx i (by omega); omega)
  · have q := hI.2.2.2.2.2.2.2.2.2.2.2.2.2.2.2.2.1 i
    have b3 := hI.2.2.2.1.2
    have b4 := hI.2.2.2.2.1.2
    have b5 := hI.2.2.2.2.2.1.2
    simp only [upd] at *
    (repeat' split at hi) <;> (repeat' split) <;> first | omega | (have q2 := q (by omega); omega) | (have q3 := hI.2.1; omega) | (have q3 := hx i (by omega); omega)
  · have q := hI.2.2.2.2.2.2.2.2.2.2.2.2.2.2.2.2.2.1 i
    have b3 := hI.2.2.2.1.2
    have b4 := hI.2.2.2.2.1.2
    have b5 := hI.2.2.2.2.2.1.2
    simp only [upd] at *
    (repeat' split at hi) <;> (repeat' split) <;> first | omega | (have q2 := q (by omega); omega) | (have q3 := hI.2.1; omega) | (have q3 := hx i (by omega); omega)
  · have q := hI.2.2.2.2.2.2.2.2.2.2.2.2.2.2.2.2.2.2.1 i
    have b3 := hI.2.2.2.1.2
    have b4 := hI.2.2.2.2.1.2
    have b5 := hI.2.2.2.2.2.1.2
    simp only [upd] at *
    (repeat' split at hi) <;> (repeat' split) <;> first | omega | (have q2 := q (by omega); omega) | (have q3 := hI.2.1; omega) | (have q3 := hx i (by omega); omega)
  · have q := hI.2.2.2.2.2.2.2.2.2.2.2.2.2.2.2.2.2.2.2.1 i
    have b3 := hI.2.2.2.1.2
    have b4 := hI.2.2.2.2.1.2
    have b5 := hI.2.2.2.2.2.1.2
    simp only [upd] at *
    (repeat' split at hi) <;> (repeat' split) <;> first | omega | (have q2 := q (by omega); omega) | (have q3 := hI.2.1; omega) | (have q3 := hx i (by omega); omega)
  · have q := hI.2.2.2.2.2.2.2.2.2.2.2.2.2.2.2.2.2.2.2.2.1 i
    have b3 := hI.2.2.2.1.2
    have b4 := hI.2.2.2.2.1.2
    have b5 := hI.2.2.2.2.2.1.2
    simp only [upd] at *
    (repeat' split at hi) <;> (repeat' split) <;> first | omega | (have q2 := q (by omega); omega) | (have q3 := hI.2.1; omega) | (have q3 := hx i (by omega); omega)
  · have q := hI.2.2.2.2.2.2.2.2.2.2.2.2.2.2.2.2.2.2.2.2.2 i
    have b3 := hI.2.2.2.1.2
    have b4 := hI.2.2.2.2.1.2
    have b5 := hI.2.2.2.2.2.1.2
    simp only [upd] at *
    (repeat' split at hi) <;> (repeat' split) <;> first | omega | (have q2 := q (by omega); omega) | (have q3 := hI.2.1; omega) | (have q3 := hx i (by omega); omega)
