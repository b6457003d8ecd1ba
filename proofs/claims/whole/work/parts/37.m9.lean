
/-! the model's walk of cups: its queue -/
def CQ (σ : St) : Prop := (∀ s : Nat, s < 1681 → σ 21 s = -1 ∨ 0 ≤ (σ 21 s).toInt) ∧ (σ 23 0).toInt = (cnt (σ 21) 1681 : Nat) ∧ ∀ i : Nat, (i : Int) < (σ 23 0).toInt → 0 ≤ (σ 22 i).toInt ∧ (σ 22 i).toInt < 1681 ∧ 0 ≤ (σ 21 (ix (σ 22 i))).toInt ∧ (σ 21 (ix (σ 22 i))).toInt ≤ i
theorem CQ.room {σ : St} (h : CQ σ) {a1 : Int32} (h1 : 0 ≤ a1.toInt) (h1b : a1.toInt < 1681) : (σ 21 (ix a1)) = -1 → 0 ≤ (σ 23 0).toInt ∧ (σ 23 0).toInt < 1681 := by
  intro e
  have q := ti_ix h1
  have e1 : (-1 : Int32).toInt = -1 := rfl
  have := cnt_lt (f := σ 21) (s := ix a1) (by rw [e, e1]; decide) 1681 (by omega)
  have := h.2.1
  omega
theorem CQ.comes {σ : St} (h : CQ σ) {a1 a2 : Int32} (h1 : 0 ≤ a1.toInt) (h1b : a1.toInt < 1681) (h2 : 0 ≤ a2.toInt) (h2b : a2.toInt ≤ (σ 23 0).toInt) : CQ (f_X12_comes σ a1 a2) ∧ (σ 23 0).toInt ≤ ((f_X12_comes σ a1 a2) 23 0).toInt ∧ ∀ i : Nat, (i : Int) < (σ 23 0).toInt → (f_X12_comes σ a1 a2) 22 i = σ 22 i := by
  unfold f_X12_comes
  split
  · rename_i e
    obtain ⟨t1, t2⟩ := h.room h1 h1b e
    have q := ti_ix h1
    have qt := ti_ix t1
    have e1 : (1 : Int32).toInt = 1 := rfl
    have em : (-1 : Int32).toInt = -1 := rfl
    have qa := ti_add (a := σ 23 0) (b := 1) (by omega) (by omega)
    have hneg : (σ 21 (ix a1)).toInt < 0 := by rw [e, em]; decide
    obtain ⟨c1, c2, c3⟩ := h
    have k21 : ∀ s, (up2 (up2 (up2 σ 21 (ix a1) a2) 22 (ix (σ 23 0)) a1) 23 0 ((σ 23 0) + (1 : Int32))) 21 s = if s = ix a1 then a2 else σ 21 s := fun s => rfl
    have k22 : ∀ s, (up2 (up2 (up2 σ 21 (ix a1) a2) 22 (ix (σ 23 0)) a1) 23 0 ((σ 23 0) + (1 : Int32))) 22 s = if s = ix (σ 23 0) then a1 else σ 22 s := fun s => rfl
    have k23 : (up2 (up2 (up2 σ 21 (ix a1) a2) 22 (ix (σ 23 0)) a1) 23 0 ((σ 23 0) + (1 : Int32))) 23 0 = σ 23 0 + 1 := rfl
    generalize (up2 (up2 (up2 σ 21 (ix a1) a2) 22 (ix (σ 23 0)) a1) 23 0 ((σ 23 0) + (1 : Int32))) = τ at k21 k22 k23 ⊢
    refine ⟨⟨fun s hs => ?_, ?_, fun i hi => ?_⟩, by rw [k23]; omega, fun i hi => ?_⟩
    · rw [k21]
      split
      · exact Or.inr h2
      · exact c1 s hs
    · rw [k23, qa, cnt_up (f := σ 21) (k := τ 21) (s := ix a1) hneg (by rw [k21, if_pos rfl]; exact h2) (fun i hi => by rw [k21, if_neg hi]) 1681 (by omega)]
      omega
    · rw [k23] at hi
      rw [k22]
      by_cases ei : i = ix (σ 23 0)
      · rw [if_pos ei, k21, if_pos rfl]
        exact ⟨h1, h1b, h2, by omega⟩
      · rw [if_neg ei]
        obtain ⟨d1, d2, d3, d4⟩ := c3 i (by omega)
        rw [k21]
        by_cases es : ix (σ 22 i) = ix a1
        · rw [es] at d3
          omega
        · rw [if_neg es]
          exact ⟨d1, d2, d3, d4⟩
    · rw [k22, if_neg (by omega)]
  · exact ⟨h, Int.le_refl _, fun _ _ => rfl⟩
/-- what is queued keeps to the cups -/
def CB (σ : St) (a b : Int32) : Prop := ∀ i : Nat, (i : Int) < (σ 23 0).toInt → ∃ p q : Int, (σ 22 i).toInt = 41 * p + q ∧ 0 ≤ p ∧ p ≤ a.toInt ∧ 0 ≤ q ∧ q ≤ b.toInt
theorem CB.comes {σ : St} {a b : Int32} (hQ : CQ σ) (h : CB σ a b) {a1 a2 : Int32} (h1 : 0 ≤ a1.toInt) (h1b : a1.toInt < 1681) (p q : Int) (e : a1.toInt = 41 * p + q) (hp : 0 ≤ p) (hpa : p ≤ a.toInt) (hq : 0 ≤ q) (hqb : q ≤ b.toInt) : CB (f_X12_comes σ a1 a2) a b := by
  unfold f_X12_comes
  split
  · rename_i e9
    obtain ⟨t1, t2⟩ := hQ.room h1 h1b e9
    have qt := ti_ix t1
    have e1 : (1 : Int32).toInt = 1 := rfl
    have qa := ti_add (a := σ 23 0) (b := 1) (by omega) (by omega)
    intro i hi
    have hi : (i : Int) < (σ 23 0 + 1).toInt := hi
    show ∃ p q : Int, (if i = ix (σ 23 0) then a1 else σ 22 i).toInt = 41 * p + q ∧ 0 ≤ p ∧ p ≤ a.toInt ∧ 0 ≤ q ∧ q ≤ b.toInt
    by_cases ei : i = ix (σ 23 0)
    · rw [if_pos ei]
      exact ⟨p, q, e, hp, hpa, hq, hqb⟩
    · rw [if_neg ei]
      exact h i (by omega)
  · exact h
