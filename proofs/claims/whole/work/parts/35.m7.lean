
theorem to_rng {σ : St} (hI : IB (σ 1)) {k d : Int32} {K : Nat} (hk : k.toInt = K) (hK : K ≤ 900) (hd : 0 ≤ d.toInt ∧ d.toInt ≤ 99) (hr : ∀ i, i < 5 → 0 ≤ (σ 1 (K + i)).toInt ∧ (σ 1 (K + i)).toInt ≤ 99) : 0 ≤ (f_X12_tellsOf σ k d).toInt ∧ (f_X12_tellsOf σ k d).toInt ≤ 99 := by
  unfold f_X12_tellsOf
  obtain ⟨-, -, i2, -, -, -, -, i7, -⟩ := id hI
  split
  · exact hd
  · rename_i c
    have e1 : (-1 : Int32).toInt = -1 := rfl
    have c2 : ¬ (σ 1 7).toInt = -1 := fun h => c (ti_eq.mpr (by rw [h, e1]))
    have q := ti_add (a := k) (b := σ 1 7) (by omega) (by omega)
    have e : ix (k + σ 1 7) = K + (σ 1 7).toInt.toNat := by
      show (k + σ 1 7).toInt.toNat = _
      omega
    rw [e]
    exact hr _ (by omega)
theorem co_ge {σ : St} (hI : IB (σ 1)) {a1 a2 : Int32} (h1 : 0 ≤ a1.toInt) (h1b : a1.toInt < 6) (h2 : a2.toInt ≤ 999) : ∀ (n : Nat) (a3 a4 : Int32), 0 ≤ a4.toInt → a4.toInt ≤ 1000 → 0 ≤ a3.toInt → a3.toInt ≤ 98901 * a4.toInt → 0 ≤ (g_X12_costOf_13 n σ a1 a2 a3 a4).toInt := by
  intro n
  induction n with
  | zero => intro a3 a4 _ _ _ _; exact Int.le_refl 0
  | succ n ih =>
    intro a3 a4 h4 h4b h3 h3b
    show 0 ≤ (f_X12_costOf_13 (g_X12_costOf_13 n) σ a1 a2 a3 a4).toInt
    unfold f_X12_costOf_13
    obtain ⟨w1, w2, w3⟩ := IB_w hI h1 h1b
    obtain ⟨-, -, -, -, -, -, -, -, -, -, -, -, -, -, -, -, -, -, -, iA, iB, -⟩ := id hI
    split
    · exact h3
    · rename_i c
      have c := mt ti_lt.mpr c
      have e1 : (1 : Int32).toInt = 1 := rfl
      have q := ti_add (a := a4) (b := 1) (by omega) (by omega)
      have t6 := to_rng (d := 1) hI (k := 206) (K := 206) rfl (by decide) ⟨by decide, by decide⟩ iB
      have t1 := to_rng (d := 40) hI (k := 201) (K := 201) rfl (by decide) ⟨by decide, by decide⟩ iA
      have key : 0 ≤ (if a4 ≤ a2 then ((f_X12_tellsOf σ (206 : Int32) (1 : Int32)) * (a2 - a4)) else (f_X12_tellsOf σ (201 : Int32) (40 : Int32))).toInt ∧ (if a4 ≤ a2 then ((f_X12_tellsOf σ (206 : Int32) (1 : Int32)) * (a2 - a4)) else (f_X12_tellsOf σ (201 : Int32) (40 : Int32))).toInt ≤ 98901 := by
        split
        · rename_i c4
          have c4 := ti_le.mp c4
          have qs := ti_sub (a := a2) (b := a4) (by omega) (by omega)
          have m0 : 0 ≤ (f_X12_tellsOf σ 206 1).toInt * (a2 - a4).toInt := Int.mul_nonneg t6.1 (by omega)
          have m1 : (f_X12_tellsOf σ 206 1).toInt * (a2 - a4).toInt ≤ 99 * 999 := Int.mul_le_mul t6.2 (by omega) (by omega) (by decide)
          have qm := ti_mul (a := f_X12_tellsOf σ 206 1) (b := a2 - a4) (by omega) (by omega)
          omega
        · omega
      generalize (if a4 ≤ a2 then ((f_X12_tellsOf σ (206 : Int32) (1 : Int32)) * (a2 - a4)) else (f_X12_tellsOf σ (201 : Int32) (40 : Int32))) = z at key ⊢
      have q3 := ti_add (a := a3) (b := z) (by omega) (by omega)
      exact ih _ _ (by omega) (by omega) (by omega) (by omega)
theorem bc_ge {a1 : Int32} (h1 : 0 ≤ a1.toInt) (h1b : a1.toInt < 6) : ∀ (n : Nat) (σ : St) (a2 a3 : Int32), IB (σ 1) → 0 ≤ (σ 20 0).toInt → 0 ≤ ((g_X12_bestCut_26 n σ a1 a2 a3).2 20 0).toInt ∧ (g_X12_bestCut_26 n σ a1 a2 a3).2 1 = σ 1 := by
  intro n
  induction n with
  | zero => intro σ a2 a3 _ h; exact ⟨h, rfl⟩
  | succ n ih =>
    intro σ a2 a3 hI h
    show 0 ≤ ((f_X12_bestCut_26 (g_X12_bestCut_26 n) σ a1 a2 a3).2 20 0).toInt ∧ (f_X12_bestCut_26 (g_X12_bestCut_26 n) σ a1 a2 a3).2 1 = σ 1
    unfold f_X12_bestCut_26
    split
    · exact ⟨h, rfl⟩
    · rename_i c
      have c := mt ti_lt.mpr c
      split
      · exact ⟨h, rfl⟩
      · obtain ⟨w1, w2, w3⟩ := IB_w hI h1 h1b
        have hc : 0 ≤ (f_X12_costOf σ a1 a3).toInt := co_ge hI h1 h1b (by omega) _ _ _ w1 (by omega) (by decide) (by have e0 : (0 : Int32).toInt = 0 := rfl; omega)
        refine ih _ _ _ hI ?_
        show 0 ≤ (if σ 20 0 ≤ f_X12_costOf σ a1 a3 then σ 20 0 else f_X12_costOf σ a1 a3).toInt
        split
        · exact h
        · exact hc
theorem bc_ok {σ : St} (hI : IB (σ 1)) {a1 : Int32} (h1 : 0 ≤ a1.toInt) (h1b : a1.toInt < 6) : 0 ≤ ((f_X12_bestCut σ a1).2 20 0).toInt ∧ (f_X12_bestCut σ a1).2 1 = σ 1 :=
  bc_ge h1 h1b _ _ _ _ hI (by show 0 ≤ (100000000 : Int32).toInt; decide)

