/-! THE TWO SIDES TOGETHER: square, the model's side -/
section CALLS6
variable {τ σ : St}
theorem hs_z {K11 : St → Int32 → Int32 → Int32 → Int32 → Int32} {K47 : St → Int32 → Int32 → Int32 → Int32 → Int32 → Int32 → Int32} {a b c x y s : Int32} {lc : Int} (l0 : 0 ≤ lc) (c2 : (σ 1 (ix (57 + c))).toInt ≤ 999) : ∀ (n : Nat) (z : Int32), lc ≤ z.toInt → z.toInt ≤ (σ 1 (ix (57 + c))).toInt → z.toInt + (n : Int) ≥ (σ 1 (ix (57 + c))).toInt + 1 → (∀ w : Int, lc ≤ w → w < z.toInt → w * w < s.toInt) →
    ((∃ w : Int, lc ≤ w ∧ w ≤ (σ 1 (ix (57 + c))).toInt ∧ s.toInt = w * w) ∧ g_X12_hasSquare_74 K11 K47 n σ a b c x z y s = 1) ∨ ((¬ ∃ w : Int, lc ≤ w ∧ w ≤ (σ 1 (ix (57 + c))).toInt ∧ s.toInt = w * w) ∧ ∃ z' : Int32, lc ≤ z'.toInt ∧ z'.toInt ≤ (σ 1 (ix (57 + c))).toInt ∧ (∀ w : Int, lc ≤ w → w < z'.toInt → w * w < s.toInt) ∧ g_X12_hasSquare_74 K11 K47 n σ a b c x z y s = K47 σ a b c x z' (y + 1))
  | 0, z, h1, h2, h3, h4 => by exfalso; omega
  | n + 1, z, h1, h2, h3, h4 => by
    have st : g_X12_hasSquare_74 K11 K47 (n + 1) σ a b c x z y s = f_X12_hasSquare_74 K11 K47 (g_X12_hasSquare_74 K11 K47 n) σ a b c x z y s := rfl
    rw [st]
    have sz := ti_sq (a := z) (by omega) (by omega)
    have stop : (∀ w : Int, z.toInt < w → w ≤ (σ 1 (ix (57 + c))).toInt → ¬ s.toInt = w * w) → ((∃ w : Int, lc ≤ w ∧ w ≤ (σ 1 (ix (57 + c))).toInt ∧ s.toInt = w * w) ∧ f_X12_hasSquare_104 K11 K47 σ a b c x z y s = 1) ∨ ((¬ ∃ w : Int, lc ≤ w ∧ w ≤ (σ 1 (ix (57 + c))).toInt ∧ s.toInt = w * w) ∧ ∃ z' : Int32, lc ≤ z'.toInt ∧ z'.toInt ≤ (σ 1 (ix (57 + c))).toInt ∧ (∀ w : Int, lc ≤ w → w < z'.toInt → w * w < s.toInt) ∧ f_X12_hasSquare_104 K11 K47 σ a b c x z y s = K47 σ a b c x z' (y + 1)) := by
      intro up
      unfold f_X12_hasSquare_104
      by_cases e : z * z = s
      · rw [if_pos e]
        exact Or.inl ⟨⟨z.toInt, h1, h2, by rw [← e, sz]⟩, rfl⟩
      · rw [if_neg e]
        refine Or.inr ⟨fun ⟨w, w1, w2, w3⟩ => ?_, z, h1, h2, h4, rfl⟩
        rcases Int.lt_trichotomy w z.toInt with k | k | k
        · have := h4 w w1 k
          omega
        · exact e (by rw [ti_eq, sz, w3, k])
        · exact up w k w2 w3
    unfold f_X12_hasSquare_74
    by_cases q : σ 1 (ix (57 + c)) ≤ z
    · rw [if_pos q]
      rw [ti_le] at q
      exact stop (fun w k1 k2 => by omega)
    · rw [if_neg q]
      rw [ti_le] at q
      by_cases r : s ≤ z * z
      · rw [if_pos r]
        rw [ti_le, sz] at r
        refine stop (fun w k1 k2 k3 => ?_)
        have := sq_lt (show 0 ≤ z.toInt by omega) k1
        omega
      · rw [if_neg r]
        rw [ti_le, sz] at r
        have k : (z + 1).toInt = z.toInt + 1 := by rw [ti_add (by simp; omega) (by simp; omega)]; rfl
        exact hs_z l0 c2 n (z + 1) (by omega) (by omega) (by omega) (fun w w1 w2 => by
          by_cases e : w = z.toInt
          · rw [e]; omega
          · exact h4 w w1 (by omega))
theorem hs_y {K11 : St → Int32 → Int32 → Int32 → Int32 → Int32} {a b c x : Int32} {lc : Int} (l0 : 0 ≤ lc) (c2 : (σ 1 (ix (57 + c))).toInt ≤ 999) (b2 : (σ 1 (ix (57 + b))).toInt ≤ 999) (x0 : 0 ≤ x.toInt) (x1 : x.toInt ≤ 999) : ∀ (n : Nat) (z y : Int32), 0 ≤ y.toInt → y.toInt ≤ 1000 → y.toInt + (n : Int) ≥ (σ 1 (ix (57 + b))).toInt + 2 → 1 ≤ n → lc ≤ z.toInt → z.toInt ≤ (σ 1 (ix (57 + c))).toInt → (∀ w : Int, lc ≤ w → w < z.toInt → w * w < x.toInt * x.toInt + y.toInt * y.toInt) →
    ((∃ y' w : Int, y.toInt ≤ y' ∧ y' ≤ (σ 1 (ix (57 + b))).toInt ∧ lc ≤ w ∧ w ≤ (σ 1 (ix (57 + c))).toInt ∧ x.toInt * x.toInt + y' * y' = w * w) ∧ g_X12_hasSquare_47 K11 n σ a b c x z y = 1) ∨ ((¬ ∃ y' w : Int, y.toInt ≤ y' ∧ y' ≤ (σ 1 (ix (57 + b))).toInt ∧ lc ≤ w ∧ w ≤ (σ 1 (ix (57 + c))).toInt ∧ x.toInt * x.toInt + y' * y' = w * w) ∧ g_X12_hasSquare_47 K11 n σ a b c x z y = K11 σ a b c (x + 1))
  | 0, z, y, h1, h2, h3, h4, _, _, _ => by exfalso; omega
  | n + 1, z, y, h1, h2, h3, h4, h5, h6, h7 => by
    have st : g_X12_hasSquare_47 K11 (n + 1) σ a b c x z y = f_X12_hasSquare_47 K11 (g_X12_hasSquare_47 K11 n) σ a b c x z y := rfl
    rw [st]
    unfold f_X12_hasSquare_47
    by_cases q : σ 1 (ix (57 + b)) < y
    · rw [if_pos q]
      rw [ti_lt] at q
      exact Or.inr ⟨fun ⟨y', w, y1, y2, _⟩ => by omega, rfl⟩
    · rw [if_neg q]
      rw [ti_lt] at q
      obtain ⟨s1, s2, s3⟩ := sum_sq x0 (by omega) h1 (show y.toInt ≤ 1000 by omega)
      have k : (y + 1).toInt = y.toInt + 1 := by rw [ti_add (by simp; omega) (by simp; omega)]; rfl
      rcases hs_z (σ := σ) (K11 := K11) (K47 := g_X12_hasSquare_47 K11 n) (a := a) (b := b) (c := c) (x := x) (y := y) (s := x * x + y * y) l0 c2 1001 z h5 h6 (by omega) (fun w w1 w2 => by rw [s1]; exact h7 w w1 w2) with ⟨⟨w, w1, w2, w3⟩, r⟩ | ⟨nw, z', z1, z2, z3, r⟩
      · exact Or.inl ⟨⟨y.toInt, w, by omega, by omega, w1, w2, by rw [← s1]; exact w3⟩, r⟩
      · rw [r]
        have mono := sq_le h1 (show y.toInt ≤ y.toInt + 1 by omega)
        rcases hs_y (K11 := K11) (a := a) (b := b) (c := c) (x := x) l0 c2 b2 x0 x1 n z' (y + 1) (by omega) (by omega) (by omega) (by omega) z1 z2 (fun w w1 w2 => by
            have := z3 w w1 w2
            rw [s1] at this
            rw [k]
            omega) with ⟨⟨y', w, y1, y2, y3⟩, r⟩ | ⟨nx, r⟩
        · exact Or.inl ⟨⟨y', w, by omega, y2, y3⟩, r⟩
        · refine Or.inr ⟨fun ⟨y', w, y1, y2, y3, y4, y5⟩ => ?_, r⟩
          by_cases yc : y' = y.toInt
          · rw [yc] at y5
            exact nw ⟨w, y3, y4, by rw [s1]; exact y5⟩
          · exact nx ⟨y', w, by omega, y2, y3, y4, y5⟩
theorem hs_x {a b c : Int32} (ca : (0 : Int) ≤ (σ 1 (ix (51 + a))).toInt ∧ (σ 1 (ix (51 + a))).toInt ≤ (σ 1 (ix (57 + a))).toInt ∧ (σ 1 (ix (57 + a))).toInt ≤ 999) (cb : (0 : Int) ≤ (σ 1 (ix (51 + b))).toInt ∧ (σ 1 (ix (51 + b))).toInt ≤ (σ 1 (ix (57 + b))).toInt ∧ (σ 1 (ix (57 + b))).toInt ≤ 999) (cc : (0 : Int) ≤ (σ 1 (ix (51 + c))).toInt ∧ (σ 1 (ix (51 + c))).toInt ≤ (σ 1 (ix (57 + c))).toInt ∧ (σ 1 (ix (57 + c))).toInt ≤ 999) : ∀ (n : Nat) (x : Int32), 0 ≤ x.toInt → x.toInt ≤ 1000 → x.toInt + (n : Int) ≥ (σ 1 (ix (57 + a))).toInt + 2 → 1 ≤ n →
    ((∃ x' : Int, x.toInt ≤ x' ∧ x' ≤ (σ 1 (ix (57 + a))).toInt ∧ CC (σ 1 (ix (51 + b))).toInt (σ 1 (ix (57 + b))).toInt (σ 1 (ix (51 + c))).toInt (σ 1 (ix (57 + c))).toInt x') ∧ g_X12_hasSquare_11 n σ a b c x = 1) ∨ ((¬ ∃ x' : Int, x.toInt ≤ x' ∧ x' ≤ (σ 1 (ix (57 + a))).toInt ∧ CC (σ 1 (ix (51 + b))).toInt (σ 1 (ix (57 + b))).toInt (σ 1 (ix (51 + c))).toInt (σ 1 (ix (57 + c))).toInt x') ∧ g_X12_hasSquare_11 n σ a b c x = 0)
  | 0, x, h1, h2, h3, h4 => by exfalso; omega
  | n + 1, x, h1, h2, h3, h4 => by
    have st : g_X12_hasSquare_11 (n + 1) σ a b c x = f_X12_hasSquare_11 (g_X12_hasSquare_11 n) σ a b c x := rfl
    rw [st]
    unfold f_X12_hasSquare_11
    by_cases q : σ 1 (ix (57 + a)) < x
    · rw [if_pos q]
      rw [ti_lt] at q
      exact Or.inr ⟨fun ⟨x', y1, y2, _⟩ => by omega, rfl⟩
    rw [if_neg q]
    rw [ti_lt] at q
    have k : (x + 1).toInt = x.toInt + 1 := by rw [ti_add (by simp; omega) (by simp; omega)]; rfl
    rcases hs_y (σ := σ) (K11 := g_X12_hasSquare_11 n) (a := a) (b := b) (c := c) (x := x) (lc := (σ 1 (ix (51 + c))).toInt) cc.1 cc.2.2 cb.2.2 h1 (by omega) 1001 (σ 1 (ix (51 + c))) (σ 1 (ix (51 + b))) cb.1 (by omega) (by omega) (by omega) (by omega) cc.2.1 (fun w w1 w2 => by exfalso; omega) with ⟨⟨y, w, r1, r2, r3, r4, r5⟩, r⟩ | ⟨ny, r⟩
    · exact Or.inl ⟨⟨x.toInt, by omega, by omega, y, w, r1, r2, r3, r4, r5⟩, r⟩
    · rw [r]
      rcases hs_x ca cb cc n (x + 1) (by omega) (by omega) (by omega) (by omega) with ⟨⟨x', y1, y2, y3⟩, r⟩ | ⟨nx, r⟩
      · exact Or.inl ⟨⟨x', by omega, y2, y3⟩, r⟩
      · refine Or.inr ⟨fun ⟨x', y1, y2, y3⟩ => ?_, r⟩
        by_cases yc : x' = x.toInt
        · rw [yc] at y3
          obtain ⟨y, w, r1, r2, r3, r4, r5⟩ := y3
          exact ny ⟨y, w, r1, r2, r3, r4, r5⟩
        · exact nx ⟨x', by omega, y2, y3⟩
theorem corner_eq (h : RN 20 τ (σ 1)) (hI : IB (σ 1)) {a b c : Int32} (ha : 0 ≤ a.toInt ∧ a.toInt < (σ 1 1).toInt) (hb : 0 ≤ b.toInt ∧ b.toInt < (σ 1 1).toInt) (hc : 0 ≤ c.toInt ∧ c.toInt < (σ 1 1).toInt) : f_X11_canBeCorner τ a b c = f_X12_hasSquare σ a b c := by
  obtain ⟨a1, a2, a3, _⟩ := wl_at h hI ha.1 ha.2
  obtain ⟨b1, b2, b3, _⟩ := wl_at h hI hb.1 hb.2
  obtain ⟨c1, c2, c3, _⟩ := wl_at h hI hc.1 hc.2
  unfold f_X11_canBeCorner f_X12_hasSquare
  have l := cc_out (τ := τ) (a := a) (b := b) (lc := τ 26 (ix c)) (hc := τ 27 (ix c)) (by rw [a1, a2]; exact a3) (by rw [b1, b2]; exact b3) (by rw [c1]; exact c3.1) (by rw [c1, c2]; exact c3.2.1) (by rw [c2]; exact c3.2.2) 1001 (τ 26 (ix a)) (by rw [a1]; exact a3.1) (by rw [a1]; omega) (by rw [a1, a2]; omega) (by omega)
  have m := hs_x (σ := σ) a3 b3 c3 1001 (σ 1 (ix (51 + a))) a3.1 (by omega) (by omega) (by omega)
  rw [a1, a2, b1, b2, c1, c2] at l
  rw [a1, c1, c2]
  rcases l with ⟨l1, l2⟩ | ⟨l1, l2⟩ <;> rcases m with ⟨m1, m2⟩ | ⟨m1, m2⟩
  · rw [l2, m2]
  · exact absurd l1 m1
  · exact absurd m1 l1
  · rw [l2, m2]
theorem one_eq (h : RN 20 τ (σ 1)) (hI : IB (σ 1)) {a : Int32} (ha : 0 ≤ a.toInt ∧ a.toInt < (σ 1 1).toInt) : f_X12_isOne σ a = 0 ↔ ¬ f_X5_gap τ a = 0 := by
  obtain ⟨a1, a2, a3, _⟩ := wl_at h hI ha.1 ha.2
  obtain ⟨g1, g2⟩ := gap_at h hI ha.1 ha.2
  unfold f_X12_isOne
  rw [g1, ti_eq (a := f_X12_gapOf σ a), g2]
  simp only [ti_eq (a := σ 1 (ix (51 + a))), Int32.reduceToInt]
  split
  · simp; omega
  · simp; omega
theorem q_square (h : RN 20 τ (σ 1)) (hI : IB (σ 1)) (a b c : Int32) : f_X11_square τ a b c = f_X12_square σ a b c := by
  unfold f_X11_square f_X12_square
  by_cases ha : 0 ≤ a.toInt ∧ a.toInt < (σ 1 1).toInt
  · by_cases hb : 0 ≤ b.toInt ∧ b.toInt < (σ 1 1).toInt
    · by_cases hc : 0 ≤ c.toInt ∧ c.toInt < (σ 1 1).toInt
      · rw [if_neg (fun z => (wall_eq h hI a).1.mp z ha), if_neg (fun z => (wall_eq h hI a).2.mp z ha), if_neg (fun z => (wall_eq h hI b).1.mp z hb), if_neg (fun z => (wall_eq h hI b).2.mp z hb), if_neg (fun z => (wall_eq h hI c).1.mp z hc), if_neg (fun z => (wall_eq h hI c).2.mp z hc), corner_eq h hI ha hb hc]
        simp only [one_eq h hI ha, one_eq h hI hb, one_eq h hI hc]
        (repeat' split) <;> first | rfl | contradiction
      · rw [if_neg (fun z => (wall_eq h hI a).1.mp z ha), if_neg (fun z => (wall_eq h hI a).2.mp z ha), if_neg (fun z => (wall_eq h hI b).1.mp z hb), if_neg (fun z => (wall_eq h hI b).2.mp z hb), if_pos ((wall_eq h hI c).1.mpr hc), if_pos ((wall_eq h hI c).2.mpr hc)]
    · rw [if_neg (fun z => (wall_eq h hI a).1.mp z ha), if_neg (fun z => (wall_eq h hI a).2.mp z ha), if_pos ((wall_eq h hI b).1.mpr hb), if_pos ((wall_eq h hI b).2.mpr hb)]
  · rw [if_pos ((wall_eq h hI a).1.mpr ha), if_pos ((wall_eq h hI a).2.mpr ha)]
end CALLS6
