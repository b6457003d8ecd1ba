/-! THE TWO SIDES TOGETHER: fractions, odds, mean, spread, looked -/
theorem two_mod {y r : Int} (h1 : 0 < r) (h2 : r < y) : 2 * (y % r) < y := by
  have q1 := Int.emod_lt_of_pos y h1
  have q2 := Int.emod_nonneg y (Int.ne_of_gt h1)
  have q3 := Int.mul_ediv_add_emod y r
  have q4 : 1 ≤ y / r := Int.le_ediv_of_mul_le h1 (by omega)
  have q5 : r * 1 ≤ r * (y / r) := Int.mul_le_mul_of_nonneg_left q4 (by omega)
  omega
theorem fr_end {a0 a2 x : Int64} {a4 : Int32} {c : Int32} {n m : Nat} (hx : ¬ x.toInt = 0) : g_X11_fraction_24 (n + 1) a0 a2 a4 x 0 c = g_X12_lowest_6 (m + 1) a0 a2 a4 x 0 := by
  show f_X11_fraction_24 (g_X11_fraction_24 n) a0 a2 a4 x 0 c = f_X12_lowest_6 (g_X12_lowest_6 m) a0 a2 a4 x 0
  have hx' : ¬ x = 0 := fun z => hx (by rw [z]; rfl)
  have k : ¬ lg_cmp x 0 = 0 := fun z => hx' (lcmp0.mp z)
  unfold f_X11_fraction_24 f_X12_lowest_6 f_X11_fraction_59
  rw [if_pos (lcmp0.mpr rfl), if_pos (lcmp0.mpr rfl), if_neg k]
  split <;> rfl
theorem fr_step {a0 a2 x y : Int64} {a4 : Int32} {c : Int32} {n m : Nat} (hy : ¬ y.toInt = 0) (hc : ¬ 100 ≤ c.toInt) : g_X11_fraction_24 (n + 1) a0 a2 a4 x y c = g_X11_fraction_24 n a0 a2 a4 y (x - x / y * y) (c + 1) ∧ g_X12_lowest_6 (m + 1) a0 a2 a4 x y = g_X12_lowest_6 m a0 a2 a4 y (x - x / y * y) := by
  have hy' : ¬ y = 0 := fun z => hy (by rw [z]; rfl)
  have k : ¬ lg_cmp y 0 = 0 := fun z => hy' (lcmp0.mp z)
  constructor
  · show f_X11_fraction_24 (g_X11_fraction_24 n) a0 a2 a4 x y c = _
    unfold f_X11_fraction_24
    rw [if_neg (by rw [ti_le]; exact hc), if_neg k]
  · show f_X12_lowest_6 (g_X12_lowest_6 m) a0 a2 a4 x y = _
    unfold f_X12_lowest_6
    rw [if_neg k]
theorem l0 {y : Int64} (h : y.toInt = 0) : y = 0 := by rw [← Int64.toInt_inj, h]; rfl
theorem fr_eq {a0 a2 : Int64} {a4 : Int32} : ∀ (k n m : Nat) (x y : Int64) (c : Int32), 0 ≤ x.toInt → 0 ≤ y.toInt → y.toInt < 2 ^ k → 0 ≤ c.toInt → c.toInt + 2 * (k : Int) ≤ 99 → 2 * k + 1 ≤ n → y.toInt + 1 ≤ (m : Int) → (y.toInt = 0 → ¬ x.toInt = 0) → g_X11_fraction_24 n a0 a2 a4 x y c = g_X12_lowest_6 m a0 a2 a4 x y
  | k, 0, m, x, y, c, h1, h2, h3, hc, h4, h5, h6, h7 => by exfalso; omega
  | k, n + 1, 0, x, y, c, h1, h2, h3, hc, h4, h5, h6, h7 => by exfalso; omega
  | 0, n + 1, m + 1, x, y, c, h1, h2, h3, hc, h4, h5, h6, h7 => by
    have z : y.toInt = 0 := by simp at h3; omega
    have h7 := h7 z
    rw [l0 z]
    exact fr_end h7
  | k + 1, n + 1, m + 1, x, y, c, h1, h2, h3, hc, h4, h5, h6, h7 => by
    by_cases z : y.toInt = 0
    · have h7 := h7 z
      rw [l0 z]
      exact fr_end h7
    obtain ⟨s1, s2⟩ := fr_step (a0 := a0) (a2 := a2) (a4 := a4) (x := x) (n := n) (m := m) z (show ¬ 100 ≤ c.toInt by omega)
    have c1 : (c + 1).toInt = c.toInt + 1 := by rw [ti_add (by simp; omega) (by simp; omega)]; rfl
    have r1 := lrem_toInt (x := x) (y := y) h1 (by omega)
    have r2 := Int.emod_lt_of_pos x.toInt (show 0 < y.toInt by omega)
    have r3 := Int.emod_nonneg x.toInt z
    rw [s1, s2]
    by_cases w : (x - x / y * y).toInt = 0
    · rw [l0 w]
      obtain ⟨n', rfl⟩ : ∃ n', n = n' + 1 := ⟨n - 1, by omega⟩
      obtain ⟨m', rfl⟩ : ∃ m', m = m' + 1 := ⟨m - 1, by omega⟩
      exact fr_end z
    obtain ⟨n', rfl⟩ : ∃ n', n = n' + 1 := ⟨n - 1, by omega⟩
    obtain ⟨m', rfl⟩ : ∃ m', m = m' + 1 := ⟨m - 1, by omega⟩
    obtain ⟨t1, t2⟩ := fr_step (a0 := a0) (a2 := a2) (a4 := a4) (x := y) (n := n') (m := m') w (show ¬ 100 ≤ (c + 1).toInt by omega)
    rw [t1, t2]
    generalize hr : x - x / y * y = r at *
    have u1 := lrem_toInt (x := y) (y := r) (by omega) (by omega)
    have u2 := two_mod (y := y.toInt) (r := r.toInt) (by omega) (by omega)
    have u3 := Int.emod_nonneg y.toInt w
    have c2 : (c + 1 + 1).toInt = c.toInt + 2 := by rw [ti_add (by rw [c1]; simp; omega) (by rw [c1]; simp; omega), c1]; simp; omega
    have p2 : (2 : Int) ^ (k + 1) = 2 ^ k * 2 := Int.pow_succ 2 k
    exact fr_eq k n' m' r _ (c + 1 + 1) (by omega) (by omega) (by omega) (by omega) (by omega) (by omega) (by omega) (fun _ => w)
theorem frac_low {a0 a2 : Int64} {a4 : Int32} (h4 : a4 = 0 ∨ a4 = 1) (h0 : 0 ≤ a0.toInt) (h2 : 0 < a2.toInt) (h3 : a2.toInt < 4096) : f_X11_fraction a0 a2 a4 = f_X12_lowest a0 a2 a4 := by
  unfold f_X11_fraction f_X12_lowest
  rw [if_neg (by rcases h4 with rfl | rfl <;> decide), if_pos (by rcases h4 with rfl | rfl <;> decide)]
  exact fr_eq 12 101 _ a0 a2 0 h0 (by omega) (by simp; omega) (by simp) (by simp) (by decide) (by omega) (fun z => by omega)
theorem frac_no {a0 a2 : Int64} {a4 : Int32} (h4 : ¬ (a4 = 0 ∨ a4 = 1)) : f_X11_fraction a0 a2 a4 = -9223372036854775808 := by
  unfold f_X11_fraction
  simp only [ti_eq, ti_lt, ti_le, Int32.reduceToInt] at *
  (repeat' split) <;> first | rfl | (exfalso; omega)
theorem in01 {a : Int32} : f_X12_in a 0 1 = 0 ↔ ¬ (a = 0 ∨ a = 1) := by
  rw [in_iff]
  simp only [ti_eq, Int32.reduceToInt]
  omega
theorem i2l_add {a b : Int32} (h1 : -2147483648 ≤ a.toInt + b.toInt) (h2 : a.toInt + b.toInt ≤ 2147483647) : (a + b).toInt64 = a.toInt64 + b.toInt64 := by
  rw [← Int64.toInt_inj, i2l_toInt, ti_add h1 h2, Int64.toInt_add, i2l_toInt, i2l_toInt]
  exact (Int.bmod_eq_of_le (by omega) (by omega)).symm
theorem i2l_mul {a b : Int32} (h1 : -2147483648 ≤ a.toInt * b.toInt) (h2 : a.toInt * b.toInt ≤ 2147483647) : (a * b).toInt64 = a.toInt64 * b.toInt64 := by
  rw [← Int64.toInt_inj, i2l_toInt, ti_mul h1 h2, Int64.toInt_mul, i2l_toInt, i2l_toInt]
  exact (Int.bmod_eq_of_le (by omega) (by omega)).symm
section CALLS4
variable {τ σ : St}
theorem wl_at (h : RN 20 τ (σ 1)) (hI : IB (σ 1)) {c : Int32} (h0 : 0 ≤ c.toInt) (h1 : c.toInt < (σ 1 1).toInt) : τ 26 (ix c) = σ 1 (ix (51 + c)) ∧ τ 27 (ix c) = σ 1 (ix (57 + c)) ∧ (0 ≤ (σ 1 (ix (51 + c))).toInt ∧ (σ 1 (ix (51 + c))).toInt ≤ (σ 1 (ix (57 + c))).toInt ∧ (σ 1 (ix (57 + c))).toInt ≤ 999) ∧ (c + 1).toInt = c.toInt + 1 := by
  have b1 := hI.2.1
  have i1 : ix (51 + c) = 51 + ix c := ixS (n := 51) rfl (by omega) (by decide) (by omega)
  have i2 : ix (57 + c) = 57 + ix c := ixS (n := 57) rfl (by omega) (by decide) (by omega)
  have i3 : ix c < 6 := ix_lt (by omega) (by omega)
  have g := IB_w hI h0 (by omega)
  refine ⟨?_, ?_, g, by rw [ti_add (by simp; omega) (by simp; omega)]; rfl⟩
  · rw [i1]; exact h.lo _ i3
  · rw [i2]; exact h.hi _ i3
theorem gap_at (h : RN 20 τ (σ 1)) (hI : IB (σ 1)) {c : Int32} (h0 : 0 ≤ c.toInt) (h1 : c.toInt < (σ 1 1).toInt) : f_X5_gap τ c = f_X12_gapOf σ c ∧ (f_X12_gapOf σ c).toInt = (σ 1 (ix (57 + c))).toInt - (σ 1 (ix (51 + c))).toInt := by
  obtain ⟨e1, e2, g, _⟩ := wl_at h hI h0 h1
  unfold f_X5_gap f_X12_gapOf
  rw [e1, e2]
  exact ⟨rfl, ti_sub (by omega) (by omega)⟩
theorem q_odds (h : RN 20 τ (σ 1)) (hI : IB (σ 1)) (a b c : Int32) : f_X11_odds τ a b c = f_X12_odds σ a b c := by
  unfold f_X11_odds f_X12_odds
  by_cases w : 0 ≤ a.toInt ∧ a.toInt < (σ 1 1).toInt
  · rw [if_neg (fun z => (wall_eq h hI a).1.mp z w), if_neg (fun z => (wall_eq h hI a).2.mp z w)]
    obtain ⟨e1, e2, g, _⟩ := wl_at h hI w.1 w.2
    obtain ⟨g1, g2⟩ := gap_at h hI w.1 w.2
    by_cases l : 0 ≤ b.toInt ∧ b.toInt ≤ 999
    · rw [if_neg (show ¬ b < 0 by rw [ti_lt]; simp; omega), if_pos (show b ≤ 999 by rw [ti_le]; simp; omega), if_neg (show ¬ f_X12_in b 0 999 = 0 by rw [in_iff]; simp; omega)]
      by_cases p : c = 0 ∨ c = 1
      · rw [if_neg (show ¬ f_X12_in c 0 1 = 0 by rw [in01]; exact fun z => z p), g1, e1]
        have k1 : (f_X12_gapOf σ a + 1).toInt = (σ 1 (ix (57 + a))).toInt - (σ 1 (ix (51 + a))).toInt + 1 := by rw [ti_add (by rw [g2]; simp; omega) (by rw [g2]; simp; omega), g2]; rfl
        have k2 : (b - σ 1 (ix (51 + a))).toInt = b.toInt - (σ 1 (ix (51 + a))).toInt := ti_sub (by omega) (by omega)
        have k3 : (b - σ 1 (ix (51 + a)) + 1).toInt = b.toInt - (σ 1 (ix (51 + a))).toInt + 1 := by rw [ti_add (by rw [k2]; simp; omega) (by rw [k2]; simp; omega), k2]; rfl
        have k4 : (if 0 < (if b - σ 1 (ix (51 + a)) + 1 < f_X12_gapOf σ a + 1 then b - σ 1 (ix (51 + a)) + 1 else f_X12_gapOf σ a + 1) then (if b - σ 1 (ix (51 + a)) + 1 < f_X12_gapOf σ a + 1 then b - σ 1 (ix (51 + a)) + 1 else f_X12_gapOf σ a + 1) else (0 : Int32)) = f_X12_greater 0 (f_X12_lesser b (σ 1 (ix (57 + a))) - σ 1 (ix (51 + a)) + 1) := by
          unfold f_X12_greater f_X12_lesser
          have k5 : (σ 1 (ix (57 + a)) - σ 1 (ix (51 + a)) + 1).toInt = (σ 1 (ix (57 + a))).toInt - (σ 1 (ix (51 + a))).toInt + 1 := k1
          simp only [ti_lt, ti_le, Int32.reduceToInt]
          rw [ti_eq]
          rw [k1, k3]
          (repeat' split) <;> first | omega | (rw [k1, k5]) | (exfalso; omega) | (rw [ti_sub (by omega) (by omega)] at *; omega) | (rw [show Int32.toInt 0 = 0 from rfl]; omega) | skip
        rw [k4]
        refine frac_low p ?_ ?_ ?_
        · rw [i2l_toInt]
          unfold f_X12_greater
          split
          · rename_i z; exact ti_le.mp z
          · simp
        · rw [i2l_toInt]; omega
        · rw [i2l_toInt]; omega
      · rw [if_pos (in01.mpr p), frac_no p]
    · rw [if_pos (show f_X12_in b 0 999 = 0 by rw [in_iff]; simpa using l)]
      simp only [ti_lt, ti_le, Int32.reduceToInt]
      (repeat' split) <;> first | rfl | (exfalso; omega)
  · rw [if_pos ((wall_eq h hI a).1.mpr w), if_pos ((wall_eq h hI a).2.mpr w)]
theorem mean_loop (h : RN 20 τ (σ 1)) (hI : IB (σ 1)) {p : Int32} (hp : p = 0 ∨ p = 1) (h0 : 0 < (σ 1 1).toInt) : ∀ (n : Nat) (s c : Int32), 0 ≤ c.toInt → c.toInt + (n : Int) ≥ (σ 1 1).toInt + 1 → c.toInt ≤ (σ 1 1).toInt → 0 ≤ s.toInt → s.toInt ≤ 1998 * c.toInt → g_X11_mean_18 n τ p s c = g_X12_mean_27 n σ p s.toInt64 c
  | 0, s, c, h1, h2, h3, _, _ => by exfalso; omega
  | n + 1, s, c, h1, h2, h3, h4, h5 => by
    show f_X11_mean_18 (g_X11_mean_18 n) τ p s c = f_X12_mean_27 (g_X12_mean_27 n) σ p s.toInt64 c
    have b1 := hI.2.1
    have e : τ 28 0 = σ 1 1 := h.n1
    unfold f_X11_mean_18 f_X12_mean_27
    rw [e]
    by_cases q : σ 1 1 ≤ c
    · rw [if_pos q, if_pos q, i2l_mul (by simp; omega) (by simp; omega)]
      have z : ((2 : Int32).toInt64 * (σ 1 1).toInt64).toInt = 2 * (σ 1 1).toInt := by
        rw [← i2l_mul (by simp; omega) (by simp; omega), i2l_toInt, ti_mul (by simp; omega) (by simp; omega)]; rfl
      exact frac_low hp (by rw [i2l_toInt]; exact h4) (by rw [z]; omega) (by rw [z]; omega)
    · rw [if_neg q, if_neg q]
      have q' : c.toInt < (σ 1 1).toInt := by rw [ti_le] at q; omega
      obtain ⟨e1, e2, g, k⟩ := wl_at h hI h1 q'
      have z : (σ 1 (ix (51 + c)) + σ 1 (ix (57 + c))).toInt = (σ 1 (ix (51 + c))).toInt + (σ 1 (ix (57 + c))).toInt := ti_add (by omega) (by omega)
      have z2 : (s + (σ 1 (ix (51 + c)) + σ 1 (ix (57 + c)))).toInt = s.toInt + ((σ 1 (ix (51 + c))).toInt + (σ 1 (ix (57 + c))).toInt) := by rw [ti_add (by omega) (by omega), z]
      rw [e1, e2, ← i2l_add (by omega) (by omega)]
      exact mean_loop h hI hp h0 n _ (c + 1) (by omega) (by omega) (by omega) (by omega) (by omega)
theorem mean_no (p : Int32) (hp : ¬ (p = 0 ∨ p = 1)) : ∀ (n : Nat) (s c : Int32), 0 ≤ c.toInt → c.toInt + (n : Int) ≥ (τ 28 0).toInt + 1 → (τ 28 0).toInt ≤ 6 → c.toInt ≤ (τ 28 0).toInt → g_X11_mean_18 n τ p s c = -9223372036854775808
  | 0, s, c, h1, h2, _, _ => by exfalso; omega
  | n + 1, s, c, h1, h2, h3, h4 => by
    show f_X11_mean_18 (g_X11_mean_18 n) τ p s c = _
    unfold f_X11_mean_18
    by_cases q : τ 28 0 ≤ c
    · rw [if_pos q, frac_no hp]
    · rw [if_neg q]
      have q' : c.toInt < (τ 28 0).toInt := by rw [ti_le] at q; omega
      have k : (c + 1).toInt = c.toInt + 1 := by rw [ti_add (by simp; omega) (by simp; omega)]; rfl
      exact mean_no p hp n _ (c + 1) (by omega) (by omega) h3 (by omega)
theorem q_mean (h : RN 20 τ (σ 1)) (hI : IB (σ 1)) (p : Int32) : f_X11_mean τ p = f_X12_mean σ p := by
  have b1 := hI.2.1
  have e : τ 28 0 = σ 1 1 := h.n1
  unfold f_X11_mean f_X12_mean
  rw [e]
  by_cases z : σ 1 1 = 0
  · rw [if_pos z, if_pos z]
    split <;> rfl
  · rw [if_neg z, if_neg z]
    have z' : ¬ (σ 1 1).toInt = 0 := fun w => z (by rw [ti_eq, w]; rfl)
    by_cases hp : p = 0 ∨ p = 1
    · rw [if_neg (fun w => in01.mp w hp)]
      exact mean_loop h hI hp (by omega) 7 0 0 (by simp) (by simp; omega) (by simp; omega) (by simp) (by simp)
    · rw [if_pos (in01.mpr hp)]
      exact mean_no p hp 7 0 0 (by simp) (by rw [e]; simp; omega) (by rw [e]; omega) (by rw [e]; simp; omega)
theorem spread_loop (h : RN 20 τ (σ 1)) (hI : IB (σ 1)) : ∀ (n : Nat) (b g c : Int32), 0 ≤ c.toInt → c.toInt ≤ (σ 1 1).toInt → ((b = -5 ∧ g = -1) ∨ (0 ≤ b.toInt ∧ b.toInt < c.toInt ∧ g = f_X12_gapOf σ b)) → g_X11_spread_7 n τ b g c = g_X12_spread_5 n σ b c
  | 0, b, g, c, h1, h2, h3 => rfl
  | n + 1, b, g, c, h1, h2, h3 => by
    show f_X11_spread_7 (g_X11_spread_7 n) τ b g c = f_X12_spread_5 (g_X12_spread_5 n) σ b c
    have b1 := hI.2.1
    have e : τ 28 0 = σ 1 1 := h.n1
    unfold f_X11_spread_7 f_X12_spread_5 f_X11_spread_41
    rw [e]
    by_cases q : σ 1 1 ≤ c
    · rw [if_pos q, if_pos q]
    · rw [if_neg q, if_neg q]
      have q' : c.toInt < (σ 1 1).toInt := by rw [ti_le] at q; omega
      obtain ⟨e1, e2, w, k⟩ := wl_at h hI h1 q'
      obtain ⟨g1, g2⟩ := gap_at h hI h1 q'
      rw [g1]
      rcases h3 with ⟨rfl, rfl⟩ | ⟨p1, p2, rfl⟩
      · rw [if_neg (by rw [ti_le, g2]; simp; omega), if_pos rfl]
        exact spread_loop h hI n _ _ (c + 1) (by omega) (by omega) (Or.inr ⟨by omega, by omega, rfl⟩)
      · rw [if_neg (show ¬ b = -5 by rw [ti_eq]; simp; omega)]
        by_cases y : f_X12_gapOf σ c ≤ f_X12_gapOf σ b
        · rw [if_pos y, if_pos y]
          exact spread_loop h hI n _ _ (c + 1) (by omega) (by omega) (Or.inr ⟨by omega, by omega, rfl⟩)
        · rw [if_neg y, if_neg y]
          exact spread_loop h hI n _ _ (c + 1) (by omega) (by omega) (Or.inr ⟨by omega, by omega, rfl⟩)
theorem q_spread (h : RN 20 τ (σ 1)) (hI : IB (σ 1)) : f_X11_spread τ = f_X12_spread σ := spread_loop h hI 7 (-5) (-1) 0 (by simp) (by simp; exact hI.2.1.1) (Or.inl ⟨rfl, rfl⟩)
theorem looked_loop (h : RN 20 τ (σ 1)) (hI : IB (σ 1)) : ∀ (n : Nat) (c : Int32), 0 ≤ c.toInt → g_X11_looked_2 n τ c = g_X12_looked_2 n σ c
  | 0, c, h1 => rfl
  | n + 1, c, h1 => by
    show f_X11_looked_2 (g_X11_looked_2 n) τ c = f_X12_looked_2 (g_X12_looked_2 n) σ c
    have b1 := hI.2.1
    have b5 := hI.2.2.2.2.2.1
    have e : τ 37 0 = σ 1 5 := h.n5
    unfold f_X11_looked_2 f_X12_looked_2 f_X11_looked_78
    rw [e]
    by_cases q : σ 1 5 ≤ c
    · rw [if_pos q, if_pos q]
    · rw [if_neg q, if_neg q]
      have q' : c.toInt < (σ 1 5).toInt := by rw [ti_le] at q; omega
      have i1 : ix (85 + c) = 85 + ix c := ixS (n := 85) rfl (by omega) (by decide) (by omega)
      have i2 : ix (93 + c) = 93 + ix c := ixS (n := 93) rfl (by omega) (by decide) (by omega)
      have i3 : ix c < 8 := ix_lt (by omega) (by omega)
      have w := IB_b hI h1 q'
      have e1 : τ 35 (ix c) = σ 1 (ix (85 + c)) := by rw [i1]; exact h.bw _ i3
      have e2 : τ 36 (ix c) = σ 1 (ix (93 + c)) := by rw [i2]; exact h.bl _ i3
      rw [e1, e2]
      generalize σ 1 (ix (85 + c)) = wl at w
      obtain ⟨f1, f2, g, _⟩ := wl_at h hI w.1 w.2
      have k : (c + 1).toInt = c.toInt + 1 := by rw [ti_add (by simp; omega) (by simp; omega)]; rfl
      rw [if_neg (fun z => (wall_eq h hI wl).1.mp z w), f1, f2, looked_loop h hI n (c + 1) (by omega)]
      simp only [in_iff]
      simp only [ti_lt, ti_le]
      (repeat' split) <;> first | rfl | (exfalso; omega)
theorem q_looked (h : RN 20 τ (σ 1)) (hI : IB (σ 1)) : f_X11_looked τ = f_X12_looked σ := looked_loop h hI 9 0 (by simp)
end CALLS4
