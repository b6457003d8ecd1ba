/-! THE TWO SIDES TOGETHER: square -/
theorem sq_le {a b : Int} (h0 : 0 ≤ a) (h : a ≤ b) : a * a ≤ b * b := Int.mul_le_mul h h h0 (by omega)
theorem sq_lt {a b : Int} (h0 : 0 ≤ a) (h : a < b) : a * a < b * b := by
  have h1 : a * a ≤ a * b := Int.mul_le_mul_of_nonneg_left (by omega) h0
  have h2 : a * b < b * b := Int.mul_lt_mul_of_pos_right h (by omega)
  omega
theorem sq_le' {a b : Int} (hb : 0 ≤ b) (h : a * a ≤ b * b) : a ≤ b := Classical.byContradiction fun c => by
  have := sq_lt hb (show b < a by omega)
  omega
theorem sq_lt' {a b : Int} (hb : 0 ≤ b) (h : a * a < b * b) : a < b := Classical.byContradiction fun c => by
  have := sq_le hb (show b ≤ a by omega)
  omega
theorem sq_nn (a : Int) : 0 ≤ a * a := by
  rcases Int.le_total 0 a with h | h
  · exact Int.mul_nonneg h h
  · exact Int.mul_nonneg_of_nonpos_of_nonpos h h
theorem ti_sq {a : Int32} (h0 : 0 ≤ a.toInt) (h1 : a.toInt ≤ 3000) : (a * a).toInt = a.toInt * a.toInt := by
  have q := sq_le h0 h1
  have q2 := sq_nn a.toInt
  exact ti_mul (by omega) (by omega)
theorem rt_sh : ∀ k : Fin 10, (nI (2 ^ (k.val + 1))) >>> ((1 : Int32) &&& 31) = nI (2 ^ k.val) := by decide
theorem rt_sh0 : (nI (2 ^ 0)) >>> ((1 : Int32) &&& 31) = 0 := by decide
theorem rt_nI : ∀ k : Fin 11, (nI (2 ^ k.val)).toInt = ((2 ^ k.val : Nat) : Int) := by decide
theorem rt_loop {v : Int32} : ∀ (k n : Nat) (r : Int32), k ≤ 10 → k + 2 ≤ n → 0 ≤ r.toInt → r.toInt + 2 * ((2 ^ k : Nat) : Int) ≤ 2048 → r.toInt * r.toInt ≤ v.toInt → v.toInt < (r.toInt + 2 * ((2 ^ k : Nat) : Int)) * (r.toInt + 2 * ((2 ^ k : Nat) : Int)) →
    ∃ m : Int, (g_X11_root_12 n v r (nI (2 ^ k))).toInt = m ∧ 0 ≤ m ∧ m ≤ 2047 ∧ m * m ≤ v.toInt ∧ v.toInt < (m + 1) * (m + 1)
  | k, 0, r, h1, h2, _, _, _, _ => by exfalso; omega
  | k, n + 1, r, h1, h2, h3, h4, h5, h6 => by
    show ∃ m : Int, (f_X11_root_12 (g_X11_root_12 n) v r (nI (2 ^ k))).toInt = m ∧ _
    have b := rt_nI ⟨k, by omega⟩
    simp only at b
    have bp : 0 < ((2 ^ k : Nat) : Int) := by exact_mod_cast Nat.two_pow_pos k
    unfold f_X11_root_12 f_X11_root_31
    rw [if_neg (show ¬ nI (2 ^ k) ≤ 0 by rw [ti_le, b, show (0 : Int32).toInt = 0 from rfl]; omega)]
    have s1 : (r + nI (2 ^ k)).toInt = r.toInt + ((2 ^ k : Nat) : Int) := by rw [ti_add (by rw [b]; omega) (by rw [b]; omega), b]
    have s2 : ((r + nI (2 ^ k)) * (r + nI (2 ^ k))).toInt = (r.toInt + ((2 ^ k : Nat) : Int)) * (r.toInt + ((2 ^ k : Nat) : Int)) := by rw [ti_sq (by omega) (by omega), s1]
    match k, h1, h2, h4, h6, bp, s1, s2 with
    | 0, h1, h2, h4, h6, bp, s1, s2 =>
      have fin : ∀ r' : Int32, g_X11_root_12 n v r' 0 = r' := by
        intro r'
        obtain ⟨n', rfl⟩ : ∃ n', n = n' + 1 := ⟨n - 1, by omega⟩
        show f_X11_root_12 (g_X11_root_12 n') v r' 0 = r'
        unfold f_X11_root_12
        rw [if_pos (by decide)]
      rw [rt_sh0, fin, fin]
      by_cases c : v < (r + nI (2 ^ 0)) * (r + nI (2 ^ 0))
      · rw [if_pos c]
        rw [ti_lt, s2] at c
        exact ⟨_, rfl, h3, by simp at h4; omega, h5, by simpa using c⟩
      · rw [if_neg c]
        rw [ti_lt, s2] at c
        have p0 : ((2 ^ 0 : Nat) : Int) = 1 := rfl
        refine ⟨_, rfl, by omega, by omega, ?_, ?_⟩
        · rw [s1]; omega
        · rw [s1]
          have : r.toInt + ((2 ^ 0 : Nat) : Int) + 1 = r.toInt + 2 * ((2 ^ 0 : Nat) : Int) := by simp; omega
          rw [this]; exact h6
    | k + 1, h1, h2, h4, h6, bp, s1, s2 =>
      have pw : ((2 ^ (k + 1) : Nat) : Int) = 2 * ((2 ^ k : Nat) : Int) := by rw [Nat.pow_succ]; simp; omega
      have bp' : 0 < ((2 ^ k : Nat) : Int) := by exact_mod_cast Nat.two_pow_pos k
      have e := rt_sh ⟨k, by omega⟩
      simp only at e
      rw [e]
      by_cases c : v < (r + nI (2 ^ (k + 1))) * (r + nI (2 ^ (k + 1)))
      · rw [if_pos c]
        rw [ti_lt, s2, pw] at c
        exact rt_loop k n r (by omega) (by omega) h3 (by omega) h5 c
      · rw [if_neg c]
        rw [ti_lt, s2] at c
        refine rt_loop k n _ (by omega) (by omega) (by omega) (by omega) (by rw [s1]; omega) ?_
        rw [s1]
        have : r.toInt + ((2 ^ (k + 1) : Nat) : Int) + 2 * ((2 ^ k : Nat) : Int) = r.toInt + 2 * ((2 ^ (k + 1) : Nat) : Int) := by omega
        rw [this]; exact h6
theorem root_nn {v : Int32} (h0 : 0 ≤ v.toInt) (h1 : v.toInt < 4194304) : ∃ m : Int, (f_X11_root v).toInt = m ∧ 0 ≤ m ∧ m ≤ 2047 ∧ m * m ≤ v.toInt ∧ v.toInt < (m + 1) * (m + 1) := by
  unfold f_X11_root
  rw [if_pos (show (0 : Int32) ≤ v by rw [ti_le]; simpa using h0)]
  exact rt_loop 10 1025 0 (by omega) (by omega) (by simp) (by simp) (by simpa using h0) (by simp; omega)
theorem root_neg {v : Int32} (h0 : v.toInt < 0) : (f_X11_root v).toInt = -1 := by
  unfold f_X11_root
  rw [if_neg (show ¬ (0 : Int32) ≤ v by rw [ti_le]; simp; omega)]
  rfl
def PSq (s : Int) : Prop := ∃ z : Int, 0 ≤ z ∧ z * z = s
theorem root_ps {v : Int32} (h0 : 0 ≤ v.toInt) (h1 : v.toInt < 4194304) : f_X11_root v * f_X11_root v = v ↔ PSq v.toInt := by
  obtain ⟨m, e, m0, m1, m2, m3⟩ := root_nn h0 h1
  have s : (f_X11_root v * f_X11_root v).toInt = m * m := by rw [ti_sq (by omega) (by omega), e]
  constructor
  · intro c
    exact ⟨m, m0, by rw [← s, c]⟩
  · rintro ⟨z, z0, ze⟩
    have a1 : z < m + 1 := sq_lt' (by omega) (by omega)
    have a2 : m ≤ z := sq_le' (by omega) (by omega)
    have a3 : z = m := by omega
    rw [ti_eq, s, ← ze, a3]
theorem sum_sq {x y : Int32} (x0 : 0 ≤ x.toInt) (x1 : x.toInt ≤ 1000) (y0 : 0 ≤ y.toInt) (y1 : y.toInt ≤ 1000) : (x * x + y * y).toInt = x.toInt * x.toInt + y.toInt * y.toInt ∧ 0 ≤ x.toInt * x.toInt + y.toInt * y.toInt ∧ x.toInt * x.toInt + y.toInt * y.toInt ≤ 2000000 := by
  have q1 := sq_le x0 x1
  have q2 := sq_le y0 y1
  have q3 := sq_nn x.toInt
  have q4 := sq_nn y.toInt
  refine ⟨?_, by omega, by omega⟩
  rw [ti_add (by rw [ti_sq x0 (by omega), ti_sq y0 (by omega)]; omega) (by rw [ti_sq x0 (by omega), ti_sq y0 (by omega)]; omega), ti_sq x0 (by omega), ti_sq y0 (by omega)]
theorem cc_in {K : St → Int32 → Int32 → Int32 → Int32 → Int32 → Int32} {τ : St} {a b le mo x to : Int32} (x0 : 0 ≤ x.toInt) (x1 : x.toInt ≤ 999) (t1 : to.toInt ≤ 999) : ∀ (n : Nat) (c : Int32), 0 ≤ c.toInt → c.toInt + (n : Int) ≥ to.toInt + 2 → 1 ≤ n → c.toInt ≤ 2000 →
    ((∃ y : Int, c.toInt ≤ y ∧ y ≤ to.toInt ∧ PSq (x.toInt * x.toInt + y * y)) ∧ g_X11_canBeCorner_125 K n τ a b le mo x to c = 1) ∨ ((¬ ∃ y : Int, c.toInt ≤ y ∧ y ≤ to.toInt ∧ PSq (x.toInt * x.toInt + y * y)) ∧ g_X11_canBeCorner_125 K n τ a b le mo x to c = K τ a b le mo (x + 1))
  | 0, c, h1, h2, h3, h4 => by exfalso; omega
  | n + 1, c, h1, h2, h3, h4 => by
    have st : g_X11_canBeCorner_125 K (n + 1) τ a b le mo x to c = f_X11_canBeCorner_125 K (g_X11_canBeCorner_125 K n) τ a b le mo x to c := rfl
    rw [st]
    unfold f_X11_canBeCorner_125
    by_cases q : to < c
    · rw [if_pos q]
      rw [ti_lt] at q
      exact Or.inr ⟨fun ⟨y, y1, y2, _⟩ => by omega, rfl⟩
    · rw [if_neg q]
      rw [ti_lt] at q
      obtain ⟨s1, s2, s3⟩ := sum_sq x0 (by omega) h1 (show c.toInt ≤ 1000 by omega)
      have rp := root_ps (v := x * x + c * c) (by omega) (by omega)
      rw [s1] at rp
      by_cases p : f_X11_root (x * x + c * c) * f_X11_root (x * x + c * c) = x * x + c * c
      · rw [if_pos p]
        exact Or.inl ⟨⟨c.toInt, by omega, by omega, rp.mp p⟩, rfl⟩
      · rw [if_neg p]
        have k : (c + 1).toInt = c.toInt + 1 := by rw [ti_add (by simp; omega) (by simp; omega)]; rfl
        rcases cc_in (K := K) (τ := τ) (a := a) (b := b) (le := le) (mo := mo) (x := x) (to := to) x0 x1 t1 n (c + 1) (by omega) (by omega) (by omega) (by omega) with ⟨⟨y, y1, y2, y3⟩, r⟩ | ⟨ny, r⟩
        · exact Or.inl ⟨⟨y, by omega, y2, y3⟩, r⟩
        · refine Or.inr ⟨fun ⟨y, y1, y2, y3⟩ => ?_, r⟩
          by_cases yc : y = c.toInt
          · rw [yc] at y3; exact p (rp.mpr y3)
          · exact ny ⟨y, by omega, y2, y3⟩
def CC (lb hb lc hc x : Int) : Prop := ∃ y z : Int, lb ≤ y ∧ y ≤ hb ∧ lc ≤ z ∧ z ≤ hc ∧ x * x + y * y = z * z
theorem cc_br {lb hb lc hc x fr to : Int} (l0 : 0 ≤ lb) (c0 : 0 ≤ lc) (hc0 : 0 ≤ hc) (f : ∀ y : Int, lb ≤ y → (fr ≤ y ↔ lc * lc ≤ x * x + y * y)) (f2 : lb ≤ fr) (t : ∀ y : Int, 0 ≤ y → (y ≤ to ↔ y ≤ hb ∧ x * x + y * y ≤ hc * hc)) : (∃ y : Int, fr ≤ y ∧ y ≤ to ∧ PSq (x * x + y * y)) ↔ CC lb hb lc hc x := by
  constructor
  · rintro ⟨y, y1, y2, z, z0, ze⟩
    have k1 := (f y (by omega)).mp y1
    have k2 := (t y (by omega)).mp y2
    exact ⟨y, z, by omega, k2.1, sq_le' z0 (by omega), sq_le' hc0 (by omega), ze.symm⟩
  · rintro ⟨y, z, y1, y2, z1, z2, e⟩
    have q1 := sq_le c0 z1
    have q2 := sq_le (show 0 ≤ z by omega) z2
    exact ⟨y, (f y y1).mpr (by omega), (t y (by omega)).mpr ⟨y2, by omega⟩, z, by omega, e.symm⟩
section CALLS5
variable {τ σ : St}
theorem cc_out {a b : Int32} {lc hc : Int32} (ca : (0 : Int) ≤ (τ 26 (ix a)).toInt ∧ (τ 26 (ix a)).toInt ≤ (τ 27 (ix a)).toInt ∧ (τ 27 (ix a)).toInt ≤ 999) (cb : (0 : Int) ≤ (τ 26 (ix b)).toInt ∧ (τ 26 (ix b)).toInt ≤ (τ 27 (ix b)).toInt ∧ (τ 27 (ix b)).toInt ≤ 999) (c0 : 0 ≤ lc.toInt) (c1 : lc.toInt ≤ hc.toInt) (c2 : hc.toInt ≤ 999) : ∀ (n : Nat) (x : Int32), 0 ≤ x.toInt → x.toInt ≤ 1000 → x.toInt + (n : Int) ≥ (τ 27 (ix a)).toInt + 2 → 1 ≤ n →
    ((∃ x' : Int, x.toInt ≤ x' ∧ x' ≤ (τ 27 (ix a)).toInt ∧ CC (τ 26 (ix b)).toInt (τ 27 (ix b)).toInt lc.toInt hc.toInt x') ∧ g_X11_canBeCorner_53 n τ a b (lc * lc) (hc * hc) x = 1) ∨ ((¬ ∃ x' : Int, x.toInt ≤ x' ∧ x' ≤ (τ 27 (ix a)).toInt ∧ CC (τ 26 (ix b)).toInt (τ 27 (ix b)).toInt lc.toInt hc.toInt x') ∧ g_X11_canBeCorner_53 n τ a b (lc * lc) (hc * hc) x = 0)
  | 0, x, h1, h2, h3, h4 => by exfalso; omega
  | n + 1, x, h1, h2, h3, h4 => by
    have st : g_X11_canBeCorner_53 (n + 1) τ a b (lc * lc) (hc * hc) x = f_X11_canBeCorner_53 (g_X11_canBeCorner_53 n) τ a b (lc * lc) (hc * hc) x := rfl
    rw [st]
    unfold f_X11_canBeCorner_53
    by_cases q : τ 27 (ix a) < x
    · rw [if_pos q]
      rw [ti_lt] at q
      exact Or.inr ⟨fun ⟨x', y1, y2, _⟩ => by omega, rfl⟩
    rw [if_neg q]
    rw [ti_lt] at q
    have sx := ti_sq (a := x) h1 (by omega)
    have sl := ti_sq (a := lc) c0 (by omega)
    have sh := ti_sq (a := hc) (by omega) (by omega)
    have bx := sq_le h1 (show x.toInt ≤ 1000 by omega)
    have bx0 := sq_nn x.toInt
    have bl := sq_le c0 (show lc.toInt ≤ 1000 by omega)
    have bl0 := sq_nn lc.toInt
    have bh := sq_le (show 0 ≤ hc.toInt by omega) (show hc.toInt ≤ 1000 by omega)
    have bh0 := sq_nn hc.toInt
    have d1 : (lc * lc - x * x).toInt = lc.toInt * lc.toInt - x.toInt * x.toInt := by rw [ti_sub (by omega) (by omega), sl, sx]
    have d2 : (lc * lc - x * x - 1).toInt = lc.toInt * lc.toInt - x.toInt * x.toInt - 1 := by rw [ti_sub (by rw [d1]; simp; omega) (by rw [d1]; simp; omega), d1]; rfl
    have d3 : (hc * hc - x * x).toInt = hc.toInt * hc.toInt - x.toInt * x.toInt := by rw [ti_sub (by omega) (by omega), sh, sx]
    generalize hR : f_X11_root (lc * lc - x * x - 1) = R
    generalize hS : f_X11_root (hc * hc - x * x) = S
    have fR : -1 ≤ R.toInt ∧ R.toInt ≤ 2047 ∧ ∀ y : Int, 0 ≤ y → (R.toInt + 1 ≤ y ↔ lc.toInt * lc.toInt ≤ x.toInt * x.toInt + y * y) := by
      rcases Int.lt_or_le (lc * lc - x * x - 1).toInt 0 with z | z
      · have r := root_neg z
        rw [hR] at r
        refine ⟨by omega, by omega, fun y y0 => ?_⟩
        have := sq_nn y
        omega
      · obtain ⟨m, e, m0, m1, m2, m3⟩ := root_nn z (by omega)
        rw [hR] at e
        refine ⟨by omega, by omega, fun y y0 => ⟨fun k => ?_, fun k => ?_⟩⟩
        · have := sq_le (show 0 ≤ m + 1 by omega) (show m + 1 ≤ y by omega)
          omega
        · have := sq_lt' (a := m) (b := y) y0 (by omega)
          omega
    have fS : -1 ≤ S.toInt ∧ S.toInt ≤ 2047 ∧ ∀ y : Int, 0 ≤ y → (y ≤ S.toInt ↔ x.toInt * x.toInt + y * y ≤ hc.toInt * hc.toInt) := by
      rcases Int.lt_or_le (hc * hc - x * x).toInt 0 with z | z
      · have r := root_neg z
        rw [hS] at r
        refine ⟨by omega, by omega, fun y y0 => ?_⟩
        have := sq_nn y
        omega
      · obtain ⟨m, e, m0, m1, m2, m3⟩ := root_nn z (by omega)
        rw [hS] at e
        refine ⟨by omega, by omega, fun y y0 => ⟨fun k => ?_, fun k => ?_⟩⟩
        · have := sq_le y0 (show y ≤ m by omega)
          omega
        · have := sq_lt' (a := y) (b := m + 1) (by omega) (by omega)
          omega
    have rp : (R + 1).toInt = R.toInt + 1 := by rw [ti_add (by simp; omega) (by simp; omega)]; rfl
    generalize hT : (if S < τ 27 (ix b) then S else τ 27 (ix b)) = T
    generalize hF : (if τ 26 (ix b) < R + 1 then R + 1 else τ 26 (ix b)) = F
    have tT : T.toInt = if S.toInt < (τ 27 (ix b)).toInt then S.toInt else (τ 27 (ix b)).toInt := by
      rw [← hT]
      simp only [ti_lt]
      split <;> rfl
    have tF : F.toInt = if (τ 26 (ix b)).toInt < R.toInt + 1 then R.toInt + 1 else (τ 26 (ix b)).toInt := by
      rw [← hF]
      simp only [ti_lt, rp]
      split
      · exact rp
      · rfl
    have br := cc_br (lb := (τ 26 (ix b)).toInt) (hb := (τ 27 (ix b)).toInt) (lc := lc.toInt) (hc := hc.toInt) (x := x.toInt) (fr := F.toInt) (to := T.toInt) (by omega) c0 (by omega) (fun y y0 => by
        have := fR.2.2 y (by omega)
        rw [← this, tF]
        split <;> omega) (by rw [tF]; split <;> omega) (fun y y0 => by
        have := fS.2.2 y y0
        rw [← this, tT]
        split <;> omega)
    have k : (x + 1).toInt = x.toInt + 1 := by rw [ti_add (by simp; omega) (by simp; omega)]; rfl
    have F0 : 0 ≤ F.toInt ∧ F.toInt ≤ 2000 ∨ 2000 < F.toInt := by
      rw [tF]; split <;> omega
    have F2 : F.toInt ≤ 1001 := by
      rw [tF]
      split
      · have := (fR.2.2 1000 (by omega))
        omega
      · omega
    have T2 : T.toInt ≤ 999 := by
      rw [tT]
      split <;> omega
    rcases cc_in (K := g_X11_canBeCorner_53 n) (τ := τ) (a := a) (b := b) (le := lc * lc) (mo := hc * hc) (x := x) (to := T) h1 (by omega) T2 1001 F (by omega) (by omega) (by omega) (by omega) with ⟨y, r⟩ | ⟨ny, r⟩
    · exact Or.inl ⟨⟨x.toInt, by omega, by omega, br.mp y⟩, r⟩
    · have ny' : ¬ CC (τ 26 (ix b)).toInt (τ 27 (ix b)).toInt lc.toInt hc.toInt x.toInt := fun z => ny (br.mpr z)
      rw [r]
      rcases cc_out (a := a) (b := b) (lc := lc) (hc := hc) ca cb c0 c1 c2 n (x + 1) (by omega) (by omega) (by omega) (by omega) with ⟨⟨x', y1, y2, y3⟩, r⟩ | ⟨nx, r⟩
      · exact Or.inl ⟨⟨x', by omega, y2, y3⟩, r⟩
      · refine Or.inr ⟨fun ⟨x', y1, y2, y3⟩ => ?_, r⟩
        by_cases yc : x' = x.toInt
        · rw [yc] at y3; exact ny' y3
        · exact nx ⟨x', by omega, y2, y3⟩
end CALLS5
