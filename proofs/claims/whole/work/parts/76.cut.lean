/-! THE TWO SIDES TOGETHER: cut, cost -/
def tri : Nat → Nat
  | 0 => 0
  | n + 1 => tri n + (n + 1)
theorem tri_2 : ∀ n : Nat, tri n * 2 = n * (n + 1)
  | 0 => rfl
  | n + 1 => by
    show (tri n + (n + 1)) * 2 = (n + 1) * (n + 1 + 1)
    have := tri_2 n
    rw [Nat.add_mul, this, Nat.mul_comm n (n + 1), ← Nat.mul_add]
theorem tri_d (n : Nat) : n * (n + 1) / 2 = tri n := by
  have := tri_2 n
  omega
theorem tri_60 {n : Nat} (h : n ≤ 60) : tri n ≤ 1830 := by
  have h2 := tri_2 n
  have : n * (n + 1) ≤ 60 * 61 := Nat.mul_le_mul h (by omega)
  omega
theorem l_mul {x y : Int64} {a b : Int} (hx : x.toInt = a) (hy : y.toInt = b) (h1 : -9223372036854775808 ≤ a * b) (h2 : a * b ≤ 9223372036854775807) : (x * y).toInt = a * b := by
  rw [Int64.toInt_mul, hx, hy]
  exact Int.bmod_eq_of_le (by omega) (by omega)
theorem l_add {x y : Int64} {a b : Int} (hx : x.toInt = a) (hy : y.toInt = b) (h1 : -9223372036854775808 ≤ a + b) (h2 : a + b ≤ 9223372036854775807) : (x + y).toInt = a + b := by
  rw [Int64.toInt_add, hx, hy]
  exact Int.bmod_eq_of_le (by omega) (by omega)
theorem l_div2 {x : Int64} {a : Int} (hx : x.toInt = a) (h : 0 ≤ a) : (x / 2).toInt = a / 2 := by
  obtain ⟨k, hk, rfl⟩ := lof (x := x) (by omega)
  rw [pk_lT hk] at hx
  rw [show (2 : Int64) = lN 2 from rfl, pk_lDiv hk (by omega) (by omega), pk_lT (by omega), ← hx]
  omega
theorem cmp_lt {x y : Int64} : lg_cmp x y < 0 ↔ x.toInt < y.toInt := by
  have e1 : x > y ↔ y.toInt < x.toInt := Int64.lt_iff_toInt_lt
  have e2 : x = y ↔ x.toInt = y.toInt := Int64.toInt_inj.symm
  unfold lg_cmp
  simp only [e1, e2]
  (repeat' split) <;> simp (decide := true) <;> omega
theorem cmp_ge {x y : Int64} : 0 ≤ lg_cmp x y ↔ y.toInt ≤ x.toInt := by
  have e1 : x > y ↔ y.toInt < x.toInt := Int64.lt_iff_toInt_lt
  have e2 : x = y ↔ x.toInt = y.toInt := Int64.toInt_inj.symm
  unfold lg_cmp
  simp only [e1, e2]
  (repeat' split) <;> simp (decide := true) <;> omega
section CUT
variable {ρ : RR} {dt : Nat → Nat → Int32} {τ σ : St}
theorem hold_eq (hK : RK 20 ρ dt (σ 1)) (hI : IB (σ 1)) : f_X5_board ρ dt τ = f_X12_tellsOf σ 201 40 ∧ f_X5_perStep ρ dt τ = f_X12_tellsOf σ 206 1 ∧ (0 ≤ (f_X12_tellsOf σ 201 40).toInt ∧ (f_X12_tellsOf σ 201 40).toInt ≤ 99) ∧ (0 ≤ (f_X12_tellsOf σ 206 1).toInt ∧ (f_X12_tellsOf σ 206 1).toInt ≤ 99) := by
  unfold f_X5_board f_X5_perStep f_X12_tellsOf
  rcases hK.2 with ⟨h1, h2⟩ | ⟨a, r, h1, hr, h2, h3, h4, _⟩
  · rw [if_pos h2, if_pos h2, if_pos h1, if_pos h1]
    exact ⟨rfl, rfl, by decide, by decide⟩
  · have h1' : ρ 22 0 = some a := h1
    have t7 : (nI r).toInt = r := ti_nI (by omega)
    have i1 : ix (201 + nI r) = 201 + r := by rw [ixS (n := 201) rfl (by omega) (by decide) (by omega)]; have := ti_ix (i := nI r) (by omega); omega
    have i2 : ix (206 + nI r) = 206 + r := by rw [ixS (n := 206) rfl (by omega) (by decide) (by omega)]; have := ti_ix (i := nI r) (by omega); omega
    have n7 : ¬ σ 1 7 = -1 := by rw [h2, ti_eq, t7]; simp
    have b1 := hI.2.2.2.2.2.2.2.2.2.2.2.2.2.2.2.2.2.2.2.1 r hr
    have b2 := hI.2.2.2.2.2.2.2.2.2.2.2.2.2.2.2.2.2.2.2.2.1 r hr
    have nn : ¬ (some a : Option Nat) = none := by simp
    rw [h1', if_neg nn, if_neg nn, if_neg n7, if_neg n7, h2, i1, i2]
    exact ⟨h3, h4, b1, b2⟩
theorem cost_2 {w cut : Int32} {B H : Int} (hB : (f_X12_tellsOf σ 201 40).toInt = B) (hB0 : 0 ≤ B) (hB1 : B ≤ 99) (hH : (σ 1 (ix (57 + w))).toInt = H) (hH1 : H ≤ 999) : ∀ (n k : Nat) (s c : Int32), c.toInt + (k : Int) = H + 1 → k + 1 ≤ n → cut.toInt < c.toInt → 0 ≤ c.toInt → 0 ≤ s.toInt → s.toInt + 99 * (k : Int) ≤ 100000000 → (g_X12_costOf_13 n σ w cut s c).toInt = s.toInt + B * (k : Int)
  | 0, k, s, c, h1, h2, h3, h4, h5, h6 => by exfalso; omega
  | n + 1, 0, s, c, h1, h2, h3, h4, h5, h6 => by
    show (f_X12_costOf_13 (g_X12_costOf_13 n) σ w cut s c).toInt = _
    unfold f_X12_costOf_13
    rw [if_pos (by rw [ti_lt, hH]; omega)]
    simp
  | n + 1, k + 1, s, c, h1, h2, h3, h4, h5, h6 => by
    show (f_X12_costOf_13 (g_X12_costOf_13 n) σ w cut s c).toInt = _
    unfold f_X12_costOf_13
    have ci := inc h4 (by omega)
    have sp : (s + f_X12_tellsOf σ 201 40).toInt = s.toInt + B := by rw [ti_add (by omega) (by omega), hB]
    rw [if_neg (by rw [ti_lt, hH]; omega), if_neg (show ¬ c ≤ cut by rw [ti_le]; omega), cost_2 hB hB0 hB1 hH hH1 n k _ (c + 1) (by omega) (by omega) (by omega) (by omega) (by omega) (by omega), sp]
    push_cast
    rw [Int.mul_add, Int.mul_one]
    omega
theorem cost_1 {w cut : Int32} {B S H : Int} (hB : (f_X12_tellsOf σ 201 40).toInt = B) (hB0 : 0 ≤ B) (hB1 : B ≤ 99) (hS : (f_X12_tellsOf σ 206 1).toInt = S) (hS0 : 0 ≤ S) (hS1 : S ≤ 99) (hH : (σ 1 (ix (57 + w))).toInt = H) (hH1 : H ≤ 999) (hc : cut.toInt ≤ H) : ∀ (k n : Nat) (s c : Int32), c.toInt + (k : Int) = cut.toInt → k + 1 + (H - cut.toInt).toNat + 1 ≤ n → k ≤ 60 → 0 ≤ c.toInt → 0 ≤ s.toInt → s.toInt + 5940 * (k : Int) ≤ 10000000 → (g_X12_costOf_13 n σ w cut s c).toInt = s.toInt + S * (tri k : Int) + B * (H - cut.toInt)
  | k, 0, s, c, h1, h2, h3, h4, h5, h6 => by exfalso; omega
  | 0, n + 1, s, c, h1, h2, h3, h4, h5, h6 => by
    show (f_X12_costOf_13 (g_X12_costOf_13 n) σ w cut s c).toInt = _
    unfold f_X12_costOf_13
    have ci := inc h4 (by omega)
    have e : c = cut := by rw [ti_eq]; omega
    have z : s + f_X12_tellsOf σ 206 1 * (cut - c) = s := by rw [e, Int32.sub_self, Int32.mul_zero, Int32.add_zero]
    rw [if_neg (by rw [ti_lt, hH]; omega), if_pos (show c ≤ cut by rw [ti_le]; omega), z, cost_2 hB hB0 hB1 hH hH1 n (H - cut.toInt).toNat s (c + 1) (by omega) (by omega) (by omega) (by omega) (by omega) (by omega), show tri 0 = 0 from rfl, Int.toNat_of_nonneg (by omega)]
    simp
  | k + 1, n + 1, s, c, h1, h2, h3, h4, h5, h6 => by
    show (f_X12_costOf_13 (g_X12_costOf_13 n) σ w cut s c).toInt = _
    unfold f_X12_costOf_13
    have ci := inc h4 (by omega)
    have d1 : (cut - c).toInt = (k : Int) + 1 := by rw [ti_sub (by omega) (by omega)]; omega
    have m0 : 0 ≤ S * ((k : Int) + 1) := Int.mul_nonneg hS0 (by omega)
    have m1 : S * ((k : Int) + 1) ≤ 99 * ((k : Int) + 1) := Int.mul_le_mul_of_nonneg_right hS1 (by omega)
    have d2 : (f_X12_tellsOf σ 206 1 * (cut - c)).toInt = S * ((k : Int) + 1) := by rw [ti_mul (by rw [d1, hS]; omega) (by rw [d1, hS]; omega), d1, hS]
    have d3 : (s + f_X12_tellsOf σ 206 1 * (cut - c)).toInt = s.toInt + S * ((k : Int) + 1) := by rw [ti_add (by omega) (by omega), d2]
    rw [if_neg (by rw [ti_lt, hH]; omega), if_pos (show c ≤ cut by rw [ti_le]; omega), cost_1 hB hB0 hB1 hS hS0 hS1 hH hH1 hc k n _ (c + 1) (by omega) (by omega) (by omega) (by omega) (by omega) (by omega), d3]
    show _ = s.toInt + S * ((tri k + (k + 1) : Nat) : Int) + B * (H - cut.toInt)
    push_cast
    rw [Int.mul_add S (tri k : Int)]
    omega
/-- the cost of a cut, the same on both sides -/
theorem cost_eq (h : RN 20 τ (σ 1)) (hK : RK 20 ρ dt (σ 1)) (hI : IB (σ 1)) {w : Int32} (hw : 0 ≤ w.toInt ∧ w.toInt < (σ 1 1).toInt) {c : Int32} (c0 : (σ 1 (ix (51 + w))).toInt ≤ c.toInt) (c1 : c.toInt ≤ (σ 1 (ix (57 + w))).toInt) (c2 : c.toInt ≤ (σ 1 (ix (51 + w))).toInt + 60) : (f_X11_costOfAll ρ dt τ w c).toInt = (f_X12_costOf σ w c).toInt ∧ 0 ≤ (f_X12_costOf σ w c).toInt ∧ (f_X12_costOf σ w c).toInt ≤ 1000000 := by
  obtain ⟨e1, e2, b1, b2⟩ := hold_eq (τ := τ) hK hI
  obtain ⟨t1, t2, t3, _⟩ := wl_at h hI hw.1 hw.2
  obtain ⟨d, hd⟩ : ∃ d : Nat, (d : Int) = c.toInt - (σ 1 (ix (51 + w))).toInt := ⟨(c.toInt - (σ 1 (ix (51 + w))).toInt).toNat, by omega⟩
  have td := tri_60 (n := d) (by omega)
  have m := cost_1 (σ := σ) (w := w) (cut := c) rfl b1.1 b1.2 rfl b2.1 b2.2 rfl t3.2.2 c1 d 1001 0 (σ 1 (ix (51 + w))) (by omega) (by omega) (by omega) (by omega) (by simp) (by simp; omega)
  have m' : (f_X12_costOf σ w c).toInt = (f_X12_tellsOf σ 206 1).toInt * (tri d : Int) + (f_X12_tellsOf σ 201 40).toInt * ((σ 1 (ix (57 + w))).toInt - c.toInt) := by
    show (g_X12_costOf_13 1001 σ w c 0 (σ 1 (ix (51 + w)))).toInt = _
    rw [m]
    simp
  have p1 : 0 ≤ (f_X12_tellsOf σ 206 1).toInt * (tri d : Int) := Int.mul_nonneg b2.1 (by omega)
  have p2 : (f_X12_tellsOf σ 206 1).toInt * (tri d : Int) ≤ 99 * (tri d : Int) := Int.mul_le_mul_of_nonneg_right b2.2 (by omega)
  have p3 : 0 ≤ (f_X12_tellsOf σ 201 40).toInt * ((σ 1 (ix (57 + w))).toInt - c.toInt) := Int.mul_nonneg b1.1 (by omega)
  have p4 : (f_X12_tellsOf σ 201 40).toInt * ((σ 1 (ix (57 + w))).toInt - c.toInt) ≤ 99 * ((σ 1 (ix (57 + w))).toInt - c.toInt) := Int.mul_le_mul_of_nonneg_right b1.2 (by omega)
  refine ⟨?_, by omega, by omega⟩
  rw [m']
  unfold f_X11_costOfAll
  rw [e1, e2, t1, t2]
  have q1 : (σ 1 (ix (57 + w)) - c).toInt64.toInt = (σ 1 (ix (57 + w))).toInt - c.toInt := by rw [i2l_toInt, ti_sub (by omega) (by omega)]
  have q2 : (c - σ 1 (ix (51 + w))).toInt64.toInt = (d : Int) := by rw [i2l_toInt, ti_sub (by omega) (by omega)]; omega
  have q3 := l_add q2 (show (1 : Int64).toInt = 1 from rfl) (by omega) (by omega)
  have dd : (d : Int) * ((d : Int) + 1) = ((d * (d + 1) : Nat) : Int) := by push_cast; rfl
  have dd2 := tri_2 d
  have q4 := l_mul q2 q3 (by rw [dd]; omega) (by rw [dd]; omega)
  have q5 := l_div2 q4 (by rw [dd]; omega)
  have q6 : (d : Int) * ((d : Int) + 1) / 2 = (tri d : Int) := by rw [dd]; omega
  rw [q6] at q5
  have q7 := l_mul (i2l_toInt (f_X12_tellsOf σ 206 1)) q5 (by omega) (by omega)
  have q8 := l_mul (i2l_toInt (f_X12_tellsOf σ 201 40)) q1 (by omega) (by omega)
  have q9 := l_add q8 q7 (by omega) (by omega)
  rw [q9]
  omega
theorem best_loop (h : RN 20 τ (σ 1)) (hK : RK 20 ρ dt (σ 1)) (hI : IB (σ 1)) {w : Int32} (hw : 0 ≤ w.toInt ∧ w.toInt < (σ 1 1).toInt) {to : Int32} (ht : to.toInt = if (σ 1 (ix (51 + w))).toInt + 60 < (σ 1 (ix (57 + w))).toInt then (σ 1 (ix (51 + w))).toInt + 60 else (σ 1 (ix (57 + w))).toInt) : ∀ (n : Nat) (σ' : St) (b c : Int32) (ls : Int64), (∀ r, r ≠ 20 → σ' r = σ r) → (σ 1 (ix (51 + w))).toInt ≤ c.toInt → c.toInt ≤ to.toInt + 1 → c.toInt + (n : Int) ≥ to.toInt + 2 → ((c = σ 1 (ix (51 + w)) ∧ ls = -1 ∧ σ' 20 0 = 100000000) ∨ (0 ≤ (σ' 20 0).toInt ∧ ls.toInt = (σ' 20 0).toInt ∧ (f_X11_costOfAll ρ dt τ w b).toInt = ls.toInt)) → ∃ u : St, (∀ r, r ≠ 20 → u r = σ r) ∧ g_X12_bestCut_26 n σ' w b c = (g_X11_bestCut_51 ρ dt n τ w b ls to c, u) ∧ 0 ≤ (u 20 0).toInt ∧ (f_X11_costOfAll ρ dt τ w (g_X11_bestCut_51 ρ dt n τ w b ls to c)).toInt = (u 20 0).toInt
  | 0, σ', b, c, ls, o, c0, c1, cn, inv => by exfalso; omega
  | n + 1, σ', b, c, ls, o, c0, c1, cn, inv => by
    have s1 : g_X11_bestCut_51 ρ dt (n + 1) τ w b ls to c = f_X11_bestCut_51 ρ dt (g_X11_bestCut_51 ρ dt n) τ w b ls to c := rfl
    have s2 : g_X12_bestCut_26 (n + 1) σ' w b c = f_X12_bestCut_26 (g_X12_bestCut_26 n) σ' w b c := rfl
    rw [s1, s2]
    obtain ⟨t1, t2, t3, _⟩ := wl_at h hI hw.1 hw.2
    unfold f_X11_bestCut_51 f_X11_bestCut_80 f_X11_bestCut_86 f_X12_bestCut_26
    have l60 : (σ 1 (ix (51 + w)) + 60).toInt = (σ 1 (ix (51 + w))).toInt + 60 := by rw [ti_add (by simp; omega) (by simp; omega)]; rfl
    have e1 : σ' 1 = σ 1 := o 1 (by decide)
    rw [e1]
    by_cases k : to < c
    · rw [if_pos k]
      rw [ti_lt] at k
      have fin : (if σ 1 (ix (57 + w)) < c then (b, σ') else if σ 1 (ix (51 + w)) + 60 < c then (b, σ') else g_X12_bestCut_26 n (up2 σ' 20 0 (if σ' 20 0 ≤ f_X12_costOf σ' w c then σ' 20 0 else f_X12_costOf σ' w c)) w (if σ' 20 0 ≤ f_X12_costOf σ' w c then b else c) (c + 1)) = (b, σ') := by
        simp only [ti_lt, l60]
        (repeat' split) <;> first | rfl | (exfalso; split at ht <;> omega)
      rw [fin]
      rcases inv with ⟨y1, _, _⟩ | ⟨y1, y2, y3⟩
      · exfalso
        rw [y1] at k
        split at ht <;> omega
      · exact ⟨σ', o, rfl, y1, by rw [y3, y2]⟩
    · rw [if_neg k]
      rw [ti_lt] at k
      have ch : c.toInt ≤ (σ 1 (ix (57 + w))).toInt := by split at ht <;> omega
      have cl : c.toInt ≤ (σ 1 (ix (51 + w))).toInt + 60 := by split at ht <;> omega
      rw [if_neg (show ¬ σ 1 (ix (57 + w)) < c by rw [ti_lt]; omega), if_neg (show ¬ σ 1 (ix (51 + w)) + 60 < c by rw [ti_lt, l60]; omega)]
      obtain ⟨q1, q2, q3⟩ := cost_eq (τ := τ) h hK hI hw c0 ch cl
      have cc : f_X12_costOf σ' w c = f_X12_costOf σ w c := by
        have gg : ∀ (m : Nat) (x y : Int32), g_X12_costOf_13 m σ' w c x y = g_X12_costOf_13 m σ w c x y := by
          intro m
          induction m with
          | zero => intro x y; rfl
          | succ m ih =>
            intro x y
            show f_X12_costOf_13 (g_X12_costOf_13 m) σ' w c x y = f_X12_costOf_13 (g_X12_costOf_13 m) σ w c x y
            unfold f_X12_costOf_13 f_X12_tellsOf
            rw [e1, ih]
        unfold f_X12_costOf
        rw [e1, gg]
      rw [cc]
      have ci := inc (x := c) (by omega) (by omega)
      have go := fun (u : St) (b : Int32) (ls : Int64) (o : ∀ r, r ≠ 20 → u r = σ r) (y : 0 ≤ (u 20 0).toInt ∧ ls.toInt = (u 20 0).toInt ∧ (f_X11_costOfAll ρ dt τ w b).toInt = ls.toInt) => best_loop h hK hI hw ht n u b (c + 1) ls o (by omega) (by omega) (by omega) (Or.inr y)
      rcases inv with ⟨y1, y2, y3⟩ | ⟨y1, y2, y3⟩
      · have lt : ¬ σ' 20 0 ≤ f_X12_costOf σ w c := by rw [y3, ti_le]; simp; omega
        rw [if_pos (show lg_cmp ls 0 < 0 by rw [y2]; decide), if_neg lt, if_neg lt]
        refine go _ c _ (fun r hr => by rw [up2_row hr, o r hr]) ⟨?_, ?_, rfl⟩
        · rw [up2_same]; exact q2
        · rw [up2_same]; exact q1
      · rw [if_neg (show ¬ lg_cmp ls 0 < 0 by rw [cmp_lt]; simp; omega)]
        by_cases z : σ' 20 0 ≤ f_X12_costOf σ w c
        · rw [if_pos z, if_pos z, if_pos (show 0 ≤ lg_cmp (f_X11_costOfAll ρ dt τ w c) ls by rw [cmp_ge, q1, y2]; exact ti_le.mp z)]
          refine go _ b _ (fun r hr => by rw [up2_row hr, o r hr]) ⟨?_, ?_, y3⟩
          · rw [up2_same]; exact y1
          · rw [up2_same]; exact y2
        · rw [if_neg z, if_neg z, if_neg (show ¬ 0 ≤ lg_cmp (f_X11_costOfAll ρ dt τ w c) ls by rw [cmp_ge, q1, y2]; exact fun q => z (ti_le.mpr q))]
          refine go _ c _ (fun r hr => by rw [up2_row hr, o r hr]) ⟨?_, ?_, rfl⟩
          · rw [up2_same]; exact q2
          · rw [up2_same]; exact q1
theorem best_eq (h : RN 20 τ (σ 1)) (hK : RK 20 ρ dt (σ 1)) (hI : IB (σ 1)) {w : Int32} (hw : 0 ≤ w.toInt ∧ w.toInt < (σ 1 1).toInt) : ∃ u : St, (∀ r, r ≠ 20 → u r = σ r) ∧ f_X12_bestCut σ w = (f_X11_bestCut ρ dt τ w, u) ∧ 0 ≤ (u 20 0).toInt ∧ (f_X11_costOfAll ρ dt τ w (f_X11_bestCut ρ dt τ w)).toInt = (u 20 0).toInt := by
  obtain ⟨t1, t2, t3, _⟩ := wl_at h hI hw.1 hw.2
  have l60 : (σ 1 (ix (51 + w)) + 60).toInt = (σ 1 (ix (51 + w))).toInt + 60 := by rw [ti_add (by simp; omega) (by simp; omega)]; rfl
  unfold f_X12_bestCut f_X11_bestCut
  rw [t1, t2]
  have ht : (if σ 1 (ix (51 + w)) + 60 < σ 1 (ix (57 + w)) then σ 1 (ix (51 + w)) + 60 else σ 1 (ix (57 + w))).toInt = if (σ 1 (ix (51 + w))).toInt + 60 < (σ 1 (ix (57 + w))).toInt then (σ 1 (ix (51 + w))).toInt + 60 else (σ 1 (ix (57 + w))).toInt := by
    simp only [ti_lt, l60]
    split
    · exact l60
    · rfl
  exact best_loop h hK hI hw ht 1001 _ _ _ (-1) (fun r hr => up2_row hr) (by omega) (by rw [ht]; split <;> omega) (by rw [ht]; split <;> omega) (Or.inl ⟨rfl, rfl, up2_same⟩)
theorem c_cut (h : RN 20 τ (σ 1)) (hK : RK 20 ρ dt (σ 1)) (hI : IB (σ 1)) (w : Int32) : Q1 τ σ (f_X11_cut ρ dt τ w, τ) (f_X12_cut σ w) := by
  unfold f_X11_cut f_X12_cut
  by_cases hw : 0 ≤ w.toInt ∧ w.toInt < (σ 1 1).toInt
  rotate_left
  · rw [if_pos ((wall_eq h hI w).1.mpr hw), if_pos ((wall_eq h hI w).2.mpr hw)]; exact Q1.same h hI
  rw [if_neg (fun z => (wall_eq h hI w).1.mp z hw), if_neg (fun z => (wall_eq h hI w).2.mp z hw)]
  obtain ⟨u, u1, u2, _⟩ := best_eq (τ := τ) h hK hI hw
  rw [u2]
  exact Q1.om h hI OX.rf (fun k hk => u1 k (by omega))
theorem c_cost (h : RN 20 τ (σ 1)) (hK : RK 20 ρ dt (σ 1)) (hI : IB (σ 1)) (w p : Int32) : f_X11_cost ρ dt τ w p = (f_X12_cost σ w p).1 ∧ OM σ (f_X12_cost σ w p).2 := by
  unfold f_X11_cost f_X12_cost
  by_cases hw : 0 ≤ w.toInt ∧ w.toInt < (σ 1 1).toInt
  rotate_left
  · rw [if_pos ((wall_eq h hI w).1.mpr hw), if_pos ((wall_eq h hI w).2.mpr hw)]; exact ⟨rfl, OM.rf⟩
  rw [if_neg (fun z => (wall_eq h hI w).1.mp z hw), if_neg (fun z => (wall_eq h hI w).2.mp z hw)]
  by_cases hp : p = 0 ∨ p = 1
  rotate_left
  · rw [if_pos (in01.mpr hp), frac_no hp]; exact ⟨rfl, OM.rf⟩
  rw [if_neg (fun z => in01.mp z hp)]
  obtain ⟨u, u1, u2, u3, u4⟩ := best_eq (τ := τ) h hK hI hw
  rw [u2]
  unfold bd
  dsimp only
  obtain ⟨g1, g2⟩ := gap_at h hI hw.1 hw.2
  obtain ⟨t1, t2, t3, _⟩ := wl_at h hI hw.1 hw.2
  have gu : f_X12_gapOf u w = f_X12_gapOf σ w := by unfold f_X12_gapOf; rw [u1 1 (by decide)]
  have k1 : (f_X12_gapOf σ w + 1).toInt = (σ 1 (ix (57 + w))).toInt - (σ 1 (ix (51 + w))).toInt + 1 := by rw [ti_add (by rw [g2]; simp; omega) (by rw [g2]; simp; omega), g2]; rfl
  have ce : f_X11_costOfAll ρ dt τ w (f_X11_bestCut ρ dt τ w) = (u 20 0).toInt64 := by rw [← Int64.toInt_inj, u4, i2l_toInt]
  rw [gu, g1, ce]
  exact ⟨frac_low hp (by rw [i2l_toInt]; exact u3) (by rw [i2l_toInt, k1]; omega) (by rw [i2l_toInt, k1]; omega), fun k hk => u1 k (by omega)⟩
end CUT
