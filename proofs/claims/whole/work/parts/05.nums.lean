/-! NUMBERS -/
theorem ixl {n : Nat} {e a : Int32} (hn : e.toInt = n) (h1 : 0 ≤ a.toInt) (h0 : n ≤ 100000) (h2 : a.toInt ≤ 100000) : ix (e + a) = n + ix a := by
  have h3 := ti_add (a := e) (b := a) (by omega) (by omega)
  have h4 := ti_ix (i := e + a) (by omega)
  have h5 := ti_ix (i := a) h1
  omega
theorem ix_lt {a : Int32} {n : Nat} (h1 : 0 ≤ a.toInt) (h2 : a.toInt < n) : ix a < n := by
  have := ti_ix h1
  omega
theorem IB_w {f : Nat → Int32} (hI : IB f) {a : Int32} (h1 : 0 ≤ a.toInt) (h2 : a.toInt < 6) : 0 ≤ (f (ix (51 + a))).toInt ∧ (f (ix (51 + a))).toInt ≤ (f (ix (57 + a))).toInt ∧ (f (ix (57 + a))).toInt ≤ 999 := by
  obtain ⟨-, -, -, -, -, -, -, -, -, -, -, -, -, iW, -⟩ := hI
  rw [ixl (n := 51) (e := 51) (a := a) rfl h1 (by omega) (by omega), ixl (n := 57) (e := 57) (a := a) rfl h1 (by omega) (by omega)]
  exact iW _ (ix_lt h1 h2)
theorem IB_g {f : Nat → Int32} (hI : IB f) {a : Int32} (h1 : 0 ≤ a.toInt) (h2 : a.toInt < (f 3).toInt) : 1 ≤ (f (ix (71 + a))).toInt ∧ (f (ix (71 + a))).toInt ≤ 99 := by
  obtain ⟨-, -, -, i3, -, -, -, -, -, -, -, -, -, -, -, iG, -⟩ := hI
  rw [ixl (n := 71) (e := 71) (a := a) rfl h1 (by omega) (by omega)]
  have := ti_ix h1
  exact iG _ (by omega)
theorem IB_b {f : Nat → Int32} (hI : IB f) {a : Int32} (h1 : 0 ≤ a.toInt) (h2 : a.toInt < (f 5).toInt) : 0 ≤ (f (ix (85 + a))).toInt ∧ (f (ix (85 + a))).toInt < (f 1).toInt := by
  obtain ⟨-, -, -, -, -, i5, -, -, -, -, -, -, -, -, -, -, -, iB, -⟩ := hI
  rw [ixl (n := 85) (e := 85) (a := a) rfl h1 (by omega) (by omega)]
  have := ti_ix h1
  exact iB _ (by omega)
theorem lof {x : Int64} (h : 0 ≤ x.toInt) : ∃ k : Nat, k < 2 ^ 63 ∧ x = lN k := pk_lOf (fun q => by
  have h1 := Int64.lt_iff_toInt_lt.mp q
  rw [show (0 : Int64).toInt = 0 from rfl] at h1
  omega)
theorem lrem_toInt {x y : Int64} (hx : 0 ≤ x.toInt) (hy : 0 < y.toInt) : (x - x / y * y).toInt = x.toInt % y.toInt := by
  obtain ⟨a, ha, rfl⟩ := lof hx
  obtain ⟨b, hb, rfl⟩ := lof (x := y) (by omega)
  rw [pk_lT hb] at hy
  have hb0 : 0 < b := by omega
  rw [pk_lRem ha hb0 hb, pk_lT (Nat.lt_trans (Nat.mod_lt a hb0) hb), pk_lT ha, pk_lT hb]
  rfl
theorem lcmp0 {x : Int64} : lg_cmp x 0 = 0 ↔ x = 0 := by
  unfold lg_cmp
  constructor
  · intro h
    (repeat' split at h) <;> first | assumption | (exact absurd h (by decide)) | skip
  · rintro rfl
    decide
theorem l_ne {x : Int64} : x ≠ 0 ↔ x.toInt ≠ 0 := by
  rw [ne_eq, ne_eq, ← Int64.toInt_inj]
  rfl
theorem i2l_toInt (x : Int32) : (x.toInt64).toInt = x.toInt := by simp
