/-! THE TWO SIDES TOGETHER: setting on -/
/-- the model's state but what a setting on leaves -/
def SM (σ u : St) : Prop := ∀ r, (r < 9 ∨ 16 < r) → u r = σ r
theorem SM.rf {σ : St} : SM σ σ := fun _ _ => rfl
theorem SM.tr {σ u w : St} (h : SM σ u) (h' : SM u w) : SM σ w := fun r hr => (h' r hr).trans (h r hr)
theorem sums_congr {b b' : Nat → Int32} {o : Bool} (hb : ∀ w, w < 6 → b w = b' w) : ∀ cs : List CR, (∀ c ∈ cs, okC c) → sums b o cs = sums b' o cs
  | [], _ => rfl
  | c :: cs, h => by
    obtain ⟨_, k, _, k3⟩ := h c (List.mem_cons_self)
    show (if c.1 = o ∧ c.2.1 b = true then nI c.2.2.1 else 0) + sums b o cs = (if c.1 = o ∧ c.2.1 b' = true then nI c.2.2.1 else 0) + sums b' o cs
    rw [cmp_congr k3 hb, sums_congr hb cs (fun c' h' => h c' (List.mem_cons_of_mem _ h'))]
theorem gr0 (x : Int32) : f_X12_greater 0 x = if 0 < x then x else 0 := by
  unfold f_X12_greater
  rw [ti_eq]
  simp only [ti_lt, ti_le, Int32.reduceToInt]
  (repeat' split) <;> first | rfl | (exfalso; omega) | (simp; omega)
theorem ls_if (a b : Int32) : f_X12_lesser a b = if a < b then a else b := by
  unfold f_X12_lesser
  simp only [ti_lt, ti_le]
  (repeat' split) <;> first | rfl | (exfalso; omega)
theorem ls_if' (a b : Int32) : f_X12_lesser a b = if b < a then b else a := by
  unfold f_X12_lesser
  rw [ti_eq]
  simp only [ti_lt, ti_le]
  (repeat' split) <;> first | rfl | (exfalso; omega) | omega
def tot5 (ρ : RR) (dt : Nat → Nat → Int32) (a : Nat) (s wall n : Int32) : Int32 := if ρ 22 0 = none then 0 else f_X2_total (dt (rf (ρ 22 0))) (dt a) s wall n
section SETS
variable {ρ : RR} {dt : Nat → Nat → Int32} {σ : St}
theorem looks_eq (hK : RK 20 ρ dt (σ 1)) {i a : Nat} (hi : i < 6) (hd : SD (dt a) (σ 1) i) (wall n : Int32) : (∀ r, r ≠ 9 → r ≠ 10 → r ≠ 11 → r ≠ 12 → f_X12_looks σ (nI i) wall n r = σ r) ∧ f_X12_looks σ (nI i) wall n 11 0 = tot5 ρ dt a 4 wall n ∧ f_X12_looks σ (nI i) wall n 12 0 = tot5 ρ dt a 5 wall n := by
  obtain ⟨d0, d1, d2, d3, _⟩ := hd
  have i9 : ix (9 + nI i) = 9 + i := by rw [ixS (n := 9) rfl (by rw [nI_toInt (by omega)]; omega) (by decide) (by rw [nI_toInt (by omega)]; omega), ix_nI (by omega)]
  have i15 : ix (15 + nI i) = 15 + i := by rw [ixS (n := 15) rfl (by rw [nI_toInt (by omega)]; omega) (by decide) (by rw [nI_toInt (by omega)]; omega), ix_nI (by omega)]
  have i21 : ix (21 + nI i) = 21 + i := by rw [ixS (n := 21) rfl (by rw [nI_toInt (by omega)]; omega) (by decide) (by rw [nI_toInt (by omega)]; omega), ix_nI (by omega)]
  unfold f_X12_looks
  rw [i9, i15, i21, ← d1, ← d2, ← d3]
  generalize hS : (up2 (up2 (up2 (up2 (up2 (up2 (up2 (up2 σ 9 0 (nI i)) 9 1 (dt a 1)) 9 2 (dt a 2)) 9 3 (dt a 3 / 10)) 9 4 (n - n / 10 * 10)) 9 5 wall) 11 0 0) 12 0 0) = s
  have s0 : ∀ r, r ≠ 9 → r ≠ 11 → r ≠ 12 → s r = σ r := by
    intro r r1 r2 r3
    rw [← hS]
    simp only [up2_row r1, up2_row r2, up2_row r3]
  have s11 : s 11 0 = 0 := by rw [← hS, up2_row (by decide), up2_same]
  have s12 : s 12 0 = 0 := by rw [← hS, up2_same]
  have s9 : ∀ w, w < 6 → s 9 w = bx (dt a) wall n w := by
    intro w hw
    rw [← hS, up2_row (by decide), up2_row (by decide)]
    have : w = 0 ∨ w = 1 ∨ w = 2 ∨ w = 3 ∨ w = 4 ∨ w = 5 := by omega
    rcases this with rfl | rfl | rfl | rfl | rfl | rfl
    · rw [up2_pl (by decide), up2_pl (by decide), up2_pl (by decide), up2_pl (by decide), up2_pl (by decide), up2_same]; exact d0.symm
    · rw [up2_pl (by decide), up2_pl (by decide), up2_pl (by decide), up2_pl (by decide), up2_same]; rfl
    · rw [up2_pl (by decide), up2_pl (by decide), up2_pl (by decide), up2_same]; rfl
    · rw [up2_pl (by decide), up2_pl (by decide), up2_same]; rfl
    · rw [up2_pl (by decide), up2_same]; rfl
    · rw [up2_same]; rfl
  rcases hK.2 with ⟨h1, h2⟩ | ⟨am, r, h1, hr, h2, _, _, cs, k1, k2, k3, k4, k5, k6, k7⟩
  · have e : g_X12_looks_116 141 s (f_X12_tellsOf σ 211 0) (216 + 140 * σ 1 7) 0 (216 + 140 * σ 1 7) = s := by
      show f_X12_looks_116 (g_X12_looks_116 140) s _ _ 0 _ = s
      unfold f_X12_looks_116 f_X12_tellsOf
      rw [if_pos h2, Int32.add_zero, if_pos (Int32.le_refl _)]
    rw [e]
    unfold tot5
    rw [if_pos h1, if_pos h1]
    exact ⟨fun r r1 _ r3 r4 => s0 r r1 r3 r4, s11, s12⟩
  · have n7 : ¬ σ 1 7 = -1 := by rw [h2, ti_eq, nI_toInt (by omega)]; simp
    have i3 : ix (211 + nI r) = 211 + r := by rw [ixS (n := 211) rfl (by rw [nI_toInt (by omega)]; omega) (by decide) (by rw [nI_toInt (by omega)]; omega), ix_nI (by omega)]
    have t : f_X12_tellsOf σ 211 0 = nI (mw cs).length := by
      unfold f_X12_tellsOf
      rw [if_neg n7, h2, i3, k5]
    have f0 : 216 + 140 * σ 1 7 = nI (216 + 140 * r) := by
      rw [h2, ti_eq, ti_add (by rw [ti_mul (by rw [nI_toInt (by omega)]; simp; omega) (by rw [nI_toInt (by omega)]; simp; omega), nI_toInt (by omega)]; simp; omega) (by rw [ti_mul (by rw [nI_toInt (by omega)]; simp; omega) (by rw [nI_toInt (by omega)]; simp; omega), nI_toInt (by omega)]; simp; omega), ti_mul (by rw [nI_toInt (by omega)]; simp; omega) (by rw [nI_toInt (by omega)]; simp; omega), nI_toInt (by omega), nI_toInt (by omega)]
      simp
    have hN : nI (216 + 140 * r) + nI (mw cs).length = nI (216 + 140 * r + (mw cs).length) := by
      rw [ti_eq, ti_add (by rw [nI_toInt (by omega), nI_toInt (by omega)]; omega) (by rw [nI_toInt (by omega), nI_toInt (by omega)]; omega), nI_toInt (by omega), nI_toInt (by omega), nI_toInt (by omega)]
      omega
    obtain ⟨σ', z1, z2, z3, z4⟩ := look_cs (a4 := nI (mw cs).length) (a5 := nI (216 + 140 * r)) hN (by omega) cs 141 (216 + 140 * r) s k1 rfl (by omega) (fun p v hp => by rw [s0 1 (by decide) (by decide) (by decide)]; exact k7 p v hp)
    rw [t, f0, z4]
    have ho : rf (ρ 22 0) = am := by rw [show ρ 22 0 = some am from h1]; rfl
    have T : ∀ (o : Bool) (so : Int32), (so = if o then 4 else 5) → tot5 ρ dt a so wall n = 0 + sums (s 9) o cs := by
      intro o so hso
      unfold tot5 f_X2_total
      rw [if_neg (by rw [show ρ 22 0 = some am from h1]; simp), ho, sums_congr s9 cs k1]
      exact tot_cs k4 k2 hso cs 101 0 0 0 k1 (by omega) (by omega) (fun p v hp => by rw [Nat.zero_add]; exact k6 p v hp)
    refine ⟨fun q r1 r2 r3 r4 => by rw [z1 q r2 r3 r4, s0 q r1 r3 r4], ?_, ?_⟩
    · rw [z2, s11, T true 4 rfl]
    · rw [z3, s12, T false 5 rfl]
theorem s225 {w : St} {n : Int32} : (∀ r, r ≠ 13 → r ≠ 15 → r ≠ 16 → f_X12_sets_225 w n r = w r) ∧ f_X12_sets_225 w n 13 0 = f_X12_greater 0 (w 13 0) ∧ f_X12_sets_225 w n 15 0 = f_X12_greater 0 (f_X12_greater 0 (w 13 0) - n * w 14 0) ∧ f_X12_sets_225 w n 16 0 = f_X12_greater 0 (w 13 0) + n * w 14 0 := by
  unfold f_X12_sets_225
  refine ⟨fun r r1 r2 r3 => by rw [up2_row r3, up2_row r2, up2_row r1], ?_, ?_, ?_⟩
  · rw [up2_row (by decide), up2_row (by decide), up2_same]
  · rw [up2_row (by decide), up2_same]
  · rw [up2_same]
/-- what a setting on tells -/
def SetsAs (ρ : RR) (dt : Nat → Nat → Int32) (σ u : St) (a : Nat) (wall n : Int32) : Prop := SM σ u ∧ u 13 0 = f_X5_middle ρ dt σ a wall n ∧ u 14 0 = f_X5_slack ρ dt σ a wall n ∧ u 15 0 = f_X5_least ρ dt σ a wall n ∧ u 16 0 = f_X5_most ρ dt σ a wall n
theorem sets_fin {u w : St} {a : Nat} {wall n : Int32} (hu : SM σ u) (hw : ∀ r, r ≠ 13 → r ≠ 14 → w r = u r) (hm : w 13 0 = vmid (dt a) n (tot5 ρ dt a 5 wall n)) (hs : w 14 0 = vslk (dt a) (1 + tot5 ρ dt a 4 wall n)) : SetsAs ρ dt σ (f_X12_sets_225 w n) a wall n := by
  obtain ⟨z1, z2, z3, z4⟩ := s225 (w := w) (n := n)
  have mid : f_X12_greater 0 (w 13 0) = f_X5_middle ρ dt σ a wall n := by
    rw [gr0, hm]
    unfold f_X5_middle tot5
    (repeat' split) <;> first | rfl | contradiction
  have slk : w 14 0 = f_X5_slack ρ dt σ a wall n := by
    rw [hs]
    unfold f_X5_slack tot5
    (repeat' split) <;> first | rfl | contradiction
  refine ⟨fun r hr => ?_, ?_, ?_, ?_, ?_⟩
  · rw [z1 r (by omega) (by omega) (by omega), hw r (by omega) (by omega), hu r hr]
  · rw [z2, mid]
  · rw [z1 14 (by decide) (by decide) (by decide), slk]
  · rw [z3, mid, slk, gr0]
    unfold f_X5_least
    rfl
  · rw [z4, mid, slk]
    unfold f_X5_most
    rfl
theorem sets_eq (hK : RK 20 ρ dt (σ 1)) {i a : Nat} (hi : i < 6) (hd : SD (dt a) (σ 1) i) (wall n : Int32) (hn : 0 ≤ n.toInt) : SetsAs ρ dt σ (f_X12_sets σ (nI i) wall n) a wall n := by
  obtain ⟨l1, l2, l3⟩ := looks_eq hK hi hd wall n
  obtain ⟨d0, d1, d2, d3, d4⟩ := hd
  have i9 : ix (9 + nI i) = 9 + i := by rw [ixS (n := 9) rfl (by rw [nI_toInt (by omega)]; omega) (by decide) (by rw [nI_toInt (by omega)]; omega), ix_nI (by omega)]
  have i15 : ix (15 + nI i) = 15 + i := by rw [ixS (n := 15) rfl (by rw [nI_toInt (by omega)]; omega) (by decide) (by rw [nI_toInt (by omega)]; omega), ix_nI (by omega)]
  have i21 : ix (21 + nI i) = 21 + i := by rw [ixS (n := 21) rfl (by rw [nI_toInt (by omega)]; omega) (by decide) (by rw [nI_toInt (by omega)]; omega), ix_nI (by omega)]
  unfold f_X12_sets bd1
  rw [i9, i15, i21]
  generalize hU : f_X12_looks σ (nI i) wall n = u at *
  dsimp only
  have u1 : u 1 = σ 1 := l1 1 (by decide) (by decide) (by decide) (by decide)
  rw [u1, ← d1, ← d2, ← d3, l2, l3]
  have hu : SM σ u := fun r hr => l1 r (by omega) (by omega) (by omega) (by omega)
  have w3 : ∀ (A B C : Int32) r, r ≠ 13 → r ≠ 14 → up2 (up2 (up2 u 13 0 A) 14 0 B) 13 0 C r = u r := fun A B C r r1 r2 => by rw [up2_row r1, up2_row r2, up2_row r1]
  have w2 : ∀ (A B : Int32) r, r ≠ 13 → r ≠ 14 → up2 (up2 u 13 0 A) 14 0 B r = u r := fun A B r r1 r2 => by rw [up2_row r2, up2_row r1]
  have m3 : ∀ (A B C : Int32), up2 (up2 (up2 u 13 0 A) 14 0 B) 13 0 C 13 0 = C := fun A B C => up2_same
  have m2 : ∀ (A B : Int32), up2 (up2 u 13 0 A) 14 0 B 13 0 = A := fun A B => by rw [up2_row (by decide), up2_same]
  have t3 : ∀ (A B C : Int32), up2 (up2 (up2 u 13 0 A) 14 0 B) 13 0 C 14 0 = B := fun A B C => by rw [up2_row (by decide), up2_same]
  have t2 : ∀ (A B : Int32), up2 (up2 u 13 0 A) 14 0 B 14 0 = B := fun A B => up2_same
  by_cases k1 : dt a 1 = 1
  · rw [if_pos k1]
    refine sets_fin hu (w3 _ _ _) ?_ ?_
    · rw [m3]
      unfold vmid f_X10_middle
      rw [if_pos k1, ls_if, Int32.mul_sub]
    · rw [t3]
      unfold vslk f_X6_slack
      rw [if_pos k1, k1, if_neg (by decide), if_neg (by decide), if_neg (by decide), Int32.add_zero]
  by_cases k2 : dt a 1 = 2
  · rw [if_neg k1, if_pos k2]
    refine sets_fin hu (w3 _ _ _) ?_ ?_
    · rw [m3]
      unfold vmid f_X7_middle
      rw [if_neg k1, if_pos k2]
      by_cases z : n ≤ 0
      · have : n = 0 := by rw [ti_le] at z; rw [ti_eq]; simp at z ⊢; omega
        rw [if_pos z, if_pos z, this, Int32.zero_mul, Int32.sub_zero]
      · rw [if_neg z, if_neg z]
    · rw [t3]
      unfold vslk f_X6_slack
      rw [if_neg k1, if_pos k2, k2, if_neg (by decide), if_neg (by decide), if_neg (by decide), Int32.add_zero]
  by_cases k3 : dt a 1 = 3
  · rw [if_neg k1, if_neg k2, if_pos k3]
    refine sets_fin hu (w2 _ _) ?_ ?_
    · rw [m2]
      unfold vmid f_X6_middle
      rw [if_neg k1, if_neg k2, if_pos k3]
    · rw [t2]
      unfold vslk f_X0_slack
      rw [if_pos k3, if_neg k1, if_neg k2, if_pos k3]
  by_cases k4 : dt a 1 = 4
  · rw [if_neg k1, if_neg k2, if_neg k3, if_pos k4]
    refine sets_fin hu (w3 _ _ _) ?_ ?_
    · rw [m3]
      unfold vmid f_X10_middle
      rw [if_neg k1, if_neg k2, if_neg k3, if_pos k4, ls_if, Int32.mul_sub]
    · rw [t3]
      unfold vslk f_X4_slack
      rw [if_neg k1, if_neg k2, if_neg k3, if_pos k4, k4, if_neg (by decide), if_neg (by decide), if_pos rfl]
  by_cases k5 : dt a 1 = 5
  · rw [if_neg k1, if_neg k2, if_neg k3, if_neg k4, if_pos k5]
    refine sets_fin hu (w3 _ _ _) ?_ ?_
    · rw [m3]
      unfold vmid f_X3_middle
      rw [if_neg k1, if_neg k2, if_neg k3, if_neg k4, if_pos k5, ls_if', Int32.mul_comm (dt a 3) n]
    · rw [t3]
      unfold vslk f_X6_slack
      rw [if_neg k1, if_neg k2, if_neg k3, if_neg k4, if_pos k5, k5, if_neg (by decide), if_neg (by decide), if_neg (by decide), Int32.add_zero]
  by_cases k6 : dt a 1 = 6
  · rw [if_neg k1, if_neg k2, if_neg k3, if_neg k4, if_neg k5, if_pos k6]
    refine sets_fin hu (w3 _ _ _) ?_ ?_
    · rw [m3]
      unfold vmid f_X8_middle f_X8_more
      rw [if_neg k1, if_neg k2, if_neg k3, if_neg k4, if_neg k5, if_pos k6]
      congr 1
      obtain ⟨k, hk, rfl⟩ := nn_nI hn
      have r1 : nI k - nI k / 4 * 4 = nI (k % 4) := by rw [show (4 : Int32) = nI 4 from rfl, pk_rem hk (by omega) (by omega)]
      have r2 : nI k &&& 3 = nI (k % 4) := pk_andN (by omega) 2 (by decide)
      have r3 : (4 * nI i : Int32) = nI (4 * i) := pk_mul 4 i
      have r4 : ix (27 + nI (4 * i) + nI (k % 4)) = 27 + 4 * i + k % 4 := by
        have q1 : (27 + nI (4 * i)).toInt = 27 + 4 * i := by rw [ti_add (by rw [nI_toInt (by omega)]; simp; omega) (by rw [nI_toInt (by omega)]; simp; omega), nI_toInt (by omega)]; simp
        rw [ixS (n := 27 + 4 * i) (by rw [q1]; omega) (by rw [nI_toInt (by omega)]; omega) (by omega) (by rw [nI_toInt (by omega)]; omega), ix_nI (by omega)]
      rw [r1, r2, r3, r4, ix_nI (by omega)]
      exact (d4 k6 (k % 4) (by omega)).symm
    · rw [t3]
      unfold vslk f_X0_slack
      rw [if_neg k1, if_neg k2, if_neg k3, if_pos k6, if_neg k3, if_neg k4, if_neg k5, if_pos k6]
  · rw [if_neg k1, if_neg k2, if_neg k3, if_neg k4, if_neg k5, if_neg k6]
    refine sets_fin hu (w2 _ _) ?_ ?_
    · rw [m2]
      unfold vmid f_X6_middle
      rw [if_neg k1, if_neg k2, if_neg k3, if_neg k4, if_neg k5, if_neg k6]
    · rw [t2]
      unfold vslk f_X6_slack
      rw [if_neg k1, if_neg k2, if_neg k3, if_neg k4, if_neg k5, if_neg k6, if_neg k3, if_neg k6, if_neg k4, Int32.add_zero]
end SETS
