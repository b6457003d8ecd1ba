/-! THE TWO SIDES TOGETHER: off, closed, spread, looked -/
theorem w4 {w : Int32} (h1 : 0 ≤ w.toInt) (h2 : w.toInt ≤ 3) : w = 0 ∨ w = 1 ∨ w = 2 ∨ w = 3 := by
  simp only [ti_eq, Int32.reduceToInt]
  omega
section CALLS3
variable {τ σ : St}
theorem st_at (h : RN 20 τ (σ 1)) (hI : IB (σ 1)) {c : Int32} (h0 : 0 ≤ c.toInt) (h1 : c.toInt < (σ 1 3).toInt) : τ 30 (ix c) = σ 1 (ix (63 + c)) ∧ τ 31 (ix c) = σ 1 (ix (71 + c)) ∧ (σ 1 (ix (63 + c)) = 0 ∨ σ 1 (ix (63 + c)) = 1 ∨ σ 1 (ix (63 + c)) = 2 ∨ σ 1 (ix (63 + c)) = 3) ∧ (1 ≤ (σ 1 (ix (71 + c))).toInt ∧ (σ 1 (ix (71 + c))).toInt ≤ 99) ∧ (c + 1).toInt = c.toInt + 1 := by
  have b3 := hI.2.2.2.1
  have bw := hI.2.2.2.2.2.2.2.2.2.2.2.2.2.2.1
  have i1 : ix (63 + c) = 63 + ix c := ixS (n := 63) rfl (by omega) (by decide) (by omega)
  have i2 : ix (71 + c) = 71 + ix c := ixS (n := 71) rfl (by omega) (by decide) (by omega)
  have i3 : ix c < 8 := ix_lt (by omega) (by omega)
  have g := IB_g hI h0 h1
  rw [i2] at g
  rw [i1, i2]
  have w := bw _ i3
  exact ⟨h.wy _ i3, h.lg _ i3, w4 w.1 w.2, g, by rw [ti_add (by simp; omega) (by simp; omega)]; rfl⟩
theorem off_loop (h : RN 20 τ (σ 1)) (hI : IB (σ 1)) {a : Int32} (ha : a = 0 ∨ a = 1) : ∀ (n : Nat) (b c : Int32), 0 ≤ c.toInt → g_X11_offAlong_4 n τ a b c = g_X12_offAlong_4 n σ a b c
  | 0, _, _, _ => rfl
  | n + 1, b, c, hc => by
    show f_X11_offAlong_4 (g_X11_offAlong_4 n) τ a b c = f_X12_offAlong_4 (g_X12_offAlong_4 n) σ a b c
    have e : τ 32 0 = σ 1 3 := h.n3
    unfold f_X11_offAlong_4 f_X12_offAlong_4 f_X11_offAlong_57
    rw [e]
    by_cases k : σ 1 3 ≤ c
    · rw [if_pos k, if_pos k]
    · rw [if_neg k, if_neg k]
      have k' : c.toInt < (σ 1 3).toInt := by rw [ti_le] at k; omega
      obtain ⟨e1, e2, w, l, p⟩ := st_at h hI hc k'
      unfold f_X11_isAlong f_X11_isForward
      rw [e1, e2, off_loop h hI ha n _ _ (by omega), off_loop h hI ha n _ _ (by omega)]
      generalize σ 1 (ix (63 + c)) = ww at w
      generalize g_X12_offAlong_4 n σ a = G
      rcases ha with rfl | rfl <;> rcases w with rfl | rfl | rfl | rfl <;> simp (decide := true)
theorem q_off (h : RN 20 τ (σ 1)) (hI : IB (σ 1)) (a : Int32) : f_X11_off τ a = f_X12_off σ a := by
  unfold f_X11_off f_X12_off f_X11_offAlong f_X12_offAlong
  by_cases c0 : a = 0
  · rw [if_pos c0, if_neg (by rw [in_iff, c0]; simp), off_loop h hI (Or.inl c0) 9 0 0 (by simp)]
  by_cases c1 : a = 1
  · rw [if_neg c0, if_pos c1, if_neg (by rw [in_iff, c1]; simp), off_loop h hI (Or.inr c1) 9 0 0 (by simp)]
  rw [if_neg c0, if_neg c1, if_pos]
  rw [in_iff]
  simp only [ti_eq, Int32.reduceToInt] at *
  omega
/-- is step i along the line a -/
def alg (f : Nat → Int32) (a : Int32) (i : Int32) : Prop := f (ix (63 + i)) - f (ix (63 + i)) / 2 * 2 = a
theorem cl_tail (h : RN 20 τ (σ 1)) (hI : IB (σ 1)) {k a o s l : Int32} (hkl : k = l) (hl : 0 ≤ l.toInt ∧ l.toInt < (σ 1 3).toInt) (hn : ∀ j : Int32, l.toInt < j.toInt → j.toInt < (σ 1 3).toInt → ¬ alg (σ 1) a j) : ∀ (n : Nat) (b c : Int32), l.toInt ≤ c.toInt → c.toInt + n ≥ (σ 1 3).toInt + 1 → g_X12_closed_130 n σ k a o s l b c = f_X12_closed_200 σ k o s l b
  | 0, b, c, h1, h2 => by
    have b3 := hI.2.2.2.1
    exfalso
    sorry
  | n + 1, b, c, h1, h2 => by
    show f_X12_closed_130 (g_X12_closed_130 n) σ k a o s l b c = _
    unfold f_X12_closed_130
    by_cases q : σ 1 3 ≤ c
    · rw [if_pos q]
    · rw [if_neg q, if_pos hkl]
      have q' : c.toInt < (σ 1 3).toInt := by rw [ti_le] at q; omega
      have z : (if σ 1 (ix (63 + c)) - σ 1 (ix (63 + c)) / 2 * 2 = a then if c = l then 0 else o * σ 1 (ix (71 + c)) / s else 0) = (0 : Int32) := by
        by_cases e : c = l
        · rw [if_pos e]; simp
        · rw [if_neg (hn c (by rw [ti_eq] at e; omega) q')]
      obtain ⟨_, _, _, _, p⟩ := st_at h hI (by omega) q'
      rw [z, Int32.sub_zero]
      exact cl_tail h hI hkl hl hn n b (c + 1) (by omega) (by omega)
end CALLS3
