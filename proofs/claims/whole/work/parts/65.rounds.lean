/-! THE TWO SIDES TOGETHER: off, closed, spread, looked -/
theorem w4 {w : Int32} (h1 : 0 ≤ w.toInt) (h2 : w.toInt ≤ 3) : w = 0 ∨ w = 1 ∨ w = 2 ∨ w = 3 := by
  simp only [ti_eq, Int32.reduceToInt]
  omega
/-- is step i along the line a -/
abbrev alg (f : Nat → Int32) (a : Int32) (i : Int32) : Prop := f (ix (63 + i)) - f (ix (63 + i)) / 2 * 2 = a
section CALLS3
variable {τ σ : St}
theorem st_at (h : RN 20 τ (σ 1)) (hI : IB (σ 1)) {c : Int32} (h0 : 0 ≤ c.toInt) (h1 : c.toInt < (σ 1 3).toInt) : τ 30 (ix c) = σ 1 (ix (63 + c)) ∧ τ 31 (ix c) = σ 1 (ix (71 + c)) ∧ (σ 1 (ix (63 + c)) = 0 ∨ σ 1 (ix (63 + c)) = 1 ∨ σ 1 (ix (63 + c)) = 2 ∨ σ 1 (ix (63 + c)) = 3) ∧ (1 ≤ (σ 1 (ix (71 + c))).toInt ∧ (σ 1 (ix (71 + c))).toInt ≤ 99) ∧ (c + 1).toInt = c.toInt + 1 := by
  have b3 := hI.2.2.2.1
  have bw := hI.2.2.2.2.2.2.2.2.2.2.2.2.2.2.1
  have i1 : ix (63 + c) = 63 + ix c := ixS (n := 63) rfl (by omega) (by decide) (by omega)
  have i2 : ix (71 + c) = 71 + ix c := ixS (n := 71) rfl (by omega) (by decide) (by omega)
  have i3 : ix c < 8 := ix_lt (by omega) (by omega)
  have g := IB_g hI h0 h1
  rw [i2] at g
  rw [i1, i2]
  have w := bw _ i3
  exact ⟨h.wy _ i3, h.lg _ i3, w4 w.1 w.2, g, by rw [ti_add (by simp; omega) (by simp; omega)]; rfl⟩
theorem off_loop (h : RN 20 τ (σ 1)) (hI : IB (σ 1)) {a : Int32} (ha : a = 0 ∨ a = 1) : ∀ (n : Nat) (b c : Int32), 0 ≤ c.toInt → g_X11_offAlong_4 n τ a b c = g_X12_offAlong_4 n σ a b c
  | 0, _, _, _ => rfl
  | n + 1, b, c, hc => by
    show f_X11_offAlong_4 (g_X11_offAlong_4 n) τ a b c = f_X12_offAlong_4 (g_X12_offAlong_4 n) σ a b c
    have e : τ 32 0 = σ 1 3 := h.n3
    unfold f_X11_offAlong_4 f_X12_offAlong_4 f_X11_offAlong_57
    rw [e]
    by_cases k : σ 1 3 ≤ c
    · rw [if_pos k, if_pos k]
    · rw [if_neg k, if_neg k]
      have k' : c.toInt < (σ 1 3).toInt := by rw [ti_le] at k; omega
      obtain ⟨e1, e2, w, l, p⟩ := st_at h hI hc k'
      unfold f_X11_isAlong f_X11_isForward
      rw [e1, e2, off_loop h hI ha n _ _ (by omega), off_loop h hI ha n _ _ (by omega)]
      generalize σ 1 (ix (63 + c)) = ww at w
      generalize g_X12_offAlong_4 n σ a = G
      rcases ha with rfl | rfl <;> rcases w with rfl | rfl | rfl | rfl <;> simp (decide := true)
theorem off_eq (h : RN 20 τ (σ 1)) (hI : IB (σ 1)) {a : Int32} (ha : a = 0 ∨ a = 1) : f_X11_offAlong τ a = f_X12_offAlong σ a := off_loop h hI ha 9 0 0 (by simp)
theorem q_off (h : RN 20 τ (σ 1)) (hI : IB (σ 1)) (a : Int32) : f_X11_off τ a = f_X12_off σ a := by
  unfold f_X11_off f_X12_off f_X11_offAlong f_X12_offAlong
  by_cases c0 : a = 0
  · rw [if_pos c0, if_neg (by rw [in_iff, c0]; simp), off_loop h hI (Or.inl c0) 9 0 0 (by simp)]
  by_cases c1 : a = 1
  · rw [if_neg c0, if_pos c1, if_neg (by rw [in_iff, c1]; simp), off_loop h hI (Or.inr c1) 9 0 0 (by simp)]
  rw [if_neg c0, if_neg c1, if_pos]
  rw [in_iff]
  simp only [ti_eq, Int32.reduceToInt] at *
  omega
theorem cl_tail (h : RN 20 τ (σ 1)) (hI : IB (σ 1)) {k a o s l : Int32} (hkl : k = l) (hl : 0 ≤ l.toInt ∧ l.toInt < (σ 1 3).toInt) (hn : ∀ j : Int32, l.toInt < j.toInt → j.toInt < (σ 1 3).toInt → ¬ alg (σ 1) a j) : ∀ (n : Nat) (b c : Int32), l.toInt ≤ c.toInt → c.toInt ≤ (σ 1 3).toInt → c.toInt + (n : Int) ≥ (σ 1 3).toInt + 1 → g_X12_closed_130 n σ k a o s l b c = f_X12_closed_200 σ k o s l b
  | 0, b, c, h1, h3, h2 => by exfalso; omega
  | n + 1, b, c, h1, h3, h2 => by
    show f_X12_closed_130 (g_X12_closed_130 n) σ k a o s l b c = _
    unfold f_X12_closed_130
    by_cases q : σ 1 3 ≤ c
    · rw [if_pos q]
    · rw [if_neg q, if_pos hkl]
      have q' : c.toInt < (σ 1 3).toInt := by rw [ti_le] at q; omega
      have z : (if alg (σ 1) a c then if c = l then 0 else o * σ 1 (ix (71 + c)) / s else 0) = (0 : Int32) := by
        by_cases e : c = l
        · rw [if_pos e]; simp
        · rw [if_neg (hn c (by rw [ti_eq] at e; omega) q')]
      obtain ⟨_, _, _, _, p⟩ := st_at h hI (by omega) q'
      have z' : b - (if alg (σ 1) a c then if c = l then 0 else o * σ 1 (ix (71 + c)) / s else 0) = b := by rw [z, Int32.sub_zero]
      exact (congrArg (fun x => g_X12_closed_130 n σ k a o s l x (c + 1)) z').trans (cl_tail h hI hkl hl hn n b (c + 1) (by omega) (by omega) (by omega))
theorem cl_in (h : RN 20 τ (σ 1)) (hI : IB (σ 1)) {k a o s l : Int32} (hkl : k = l) (hl : 0 ≤ l.toInt ∧ l.toInt < (σ 1 3).toInt) (hn : ∀ j : Int32, l.toInt < j.toInt → j.toInt < (σ 1 3).toInt → ¬ alg (σ 1) a j) : ∀ (n : Nat) (b c : Int32), 0 ≤ c.toInt → c.toInt ≤ l.toInt → c.toInt + (n : Int) ≥ (σ 1 3).toInt + 1 → g_X12_closed_130 n σ k a o s l b c = f_X12_closed_200 σ k o s l (g_X11_shareOf_94 n τ a s l o b c)
  | 0, b, c, h1, h3, h2 => by exfalso; omega
  | n + 1, b, c, h1, h3, h2 => by
    by_cases e : c = l
    · have : g_X11_shareOf_94 (n + 1) τ a s l o b c = b := by
        show f_X11_shareOf_94 (g_X11_shareOf_94 n) τ a s l o b c = b
        unfold f_X11_shareOf_94
        rw [if_pos (by rw [e]; exact Int32.le_refl l)]
      rw [this]
      exact cl_tail h hI hkl hl hn (n + 1) b c (by rw [e]; omega) (by omega) h2
    show f_X12_closed_130 (g_X12_closed_130 n) σ k a o s l b c = f_X12_closed_200 σ k o s l (f_X11_shareOf_94 (g_X11_shareOf_94 n) τ a s l o b c)
    have e' : c.toInt < l.toInt := by rw [ti_eq] at e; omega
    obtain ⟨e1, e2, _, _, p⟩ := st_at h hI h1 (by omega)
    unfold f_X12_closed_130 f_X11_shareOf_94 f_X11_shareOf_131 f_X11_isAlong
    rw [if_neg (by rw [ti_le]; omega), if_pos hkl, if_neg (show ¬ l ≤ c by rw [ti_le]; omega), e1, e2]
    by_cases q : alg (σ 1) a c
    · rw [if_pos q, if_neg e, if_pos q, if_neg (by decide)]
      exact cl_in h hI hkl hl hn n _ (c + 1) (by omega) (by omega) (by omega)
    · rw [if_neg q, if_neg q, if_pos rfl, Int32.sub_zero]
      exact cl_in h hI hkl hl hn n _ (c + 1) (by omega) (by omega) (by omega)
theorem cl_end {k o s l v x : Int32} (hx : x = if k = l then v else o * σ 1 (ix (71 + k)) / s) : f_X12_closed_200 σ k o s l v = σ 1 (ix (71 + k)) + (if 2 ≤ σ 1 (ix (63 + k)) then x else -x) := by
  unfold f_X12_closed_200
  rw [hx]
theorem cl_out (h : RN 20 τ (σ 1)) (hI : IB (σ 1)) {k a : Int32} (ha : a = 0 ∨ a = 1) (hk : 0 ≤ k.toInt ∧ k.toInt < (σ 1 3).toInt) (hka : alg (σ 1) a k) : ∀ (n : Nat) (s m x c : Int32), 0 ≤ c.toInt → c.toInt ≤ (σ 1 3).toInt → c.toInt + (n : Int) ≥ (σ 1 3).toInt + 1 → 0 ≤ s.toInt → s.toInt ≤ 99 * c.toInt → (k.toInt < c.toInt → 1 ≤ s.toInt ∧ m = x ∧ k.toInt ≤ x.toInt ∧ x.toInt < c.toInt ∧ ∀ j : Int32, x.toInt < j.toInt → j.toInt < c.toInt → ¬ alg (σ 1) a j) →
    g_X12_closed_47 n σ k a (f_X12_offAlong σ a) s m c = σ 1 (ix (71 + k)) + (if 2 ≤ σ 1 (ix (63 + k)) then g_X11_shareOf_8 n τ k a s x c else -g_X11_shareOf_8 n τ k a s x c)
  | 0, s, m, x, c, h1, h2, h3, _, _, _ => by exfalso; omega
  | n + 1, s, m, x, c, h1, h2, h3, h4, h5, h6 => by
    show f_X12_closed_47 (g_X12_closed_47 n) σ k a (f_X12_offAlong σ a) s m c = σ 1 (ix (71 + k)) + (if 2 ≤ σ 1 (ix (63 + k)) then f_X11_shareOf_8 (g_X11_shareOf_8 n) τ k a s x c else -f_X11_shareOf_8 (g_X11_shareOf_8 n) τ k a s x c)
    have e : τ 32 0 = σ 1 3 := h.n3
    have b3 := hI.2.2.2.1
    unfold f_X12_closed_47 f_X11_shareOf_8 f_X11_shareOf_47 f_X11_isAlong
    rw [e]
    by_cases q : σ 1 3 ≤ c
    · have q' : (σ 1 3).toInt ≤ c.toInt := ti_le.mp q
      obtain ⟨p1, p2, p3, p4, p5⟩ := h6 (by omega)
      have s0 : ¬ s = 0 := by rw [ti_eq]; simp; omega
      obtain ⟨_, e2, _, _, _⟩ := st_at h hI hk.1 hk.2
      rw [if_pos q, if_pos q, if_neg s0, off_eq h hI ha, e2]
      by_cases z : k = x
      · rw [cl_in h hI (p2 ▸ z) (by rw [p2]; omega) (by rw [p2]; intro j j1 j2; exact p5 j j1 (by omega)) 9 _ 0 (by simp) (by rw [p2]; simp; omega) (by simp; omega), if_pos z, p2]
        exact cl_end (by rw [if_pos z])
      · have : g_X12_closed_130 9 σ k a (f_X12_offAlong σ a) s m (f_X12_offAlong σ a) 0 = f_X12_closed_200 σ k (f_X12_offAlong σ a) s m (f_X12_offAlong σ a) := by
          show f_X12_closed_130 (g_X12_closed_130 8) σ k a (f_X12_offAlong σ a) s m (f_X12_offAlong σ a) 0 = _
          unfold f_X12_closed_130
          rw [if_neg (show ¬ k = m by rw [p2]; exact z)]
          split <;> rfl
        rw [this, if_neg z, p2]
        exact cl_end (by rw [if_neg z])
    · have q' : c.toInt < (σ 1 3).toInt := by rw [ti_le] at q; omega
      obtain ⟨e1, e2, _, l, p⟩ := st_at h hI h1 q'
      rw [if_neg q, if_neg q, e1, e2]
      by_cases w : alg (σ 1) a c
      · rw [if_pos w, if_pos w, if_pos w, if_neg (show ¬ (1 : Int32) = 0 by decide)]
        have sp : (s + σ 1 (ix (71 + c))).toInt = s.toInt + (σ 1 (ix (71 + c))).toInt := ti_add (by omega) (by omega)
        exact cl_out h hI ha hk hka n _ c c (c + 1) (by omega) (by omega) (by omega) (by omega) (by omega) (fun z => ⟨by omega, rfl, by omega, by omega, fun j j1 j2 => by exfalso; omega⟩)
      · rw [if_neg w, if_neg w, if_neg w, if_pos rfl, Int32.add_zero]
        have ck : ¬ c = k := fun z => w (z ▸ hka)
        have ck' : ¬ c.toInt = k.toInt := fun z => ck (ti_eq.mpr z)
        exact cl_out h hI ha hk hka n s m x (c + 1) (by omega) (by omega) (by omega) (by omega) (by omega) (fun z => by
          obtain ⟨p1, p2, p3, p4, p5⟩ := h6 (by omega)
          refine ⟨p1, p2, p3, by omega, fun j j1 j2 => ?_⟩
          by_cases jc : j = c
          · rw [jc]; exact w
          · exact p5 j j1 (by rw [ti_eq] at jc; omega))
theorem q_closed (h : RN 20 τ (σ 1)) (hI : IB (σ 1)) (a : Int32) : f_X11_closed τ a = f_X12_closed σ a := by
  have e : τ 32 0 = σ 1 3 := h.n3
  have b3 := hI.2.2.2.1
  unfold f_X11_closed f_X12_closed
  have e1 : (σ 1 3 - 1).toInt = (σ 1 3).toInt - 1 := by rw [ti_sub (by simp; omega) (by simp; omega)]; rfl
  by_cases c : 0 ≤ a.toInt ∧ a.toInt < (σ 1 3).toInt
  · rw [if_neg (show ¬ a < 0 by rw [ti_lt]; simp; omega), if_pos (by rw [e, ti_lt]; omega), if_neg (show ¬ f_X12_in a 0 (σ 1 3 - 1) = 0 by rw [in_iff, e1]; simp; omega)]
    obtain ⟨s1, s2, w, _, _⟩ := st_at h hI c.1 c.2
    have ha : σ 1 (ix (63 + a)) - σ 1 (ix (63 + a)) / 2 * 2 = 0 ∨ σ 1 (ix (63 + a)) - σ 1 (ix (63 + a)) / 2 * 2 = 1 := by
      generalize σ 1 (ix (63 + a)) = ww at w
      rcases w with rfl | rfl | rfl | rfl <;> simp (decide := true)
    rw [cl_out h hI ha c rfl 9 0 a (-1) 0 (by simp) (by simp; omega) (by simp; omega) (by simp) (by simp) (fun z => by simp at z; omega)]
    unfold f_X11_isForward f_X11_shareOf
    rw [s1, s2]
    by_cases z : 2 ≤ σ 1 (ix (63 + a))
    · rw [if_pos z, if_pos z, if_pos rfl]
    · rw [if_neg z, if_neg z, if_neg (by decide), Int32.sub_eq_add_neg]
  · rw [e]
    have : f_X12_in a 0 (σ 1 3 - 1) = 0 := by rw [in_iff, e1]; simp; omega
    rw [if_pos this]
    simp only [ti_lt, Int32.reduceToInt]
    (repeat' split) <;> first | rfl | (exfalso; omega)
end CALLS3
