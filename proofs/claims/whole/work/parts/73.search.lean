/-! THE TWO SIDES TOGETHER: surest, again, whose, wrong -/
section SEARCH
variable {ρ : RR} {dt : Nat → Nat → Int32} {τ σ : St}
theorem sets_at (h : RN 20 τ (σ 1)) (hK : RK 20 ρ dt (σ 1)) (hI : IB (σ 1)) {σ1 : St} (e : σ1 1 = σ 1) {x : Int32} (h0 : 0 ≤ x.toInt) (h1 : x.toInt < (σ 1 0).toInt) (w n : Int32) (hn : 0 ≤ n.toInt) : SM σ1 (f_X12_sets σ1 x w n) ∧ f_X12_sets σ1 x w n 13 0 = f_X5_middle ρ dt τ (rf (f_X5_stickAt ρ τ x)) w n ∧ f_X12_sets σ1 x w n 14 0 = f_X5_slack ρ dt τ (rf (f_X5_stickAt ρ τ x)) w n ∧ f_X12_sets σ1 x w n 15 0 = f_X5_least ρ dt τ (rf (f_X5_stickAt ρ τ x)) w n ∧ f_X12_sets σ1 x w n 16 0 = f_X5_most ρ dt τ (rf (f_X5_stickAt ρ τ x)) w n := by
  have b0 := hI.1
  have k : (σ 1 0 - 1).toInt = (σ 1 0).toInt - 1 := by rw [ti_sub (by simp; omega) (by simp; omega)]; rfl
  rcases stk_cases h hK hI x with ⟨_, h2⟩ | ⟨i, a, rfl, hi, _, r1, _, hd⟩
  · exfalso
    unfold f_X12_isStick at h2
    rw [in_iff, k] at h2
    simp at h2
    omega
  · rw [r1]
    exact sets_eq (σ := σ1) (by rw [e]; exact hK) hi (by rw [e]; exact hd) w n hn
theorem inc {x : Int32} (h0 : 0 ≤ x.toInt) (h1 : x.toInt ≤ 1000000) : (x + 1).toInt = x.toInt + 1 := by rw [ti_add (by simp; omega) (by simp; omega)]; rfl
/-- the best found so far, on both sides -/
def SI (τ' : St) (any b t l : Int32) : Prop := (any = 0 ∧ b = -5 ∧ t = -5 ∧ l = -5) ∨ (any = 1 ∧ τ' 5 0 = b ∧ τ' 5 1 = t ∧ τ' 5 2 = l ∧ 0 ≤ b.toInt)
def SR (τ σ : St) (q : Int32) (r s : Int32 × St) : Prop := (if r.1 = 0 then -5 else r.2 5 (ix q)) = s.1 ∧ OX τ r.2 ∧ OM σ s.2
theorem sure_in (h : RN 20 τ (σ 1)) (hK : RK 20 ρ dt (σ 1)) (hI : IB (σ 1)) {w l q x : Int32} (hx : 0 ≤ x.toInt) (hx1 : x.toInt < (σ 1 0).toInt) {K5 : St → Int32 → Int32 → Int32 → Int32 → Int32 × St} {K48 : St → Int32 → Int32 → Int32 → Int32 → Int32 → Int32 → Int32 → Int32 × St} (hk : ∀ (τ' σ' : St) (any b t z : Int32), OX τ τ' → SM σ σ' → SI τ' any b t z → SR τ σ q (K5 τ' w l any (x + 1)) (K48 σ' w l q b t z (x + 1))) : ∀ (n : Nat) (τ' σ' : St) (any b t z c : Int32), OX τ τ' → SM σ σ' → SI τ' any b t z → 0 ≤ c.toInt → c.toInt ≤ 31 → c.toInt + (n : Int) ≥ 32 → SR τ σ q (g_X11_findSurest_31 ρ dt K5 n τ' w l any x (rf (f_X5_stickAt ρ τ x)) c) (g_X12_surest_62 K48 n σ' w l q b t z x c)
  | 0, τ', σ', any, b, t, z, c, ox, sm, si, c0, c1, cn => by exfalso; omega
  | n + 1, τ', σ', any, b, t, z, c, ox, sm, si, c0, c1, cn => by
    have s1 : g_X11_findSurest_31 ρ dt K5 (n + 1) τ' w l any x (rf (f_X5_stickAt ρ τ x)) c = f_X11_findSurest_31 ρ dt K5 (g_X11_findSurest_31 ρ dt K5 n) τ' w l any x (rf (f_X5_stickAt ρ τ x)) c := rfl
    have s2 : g_X12_surest_62 K48 (n + 1) σ' w l q b t z x c = f_X12_surest_62 K48 (g_X12_surest_62 K48 n) σ' w l q b t z x c := rfl
    rw [s1, s2]
    unfold f_X11_findSurest_31 f_X11_findSurest_145 f_X11_findSurest_139 f_X11_findSurest_113 f_X11_findSurest_139 f_X12_surest_62 f_X12_surest_114 f_X12_surest_133 bd1
    dsimp only
    by_cases k : (30 : Int32) < c
    · rw [if_pos k, if_pos k]
      exact hk τ' σ' any b t z ox sm si
    · rw [if_neg k, if_neg k]
      have k' : c.toInt ≤ 30 := by rw [ti_lt] at k; simp at k; omega
      have ci := inc c0 (by omega)
      obtain ⟨m1, m2, m3, m4, m5⟩ := sets_at h hK hI (σ1 := σ') (sm 1 (by omega)) hx hx1 w c c0
      have e2 : f_X12_sets σ' x w c 13 0 = f_X5_middle ρ dt τ' (rf (f_X5_stickAt ρ τ x)) w c := m2
      have e4 : f_X12_sets σ' x w c 15 0 = f_X5_least ρ dt τ' (rf (f_X5_stickAt ρ τ x)) w c := m4
      have e5 : f_X12_sets σ' x w c 16 0 = f_X5_most ρ dt τ' (rf (f_X5_stickAt ρ τ x)) w c := m5
      rw [e2, e4, e5]
      generalize f_X12_sets σ' x w c = u at *
      generalize f_X5_most ρ dt τ' (rf (f_X5_stickAt ρ τ x)) w c - f_X5_least ρ dt τ' (rf (f_X5_stickAt ρ τ x)) w c = ap
      generalize l - f_X5_middle ρ dt τ' (rf (f_X5_stickAt ρ τ x)) w c = ls
      have smu : SM σ u := sm.tr m1
      have keep : SR τ σ q (g_X11_findSurest_31 ρ dt K5 n τ' w l any x (rf (f_X5_stickAt ρ τ x)) (c + 1)) (g_X12_surest_62 K48 n u w l q b t z x (c + 1)) := sure_in h hK hI hx hx1 hk n τ' u any b t z (c + 1) ox smu si (by omega) (by omega) (by omega)
      have take : SR τ σ q (g_X11_findSurest_31 ρ dt K5 n (up2 (up2 (up2 τ' 5 0 x) 5 1 c) 5 2 ap) w l 1 x (rf (f_X5_stickAt ρ τ x)) (c + 1)) (g_X12_surest_62 K48 n u w l q x c ap x (c + 1)) := by
        refine sure_in h hK hI hx hx1 hk n _ u 1 x c ap (c + 1) (fun k hk => ?_) smu (Or.inr ⟨rfl, ?_, ?_, up2_same, hx⟩) (by omega) (by omega) (by omega)
        · rw [up2_row (by omega), up2_row (by omega), up2_row (by omega)]; exact ox k hk
        · rw [up2_pl (by decide), up2_pl (by decide), up2_same]
        · rw [up2_pl (by decide), up2_same]
      by_cases a1 : 0 ≤ ls.toInt ∧ ls.toInt ≤ 59
      · rw [if_neg (show ¬ ls < 0 by rw [ti_lt]; simp; omega), if_neg (show ¬ 59 < ls by rw [ti_lt]; simp; omega), if_neg (show ¬ f_X12_in ls 0 59 = 0 by rw [in_iff]; simp; omega)]
        rcases si with ⟨y1, y2, y3, y4⟩ | ⟨y1, y2, y3, y4, y5⟩
        · rw [if_pos y1, if_pos y2]
          exact take
        · rw [if_neg (show ¬ any = 0 by rw [y1]; decide), if_neg (show ¬ b = -5 by rw [ti_eq]; simp; omega), y4]
          by_cases y : z ≤ ap
          · rw [if_pos y, if_pos y]; exact keep
          · rw [if_neg y, if_neg y]; exact take
      · rw [if_pos (show f_X12_in ls 0 59 = 0 by rw [in_iff]; simp; omega)]
        by_cases y : ls < 0
        · rw [if_pos y]; exact keep
        · rw [if_neg y, if_pos (show (59 : Int32) < ls by rw [ti_lt] at *; simp at *; omega)]; exact keep
theorem sure_out (h : RN 20 τ (σ 1)) (hK : RK 20 ρ dt (σ 1)) (hI : IB (σ 1)) {w l q : Int32} (hq : q = 0 ∨ q = 1 ∨ q = 2) : ∀ (n : Nat) (τ' σ' : St) (any b t z x : Int32), OX τ τ' → SM σ σ' → SI τ' any b t z → 0 ≤ x.toInt → x.toInt ≤ (σ 1 0).toInt → x.toInt + (n : Int) ≥ (σ 1 0).toInt + 1 → SR τ σ q (g_X11_findSurest_5 ρ dt n τ' w l any x) (g_X12_surest_48 n σ' w l q b t z x)
  | 0, τ', σ', any, b, t, z, x, ox, sm, si, c0, c1, cn => by exfalso; omega
  | n + 1, τ', σ', any, b, t, z, x, ox, sm, si, c0, c1, cn => by
    have s1 : g_X11_findSurest_5 ρ dt (n + 1) τ' w l any x = f_X11_findSurest_5 ρ dt (g_X11_findSurest_5 ρ dt n) τ' w l any x := rfl
    have s2 : g_X12_surest_48 (n + 1) σ' w l q b t z x = f_X12_surest_48 (g_X12_surest_48 n) σ' w l q b t z x := rfl
    rw [s1, s2]
    unfold f_X11_findSurest_5 f_X12_surest_48
    have e : τ' 25 0 = σ 1 0 := by rw [ox 25 (by omega)]; exact h.n0
    have e' : σ' 1 = σ 1 := sm 1 (by omega)
    have b0 := hI.1
    rw [e, e']
    by_cases k : σ 1 0 ≤ x
    · rw [if_pos k, if_pos k]
      refine ⟨?_, ox, sm.om⟩
      rcases si with ⟨y1, y2, y3, y4⟩ | ⟨y1, y2, y3, y4, y5⟩
      · rw [if_pos y1, y2, y3, y4]
        show (-5 : Int32) = if q = 0 then -5 else if q = 1 then -5 else -5
        simp
      · rw [if_neg (show ¬ any = 0 by rw [y1]; decide)]
        show τ' 5 (ix q) = if q = 0 then b else if q = 1 then t else z
        rcases hq with rfl | rfl | rfl
        · rw [if_pos rfl, ← y2]; rfl
        · rw [if_neg (by decide), if_pos rfl, ← y3]; rfl
        · rw [if_neg (by decide), if_neg (by decide), ← y4]; rfl
    · rw [if_neg k, if_neg k]
      have k' : x.toInt < (σ 1 0).toInt := by rw [ti_le] at k; omega
      have ci := inc c0 (by omega)
      have es : f_X5_stickAt ρ τ' x = f_X5_stickAt ρ τ x := by unfold f_X5_stickAt; rw [ox 25 (by omega)]
      rw [es]
      exact sure_in h hK hI c0 k' (fun τ2 σ2 any b t z o s i => sure_out h hK hI hq n τ2 σ2 any b t z (x + 1) o s i (by omega) (by omega) (by omega)) 32 τ' σ' any b t z 0 ox sm si (by simp) (by simp) (by simp)
theorem c_surest (h : RN 20 τ (σ 1)) (hK : RK 20 ρ dt (σ 1)) (hI : IB (σ 1)) (w l q : Int32) : Q1 τ σ (f_X11_surest ρ dt τ w l q) (f_X12_surest σ w l q) := by
  unfold f_X11_surest f_X12_surest
  by_cases hw : 0 ≤ w.toInt ∧ w.toInt < (σ 1 1).toInt
  rotate_left
  · rw [if_pos ((wall_eq h hI w).1.mpr hw), if_pos ((wall_eq h hI w).2.mpr hw)]; exact Q1.same h hI
  rw [if_neg (fun z => (wall_eq h hI w).1.mp z hw), if_neg (fun z => (wall_eq h hI w).2.mp z hw)]
  by_cases hq : 0 ≤ q.toInt ∧ q.toInt ≤ 2
  rotate_left
  · rw [if_pos (show f_X12_in q 0 2 = 0 by rw [in_iff]; simp; omega)]
    simp only [ti_lt, ti_le, Int32.reduceToInt]
    (repeat' split) <;> first | exact Q1.same h hI | (exfalso; omega)
  rw [if_neg (show ¬ q < 0 by rw [ti_lt]; simp; omega), if_pos (show q ≤ 2 by rw [ti_le]; simp; omega), if_neg (show ¬ f_X12_in q 0 2 = 0 by rw [in_iff]; simp; omega)]
  by_cases hl : 1 ≤ l.toInt ∧ l.toInt ≤ 999
  rotate_left
  · rw [if_pos (show f_X12_in l 1 999 = 0 by rw [in_iff]; simp; omega)]
    simp only [ti_lt, ti_le, Int32.reduceToInt]
    (repeat' split) <;> first | exact Q1.same h hI | (exfalso; omega)
  rw [if_neg (show ¬ l < 1 by rw [ti_lt]; simp; omega), if_pos (show l ≤ 999 by rw [ti_le]; simp; omega), if_neg (show ¬ f_X12_in l 1 999 = 0 by rw [in_iff]; simp; omega)]
  have b0 := hI.1
  have hq' : q = 0 ∨ q = 1 ∨ q = 2 := by simp only [ti_eq, Int32.reduceToInt]; omega
  obtain ⟨r1, r2, r3⟩ := sure_out (ρ := ρ) (dt := dt) h hK hI (w := w) (l := l) hq' 7 τ σ 0 (-5) (-5) (-5) 0 OX.rf SM.rf (Or.inl ⟨rfl, rfl, rfl, rfl⟩) (by simp) (by simp; omega) (by simp; omega)
  unfold f_X11_findSurest bd
  dsimp only
  generalize g_X11_findSurest_5 ρ dt 7 τ w l 0 0 = R at *
  generalize g_X12_surest_48 7 σ w l q (-5) (-5) (-5) 0 = S at *
  rw [r1]
  exact Q1.om h hI r2 r3
theorem mid_nn (a : Nat) (w n : Int32) : 0 ≤ (f_X5_middle ρ dt τ a w n).toInt := by
  unfold f_X5_middle
  simp only [ti_lt, Int32.reduceToInt]
  (repeat' split) <;> first | (simp; done) | omega
theorem mx9 {x : Int32} (h : x.toInt ≤ 9) : (if 0 < x then x else (0 : Int32)).toInt ≤ 9 := by
  split
  · exact h
  · decide
theorem mid0 {i a : Nat} (hI : IB (σ 1)) (hi : i < 6) (hd : SD (dt a) (σ 1) i) (w : Int32) : (f_X5_middle ρ dt τ a w 0).toInt ≤ 9 := by
  obtain ⟨d0, d1, d2, d3, d4⟩ := hd
  have v0 : ∀ x : Int32, (vmid (dt a) 0 x).toInt ≤ 9 := by
    intro x
    unfold vmid f_X10_middle f_X7_middle f_X6_middle f_X3_middle f_X8_middle f_X8_more
    simp only [Int32.zero_mul, Int32.zero_add]
    by_cases k6 : dt a 1 = 6
    · rw [k6, if_neg (by decide), if_neg (by decide), if_neg (by decide), if_neg (by decide), if_neg (by decide), if_pos rfl]
      have r := hI.2.2.2.2.2.2.2.2.2.2.2.2.1 (4 * i) (by omega)
      have e := d4 k6 0 (by omega)
      have e0 : ix ((0 : Int32) &&& 3) = 0 := by decide
      rw [e0, e, show 27 + 4 * i + 0 = 27 + 4 * i from rfl]
      exact r.2
    · rw [if_neg k6, if_pos (show (0 : Int32) ≤ 0 by decide), show (if (0 : Int32) < 0 / 2 then (0 : Int32) else 0 / 2) = 0 by decide, Int32.sub_zero]
      have z : (0 : Int32).toInt ≤ 9 := by decide
      (repeat' split) <;> exact z
  unfold f_X5_middle
  split
  · exact mx9 (v0 _)
  · exact mx9 (v0 _)
theorem near_loop (h : RN 20 τ (σ 1)) (hK : RK 20 ρ dt (σ 1)) (hI : IB (σ 1)) {w s g : Int32} (hw : 0 ≤ w.toInt ∧ w.toInt < (σ 1 1).toInt) (h0 : 0 ≤ s.toInt) (h1 : s.toInt < (σ 1 0).toInt) {a : Nat} (ha : rf (f_X5_stickAt ρ τ s) = a) (hm0 : (f_X5_middle ρ dt τ a w 0).toInt ≤ 9) : ∀ (n : Nat) (σ' : St) (a3 a4 b4 b5 c : Int32), SM σ σ' → 0 ≤ c.toInt → c.toInt ≤ 31 → c.toInt + (n : Int) ≥ 32 → ((c = 0 ∧ a4 = -1 ∧ b4 = 10000000) ∨ (0 ≤ a4.toInt ∧ b4 = a4 ∧ b5 = a3 * f_X5_slack ρ dt τ a w a3)) → ∃ u : St, SM σ u ∧ g_X12_again_42 n σ' w s g b4 b5 c = g_X12_again_159 62 u g (g_X11_nearestTimes_8 ρ dt n τ a w a3 a4 c * f_X5_slack ρ dt τ a w (g_X11_nearestTimes_8 ρ dt n τ a w a3 a4 c)) (f_X12_gapOf u w) 0
  | 0, σ', a3, a4, b4, b5, c, sm, c0, c1, cn, inv => by exfalso; omega
  | n + 1, σ', a3, a4, b4, b5, c, sm, c0, c1, cn, inv => by
    have s1 : g_X11_nearestTimes_8 ρ dt (n + 1) τ a w a3 a4 c = f_X11_nearestTimes_8 ρ dt (g_X11_nearestTimes_8 ρ dt n) τ a w a3 a4 c := rfl
    have s2 : g_X12_again_42 (n + 1) σ' w s g b4 b5 c = f_X12_again_42 (g_X12_again_42 n) σ' w s g b4 b5 c := rfl
    rw [s1, s2]
    unfold f_X11_nearestTimes_8 f_X11_nearestTimes_60 f_X11_nearestTimes_53 f_X11_nearestTimes_60 f_X12_again_42 bd1
    dsimp only
    by_cases k : (30 : Int32) < c
    · rw [if_pos k, if_pos k]
      have k' : (30 : Int) < c.toInt := by rw [ti_lt] at k; simpa using k
      rcases inv with ⟨y, _⟩ | ⟨_, _, y⟩
      · exfalso; rw [y] at k'; simp at k'
      · rw [y]; exact ⟨σ', sm, rfl⟩
    · rw [if_neg k, if_neg k]
      have k' : c.toInt ≤ 30 := by rw [ti_lt] at k; simp at k; omega
      have ci := inc c0 (by omega)
      obtain ⟨m1, m2, m3, m4, m5⟩ := sets_at h hK hI (σ1 := σ') (sm 1 (by omega)) h0 h1 w c c0
      rw [ha] at m2 m3
      obtain ⟨t1, t2, t3, _⟩ := wl_at h hI hw.1 hw.2
      generalize f_X12_sets σ' s w c = u at *
      have smu : SM σ u := sm.tr m1
      rw [m2, m3, smu 1 (by omega), ← t1]
      rw [← t1] at t3
      have md := mid_nn (ρ := ρ) (dt := dt) (τ := τ) a w c
      have aw : (if τ 26 (ix w) ≤ f_X5_middle ρ dt τ a w c then f_X5_middle ρ dt τ a w c - τ 26 (ix w) else τ 26 (ix w) - f_X5_middle ρ dt τ a w c) = (if 0 ≤ f_X5_middle ρ dt τ a w c - τ 26 (ix w) then f_X5_middle ρ dt τ a w c - τ 26 (ix w) else 0 - (f_X5_middle ρ dt τ a w c - τ 26 (ix w))) := by
        have z := ti_rng (f_X5_middle ρ dt τ a w c)
        have q1 : (f_X5_middle ρ dt τ a w c - τ 26 (ix w)).toInt = (f_X5_middle ρ dt τ a w c).toInt - (τ 26 (ix w)).toInt := ti_sub (by omega) (by omega)
        have q2 : (τ 26 (ix w) - f_X5_middle ρ dt τ a w c).toInt = (τ 26 (ix w)).toInt - (f_X5_middle ρ dt τ a w c).toInt := ti_sub (by omega) (by omega)
        have q3 : (0 - (f_X5_middle ρ dt τ a w c - τ 26 (ix w))).toInt = (τ 26 (ix w)).toInt - (f_X5_middle ρ dt τ a w c).toInt := by rw [ti_sub (by rw [q1]; simp; omega) (by rw [q1]; simp; omega), q1]; simp; omega
        rw [ti_eq]
        simp only [ti_le, q1, Int32.reduceToInt]
        (repeat' split) <;> omega
      rw [aw]
      have awt : 0 ≤ (if 0 ≤ f_X5_middle ρ dt τ a w c - τ 26 (ix w) then f_X5_middle ρ dt τ a w c - τ 26 (ix w) else 0 - (f_X5_middle ρ dt τ a w c - τ 26 (ix w))).toInt ∧ (c = 0 → (if 0 ≤ f_X5_middle ρ dt τ a w c - τ 26 (ix w) then f_X5_middle ρ dt τ a w c - τ 26 (ix w) else 0 - (f_X5_middle ρ dt τ a w c - τ 26 (ix w))).toInt < 10000000) := by
        have z := ti_rng (f_X5_middle ρ dt τ a w c)
        have q1 : (f_X5_middle ρ dt τ a w c - τ 26 (ix w)).toInt = (f_X5_middle ρ dt τ a w c).toInt - (τ 26 (ix w)).toInt := ti_sub (by omega) (by omega)
        have q3 : (0 - (f_X5_middle ρ dt τ a w c - τ 26 (ix w))).toInt = (τ 26 (ix w)).toInt - (f_X5_middle ρ dt τ a w c).toInt := by rw [ti_sub (by rw [q1]; simp; omega) (by rw [q1]; simp; omega), q1]; simp; omega
        simp only [ti_le, q1, Int32.reduceToInt]
        constructor
        · split <;> omega
        · intro zc
          rw [← zc] at hm0
          split <;> omega
      generalize (if 0 ≤ f_X5_middle ρ dt τ a w c - τ 26 (ix w) then f_X5_middle ρ dt τ a w c - τ 26 (ix w) else 0 - (f_X5_middle ρ dt τ a w c - τ 26 (ix w))) = A at awt
      have go := fun (a3 a4 b4 b5 : Int32) (i : 0 ≤ a4.toInt ∧ b4 = a4 ∧ b5 = a3 * f_X5_slack ρ dt τ a w a3) => near_loop h hK hI (g := g) hw h0 h1 ha hm0 n u a3 a4 b4 b5 (c + 1) smu (by omega) (by omega) (by omega) (Or.inr i)
      rcases inv with ⟨y1, y2, y3⟩ | ⟨y1, y2, y3⟩
      · rw [if_pos (show a4 < 0 by rw [y2]; decide), if_neg (show ¬ b4 ≤ A by rw [y3, ti_le]; simp; have := awt.2 y1; omega), if_neg (show ¬ b4 ≤ A by rw [y3, ti_le]; simp; have := awt.2 y1; omega)]
        exact go c A A _ ⟨awt.1, rfl, rfl⟩
      · rw [if_neg (show ¬ a4 < 0 by rw [ti_lt]; simp; omega), y2]
        by_cases z : a4 ≤ A
        · rw [if_pos z, if_pos z, if_pos z]
          exact go a3 a4 a4 b5 ⟨y1, rfl, y3⟩
        · rw [if_neg z, if_neg z, if_neg z]
          exact go c A A _ ⟨awt.1, rfl, rfl⟩
theorem again_tail {g f : Int32} {u : St} : ∀ (n : Nat) (gp c : Int32), g_X12_again_159 n u g f gp c = (g_X11_again_81 ρ dt n τ g f gp c, u)
  | 0, _, _ => rfl
  | n + 1, gp, c => by
    show f_X12_again_159 (g_X12_again_159 n) u g f gp c = (f_X11_again_81 ρ dt (g_X11_again_81 ρ dt n) τ g f gp c, u)
    unfold f_X12_again_159 f_X11_again_81
    rw [gr_if, ← ls_if', again_tail n]
    (repeat' split) <;> rfl
theorem c_again (h : RN 20 τ (σ 1)) (hK : RK 20 ρ dt (σ 1)) (hI : IB (σ 1)) (w s g : Int32) : Q1 τ σ (f_X11_again ρ dt τ w s g, τ) (f_X12_again σ w s g) := by
  unfold f_X11_again f_X12_again
  by_cases hw : 0 ≤ w.toInt ∧ w.toInt < (σ 1 1).toInt
  rotate_left
  · rw [if_pos ((wall_eq h hI w).2.mpr hw)]
    simp only [if_pos ((wall_eq h hI w).1.mpr hw)]
    (repeat' split) <;> exact Q1.same h hI
  rw [if_neg (fun z => (wall_eq h hI w).2.mp z hw)]
  have nw : ¬ f_X5_isWall τ w = 0 := fun z => (wall_eq h hI w).1.mp z hw
  rcases stk_cases h hK hI s with ⟨h1, h2⟩ | ⟨i, a, rfl, hi, hi', h1, h2, hd⟩
  · rw [if_pos h1, if_neg nw, if_pos h2]; exact Q1.same h hI
  rw [if_neg (by rw [h1]; simp), if_neg h2, if_neg nw]
  by_cases hg : 0 ≤ g.toInt ∧ g.toInt ≤ 999
  rotate_left
  · rw [if_pos (show f_X12_in g 0 999 = 0 by rw [in_iff]; simp; omega)]
    simp only [ti_lt, ti_le, Int32.reduceToInt]
    (repeat' split) <;> first | exact Q1.same h hI | (exfalso; omega)
  rw [if_neg (show ¬ g < 0 by rw [ti_lt]; simp; omega), if_pos (show g ≤ 999 by rw [ti_le]; simp; omega), if_neg (show ¬ f_X12_in g 0 999 = 0 by rw [in_iff]; simp; omega)]
  have t := nI_toInt (show i < 2 ^ 31 by omega)
  have ha : rf (f_X5_stickAt ρ τ (nI i)) = a := by rw [h1]; rfl
  obtain ⟨u, u1, u2⟩ := near_loop h hK hI (g := g) hw (show 0 ≤ (nI i).toInt by rw [t]; omega) (show (nI i).toInt < (σ 1 0).toInt by rw [t]; exact hi') ha (mid0 hI hi hd w) 32 σ 0 (-1) 10000000 0 0 SM.rf (by simp) (by simp) (by simp) (Or.inl ⟨rfl, rfl, rfl⟩)
  rw [u2, ha, again_tail (ρ := ρ) (dt := dt) (τ := τ)]
  have gp : f_X12_gapOf u w = f_X5_gap τ w := by
    have := (gap_at h hI hw.1 hw.2).1
    rw [this]
    unfold f_X12_gapOf
    rw [u1 1 (by omega)]
  rw [gp]
  exact Q1.om h hI OX.rf u1.om
end SEARCH
