/-! THE TWO SIDES TOGETHER: whose, wrong -/
section WHOSE
variable {ρ : RR} {dt : Nat → Nat → Int32} {τ σ : St}
theorem mk_in (h : RN 20 τ (σ 1)) (hK : RK 20 ρ dt (σ 1)) (hI : IB (σ 1)) {w bt x : Int32} (hx : 0 ≤ x.toInt) (hx1 : x.toInt < (σ 1 0).toInt) {K5 : St → Int32 → Int32 → Int32 → Int32 → Int32 × St} {st : Int32} : ∀ (n : Nat) (σ' : St) (is c : Int32), SM σ σ' → 0 ≤ c.toInt → c.toInt ≤ (σ 1 4).toInt → c.toInt + (n : Int) ≥ (σ 1 4).toInt + 1 → ∃ u : St, SM σ u ∧ g_X12_whoseBut_22 K5 n σ' w bt st x is c = K5 u w bt (st ||| (if is = 0 then 0 else if g_X11_isMarkedBy_3 ρ dt n τ (rf (f_X5_stickAt ρ τ x)) w bt c = 0 then 0 else (1 : Int32) <<< (x &&& 31))) (x + 1)
  | 0, σ', is, c, sm, c0, c1, cn => by exfalso; omega
  | n + 1, σ', is, c, sm, c0, c1, cn => by
    have s1 : g_X11_isMarkedBy_3 ρ dt (n + 1) τ (rf (f_X5_stickAt ρ τ x)) w bt c = f_X11_isMarkedBy_3 ρ dt (g_X11_isMarkedBy_3 ρ dt n) τ (rf (f_X5_stickAt ρ τ x)) w bt c := rfl
    have s2 : g_X12_whoseBut_22 K5 (n + 1) σ' w bt st x is c = f_X12_whoseBut_22 K5 (g_X12_whoseBut_22 K5 n) σ' w bt st x is c := rfl
    rw [s1, s2]
    have b4 := hI.2.2.2.2.1
    have e : τ 34 0 = σ 1 4 := h.n4
    have e' : σ' 1 = σ 1 := sm 1 (by omega)
    unfold f_X11_isMarkedBy_3 f_X11_isMarkedBy_71 f_X12_whoseBut_22 bd1
    dsimp only
    rw [e, e']
    by_cases k : σ 1 4 ≤ c
    · rw [if_pos k, if_pos k]
      refine ⟨σ', sm, ?_⟩
      rw [if_neg (show ¬ (1 : Int32) = 0 by decide)]
    · rw [if_neg k, if_neg k]
      have k' : c.toInt < (σ 1 4).toInt := by rw [ti_le] at k; omega
      have ci := inc c0 (by omega)
      obtain ⟨m1, m2, m3, m4, m5⟩ := sets_at h hK hI (σ1 := σ') e' hx hx1 w (c + 1) (by omega)
      generalize f_X12_sets σ' x w (c + 1) = u at *
      have smu : SM σ u := sm.tr m1
      have i1 : ix (79 + c) = 79 + ix c := ixS (n := 79) rfl (by omega) (by decide) (by omega)
      have mk : σ 1 (ix (79 + c)) = τ 33 (ix c) := by rw [i1]; exact (h.mk _ (ix_lt (by omega) (by omega))).symm
      rw [m4, m5, smu 1 (by omega), mk]
      obtain ⟨v, v1, v2⟩ := mk_in h hK hI (w := w) (bt := bt) hx hx1 (K5 := K5) (st := st) n u (if is = 0 then 0 else if c = bt then 1 else if f_X12_in (τ 33 (ix c)) (f_X5_least ρ dt τ (rf (f_X5_stickAt ρ τ x)) w (c + 1)) (f_X5_most ρ dt τ (rf (f_X5_stickAt ρ τ x)) w (c + 1)) = 0 then 0 else 1) (c + 1) smu (by omega) (by omega) (by omega)
      refine ⟨v, v1, ?_⟩
      rw [v2]
      congr 2
      by_cases z : is = 0
      · rw [if_pos z, if_pos z, if_pos rfl]
      rw [if_neg z, if_neg z]
      by_cases y : c = bt
      · rw [if_pos y, if_pos y, if_neg (by decide)]
      rw [if_neg y, if_neg y]
      generalize f_X5_least ρ dt τ (rf (f_X5_stickAt ρ τ x)) w (c + 1) = L
      generalize f_X5_most ρ dt τ (rf (f_X5_stickAt ρ τ x)) w (c + 1) = M
      simp only [in_iff]
      by_cases q1 : τ 33 (ix c) < L
      · rw [if_pos q1]
        rw [ti_lt] at q1
        rw [if_pos (show ¬ (L.toInt ≤ (τ 33 (ix c)).toInt ∧ (τ 33 (ix c)).toInt ≤ M.toInt) by omega)]
        simp
      rw [if_neg q1]
      by_cases q2 : τ 33 (ix c) ≤ M
      · rw [if_pos q2]
        rw [ti_lt] at q1
        rw [ti_le] at q2
        rw [if_neg (show ¬ ¬ (L.toInt ≤ (τ 33 (ix c)).toInt ∧ (τ 33 (ix c)).toInt ≤ M.toInt) by omega), if_neg (show ¬ (1 : Int32) = 0 by decide)]
      · rw [if_neg q2]
        rw [ti_le] at q2
        rw [if_pos (show ¬ (L.toInt ≤ (τ 33 (ix c)).toInt ∧ (τ 33 (ix c)).toInt ≤ M.toInt) by omega)]
        simp
theorem whose_loop (h : RN 20 τ (σ 1)) (hK : RK 20 ρ dt (σ 1)) (hI : IB (σ 1)) {w bt : Int32} : ∀ (n : Nat) (σ' : St) (st x : Int32), SM σ σ' → 0 ≤ x.toInt → x.toInt ≤ (σ 1 0).toInt → x.toInt + (n : Int) ≥ (σ 1 0).toInt + 1 → ∃ u : St, SM σ u ∧ g_X12_whoseBut_5 n σ' w bt st x = (g_X11_whoseWithout_5 ρ dt n τ w bt st x, u)
  | 0, σ', st, x, sm, c0, c1, cn => by exfalso; omega
  | n + 1, σ', st, x, sm, c0, c1, cn => by
    have s1 : g_X11_whoseWithout_5 ρ dt (n + 1) τ w bt st x = f_X11_whoseWithout_5 ρ dt (g_X11_whoseWithout_5 ρ dt n) τ w bt st x := rfl
    have s2 : g_X12_whoseBut_5 (n + 1) σ' w bt st x = f_X12_whoseBut_5 (g_X12_whoseBut_5 n) σ' w bt st x := rfl
    rw [s1, s2]
    have b0 := hI.1
    have b4 := hI.2.2.2.2.1
    have e : τ 25 0 = σ 1 0 := h.n0
    have e' : σ' 1 = σ 1 := sm 1 (by omega)
    unfold f_X11_whoseWithout_5 f_X11_whoseWithout_51 f_X12_whoseBut_5
    rw [e, e']
    by_cases k : σ 1 0 ≤ x
    · rw [if_pos k, if_pos k]
      exact ⟨σ', sm, rfl⟩
    · rw [if_neg k, if_neg k]
      have k' : x.toInt < (σ 1 0).toInt := by rw [ti_le] at k; omega
      have ci := inc c0 (by omega)
      obtain ⟨u, u1, u2⟩ := mk_in h hK hI (w := w) (bt := bt) c0 k' (K5 := g_X12_whoseBut_5 n) (st := st) 7 σ' 1 0 sm (by simp) (by simp; omega) (by simp; omega)
      rw [u2, if_neg (show ¬ (1 : Int32) = 0 by decide)]
      unfold f_X11_isMarkedBy
      by_cases z : g_X11_isMarkedBy_3 ρ dt 7 τ (rf (f_X5_stickAt ρ τ x)) w bt 0 = 0
      · rw [if_pos z, if_pos z, Int32.or_zero]
        exact whose_loop h hK hI n u st (x + 1) u1 (by omega) (by omega) (by omega)
      · rw [if_neg z, if_neg z]
        exact whose_loop h hK hI n u _ (x + 1) u1 (by omega) (by omega) (by omega)
theorem whose_eq (h : RN 20 τ (σ 1)) (hK : RK 20 ρ dt (σ 1)) (hI : IB (σ 1)) (w bt : Int32) {σ' : St} (sm : SM σ σ') : ∃ u : St, SM σ u ∧ f_X12_whoseBut σ' w bt = (f_X11_whoseWithout ρ dt τ w bt, u) := by
  have b0 := hI.1
  exact whose_loop h hK hI 7 σ' 0 0 sm (by simp) (by simp; omega) (by simp; omega)
theorem c_whose (h : RN 20 τ (σ 1)) (hK : RK 20 ρ dt (σ 1)) (hI : IB (σ 1)) (w : Int32) : Q1 τ σ (f_X11_whose ρ dt τ w, τ) (f_X12_whose σ w) := by
  unfold f_X11_whose f_X12_whose
  by_cases hw : 0 ≤ w.toInt ∧ w.toInt < (σ 1 1).toInt
  rotate_left
  · rw [if_pos ((wall_eq h hI w).1.mpr hw), if_pos ((wall_eq h hI w).2.mpr hw)]; exact Q1.same h hI
  rw [if_neg (fun z => (wall_eq h hI w).1.mp z hw), if_neg (fun z => (wall_eq h hI w).2.mp z hw)]
  obtain ⟨u, u1, u2⟩ := whose_eq h hK hI w (-1) SM.rf
  unfold bd
  rw [u2]
  exact Q1.om h hI OX.rf u1.om
theorem wrong_loop (h : RN 20 τ (σ 1)) (hK : RK 20 ρ dt (σ 1)) (hI : IB (σ 1)) {w : Int32} : ∀ (n : Nat) (σ' : St) (x : Int32), SM σ σ' → 0 ≤ x.toInt → x.toInt ≤ (σ 1 4).toInt → x.toInt + (n : Int) ≥ (σ 1 4).toInt + 1 → ∃ u : St, SM σ u ∧ g_X12_wrong_24 n σ' w x = (g_X11_wrong_27 ρ dt n τ w x, u)
  | 0, σ', x, sm, c0, c1, cn => by exfalso; omega
  | n + 1, σ', x, sm, c0, c1, cn => by
    have s1 : g_X11_wrong_27 ρ dt (n + 1) τ w x = f_X11_wrong_27 ρ dt (g_X11_wrong_27 ρ dt n) τ w x := rfl
    have s2 : g_X12_wrong_24 (n + 1) σ' w x = f_X12_wrong_24 (g_X12_wrong_24 n) σ' w x := rfl
    rw [s1, s2]
    have b4 := hI.2.2.2.2.1
    have e : τ 34 0 = σ 1 4 := h.n4
    have e' : σ' 1 = σ 1 := sm 1 (by omega)
    unfold f_X11_wrong_27 f_X12_wrong_24 bd
    rw [e, e']
    by_cases k : σ 1 4 ≤ x
    · rw [if_pos k, if_pos k]
      exact ⟨σ', sm, rfl⟩
    · rw [if_neg k, if_neg k]
      have k' : x.toInt < (σ 1 4).toInt := by rw [ti_le] at k; omega
      have ci := inc c0 (by omega)
      obtain ⟨u, u1, u2⟩ := whose_eq h hK hI w x sm
      rw [u2]
      dsimp only
      by_cases z : f_X11_whoseWithout ρ dt τ w x = 0
      · rw [if_pos z, if_pos z]
        exact wrong_loop h hK hI n u (x + 1) u1 (by omega) (by omega) (by omega)
      · rw [if_neg z, if_neg z]
        exact ⟨u, u1, rfl⟩
theorem c_wrong (h : RN 20 τ (σ 1)) (hK : RK 20 ρ dt (σ 1)) (hI : IB (σ 1)) (w : Int32) : Q1 τ σ (f_X11_wrong ρ dt τ w, τ) (f_X12_wrong σ w) := by
  unfold f_X11_wrong f_X12_wrong
  by_cases hw : 0 ≤ w.toInt ∧ w.toInt < (σ 1 1).toInt
  rotate_left
  · rw [if_pos ((wall_eq h hI w).1.mpr hw), if_pos ((wall_eq h hI w).2.mpr hw)]; exact Q1.same h hI
  rw [if_neg (fun z => (wall_eq h hI w).1.mp z hw), if_neg (fun z => (wall_eq h hI w).2.mp z hw)]
  obtain ⟨u, u1, u2⟩ := whose_eq h hK hI w (-1) SM.rf
  have b4 := hI.2.2.2.2.1
  unfold bd
  rw [u2]
  dsimp only
  by_cases z : f_X11_whoseWithout ρ dt τ w (-1) = 0
  · rw [if_pos z, if_pos z]
    obtain ⟨v, v1, v2⟩ := wrong_loop h hK hI (w := w) 7 u 0 u1 (by simp) (by simp; omega) (by simp; omega)
    rw [v2]
    exact Q1.om h hI OX.rf v1.om
  · rw [if_neg z, if_neg z]
    exact Q1.om h hI OX.rf u1.om
end WHOSE
