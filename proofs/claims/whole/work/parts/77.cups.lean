/-! THE TWO SIDES TOGETHER: cups -/
section CUPS
variable {τ σ : St}
/-- the two searches stand alike -/
def UR (a b en : Int32) (τ' σ' : St) : Prop := CQ σ' ∧ CB σ' a b ∧ en = σ' 23 0 ∧ (∀ j, j < 1681 → τ' 8 j = σ' 21 j) ∧ ∀ i : Nat, (i : Int) < en.toInt → τ' 9 i = σ' 22 i
def OU (σ u : St) : Prop := ∀ r, r ≠ 21 → r ≠ 22 → r ≠ 23 → u r = σ r
def OV (τ u : St) : Prop := ∀ r, r ≠ 8 → r ≠ 9 → u r = τ r
theorem comes_ou (σ : St) (x y : Int32) : OU σ (f_X12_comes σ x y) := fun r r1 r2 r3 => by
  unfold f_X12_comes
  split
  · rw [up2_row r3, up2_row r2, up2_row r1]
  · rfl
theorem cnt_1681 (f : Nat → Int32) : cnt f 1681 ≤ 1681 := cnt_le f 1681
/-- one move, on both sides -/
theorem mv {a b w en i c fw m : Int32} {τ' σ' : St} {K67 : St → Int32 → Int32 → Int32 → Int32 → Int32 → Int32 × St} {n : Nat} (ha : 1 ≤ a.toInt ∧ a.toInt ≤ 40) (hb : 1 ≤ b.toInt ∧ b.toInt ≤ 40) (hu : UR a b en τ' σ') (hc : SP c a b) (hf : τ' 8 (ix c) = fw) (hf0 : 0 ≤ fw.toInt) (hf1 : fw.toInt + 1 ≤ en.toInt) (hm : ¬ (6 : Int32) ≤ m) : ∃ (τ1 : St) (en1 : Int32), OV τ' τ1 ∧ UR a b en1 τ1 (f_X12_comes σ' (f_X11_afterMove (c / 41) (c - c / 41 * 41) a b m) (fw + 1)) ∧ τ1 8 (ix c) = fw ∧ fw.toInt + 1 ≤ en1.toInt ∧ g_X11_cups_122 K67 (n + 1) τ' a b w en i c m = g_X11_cups_122 K67 n τ1 a b w en1 i c (m + 1) := by
  obtain ⟨q1, q2, q3, q4, q5⟩ := hu
  have sm := hc.move (m := m) ha.2 hb.2 |> fun z => z
  have st : g_X11_cups_122 K67 (n + 1) τ' a b w en i c m = f_X11_cups_122 K67 (g_X11_cups_122 K67 n) τ' a b w en i c m := rfl
  rw [st]
  unfold f_X11_cups_122 f_X11_cups_196
  rw [if_neg hm, hf]
  generalize f_X11_afterMove (c / 41) (c - c / 41 * 41) a b m = X at *
  have xb := sm.num ha.2 hb.2
  have cb := hc.num ha.2 hb.2
  have xi : ix X < 1681 := ix_lt xb.1 (by omega)
  have ci : ix c < 1681 := ix_lt cb.1 (by omega)
  have enb : 0 ≤ en.toInt ∧ en.toInt ≤ 1681 := by
    have := cnt_1681 (σ' 21)
    rw [q3, q1.2.1]
    omega
  have f1 : (fw + 1).toInt = fw.toInt + 1 := inc hf0 (by omega)
  have cq := q1.comes (a1 := X) (a2 := fw + 1) xb.1 xb.2 (by omega) (by rw [f1, ← q3]; omega)
  have cbb := CB.comes (a2 := fw + 1) q1 q2 xb.1 xb.2 _ _ (Classical.choose_spec (Classical.choose_spec sm)).1 (Classical.choose_spec (Classical.choose_spec sm)).2.1 (Classical.choose_spec (Classical.choose_spec sm)).2.2.1 (Classical.choose_spec (Classical.choose_spec sm)).2.2.2.1 (Classical.choose_spec (Classical.choose_spec sm)).2.2.2.2
  have e8 := q4 _ xi
  rcases q1.1 _ xi with u | u
  · -- it comes
    have room := q1.room xb.1 xb.2 u
    have ie : ix (σ' 23 0) < 1681 := ix_lt room.1 (by omega)
    rw [if_neg (show ¬ 0 ≤ τ' 8 (ix X) by rw [e8, u]; decide), if_neg (show ¬ (1681 : Int32) ≤ en by rw [ti_le, q3]; simp; omega)]
    have ne : ix c ≠ ix X := fun z => by rw [← z, ← q4 _ ci, hf] at u; rw [u] at hf0; simp at hf0
    have co : f_X12_comes σ' X (fw + 1) = up2 (up2 (up2 σ' 21 (ix X) (fw + 1)) 22 (ix (σ' 23 0)) X) 23 0 (σ' 23 0 + 1) := by
      unfold f_X12_comes
      rw [if_pos u]
    have e1 : (en + 1).toInt = en.toInt + 1 := inc enb.1 (by omega)
    refine ⟨_, en + 1, fun r r1 r2 => by rw [up2_row r2, up2_row r1], ⟨cq.1, cbb, ?_, fun j hj => ?_, fun j hj => ?_⟩, ?_, by omega, rfl⟩
    · rw [co, up2_same, q3]
    · rw [co, up2_row (r := 8) (k := 9) (by decide), up2_row (r := 21) (k := 23) (by decide), up2_row (r := 21) (k := 22) (by decide)]
      by_cases z : j = ix X
      · subst z; rw [up2_same, up2_same]
      · rw [up2_pl z, up2_pl z]; exact q4 j hj
    · rw [co, up2_row (r := 22) (by decide)]
      have ei := ti_ix (i := en) enb.1
      by_cases z : j = ix en
      · subst z; rw [up2_same, q3, up2_same]
      · rw [up2_pl z]
        have z' : ¬ j = ix (σ' 23 0) := by rw [← q3]; exact z
        rw [up2_pl z', up2_row (r := 9) (k := 8) (by decide), up2_row (r := 22) (k := 21) (by decide)]
        exact q5 j (by omega)
    · rw [up2_row (by decide), up2_pl ne]; exact hf
  · rw [if_pos (show 0 ≤ τ' 8 (ix X) by rw [e8, ti_le]; exact u)]
    have co : f_X12_comes σ' X (fw + 1) = σ' := by
      unfold f_X12_comes
      rw [if_neg (fun z => by rw [z] at u; simp at u)]
    rw [co]
    exact ⟨τ', en, fun _ _ _ => rfl, ⟨q1, q2, q3, q4, q5⟩, hf, hf1, rfl⟩
theorem am_0 {x y a b : Int32} : f_X11_afterMove x y a b 0 = 41 * a + y := by
  unfold f_X11_afterMove
  rw [if_pos rfl, Int32.mul_comm]
theorem am_1 {x y a b : Int32} : f_X11_afterMove x y a b 1 = 41 * x + b := by
  unfold f_X11_afterMove
  rw [if_neg (by decide), if_pos rfl, Int32.mul_comm]
theorem am_2 {x y a b : Int32} : f_X11_afterMove x y a b 2 = y := by
  unfold f_X11_afterMove
  rw [if_neg (by decide), if_neg (by decide), if_pos rfl]
theorem am_3 {x y a b : Int32} : f_X11_afterMove x y a b 3 = 41 * x := by
  unfold f_X11_afterMove
  rw [if_neg (by decide), if_neg (by decide), if_neg (by decide), if_pos rfl, Int32.mul_comm]
theorem am_4 {x y a b : Int32} : f_X11_afterMove x y a b 4 = 41 * (x - f_X12_lesser x (b - y)) + y + f_X12_lesser x (b - y) := by
  unfold f_X11_afterMove
  rw [if_neg (by decide), if_neg (by decide), if_neg (by decide), if_neg (by decide), if_pos rfl, ← ls_if', Int32.mul_comm]
theorem am_5 {x y a b : Int32} : f_X11_afterMove x y a b 5 = 41 * (x + f_X12_lesser y (a - x)) + y - f_X12_lesser y (a - x) := by
  unfold f_X11_afterMove
  rw [if_neg (by decide), if_neg (by decide), if_neg (by decide), if_neg (by decide), if_neg (by decide), ← ls_if', Int32.mul_comm]
theorem cups_loop {a b w : Int32} (ha : 1 ≤ a.toInt ∧ a.toInt ≤ 40) (hb : 1 ≤ b.toInt ∧ b.toInt ≤ 40) : ∀ (n : Nat) (τ' σ' : St) (en i : Int32), UR a b en τ' σ' → 0 ≤ i.toInt → (g_X11_cups_67 n τ' a b w en i).1 = (g_X12_cups_72 n σ' a b w i).1 ∧ OV τ' (g_X11_cups_67 n τ' a b w en i).2 ∧ OU σ' (g_X12_cups_72 n σ' a b w i).2
  | 0, τ', σ', en, i, _, _ => ⟨rfl, fun _ _ _ => rfl, fun _ _ _ _ => rfl⟩
  | n + 1, τ', σ', en, i, hu, i0 => by
    have s1 : g_X11_cups_67 (n + 1) τ' a b w en i = f_X11_cups_67 (g_X11_cups_67 n) τ' a b w en i := rfl
    have s2 : g_X12_cups_72 (n + 1) σ' a b w i = f_X12_cups_72 (g_X12_cups_72 n) σ' a b w i := rfl
    rw [s1, s2]
    obtain ⟨q1, q2, q3, q4, q5⟩ := hu
    have enb : 0 ≤ en.toInt ∧ en.toInt ≤ 1681 := by
      have := cnt_1681 (σ' 21)
      rw [q3, q1.2.1]
      omega
    unfold f_X11_cups_67 f_X12_cups_72 bd1
    dsimp only
    rw [← q3]
    by_cases k : en ≤ i
    · rw [if_pos k, if_pos k]
      exact ⟨rfl, fun _ _ _ => rfl, fun _ _ _ _ => rfl⟩
    rw [if_neg k, if_neg k]
    rw [ti_le] at k
    have ii := ti_ix i0
    have e9 : τ' 9 (ix i) = σ' 22 (ix i) := q5 _ (by omega)
    have sp : SP (σ' 22 (ix i)) a b := q2 (ix i) (by rw [← q3]; omega)
    have cq := q1.2.2 (ix i) (by rw [← q3]; omega)
    rw [if_neg (show ¬ (1681 : Int32) ≤ i by rw [ti_le]; simp; omega), e9]
    generalize σ' 22 (ix i) = c at *
    have ci : ix c < 1681 := ix_lt cq.1 (by omega)
    have e8 := q4 _ ci
    rw [e8]
    by_cases y1 : c / 41 = w
    · rw [if_pos y1, if_pos y1]
      exact ⟨rfl, fun _ _ _ => rfl, fun _ _ _ _ => rfl⟩
    rw [if_neg y1, if_neg y1]
    by_cases y2 : c - c / 41 * 41 = w
    · rw [if_pos y2, if_pos y2]
      exact ⟨rfl, fun _ _ _ => rfl, fun _ _ _ _ => rfl⟩
    rw [if_neg y2, if_neg y2]
    generalize hfw : σ' 21 (ix c) = fw at *
    obtain ⟨t1, n1, v1, r1, g1, h1, z1⟩ := mv (w := w) (i := i) (K67 := g_X11_cups_67 n) (n := 6) (m := 0) ha hb ⟨q1, q2, q3, q4, q5⟩ sp e8 cq.2.2.1 (by omega) (by decide)
    obtain ⟨t2, n2, v2, r2, g2, h2, z2⟩ := mv (w := w) (i := i) (K67 := g_X11_cups_67 n) (n := 5) (m := 0 + 1) ha hb r1 sp g1 cq.2.2.1 h1 (by decide)
    obtain ⟨t3, n3, v3, r3, g3, h3, z3⟩ := mv (w := w) (i := i) (K67 := g_X11_cups_67 n) (n := 4) (m := 0 + 1 + 1) ha hb r2 sp g2 cq.2.2.1 h2 (by decide)
    obtain ⟨t4, n4, v4, r4, g4, h4, z4⟩ := mv (w := w) (i := i) (K67 := g_X11_cups_67 n) (n := 3) (m := 0 + 1 + 1 + 1) ha hb r3 sp g3 cq.2.2.1 h3 (by decide)
    obtain ⟨t5, n5, v5, r5, g5, h5, z5⟩ := mv (w := w) (i := i) (K67 := g_X11_cups_67 n) (n := 2) (m := 0 + 1 + 1 + 1 + 1) ha hb r4 sp g4 cq.2.2.1 h4 (by decide)
    obtain ⟨t6, n6, v6, r6, g6, h6, z6⟩ := mv (w := w) (i := i) (K67 := g_X11_cups_67 n) (n := 1) (m := 0 + 1 + 1 + 1 + 1 + 1) ha hb r5 sp g5 cq.2.2.1 h5 (by decide)
    have z7 : g_X11_cups_122 (g_X11_cups_67 n) 1 t6 a b w n6 i c (0 + 1 + 1 + 1 + 1 + 1 + 1) = g_X11_cups_67 n t6 a b w n6 (i + 1) := by
      show f_X11_cups_122 (g_X11_cups_67 n) (g_X11_cups_122 (g_X11_cups_67 n) 0) t6 a b w n6 i c (0 + 1 + 1 + 1 + 1 + 1 + 1) = _
      unfold f_X11_cups_122
      rw [if_pos (by decide)]
    rw [z1, z2, z3, z4, z5, z6, z7]
    rw [show (0 + 1 : Int32) = 1 from rfl] at r6
    rw [show (1 + 1 : Int32) = 2 from rfl] at r6
    rw [show (2 + 1 : Int32) = 3 from rfl] at r6
    rw [show (3 + 1 : Int32) = 4 from rfl] at r6
    rw [show (4 + 1 : Int32) = 5 from rfl] at r6
    rw [am_0, am_1, am_2, am_3, am_4, am_5] at r6
    have i1 : (i + 1).toInt = i.toInt + 1 := inc i0 (by omega)
    obtain ⟨a1, a2, a3⟩ := cups_loop ha hb n t6 _ n6 (i + 1) r6 (by omega)
    refine ⟨a1, fun r y1 y2 => by rw [a2 r y1 y2, v6 r y1 y2, v5 r y1 y2, v4 r y1 y2, v3 r y1 y2, v2 r y1 y2, v1 r y1 y2], fun r y1 y2 y3 => ?_⟩
    rw [a3 r y1 y2 y3]
    simp only [comes_ou _ _ _ r y1 y2 y3]
theorem cups_init {a b w : Int32} : ∀ (n k : Nat) (σ' : St), k ≤ 1681 → k + n ≥ 1682 → (∀ j, j < k → σ' 21 j = -1) → ∃ u : St, (∀ r, r ≠ 21 → u r = σ' r) ∧ (∀ j, j < 1681 → u 21 j = -1) ∧ g_X12_cups_36 n σ' a b w (nI k) = g_X12_cups_72 1683 (f_X12_comes (up2 u 23 0 0) 0 0) a b w 0
  | 0, k, σ', k1, k2, fl => by exfalso; omega
  | n + 1, k, σ', k1, k2, fl => by
    have s1 : g_X12_cups_36 (n + 1) σ' a b w (nI k) = f_X12_cups_36 (g_X12_cups_36 n) σ' a b w (nI k) := rfl
    rw [s1]
    unfold f_X12_cups_36 bd1
    by_cases c : (1681 : Int32) ≤ nI k
    · rw [if_pos c]
      rw [ti_le, nI_toInt (by omega)] at c
      simp at c
      exact ⟨σ', fun _ _ => rfl, fun j hj => fl j (by omega), rfl⟩
    · rw [if_neg c, ix_nI (by omega), nI_s (by omega)]
      rw [ti_le, nI_toInt (by omega)] at c
      simp at c
      obtain ⟨u, u1, u2, u3⟩ := cups_init (a := a) (b := b) (w := w) n (k + 1) (up2 σ' 21 k (-1)) (by omega) (by omega) (fun i hi => by
        by_cases e : i = k
        · subst e; exact up2_same
        · rw [up2_pl e]; exact fl i (by omega))
      exact ⟨u, fun r hr => by rw [u1 r hr, up2_row hr], u2, u3⟩
theorem c_cups (h : RN 20 τ (σ 1)) (hI : IB (σ 1)) (a b w : Int32) : Q1 τ σ (f_X11_cups τ a b w) (f_X12_cups σ a b w) := by
  unfold f_X11_cups f_X12_cups
  by_cases ha : 1 ≤ a.toInt ∧ a.toInt ≤ 40
  rotate_left
  · rw [if_pos (show f_X12_in a 1 40 = 0 by rw [in_iff]; simp; omega)]
    simp only [ti_lt, ti_le, Int32.reduceToInt]
    (repeat' split) <;> first | exact Q1.same h hI | (exfalso; omega)
  rw [if_neg (show ¬ f_X12_in a 1 40 = 0 by rw [in_iff]; simp; omega), if_neg (show ¬ a < 1 by rw [ti_lt]; simp; omega), if_neg (show ¬ 40 < a by rw [ti_lt]; simp; omega)]
  by_cases hb : 1 ≤ b.toInt ∧ b.toInt ≤ 40
  rotate_left
  · rw [if_pos (show f_X12_in b 1 40 = 0 by rw [in_iff]; simp; omega)]
    simp only [ti_lt, ti_le, Int32.reduceToInt]
    (repeat' split) <;> first | exact Q1.same h hI | (exfalso; omega)
  rw [if_neg (show ¬ f_X12_in b 1 40 = 0 by rw [in_iff]; simp; omega), if_neg (show ¬ b < 1 by rw [ti_lt]; simp; omega), if_neg (show ¬ 40 < b by rw [ti_lt]; simp; omega)]
  by_cases hw : 0 ≤ w.toInt ∧ w.toInt ≤ 40
  rotate_left
  · rw [if_pos (show f_X12_in w 0 40 = 0 by rw [in_iff]; simp; omega)]
    simp only [ti_lt, ti_le, Int32.reduceToInt]
    (repeat' split) <;> first | exact Q1.same h hI | (exfalso; omega)
  rw [if_neg (show ¬ f_X12_in w 0 40 = 0 by rw [in_iff]; simp; omega), if_neg (show ¬ w < 0 by rw [ti_lt]; simp; omega), if_pos (show w ≤ 40 by rw [ti_le]; simp; omega)]
  obtain ⟨u, u1, u2, u3⟩ := cups_init (a := a) (b := b) (w := w) 1683 0 σ (by omega) (by omega) (fun j hj => by omega)
  rw [show g_X12_cups_36 1683 σ a b w 0 = g_X12_cups_36 1683 σ a b w (nI 0) from rfl, u3]
  have cq0 : CQ (up2 u 23 0 0) := CQ_0 (fun i hi => u2 i (by omega))
  have cb0 : CB (up2 u 23 0 0) a b := fun i hi => by rw [up2_same] at hi; simp at hi; omega
  have z0 : (up2 u 23 0 0) 21 (ix 0) = -1 := by rw [up2_row (by decide)]; exact u2 0 (by omega)
  have cq := cq0.comes (a1 := 0) (a2 := 0) (by simp) (by simp) (by simp) (by rw [up2_same]; decide)
  have cb := CB.comes (a1 := 0) (a2 := 0) cq0 cb0 (by simp) (by simp) 0 0 (by simp) (by omega) (by omega) (by omega) (by omega)
  have co : f_X12_comes (up2 u 23 0 0) 0 0 = up2 (up2 (up2 (up2 u 23 0 0) 21 0 0) 22 0 0) 23 0 1 := by
    unfold f_X12_comes
    rw [if_pos z0, up2_same]
    rfl
  have ur : UR a b 1 (up2 (up2 (upC τ 8 (fun j => if j < 1681 then (-1 : Int32) else τ 8 j)) 8 0 0) 9 0 0) (f_X12_comes (up2 u 23 0 0) 0 0) := by
    refine ⟨cq.1, cb, ?_, fun j hj => ?_, fun i hi => ?_⟩
    · rw [co, up2_same]
    · rw [co, up2_row (r := 8) (k := 9) (by decide), up2_row (r := 21) (k := 23) (by decide), up2_row (r := 21) (k := 22) (by decide)]
      by_cases e : j = 0
      · subst e; rw [up2_same, up2_same]
      · rw [up2_pl e, up2_pl e, up2_row (by decide), u2 j hj]
        show (if j < 1681 then (-1 : Int32) else τ 8 j) = -1
        rw [if_pos hj]
    · have : i = 0 := by simp at hi; omega
      subst this
      rw [up2_same, co, up2_row (by decide), up2_same]
  obtain ⟨r1, r2, r3⟩ := cups_loop (w := w) ha hb 1683 _ _ 1 0 ur (by simp)
  generalize g_X11_cups_67 1683 (up2 (up2 (upC τ 8 (fun j => if j < 1681 then (-1 : Int32) else τ 8 j)) 8 0 0) 9 0 0) a b w 1 0 = R at *
  generalize hS : g_X12_cups_72 1683 (f_X12_comes (up2 u 23 0 0) 0 0) a b w 0 = S at *
  have q := Q1.om (τ' := R.2) (u := S.2) (v := R.1) h hI (fun k hk => by
    rw [r2 k (by omega) (by omega), up2_row (by omega), up2_row (by omega)]
    simp only [upC]
    rw [if_neg (by omega)]) (fun k hk => by
    rw [r3 k (by omega) (by omega) (by omega), comes_ou _ _ _ k (by omega) (by omega) (by omega), up2_row (by omega), u1 k (by omega)])
  rw [show S = (R.1, S.2) from Prod.ext r1.symm rfl]
  exact q
end CUPS
