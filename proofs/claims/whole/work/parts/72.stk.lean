/-! THE TWO SIDES TOGETHER: of, as, between, measure -/
/-- the rows that the relation speaks of -/
def OX (τ τ' : St) : Prop := ∀ k, (k = 2 ∨ 20 ≤ k) → τ' k = τ k
def OM (σ u : St) : Prop := ∀ k, (k = 1 ∨ k = 2 ∨ k = 3 ∨ k = 24 ∨ k = 25) → u k = σ k
theorem OX.rf {τ : St} : OX τ τ := fun _ _ => rfl
theorem OM.rf {σ : St} : OM σ σ := fun _ _ => rfl
theorem SM.om {σ u : St} (h : SM σ u) : OM σ u := fun k hk => h k (by omega)
theorem OX.rn {τ τ' : St} {f : Nat → Int32} (h : RN 20 τ f) (o : OX τ τ') : RN 20 τ' f := h.kx (fun k h1 _ => o k (Or.inr h1))
theorem Q1.om {τ τ' σ u : St} {v : Int32} (h : RN 20 τ (σ 1)) (hI : IB (σ 1)) (ox : OX τ τ') (om : OM σ u) : Q1 τ σ (v, τ') (v, u) := by
  have e : u 1 = σ 1 := om 1 (Or.inl rfl)
  refine ⟨rfl, ?_, ?_, ?_, fun k hk => ox k (by omega), fun k hk => om k (by omega), ?_⟩
  · show RN 20 τ' (u 1); rw [e]; exact ox.rn h
  · show IB (u 1); rw [e]; exact hI
  · show LR (σ 1) (u 1); rw [e]; exact LR.rf
  · show TK (σ 1) (u 1); rw [e]; exact TK.rf
theorem sums_b {b : Nat → Int32} {o : Bool} : ∀ cs : List CR, (∀ c ∈ cs, okC c) → (xw cs).length ≤ 100 → 0 ≤ (sums b o cs).toInt ∧ (sums b o cs).toInt ≤ 99 * (xw cs).length
  | [], _, _ => by simp [sums, xw]
  | c :: cs, h, hl => by
    obtain ⟨k1, _, _, _⟩ := h c (List.mem_cons_self)
    have lx : (xw (c :: cs)).length = c.2.2.2.1.length + ((xw cs).length + 1) := by simp [xw]
    rw [lx] at hl ⊢
    have ih := sums_b (b := b) (o := o) cs (fun c' h' => h c' (List.mem_cons_of_mem _ h')) (by omega)
    have n1 := nI_toInt (show c.2.2.1 < 2 ^ 31 by omega)
    have e : 0 ≤ (if c.1 = o ∧ c.2.1 b = true then nI c.2.2.1 else 0 : Int32).toInt ∧ (if c.1 = o ∧ c.2.1 b = true then nI c.2.2.1 else 0 : Int32).toInt ≤ 99 := by
      split
      · rw [n1]; omega
      · simp
    have s : (sums b o (c :: cs)).toInt = (if c.1 = o ∧ c.2.1 b = true then nI c.2.2.1 else 0 : Int32).toInt + (sums b o cs).toInt := ti_add (by omega) (by omega)
    rw [s]
    push_cast
    omega
section STK
variable {ρ : RR} {dt : Nat → Nat → Int32} {τ σ : St}
theorem tot5_b (hK : RK 20 ρ dt (σ 1)) (a : Nat) (wall n : Int32) (o : Bool) : 0 ≤ (tot5 ρ dt a (if o then 4 else 5) wall n).toInt ∧ (tot5 ρ dt a (if o then 4 else 5) wall n).toInt ≤ 9900 := by
  unfold tot5
  rcases hK.2 with ⟨h1, _⟩ | ⟨am, r, h1, hr, _, _, _, cs, k1, k2, _, k4, _, k6, _⟩
  · rw [if_pos h1]; simp
  · rw [if_neg (by rw [show ρ 22 0 = some am from h1]; simp), show rf (ρ 22 0) = am by rw [show ρ 22 0 = some am from h1]; rfl]
    have t := tot_cs (dr := dt am) (d := dt a) (s := if o then 4 else 5) (wall := wall) (n := n) k4 k2 rfl cs 101 0 0 0 k1 (by omega) (by omega) (fun p v hp => by rw [Nat.zero_add]; exact k6 p v hp)
    have b := sums_b (b := bx (dt a) wall n) (o := o) cs k1 k2
    have t' : f_X2_total (dt am) (dt a) (if o then 4 else 5) wall n = sums (bx (dt a) wall n) o cs := by rw [← Int32.zero_add (sums _ _ _)]; exact t
    rw [t']
    omega
theorem stk_cases (h : RN 20 τ (σ 1)) (hK : RK 20 ρ dt (σ 1)) (hI : IB (σ 1)) (s : Int32) : (f_X5_stickAt ρ τ s = none ∧ f_X12_isStick σ s = 0) ∨ ∃ i a : Nat, s = nI i ∧ i < 6 ∧ (i : Int) < (σ 1 0).toInt ∧ f_X5_stickAt ρ τ s = some a ∧ ¬ f_X12_isStick σ s = 0 ∧ SD (dt a) (σ 1) i := by
  have b0 := hI.1
  have e : τ 25 0 = σ 1 0 := h.n0
  have k : (σ 1 0 - 1).toInt = (σ 1 0).toInt - 1 := by rw [ti_sub (by simp; omega) (by simp; omega)]; rfl
  unfold f_X5_stickAt f_X12_isStick
  rw [e, in_iff, k]
  by_cases c : 0 ≤ s.toInt ∧ s.toInt < (σ 1 0).toInt
  · right
    obtain ⟨i, hi, rfl⟩ := nn_nI c.1
    have t := nI_toInt hi
    rw [t] at c
    obtain ⟨a, r1, r2⟩ := hK.1 i c.2
    refine ⟨i, a, rfl, by omega, c.2, ?_, by rw [t]; simp; omega, r2⟩
    rw [if_neg (by rw [ti_lt, t]; simp), if_neg (by rw [ti_le, t]; omega), ix_nI hi]
    exact r1
  · left
    constructor
    · simp only [ti_lt, ti_le, Int32.reduceToInt]
      (repeat' split) <;> first | rfl | (exfalso; omega)
    · simp; omega
theorem q_of (h : RN 20 τ (σ 1)) (hK : RK 20 ρ dt (σ 1)) (hI : IB (σ 1)) (s w : Int32) : f_X11_of ρ dt τ s w = f_X12_of σ s w := by
  unfold f_X11_of f_X12_of
  rcases stk_cases h hK hI s with ⟨h1, h2⟩ | ⟨i, a, rfl, hi, _, h1, h2, d0, d1, d2, d3, _⟩
  · rw [if_pos h1, if_pos h2]
  · rw [if_neg (by rw [h1]; simp), if_neg h2, h1, show rf (some a) = a from rfl, d1, d2, d3]
    have t := nI_toInt (show i < 2 ^ 31 by omega)
    by_cases w0 : w = 0
    · subst w0
      rw [if_pos rfl, if_neg (by decide), show (9 : Int32) + 6 * 0 = 9 from by decide, ixS (n := 9) rfl (by rw [t]; omega) (by decide) (by rw [t]; omega), ix_nI (by omega)]
    by_cases w1 : w = 1
    · subst w1
      rw [if_neg w0, if_pos rfl, if_neg (by decide), show (9 : Int32) + 6 * 1 = 15 from by decide, ixS (n := 15) rfl (by rw [t]; omega) (by decide) (by rw [t]; omega), ix_nI (by omega)]
    by_cases w2 : w = 2
    · subst w2
      rw [if_neg w0, if_neg w1, if_pos rfl, if_neg (by decide), show (9 : Int32) + 6 * 2 = 21 from by decide, ixS (n := 21) rfl (by rw [t]; omega) (by decide) (by rw [t]; omega), ix_nI (by omega)]
    rw [if_neg w0, if_neg w1, if_neg w2, if_pos]
    rw [in_iff]
    simp only [ti_eq, Int32.reduceToInt] at *
    omega
theorem k7 {x : Int32} (h0 : 0 ≤ x.toInt) (h1 : x.toInt ≤ 6) : x = 0 ∨ x = 1 ∨ x = 2 ∨ x = 3 ∨ x = 4 ∨ x = 5 ∨ x = 6 := by
  simp only [ti_eq, Int32.reduceToInt]
  omega
theorem as_k {a : Nat} {k q : Int32} (hk : k = 0 ∨ k = 1 ∨ k = 2 ∨ k = 3 ∨ k = 4 ∨ k = 5 ∨ k = 6) (hq : q = 0 ∨ q = 1 ∨ q = 2 ∨ q = 3 ∨ q = 4 ∨ q = 5 ∨ q = 6) : g_X11_as_34 ρ dt 8 τ q a k 0 = if f_X12_isUnder k q = 0 then -6 else dt a 2 := by
  generalize hv : dt a 2 = v
  rcases hk with rfl | rfl | rfl | rfl | rfl | rfl | rfl <;> rcases hq with rfl | rfl | rfl | rfl | rfl | rfl | rfl <;> simp (decide := true) [g_X11_as_34, f_X11_as_34, f_X12_isUnder, KA, hv]
theorem q_as (h : RN 20 τ (σ 1)) (hK : RK 20 ρ dt (σ 1)) (hI : IB (σ 1)) (s k : Int32) : f_X11_as ρ dt τ s k = f_X12_as σ s k := by
  unfold f_X11_as f_X12_as
  rcases stk_cases h hK hI s with ⟨h1, h2⟩ | ⟨i, a, rfl, hi, _, h1, h2, d0, d1, d2, d3, _⟩
  · rw [if_pos h1, if_pos h2]
  · rw [if_neg (by rw [h1]; simp), if_neg h2, h1, show rf (some a) = a from rfl]
    have t := nI_toInt (show i < 2 ^ 31 by omega)
    by_cases c : 0 ≤ k.toInt ∧ k.toInt ≤ 6
    · rw [if_neg (by rw [ti_lt]; simp; omega), if_pos (by rw [ti_lt]; simp; omega), if_neg (show ¬ f_X12_in k 0 6 = 0 by rw [in_iff]; simp; omega)]
      have kb := hI.2.2.2.2.2.2.2.2.2.1 i hi
      rw [as_k (k7 (by rw [d1]; exact kb.1) (by rw [d1]; exact kb.2)) (k7 c.1 c.2), ixS (n := 9) rfl (by rw [t]; omega) (by decide) (by rw [t]; omega), ixS (n := 15) rfl (by rw [t]; omega) (by decide) (by rw [t]; omega), ix_nI (by omega), d1, d2]
    · rw [if_pos (show f_X12_in k 0 6 = 0 by rw [in_iff]; simp; omega)]
      simp only [ti_lt, Int32.reduceToInt]
      (repeat' split) <;> first | rfl | (exfalso; omega)
theorem times_iff {n : Int32} : f_X11_isTimes n = 0 ↔ ¬ (0 ≤ n.toInt ∧ n.toInt ≤ 30) := by
  unfold f_X11_isTimes
  simp only [ti_lt, Int32.reduceToInt]
  (repeat' split) <;> simp <;> omega
theorem gr_if (a b : Int32) : (if a < b then b else a) = f_X12_greater a b := by
  unfold f_X12_greater
  rw [ti_eq]
  simp only [ti_lt, ti_le]
  (repeat' split) <;> first | rfl | (exfalso; omega) | omega
theorem gr_ti (a b : Int32) : (f_X12_greater a b).toInt = if a.toInt ≤ b.toInt then b.toInt else a.toInt := by
  unfold f_X12_greater
  simp only [ti_le]
  split <;> rfl
theorem ls_ti (a b : Int32) : (f_X12_lesser a b).toInt = if b.toInt ≤ a.toInt then b.toInt else a.toInt := by
  unfold f_X12_lesser
  simp only [ti_le]
  split <;> rfl
theorem c_between (h : RN 20 τ (σ 1)) (hK : RK 20 ρ dt (σ 1)) (hI : IB (σ 1)) (s w n q : Int32) : Q1 τ σ (f_X11_between ρ dt τ s w n q, τ) (f_X12_between σ s w n q) := by
  unfold f_X11_between f_X12_between
  rcases stk_cases h hK hI s with ⟨h1, h2⟩ | ⟨i, a, rfl, hi, _, h1, h2, hd⟩
  · rw [if_pos h1, if_pos h2]; exact Q1.same h hI
  rw [if_neg (by rw [h1]; simp), if_neg h2, h1, show rf (some a) = a from rfl]
  by_cases hw : 0 ≤ w.toInt ∧ w.toInt < (σ 1 1).toInt
  · rw [if_neg (fun z => (wall_eq h hI w).1.mp z hw), if_neg (fun z => (wall_eq h hI w).2.mp z hw)]
    by_cases hq : 0 ≤ q.toInt ∧ q.toInt ≤ 3
    · rw [if_neg (show ¬ q < 0 by rw [ti_lt]; simp; omega), if_pos (show q ≤ 3 by rw [ti_le]; simp; omega), if_neg (show ¬ f_X12_in q 0 3 = 0 by rw [in_iff]; simp; omega)]
      by_cases hn : 0 ≤ n.toInt ∧ n.toInt ≤ 30
      · rw [if_neg (fun z => times_iff.mp z hn), if_neg (show ¬ f_X12_in n 0 30 = 0 by rw [in_iff]; simp; omega)]
        obtain ⟨s1, s2, s3, s4, s5⟩ := sets_eq hK hi hd w n hn.1
        unfold bd1
        dsimp only
        have e2 : f_X12_sets σ (nI i) w n 13 0 = f_X5_middle ρ dt τ a w n := s2
        have e3 : f_X12_sets σ (nI i) w n 14 0 = f_X5_slack ρ dt τ a w n := s3
        have e4 : f_X12_sets σ (nI i) w n 15 0 = f_X5_least ρ dt τ a w n := s4
        have e5 : f_X12_sets σ (nI i) w n 16 0 = f_X5_most ρ dt τ a w n := s5
        rw [e2, e3, e4, e5]
        exact Q1.om h hI OX.rf s1.om
      · rw [if_pos (times_iff.mpr hn), if_pos (show f_X12_in n 0 30 = 0 by rw [in_iff]; simp; omega)]; exact Q1.same h hI
    · rw [if_pos (show f_X12_in q 0 3 = 0 by rw [in_iff]; simp; omega)]
      simp only [ti_lt, ti_le, Int32.reduceToInt]
      (repeat' split) <;> first | exact Q1.same h hI | (exfalso; omega)
  · rw [if_pos ((wall_eq h hI w).1.mpr hw), if_pos ((wall_eq h hI w).2.mpr hw)]; exact Q1.same h hI
theorem c_measure (h : RN 20 τ (σ 1)) (hK : RK 20 ρ dt (σ 1)) (hI : IB (σ 1)) (w s n r m : Int32) : Q1 τ σ (f_X11_measure ρ dt τ w s n r m) (f_X12_measure σ w s n r m) := by
  unfold f_X11_measure f_X12_measure
  by_cases hw : 0 ≤ w.toInt ∧ w.toInt < (σ 1 1).toInt
  rotate_left
  · rw [if_pos ((wall_eq h hI w).2.mpr hw)]
    simp only [if_pos ((wall_eq h hI w).1.mpr hw)]
    (repeat' split) <;> exact Q1.same h hI
  rw [if_neg (fun z => (wall_eq h hI w).2.mp z hw)]
  have nw : ¬ f_X5_isWall τ w = 0 := fun z => (wall_eq h hI w).1.mp z hw
  rcases stk_cases h hK hI s with ⟨h1, h2⟩ | ⟨i, a, rfl, hi, _, h1, h2, hd⟩
  · rw [if_pos h1, if_neg nw, if_pos h2]; exact Q1.same h hI
  rw [if_neg (by rw [h1]; simp), if_neg h2, if_neg nw, h1, show rf (some a) = a from rfl]
  by_cases hn : 0 ≤ n.toInt ∧ n.toInt ≤ 30
  rotate_left
  · rw [if_pos (times_iff.mpr hn), if_pos (show f_X12_in n 0 30 = 0 by rw [in_iff]; simp; omega)]; exact Q1.same h hI
  rw [if_neg (fun z => times_iff.mp z hn), if_neg (show ¬ f_X12_in n 0 30 = 0 by rw [in_iff]; simp; omega)]
  by_cases hr : 0 ≤ r.toInt ∧ r.toInt ≤ 59
  rotate_left
  · rw [if_pos (show f_X12_in r 0 59 = 0 by rw [in_iff]; simp; omega)]
    simp only [ti_lt, ti_le, Int32.reduceToInt]
    (repeat' split) <;> first | exact Q1.same h hI | (exfalso; omega)
  rw [if_neg (show ¬ r < 0 by rw [ti_lt]; simp; omega), if_pos (show r ≤ 59 by rw [ti_le]; simp; omega), if_neg (show ¬ f_X12_in r 0 59 = 0 by rw [in_iff]; simp; omega)]
  have g8 : τ 29 0 = σ 1 8 := h.n8
  have b8 := hI.2.2.2.2.2.2.2.2.1
  rw [g8]
  by_cases hg : σ 1 8 ≤ 9900
  rotate_left
  · rw [if_neg hg, if_neg hg]; exact Q1.same h hI
  rw [if_pos hg, if_pos hg]
  have hg' := ti_le.mp hg
  have gs : (σ 1 8 + n).toInt = (σ 1 8).toInt + n.toInt := ti_add (by omega) (by omega)
  simp only [Int32.reduceToInt] at hg'
  -- after GOES
  have h' : RN 20 (up2 τ 29 0 (σ 1 8 + n)) ((up2 σ 1 8 (σ 1 8 + n)) 1) := h.up (σ 1 8 + n) PM.n8
  have hI' : IB ((up2 σ 1 8 (σ 1 8 + n)) 1) := hI.c8 (v := σ 1 8 + n) (by omega)
  have l' : LR (σ 1) ((up2 σ 1 8 (σ 1 8 + n)) 1) := LR.rf.up (by omega)
  have hK' : RK 20 ρ dt ((up2 σ 1 8 (σ 1 8 + n)) 1) := hK.lr l' hI
  have kx' : KX τ (up2 τ 29 0 (σ 1 8 + n)) := KX.rf.up (by omega)
  have km' : KM σ (up2 σ 1 8 (σ 1 8 + n)) := KM.rf.up (by omega)
  have tk' : TK (σ 1) ((up2 σ 1 8 (σ 1 8 + n)) 1) := TK.rf.up (by omega)
  have hd' : SD (dt a) ((up2 σ 1 8 (σ 1 8 + n)) 1) i := by
    obtain ⟨d0, d1, d2, d3, d4⟩ := hd
    exact ⟨d0, by rw [l' _ (by omega)]; exact d1, by rw [l' _ (by omega)]; exact d2, by rw [l' _ (by omega)]; exact d3, fun z j hj => by rw [l' _ (by omega)]; exact d4 z j hj⟩
  have c1 : (up2 σ 1 8 (σ 1 8 + n)) 1 1 = σ 1 1 := up2_pl (by decide)
  obtain ⟨t1, t2, t3, _⟩ := wl_at h' hI' hw.1 (by rw [c1]; exact hw.2)
  have t1' : τ 26 (ix w) = (up2 σ 1 8 (σ 1 8 + n)) 1 (ix (51 + w)) := t1
  have t2' : τ 27 (ix w) = (up2 σ 1 8 (σ 1 8 + n)) 1 (ix (57 + w)) := t2
  obtain ⟨s1, _, _, s4, s5⟩ := sets_eq hK' hi hd' w n hn.1
  have i1 : ix (51 + w) = 51 + ix w := ixS (n := 51) rfl (by omega) (by decide) (by have := hI.2.1; omega)
  have i2 : ix (57 + w) = 57 + ix w := ixS (n := 57) rfl (by omega) (by decide) (by have := hI.2.1; omega)
  have i3 : ix w < 6 := ix_lt (by omega) (by have := hI.2.1; omega)
  unfold bd1
  dsimp only
  generalize hs : up2 σ 1 8 (σ 1 8 + n) = σ1 at *
  generalize hu : f_X12_sets σ1 (nI i) w n = u at *
  have u1 : u 1 = σ1 1 := s1 1 (by omega)
  have e4 : u 15 0 = f_X5_least ρ dt (up2 τ 29 0 (σ 1 8 + n)) a w n := s4
  have e5 : u 16 0 = f_X5_most ρ dt (up2 τ 29 0 (σ 1 8 + n)) a w n := s5
  rw [e4, e5, u1, ← t1', ← t2', i1, i2]
  generalize f_X5_least ρ dt (up2 τ 29 0 (σ 1 8 + n)) a w n + (if m = 0 then -r else r) = L
  generalize f_X5_most ρ dt (up2 τ 29 0 (σ 1 8 + n)) a w n + (if m = 0 then -r else r) = M
  simp only [← gr0, gr_if, ← ls_if']
  rw [← t1, ← t2] at t3
  have t3' : 0 ≤ (τ 26 (ix w)).toInt ∧ (τ 26 (ix w)).toInt ≤ (τ 27 (ix w)).toInt ∧ (τ 27 (ix w)).toInt ≤ 999 := t3
  have lw : 0 ≤ (f_X12_greater (τ 26 (ix w)) (f_X12_greater 0 L)).toInt := by rw [gr_ti]; split <;> omega
  have hh : (f_X12_lesser (τ 27 (ix w)) (f_X12_greater 0 M)).toInt ≤ 999 := by rw [ls_ti]; split <;> omega
  generalize f_X12_greater (τ 26 (ix w)) (f_X12_greater 0 L) = lo at *
  generalize f_X12_lesser (τ 27 (ix w)) (f_X12_greater 0 M) = hi' at *
  by_cases c : lo ≤ hi'
  · rw [if_pos c, if_pos c]
    rw [ti_le] at c
    refine ⟨?_, ?_, ?_, ?_, ?_, ?_, ?_⟩
    · show f_X5_gap (up2 (up2 τ 26 (ix w) lo) 27 (ix w) hi') w = hi' - lo
      unfold f_X5_gap
      rw [up2_same, up2_row (by decide), up2_same]
    · have q := (h'.up lo (PM.lo i3)).up hi' (PM.hi i3)
      show RN 20 _ (upd (upd (u 1) (51 + ix w) lo) (57 + ix w) hi')
      rw [u1]; exact q
    · show IB (upd (upd (u 1) (51 + ix w) lo) (57 + ix w) hi')
      rw [u1]; exact hI'.wl2 i3 (by omega)
    · show LR (σ 1) (upd (upd (u 1) (51 + ix w) lo) (57 + ix w) hi')
      rw [u1]; exact (l'.up (by omega)).up (by omega)
    · exact (kx'.up (by omega)).up (by omega)
    · refine KM.up (KM.up ?_ (by omega)) (by omega)
      intro k hk
      rw [s1 k (by omega)]
      exact km' k hk
    · show TK (σ 1) (upd (upd (u 1) (51 + ix w) lo) (57 + ix w) hi')
      rw [u1]; exact (tk'.up (by omega)).up (by omega)
  · rw [if_neg c, if_neg c]
    refine ⟨rfl, ?_, ?_, ?_, kx', ?_, ?_⟩
    · show RN 20 _ (u 1); rw [u1]; exact h'
    · show IB (u 1); rw [u1]; exact hI'
    · show LR (σ 1) (u 1); rw [u1]; exact l'
    · intro k hk
      show u k = σ k
      rw [s1 k (by omega)]
      exact km' k hk
    · show TK (σ 1) (u 1); rw [u1]; exact tk'
end STK
