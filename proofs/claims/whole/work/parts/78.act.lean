/-! THE TWO SIDES TOGETHER: act -/
section ACT
variable {dt : Nat → Nat → Int32} {τ σ : St} {a : Nat}
/-- the traces stand alike -/
def AR (τ σ : St) (n : Nat) (τ' σ' : St) : Prop := (∀ k, k ≠ 80 → k ≠ 81 → τ' k = τ k) ∧ (∀ k, k ≠ 24 → k ≠ 25 → σ' k = σ k) ∧ τ' 81 0 = σ' 25 0 ∧ (0 ≤ (σ' 25 0).toInt ∧ (σ' 25 0).toInt ≤ n) ∧ n ≤ 1000 ∧ ∀ i, i < 20 → τ' 80 i = σ' 24 i
def AQ (τ σ : St) (n : Nat) (r q : Int32 × St) : Prop := r.1 = q.1 ∧ AR τ σ n r.2 q.2
theorem AR.begin {n : Nat} {τ' σ' : St} (h : AR τ σ n τ' σ') (hn : n < 1000) (b : Int32) : AR τ σ (n + 1) (f_X9_begin τ' b) (f_X12_ranBody σ' b) := by
  obtain ⟨h1, h2, h3, h4, h5, h6⟩ := h
  have i1 : (σ' 25 0 + 1).toInt = (σ' 25 0).toInt + 1 := inc h4.1 (by omega)
  unfold f_X9_begin f_X12_ranBody
  rw [h3]
  by_cases c : (20 : Int32) ≤ σ' 25 0
  · rw [if_pos c, if_pos c]
    refine ⟨fun k k1 k2 => by rw [up2_row k2, h1 k k1 k2], fun k k1 k2 => by rw [up2_row k2, h2 k k1 k2], by rw [up2_same, up2_same], ?_, by omega, fun i hi => ?_⟩
    · rw [up2_same, i1]; push_cast; omega
    · rw [up2_row (r := 80) (by decide), up2_row (r := 24) (by decide)]; exact h6 i hi
  · rw [if_neg c, if_neg c]
    refine ⟨fun k k1 k2 => by rw [up2_row k2, up2_row k1, h1 k k1 k2], fun k k1 k2 => by rw [up2_row k2, up2_row k1, h2 k k1 k2], by rw [up2_same, up2_same], ?_, by omega, fun i hi => ?_⟩
    · rw [up2_same, i1]; push_cast; omega
    · rw [up2_row (r := 80) (by decide), up2_row (r := 24) (by decide)]
      by_cases z : i = ix (σ' 25 0)
      · subst z; rw [up2_same, up2_same]
      · rw [up2_pl z, up2_pl z]; exact h6 i hi
theorem AR.nb {n : Nat} {τ' σ' : St} (h : AR τ σ n τ' σ') : σ' 26 = σ 26 ∧ σ' 27 = σ 27 ∧ σ' 28 = σ 28 := ⟨h.2.1 26 (by decide) (by decide), h.2.1 27 (by decide) (by decide), h.2.1 28 (by decide) (by decide)⟩
theorem AQ.map {n : Nat} {r q : Int32 × St} (h : AQ τ σ n r q) (f g : Int32 → St → Int32) (e : f r.1 r.2 = g q.1 q.2) : AQ τ σ n (bd r (fun v u => (f v u, u))) (bd q (fun v u => (g v u, u))) := ⟨e, h.2⟩
theorem AQ.two {n : Nat} {R Q : Int32 × St} {F G : St → Int32 × St} (e : R.1 = Q.1) (s : AQ τ σ n (F R.2) (G Q.2)) : AQ τ σ n (bd R (fun r u => bd (F u) (fun v w => (r + v, w)))) (bd Q (fun r u => bd (G u) (fun v w => (r + v, w)))) := by
  refine ⟨?_, s.2⟩
  show R.1 + (F R.2).1 = Q.1 + (G Q.2).1
  rw [e, s.1]
theorem AQ.idr {n : Nat} {r q : Int32 × St} (h : AQ τ σ n r q) : AQ τ σ n (bd r (fun v u => (v, u))) (bd q (fun v u => (v, u))) := h
theorem AQ.idq {n : Nat} {r q : Int32 × St} (h : AQ τ σ n r q) : AQ τ σ n r (bd q (fun v u => (v, u))) := h
theorem AQ.up {n m : Nat} {r q : Int32 × St} (z : AQ τ σ n r q) (e : n ≤ m) (h : m ≤ 1000) : AQ τ σ m r q := ⟨z.1, z.2.1, z.2.2.1, z.2.2.2.1, by have := z.2.2.2.2.1; omega, h, z.2.2.2.2.2.2⟩
theorem plain_sets (hn : σ 27 0 = dt a 0) {n : Nat} {τ' σ' : St} (h : AR τ σ n τ' σ') (h9 : n < 1000) (x : Int32) : AQ τ σ (n + 1) (f_X6_sets dt a τ' x) (f_X12_plainSets σ' x) := by
  have b := h.begin h9 1
  unfold f_X6_sets f_X12_plainSets bd1
  refine ⟨?_, b⟩
  show x + dt a 0 = x + f_X12_ranBody σ' 1 27 0
  rw [b.nb.2.1, hn]
theorem sets_a (hk : σ 26 0 = dt a 1) (hn : σ 27 0 = dt a 0) (k7 : dt a 1 = 0 ∨ dt a 1 = 1 ∨ dt a 1 = 2 ∨ dt a 1 = 3 ∨ dt a 1 = 4 ∨ dt a 1 = 5 ∨ dt a 1 = 6) {n : Nat} {τ' σ' : St} (h : AR τ σ n τ' σ') (h9 : n + 1 < 1000) (x : Int32) : AQ τ σ (n + 2) (vset dt a τ' x) (f_X12_setsActs σ' x) := by
  have pl := ((plain_sets hn h (by omega) x).up (show n + 1 ≤ n + 2 by omega) (by omega)).idq
  have b11 := h.begin (by omega) 11
  have b51 := h.begin (by omega) 51
  have p11 := plain_sets hn b11 (by omega) (x * 3)
  have p51 := plain_sets hn b51 (by omega) x
  have x10 : AQ τ σ (n + 2) (f_X10_sets dt a τ' x) (bd1 (f_X12_ranBody σ' 11) (fun u14 => bd (f_X12_plainSets u14 (x * 3)) (fun r21 u21 => (r21, u21)))) := by
    unfold f_X10_sets bd1
    exact p11.idr
  have x3 : AQ τ σ (n + 2) (f_X3_sets dt a τ' x) (bd1 (f_X12_ranBody σ' 51) (fun u36 => bd (f_X12_plainSets u36 x) (fun r41 u41 => (r41 ^^^ u41 27 0, u41)))) := by
    unfold f_X3_sets bd1
    exact p51.map (fun v _ => v ^^^ dt a 0) (fun v u => v ^^^ u 27 0) (by show _ ^^^ _ = _ ^^^ _; rw [p51.1, p51.2.nb.2.1, hn])
  unfold vset f_X12_setsActs
  rw [h.nb.1, hk]
  rcases k7 with k | k | k | k | k | k | k <;> rw [k]
  · rw [if_neg (by decide), if_neg (by decide), if_neg (by decide), if_neg (by decide), if_neg (by decide), if_neg (by decide), if_pos (by decide), if_neg (by decide)]; exact pl
  · rw [if_pos rfl, if_neg (by decide)]; exact x10
  · rw [if_neg (by decide), if_pos rfl, if_pos (by decide), if_neg (by decide)]; exact pl
  · rw [if_neg (by decide), if_neg (by decide), if_pos rfl, if_pos (by decide), if_neg (by decide)]; exact pl
  · rw [if_neg (by decide), if_neg (by decide), if_neg (by decide), if_pos rfl, if_neg (by decide)]; exact x10
  · rw [if_neg (by decide), if_neg (by decide), if_neg (by decide), if_neg (by decide), if_pos rfl, if_pos (by decide), if_pos rfl]; exact x3
  · rw [if_neg (by decide), if_neg (by decide), if_neg (by decide), if_neg (by decide), if_neg (by decide), if_pos rfl, if_pos (by decide), if_neg (by decide)]; exact pl
theorem plain_reads (hk : σ 26 0 = dt a 1) (hn : σ 27 0 = dt a 0) (hv : σ 28 0 = dt a 2) (k7 : dt a 1 = 0 ∨ dt a 1 = 1 ∨ dt a 1 = 2 ∨ dt a 1 = 3 ∨ dt a 1 = 4 ∨ dt a 1 = 5 ∨ dt a 1 = 6) {n : Nat} {τ' σ' : St} (h : AR τ σ n τ' σ') (h9 : n + 2 < 1000) (x : Int32) : AQ τ σ (n + 3) (f_X6_reads dt a τ' x) (f_X12_plainReads σ' x) := by
  have b := h.begin (by omega) 2
  have s := sets_a hk hn k7 b (by omega) x
  unfold f_X6_reads f_X12_plainReads bd1
  exact s.map (fun v _ => v - dt a 2) (fun v u => v - u 28 0) (by show _ - _ = _ - _; rw [s.1, s.2.nb.2.2, hv])
theorem reads_a (hk : σ 26 0 = dt a 1) (hn : σ 27 0 = dt a 0) (hv : σ 28 0 = dt a 2) (k7 : dt a 1 = 0 ∨ dt a 1 = 1 ∨ dt a 1 = 2 ∨ dt a 1 = 3 ∨ dt a 1 = 4 ∨ dt a 1 = 5 ∨ dt a 1 = 6) {n : Nat} {τ' σ' : St} (h : AR τ σ n τ' σ') (h9 : n + 3 < 1000) (x : Int32) : AQ τ σ (n + 4) (vread dt a τ' x) (f_X12_readsActs σ' x) := by
  have pl := ((plain_reads hk hn hv k7 h (by omega) x).up (show n + 3 ≤ n + 4 by omega) (by omega)).idq
  have b21 := h.begin (by omega) 21
  have b61 := h.begin (by omega) 61
  have p21 := plain_reads hk hn hv k7 b21 (by omega) x
  have p61 := plain_reads hk hn hv k7 b61 (by omega) x
  have x7 : AQ τ σ (n + 4) (f_X7_reads dt a τ' x) (bd1 (f_X12_ranBody σ' 21) (fun u14 => bd (f_X12_plainReads u14 x) (fun r19 u19 => (-r19, u19)))) := by
    unfold f_X7_reads bd1
    exact p21.map (fun v _ => -v) (fun v _ => -v) (by show -_ = -_; rw [p21.1])
  have x8 : AQ τ σ (n + 4) (f_X8_reads dt a τ' x) (bd1 (f_X12_ranBody σ' 61) (fun u36 => bd (f_X12_plainReads u36 x) (fun r41 u41 => (r41 + u41 28 0, u41)))) := by
    unfold f_X8_reads bd1
    exact p61.map (fun v _ => v + dt a 2) (fun v u => v + u 28 0) (by show _ + _ = _ + _; rw [p61.1, p61.2.nb.2.2, hv])
  unfold vread f_X12_readsActs
  rw [h.nb.1, hk]
  rcases k7 with k | k | k | k | k | k | k <;> rw [k]
  · rw [if_neg (by decide), if_neg (by decide), if_neg (by decide), if_neg (by decide), if_neg (by decide), if_neg (by decide), if_pos (by decide), if_neg (by decide)]; exact pl
  · rw [if_pos rfl, if_pos (by decide), if_neg (by decide)]; exact pl
  · rw [if_neg (by decide), if_pos rfl, if_neg (by decide)]; exact x7
  · rw [if_neg (by decide), if_neg (by decide), if_pos rfl, if_pos (by decide), if_neg (by decide)]; exact pl
  · rw [if_neg (by decide), if_neg (by decide), if_neg (by decide), if_pos rfl, if_pos (by decide), if_neg (by decide)]; exact pl
  · rw [if_neg (by decide), if_neg (by decide), if_neg (by decide), if_neg (by decide), if_pos rfl, if_neg (by decide)]; exact x7
  · rw [if_neg (by decide), if_neg (by decide), if_neg (by decide), if_neg (by decide), if_neg (by decide), if_pos rfl, if_pos (by decide), if_pos rfl]; exact x8
theorem plain_tells (hk : σ 26 0 = dt a 1) (hn : σ 27 0 = dt a 0) (hv : σ 28 0 = dt a 2) (k7 : dt a 1 = 0 ∨ dt a 1 = 1 ∨ dt a 1 = 2 ∨ dt a 1 = 3 ∨ dt a 1 = 4 ∨ dt a 1 = 5 ∨ dt a 1 = 6) {n : Nat} {τ' σ' : St} (h : AR τ σ n τ' σ') (h9 : n + 4 < 1000) (x : Int32) : AQ τ σ (n + 5) (f_X6_tells dt a τ' x) (f_X12_plainTells σ' x) := by
  have b := h.begin (by omega) 3
  have s := reads_a hk hn hv k7 b (by omega) x
  unfold f_X6_tells f_X12_plainTells bd1
  exact s.map (fun v _ => v * 2) (fun v _ => v * 2) (by show _ * _ = _ * _; rw [s.1])
theorem tells_a (hk : σ 26 0 = dt a 1) (hn : σ 27 0 = dt a 0) (hv : σ 28 0 = dt a 2) (k7 : dt a 1 = 0 ∨ dt a 1 = 1 ∨ dt a 1 = 2 ∨ dt a 1 = 3 ∨ dt a 1 = 4 ∨ dt a 1 = 5 ∨ dt a 1 = 6) {n : Nat} {τ' σ' : St} (h : AR τ σ n τ' σ') (h9 : n + 8 < 1000) (x : Int32) : AQ τ σ (n + 8) (vtell dt a τ' x) (f_X12_tellsActs σ' x) := by
  have pl := ((plain_tells hk hn hv k7 h (by omega) x).up (show n + 5 ≤ n + 8 by omega) (by omega)).idq
  have b31 := h.begin (by omega) 31
  have b41 := h.begin (by omega) 41
  have p31 := plain_tells hk hn hv k7 b31 (by omega) x
  have p41 := plain_tells hk hn hv k7 b41 (by omega) (x - 1)
  have x0 : AQ τ σ (n + 8) (f_X0_tells dt a τ' x) (bd1 (f_X12_ranBody σ' 31) (fun u14 => bd (f_X12_plainTells u14 x) (fun r19 u19 => (r19 ^^^ 7, u19)))) := by
    unfold f_X0_tells bd1
    exact AQ.up (p31.map (fun v _ => v ^^^ 7) (fun v _ => v ^^^ 7) (by show _ ^^^ _ = _ ^^^ _; rw [p31.1])) (by omega) (by omega)
  have x4 : dt a 1 = 4 → AQ τ σ (n + 8) (f_X4_tells dt a τ' x) (bd1 (f_X12_ranBody σ' 41) (fun u37 => bd (f_X12_plainTells u37 (x - 1)) (fun r44 u44 => bd (f_X12_setsActs u44 2) (fun r51 u51 => (r44 + r51, u51))))) := by
    intro k4
    have s := sets_a hk hn k7 p41.2 (by omega) 2
    have vs : vset dt a (f_X6_tells dt a (f_X9_begin τ' 41) (x - 1)).2 2 = f_X10_sets dt a (f_X6_tells dt a (f_X9_begin τ' 41) (x - 1)).2 2 := by
      unfold vset
      rw [k4, if_neg (by decide), if_neg (by decide), if_neg (by decide), if_pos rfl]
    rw [vs] at s
    unfold f_X4_tells bd1
    exact AQ.up (m := n + 8) (AQ.two (F := fun u => f_X10_sets dt a u 2) (G := fun u => f_X12_setsActs u 2) p41.1 s) (by omega) (by omega)
  unfold vtell f_X12_tellsActs
  rw [h.nb.1, hk]
  rcases k7 with k | k | k | k | k | k | k <;> rw [k] <;> try rw [k] at x4
  · rw [if_neg (by decide), if_neg (by decide), if_neg (by decide), if_neg (by decide), if_neg (by decide), if_neg (by decide), if_pos (by decide), if_neg (by decide)]; exact pl
  · rw [if_pos rfl, if_pos (by decide), if_neg (by decide)]; exact pl
  · rw [if_neg (by decide), if_pos rfl, if_pos (by decide), if_neg (by decide)]; exact pl
  · rw [if_neg (by decide), if_neg (by decide), if_pos rfl, if_neg (by decide)]; exact x0
  · rw [if_neg (by decide), if_neg (by decide), if_neg (by decide), if_pos rfl, if_pos (by decide), if_pos rfl]; exact x4 rfl
  · rw [if_neg (by decide), if_neg (by decide), if_neg (by decide), if_neg (by decide), if_pos rfl, if_pos (by decide), if_neg (by decide)]; exact pl
  · rw [if_neg (by decide), if_neg (by decide), if_neg (by decide), if_neg (by decide), if_neg (by decide), if_pos rfl, if_neg (by decide)]; exact x0
theorem RLL.ar {ρ : RR} {n : Nat} {τ0 σ0 τ' σ' : St} (h : RLL ρ dt τ σ) (e1 : ∀ k, k ≠ 81 → τ0 k = τ k) (e2 : ∀ k, k ≠ 25 → k ≠ 26 → k ≠ 27 → k ≠ 28 → σ0 k = σ k) (ar : AR τ0 σ0 n τ' σ') : RLL ρ dt τ' σ' := by
  obtain ⟨⟨n1, k1, b1, v1⟩, ⟨f1, f2⟩, ⟨g1, g2, g3⟩, e3, e4⟩ := h
  obtain ⟨r1, r2, r3, r4, r5, r6⟩ := ar
  have s1 : σ' 1 = σ 1 := by rw [r2 1 (by decide) (by decide), e2 1 (by decide) (by decide) (by decide) (by decide)]
  have s2 : σ' 2 = σ 2 := by rw [r2 2 (by decide) (by decide), e2 2 (by decide) (by decide) (by decide) (by decide)]
  have s3 : σ' 3 = σ 3 := by rw [r2 3 (by decide) (by decide), e2 3 (by decide) (by decide) (by decide) (by decide)]
  have t : ∀ k, k ≤ 79 → τ' k = τ k := fun k hk => by rw [r1 k (by omega) (by omega), e1 k (by omega)]
  refine ⟨⟨?_, ?_, ?_, ?_⟩, ⟨?_, ?_⟩, ⟨r3, r4.1, r6⟩, ?_, ?_⟩
  · rw [s1]; exact n1.kx (fun k _ h2 => t k (by omega))
  · rw [s1]; exact k1
  · rw [s1]; exact b1
  · rw [s1]; exact v1
  · rw [s3, t 2 (by decide)]; exact f1
  · rw [s3, s2]
    rcases f2 with f2 | ⟨f2, f3, f4⟩
    · exact Or.inl f2
    · exact Or.inr ⟨f2, f3.kx (fun k _ h2 => t k (by omega)), f4⟩
  · rw [t 65 (by decide)]; exact e3
  · rw [t 65 (by decide)]; exact e4
theorem c_act {ρ : RR} (h : RLL ρ dt τ σ) (s q x : Int32) : (f_X11_act ρ dt τ s q x).1 = (f_X12_act σ s q x).1 ∧ RLL ρ dt (f_X11_act ρ dt τ s q x).2 (f_X12_act σ s q x).2 := by
  obtain ⟨⟨hn, hK, hI, _⟩, _, ⟨g1, g2, g3⟩, _⟩ := id h
  have z0 : AR (up2 τ 81 0 0) (up2 σ 25 0 0) 0 (up2 τ 81 0 0) (up2 σ 25 0 0) := ⟨fun _ _ _ => rfl, fun _ _ _ => rfl, by rw [up2_same, up2_same], by rw [up2_same]; decide, by omega, fun i hi => by rw [up2_row (by decide), up2_row (by decide)]; exact g3 i hi⟩
  have none_ : (0 : Int32) = 0 ∧ RLL ρ dt (up2 τ 81 0 0) (up2 σ 25 0 0) := ⟨rfl, h.ar (fun k hk => up2_row hk) (fun k hk _ _ _ => up2_row hk) z0⟩
  unfold f_X11_act f_X12_act
  rcases stk_cases hn hK hI s with ⟨h1, h2⟩ | ⟨i, a, rfl, hi, _, h1, h2, d0, d1, d2, d3, _⟩
  · rw [if_pos h1, if_pos h2]; exact none_
  rw [if_neg (by rw [h1]; simp), if_neg h2, h1, show rf (some a) = a from rfl]
  have t := nI_toInt (show i < 2 ^ 31 by omega)
  have i9 : ix (9 + nI i) = 9 + i := by rw [ixS (n := 9) rfl (by rw [t]; omega) (by decide) (by rw [t]; omega), ix_nI (by omega)]
  have i15 : ix (15 + nI i) = 15 + i := by rw [ixS (n := 15) rfl (by rw [t]; omega) (by decide) (by rw [t]; omega), ix_nI (by omega)]
  rw [i9, i15, ← d1, ← d2, ← d0]
  have kb := hI.2.2.2.2.2.2.2.2.2.1 i hi
  have k77 := k7 (x := dt a 1) (by rw [d1]; exact kb.1) (by rw [d1]; exact kb.2)
  generalize hS : up2 (up2 (up2 (up2 σ 25 0 0) 26 0 (dt a 1)) 27 0 (dt a 0)) 28 0 (dt a 2) = S
  have S26 : S 26 0 = dt a 1 := by rw [← hS]; rfl
  have S27 : S 27 0 = dt a 0 := by rw [← hS]; rfl
  have S28 : S 28 0 = dt a 2 := by rw [← hS]; rfl
  have So : ∀ k, k ≠ 25 → k ≠ 26 → k ≠ 27 → k ≠ 28 → S k = σ k := fun k k1 k2 k3 k4 => by rw [← hS, up2_row k4, up2_row k3, up2_row k2, up2_row k1]
  have S25 : S 25 0 = 0 := by rw [← hS]; rfl
  have z1 : AR (up2 τ 81 0 0) S 0 (up2 τ 81 0 0) S := ⟨fun _ _ _ => rfl, fun _ _ _ => rfl, by rw [up2_same, S25], by rw [S25]; decide, by omega, fun i hi => by rw [up2_row (by decide), So 24 (by decide) (by decide) (by decide) (by decide)]; exact g3 i hi⟩
  have fin : ∀ {n : Nat} {r u : Int32 × St}, AQ (up2 τ 81 0 0) S n r u → r.1 = u.1 ∧ RLL ρ dt r.2 u.2 := fun z => ⟨z.1, h.ar (fun k hk => up2_row hk) So z.2⟩
  by_cases q0 : q = 0
  · rw [if_pos q0, if_pos q0, if_neg (show ¬ f_X12_in q 0 2 = 0 by rw [q0]; decide)]
    exact fin (sets_a S26 S27 k77 z1 (by omega) x)
  by_cases q1 : q = 1
  · rw [if_neg q0, if_pos q1, if_neg q0, if_pos q1, if_neg (show ¬ f_X12_in q 0 2 = 0 by rw [q1]; decide)]
    exact fin (reads_a S26 S27 S28 k77 z1 (by omega) x)
  by_cases q2 : q = 2
  · rw [if_neg q0, if_neg q1, if_pos q2, if_neg q0, if_neg q1, if_neg (show ¬ f_X12_in q 0 2 = 0 by rw [q2]; decide)]
    exact fin (tells_a S26 S27 S28 k77 z1 (by omega) x)
  rw [if_neg q0, if_neg q1, if_neg q2, if_pos]
  · exact none_
  rw [in_iff]
  simp only [ti_eq, Int32.reduceToInt] at *
  omega
end ACT
