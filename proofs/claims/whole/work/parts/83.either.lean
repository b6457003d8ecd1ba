/-! THE TWO SIDES TOGETHER: factors, terms, E -/
theorem CMP.t {w h v : Nat} (hw : w < 6) (hh : h < 3) (hv : v < 100) : CMP (tst w h v) [nI (((w * 3 + h) * 100 + v) * 8)] [nI (w + 8 * h + 32 * v)] 1 := fun _ h1 _ _ _ _ => h1 w h v hw hh hv
theorem CMP.n {e : EE} {x m : List Int32} {k : Nat} (c : CMP e x m k) : CMP (fun b => !e b) (x ++ [1]) (m ++ [-1]) k := fun P h1 h2 h3 h4 h5 => h2 _ _ _ _ (c P h1 h2 h3 h4 h5)
theorem CMP.nn {e : EE} {x m : List Int32} {k : Nat} (c : CMP e x m k) : CMP e x (m ++ [-1, -1]) k := fun P h1 h2 h3 h4 h5 => h3 _ _ _ _ (c P h1 h2 h3 h4 h5)
theorem CMP.a {e e' : EE} {x m x' m' : List Int32} {k k' : Nat} (c : CMP e x m k) (c' : CMP e' x' m' k') : CMP (fun b => e b && e' b) (x ++ x' ++ [2]) (m ++ m' ++ [-2]) (k + k') := fun P h1 h2 h3 h4 h5 => h4 _ _ _ _ _ _ _ _ (c P h1 h2 h3 h4 h5) (c' P h1 h2 h3 h4 h5)
theorem CMP.o {e e' : EE} {x m x' m' : List Int32} {k k' : Nat} (c : CMP e x m k) (c' : CMP e' x' m' k') : CMP (fun b => e b || e' b) (x ++ x' ++ [3]) (m ++ m' ++ [-3]) (k + k') := fun P h1 h2 h3 h4 h5 => h5 _ _ _ _ _ _ _ _ (c P h1 h2 h3 h4 h5) (c' P h1 h2 h3 h4 h5)
def nots (n : Nat) : List Int32 := if n % 2 = 1 then [1] else []
theorem cmp_nots {e : EE} {x m : List Int32} {k : Nat} (c : CMP e x m k) : ∀ i : Nat, ∃ e' : EE, CMP e' (x ++ nots i) (m ++ List.replicate i (-1)) k
  | 0 => ⟨e, by simpa [nots] using c⟩
  | 1 => ⟨_, c.n⟩
  | i + 2 => by
    obtain ⟨e', c'⟩ := cmp_nots c i
    have q := c'.nn
    have r1 : nots (i + 2) = nots i := by unfold nots; rw [show (i + 2) % 2 = i % 2 by omega]
    have r2 : List.replicate (i + 2) (-1 : Int32) = List.replicate i (-1) ++ [-1, -1] := by
      rw [List.replicate_succ', List.replicate_succ', List.append_assoc]; rfl
    rw [r1, r2, ← List.append_assoc]
    exact ⟨e', q⟩
theorem nots_len (n : Nat) : (nots n).length ≤ 1 ∧ (nots n).length ≤ n := by
  unfold nots
  split
  · constructor
    · simp
    · simp; omega
  · simp
theorem WX.op {P : Nat} {σ : St} (h : WX P σ) (v : Int32) : WX P (up2 σ 8 0 v) := ⟨by rw [up2_row (by decide)]; exact h.1, by rw [up2_row (by decide)]; exact h.2⟩
section EITH
variable (tx : Nat → Int32) (A N : Nat) (bo st : Int32)
def OKE (P o : Nat) (xs ms : List Int32) (τ' σ' : St) : Prop := ∃ (P' : Nat) (x m : List Int32) (e : EE) (k : Nat), QX tx N bo st P' (xs ++ x) τ' ∧ MX tx A N bo st P' o (ms ++ m) σ' ∧ CMP e x m k ∧ P + x.length ≤ P' ∧ P + m.length ≤ P' ∧ P + 3 * k ≤ P' ∧ P + 3 ≤ P'
def OUT (P o : Nat) (xs ms : List Int32) (r : Int32 × St) (σ' : St) : Prop := (r.1 = 1 ∧ OKE tx A N bo st P o xs ms r.2 σ') ∨ (r.1 = 0 ∧ FL r.2 σ')
def FOK (q : Nat) : Prop := ∀ o j n k m, o + j = q → n + j = 6 → 5 ≤ k + q → 7 ≤ m + q → ∀ (P : Nat) (xs ms : List Int32) (τ σ : St), QX tx N bo st P xs τ → xs.length + j ≤ P → MX tx A N bo st P q ms σ →
  ((g_X1_takesFactor_2 (FEm k) n τ (nI o) (nI j)).1 = 1 ∧ ∃ (P' : Nat) (x m' : List Int32) (e : EE) (kk i : Nat), QX tx N bo st P' (xs ++ x ++ nots (j + i)) (g_X1_takesFactor_2 (FEm k) n τ (nI o) (nI j)).2 ∧ MX tx A N bo st P' q (ms ++ m' ++ List.replicate i (-1)) (FFm m σ) ∧ CMP e x m' kk ∧ P + x.length + i ≤ P' ∧ P + m'.length + i ≤ P' ∧ P + 3 * kk + i ≤ P' ∧ P + 3 ≤ P') ∨ ((g_X1_takesFactor_2 (FEm k) n τ (nI o) (nI j)).1 = 0 ∧ FL (g_X1_takesFactor_2 (FEm k) n τ (nI o) (nI j)).2 (FFm m σ))
def EOK (q : Nat) : Prop := ∀ k m, 6 ≤ k + q → 7 ≤ m + q → ∀ (P : Nat) (xs ms : List Int32) (τ σ : St), QX tx N bo st P xs τ → MX tx A N bo st P q ms σ → OUT tx A N bo st P q xs ms (FEm k τ (nI q)) (f_X12_some (FFm m) σ)
variable {tx A N bo st}
theorem f84_ok {Fe : St → Int32 → Int32 × St} {P j : Nat} {xs : List Int32} {τ : St} (h : QX tx N bo st P xs τ) (hj : xs.length + j ≤ P) (hj5 : j ≤ 5) : (f_X1_takesFactor_84 Fe τ (nI j)).1 = 1 ∧ QX tx N bo st P (xs ++ nots j) (f_X1_takesFactor_84 Fe τ (nI j)).2 := by
  unfold f_X1_takesFactor_84 nots bd1
  have e : nI j - nI j / 2 * 2 = nI (j % 2) := by rw [show (2 : Int32) = nI 2 from rfl, pk_rem (by omega) (by omega) (by omega)]
  rw [e]
  by_cases z : j % 2 = 1
  · rw [if_pos (by rw [z]; rfl), if_pos z]
    refine ⟨rfl, ?_⟩
    have q := h.emit (by omega) 1 0
    rw [show ((0 : Int32) <<< ((3 : Int32) &&& 31)) ||| 1 = 1 by decide] at q
    exact q
  · rw [if_neg (by rw [show j % 2 = 0 by omega]; decide), if_neg z, List.append_nil]
    exact ⟨rfl, h⟩
/-- what stands where no ! is read: ( E ) or a test -/
theorem f24_ok (htx : ∀ i, i < 100 → 0 ≤ (tx i).toInt ∧ (tx i).toInt ≤ 127) {o j q k m P : Nat} (hq : o + j = q) (hq5 : q ≤ 5) (hk : 5 ≤ k + q) (hm7 : 7 ≤ m + q) (hE : q < 5 → EOK tx A N bo st (q + 1)) {xs ms : List Int32} {τ σ : St} (hc : QX tx N bo st P xs τ) (hj : xs.length + j ≤ P) (hm : MX tx A N bo st P q ms σ) (h33 : q < 5 → ¬ f_X12_here σ = 33) :
    ((f_X1_takesFactor_24 (FEm k) τ (nI o) (nI j)).1 = 1 ∧ ∃ (P' : Nat) (x m' : List Int32) (e : EE) (kk : Nat), QX tx N bo st P' (xs ++ x ++ nots j) (f_X1_takesFactor_24 (FEm k) τ (nI o) (nI j)).2 ∧ MX tx A N bo st P' q (ms ++ m') (FFm m σ) ∧ CMP e x m' kk ∧ P + x.length ≤ P' ∧ P + m'.length ≤ P' ∧ P + 3 * kk ≤ P' ∧ P + 3 ≤ P') ∨ ((f_X1_takesFactor_24 (FEm k) τ (nI o) (nI j)).1 = 0 ∧ FL (f_X1_takesFactor_24 (FEm k) τ (nI o) (nI j)).2 (FFm m σ)) := by
  obtain ⟨m, rfl⟩ : ∃ m', m = m' + 1 := ⟨m - 1, by omega⟩
  have n := next_eq htx hc
  have h := here_eq hm
  have N100 : N ≤ 100 := hc.2.2.2.2.2.2.2.1
  have oj : nI o + nI j = nI q := by rw [nI_a (by omega), hq]
  have o8 : σ 8 0 = nI q := hm.2.2.2.2.1
  have f0 : FFm (m + 1) σ = f_X12_factor (FFm m) σ := rfl
  have nh : f_X1_next τ = 40 ↔ f_X12_here σ = 40 := by
    rw [n, h]
    split
    · exact Iff.rfl
    · constructor <;> intro z <;> exact absurd z (by decide)
  rw [f0]
  unfold f_X1_takesFactor_24 f_X12_factor
  rw [hm.1, if_pos (show (0 : Int32) = 0 from rfl), oj]
  by_cases p40 : f_X12_here σ = 40
  · rw [if_pos (nh.mpr p40), if_neg (show ¬ f_X12_here σ = 33 by rw [p40]; decide), if_pos p40, p40]
    unfold f_X12_factor_25
    rw [if_neg (show ¬ (40 : Int32) = 33 by decide)]
    by_cases q5 : q = 5
    · right
      rw [if_neg (show ¬ nI q < 5 by rw [q5]; decide), o8, if_pos (show nI q = 5 by rw [q5]; rfl)]
      unfold bd1
      rw [if_neg (show ¬ (1 : Int32) = 0 by decide), Int32.add_zero]
      have w : WX P (up2 (up2 (up2 σ 7 0 1) 8 0 (nI q + 1)) 5 0 (σ 5 0)) := ⟨by rw [up2_row (by decide), up2_row (by decide), up2_same], by rw [up2_same]; exact hm.2.2.2.1⟩
      rw [w.some]
      exact ⟨rfl, P, hc.2.1, (w.must 41).op _⟩
    · have q4 : q < 5 := by omega
      have PN : P < N := by
        rw [h] at p40
        by_cases z : P < N
        · exact z
        · rw [if_neg z] at p40; exact absurd p40 (by decide)
      rw [if_pos (show nI q < 5 by rw [ti_lt, nI_toInt (by omega)]; simp; omega), o8, if_neg (show ¬ nI q = 5 by rw [ti_eq, nI_toInt (by omega)]; simp; omega), if_pos (show (0 : Int32) = 0 from rfl), nI_s (by omega)]
      have hc1 := hc.adv PN
      have hm1 : MX tx A N bo st (P + 1) (q + 1) ms (up2 (up2 (up2 σ 7 0 0) 8 0 (nI (q + 1))) 5 0 (σ 5 0 + 1)) := ((hm.w0).op (o' := q + 1) rfl).adv PN
      have E := hE q4 k m (by omega) (by omega) (P + 1) xs ms _ _ hc1 hm1
      unfold bd bd1
      dsimp only
      generalize hR : FEm k (up2 τ 64 0 (τ 64 0 + 1)) (nI (q + 1)) = R at *
      generalize hS : f_X12_some (FFm m) (up2 (up2 (up2 σ 7 0 0) 8 0 (nI (q + 1))) 5 0 (σ 5 0 + 1)) = S at *
      rcases E with ⟨r1, P', x, mm, e, kk, c1, c2, c3, c4, c5, c6, c7⟩ | ⟨r1, Pf, r2, r3⟩
      · rw [r1, if_neg (show ¬ (1 : Int32) = 0 by decide)]
        rcases must_eq htx c1 c2 (c := 41) (by decide) with ⟨d1, d2, d3⟩ | ⟨d1, d2, d3⟩
        · left
          rw [d1]
          dsimp only
          rw [if_neg (show ¬ (1 : Int32) = 0 by decide)]
          have xl := hc.2.2.2.2.2.1
          obtain ⟨g1, g2⟩ := f84_ok (Fe := FEm k) (j := j) d2 (by rw [List.length_append]; omega) (by omega)
          refine ⟨g1, P' + 1, x, mm, e, kk, g2, ?_, c3, by omega, by omega, by omega, by omega⟩
          have e8 : f_X12_must S 41 8 0 - 1 = nI q := by rw [d3.2.2.2.2.1]; exact nI_p
          exact d3.op e8
        · right
          rw [d1]
          dsimp only
          rw [if_pos (show (0 : Int32) = 0 from rfl)]
          exact ⟨rfl, P', d2, d3.op _⟩
      · right
        rw [r1, if_pos (show (0 : Int32) = 0 from rfl)]
        exact ⟨rfl, Pf, r2, (r3.must 41).op _⟩
  · rw [if_neg (fun z => p40 (nh.mp z)), if_neg p40]
    by_cases p33 : f_X12_here σ = 33
    · have q5 : q = 5 := by
        by_cases z : q < 5
        · exact absurd p33 (h33 z)
        · omega
      right
      have n33 : f_X1_next τ = 33 := by
        rw [h] at p33
        rw [n]
        by_cases z : P < N
        · rw [if_pos z] at p33 ⊢; exact p33
        · rw [if_neg z] at p33; exact absurd p33 (by decide)
      have tt : f_X1_takesTest τ = (0, τ) := by
        unfold f_X1_takesTest
        rw [n33, if_neg (show ¬ 0 ≤ f_J0_indexOf_0f7a4 0 33 by decide)]
      rw [if_pos p33, p33, tt]
      unfold bd f_X12_factor_25 bd1
      dsimp only
      rw [if_pos (show (0 : Int32) = 0 from rfl), if_pos (show (33 : Int32) = 33 from rfl), o8, if_pos (show nI q = 5 by rw [q5]; rfl), if_neg (show ¬ (1 : Int32) = 0 by decide), Int32.add_zero]
      have w : WX P (up2 (up2 (up2 σ 7 0 1) 8 0 (nI q + 1)) 5 0 (σ 5 0)) := ⟨by rw [up2_row (by decide), up2_row (by decide), up2_same], by rw [up2_same]; exact hm.2.2.2.1⟩
      rw [w.fac, w.emits]
      exact ⟨rfl, P, hc.2.1, w.op _⟩
    · rw [if_neg p33]
      have T := test_eq htx hc hm
      have te : bd (f_X12_among σ 0) (fun r115 u115 => if (if r115 = -1 then (1 : Int32) else 0) = 0 then bd (f_X12_among (up2 u115 7 0 (if r115 = -1 then 1 else 0)) 1) (fun r147 u147 => f_X12_factor_150 (FFm m) u147 r115 r147) else f_X12_factor_150 (FFm m) (up2 u115 7 0 (if r115 = -1 then 1 else 0)) r115 0) = tstM σ := rfl
      rw [te]
      rcases T with ⟨t1, P', w, g, v, hw, hg, hv, c1, c2, c3⟩ | ⟨t1, t2⟩
      · left
        unfold bd
        dsimp only
        rw [t1, if_neg (show ¬ (1 : Int32) = 0 by decide)]
        obtain ⟨g1, g2⟩ := f84_ok (Fe := FEm k) (j := j) c2 (by rw [List.length_append]; simp; omega) (by omega)
        exact ⟨g1, P', _, _, _, 1, g2, c3, CMP.t hw hg hv, by simp; omega, by simp; omega, by omega, by omega⟩
      · right
        unfold bd
        dsimp only
        rw [t1, if_pos (show (0 : Int32) = 0 from rfl)]
        exact ⟨rfl, t2⟩
theorem fok_step (htx : ∀ i, i < 100 → 0 ≤ (tx i).toInt ∧ (tx i).toInt ≤ 127) {q : Nat} (hq5 : q ≤ 5) (hF : q < 5 → FOK tx A N bo st (q + 1)) (hE : q < 5 → EOK tx A N bo st (q + 1)) : FOK tx A N bo st q := by
  intro o j n k m hq hn hk hm7 P xs ms τ σ hc hj hm
  obtain ⟨n, rfl⟩ : ∃ n', n = n' + 1 := ⟨n - 1, by omega⟩
  have st2 : g_X1_takesFactor_2 (FEm k) (n + 1) τ (nI o) (nI j) = f_X1_takesFactor_2 (FEm k) (g_X1_takesFactor_2 (FEm k) n) τ (nI o) (nI j) := rfl
  rw [st2]
  unfold f_X1_takesFactor_2
  have oj : nI o + nI j = nI q := by rw [nI_a (by omega), hq]
  rw [oj]
  have base := fun h33 => f24_ok htx hq hq5 hk hm7 hE hc hj hm h33
  have lift : ((f_X1_takesFactor_24 (FEm k) τ (nI o) (nI j)).1 = 1 ∧ ∃ (P' : Nat) (x m' : List Int32) (e : EE) (kk : Nat), QX tx N bo st P' (xs ++ x ++ nots j) (f_X1_takesFactor_24 (FEm k) τ (nI o) (nI j)).2 ∧ MX tx A N bo st P' q (ms ++ m') (FFm m σ) ∧ CMP e x m' kk ∧ P + x.length ≤ P' ∧ P + m'.length ≤ P' ∧ P + 3 * kk ≤ P' ∧ P + 3 ≤ P') ∨ ((f_X1_takesFactor_24 (FEm k) τ (nI o) (nI j)).1 = 0 ∧ FL (f_X1_takesFactor_24 (FEm k) τ (nI o) (nI j)).2 (FFm m σ)) → ((f_X1_takesFactor_24 (FEm k) τ (nI o) (nI j)).1 = 1 ∧ ∃ (P' : Nat) (x m' : List Int32) (e : EE) (kk i : Nat), QX tx N bo st P' (xs ++ x ++ nots (j + i)) (f_X1_takesFactor_24 (FEm k) τ (nI o) (nI j)).2 ∧ MX tx A N bo st P' q (ms ++ m' ++ List.replicate i (-1)) (FFm m σ) ∧ CMP e x m' kk ∧ P + x.length + i ≤ P' ∧ P + m'.length + i ≤ P' ∧ P + 3 * kk + i ≤ P' ∧ P + 3 ≤ P') ∨ ((f_X1_takesFactor_24 (FEm k) τ (nI o) (nI j)).1 = 0 ∧ FL (f_X1_takesFactor_24 (FEm k) τ (nI o) (nI j)).2 (FFm m σ)) := by
    rintro (⟨a, P', x, m', e, kk, c1, c2, c3, c4, c5, c6, c7⟩ | b)
    · left
      exact ⟨a, P', x, m', e, kk, 0, c1, by simpa using c2, c3, by omega, by omega, by omega, c7⟩
    · exact Or.inr b
  by_cases q5 : q = 5
  · rw [if_pos (show (5 : Int32) ≤ nI q by rw [q5]; decide)]
    exact lift (base (fun z => by omega))
  have q4 : q < 5 := by omega
  rw [if_neg (show ¬ (5 : Int32) ≤ nI q by rw [ti_le, nI_toInt (by omega)]; simp; omega)]
  unfold bd
  rcases may_eq htx hc hm (c := 33) (by decide) with ⟨d1, d2, d3, PN, hc1, hm1⟩ | ⟨d1, d2, d3⟩
  · rw [d1]
    dsimp only
    rw [if_neg (show ¬ (1 : Int32) = 0 by decide), nI_s (by omega)]
    obtain ⟨m, rfl⟩ : ∃ m', m = m' + 1 := ⟨m - 1, by omega⟩
    have o8 : σ 8 0 = nI q := hm.2.2.2.2.1
    have f0 : FFm (m + 1) σ = up2 (f_X12_emits (FFm m (up2 (up2 (up2 σ 7 0 0) 8 0 (nI (q + 1))) 5 0 (σ 5 0 + 1))) (-1)) 8 0 ((f_X12_emits (FFm m (up2 (up2 (up2 σ 7 0 0) 8 0 (nI (q + 1))) 5 0 (σ 5 0 + 1))) (-1)) 8 0 - 1) := by
      show f_X12_factor (FFm m) σ = _
      unfold f_X12_factor f_X12_factor_25 bd1
      rw [hm.1, if_pos (show (0 : Int32) = 0 from rfl), if_pos d3, d3, if_pos (show (33 : Int32) = 33 from rfl), o8, if_neg (show ¬ nI q = 5 by rw [ti_eq, nI_toInt (by omega)]; simp; omega), if_pos (show (0 : Int32) = 0 from rfl), nI_s (by omega)]
    rw [f0]
    have hm2 : MX tx A N bo st (P + 1) (q + 1) ms (up2 (up2 (up2 σ 7 0 0) 8 0 (nI (q + 1))) 5 0 (σ 5 0 + 1)) := ((hm.w0).op (o' := q + 1) rfl).adv PN
    have xl := hc.2.2.2.2.2.1
    have ml := hm.2.2.2.2.2.2.2.2.2.1
    have I := hF q4 o (j + 1) n k m (by omega) (by omega) (by omega) (by omega) (P + 1) xs ms _ _ hc1 (by omega) hm2
    generalize g_X1_takesFactor_2 (FEm k) n (up2 τ 64 0 (τ 64 0 + 1)) (nI o) (nI (j + 1)) = R at *
    generalize FFm m (up2 (up2 (up2 σ 7 0 0) 8 0 (nI (q + 1))) 5 0 (σ 5 0 + 1)) = S at *
    rcases I with ⟨r1, P', x, m', e, kk, i, c1, c2, c3, c4, c5, c6, c7⟩ | ⟨r1, Pf, r2, r3⟩
    · left
      have em := c2.emit (by rw [List.length_append, List.length_append, List.length_replicate]; omega) (-1)
      have e8 : f_X12_emits S (-1) 8 0 - 1 = nI q := by rw [em.2.2.2.2.1]; exact nI_p
      refine ⟨r1, P', x, m', e, kk, i + 1, ?_, ?_, c3, by omega, by omega, by omega, by omega⟩
      · rw [show j + (i + 1) = j + 1 + i by omega]; exact c1
      · rw [List.replicate_succ', ← List.append_assoc]
        exact em.op e8
    · right
      rw [r3.emits]
      exact ⟨r1, Pf, r2, r3.op _⟩
  · rw [d1]
    dsimp only
    rw [if_pos (show (0 : Int32) = 0 from rfl)]
    exact lift (base (fun _ => d3))
theorem fac_out {q k m : Nat} (hF : FOK tx A N bo st q) (hq5 : q ≤ 5) (hk : 5 ≤ k + q) (hm7 : 7 ≤ m + q) {P : Nat} {xs ms : List Int32} {τ σ : St} (hc : QX tx N bo st P xs τ) (hm : MX tx A N bo st P q ms σ) : OUT tx A N bo st P q xs ms (f_X1_takesFactor (FEm k) τ (nI q)) (FFm m σ) := by
  have I := hF q 0 6 k m (by omega) (by omega) hk hm7 P xs ms τ σ hc (by have := hc.2.2.2.2.2.1; omega) hm
  unfold f_X1_takesFactor
  rw [show nI 0 = (0 : Int32) from rfl] at I
  rcases I with ⟨r1, P', x, m', e, kk, i, c1, c2, c3, c4, c5, c6, c7⟩ | r
  · left
    obtain ⟨e', c'⟩ := cmp_nots c3 i
    rw [Nat.zero_add, List.append_assoc] at c1
    rw [List.append_assoc] at c2
    have nl := nots_len i
    exact ⟨r1, P', _, _, e', kk, c1, c2, c', by rw [List.length_append]; omega, by rw [List.length_append, List.length_replicate]; omega, by omega, c7⟩
  · exact Or.inr r
end EITH
