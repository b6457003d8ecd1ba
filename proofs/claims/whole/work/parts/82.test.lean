/-! THE TWO SIDES TOGETHER: tests -/
def lt_ (c : Int32) : Int32 := if c = 115 then 0 else if c = 107 then 1 else if c = 118 then 2 else if c = 108 then 3 else if c = 110 then 4 else if c = 119 then 5 else -1
def sg_ (c : Int32) : Int32 := if c = 60 then 0 else if c = 61 then 1 else if c = 62 then 2 else -1
theorem lt_r (c : Int32) : lt_ c = -1 ∨ ∃ w : Nat, w < 6 ∧ lt_ c = nI w := by
  unfold lt_
  by_cases h0 : c = 115
  · rw [if_pos h0]; exact Or.inr ⟨0, by decide, rfl⟩
  rw [if_neg h0]
  by_cases h1 : c = 107
  · rw [if_pos h1]; exact Or.inr ⟨1, by decide, rfl⟩
  rw [if_neg h1]
  by_cases h2 : c = 118
  · rw [if_pos h2]; exact Or.inr ⟨2, by decide, rfl⟩
  rw [if_neg h2]
  by_cases h3 : c = 108
  · rw [if_pos h3]; exact Or.inr ⟨3, by decide, rfl⟩
  rw [if_neg h3]
  by_cases h4 : c = 110
  · rw [if_pos h4]; exact Or.inr ⟨4, by decide, rfl⟩
  rw [if_neg h4]
  by_cases h5 : c = 119
  · rw [if_pos h5]; exact Or.inr ⟨5, by decide, rfl⟩
  rw [if_neg h5]
  exact Or.inl rfl
theorem sg_r (c : Int32) : sg_ c = -1 ∨ ∃ w : Nat, w < 3 ∧ sg_ c = nI w := by
  unfold sg_
  by_cases h0 : c = 60
  · rw [if_pos h0]; exact Or.inr ⟨0, by decide, rfl⟩
  rw [if_neg h0]
  by_cases h1 : c = 61
  · rw [if_pos h1]; exact Or.inr ⟨1, by decide, rfl⟩
  rw [if_neg h1]
  by_cases h2 : c = 62
  · rw [if_pos h2]; exact Or.inr ⟨2, by decide, rfl⟩
  rw [if_neg h2]
  exact Or.inl rfl
theorem jx0 : ∀ k : Fin 128, f_J0_indexOf_0f7a4 0 (nI k.val) = lt_ (nI k.val) := by decide +kernel
theorem jx1 : ∀ k : Fin 128, f_J0_indexOf_0f7a4 1 (nI k.val) = sg_ (nI k.val) := by decide +kernel
theorem jx0' {c : Int32} (h0 : 0 ≤ c.toInt) (h1 : c.toInt ≤ 127) : f_J0_indexOf_0f7a4 0 c = lt_ c := by
  obtain ⟨k, hk, rfl⟩ := nn_nI h0
  rw [nI_toInt hk] at h1
  exact jx0 ⟨k, by omega⟩
theorem jx1' {c : Int32} (h0 : 0 ≤ c.toInt) (h1 : c.toInt ≤ 127) : f_J0_indexOf_0f7a4 1 c = sg_ c := by
  obtain ⟨k, hk, rfl⟩ := nn_nI h0
  rw [nI_toInt hk] at h1
  exact jx1 ⟨k, by omega⟩
theorem am_end {σ : St} {w n : Nat} {k : Int32} (h : f_J0_length_8abf5 w ≤ k) : g_X12_among_2 (n + 1) σ w k = (-1, σ) := by
  show f_X12_among_2 (g_X12_among_2 n) σ w k = _
  unfold f_X12_among_2
  rw [if_pos h]
theorem am_st {σ : St} {w n : Nat} {k c : Int32} (h : ¬ f_J0_length_8abf5 w ≤ k) (hc : f_J0_charAt_5068e w k = c) : g_X12_among_2 (n + 1) σ w k = if f_X12_here σ = c then (k, up2 σ 5 0 (σ 5 0 + 1)) else g_X12_among_2 n σ w (k + 1) := by
  show f_X12_among_2 (g_X12_among_2 n) σ w k = _
  unfold f_X12_among_2
  rw [if_neg h, hc]
theorem am0 (σ : St) : f_X12_among σ 0 = if lt_ (f_X12_here σ) = -1 then (-1, σ) else (lt_ (f_X12_here σ), up2 σ 5 0 (σ 5 0 + 1)) := by
  unfold f_X12_among lt_
  rw [am_st (c := 115) (by decide) (by decide), am_st (k := 0 + 1) (c := 107) (by decide) (by decide), am_st (k := 0 + 1 + 1) (c := 118) (by decide) (by decide), am_st (k := 0 + 1 + 1 + 1) (c := 108) (by decide) (by decide), am_st (k := 0 + 1 + 1 + 1 + 1) (c := 110) (by decide) (by decide), am_st (k := 0 + 1 + 1 + 1 + 1 + 1) (c := 119) (by decide) (by decide), am_end (k := 0 + 1 + 1 + 1 + 1 + 1 + 1) (by decide)]
  (repeat' split) <;> first | rfl | contradiction
theorem am1 (σ : St) : f_X12_among σ 1 = if sg_ (f_X12_here σ) = -1 then (-1, σ) else (sg_ (f_X12_here σ), up2 σ 5 0 (σ 5 0 + 1)) := by
  unfold f_X12_among sg_
  rw [am_st (c := 60) (by decide) (by decide), am_st (k := 0 + 1) (c := 61) (by decide) (by decide), am_st (k := 0 + 1 + 1) (c := 62) (by decide) (by decide), am_end (k := 0 + 1 + 1 + 1) (by decide)]
  (repeat' split) <;> first | rfl | contradiction
/-- the model's factor where no ! and no ( stands -/
def tstM (σ : St) : St := bd (f_X12_among σ 0) (fun r115 u115 => if (if r115 = -1 then (1 : Int32) else 0) = 0 then bd (f_X12_among (up2 u115 7 0 (if r115 = -1 then 1 else 0)) 1) (fun r147 u147 => f_X12_factor_150 (fun x => x) u147 r115 r147) else f_X12_factor_150 (fun x => x) (up2 u115 7 0 (if r115 = -1 then 1 else 0)) r115 0)
section TST
variable {tx : Nat → Int32} {A N P o : Nat} {bo st : Int32} {xs ms : List Int32} {τ σ : St}
theorem fac150_w {σ : St} {P : Nat} (h : WX P σ) (a t : Int32) : WX P (f_X12_factor_150 (fun x => x) σ a t) := by
  unfold f_X12_factor_150 bd bd1
  dsimp only
  rw [h.1, if_neg (show ¬ (1 : Int32) = 0 by decide)]
  have w : WX P (up2 σ 7 0 1) := ⟨up2_same, h.2⟩
  have f := w.figures
  rw [f.emits]
  exact f
theorem f150_ok {Ff : St → St} {σ : St} {a t : Int32} (h : σ 7 0 = 0) (ht : ¬ t = -1) : f_X12_factor_150 Ff σ a t = bd (f_X12_figures (up2 σ 7 0 0)) (fun r173 u173 => bd1 (f_X12_emits u173 (a + 8 * t + 32 * r173)) (fun u191 => u191)) := by
  unfold f_X12_factor_150
  rw [h, if_pos (show (0 : Int32) = 0 from rfl), if_neg ht]
theorem bd_pair {α : Type} (v : Int32) (u : St) (k : Int32 → St → α) : bd (v, u) k = k v u := rfl
theorem test_eq (htx : ∀ i, i < 100 → 0 ≤ (tx i).toInt ∧ (tx i).toInt ≤ 127) (hc : QX tx N bo st P xs τ) (hm : MX tx A N bo st P o ms σ) : ((f_X1_takesTest τ).1 = 1 ∧ ∃ P' w h v : Nat, w < 6 ∧ h < 3 ∧ v < 100 ∧ P + 3 ≤ P' ∧ QX tx N bo st P' (xs ++ [nI (((w * 3 + h) * 100 + v) * 8)]) (f_X1_takesTest τ).2 ∧ MX tx A N bo st P' o (ms ++ [nI (w + 8 * h + 32 * v)]) (tstM σ)) ∨ ((f_X1_takesTest τ).1 = 0 ∧ FL (f_X1_takesTest τ).2 (tstM σ)) := by
  have n := next_eq htx hc
  have h := here_eq hm
  have N100 : N ≤ 100 := hc.2.2.2.2.2.2.2.1
  have no : lt_ (f_X12_here σ) = -1 → WX P (tstM σ) := by
    intro z
    unfold tstM
    rw [am0, if_pos z]
    unfold bd
    dsimp only
    rw [if_pos (show (-1 : Int32) = -1 from rfl), if_neg (show ¬ (1 : Int32) = 0 by decide)]
    exact fac150_w (show WX P (up2 σ 7 0 1) from ⟨up2_same, hm.2.2.2.1⟩) _ _
  by_cases p : P < N
  rotate_left
  · right
    rw [if_neg p] at n h
    unfold f_X1_takesTest
    rw [n, if_neg (show ¬ 0 ≤ f_J0_indexOf_0f7a4 0 0 by decide)]
    exact ⟨rfl, P, hc.2.1, no (by rw [h]; decide)⟩
  rw [if_pos p] at n h
  have b := htx P (by omega)
  rcases lt_r (tx P) with w0 | ⟨w, hw, ew⟩
  · right
    unfold f_X1_takesTest
    rw [n, jx0' b.1 b.2, w0, if_neg (by decide)]
    exact ⟨rfl, P, hc.2.1, no (by rw [h]; exact w0)⟩
  have tw := nI_toInt (show w < 2 ^ 31 by omega)
  have nw : ¬ nI w = -1 := by rw [ti_eq, tw]; simp
  have hc1 := hc.adv p
  have hm1 : MX tx A N bo st (P + 1) o ms (up2 (up2 σ 5 0 (σ 5 0 + 1)) 7 0 0) := (hm.adv p).w0
  have n1 := next_eq htx hc1
  have h1 := here_eq hm1
  have e0 : tstM σ = bd (f_X12_among (up2 (up2 σ 5 0 (σ 5 0 + 1)) 7 0 0) 1) (fun r147 u147 => f_X12_factor_150 (fun x => x) u147 (nI w) r147) := by
    unfold tstM
    rw [am0, h, ew, if_neg nw]
    unfold bd
    dsimp only
    rw [if_neg nw, if_pos rfl]
  have cl0 : f_X1_takesTest τ = if 0 ≤ f_J0_indexOf_0f7a4 1 (f_X1_next (up2 τ 64 0 (τ 64 0 + 1))) then bd (f_X1_takesNumber (up2 (up2 τ 64 0 (τ 64 0 + 1)) 64 0 (τ 64 0 + 1 + 1))) (fun r53 u53 => if r53 = 0 then (0, u53) else bd1 (f_X1_emit u53 0 (f_X2_packed (nI w) (f_J0_indexOf_0f7a4 1 (f_X1_next (up2 τ 64 0 (τ 64 0 + 1)))) (u53 65 0))) (fun u72 => (1, u72))) else (0, up2 τ 64 0 (τ 64 0 + 1)) := by
    unfold f_X1_takesTest
    rw [n, jx0' b.1 b.2, ew, if_pos (by rw [ti_le, tw]; simp)]
  have no1 : sg_ (f_X12_here (up2 (up2 σ 5 0 (σ 5 0 + 1)) 7 0 0)) = -1 → WX (P + 1) (tstM σ) := by
    intro z
    rw [e0, am1, if_pos z]
    unfold bd f_X12_factor_150 bd bd1
    dsimp only
    rw [up2_same, if_pos (show (0 : Int32) = 0 from rfl), if_pos (show (-1 : Int32) = -1 from rfl)]
    have w : WX (P + 1) (up2 (up2 (up2 σ 5 0 (σ 5 0 + 1)) 7 0 0) 7 0 1) := ⟨up2_same, hm1.2.2.2.1⟩
    have f := w.figures
    rw [f.emits]
    exact f
  by_cases p1 : P + 1 < N
  rotate_left
  · right
    rw [if_neg p1] at n1 h1
    rw [cl0, n1, if_neg (show ¬ 0 ≤ f_J0_indexOf_0f7a4 1 0 by decide)]
    exact ⟨rfl, P + 1, hc1.2.1, no1 (by rw [h1]; decide)⟩
  rw [if_pos p1] at n1 h1
  have b1 := htx (P + 1) (by omega)
  rcases sg_r (tx (P + 1)) with w0 | ⟨g, hg, eg⟩
  · right
    rw [cl0, n1, jx1' b1.1 b1.2, w0, if_neg (by decide)]
    exact ⟨rfl, P + 1, hc1.2.1, no1 (by rw [h1]; exact w0)⟩
  have tg := nI_toInt (show g < 2 ^ 31 by omega)
  have ng : ¬ nI g = -1 := by rw [ti_eq, tg]; simp
  have hc2 : QX tx N bo st (P + 1 + 1) xs (up2 (up2 τ 64 0 (τ 64 0 + 1)) 64 0 (τ 64 0 + 1 + 1)) := by
    have q := hc1.adv p1
    rw [up2_same] at q
    exact q
  have hm2 := (hm1.adv p1).w0
  have e1 : tstM σ = bd (f_X12_figures (up2 (up2 (up2 (up2 σ 5 0 (σ 5 0 + 1)) 7 0 0) 5 0 ((up2 (up2 σ 5 0 (σ 5 0 + 1)) 7 0 0) 5 0 + 1)) 7 0 0)) (fun r173 u173 => bd1 (f_X12_emits u173 (nI w + 8 * nI g + 32 * r173)) (fun u191 => u191)) := by
    rw [e0, am1, h1, eg, if_neg ng, bd_pair, f150_ok rfl ng]
  have cl1 : f_X1_takesTest τ = bd (f_X1_takesNumber (up2 (up2 τ 64 0 (τ 64 0 + 1)) 64 0 (τ 64 0 + 1 + 1))) (fun r53 u53 => if r53 = 0 then (0, u53) else bd1 (f_X1_emit u53 0 (f_X2_packed (nI w) (nI g) (u53 65 0))) (fun u72 => (1, u72))) := by
    rw [cl0, n1, jx1' b1.1 b1.2, eg, if_pos (by rw [ti_le, tg]; simp)]
  rw [cl1, e1]
  unfold bd bd1
  dsimp only
  rcases num_eq htx hc2 hm2 with ⟨r1, v, P', hv, hp, f1, f2, f3, f4⟩ | ⟨r1, r2, r3⟩
  · left
    rw [r1, if_neg (show ¬ (1 : Int32) = 0 by decide), f1, f2]
    have xl := hc.2.2.2.2.2.1
    have ml := hm.2.2.2.2.2.2.2.2.2.1
    have pk : f_X2_packed (nI w) (nI g) (nI v) = nI ((w * 3 + g) * 100 + v) := by
      unfold f_X2_packed
      rw [show (nI w * 3 : Int32) = nI (w * 3) from pk_mul w 3, nI_a (by omega), show (nI (w * 3 + g) * 100 : Int32) = nI ((w * 3 + g) * 100) from pk_mul _ 100, nI_a (by omega)]
    have sh : nI ((w * 3 + g) * 100 + v) <<< ((3 : Int32) &&& 31) ||| 0 = nI (((w * 3 + g) * 100 + v) * 8) := by
      rw [Int32.or_zero, pk_shlN _ 3 (by decide) (by omega)]
    have mv : (nI w + 8 * nI g + 32 * nI v : Int32) = nI (w + 8 * g + 32 * v) := by
      rw [show (8 * nI g : Int32) = nI (8 * g) from pk_mul 8 g, show (32 * nI v : Int32) = nI (32 * v) from pk_mul 32 v, nI_a (by omega), nI_a (by omega)]
    have q1 := f3.emit (by omega) 0 (f_X2_packed (nI w) (nI g) (nI v))
    have q2 := f4.emit (by omega) (nI w + 8 * nI g + 32 * nI v)
    rw [pk, sh] at q1
    rw [mv] at q2
    rw [pk, mv]
    exact ⟨rfl, P', w, g, v, hw, hg, hv, by omega, q1, q2⟩
  · right
    rw [r1]
    dsimp only
    rw [if_pos (show (0 : Int32) = 0 from rfl), r3.emits]
    exact ⟨rfl, P + 1 + 1, hc2.2.1, r3⟩
end TST
