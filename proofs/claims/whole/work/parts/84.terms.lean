/-! THE TWO SIDES TOGETHER: terms, E -/
theorem g4_s {Fe : St → Int32 → Int32 × St} {K2 : St → Int32 → Int32 → Int32 × St} (n : Nat) (σ : St) (a b c : Int32) : g_X1_takesEither_4 Fe K2 (n + 1) σ a b c = f_X1_takesEither_4 Fe K2 (g_X1_takesEither_4 Fe K2 n) σ a b c := rfl
theorem WX.everyl {P : Nat} {σ : St} {Ff : St → St} (h : WX P σ) (n : Nat) : g_X12_every_4 Ff (n + 1) σ = σ := by
  show f_X12_every_4 Ff (g_X12_every_4 Ff n) σ = σ
  unfold f_X12_every_4
  rw [h.1, if_neg (show ¬ (1 : Int32) = 0 by decide)]
theorem WX.somel {P : Nat} {σ : St} {Ff : St → St} (h : WX P σ) (n : Nat) : g_X12_some_4 Ff (n + 1) σ = σ := by
  show f_X12_some_4 Ff (g_X12_some_4 Ff n) σ = σ
  unfold f_X12_some_4
  rw [h.1, if_neg (show ¬ (1 : Int32) = 0 by decide)]
section TERMS
variable {tx : Nat → Int32} {A N : Nat} {bo st : Int32}
/-- all that was read since P0 is one E -/
def ACC (tx : Nat → Int32) (A N : Nat) (bo st : Int32) (P0 q : Nat) (xs ms : List Int32) (P : Nat) (τ σ : St) : Prop := ∃ (x m : List Int32) (e : EE) (k : Nat), QX tx N bo st P (xs ++ x) τ ∧ MX tx A N bo st P q (ms ++ m) σ ∧ CMP e x m k ∧ P0 + x.length ≤ P ∧ P0 + m.length ≤ P ∧ P0 + 3 * k ≤ P ∧ P0 + 3 ≤ P
theorem em2 (τ : St) (op : Int32) (h : op = 2 ∨ op = 3) : ((0 : Int32) <<< ((3 : Int32) &&& 31)) ||| op = op := by rcases h with rfl | rfl <;> decide
theorem t_loop (htx : ∀ i, i < 100 → 0 ≤ (tx i).toInt ∧ (tx i).toInt ≤ 127) {q kf mf : Nat} (hF : ∀ (P : Nat) (xs ms : List Int32) (τ σ : St), QX tx N bo st P xs τ → MX tx A N bo st P q ms σ → OUT tx A N bo st P q xs ms (f_X1_takesFactor (FEm kf) τ (nI q)) (FFm mf σ)) {P0 : Nat} {xs ms : List Int32} (hx0 : xs.length ≤ P0) (hm0 : ms.length ≤ P0) {K2 : St → Int32 → Int32 → Int32 × St} {t : Int32} : ∀ (n c P : Nat) (τ σ : St), ACC tx A N bo st P0 q xs ms P τ σ → c + 3 ≤ P → N ≤ n + P → ∃ τ1 : St, (f_X1_takesEither_24 (FEm kf) K2 (g_X1_takesEither_4 (FEm kf) K2 n) τ (nI q) t (nI c) = f_X1_takesEither_42 (FEm kf) K2 τ1 (nI q) t ∧ ∃ P', P ≤ P' ∧ ACC tx A N bo st P0 q xs ms P' τ1 (g_X12_every_4 (FFm mf) (n + 1) σ)) ∨ (f_X1_takesEither_24 (FEm kf) K2 (g_X1_takesEither_4 (FEm kf) K2 n) τ (nI q) t (nI c) = (0, τ1) ∧ FL τ1 (g_X12_every_4 (FFm mf) (n + 1) σ)) := by
  intro n
  induction n with
  | zero =>
    intro c P τ σ ⟨x, m, e, k, c1, c2, c3, c4⟩ hcP hn
    refine ⟨τ, Or.inl ⟨?_, P, Nat.le_refl _, ?_⟩⟩
    · unfold f_X1_takesEither_24 bd
      rw [nI_s (by have := c1.2.2.2.2.2.2.1; have := c1.2.2.2.2.2.2.2.1; omega)]
      have N100 : N ≤ 100 := c1.2.2.2.2.2.2.2.1
      have PN : P ≤ N := c1.2.2.2.2.2.2.1
      rw [if_neg (show ¬ (100 : Int32) ≤ nI (c + 1) by rw [ti_le, nI_toInt (by omega)]; simp; omega)]
      rcases may_eq htx c1 c2 (c := 38) (by decide) with ⟨d1, d2, d3, p, _⟩ | ⟨d1, d2, d3⟩
      · omega
      · rw [d1]
        dsimp only
        rw [if_pos (show (0 : Int32) = 0 from rfl)]
    · have : g_X12_every_4 (FFm mf) (0 + 1) σ = σ := by
        show f_X12_every_4 (FFm mf) (g_X12_every_4 (FFm mf) 0) σ = σ
        unfold f_X12_every_4 bd1
        rw [if_pos c2.1]
        rcases may_eq htx c1 c2 (c := 38) (by decide) with ⟨d1, d2, d3, p, _⟩ | ⟨d1, d2, d3⟩
        · have PN : P ≤ N := c1.2.2.2.2.2.2.1
          omega
        · rw [if_neg d3]
      rw [this]
      exact ⟨x, m, e, k, c1, c2, c3, c4⟩
  | succ n ih =>
    intro c P τ σ ⟨x, m, e, k, c1, c2, c3, c4, c5, c6, c7⟩ hcP hn
    have N100 : N ≤ 100 := c1.2.2.2.2.2.2.2.1
    have PN : P ≤ N := c1.2.2.2.2.2.2.1
    have ev : g_X12_every_4 (FFm mf) (n + 1 + 1) σ = f_X12_every_4 (FFm mf) (g_X12_every_4 (FFm mf) (n + 1)) σ := rfl
    rw [ev]
    unfold f_X1_takesEither_24 f_X12_every_4 bd
    rw [nI_s (by omega), if_neg (show ¬ (100 : Int32) ≤ nI (c + 1) by rw [ti_le, nI_toInt (by omega)]; simp; omega), if_pos c2.1]
    rcases may_eq htx c1 c2 (c := 38) (by decide) with ⟨d1, d2, d3, p, hc1, hm1⟩ | ⟨d1, d2, d3⟩
    rotate_left
    · rw [d1, if_neg d3]
      dsimp only
      rw [if_pos (show (0 : Int32) = 0 from rfl)]
      exact ⟨τ, Or.inl ⟨rfl, P, Nat.le_refl _, x, m, e, k, c1, c2, c3, c4, c5, c6, c7⟩⟩
    rw [d1, if_pos d3]
    dsimp only
    rw [if_neg (show ¬ (1 : Int32) = 0 by decide)]
    have s4 : g_X1_takesEither_4 (FEm kf) K2 (n + 1) (up2 τ 64 0 (τ 64 0 + 1)) (nI q) t (nI (c + 1)) = f_X1_takesEither_4 (FEm kf) K2 (g_X1_takesEither_4 (FEm kf) K2 n) (up2 τ 64 0 (τ 64 0 + 1)) (nI q) t (nI (c + 1)) := rfl
    rw [s4]
    unfold f_X1_takesEither_4 bd bd1
    dsimp only
    have F := hF (P + 1) _ _ _ _ hc1 hm1
    generalize f_X1_takesFactor (FEm kf) (up2 τ 64 0 (τ 64 0 + 1)) (nI q) = R at *
    generalize FFm mf (up2 σ 5 0 (σ 5 0 + 1)) = S at *
    rcases F with ⟨r1, P', x', m', e', k', b1, b2, b3, b4, b5, b6, b7⟩ | ⟨r1, Pf, r2, r3⟩
    · rw [r1, if_neg (show ¬ (1 : Int32) = 0 by decide), if_neg (show ¬ nI (c + 1) ≤ 0 by rw [ti_le, nI_toInt (by omega)]; simp)]
      rw [List.append_assoc] at b1 b2
      have em := b1.emit (by rw [List.length_append, List.length_append]; omega) 2 0
      rw [em2 τ 2 (Or.inl rfl), List.append_assoc] at em
      have ems := b2.emit (by rw [List.length_append, List.length_append]; omega) (-2)
      rw [List.append_assoc] at ems
      obtain ⟨τ1, I⟩ := ih (c + 1) P' (f_X1_emit R.2 2 0) (f_X12_emits S (-2)) ⟨_, _, _, _, em, ems, c3.a b3, by simp; omega, by simp; omega, by omega, by omega⟩ (by omega) (by omega)
      refine ⟨τ1, ?_⟩
      rcases I with ⟨i1, P2, i2, i3⟩ | i
      · exact Or.inl ⟨i1, P2, by omega, i3⟩
      · exact Or.inr i
    · refine ⟨R.2, Or.inr ⟨?_, Pf, r2, ?_⟩⟩
      · rw [r1, if_pos (show (0 : Int32) = 0 from rfl)]
      · rw [r3.emits, r3.everyl]
        exact r3
theorem t_topn (htx : ∀ i, i < 100 → 0 ≤ (tx i).toInt ∧ (tx i).toInt ≤ 127) {q kf mf : Nat} (hF : ∀ (P : Nat) (xs ms : List Int32) (τ σ : St), QX tx N bo st P xs τ → MX tx A N bo st P q ms σ → OUT tx A N bo st P q xs ms (f_X1_takesFactor (FEm kf) τ (nI q)) (FFm mf σ)) {P : Nat} {xs ms : List Int32} {τ σ : St} (hc : QX tx N bo st P xs τ) (hm : MX tx A N bo st P q ms σ) (K2 : St → Int32 → Int32 → Int32 × St) (t : Int32) (n : Nat) (hn : N ≤ n) : ∃ τ1 : St, (g_X1_takesEither_4 (FEm kf) K2 (n + 1) τ (nI q) t 0 = f_X1_takesEither_42 (FEm kf) K2 τ1 (nI q) t ∧ ∃ P', P ≤ P' ∧ ACC tx A N bo st P q xs ms P' τ1 (g_X12_every_4 (FFm mf) (n + 1) (FFm mf σ))) ∨ (g_X1_takesEither_4 (FEm kf) K2 (n + 1) τ (nI q) t 0 = (0, τ1) ∧ FL τ1 (g_X12_every_4 (FFm mf) (n + 1) (FFm mf σ))) := by
  rw [g4_s]
  unfold f_X1_takesEither_4 bd bd1
  dsimp only
  have F := hF P _ _ _ _ hc hm
  have N100 : N ≤ 100 := hc.2.2.2.2.2.2.2.1
  have xl := hc.2.2.2.2.2.1
  have ml := hm.2.2.2.2.2.2.2.2.2.1
  generalize f_X1_takesFactor (FEm kf) τ (nI q) = R at *
  generalize FFm mf σ = S at *
  rcases F with ⟨r1, P', x', m', e', k', b1, b2, b3, b4, b5, b6, b7⟩ | ⟨r1, Pf, r2, r3⟩
  · rw [r1, if_neg (show ¬ (1 : Int32) = 0 by decide), if_pos (show (0 : Int32) ≤ 0 by decide)]
    obtain ⟨τ1, I⟩ := t_loop htx hF xl ml (K2 := K2) (t := t) n 0 P' R.2 S ⟨x', m', e', k', b1, b2, b3, b4, b5, b6, b7⟩ (by omega) (by omega)
    refine ⟨τ1, ?_⟩
    rcases I with ⟨i1, P2, i2, i3⟩ | i
    · exact Or.inl ⟨i1, P2, by omega, i3⟩
    · exact Or.inr i
  · refine ⟨R.2, Or.inr ⟨?_, Pf, r2, ?_⟩⟩
    · rw [r1, if_pos (show (0 : Int32) = 0 from rfl)]
    · rw [r3.everyl]
      exact r3
theorem every_def (Ff : St → St) (σ : St) : f_X12_every Ff σ = g_X12_every_4 Ff (100 + 1) (Ff σ) := rfl
theorem t_top (htx : ∀ i, i < 100 → 0 ≤ (tx i).toInt ∧ (tx i).toInt ≤ 127) {q kf mf : Nat} (hF : ∀ (P : Nat) (xs ms : List Int32) (τ σ : St), QX tx N bo st P xs τ → MX tx A N bo st P q ms σ → OUT tx A N bo st P q xs ms (f_X1_takesFactor (FEm kf) τ (nI q)) (FFm mf σ)) {P : Nat} {xs ms : List Int32} {τ σ : St} (hc : QX tx N bo st P xs τ) (hm : MX tx A N bo st P q ms σ) (K2 : St → Int32 → Int32 → Int32 × St) (t : Int32) : ∃ τ1 : St, (g_X1_takesEither_4 (FEm kf) K2 101 τ (nI q) t 0 = f_X1_takesEither_42 (FEm kf) K2 τ1 (nI q) t ∧ ∃ P', P ≤ P' ∧ ACC tx A N bo st P q xs ms P' τ1 (f_X12_every (FFm mf) σ)) ∨ (g_X1_takesEither_4 (FEm kf) K2 101 τ (nI q) t 0 = (0, τ1) ∧ FL τ1 (f_X12_every (FFm mf) σ)) := by
  rw [every_def]
  exact t_topn htx hF hc hm K2 t 100 hc.2.2.2.2.2.2.2.1
theorem s_loop (htx : ∀ i, i < 100 → 0 ≤ (tx i).toInt ∧ (tx i).toInt ≤ 127) {q kf mf : Nat} (hF : ∀ (P : Nat) (xs ms : List Int32) (τ σ : St), QX tx N bo st P xs τ → MX tx A N bo st P q ms σ → OUT tx A N bo st P q xs ms (f_X1_takesFactor (FEm kf) τ (nI q)) (FFm mf σ)) {P0 : Nat} {xs ms : List Int32} (hx0 : xs.length ≤ P0) (hm0 : ms.length ≤ P0) : ∀ (n c P : Nat) (τ σ : St), ACC tx A N bo st P0 q xs ms P τ σ → c + 3 ≤ P → N ≤ n + P → OUT tx A N bo st P0 q xs ms (f_X1_takesEither_52 (FEm kf) (g_X1_takesEither_2 (FEm kf) n) τ (nI q) (nI c)) (g_X12_some_4 (FFm mf) (n + 1) σ) := by
  intro n
  induction n with
  | zero =>
    intro c P τ σ ⟨x, m, e, k, c1, c2, c3, c4⟩ hcP hn
    have N100 : N ≤ 100 := c1.2.2.2.2.2.2.2.1
    have PN : P ≤ N := c1.2.2.2.2.2.2.1
    have so : g_X12_some_4 (FFm mf) (0 + 1) σ = f_X12_some_4 (FFm mf) (g_X12_some_4 (FFm mf) 0) σ := rfl
    rw [so]
    unfold f_X1_takesEither_52 f_X12_some_4 bd
    rw [nI_s (by omega), if_neg (show ¬ (100 : Int32) ≤ nI (c + 1) by rw [ti_le, nI_toInt (by omega)]; simp; omega), if_pos c2.1]
    rcases may_eq htx c1 c2 (c := 124) (by decide) with ⟨d1, d2, d3, p, _⟩ | ⟨d1, d2, d3⟩
    · omega
    · rw [d1, if_neg d3]
      dsimp only
      rw [if_pos (show (0 : Int32) = 0 from rfl)]
      exact Or.inl ⟨rfl, P, x, m, e, k, c1, c2, c3, c4⟩
  | succ n ih =>
    intro c P τ σ ⟨x, m, e, k, c1, c2, c3, c4, c5, c6, c7⟩ hcP hn
    have N100 : N ≤ 100 := c1.2.2.2.2.2.2.2.1
    have PN : P ≤ N := c1.2.2.2.2.2.2.1
    have so : g_X12_some_4 (FFm mf) (n + 1 + 1) σ = f_X12_some_4 (FFm mf) (g_X12_some_4 (FFm mf) (n + 1)) σ := rfl
    rw [so]
    unfold f_X1_takesEither_52 f_X12_some_4 bd
    rw [nI_s (by omega), if_neg (show ¬ (100 : Int32) ≤ nI (c + 1) by rw [ti_le, nI_toInt (by omega)]; simp; omega), if_pos c2.1]
    rcases may_eq htx c1 c2 (c := 124) (by decide) with ⟨d1, d2, d3, p, hc1, hm1⟩ | ⟨d1, d2, d3⟩
    rotate_left
    · rw [d1, if_neg d3]
      dsimp only
      rw [if_pos (show (0 : Int32) = 0 from rfl)]
      exact Or.inl ⟨rfl, P, x, m, e, k, c1, c2, c3, c4, c5, c6, c7⟩
    rw [d1, if_pos d3]
    dsimp only
    rw [if_neg (show ¬ (1 : Int32) = 0 by decide)]
    have s2 : g_X1_takesEither_2 (FEm kf) (n + 1) (up2 τ 64 0 (τ 64 0 + 1)) (nI q) (nI (c + 1)) = g_X1_takesEither_4 (FEm kf) (g_X1_takesEither_2 (FEm kf) n) 101 (up2 τ 64 0 (τ 64 0 + 1)) (nI q) (nI (c + 1)) 0 := rfl
    rw [s2]
    unfold bd1
    obtain ⟨τ1, T⟩ := t_top htx hF hc1 hm1 (g_X1_takesEither_2 (FEm kf) n) (nI (c + 1))
    generalize f_X12_every (FFm mf) (up2 σ 5 0 (σ 5 0 + 1)) = S at *
    rcases T with ⟨t1, P', t2, x', m', e', k', b1, b2, b3, b4, b5, b6, b7⟩ | ⟨t1, Pf, r2, r3⟩
    · rw [t1]
      unfold f_X1_takesEither_42 bd1
      rw [if_neg (show ¬ nI (c + 1) ≤ 0 by rw [ti_le, nI_toInt (by omega)]; simp)]
      rw [List.append_assoc] at b1 b2
      have em := b1.emit (by rw [List.length_append, List.length_append]; omega) 3 0
      rw [em2 τ 3 (Or.inr rfl), List.append_assoc] at em
      have ems := b2.emit (by rw [List.length_append, List.length_append]; omega) (-3)
      rw [List.append_assoc] at ems
      exact ih (c + 1) P' (f_X1_emit τ1 3 0) (f_X12_emits S (-3)) ⟨_, _, _, _, em, ems, c3.o b3, by simp; omega, by simp; omega, by omega, by omega⟩ (by omega) (by omega)
    · rw [t1]
      dsimp only
      rw [r3.emits, r3.somel]
      exact Or.inr ⟨rfl, Pf, r2, r3⟩
theorem eok_step (htx : ∀ i, i < 100 → 0 ≤ (tx i).toInt ∧ (tx i).toInt ≤ 127) {q : Nat} (hq5 : q ≤ 5) (hF : FOK tx A N bo st q) : EOK tx A N bo st q := by
  intro k m hk hm7 P xs ms τ σ hc hm
  obtain ⟨k, rfl⟩ : ∃ k', k = k' + 1 := ⟨k - 1, by omega⟩
  have F := fun (P : Nat) (xs ms : List Int32) (τ σ : St) (hc : QX tx N bo st P xs τ) (hm : MX tx A N bo st P q ms σ) => fac_out hF hq5 (k := k) (m := m) (by omega) (by omega) hc hm
  have N100 : N ≤ 100 := hc.2.2.2.2.2.2.2.1
  have xl := hc.2.2.2.2.2.1
  have ml := hm.2.2.2.2.2.2.2.2.2.1
  have e0 : FEm (k + 1) τ (nI q) = g_X1_takesEither_4 (FEm k) (g_X1_takesEither_2 (FEm k) 100) 101 τ (nI q) 0 0 := rfl
  rw [e0]
  unfold f_X12_some bd1
  obtain ⟨τ1, T⟩ := t_top htx F hc hm (g_X1_takesEither_2 (FEm k) 100) 0
  generalize f_X12_every (FFm m) σ = S at *
  rcases T with ⟨t1, P', t2, ac⟩ | ⟨t1, Pf, r2, r3⟩
  · rw [t1]
    unfold f_X1_takesEither_42
    rw [if_pos (show (0 : Int32) ≤ 0 by decide)]
    have P3 : P + 3 ≤ P' := by obtain ⟨_, _, _, _, _, _, _, _, _, _, z⟩ := ac; exact z
    exact s_loop htx F xl ml 100 0 P' τ1 S ac (by omega) (by omega)
  · rw [t1]
    dsimp only
    rw [show g_X12_some_4 (FFm m) 101 S = S from r3.somel 100]
    exact Or.inr ⟨rfl, Pf, r2, r3⟩
theorem eok_all (htx : ∀ i, i < 100 → 0 ≤ (tx i).toInt ∧ (tx i).toInt ≤ 127) : ∀ (d q : Nat), q + d = 5 → FOK tx A N bo st q ∧ EOK tx A N bo st q
  | 0, q, h => by
    have f := fok_step (tx := tx) (A := A) (N := N) (bo := bo) (st := st) htx (q := q) (by omega) (fun z => by omega) (fun z => by omega)
    exact ⟨f, eok_step htx (by omega) f⟩
  | d + 1, q, h => by
    obtain ⟨f1, e1⟩ := eok_all htx d (q + 1) (by omega)
    have f := fok_step (tx := tx) (A := A) (N := N) (bo := bo) (st := st) htx (q := q) (by omega) (fun _ => f1) (fun _ => e1)
    exact ⟨f, eok_step htx (by omega) f⟩
/-- the two readings of one E -/
theorem eith_ok (htx : ∀ i, i < 100 → 0 ≤ (tx i).toInt ∧ (tx i).toInt ≤ 127) {P : Nat} {xs ms : List Int32} {τ σ : St} (hc : QX tx N bo st P xs τ) (hm : MX tx A N bo st P 0 ms σ) : OUT tx A N bo st P 0 xs ms (f_X1_eith0 τ 0) (f_X12_some0 σ) :=
  (eok_all htx 5 0 (by omega)).2 6 7 (by omega) (by omega) P xs ms τ σ hc hm
end TERMS
