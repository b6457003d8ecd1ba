/-! THE TWO SIDES TOGETHER: words, clauses -/
theorem jl_v : ∀ w : Fin 6, f_J0_length_8abf5 w.val = nI (lenS.getD w.val 0) ∧ lenS.getD w.val 0 ≤ 6 := by decide
section CLAUSE
variable {tx : Nat → Int32} {A N : Nat} {bo st : Int32}
theorem word_ok (htx : ∀ i, i < 100 → 0 ≤ (tx i).toInt ∧ (tx i).toInt ≤ 127) {w : Nat} (hw : w < 6) {o : Nat} {xs ms : List Int32} : ∀ (n k P : Nat) (τ σ : St), k ≤ 6 → k ≤ lenS.getD w 0 → lenS.getD w 0 + 1 ≤ k + n → QX tx N bo st P xs τ → MX tx A N bo st P o ms σ → (∃ (τ1 : St) (P1 : Nat), P ≤ P1 ∧ QX tx N bo st P1 xs τ1 ∧ MX tx A N bo st P1 o ms (g_X12_spells_2 n σ w (nI k)) ∧ g_X1_takesWordAndNumber_2 n τ w (nI k) = f_X1_takesNumber τ1) ∨ (∃ τ1 : St, g_X1_takesWordAndNumber_2 n τ w (nI k) = (0, τ1) ∧ FL τ1 (g_X12_spells_2 n σ w (nI k)))
  | 0, k, P, τ, σ, hk6, hkl, hk, hc, hm => by exfalso; omega
  | n + 1, k, P, τ, σ, hk6, hkl, hk, hc, hm => by
    have l := jl_v ⟨w, hw⟩
    simp only at l
    have s1 : g_X1_takesWordAndNumber_2 (n + 1) τ w (nI k) = f_X1_takesWordAndNumber_2 (g_X1_takesWordAndNumber_2 n) τ w (nI k) := rfl
    have s2 : g_X12_spells_2 (n + 1) σ w (nI k) = f_X12_spells_2 (g_X12_spells_2 n) σ w (nI k) := rfl
    rw [s1, s2]
    unfold f_X1_takesWordAndNumber_2 f_X12_spells_2 bd bd1
    rw [l.1]
    by_cases c : nI (lenS.getD w 0) ≤ nI k
    · rw [if_pos c, if_pos c]
      exact Or.inl ⟨τ, P, Nat.le_refl _, hc, hm, rfl⟩
    rw [if_neg c, if_neg c]
    rw [ti_le, nI_toInt (by omega), nI_toInt (by omega)] at c
    have tk := nI_toInt (show k < 2 ^ 31 by omega)
    have c0 := jch_ne hw (k := nI k) (by rw [tk]; omega) (by rw [tk]; omega)
    have cb := jch_b w (nI k)
    have c1 : 1 ≤ (f_J0_charAt_5068e w (nI k)).toInt := by
      have : ¬ (f_J0_charAt_5068e w (nI k)).toInt = 0 := fun z => c0 (by rw [ti_eq, z]; rfl)
      omega
    rcases must_eq htx hc hm c1 with ⟨d1, d2, d3⟩ | ⟨d1, d2, d3⟩
    · rw [d1]
      dsimp only
      rw [if_neg (show ¬ (1 : Int32) = 0 by decide), nI_s (by omega)]
      have I := word_ok htx hw n (k + 1) (P + 1) _ _ (by omega) (by omega) (by omega) d2 d3
      rcases I with ⟨τ1, P1, p1, q1⟩ | I
      · exact Or.inl ⟨τ1, P1, by omega, q1⟩
      · exact Or.inr I
    · rw [d1]
      dsimp only
      rw [if_pos (show (0 : Int32) = 0 from rfl)]
      exact Or.inr ⟨τ, rfl, P, d2, d3.spells n _ _ d3⟩
/-- what follows a word that is wrong -/
theorem WX.tells {P : Nat} {u : St} (h : WX P u) (a : Int32) : WX P (bd (f_X12_figures u) (fun r6 u6 => if u6 7 0 = 0 then up2 u6 1 (ix (a + u6 4 0)) r6 else u6)) := by
  have f := h.figures
  unfold bd
  dsimp only
  rw [f.1, if_neg (show ¬ (1 : Int32) = 0 by decide)]
  exact f
theorem WX.rest {P : Nat} {u : St} (h : WX P u) (a : Int32) : WX P (bd1 (f_X12_must u 32) (fun u13 => bd1 (f_X12_some0 u13) (fun u17 => bd1 (f_X12_emits u17 a) (fun u24 => u24)))) := by
  have m := h.must 32
  unfold bd1 f_X12_some0
  dsimp only
  rw [m.some, m.emits]
  exact m
theorem WX.more {P : Nat} {u : St} (h : WX P u) (a : Int32) : WX P (bd (f_X12_figures u) (fun r6 u6 => bd1 (f_X12_must u6 32) (fun u13 => bd1 (f_X12_some0 u13) (fun u17 => bd1 (f_X12_emits u17 (a - r6)) (fun u24 => u24))))) := by
  have f := h.figures
  unfold bd
  exact f.rest _
/-- a clause was read, and cs was added -/
def CLA (tx : Nat → Int32) (A N P : Nat) (xs ms : List Int32) (r : Int32 × St) (σ' : St) : Prop := (r.1 = 1 ∧ ∃ (P' : Nat) (bo' st' : Int32) (cs : List CR), P ≤ P' ∧ QX tx N bo' st' P' (xs ++ xw cs) r.2 ∧ MX tx A N bo' st' P' 0 (ms ++ mw cs) σ' ∧ ∀ c ∈ cs, okC c) ∨ (r.1 = 0 ∧ FL r.2 σ')
theorem off8 : ∀ n : Fin 100, (nI n.val <<< ((3 : Int32) &&& 31)) ||| 4 = nI (n.val * 8 + 4) := by decide
theorem wear8 : ∀ n : Fin 100, (nI n.val <<< ((3 : Int32) &&& 31)) ||| 5 = nI (n.val * 8 + 5) := by decide
theorem cl_tell (htx : ∀ i, i < 100 → 0 ≤ (tx i).toInt ∧ (tx i).toInt ≤ 127) {w : Nat} (hw : w < 6) {P : Nat} {xs ms : List Int32} {τ σ : St} (hc : QX tx N bo st P xs τ) (hm : MX tx A N bo st P 0 ms σ) (b : Bool) : CLA tx A N P xs ms (bd (f_X1_takesWordAndNumber τ w) (fun r10 u10 => if r10 = 0 then (0, u10) else (1, up2 u10 (if b then 66 else 67) 0 (u10 65 0)))) (f_X12_tellsHere σ (if b then 201 else 206) w) := by
  have l := jl_v ⟨w, hw⟩
  simp only at l
  unfold f_X12_tellsHere f_X12_spells f_X1_takesWordAndNumber bd1
  rcases word_ok htx hw 7 0 P τ σ (by omega) (by omega) (by omega) hc hm with ⟨τ1, P1, p1, c1, m1, e1⟩ | ⟨τ1, e1, Pf, r2, r3⟩
  · rw [show (0 : Int32) = nI 0 from rfl, e1]
    generalize g_X12_spells_2 7 σ w (nI 0) = S at *
    rw [show nI 0 = (0 : Int32) from rfl]
    rcases num_eq htx c1 m1 with ⟨n1, d, P', hd, hp, n2, n3, n4, n5⟩ | ⟨n1, n2, n3⟩
    · left
      unfold bd
      dsimp only
      rw [n1, if_neg (show ¬ (1 : Int32) = 0 by decide), n2, n3, if_pos n5.1]
      have iA : ix ((if b = true then 201 else 206) + (f_X12_figures S).2 4 0) = (if b = true then 201 else 206) + A := by
        rw [n5.2.1]
        have := n5.2.2.2.2.2.2.2.2.1
        cases b
        · rw [show (if false = true then (201 : Int32) else 206) = nI 206 from rfl, nI_a (by omega), ix_nI (by omega)]; rfl
        · rw [show (if true = true then (201 : Int32) else 206) = nI 201 from rfl, nI_a (by omega), ix_nI (by omega)]; rfl
      rw [iA]
      obtain ⟨q1, q2, q3, q4, q5, q6, q7, q8, q9, q10⟩ := n4
      obtain ⟨u1, u2, u3, u4, u5, u6, u7, u8, u9, u10, u11, u12, u13, u14⟩ := n5
      refine ⟨rfl, P', (if b then nI d else bo), (if b then st else nI d), [], by omega, ?_, ?_, fun c h => absurd h (by simp)⟩
      · rw [show xw [] = ([] : List Int32) from rfl, List.append_nil]
        cases b
        · exact ⟨q1, q2, q3, q4, (show up2 (f_X1_takesNumber τ1).2 67 0 (nI d) 67 0 = nI d from up2_same), q6, q7, q8, q9, q10⟩
        · exact ⟨q1, q2, q3, (show up2 (f_X1_takesNumber τ1).2 66 0 (nI d) 66 0 = nI d from up2_same), q5, q6, q7, q8, q9, q10⟩
      · rw [show mw [] = ([] : List Int32) from rfl, List.append_nil]
        cases b
        · rw [show (if false = true then (201 : Nat) else 206) = 206 from rfl]
          exact ⟨u1, u2, u3, u4, u5, by rw [up2_pl (by omega)]; exact u6, by rw [up2_pl (by omega)]; exact u7, by rw [up2_same]; rfl, u9, u10, u11, u12, fun p v hv => by rw [up2_pl (by omega)]; exact u13 p v hv, fun i hi => by rw [up2_pl (by omega)]; exact u14 i hi⟩
        · rw [show (if true = true then (201 : Nat) else 206) = 201 from rfl]
          exact ⟨u1, u2, u3, u4, u5, by rw [up2_pl (by omega)]; exact u6, by rw [up2_same]; rfl, by rw [up2_pl (by omega)]; exact u8, u9, u10, u11, u12, fun p v hv => by rw [up2_pl (by omega)]; exact u13 p v hv, fun i hi => by rw [up2_pl (by omega)]; exact u14 i hi⟩
    · right
      unfold bd
      dsimp only
      rw [n1]
      dsimp only
      rw [if_pos (show (0 : Int32) = 0 from rfl), n3.1, if_neg (show ¬ (1 : Int32) = 0 by decide)]
      exact ⟨rfl, P1, n2, n3⟩
  · right
    rw [show (0 : Int32) = nI 0 from rfl, e1]
    have r4 := r3.tells (if b then 201 else 206)
    generalize g_X12_spells_2 7 σ w (nI 0) = S at *
    refine ⟨?_, Pf, ?_, r4⟩
    · unfold bd; dsimp only; rw [show nI 0 = (0 : Int32) from rfl, if_pos (show (0 : Int32) = 0 from rfl)]
    · unfold bd; dsimp only; rw [show nI 0 = (0 : Int32) from rfl, if_pos (show (0 : Int32) = 0 from rfl)]; exact r2
theorem cl_much (htx : ∀ i, i < 100 → 0 ≤ (tx i).toInt ∧ (tx i).toInt ≤ 127) {w : Nat} (hw : w < 6) {P : Nat} {xs ms : List Int32} {τ σ : St} (hc : QX tx N bo st P xs τ) (hm : MX tx A N bo st P 0 ms σ) (b : Bool) : CLA tx A N P xs ms (bd (f_X1_takesWordAndNumber τ w) (fun r10 u10 => if r10 = 0 then (0, u10) else bd (f_X1_takes u10 32) (fun r52 u52 => if r52 = 0 then (0, u52) else bd (f_X1_eith0 u52 0) (fun r60 u60 => if r60 = 0 then (0, u60) else bd1 (f_X1_emit u60 (if b then 4 else 5) (u10 65 0)) (fun u81 => (1, u81)))))) (f_X12_much σ (if b then -10 else -200) w) := by
  have l := jl_v ⟨w, hw⟩
  simp only at l
  have N100 : N ≤ 100 := hc.2.2.2.2.2.2.2.1
  unfold f_X12_much f_X12_spells f_X1_takesWordAndNumber
  rcases word_ok htx hw 7 0 P τ σ (by omega) (by omega) (by omega) hc hm with ⟨τ1, P1, p1, c1, m1, e1⟩ | ⟨τ1, e1, Pf, r2, r3⟩
  rotate_left
  · right
    have r4 := r3.more (if b then -10 else -200)
    rw [show nI 0 = (0 : Int32) from rfl] at e1 r4
    rw [e1]
    generalize g_X12_spells_2 7 σ w 0 = S at *
    rw [bd_pair (0 : Int32) τ1, if_pos (show (0 : Int32) = 0 from rfl), show ∀ k : St → St, bd1 S k = k S from fun _ => rfl]
    exact ⟨rfl, Pf, r2, r4⟩
  rw [show nI 0 = (0 : Int32) from rfl] at e1 m1
  rw [e1]
  generalize g_X12_spells_2 7 σ w 0 = S at *
  rw [show ∀ k : St → St, bd1 S k = k S from fun _ => rfl]
  rcases num_eq htx c1 m1 with ⟨n1, d, P2, hd, hp, n2, n3, n4, n5⟩ | ⟨n1, n2, n3⟩
  rotate_left
  · right
    rw [n1, bd_pair (0 : Int32) τ1, if_pos (show (0 : Int32) = 0 from rfl)]
    generalize f_X12_figures S = G at *
    obtain ⟨G1, G2⟩ := G
    rw [bd_pair G1 G2]
    exact ⟨rfl, P1, n2, n3.rest _⟩
  generalize hT : f_X1_takesNumber τ1 = T at *
  generalize hG : f_X12_figures S = G at *
  obtain ⟨T1, T2⟩ := T
  obtain ⟨G1, G2⟩ := G
  dsimp only at n1 n2 n3 n4 n5
  subst n1 n2
  rw [bd_pair (1 : Int32) T2, bd_pair (nI d) G2, if_neg (show ¬ (1 : Int32) = 0 by decide), n3]
  rcases must_eq htx n4 n5 (c := 32) (by decide) with ⟨d1, d2, d3⟩ | ⟨d1, d2, d3⟩
  rotate_left
  · right
    have r4 : WX P2 (bd1 (f_X12_must G2 32) (fun u13 => bd1 (f_X12_some0 u13) (fun u17 => bd1 (f_X12_emits u17 ((if b then -10 else -200) - nI d)) (fun u24 => u24)))) := by
      unfold bd1 f_X12_some0
      dsimp only
      rw [d3.some, d3.emits]
      exact d3
    rw [d1, bd_pair (0 : Int32) T2, if_pos (show (0 : Int32) = 0 from rfl)]
    exact ⟨rfl, P2, d2, r4⟩
  rw [d1, bd_pair (1 : Int32) (up2 T2 64 0 (T2 64 0 + 1)), if_neg (show ¬ (1 : Int32) = 0 by decide)]
  rw [show ∀ k : St → St, bd1 (f_X12_must G2 32) k = k (f_X12_must G2 32) from fun _ => rfl]
  have E := eith_ok htx d2 d3
  generalize f_X1_eith0 (up2 T2 64 0 (T2 64 0 + 1)) 0 = R at *
  generalize f_X12_some0 (f_X12_must G2 32) = W at *
  obtain ⟨R1, R2⟩ := R
  rw [bd_pair R1 R2]
  rcases E with ⟨g1, P', x, m, e, k, g2, g3, g4, g5, g6, g7, g8⟩ | ⟨g1, Pf, r2, r3⟩
  · dsimp only at g1 g2
    subst g1
    left
    rw [if_neg (show ¬ (1 : Int32) = 0 by decide)]
    have xl := hc.2.2.2.2.2.1
    have ml := hm.2.2.2.2.2.2.2.2.2.1
    have PN : P' ≤ N := g2.2.2.2.2.2.2.1
    have em := g2.emit (by rw [List.length_append]; omega) (if b then 4 else 5) (nI d)
    have ems := g3.emit (by rw [List.length_append]; omega) ((if b then -10 else -200) - nI d)
    have wv : (nI d <<< ((3 : Int32) &&& 31)) ||| (if b then 4 else 5) = nI (d * 8 + if b then 4 else 5) := by
      cases b
      · exact wear8 ⟨d, hd⟩
      · exact off8 ⟨d, hd⟩
    rw [wv, List.append_assoc] at em
    rw [List.append_assoc] at ems
    refine ⟨rfl, P', bo, st, [(b, e, d, x, m)], by omega, em, ems, fun c hcm => ?_⟩
    rw [List.mem_singleton] at hcm
    subst hcm
    exact ⟨hd, k, by omega, g4⟩
  · dsimp only at g1 r2
    subst g1
    right
    rw [if_pos (show (0 : Int32) = 0 from rfl)]
    refine ⟨rfl, Pf, r2, ?_⟩
    unfold bd1
    dsimp only
    rw [r3.emits]
    exact r3
theorem clause_ok (htx : ∀ i, i < 100 → 0 ≤ (tx i).toInt ∧ (tx i).toInt ≤ 127) {P : Nat} {xs ms : List Int32} {τ σ : St} (hc : QX tx N bo st P xs τ) (hm : MX tx A N bo st P 0 ms σ) : CLA tx A N P xs ms (f_X1_takesClause τ) (f_X12_clauseHere σ) := by
  have n := next_eq htx hc
  have h := here_eq hm
  have sm : ∀ c : Int32, 1 ≤ c.toInt → (f_X1_next τ = c ↔ f_X12_here σ = c) := by
    intro c hc1
    rw [n, h]
    by_cases z : P < N
    · rw [if_pos z, if_pos z]
    · rw [if_neg z, if_neg z]
      constructor <;> intro w <;> (rw [← w] at hc1; simp at hc1)
  have id1 : ∀ u : St, bd1 u (fun z => z) = u := fun _ => rfl
  unfold f_X1_takesClause f_X12_clauseHere f_X1_wordOf
  by_cases c98 : f_X12_here σ = 98
  · have n98 := (sm 98 (by decide)).mpr c98
    simp only [if_pos c98, n98, if_pos (show (98 : Int32) = 98 from rfl)]
    have q := cl_tell htx (w := 2) (by decide) hc hm true
    simp only [eq_self, if_true, Bool.false_eq_true, if_false] at q
    rw [id1]
    exact q
  have n98 : ¬ f_X1_next τ = 98 := fun z => c98 ((sm 98 (by decide)).mp z)
  by_cases c111 : f_X12_here σ = 111
  · have n111 := (sm 111 (by decide)).mpr c111
    simp only [if_neg c98, if_pos c111, n111, if_pos (show (111 : Int32) = 111 from rfl), if_neg (show ¬ (111 : Int32) = 115 by decide), if_neg (show ¬ (111 : Int32) = 98 by decide)]
    have q := cl_much htx (w := 4) (by decide) hc hm true
    simp only [eq_self, if_true, Bool.false_eq_true, if_false] at q
    rw [id1]
    exact q
  have n111 : ¬ f_X1_next τ = 111 := fun z => c111 ((sm 111 (by decide)).mp z)
  by_cases c115 : f_X12_here σ = 115
  · have n115 := (sm 115 (by decide)).mpr c115
    simp only [if_neg c98, if_neg c111, if_pos c115, n115, if_pos (show (115 : Int32) = 115 from rfl), if_neg (show ¬ (115 : Int32) = 111 by decide), if_neg (show ¬ (115 : Int32) = 98 by decide)]
    have q := cl_tell htx (w := 3) (by decide) hc hm false
    simp only [eq_self, if_true, Bool.false_eq_true, if_false] at q
    rw [id1]
    exact q
  have n115 : ¬ f_X1_next τ = 115 := fun z => c115 ((sm 115 (by decide)).mp z)
  simp only [if_neg c98, if_neg c111, if_neg c115, if_neg n98, if_neg n111, if_neg n115]
  by_cases c119 : f_X12_here σ = 119
  · rw [if_pos c119]
    have q := cl_much htx (w := 5) (by decide) hc hm false
    simp only [eq_self, if_true, Bool.false_eq_true, if_false] at q
    rw [id1]
    exact q
  have n119 : ¬ f_X1_next τ = 119 := fun z => c119 ((sm 119 (by decide)).mp z)
  rw [if_neg c119]
  right
  have e1 : f_X1_takesWordAndNumber τ 5 = (0, τ) := by
    unfold f_X1_takesWordAndNumber
    show f_X1_takesWordAndNumber_2 (g_X1_takesWordAndNumber_2 6) τ 5 0 = (0, τ)
    unfold f_X1_takesWordAndNumber_2 f_X1_takes
    rw [if_neg (show ¬ f_J0_length_8abf5 5 ≤ 0 by decide), show f_J0_charAt_5068e 5 0 = 119 by decide, if_neg n119, bd_pair (0 : Int32) τ, if_pos (show (0 : Int32) = 0 from rfl)]
  rw [e1, bd_pair (0 : Int32) τ, if_pos (show (0 : Int32) = 0 from rfl)]
  exact ⟨rfl, P, hc.2.1, up2_same, hm.2.2.2.1⟩
end CLAUSE
