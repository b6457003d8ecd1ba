/-! THE TWO SIDES TOGETHER: the two readers in step; signs, words, numbers, tests -/
/-- the class's reader: N signs, it stands at P, its code so far is xs -/
def QX (tx : Nat → Int32) (N : Nat) (bo st : Int32) (P : Nat) (xs : List Int32) (τ : St) : Prop := τ 63 0 = nI N ∧ τ 64 0 = nI P ∧ τ 61 0 = nI xs.length ∧ τ 66 0 = bo ∧ τ 67 0 = st ∧ xs.length ≤ P ∧ P ≤ N ∧ N ≤ 100 ∧ (∀ p v, xs[p]? = some v → τ 60 p = v) ∧ ∀ i, i < 100 → τ 20 i = tx i
/-- the model's: it reads room A, its steps so far are ms, o are open, nothing is wrong -/
def MX (tx : Nat → Int32) (A N : Nat) (bo st : Int32) (P o : Nat) (ms : List Int32) (σ : St) : Prop := σ 7 0 = 0 ∧ σ 4 0 = nI A ∧ σ 6 0 = nI N ∧ σ 5 0 = nI P ∧ σ 8 0 = nI o ∧ σ 1 (211 + A) = nI ms.length ∧ σ 1 (201 + A) = bo ∧ σ 1 (206 + A) = st ∧ A < 5 ∧ ms.length ≤ P ∧ P ≤ N ∧ N ≤ 100 ∧ (∀ p v, ms[p]? = some v → σ 1 (216 + 140 * A + p) = v) ∧ ∀ i, i < 100 → σ 1 (101 + i) = tx i
/-- the model is wrong, and stands at P -/
def WX (P : Nat) (σ : St) : Prop := σ 7 0 = 1 ∧ σ 5 0 = nI P
/-- both are stopped at one place -/
def FL (τ σ : St) : Prop := ∃ P, τ 64 0 = nI P ∧ WX P σ
section SYNC
variable {tx : Nat → Int32} {A N P o : Nat} {bo st : Int32} {xs ms : List Int32} {τ σ : St}
theorem QX.adv (h : QX tx N bo st P xs τ) (hp : P < N) : QX tx N bo st (P + 1) xs (up2 τ 64 0 (τ 64 0 + 1)) := by
  obtain ⟨h1, h2, h3, h4, h5, h6, h7, h8, h9, h10⟩ := h
  refine ⟨by rw [up2_row (by decide)]; exact h1, by rw [up2_same, h2, nI_s (by omega)], by rw [up2_row (by decide)]; exact h3, by rw [up2_row (by decide)]; exact h4, by rw [up2_row (by decide)]; exact h5, by omega, by omega, h8, fun p v hv => by rw [up2_row (by decide)]; exact h9 p v hv, fun i hi => by rw [up2_row (by decide)]; exact h10 i hi⟩
theorem QX.num (h : QX tx N bo st P xs τ) (v : Int32) : QX tx N bo st P xs (up2 τ 65 0 v) := by
  obtain ⟨h1, h2, h3, h4, h5, h6, h7, h8, h9, h10⟩ := h
  exact ⟨h1, h2, h3, h4, h5, h6, h7, h8, h9, h10⟩
theorem QX.emit (h : QX tx N bo st P xs τ) (hp : xs.length + 1 ≤ P) (op v : Int32) : QX tx N bo st P (xs ++ [(v <<< ((3 : Int32) &&& 31)) ||| op]) (f_X1_emit τ op v) := by
  obtain ⟨h1, h2, h3, h4, h5, h6, h7, h8, h9, h10⟩ := h
  unfold f_X1_emit
  rw [if_neg (by rw [h3, ti_le, nI_toInt (by omega)]; simp; omega)]
  refine ⟨h1, h2, ?_, h4, h5, by simp; omega, h7, h8, fun p w hw => ?_, h10⟩
  · rw [up2_same, h3, nI_s (by omega)]; simp
  · rw [up2_row (by decide), h3, ix_nI (by omega)]
    by_cases z : p = xs.length
    · subst z
      rw [up2_same]
      simpa using hw
    · rw [up2_pl z]
      have hl := (List.getElem?_eq_some_iff.mp hw).1
      rw [List.length_append, List.length_singleton] at hl
      rw [List.getElem?_append_left (by omega)] at hw
      exact h9 p w hw
theorem MX.adv (h : MX tx A N bo st P o ms σ) (hp : P < N) : MX tx A N bo st (P + 1) o ms (up2 σ 5 0 (σ 5 0 + 1)) := by
  obtain ⟨h1, h2, h3, h4, h5, h6, h7, h8, h9, h10, h11, h12, h13, h14⟩ := h
  exact ⟨h1, h2, h3, by rw [up2_same, h4, nI_s (by omega)], h5, h6, h7, h8, h9, by omega, by omega, h12, h13, h14⟩
theorem MX.w0 (h : MX tx A N bo st P o ms σ) : MX tx A N bo st P o ms (up2 σ 7 0 0) := by
  obtain ⟨h1, h2, h3, h4, h5, h6, h7, h8, h9, h10, h11, h12, h13, h14⟩ := h
  exact ⟨up2_same, h2, h3, h4, h5, h6, h7, h8, h9, h10, h11, h12, h13, h14⟩
theorem MX.op (h : MX tx A N bo st P o ms σ) {v : Int32} {o' : Nat} (hv : v = nI o') : MX tx A N bo st P o' ms (up2 σ 8 0 v) := by
  obtain ⟨h1, h2, h3, h4, h5, h6, h7, h8, h9, h10, h11, h12, h13, h14⟩ := h
  exact ⟨h1, h2, h3, h4, by rw [up2_same]; exact hv, h6, h7, h8, h9, h10, h11, h12, h13, h14⟩
theorem MX.emit (h : MX tx A N bo st P o ms σ) (hp : ms.length + 1 ≤ P) (v : Int32) : MX tx A N bo st P o (ms ++ [v]) (f_X12_emits σ v) := by
  obtain ⟨h1, h2, h3, h4, h5, h6, h7, h8, h9, h10, h11, h12, h13, h14⟩ := h
  have i1 : ix (211 + σ 4 0) = 211 + A := by rw [h2, show (211 : Int32) = nI 211 from rfl, nI_a (by omega), ix_nI (by omega)]
  have i2 : ix (216 + 140 * σ 4 0 + σ 1 (211 + A)) = 216 + 140 * A + ms.length := by
    rw [h2, h6, show (140 * nI A : Int32) = nI (140 * A) from pk_mul 140 A, show (216 : Int32) = nI 216 from rfl, nI_a (by omega), nI_a (by omega), ix_nI (by omega)]
  unfold f_X12_emits
  rw [if_pos h1, i1, i2]
  refine ⟨h1, h2, h3, h4, h5, ?_, ?_, ?_, h9, by simp; omega, h11, h12, fun p w hw => ?_, fun i hi => ?_⟩
  · rw [up2_same, up2_pl (by omega), h6, nI_s (by omega)]; simp
  · rw [up2_pl (by omega), up2_pl (by omega)]; exact h7
  · rw [up2_pl (by omega), up2_pl (by omega)]; exact h8
  · rw [up2_pl (by omega)]
    have hl := (List.getElem?_eq_some_iff.mp hw).1
    rw [List.length_append, List.length_singleton] at hl
    by_cases z : p = ms.length
    · subst z
      rw [up2_same]
      simpa using hw
    · rw [up2_pl (by omega)]
      rw [List.getElem?_append_left (by omega)] at hw
      exact h13 p w hw
  · rw [up2_pl (by omega), up2_pl (by omega)]; exact h14 i hi
theorem next_eq (htx : ∀ i, i < 100 → 0 ≤ (tx i).toInt ∧ (tx i).toInt ≤ 127) (h : QX tx N bo st P xs τ) : f_X1_next τ = if P < N then tx P else 0 := by
  obtain ⟨h1, h2, h3, h4, h5, h6, h7, h8, h9, h10⟩ := h
  unfold f_X1_next
  rw [h1, h2, ix_nI (by omega)]
  by_cases c : P < N
  · rw [if_pos c, if_neg (by rw [ti_le, nI_toInt (by omega), nI_toInt (by omega)]; omega), if_neg (by rw [ti_le, nI_toInt (by omega)]; simp; omega), h10 P (by omega), pk_char]
    obtain ⟨k, hk, e⟩ := nn_nI (htx P (by omega)).1
    have hk' := (htx P (by omega)).2
    rw [e, nI_toInt hk] at hk'
    rw [e, pk_tn (by omega)]
    congr 1
    omega
  · rw [if_neg c, if_pos (by rw [ti_le, nI_toInt (by omega), nI_toInt (by omega)]; omega)]
theorem here_eq (h : MX tx A N bo st P o ms σ) : f_X12_here σ = if P < N then tx P else -1 := by
  obtain ⟨h1, h2, h3, h4, h5, h6, h7, h8, h9, h10, h11, h12, h13, h14⟩ := h
  unfold f_X12_here
  rw [h3, h4]
  by_cases c : P < N
  · rw [if_pos c, if_neg (by rw [ti_le, nI_toInt (by omega), nI_toInt (by omega)]; omega), show (101 : Int32) = nI 101 from rfl, nI_a (by omega), ix_nI (by omega)]
    exact h14 P (by omega)
  · rw [if_neg c, if_pos (by rw [ti_le, nI_toInt (by omega), nI_toInt (by omega)]; omega)]
theorem WX.must (h : WX P σ) (c : Int32) : WX P (f_X12_must σ c) := by
  obtain ⟨h1, h2⟩ := h
  unfold f_X12_must
  rw [h1, if_neg (show ¬ (1 : Int32) = 0 by decide), if_neg (show ¬ (1 : Int32) = 0 by decide), Int32.add_zero]
  exact ⟨by rw [up2_row (by decide), up2_same], by rw [up2_same]; exact h2⟩
theorem WX.emits (h : WX P σ) (c : Int32) : f_X12_emits σ c = σ := by
  unfold f_X12_emits
  rw [h.1, if_neg (show ¬ (1 : Int32) = 0 by decide)]
theorem WX.figures (h : WX P σ) : WX P (f_X12_figures σ).2 := by
  unfold f_X12_figures
  rw [h.1, if_neg (show ¬ (1 : Int32) = 0 by decide)]
  show WX P (f_X12_figures_34 (g_X12_figures_34 2) (up2 σ 7 0 1) 0 0).2
  unfold f_X12_figures_34
  rw [if_neg (by decide), up2_same, if_neg (show ¬ (1 : Int32) = 0 by decide)]
  show WX P (up2 σ 7 0 1)
  exact ⟨up2_same, h.2⟩
theorem WX.fac (h : WX P σ) : ∀ m, FFm m σ = σ
  | 0 => rfl
  | m + 1 => by
    show f_X12_factor (FFm m) σ = σ
    unfold f_X12_factor
    rw [h.1, if_neg (show ¬ (1 : Int32) = 0 by decide)]
theorem WX.every (h : WX P σ) (m : Nat) : f_X12_every (FFm m) σ = σ := by
  unfold f_X12_every bd1
  rw [h.fac]
  show f_X12_every_4 (FFm m) (g_X12_every_4 (FFm m) 100) σ = σ
  unfold f_X12_every_4
  rw [h.1, if_neg (show ¬ (1 : Int32) = 0 by decide)]
theorem WX.some (h : WX P σ) (m : Nat) : f_X12_some (FFm m) σ = σ := by
  unfold f_X12_some bd1
  rw [h.every]
  show f_X12_some_4 (FFm m) (g_X12_some_4 (FFm m) 100) σ = σ
  unfold f_X12_some_4
  rw [h.1, if_neg (show ¬ (1 : Int32) = 0 by decide)]
theorem WX.spells {w : Nat} (h : WX P σ) : ∀ (n : Nat) (σ' : St) (k : Int32), WX P σ' → WX P (g_X12_spells_2 n σ' w k)
  | 0, σ', k, h' => h'
  | n + 1, σ', k, h' => by
    show WX P (f_X12_spells_2 (g_X12_spells_2 n) σ' w k)
    unfold f_X12_spells_2 bd1
    split
    · exact h'
    · exact WX.spells h n _ _ (h'.must _)
/-- one sign that must come -/
theorem must_eq (htx : ∀ i, i < 100 → 0 ≤ (tx i).toInt ∧ (tx i).toInt ≤ 127) (hc : QX tx N bo st P xs τ) (hm : MX tx A N bo st P o ms σ) {c : Int32} (c1 : 1 ≤ c.toInt) : (f_X1_takes τ c = (1, up2 τ 64 0 (τ 64 0 + 1)) ∧ QX tx N bo st (P + 1) xs (up2 τ 64 0 (τ 64 0 + 1)) ∧ MX tx A N bo st (P + 1) o ms (f_X12_must σ c)) ∨ (f_X1_takes τ c = (0, τ) ∧ τ 64 0 = nI P ∧ WX P (f_X12_must σ c)) := by
  have n := next_eq htx hc
  have h := here_eq hm
  unfold f_X1_takes f_X12_must
  rw [n, h, hm.1, if_pos (show (0 : Int32) = 0 from rfl)]
  by_cases p : P < N
  · rw [if_pos p, if_pos p]
    by_cases z : tx P = c
    · left
      rw [if_pos z, if_pos z, if_pos (show (0 : Int32) = 0 from rfl)]
      have q := (hm.w0).adv p
      rw [up2_row (r := 5) (by decide)] at q
      exact ⟨rfl, hc.adv p, q⟩
    · right
      rw [if_neg z, if_neg z, if_neg (show ¬ (1 : Int32) = 0 by decide), Int32.add_zero]
      exact ⟨rfl, hc.2.1, by rw [up2_row (by decide), up2_same], by rw [up2_same]; exact hm.2.2.2.1⟩
  · right
    rw [if_neg p, if_neg p, if_neg (show ¬ (0 : Int32) = c from fun z => by rw [← z] at c1; simp at c1), if_neg (show ¬ (-1 : Int32) = c from fun z => by rw [← z] at c1; simp at c1), if_neg (show ¬ (1 : Int32) = 0 by decide), Int32.add_zero]
    exact ⟨rfl, hc.2.1, by rw [up2_row (by decide), up2_same], by rw [up2_same]; exact hm.2.2.2.1⟩
/-- one sign that may come -/
theorem may_eq (htx : ∀ i, i < 100 → 0 ≤ (tx i).toInt ∧ (tx i).toInt ≤ 127) (hc : QX tx N bo st P xs τ) (hm : MX tx A N bo st P o ms σ) {c : Int32} (c1 : 1 ≤ c.toInt) : (f_X1_takes τ c = (1, up2 τ 64 0 (τ 64 0 + 1)) ∧ f_X1_next τ = c ∧ f_X12_here σ = c ∧ P < N ∧ QX tx N bo st (P + 1) xs (up2 τ 64 0 (τ 64 0 + 1)) ∧ MX tx A N bo st (P + 1) o ms (up2 σ 5 0 (σ 5 0 + 1))) ∨ (f_X1_takes τ c = (0, τ) ∧ ¬ f_X1_next τ = c ∧ ¬ f_X12_here σ = c) := by
  have n := next_eq htx hc
  have h := here_eq hm
  unfold f_X1_takes
  rw [n, h]
  by_cases p : P < N
  · rw [if_pos p, if_pos p]
    by_cases z : tx P = c
    · left
      rw [if_pos z]
      exact ⟨rfl, z, z, p, hc.adv p, hm.adv p⟩
    · right
      rw [if_neg z]
      exact ⟨rfl, z, z⟩
  · right
    have z0 : ¬ (0 : Int32) = c := fun z => by rw [← z] at c1; simp at c1
    have z1 : ¬ (-1 : Int32) = c := fun z => by rw [← z] at c1; simp at c1
    rw [if_neg p, if_neg p, if_neg z0]
    exact ⟨rfl, z0, z1⟩
/-- a number -/
theorem num_eq (htx : ∀ i, i < 100 → 0 ≤ (tx i).toInt ∧ (tx i).toInt ≤ 127) (hc : QX tx N bo st P xs τ) (hm : MX tx A N bo st P o ms σ) : ((f_X1_takesNumber τ).1 = 1 ∧ ∃ d P' : Nat, d < 100 ∧ P + 1 ≤ P' ∧ (f_X12_figures σ).1 = nI d ∧ (f_X1_takesNumber τ).2 65 0 = nI d ∧ QX tx N bo st P' xs (f_X1_takesNumber τ).2 ∧ MX tx A N bo st P' o ms (f_X12_figures σ).2) ∨ (f_X1_takesNumber τ = (0, τ) ∧ τ 64 0 = nI P ∧ WX P (f_X12_figures σ).2) := by
  have n := next_eq htx hc
  have h := here_eq hm
  have bad : ¬ (48 ≤ (f_X12_here σ).toInt ∧ (f_X12_here σ).toInt ≤ 57) → WX P (f_X12_figures σ).2 := by
    intro z
    unfold f_X12_figures
    rw [hm.1, if_pos (show (0 : Int32) = 0 from rfl), if_pos (show f_X12_in (f_X12_here σ) 48 57 = 0 by rw [in_iff]; simpa using z)]
    show WX P (f_X12_figures_34 (g_X12_figures_34 2) (up2 σ 7 0 1) 0 0).2
    unfold f_X12_figures_34
    rw [if_neg (by decide), up2_same, if_neg (show ¬ (1 : Int32) = 0 by decide)]
    show WX P (up2 σ 7 0 1)
    exact ⟨up2_same, hm.2.2.2.1⟩
  by_cases p : P < N
  rotate_left
  · right
    rw [if_neg p] at n h
    refine ⟨?_, hc.2.1, bad (by rw [h]; simp)⟩
    unfold f_X1_takesNumber
    rw [n, if_pos (by decide)]
  rw [if_pos p] at n h
  have b := htx P (by have := hc.2.2.2.2.2.2.2.1; omega)
  by_cases dg : 48 ≤ (tx P).toInt ∧ (tx P).toInt ≤ 57
  rotate_left
  · right
    refine ⟨?_, hc.2.1, bad (by rw [h]; exact dg)⟩
    unfold f_X1_takesNumber
    rw [n]
    have s1 : (tx P - 48).toInt = (tx P).toInt - 48 := by rw [ti_sub (by simp; omega) (by simp; omega)]; rfl
    by_cases z : tx P - 48 < 0
    · rw [if_pos z]
    · rw [if_neg z, if_neg]
      rw [ti_lt, s1] at z
      rw [ti_le, s1]
      simp at z ⊢
      omega
  left
  have s1 : (tx P - 48).toInt = (tx P).toInt - 48 := by rw [ti_sub (by simp; omega) (by simp; omega)]; rfl
  obtain ⟨d, hd, ed⟩ : ∃ d : Nat, d ≤ 9 ∧ tx P - 48 = nI d := by
    obtain ⟨d, hd, e⟩ := nn_nI (a := tx P - 48) (by rw [s1]; omega)
    exact ⟨d, by rw [e, nI_toInt hd] at s1; omega, e⟩
  have td := nI_toInt (show d < 2 ^ 31 by omega)
  -- both have taken the first figure
  have hc1 : QX tx N bo st (P + 1) xs (up2 (up2 τ 65 0 (nI d)) 64 0 (τ 64 0 + 1)) := by
    have q := (hc.num (nI d)).adv p
    rw [up2_row (r := 64) (by decide)] at q
    exact q
  have hm1 : MX tx A N bo st (P + 1) o ms (up2 (up2 σ 7 0 0) 5 0 (σ 5 0 + 1)) := by
    have q := hm.w0.adv p
    rw [up2_row (r := 5) (by decide)] at q
    exact q
  have n1 := next_eq htx hc1
  have h1 := here_eq hm1
  -- the model's loop
  have hr0 : f_X12_here (up2 σ 7 0 0) = tx P := by have := here_eq hm.w0; rw [if_pos p] at this; exact this
  have v1 : (10 * 0 + tx P : Int32) - 48 = nI d := by rw [Int32.mul_zero, Int32.zero_add, ed]
  have f1 : f_X12_figures σ = g_X12_figures_34 2 (up2 (up2 σ 7 0 0) 5 0 (σ 5 0 + 1)) (nI d) (0 + 1) := by
    unfold f_X12_figures
    rw [hm.1, if_pos (show (0 : Int32) = 0 from rfl), if_neg (show ¬ f_X12_in (f_X12_here σ) 48 57 = 0 by rw [in_iff, h]; simp; omega)]
    show f_X12_figures_34 (g_X12_figures_34 2) (up2 σ 7 0 0) 0 0 = _
    unfold f_X12_figures_34 f_X12_figures_68
    rw [if_neg (by decide), up2_same, if_pos rfl, hr0, if_neg (show ¬ f_X12_in (tx P) 48 57 = 0 by rw [in_iff]; simp; omega), if_pos rfl, v1]
    rfl
  have cl1 : f_X1_takesNumber τ = (if nI d ≤ 0 then (1, up2 (up2 τ 65 0 (nI d)) 64 0 (τ 64 0 + 1)) else (if f_X1_next (up2 (up2 τ 65 0 (nI d)) 64 0 (τ 64 0 + 1)) - 48 < 0 then (1, up2 (up2 τ 65 0 (nI d)) 64 0 (τ 64 0 + 1)) else (if 9 < f_X1_next (up2 (up2 τ 65 0 (nI d)) 64 0 (τ 64 0 + 1)) - 48 then (1, up2 (up2 τ 65 0 (nI d)) 64 0 (τ 64 0 + 1)) else (1, up2 (up2 (up2 (up2 τ 65 0 (nI d)) 64 0 (τ 64 0 + 1)) 65 0 (nI d * 10 + (f_X1_next (up2 (up2 τ 65 0 (nI d)) 64 0 (τ 64 0 + 1)) - 48))) 64 0 (τ 64 0 + 1 + 1))))) := by
    unfold f_X1_takesNumber
    rw [n, ed, if_neg (by rw [ti_lt, td]; simp), if_pos (show nI d ≤ 9 by rw [ti_le, td]; simp; omega)]
  have f2 : g_X12_figures_34 2 (up2 (up2 σ 7 0 0) 5 0 (σ 5 0 + 1)) (nI d) (0 + 1) = (if f_X12_in (f_X12_here (up2 (up2 σ 7 0 0) 5 0 (σ 5 0 + 1))) 48 57 = 0 then (nI d, up2 (up2 σ 7 0 0) 5 0 (σ 5 0 + 1)) else (if nI d ≤ 0 then (nI d, up2 (up2 σ 7 0 0) 5 0 (σ 5 0 + 1)) else g_X12_figures_34 1 (up2 (up2 (up2 σ 7 0 0) 5 0 (σ 5 0 + 1)) 5 0 (σ 5 0 + 1 + 1)) ((10 * nI d + f_X12_here (up2 (up2 σ 7 0 0) 5 0 (σ 5 0 + 1))) - 48) (0 + 1 + 1))) := by
    show f_X12_figures_34 (g_X12_figures_34 1) (up2 (up2 σ 7 0 0) 5 0 (σ 5 0 + 1)) (nI d) (0 + 1) = _
    unfold f_X12_figures_34 f_X12_figures_68
    rw [if_neg (by decide), show (up2 (up2 σ 7 0 0) 5 0 (σ 5 0 + 1)) 7 0 = 0 from rfl, if_pos rfl, if_neg (show ¬ (0 + 1 : Int32) = 0 by decide), up2_same]
  have f3 : ∀ (u : St) (v : Int32), g_X12_figures_34 1 u v (0 + 1 + 1) = (v, u) := fun u v => by
    show f_X12_figures_34 (g_X12_figures_34 0) u v (0 + 1 + 1) = (v, u)
    unfold f_X12_figures_34
    rw [if_pos (by decide)]
  have one : f_X1_takesNumber τ = (1, up2 (up2 τ 65 0 (nI d)) 64 0 (τ 64 0 + 1)) → f_X12_figures σ = (nI d, up2 (up2 σ 7 0 0) 5 0 (σ 5 0 + 1)) → ((f_X1_takesNumber τ).1 = 1 ∧ ∃ d P' : Nat, d < 100 ∧ P + 1 ≤ P' ∧ (f_X12_figures σ).1 = nI d ∧ (f_X1_takesNumber τ).2 65 0 = nI d ∧ QX tx N bo st P' xs (f_X1_takesNumber τ).2 ∧ MX tx A N bo st P' o ms (f_X12_figures σ).2) := by
    intro e1 e2
    rw [e1, e2]
    dsimp only
    exact ⟨rfl, d, P + 1, by omega, Nat.le_refl _, rfl, by rw [up2_row (by decide), up2_same], hc1, hm1⟩
  by_cases p1 : P + 1 < N
  rotate_left
  · rw [if_neg p1] at n1 h1
    apply one
    · rw [cl1, n1]
      split
      · rfl
      · rw [if_pos (by decide)]
    · rw [f1, f2, h1, if_pos (by decide)]
  rw [if_pos p1] at n1 h1
  have b1 := htx (P + 1) (by have := hc.2.2.2.2.2.2.2.1; omega)
  have s2 : (tx (P + 1) - 48).toInt = (tx (P + 1)).toInt - 48 := by rw [ti_sub (by simp; omega) (by simp; omega)]; rfl
  by_cases dg2 : 48 ≤ (tx (P + 1)).toInt ∧ (tx (P + 1)).toInt ≤ 57
  rotate_left
  · apply one
    · rw [cl1, n1]
      by_cases z0 : nI d ≤ 0
      · rw [if_pos z0]
      rw [if_neg z0]
      by_cases z : tx (P + 1) - 48 < 0
      · rw [if_pos z]
      · rw [if_neg z, if_pos]
        rw [ti_lt, s2] at z ⊢
        simp at z ⊢
        omega
    · rw [f1, f2, h1, if_pos (show f_X12_in (tx (P + 1)) 48 57 = 0 by rw [in_iff]; simpa using dg2)]
  by_cases z0 : nI d ≤ 0
  · apply one
    · rw [cl1, if_pos z0]
    · rw [f1, f2, h1, if_neg (show ¬ f_X12_in (tx (P + 1)) 48 57 = 0 by rw [in_iff]; simp; omega), if_pos z0]
  obtain ⟨d2, hd2, ed2⟩ : ∃ d2 : Nat, d2 ≤ 9 ∧ tx (P + 1) - 48 = nI d2 := by
    obtain ⟨d2, hd, e⟩ := nn_nI (a := tx (P + 1) - 48) (by rw [s2]; omega)
    exact ⟨d2, by rw [e, nI_toInt hd] at s2; omega, e⟩
  have td2 := nI_toInt (show d2 < 2 ^ 31 by omega)
  have e1 : f_X1_takesNumber τ = (1, up2 (up2 (up2 (up2 τ 65 0 (nI d)) 64 0 (τ 64 0 + 1)) 65 0 (nI (d * 10 + d2))) 64 0 (τ 64 0 + 1 + 1)) := by
    rw [cl1, n1, if_neg z0, ed2, if_neg (by rw [ti_lt, td2]; simp), if_neg (by rw [ti_lt, td2]; simp; omega), show (nI d * 10 : Int32) = nI (d * 10) from pk_mul d 10, nI_a (by omega)]
  have vv : (10 * nI d + tx (P + 1) : Int32) - 48 = nI (d * 10 + d2) := by
    rw [Int32.sub_eq_add_neg, Int32.add_assoc, ← Int32.sub_eq_add_neg, ed2, show (10 * nI d : Int32) = nI (10 * d) from pk_mul 10 d, nI_a (by omega), Nat.mul_comm]
  have e2 : f_X12_figures σ = (nI (d * 10 + d2), up2 (up2 (up2 σ 7 0 0) 5 0 (σ 5 0 + 1)) 5 0 (σ 5 0 + 1 + 1)) := by
    rw [f1, f2, h1, if_neg (show ¬ f_X12_in (tx (P + 1)) 48 57 = 0 by rw [in_iff]; simp; omega), if_neg z0, f3, vv]
  rw [e1, e2]
  dsimp only
  refine ⟨rfl, d * 10 + d2, P + 1 + 1, by omega, by omega, rfl, by rw [up2_row (by decide), up2_same], ?_, ?_⟩
  · have q := (hc1.num (nI (d * 10 + d2))).adv p1
    rw [up2_row (r := 64) (k := 65) (by decide), up2_same] at q
    exact q
  · have q := hm1.adv p1
    rw [up2_same] at q
    exact q
end SYNC
