/-! THE TWO SIDES TOGETHER: sticks, rooms, the whole relation; calls that read -/
abbrev EE : Type := (Nat → Int32) → Bool
def tst (w h v : Nat) : EE := fun b => if h = 0 then decide (b w < nI v) else if h = 1 then decide (b w = nI v) else decide (nI v < b w)
/-- e is what the component's words x and the model's steps m mean; k tests are in it -/
def CMP (e : EE) (x m : List Int32) (k : Nat) : Prop := ∀ P : EE → List Int32 → List Int32 → Nat → Prop,
  (∀ w h v, w < 6 → h < 3 → v < 100 → P (tst w h v) [nI (((w * 3 + h) * 100 + v) * 8)] [nI (w + 8 * h + 32 * v)] 1) →
  (∀ e x m k, P e x m k → P (fun b => !e b) (x ++ [1]) (m ++ [-1]) k) →
  (∀ e x m k, P e x m k → P e x (m ++ [-1, -1]) k) →
  (∀ e x m k e' x' m' k', P e x m k → P e' x' m' k' → P (fun b => e b && e' b) (x ++ x' ++ [2]) (m ++ m' ++ [-2]) (k + k')) →
  (∀ e x m k e' x' m' k', P e x m k → P e' x' m' k' → P (fun b => e b || e' b) (x ++ x' ++ [3]) (m ++ m' ++ [-3]) (k + k')) → P e x m k
/-- a clause that stays: is it off, its E, its n, what codes it -/
abbrev CR : Type := Bool × EE × Nat × List Int32 × List Int32
def okC (c : CR) : Prop := c.2.2.1 < 100 ∧ ∃ k, k ≤ 33 ∧ CMP c.2.1 c.2.2.2.1 c.2.2.2.2 k
def xw : List CR → List Int32
  | [] => []
  | c :: cs => c.2.2.2.1 ++ nI (c.2.2.1 * 8 + if c.1 then 4 else 5) :: xw cs
def mw : List CR → List Int32
  | [] => []
  | c :: cs => c.2.2.2.2 ++ ((if c.1 then -10 else -200) - nI c.2.2.1) :: mw cs
def RMC (d f : Nat → Int32) (r : Nat) : Prop := ∃ cs : List CR, (∀ c ∈ cs, okC c) ∧ (xw cs).length ≤ 100 ∧ (mw cs).length ≤ 140 ∧ d 2 = nI (xw cs).length ∧ f (211 + r) = nI (mw cs).length ∧
  (∀ i v, (xw cs)[i]? = some v → d (3 + i) = v) ∧ ∀ i v, (mw cs)[i]? = some v → f (216 + 140 * r + i) = v
/-- the room that stays is the model's -/
def HD (o : Option Nat) (dt : Nat → Nat → Int32) (f : Nat → Int32) : Prop := (o = none ∧ f 7 = -1) ∨ ∃ a r, o = some a ∧ r < 5 ∧ f 7 = nI r ∧ dt a 0 = f (201 + r) ∧ dt a 1 = f (206 + r) ∧ RMC (dt a) f r
def RK (b : Nat) (ρ : RR) (dt : Nat → Nat → Int32) (f : Nat → Int32) : Prop := (∀ i : Nat, (i : Int) < (f 0).toInt → ∃ a, ρ (b + 4) i = some a ∧ SD (dt a) f i) ∧ HD (ρ (b + 2) 0) dt f
theorem RK.lr {b : Nat} {ρ : RR} {dt : Nat → Nat → Int32} {f f' : Nat → Int32} (h : RK b ρ dt f) (hl : LR f f') (hI : IB f) : RK b ρ dt f' := by
  have e0 := hl 0 (by omega)
  have e7 := hl 7 (by omega)
  refine ⟨fun i hi => ?_, ?_⟩
  · rw [e0] at hi
    obtain ⟨a, h1, s0, s1, s2, s3, s4⟩ := h.1 i hi
    have b0 := hI.1
    refine ⟨a, h1, s0, ?_, ?_, ?_, fun c j hj => ?_⟩
    · rw [hl _ (by omega)]; exact s1
    · rw [hl _ (by omega)]; exact s2
    · rw [hl _ (by omega)]; exact s3
    · rw [hl _ (by omega)]; exact s4 c j hj
  · rcases h.2 with ⟨h1, h2⟩ | ⟨a, r, h1, hr, h2, h3, h4, cs, k1, k2, k3, k4, k5, k6, k7⟩
    · exact Or.inl ⟨h1, by rw [e7]; exact h2⟩
    · refine Or.inr ⟨a, r, h1, hr, by rw [e7]; exact h2, by rw [hl _ (by omega)]; exact h3, by rw [hl _ (by omega)]; exact h4, cs, k1, k2, k3, k4, by rw [hl _ (by omega)]; exact k5, k6, fun i v hv => ?_⟩
      rw [hl _ (by omega)]
      exact k7 i v hv
def HVT (f : Nat → Int32) : Prop := HV f ∧ TP f
/-- THE RELATION: what stands between two calls -/
def RLL (ρ : RR) (dt : Nat → Nat → Int32) (τ σ : St) : Prop := (RN 20 τ (σ 1) ∧ RK 20 ρ dt (σ 1) ∧ IB (σ 1) ∧ HVT (σ 1)) ∧ (τ 2 0 = σ 3 0 ∧ (σ 3 0 = 0 ∨ (σ 3 0 = 1 ∧ RN 40 τ (σ 2) ∧ RK 40 ρ dt (σ 2) ∧ IB (σ 2) ∧ HVT (σ 2)))) ∧ (τ 81 0 = σ 25 0 ∧ 0 ≤ (σ 25 0).toInt ∧ ∀ i, i < 20 → τ 80 i = σ 24 i) ∧ 0 ≤ (τ 65 0).toInt ∧ (τ 65 0).toInt ≤ 99
theorem RN.kx {b : Nat} {τ τ' : St} {f : Nat → Int32} (h : RN b τ f) (hk : ∀ k, b ≤ k → k ≤ b + 17 → τ' k = τ k) : RN b τ' f := by
  rw [RN_iff] at h ⊢
  intro k i j hp
  rw [hk (b + k) (by omega) (by unfold PM at hp; omega)]
  exact h k i j hp
theorem cv_lr {f f' : Nat → Int32} : ∀ (n i t : Nat), (∀ j, i ≤ j → f' j = f j) → cv f n i t → cv f' n i t
  | 0, _, _, _, _ => trivial
  | n + 1, i, t, h, c => by
    unfold cv at c ⊢
    rw [h i (Nat.le_refl i)]
    have h' : ∀ j, i + 1 ≤ j → f' j = f j := fun j hj => h j (by omega)
    split
    · rw [if_pos (by assumption)] at c
      split
      · rw [if_pos (by assumption)] at c
        exact ⟨c.1, cv_lr n _ _ h' c.2⟩
      · rw [if_neg (by assumption)] at c
        split
        · rw [if_pos (by assumption)] at c
          exact cv_lr n _ _ h' c
        · rw [if_neg (by assumption)] at c
          exact ⟨c.1, cv_lr n _ _ h' c.2⟩
    · rw [if_neg (by assumption)] at c
      exact ⟨c.1, c.2.1, cv_lr n _ _ h' c.2.2⟩
theorem hold_ix {f : Nat → Int32} (hI : IB f) (h7 : ¬ f 7 = -1) : ∃ r : Nat, r < 5 ∧ (f 7).toInt = r ∧ f 7 = nI r := by
  have b7 := hI.2.2.2.2.2.2.2.1
  have b2 := hI.2.2.1
  have n7 : ¬ (f 7).toInt = -1 := fun c => h7 (by rw [← Int32.toInt_inj, c]; rfl)
  obtain ⟨r, hr, er⟩ := nn_nI (a := f 7) (by omega)
  rw [er, nI_toInt hr] at b7
  exact ⟨r, by omega, by rw [er, nI_toInt hr], er⟩
theorem HV.lr {f f' : Nat → Int32} (h : HV f) (hl : LR f f') (hI : IB f) : HV f' := by
  unfold HV at h ⊢
  rw [hl 7 (by omega)]
  by_cases c : f 7 = -1
  · exact Or.inl c
  obtain ⟨r, hr, t7, e7⟩ := hold_ix hI c
  rcases h with h | h
  · exact absurd h c
  right
  have i1 : ix (211 + f 7) = 211 + r := by rw [ixS (n := 211) rfl (by omega) (by decide) (by omega)]; have := ti_ix (i := f 7) (by omega); omega
  have m1 : (140 * f 7).toInt = 140 * r := by rw [ti_mul (by rw [t7]; simp; omega) (by rw [t7]; simp; omega), t7]; rfl
  have i2 : ix (216 + 140 * f 7) = 216 + 140 * r := by rw [ixS (n := 216) rfl (by omega) (by decide) (by omega)]; have := ti_ix (i := 140 * f 7) (by omega); omega
  rw [i1, i2] at h ⊢
  rw [hl _ (by omega)]
  exact cv_lr _ _ _ (fun j hj => hl j (by omega)) h
theorem RLL.q1 {ρ : RR} {dt : Nat → Nat → Int32} {τ σ : St} {r q : Int32 × St} (h : RLL ρ dt τ σ) (c : Q1 τ σ r q) : r.1 = q.1 ∧ RLL ρ dt r.2 q.2 := by
  obtain ⟨⟨n1, k1, b1, v1⟩, ⟨f1, f2⟩, ⟨g1, g2, g3⟩, e1, e2⟩ := h
  obtain ⟨c1, c2, c3, c4, c5, c6, c7⟩ := c
  refine ⟨c1, ⟨c2, k1.lr c4 b1, c3, v1.1.lr c4 b1, c7 v1.2⟩, ⟨?_, ?_⟩, ⟨?_, ?_, ?_⟩, ?_, ?_⟩
  · rw [c5 2 (by omega), c6 3 (by omega)]; exact f1
  · rw [c6 3 (by omega), c6 2 (by omega)]
    rcases f2 with f2 | ⟨f2, f3, f4⟩
    · exact Or.inl f2
    · exact Or.inr ⟨f2, f3.kx (fun k h1 h2 => c5 k (by omega)), f4⟩
  · rw [c5 81 (by omega), c6 25 (by omega)]; exact g1
  · rw [c6 25 (by omega)]; exact g2
  · rw [c5 80 (by omega), c6 24 (by omega)]; exact g3
  · rw [c5 65 (by omega)]; exact e1
  · rw [c5 65 (by omega)]; exact e2
section CALLS2
variable {ρ : RR} {dt : Nat → Nat → Int32} {τ σ : St}
theorem q_trace (h : RLL ρ dt τ σ) (a : Int32) : f_X11_trace τ a = f_X12_trace σ a := by
  obtain ⟨_, _, ⟨g1, g2, g3⟩, _⟩ := h
  unfold f_X11_trace f_X12_trace
  rw [g1]
  have e : ((if 20 ≤ σ 25 0 then 20 else σ 25 0) - 1 : Int32).toInt = (if 20 ≤ (σ 25 0).toInt then 20 else (σ 25 0).toInt) - 1 := by
    by_cases c : 20 ≤ (σ 25 0).toInt
    · rw [if_pos (show (20 : Int32) ≤ σ 25 0 from ti_le.mpr c), if_pos c]; rfl
    · rw [if_neg (show ¬ (20 : Int32) ≤ σ 25 0 from fun z => c (ti_le.mp z)), if_neg c, ti_sub (by simp; omega) (by simp; omega)]; rfl
  simp only [in_iff, e]
  simp only [ti_lt, ti_le, Int32.reduceToInt]
  (repeat' split) <;> first | (exfalso; omega) | rfl | (exact g3 _ (ix_lt (by omega) (by omega)))
theorem q_count (h : RLL ρ dt τ σ) (a : Int32) : f_X11_count τ a = f_X12_count σ a := by
  obtain ⟨⟨n, _⟩, _, ⟨g1, _⟩, _⟩ := h
  unfold f_X11_count f_X12_count
  by_cases c0 : a = 0
  · subst c0; exact n.n0
  by_cases c1 : a = 1
  · subst c1; exact n.n1
  by_cases c2 : a = 2
  · subst c2; exact n.n2
  by_cases c3 : a = 3
  · subst c3; exact n.n3
  by_cases c4 : a = 4
  · subst c4; exact n.n4
  by_cases c5 : a = 5
  · subst c5; exact n.n5
  by_cases c6 : a = 6
  · subst c6; exact n.n6
  by_cases c7 : a = 7
  · subst c7; exact g1
  rw [if_neg c0, if_neg c1, if_neg c2, if_neg c3, if_neg c4, if_neg c5, if_neg c6, if_neg c7, if_neg c7, if_pos]
  rw [in_iff]
  intro z
  simp only [ti_eq, Int32.reduceToInt] at *
  omega
theorem hd_board (h : RLL ρ dt τ σ) : f_X5_board ρ dt τ = f_X12_tellsOf σ 201 40 := by
  obtain ⟨⟨_, ⟨_, k⟩, b, _⟩, _⟩ := h
  unfold f_X5_board f_X12_tellsOf
  rcases k with ⟨h1, h2⟩ | ⟨a, r, h1, hr, h2, h3, h4, _⟩
  · rw [if_pos h1, if_pos h2]
  · have t7 : (nI r).toInt = r := ti_nI (by omega)
    have i1 : ix (201 + nI r) = 201 + r := by rw [ixS (n := 201) rfl (by omega) (by decide) (by omega)]; have := ti_ix (i := nI r) (by omega); omega
    rw [if_neg (by rw [h1]; simp), if_neg (by rw [h2, ti_eq, t7]; simp), h1, h2, i1]
    exact h3
theorem hd_step (h : RLL ρ dt τ σ) : f_X5_perStep ρ dt τ = f_X12_tellsOf σ 206 1 := by
  obtain ⟨⟨_, ⟨_, k⟩, b, _⟩, _⟩ := h
  unfold f_X5_perStep f_X12_tellsOf
  rcases k with ⟨h1, h2⟩ | ⟨a, r, h1, hr, h2, h3, h4, _⟩
  · rw [if_pos h1, if_pos h2]
  · have t7 : (nI r).toInt = r := ti_nI (by omega)
    have i1 : ix (206 + nI r) = 206 + r := by rw [ixS (n := 206) rfl (by omega) (by decide) (by omega)]; have := ti_ix (i := nI r) (by omega); omega
    rw [if_neg (by rw [h1]; simp), if_neg (by rw [h2, ti_eq, t7]; simp), h1, h2, i1]
    exact h4
theorem q_told (h : RLL ρ dt τ σ) (a : Int32) : f_X11_told ρ dt τ a = f_X12_told σ a := by
  have n : τ 29 0 = σ 1 8 := h.1.1.n8
  unfold f_X11_told f_X12_told
  rw [hd_board h, hd_step h, n]
end CALLS2
