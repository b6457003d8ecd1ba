/-! THE TWO SIDES TOGETHER: image, undo -/
theorem cpy_lt {f g : Nat → Int32} {n i : Nat} (h : i < n) : va_cpy f g 0 0 n i = f i := by
  rw [pk_cpy_in (by omega) (by omega)]
  congr 1
  omega
theorem bc40_pm {τ : St} {k i j : Nat} (h : PM k i j) : f_bc40 τ (40 + k) i = τ (20 + k) i := by
  unfold PM at h
  rcases h with ⟨rfl, rfl, rfl⟩ | ⟨rfl, rfl, rfl⟩ | ⟨rfl, rfl, rfl⟩ | ⟨rfl, rfl, rfl⟩ | ⟨rfl, rfl, rfl⟩ | ⟨rfl, rfl, rfl⟩ | ⟨rfl, rfl, rfl⟩ | ⟨rfl, rfl, rfl⟩ | ⟨rfl, hi, rfl⟩ | ⟨rfl, hi, rfl⟩ | ⟨rfl, hi, rfl⟩ | ⟨rfl, hi, rfl⟩ | ⟨rfl, hi, rfl⟩ | ⟨rfl, hi, rfl⟩ | ⟨rfl, hi, rfl⟩ | ⟨rfl, hi, rfl⟩
  · rfl
  · rfl
  · rfl
  · rfl
  · rfl
  · rfl
  · rfl
  · rfl
  · show va_cpy (τ 26) (τ 46) 0 0 6 i = _; exact cpy_lt hi
  · show va_cpy (τ 27) (τ 47) 0 0 6 i = _; exact cpy_lt hi
  · show va_cpy (τ 30) (τ 50) 0 0 8 i = _; exact cpy_lt hi
  · show va_cpy (τ 31) (τ 51) 0 0 8 i = _; exact cpy_lt hi
  · show va_cpy (τ 33) (τ 53) 0 0 6 i = _; exact cpy_lt hi
  · show va_cpy (τ 35) (τ 55) 0 0 8 i = _; exact cpy_lt hi
  · show va_cpy (τ 36) (τ 56) 0 0 8 i = _; exact cpy_lt hi
  · show va_cpy (τ 20) (τ 40) 0 0 100 i = _; exact cpy_lt hi
theorem bc20_pm {τ : St} {k i j : Nat} (h : PM k i j) : f_bc20 τ (20 + k) i = τ (40 + k) i := by
  unfold PM at h
  rcases h with ⟨rfl, rfl, rfl⟩ | ⟨rfl, rfl, rfl⟩ | ⟨rfl, rfl, rfl⟩ | ⟨rfl, rfl, rfl⟩ | ⟨rfl, rfl, rfl⟩ | ⟨rfl, rfl, rfl⟩ | ⟨rfl, rfl, rfl⟩ | ⟨rfl, rfl, rfl⟩ | ⟨rfl, hi, rfl⟩ | ⟨rfl, hi, rfl⟩ | ⟨rfl, hi, rfl⟩ | ⟨rfl, hi, rfl⟩ | ⟨rfl, hi, rfl⟩ | ⟨rfl, hi, rfl⟩ | ⟨rfl, hi, rfl⟩ | ⟨rfl, hi, rfl⟩
  · rfl
  · rfl
  · rfl
  · rfl
  · rfl
  · rfl
  · rfl
  · rfl
  · show va_cpy (τ 46) (τ 26) 0 0 6 i = _; exact cpy_lt hi
  · show va_cpy (τ 47) (τ 27) 0 0 6 i = _; exact cpy_lt hi
  · show va_cpy (τ 50) (τ 30) 0 0 8 i = _; exact cpy_lt hi
  · show va_cpy (τ 51) (τ 31) 0 0 8 i = _; exact cpy_lt hi
  · show va_cpy (τ 53) (τ 33) 0 0 6 i = _; exact cpy_lt hi
  · show va_cpy (τ 55) (τ 35) 0 0 8 i = _; exact cpy_lt hi
  · show va_cpy (τ 56) (τ 36) 0 0 8 i = _; exact cpy_lt hi
  · show va_cpy (τ 40) (τ 20) 0 0 100 i = _; exact cpy_lt hi
theorem upC_ne {σ : St} {k r : Nat} {f : Nat → Int32} (h : r ≠ k) : upC σ k f r = σ r := by
  simp only [upC]
  rw [if_neg h]
theorem bc40_off {τ : St} {r : Nat} (h : r < 40 ∨ 57 < r) : f_bc40 τ r = τ r := by
  unfold f_bc40
  rw [up2_row (by omega), upC_ne (by omega), upC_ne (by omega), up2_row (by omega), upC_ne (by omega), up2_row (by omega), upC_ne (by omega), upC_ne (by omega), up2_row (by omega), up2_row (by omega), upC_ne (by omega), upC_ne (by omega), up2_row (by omega), up2_row (by omega), up2_row (by omega), upC_ne (by omega)]
theorem bc20_off {τ : St} {r : Nat} (h : r < 20 ∨ 37 < r) : f_bc20 τ r = τ r := by
  unfold f_bc20
  rw [up2_row (by omega), upC_ne (by omega), upC_ne (by omega), up2_row (by omega), upC_ne (by omega), up2_row (by omega), upC_ne (by omega), upC_ne (by omega), up2_row (by omega), up2_row (by omega), upC_ne (by omega), upC_ne (by omega), up2_row (by omega), up2_row (by omega), up2_row (by omega), upC_ne (by omega)]
section CALLS8
variable {ρ : RR} {dt : Nat → Nat → Int32} {τ σ : St}
theorem im_loop : ∀ (n k : Nat) (σ' : St), k ≤ 916 → k + n ≥ 917 → (∀ r, r ≠ 2 → σ' r = σ r) → (∀ j, j < k → σ' 2 j = σ 1 j) → ∃ u : St, (∀ r, r ≠ 2 → u r = σ r) ∧ (∀ j, j < 916 → u 2 j = σ 1 j) ∧ g_X12_image_2 n σ' (nI k) = (σ 1 0, up2 u 3 0 1)
  | 0, k, σ', k1, k2, o, fl => by exfalso; omega
  | n + 1, k, σ', k1, k2, o, fl => by
    have s1 : g_X12_image_2 (n + 1) σ' (nI k) = f_X12_image_2 (g_X12_image_2 n) σ' (nI k) := rfl
    rw [s1]
    unfold f_X12_image_2
    rw [o 1 (by decide)]
    by_cases c : (916 : Int32) ≤ nI k
    · rw [if_pos c]
      rw [ti_le, nI_toInt (by omega)] at c
      simp at c
      exact ⟨σ', o, fun j hj => fl j (by omega), rfl⟩
    · rw [if_neg c, ix_nI (by omega), nI_s (by omega)]
      rw [ti_le, nI_toInt (by omega)] at c
      simp at c
      exact im_loop n (k + 1) _ (by omega) (by omega) (fun r hr => by rw [up2_row hr, o r hr]) (fun j hj => by
        by_cases z : j = k
        · subst z; exact up2_same
        · rw [up2_pl z]; exact fl j (by omega))
theorem un_loop : ∀ (n k : Nat) (σ' : St), k ≤ 916 → k + n ≥ 917 → (∀ r, r ≠ 1 → σ' r = σ r) → (∀ j, j < k → σ' 1 j = σ 2 j) → ∃ u : St, (∀ r, r ≠ 1 → u r = σ r) ∧ (∀ j, j < 916 → u 1 j = σ 2 j) ∧ g_X12_undo_12 n σ' (nI k) = (u 1 0, u)
  | 0, k, σ', k1, k2, o, fl => by exfalso; omega
  | n + 1, k, σ', k1, k2, o, fl => by
    have s1 : g_X12_undo_12 (n + 1) σ' (nI k) = f_X12_undo_12 (g_X12_undo_12 n) σ' (nI k) := rfl
    rw [s1]
    unfold f_X12_undo_12
    rw [o 2 (by decide)]
    by_cases c : (916 : Int32) ≤ nI k
    · rw [if_pos c]
      rw [ti_le, nI_toInt (by omega)] at c
      simp at c
      exact ⟨σ', o, fun j hj => fl j (by omega), rfl⟩
    · rw [if_neg c, ix_nI (by omega), nI_s (by omega)]
      rw [ti_le, nI_toInt (by omega)] at c
      simp at c
      exact un_loop n (k + 1) _ (by omega) (by omega) (fun r hr => by rw [up2_row hr, o r hr]) (fun j hj => by
        by_cases z : j = k
        · subst z; exact up2_same
        · rw [up2_pl z]; exact fl j (by omega))
theorem image_ok (h : RLL ρ dt τ σ) {v : Int32} {u : X3} (hu : f_X11_image (ρ, dt, τ) v u) : v = (f_X12_image σ).1 ∧ RLL u.1 u.2.1 u.2.2 (f_X12_image σ).2 := by
  obtain ⟨⟨n1, k1, b1, v1⟩, _, g, e3, e4⟩ := id h
  obtain ⟨rfl, rfl⟩ := hu
  obtain ⟨w, w1, w2, w3⟩ := im_loop (σ := σ) 917 0 σ (by omega) (by omega) (fun _ _ => rfl) (fun j hj => by omega)
  have e : f_X12_image σ = (σ 1 0, up2 w 3 0 1) := w3
  rw [e]
  dsimp only
  have b0 := b1.1
  refine ⟨by rw [bc40_off (by omega)]; exact n1.n0, ⟨?_, ?_, ?_, ?_⟩, ⟨?_, Or.inr ⟨?_, ?_, ?_, ?_, ?_⟩⟩, ⟨?_, ?_, ?_⟩, ?_, ?_⟩
  · rw [up2_row (r := 1) (by decide), w1 1 (by decide)]
    exact n1.kx (fun k h1 h2 => by rw [up2_row (by omega), bc40_off (by omega)])
  · rw [up2_row (r := 1) (by decide), w1 1 (by decide)]
    refine ⟨fun i hi => ?_, ?_⟩
    · obtain ⟨a, r1, r2⟩ := k1.1 i hi
      refine ⟨a, ?_, r2⟩
      show r_bc40 ρ 24 i = some a
      unfold r_bc40
      rw [upR_ne (by decide), upR_ne (by decide)]; exact r1
    · show HD (r_bc40 ρ 22 0) _ _
      unfold r_bc40
      rw [upR_ne (by decide), upR_ne (by decide)]; exact k1.2
  · rw [up2_row (r := 1) (by decide), w1 1 (by decide)]; exact b1
  · rw [up2_row (r := 1) (by decide), w1 1 (by decide)]; exact v1
  · rw [up2_same, up2_same]
  · rw [up2_same]
  · rw [up2_row (r := 2) (by decide), RN_iff]
    intro k i j hp
    have q := (RN_iff.mp n1) k i j hp
    rw [up2_row (by omega), bc40_pm hp, q, w2 j (by unfold PM at hp; omega)]
  · rw [up2_row (r := 2) (by decide)]
    refine ⟨fun i hi => ?_, ?_⟩
    · rw [w2 0 (by decide)] at hi
      obtain ⟨a, r1, r2⟩ := k1.1 i hi
      refine ⟨a, ?_, r2.cg (by omega) rfl (fun j _ _ => w2 j (by omega))⟩
      show r_bc40 ρ 44 i = some a
      unfold r_bc40 mixO
      rw [upR_eq, if_pos (by omega)]; exact r1
    · show HD (r_bc40 ρ 42 0) _ _
      unfold r_bc40
      rw [upR_ne (by decide), upR_eq]
      exact k1.2.cg (w2 7 (by decide)) (fun j _ h2 => w2 j h2) (fun _ _ => rfl)
  · rw [up2_row (r := 2) (by decide)]; exact b1.cg w2
  · rw [up2_row (r := 2) (by decide)]; exact ⟨v1.1.cg b1 (w2 7 (by decide)) (fun j _ h2 => w2 j h2), fun j hj => by rw [w2 _ (by omega)]; exact v1.2 j hj⟩
  · rw [up2_row (r := 81) (by decide), bc40_off (by omega), up2_row (r := 25) (by decide), w1 25 (by decide)]; exact g.1
  · rw [up2_row (r := 25) (by decide), w1 25 (by decide)]; exact g.2.1
  · rw [up2_row (r := 80) (by decide), bc40_off (by omega), up2_row (r := 24) (by decide), w1 24 (by decide)]; exact g.2.2
  · rw [up2_row (r := 65) (by decide), bc40_off (by omega)]; exact e3
  · rw [up2_row (r := 65) (by decide), bc40_off (by omega)]; exact e4
theorem undo_ok (h : RLL ρ dt τ σ) {v : Int32} {u : X3} (hu : f_X11_undo (ρ, dt, τ) v u) : v = (f_X12_undo σ).1 ∧ RLL u.1 u.2.1 u.2.2 (f_X12_undo σ).2 := by
  obtain ⟨⟨n1, k1, b1, v1⟩, ⟨f1, f2⟩, g, e3, e4⟩ := id h
  unfold f_X12_undo
  rcases hu with ⟨c, rfl, rfl⟩ | ⟨c, rfl, rfl⟩
  · have c' : τ 2 0 = 0 := c
    rw [if_pos (by rw [← f1]; exact c')]
    exact ⟨rfl, h⟩
  have c' : ¬ τ 2 0 = 0 := c
  rw [if_neg (by rw [← f1]; exact c')]
  rcases f2 with f2 | ⟨f2, m1, m2, m3, m4⟩
  · exact absurd (f1.trans f2) c'
  obtain ⟨w, w1, w2, w3⟩ := un_loop (σ := σ) 917 0 σ (by omega) (by omega) (fun _ _ => rfl) (fun j hj => by omega)
  have e : g_X12_undo_12 917 σ 0 = (w 1 0, w) := w3
  rw [e]
  dsimp only
  have b0 := m3.1
  refine ⟨?_, ⟨?_, ?_, ?_, ?_⟩, ⟨?_, Or.inr ⟨?_, ?_, ?_, ?_, ?_⟩⟩, ⟨?_, ?_, ?_⟩, ?_, ?_⟩
  · rw [w2 0 (by decide)]; exact (bc20_pm PM.n0).trans m1.n0
  · rw [RN_iff]
    intro k i j hp
    have q := (RN_iff.mp m1) k i j hp
    rw [bc20_pm hp, q, w2 j (by unfold PM at hp; omega)]
  · refine ⟨fun i hi => ?_, ?_⟩
    · rw [w2 0 (by decide)] at hi
      obtain ⟨a, r1, r2⟩ := m2.1 i hi
      refine ⟨a, ?_, r2.cg (by omega) rfl (fun j _ _ => w2 j (by omega))⟩
      show r_bc20 ρ 24 i = some a
      unfold r_bc20 mixO
      rw [upR_eq, if_pos (by omega)]; exact r1
    · show HD (r_bc20 ρ 22 0) _ _
      unfold r_bc20
      rw [upR_ne (by decide), upR_eq]
      exact m2.2.cg (w2 7 (by decide)) (fun j _ h2 => w2 j h2) (fun _ _ => rfl)
  · exact m3.cg w2
  · exact ⟨m4.1.cg m3 (w2 7 (by decide)) (fun j _ h2 => w2 j h2), fun j hj => by rw [w2 _ (by omega)]; exact m4.2 j hj⟩
  · rw [bc20_off (by omega), w1 3 (by decide)]; exact f1
  · rw [w1 3 (by decide)]; exact f2
  · rw [w1 2 (by decide)]
    exact m1.kx (fun k h1 h2 => bc20_off (by omega))
  · rw [w1 2 (by decide)]
    refine ⟨fun i hi => ?_, ?_⟩
    · obtain ⟨a, r1, r2⟩ := m2.1 i hi
      refine ⟨a, ?_, r2⟩
      show r_bc20 ρ 44 i = some a
      unfold r_bc20
      rw [upR_ne (by decide), upR_ne (by decide)]; exact r1
    · show HD (r_bc20 ρ 42 0) _ _
      unfold r_bc20
      rw [upR_ne (by decide), upR_ne (by decide)]; exact m2.2
  · rw [w1 2 (by decide)]; exact m3
  · rw [w1 2 (by decide)]; exact m4
  · rw [bc20_off (by omega), w1 25 (by decide)]; exact g.1
  · rw [w1 25 (by decide)]; exact g.2.1
  · rw [bc20_off (by omega), w1 24 (by decide)]; exact g.2.2
  · rw [bc20_off (by omega)]; exact e3
  · rw [bc20_off (by omega)]; exact e4
end CALLS8
