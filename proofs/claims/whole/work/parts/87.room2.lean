/-! THE TWO SIDES TOGETHER: a call of room -/
theorem IB.roomed {f f' : Nat → Int32} (hI : IB f) (e : ∀ i, i < 201 → i ≠ 2 → i ≠ 6 → i ≠ 7 → f' i = f i) (e6 : f' 6 = 0) (e201 : ∀ i, i < 5 → 0 ≤ (f' (201 + i)).toInt ∧ (f' (201 + i)).toInt ≤ 99) (e206 : ∀ i, i < 5 → 0 ≤ (f' (206 + i)).toInt ∧ (f' (206 + i)).toInt ≤ 99) (e211 : ∀ i, i < 5 → 0 ≤ (f' (211 + i)).toInt ∧ (f' (211 + i)).toInt ≤ 140) (e2 : 0 ≤ (f' 2).toInt ∧ (f' 2).toInt ≤ 5) (e7 : -1 ≤ (f' 7).toInt ∧ (f' 7).toInt < (f' 2).toInt) : IB f' := by
  obtain ⟨h1, h2, h3, h4, h5, h6, h7, h8, h9, h10, h11, h12, h13, h14, h15, h16, h17, h18, h19, h20, h21, h22⟩ := hI
  have e3 : f' 3 = f 3 := e 3 (by decide) (by decide) (by decide) (by decide)
  have e4 : f' 4 = f 4 := e 4 (by decide) (by decide) (by decide) (by decide)
  have e5 : f' 5 = f 5 := e 5 (by decide) (by decide) (by decide) (by decide)
  have e1 : f' 1 = f 1 := e 1 (by decide) (by decide) (by decide) (by decide)
  refine ⟨?_, ?_, e2, ?_, ?_, ?_, ?_, e7, ?_, ?_, ?_, ?_, ?_, ?_, ?_, ?_, ?_, ?_, ?_, e201, e206, e211⟩
  · rw [e 0 (by decide) (by decide) (by decide) (by decide)]; exact h1
  · rw [e1]; exact h2
  · rw [e3]; exact h4
  · rw [e4]; exact h5
  · rw [e5]; exact h6
  · rw [e6]; decide
  · rw [e 8 (by decide) (by decide) (by decide) (by decide)]; exact h9
  · intro i hi; rw [e _ (by omega) (by omega) (by omega) (by omega)]; exact h10 i hi
  · intro i hi; rw [e _ (by omega) (by omega) (by omega) (by omega)]; exact h11 i hi
  · intro i hi; rw [e _ (by omega) (by omega) (by omega) (by omega)]; exact h12 i hi
  · intro i hi; rw [e _ (by omega) (by omega) (by omega) (by omega)]; exact h13 i hi
  · intro i hi; rw [e _ (by omega) (by omega) (by omega) (by omega), e _ (by omega) (by omega) (by omega) (by omega)]; exact h14 i hi
  · intro i hi; rw [e _ (by omega) (by omega) (by omega) (by omega)]; exact h15 i hi
  · intro i hi; rw [e3] at hi; rw [e _ (by omega) (by omega) (by omega) (by omega)]; exact h16 i hi
  · intro i hi; rw [e4] at hi; rw [e _ (by omega) (by omega) (by omega) (by omega)]; exact h17 i hi
  · intro i hi; rw [e5] at hi; rw [e _ (by omega) (by omega) (by omega) (by omega), e1]; exact h18 i hi
  · intro i hi; rw [e5] at hi; rw [e _ (by omega) (by omega) (by omega) (by omega)]; exact h19 i hi
theorem RMC.at {d f f' : Nat → Int32} {r : Nat} (h : RMC d f r) (e1 : f' (211 + r) = f (211 + r)) (e2 : ∀ i, i < 140 → f' (216 + 140 * r + i) = f (216 + 140 * r + i)) : RMC d f' r := by
  obtain ⟨cs, k1, k2, k3, k4, k5, k6, k7⟩ := h
  refine ⟨cs, k1, k2, k3, k4, by rw [e1]; exact k5, k6, fun i v hv => ?_⟩
  have := (List.getElem?_eq_some_iff.mp hv).1
  rw [e2 i (by omega)]
  exact k7 i v hv
theorem HD.at {o : Option Nat} {dt : Nat → Nat → Int32} {f f' : Nat → Int32} {A : Nat} (h : HD o dt f) (e7 : f' 7 = f 7) (h7 : (f 7).toInt < A) (e : ∀ r, r < A → r < 5 → f' (201 + r) = f (201 + r) ∧ f' (206 + r) = f (206 + r) ∧ f' (211 + r) = f (211 + r) ∧ ∀ i, i < 140 → f' (216 + 140 * r + i) = f (216 + 140 * r + i)) : HD o dt f' := by
  rcases h with ⟨h1, h2⟩ | ⟨a, r, h1, hr, h2, h3, h4, h5⟩
  · exact Or.inl ⟨h1, by rw [e7]; exact h2⟩
  · rw [h2, nI_toInt (by omega)] at h7
    obtain ⟨q1, q2, q3, q4⟩ := e r (by omega) hr
    exact Or.inr ⟨a, r, h1, hr, by rw [e7]; exact h2, by rw [q1]; exact h3, by rw [q2]; exact h4, h5.at q3 q4⟩
section CALLS9
variable {ρ : RR} {dt : Nat → Nat → Int32} {τ σ : St}
theorem room_def (σ : St) (h : ¬ σ 1 2 = 5) : f_X12_room σ = g_X12_room_106 11 (f_X12_clauseHere (rop σ)) (nI (0 + 1)) := by
  unfold f_X12_room
  rw [if_neg h]
  rfl
/-- what the model's row is behind a reading -/
theorem read_row {σ2 : St} {A : Nat} (hI : IB (σ 1)) (h5 : ¬ σ 1 2 = 5) (eA : σ 1 2 = nI A) (hA : A < 5) (lq : LQ (rop σ) σ2) :
    (∀ i, i ≠ 6 → i ≠ 201 + A → i ≠ 206 + A → i ≠ 211 + A → (i < 216 + 140 * A ∨ 216 + 140 * A + 140 ≤ i) → σ2 1 i = σ 1 i) ∧ σ2 1 6 = 0 ∧ (0 ≤ (σ2 1 (201 + A)).toInt ∧ (σ2 1 (201 + A)).toInt ≤ 99) ∧ (0 ≤ (σ2 1 (206 + A)).toInt ∧ (σ2 1 (206 + A)).toInt ≤ 99) ∧ (0 ≤ (σ2 1 (211 + A)).toInt ∧ (σ2 1 (211 + A)).toInt ≤ 140) ∧ (∀ k, k ≠ 1 → k ≠ 4 → k ≠ 5 → k ≠ 6 → k ≠ 7 → k ≠ 8 → σ2 k = σ k) ∧ σ2 4 0 = nI A ∧ σ2 6 0 = σ 1 6 := by
  have tA := nI_toInt (show A < 2 ^ 31 by omega)
  have b2 := hI.2.2.1
  have hr := fun i => rop_1 (σ := σ) (by rw [eA, tA]; omega) (by rw [eA, tA]; omega) i
  have tn : (σ 1 2).toInt.toNat = A := by rw [eA, tA]; omega
  rw [tn] at hr
  have rq := rop_q hI h5
  obtain ⟨l1, l2, l3, l4, l5, l6, l7, l8⟩ := lq
  have a0 : ac (rop σ) = A := by
    unfold ac
    rw [show rop σ 4 0 = σ 1 2 from rfl, tn]
  have m0 : mn (rop σ) = 0 := by
    unfold mn
    rw [a0, hr, if_pos rfl]
    rfl
  have s4 : σ2 4 0 = nI A := by rw [l1 4 (by decide) (by decide) (by decide) (by decide)]; exact eA
  have a2 : ac σ2 = A := by
    unfold ac
    rw [s4, tA]
    omega
  have br := l8 rq.2
  unfold BR at br
  rw [a2] at br
  obtain ⟨o1, o2, o3, o4, o5, o6, o7, o8⟩ := l3
  unfold mn at o6 o7
  rw [a2] at o6 o7
  rw [a0, m0] at l7
  refine ⟨fun i j1 j2 j3 j4 j5 => ?_, ?_, ⟨br.1, br.2.1⟩, ⟨br.2.2.1, br.2.2.2⟩, ⟨o6, by omega⟩, fun k j1 j2 j3 j4 j5 j6 => ?_, s4, ?_⟩
  · rw [l7 i j4 j2 j3 (by omega), hr, if_neg j4, if_neg j3, if_neg j2, if_neg j1]
  · rw [l7 6 (by omega) (by omega) (by omega) (by omega), hr, if_neg (by omega), if_neg (by omega), if_neg (by omega), if_pos rfl]
  · rw [l1 k j1 j3 j5 j6, rop_o k j1 j2 j3 j4 j5 j6]
  · rw [l1 6 (by decide) (by decide) (by decide) (by decide)]; rfl
theorem room_ok (h : RLL ρ dt τ σ) {g : GG} {h0 : Nat} (hf : FR ρ h0) {v : Int32} {u : X3} (hu : f_X11_room g h0 (ρ, dt, τ) v u) : v = (f_X12_room σ).1 ∧ RLL u.1 u.2.1 u.2.2 (f_X12_room σ).2 := by
  obtain ⟨⟨n1, k1, b1, v1⟩, ⟨f1, f2⟩, ⟨g1, g2, g3⟩, e3, e4⟩ := id h
  have b2 := b1.2.2.1
  have b6 := b1.2.2.2.2.2.2.1
  have b7 := b1.2.2.2.2.2.2.2.1
  have b0 := b1.1
  have r2 : τ 23 0 = σ 1 2 := n1.n2
  have r6 : τ 21 0 = σ 1 6 := n1.n6
  unfold f_X11_room at hu
  dsimp only at hu
  by_cases c5 : σ 1 2 = 5
  · have d5 : (5 : Int32) ≤ τ 23 0 := by rw [r2, c5]; decide
    unfold f_X12_room
    rw [if_pos c5]
    rcases hu with ⟨_, rfl, rfl⟩ | ⟨c, _⟩ | ⟨c, _⟩
    · exact ⟨rfl, h⟩
    · exact absurd d5 c
    · exact absurd d5 c
  obtain ⟨A, hA', eA⟩ := nn_nI b2.1
  obtain ⟨N, hN', eN⟩ := nn_nI b6.1
  have tA := nI_toInt hA'
  have tN := nI_toInt hN'
  have A5 : A < 5 := by
    have q : ¬ (σ 1 2).toInt = 5 := fun z => c5 (by rw [← Int32.toInt_inj, z]; rfl)
    rw [eA, tA] at q b2
    omega
  have N100 : N ≤ 100 := by rw [eN, tN] at b6; omega
  have d5 : ¬ (5 : Int32) ≤ τ 23 0 := by rw [r2, eA, ti_le, tA]; simp; omega
  rw [room_def σ c5]
  have ed : f_X1_read τ (τ 21 0) = g_X1_read_33 11 (rd0 τ (τ 21 0)) (nI 0) := rfl
  have rq := rop_q b1 c5
  have htx : ∀ i, i < 100 → 0 ≤ ((fun i => σ 1 (101 + i)) i).toInt ∧ ((fun i => σ 1 (101 + i)) i).toInt ≤ 127 := v1.2
  have hQ : QX (fun i => σ 1 (101 + i)) N 40 1 0 (xw []) (rd0 τ (τ 21 0)) := by
    refine ⟨?_, rfl, rfl, rfl, rfl, Nat.le_refl 0, Nat.zero_le _, N100, fun p v hv => by simp [xw] at hv, fun i hi => ?_⟩
    · show τ 21 0 = nI N
      rw [r6, eN]
    · exact n1.tp i hi
  have hr := fun i => rop_1 (σ := σ) b2.1 (by rw [eA, tA]; omega) i
  have tn : (σ 1 2).toInt.toNat = A := by rw [eA, tA]; omega
  rw [tn] at hr
  have hM : MX (fun i => σ 1 (101 + i)) A N 40 1 0 0 (mw []) (rop σ) := by
    refine ⟨rfl, eA, eN, rfl, rfl, ?_, ?_, ?_, A5, Nat.le_refl 0, Nat.zero_le _, N100, fun p v hv => by simp [mw] at hv, fun i hi => ?_⟩
    · rw [hr, if_pos rfl]; rfl
    · rw [hr, if_neg (by omega), if_neg (by omega), if_pos rfl]
    · rw [hr, if_neg (by omega), if_pos rfl]
    · rw [hr, if_neg (by omega), if_neg (by omega), if_neg (by omega), if_neg (by omega)]
  have hRC : RC (rd0 τ (τ 21 0)) := by
    refine ⟨?_, ?_, ?_, ?_, ?_, e3, e4⟩
    · show 0 ≤ (0 : Int32).toInt; decide
    · show (0 : Int32).toInt ≤ (τ 21 0).toInt; rw [r6, show (0 : Int32).toInt = 0 from rfl]; exact b6.1
    · show (τ 21 0).toInt ≤ 100; rw [r6]; exact b6.2
    · show 0 ≤ (0 : Int32).toInt; decide
    · show (0 : Int32).toInt ≤ 100; decide
  obtain ⟨σ2, i1, i2, i3, i4⟩ := rd_loop htx 11 0 0 40 1 [] _ _ (by omega) (by omega) hQ hM (fun c hc => by simp at hc) hRC rq.1
  rw [i1]
  rw [ed] at hu
  generalize g_X1_read_33 11 (rd0 τ (τ 21 0)) (nI 0) = R at hu i3 i4
  obtain ⟨R1, R2⟩ := R
  dsimp only at hu i3 i4
  obtain ⟨w1, w2, w3, w4, w5, w6, w7, w8⟩ := read_row b1 c5 eA A5 i2
  obtain ⟨q1, q2, q3, q4, q5⟩ := i3
  have qx : ∀ k, k < 60 ∨ 67 < k → R2 k = τ k := fun k hk => by
    rw [q1 k (by omega) (by omega) (by omega) (by omega) (by omega) (by omega)]
    unfold rd0
    rw [up2_row (by omega), up2_row (by omega), up2_row (by omega), up2_row (by omega), up2_row (by omega)]
  have h65 : 0 ≤ (R2 65 0).toInt ∧ (R2 65 0).toInt ≤ 99 := q2.2.2.2.2.2
  have w2' : σ2 2 = σ 2 := w6 2 (by decide) (by decide) (by decide) (by decide) (by decide) (by decide)
  have w3' : σ2 3 = σ 3 := w6 3 (by decide) (by decide) (by decide) (by decide) (by decide) (by decide)
  have w24 : σ2 24 = σ 24 := w6 24 (by decide) (by decide) (by decide) (by decide) (by decide) (by decide)
  have w25 : σ2 25 = σ 25 := w6 25 (by decide) (by decide) (by decide) (by decide) (by decide) (by decide)
  have e201 : ∀ i, i < 5 → 0 ≤ (σ2 1 (201 + i)).toInt ∧ (σ2 1 (201 + i)).toInt ≤ 99 := fun i hi => by
    by_cases z : i = A
    · rw [z]; exact w3
    · rw [w1 _ (by omega) (by omega) (by omega) (by omega) (by omega)]
      exact b1.2.2.2.2.2.2.2.2.2.2.2.2.2.2.2.2.2.2.2.1 i hi
  have e206 : ∀ i, i < 5 → 0 ≤ (σ2 1 (206 + i)).toInt ∧ (σ2 1 (206 + i)).toInt ≤ 99 := fun i hi => by
    by_cases z : i = A
    · rw [z]; exact w4
    · rw [w1 _ (by omega) (by omega) (by omega) (by omega) (by omega)]
      exact b1.2.2.2.2.2.2.2.2.2.2.2.2.2.2.2.2.2.2.2.2.1 i hi
  have e211 : ∀ i, i < 5 → 0 ≤ (σ2 1 (211 + i)).toInt ∧ (σ2 1 (211 + i)).toInt ≤ 140 := fun i hi => by
    by_cases z : i = A
    · rw [z]; exact w5
    · rw [w1 _ (by omega) (by omega) (by omega) (by omega) (by omega)]
      exact b1.2.2.2.2.2.2.2.2.2.2.2.2.2.2.2.2.2.2.2.2.2 i hi
  have w1l : ∀ i, i < 201 → i ≠ 6 → σ2 1 i = σ 1 i := fun i hi h6 => w1 i h6 (by omega) (by omega) (by omega) (by omega)
  rcases hu with ⟨c, _⟩ | ⟨_, c, rfl, rfl⟩ | ⟨_, c, a, ha, rfl, rfl⟩
  · exact absurd c d5
  · -- not read
    rcases i4 with ⟨z, _⟩ | ⟨_, z2, z3⟩
    · rw [c] at z; exact absurd z (by decide)
    have em : f_X12_room_148 σ2 = (-10 - σ2 5 0, σ2) := by
      unfold f_X12_room_148
      by_cases y1 : σ2 7 0 = 0
      · rw [if_pos y1, if_neg (fun y2 => z3 ⟨y1, y2⟩)]
      · rw [if_neg y1]
    rw [em]
    have hI' : IB (σ2 1) := b1.roomed (fun i j1 j2 j3 j4 => w1l i j1 j3) w2 e201 e206 e211 (by rw [w1l 2 (by decide) (by decide)]; exact b2) (by rw [w1l 2 (by decide) (by decide), w1l 7 (by decide) (by decide)]; exact b7)
    have hd' : HD (ρ 22 0) dt (σ2 1) := k1.2.at (A := A) (w1l 7 (by decide) (by decide)) (by rw [← tA, ← eA]; exact b7.2) (fun r h1 h2 => ⟨w1 _ (by omega) (by omega) (by omega) (by omega) (by omega), w1 _ (by omega) (by omega) (by omega) (by omega) (by omega), w1 _ (by omega) (by omega) (by omega) (by omega) (by omega), fun i hi => w1 _ (by omega) (by omega) (by omega) (by omega) (by omega)⟩)
    refine ⟨by show -10 - R2 64 0 = -10 - σ2 5 0; rw [z2], ?_⟩
    show RLL (upR ρ 62 (fun _ => some (g.2.2 20))) dt (up2 R2 21 0 0) σ2
    refine ⟨⟨?_, ⟨fun i hi => ?_, ?_⟩, hI', hd'.hv, fun i hi => by rw [w1l _ (by omega) (by omega)]; exact v1.2 i hi⟩, ⟨?_, ?_⟩, ⟨?_, ?_, ?_⟩, ?_, ?_⟩
    · rw [RN_iff]
      intro k i j hp
      by_cases y : k = 1
      · have : i = 0 ∧ j = 6 := by unfold PM at hp; omega
        obtain ⟨rfl, rfl⟩ := this
        subst y
        rw [w2]
        exact up2_same
      · rw [up2_row (by omega), qx _ (by unfold PM at hp; omega), w1l j (by unfold PM at hp; omega) (by unfold PM at hp; omega)]
        exact RN_iff.mp n1 k i j hp
    · rw [w1l 0 (by decide) (by decide)] at hi
      obtain ⟨a', r1, sd⟩ := k1.1 i hi
      exact ⟨a', by rw [upR_ne (by decide)]; exact r1, sd.cg (by omega) rfl (fun j h1 h2 => w1l j (by omega) (by omega))⟩
    · show HD (upR ρ 62 (fun _ => some (g.2.2 20)) 22 0) dt (σ2 1)
      rw [upR_ne (by decide)]; exact hd'
    · rw [up2_row (by decide), qx 2 (by decide), w3']; exact f1
    · rw [w3', w2']
      rcases f2 with f2 | ⟨f2, f3, f4, f5, f6⟩
      · exact Or.inl f2
      · refine Or.inr ⟨f2, f3.kx (fun k h1 h2 => ?_), kept_cg f5 f4 (upR_ne (by decide)) (upR_ne (by decide)) (fun _ _ => rfl), f5, f6⟩
        rw [up2_row (by omega), qx k (by omega)]
    · rw [up2_row (by decide), qx 81 (by decide), w25]; exact g1
    · rw [w25]; exact g2
    · rw [up2_row (by decide), qx 80 (by decide), w24]; exact g3
    · rw [up2_row (by decide)]; exact h65.1
    · rw [up2_row (by decide)]; exact h65.2
  · -- read
    rcases i4 with ⟨_, cs, bo, st, x1, x2, x3⟩ | ⟨z, _⟩
    rotate_left
    · exact absurd z c
    have em : f_X12_room_148 σ2 = (σ2 4 0, up2 (up2 σ2 1 2 (σ2 1 2 + 1)) 1 7 (σ2 4 0)) := by
      unfold f_X12_room_148
      rw [if_pos x2.1, if_pos (by rw [x2.2.2.2.1, x2.2.2.1])]
    rw [em, w7, w1l 2 (by decide) (by decide), eA, nI_s (by omega)]
    obtain ⟨y1, y2, y3, y4, y5, y6, y7, y8, y9, y10⟩ := x1
    obtain ⟨m1, m2, m3, m4, m5, m6, m7, m8, m9, m10, m11, m12, m13, m14⟩ := x2
    have qn : ∀ a', ((∃ i, ρ 24 i = some a') ∨ (∃ i, ρ 44 i = some a') ∨ ρ 22 0 = some a' ∨ ρ 42 0 = some a') → a' ≠ a := fun a' h' => by have := hf a' h'; omega
    have R23 : R2 23 0 = nI A := by rw [qx 23 (by decide), r2, eA]
    refine ⟨by rw [R23, nI_s (by omega)]; exact nI_p, ?_⟩
    rw [R23, nI_s (by omega)]
    generalize hS : up2 (up2 σ2 1 2 (nI (A + 1))) 1 7 (nI A) = S
    have So : ∀ r, r ≠ 1 → S r = σ2 r := fun r hr => by rw [← hS]; rw [up2_row hr, up2_row hr]
    have S7 : S 1 7 = nI A := by rw [← hS]; exact up2_same
    have S2 : S 1 2 = nI (A + 1) := by rw [← hS, up2_pl (by decide)]; exact up2_same
    have Sk : ∀ j, j ≠ 2 → j ≠ 7 → S 1 j = σ2 1 j := fun j j1 j2 => by rw [← hS, up2_pl j2, up2_pl j1]
    have hI' : IB (S 1) := b1.roomed (fun i j1 j2 j3 j4 => by rw [Sk i j2 j4]; exact w1l i j1 j3) (by rw [Sk 6 (by decide) (by decide)]; exact w2) (fun i hi => by rw [Sk _ (by omega) (by omega)]; exact e201 i hi) (fun i hi => by rw [Sk _ (by omega) (by omega)]; exact e206 i hi) (fun i hi => by rw [Sk _ (by omega) (by omega)]; exact e211 i hi) (by rw [S2, nI_toInt (by omega)]; omega) (by rw [S2, S7, nI_toInt (by omega), nI_toInt (by omega)]; omega)
    have hd' : HD (some a) (upD dt a (dR R2)) (S 1) := by
      refine Or.inr ⟨a, A, rfl, A5, S7, ?_, ?_, cs, x3, by omega, by omega, ?_, ?_, fun i v hv => ?_, fun i v hv => ?_⟩
      · rw [upD_eq, Sk _ (by omega) (by omega), m7]; exact y4
      · rw [upD_eq, Sk _ (by omega) (by omega), m8]; exact y5
      · rw [upD_eq]; exact y3
      · rw [Sk _ (by omega) (by omega)]; exact m6
      · rw [upD_eq, Nat.add_comm]; exact y9 i v hv
      · rw [Sk _ (by omega) (by omega)]; exact m13 i v hv
    show RLL (upR (upR ρ 62 (fun _ => some (g.2.2 20))) 22 (fun _ => some a)) (upD dt a (dR R2)) (up2 (up2 R2 21 0 0) 23 0 (nI (A + 1))) S
    refine ⟨⟨?_, ⟨fun i hi => ?_, ?_⟩, hI', hd'.hv, fun i hi => by rw [Sk _ (by omega) (by omega), w1l _ (by omega) (by omega)]; exact v1.2 i hi⟩, ⟨?_, ?_⟩, ⟨?_, ?_, ?_⟩, ?_, ?_⟩
    · rw [RN_iff]
      intro k i j hp
      by_cases y : k = 1
      · have : i = 0 ∧ j = 6 := by unfold PM at hp; omega
        obtain ⟨rfl, rfl⟩ := this
        subst y
        rw [Sk 6 (by decide) (by decide), w2, up2_row (by decide)]
        exact up2_same
      · by_cases y' : k = 3
        · have : i = 0 ∧ j = 2 := by unfold PM at hp; omega
          obtain ⟨rfl, rfl⟩ := this
          subst y'
          rw [S2]
          exact up2_same
        · have j7 : j ≠ 2 ∧ j ≠ 7 ∧ j ≠ 6 ∧ j < 201 := by unfold PM at hp; omega
          rw [up2_row (by omega), up2_row (by omega), qx _ (by unfold PM at hp; omega), Sk j j7.1 j7.2.1, w1l j j7.2.2.2 j7.2.2.1]
          exact RN_iff.mp n1 k i j hp
    · rw [Sk 0 (by decide) (by decide), w1l 0 (by decide) (by decide)] at hi
      obtain ⟨a', r1, sd⟩ := k1.1 i hi
      exact ⟨a', by rw [upR_ne (by decide), upR_ne (by decide)]; exact r1, sd.cg (by omega) (upD_ne (qn a' (Or.inl ⟨i, r1⟩))) (fun j h1 h2 => by rw [Sk j (by omega) (by omega)]; exact w1l j (by omega) (by omega))⟩
    · show HD (upR (upR ρ 62 (fun _ => some (g.2.2 20))) 22 (fun _ => some a) 22 0) _ _
      rw [upR_eq]; exact hd'
    · rw [up2_row (by decide), up2_row (by decide), qx 2 (by decide), So 3 (by decide), w3']; exact f1
    · rw [So 3 (by decide), So 2 (by decide), w3', w2']
      rcases f2 with f2 | ⟨f2, f3, f4, f5, f6⟩
      · exact Or.inl f2
      · refine Or.inr ⟨f2, f3.kx (fun k h1 h2 => ?_), kept_cg f5 f4 (by rw [upR_ne (by decide), upR_ne (by decide)]) (by rw [upR_ne (by decide), upR_ne (by decide)]) (fun a' ha => upD_ne (qn a' (by rcases ha with ha | ha; exact Or.inr (Or.inl ha); exact Or.inr (Or.inr (Or.inr ha))))), f5, f6⟩
        rw [up2_row (by omega), up2_row (by omega), qx k (by omega)]
    · rw [up2_row (by decide), up2_row (by decide), qx 81 (by decide), So 25 (by decide), w25]; exact g1
    · rw [So 25 (by decide), w25]; exact g2
    · rw [up2_row (by decide), up2_row (by decide), qx 80 (by decide), So 24 (by decide), w24]; exact g3
    · rw [up2_row (by decide), up2_row (by decide)]; exact h65.1
    · rw [up2_row (by decide), up2_row (by decide)]; exact h65.2
end CALLS9
