/-! THE TWO SIDES TOGETHER: twice -/
theorem nI_a {a b : Nat} (h : a + b < 1000000) : nI a + nI b = nI (a + b) := by
  rw [ti_eq, ti_add (by rw [nI_toInt (by omega), nI_toInt (by omega)]; omega) (by rw [nI_toInt (by omega), nI_toInt (by omega)]; omega), nI_toInt (by omega), nI_toInt (by omega), nI_toInt (by omega)]
  omega
section TWICE
variable {ρ : RR} {dt : Nat → Nat → Int32} {τ σ : St}
def MW (ρ : RR) (dt : Nat → Nat → Int32) (τ : St) (w : Int32) (k : Nat) : Int32 := f_X5_middle ρ dt τ (rf (f_X5_stickAt ρ τ (nI (k / 10)))) w (nI (k % 10))
def SW (ρ : RR) (dt : Nat → Nat → Int32) (τ : St) (w : Int32) (k : Nat) : Int32 := nI (k % 10) * f_X5_slack ρ dt τ (rf (f_X5_stickAt ρ τ (nI (k / 10)))) w (nI (k % 10))
theorem tm_in {w : Int32} {i : Nat} (hi : i < 6) {K2 : St → Int32 → Int32 → St} : ∀ (n j : Nat) (τ' : St), OX τ τ' → j ≤ 10 → j + n ≥ 11 → (∀ k, k < 10 * i + j → τ' 6 k = MW ρ dt τ w k ∧ τ' 7 k = SW ρ dt τ w k) → ∃ u : St, OX τ u ∧ (∀ k, k < 10 * i + 10 → u 6 k = MW ρ dt τ w k ∧ u 7 k = SW ρ dt τ w k) ∧ g_X11_tellMiddles_25 ρ dt K2 n τ' w (nI i) (rf (f_X5_stickAt ρ τ (nI i))) (nI j) = K2 u w (nI (i + 1))
  | 0, j, τ', ox, j1, jn, fl => by exfalso; omega
  | n + 1, j, τ', ox, j1, jn, fl => by
    have s1 : g_X11_tellMiddles_25 ρ dt K2 (n + 1) τ' w (nI i) (rf (f_X5_stickAt ρ τ (nI i))) (nI j) = f_X11_tellMiddles_25 ρ dt K2 (g_X11_tellMiddles_25 ρ dt K2 n) τ' w (nI i) (rf (f_X5_stickAt ρ τ (nI i))) (nI j) := rfl
    rw [s1]
    unfold f_X11_tellMiddles_25 f_X11_tellMiddles_91
    by_cases k : (10 : Int32) ≤ nI j
    · rw [if_pos k, nI_s (by omega)]
      rw [ti_le, nI_toInt (by omega)] at k
      simp at k
      have e : j = 10 := by omega
      subst e
      exact ⟨τ', ox, fl, rfl⟩
    · rw [if_neg k, nI_s (by omega)]
      rw [ti_le, nI_toInt (by omega)] at k
      simp at k
      have ii : ix (nI i * 10 + nI j) = 10 * i + j := by
        rw [show (10 : Int32) = nI 10 from rfl, pk_mul, nI_a (by omega), ix_nI (by omega)]
        omega
      rw [ii]
      refine tm_in hi n (j + 1) _ (fun k hk => ?_) (by omega) (by omega) (fun q hq => ?_)
      · rw [up2_row (by omega), up2_row (by omega)]; exact ox k hk
      · by_cases e : q = 10 * i + j
        · subst e
          have d1 : (10 * i + j) / 10 = i := by omega
          have d2 : (10 * i + j) % 10 = j := by omega
          constructor
          · rw [up2_row (by decide), up2_same]
            unfold MW
            rw [d1, d2]
            rfl
          · rw [up2_same]
            unfold SW
            rw [d1, d2]
            rfl
        · obtain ⟨f1, f2⟩ := fl q (by omega)
          constructor
          · rw [up2_row (by decide), up2_pl e]; exact f1
          · rw [up2_pl e, up2_row (by decide)]; exact f2
theorem tm_out (h : RN 20 τ (σ 1)) (hI : IB (σ 1)) {w : Int32} {N : Nat} (hN : σ 1 0 = nI N) (hN6 : N ≤ 6) : ∀ (n i : Nat) (τ' : St), OX τ τ' → i ≤ N → i + n ≥ N + 1 → (∀ k, k < 10 * i → τ' 6 k = MW ρ dt τ w k ∧ τ' 7 k = SW ρ dt τ w k) → ∃ u : St, OX τ u ∧ (∀ k, k < 10 * N → u 6 k = MW ρ dt τ w k ∧ u 7 k = SW ρ dt τ w k) ∧ g_X11_tellMiddles_2 ρ dt n τ' w (nI i) = u
  | 0, i, τ', ox, i1, i2, fl => by exfalso; omega
  | n + 1, i, τ', ox, i1, i2, fl => by
    have s1 : g_X11_tellMiddles_2 ρ dt (n + 1) τ' w (nI i) = f_X11_tellMiddles_2 ρ dt (g_X11_tellMiddles_2 ρ dt n) τ' w (nI i) := rfl
    rw [s1]
    unfold f_X11_tellMiddles_2
    have e : τ' 25 0 = nI N := by rw [ox 25 (by omega), ← hN]; exact h.n0
    rw [e]
    by_cases k : nI N ≤ nI i
    · rw [if_pos k]
      rw [ti_le, nI_toInt (by omega), nI_toInt (by omega)] at k
      have : i = N := by omega
      subst this
      exact ⟨τ', ox, fl, rfl⟩
    · rw [if_neg k]
      rw [ti_le, nI_toInt (by omega), nI_toInt (by omega)] at k
      have es : f_X5_stickAt ρ τ' (nI i) = f_X5_stickAt ρ τ (nI i) := by unfold f_X5_stickAt; rw [ox 25 (by omega)]
      rw [es]
      obtain ⟨u, u1, u2, u3⟩ := tm_in (ρ := ρ) (dt := dt) (τ := τ) (w := w) (i := i) (by omega) (K2 := g_X11_tellMiddles_2 ρ dt n) 11 0 τ' ox (by omega) (by omega) fl
      rw [show (0 : Int32) = nI 0 from rfl, u3]
      exact tm_out h hI hN hN6 n (i + 1) u u1 (by omega) (by omega) (fun k hk => u2 k (by omega))
theorem tw_fill (h : RN 20 τ (σ 1)) (hK : RK 20 ρ dt (σ 1)) (hI : IB (σ 1)) {w l q : Int32} {N : Nat} (hN : σ 1 0 = nI N) (hN6 : N ≤ 6) : ∀ (n k : Nat) (σ' : St), OM σ σ' → k ≤ 10 * N → k + n ≥ 10 * N + 1 → (∀ j, j < k → σ' 17 j = MW ρ dt τ w j ∧ σ' 18 j = SW ρ dt τ w j) → ∃ u : St, OM σ u ∧ (∀ j, j < 10 * N → u 17 j = MW ρ dt τ w j ∧ u 18 j = SW ρ dt τ w j) ∧ g_X12_twice_47 n σ' w l q (nI (10 * N)) (nI k) = g_X12_twice_106 7 u l q (nI (10 * N)) 0
  | 0, k, σ', om, k1, k2, fl => by exfalso; omega
  | n + 1, k, σ', om, k1, k2, fl => by
    have s1 : g_X12_twice_47 (n + 1) σ' w l q (nI (10 * N)) (nI k) = f_X12_twice_47 (g_X12_twice_47 n) σ' w l q (nI (10 * N)) (nI k) := rfl
    rw [s1]
    unfold f_X12_twice_47 bd1
    dsimp only
    by_cases c : nI (10 * N) ≤ nI k
    · rw [if_pos c]
      rw [ti_le, nI_toInt (by omega), nI_toInt (by omega)] at c
      have : k = 10 * N := by omega
      subst this
      exact ⟨σ', om, fl, rfl⟩
    · rw [if_neg c]
      rw [ti_le, nI_toInt (by omega), nI_toInt (by omega)] at c
      have d1 : nI k / 10 = nI (k / 10) := by rw [show (10 : Int32) = nI 10 from rfl, pk_div (by omega) (by omega) (by omega)]
      have d2 : nI k - nI k / 10 * 10 = nI (k % 10) := by rw [show (10 : Int32) = nI 10 from rfl, pk_rem (by omega) (by omega) (by omega)]
      rw [d2, d1, ix_nI (by omega), nI_s (by omega)]
      obtain ⟨m1, m2, m3, _, _⟩ := sets_at h hK hI (σ1 := σ') (om 1 (by omega)) (x := nI (k / 10)) (by rw [nI_toInt (by omega)]; omega) (by rw [hN, nI_toInt (by omega), nI_toInt (by omega)]; omega) w (nI (k % 10)) (by rw [nI_toInt (by omega)]; omega)
      generalize f_X12_sets σ' (nI (k / 10)) w (nI (k % 10)) = u at *
      rw [m2, m3]
      refine tw_fill h hK hI hN hN6 n (k + 1) _ (fun r hr => ?_) (by omega) (by omega) (fun j hj => ?_)
      · rw [up2_row (by omega), up2_row (by omega), m1 r (by omega)]; exact om r hr
      · by_cases e : j = k
        · subst e
          constructor
          · rw [up2_row (by decide), up2_same]; rfl
          · rw [up2_same, Int32.mul_comm]; rfl
        · obtain ⟨f1, f2⟩ := fl j (by omega)
          constructor
          · rw [up2_row (by decide), up2_pl e, m1 17 (by omega)]; exact f1
          · rw [up2_pl e, up2_row (by decide), m1 18 (by omega)]; exact f2
theorem tw_init {l q m : Int32} : ∀ (n j : Nat) (σ' : St), j ≤ 6 → j + n ≥ 7 → (∀ i, i < j → σ' 19 i = -5) → ∃ u : St, (∀ r, r ≠ 19 → u r = σ' r) ∧ (∀ i, i < 6 → u 19 i = -5) ∧ g_X12_twice_106 n σ' l q m (nI j) = g_X12_twice_131 61 u l q m 0
  | 0, j, σ', j1, j2, fl => by exfalso; omega
  | n + 1, j, σ', j1, j2, fl => by
    have s1 : g_X12_twice_106 (n + 1) σ' l q m (nI j) = f_X12_twice_106 (g_X12_twice_106 n) σ' l q m (nI j) := rfl
    rw [s1]
    unfold f_X12_twice_106
    by_cases c : (6 : Int32) ≤ nI j
    · rw [if_pos c]
      rw [ti_le, nI_toInt (by omega)] at c
      simp at c
      exact ⟨σ', fun _ _ => rfl, fun i hi => fl i (by omega), rfl⟩
    · rw [if_neg c, ix_nI (by omega), nI_s (by omega)]
      rw [ti_le, nI_toInt (by omega)] at c
      simp at c
      obtain ⟨u, u1, u2, u3⟩ := tw_init (l := l) (q := q) (m := m) n (j + 1) (up2 σ' 19 j (-5)) (by omega) (by omega) (fun i hi => by
        by_cases e : i = j
        · subst e; exact up2_same
        · rw [up2_pl e]; exact fl i (by omega))
      exact ⟨u, fun r hr => by rw [u1 r hr, up2_row hr], u2, u3⟩
def setW (σ : St) (s a b c d e : Int32) : St := up2 (up2 (up2 (up2 (up2 (up2 σ 19 0 s) 19 1 a) 19 2 b) 19 3 c) 19 4 d) 19 5 e
theorem setW_row {σ : St} {s a b c d e : Int32} {r : Nat} (h : r ≠ 19) : setW σ s a b c d e r = σ r := by
  unfold setW
  rw [up2_row h, up2_row h, up2_row h, up2_row h, up2_row h, up2_row h]
theorem setW_0 {σ : St} {s a b c d e : Int32} : setW σ s a b c d e 19 0 = s := by
  unfold setW
  rw [up2_pl (by decide), up2_pl (by decide), up2_pl (by decide), up2_pl (by decide), up2_pl (by decide), up2_same]
theorem tr1 {a b c d l aw : Int32} {A B : Nat} (ha : ix (10 * a + b) = A) (hb : ix (10 * c + d) = B) (h2 : ¬ (2 : Int32) ≤ aw) (n : Nat) (σ : St) : g_X12_triesTwice_3 (n + 1) σ a b c d l aw = g_X12_triesTwice_3 n (if (σ 17 A + (if aw = 0 then σ 17 B else -σ 17 B) = l) ∧ (σ 19 0 = -5 ∨ ¬ σ 19 0 ≤ σ 18 A + σ 18 B) then setW σ (σ 18 A + σ 18 B) a b c d aw else σ) a b c d l (aw + 1) := by
  show f_X12_triesTwice_3 (g_X12_triesTwice_3 n) σ a b c d l aw = _
  unfold f_X12_triesTwice_3 f_X12_triesTwice_111 f_X12_triesTwice_156
  rw [if_neg h2, ha, hb]
  by_cases y1 : σ 17 A + (if aw = 0 then σ 17 B else -σ 17 B) = l
  · rw [if_pos y1]
    by_cases y2 : σ 19 0 = -5
    · rw [if_pos y2, if_pos ⟨y1, Or.inl y2⟩]; rfl
    · rw [if_neg y2]
      by_cases y3 : σ 19 0 ≤ σ 18 A + σ 18 B
      · rw [if_pos y3, if_neg (fun z => z.2.elim y2 (fun w => w y3))]
      · rw [if_neg y3, if_pos ⟨y1, Or.inr y3⟩]; rfl
  · rw [if_neg y1, if_neg (fun z => y1 z.1)]
theorem tries {a b c d l : Int32} {A B : Nat} (ha : ix (10 * a + b) = A) (hb : ix (10 * c + d) = B) (σ : St) (hs : ¬ σ 18 A + σ 18 B = -5) : f_X12_triesTwice σ a b c d l = if (σ 17 A + σ 17 B = l ∨ σ 17 A - σ 17 B = l) ∧ (σ 19 0 = -5 ∨ ¬ σ 19 0 ≤ σ 18 A + σ 18 B) then setW σ (σ 18 A + σ 18 B) a b c d (if σ 17 A + σ 17 B = l then 0 else 1) else σ := by
  unfold f_X12_triesTwice
  have fin : ∀ u : St, g_X12_triesTwice_3 1 u a b c d l (0 + 1 + 1) = u := fun u => by
    show f_X12_triesTwice_3 (g_X12_triesTwice_3 0) u a b c d l (0 + 1 + 1) = u
    unfold f_X12_triesTwice_3
    rw [if_pos (by decide)]
  rw [tr1 ha hb (by decide) 2 σ, if_pos (show (0 : Int32) = 0 from rfl)]
  by_cases p : σ 19 0 = -5 ∨ ¬ σ 19 0 ≤ σ 18 A + σ 18 B
  · by_cases y1 : σ 17 A + σ 17 B = l
    · rw [if_pos ⟨y1, p⟩, if_pos ⟨Or.inl y1, p⟩, if_pos y1, tr1 ha hb (by decide) 1, setW_row (r := 17) (by decide), setW_row (r := 18) (by decide), setW_0, if_neg, fin]
      rintro ⟨_, z | z⟩
      · exact hs z
      · exact z (Int32.le_refl _)
    · rw [if_neg (fun z => y1 z.1), tr1 ha hb (by decide) 1, fin, if_neg (show ¬ (0 + 1 : Int32) = 0 by decide), ← Int32.sub_eq_add_neg, if_neg y1]
      by_cases y2 : σ 17 A - σ 17 B = l
      · rw [if_pos ⟨y2, p⟩, if_pos ⟨Or.inr y2, p⟩]; rfl
      · rw [if_neg (fun z => y2 z.1), if_neg (fun z => z.1.elim y1 y2)]
  · rw [if_neg (fun z => p z.2), tr1 ha hb (by decide) 1, fin, if_neg (fun z => p z.2), if_neg (fun z => p z.2)]
theorem SW_b (h : RN 20 τ (σ 1)) (hK : RK 20 ρ dt (σ 1)) (hI : IB (σ 1)) {w : Int32} {N : Nat} (hN : σ 1 0 = nI N) (hN6 : N ≤ 6) {k : Nat} (hk : k < 10 * N) : 0 ≤ (SW ρ dt τ w k).toInt ∧ (SW ρ dt τ w k).toInt ≤ 1000000 := by
  unfold SW
  have x0 : (nI (k / 10)).toInt = ((k / 10 : Nat) : Int) := nI_toInt (by omega)
  have n0 : (nI (k % 10)).toInt = ((k % 10 : Nat) : Int) := nI_toInt (by omega)
  have sl : 0 ≤ (f_X5_slack ρ dt τ (rf (f_X5_stickAt ρ τ (nI (k / 10)))) w (nI (k % 10))).toInt ∧ (f_X5_slack ρ dt τ (rf (f_X5_stickAt ρ τ (nI (k / 10)))) w (nI (k % 10))).toInt ≤ 9910 := by
    rcases stk_cases h hK hI (nI (k / 10)) with ⟨_, h2⟩ | ⟨i, a, _, hi, _, r1, _, d0, d1, d2, d3, _⟩
    · exfalso
      unfold f_X12_isStick at h2
      rw [in_iff, hN, x0, ti_sub (by rw [nI_toInt (by omega)]; simp; omega) (by rw [nI_toInt (by omega)]; simp; omega), nI_toInt (by omega)] at h2
      simp at h2
      omega
    · rw [r1]
      show 0 ≤ (f_X5_slack ρ dt τ a w (nI (k % 10))).toInt ∧ (f_X5_slack ρ dt τ a w (nI (k % 10))).toInt ≤ 9910
      have t := tot5_b hK a w (nI (k % 10)) true
      have v := hI.2.2.2.2.2.2.2.2.2.2.1 i hi
      rw [← d2] at v
      have e : f_X5_slack ρ dt τ a w (nI (k % 10)) = vslk (dt a) (1 + tot5 ρ dt a 4 w (nI (k % 10))) := by
        unfold f_X5_slack tot5
        (repeat' split) <;> first | rfl | contradiction
      rw [e]
      generalize tot5 ρ dt a (if true = true then 4 else 5) w (nI (k % 10)) = T at t
      have t1 : 0 ≤ (tot5 ρ dt a 4 w (nI (k % 10))).toInt ∧ (tot5 ρ dt a 4 w (nI (k % 10))).toInt ≤ 9900 := tot5_b hK a w (nI (k % 10)) true
      generalize tot5 ρ dt a 4 w (nI (k % 10)) = T at t1
      have p1 : (1 + T).toInt = 1 + T.toInt := by rw [ti_add (by simp; omega) (by simp; omega)]; rfl
      have p2 : (1 + T + dt a 2).toInt = 1 + T.toInt + (dt a 2).toInt := by rw [ti_add (by omega) (by omega), p1]
      have p3 : (1 + T + 1).toInt = 1 + T.toInt + 1 := by rw [ti_add (by rw [p1]; simp; omega) (by rw [p1]; simp; omega), p1]; rfl
      unfold vslk f_X6_slack f_X0_slack f_X4_slack
      (repeat' split) <;> first | (rw [p1]; omega) | (rw [p2]; omega) | (rw [p3]; omega)
  have k9 : k % 10 ≤ 9 := by omega
  generalize f_X5_slack ρ dt τ (rf (f_X5_stickAt ρ τ (nI (k / 10)))) w (nI (k % 10)) = X at sl
  have b1 : ((k % 10 : Nat) : Int) * X.toInt ≤ 9 * X.toInt := Int.mul_le_mul_of_nonneg_right (by omega) sl.1
  have b2 : 0 ≤ ((k % 10 : Nat) : Int) * X.toInt := Int.mul_nonneg (by omega) sl.1
  rw [ti_mul (by rw [n0]; omega) (by rw [n0]; omega), n0]
  omega
def TI (τ' σ' : St) (any : Int32) : Prop := (any = 0 ∧ ∀ j, j < 6 → σ' 19 j = -5) ∨ (any = 1 ∧ (∀ j, j < 6 → σ' 19 j = τ' 5 j) ∧ 0 ≤ (σ' 19 0).toInt)
def TF (ρ : RR) (dt : Nat → Nat → Int32) (τ σ : St) (w : Int32) (N : Nat) (τ' σ' : St) : Prop := OX τ τ' ∧ OM σ σ' ∧ (∀ k, k < 10 * N → τ' 6 k = MW ρ dt τ w k ∧ τ' 7 k = SW ρ dt τ w k) ∧ ∀ k, k < 10 * N → σ' 17 k = MW ρ dt τ w k ∧ σ' 18 k = SW ρ dt τ w k
theorem tw_in (h : RN 20 τ (σ 1)) (hK : RK 20 ρ dt (σ 1)) (hI : IB (σ 1)) {w l q : Int32} {N : Nat} (hN : σ 1 0 = nI N) (hN6 : N ≤ 6) {f : Nat} (hf : f < 10 * N) {K16 : St → Int32 → Int32 → Int32 → Int32 → Int32 × St} {K131 : St → Int32 → Int32 → Int32 → Int32 → Int32 × St} (hk : ∀ (τ' σ' : St) (any : Int32), TF ρ dt τ σ w N τ' σ' → TI τ' σ' any → SR τ σ q (K16 τ' l (nI (10 * N)) any (nI (f + 1))) (K131 σ' l q (nI (10 * N)) (nI (f + 1)))) : ∀ (n k : Nat) (τ' σ' : St) (any : Int32), TF ρ dt τ σ w N τ' σ' → TI τ' σ' any → k ≤ 10 * N → k + n ≥ 10 * N + 1 → SR τ σ q (g_X11_findTwice_25 K16 n τ' l (nI (10 * N)) any (nI f) (nI k)) (g_X12_twice_141 K131 n σ' l q (nI (10 * N)) (nI f) (nI k))
  | 0, k, τ', σ', any, tf, ti, k1, k2 => by exfalso; omega
  | n + 1, k, τ', σ', any, tf, ti, k1, k2 => by
    have s1 : g_X11_findTwice_25 K16 (n + 1) τ' l (nI (10 * N)) any (nI f) (nI k) = f_X11_findTwice_25 K16 (g_X11_findTwice_25 K16 n) τ' l (nI (10 * N)) any (nI f) (nI k) := rfl
    have s2 : g_X12_twice_141 K131 (n + 1) σ' l q (nI (10 * N)) (nI f) (nI k) = f_X12_twice_141 K131 (g_X12_twice_141 K131 n) σ' l q (nI (10 * N)) (nI f) (nI k) := rfl
    rw [s1, s2]
    unfold f_X11_findTwice_25 f_X11_findTwice_110 f_X11_findTwice_125 f_X11_findTwice_195 f_X12_twice_141 bd1
    dsimp only
    by_cases c : nI (10 * N) ≤ nI k
    · rw [if_pos c, if_pos c, nI_s (by omega)]
      exact hk τ' σ' any tf ti
    · rw [if_neg c, if_neg c]
      rw [ti_le, nI_toInt (by omega), nI_toInt (by omega)] at c
      obtain ⟨o1, o2, f1, f2⟩ := tf
      have df1 : nI f / 10 = nI (f / 10) := by rw [show (10 : Int32) = nI 10 from rfl, pk_div (by omega) (by omega) (by omega)]
      have df2 : nI f - nI f / 10 * 10 = nI (f % 10) := by rw [show (10 : Int32) = nI 10 from rfl, pk_rem (by omega) (by omega) (by omega)]
      have dk1 : nI k / 10 = nI (k / 10) := by rw [show (10 : Int32) = nI 10 from rfl, pk_div (by omega) (by omega) (by omega)]
      have dk2 : nI k - nI k / 10 * 10 = nI (k % 10) := by rw [show (10 : Int32) = nI 10 from rfl, pk_rem (by omega) (by omega) (by omega)]
      have ia : ix (10 * nI (f / 10) + nI (f % 10)) = f := by
        rw [show (10 : Int32) = nI 10 from rfl, pk_mul, nI_a (by omega), ix_nI (by omega)]; omega
      have ib : ix (10 * nI (k / 10) + nI (k % 10)) = k := by
        rw [show (10 : Int32) = nI 10 from rfl, pk_mul, nI_a (by omega), ix_nI (by omega)]; omega
      obtain ⟨cf1, cf2⟩ := f1 f hf
      obtain ⟨ck1, ck2⟩ := f1 k (by omega)
      obtain ⟨mf1, mf2⟩ := f2 f hf
      obtain ⟨mk1, mk2⟩ := f2 k (by omega)
      have sf := SW_b h hK hI (w := w) hN hN6 hf
      have sk := SW_b h hK hI (w := w) hN hN6 (k := k) (by omega)
      have ss : (SW ρ dt τ w f + SW ρ dt τ w k).toInt = (SW ρ dt τ w f).toInt + (SW ρ dt τ w k).toInt := ti_add (by omega) (by omega)
      rw [df2, dk2, df1, dk1, ix_nI (by omega), ix_nI (by omega), cf1, cf2, ck1, ck2, nI_s (by omega), tries ia ib σ' (by rw [mf2, mk2, ti_eq, ss]; simp; omega), mf1, mf2, mk1, mk2]
      have keep := tw_in h hK hI (w := w) (l := l) (q := q) hN hN6 hf hk n (k + 1) τ' σ' any ⟨o1, o2, f1, f2⟩ ti (by omega) (by omega)
      have take := fun (e : Int32) => tw_in h hK hI (w := w) (l := l) (q := q) hN hN6 hf hk n (k + 1) (up2 (up2 (up2 (up2 (up2 (up2 τ' 5 0 (SW ρ dt τ w f + SW ρ dt τ w k)) 5 1 (nI (f / 10))) 5 2 (nI (f % 10))) 5 3 (nI (k / 10))) 5 4 (nI (k % 10))) 5 5 e) (setW σ' (SW ρ dt τ w f + SW ρ dt τ w k) (nI (f / 10)) (nI (f % 10)) (nI (k / 10)) (nI (k % 10)) e) 1 ⟨fun r hr => by rw [up2_row (by omega), up2_row (by omega), up2_row (by omega), up2_row (by omega), up2_row (by omega), up2_row (by omega)]; exact o1 r hr, fun r hr => by rw [setW_row (by omega)]; exact o2 r hr, fun j hj => by rw [up2_row (by decide), up2_row (by decide), up2_row (by decide), up2_row (by decide), up2_row (by decide), up2_row (by decide), up2_row (by decide), up2_row (by decide), up2_row (by decide), up2_row (by decide), up2_row (by decide), up2_row (by decide)]; exact f1 j hj, fun j hj => by rw [setW_row (by decide), setW_row (by decide)]; exact f2 j hj⟩ (Or.inr ⟨rfl, fun j hj => by
          have : j = 0 ∨ j = 1 ∨ j = 2 ∨ j = 3 ∨ j = 4 ∨ j = 5 := by omega
          unfold setW
          rcases this with rfl | rfl | rfl | rfl | rfl | rfl <;> rfl, by rw [setW_0, ss]; omega⟩) (by omega) (by omega)
      generalize SW ρ dt τ w f + SW ρ dt τ w k = s at *
      have pI : (σ' 19 0 = -5 ∨ ¬ σ' 19 0 ≤ s) ↔ (any = 0 ∨ ¬ τ' 5 0 ≤ s) := by
        rcases ti with ⟨y1, y2⟩ | ⟨y1, y2, y3⟩
        · exact ⟨fun _ => Or.inl y1, fun _ => Or.inl (y2 0 (by decide))⟩
        · rw [y2 0 (by decide), y1]
          rw [y2 0 (by decide)] at y3
          constructor
          · rintro (z | z)
            · rw [z] at y3; simp at y3
            · exact Or.inr z
          · rintro (z | z)
            · exact absurd z (by decide)
            · exact Or.inr z
      have o1 : ¬ (1 : Int32) = 0 := by decide
      have o0 : (0 : Int32) = 0 := rfl
      by_cases p : any = 0 ∨ ¬ τ' 5 0 ≤ s
      · have pp : ∀ e : Int32, SR τ σ q (if any = 0 then g_X11_findTwice_25 K16 n (up2 (up2 (up2 (up2 (up2 (up2 τ' 5 0 s) 5 1 (nI (f / 10))) 5 2 (nI (f % 10))) 5 3 (nI (k / 10))) 5 4 (nI (k % 10))) 5 5 e) l (nI (10 * N)) 1 (nI f) (nI (k + 1)) else if τ' 5 0 ≤ s then g_X11_findTwice_25 K16 n τ' l (nI (10 * N)) any (nI f) (nI (k + 1)) else g_X11_findTwice_25 K16 n (up2 (up2 (up2 (up2 (up2 (up2 τ' 5 0 s) 5 1 (nI (f / 10))) 5 2 (nI (f % 10))) 5 3 (nI (k / 10))) 5 4 (nI (k % 10))) 5 5 e) l (nI (10 * N)) 1 (nI f) (nI (k + 1))) (g_X12_twice_141 K131 n (setW σ' s (nI (f / 10)) (nI (f % 10)) (nI (k / 10)) (nI (k % 10)) e) l q (nI (10 * N)) (nI f) (nI (k + 1))) := by
          intro e
          by_cases z : any = 0
          · rw [if_pos z]; exact take e
          · rw [if_neg z, if_neg (p.resolve_left z)]; exact take e
        by_cases y1 : MW ρ dt τ w f + MW ρ dt τ w k = l
        · have cT : (MW ρ dt τ w f + MW ρ dt τ w k = l ∨ MW ρ dt τ w f - MW ρ dt τ w k = l) ∧ (σ' 19 0 = -5 ∨ ¬ σ' 19 0 ≤ s) := ⟨Or.inl y1, pI.mpr p⟩
          simp only [if_pos y1, if_neg o1, if_pos cT]
          exact pp 0
        · by_cases y2 : MW ρ dt τ w f - MW ρ dt τ w k = l
          · have cT : (MW ρ dt τ w f + MW ρ dt τ w k = l ∨ MW ρ dt τ w f - MW ρ dt τ w k = l) ∧ (σ' 19 0 = -5 ∨ ¬ σ' 19 0 ≤ s) := ⟨Or.inr y2, pI.mpr p⟩
            simp only [if_neg y1, if_pos y2, if_neg o1, if_pos o0, if_pos cT]
            exact pp 1
          · have cT : ¬ ((MW ρ dt τ w f + MW ρ dt τ w k = l ∨ MW ρ dt τ w f - MW ρ dt τ w k = l) ∧ (σ' 19 0 = -5 ∨ ¬ σ' 19 0 ≤ s)) := fun z => z.1.elim y1 y2
            simp only [if_neg y1, if_neg y2, if_pos o0, if_neg cT]
            exact keep
      · have cT : ¬ ((MW ρ dt τ w f + MW ρ dt τ w k = l ∨ MW ρ dt τ w f - MW ρ dt τ w k = l) ∧ (σ' 19 0 = -5 ∨ ¬ σ' 19 0 ≤ s)) := fun z => p (pI.mp z.2)
        have z : ¬ any = 0 := fun z => p (Or.inl z)
        have z' : τ' 5 0 ≤ s := Classical.not_not.mp (fun z => p (Or.inr z))
        simp only [if_neg z, if_pos z', if_neg cT]
        (repeat' split) <;> exact keep
theorem tw_out (h : RN 20 τ (σ 1)) (hK : RK 20 ρ dt (σ 1)) (hI : IB (σ 1)) {w l q : Int32} (hq : 0 ≤ q.toInt ∧ q.toInt ≤ 5) {N : Nat} (hN : σ 1 0 = nI N) (hN6 : N ≤ 6) : ∀ (n f : Nat) (τ' σ' : St) (any : Int32), TF ρ dt τ σ w N τ' σ' → TI τ' σ' any → f ≤ 10 * N → f + n ≥ 10 * N + 1 → SR τ σ q (g_X11_findTwice_16 n τ' l (nI (10 * N)) any (nI f)) (g_X12_twice_131 n σ' l q (nI (10 * N)) (nI f))
  | 0, f, τ', σ', any, tf, ti, k1, k2 => by exfalso; omega
  | n + 1, f, τ', σ', any, tf, ti, k1, k2 => by
    have s1 : g_X11_findTwice_16 (n + 1) τ' l (nI (10 * N)) any (nI f) = f_X11_findTwice_16 (g_X11_findTwice_16 n) τ' l (nI (10 * N)) any (nI f) := rfl
    have s2 : g_X12_twice_131 (n + 1) σ' l q (nI (10 * N)) (nI f) = f_X12_twice_131 (g_X12_twice_131 n) σ' l q (nI (10 * N)) (nI f) := rfl
    rw [s1, s2]
    unfold f_X11_findTwice_16 f_X12_twice_131
    by_cases c : nI (10 * N) ≤ nI f
    · rw [if_pos c, if_pos c]
      refine ⟨?_, tf.1, tf.2.1⟩
      have iq : ix q < 6 := ix_lt hq.1 (by omega)
      rcases ti with ⟨y1, y2⟩ | ⟨y1, y2, y3⟩
      · rw [if_pos y1]; exact (y2 _ iq).symm
      · rw [if_neg (show ¬ any = 0 by rw [y1]; decide)]; exact (y2 _ iq).symm
    · rw [if_neg c, if_neg c]
      rw [ti_le, nI_toInt (by omega), nI_toInt (by omega)] at c
      exact tw_in h hK hI (w := w) (l := l) (q := q) hN hN6 (f := f) (by omega) (fun τ2 σ2 any t i => tw_out h hK hI hq hN hN6 n (f + 1) τ2 σ2 any t i (by omega) (by omega)) 61 0 τ' σ' any tf ti (by omega) (by omega)
theorem c_twice (h : RN 20 τ (σ 1)) (hK : RK 20 ρ dt (σ 1)) (hI : IB (σ 1)) (w l q : Int32) : Q1 τ σ (f_X11_twice ρ dt τ w l q) (f_X12_twice σ w l q) := by
  unfold f_X11_twice f_X12_twice
  by_cases hw : 0 ≤ w.toInt ∧ w.toInt < (σ 1 1).toInt
  rotate_left
  · rw [if_pos ((wall_eq h hI w).1.mpr hw), if_pos ((wall_eq h hI w).2.mpr hw)]; exact Q1.same h hI
  rw [if_neg (fun z => (wall_eq h hI w).1.mp z hw), if_neg (fun z => (wall_eq h hI w).2.mp z hw)]
  by_cases hq : 0 ≤ q.toInt ∧ q.toInt ≤ 5
  rotate_left
  · rw [if_pos (show f_X12_in q 0 5 = 0 by rw [in_iff]; simp; omega)]
    simp only [ti_lt, ti_le, Int32.reduceToInt]
    (repeat' split) <;> first | exact Q1.same h hI | (exfalso; omega)
  rw [if_neg (show ¬ q < 0 by rw [ti_lt]; simp; omega), if_pos (show q ≤ 5 by rw [ti_le]; simp; omega), if_neg (show ¬ f_X12_in q 0 5 = 0 by rw [in_iff]; simp; omega)]
  by_cases hl : 1 ≤ l.toInt ∧ l.toInt ≤ 999
  rotate_left
  · rw [if_pos (show f_X12_in l 1 999 = 0 by rw [in_iff]; simp; omega)]
    simp only [ti_lt, ti_le, Int32.reduceToInt]
    (repeat' split) <;> first | exact Q1.same h hI | (exfalso; omega)
  rw [if_neg (show ¬ l < 1 by rw [ti_lt]; simp; omega), if_pos (show l ≤ 999 by rw [ti_le]; simp; omega), if_neg (show ¬ f_X12_in l 1 999 = 0 by rw [in_iff]; simp; omega)]
  have b0 := hI.1
  obtain ⟨N, hN', hN⟩ := nn_nI b0.1
  have hN6 : N ≤ 6 := by have := b0.2; rw [hN, nI_toInt hN'] at this; omega
  obtain ⟨τ1, o1, f1, e1⟩ := tm_out (ρ := ρ) (dt := dt) h hI (w := w) hN hN6 7 0 τ OX.rf (by omega) (by omega) (fun k hk => by omega)
  obtain ⟨σ1, p1, f2, e2⟩ := tw_fill h hK hI (w := w) (l := l) (q := q) hN hN6 61 0 σ OM.rf (by omega) (by omega) (fun k hk => by omega)
  obtain ⟨σ2, z1, z2, e3⟩ := tw_init (l := l) (q := q) (m := nI (10 * N)) 7 0 σ1 (by omega) (by omega) (fun k hk => by omega)
  have m1 : (10 * σ 1 0 : Int32) = nI (10 * N) := by rw [hN]; exact pk_mul 10 N
  have m2 : τ1 25 0 * 10 = nI (10 * N) := by
    rw [o1 25 (by omega), show τ 25 0 = σ 1 0 from h.n0, hN, Nat.mul_comm]; exact pk_mul N 10
  unfold f_X11_tellMiddles bd1 f_X11_findTwice bd
  dsimp only
  rw [show (0 : Int32) = nI 0 from rfl, e1, m1, e2, show (0 : Int32) = nI 0 from rfl, e3, m2]
  obtain ⟨r1, r2, r3⟩ := tw_out h hK hI (w := w) (l := l) hq hN hN6 61 0 τ1 σ2 0 ⟨o1, fun r hr => by rw [z1 r (by omega)]; exact p1 r hr, f1, fun k hk => by rw [z1 17 (by decide), z1 18 (by decide)]; exact f2 k hk⟩ (Or.inl ⟨rfl, z2⟩) (by omega) (by omega)
  have e0 : nI 0 = (0 : Int32) := rfl
  simp only [e0] at *
  generalize g_X11_findTwice_16 61 τ1 l (nI (10 * N)) 0 0 = R at *
  generalize g_X12_twice_131 61 σ2 l q (nI (10 * N)) 0 = S at *
  rw [r1]
  exact Q1.om h hI r2 r3
end TWICE
