/-! THE TWO SIDES TOGETHER: what a room's steps mean, the model's side -/
theorem cmp_congr {e : EE} {x m : List Int32} {k : Nat} (h : CMP e x m k) {b b' : Nat → Int32} (hb : ∀ w, w < 6 → b w = b' w) : e b = e b' := by
  refine h (fun e _ _ _ => e b = e b') ?_ ?_ ?_ ?_ ?_
  · intro w h v hw _ _
    simp only [tst, hb w hw]
  · intro e x m k ih
    simp only [ih]
  · intro e x m k ih
    exact ih
  · intro e x m k e' x' m' k' ih ih'
    simp only [ih, ih']
  · intro e x m k e' x' m' k' ih ih'
    simp only [ih, ih']
theorem ix_nI {i : Nat} (h : i < 2 ^ 31) : ix (nI i) = i := by
  have := ti_ix (i := nI i) (by rw [nI_toInt h]; omega)
  rw [nI_toInt h] at this
  omega
theorem nI_p {i : Nat} : nI (i + 1) - 1 = nI i := by
  rw [show (1 : Int32) = nI 1 from rfl, pk_sub (by omega)]
  rfl
theorem up2_same {σ : St} {k j : Nat} {v : Int32} : up2 σ k j v k j = v := by
  simp only [up2, upC, upd, if_true]
theorem up2_row {σ : St} {k j r : Nat} {v : Int32} (h : r ≠ k) : up2 σ k j v r = σ r := by
  simp only [up2, upC]
  rw [if_neg h]
theorem up2_pl {σ : St} {k j r i : Nat} {v : Int32} (h : i ≠ j) : up2 σ k j v r i = σ r i := by
  simp only [up2, upC]
  split
  · rename_i e
    simp only [upd]
    rw [if_neg h, e]
  · rfl
theorem iB_not (b : Bool) : (if iB b = 0 then (1 : Int32) else 0) = iB (!b) := by cases b <;> decide
theorem iB_and (b c : Bool) : (if iB b = 0 then (0 : Int32) else if iB c = 0 then 0 else 1) = iB (b && c) := by cases b <;> cases c <;> decide
theorem iB_or (b c : Bool) : (if iB b = 0 then (if iB c = 0 then (0 : Int32) else 1) else 1) = iB (b || c) := by cases b <;> cases c <;> decide
theorem step_tst {f : Nat → Int32} {w h v : Nat} (hw : w < 6) (hh : h < 3) (hv : v < 100) :
    (if (nI (w + 8 * h + 32 * v) / 8 - nI (w + 8 * h + 32 * v) / 8 / 4 * 4) = 0 then (if nI (w + 8 * h + 32 * v) / 32 ≤ f (ix (nI (w + 8 * h + 32 * v) - nI (w + 8 * h + 32 * v) / 8 * 8)) then (0 : Int32) else 1) else (if (nI (w + 8 * h + 32 * v) / 8 - nI (w + 8 * h + 32 * v) / 8 / 4 * 4) = 1 then (if f (ix (nI (w + 8 * h + 32 * v) - nI (w + 8 * h + 32 * v) / 8 * 8)) = nI (w + 8 * h + 32 * v) / 32 then (1 : Int32) else 0) else (if f (ix (nI (w + 8 * h + 32 * v) - nI (w + 8 * h + 32 * v) / 8 * 8)) ≤ nI (w + 8 * h + 32 * v) / 32 then (0 : Int32) else 1))) = iB (tst w h v f) := by
  have q1 : nI (w + 8 * h + 32 * v) / 8 = nI (h + 4 * v) := by
    rw [show (8 : Int32) = nI 8 from rfl, pk_div (by omega) (by omega) (by omega)]
    congr 1; omega
  have q2 : nI (h + 4 * v) - nI (h + 4 * v) / 4 * 4 = nI h := by
    rw [show (4 : Int32) = nI 4 from rfl, pk_rem (by omega) (by omega) (by omega)]
    congr 1; omega
  have q3 : nI (w + 8 * h + 32 * v) - nI (w + 8 * h + 32 * v) / 8 * 8 = nI w := by
    rw [show (8 : Int32) = nI 8 from rfl, pk_rem (by omega) (by omega) (by omega)]
    congr 1; omega
  have q4 : nI (w + 8 * h + 32 * v) / 32 = nI v := by
    rw [show (32 : Int32) = nI 32 from rfl, pk_div (by omega) (by omega) (by omega)]
    congr 1; omega
  rw [q3, q1, q2, q4, ix_nI (by omega), le_if, le_if]
  unfold tst iB
  have : h = 0 ∨ h = 1 ∨ h = 2 := by omega
  rcases this with rfl | rfl | rfl <;> simp (decide := true)
section LOOKS
variable {a4 a5 : Int32} {N : Nat}
theorem lk_op (hN : a5 + a4 = nI N) (hN2 : N ≤ 1000) {i : Nat} (hi : i < N) {σ : St} {v t : Int32} {F : Nat} (hv : σ 1 i = v) : g_X12_looks_116 (F + 1) σ a4 a5 t (nI i) = (if v < 0 then (if v = -1 then g_X12_looks_116 F (up2 σ 10 (ix (t - 1)) (if σ 10 (ix (t - 1)) = 0 then 1 else 0)) a4 a5 t (nI (i + 1)) else (if v ≤ -10 then g_X12_looks_116 F (up2 (up2 σ 11 0 (σ 11 0 + (if σ 10 0 = 0 then 0 else (if v ≤ -200 then 0 else (-10 - v))))) 12 0 (σ 12 0 + (if σ 10 0 = 0 then 0 else (if -200 < v then 0 else (-200 - v))))) a4 a5 0 (nI (i + 1)) else g_X12_looks_116 F (up2 σ 10 (ix (t - 1 - 1)) (if v = -2 then (if σ 10 (ix (t - 1 - 1)) = 0 then 0 else (if σ 10 (ix (t - 1)) = 0 then 0 else 1)) else (if σ 10 (ix (t - 1 - 1)) = 0 then (if σ 10 (ix (t - 1)) = 0 then 0 else 1) else 1))) a4 a5 (t - 1) (nI (i + 1)))) else g_X12_looks_116 F (up2 σ 10 (ix t) (if (v / 8 - v / 8 / 4 * 4) = 0 then (if v / 32 ≤ σ 9 (ix (v - v / 8 * 8)) then 0 else 1) else (if (v / 8 - v / 8 / 4 * 4) = 1 then (if σ 9 (ix (v - v / 8 * 8)) = v / 32 then 1 else 0) else (if σ 9 (ix (v - v / 8 * 8)) ≤ v / 32 then 0 else 1)))) a4 a5 (t + 1) (nI (i + 1))) := by
  show f_X12_looks_116 (g_X12_looks_116 F) σ a4 a5 t (nI i) = _
  unfold f_X12_looks_116 f_X12_looks_429
  rw [if_neg (by rw [hN, ti_le, nI_toInt (by omega), nI_toInt (by omega)]; omega), ix_nI (by omega), hv, nI_s (by omega)]
/-- what the steps of one E do -/
theorem lk_e (hN : a5 + a4 = nI N) (hN2 : N ≤ 1000) {e : EE} {x m : List Int32} {k : Nat} (h : CMP e x m k) : 1 ≤ k ∧ ∀ (F i top : Nat) (σ : St), top + k ≤ 60 → i + m.length ≤ N → (∀ p v, m[p]? = some v → σ 1 (i + p) = v) → ∃ σ' : St, (∀ r, r ≠ 10 → σ' r = σ r) ∧ (∀ j, j < top → σ' 10 j = σ 10 j) ∧ σ' 10 top = iB (e (σ 9)) ∧ g_X12_looks_116 (F + m.length) σ a4 a5 (nI top) (nI i) = g_X12_looks_116 F σ' a4 a5 (nI (top + 1)) (nI (i + m.length)) := by
  refine h (fun e _ m k => 1 ≤ k ∧ ∀ (F i top : Nat) (σ : St), top + k ≤ 60 → i + m.length ≤ N → (∀ p v, m[p]? = some v → σ 1 (i + p) = v) → ∃ σ' : St, (∀ r, r ≠ 10 → σ' r = σ r) ∧ (∀ j, j < top → σ' 10 j = σ 10 j) ∧ σ' 10 top = iB (e (σ 9)) ∧ g_X12_looks_116 (F + m.length) σ a4 a5 (nI top) (nI i) = g_X12_looks_116 F σ' a4 a5 (nI (top + 1)) (nI (i + m.length))) ?_ ?_ ?_ ?_ ?_
  · intro w h v hw hh hv
    refine ⟨by omega, fun F i top σ hk hi hx => ?_⟩
    simp only [List.length_singleton] at hi ⊢
    have c := hx 0 _ rfl
    simp only [Nat.add_zero] at c
    rw [lk_op hN hN2 (by omega) c, if_neg (by rw [ti_lt, nI_toInt (by omega)]; simp; omega), step_tst hw hh hv, ix_nI (by omega), nI_s (by omega)]
    exact ⟨_, fun r hr => up2_row hr, fun j hj => up2_pl (by omega), up2_same, rfl⟩
  · intro e x m k ih
    refine ⟨ih.1, fun F i top σ hk hi hx => ?_⟩
    rw [List.length_append, List.length_singleton] at hi ⊢
    obtain ⟨σ1, s1, s2, s3, s4⟩ := ih.2 (F + 1) i top σ hk (by omega) (fun p v hp => hx p v (by rw [List.getElem?_append_left (List.getElem?_eq_some_iff.mp hp).1]; exact hp))
    have c := hx m.length (-1) (by rw [List.getElem?_append_right (Nat.le_refl _)]; simp)
    rw [← s1 1 (by decide)] at c
    rw [show F + (m.length + 1) = F + 1 + m.length by omega, s4, lk_op hN hN2 (by omega) c, if_pos (by decide), if_pos rfl, nI_p, ix_nI (by omega), s3, iB_not, Nat.add_assoc]
    exact ⟨_, fun r hr => by rw [up2_row hr, s1 r hr], fun j hj => by rw [up2_pl (by omega), s2 j hj], up2_same, rfl⟩
  · intro e x m k ih
    refine ⟨ih.1, fun F i top σ hk hi hx => ?_⟩
    rw [List.length_append, show [(-1 : Int32), -1].length = 2 from rfl] at hi ⊢
    obtain ⟨σ1, s1, s2, s3, s4⟩ := ih.2 (F + 1 + 1) i top σ hk (by omega) (fun p v hp => hx p v (by rw [List.getElem?_append_left (List.getElem?_eq_some_iff.mp hp).1]; exact hp))
    have c := hx m.length (-1) (by rw [List.getElem?_append_right (Nat.le_refl _)]; simp)
    have c' := hx (m.length + 1) (-1) (by rw [List.getElem?_append_right (by omega), Nat.add_sub_cancel_left]; rfl)
    rw [← s1 1 (by decide)] at c c'
    rw [← Nat.add_assoc] at c'
    have c'' : (up2 σ1 10 top (iB (!e (σ 9)))) 1 (i + m.length + 1) = -1 := by rw [up2_row (by decide)]; exact c'
    rw [show F + (m.length + 2) = F + 1 + 1 + m.length by omega, s4, lk_op hN hN2 (by omega) c, if_pos (by decide), if_pos rfl, nI_p, ix_nI (by omega), s3, iB_not, lk_op hN hN2 (by omega) c'', if_pos (by decide), if_pos rfl, nI_p, ix_nI (by omega), up2_same, iB_not, Bool.not_not]
    exact ⟨_, fun r hr => by rw [up2_row hr, up2_row hr, s1 r hr], fun j hj => by rw [up2_pl (by omega), up2_pl (by omega), s2 j hj], up2_same, rfl⟩
  · intro e x m k e' x' m' k' ih ih'
    have ci := ih.1
    have ci' := ih'.1
    refine ⟨by omega, fun F i top σ hk hi hx => ?_⟩
    simp only [List.length_append, List.length_singleton] at hi ⊢
    obtain ⟨σ1, s1, s2, s3, s4⟩ := ih.2 (F + (m'.length + 1)) i top σ (by omega) (by omega) (fun p v hp => hx p v (by rw [List.append_assoc, List.getElem?_append_left (List.getElem?_eq_some_iff.mp hp).1]; exact hp))
    obtain ⟨σ2, u1, u2, u3, u4⟩ := ih'.2 (F + 1) (i + m.length) (top + 1) σ1 (by omega) (by omega) (fun p v hp => by
      have := hx (m.length + p) v (by rw [List.append_assoc, List.getElem?_append_right (by omega), Nat.add_sub_cancel_left, List.getElem?_append_left (List.getElem?_eq_some_iff.mp hp).1]; exact hp)
      rw [Nat.add_assoc, s1 1 (by decide)]; exact this)
    have c := hx (m.length + m'.length) (-2) (by rw [List.getElem?_append_right (by simp)]; simp)
    rw [← s1 1 (by decide), ← u1 1 (by decide), ← Nat.add_assoc] at c
    have t0 : σ2 10 top = iB (e (σ 9)) := by rw [u2 top (by omega), s3]
    rw [s1 9 (by decide)] at u3
    rw [show F + (m.length + m'.length + 1) = F + (m'.length + 1) + m.length by omega, s4, show F + (m'.length + 1) = F + 1 + m'.length by omega, u4, lk_op hN hN2 (by omega) c, if_pos (by decide), if_neg (by decide), if_neg (by decide), if_pos rfl, nI_p, nI_p, ix_nI (by omega), ix_nI (by omega), t0, u3, iB_and, show i + (m.length + m'.length + 1) = i + m.length + m'.length + 1 by omega]
    exact ⟨_, fun r hr => by rw [up2_row hr, u1 r hr, s1 r hr], fun j hj => by rw [up2_pl (by omega), u2 j (by omega), s2 j hj], up2_same, rfl⟩
  · intro e x m k e' x' m' k' ih ih'
    have ci := ih.1
    have ci' := ih'.1
    refine ⟨by omega, fun F i top σ hk hi hx => ?_⟩
    simp only [List.length_append, List.length_singleton] at hi ⊢
    obtain ⟨σ1, s1, s2, s3, s4⟩ := ih.2 (F + (m'.length + 1)) i top σ (by omega) (by omega) (fun p v hp => hx p v (by rw [List.append_assoc, List.getElem?_append_left (List.getElem?_eq_some_iff.mp hp).1]; exact hp))
    obtain ⟨σ2, u1, u2, u3, u4⟩ := ih'.2 (F + 1) (i + m.length) (top + 1) σ1 (by omega) (by omega) (fun p v hp => by
      have := hx (m.length + p) v (by rw [List.append_assoc, List.getElem?_append_right (by omega), Nat.add_sub_cancel_left, List.getElem?_append_left (List.getElem?_eq_some_iff.mp hp).1]; exact hp)
      rw [Nat.add_assoc, s1 1 (by decide)]; exact this)
    have c := hx (m.length + m'.length) (-3) (by rw [List.getElem?_append_right (by simp)]; simp)
    rw [← s1 1 (by decide), ← u1 1 (by decide), ← Nat.add_assoc] at c
    have t0 : σ2 10 top = iB (e (σ 9)) := by rw [u2 top (by omega), s3]
    rw [s1 9 (by decide)] at u3
    rw [show F + (m.length + m'.length + 1) = F + (m'.length + 1) + m.length by omega, s4, show F + (m'.length + 1) = F + 1 + m'.length by omega, u4, lk_op hN hN2 (by omega) c, if_pos (by decide), if_neg (by decide), if_neg (by decide), if_neg (by decide), nI_p, nI_p, ix_nI (by omega), ix_nI (by omega), t0, u3, iB_or, show i + (m.length + m'.length + 1) = i + m.length + m'.length + 1 by omega]
    exact ⟨_, fun r hr => by rw [up2_row hr, u1 r hr, s1 r hr], fun j hj => by rw [up2_pl (by omega), u2 j (by omega), s2 j hj], up2_same, rfl⟩
theorem cl_val (o z : Bool) {n : Nat} (hn : n < 100) : ((if o then (-10 : Int32) else -200) - nI n < 0) ∧ ¬ ((if o then (-10 : Int32) else -200) - nI n = -1) ∧ ((if o then (-10 : Int32) else -200) - nI n ≤ -10) ∧
    (if iB z = 0 then (0 : Int32) else (if (if o then (-10 : Int32) else -200) - nI n ≤ -200 then 0 else (-10 - ((if o then (-10 : Int32) else -200) - nI n)))) = (if o = true ∧ z = true then nI n else 0) ∧
    (if iB z = 0 then (0 : Int32) else (if -200 < (if o then (-10 : Int32) else -200) - nI n then 0 else (-200 - ((if o then (-10 : Int32) else -200) - nI n)))) = (if o = false ∧ z = true then nI n else 0) := by
  have hn' := nI_toInt (show n < 2 ^ 31 by omega)
  cases o
  · have v : ((-200 : Int32) - nI n).toInt = -200 - n := by rw [ti_sub (by rw [hn']; simp; omega) (by rw [hn']; simp; omega), hn']; rfl
    have e : (-200 : Int32) - (-200 - nI n) = nI n := by
      rw [ti_eq, ti_sub (by rw [v]; simp; omega) (by rw [v]; simp; omega), v, hn']
      simp; omega
    have f1 : (-200 : Int32) - nI n < 0 := by rw [ti_lt, v]; simp; omega
    have f2 : ¬ (-200 : Int32) - nI n = -1 := by rw [ti_eq, v]; simp; omega
    have f3 : (-200 : Int32) - nI n ≤ -10 := by rw [ti_le, v]; simp; omega
    have f4 : (-200 : Int32) - nI n ≤ -200 := by rw [ti_le, v]; simp; omega
    have f5 : ¬ -200 < (-200 : Int32) - nI n := by rw [ti_lt, v]; simp; omega
    rw [show (if false = true then (-10 : Int32) else -200) = -200 from rfl, e, if_pos f4, if_neg f5]
    refine ⟨f1, f2, f3, ?_, ?_⟩
    · cases z <;> rfl
    · cases z <;> rfl
  · have v : ((-10 : Int32) - nI n).toInt = -10 - n := by rw [ti_sub (by rw [hn']; simp; omega) (by rw [hn']; simp; omega), hn']; rfl
    have e : (-10 : Int32) - (-10 - nI n) = nI n := by
      rw [ti_eq, ti_sub (by rw [v]; simp; omega) (by rw [v]; simp; omega), v, hn']
      simp; omega
    have f1 : (-10 : Int32) - nI n < 0 := by rw [ti_lt, v]; simp; omega
    have f2 : ¬ (-10 : Int32) - nI n = -1 := by rw [ti_eq, v]; simp; omega
    have f3 : (-10 : Int32) - nI n ≤ -10 := by rw [ti_le, v]; simp; omega
    have f4 : ¬ (-10 : Int32) - nI n ≤ -200 := by rw [ti_le, v]; simp; omega
    have f5 : -200 < (-10 : Int32) - nI n := by rw [ti_lt, v]; simp; omega
    rw [show (if true = true then (-10 : Int32) else -200) = -10 from rfl, e, if_neg f4, if_pos f5]
    refine ⟨f1, f2, f3, ?_, ?_⟩
    · cases z <;> rfl
    · cases z <;> rfl
theorem look_cs (hN : a5 + a4 = nI N) (hN2 : N ≤ 1000) : ∀ (cs : List CR) (F i : Nat) (σ : St), (∀ c ∈ cs, okC c) → i + (mw cs).length = N → (mw cs).length + 1 ≤ F → (∀ p v, (mw cs)[p]? = some v → σ 1 (i + p) = v) → ∃ σ' : St, (∀ r, r ≠ 10 → r ≠ 11 → r ≠ 12 → σ' r = σ r) ∧ σ' 11 0 = σ 11 0 + sums (σ 9) true cs ∧ σ' 12 0 = σ 12 0 + sums (σ 9) false cs ∧ g_X12_looks_116 F σ a4 a5 0 (nI i) = σ'
  | [], F, i, σ, hc, hi, hF, hx => by
    obtain ⟨F', rfl⟩ : ∃ F', F = F' + 1 := ⟨F - 1, by simp [mw] at hF; omega⟩
    refine ⟨σ, fun _ _ _ _ => rfl, by rw [sums, Int32.add_zero], by rw [sums, Int32.add_zero], ?_⟩
    show f_X12_looks_116 (g_X12_looks_116 F') σ a4 a5 0 (nI i) = _
    unfold f_X12_looks_116
    have : i = N := by simp [mw] at hi; exact hi
    rw [if_pos (by rw [hN, this]; exact Int32.le_refl _)]
  | c :: cs, F, i, σ, hc, hi, hF, hx => by
    obtain ⟨c1, c2, c3, c4, c5⟩ := c
    obtain ⟨k1, k, k2, k3⟩ := hc _ (List.mem_cons_self)
    simp only at k1 k3
    have lx : (mw ((c1, c2, c3, c4, c5) :: cs)).length = c5.length + ((mw cs).length + 1) := by simp [mw]
    rw [lx] at hi hF
    obtain ⟨F', rfl⟩ : ∃ F', F = F' + 1 + c5.length := ⟨F - 1 - c5.length, by omega⟩
    obtain ⟨_, te⟩ := lk_e hN hN2 k3
    obtain ⟨σ1, s1, _, s3, s4⟩ := te (F' + 1) i 0 σ (by omega) (by omega) (fun p v hp => hx p v (by
      show (c5 ++ _)[p]? = some v
      rw [List.getElem?_append_left (List.getElem?_eq_some_iff.mp hp).1]; exact hp))
    have cw := hx c5.length ((if c1 then -10 else -200) - nI c3) (by
      show (c5 ++ _)[c5.length]? = _
      rw [List.getElem?_append_right (Nat.le_refl _)]; simp)
    rw [← s1 1 (by decide)] at cw
    obtain ⟨v1, v2, v3, v4, v5⟩ := cl_val c1 (c2 (σ 9)) k1
    rw [show (0 : Int32) = nI 0 from rfl, s4, lk_op hN hN2 (by omega) cw, if_pos v1, if_neg v2, if_pos v3, s3, v4, v5]
    generalize hU : up2 (up2 σ1 11 0 (σ1 11 0 + if c1 = true ∧ c2 (σ 9) = true then nI c3 else 0)) 12 0 (σ1 12 0 + if c1 = false ∧ c2 (σ 9) = true then nI c3 else 0) = u
    have u1 : ∀ r, r ≠ 10 → r ≠ 11 → r ≠ 12 → u r = σ r := fun r r1 r2 r3 => by rw [← hU, up2_row r3, up2_row r2, s1 r r1]
    have u2 : u 11 0 = σ 11 0 + if c1 = true ∧ c2 (σ 9) = true then nI c3 else 0 := by rw [← hU, up2_row (by decide), up2_same, s1 11 (by decide)]
    have u3 : u 12 0 = σ 12 0 + if c1 = false ∧ c2 (σ 9) = true then nI c3 else 0 := by rw [← hU, up2_same, s1 12 (by decide)]
    obtain ⟨σ', z1, z2, z3, z4⟩ := look_cs hN hN2 cs F' (i + c5.length + 1) u (fun c h => hc c (List.mem_cons_of_mem _ h)) (by omega) (by omega) (fun p v hp => by
      have := hx (c5.length + (1 + p)) v (by
        show (c5 ++ _)[_]? = _
        rw [List.getElem?_append_right (by omega), Nat.add_sub_cancel_left, Nat.add_comm 1 p, List.getElem?_cons_succ]; exact hp)
      rw [u1 1 (by decide) (by decide) (by decide), show i + c5.length + 1 + p = i + (c5.length + (1 + p)) by omega]; exact this)
    refine ⟨σ', fun r r1 r2 r3 => by rw [z1 r r1 r2 r3, u1 r r1 r2 r3], ?_, ?_, z4⟩
    · rw [z2, u2, u1 9 (by decide) (by decide) (by decide), Int32.add_assoc]
      rfl
    · rw [z3, u3, u1 9 (by decide) (by decide) (by decide), Int32.add_assoc]
      rfl
end LOOKS
