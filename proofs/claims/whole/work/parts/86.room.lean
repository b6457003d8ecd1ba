/-! THE TWO SIDES TOGETHER: rooms -/
theorem xw_app : ∀ cs cs' : List CR, xw (cs ++ cs') = xw cs ++ xw cs'
  | [], _ => rfl
  | c :: cs, cs' => by
    show c.2.2.2.1 ++ nI (c.2.2.1 * 8 + if c.1 then 4 else 5) :: xw (cs ++ cs') = (c.2.2.2.1 ++ nI (c.2.2.1 * 8 + if c.1 then 4 else 5) :: xw cs) ++ xw cs'
    rw [xw_app cs cs', List.append_assoc]; rfl
theorem mw_app : ∀ cs cs' : List CR, mw (cs ++ cs') = mw cs ++ mw cs'
  | [], _ => rfl
  | c :: cs, cs' => by
    show c.2.2.2.2 ++ ((if c.1 then -10 else -200) - nI c.2.2.1) :: mw (cs ++ cs') = (c.2.2.2.2 ++ ((if c.1 then -10 else -200) - nI c.2.2.1) :: mw cs) ++ mw cs'
    rw [mw_app cs cs', List.append_assoc]; rfl
section ROOM
variable {tx : Nat → Int32} {A N : Nat}
theorem rd_loop (htx : ∀ i, i < 100 → 0 ≤ (tx i).toInt ∧ (tx i).toInt ≤ 127) : ∀ (n c P : Nat) (bo st : Int32) (cs : List CR) (τ σ : St), 11 ≤ c + n → c ≤ 9 → QX tx N bo st P (xw cs) τ → MX tx A N bo st P 0 (mw cs) σ → (∀ c ∈ cs, okC c) → RC τ → FP 0 σ → ∃ σ2 : St, g_X12_room_106 n (f_X12_clauseHere σ) (nI (c + 1)) = f_X12_room_148 σ2 ∧ LQ σ σ2 ∧ KQ τ (g_X1_read_33 n τ (nI c)).2 ∧ (((g_X1_read_33 n τ (nI c)).1 = 1 ∧ ∃ (cs' : List CR) (bo' st' : Int32), QX tx N bo' st' N (xw cs') (g_X1_read_33 n τ (nI c)).2 ∧ MX tx A N bo' st' N 0 (mw cs') σ2 ∧ ∀ c ∈ cs', okC c) ∨ ((g_X1_read_33 n τ (nI c)).1 = 0 ∧ (g_X1_read_33 n τ (nI c)).2 64 0 = σ2 5 0 ∧ ¬ (σ2 7 0 = 0 ∧ σ2 5 0 = σ2 6 0)))
  | 0, c, P, bo, st, cs, τ, σ, h1, h2, _, _, _, _, _ => by exfalso; omega
  | n + 1, c, P, bo, st, cs, τ, σ, h1, h2, hc, hm, ho, hR, hP => by
    have s1 : g_X1_read_33 (n + 1) τ (nI c) = f_X1_read_33 (g_X1_read_33 n) τ (nI c) := rfl
    have s2 : g_X12_room_106 (n + 1) (f_X12_clauseHere σ) (nI (c + 1)) = f_X12_room_106 (g_X12_room_106 n) (f_X12_clauseHere σ) (nI (c + 1)) := rfl
    rw [s1, s2]
    have C := clause_ok htx hc hm
    have lq := clause_q hP
    have kq := (clausx_q hR).1
    unfold f_X1_read_33 f_X12_room_106
    generalize f_X12_clauseHere σ = S at *
    generalize f_X1_takesClause τ = R at *
    obtain ⟨R1, R2⟩ := R
    rw [bd_pair R1 R2]
    rcases C with ⟨r1, P', bo', st', cs', p1, c1, c2, c3⟩ | ⟨r1, Pf, r2, r3⟩
    rotate_left
    · dsimp only at r1 r2 kq
      subst r1
      rw [if_pos (show (0 : Int32) = 0 from rfl), r3.1, if_neg (show ¬ (1 : Int32) = 0 by decide)]
      exact ⟨S, rfl, lq, kq, Or.inr ⟨rfl, r2.trans r3.2.symm, fun z => by rw [r3.1] at z; exact absurd z.1 (by decide)⟩⟩
    dsimp only at r1 c1 kq
    subst r1
    have N100 : N ≤ 100 := c1.2.2.2.2.2.2.2.1
    have PN : P' ≤ N := c1.2.2.2.2.2.2.1
    have okk : ∀ c ∈ cs ++ cs', okC c := fun c hcm => by
      rcases List.mem_append.mp hcm with z | z
      · exact ho c z
      · exact c3 c z
    rw [← xw_app] at c1
    rw [← mw_app] at c2
    -- where it ends
    have fin : ∃ σ2 : St, f_X12_room_148 S = f_X12_room_148 σ2 ∧ LQ σ σ2 ∧ KQ τ (f_X1_read_60 R2).2 ∧ (((f_X1_read_60 R2).1 = 1 ∧ ∃ (cs' : List CR) (bo' st' : Int32), QX tx N bo' st' N (xw cs') (f_X1_read_60 R2).2 ∧ MX tx A N bo' st' N 0 (mw cs') σ2 ∧ ∀ c ∈ cs', okC c) ∨ ((f_X1_read_60 R2).1 = 0 ∧ (f_X1_read_60 R2).2 64 0 = σ2 5 0 ∧ ¬ (σ2 7 0 = 0 ∧ σ2 5 0 = σ2 6 0))) := by
      refine ⟨S, rfl, lq, ?_, ?_⟩
      · unfold f_X1_read_60
        split <;> exact kq
      · have e64 := c1.2.1
        have e63 := c1.1
        have e5 := c2.2.2.2.1
        have e6 := c2.2.2.1
        unfold f_X1_read_60
        by_cases z : P' = N
        · subst z
          rw [if_pos (by rw [e64, e63])]
          exact Or.inl ⟨rfl, cs ++ cs', bo', st', c1, c2, okk⟩
        · have ne : ¬ nI P' = nI N := fun w => z ((nI_eq (by omega) (by omega)).mp w)
          rw [if_neg (by rw [e64, e63]; exact ne)]
          exact Or.inr ⟨rfl, by show R2 64 0 = S 5 0; rw [e64, e5], fun w => ne (by rw [← e5, ← e6]; exact w.2)⟩
    rw [if_neg (show ¬ (1 : Int32) = 0 by decide), if_pos c2.1, nI_s (i := c) (by omega), nI_s (i := c + 1) (by omega)]
    by_cases k : (10 : Int32) ≤ nI (c + 1)
    · rw [if_pos k, if_pos k]
      exact fin
    rw [if_neg k, if_neg k]
    rw [ti_le, nI_toInt (by omega)] at k
    simp at k
    rcases may_eq htx c1 c2 (c := 59) (by decide) with ⟨d1, d2, d3, p, hc1, hm1⟩ | ⟨d1, d2, d3⟩
    rotate_left
    · rw [d1, bd_pair (0 : Int32) R2, if_pos (show (0 : Int32) = 0 from rfl), if_neg d3]
      exact fin
    rw [d1, bd_pair (1 : Int32) (up2 R2 64 0 (R2 64 0 + 1)), if_neg (show ¬ (1 : Int32) = 0 by decide), if_pos d3]
    have rc := kq.2.1
    have tq := (takes_q rc (c := 59) (by decide)).1
    rw [d1] at tq
    have kq2 := kq.tr tq.kq
    have fp1 := hP.lq lq
    have sq := spot_q fp1.1 (by rw [d3]; decide)
    have lq2 := lq.tr (sq.lq fp1.1)
    have fp2 := hP.lq lq2
    have I := rd_loop htx n (c + 1) (P' + 1) bo' st' (cs ++ cs') _ _ (by omega) (by omega) hc1 hm1 okk tq.2.1 fp2
    obtain ⟨σ2, i1, i2, i3, i4⟩ := I
    have e1 : bd1 (f_X12_clauseHere (up2 S 5 0 (S 5 0 + 1))) (fun u139 => g_X12_room_106 n u139 (nI (c + 1 + 1))) = g_X12_room_106 n (f_X12_clauseHere (up2 S 5 0 (S 5 0 + 1))) (nI (c + 1 + 1)) := rfl
    rw [e1]
    exact ⟨σ2, i1, lq2.tr i2, kq2.tr i3, i4⟩
end ROOM
/-! a room's steps are sound -/
theorem cv_e {f : Nat → Int32} {e : EE} {x m : List Int32} {k : Nat} (h : CMP e x m k) : 1 ≤ k ∧ ∀ (n i t : Nat), t + k ≤ 60 → (∀ p v, m[p]? = some v → f (i + p) = v) → cv f n (i + m.length) (t + 1) → cv f (m.length + n) i t := by
  have up : ∀ {n i t : Nat} {v : Int32}, f i = v → v < 0 → v = -1 → 1 ≤ t → cv f n (i + 1) t → cv f (n + 1) i t := fun e1 e2 e3 e4 e5 => by
    unfold cv
    rw [e1, if_pos e2, if_pos e3]
    exact ⟨e4, e5⟩
  refine h (fun _ _ m k => 1 ≤ k ∧ ∀ (n i t : Nat), t + k ≤ 60 → (∀ p v, m[p]? = some v → f (i + p) = v) → cv f n (i + m.length) (t + 1) → cv f (m.length + n) i t) ?_ ?_ ?_ ?_ ?_
  · intro w g v hw hg hv
    refine ⟨by omega, fun n i t ht hm hcv => ?_⟩
    have c := hm 0 _ rfl
    simp only [Nat.add_zero, List.length_singleton] at c hcv ⊢
    rw [Nat.add_comm]
    unfold cv
    have q3 : nI (w + 8 * g + 32 * v) - nI (w + 8 * g + 32 * v) / 8 * 8 = nI w := by
      rw [show (8 : Int32) = nI 8 from rfl, pk_rem (by omega) (by omega) (by omega)]
      congr 1; omega
    rw [c, if_neg (by rw [ti_lt, nI_toInt (by omega)]; simp; omega), q3, nI_toInt (by omega)]
    exact ⟨by omega, by omega, hcv⟩
  · intro e x m k ih
    refine ⟨ih.1, fun n i t ht hm hcv => ?_⟩
    rw [List.length_append, List.length_singleton] at hcv ⊢
    have c := hm m.length (-1) (by rw [List.getElem?_append_right (Nat.le_refl _)]; simp)
    rw [Nat.add_assoc, Nat.add_comm 1 n]
    exact ih.2 (n + 1) i t ht (fun p v hp => hm p v (by rw [List.getElem?_append_left (List.getElem?_eq_some_iff.mp hp).1]; exact hp)) (up c (by decide) rfl (by omega) (by rw [Nat.add_assoc]; exact hcv))
  · intro e x m k ih
    refine ⟨ih.1, fun n i t ht hm hcv => ?_⟩
    rw [List.length_append, show [(-1 : Int32), -1].length = 2 from rfl] at hcv ⊢
    have c := hm m.length (-1) (by rw [List.getElem?_append_right (Nat.le_refl _)]; simp)
    have c' := hm (m.length + 1) (-1) (by rw [List.getElem?_append_right (by omega), Nat.add_sub_cancel_left]; rfl)
    rw [Nat.add_assoc, Nat.add_comm 2 n]
    exact ih.2 (n + 2) i t ht (fun p v hp => hm p v (by rw [List.getElem?_append_left (List.getElem?_eq_some_iff.mp hp).1]; exact hp)) (up c (by decide) rfl (by omega) (up (by rw [Nat.add_assoc]; exact c') (by decide) rfl (by omega) (by rw [Nat.add_assoc, Nat.add_assoc]; exact hcv)))
  · intro e x m k e' x' m' k' ih ih'
    have ci := ih.1
    have ci' := ih'.1
    refine ⟨by omega, fun n i t ht hm hcv => ?_⟩
    simp only [List.length_append, List.length_singleton] at hcv ⊢
    have c := hm (m.length + m'.length) (-2) (by rw [List.getElem?_append_right (by simp)]; simp)
    rw [show m.length + m'.length + 1 + n = m.length + (m'.length + (n + 1)) by omega]
    refine ih.2 _ i t (by omega) (fun p v hp => hm p v (by rw [List.append_assoc, List.getElem?_append_left (List.getElem?_eq_some_iff.mp hp).1]; exact hp)) (ih'.2 _ (i + m.length) (t + 1) (by omega) (fun p v hp => ?_) ?_)
    · have := hm (m.length + p) v (by rw [List.append_assoc, List.getElem?_append_right (by omega), Nat.add_sub_cancel_left, List.getElem?_append_left (List.getElem?_eq_some_iff.mp hp).1]; exact hp)
      rw [Nat.add_assoc]; exact this
    · unfold cv
      rw [Nat.add_assoc i, c, if_pos (by decide), if_neg (by decide), if_neg (by decide)]
      refine ⟨by omega, ?_⟩
      rw [show t + 1 + 1 - 1 = t + 1 by omega, show i + (m.length + m'.length) + 1 = i + (m.length + m'.length + 1) by omega]
      exact hcv
  · intro e x m k e' x' m' k' ih ih'
    have ci := ih.1
    have ci' := ih'.1
    refine ⟨by omega, fun n i t ht hm hcv => ?_⟩
    simp only [List.length_append, List.length_singleton] at hcv ⊢
    have c := hm (m.length + m'.length) (-3) (by rw [List.getElem?_append_right (by simp)]; simp)
    rw [show m.length + m'.length + 1 + n = m.length + (m'.length + (n + 1)) by omega]
    refine ih.2 _ i t (by omega) (fun p v hp => hm p v (by rw [List.append_assoc, List.getElem?_append_left (List.getElem?_eq_some_iff.mp hp).1]; exact hp)) (ih'.2 _ (i + m.length) (t + 1) (by omega) (fun p v hp => ?_) ?_)
    · have := hm (m.length + p) v (by rw [List.append_assoc, List.getElem?_append_right (by omega), Nat.add_sub_cancel_left, List.getElem?_append_left (List.getElem?_eq_some_iff.mp hp).1]; exact hp)
      rw [Nat.add_assoc]; exact this
    · unfold cv
      rw [Nat.add_assoc i, c, if_pos (by decide), if_neg (by decide), if_neg (by decide)]
      refine ⟨by omega, ?_⟩
      rw [show t + 1 + 1 - 1 = t + 1 by omega, show i + (m.length + m'.length) + 1 = i + (m.length + m'.length + 1) by omega]
      exact hcv
theorem cv_cs {f : Nat → Int32} : ∀ (cs : List CR) (i : Nat), (∀ c ∈ cs, okC c) → (∀ p v, (mw cs)[p]? = some v → f (i + p) = v) → cv f (mw cs).length i 0
  | [], _, _, _ => trivial
  | c :: cs, i, hc, hm => by
    obtain ⟨c1, c2, c3, c4, c5⟩ := c
    obtain ⟨k1, k, k2, k3⟩ := hc _ (List.mem_cons_self)
    simp only at k1 k3
    have lx : (mw ((c1, c2, c3, c4, c5) :: cs)).length = c5.length + ((mw cs).length + 1) := by simp [mw]
    rw [lx]
    have cw := hm c5.length ((if c1 then -10 else -200) - nI c3) (by
      show (c5 ++ _)[c5.length]? = _
      rw [List.getElem?_append_right (Nat.le_refl _)]; simp)
    obtain ⟨v1, v2, v3, _⟩ := cl_val c1 true k1
    refine (cv_e k3).2 _ i 0 (by omega) (fun p v hp => hm p v (by
      show (c5 ++ _)[p]? = some v
      rw [List.getElem?_append_left (List.getElem?_eq_some_iff.mp hp).1]; exact hp)) ?_
    unfold cv
    rw [cw, if_pos v1, if_neg v2, if_pos v3]
    refine cv_cs cs _ (fun c h => hc c (List.mem_cons_of_mem _ h)) (fun p v hp => ?_)
    have := hm (c5.length + (1 + p)) v (by
      show (c5 ++ _)[_]? = _
      rw [List.getElem?_append_right (by omega), Nat.add_sub_cancel_left, Nat.add_comm 1 p, List.getElem?_cons_succ]; exact hp)
    rw [show i + c5.length + 1 + p = i + (c5.length + (1 + p)) by omega]; exact this
theorem RMC.hv {d f : Nat → Int32} {r : Nat} (hr : r < 5) (h7 : f 7 = nI r) (h : RMC d f r) : HV f := by
  obtain ⟨cs, k1, k2, k3, k4, k5, k6, k7⟩ := h
  right
  have i1 : ix (211 + f 7) = 211 + r := by rw [h7, show (211 : Int32) = nI 211 from rfl, nI_a (by omega), ix_nI (by omega)]
  have i2 : ix (216 + 140 * f 7) = 216 + 140 * r := by rw [h7, show (140 * nI r : Int32) = nI (140 * r) from pk_mul 140 r, show (216 : Int32) = nI 216 from rfl, nI_a (by omega), ix_nI (by omega)]
  rw [i1, i2, k5, nI_toInt (by omega)]
  exact cv_cs cs _ k1 k7
theorem HD.hv {o : Option Nat} {dt : Nat → Nat → Int32} {f : Nat → Int32} (h : HD o dt f) : HV f := by
  rcases h with ⟨_, h2⟩ | ⟨a, r, _, hr, h2, _, _, h5⟩
  · exact Or.inl h2
  · exact h5.hv hr h2
