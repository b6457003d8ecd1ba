/-! THE TWO SIDES TOGETHER: what a room's code means, the class's side -/
def bt (x : Int64) (i : Nat) : Bool := x.toBitVec.getLsbD i
abbrev sh1 : Int64 := (1 : Int32).toInt64 &&& 63
theorem sh1_v : sh1.toBitVec.smod 64 = 1#64 := by decide
theorem bt_shl (t : Int64) (i : Nat) : bt (t <<< sh1) i = (decide (i < 64) && !decide (i < 1) && bt t (i - 1)) := by
  have e : (t <<< sh1).toBitVec = t.toBitVec <<< (sh1.toBitVec.smod 64) := rfl
  unfold bt
  rw [e, sh1_v, BitVec.shiftLeft_eq', BitVec.getLsbD_shiftLeft]
  rfl
theorem bt_shr (t : Int64) (i : Nat) (h : i < 63) : bt (t >>> sh1) i = bt t (i + 1) := by
  have e : (t >>> sh1).toBitVec = t.toBitVec.sshiftRight' (sh1.toBitVec.smod 64) := rfl
  unfold bt
  rw [e, sh1_v, BitVec.sshiftRight_eq', BitVec.getLsbD_sshiftRight]
  have : (1#64).toNat = 1 := rfl
  rw [this]
  simp only [show ¬ 64 ≤ i by omega, decide_false, Bool.not_false, Bool.true_and, Nat.add_comm 1 i]
  rw [if_pos (by omega)]
theorem bt_or (a b : Int64) (i : Nat) : bt (a ||| b) i = (bt a i || bt b i) := by
  unfold bt
  rw [show (a ||| b).toBitVec = a.toBitVec ||| b.toBitVec from rfl, BitVec.getLsbD_or]
theorem bt_and (a b : Int64) (i : Nat) : bt (a &&& b) i = (bt a i && bt b i) := by
  unfold bt
  rw [show (a &&& b).toBitVec = a.toBitVec &&& b.toBitVec from rfl, BitVec.getLsbD_and]
theorem bt_xor (a b : Int64) (i : Nat) : bt (a ^^^ b) i = (bt a i ^^ bt b i) := by
  unfold bt
  rw [show (a ^^^ b).toBitVec = a.toBitVec ^^^ b.toBitVec from rfl, BitVec.getLsbD_xor]
theorem bt_c0 : ∀ i : Fin 64, bt ((0 : Int32).toInt64) i.val = false := by decide
theorem bt_c1 : ∀ i : Fin 64, bt ((1 : Int32).toInt64) i.val = decide (i.val = 0) := by decide
theorem bt_k1 : ∀ i : Fin 64, bt (1 : Int64) i.val = decide (i.val = 0) := by decide
theorem bt_m2 : ∀ i : Fin 64, bt (-2 : Int64) i.val = !decide (i.val = 0) := by decide
def iB (b : Bool) : Int32 := if b then 1 else 0
theorem tB (t : Int64) (b : Bool) : bt ((t <<< sh1) ||| (iB b).toInt64) 0 = b ∧ ∀ q, q < 63 → bt ((t <<< sh1) ||| (iB b).toInt64) (q + 1) = bt t q := by
  constructor
  · rw [bt_or, bt_shl]
    cases b
    · rw [show bt ((iB false).toInt64) 0 = false from bt_c0 ⟨0, by decide⟩]
      rfl
    · rw [show bt ((iB true).toInt64) 0 = true from bt_c1 ⟨0, by decide⟩]
      rfl
  · intro q hq
    rw [bt_or, bt_shl, Nat.add_sub_cancel]
    have e1 : decide (q + 1 < 64) = true := decide_eq_true (by omega)
    have e2 : decide (q + 1 < 1) = false := decide_eq_false (by omega)
    rw [e1, e2]
    cases b
    · rw [show bt ((iB false).toInt64) (q + 1) = false from bt_c0 ⟨q + 1, by omega⟩]
      simp
    · have e3 : bt ((iB true).toInt64) (q + 1) = decide (q + 1 = 0) := bt_c1 ⟨q + 1, by omega⟩
      rw [e3, decide_eq_false (by omega)]
      simp
theorem tN (t : Int64) : bt (t ^^^ 1) 0 = !bt t 0 ∧ ∀ q, q < 63 → bt (t ^^^ 1) (q + 1) = bt t (q + 1) := by
  constructor
  · have := bt_k1 ⟨0, by decide⟩
    simp only at this
    rw [bt_xor, this]
    simp
  · intro q hq
    have := bt_k1 ⟨q + 1, by omega⟩
    simp only at this
    rw [bt_xor, this]
    simp
theorem tA (t : Int64) : bt ((t >>> sh1) &&& (t ||| -2)) 0 = (bt t 1 && bt t 0) ∧ ∀ q, q < 62 → bt ((t >>> sh1) &&& (t ||| -2)) (q + 1) = bt t (q + 2) := by
  constructor
  · have := bt_m2 ⟨0, by decide⟩
    simp only at this
    rw [bt_and, bt_or, bt_shr t 0 (by omega), this]
    simp
  · intro q hq
    have := bt_m2 ⟨q + 1, by omega⟩
    simp only at this
    rw [bt_and, bt_or, bt_shr t (q + 1) (by omega), this]
    simp
theorem tO (t : Int64) : bt ((t >>> sh1) ||| (t &&& 1)) 0 = (bt t 1 || bt t 0) ∧ ∀ q, q < 62 → bt ((t >>> sh1) ||| (t &&& 1)) (q + 1) = bt t (q + 2) := by
  constructor
  · have := bt_k1 ⟨0, by decide⟩
    simp only at this
    rw [bt_or, bt_and, bt_shr t 0 (by omega), this]
    simp
  · intro q hq
    have := bt_k1 ⟨q + 1, by omega⟩
    simp only at this
    rw [bt_or, bt_and, bt_shr t (q + 1) (by omega), this]
    simp
theorem tE (t : Int64) : lg_cmp (t &&& 1) 1 = 0 ↔ bt t 0 = true := by
  have e : t &&& 1 = if bt t 0 then 1 else 0 := by
    apply Int64.toBitVec_inj.mp
    apply BitVec.eq_of_getLsbD_eq
    intro i hi
    show bt (t &&& 1) i = bt (if bt t 0 then 1 else 0) i
    have k := bt_k1 ⟨i, hi⟩
    simp only at k
    rw [bt_and, k]
    by_cases z : i = 0
    · subst z
      cases h : bt t 0
      · simp; rfl
      · simp; rfl
    · cases h : bt t 0
      · have := bt_c0 ⟨i, hi⟩
        simp only [z, decide_false, Bool.and_false]
        exact this.symm
      · simp [z, k]
  rw [e]
  cases bt t 0
  · simp; decide
  · simp; decide
/-- the numbers that a test may speak of -/
def bx (d : Nat → Int32) (wall n : Int32) : Nat → Int32 := fun j => match j with
  | 0 => d 0
  | 1 => d 1
  | 2 => d 2
  | 3 => d 3 / 10
  | 4 => n - n / 10 * 10
  | _ => wall
theorem le_if (a b : Int32) : (if b ≤ a then (0 : Int32) else 1) = if a < b then 1 else 0 := by
  simp only [ti_lt, ti_le]
  (repeat' split) <;> first | rfl | (exfalso; omega)
theorem nI_s {i : Nat} (h : i < 1000000) : nI i + 1 = nI (i + 1) := by
  rw [ti_eq, ti_add (by rw [nI_toInt (by omega)]; simp; omega) (by rw [nI_toInt (by omega)]; simp; omega), nI_toInt (by omega), nI_toInt (by omega)]
  simp
theorem hold_x {d : Nat → Int32} {wall n : Int32} {w h v : Nat} (hw : w < 6) (hh : h < 3) (hv : v < 100) : f_X2_holds d (nI ((w * 3 + h) * 100 + v)) wall n = if tst w h v (bx d wall n) then 1 else 0 := by
  have q1 : nI ((w * 3 + h) * 100 + v) / 300 = nI w := by
    rw [show (300 : Int32) = nI 300 from rfl, pk_div (by omega) (by omega) (by omega)]
    congr 1; omega
  have q2 : nI ((w * 3 + h) * 100 + v) / 100 = nI (w * 3 + h) := by
    rw [show (100 : Int32) = nI 100 from rfl, pk_div (by omega) (by omega) (by omega)]
    congr 1; omega
  have q3 : nI (w * 3 + h) - nI (w * 3 + h) / 3 * 3 = nI h := by
    rw [show (3 : Int32) = nI 3 from rfl, pk_rem (by omega) (by omega) (by omega)]
    congr 1; omega
  have q4 : nI ((w * 3 + h) * 100 + v) - nI ((w * 3 + h) * 100 + v) / 100 * 100 = nI v := by
    rw [show (100 : Int32) = nI 100 from rfl, pk_rem (by omega) (by omega) (by omega)]
    congr 1; omega
  have key : ∀ a4 : Int32, f_X2_holds_91 d (nI ((w * 3 + h) * 100 + v)) a4 = if (if h = 0 then decide (a4 < nI v) else if h = 1 then decide (a4 = nI v) else decide (nI v < a4)) then 1 else 0 := by
    intro a4
    unfold f_X2_holds_91
    rw [q4, q2, q3, le_if, le_if]
    have : h = 0 ∨ h = 1 ∨ h = 2 := by omega
    rcases this with rfl | rfl | rfl <;> simp (decide := true)
  unfold f_X2_holds
  rw [q1]
  simp only [key]
  unfold tst
  have : w = 0 ∨ w = 1 ∨ w = 2 ∨ w = 3 ∨ w = 4 ∨ w = 5 := by omega
  rcases this with rfl | rfl | rfl | rfl | rfl | rfl <;> simp (decide := true) only [bx, if_true, if_false]
section TOTAL
variable {dr d : Nat → Int32} {s wall n : Int32} {N : Nat}
theorem tot_op (hN : dr 2 = nI N) (hN2 : N ≤ 100) {i : Nat} (hi : i < N) {F : Nat} {a5 : Int32} {a6 : Int64} : g_X2_total_9 (F + 1) dr d s wall n a5 a6 (nI i) = f_X2_total_9 (g_X2_total_9 F) dr d s wall n a5 a6 (nI i) ∧ ¬ dr 2 ≤ nI i ∧ ix (nI i) = i ∧ nI i + 1 = nI (i + 1) := by
  refine ⟨rfl, ?_, ?_, nI_s (by omega)⟩
  · rw [hN, ti_le, nI_toInt (by omega), nI_toInt (by omega)]
    omega
  · have := ti_ix (i := nI i) (by rw [nI_toInt (by omega)]; omega)
    rw [nI_toInt (by omega)] at this
    omega
theorem w7 (q r : Nat) (hr : r < 8) (hq : q * 8 + r < 2 ^ 31) : nI (q * 8 + r) &&& 7 = nI r ∧ nI (q * 8 + r) >>> ((3 : Int32) &&& 31) = nI q := by
  constructor
  · rw [pk_andN (by omega) 3 (by decide)]
    congr 1; omega
  · rw [pk_shrN hq _ 3 (by decide)]
    congr 1; omega
/-- what the code of one E does to the truths -/
theorem tot_e (hN : dr 2 = nI N) (hN2 : N ≤ 100) {e : EE} {x m : List Int32} {k : Nat} (h : CMP e x m k) : 1 ≤ k ∧ ∀ (F i : Nat) (a5 : Int32) (a6 : Int64), k ≤ 60 → i + x.length ≤ N → (∀ p v, x[p]? = some v → dr (3 + (i + p)) = v) → ∃ a6' : Int64, g_X2_total_9 (F + x.length) dr d s wall n a5 a6 (nI i) = g_X2_total_9 F dr d s wall n a5 a6' (nI (i + x.length)) ∧ bt a6' 0 = e (bx d wall n) ∧ ∀ q, q + k < 63 → bt a6' (q + 1) = bt a6 q := by
  refine h (fun e x _ k => 1 ≤ k ∧ ∀ (F i : Nat) (a5 : Int32) (a6 : Int64), k ≤ 60 → i + x.length ≤ N → (∀ p v, x[p]? = some v → dr (3 + (i + p)) = v) → ∃ a6' : Int64, g_X2_total_9 (F + x.length) dr d s wall n a5 a6 (nI i) = g_X2_total_9 F dr d s wall n a5 a6' (nI (i + x.length)) ∧ bt a6' 0 = e (bx d wall n) ∧ ∀ q, q + k < 63 → bt a6' (q + 1) = bt a6 q) ?_ ?_ ?_ ?_ ?_
  · intro w h v hw hh hv
    refine ⟨by omega, fun F i a5 a6 hk hi hx => ?_⟩
    simp only [List.length_singleton] at hi ⊢
    obtain ⟨r1, r2, r3, r4⟩ := tot_op (d := d) (s := s) (wall := wall) (n := n) hN hN2 (show i < N by omega) (F := F) (a5 := a5) (a6 := a6)
    have c := hx 0 _ rfl
    simp only [Nat.add_zero] at c
    obtain ⟨w1, w2⟩ := w7 ((w * 3 + h) * 100 + v) 0 (by omega) (by omega)
    simp only [Nat.add_zero] at w1 w2
    rw [r1]
    unfold f_X2_total_9 f_X2_total_172
    rw [if_neg r2, r3, c, w1, w2, if_pos (show nI 0 = (0 : Int32) from rfl), hold_x hw hh hv, r4]
    have e1 : (if (if tst w h v (bx d wall n) = true then (1 : Int32) else 0) = 0 then (0 : Int32) else 1) = iB (tst w h v (bx d wall n)) := by
      unfold iB
      cases tst w h v (bx d wall n) <;> simp
    rw [e1]
    obtain ⟨t1, t2⟩ := tB a6 (tst w h v (bx d wall n))
    exact ⟨_, rfl, t1, fun q hq => t2 q (by omega)⟩
  · intro e x m k ih
    refine ⟨ih.1, fun F i a5 a6 hk hi hx => ?_⟩
    rw [List.length_append, List.length_singleton] at hi ⊢
    obtain ⟨a6', s1, s2, s3⟩ := ih.2 (F + 1) i a5 a6 (by omega) (by omega) (fun p v hp => hx p v (by rw [List.getElem?_append_left (List.getElem?_eq_some_iff.mp hp).1]; exact hp))
    obtain ⟨r1, r2, r3, r4⟩ := tot_op (d := d) (s := s) (wall := wall) (n := n) hN hN2 (show i + x.length < N by omega) (F := F) (a5 := a5) (a6 := a6')
    have c := hx x.length 1 (by rw [List.getElem?_append_right (Nat.le_refl _)]; simp)
    rw [show F + (x.length + 1) = F + 1 + x.length by omega, s1, r1]
    unfold f_X2_total_9 f_X2_total_172
    rw [if_neg r2, r3, c, if_neg (by decide), if_pos (by decide), r4]
    obtain ⟨t1, t2⟩ := tN a6'
    exact ⟨_, rfl, by rw [t1, s2], fun q hq => by rw [t2 q (by omega), s3 q hq]⟩
  · intro e x m k ih
    exact ih
  · intro e x m k e' x' m' k' ih ih'
    have ci := ih.1
    have ci' := ih'.1
    refine ⟨by omega, fun F i a5 a6 hk hi hx => ?_⟩
    simp only [List.length_append, List.length_singleton] at hi ⊢
    obtain ⟨a6', s1, s2, s3⟩ := ih.2 (F + (x'.length + 1)) i a5 a6 (by omega) (by omega) (fun p v hp => hx p v (by rw [List.append_assoc, List.getElem?_append_left (List.getElem?_eq_some_iff.mp hp).1]; exact hp))
    obtain ⟨a7, u1, u2, u3⟩ := ih'.2 (F + 1) (i + x.length) a5 a6' (by omega) (by omega) (fun p v hp => by
      have := hx (x.length + p) v (by rw [List.append_assoc, List.getElem?_append_right (by omega), Nat.add_sub_cancel_left, List.getElem?_append_left (List.getElem?_eq_some_iff.mp hp).1]; exact hp)
      rw [Nat.add_assoc]; exact this)
    obtain ⟨r1, r2, r3, r4⟩ := tot_op (d := d) (s := s) (wall := wall) (n := n) hN hN2 (show i + x.length + x'.length < N by omega) (F := F) (a5 := a5) (a6 := a7)
    have c := hx (x.length + x'.length) 2 (by rw [List.getElem?_append_right (by simp)]; simp)
    rw [show F + (x.length + x'.length + 1) = F + (x'.length + 1) + x.length by omega, s1, show F + (x'.length + 1) = F + 1 + x'.length by omega, u1, r1]
    unfold f_X2_total_9 f_X2_total_172
    rw [if_neg r2, r3, Nat.add_assoc i, c, if_neg (by decide), if_neg (by decide), if_pos (by decide), ← Nat.add_assoc i, r4]
    obtain ⟨t1, t2⟩ := tA a7
    refine ⟨_, by rw [← Nat.add_assoc, ← Nat.add_assoc], ?_, fun q hq => ?_⟩
    · rw [t1, u2, u3 0 (by omega), s2]
    · rw [t2 q (by omega), u3 (q + 1) (by omega), s3 q (by omega)]
  · intro e x m k e' x' m' k' ih ih'
    have ci := ih.1
    have ci' := ih'.1
    refine ⟨by omega, fun F i a5 a6 hk hi hx => ?_⟩
    simp only [List.length_append, List.length_singleton] at hi ⊢
    obtain ⟨a6', s1, s2, s3⟩ := ih.2 (F + (x'.length + 1)) i a5 a6 (by omega) (by omega) (fun p v hp => hx p v (by rw [List.append_assoc, List.getElem?_append_left (List.getElem?_eq_some_iff.mp hp).1]; exact hp))
    obtain ⟨a7, u1, u2, u3⟩ := ih'.2 (F + 1) (i + x.length) a5 a6' (by omega) (by omega) (fun p v hp => by
      have := hx (x.length + p) v (by rw [List.append_assoc, List.getElem?_append_right (by omega), Nat.add_sub_cancel_left, List.getElem?_append_left (List.getElem?_eq_some_iff.mp hp).1]; exact hp)
      rw [Nat.add_assoc]; exact this)
    obtain ⟨r1, r2, r3, r4⟩ := tot_op (d := d) (s := s) (wall := wall) (n := n) hN hN2 (show i + x.length + x'.length < N by omega) (F := F) (a5 := a5) (a6 := a7)
    have c := hx (x.length + x'.length) 3 (by rw [List.getElem?_append_right (by simp)]; simp)
    rw [show F + (x.length + x'.length + 1) = F + (x'.length + 1) + x.length by omega, s1, show F + (x'.length + 1) = F + 1 + x'.length by omega, u1, r1]
    unfold f_X2_total_9 f_X2_total_172
    rw [if_neg r2, r3, Nat.add_assoc i, c, if_neg (by decide), if_neg (by decide), if_neg (by decide), if_pos (by decide), ← Nat.add_assoc i, r4]
    obtain ⟨t1, t2⟩ := tO a7
    refine ⟨_, by rw [← Nat.add_assoc, ← Nat.add_assoc], ?_, fun q hq => ?_⟩
    · rw [t1, u2, u3 0 (by omega), s2]
    · rw [t2 q (by omega), u3 (q + 1) (by omega), s3 q (by omega)]
/-- the n of all clauses of a sort whose E holds, together -/
def sums (b : Nat → Int32) (o : Bool) : List CR → Int32
  | [] => 0
  | c :: cs => (if c.1 = o ∧ c.2.1 b = true then nI c.2.2.1 else 0) + sums b o cs
theorem tot_cs (hN : dr 2 = nI N) (hN2 : N ≤ 100) {o : Bool} (hs : s = if o then 4 else 5) : ∀ (cs : List CR) (F i : Nat) (a5 : Int32) (a6 : Int64), (∀ c ∈ cs, okC c) → i + (xw cs).length = N → (xw cs).length + 1 ≤ F → (∀ p v, (xw cs)[p]? = some v → dr (3 + (i + p)) = v) → g_X2_total_9 F dr d s wall n a5 a6 (nI i) = a5 + sums (bx d wall n) o cs
  | [], F, i, a5, a6, hc, hi, hF, hx => by
    obtain ⟨F', rfl⟩ : ∃ F', F = F' + 1 := ⟨F - 1, by simp [xw] at hF; omega⟩
    show f_X2_total_9 (g_X2_total_9 F') dr d s wall n a5 a6 (nI i) = _
    unfold f_X2_total_9
    have : i = N := by simp [xw] at hi; exact hi
    rw [if_pos (by rw [hN, this]; exact Int32.le_refl _), sums, Int32.add_zero]
  | c :: cs, F, i, a5, a6, hc, hi, hF, hx => by
    obtain ⟨c1, c2, c3, c4, c5⟩ := c
    obtain ⟨k1, k, k2, k3⟩ := hc _ (List.mem_cons_self)
    simp only at k1 k3
    have lx : (xw ((c1, c2, c3, c4, c5) :: cs)).length = c4.length + ((xw cs).length + 1) := by simp [xw]
    rw [lx] at hi hF
    obtain ⟨F', rfl⟩ : ∃ F', F = F' + 1 + c4.length := ⟨F - 1 - c4.length, by omega⟩
    obtain ⟨_, te⟩ := tot_e (d := d) (s := s) (wall := wall) (n := n) hN hN2 k3
    obtain ⟨a6', s1, s2, _⟩ := te (F' + 1) i a5 a6 (by omega) (by omega) (fun p v hp => hx p v (by
      show (c4 ++ _)[p]? = some v
      rw [List.getElem?_append_left (List.getElem?_eq_some_iff.mp hp).1]; exact hp))
    obtain ⟨r1, r2, r3, r4⟩ := tot_op (d := d) (s := s) (wall := wall) (n := n) hN hN2 (show i + c4.length < N by omega) (F := F') (a5 := a5) (a6 := a6')
    have cw := hx c4.length (nI (c3 * 8 + if c1 then 4 else 5)) (by
      show (c4 ++ _)[c4.length]? = _
      rw [List.getElem?_append_right (Nat.le_refl _)]; simp)
    have rest := fun (b5 : Int32) => tot_cs hN hN2 hs cs F' (i + c4.length + 1) b5 0 (fun c h => hc c (List.mem_cons_of_mem _ h)) (by omega) (by omega) (fun p v hp => by
      have := hx (c4.length + (1 + p)) v (by
        show (c4 ++ _)[_]? = _
        rw [List.getElem?_append_right (by omega), Nat.add_sub_cancel_left, Nat.add_comm 1 p, List.getElem?_cons_succ]; exact hp)
      rw [show i + c4.length + 1 + p = i + (c4.length + (1 + p)) by omega]; exact this)
    rw [s1, r1]
    unfold f_X2_total_9 f_X2_total_172
    rw [if_neg r2, r3, cw]
    have op : nI (c3 * 8 + if c1 then 4 else 5) &&& 7 = nI (if c1 then 4 else 5) ∧ nI (c3 * 8 + if c1 then 4 else 5) >>> ((3 : Int32) &&& 31) = nI c3 := w7 c3 _ (by split <;> decide) (by split <;> omega)
    rw [op.1, op.2, r4]
    have o0 : ¬ nI (if c1 = true then 4 else 5) = (0 : Int32) := by cases c1 <;> decide
    have o1 : ¬ nI (if c1 = true then 4 else 5) = (1 : Int32) := by cases c1 <;> decide
    have o2 : ¬ nI (if c1 = true then 4 else 5) = (2 : Int32) := by cases c1 <;> decide
    have o3 : ¬ nI (if c1 = true then 4 else 5) = (3 : Int32) := by cases c1 <;> decide
    rw [if_neg o0, if_neg o1, if_neg o2, if_neg o3, rest, rest]
    show _ = a5 + ((if c1 = o ∧ c2 (bx d wall n) = true then nI c3 else 0) + sums (bx d wall n) o cs)
    rw [← Int32.add_assoc a5]
    have so : nI (if c1 = true then 4 else 5) = s ↔ c1 = o := by
      rw [hs]
      cases c1 <;> cases o <;> simp (decide := true)
    by_cases q : c1 = o
    · rw [if_pos (so.mpr q)]
      congr 2
      by_cases z : c2 (bx d wall n) = true
      · rw [if_pos (by rw [tE, s2]; exact z), if_pos ⟨q, z⟩]
      · rw [if_neg (by rw [tE, s2]; exact z), if_neg (fun y => z y.2)]
    · rw [if_neg (fun y => q (so.mp y)), if_neg (fun y => q y.1)]
end TOTAL
