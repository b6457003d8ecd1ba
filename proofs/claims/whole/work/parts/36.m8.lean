
/-! counting the states that are come to: for the walks of cups -/
def cnt (f : Nat → Int32) : Nat → Nat
  | 0 => 0
  | n + 1 => cnt f n + if 0 ≤ (f n).toInt then 1 else 0
theorem cnt_le (f : Nat → Int32) : ∀ n, cnt f n ≤ n
  | 0 => Nat.le_refl 0
  | n + 1 => by
    have h := cnt_le f n
    show cnt f n + (if 0 ≤ (f n).toInt then 1 else 0) ≤ n + 1
    split <;> omega
theorem cnt_lt {f : Nat → Int32} {s : Nat} (h : (f s).toInt < 0) : ∀ n, s < n → cnt f n < n
  | 0, hs => absurd hs (Nat.not_lt_zero _)
  | n + 1, hs => by
    show cnt f n + (if 0 ≤ (f n).toInt then 1 else 0) < n + 1
    by_cases e : s = n
    · subst e
      rw [if_neg (by omega)]
      have := cnt_le f s
      omega
    · have := cnt_lt h n (by omega)
      split <;> omega
theorem cnt_eq {f k : Nat → Int32} : ∀ n, (∀ i, i < n → f i = k i) → cnt f n = cnt k n
  | 0, _ => rfl
  | n + 1, h => by
    show cnt f n + (if 0 ≤ (f n).toInt then 1 else 0) = cnt k n + (if 0 ≤ (k n).toInt then 1 else 0)
    rw [cnt_eq n (fun i hi => h i (by omega)), h n (by omega)]
theorem cnt_up {f k : Nat → Int32} {s : Nat} (h : (f s).toInt < 0) (hv : 0 ≤ (k s).toInt) (hk : ∀ i, i ≠ s → k i = f i) : ∀ n, s < n → cnt k n = cnt f n + 1
  | 0, hs => absurd hs (Nat.not_lt_zero _)
  | n + 1, hs => by
    show cnt k n + (if 0 ≤ (k n).toInt then 1 else 0) = cnt f n + (if 0 ≤ (f n).toInt then 1 else 0) + 1
    by_cases e : s = n
    · subst e
      rw [if_pos hv, if_neg (by omega), cnt_eq s (fun i hi => hk i (by omega))]
    · rw [cnt_up h hv hk n (by omega), hk n (fun q => e q.symm)]
      omega
theorem cnt_neg {f : Nat → Int32} : ∀ n, (∀ i, i < n → (f i).toInt < 0) → cnt f n = 0
  | 0, _ => rfl
  | n + 1, h => by
    show cnt f n + (if 0 ≤ (f n).toInt then 1 else 0) = 0
    have := h n (by omega)
    rw [cnt_neg n (fun i hi => h i (by omega)), if_neg (by omega)]
