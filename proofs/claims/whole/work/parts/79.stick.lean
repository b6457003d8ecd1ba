/-! THE TWO SIDES TOGETHER: stick, row, image, undo -/
theorem IB.knd {f : Nat → Int32} (hI : IB f) {i0 : Nat} {v : Int32} (h0 : i0 < 6) (h1 : 0 ≤ v.toInt ∧ v.toInt ≤ 6) : IB (upd f (9 + i0) v) := by
  refine ⟨?_, ?_, ?_, ?_, ?_, ?_, ?_, ?_, ?_, fun i hi => ?_, fun i hi => ?_, fun i hi => ?_, fun i hi => ?_, fun i hi => ?_, fun i hi => ?_, fun i hi => ?_, fun i hi => ?_, fun i hi => ?_, fun i hi => ?_, fun i hi => ?_, fun i hi => ?_, fun i hi => ?_⟩
  · have q := hI.1
    have q2 := hI.2.2.1
    simp only [upd] at *
    (repeat' split) <;> omega
  · have q := hI.2.1
    have q2 := hI.2.2.1
    simp only [upd] at *
    (repeat' split) <;> omega
  · have q := hI.2.2.1
    have q2 := hI.2.2.1
    simp only [upd] at *
    (repeat' split) <;> omega
  · have q := hI.2.2.2.1
    have q2 := hI.2.2.1
    simp only [upd] at *
    (repeat' split) <;> omega
  · have q := hI.2.2.2.2.1
    have q2 := hI.2.2.1
    simp only [upd] at *
    (repeat' split) <;> omega
  · have q := hI.2.2.2.2.2.1
    have q2 := hI.2.2.1
    simp only [upd] at *
    (repeat' split) <;> omega
  · have q := hI.2.2.2.2.2.2.1
    have q2 := hI.2.2.1
    simp only [upd] at *
    (repeat' split) <;> omega
  · have q := hI.2.2.2.2.2.2.2.1
    have q2 := hI.2.2.1
    simp only [upd] at *
    (repeat' split) <;> omega
  · have q := hI.2.2.2.2.2.2.2.2.1
    have q2 := hI.2.2.1
    simp only [upd] at *
    (repeat' split) <;> omega
  · have q := hI.2.2.2.2.2.2.2.2.2.1 i
    have b3 := hI.2.2.2.1.2
    have b4 := hI.2.2.2.2.1.2
    have b5 := hI.2.2.2.2.2.1.2
    simp only [upd] at *
    (repeat' split at hi) <;> (repeat' split) <;> first | omega | (have q2 := q (by omega); omega) | (have q3 := hI.2.1; omega)
  · have q := hI.2.2.2.2.2.2.2.2.2.2.1 i
    have b3 := hI.2.2.2.1.2
    have b4 := hI.2.2.2.2.1.2
    have b5 := hI.2.2.2.2.2.1.2
    simp only [upd] at *
    (repeat' split at hi) <;> (repeat' split) <;> first | omega | (have q2 := q (by omega); omega) | (have q3 := hI.2.1; omega)
  · have q := hI.2.2.2.2.2.2.2.2.2.2.2.1 i
    have b3 := hI.2.2.2.1.2
    have b4 := hI.2.2.2.2.1.2
    have b5 := hI.2.2.2.2.2.1.2
    simp only [upd] at *
    (repeat' split at hi) <;> (repeat' split) <;> first | omega | (have q2 := q (by omega); omega) | (have q3 := hI.2.1; omega)
  · have q := hI.2.2.2.2.2.2.2.2.2.2.2.2.1 i
    have b3 := hI.2.2.2.1.2
    have b4 := hI.2.2.2.2.1.2
    have b5 := hI.2.2.2.2.2.1.2
    simp only [upd] at *
    (repeat' split at hi) <;> (repeat' split) <;> first | omega | (have q2 := q (by omega); omega) | (have q3 := hI.2.1; omega)
  · have q := hI.2.2.2.2.2.2.2.2.2.2.2.2.2.1 i
    have b3 := hI.2.2.2.1.2
    have b4 := hI.2.2.2.2.1.2
    have b5 := hI.2.2.2.2.2.1.2
    simp only [upd] at *
    (repeat' split at hi) <;> (repeat' split) <;> first | omega | (have q2 := q (by omega); omega) | (have q3 := hI.2.1; omega)
  · have q := hI.2.2.2.2.2.2.2.2.2.2.2.2.2.2.1 i
    have b3 := hI.2.2.2.1.2
    have b4 := hI.2.2.2.2.1.2
    have b5 := hI.2.2.2.2.2.1.2
    simp only [upd] at *
    (repeat' split at hi) <;> (repeat' split) <;> first | omega | (have q2 := q (by omega); omega) | (have q3 := hI.2.1; omega)
  · have q := hI.2.2.2.2.2.2.2.2.2.2.2.2.2.2.2.1 i
    have b3 := hI.2.2.2.1.2
    have b4 := hI.2.2.2.2.1.2
    have b5 := hI.2.2.2.2.2.1.2
    simp only [upd] at *
    (repeat' split at hi) <;> (repeat' split) <;> first | omega | (have q2 := q (by omega); omega) | (have q3 := hI.2.1; omega)
  · have q := hI.2.2.2.2.2.2.2.2.2.2.2.2.2.2.2.2.1 i
    have b3 := hI.2.2.2.1.2
    have b4 := hI.2.2.2.2.1.2
    have b5 := hI.2.2.2.2.2.1.2
    simp only [upd] at *
    (repeat' split at hi) <;> (repeat' split) <;> first | omega | (have q2 := q (by omega); omega) | (have q3 := hI.2.1; omega)
  · have q := hI.2.2.2.2.2.2.2.2.2.2.2.2.2.2.2.2.2.1 i
    have b3 := hI.2.2.2.1.2
    have b4 := hI.2.2.2.2.1.2
    have b5 := hI.2.2.2.2.2.1.2
    simp only [upd] at *
    (repeat' split at hi) <;> (repeat' split) <;> first | omega | (have q2 := q (by omega); omega) | (have q3 := hI.2.1; omega)
  · have q := hI.2.2.2.2.2.2.2.2.2.2.2.2.2.2.2.2.2.2.1 i
    have b3 := hI.2.2.2.1.2
    have b4 := hI.2.2.2.2.1.2
    have b5 := hI.2.2.2.2.2.1.2
    simp only [upd] at *
    (repeat' split at hi) <;> (repeat' split) <;> first | omega | (have q2 := q (by omega); omega) | (have q3 := hI.2.1; omega)
  · have q := hI.2.2.2.2.2.2.2.2.2.2.2.2.2.2.2.2.2.2.2.1 i
    have b3 := hI.2.2.2.1.2
    have b4 := hI.2.2.2.2.1.2
    have b5 := hI.2.2.2.2.2.1.2
    simp only [upd] at *
    (repeat' split at hi) <;> (repeat' split) <;> first | omega | (have q2 := q (by omega); omega) | (have q3 := hI.2.1; omega)
  · have q := hI.2.2.2.2.2.2.2.2.2.2.2.2.2.2.2.2.2.2.2.2.1 i
    have b3 := hI.2.2.2.1.2
    have b4 := hI.2.2.2.2.1.2
    have b5 := hI.2.2.2.2.2.1.2
    simp only [upd] at *
    (repeat' split at hi) <;> (repeat' split) <;> first | omega | (have q2 := q (by omega); omega) | (have q3 := hI.2.1; omega)
  · have q := hI.2.2.2.2.2.2.2.2.2.2.2.2.2.2.2.2.2.2.2.2.2 i
    have b3 := hI.2.2.2.1.2
    have b4 := hI.2.2.2.2.1.2
    have b5 := hI.2.2.2.2.2.1.2
    simp only [upd] at *
    (repeat' split at hi) <;> (repeat' split) <;> first | omega | (have q2 := q (by omega); omega) | (have q3 := hI.2.1; omega)
theorem IB.vv {f : Nat → Int32} (hI : IB f) {i0 : Nat} {v : Int32} (h0 : i0 < 6) (h1 : 0 ≤ v.toInt ∧ v.toInt ≤ 9) : IB (upd f (15 + i0) v) := by
  refine ⟨?_, ?_, ?_, ?_, ?_, ?_, ?_, ?_, ?_, fun i hi => ?_, fun i hi => ?_, fun i hi => ?_, fun i hi => ?_, fun i hi => ?_, fun i hi => ?_, fun i hi => ?_, fun i hi => ?_, fun i hi => ?_, fun i hi => ?_, fun i hi => ?_, fun i hi => ?_, fun i hi => ?_⟩
  · have q := hI.1
    have q2 := hI.2.2.1
    simp only [upd] at *
    (repeat' split) <;> omega
  · have q := hI.2.1
    have q2 := hI.2.2.1
    simp only [upd] at *
    (repeat' split) <;> omega
  · have q := hI.2.2.1
    have q2 := hI.2.2.1
    simp only [upd] at *
    (repeat' split) <;> omega
  · have q := hI.2.2.2.1
    have q2 := hI.2.2.1
    simp only [upd] at *
    (repeat' split) <;> omega
  · have q := hI.2.2.2.2.1
    have q2 := hI.2.2.1
    simp only [upd] at *
    (repeat' split) <;> omega
  · have q := hI.2.2.2.2.2.1
    have q2 := hI.2.2.1
    simp only [upd] at *
    (repeat' split) <;> omega
  · have q := hI.2.2.2.2.2.2.1
    have q2 := hI.2.2.1
    simp only [upd] at *
    (repeat' split) <;> omega
  · have q := hI.2.2.2.2.2.2.2.1
    have q2 := hI.2.2.1
    simp only [upd] at *
    (repeat' split) <;> omega
  · have q := hI.2.2.2.2.2.2.2.2.1
    have q2 := hI.2.2.1
    simp only [upd] at *
    (repeat' split) <;> omega
  · have q := hI.2.2.2.2.2.2.2.2.2.1 i
    have b3 := hI.2.2.2.1.2
    have b4 := hI.2.2.2.2.1.2
    have b5 := hI.2.2.2.2.2.1.2
    simp only [upd] at *
    (repeat' split at hi) <;> (repeat' split) <;> first | omega | (have q2 := q (by omega); omega) | (have q3 := hI.2.1; omega)
  · have q := hI.2.2.2.2.2.2.2.2.2.2.1 i
    have b3 := hI.2.2.2.1.2
    have b4 := hI.2.2.2.2.1.2
    have b5 := hI.2.2.2.2.2.1.2
    simp only [upd] at *
    (repeat' split at hi) <;> (repeat' split) <;> first | omega | (have q2 := q (by omega); omega) | (have q3 := hI.2.1; omega)
  · have q := hI.2.2.2.2.2.2.2.2.2.2.2.1 i
    have b3 := hI.2.2.2.1.2
    have b4 := hI.2.2.2.2.1.2
    have b5 := hI.2.2.2.2.2.1.2
    simp only [upd] at *
    (repeat' split at hi) <;> (repeat' split) <;> first | omega | (have q2 := q (by omega); omega) | (have q3 := hI.2.1; omega)
  · have q := hI.2.2.2.2.2.2.2.2.2.2.2.2.1 i
    have b3 := hI.2.2.2.1.2
    have b4 := hI.2.2.2.2.1.2
    have b5 := hI.2.2.2.2.2.1.2
    simp only [upd] at *
    (repeat' split at hi) <;> (repeat' split) <;> first | omega | (have q2 := q (by omega); omega) | (have q3 := hI.2.1; omega)
  · have q := hI.2.2.2.2.2.2.2.2.2.2.2.2.2.1 i
    have b3 := hI.2.2.2.1.2
    have b4 := hI.2.2.2.2.1.2
    have b5 := hI.2.2.2.2.2.1.2
    simp only [upd] at *
    (repeat' split at hi) <;> (repeat' split) <;> first | omega | (have q2 := q (by omega); omega) | (have q3 := hI.2.1; omega)
  · have q := hI.2.2.2.2.2.2.2.2.2.2.2.2.2.2.1 i
    have b3 := hI.2.2.2.1.2
    have b4 := hI.2.2.2.2.1.2
    have b5 := hI.2.2.2.2.2.1.2
    simp only [upd] at *
    (repeat' split at hi) <;> (repeat' split) <;> first | omega | (have q2 := q (by omega); omega) | (have q3 := hI.2.1; omega)
  · have q := hI.2.2.2.2.2.2.2.2.2.2.2.2.2.2.2.1 i
    have b3 := hI.2.2.2.1.2
    have b4 := hI.2.2.2.2.1.2
    have b5 := hI.2.2.2.2.2.1.2
    simp only [upd] at *
    (repeat' split at hi) <;> (repeat' split) <;> first | omega | (have q2 := q (by omega); omega) | (have q3 := hI.2.1; omega)
  · have q := hI.2.2.2.2.2.2.2.2.2.2.2.2.2.2.2.2.1 i
    have b3 := hI.2.2.2.1.2
    have b4 := hI.2.2.2.2.1.2
    have b5 := hI.2.2.2.2.2.1.2
    simp only [upd] at *
    (repeat' split at hi) <;> (repeat' split) <;> first | omega | (have q2 := q (by omega); omega) | (have q3 := hI.2.1; omega)
  · have q := hI.2.2.2.2.2.2.2.2.2.2.2.2.2.2.2.2.2.1 i
    have b3 := hI.2.2.2.1.2
    have b4 := hI.2.2.2.2.1.2
    have b5 := hI.2.2.2.2.2.1.2
    simp only [upd] at *
    (repeat' split at hi) <;> (repeat' split) <;> first | omega | (have q2 := q (by omega); omega) | (have q3 := hI.2.1; omega)
  · have q := hI.2.2.2.2.2.2.2.2.2.2.2.2.2.2.2.2.2.2.1 i
    have b3 := hI.2.2.2.1.2
    have b4 := hI.2.2.2.2.1.2
    have b5 := hI.2.2.2.2.2.1.2
    simp only [upd] at *
    (repeat' split at hi) <;> (repeat' split) <;> first | omega | (have q2 := q (by omega); omega) | (have q3 := hI.2.1; omega)
  · have q := hI.2.2.2.2.2.2.2.2.2.2.2.2.2.2.2.2.2.2.2.1 i
    have b3 := hI.2.2.2.1.2
    have b4 := hI.2.2.2.2.1.2
    have b5 := hI.2.2.2.2.2.1.2
    simp only [upd] at *
    (repeat' split at hi) <;> (repeat' split) <;> first | omega | (have q2 := q (by omega); omega) | (have q3 := hI.2.1; omega)
  · have q := hI.2.2.2.2.2.2.2.2.2.2.2.2.2.2.2.2.2.2.2.2.1 i
    have b3 := hI.2.2.2.1.2
    have b4 := hI.2.2.2.2.1.2
    have b5 := hI.2.2.2.2.2.1.2
    simp only [upd] at *
    (repeat' split at hi) <;> (repeat' split) <;> first | omega | (have q2 := q (by omega); omega) | (have q3 := hI.2.1; omega)
  · have q := hI.2.2.2.2.2.2.2.2.2.2.2.2.2.2.2.2.2.2.2.2.2 i
    have b3 := hI.2.2.2.1.2
    have b4 := hI.2.2.2.2.1.2
    have b5 := hI.2.2.2.2.2.1.2
    simp only [upd] at *
    (repeat' split at hi) <;> (repeat' split) <;> first | omega | (have q2 := q (by omega); omega) | (have q3 := hI.2.1; omega)
theorem IB.lng {f : Nat → Int32} (hI : IB f) {i0 : Nat} {v : Int32} (h0 : i0 < 6) (h1 : 0 ≤ v.toInt ∧ v.toInt ≤ 60) : IB (upd f (21 + i0) v) := by
  refine ⟨?_, ?_, ?_, ?_, ?_, ?_, ?_, ?_, ?_, fun i hi => ?_, fun i hi => ?_, fun i hi => ?_, fun i hi => ?_, fun i hi => ?_, fun i hi => ?_, fun i hi => ?_, fun i hi => ?_, fun i hi => ?_, fun i hi => ?_, fun i hi => ?_, fun i hi => ?_, fun i hi => ?_⟩
  · have q := hI.1
    have q2 := hI.2.2.1
    simp only [upd] at *
    (repeat' split) <;> omega
  · have q := hI.2.1
    have q2 := hI.2.2.1
    simp only [upd] at *
    (repeat' split) <;> omega
  · have q := hI.2.2.1
    have q2 := hI.2.2.1
    simp only [upd] at *
    (repeat' split) <;> omega
  · have q := hI.2.2.2.1
    have q2 := hI.2.2.1
    simp only [upd] at *
    (repeat' split) <;> omega
  · have q := hI.2.2.2.2.1
    have q2 := hI.2.2.1
    simp only [upd] at *
    (repeat' split) <;> omega
  · have q := hI.2.2.2.2.2.1
    have q2 := hI.2.2.1
    simp only [upd] at *
    (repeat' split) <;> omega
  · have q := hI.2.2.2.2.2.2.1
    have q2 := hI.2.2.1
    simp only [upd] at *
    (repeat' split) <;> omega
  · have q := hI.2.2.2.2.2.2.2.1
    have q2 := hI.2.2.1
    simp only [upd] at *
    (repeat' split) <;> omega
  · have q := hI.2.2.2.2.2.2.2.2.1
    have q2 := hI.2.2.1
    simp only [upd] at *
    (repeat' split) <;> omega
  · have q := hI.2.2.2.2.2.2.2.2.2.1 i
    have b3 := hI.2.2.2.1.2
    have b4 := hI.2.2.2.2.1.2
    have b5 := hI.2.2.2.2.2.1.2
    simp only [upd] at *
    (repeat' split at hi) <;> (repeat' split) <;> first | omega | (have q2 := q (by omega); omega) | (have q3 := hI.2.1; omega)
  · have q := hI.2.2.2.2.2.2.2.2.2.2.1 i
    have b3 := hI.2.2.2.1.2
    have b4 := hI.2.2.2.2.1.2
    have b5 := hI.2.2.2.2.2.1.2
    simp only [upd] at *
    (repeat' split at hi) <;> (repeat' split) <;> first | omega | (have q2 := q (by omega); omega) | (have q3 := hI.2.1; omega)
  · have q := hI.2.2.2.2.2.2.2.2.2.2.2.1 i
    have b3 := hI.2.2.2.1.2
    have b4 := hI.2.2.2.2.1.2
    have b5 := hI.2.2.2.2.2.1.2
    simp only [upd] at *
    (repeat' split at hi) <;> (repeat' split) <;> first | omega | (have q2 := q (by omega); omega) | (have q3 := hI.2.1; omega)
  · have q := hI.2.2.2.2.2.2.2.2.2.2.2.2.1 i
    have b3 := hI.2.2.2.1.2
    have b4 := hI.2.2.2.2.1.2
    have b5 := hI.2.2.2.2.2.1.2
    simp only [upd] at *
    (repeat' split at hi) <;> (repeat' split) <;> first | omega | (have q2 := q (by omega); omega) | (have q3 := hI.2.1; omega)
  · have q := hI.2.2.2.2.2.2.2.2.2.2.2.2.2.1 i
    have b3 := hI.2.2.2.1.2
    have b4 := hI.2.2.2.2.1.2
    have b5 := hI.2.2.2.2.2.1.2
    simp only [upd] at *
    (repeat' split at hi) <;> (repeat' split) <;> first | omega | (have q2 := q (by omega); omega) | (have q3 := hI.2.1; omega)
  · have q := hI.2.2.2.2.2.2.2.2.2.2.2.2.2.2.1 i
    have b3 := hI.2.2.2.1.2
    have b4 := hI.2.2.2.2.1.2
    have b5 := hI.2.2.2.2.2.1.2
    simp only [upd] at *
    (repeat' split at hi) <;> (repeat' split) <;> first | omega | (have q2 := q (by omega); omega) | (have q3 := hI.2.1; omega)
  · have q := hI.2.2.2.2.2.2.2.2.2.2.2.2.2.2.2.1 i
    have b3 := hI.2.2.2.1.2
    have b4 := hI.2.2.2.2.1.2
    have b5 := hI.2.2.2.2.2.1.2
    simp only [upd] at *
    (repeat' split at hi) <;> (repeat' split) <;> first | omega | (have q2 := q (by omega); omega) | (have q3 := hI.2.1; omega)
  · have q := hI.2.2.2.2.2.2.2.2.2.2.2.2.2.2.2.2.1 i
    have b3 := hI.2.2.2.1.2
    have b4 := hI.2.2.2.2.1.2
    have b5 := hI.2.2.2.2.2.1.2
    simp only [upd] at *
    (repeat' split at hi) <;> (repeat' split) <;> first | omega | (have q2 := q (by omega); omega) | (have q3 := hI.2.1; omega)
  · have q := hI.2.2.2.2.2.2.2.2.2.2.2.2.2.2.2.2.2.1 i
    have b3 := hI.2.2.2.1.2
    have b4 := hI.2.2.2.2.1.2
    have b5 := hI.2.2.2.2.2.1.2
    simp only [upd] at *
    (repeat' split at hi) <;> (repeat' split) <;> first | omega | (have q2 := q (by omega); omega) | (have q3 := hI.2.1; omega)
  · have q := hI.2.2.2.2.2.2.2.2.2.2.2.2.2.2.2.2.2.2.1 i
    have b3 := hI.2.2.2.1.2
    have b4 := hI.2.2.2.2.1.2
    have b5 := hI.2.2.2.2.2.1.2
    simp only [upd] at *
    (repeat' split at hi) <;> (repeat' split) <;> first | omega | (have q2 := q (by omega); omega) | (have q3 := hI.2.1; omega)
  · have q := hI.2.2.2.2.2.2.2.2.2.2.2.2.2.2.2.2.2.2.2.1 i
    have b3 := hI.2.2.2.1.2
    have b4 := hI.2.2.2.2.1.2
    have b5 := hI.2.2.2.2.2.1.2
    simp only [upd] at *
    (repeat' split at hi) <;> (repeat' split) <;> first | omega | (have q2 := q (by omega); omega) | (have q3 := hI.2.1; omega)
  · have q := hI.2.2.2.2.2.2.2.2.2.2.2.2.2.2.2.2.2.2.2.2.1 i
    have b3 := hI.2.2.2.1.2
    have b4 := hI.2.2.2.2.1.2
    have b5 := hI.2.2.2.2.2.1.2
    simp only [upd] at *
    (repeat' split at hi) <;> (repeat' split) <;> first | omega | (have q2 := q (by omega); omega) | (have q3 := hI.2.1; omega)
  · have q := hI.2.2.2.2.2.2.2.2.2.2.2.2.2.2.2.2.2.2.2.2.2 i
    have b3 := hI.2.2.2.1.2
    have b4 := hI.2.2.2.2.1.2
    have b5 := hI.2.2.2.2.2.1.2
    simp only [upd] at *
    (repeat' split at hi) <;> (repeat' split) <;> first | omega | (have q2 := q (by omega); omega) | (have q3 := hI.2.1; omega)
theorem IB.rw {f : Nat → Int32} (hI : IB f) {i0 : Nat} {v : Int32} (h0 : i0 < 24) (h1 : 0 ≤ v.toInt ∧ v.toInt ≤ 9) : IB (upd f (27 + i0) v) := by
  refine ⟨?_, ?_, ?_, ?_, ?_, ?_, ?_, ?_, ?_, fun i hi => ?_, fun i hi => ?_, fun i hi => ?_, fun i hi => ?_, fun i hi => ?_, fun i hi => ?_, fun i hi => ?_, fun i hi => ?_, fun i hi => ?_, fun i hi => ?_, fun i hi => ?_, fun i hi => ?_, fun i hi => ?_⟩
  · have q := hI.1
    have q2 := hI.2.2.1
    simp only [upd] at *
    (repeat' split) <;> omega
  · have q := hI.2.1
    have q2 := hI.2.2.1
    simp only [upd] at *
    (repeat' split) <;> omega
  · have q := hI.2.2.1
    have q2 := hI.2.2.1
    simp only [upd] at *
    (repeat' split) <;> omega
  · have q := hI.2.2.2.1
    have q2 := hI.2.2.1
    simp only [upd] at *
    (repeat' split) <;> omega
  · have q := hI.2.2.2.2.1
    have q2 := hI.2.2.1
    simp only [upd] at *
    (repeat' split) <;> omega
  · have q := hI.2.2.2.2.2.1
    have q2 := hI.2.2.1
    simp only [upd] at *
    (repeat' split) <;> omega
  · have q := hI.2.2.2.2.2.2.1
    have q2 := hI.2.2.1
    simp only [upd] at *
    (repeat' split) <;> omega
  · have q := hI.2.2.2.2.2.2.2.1
    have q2 := hI.2.2.1
    simp only [upd] at *
    (repeat' split) <;> omega
  · have q := hI.2.2.2.2.2.2.2.2.1
    have q2 := hI.2.2.1
    simp only [upd] at *
    (repeat' split) <;> omega
  · have q := hI.2.2.2.2.2.2.2.2.2.1 i
    have b3 := hI.2.2.2.1.2
    have b4 := hI.2.2.2.2.1.2
    have b5 := hI.2.2.2.2.2.1.2
    simp only [upd] at *
    (repeat' split at hi) <;> (repeat' split) <;> first | omega | (have q2 := q (by omega); omega) | (have q3 := hI.2.1; omega)
  · have q := hI.2.2.2.2.2.2.2.2.2.2.1 i
    have b3 := hI.2.2.2.1.2
    have b4 := hI.2.2.2.2.1.2
    have b5 := hI.2.2.2.2.2.1.2
    simp only [upd] at *
    (repeat' split at hi) <;> (repeat' split) <;> first | omega | (have q2 := q (by omega); omega) | (have q3 := hI.2.1; omega)
  · have q := hI.2.2.2.2.2.2.2.2.2.2.2.1 i
    have b3 := hI.2.2.2.1.2
    have b4 := hI.2.2.2.2.1.2
    have b5 := hI.2.2.2.2.2.1.2
    simp only [upd] at *
    (repeat' split at hi) <;> (repeat' split) <;> first | omega | (have q2 := q (by omega); omega) | (have q3 := hI.2.1; omega)
  · have q := hI.2.2.2.2.2.2.2.2.2.2.2.2.1 i
    have b3 := hI.2.2.2.1.2
    have b4 := hI.2.2.2.2.1.2
    have b5 := hI.2.2.2.2.2.1.2
    simp only [upd] at *
    (repeat' split at hi) <;> (repeat' split) <;> first | omega | (have q2 := q (by omega); omega) | (have q3 := hI.2.1; omega)
  · have q := hI.2.2.2.2.2.2.2.2.2.2.2.2.2.1 i
    have b3 := hI.2.2.2.1.2
    have b4 := hI.2.2.2.2.1.2
    have b5 := hI.2.2.2.2.2.1.2
    simp only [upd] at *
    (repeat' split at hi) <;> (repeat' split) <;> first | omega | (have q2 := q (by omega); omega) | (have q3 := hI.2.1; omega)
  · have q := hI.2.2.2.2.2.2.2.2.2.2.2.2.2.2.1 i
    have b3 := hI.2.2.2.1.2
    have b4 := hI.2.2.2.2.1.2
    have b5 := hI.2.2.2.2.2.1.2
    simp only [upd] at *
    (repeat' split at hi) <;> (repeat' split) <;> first | omega | (have q2 := q (by omega); omega) | (have q3 := hI.2.1; omega)
  · have q := hI.2.2.2.2.2.2.2.2.2.2.2.2.2.2.2.1 i
    have b3 := hI.2.2.2.1.2
    have b4 := hI.2.2.2.2.1.2
    have b5 := hI.2.2.2.2.2.1.2
    simp only [upd] at *
    (repeat' split at hi) <;> (repeat' split) <;> first | omega | (have q2 := q (by omega); omega) | (have q3 := hI.2.1; omega)
  · have q := hI.2.2.2.2.2.2.2.2.2.2.2.2.2.2.2.2.1 i
    have b3 := hI.2.2.2.1.2
    have b4 := hI.2.2.2.2.1.2
    have b5 := hI.2.2.2.2.2.1.2
    simp only [upd] at *
    (repeat' split at hi) <;> (repeat' split) <;> first | omega | (have q2 := q (by omega); omega) | (have q3 := hI.2.1; omega)
  · have q := hI.2.2.2.2.2.2.2.2.2.2.2.2.2.2.2.2.2.1 i
    have b3 := hI.2.2.2.1.2
    have b4 := hI.2.2.2.2.1.2
    have b5 := hI.2.2.2.2.2.1.2
    simp only [upd] at *
    (repeat' split at hi) <;> (repeat' split) <;> first | omega | (have q2 := q (by omega); omega) | (have q3 := hI.2.1; omega)
  · have q := hI.2.2.2.2.2.2.2.2.2.2.2.2.2.2.2.2.2.2.1 i
    have b3 := hI.2.2.2.1.2
    have b4 := hI.2.2.2.2.1.2
    have b5 := hI.2.2.2.2.2.1.2
    simp only [upd] at *
    (repeat' split at hi) <;> (repeat' split) <;> first | omega | (have q2 := q (by omega); omega) | (have q3 := hI.2.1; omega)
  · have q := hI.2.2.2.2.2.2.2.2.2.2.2.2.2.2.2.2.2.2.2.1 i
    have b3 := hI.2.2.2.1.2
    have b4 := hI.2.2.2.2.1.2
    have b5 := hI.2.2.2.2.2.1.2
    simp only [upd] at *
    (repeat' split at hi) <;> (repeat' split) <;> first | omega | (have q2 := q (by omega); omega) | (have q3 := hI.2.1; omega)
  · have q := hI.2.2.2.2.2.2.2.2.2.2.2.2.2.2.2.2.2.2.2.2.1 i
    have b3 := hI.2.2.2.1.2
    have b4 := hI.2.2.2.2.1.2
    have b5 := hI.2.2.2.2.2.1.2
    simp only [upd] at *
    (repeat' split at hi) <;> (repeat' split) <;> first | omega | (have q2 := q (by omega); omega) | (have q3 := hI.2.1; omega)
  · have q := hI.2.2.2.2.2.2.2.2.2.2.2.2.2.2.2.2.2.2.2.2.2 i
    have b3 := hI.2.2.2.1.2
    have b4 := hI.2.2.2.2.1.2
    have b5 := hI.2.2.2.2.2.1.2
    simp only [upd] at *
    (repeat' split at hi) <;> (repeat' split) <;> first | omega | (have q2 := q (by omega); omega) | (have q3 := hI.2.1; omega)
theorem IB.cg {f f' : Nat → Int32} (hI : IB f) (e : ∀ j, j < 916 → f' j = f j) : IB f' := by
  refine ⟨?_, ?_, ?_, ?_, ?_, ?_, ?_, ?_, ?_, fun i hi => ?_, fun i hi => ?_, fun i hi => ?_, fun i hi => ?_, fun i hi => ?_, fun i hi => ?_, fun i hi => ?_, fun i hi => ?_, fun i hi => ?_, fun i hi => ?_, fun i hi => ?_, fun i hi => ?_, fun i hi => ?_⟩
  · rw [e 0 (by decide)]; exact hI.1
  · rw [e 1 (by decide)]; exact hI.2.1
  · rw [e 2 (by decide)]; exact hI.2.2.1
  · rw [e 3 (by decide)]; exact hI.2.2.2.1
  · rw [e 4 (by decide)]; exact hI.2.2.2.2.1
  · rw [e 5 (by decide)]; exact hI.2.2.2.2.2.1
  · rw [e 6 (by decide)]; exact hI.2.2.2.2.2.2.1
  · rw [e 7 (by decide), e 2 (by decide)]; exact hI.2.2.2.2.2.2.2.1
  · rw [e 8 (by decide)]; exact hI.2.2.2.2.2.2.2.2.1
  · have q := hI.2.2.2.2.2.2.2.2.2.1 i hi
    rw [e (9 + i) (by omega)]; exact q
  · have q := hI.2.2.2.2.2.2.2.2.2.2.1 i hi
    rw [e (15 + i) (by omega)]; exact q
  · have q := hI.2.2.2.2.2.2.2.2.2.2.2.1 i hi
    rw [e (21 + i) (by omega)]; exact q
  · have q := hI.2.2.2.2.2.2.2.2.2.2.2.2.1 i hi
    rw [e (27 + i) (by omega)]; exact q
  · have q := hI.2.2.2.2.2.2.2.2.2.2.2.2.2.1 i hi
    rw [e (51 + i) (by omega), e (57 + i) (by omega)]; exact q
  · have q := hI.2.2.2.2.2.2.2.2.2.2.2.2.2.2.1 i hi
    rw [e (63 + i) (by omega)]; exact q
  · rw [e 3 (by decide)] at hi
    have b := hI.2.2.2.1
    have q := hI.2.2.2.2.2.2.2.2.2.2.2.2.2.2.2.1 i hi
    rw [e (71 + i) (by omega)]; exact q
  · rw [e 4 (by decide)] at hi
    have b := hI.2.2.2.2.1
    have q := hI.2.2.2.2.2.2.2.2.2.2.2.2.2.2.2.2.1 i hi
    rw [e (79 + i) (by omega)]; exact q
  · rw [e 5 (by decide)] at hi
    have b := hI.2.2.2.2.2.1
    have q := hI.2.2.2.2.2.2.2.2.2.2.2.2.2.2.2.2.2.1 i hi
    rw [e (85 + i) (by omega), e 1 (by decide)]; exact q
  · rw [e 5 (by decide)] at hi
    have b := hI.2.2.2.2.2.1
    have q := hI.2.2.2.2.2.2.2.2.2.2.2.2.2.2.2.2.2.2.1 i hi
    rw [e (93 + i) (by omega)]; exact q
  · have q := hI.2.2.2.2.2.2.2.2.2.2.2.2.2.2.2.2.2.2.2.1 i hi
    rw [e (201 + i) (by omega)]; exact q
  · have q := hI.2.2.2.2.2.2.2.2.2.2.2.2.2.2.2.2.2.2.2.2.1 i hi
    rw [e (206 + i) (by omega)]; exact q
  · have q := hI.2.2.2.2.2.2.2.2.2.2.2.2.2.2.2.2.2.2.2.2.2 i hi
    rw [e (211 + i) (by omega)]; exact q
theorem RN.off {b : Nat} {τ : St} {f : Nat → Int32} (h : RN b τ f) {j : Nat} {v : Int32} (hj : 9 ≤ j ∧ j < 51 ∨ 201 ≤ j ∨ j = 7) : RN b τ (upd f j v) := by
  rw [RN_iff] at h ⊢
  intro k i j' hp
  have r := h k i j' hp
  simp only [upd]
  rw [if_neg (by unfold PM at hp; omega)]
  exact r
theorem RN.cg {b : Nat} {τ : St} {f f' : Nat → Int32} (h : RN b τ f) (e : ∀ j, j < 916 → f' j = f j) : RN b τ f' := by
  rw [RN_iff] at h ⊢
  intro k i j hp
  rw [e j (by unfold PM at hp; omega)]
  exact h k i j hp
theorem RMC.cg {d f f' : Nat → Int32} {r : Nat} (hr : r < 5) (h : RMC d f r) (e : ∀ j, 201 ≤ j → j < 916 → f' j = f j) : RMC d f' r := by
  obtain ⟨cs, k1, k2, k3, k4, k5, k6, k7⟩ := h
  refine ⟨cs, k1, k2, k3, k4, by rw [e _ (by omega) (by omega)]; exact k5, k6, fun i v hv => ?_⟩
  have := (List.getElem?_eq_some_iff.mp hv).1
  rw [e _ (by omega) (by omega)]
  exact k7 i v hv
theorem HD.cg {o : Option Nat} {dt dt' : Nat → Nat → Int32} {f f' : Nat → Int32} (h : HD o dt f) (e7 : f' 7 = f 7) (e : ∀ j, 201 ≤ j → j < 916 → f' j = f j) (ed : ∀ a, o = some a → dt' a = dt a) : HD o dt' f' := by
  rcases h with ⟨h1, h2⟩ | ⟨a, r, h1, hr, h2, h3, h4, h5⟩
  · exact Or.inl ⟨h1, by rw [e7]; exact h2⟩
  · refine Or.inr ⟨a, r, h1, hr, by rw [e7]; exact h2, ?_, ?_, ?_⟩
    · rw [ed a h1, e _ (by omega) (by omega)]; exact h3
    · rw [ed a h1, e _ (by omega) (by omega)]; exact h4
    · rw [ed a h1]; exact h5.cg hr e
theorem cv_cg {f f' : Nat → Int32} : ∀ (n i t : Nat), (∀ j, i ≤ j → j < i + n → f' j = f j) → cv f n i t → cv f' n i t
  | 0, _, _, _, _ => trivial
  | n + 1, i, t, h, c => by
    unfold cv at c ⊢
    rw [h i (Nat.le_refl i) (by omega)]
    have h' : ∀ j, i + 1 ≤ j → j < i + 1 + n → f' j = f j := fun j hj hk => h j (by omega) (by omega)
    split
    · rw [if_pos (by assumption)] at c
      split
      · rw [if_pos (by assumption)] at c
        exact ⟨c.1, cv_cg n _ _ h' c.2⟩
      · rw [if_neg (by assumption)] at c
        split
        · rw [if_pos (by assumption)] at c
          exact cv_cg n _ _ h' c
        · rw [if_neg (by assumption)] at c
          exact ⟨c.1, cv_cg n _ _ h' c.2⟩
    · rw [if_neg (by assumption)] at c
      exact ⟨c.1, c.2.1, cv_cg n _ _ h' c.2.2⟩
theorem HV.cg {f f' : Nat → Int32} (h : HV f) (hI : IB f) (e7 : f' 7 = f 7) (e : ∀ j, 201 ≤ j → j < 916 → f' j = f j) : HV f' := by
  unfold HV at h ⊢
  rw [e7]
  by_cases c : f 7 = -1
  · exact Or.inl c
  obtain ⟨r, hr, t7, e7⟩ := hold_ix hI c
  rcases h with h | h
  · exact absurd h c
  right
  have i1 : ix (211 + f 7) = 211 + r := by rw [ixS (n := 211) rfl (by omega) (by decide) (by omega)]; have := ti_ix (i := f 7) (by omega); omega
  have m1 : (140 * f 7).toInt = 140 * r := by rw [ti_mul (by rw [t7]; simp; omega) (by rw [t7]; simp; omega), t7]; rfl
  have i2 : ix (216 + 140 * f 7) = 216 + 140 * r := by rw [ixS (n := 216) rfl (by omega) (by decide) (by omega)]; have := ti_ix (i := 140 * f 7) (by omega); omega
  have b := hI.2.2.2.2.2.2.2.2.2.2.2.2.2.2.2.2.2.2.2.2.2 r hr
  rw [i1, i2] at h ⊢
  rw [e _ (by omega) (by omega)]
  exact cv_cg _ _ _ (fun j hj hk => e j (by omega) (by omega)) h
theorem SD.cg {d d' f f' : Nat → Int32} {i : Nat} (hi : i < 6) (h : SD d f i) (ed : d' = d) (e : ∀ j, 9 ≤ j → j < 51 → f' j = f j) : SD d' f' i := by
  subst ed
  obtain ⟨d0, d1, d2, d3, d4⟩ := h
  exact ⟨d0, by rw [e _ (by omega) (by omega)]; exact d1, by rw [e _ (by omega) (by omega)]; exact d2, by rw [e _ (by omega) (by omega)]; exact d3, fun z j hj => by rw [e _ (by omega) (by omega)]; exact d4 z j hj⟩
/-- all that is spoken of was made before h0 -/
def FR (ρ : RR) (h0 : Nat) : Prop := ∀ a, ((∃ i, ρ 24 i = some a) ∨ (∃ i, ρ 44 i = some a) ∨ ρ 22 0 = some a ∨ ρ 42 0 = some a) → a < h0
theorem upR_ne {ρ : RR} {k r : Nat} {f : Nat → Option Nat} (h : r ≠ k) : upR ρ k f r = ρ r := by
  unfold upR
  rw [if_neg h]
theorem upR_eq {ρ : RR} {k : Nat} {f : Nat → Option Nat} : upR ρ k f k = f := by
  unfold upR
  rw [if_pos rfl]
theorem upD_ne {dt : Nat → Nat → Int32} {a b : Nat} {d : Nat → Int32} (h : b ≠ a) : upD dt a d b = dt b := by
  unfold upD
  rw [if_neg h]
theorem upD_eq {dt : Nat → Nat → Int32} {a : Nat} {d : Nat → Int32} : upD dt a d a = d := by
  unfold upD
  rw [if_pos rfl]
/-- the kept state under a change of the state now -/
theorem kept_cg {ρ ρ' : RR} {dt dt' : Nat → Nat → Int32} {f : Nat → Int32} (hI : IB f) (h : RK 40 ρ dt f) (e1 : ρ' 44 = ρ 44) (e2 : ρ' 42 = ρ 42) (e3 : ∀ a, ((∃ i, ρ 44 i = some a) ∨ ρ 42 0 = some a) → dt' a = dt a) : RK 40 ρ' dt' f := by
  have b0 := hI.1
  refine ⟨fun i hi => ?_, ?_⟩
  · obtain ⟨a, h1, h2⟩ := h.1 i hi
    exact ⟨a, by show ρ' 44 i = some a; rw [e1]; exact h1, h2.cg (by omega) (e3 a (Or.inl ⟨i, h1⟩)) (fun _ _ _ => rfl)⟩
  · have q : ρ' 42 0 = ρ 42 0 := by rw [e2]
    show HD (ρ' 42 0) dt' f
    rw [q]
    exact h.2.cg rfl (fun _ _ _ => rfl) (fun a ha => e3 a (Or.inr ha))
section CALLS7
variable {ρ : RR} {dt : Nat → Nat → Int32} {τ σ : St}
/-- a new stick's row is cleared -/
theorem st_loop {x : Nat} (hx : x < 6) : ∀ (n j : Nat) (σ' : St), j ≤ 4 → j + n ≥ 5 → g_X12_stick_93 n σ' (nI x) (nI j) = (nI x, up2 (if j ≤ 3 then (if j ≤ 2 then (if j ≤ 1 then (if j ≤ 0 then up2 (up2 (up2 (up2 σ' 1 (27 + 4 * x + 0) 0) 1 (27 + 4 * x + 1) 0) 1 (27 + 4 * x + 2) 0) 1 (27 + 4 * x + 3) 0 else up2 (up2 (up2 σ' 1 (27 + 4 * x + 1) 0) 1 (27 + 4 * x + 2) 0) 1 (27 + 4 * x + 3) 0) else up2 (up2 σ' 1 (27 + 4 * x + 2) 0) 1 (27 + 4 * x + 3) 0) else up2 σ' 1 (27 + 4 * x + 3) 0) else σ') 1 0 (σ' 1 0 + 1))
  | 0, j, σ', j1, j2 => by exfalso; omega
  | n + 1, j, σ', j1, j2 => by
    have s1 : g_X12_stick_93 (n + 1) σ' (nI x) (nI j) = f_X12_stick_93 (g_X12_stick_93 n) σ' (nI x) (nI j) := rfl
    rw [s1]
    unfold f_X12_stick_93
    by_cases c : (4 : Int32) ≤ nI j
    · rw [if_pos c]
      rw [ti_le, nI_toInt (by omega)] at c
      simp at c
      rw [if_neg (by omega)]
    · rw [if_neg c]
      rw [ti_le, nI_toInt (by omega)] at c
      simp at c
      have r4 : ix (27 + 4 * nI x + nI j) = 27 + 4 * x + j := by
        rw [show (4 * nI x : Int32) = nI (4 * x) from pk_mul 4 x, show (27 : Int32) = nI 27 from rfl, nI_a (by omega), nI_a (by omega), ix_nI (by omega)]
      rw [r4, nI_s (by omega), st_loop hx n (j + 1) _ (by omega) (by omega), up2_pl (show (0 : Nat) ≠ 27 + 4 * x + j by omega)]
      have : j = 0 ∨ j = 1 ∨ j = 2 ∨ j = 3 := by omega
      rcases this with rfl | rfl | rfl | rfl <;> rfl
theorem stick_ok (h : RLL ρ dt τ σ) {h0 : Nat} (hf : FR ρ h0) (a b c : Int32) {v : Int32} {u : X3} (hu : f_X11_stick h0 a b c (ρ, dt, τ) v u) : v = (f_X12_stick σ a b c).1 ∧ RLL u.1 u.2.1 u.2.2 (f_X12_stick σ a b c).2 := by
  obtain ⟨⟨n1, k1, b1, v1⟩, ⟨f1, f2⟩, g, e3, e4⟩ := id h
  have e0 : τ 25 0 = σ 1 0 := n1.n0
  have b0 := b1.1
  unfold f_X12_stick
  unfold f_X11_stick at hu
  dsimp only at hu
  rw [e0] at hu
  rcases hu with ⟨c1, rfl, rfl⟩ | ⟨c1, c2, rfl, rfl⟩ | ⟨c1, c2, c3, rfl, rfl⟩ | ⟨c1, c2, c3, q, hq, rfl, rfl⟩
  · rw [if_pos (show f_X12_in a 0 6 = 0 by rw [in_iff]; simpa using c1)]
    exact ⟨rfl, h⟩
  · rw [if_neg (show ¬ f_X12_in a 0 6 = 0 by rw [in_iff]; simp; omega)]
    by_cases z : 0 ≤ b.toInt ∧ b.toInt ≤ 9
    · rw [if_neg (show ¬ f_X12_in b 0 9 = 0 by rw [in_iff]; simp; omega), if_pos (show f_X12_in c 2 60 = 0 by rw [in_iff]; simp; omega)]
      exact ⟨rfl, h⟩
    · rw [if_pos (show f_X12_in b 0 9 = 0 by rw [in_iff]; simp; omega)]
      exact ⟨rfl, h⟩
  · rw [if_neg (show ¬ f_X12_in a 0 6 = 0 by rw [in_iff]; simp; omega), if_neg (show ¬ f_X12_in b 0 9 = 0 by rw [in_iff]; simp; omega), if_neg (show ¬ f_X12_in c 2 60 = 0 by rw [in_iff]; simp; omega), if_pos (show σ 1 0 = 6 by rw [ti_eq]; simp; omega)]
    exact ⟨rfl, h⟩
  · rw [if_neg (show ¬ f_X12_in a 0 6 = 0 by rw [in_iff]; simp; omega), if_neg (show ¬ f_X12_in b 0 9 = 0 by rw [in_iff]; simp; omega), if_neg (show ¬ f_X12_in c 2 60 = 0 by rw [in_iff]; simp; omega), if_neg (show ¬ σ 1 0 = 6 by rw [ti_eq]; simp; omega)]
    obtain ⟨x, hx', hx⟩ := nn_nI b0.1
    have t := nI_toInt hx'
    have hx6 : x < 6 := by rw [hx, t] at c3; omega
    have i9 : ix (9 + nI x) = 9 + x := by rw [ixS (n := 9) rfl (by rw [t]; omega) (by decide) (by rw [t]; omega), ix_nI (by omega)]
    have i15 : ix (15 + nI x) = 15 + x := by rw [ixS (n := 15) rfl (by rw [t]; omega) (by decide) (by rw [t]; omega), ix_nI (by omega)]
    have i21 : ix (21 + nI x) = 21 + x := by rw [ixS (n := 21) rfl (by rw [t]; omega) (by decide) (by rw [t]; omega), ix_nI (by omega)]
    rw [hx, i9, i15, i21, show (0 : Int32) = nI 0 from rfl, st_loop hx6 5 0 _ (by omega) (by omega)]
    simp only [Nat.le_refl, if_true, show (0 : Nat) ≤ 3 by decide, show (0 : Nat) ≤ 2 by decide, show (0 : Nat) ≤ 1 by decide]
    rw [up2_pl (show (0 : Nat) ≠ 21 + x by omega), up2_pl (show (0 : Nat) ≠ 15 + x by omega), up2_pl (show (0 : Nat) ≠ 9 + x by omega), hx, ix_nI (by omega), nI_s (by omega)]
    refine ⟨nI_p, ?_⟩
    generalize hS : up2 (up2 (up2 (up2 (up2 (up2 (up2 (up2 σ 1 (9 + x) a) 1 (15 + x) b) 1 (21 + x) c) 1 (27 + 4 * x + 0) 0) 1 (27 + 4 * x + 1) 0) 1 (27 + 4 * x + 2) 0) 1 (27 + 4 * x + 3) 0) 1 0 (nI (x + 1)) = S
    have So : ∀ r, r ≠ 1 → S r = σ r := fun r hr => by rw [← hS]; simp only [up2_row hr]
    have S1 : S 1 = upd (upd (upd (upd (upd (upd (upd (upd (σ 1) (9 + x) a) (15 + x) b) (21 + x) c) (27 + (4 * x + 0)) 0) (27 + (4 * x + 1)) 0) (27 + (4 * x + 2)) 0) (27 + (4 * x + 3)) 0) 0 (nI (x + 1)) := by rw [← hS, ← Nat.add_assoc, ← Nat.add_assoc, ← Nat.add_assoc, ← Nat.add_assoc]; rfl
    have hI' : IB (S 1) := by
      rw [S1]
      exact (((((((b1.knd hx6 ⟨c1.1, c1.2⟩).vv hx6 ⟨c2.1, c2.2.1⟩).lng hx6 ⟨by omega, c2.2.2.2⟩).rw (by omega) (by decide)).rw (by omega) (by decide)).rw (by omega) (by decide)).rw (by omega) (by decide)).c0 (by rw [nI_toInt (by omega)]; omega)
    have Sk : ∀ j, ¬ (9 ≤ j ∧ j < 51) → j ≠ 0 → S 1 j = σ 1 j := fun j h1 h2 => by
      rw [S1]
      simp only [upd]
      rw [if_neg (by omega), if_neg (by omega), if_neg (by omega), if_neg (by omega), if_neg (by omega), if_neg (by omega), if_neg (by omega), if_neg (by omega)]
    have n' : RN 20 (up2 τ 25 0 (nI (x + 1))) (S 1) := by
      rw [S1]
      exact ((((((((n1.off (by omega)).off (by omega)).off (by omega)).off (by omega)).off (by omega)).off (by omega)).off (by omega)).up (nI (x + 1)) PM.n0)
    have Si : ∀ i, i < x → ∀ j, (j = 9 + i ∨ j = 15 + i ∨ j = 21 + i ∨ (27 + 4 * i ≤ j ∧ j < 31 + 4 * i)) → S 1 j = σ 1 j := fun i hi j hj => by
      rw [S1]
      simp only [upd]
      rw [if_neg (by omega), if_neg (by omega), if_neg (by omega), if_neg (by omega), if_neg (by omega), if_neg (by omega), if_neg (by omega), if_neg (by omega)]
    have qn : ∀ a', ((∃ i, ρ 24 i = some a') ∨ (∃ i, ρ 44 i = some a') ∨ ρ 22 0 = some a' ∨ ρ 42 0 = some a') → a' ≠ q := fun a' ha => by have := hf a' ha; omega
    have k' : RK 20 (upR ρ 24 (va_up (ρ 24) x (some q))) (upD dt q (dS (nI x) a b c)) (S 1) := by
      refine ⟨fun i hi => ?_, ?_⟩
      · have z : S 1 0 = nI (x + 1) := by rw [← hS]; exact up2_same
        rw [z, nI_toInt (by omega)] at hi
        show ∃ a', upR ρ 24 (va_up (ρ 24) x (some q)) 24 i = some a' ∧ _
        rw [upR_eq]
        by_cases y : i = x
        · subst y
          refine ⟨q, by simp [va_up], ?_⟩
          rw [upD_eq, S1]
          refine ⟨rfl, ?_, ?_, ?_, fun z j hj => ?_⟩
          · show a = _
            simp only [upd]
            rw [if_neg (by omega), if_neg (by omega), if_neg (by omega), if_neg (by omega), if_neg (by omega), if_neg (by omega), if_neg (by omega), if_pos trivial]
          · show b = _
            simp only [upd]
            rw [if_neg (by omega), if_neg (by omega), if_neg (by omega), if_neg (by omega), if_neg (by omega), if_neg (by omega), if_pos trivial]
          · show c = _
            simp only [upd]
            rw [if_neg (by omega), if_neg (by omega), if_neg (by omega), if_neg (by omega), if_neg (by omega), if_pos trivial]
          · have z0 : dS (nI i) a b c (4 + j) = 0 := by
              have : j = 0 ∨ j = 1 ∨ j = 2 ∨ j = 3 := by omega
              rcases this with rfl | rfl | rfl | rfl <;> rfl
            rw [z0]
            simp only [upd]
            rw [if_neg (by omega)]
            have : j = 0 ∨ j = 1 ∨ j = 2 ∨ j = 3 := by omega
            rcases this with rfl | rfl | rfl | rfl
            · rw [if_neg (by omega), if_neg (by omega), if_neg (by omega), if_pos (by omega)]
            · rw [if_neg (by omega), if_neg (by omega), if_pos (by omega)]
            · rw [if_neg (by omega), if_pos (by omega)]
            · rw [if_pos (by omega)]
        · obtain ⟨a', r1, d0, d1, d2, d3, d4⟩ := k1.1 i (by rw [hx, t]; omega)
          have ne := qn a' (Or.inl ⟨i, r1⟩)
          refine ⟨a', by simp only [va_up]; rw [if_neg y]; exact r1, ?_⟩
          rw [upD_ne ne]
          have ix' : i < x := by omega
          exact ⟨d0, by rw [Si i ix' _ (by omega)]; exact d1, by rw [Si i ix' _ (by omega)]; exact d2, by rw [Si i ix' _ (by omega)]; exact d3, fun z j hj => by rw [Si i ix' _ (by omega)]; exact d4 z j hj⟩
      · show HD (upR ρ 24 (va_up (ρ 24) x (some q)) 22 0) _ _
        rw [upR_ne (by decide)]
        exact k1.2.cg (Sk 7 (by omega) (by omega)) (fun j h1 h2 => Sk j (by omega) (by omega)) (fun a' ha => upD_ne (qn a' (Or.inr (Or.inr (Or.inl ha)))))
    have v' : HVT (S 1) := ⟨v1.1.cg b1 (Sk 7 (by omega) (by omega)) (fun j h1 h2 => Sk j (by omega) (by omega)), fun j hj => by rw [Sk _ (by omega) (by omega)]; exact v1.2 j hj⟩
    refine ⟨⟨n', k', hI', v'⟩, ⟨?_, ?_⟩, ⟨?_, ?_, ?_⟩, ?_, ?_⟩
    · rw [up2_row (by decide), So 3 (by decide)]; exact f1
    · rw [So 3 (by decide), So 2 (by decide)]
      rcases f2 with f2 | ⟨f2, f3, f4, f5, f6⟩
      · exact Or.inl f2
      · exact Or.inr ⟨f2, f3.kx (fun k h1 h2 => up2_row (by omega)), kept_cg f5 f4 (upR_ne (by decide)) (upR_ne (by decide)) (fun a' ha => upD_ne (qn a' (by rcases ha with ha | ha; exact Or.inr (Or.inl ha); exact Or.inr (Or.inr (Or.inr ha))))), f5, f6⟩
    · rw [up2_row (by decide), So 25 (by decide)]; exact g.1
    · rw [So 25 (by decide)]; exact g.2.1
    · rw [up2_row (by decide), So 24 (by decide)]; exact g.2.2
    · rw [up2_row (by decide)]; exact e3
    · rw [up2_row (by decide)]; exact e4
theorem row_ok (h : RLL ρ dt τ σ) {h0 : Nat} (hf : FR ρ h0) (s k n : Int32) {v : Int32} {u : X3} (hu : f_X11_row h0 s k n (ρ, dt, τ) v u) : v = (f_X12_row σ s k n).1 ∧ RLL u.1 u.2.1 u.2.2 (f_X12_row σ s k n).2 := by
  obtain ⟨⟨n1, k1, b1, v1⟩, ⟨f1, f2⟩, g, e3, e4⟩ := id h
  unfold f_X12_row
  unfold f_X11_row at hu
  dsimp only at hu
  rcases stk_cases n1 k1 b1 s with ⟨h1, h2⟩ | ⟨x, p, rfl, hx6, hxc, h1, h2, hd⟩
  · rw [if_pos h2]
    rcases hu with ⟨c1, rfl, rfl⟩ | ⟨c1, _⟩ | ⟨c1, _⟩ | ⟨c1, _⟩
    · exact ⟨rfl, h⟩
    · exact absurd h1 c1
    · exact absurd h1 c1
    · exact absurd h1 c1
  rw [if_neg h2]
  have t := nI_toInt (show x < 2 ^ 31 by omega)
  have i9 : ix (9 + nI x) = 9 + x := by rw [ixS (n := 9) rfl (by rw [t]; omega) (by decide) (by rw [t]; omega), ix_nI (by omega)]
  rw [h1, show rf (some p) = p from rfl] at hu
  have kd : dt p 1 = σ 1 (9 + x) := hd.2.1
  rcases hu with ⟨c1, rfl, rfl⟩ | ⟨_, c1, c2, rfl, rfl⟩ | ⟨_, c1, c2, c3, rfl, rfl⟩ | ⟨_, c1, c2, c3, q, hq, rfl, rfl⟩
  · have : ¬ (0 ≤ k.toInt ∧ k.toInt ≤ 3) := by rcases c1 with c1 | c1; exact absurd c1 (by simp); exact c1
    rw [if_pos (show f_X12_in k 0 3 = 0 by rw [in_iff]; simpa using this)]
    exact ⟨rfl, h⟩
  · rw [if_neg (show ¬ f_X12_in k 0 3 = 0 by rw [in_iff]; simp; omega), if_pos (show f_X12_in n 0 9 = 0 by rw [in_iff]; simpa using c2)]
    exact ⟨rfl, h⟩
  · rw [if_neg (show ¬ f_X12_in k 0 3 = 0 by rw [in_iff]; simp; omega), if_neg (show ¬ f_X12_in n 0 9 = 0 by rw [in_iff]; simp; omega), i9, ← kd, if_neg c3]
    exact ⟨rfl, h⟩
  · rw [if_neg (show ¬ f_X12_in k 0 3 = 0 by rw [in_iff]; simp; omega), if_neg (show ¬ f_X12_in n 0 9 = 0 by rw [in_iff]; simp; omega), i9, ← kd, if_pos c3]
    obtain ⟨y, hy', rfl⟩ := nn_nI c1.1
    have ty := nI_toInt hy'
    have hy : y < 4 := by omega
    have r4 : ix (27 + 4 * nI x + nI y) = 27 + (4 * x + y) := by
      rw [show (4 * nI x : Int32) = nI (4 * x) from pk_mul 4 x, show (27 : Int32) = nI 27 from rfl, nI_a (by omega), nI_a (by omega), ix_nI (by omega)]
      omega
    have r2 : nI y &&& 3 = nI y := by
      rw [pk_andN (by omega) 2 (by decide)]
      congr 1; omega
    rw [r4, ix_nI (by omega)]
    obtain ⟨d0, d1, d2, d3, d4⟩ := hd
    refine ⟨?_, ?_⟩
    · unfold f_X8_more
      rw [r2, ix_nI (by omega), ← Nat.add_assoc]
      exact d4 c3 y hy
    have qn : ∀ a', ((∃ i, ρ 24 i = some a') ∨ (∃ i, ρ 44 i = some a') ∨ ρ 22 0 = some a' ∨ ρ 42 0 = some a') → a' ≠ q := fun a' ha => by have := hf a' ha; omega
    have Sk : ∀ j, j ≠ 27 + (4 * x + y) → up2 σ 1 (27 + (4 * x + y)) n 1 j = σ 1 j := fun j hj => up2_pl hj
    have hI' : IB (up2 σ 1 (27 + (4 * x + y)) n 1) := b1.rw (by omega) ⟨c2.1, c2.2⟩
    have n' : RN 20 τ (up2 σ 1 (27 + (4 * x + y)) n 1) := n1.off (by omega)
    have b0 := b1.1
    have k' : RK 20 (upR ρ 24 (va_up (ρ 24) x (some q))) (upD dt q (dC (dt p) (nI y) n)) (up2 σ 1 (27 + (4 * x + y)) n 1) := by
      refine ⟨fun i hi => ?_, ?_⟩
      · rw [Sk 0 (by omega)] at hi
        show ∃ a', upR ρ 24 (va_up (ρ 24) x (some q)) 24 i = some a' ∧ _
        rw [upR_eq]
        by_cases z : i = x
        · subst z
          refine ⟨q, by simp [va_up], ?_⟩
          rw [upD_eq]
          have dc : ∀ j, j ≠ 4 + y → dC (dt p) (nI y) n j = dt p j := fun j hj => by
            unfold dC
            rw [ix_nI (by omega), if_neg hj]
          refine ⟨by rw [dc _ (by omega)]; exact d0, by rw [dc _ (by omega), Sk _ (by omega)]; exact d1, by rw [dc _ (by omega), Sk _ (by omega)]; exact d2, by rw [dc _ (by omega), Sk _ (by omega)]; exact d3, fun _ j hj => ?_⟩
          by_cases w : j = y
          · subst w
            rw [show 27 + 4 * i + j = 27 + (4 * i + j) by omega, up2_same]
            unfold dC
            rw [ix_nI (by omega), if_pos rfl]
          · rw [dc _ (by omega), Sk _ (by omega)]; exact d4 c3 j hj
        · obtain ⟨a', r1, m0, m1, m2, m3, m4⟩ := k1.1 i hi
          have ne := qn a' (Or.inl ⟨i, r1⟩)
          refine ⟨a', by simp only [va_up]; rw [if_neg z]; exact r1, ?_⟩
          rw [upD_ne ne]
          exact ⟨m0, by rw [Sk _ (by omega)]; exact m1, by rw [Sk _ (by omega)]; exact m2, by rw [Sk _ (by omega)]; exact m3, fun w j hj => by rw [Sk _ (by omega)]; exact m4 w j hj⟩
      · show HD (upR ρ 24 (va_up (ρ 24) x (some q)) 22 0) _ _
        rw [upR_ne (by decide)]
        exact k1.2.cg (Sk 7 (by omega)) (fun j h1 h2 => Sk j (by omega)) (fun a' ha => upD_ne (qn a' (Or.inr (Or.inr (Or.inl ha)))))
    have v' : HVT (up2 σ 1 (27 + (4 * x + y)) n 1) := ⟨v1.1.cg b1 (Sk 7 (by omega)) (fun j h1 h2 => Sk j (by omega)), fun j hj => by rw [Sk _ (by omega)]; exact v1.2 j hj⟩
    show RLL (upR ρ 24 (va_up (ρ 24) x (some q))) (upD dt q (dC (dt p) (nI y) n)) τ (up2 σ 1 (27 + (4 * x + y)) n)
    refine ⟨⟨n', k', hI', v'⟩, ⟨?_, ?_⟩, ⟨?_, ?_, ?_⟩, e3, e4⟩
    · rw [up2_row (by decide)]; exact f1
    · rw [up2_row (r := 3) (by decide), up2_row (r := 2) (by decide)]
      rcases f2 with f2 | ⟨f2, f3, f4, f5, f6⟩
      · exact Or.inl f2
      · exact Or.inr ⟨f2, f3, kept_cg f5 f4 (upR_ne (by decide)) (upR_ne (by decide)) (fun a' ha => upD_ne (qn a' (by rcases ha with ha | ha; exact Or.inr (Or.inl ha); exact Or.inr (Or.inr (Or.inr ha))))), f5, f6⟩
    · rw [up2_row (by decide)]; exact g.1
    · rw [up2_row (by decide)]; exact g.2.1
    · rw [up2_row (by decide)]; exact g.2.2
end CALLS7
