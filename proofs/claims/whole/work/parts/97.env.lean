/-! WHAT THE START GIVES -/
set_option maxRecDepth 20000 in
theorem w_93 : (Cond.instantiable RX11 10) ∈ TB := inTB (List.mem_of_getElem? (i := 93) (by decide +kernel)) (by decide +kernel)
set_option maxRecDepth 20000 in
theorem w_963 : (Cond.instantiable RX12 29) ∈ TB := inTB (List.mem_of_getElem? (i := 963) (by decide +kernel)) (by decide +kernel)
theorem arr_of {U : State} {args : Array Value} {ty : FieldType} (hp : va_RA U = va_RA U) (hne : ∀ (cA : ClassId), U.vm.findClass ("[" ++ ty.toString) = some cA → va_RA U cA ty) (h : (Cond.arrayClass ty).before args U = true) : ∃ cA : ClassId, ArrOfT U cA ty ∧ va_RA U cA ty := by
  obtain ⟨c, k, comp, h1, h2, h3⟩ := Cond.arrayClass_spec h
  exact ⟨c, fun N z => ⟨(fun k h => by cases h), k, h2, comp, h3⟩, hne c h1⟩
set_option maxRecDepth 100000 in
theorem start_K {s : State} {args : Array Value} (hts : ∀ w ∈ lw_tbl, w.before args s = true) : ∃ g : GG, KK g s := by
  have hT : ∀ w ∈ TB, w.before args s = true := fun w hw => hts w (List.mem_filter.mp hw).1
  have h0 : ∀ k : Nat, ∃ d : ClassId × (Nat → Nat), ∀ q : vw_C, vwCl[k]? = some q → u_Kn s q.1 q.2.1 q.2.2 d.1 d.2 := by
    intro k
    match k with
    | 0 => obtain ⟨cC, iS, hh⟩ := u_known hT uw_0 (hT _ w_528); exact ⟨(cC, iS), fun q hq => by cases hq; exact hh⟩
    | 1 => obtain ⟨cC, iS, hh⟩ := u_known hT uw_1 (hT _ w_183); exact ⟨(cC, iS), fun q hq => by cases hq; exact hh⟩
    | 2 => obtain ⟨cC, iS, hh⟩ := u_known hT uw_2 (hT _ w_428); exact ⟨(cC, iS), fun q hq => by cases hq; exact hh⟩
    | 3 => obtain ⟨cC, iS, hh⟩ := u_known hT uw_3 (hT _ w_550); exact ⟨(cC, iS), fun q hq => by cases hq; exact hh⟩
    | 4 => obtain ⟨cC, iS, hh⟩ := u_known hT uw_4 (hT _ w_539); exact ⟨(cC, iS), fun q hq => by cases hq; exact hh⟩
    | 5 => obtain ⟨cC, iS, hh⟩ := u_known hT uw_5 (hT _ w_101); exact ⟨(cC, iS), fun q hq => by cases hq; exact hh⟩
    | 6 => obtain ⟨cC, iS, hh⟩ := u_known hT uw_6 (hT _ w_575); exact ⟨(cC, iS), fun q hq => by cases hq; exact hh⟩
    | 7 => obtain ⟨cC, iS, hh⟩ := u_known hT uw_7 (hT _ w_517); exact ⟨(cC, iS), fun q hq => by cases hq; exact hh⟩
    | 8 => obtain ⟨cC, iS, hh⟩ := u_known hT uw_8 (hT _ w_561); exact ⟨(cC, iS), fun q hq => by cases hq; exact hh⟩
    | 9 => obtain ⟨cC, iS, hh⟩ := u_known hT uw_9 (hT _ w_215); exact ⟨(cC, iS), fun q hq => by cases hq; exact hh⟩
    | 10 => obtain ⟨cC, iS, hh⟩ := u_known hT uw_10 (hT _ w_468); exact ⟨(cC, iS), fun q hq => by cases hq; exact hh⟩
    | 11 => obtain ⟨cC, iS, hh⟩ := u_known hT uw_11 (hT _ w_93); exact ⟨(cC, iS), fun q hq => by cases hq; exact hh⟩
    | 12 => obtain ⟨cC, iS, hh⟩ := u_known hT uw_12 (hT _ w_963); exact ⟨(cC, iS), fun q hq => by cases hq; exact hh⟩
    | k + 13 => exact ⟨(0, fun _ => 0), fun q hq => by simp [vwCl] at hq⟩
  obtain ⟨D, hD⟩ := Classical.axiomOfChoice h0
  obtain ⟨c0, a0, r0⟩ := arr_of (ty := .int) rfl (fun _ z => z) (hT _ w_181)
  obtain ⟨c1, a1, r1⟩ := arr_of (ty := .boolean) rfl (fun _ z => z) (hT _ w_1055)
  obtain ⟨comp, c2, k2, f1, -, f3, f4, f5⟩ := Cond.arrayOver_spec (hts (.arrayOver (.object "ThreeMeasures$Stick")) (List.mem_of_getElem? (i := 107) (by decide +kernel)))
  refine ⟨((fun k => (D k).1, fun k => (D k).2), fun k => if k = 0 then c0 else if k = 1 then c1 else c2, fun _ => 0), ⟨fun k q hq => hD k q hq, fun k q hk => ?_⟩, fun w hw => va_Nw.of (nb_on (List.mem_filter.mp hw).2) (hts w (List.mem_filter.mp hw).1)⟩
  match k, hk with
  | 0, hk => cases hk; exact ⟨a0, r0⟩
  | 1, hk => cases hk; exact ⟨a1, r1⟩
  | 2, hk => cases hk; exact ⟨fun N z => ⟨(fun k h => by cases h), k2, f3, comp, f4⟩, k2, comp, f3, f4, f1, f5⟩
  | k + 3, hk => simp [tyT] at hk
def tmS (i : Nat) : Term := .string RX1 ([103, 109, 76, 78, 80, 82].getD i 0)
set_option maxHeartbeats 4000000 in
set_option maxRecDepth 100000 in
theorem start_S {s : State} {args : Array Value} (hts : ∀ w ∈ lw_tbl, w.before args s = true) (hgv : (Jvm.Cond.and given_1 narrow_1).before args s = true) : ∃ aK aV : Nat → Nat, ZB aK aV (fun q => s.heap.size ≤ q) s ∧ (vk_R RX1 103 "skvlnw" (aK 0) s ∧ vk_R RX1 109 "<=>" (aK 1) s ∧ vk_R RX1 76 "board " (aK 2) s ∧ vk_R RX1 78 "step " (aK 3) s ∧ vk_R RX1 80 "off " (aK 4) s ∧ vk_R RX1 82 "wear " (aK 5) s) ∧ (vk_R RX12 93 "skvlnw" (aK 0) s ∧ vk_R RX12 99 "<=>" (aK 1) s ∧ vk_R RX12 111 "board " (aK 2) s ∧ vk_R RX12 117 "step " (aK 3) s ∧ vk_R RX12 119 "off " (aK 4) s ∧ vk_R RX12 124 "wear " (aK 5) s) := by
  have hs := flat_of_before _ hgv
  have hA : ∀ a : Nat, a < s.heap.size → ¬ (fun q => s.heap.size ≤ q) a := fun a h => Nat.not_le.mpr h
  have six : ∀ {P : Nat → Prop}, P 0 → P 1 → P 2 → P 3 → P 4 → P 5 → ∀ i : Nat, i < 6 → P i := fun {P} p0 p1 p2 p3 p4 p5 i hi => by
    rcases (show i = 0 ∨ i = 1 ∨ i = 2 ∨ i = 3 ∨ i = 4 ∨ i = 5 by omega) with rfl | rfl | rfl | rfl | rfl | rfl
    · exact p0
    · exact p1
    · exact p2
    · exact p3
    · exact p4
    · exact p5
  have hex : ∀ i : Nat, i < 6 → (Cond.exactly (tmS i) "java/lang/String").before args s = true := six (hs (.exactly (.string RX1 103) "java/lang/String") (by decide +kernel)) (hs (.exactly (.string RX1 109) "java/lang/String") (by decide +kernel)) (hs (.exactly (.string RX1 76) "java/lang/String") (by decide +kernel)) (hs (.exactly (.string RX1 78) "java/lang/String") (by decide +kernel)) (hs (.exactly (.string RX1 80) "java/lang/String") (by decide +kernel)) (hs (.exactly (.string RX1 82) "java/lang/String") (by decide +kernel))
  have hco : ∀ i : Nat, i < 6 → (Cond.eq (.field (tmS i) "java/lang/String" "coder" "B") (.int 0)).before args s = true := six (hs (.eq (.field (.string RX1 103) "java/lang/String" "coder" "B") (.int 0)) (by decide +kernel)) (hs (.eq (.field (.string RX1 109) "java/lang/String" "coder" "B") (.int 0)) (by decide +kernel)) (hs (.eq (.field (.string RX1 76) "java/lang/String" "coder" "B") (.int 0)) (by decide +kernel)) (hs (.eq (.field (.string RX1 78) "java/lang/String" "coder" "B") (.int 0)) (by decide +kernel)) (hs (.eq (.field (.string RX1 80) "java/lang/String" "coder" "B") (.int 0)) (by decide +kernel)) (hs (.eq (.field (.string RX1 82) "java/lang/String" "coder" "B") (.int 0)) (by decide +kernel))
  have har : ∀ i : Nat, i < 6 → (Cond.arrayOf (.field (tmS i) "java/lang/String" "value" "[B") .byte).before args s = true := six (hs (.arrayOf (.field (.string RX1 103) "java/lang/String" "value" "[B") .byte) (by decide +kernel)) (hs (.arrayOf (.field (.string RX1 109) "java/lang/String" "value" "[B") .byte) (by decide +kernel)) (hs (.arrayOf (.field (.string RX1 76) "java/lang/String" "value" "[B") .byte) (by decide +kernel)) (hs (.arrayOf (.field (.string RX1 78) "java/lang/String" "value" "[B") .byte) (by decide +kernel)) (hs (.arrayOf (.field (.string RX1 80) "java/lang/String" "value" "[B") .byte) (by decide +kernel)) (hs (.arrayOf (.field (.string RX1 82) "java/lang/String" "value" "[B") .byte) (by decide +kernel))
  have hle : ∀ i : Nat, i < 6 → (Cond.eq (.length (.field (tmS i) "java/lang/String" "value" "[B")) (.int (Int32.ofNat (lenS.getD i 0)))).before args s = true := six (hs (.eq (.length (.field (.string RX1 103) "java/lang/String" "value" "[B")) (.int 6)) (by decide +kernel)) (hs (.eq (.length (.field (.string RX1 109) "java/lang/String" "value" "[B")) (.int 3)) (by decide +kernel)) (hs (.eq (.length (.field (.string RX1 76) "java/lang/String" "value" "[B")) (.int 6)) (by decide +kernel)) (hs (.eq (.length (.field (.string RX1 78) "java/lang/String" "value" "[B")) (.int 5)) (by decide +kernel)) (hs (.eq (.length (.field (.string RX1 80) "java/lang/String" "value" "[B")) (.int 4)) (by decide +kernel)) (hs (.eq (.length (.field (.string RX1 82) "java/lang/String" "value" "[B")) (.int 5)) (by decide +kernel))
  have hel0 : ∀ j : Nat, j < 6 → (Cond.eq (.elem (.field (.string RX1 103) "java/lang/String" "value" "[B") (.int (Int32.ofNat j))) (.int ((bytS.getD 0 []).getD j 0))).before args s = true := fun j hj => by
    rcases (show j = 0 ∨ j = 1 ∨ j = 2 ∨ j = 3 ∨ j = 4 ∨ j = 5 by omega) with rfl | rfl | rfl | rfl | rfl | rfl
    · exact hs (.eq (.elem (.field (.string RX1 103) "java/lang/String" "value" "[B") (.int 0)) (.int 115)) (by decide +kernel)
    · exact hs (.eq (.elem (.field (.string RX1 103) "java/lang/String" "value" "[B") (.int 1)) (.int 107)) (by decide +kernel)
    · exact hs (.eq (.elem (.field (.string RX1 103) "java/lang/String" "value" "[B") (.int 2)) (.int 118)) (by decide +kernel)
    · exact hs (.eq (.elem (.field (.string RX1 103) "java/lang/String" "value" "[B") (.int 3)) (.int 108)) (by decide +kernel)
    · exact hs (.eq (.elem (.field (.string RX1 103) "java/lang/String" "value" "[B") (.int 4)) (.int 110)) (by decide +kernel)
    · exact hs (.eq (.elem (.field (.string RX1 103) "java/lang/String" "value" "[B") (.int 5)) (.int 119)) (by decide +kernel)
  have hel1 : ∀ j : Nat, j < 3 → (Cond.eq (.elem (.field (.string RX1 109) "java/lang/String" "value" "[B") (.int (Int32.ofNat j))) (.int ((bytS.getD 1 []).getD j 0))).before args s = true := fun j hj => by
    rcases (show j = 0 ∨ j = 1 ∨ j = 2 by omega) with rfl | rfl | rfl
    · exact hs (.eq (.elem (.field (.string RX1 109) "java/lang/String" "value" "[B") (.int 0)) (.int 60)) (by decide +kernel)
    · exact hs (.eq (.elem (.field (.string RX1 109) "java/lang/String" "value" "[B") (.int 1)) (.int 61)) (by decide +kernel)
    · exact hs (.eq (.elem (.field (.string RX1 109) "java/lang/String" "value" "[B") (.int 2)) (.int 62)) (by decide +kernel)
  have hel2 : ∀ j : Nat, j < 6 → (Cond.eq (.elem (.field (.string RX1 76) "java/lang/String" "value" "[B") (.int (Int32.ofNat j))) (.int ((bytS.getD 2 []).getD j 0))).before args s = true := fun j hj => by
    rcases (show j = 0 ∨ j = 1 ∨ j = 2 ∨ j = 3 ∨ j = 4 ∨ j = 5 by omega) with rfl | rfl | rfl | rfl | rfl | rfl
    · exact hs (.eq (.elem (.field (.string RX1 76) "java/lang/String" "value" "[B") (.int 0)) (.int 98)) (by decide +kernel)
    · exact hs (.eq (.elem (.field (.string RX1 76) "java/lang/String" "value" "[B") (.int 1)) (.int 111)) (by decide +kernel)
    · exact hs (.eq (.elem (.field (.string RX1 76) "java/lang/String" "value" "[B") (.int 2)) (.int 97)) (by decide +kernel)
    · exact hs (.eq (.elem (.field (.string RX1 76) "java/lang/String" "value" "[B") (.int 3)) (.int 114)) (by decide +kernel)
    · exact hs (.eq (.elem (.field (.string RX1 76) "java/lang/String" "value" "[B") (.int 4)) (.int 100)) (by decide +kernel)
    · exact hs (.eq (.elem (.field (.string RX1 76) "java/lang/String" "value" "[B") (.int 5)) (.int 32)) (by decide +kernel)
  have hel3 : ∀ j : Nat, j < 5 → (Cond.eq (.elem (.field (.string RX1 78) "java/lang/String" "value" "[B") (.int (Int32.ofNat j))) (.int ((bytS.getD 3 []).getD j 0))).before args s = true := fun j hj => by
    rcases (show j = 0 ∨ j = 1 ∨ j = 2 ∨ j = 3 ∨ j = 4 by omega) with rfl | rfl | rfl | rfl | rfl
    · exact hs (.eq (.elem (.field (.string RX1 78) "java/lang/String" "value" "[B") (.int 0)) (.int 115)) (by decide +kernel)
    · exact hs (.eq (.elem (.field (.string RX1 78) "java/lang/String" "value" "[B") (.int 1)) (.int 116)) (by decide +kernel)
    · exact hs (.eq (.elem (.field (.string RX1 78) "java/lang/String" "value" "[B") (.int 2)) (.int 101)) (by decide +kernel)
    · exact hs (.eq (.elem (.field (.string RX1 78) "java/lang/String" "value" "[B") (.int 3)) (.int 112)) (by decide +kernel)
    · exact hs (.eq (.elem (.field (.string RX1 78) "java/lang/String" "value" "[B") (.int 4)) (.int 32)) (by decide +kernel)
  have hel4 : ∀ j : Nat, j < 4 → (Cond.eq (.elem (.field (.string RX1 80) "java/lang/String" "value" "[B") (.int (Int32.ofNat j))) (.int ((bytS.getD 4 []).getD j 0))).before args s = true := fun j hj => by
    rcases (show j = 0 ∨ j = 1 ∨ j = 2 ∨ j = 3 by omega) with rfl | rfl | rfl | rfl
    · exact hs (.eq (.elem (.field (.string RX1 80) "java/lang/String" "value" "[B") (.int 0)) (.int 111)) (by decide +kernel)
    · exact hs (.eq (.elem (.field (.string RX1 80) "java/lang/String" "value" "[B") (.int 1)) (.int 102)) (by decide +kernel)
    · exact hs (.eq (.elem (.field (.string RX1 80) "java/lang/String" "value" "[B") (.int 2)) (.int 102)) (by decide +kernel)
    · exact hs (.eq (.elem (.field (.string RX1 80) "java/lang/String" "value" "[B") (.int 3)) (.int 32)) (by decide +kernel)
  have hel5 : ∀ j : Nat, j < 5 → (Cond.eq (.elem (.field (.string RX1 82) "java/lang/String" "value" "[B") (.int (Int32.ofNat j))) (.int ((bytS.getD 5 []).getD j 0))).before args s = true := fun j hj => by
    rcases (show j = 0 ∨ j = 1 ∨ j = 2 ∨ j = 3 ∨ j = 4 by omega) with rfl | rfl | rfl | rfl | rfl
    · exact hs (.eq (.elem (.field (.string RX1 82) "java/lang/String" "value" "[B") (.int 0)) (.int 119)) (by decide +kernel)
    · exact hs (.eq (.elem (.field (.string RX1 82) "java/lang/String" "value" "[B") (.int 1)) (.int 101)) (by decide +kernel)
    · exact hs (.eq (.elem (.field (.string RX1 82) "java/lang/String" "value" "[B") (.int 2)) (.int 97)) (by decide +kernel)
    · exact hs (.eq (.elem (.field (.string RX1 82) "java/lang/String" "value" "[B") (.int 3)) (.int 114)) (by decide +kernel)
    · exact hs (.eq (.elem (.field (.string RX1 82) "java/lang/String" "value" "[B") (.int 4)) (.int 32)) (by decide +kernel)
  have hel : ∀ i : Nat, i < 6 → ∀ j : Nat, j < lenS.getD i 0 → (Cond.eq (.elem (.field (tmS i) "java/lang/String" "value" "[B") (.int (Int32.ofNat j))) (.int ((bytS.getD i []).getD j 0))).before args s = true := six hel0 hel1 hel2 hel3 hel4 hel5
  have hne : ∀ i j : Nat, i < 6 → j < 6 → i ≠ j → (Cond.not (Cond.eq (tmS i) (tmS j))).before args s = true ∨ (Cond.not (Cond.eq (tmS j) (tmS i))).before args s = true := fun i j hi hj hij => by
    rcases (show i = 0 ∨ i = 1 ∨ i = 2 ∨ i = 3 ∨ i = 4 ∨ i = 5 by omega) with rfl | rfl | rfl | rfl | rfl | rfl <;> rcases (show j = 0 ∨ j = 1 ∨ j = 2 ∨ j = 3 ∨ j = 4 ∨ j = 5 by omega) with rfl | rfl | rfl | rfl | rfl | rfl
    · exact absurd rfl hij
    · exact Or.inl (hs (.not (.eq (.string RX1 103) (.string RX1 109))) (by decide +kernel))
    · exact Or.inr (hs (.not (.eq (.string RX1 76) (.string RX1 103))) (by decide +kernel))
    · exact Or.inr (hs (.not (.eq (.string RX1 78) (.string RX1 103))) (by decide +kernel))
    · exact Or.inr (hs (.not (.eq (.string RX1 80) (.string RX1 103))) (by decide +kernel))
    · exact Or.inr (hs (.not (.eq (.string RX1 82) (.string RX1 103))) (by decide +kernel))
    · exact Or.inr (hs (.not (.eq (.string RX1 103) (.string RX1 109))) (by decide +kernel))
    · exact absurd rfl hij
    · exact Or.inr (hs (.not (.eq (.string RX1 76) (.string RX1 109))) (by decide +kernel))
    · exact Or.inr (hs (.not (.eq (.string RX1 78) (.string RX1 109))) (by decide +kernel))
    · exact Or.inr (hs (.not (.eq (.string RX1 80) (.string RX1 109))) (by decide +kernel))
    · exact Or.inr (hs (.not (.eq (.string RX1 82) (.string RX1 109))) (by decide +kernel))
    · exact Or.inl (hs (.not (.eq (.string RX1 76) (.string RX1 103))) (by decide +kernel))
    · exact Or.inl (hs (.not (.eq (.string RX1 76) (.string RX1 109))) (by decide +kernel))
    · exact absurd rfl hij
    · exact Or.inl (hs (.not (.eq (.string RX1 76) (.string RX1 78))) (by decide +kernel))
    · exact Or.inl (hs (.not (.eq (.string RX1 76) (.string RX1 80))) (by decide +kernel))
    · exact Or.inl (hs (.not (.eq (.string RX1 76) (.string RX1 82))) (by decide +kernel))
    · exact Or.inl (hs (.not (.eq (.string RX1 78) (.string RX1 103))) (by decide +kernel))
    · exact Or.inl (hs (.not (.eq (.string RX1 78) (.string RX1 109))) (by decide +kernel))
    · exact Or.inr (hs (.not (.eq (.string RX1 76) (.string RX1 78))) (by decide +kernel))
    · exact absurd rfl hij
    · exact Or.inl (hs (.not (.eq (.string RX1 78) (.string RX1 80))) (by decide +kernel))
    · exact Or.inl (hs (.not (.eq (.string RX1 78) (.string RX1 82))) (by decide +kernel))
    · exact Or.inl (hs (.not (.eq (.string RX1 80) (.string RX1 103))) (by decide +kernel))
    · exact Or.inl (hs (.not (.eq (.string RX1 80) (.string RX1 109))) (by decide +kernel))
    · exact Or.inr (hs (.not (.eq (.string RX1 76) (.string RX1 80))) (by decide +kernel))
    · exact Or.inr (hs (.not (.eq (.string RX1 78) (.string RX1 80))) (by decide +kernel))
    · exact absurd rfl hij
    · exact Or.inl (hs (.not (.eq (.string RX1 80) (.string RX1 82))) (by decide +kernel))
    · exact Or.inl (hs (.not (.eq (.string RX1 82) (.string RX1 103))) (by decide +kernel))
    · exact Or.inl (hs (.not (.eq (.string RX1 82) (.string RX1 109))) (by decide +kernel))
    · exact Or.inr (hs (.not (.eq (.string RX1 76) (.string RX1 82))) (by decide +kernel))
    · exact Or.inr (hs (.not (.eq (.string RX1 78) (.string RX1 82))) (by decide +kernel))
    · exact Or.inr (hs (.not (.eq (.string RX1 80) (.string RX1 82))) (by decide +kernel))
    · exact absurd rfl hij
  obtain ⟨aK, aV, hS, hev⟩ := vk_Sof (N := 6) (tm := tmS) (len := lenS) (byt := bytS) (A := fun q => s.heap.size ≤ q) (six (by decide) (by decide) (by decide) (by decide) (by decide) (by decide)) hex hco har hle hel hne hA
  have e0 : (Term.string RX1 103).eval args s none [] s = some (.ref (aK 0)) := hev 0 (by decide)
  have m0 : (Term.string RX12 93).eval args s none [] s = some (.ref (aK 0)) := va_eqR (hs (.eq (.string RX1 103) (.string RX12 93)) (by decide +kernel)) e0
  have e1 : (Term.string RX1 109).eval args s none [] s = some (.ref (aK 1)) := hev 1 (by decide)
  have m1 : (Term.string RX12 99).eval args s none [] s = some (.ref (aK 1)) := va_eqR (hs (.eq (.string RX1 109) (.string RX12 99)) (by decide +kernel)) e1
  have e2 : (Term.string RX1 76).eval args s none [] s = some (.ref (aK 2)) := hev 2 (by decide)
  have m2 : (Term.string RX12 111).eval args s none [] s = some (.ref (aK 2)) := va_eqR (hs (.eq (.string RX1 76) (.string RX12 111)) (by decide +kernel)) e2
  have e3 : (Term.string RX1 78).eval args s none [] s = some (.ref (aK 3)) := hev 3 (by decide)
  have m3 : (Term.string RX12 117).eval args s none [] s = some (.ref (aK 3)) := va_eqR (hs (.eq (.string RX1 78) (.string RX12 117)) (by decide +kernel)) e3
  have e4 : (Term.string RX1 80).eval args s none [] s = some (.ref (aK 4)) := hev 4 (by decide)
  have m4 : (Term.string RX12 119).eval args s none [] s = some (.ref (aK 4)) := va_eqR (hs (.eq (.string RX1 80) (.string RX12 119)) (by decide +kernel)) e4
  have e5 : (Term.string RX1 82).eval args s none [] s = some (.ref (aK 5)) := hev 5 (by decide)
  have m5 : (Term.string RX12 124).eval args s none [] s = some (.ref (aK 5)) := va_eqR (hs (.eq (.string RX1 82) (.string RX12 124)) (by decide +kernel)) e5
  refine ⟨aK, aV, ⟨hS, va_Zof (hts (.laysStatic RJ0 "COMPACT_STRINGS" "Z") (List.mem_of_getElem? (i := 300) (by decide +kernel))) (hts (.initialized RJ0) (List.mem_of_getElem? (i := 76) (by decide +kernel))) (va_eqi (hs (.eq (.static RJ0 "COMPACT_STRINGS" "Z") (.int 1)) (by decide +kernel))) hA, va_Zqof (hts (.laysStatic RJ3 "SIOOBE_FORMATTER" SIO) (List.mem_of_getElem? (i := 316) (by decide +kernel))) (hts (.initialized RJ3) (List.mem_of_getElem? (i := 78) (by decide +kernel))) (hs (.isRef (.static RJ3 "SIOOBE_FORMATTER" SIO)) (by decide +kernel)) hA⟩, ⟨vk_R.of (hts (.stringRef RX1 103 "skvlnw") (List.mem_of_getElem? (i := 359) (by decide +kernel))) e0, vk_R.of (hts (.stringRef RX1 109 "<=>") (List.mem_of_getElem? (i := 419) (by decide +kernel))) e1, vk_R.of (hts (.stringRef RX1 76 "board ") (List.mem_of_getElem? (i := 283) (by decide +kernel))) e2, vk_R.of (hts (.stringRef RX1 78 "step ") (List.mem_of_getElem? (i := 284) (by decide +kernel))) e3, vk_R.of (hts (.stringRef RX1 80 "off ") (List.mem_of_getElem? (i := 285) (by decide +kernel))) e4, vk_R.of (hts (.stringRef RX1 82 "wear ") (List.mem_of_getElem? (i := 286) (by decide +kernel))) e5⟩, ⟨vk_R.of (hts (.stringRef RX12 93 "skvlnw") (List.mem_of_getElem? (i := 1116) (by decide +kernel))) m0, vk_R.of (hts (.stringRef RX12 99 "<=>") (List.mem_of_getElem? (i := 1121) (by decide +kernel))) m1, vk_R.of (hts (.stringRef RX12 111 "board ") (List.mem_of_getElem? (i := 1075) (by decide +kernel))) m2, vk_R.of (hts (.stringRef RX12 117 "step ") (List.mem_of_getElem? (i := 1094) (by decide +kernel))) m3, vk_R.of (hts (.stringRef RX12 119 "off ") (List.mem_of_getElem? (i := 1095) (by decide +kernel))) m4, vk_R.of (hts (.stringRef RX12 124 "wear ") (List.mem_of_getElem? (i := 1122) (by decide +kernel))) m5⟩⟩
set_option maxHeartbeats 4000000 in
set_option maxRecDepth 100000 in
theorem start_A {s : State} {args : Array Value} (hts : ∀ w ∈ lw_tbl, w.before args s = true) (hgv : (Jvm.Cond.and given_1 narrow_1).before args s = true) : SA0 s ∧ NCS s := by
  have hs := flat_of_before _ hgv
  have hel : ∀ j : Nat, j < 7 → (Term.elem (.static RX11 "KIND_ABOVE" "[I") (.int (Int32.ofNat j))).eval args s none [] s = some (.int (KA j)) := fun j hj => by
    rcases (show j = 0 ∨ j = 1 ∨ j = 2 ∨ j = 3 ∨ j = 4 ∨ j = 5 ∨ j = 6 by omega) with rfl | rfl | rfl | rfl | rfl | rfl | rfl
    · exact va_eqt (hs (.eq (.elem (.static RX11 "KIND_ABOVE" "[I") (.int 0)) (.int (-1))) (by decide +kernel))
    · exact va_eqt (hs (.eq (.elem (.static RX11 "KIND_ABOVE" "[I") (.int 1)) (.int (0))) (by decide +kernel))
    · exact va_eqt (hs (.eq (.elem (.static RX11 "KIND_ABOVE" "[I") (.int 2)) (.int (0))) (by decide +kernel))
    · exact va_eqt (hs (.eq (.elem (.static RX11 "KIND_ABOVE" "[I") (.int 3)) (.int (0))) (by decide +kernel))
    · exact va_eqt (hs (.eq (.elem (.static RX11 "KIND_ABOVE" "[I") (.int 4)) (.int (1))) (by decide +kernel))
    · exact va_eqt (hs (.eq (.elem (.static RX11 "KIND_ABOVE" "[I") (.int 5)) (.int (2))) (by decide +kernel))
    · exact va_eqt (hs (.eq (.elem (.static RX11 "KIND_ABOVE" "[I") (.int 6)) (.int (3))) (by decide +kernel))
  obtain ⟨t, h1, h2⟩ := va_Tof (tm := .static RX11 "KIND_ABOVE" "[I") (ty := .int) (N := 7) (f := fun j => .int (KA j)) (A := fun _ => False) (by decide) (hs (.arrayOf (.static RX11 "KIND_ABOVE" "[I") .int) (by decide +kernel)) (va_eqt (hs (.eq (.length (.static RX11 "KIND_ABOVE" "[I")) (.int 7)) (by decide +kernel))) hel (fun _ _ z => z)
  exact ⟨⟨t, va_Zof (hts (.laysStatic RX11 "KIND_ABOVE" "[I") (List.mem_of_getElem? (i := 944) (by decide +kernel))) (hts (.initialized RX11) (List.mem_of_getElem? (i := 71) (by decide +kernel))) h1 (fun _ _ z => z), h2⟩, va_Nc.of (hs (.not (.castable RX6 RX8)) (by decide +kernel)), va_Nc.of (hs (.not (.castable RX10 RX8)) (by decide +kernel)), va_Nc.of (hs (.not (.castable RX7 RX8)) (by decide +kernel)), va_Nc.of (hs (.not (.castable RX0 RX8)) (by decide +kernel)), va_Nc.of (hs (.not (.castable RX4 RX8)) (by decide +kernel)), va_Nc.of (hs (.not (.castable RX3 RX8)) (by decide +kernel))⟩
