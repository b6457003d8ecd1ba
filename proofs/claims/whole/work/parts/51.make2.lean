
theorem va_D0 {A : Nat → Prop} : va_D A [] := ⟨fun i j p q h => by simp at h, fun k q h => by simp at h⟩
theorem va_P0 {D : va_G} {cl : List vw_C} {H : Heap} : va_P D cl [] H := fun k q h => by simp at h
theorem va_P1 {D : va_G} {cl : List vw_C} {H : Heap} {q : Nat × va_E} (h : va_at D cl q H) : va_P D cl [q] H := fun k p hp => by
  have hk := (List.getElem?_eq_some_iff.mp hp).1
  simp at hk
  subst hk
  cases hp
  exact h
theorem int_cls {g : GG} {s : State} (hK : KK g s) {tys : List (ClassId × FieldType)} {cA : ClassId} (h : va_K g.1 vwCl (tys ++ [(cA, .int)]) s) : cA = g.2.1 0 := by
  have h1 := (h.2 tys.length (cA, .int) (by simp)).2
  have h2 := (hK.1.2 0 (g.2.1 0, .int) rfl).2
  have h1 : s.vm.findClass ("[" ++ FieldType.int.toString) = some cA := h1
  have h2 : s.vm.findClass ("[" ++ FieldType.int.toString) = some (g.2.1 0) := h2
  exact Option.some.inj (h1.symm.trans h2)
theorem ints_fit (cA : ClassId) (n : Nat) (f : Nat → Int32) : ∀ (i : Nat) (v : Value), (vp_cell cA (n, .inl f)).slots[i]? = some v → fits .int v = true := by
  intro i v h
  have hi : i < n := by
    have := (Array.getElem?_eq_some_iff.mp h).1
    rw [show (vp_cell cA (n, .inl f)).slots.size = n from arrV_size _ _ _] at this
    exact this
  have e := (arrV_read cA (fun j => Value.int (f j)) hi).symm.trans h
  cases e
  rfl
/-- the data of a stick that is new -/
def dS (a b c d : Int32) : Nat → Int32 := fun k => match k with
  | 0 => a
  | 1 => b
  | 2 => c
  | 3 => d
  | _ => 0
theorem dS4 (a b c d : Int32) : (fun j => dS a b c d (4 + j)) = fun _ => 0 := by
  funext j
  rw [Nat.add_comm]
  rfl
/-- a stick whose cells are new since h0 -/
def SKF (g : GG) (h0 : Nat) (H : Heap) (a : Nat) (d : Nat → Int32) : Prop := h0 ≤ a ∧
  ((d 1 = 0 ∧ va_at g.1 vwCl (a, .inr (6, [.int (d 0), .int 0, .int (d 2), .int (d 3)])) H) ∨
   (d 1 = 1 ∧ va_at g.1 vwCl (a, .inr (10, [.int (d 0), .int 1, .int (d 2), .int (d 3)])) H) ∨
   (d 1 = 2 ∧ va_at g.1 vwCl (a, .inr (7, [.int (d 0), .int 2, .int (d 2), .int (d 3)])) H) ∨
   (d 1 = 3 ∧ va_at g.1 vwCl (a, .inr (0, [.int (d 0), .int 3, .int (d 2), .int (d 3)])) H) ∨
   (d 1 = 4 ∧ va_at g.1 vwCl (a, .inr (4, [.int (d 0), .int 4, .int (d 2), .int (d 3)])) H) ∨
   (d 1 = 5 ∧ va_at g.1 vwCl (a, .inr (3, [.int (d 0), .int 5, .int (d 2), .int (d 3)])) H) ∨
   (d 1 = 6 ∧ ∃ b : Nat, h0 ≤ b ∧ b ≠ a ∧ va_at g.1 vwCl (a, .inr (8, [.int (d 0), .int 6, .int (d 2), .int (d 3), .ref b])) H ∧ va_at g.1 vwCl (b, .inl (g.2.1 0, 4, .inl (fun j => d (4 + j)))) H))
theorem SKF.skh {g : GG} {h0 : Nat} {H : Heap} {a : Nat} {d : Nat → Int32} (h : SKF g h0 H a d) (hw : ∀ q, q ∈ adrs (xW g (fun _ _ => none) (fun _ _ => 0)) → q < h0) : SKH g H a d := by
  obtain ⟨h1, h⟩ := h
  refine ⟨fun z => by have := hw _ z; omega, ?_⟩
  rcases h with h | h | h | h | h | h | ⟨e, b, hb, hba, h, h'⟩
  · exact Or.inl h
  · exact Or.inr (Or.inl h)
  · exact Or.inr (Or.inr (Or.inl h))
  · exact Or.inr (Or.inr (Or.inr (Or.inl h)))
  · exact Or.inr (Or.inr (Or.inr (Or.inr (Or.inl h))))
  · exact Or.inr (Or.inr (Or.inr (Or.inr (Or.inr (Or.inl h)))))
  · exact Or.inr (Or.inr (Or.inr (Or.inr (Or.inr (Or.inr ⟨e, b, fun z => by have := hw _ z; omega, hba, h, h'⟩)))))

set_option maxRecDepth 20000 in
theorem w_531 : (Cond.code yX0_init cX0_init 5 none) ∈ TB := inTB (List.mem_of_getElem? (i := 531) (by decide +kernel)) (by decide +kernel)
set_option maxRecDepth 20000 in
theorem w_530 : (Cond.instanceMethod yX0_init) ∈ TB := inTB (List.mem_of_getElem? (i := 530) (by decide +kernel)) (by decide +kernel)
theorem ci_X0_init : CI yX0_init cX0_init 5 4 := ⟨w_530, w_88, w_531, rfl, by decide +kernel, by decide +kernel, by decide +kernel⟩
set_option maxRecDepth 20000 in
theorem w_565 : (Cond.methodLink RX8 3 yX0_init) ∈ TB := inTB (List.mem_of_getElem? (i := 565) (by decide +kernel)) (by decide +kernel)
set_option maxRecDepth 20000 in
theorem w_181 : (Cond.arrayClass .int) ∈ TB := inTB (List.mem_of_getElem? (i := 181) (by decide +kernel)) (by decide +kernel)
theorem dX8_init_0 : decode cX8_init 0 = .ok (.aload_n 0, 1) := by decide +kernel
theorem dX8_init_1 : decode cX8_init 1 = .ok (.iload_n 1, 1) := by decide +kernel
theorem dX8_init_2 : decode cX8_init 2 = .ok (.bipush 6, 2) := by decide +kernel
theorem dX8_init_4 : decode cX8_init 4 = .ok (.iload_n 2, 1) := by decide +kernel
theorem dX8_init_5 : decode cX8_init 5 = .ok (.iload_n 3, 1) := by decide +kernel
theorem dX8_init_6 : decode cX8_init 6 = .ok (.invokespecial 3, 3) := by decide +kernel
theorem dX8_init_9 : decode cX8_init 9 = .ok (.aload_n 0, 1) := by decide +kernel
theorem dX8_init_10 : decode cX8_init 10 = .ok (.iconst 4, 1) := by decide +kernel
theorem dX8_init_11 : decode cX8_init 11 = .ok (.newarray .int, 2) := by decide +kernel
theorem dX8_init_13 : decode cX8_init 13 = .ok (.putfield 9, 3) := by decide +kernel
theorem dX8_init_16 : decode cX8_init 16 = .ok (.return_, 1) := by decide +kernel
theorem k_X8_init (l : Launch) (g : GG) (h0 q : Nat) (fs : List Value) (hfs : fs.length = 5) (a1 a2 a3 : Int32) : Met l yX8_init (wsF yX8_init cX8_init 4 none) { frames := 3, cells := 1, slots := 4, locals := 68 } (va_Pc [.ref q, .int a1, .int a2, .int a3] (fun U => OB g q 8 fs U ∧ U.heap.size = h0)) (va_Qv (fun b : Nat => h0 ≤ b ∧ b ≠ q) (fun b t => va_P g.1 vwCl [(q, .inr (8, (st4 fs a1 6 a2 a3).set 4 (.ref b))), (b, .inl (g.2.1 0, 4, .inl (fun _ => 0)))] t.heap) (fun z => z = q ∨ h0 ≤ z)) 1 4 (fun z => z = q ∨ h0 ≤ z) := by
  refine start_X (by decide) (Nat.le_of_ble_eq_true rfl) ?_
  intro p e s m args below meth c C0 hin hB ls hl
  obtain ⟨hx, hb, hr, hml, hown, hts, hlocks⟩ := id C0
  obtain ⟨⟨hK, hP⟩, hsz⟩ := hB
  have hl : lv_has ls 4 [(0, .ref q), (1, .int a1), (2, .int a2), (3, .int a3)] := hl
  have hS : va_S (fun z => z = q ∨ h0 ≤ z) s.heap s.heap [] := va_S.rf
  refine lv_aload_n hx hb dX8_init_0 rfl (lv_at hl 0 rfl) ?_
  refine lv_iload_n hx hb dX8_init_1 rfl (lv_at hl 1 rfl) ?_
  refine lv_bipush (v := 6) hx hb dX8_init_2 (by decide) ?_
  refine lv_iload_n hx hb dX8_init_4 rfl (lv_at hl 2 rfl) ?_
  refine lv_iload_n hx hb dX8_init_5 rfl (lv_at hl 3 rfl) ?_
  refine ob_call (As := [.int a1, .int 6, .int a2, .int a3]) (rest := []) C0 ci_X0_init w_565 (k_X0_init l g q obk_8 fs hfs a1 6 a2 a3) ⟨by decide, by decide⟩ hK hP hS (Or.inl rfl) rfl hl.1 rfl (Nat.le_of_ble_eq_true rfl) dX8_init_6 ⟨Nat.zero_le _, Nat.zero_le _⟩ (fun H locs hP hS => ?_)
  refine lv_aload_n hx hb dX8_init_9 rfl (lv_at hl 0 rfl) ?_
  refine lv_iconst (v := 4) hx hb dX8_init_10 (by decide) ?_
  refine va_newa (atype := .int) (a0 := (4, .inl (fun _ => 0))) hx hb (hts _ w_181) rfl hK.1 hP (va_D1 (Or.inl rfl)) hS (fun z hz => Or.inr (by omega)) (fun _ => rfl) (by decide) rfl (by decide) (by decide) (by decide) dX8_init_11 (fun b cA H hK2 hP hD hS => ?_)
  have eA := int_cls hK hK2
  subst eA
  have hb0 : h0 ≤ b ∧ b ≠ q := by
    have h1 := hD.1 0 1 (q, .inr (8, st4 fs a1 6 a2 a3)) (b, .inl (g.2.1 0, 4, .inl (fun _ => 0))) rfl rfl
    have h2 : b ≠ q := fun z => absurd (h1 z.symm) (by decide)
    rcases hD.2 1 (b, .inl (g.2.1 0, 4, .inl (fun _ => 0))) rfl with z | z
    · exact absurd z h2
    · exact ⟨z, h2⟩
  refine va_putF (D := g.1) (ci := 8) (v := .ref b) (ty := .array .int) (C := RX8) (T := TX8) (N := 5) (fs := st4 fs a1 6 a2 a3) hx hb hts uw_8 tyX8 tyX8_ok nmX8 hown hK.1 hP hD hS 0 rfl rfl 4 (by decide) (hts _ w_566) (fun _ h => h) rfl hin rfl rfl rfl rfl (by simp [st4, hfs]) dX8_init_13 (fun H locs hP hD hS => ?_)
  exact W.vret hx hb hr (fun t ht _ => ⟨⟨b, rfl, hb0, by show va_P g.1 vwCl _ t.heap; rw [ht]; exact hP⟩, hS.F ht⟩) hS.2.2 dX8_init_16 hlocks
set_option maxRecDepth 20000 in
theorem w_432 : (Cond.methodLink RJ7 316 ⟨"[I", "clone", "()Ljava/lang/Object;"⟩) ∈ TB := inTB (List.mem_of_getElem? (i := 432) (by decide +kernel)) (by decide +kernel)
set_option maxRecDepth 20000 in
theorem w_433 : (Cond.sameMethod "[I" "java/lang/Object" "clone" "()Ljava/lang/Object;") ∈ TB := inTB (List.mem_of_getElem? (i := 433) (by decide +kernel)) (by decide +kernel)
set_option maxRecDepth 20000 in
theorem w_434 : (Cond.native ⟨"java/lang/Object", "clone", "()Ljava/lang/Object;"⟩) ∈ TB := inTB (List.mem_of_getElem? (i := 434) (by decide +kernel)) (by decide +kernel)
set_option maxRecDepth 20000 in
theorem w_435 : (Cond.instanceMethod ⟨"java/lang/Object", "clone", "()Ljava/lang/Object;"⟩) ∈ TB := inTB (List.mem_of_getElem? (i := 435) (by decide +kernel)) (by decide +kernel)
set_option maxRecDepth 20000 in
theorem w_436 : (Cond.selects "[I" ⟨"[I", "clone", "()Ljava/lang/Object;"⟩ ⟨"java/lang/Object", "clone", "()Ljava/lang/Object;"⟩) ∈ TB := inTB (List.mem_of_getElem? (i := 436) (by decide +kernel)) (by decide +kernel)
set_option maxRecDepth 20000 in
theorem w_437 : (Cond.castable "[I" "java/lang/Cloneable") ∈ NB := inNB (List.mem_of_getElem? (i := 437) (by decide +kernel)) (by decide +kernel)
set_option maxRecDepth 20000 in
theorem w_438 : (Cond.classLink RJ7 317 "[I") ∈ TB := inTB (List.mem_of_getElem? (i := 438) (by decide +kernel)) (by decide +kernel)
set_option maxRecDepth 20000 in
theorem w_439 : (Cond.methodLink RJ7 304 Lib.Math.min.name) ∈ TB := inTB (List.mem_of_getElem? (i := 439) (by decide +kernel)) (by decide +kernel)
set_option maxRecDepth 20000 in
theorem w_440 : (Cond.methodLink RJ7 150 arraycopyName) ∈ TB := inTB (List.mem_of_getElem? (i := 440) (by decide +kernel)) (by decide +kernel)
set_option maxRecDepth 20000 in
theorem w_442 : (Cond.native arraycopyName) ∈ TB := inTB (List.mem_of_getElem? (i := 442) (by decide +kernel)) (by decide +kernel)
set_option maxRecDepth 20000 in
theorem w_441 : (Cond.static arraycopyName) ∈ TB := inTB (List.mem_of_getElem? (i := 441) (by decide +kernel)) (by decide +kernel)
set_option maxRecDepth 20000 in
theorem w_84 : (Cond.initialized "java/lang/System") ∈ TB := inTB (List.mem_of_getElem? (i := 84) (by decide +kernel)) (by decide +kernel)
theorem dJ7_copyOf_59c91_0 : decode cJ7_copyOf_59c91 0 = .ok (.iload_n 1, 1) := by decide +kernel
theorem dJ7_copyOf_59c91_1 : decode cJ7_copyOf_59c91 1 = .ok (.aload_n 0, 1) := by decide +kernel
theorem dJ7_copyOf_59c91_2 : decode cJ7_copyOf_59c91 2 = .ok (.arraylength, 1) := by decide +kernel
theorem dJ7_copyOf_59c91_3 : decode cJ7_copyOf_59c91 3 = .ok (.if_icmp .ne 11, 3) := by decide +kernel
theorem dJ7_copyOf_59c91_6 : decode cJ7_copyOf_59c91 6 = .ok (.aload_n 0, 1) := by decide +kernel
theorem dJ7_copyOf_59c91_7 : decode cJ7_copyOf_59c91 7 = .ok (.invokevirtual 316, 3) := by decide +kernel
theorem dJ7_copyOf_59c91_10 : decode cJ7_copyOf_59c91 10 = .ok (.checkcast 317, 3) := by decide +kernel
theorem dJ7_copyOf_59c91_13 : decode cJ7_copyOf_59c91 13 = .ok (.areturn, 1) := by decide +kernel
theorem dJ7_copyOf_59c91_14 : decode cJ7_copyOf_59c91 14 = .ok (.iload_n 1, 1) := by decide +kernel
theorem dJ7_copyOf_59c91_15 : decode cJ7_copyOf_59c91 15 = .ok (.newarray .int, 2) := by decide +kernel
theorem dJ7_copyOf_59c91_17 : decode cJ7_copyOf_59c91 17 = .ok (.astore_n 2, 1) := by decide +kernel
theorem dJ7_copyOf_59c91_18 : decode cJ7_copyOf_59c91 18 = .ok (.aload_n 0, 1) := by decide +kernel
theorem dJ7_copyOf_59c91_19 : decode cJ7_copyOf_59c91 19 = .ok (.iconst 0, 1) := by decide +kernel
theorem dJ7_copyOf_59c91_20 : decode cJ7_copyOf_59c91 20 = .ok (.aload_n 2, 1) := by decide +kernel
theorem dJ7_copyOf_59c91_21 : decode cJ7_copyOf_59c91 21 = .ok (.iconst 0, 1) := by decide +kernel
theorem dJ7_copyOf_59c91_22 : decode cJ7_copyOf_59c91 22 = .ok (.aload_n 0, 1) := by decide +kernel
theorem dJ7_copyOf_59c91_23 : decode cJ7_copyOf_59c91 23 = .ok (.arraylength, 1) := by decide +kernel
theorem dJ7_copyOf_59c91_24 : decode cJ7_copyOf_59c91 24 = .ok (.iload_n 1, 1) := by decide +kernel
theorem dJ7_copyOf_59c91_25 : decode cJ7_copyOf_59c91 25 = .ok (.invokestatic 304, 3) := by decide +kernel
theorem dJ7_copyOf_59c91_28 : decode cJ7_copyOf_59c91 28 = .ok (.invokestatic 150, 3) := by decide +kernel
theorem dJ7_copyOf_59c91_31 : decode cJ7_copyOf_59c91 31 = .ok (.aload_n 2, 1) := by decide +kernel
theorem dJ7_copyOf_59c91_32 : decode cJ7_copyOf_59c91 32 = .ok (.areturn, 1) := by decide +kernel
theorem k_copyOf_same (l : Launch) (g : GG) (h0 b0 n0 : Nat) (hn : n0 < 2 ^ 20) (f : Nat → Int32) : Met l yJ7_copyOf_59c91 (wsF yJ7_copyOf_59c91 cJ7_copyOf_59c91 3 (some (.array .int))) { frames := 1, cells := 1, slots := n0, locals := 30 } (va_Pc [.ref b0, .int (nI n0)] (fun U => KK g U ∧ va_P g.1 vwCl [(b0, .inl (g.2.1 0, n0, .inl f))] U.heap ∧ U.heap.size = h0)) (va_Qr (fun _ : Unit => True) (fun _ b t => h0 ≤ b ∧ va_P g.1 vwCl [(b, .inl (g.2.1 0, n0, .inl f))] t.heap) (fun z => h0 ≤ z)) 1 n0 (fun z => h0 ≤ z) := by
  refine start_X (by decide) (Nat.le_of_ble_eq_true rfl) ?_
  intro p e s m args below meth c C0 hin hB ls hl
  obtain ⟨hx, hb, hr, hml, hown, hts, hlocks⟩ := id C0
  obtain ⟨hK, hP, hsz⟩ := hB
  have hl : lv_has ls 3 [(0, .ref b0), (1, .int (nI n0))] := hl
  have hb0 : b0 < h0 := by rw [← hsz]; exact (hP 0 _ rfl).lt
  have hS : va_S (fun z => z = b0 ∨ h0 ≤ z) s.heap s.heap [] := va_S.rf
  have hn : n0 < 1048576 := hn
  refine lv_iload_n hx hb dJ7_copyOf_59c91_0 rfl (lv_at hl 1 rfl) ?_
  refine lv_aload_n hx hb dJ7_copyOf_59c91_1 rfl (lv_at hl 0 rfl) ?_
  refine va_alen (v := nI n0) hx hb hK.1 hP 0 0 rfl rfl rfl dJ7_copyOf_59c91_2 ?_
  refine lv_icmp_ne (tgt := 14) hx hb dJ7_copyOf_59c91_3 (by decide) (fun c => absurd rfl c) (fun c => ?_)
  refine lv_aload_n hx hb dJ7_copyOf_59c91_6 rfl (lv_at hl 0 rfl) ?_
  have hI : s.vm.findClass "[I" = some (g.2.1 0) := va_nm_int (hK.1.2 0 (g.2.1 0, .int) rfl).2
  refine va_clone hx hb (hml.trans hl.1.symm) hown (hts _ w_432) (hts _ w_433) (hts _ w_434) (hts _ w_435) (hts _ w_436) (hK.2 _ w_437) hK.1 hP (va_D1 (Or.inl rfl)) hS (fun z hz => Or.inr (by omega)) 0 0 rfl rfl hI (ints_fit _ _ _) (Nat.le_refl 1) (Nat.le_of_ble_eq_true rfl) (Nat.le_refl _) (by show 0 + n0 ≤ n0; omega) dJ7_copyOf_59c91_7 (fun b H hK2 hP2 hD2 hS2 => ?_)
  refine va_castA hx hb hown (hts _ w_438) hP2 1 rfl hI dJ7_copyOf_59c91_10 ?_
  have hbh : h0 ≤ b := by
    have h1 := hD2.1 0 1 (b0, .inl (g.2.1 0, n0, .inl f)) (b, .inl (g.2.1 0, n0, .inl f)) rfl rfl
    rcases hD2.2 1 (b, .inl (g.2.1 0, n0, .inl f)) rfl with z | z
    · exact absurd (h1 z.symm) (by decide)
    · exact z
  have hS3 : va_S (fun z => h0 ≤ z) s.heap H [] := ⟨hS2.1, fun q h1 h2 => by
    by_cases e : q = b0
    · subst e
      have a1 : H[q]? = some (vp_cell (g.2.1 0) (n0, .inl f)) := hP2 0 _ rfl
      have a2 : s.heap[q]? = some (vp_cell (g.2.1 0) (n0, .inl f)) := hP 0 _ rfl
      rw [a1, a2]
    · exact hS2.2.1 q h1 (fun z => by rcases z with z | z; exact e z; exact h2 z), fun z hz => by cases hz⟩
  refine W.widen (Nat.le_refl _) (show 0 + n0 ≤ n0 by omega) ?_
  exact W.aret hx hb hr (Or.inr ⟨_, rfl⟩) (Or.inr ⟨b, rfl⟩) (fun t ht _ => ⟨⟨(), b, rfl, trivial, hbh, by rw [ht]; exact va_P1 (hP2 1 _ rfl)⟩, hS3.F ht⟩) hS3.2.2 dJ7_copyOf_59c91_13 hlocks
theorem k_copyOf_less (l : Launch) (g : GG) (h0 b0 n0 n : Nat) (hn0 : n0 < 2 ^ 20) (hn : n < n0) (f : Nat → Int32) : Met l yJ7_copyOf_59c91 (wsF yJ7_copyOf_59c91 cJ7_copyOf_59c91 3 (some (.array .int))) { frames := 1, cells := 1, slots := n, locals := 60 } (va_Pc [.ref b0, .int (nI n)] (fun U => KK g U ∧ va_P g.1 vwCl [(b0, .inl (g.2.1 0, n0, .inl f))] U.heap ∧ U.heap.size = h0)) (va_Qr (fun _ : Unit => True) (fun _ b t => h0 ≤ b ∧ va_P g.1 vwCl [(b0, .inl (g.2.1 0, n0, .inl f)), (b, .inl (g.2.1 0, n, .inl (va_cpy f (fun _ => 0) 0 0 n)))] t.heap) (fun z => z = b0 ∨ h0 ≤ z)) 1 n (fun z => z = b0 ∨ h0 ≤ z) := by
  refine start_X (by decide) (Nat.le_of_ble_eq_true rfl) ?_
  intro p e s m args below meth c C0 hin hB ls hl
  obtain ⟨hx, hb, hr, hml, hown, hts, hlocks⟩ := id C0
  obtain ⟨hK, hP, hsz⟩ := hB
  have hl : lv_has ls 3 [(0, .ref b0), (1, .int (nI n))] := hl
  have hb0 : b0 < h0 := by rw [← hsz]; exact (hP 0 _ rfl).lt
  have hS : va_S (fun z => z = b0 ∨ h0 ≤ z) s.heap s.heap [] := va_S.rf
  have hn0 : n0 < 1048576 := hn0
  have hcl : (nI n).toNatClampNeg = n := nI_clamp (by omega)
  have hneg : ¬ nI n < 0 := nI_pos (by omega)
  refine lv_iload_n hx hb dJ7_copyOf_59c91_0 rfl (lv_at hl 1 rfl) ?_
  refine lv_aload_n hx hb dJ7_copyOf_59c91_1 rfl (lv_at hl 0 rfl) ?_
  refine va_alen (v := nI n0) hx hb hK.1 hP 0 0 rfl rfl rfl dJ7_copyOf_59c91_2 ?_
  refine lv_icmp_ne (tgt := 14) hx hb dJ7_copyOf_59c91_3 (by decide) (fun c => ?_) (fun c => absurd ((nI_eq (a := n) (b := n0) (by omega) (by omega)).mp c) (by omega))
  refine lv_iload_n hx hb dJ7_copyOf_59c91_14 rfl (lv_at hl 1 rfl) ?_
  refine va_newa (atype := .int) (a0 := (n, .inl (fun _ => 0))) hx hb (hts _ w_181) rfl hK.1 hP (va_D1 (Or.inl rfl)) hS (fun z hz => Or.inr (by omega)) (fun _ => rfl) hneg hcl (by show n * 4 ≤ 536870912; omega) (Nat.le_refl _) (by show 0 + n ≤ n; omega) dJ7_copyOf_59c91_15 (fun b cA H hK2 hP hD hS => ?_)
  have eA := int_cls hK hK2
  subst eA
  have hbh : h0 ≤ b := by
    have h1 := hD.1 0 1 (b0, .inl (g.2.1 0, n0, .inl f)) (b, .inl (g.2.1 0, n, .inl (fun _ => 0))) rfl rfl
    rcases hD.2 1 (b, .inl (g.2.1 0, n, .inl (fun _ => 0))) rfl with z | z
    · exact absurd (h1 z.symm) (by decide)
    · exact z
  refine lv_astore_n (lv' := [(2, .ref b), (0, .ref b0), (1, .int (nI n))]) hx hb dJ7_copyOf_59c91_17 rfl hl (by decide) rfl (fun ls hl => ?_)
  refine lv_aload_n hx hb dJ7_copyOf_59c91_18 rfl (lv_at hl 1 rfl) ?_
  refine lv_iconst (v := 0) hx hb dJ7_copyOf_59c91_19 (by decide) ?_
  refine lv_aload_n hx hb dJ7_copyOf_59c91_20 rfl (lv_at hl 0 rfl) ?_
  refine lv_iconst (v := 0) hx hb dJ7_copyOf_59c91_21 (by decide) ?_
  refine lv_aload_n hx hb dJ7_copyOf_59c91_22 rfl (lv_at hl 1 rfl) ?_
  refine va_alen (v := nI n0) hx hb hK.1 hP 0 0 rfl rfl rfl dJ7_copyOf_59c91_23 ?_
  refine lv_iload_n hx hb dJ7_copyOf_59c91_24 rfl (lv_at hl 2 rfl) ?_
  refine va_mmin hx hb (hml.trans hl.1.symm) hown (hts _ w_439) (hts _ w_379) (hts _ w_80) (hts _ w_380) (Nat.le_refl 1) (Nat.le_of_ble_eq_true rfl) (Nat.le_refl _) (by show 0 + n ≤ n; omega) dJ7_copyOf_59c91_25 ?_
  rw [if_pos ((nI_ltI (by omega) (by omega)).mpr hn)]
  refine va_copyi hx hb (hml.trans hl.1.symm) hown (hts _ w_440) (hts _ w_442) (hts _ w_441) (hts _ w_84) hK.1 hP hD hS 0 1 0 0 rfl rfl rfl rfl rfl (by decide) (by decide) hneg (by rw [hcl]; show 0 + n ≤ n0; omega) (by rw [hcl]; show 0 + n ≤ n; omega) (fun i hi => rfl) (Nat.le_refl 1) (Nat.le_of_ble_eq_true rfl) dJ7_copyOf_59c91_28 (fun H locs hP hD hS => ?_)
  rw [hcl] at hP
  refine lv_aload_n hx hb dJ7_copyOf_59c91_31 rfl (lv_at hl 0 rfl) ?_
  refine W.widen (Nat.le_refl _) (show 0 + n ≤ n by omega) ?_
  exact W.aret hx hb hr (Or.inr ⟨_, rfl⟩) (Or.inr ⟨b, rfl⟩) (fun t ht _ => ⟨⟨(), b, rfl, trivial, hbh, by rw [ht]; exact hP⟩, hS.F ht⟩) hS.2.2 dJ7_copyOf_59c91_32 hlocks
set_option maxRecDepth 20000 in
theorem w_574 : (Cond.classLink RX11 92 RX6) ∈ TB := inTB (List.mem_of_getElem? (i := 574) (by decide +kernel)) (by decide +kernel)
set_option maxRecDepth 20000 in
theorem w_575 : (Cond.instantiable RX6 4) ∈ TB := inTB (List.mem_of_getElem? (i := 575) (by decide +kernel)) (by decide +kernel)
set_option maxRecDepth 20000 in
theorem w_576 : (Cond.methodLink RX11 183 yX6_init) ∈ TB := inTB (List.mem_of_getElem? (i := 576) (by decide +kernel)) (by decide +kernel)
set_option maxRecDepth 20000 in
theorem w_467 : (Cond.classLink RX11 163 RX10) ∈ TB := inTB (List.mem_of_getElem? (i := 467) (by decide +kernel)) (by decide +kernel)
set_option maxRecDepth 20000 in
theorem w_468 : (Cond.instantiable RX10 4) ∈ TB := inTB (List.mem_of_getElem? (i := 468) (by decide +kernel)) (by decide +kernel)
set_option maxRecDepth 20000 in
theorem w_469 : (Cond.methodLink RX11 165 yX10_init) ∈ TB := inTB (List.mem_of_getElem? (i := 469) (by decide +kernel)) (by decide +kernel)
set_option maxRecDepth 20000 in
theorem w_516 : (Cond.classLink RX11 168 RX7) ∈ TB := inTB (List.mem_of_getElem? (i := 516) (by decide +kernel)) (by decide +kernel)
set_option maxRecDepth 20000 in
theorem w_517 : (Cond.instantiable RX7 4) ∈ TB := inTB (List.mem_of_getElem? (i := 517) (by decide +kernel)) (by decide +kernel)
set_option maxRecDepth 20000 in
theorem w_518 : (Cond.methodLink RX11 170 yX7_init) ∈ TB := inTB (List.mem_of_getElem? (i := 518) (by decide +kernel)) (by decide +kernel)
set_option maxRecDepth 20000 in
theorem w_527 : (Cond.classLink RX11 171 RX0) ∈ TB := inTB (List.mem_of_getElem? (i := 527) (by decide +kernel)) (by decide +kernel)
set_option maxRecDepth 20000 in
theorem w_528 : (Cond.instantiable RX0 4) ∈ TB := inTB (List.mem_of_getElem? (i := 528) (by decide +kernel)) (by decide +kernel)
set_option maxRecDepth 20000 in
theorem w_529 : (Cond.methodLink RX11 173 yX0_init) ∈ TB := inTB (List.mem_of_getElem? (i := 529) (by decide +kernel)) (by decide +kernel)
set_option maxRecDepth 20000 in
theorem w_538 : (Cond.classLink RX11 174 RX4) ∈ TB := inTB (List.mem_of_getElem? (i := 538) (by decide +kernel)) (by decide +kernel)
set_option maxRecDepth 20000 in
theorem w_539 : (Cond.instantiable RX4 4) ∈ TB := inTB (List.mem_of_getElem? (i := 539) (by decide +kernel)) (by decide +kernel)
set_option maxRecDepth 20000 in
theorem w_542 : (Cond.code yX4_init cX4_init 4 none) ∈ TB := inTB (List.mem_of_getElem? (i := 542) (by decide +kernel)) (by decide +kernel)
set_option maxRecDepth 20000 in
theorem w_541 : (Cond.instanceMethod yX4_init) ∈ TB := inTB (List.mem_of_getElem? (i := 541) (by decide +kernel)) (by decide +kernel)
theorem ci_X4_init : CI yX4_init cX4_init 4 3 := ⟨w_541, w_89, w_542, rfl, by decide +kernel, by decide +kernel, by decide +kernel⟩
set_option maxRecDepth 20000 in
theorem w_540 : (Cond.methodLink RX11 176 yX4_init) ∈ TB := inTB (List.mem_of_getElem? (i := 540) (by decide +kernel)) (by decide +kernel)
set_option maxRecDepth 20000 in
theorem w_549 : (Cond.classLink RX11 179 RX3) ∈ TB := inTB (List.mem_of_getElem? (i := 549) (by decide +kernel)) (by decide +kernel)
set_option maxRecDepth 20000 in
theorem w_550 : (Cond.instantiable RX3 4) ∈ TB := inTB (List.mem_of_getElem? (i := 550) (by decide +kernel)) (by decide +kernel)
set_option maxRecDepth 20000 in
theorem w_553 : (Cond.code yX3_init cX3_init 4 none) ∈ TB := inTB (List.mem_of_getElem? (i := 553) (by decide +kernel)) (by decide +kernel)
set_option maxRecDepth 20000 in
theorem w_552 : (Cond.instanceMethod yX3_init) ∈ TB := inTB (List.mem_of_getElem? (i := 552) (by decide +kernel)) (by decide +kernel)
theorem ci_X3_init : CI yX3_init cX3_init 4 3 := ⟨w_552, w_90, w_553, rfl, by decide +kernel, by decide +kernel, by decide +kernel⟩
set_option maxRecDepth 20000 in
theorem w_551 : (Cond.methodLink RX11 181 yX3_init) ∈ TB := inTB (List.mem_of_getElem? (i := 551) (by decide +kernel)) (by decide +kernel)
set_option maxRecDepth 20000 in
theorem w_560 : (Cond.classLink RX11 102 RX8) ∈ TB := inTB (List.mem_of_getElem? (i := 560) (by decide +kernel)) (by decide +kernel)
set_option maxRecDepth 20000 in
theorem w_561 : (Cond.instantiable RX8 5) ∈ TB := inTB (List.mem_of_getElem? (i := 561) (by decide +kernel)) (by decide +kernel)
set_option maxRecDepth 20000 in
theorem w_564 : (Cond.code yX8_init cX8_init 4 none) ∈ TB := inTB (List.mem_of_getElem? (i := 564) (by decide +kernel)) (by decide +kernel)
set_option maxRecDepth 20000 in
theorem w_563 : (Cond.instanceMethod yX8_init) ∈ TB := inTB (List.mem_of_getElem? (i := 563) (by decide +kernel)) (by decide +kernel)
theorem ci_X8_init : CI yX8_init cX8_init 4 3 := ⟨w_563, w_91, w_564, rfl, by decide +kernel, by decide +kernel, by decide +kernel⟩
set_option maxRecDepth 20000 in
theorem w_562 : (Cond.methodLink RX11 182 yX8_init) ∈ TB := inTB (List.mem_of_getElem? (i := 562) (by decide +kernel)) (by decide +kernel)
theorem dX11_newStick_0 : decode cX11_newStick 0 = .ok (.iload_n 0, 1) := by decide +kernel
theorem dX11_newStick_1 : decode cX11_newStick 1 = .ok (.tableswitch 108 1 6 #[39, 51, 63, 75, 86, 97], 39) := by decide +kernel
theorem dX11_newStick_40 : decode cX11_newStick 40 = .ok (.new 163, 3) := by decide +kernel
theorem dX11_newStick_43 : decode cX11_newStick 43 = .ok (.dup, 1) := by decide +kernel
theorem dX11_newStick_44 : decode cX11_newStick 44 = .ok (.iload_n 1, 1) := by decide +kernel
theorem dX11_newStick_45 : decode cX11_newStick 45 = .ok (.iconst 1, 1) := by decide +kernel
theorem dX11_newStick_46 : decode cX11_newStick 46 = .ok (.iload_n 2, 1) := by decide +kernel
theorem dX11_newStick_47 : decode cX11_newStick 47 = .ok (.iload_n 3, 1) := by decide +kernel
theorem dX11_newStick_48 : decode cX11_newStick 48 = .ok (.invokespecial 165, 3) := by decide +kernel
theorem dX11_newStick_51 : decode cX11_newStick 51 = .ok (.areturn, 1) := by decide +kernel
theorem dX11_newStick_52 : decode cX11_newStick 52 = .ok (.new 168, 3) := by decide +kernel
theorem dX11_newStick_55 : decode cX11_newStick 55 = .ok (.dup, 1) := by decide +kernel
theorem dX11_newStick_56 : decode cX11_newStick 56 = .ok (.iload_n 1, 1) := by decide +kernel
theorem dX11_newStick_57 : decode cX11_newStick 57 = .ok (.iconst 2, 1) := by decide +kernel
theorem dX11_newStick_58 : decode cX11_newStick 58 = .ok (.iload_n 2, 1) := by decide +kernel
theorem dX11_newStick_59 : decode cX11_newStick 59 = .ok (.iload_n 3, 1) := by decide +kernel
theorem dX11_newStick_60 : decode cX11_newStick 60 = .ok (.invokespecial 170, 3) := by decide +kernel
theorem dX11_newStick_63 : decode cX11_newStick 63 = .ok (.areturn, 1) := by decide +kernel
theorem dX11_newStick_64 : decode cX11_newStick 64 = .ok (.new 171, 3) := by decide +kernel
theorem dX11_newStick_67 : decode cX11_newStick 67 = .ok (.dup, 1) := by decide +kernel
theorem dX11_newStick_68 : decode cX11_newStick 68 = .ok (.iload_n 1, 1) := by decide +kernel
theorem dX11_newStick_69 : decode cX11_newStick 69 = .ok (.iconst 3, 1) := by decide +kernel
theorem dX11_newStick_70 : decode cX11_newStick 70 = .ok (.iload_n 2, 1) := by decide +kernel
theorem dX11_newStick_71 : decode cX11_newStick 71 = .ok (.iload_n 3, 1) := by decide +kernel
theorem dX11_newStick_72 : decode cX11_newStick 72 = .ok (.invokespecial 173, 3) := by decide +kernel
theorem dX11_newStick_75 : decode cX11_newStick 75 = .ok (.areturn, 1) := by decide +kernel
theorem dX11_newStick_76 : decode cX11_newStick 76 = .ok (.new 174, 3) := by decide +kernel
theorem dX11_newStick_79 : decode cX11_newStick 79 = .ok (.dup, 1) := by decide +kernel
theorem dX11_newStick_80 : decode cX11_newStick 80 = .ok (.iload_n 1, 1) := by decide +kernel
theorem dX11_newStick_81 : decode cX11_newStick 81 = .ok (.iload_n 2, 1) := by decide +kernel
theorem dX11_newStick_82 : decode cX11_newStick 82 = .ok (.iload_n 3, 1) := by decide +kernel
theorem dX11_newStick_83 : decode cX11_newStick 83 = .ok (.invokespecial 176, 3) := by decide +kernel
theorem dX11_newStick_86 : decode cX11_newStick 86 = .ok (.areturn, 1) := by decide +kernel
theorem dX11_newStick_87 : decode cX11_newStick 87 = .ok (.new 179, 3) := by decide +kernel
theorem dX11_newStick_90 : decode cX11_newStick 90 = .ok (.dup, 1) := by decide +kernel
theorem dX11_newStick_91 : decode cX11_newStick 91 = .ok (.iload_n 1, 1) := by decide +kernel
theorem dX11_newStick_92 : decode cX11_newStick 92 = .ok (.iload_n 2, 1) := by decide +kernel
theorem dX11_newStick_93 : decode cX11_newStick 93 = .ok (.iload_n 3, 1) := by decide +kernel
theorem dX11_newStick_94 : decode cX11_newStick 94 = .ok (.invokespecial 181, 3) := by decide +kernel
theorem dX11_newStick_97 : decode cX11_newStick 97 = .ok (.areturn, 1) := by decide +kernel
theorem dX11_newStick_98 : decode cX11_newStick 98 = .ok (.new 102, 3) := by decide +kernel
theorem dX11_newStick_101 : decode cX11_newStick 101 = .ok (.dup, 1) := by decide +kernel
theorem dX11_newStick_102 : decode cX11_newStick 102 = .ok (.iload_n 1, 1) := by decide +kernel
theorem dX11_newStick_103 : decode cX11_newStick 103 = .ok (.iload_n 2, 1) := by decide +kernel
theorem dX11_newStick_104 : decode cX11_newStick 104 = .ok (.iload_n 3, 1) := by decide +kernel
theorem dX11_newStick_105 : decode cX11_newStick 105 = .ok (.invokespecial 182, 3) := by decide +kernel
theorem dX11_newStick_108 : decode cX11_newStick 108 = .ok (.areturn, 1) := by decide +kernel
theorem dX11_newStick_109 : decode cX11_newStick 109 = .ok (.new 92, 3) := by decide +kernel
theorem dX11_newStick_112 : decode cX11_newStick 112 = .ok (.dup, 1) := by decide +kernel
theorem dX11_newStick_113 : decode cX11_newStick 113 = .ok (.iload_n 1, 1) := by decide +kernel
theorem dX11_newStick_114 : decode cX11_newStick 114 = .ok (.iconst 0, 1) := by decide +kernel
theorem dX11_newStick_115 : decode cX11_newStick 115 = .ok (.iload_n 2, 1) := by decide +kernel
theorem dX11_newStick_116 : decode cX11_newStick 116 = .ok (.iload_n 3, 1) := by decide +kernel
theorem dX11_newStick_117 : decode cX11_newStick 117 = .ok (.invokespecial 183, 3) := by decide +kernel
theorem dX11_newStick_120 : decode cX11_newStick 120 = .ok (.areturn, 1) := by decide +kernel
set_option maxHeartbeats 1000000 in
theorem k_X11_newStick (l : Launch) (g : GG) (h0 : Nat) (a0 a1 a2 a3 : Int32) (hk : 0 ≤ a0.toInt) (hk6 : a0.toInt ≤ 6) : Met l yX11_newStick (wsF yX11_newStick cX11_newStick 4 (some (.object "ThreeMeasures$Stick"))) { frames := 5, cells := 2, slots := 9, locals := 100 } (va_Pc [.int a0, .int a1, .int a2, .int a3] (fun U => KK g U ∧ U.heap.size = h0)) (va_Qr (fun _ : Unit => True) (fun _ a t => SKF g h0 t.heap a (dS a1 a0 a2 a3)) (fun z => h0 ≤ z)) 2 9 (fun z => h0 ≤ z) := by
  refine start_X (by decide) (Nat.le_of_ble_eq_true rfl) ?_
  intro p e s m args below meth c C0 hin hB ls hl
  obtain ⟨hx, hb, hr, hml, hown, hts, hlocks⟩ := id C0
  obtain ⟨hK, hsz⟩ := hB
  have hl : lv_has ls 4 [(0, .int a0), (1, .int a1), (2, .int a2), (3, .int a3)] := hl
  have hS0 : va_S (fun z => h0 ≤ z) s.heap s.heap [] := va_S.rf
  have hA0 : ∀ z, s.heap.size ≤ z → h0 ≤ z := fun z hz => by omega
  refine lv_iload_n hx hb dX11_newStick_0 rfl (lv_at hl 0 rfl) ?_
  have hcs : a0 = 0 ∨ a0 = 1 ∨ a0 = 2 ∨ a0 = 3 ∨ a0 = 4 ∨ a0 = 5 ∨ a0 = 6 := by
    have e : ∀ k : Int32, (a0 = k ↔ a0.toInt = k.toInt) := fun k => ti_eq
    rw [e, e, e, e, e, e, e]
    have e0 : (0 : Int32).toInt = 0 := rfl
    have e1 : (1 : Int32).toInt = 1 := rfl
    have e2 : (2 : Int32).toInt = 2 := rfl
    have e3 : (3 : Int32).toInt = 3 := rfl
    have e4 : (4 : Int32).toInt = 4 := rfl
    have e5 : (5 : Int32).toInt = 5 := rfl
    have e6 : (6 : Int32).toInt = 6 := rfl
    omega
  rcases hcs with rfl | rfl | rfl | rfl | rfl | rfl | rfl
  · refine lv_tableOut (tgt := 109) hx hb dX11_newStick_1 (sw_out (fun k h1 h2 => by
      rcases (show k = 1 ∨ k = 2 ∨ k = 3 ∨ k = 4 ∨ k = 5 ∨ k = 6 by omega) with rfl | rfl | rfl | rfl | rfl | rfl <;> decide)) (by decide) ?_
    refine va_new (T := TX6) (N := 4) (ci := 6) (fs := [.int 0, .int 0, .int 0, .int 0]) hx hb hts uw_6 tyX6 tyX6_ok hown (hts _ w_574) (hts _ w_575) (hts _ w_85) hK.1 va_P0 va_D0 hS0 hA0 rfl (fun j hj => by
      rcases (show j = 0 ∨ j = 1 ∨ j = 2 ∨ j = 3 by omega) with rfl | rfl | rfl | rfl <;> rfl) (Nat.le_of_ble_eq_true rfl) (Nat.le_of_ble_eq_true rfl) dX11_newStick_109 (fun q H hP hD hS => ?_)
    have hq : h0 ≤ q := hD.2 0 _ rfl
    refine lv_dup hx hb dX11_newStick_112 rfl ?_
    refine lv_iload_n hx hb dX11_newStick_113 rfl (lv_at hl 1 rfl) ?_
    refine lv_iconst (v := (0 : Int32)) hx hb dX11_newStick_114 (by decide) ?_
    refine lv_iload_n hx hb dX11_newStick_115 rfl (lv_at hl 2 rfl) ?_
    refine lv_iload_n hx hb dX11_newStick_116 rfl (lv_at hl 3 rfl) ?_
    refine ob_call (As := [.int a1, .int (0 : Int32), .int a2, .int a3]) (rest := [.ref q]) C0 ci_X6_init w_576 (k_X6_init l g q obk_6 [.int 0, .int 0, .int 0, .int 0] rfl a1 (0 : Int32) a2 a3) ⟨by decide, by decide⟩ hK hP hS hq rfl hl.1 rfl (Nat.le_of_ble_eq_true rfl) dX11_newStick_117 ⟨by decide, by decide⟩ (fun H locs hP hS => ?_)
    refine W.widen (k := 2) (n := 9) (by decide) (by decide) ?_
    exact W.aret hx hb hr (Or.inl ⟨_, rfl⟩) (Or.inr ⟨q, rfl⟩) (fun t ht _ => ⟨⟨(), q, rfl, trivial, by show SKF g h0 t.heap _ _; rw [ht]; exact ⟨hq, Or.inl ⟨rfl, hP 0 _ rfl⟩⟩⟩, hS.F ht⟩) hS.2.2 dX11_newStick_120 hlocks
  · refine lv_tableIn (tgt := 40) hx hb dX11_newStick_1 (by decide) (by decide) (by rfl) (by decide) ?_
    refine va_new (T := TX10) (N := 4) (ci := 10) (fs := [.int 0, .int 0, .int 0, .int 0]) hx hb hts uw_10 tyX10 tyX10_ok hown (hts _ w_467) (hts _ w_468) (hts _ w_86) hK.1 va_P0 va_D0 hS0 hA0 rfl (fun j hj => by
      rcases (show j = 0 ∨ j = 1 ∨ j = 2 ∨ j = 3 by omega) with rfl | rfl | rfl | rfl <;> rfl) (Nat.le_of_ble_eq_true rfl) (Nat.le_of_ble_eq_true rfl) dX11_newStick_40 (fun q H hP hD hS => ?_)
    have hq : h0 ≤ q := hD.2 0 _ rfl
    refine lv_dup hx hb dX11_newStick_43 rfl ?_
    refine lv_iload_n hx hb dX11_newStick_44 rfl (lv_at hl 1 rfl) ?_
    refine lv_iconst (v := (1 : Int32)) hx hb dX11_newStick_45 (by decide) ?_
    refine lv_iload_n hx hb dX11_newStick_46 rfl (lv_at hl 2 rfl) ?_
    refine lv_iload_n hx hb dX11_newStick_47 rfl (lv_at hl 3 rfl) ?_
    refine ob_call (As := [.int a1, .int (1 : Int32), .int a2, .int a3]) (rest := [.ref q]) C0 ci_X10_init w_469 (k_X10_init l g q obk_10 [.int 0, .int 0, .int 0, .int 0] rfl a1 (1 : Int32) a2 a3) ⟨by decide, by decide⟩ hK hP hS hq rfl hl.1 rfl (Nat.le_of_ble_eq_true rfl) dX11_newStick_48 ⟨by decide, by decide⟩ (fun H locs hP hS => ?_)
    refine W.widen (k := 2) (n := 9) (by decide) (by decide) ?_
    exact W.aret hx hb hr (Or.inl ⟨_, rfl⟩) (Or.inr ⟨q, rfl⟩) (fun t ht _ => ⟨⟨(), q, rfl, trivial, by show SKF g h0 t.heap _ _; rw [ht]; exact ⟨hq, Or.inr (Or.inl ⟨rfl, hP 0 _ rfl⟩)⟩⟩, hS.F ht⟩) hS.2.2 dX11_newStick_51 hlocks
  · refine lv_tableIn (tgt := 52) hx hb dX11_newStick_1 (by decide) (by decide) (by rfl) (by decide) ?_
    refine va_new (T := TX7) (N := 4) (ci := 7) (fs := [.int 0, .int 0, .int 0, .int 0]) hx hb hts uw_7 tyX7 tyX7_ok hown (hts _ w_516) (hts _ w_517) (hts _ w_87) hK.1 va_P0 va_D0 hS0 hA0 rfl (fun j hj => by
      rcases (show j = 0 ∨ j = 1 ∨ j = 2 ∨ j = 3 by omega) with rfl | rfl | rfl | rfl <;> rfl) (Nat.le_of_ble_eq_true rfl) (Nat.le_of_ble_eq_true rfl) dX11_newStick_52 (fun q H hP hD hS => ?_)
    have hq : h0 ≤ q := hD.2 0 _ rfl
    refine lv_dup hx hb dX11_newStick_55 rfl ?_
    refine lv_iload_n hx hb dX11_newStick_56 rfl (lv_at hl 1 rfl) ?_
    refine lv_iconst (v := (2 : Int32)) hx hb dX11_newStick_57 (by decide) ?_
    refine lv_iload_n hx hb dX11_newStick_58 rfl (lv_at hl 2 rfl) ?_
    refine lv_iload_n hx hb dX11_newStick_59 rfl (lv_at hl 3 rfl) ?_
    refine ob_call (As := [.int a1, .int (2 : Int32), .int a2, .int a3]) (rest := [.ref q]) C0 ci_X7_init w_518 (k_X7_init l g q obk_7 [.int 0, .int 0, .int 0, .int 0] rfl a1 (2 : Int32) a2 a3) ⟨by decide, by decide⟩ hK hP hS hq rfl hl.1 rfl (Nat.le_of_ble_eq_true rfl) dX11_newStick_60 ⟨by decide, by decide⟩ (fun H locs hP hS => ?_)
    refine W.widen (k := 2) (n := 9) (by decide) (by decide) ?_
    exact W.aret hx hb hr (Or.inl ⟨_, rfl⟩) (Or.inr ⟨q, rfl⟩) (fun t ht _ => ⟨⟨(), q, rfl, trivial, by show SKF g h0 t.heap _ _; rw [ht]; exact ⟨hq, Or.inr (Or.inr (Or.inl ⟨rfl, hP 0 _ rfl⟩))⟩⟩, hS.F ht⟩) hS.2.2 dX11_newStick_63 hlocks
  · refine lv_tableIn (tgt := 64) hx hb dX11_newStick_1 (by decide) (by decide) (by rfl) (by decide) ?_
    refine va_new (T := TX0) (N := 4) (ci := 0) (fs := [.int 0, .int 0, .int 0, .int 0]) hx hb hts uw_0 tyX0 tyX0_ok hown (hts _ w_527) (hts _ w_528) (hts _ w_88) hK.1 va_P0 va_D0 hS0 hA0 rfl (fun j hj => by
      rcases (show j = 0 ∨ j = 1 ∨ j = 2 ∨ j = 3 by omega) with rfl | rfl | rfl | rfl <;> rfl) (Nat.le_of_ble_eq_true rfl) (Nat.le_of_ble_eq_true rfl) dX11_newStick_64 (fun q H hP hD hS => ?_)
    have hq : h0 ≤ q := hD.2 0 _ rfl
    refine lv_dup hx hb dX11_newStick_67 rfl ?_
    refine lv_iload_n hx hb dX11_newStick_68 rfl (lv_at hl 1 rfl) ?_
    refine lv_iconst (v := (3 : Int32)) hx hb dX11_newStick_69 (by decide) ?_
    refine lv_iload_n hx hb dX11_newStick_70 rfl (lv_at hl 2 rfl) ?_
    refine lv_iload_n hx hb dX11_newStick_71 rfl (lv_at hl 3 rfl) ?_
    refine ob_call (As := [.int a1, .int (3 : Int32), .int a2, .int a3]) (rest := [.ref q]) C0 ci_X0_init w_529 (k_X0_init l g q obk_0 [.int 0, .int 0, .int 0, .int 0] rfl a1 (3 : Int32) a2 a3) ⟨by decide, by decide⟩ hK hP hS hq rfl hl.1 rfl (Nat.le_of_ble_eq_true rfl) dX11_newStick_72 ⟨by decide, by decide⟩ (fun H locs hP hS => ?_)
    refine W.widen (k := 2) (n := 9) (by decide) (by decide) ?_
    exact W.aret hx hb hr (Or.inl ⟨_, rfl⟩) (Or.inr ⟨q, rfl⟩) (fun t ht _ => ⟨⟨(), q, rfl, trivial, by show SKF g h0 t.heap _ _; rw [ht]; exact ⟨hq, Or.inr (Or.inr (Or.inr (Or.inl ⟨rfl, hP 0 _ rfl⟩)))⟩⟩, hS.F ht⟩) hS.2.2 dX11_newStick_75 hlocks
  · refine lv_tableIn (tgt := 76) hx hb dX11_newStick_1 (by decide) (by decide) (by rfl) (by decide) ?_
    refine va_new (T := TX4) (N := 4) (ci := 4) (fs := [.int 0, .int 0, .int 0, .int 0]) hx hb hts uw_4 tyX4 tyX4_ok hown (hts _ w_538) (hts _ w_539) (hts _ w_89) hK.1 va_P0 va_D0 hS0 hA0 rfl (fun j hj => by
      rcases (show j = 0 ∨ j = 1 ∨ j = 2 ∨ j = 3 by omega) with rfl | rfl | rfl | rfl <;> rfl) (Nat.le_of_ble_eq_true rfl) (Nat.le_of_ble_eq_true rfl) dX11_newStick_76 (fun q H hP hD hS => ?_)
    have hq : h0 ≤ q := hD.2 0 _ rfl
    refine lv_dup hx hb dX11_newStick_79 rfl ?_
    refine lv_iload_n hx hb dX11_newStick_80 rfl (lv_at hl 1 rfl) ?_
    refine lv_iload_n hx hb dX11_newStick_81 rfl (lv_at hl 2 rfl) ?_
    refine lv_iload_n hx hb dX11_newStick_82 rfl (lv_at hl 3 rfl) ?_
    refine ob_call (As := [.int a1, .int a2, .int a3]) (rest := [.ref q]) C0 ci_X4_init w_540 (k_X4_init l g q obk_4 [.int 0, .int 0, .int 0, .int 0] rfl a1 a2 a3) ⟨by decide, by decide⟩ hK hP hS hq rfl hl.1 rfl (Nat.le_of_ble_eq_true rfl) dX11_newStick_83 ⟨by decide, by decide⟩ (fun H locs hP hS => ?_)
    refine W.widen (k := 2) (n := 9) (by decide) (by decide) ?_
    exact W.aret hx hb hr (Or.inl ⟨_, rfl⟩) (Or.inr ⟨q, rfl⟩) (fun t ht _ => ⟨⟨(), q, rfl, trivial, by show SKF g h0 t.heap _ _; rw [ht]; exact ⟨hq, Or.inr (Or.inr (Or.inr (Or.inr (Or.inl ⟨rfl, hP 0 _ rfl⟩))))⟩⟩, hS.F ht⟩) hS.2.2 dX11_newStick_86 hlocks
  · refine lv_tableIn (tgt := 87) hx hb dX11_newStick_1 (by decide) (by decide) (by rfl) (by decide) ?_
    refine va_new (T := TX3) (N := 4) (ci := 3) (fs := [.int 0, .int 0, .int 0, .int 0]) hx hb hts uw_3 tyX3 tyX3_ok hown (hts _ w_549) (hts _ w_550) (hts _ w_90) hK.1 va_P0 va_D0 hS0 hA0 rfl (fun j hj => by
      rcases (show j = 0 ∨ j = 1 ∨ j = 2 ∨ j = 3 by omega) with rfl | rfl | rfl | rfl <;> rfl) (Nat.le_of_ble_eq_true rfl) (Nat.le_of_ble_eq_true rfl) dX11_newStick_87 (fun q H hP hD hS => ?_)
    have hq : h0 ≤ q := hD.2 0 _ rfl
    refine lv_dup hx hb dX11_newStick_90 rfl ?_
    refine lv_iload_n hx hb dX11_newStick_91 rfl (lv_at hl 1 rfl) ?_
    refine lv_iload_n hx hb dX11_newStick_92 rfl (lv_at hl 2 rfl) ?_
    refine lv_iload_n hx hb dX11_newStick_93 rfl (lv_at hl 3 rfl) ?_
    refine ob_call (As := [.int a1, .int a2, .int a3]) (rest := [.ref q]) C0 ci_X3_init w_551 (k_X3_init l g q obk_3 [.int 0, .int 0, .int 0, .int 0] rfl a1 a2 a3) ⟨by decide, by decide⟩ hK hP hS hq rfl hl.1 rfl (Nat.le_of_ble_eq_true rfl) dX11_newStick_94 ⟨by decide, by decide⟩ (fun H locs hP hS => ?_)
    refine W.widen (k := 2) (n := 9) (by decide) (by decide) ?_
    exact W.aret hx hb hr (Or.inl ⟨_, rfl⟩) (Or.inr ⟨q, rfl⟩) (fun t ht _ => ⟨⟨(), q, rfl, trivial, by show SKF g h0 t.heap _ _; rw [ht]; exact ⟨hq, Or.inr (Or.inr (Or.inr (Or.inr (Or.inr (Or.inl ⟨rfl, hP 0 _ rfl⟩)))))⟩⟩, hS.F ht⟩) hS.2.2 dX11_newStick_97 hlocks
  · refine lv_tableIn (tgt := 98) hx hb dX11_newStick_1 (by decide) (by decide) (by rfl) (by decide) ?_
    refine va_new (T := TX8) (N := 5) (ci := 8) (fs := [.int 0, .int 0, .int 0, .int 0, .null]) hx hb hts uw_8 tyX8 tyX8_ok hown (hts _ w_560) (hts _ w_561) (hts _ w_91) hK.1 va_P0 va_D0 hS0 hA0 rfl (fun j hj => by
      rcases (show j = 0 ∨ j = 1 ∨ j = 2 ∨ j = 3 ∨ j = 4 by omega) with rfl | rfl | rfl | rfl | rfl <;> rfl) (Nat.le_of_ble_eq_true rfl) (Nat.le_of_ble_eq_true rfl) dX11_newStick_98 (fun q H hP hD hS => ?_)
    have hq : h0 ≤ q := hD.2 0 _ rfl
    refine lv_dup hx hb dX11_newStick_101 rfl ?_
    refine lv_iload_n hx hb dX11_newStick_102 rfl (lv_at hl 1 rfl) ?_
    refine lv_iload_n hx hb dX11_newStick_103 rfl (lv_at hl 2 rfl) ?_
    refine lv_iload_n hx hb dX11_newStick_104 rfl (lv_at hl 3 rfl) ?_
    have hz := hS.1
    refine va_callv (run_I (rm := { frames := 3, cells := 1, slots := 4, locals := 68 }) (As := [.int a1, .int a2, .int a3]) (rest := [.ref q]) C0 ci_X8_init w_562 ⟨by decide, by decide⟩ (k_X8_init l g H.size q [.int 0, .int 0, .int 0, .int 0, .null] rfl a1 a2 a3) ⟨(show SV (fun U => OB g q 8 [.int 0, .int 0, .int 0, .int 0, .null] U ∧ U.heap.size = H.size) from fun U U' hh hv h => ⟨OB.sv U U' hh hv h.1, by rw [← hh]; exact h.2⟩).blind, fun U hU hW => ⟨rfl, ⟨hK.warm hW, by rw [hU]; exact hP⟩, by rw [hU]⟩⟩ rfl hl.1 rfl (Nat.le_of_ble_eq_true rfl) dX11_newStick_105 ⟨by decide, by decide⟩) hS (fun z hz h => by rcases h with h | h; rw [h]; exact hq; exact absurd hz (by omega)) (fun z h => by have := hS.1; rcases h with h | h; rw [h]; exact hq; omega) (fun b t1 H1 locs1 ht _ hb2 hP2 _ _ hS => ?_)
    have hP2 : va_P g.1 vwCl [(q, .inr (8, (st4 [.int 0, .int 0, .int 0, .int 0, .null] a1 6 a2 a3).set 4 (.ref b))), (b, .inl (g.2.1 0, 4, .inl (fun _ => 0)))] H1 := by rw [← ht]; exact hP2
    have hbh : h0 ≤ b := by have := hb2.1; omega
    exact W.aret hx hb hr (Or.inl ⟨_, rfl⟩) (Or.inr ⟨q, rfl⟩) (fun t ht _ => ⟨⟨(), q, rfl, trivial, by show SKF g h0 t.heap _ _; rw [ht]; exact ⟨hq, Or.inr (Or.inr (Or.inr (Or.inr (Or.inr (Or.inr ⟨rfl, b, hbh, hb2.2, hP2 0 _ rfl, by rw [dS4]; exact hP2 1 _ rfl⟩)))))⟩⟩, hS.F ht⟩) hS.2.2 dX11_newStick_108 hlocks

