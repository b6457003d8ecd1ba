
/-! THE OBJECTS ARE MADE -/
theorem boo_cls {g : GG} {s : State} (hK : KK g s) {tys : List (ClassId × FieldType)} {cA : ClassId} (h : va_K g.1 vwCl (tys ++ [(cA, .boolean)]) s) : cA = g.2.1 1 := by
  have h1 := (h.2 tys.length (cA, .boolean) (by simp)).2
  have h2 := (hK.1.2 1 (g.2.1 1, .boolean) rfl).2
  have h1 : s.vm.findClass ("[" ++ FieldType.boolean.toString) = some cA := h1
  have h2 : s.vm.findClass ("[" ++ FieldType.boolean.toString) = some (g.2.1 1) := h2
  exact Option.some.inj (h1.symm.trans h2)
theorem stk_cls {g : GG} {s : State} (hK : KK g s) {tys : List (ClassId × FieldType)} {cA : ClassId} (h : va_K g.1 vwCl (tys ++ [(cA, .object "ThreeMeasures$Stick")]) s) : cA = g.2.1 2 := by
  obtain ⟨k1, c1, -, -, -, h1⟩ := (h.2 tys.length (cA, .object "ThreeMeasures$Stick") (by simp)).2
  obtain ⟨k2, c2, -, -, -, h2⟩ := (hK.1.2 2 (g.2.1 2, .object "ThreeMeasures$Stick") rfl).2
  exact Option.some.inj (h1.symm.trans h2)

set_option maxRecDepth 20000 in
theorem w_1055 : (Cond.arrayClass .boolean) ∈ TB := inTB (List.mem_of_getElem? (i := 1055) (by decide +kernel)) (by decide +kernel)
set_option maxRecDepth 20000 in
theorem w_187 : (Cond.methodLink RX1 3 objectInit) ∈ TB := inTB (List.mem_of_getElem? (i := 187) (by decide +kernel)) (by decide +kernel)
theorem dX1_init_0 : decode cX1_init 0 = .ok (.aload_n 0, 1) := by decide +kernel
theorem dX1_init_1 : decode cX1_init 1 = .ok (.invokespecial 3, 3) := by decide +kernel
theorem dX1_init_4 : decode cX1_init 4 = .ok (.aload_n 0, 1) := by decide +kernel
theorem dX1_init_5 : decode cX1_init 5 = .ok (.bipush 100, 2) := by decide +kernel
theorem dX1_init_7 : decode cX1_init 7 = .ok (.newarray .int, 2) := by decide +kernel
theorem dX1_init_9 : decode cX1_init 9 = .ok (.putfield 9, 3) := by decide +kernel
theorem dX1_init_12 : decode cX1_init 12 = .ok (.return_, 1) := by decide +kernel
/-- the cells of a new ThreeMeasures$Reader at q, its rows at a -/
def nW1 (g : GG) (q : Nat) (a : Nat → Nat) : va_W := (q, .inr (1, [.ref (a 0), .int 0, .null, .int 0, .int 0, .int 0, .int 0, .int 0])) :: (a 0, .inl (g.2.1 0, 100, .inl (fun _ => 0))) :: []
abbrev nF1 : List Value := [.null, .int 0, .null, .int 0, .int 0, .int 0, .int 0, .int 0]
set_option maxHeartbeats 2000000 in
set_option maxRecDepth 20000 in
theorem k_X1_init (l : Launch) (g : GG) (h0 q : Nat) : Met l yX1_init (wsF yX1_init cX1_init 1 none) { frames := 1, cells := 1, slots := 100, locals := 20 } (va_Pc [.ref q] (fun U => OB g q 1 nF1 U ∧ U.heap.size = h0)) (va_Qv (fun _ : Nat → Nat => True) (fun a t => va_P g.1 vwCl (nW1 g q a) t.heap ∧ va_D (fun z => z = q ∨ h0 ≤ z) (nW1 g q a)) (fun z => z = q ∨ h0 ≤ z)) 1 100 (fun z => z = q ∨ h0 ≤ z) := by
  refine start_X (by decide) (Nat.le_of_ble_eq_true rfl) ?_
  intro p e s m args below meth c C0 hin hB ls hl
  obtain ⟨hx, hb, hr, hml, hown, hts, hlocks⟩ := id C0
  obtain ⟨⟨hK, hP⟩, hsz⟩ := hB
  have hl : lv_has ls 1 [(0, .ref q)] := hl
  have hS : va_S (fun z => z = q ∨ h0 ≤ z) s.heap s.heap [] := va_S.rf
  have hD : va_D (fun z => z = q ∨ h0 ≤ z) [(q, .inr (1, nF1))] := va_D1 (Or.inl rfl)
  refine lv_aload_n hx hb dX1_init_0 rfl (lv_at hl 0 rfl) ?_
  refine obj_init C0 w_187 hl.1 dX1_init_1 ⟨by decide, by decide⟩ (Nat.le_of_ble_eq_true rfl) ?_
  refine lv_aload_n hx hb dX1_init_4 rfl (lv_at hl 0 rfl) ?_
  refine lv_bipush (v := (100 : Int32)) hx hb dX1_init_5 (by decide) ?_
  refine va_newa (atype := .int) (a0 := (100, .inl (fun _ => 0))) hx hb (hts _ w_181) rfl hK.1 hP hD hS (fun z hz => Or.inr (by omega)) (fun _ => rfl) (by decide) rfl (Nat.le_of_ble_eq_true rfl) (Nat.le_of_ble_eq_true rfl) (Nat.le_of_ble_eq_true rfl) dX1_init_7 (fun b7 cA H hK2 hP hD hS => ?_)
  have eA := int_cls hK hK2
  subst eA
  have hP : va_P g.1 vwCl [(q, .inr (1, [.null, .int 0, .null, .int 0, .int 0, .int 0, .int 0, .int 0])), (b7, .inl (g.2.1 0, 100, .inl (fun _ => 0)))] H := hP
  have hD : va_D (fun z => z = q ∨ h0 ≤ z) [(q, .inr (1, [.null, .int 0, .null, .int 0, .int 0, .int 0, .int 0, .int 0])), (b7, .inl (g.2.1 0, 100, .inl (fun _ => 0)))] := hD
  refine va_putF (D := g.1) (ci := 1) (v := .ref b7) (ty := .array .int) (C := RX1) (T := TX1) (N := 8) (fs := [.null, .int 0, .null, .int 0, .int 0, .int 0, .int 0, .int 0]) hx hb hts uw_1 tyX1 tyX1_ok nmX1 hown hK.1 hP hD hS 0 rfl rfl 0 (by decide) (hts _ w_188) (fun _ h => h) rfl hin rfl rfl rfl rfl (Nat.le_of_ble_eq_true rfl) dX1_init_9 (fun H locs hP hD hS => ?_)
  have hP : va_P g.1 vwCl [(q, .inr (1, [.ref b7, .int 0, .null, .int 0, .int 0, .int 0, .int 0, .int 0])), (b7, .inl (g.2.1 0, 100, .inl (fun _ => 0)))] H := hP
  have hD : va_D (fun z => z = q ∨ h0 ≤ z) [(q, .inr (1, [.ref b7, .int 0, .null, .int 0, .int 0, .int 0, .int 0, .int 0])), (b7, .inl (g.2.1 0, 100, .inl (fun _ => 0)))] := hD
  refine W.vret hx hb hr (fun t ht _ => ⟨⟨(fun k => if k = 0 then b7 else 0), rfl, trivial, ?_⟩, hS.F ht⟩) hS.2.2 dX1_init_12 hlocks
  show va_P g.1 vwCl _ t.heap ∧ va_D _ _
  rw [ht]
  exact ⟨hP, hD⟩

set_option maxRecDepth 20000 in
theorem w_219 : (Cond.methodLink RX9 3 objectInit) ∈ TB := inTB (List.mem_of_getElem? (i := 219) (by decide +kernel)) (by decide +kernel)
theorem dX9_init_0 : decode cX9_init 0 = .ok (.aload_n 0, 1) := by decide +kernel
theorem dX9_init_1 : decode cX9_init 1 = .ok (.invokespecial 3, 3) := by decide +kernel
theorem dX9_init_4 : decode cX9_init 4 = .ok (.aload_n 0, 1) := by decide +kernel
theorem dX9_init_5 : decode cX9_init 5 = .ok (.bipush 20, 2) := by decide +kernel
theorem dX9_init_7 : decode cX9_init 7 = .ok (.newarray .int, 2) := by decide +kernel
theorem dX9_init_9 : decode cX9_init 9 = .ok (.putfield 9, 3) := by decide +kernel
theorem dX9_init_12 : decode cX9_init 12 = .ok (.return_, 1) := by decide +kernel
/-- the cells of a new ThreeMeasures$Trace at q, its rows at a -/
def nW9 (g : GG) (q : Nat) (a : Nat → Nat) : va_W := (q, .inr (9, [.ref (a 0), .int 0])) :: (a 0, .inl (g.2.1 0, 20, .inl (fun _ => 0))) :: []
abbrev nF9 : List Value := [.null, .int 0]
set_option maxHeartbeats 2000000 in
set_option maxRecDepth 20000 in
theorem k_X9_init (l : Launch) (g : GG) (h0 q : Nat) : Met l yX9_init (wsF yX9_init cX9_init 1 none) { frames := 1, cells := 1, slots := 20, locals := 20 } (va_Pc [.ref q] (fun U => OB g q 9 nF9 U ∧ U.heap.size = h0)) (va_Qv (fun _ : Nat → Nat => True) (fun a t => va_P g.1 vwCl (nW9 g q a) t.heap ∧ va_D (fun z => z = q ∨ h0 ≤ z) (nW9 g q a)) (fun z => z = q ∨ h0 ≤ z)) 1 20 (fun z => z = q ∨ h0 ≤ z) := by
  refine start_X (by decide) (Nat.le_of_ble_eq_true rfl) ?_
  intro p e s m args below meth c C0 hin hB ls hl
  obtain ⟨hx, hb, hr, hml, hown, hts, hlocks⟩ := id C0
  obtain ⟨⟨hK, hP⟩, hsz⟩ := hB
  have hl : lv_has ls 1 [(0, .ref q)] := hl
  have hS : va_S (fun z => z = q ∨ h0 ≤ z) s.heap s.heap [] := va_S.rf
  have hD : va_D (fun z => z = q ∨ h0 ≤ z) [(q, .inr (9, nF9))] := va_D1 (Or.inl rfl)
  refine lv_aload_n hx hb dX9_init_0 rfl (lv_at hl 0 rfl) ?_
  refine obj_init C0 w_219 hl.1 dX9_init_1 ⟨by decide, by decide⟩ (Nat.le_of_ble_eq_true rfl) ?_
  refine lv_aload_n hx hb dX9_init_4 rfl (lv_at hl 0 rfl) ?_
  refine lv_bipush (v := (20 : Int32)) hx hb dX9_init_5 (by decide) ?_
  refine va_newa (atype := .int) (a0 := (20, .inl (fun _ => 0))) hx hb (hts _ w_181) rfl hK.1 hP hD hS (fun z hz => Or.inr (by omega)) (fun _ => rfl) (by decide) rfl (Nat.le_of_ble_eq_true rfl) (Nat.le_of_ble_eq_true rfl) (Nat.le_of_ble_eq_true rfl) dX9_init_7 (fun b7 cA H hK2 hP hD hS => ?_)
  have eA := int_cls hK hK2
  subst eA
  have hP : va_P g.1 vwCl [(q, .inr (9, [.null, .int 0])), (b7, .inl (g.2.1 0, 20, .inl (fun _ => 0)))] H := hP
  have hD : va_D (fun z => z = q ∨ h0 ≤ z) [(q, .inr (9, [.null, .int 0])), (b7, .inl (g.2.1 0, 20, .inl (fun _ => 0)))] := hD
  refine va_putF (D := g.1) (ci := 9) (v := .ref b7) (ty := .array .int) (C := RX9) (T := TX9) (N := 2) (fs := [.null, .int 0]) hx hb hts uw_9 tyX9 tyX9_ok nmX9 hown hK.1 hP hD hS 0 rfl rfl 0 (by decide) (hts _ w_220) (fun _ h => h) rfl hin rfl rfl rfl rfl (Nat.le_of_ble_eq_true rfl) dX9_init_9 (fun H locs hP hD hS => ?_)
  have hP : va_P g.1 vwCl [(q, .inr (9, [.ref b7, .int 0])), (b7, .inl (g.2.1 0, 20, .inl (fun _ => 0)))] H := hP
  have hD : va_D (fun z => z = q ∨ h0 ≤ z) [(q, .inr (9, [.ref b7, .int 0])), (b7, .inl (g.2.1 0, 20, .inl (fun _ => 0)))] := hD
  refine W.vret hx hb hr (fun t ht _ => ⟨⟨(fun k => if k = 0 then b7 else 0), rfl, trivial, ?_⟩, hS.F ht⟩) hS.2.2 dX9_init_12 hlocks
  show va_P g.1 vwCl _ t.heap ∧ va_D _ _
  rw [ht]
  exact ⟨hP, hD⟩

set_option maxRecDepth 20000 in
theorem w_105 : (Cond.methodLink RX5 3 objectInit) ∈ TB := inTB (List.mem_of_getElem? (i := 105) (by decide +kernel)) (by decide +kernel)
set_option maxRecDepth 20000 in
theorem w_106 : (Cond.classLink RX5 15 "ThreeMeasures$Stick") ∈ TB := inTB (List.mem_of_getElem? (i := 106) (by decide +kernel)) (by decide +kernel)
theorem dX5_init_0 : decode cX5_init 0 = .ok (.aload_n 0, 1) := by decide +kernel
theorem dX5_init_1 : decode cX5_init 1 = .ok (.invokespecial 3, 3) := by decide +kernel
theorem dX5_init_4 : decode cX5_init 4 = .ok (.aload_n 0, 1) := by decide +kernel
theorem dX5_init_5 : decode cX5_init 5 = .ok (.bipush 100, 2) := by decide +kernel
theorem dX5_init_7 : decode cX5_init 7 = .ok (.newarray .int, 2) := by decide +kernel
theorem dX5_init_9 : decode cX5_init 9 = .ok (.putfield 9, 3) := by decide +kernel
theorem dX5_init_12 : decode cX5_init 12 = .ok (.aload_n 0, 1) := by decide +kernel
theorem dX5_init_13 : decode cX5_init 13 = .ok (.bipush 6, 2) := by decide +kernel
theorem dX5_init_15 : decode cX5_init 15 = .ok (.anewarray 15, 3) := by decide +kernel
theorem dX5_init_18 : decode cX5_init 18 = .ok (.putfield 17, 3) := by decide +kernel
theorem dX5_init_21 : decode cX5_init 21 = .ok (.aload_n 0, 1) := by decide +kernel
theorem dX5_init_22 : decode cX5_init 22 = .ok (.bipush 6, 2) := by decide +kernel
theorem dX5_init_24 : decode cX5_init 24 = .ok (.newarray .int, 2) := by decide +kernel
theorem dX5_init_26 : decode cX5_init 26 = .ok (.putfield 21, 3) := by decide +kernel
theorem dX5_init_29 : decode cX5_init 29 = .ok (.aload_n 0, 1) := by decide +kernel
theorem dX5_init_30 : decode cX5_init 30 = .ok (.bipush 6, 2) := by decide +kernel
theorem dX5_init_32 : decode cX5_init 32 = .ok (.newarray .int, 2) := by decide +kernel
theorem dX5_init_34 : decode cX5_init 34 = .ok (.putfield 24, 3) := by decide +kernel
theorem dX5_init_37 : decode cX5_init 37 = .ok (.aload_n 0, 1) := by decide +kernel
theorem dX5_init_38 : decode cX5_init 38 = .ok (.bipush 8, 2) := by decide +kernel
theorem dX5_init_40 : decode cX5_init 40 = .ok (.newarray .int, 2) := by decide +kernel
theorem dX5_init_42 : decode cX5_init 42 = .ok (.putfield 27, 3) := by decide +kernel
theorem dX5_init_45 : decode cX5_init 45 = .ok (.aload_n 0, 1) := by decide +kernel
theorem dX5_init_46 : decode cX5_init 46 = .ok (.bipush 8, 2) := by decide +kernel
theorem dX5_init_48 : decode cX5_init 48 = .ok (.newarray .int, 2) := by decide +kernel
theorem dX5_init_50 : decode cX5_init 50 = .ok (.putfield 30, 3) := by decide +kernel
theorem dX5_init_53 : decode cX5_init 53 = .ok (.aload_n 0, 1) := by decide +kernel
theorem dX5_init_54 : decode cX5_init 54 = .ok (.bipush 6, 2) := by decide +kernel
theorem dX5_init_56 : decode cX5_init 56 = .ok (.newarray .int, 2) := by decide +kernel
theorem dX5_init_58 : decode cX5_init 58 = .ok (.putfield 33, 3) := by decide +kernel
theorem dX5_init_61 : decode cX5_init 61 = .ok (.aload_n 0, 1) := by decide +kernel
theorem dX5_init_62 : decode cX5_init 62 = .ok (.bipush 8, 2) := by decide +kernel
theorem dX5_init_64 : decode cX5_init 64 = .ok (.newarray .int, 2) := by decide +kernel
theorem dX5_init_66 : decode cX5_init 66 = .ok (.putfield 36, 3) := by decide +kernel
theorem dX5_init_69 : decode cX5_init 69 = .ok (.aload_n 0, 1) := by decide +kernel
theorem dX5_init_70 : decode cX5_init 70 = .ok (.bipush 8, 2) := by decide +kernel
theorem dX5_init_72 : decode cX5_init 72 = .ok (.newarray .int, 2) := by decide +kernel
theorem dX5_init_74 : decode cX5_init 74 = .ok (.putfield 39, 3) := by decide +kernel
theorem dX5_init_77 : decode cX5_init 77 = .ok (.return_, 1) := by decide +kernel
/-- the cells of a new ThreeMeasures$State at q, its rows at a -/
def nW5 (g : GG) (q : Nat) (a : Nat → Nat) : va_W := (q, .inr (5, [.ref (a 0), .int 0, .null, .int 0, .ref (a 4), .int 0, .ref (a 6), .ref (a 7), .int 0, .int 0, .ref (a 10), .ref (a 11), .int 0, .ref (a 13), .int 0, .ref (a 15), .ref (a 16), .int 0])) :: (a 0, .inl (g.2.1 0, 100, .inl (fun _ => 0))) :: (a 4, .inl (g.2.1 2, 6, .inr (.inr (.inr (.inr (fun _ => none)))))) :: (a 6, .inl (g.2.1 0, 6, .inl (fun _ => 0))) :: (a 7, .inl (g.2.1 0, 6, .inl (fun _ => 0))) :: (a 10, .inl (g.2.1 0, 8, .inl (fun _ => 0))) :: (a 11, .inl (g.2.1 0, 8, .inl (fun _ => 0))) :: (a 13, .inl (g.2.1 0, 6, .inl (fun _ => 0))) :: (a 15, .inl (g.2.1 0, 8, .inl (fun _ => 0))) :: (a 16, .inl (g.2.1 0, 8, .inl (fun _ => 0))) :: []
abbrev nF5 : List Value := [.null, .int 0, .null, .int 0, .null, .int 0, .null, .null, .int 0, .int 0, .null, .null, .int 0, .null, .int 0, .null, .null, .int 0]
set_option maxHeartbeats 2000000 in
set_option maxRecDepth 20000 in
theorem k_X5_init (l : Launch) (g : GG) (h0 q : Nat) : Met l yX5_init (wsF yX5_init cX5_init 1 none) { frames := 1, cells := 9, slots := 156, locals := 20 } (va_Pc [.ref q] (fun U => (OB g q 5 nF5 U ∧ U.heap.size = h0) ∧ va_AO "ThreeMeasures$Stick" U)) (va_Qv (fun _ : Nat → Nat => True) (fun a t => va_P g.1 vwCl (nW5 g q a) t.heap ∧ va_D (fun z => z = q ∨ h0 ≤ z) (nW5 g q a)) (fun z => z = q ∨ h0 ≤ z)) 9 156 (fun z => z = q ∨ h0 ≤ z) := by
  refine start_X (by decide) (Nat.le_of_ble_eq_true rfl) ?_
  intro p e s m args below meth c C0 hin hB ls hl
  obtain ⟨hx, hb, hr, hml, hown, hts, hlocks⟩ := id C0
  obtain ⟨⟨⟨hK, hP⟩, hsz⟩, hAO⟩ := hB
  have hl : lv_has ls 1 [(0, .ref q)] := hl
  have hS : va_S (fun z => z = q ∨ h0 ≤ z) s.heap s.heap [] := va_S.rf
  have hD : va_D (fun z => z = q ∨ h0 ≤ z) [(q, .inr (5, nF5))] := va_D1 (Or.inl rfl)
  refine lv_aload_n hx hb dX5_init_0 rfl (lv_at hl 0 rfl) ?_
  refine obj_init C0 w_105 hl.1 dX5_init_1 ⟨by decide, by decide⟩ (Nat.le_of_ble_eq_true rfl) ?_
  refine lv_aload_n hx hb dX5_init_4 rfl (lv_at hl 0 rfl) ?_
  refine lv_bipush (v := (100 : Int32)) hx hb dX5_init_5 (by decide) ?_
  refine va_newa (atype := .int) (a0 := (100, .inl (fun _ => 0))) hx hb (hts _ w_181) rfl hK.1 hP hD hS (fun z hz => Or.inr (by omega)) (fun _ => rfl) (by decide) rfl (Nat.le_of_ble_eq_true rfl) (Nat.le_of_ble_eq_true rfl) (Nat.le_of_ble_eq_true rfl) dX5_init_7 (fun b7 cA H hK2 hP hD hS => ?_)
  have eA := int_cls hK hK2
  subst eA
  have hP : va_P g.1 vwCl [(q, .inr (5, [.null, .int 0, .null, .int 0, .null, .int 0, .null, .null, .int 0, .int 0, .null, .null, .int 0, .null, .int 0, .null, .null, .int 0])), (b7, .inl (g.2.1 0, 100, .inl (fun _ => 0)))] H := hP
  have hD : va_D (fun z => z = q ∨ h0 ≤ z) [(q, .inr (5, [.null, .int 0, .null, .int 0, .null, .int 0, .null, .null, .int 0, .int 0, .null, .null, .int 0, .null, .int 0, .null, .null, .int 0])), (b7, .inl (g.2.1 0, 100, .inl (fun _ => 0)))] := hD
  refine va_putF (D := g.1) (ci := 5) (v := .ref b7) (ty := .array .int) (C := RX5) (T := TX5) (N := 18) (fs := [.null, .int 0, .null, .int 0, .null, .int 0, .null, .null, .int 0, .int 0, .null, .null, .int 0, .null, .int 0, .null, .null, .int 0]) hx hb hts uw_5 tyX5 tyX5_ok nmX5 hown hK.1 hP hD hS 0 rfl rfl 0 (by decide) (hts _ w_108) (fun _ h => h) rfl hin rfl rfl rfl rfl (Nat.le_of_ble_eq_true rfl) dX5_init_9 (fun H locs hP hD hS => ?_)
  have hP : va_P g.1 vwCl [(q, .inr (5, [.ref b7, .int 0, .null, .int 0, .null, .int 0, .null, .null, .int 0, .int 0, .null, .null, .int 0, .null, .int 0, .null, .null, .int 0])), (b7, .inl (g.2.1 0, 100, .inl (fun _ => 0)))] H := hP
  have hD : va_D (fun z => z = q ∨ h0 ≤ z) [(q, .inr (5, [.ref b7, .int 0, .null, .int 0, .null, .int 0, .null, .null, .int 0, .int 0, .null, .null, .int 0, .null, .int 0, .null, .null, .int 0])), (b7, .inl (g.2.1 0, 100, .inl (fun _ => 0)))] := hD
  refine lv_aload_n hx hb dX5_init_12 rfl (lv_at hl 0 rfl) ?_
  refine lv_bipush (v := (6 : Int32)) hx hb dX5_init_13 (by decide) ?_
  refine va_newq (C := "ThreeMeasures$Stick") hx hb hown (hts _ w_106) hAO hK.1 hP hD hS (fun z hz => Or.inr (by omega)) (N' := 6) (by decide) rfl (by decide) (Nat.le_of_ble_eq_true rfl) (Nat.le_of_ble_eq_true rfl) dX5_init_15 (fun b15 cA H hK2 hP hD hS => ?_)
  have eA := stk_cls hK hK2
  subst eA
  have hP : va_P g.1 vwCl [(q, .inr (5, [.ref b7, .int 0, .null, .int 0, .null, .int 0, .null, .null, .int 0, .int 0, .null, .null, .int 0, .null, .int 0, .null, .null, .int 0])), (b7, .inl (g.2.1 0, 100, .inl (fun _ => 0))), (b15, .inl (g.2.1 2, 6, .inr (.inr (.inr (.inr (fun _ => none))))))] H := hP
  have hD : va_D (fun z => z = q ∨ h0 ≤ z) [(q, .inr (5, [.ref b7, .int 0, .null, .int 0, .null, .int 0, .null, .null, .int 0, .int 0, .null, .null, .int 0, .null, .int 0, .null, .null, .int 0])), (b7, .inl (g.2.1 0, 100, .inl (fun _ => 0))), (b15, .inl (g.2.1 2, 6, .inr (.inr (.inr (.inr (fun _ => none))))))] := hD
  refine va_putF (D := g.1) (ci := 5) (v := .ref b15) (ty := .array (.object "ThreeMeasures$Stick")) (C := RX5) (T := TX5) (N := 18) (fs := [.ref b7, .int 0, .null, .int 0, .null, .int 0, .null, .null, .int 0, .int 0, .null, .null, .int 0, .null, .int 0, .null, .null, .int 0]) hx hb hts uw_5 tyX5 tyX5_ok nmX5 hown hK.1 hP hD hS 0 rfl rfl 4 (by decide) (hts _ w_116) (fun _ h => h) rfl hin rfl rfl rfl rfl (Nat.le_of_ble_eq_true rfl) dX5_init_18 (fun H locs hP hD hS => ?_)
  have hP : va_P g.1 vwCl [(q, .inr (5, [.ref b7, .int 0, .null, .int 0, .ref b15, .int 0, .null, .null, .int 0, .int 0, .null, .null, .int 0, .null, .int 0, .null, .null, .int 0])), (b7, .inl (g.2.1 0, 100, .inl (fun _ => 0))), (b15, .inl (g.2.1 2, 6, .inr (.inr (.inr (.inr (fun _ => none))))))] H := hP
  have hD : va_D (fun z => z = q ∨ h0 ≤ z) [(q, .inr (5, [.ref b7, .int 0, .null, .int 0, .ref b15, .int 0, .null, .null, .int 0, .int 0, .null, .null, .int 0, .null, .int 0, .null, .null, .int 0])), (b7, .inl (g.2.1 0, 100, .inl (fun _ => 0))), (b15, .inl (g.2.1 2, 6, .inr (.inr (.inr (.inr (fun _ => none))))))] := hD
  refine lv_aload_n hx hb dX5_init_21 rfl (lv_at hl 0 rfl) ?_
  refine lv_bipush (v := (6 : Int32)) hx hb dX5_init_22 (by decide) ?_
  refine va_newa (atype := .int) (a0 := (6, .inl (fun _ => 0))) hx hb (hts _ w_181) rfl hK.1 hP hD hS (fun z hz => Or.inr (by omega)) (fun _ => rfl) (by decide) rfl (Nat.le_of_ble_eq_true rfl) (Nat.le_of_ble_eq_true rfl) (Nat.le_of_ble_eq_true rfl) dX5_init_24 (fun b24 cA H hK2 hP hD hS => ?_)
  have eA := int_cls hK hK2
  subst eA
  have hP : va_P g.1 vwCl [(q, .inr (5, [.ref b7, .int 0, .null, .int 0, .ref b15, .int 0, .null, .null, .int 0, .int 0, .null, .null, .int 0, .null, .int 0, .null, .null, .int 0])), (b7, .inl (g.2.1 0, 100, .inl (fun _ => 0))), (b15, .inl (g.2.1 2, 6, .inr (.inr (.inr (.inr (fun _ => none)))))), (b24, .inl (g.2.1 0, 6, .inl (fun _ => 0)))] H := hP
  have hD : va_D (fun z => z = q ∨ h0 ≤ z) [(q, .inr (5, [.ref b7, .int 0, .null, .int 0, .ref b15, .int 0, .null, .null, .int 0, .int 0, .null, .null, .int 0, .null, .int 0, .null, .null, .int 0])), (b7, .inl (g.2.1 0, 100, .inl (fun _ => 0))), (b15, .inl (g.2.1 2, 6, .inr (.inr (.inr (.inr (fun _ => none)))))), (b24, .inl (g.2.1 0, 6, .inl (fun _ => 0)))] := hD
  refine va_putF (D := g.1) (ci := 5) (v := .ref b24) (ty := .array .int) (C := RX5) (T := TX5) (N := 18) (fs := [.ref b7, .int 0, .null, .int 0, .ref b15, .int 0, .null, .null, .int 0, .int 0, .null, .null, .int 0, .null, .int 0, .null, .null, .int 0]) hx hb hts uw_5 tyX5 tyX5_ok nmX5 hown hK.1 hP hD hS 0 rfl rfl 6 (by decide) (hts _ w_120) (fun _ h => h) rfl hin rfl rfl rfl rfl (Nat.le_of_ble_eq_true rfl) dX5_init_26 (fun H locs hP hD hS => ?_)
  have hP : va_P g.1 vwCl [(q, .inr (5, [.ref b7, .int 0, .null, .int 0, .ref b15, .int 0, .ref b24, .null, .int 0, .int 0, .null, .null, .int 0, .null, .int 0, .null, .null, .int 0])), (b7, .inl (g.2.1 0, 100, .inl (fun _ => 0))), (b15, .inl (g.2.1 2, 6, .inr (.inr (.inr (.inr (fun _ => none)))))), (b24, .inl (g.2.1 0, 6, .inl (fun _ => 0)))] H := hP
  have hD : va_D (fun z => z = q ∨ h0 ≤ z) [(q, .inr (5, [.ref b7, .int 0, .null, .int 0, .ref b15, .int 0, .ref b24, .null, .int 0, .int 0, .null, .null, .int 0, .null, .int 0, .null, .null, .int 0])), (b7, .inl (g.2.1 0, 100, .inl (fun _ => 0))), (b15, .inl (g.2.1 2, 6, .inr (.inr (.inr (.inr (fun _ => none)))))), (b24, .inl (g.2.1 0, 6, .inl (fun _ => 0)))] := hD
  refine lv_aload_n hx hb dX5_init_29 rfl (lv_at hl 0 rfl) ?_
  refine lv_bipush (v := (6 : Int32)) hx hb dX5_init_30 (by decide) ?_
  refine va_newa (atype := .int) (a0 := (6, .inl (fun _ => 0))) hx hb (hts _ w_181) rfl hK.1 hP hD hS (fun z hz => Or.inr (by omega)) (fun _ => rfl) (by decide) rfl (Nat.le_of_ble_eq_true rfl) (Nat.le_of_ble_eq_true rfl) (Nat.le_of_ble_eq_true rfl) dX5_init_32 (fun b32 cA H hK2 hP hD hS => ?_)
  have eA := int_cls hK hK2
  subst eA
  have hP : va_P g.1 vwCl [(q, .inr (5, [.ref b7, .int 0, .null, .int 0, .ref b15, .int 0, .ref b24, .null, .int 0, .int 0, .null, .null, .int 0, .null, .int 0, .null, .null, .int 0])), (b7, .inl (g.2.1 0, 100, .inl (fun _ => 0))), (b15, .inl (g.2.1 2, 6, .inr (.inr (.inr (.inr (fun _ => none)))))), (b24, .inl (g.2.1 0, 6, .inl (fun _ => 0))), (b32, .inl (g.2.1 0, 6, .inl (fun _ => 0)))] H := hP
  have hD : va_D (fun z => z = q ∨ h0 ≤ z) [(q, .inr (5, [.ref b7, .int 0, .null, .int 0, .ref b15, .int 0, .ref b24, .null, .int 0, .int 0, .null, .null, .int 0, .null, .int 0, .null, .null, .int 0])), (b7, .inl (g.2.1 0, 100, .inl (fun _ => 0))), (b15, .inl (g.2.1 2, 6, .inr (.inr (.inr (.inr (fun _ => none)))))), (b24, .inl (g.2.1 0, 6, .inl (fun _ => 0))), (b32, .inl (g.2.1 0, 6, .inl (fun _ => 0)))] := hD
  refine va_putF (D := g.1) (ci := 5) (v := .ref b32) (ty := .array .int) (C := RX5) (T := TX5) (N := 18) (fs := [.ref b7, .int 0, .null, .int 0, .ref b15, .int 0, .ref b24, .null, .int 0, .int 0, .null, .null, .int 0, .null, .int 0, .null, .null, .int 0]) hx hb hts uw_5 tyX5 tyX5_ok nmX5 hown hK.1 hP hD hS 0 rfl rfl 7 (by decide) (hts _ w_122) (fun _ h => h) rfl hin rfl rfl rfl rfl (Nat.le_of_ble_eq_true rfl) dX5_init_34 (fun H locs hP hD hS => ?_)
  have hP : va_P g.1 vwCl [(q, .inr (5, [.ref b7, .int 0, .null, .int 0, .ref b15, .int 0, .ref b24, .ref b32, .int 0, .int 0, .null, .null, .int 0, .null, .int 0, .null, .null, .int 0])), (b7, .inl (g.2.1 0, 100, .inl (fun _ => 0))), (b15, .inl (g.2.1 2, 6, .inr (.inr (.inr (.inr (fun _ => none)))))), (b24, .inl (g.2.1 0, 6, .inl (fun _ => 0))), (b32, .inl (g.2.1 0, 6, .inl (fun _ => 0)))] H := hP
  have hD : va_D (fun z => z = q ∨ h0 ≤ z) [(q, .inr (5, [.ref b7, .int 0, .null, .int 0, .ref b15, .int 0, .ref b24, .ref b32, .int 0, .int 0, .null, .null, .int 0, .null, .int 0, .null, .null, .int 0])), (b7, .inl (g.2.1 0, 100, .inl (fun _ => 0))), (b15, .inl (g.2.1 2, 6, .inr (.inr (.inr (.inr (fun _ => none)))))), (b24, .inl (g.2.1 0, 6, .inl (fun _ => 0))), (b32, .inl (g.2.1 0, 6, .inl (fun _ => 0)))] := hD
  refine lv_aload_n hx hb dX5_init_37 rfl (lv_at hl 0 rfl) ?_
  refine lv_bipush (v := (8 : Int32)) hx hb dX5_init_38 (by decide) ?_
  refine va_newa (atype := .int) (a0 := (8, .inl (fun _ => 0))) hx hb (hts _ w_181) rfl hK.1 hP hD hS (fun z hz => Or.inr (by omega)) (fun _ => rfl) (by decide) rfl (Nat.le_of_ble_eq_true rfl) (Nat.le_of_ble_eq_true rfl) (Nat.le_of_ble_eq_true rfl) dX5_init_40 (fun b40 cA H hK2 hP hD hS => ?_)
  have eA := int_cls hK hK2
  subst eA
  have hP : va_P g.1 vwCl [(q, .inr (5, [.ref b7, .int 0, .null, .int 0, .ref b15, .int 0, .ref b24, .ref b32, .int 0, .int 0, .null, .null, .int 0, .null, .int 0, .null, .null, .int 0])), (b7, .inl (g.2.1 0, 100, .inl (fun _ => 0))), (b15, .inl (g.2.1 2, 6, .inr (.inr (.inr (.inr (fun _ => none)))))), (b24, .inl (g.2.1 0, 6, .inl (fun _ => 0))), (b32, .inl (g.2.1 0, 6, .inl (fun _ => 0))), (b40, .inl (g.2.1 0, 8, .inl (fun _ => 0)))] H := hP
  have hD : va_D (fun z => z = q ∨ h0 ≤ z) [(q, .inr (5, [.ref b7, .int 0, .null, .int 0, .ref b15, .int 0, .ref b24, .ref b32, .int 0, .int 0, .null, .null, .int 0, .null, .int 0, .null, .null, .int 0])), (b7, .inl (g.2.1 0, 100, .inl (fun _ => 0))), (b15, .inl (g.2.1 2, 6, .inr (.inr (.inr (.inr (fun _ => none)))))), (b24, .inl (g.2.1 0, 6, .inl (fun _ => 0))), (b32, .inl (g.2.1 0, 6, .inl (fun _ => 0))), (b40, .inl (g.2.1 0, 8, .inl (fun _ => 0)))] := hD
  refine va_putF (D := g.1) (ci := 5) (v := .ref b40) (ty := .array .int) (C := RX5) (T := TX5) (N := 18) (fs := [.ref b7, .int 0, .null, .int 0, .ref b15, .int 0, .ref b24, .ref b32, .int 0, .int 0, .null, .null, .int 0, .null, .int 0, .null, .null, .int 0]) hx hb hts uw_5 tyX5 tyX5_ok nmX5 hown hK.1 hP hD hS 0 rfl rfl 10 (by decide) (hts _ w_128) (fun _ h => h) rfl hin rfl rfl rfl rfl (Nat.le_of_ble_eq_true rfl) dX5_init_42 (fun H locs hP hD hS => ?_)
  have hP : va_P g.1 vwCl [(q, .inr (5, [.ref b7, .int 0, .null, .int 0, .ref b15, .int 0, .ref b24, .ref b32, .int 0, .int 0, .ref b40, .null, .int 0, .null, .int 0, .null, .null, .int 0])), (b7, .inl (g.2.1 0, 100, .inl (fun _ => 0))), (b15, .inl (g.2.1 2, 6, .inr (.inr (.inr (.inr (fun _ => none)))))), (b24, .inl (g.2.1 0, 6, .inl (fun _ => 0))), (b32, .inl (g.2.1 0, 6, .inl (fun _ => 0))), (b40, .inl (g.2.1 0, 8, .inl (fun _ => 0)))] H := hP
  have hD : va_D (fun z => z = q ∨ h0 ≤ z) [(q, .inr (5, [.ref b7, .int 0, .null, .int 0, .ref b15, .int 0, .ref b24, .ref b32, .int 0, .int 0, .ref b40, .null, .int 0, .null, .int 0, .null, .null, .int 0])), (b7, .inl (g.2.1 0, 100, .inl (fun _ => 0))), (b15, .inl (g.2.1 2, 6, .inr (.inr (.inr (.inr (fun _ => none)))))), (b24, .inl (g.2.1 0, 6, .inl (fun _ => 0))), (b32, .inl (g.2.1 0, 6, .inl (fun _ => 0))), (b40, .inl (g.2.1 0, 8, .inl (fun _ => 0)))] := hD
  refine lv_aload_n hx hb dX5_init_45 rfl (lv_at hl 0 rfl) ?_
  refine lv_bipush (v := (8 : Int32)) hx hb dX5_init_46 (by decide) ?_
  refine va_newa (atype := .int) (a0 := (8, .inl (fun _ => 0))) hx hb (hts _ w_181) rfl hK.1 hP hD hS (fun z hz => Or.inr (by omega)) (fun _ => rfl) (by decide) rfl (Nat.le_of_ble_eq_true rfl) (Nat.le_of_ble_eq_true rfl) (Nat.le_of_ble_eq_true rfl) dX5_init_48 (fun b48 cA H hK2 hP hD hS => ?_)
  have eA := int_cls hK hK2
  subst eA
  have hP : va_P g.1 vwCl [(q, .inr (5, [.ref b7, .int 0, .null, .int 0, .ref b15, .int 0, .ref b24, .ref b32, .int 0, .int 0, .ref b40, .null, .int 0, .null, .int 0, .null, .null, .int 0])), (b7, .inl (g.2.1 0, 100, .inl (fun _ => 0))), (b15, .inl (g.2.1 2, 6, .inr (.inr (.inr (.inr (fun _ => none)))))), (b24, .inl (g.2.1 0, 6, .inl (fun _ => 0))), (b32, .inl (g.2.1 0, 6, .inl (fun _ => 0))), (b40, .inl (g.2.1 0, 8, .inl (fun _ => 0))), (b48, .inl (g.2.1 0, 8, .inl (fun _ => 0)))] H := hP
  have hD : va_D (fun z => z = q ∨ h0 ≤ z) [(q, .inr (5, [.ref b7, .int 0, .null, .int 0, .ref b15, .int 0, .ref b24, .ref b32, .int 0, .int 0, .ref b40, .null, .int 0, .null, .int 0, .null, .null, .int 0])), (b7, .inl (g.2.1 0, 100, .inl (fun _ => 0))), (b15, .inl (g.2.1 2, 6, .inr (.inr (.inr (.inr (fun _ => none)))))), (b24, .inl (g.2.1 0, 6, .inl (fun _ => 0))), (b32, .inl (g.2.1 0, 6, .inl (fun _ => 0))), (b40, .inl (g.2.1 0, 8, .inl (fun _ => 0))), (b48, .inl (g.2.1 0, 8, .inl (fun _ => 0)))] := hD
  refine va_putF (D := g.1) (ci := 5) (v := .ref b48) (ty := .array .int) (C := RX5) (T := TX5) (N := 18) (fs := [.ref b7, .int 0, .null, .int 0, .ref b15, .int 0, .ref b24, .ref b32, .int 0, .int 0, .ref b40, .null, .int 0, .null, .int 0, .null, .null, .int 0]) hx hb hts uw_5 tyX5 tyX5_ok nmX5 hown hK.1 hP hD hS 0 rfl rfl 11 (by decide) (hts _ w_130) (fun _ h => h) rfl hin rfl rfl rfl rfl (Nat.le_of_ble_eq_true rfl) dX5_init_50 (fun H locs hP hD hS => ?_)
  have hP : va_P g.1 vwCl [(q, .inr (5, [.ref b7, .int 0, .null, .int 0, .ref b15, .int 0, .ref b24, .ref b32, .int 0, .int 0, .ref b40, .ref b48, .int 0, .null, .int 0, .null, .null, .int 0])), (b7, .inl (g.2.1 0, 100, .inl (fun _ => 0))), (b15, .inl (g.2.1 2, 6, .inr (.inr (.inr (.inr (fun _ => none)))))), (b24, .inl (g.2.1 0, 6, .inl (fun _ => 0))), (b32, .inl (g.2.1 0, 6, .inl (fun _ => 0))), (b40, .inl (g.2.1 0, 8, .inl (fun _ => 0))), (b48, .inl (g.2.1 0, 8, .inl (fun _ => 0)))] H := hP
  have hD : va_D (fun z => z = q ∨ h0 ≤ z) [(q, .inr (5, [.ref b7, .int 0, .null, .int 0, .ref b15, .int 0, .ref b24, .ref b32, .int 0, .int 0, .ref b40, .ref b48, .int 0, .null, .int 0, .null, .null, .int 0])), (b7, .inl (g.2.1 0, 100, .inl (fun _ => 0))), (b15, .inl (g.2.1 2, 6, .inr (.inr (.inr (.inr (fun _ => none)))))), (b24, .inl (g.2.1 0, 6, .inl (fun _ => 0))), (b32, .inl (g.2.1 0, 6, .inl (fun _ => 0))), (b40, .inl (g.2.1 0, 8, .inl (fun _ => 0))), (b48, .inl (g.2.1 0, 8, .inl (fun _ => 0)))] := hD
  refine lv_aload_n hx hb dX5_init_53 rfl (lv_at hl 0 rfl) ?_
  refine lv_bipush (v := (6 : Int32)) hx hb dX5_init_54 (by decide) ?_
  refine va_newa (atype := .int) (a0 := (6, .inl (fun _ => 0))) hx hb (hts _ w_181) rfl hK.1 hP hD hS (fun z hz => Or.inr (by omega)) (fun _ => rfl) (by decide) rfl (Nat.le_of_ble_eq_true rfl) (Nat.le_of_ble_eq_true rfl) (Nat.le_of_ble_eq_true rfl) dX5_init_56 (fun b56 cA H hK2 hP hD hS => ?_)
  have eA := int_cls hK hK2
  subst eA
  have hP : va_P g.1 vwCl [(q, .inr (5, [.ref b7, .int 0, .null, .int 0, .ref b15, .int 0, .ref b24, .ref b32, .int 0, .int 0, .ref b40, .ref b48, .int 0, .null, .int 0, .null, .null, .int 0])), (b7, .inl (g.2.1 0, 100, .inl (fun _ => 0))), (b15, .inl (g.2.1 2, 6, .inr (.inr (.inr (.inr (fun _ => none)))))), (b24, .inl (g.2.1 0, 6, .inl (fun _ => 0))), (b32, .inl (g.2.1 0, 6, .inl (fun _ => 0))), (b40, .inl (g.2.1 0, 8, .inl (fun _ => 0))), (b48, .inl (g.2.1 0, 8, .inl (fun _ => 0))), (b56, .inl (g.2.1 0, 6, .inl (fun _ => 0)))] H := hP
  have hD : va_D (fun z => z = q ∨ h0 ≤ z) [(q, .inr (5, [.ref b7, .int 0, .null, .int 0, .ref b15, .int 0, .ref b24, .ref b32, .int 0, .int 0, .ref b40, .ref b48, .int 0, .null, .int 0, .null, .null, .int 0])), (b7, .inl (g.2.1 0, 100, .inl (fun _ => 0))), (b15, .inl (g.2.1 2, 6, .inr (.inr (.inr (.inr (fun _ => none)))))), (b24, .inl (g.2.1 0, 6, .inl (fun _ => 0))), (b32, .inl (g.2.1 0, 6, .inl (fun _ => 0))), (b40, .inl (g.2.1 0, 8, .inl (fun _ => 0))), (b48, .inl (g.2.1 0, 8, .inl (fun _ => 0))), (b56, .inl (g.2.1 0, 6, .inl (fun _ => 0)))] := hD
  refine va_putF (D := g.1) (ci := 5) (v := .ref b56) (ty := .array .int) (C := RX5) (T := TX5) (N := 18) (fs := [.ref b7, .int 0, .null, .int 0, .ref b15, .int 0, .ref b24, .ref b32, .int 0, .int 0, .ref b40, .ref b48, .int 0, .null, .int 0, .null, .null, .int 0]) hx hb hts uw_5 tyX5 tyX5_ok nmX5 hown hK.1 hP hD hS 0 rfl rfl 13 (by decide) (hts _ w_134) (fun _ h => h) rfl hin rfl rfl rfl rfl (Nat.le_of_ble_eq_true rfl) dX5_init_58 (fun H locs hP hD hS => ?_)
  have hP : va_P g.1 vwCl [(q, .inr (5, [.ref b7, .int 0, .null, .int 0, .ref b15, .int 0, .ref b24, .ref b32, .int 0, .int 0, .ref b40, .ref b48, .int 0, .ref b56, .int 0, .null, .null, .int 0])), (b7, .inl (g.2.1 0, 100, .inl (fun _ => 0))), (b15, .inl (g.2.1 2, 6, .inr (.inr (.inr (.inr (fun _ => none)))))), (b24, .inl (g.2.1 0, 6, .inl (fun _ => 0))), (b32, .inl (g.2.1 0, 6, .inl (fun _ => 0))), (b40, .inl (g.2.1 0, 8, .inl (fun _ => 0))), (b48, .inl (g.2.1 0, 8, .inl (fun _ => 0))), (b56, .inl (g.2.1 0, 6, .inl (fun _ => 0)))] H := hP
  have hD : va_D (fun z => z = q ∨ h0 ≤ z) [(q, .inr (5, [.ref b7, .int 0, .null, .int 0, .ref b15, .int 0, .ref b24, .ref b32, .int 0, .int 0, .ref b40, .ref b48, .int 0, .ref b56, .int 0, .null, .null, .int 0])), (b7, .inl (g.2.1 0, 100, .inl (fun _ => 0))), (b15, .inl (g.2.1 2, 6, .inr (.inr (.inr (.inr (fun _ => none)))))), (b24, .inl (g.2.1 0, 6, .inl (fun _ => 0))), (b32, .inl (g.2.1 0, 6, .inl (fun _ => 0))), (b40, .inl (g.2.1 0, 8, .inl (fun _ => 0))), (b48, .inl (g.2.1 0, 8, .inl (fun _ => 0))), (b56, .inl (g.2.1 0, 6, .inl (fun _ => 0)))] := hD
  refine lv_aload_n hx hb dX5_init_61 rfl (lv_at hl 0 rfl) ?_
  refine lv_bipush (v := (8 : Int32)) hx hb dX5_init_62 (by decide) ?_
  refine va_newa (atype := .int) (a0 := (8, .inl (fun _ => 0))) hx hb (hts _ w_181) rfl hK.1 hP hD hS (fun z hz => Or.inr (by omega)) (fun _ => rfl) (by decide) rfl (Nat.le_of_ble_eq_true rfl) (Nat.le_of_ble_eq_true rfl) (Nat.le_of_ble_eq_true rfl) dX5_init_64 (fun b64 cA H hK2 hP hD hS => ?_)
  have eA := int_cls hK hK2
  subst eA
  have hP : va_P g.1 vwCl [(q, .inr (5, [.ref b7, .int 0, .null, .int 0, .ref b15, .int 0, .ref b24, .ref b32, .int 0, .int 0, .ref b40, .ref b48, .int 0, .ref b56, .int 0, .null, .null, .int 0])), (b7, .inl (g.2.1 0, 100, .inl (fun _ => 0))), (b15, .inl (g.2.1 2, 6, .inr (.inr (.inr (.inr (fun _ => none)))))), (b24, .inl (g.2.1 0, 6, .inl (fun _ => 0))), (b32, .inl (g.2.1 0, 6, .inl (fun _ => 0))), (b40, .inl (g.2.1 0, 8, .inl (fun _ => 0))), (b48, .inl (g.2.1 0, 8, .inl (fun _ => 0))), (b56, .inl (g.2.1 0, 6, .inl (fun _ => 0))), (b64, .inl (g.2.1 0, 8, .inl (fun _ => 0)))] H := hP
  have hD : va_D (fun z => z = q ∨ h0 ≤ z) [(q, .inr (5, [.ref b7, .int 0, .null, .int 0, .ref b15, .int 0, .ref b24, .ref b32, .int 0, .int 0, .ref b40, .ref b48, .int 0, .ref b56, .int 0, .null, .null, .int 0])), (b7, .inl (g.2.1 0, 100, .inl (fun _ => 0))), (b15, .inl (g.2.1 2, 6, .inr (.inr (.inr (.inr (fun _ => none)))))), (b24, .inl (g.2.1 0, 6, .inl (fun _ => 0))), (b32, .inl (g.2.1 0, 6, .inl (fun _ => 0))), (b40, .inl (g.2.1 0, 8, .inl (fun _ => 0))), (b48, .inl (g.2.1 0, 8, .inl (fun _ => 0))), (b56, .inl (g.2.1 0, 6, .inl (fun _ => 0))), (b64, .inl (g.2.1 0, 8, .inl (fun _ => 0)))] := hD
  refine va_putF (D := g.1) (ci := 5) (v := .ref b64) (ty := .array .int) (C := RX5) (T := TX5) (N := 18) (fs := [.ref b7, .int 0, .null, .int 0, .ref b15, .int 0, .ref b24, .ref b32, .int 0, .int 0, .ref b40, .ref b48, .int 0, .ref b56, .int 0, .null, .null, .int 0]) hx hb hts uw_5 tyX5 tyX5_ok nmX5 hown hK.1 hP hD hS 0 rfl rfl 15 (by decide) (hts _ w_138) (fun _ h => h) rfl hin rfl rfl rfl rfl (Nat.le_of_ble_eq_true rfl) dX5_init_66 (fun H locs hP hD hS => ?_)
  have hP : va_P g.1 vwCl [(q, .inr (5, [.ref b7, .int 0, .null, .int 0, .ref b15, .int 0, .ref b24, .ref b32, .int 0, .int 0, .ref b40, .ref b48, .int 0, .ref b56, .int 0, .ref b64, .null, .int 0])), (b7, .inl (g.2.1 0, 100, .inl (fun _ => 0))), (b15, .inl (g.2.1 2, 6, .inr (.inr (.inr (.inr (fun _ => none)))))), (b24, .inl (g.2.1 0, 6, .inl (fun _ => 0))), (b32, .inl (g.2.1 0, 6, .inl (fun _ => 0))), (b40, .inl (g.2.1 0, 8, .inl (fun _ => 0))), (b48, .inl (g.2.1 0, 8, .inl (fun _ => 0))), (b56, .inl (g.2.1 0, 6, .inl (fun _ => 0))), (b64, .inl (g.2.1 0, 8, .inl (fun _ => 0)))] H := hP
  have hD : va_D (fun z => z = q ∨ h0 ≤ z) [(q, .inr (5, [.ref b7, .int 0, .null, .int 0, .ref b15, .int 0, .ref b24, .ref b32, .int 0, .int 0, .ref b40, .ref b48, .int 0, .ref b56, .int 0, .ref b64, .null, .int 0])), (b7, .inl (g.2.1 0, 100, .inl (fun _ => 0))), (b15, .inl (g.2.1 2, 6, .inr (.inr (.inr (.inr (fun _ => none)))))), (b24, .inl (g.2.1 0, 6, .inl (fun _ => 0))), (b32, .inl (g.2.1 0, 6, .inl (fun _ => 0))), (b40, .inl (g.2.1 0, 8, .inl (fun _ => 0))), (b48, .inl (g.2.1 0, 8, .inl (fun _ => 0))), (b56, .inl (g.2.1 0, 6, .inl (fun _ => 0))), (b64, .inl (g.2.1 0, 8, .inl (fun _ => 0)))] := hD
  refine lv_aload_n hx hb dX5_init_69 rfl (lv_at hl 0 rfl) ?_
  refine lv_bipush (v := (8 : Int32)) hx hb dX5_init_70 (by decide) ?_
  refine va_newa (atype := .int) (a0 := (8, .inl (fun _ => 0))) hx hb (hts _ w_181) rfl hK.1 hP hD hS (fun z hz => Or.inr (by omega)) (fun _ => rfl) (by decide) rfl (Nat.le_of_ble_eq_true rfl) (Nat.le_of_ble_eq_true rfl) (Nat.le_of_ble_eq_true rfl) dX5_init_72 (fun b72 cA H hK2 hP hD hS => ?_)
  have eA := int_cls hK hK2
  subst eA
  have hP : va_P g.1 vwCl [(q, .inr (5, [.ref b7, .int 0, .null, .int 0, .ref b15, .int 0, .ref b24, .ref b32, .int 0, .int 0, .ref b40, .ref b48, .int 0, .ref b56, .int 0, .ref b64, .null, .int 0])), (b7, .inl (g.2.1 0, 100, .inl (fun _ => 0))), (b15, .inl (g.2.1 2, 6, .inr (.inr (.inr (.inr (fun _ => none)))))), (b24, .inl (g.2.1 0, 6, .inl (fun _ => 0))), (b32, .inl (g.2.1 0, 6, .inl (fun _ => 0))), (b40, .inl (g.2.1 0, 8, .inl (fun _ => 0))), (b48, .inl (g.2.1 0, 8, .inl (fun _ => 0))), (b56, .inl (g.2.1 0, 6, .inl (fun _ => 0))), (b64, .inl (g.2.1 0, 8, .inl (fun _ => 0))), (b72, .inl (g.2.1 0, 8, .inl (fun _ => 0)))] H := hP
  have hD : va_D (fun z => z = q ∨ h0 ≤ z) [(q, .inr (5, [.ref b7, .int 0, .null, .int 0, .ref b15, .int 0, .ref b24, .ref b32, .int 0, .int 0, .ref b40, .ref b48, .int 0, .ref b56, .int 0, .ref b64, .null, .int 0])), (b7, .inl (g.2.1 0, 100, .inl (fun _ => 0))), (b15, .inl (g.2.1 2, 6, .inr (.inr (.inr (.inr (fun _ => none)))))), (b24, .inl (g.2.1 0, 6, .inl (fun _ => 0))), (b32, .inl (g.2.1 0, 6, .inl (fun _ => 0))), (b40, .inl (g.2.1 0, 8, .inl (fun _ => 0))), (b48, .inl (g.2.1 0, 8, .inl (fun _ => 0))), (b56, .inl (g.2.1 0, 6, .inl (fun _ => 0))), (b64, .inl (g.2.1 0, 8, .inl (fun _ => 0))), (b72, .inl (g.2.1 0, 8, .inl (fun _ => 0)))] := hD
  refine va_putF (D := g.1) (ci := 5) (v := .ref b72) (ty := .array .int) (C := RX5) (T := TX5) (N := 18) (fs := [.ref b7, .int 0, .null, .int 0, .ref b15, .int 0, .ref b24, .ref b32, .int 0, .int 0, .ref b40, .ref b48, .int 0, .ref b56, .int 0, .ref b64, .null, .int 0]) hx hb hts uw_5 tyX5 tyX5_ok nmX5 hown hK.1 hP hD hS 0 rfl rfl 16 (by decide) (hts _ w_140) (fun _ h => h) rfl hin rfl rfl rfl rfl (Nat.le_of_ble_eq_true rfl) dX5_init_74 (fun H locs hP hD hS => ?_)
  have hP : va_P g.1 vwCl [(q, .inr (5, [.ref b7, .int 0, .null, .int 0, .ref b15, .int 0, .ref b24, .ref b32, .int 0, .int 0, .ref b40, .ref b48, .int 0, .ref b56, .int 0, .ref b64, .ref b72, .int 0])), (b7, .inl (g.2.1 0, 100, .inl (fun _ => 0))), (b15, .inl (g.2.1 2, 6, .inr (.inr (.inr (.inr (fun _ => none)))))), (b24, .inl (g.2.1 0, 6, .inl (fun _ => 0))), (b32, .inl (g.2.1 0, 6, .inl (fun _ => 0))), (b40, .inl (g.2.1 0, 8, .inl (fun _ => 0))), (b48, .inl (g.2.1 0, 8, .inl (fun _ => 0))), (b56, .inl (g.2.1 0, 6, .inl (fun _ => 0))), (b64, .inl (g.2.1 0, 8, .inl (fun _ => 0))), (b72, .inl (g.2.1 0, 8, .inl (fun _ => 0)))] H := hP
  have hD : va_D (fun z => z = q ∨ h0 ≤ z) [(q, .inr (5, [.ref b7, .int 0, .null, .int 0, .ref b15, .int 0, .ref b24, .ref b32, .int 0, .int 0, .ref b40, .ref b48, .int 0, .ref b56, .int 0, .ref b64, .ref b72, .int 0])), (b7, .inl (g.2.1 0, 100, .inl (fun _ => 0))), (b15, .inl (g.2.1 2, 6, .inr (.inr (.inr (.inr (fun _ => none)))))), (b24, .inl (g.2.1 0, 6, .inl (fun _ => 0))), (b32, .inl (g.2.1 0, 6, .inl (fun _ => 0))), (b40, .inl (g.2.1 0, 8, .inl (fun _ => 0))), (b48, .inl (g.2.1 0, 8, .inl (fun _ => 0))), (b56, .inl (g.2.1 0, 6, .inl (fun _ => 0))), (b64, .inl (g.2.1 0, 8, .inl (fun _ => 0))), (b72, .inl (g.2.1 0, 8, .inl (fun _ => 0)))] := hD
  refine W.vret hx hb hr (fun t ht _ => ⟨⟨(fun k => if k = 0 then b7 else if k = 4 then b15 else if k = 6 then b24 else if k = 7 then b32 else if k = 10 then b40 else if k = 11 then b48 else if k = 13 then b56 else if k = 15 then b64 else if k = 16 then b72 else 0), rfl, trivial, ?_⟩, hS.F ht⟩) hS.2.2 dX5_init_77 hlocks
  show va_P g.1 vwCl _ t.heap ∧ va_D _ _
  rw [ht]
  exact ⟨hP, hD⟩

set_option maxRecDepth 20000 in
theorem w_967 : (Cond.methodLink RX12 3 objectInit) ∈ TB := inTB (List.mem_of_getElem? (i := 967) (by decide +kernel)) (by decide +kernel)
theorem dX12_init_0 : decode cX12_init 0 = .ok (.aload_n 0, 1) := by decide +kernel
theorem dX12_init_1 : decode cX12_init 1 = .ok (.invokespecial 3, 3) := by decide +kernel
theorem dX12_init_4 : decode cX12_init 4 = .ok (.aload_n 0, 1) := by decide +kernel
theorem dX12_init_5 : decode cX12_init 5 = .ok (.sipush 916, 3) := by decide +kernel
theorem dX12_init_8 : decode cX12_init 8 = .ok (.newarray .int, 2) := by decide +kernel
theorem dX12_init_10 : decode cX12_init 10 = .ok (.putfield 9, 3) := by decide +kernel
theorem dX12_init_13 : decode cX12_init 13 = .ok (.aload_n 0, 1) := by decide +kernel
theorem dX12_init_14 : decode cX12_init 14 = .ok (.sipush 916, 3) := by decide +kernel
theorem dX12_init_17 : decode cX12_init 17 = .ok (.newarray .int, 2) := by decide +kernel
theorem dX12_init_19 : decode cX12_init 19 = .ok (.putfield 15, 3) := by decide +kernel
theorem dX12_init_22 : decode cX12_init 22 = .ok (.aload_n 0, 1) := by decide +kernel
theorem dX12_init_23 : decode cX12_init 23 = .ok (.bipush 6, 2) := by decide +kernel
theorem dX12_init_25 : decode cX12_init 25 = .ok (.newarray .int, 2) := by decide +kernel
theorem dX12_init_27 : decode cX12_init 27 = .ok (.putfield 18, 3) := by decide +kernel
theorem dX12_init_30 : decode cX12_init 30 = .ok (.aload_n 0, 1) := by decide +kernel
theorem dX12_init_31 : decode cX12_init 31 = .ok (.bipush 64, 2) := by decide +kernel
theorem dX12_init_33 : decode cX12_init 33 = .ok (.newarray .boolean, 2) := by decide +kernel
theorem dX12_init_35 : decode cX12_init 35 = .ok (.putfield 21, 3) := by decide +kernel
theorem dX12_init_38 : decode cX12_init 38 = .ok (.aload_n 0, 1) := by decide +kernel
theorem dX12_init_39 : decode cX12_init 39 = .ok (.bipush 60, 2) := by decide +kernel
theorem dX12_init_41 : decode cX12_init 41 = .ok (.newarray .int, 2) := by decide +kernel
theorem dX12_init_43 : decode cX12_init 43 = .ok (.putfield 25, 3) := by decide +kernel
theorem dX12_init_46 : decode cX12_init 46 = .ok (.aload_n 0, 1) := by decide +kernel
theorem dX12_init_47 : decode cX12_init 47 = .ok (.bipush 60, 2) := by decide +kernel
theorem dX12_init_49 : decode cX12_init 49 = .ok (.newarray .int, 2) := by decide +kernel
theorem dX12_init_51 : decode cX12_init 51 = .ok (.putfield 28, 3) := by decide +kernel
theorem dX12_init_54 : decode cX12_init 54 = .ok (.aload_n 0, 1) := by decide +kernel
theorem dX12_init_55 : decode cX12_init 55 = .ok (.bipush 6, 2) := by decide +kernel
theorem dX12_init_57 : decode cX12_init 57 = .ok (.newarray .int, 2) := by decide +kernel
theorem dX12_init_59 : decode cX12_init 59 = .ok (.putfield 31, 3) := by decide +kernel
theorem dX12_init_62 : decode cX12_init 62 = .ok (.aload_n 0, 1) := by decide +kernel
theorem dX12_init_63 : decode cX12_init 63 = .ok (.sipush 1681, 3) := by decide +kernel
theorem dX12_init_66 : decode cX12_init 66 = .ok (.newarray .int, 2) := by decide +kernel
theorem dX12_init_68 : decode cX12_init 68 = .ok (.putfield 34, 3) := by decide +kernel
theorem dX12_init_71 : decode cX12_init 71 = .ok (.aload_n 0, 1) := by decide +kernel
theorem dX12_init_72 : decode cX12_init 72 = .ok (.sipush 1681, 3) := by decide +kernel
theorem dX12_init_75 : decode cX12_init 75 = .ok (.newarray .int, 2) := by decide +kernel
theorem dX12_init_77 : decode cX12_init 77 = .ok (.putfield 37, 3) := by decide +kernel
theorem dX12_init_80 : decode cX12_init 80 = .ok (.aload_n 0, 1) := by decide +kernel
theorem dX12_init_81 : decode cX12_init 81 = .ok (.bipush 20, 2) := by decide +kernel
theorem dX12_init_83 : decode cX12_init 83 = .ok (.newarray .int, 2) := by decide +kernel
theorem dX12_init_85 : decode cX12_init 85 = .ok (.putfield 40, 3) := by decide +kernel
theorem dX12_init_88 : decode cX12_init 88 = .ok (.aload_n 0, 1) := by decide +kernel
theorem dX12_init_89 : decode cX12_init 89 = .ok (.getfield 9, 3) := by decide +kernel
theorem dX12_init_92 : decode cX12_init 92 = .ok (.bipush 7, 2) := by decide +kernel
theorem dX12_init_94 : decode cX12_init 94 = .ok (.iconst (-1), 1) := by decide +kernel
theorem dX12_init_95 : decode cX12_init 95 = .ok (.iastore, 1) := by decide +kernel
theorem dX12_init_96 : decode cX12_init 96 = .ok (.return_, 1) := by decide +kernel
/-- the cells of a new ThreeMeasuresModel at q, its rows at a -/
def nW12 (g : GG) (q : Nat) (a : Nat → Nat) : va_W := (q, .inr (12, [.int 0, .ref (a 1), .ref (a 2), .int 0, .int 0, .int 0, .int 0, .int 0, .int 0, .ref (a 9), .ref (a 10), .int 0, .int 0, .int 0, .int 0, .int 0, .int 0, .ref (a 17), .ref (a 18), .ref (a 19), .int 0, .ref (a 21), .ref (a 22), .int 0, .ref (a 24), .int 0, .int 0, .int 0, .int 0])) :: (a 1, .inl (g.2.1 0, 916, .inl (upd (fun _ => 0) 7 ((-1 : Int32))))) :: (a 2, .inl (g.2.1 0, 916, .inl (fun _ => 0))) :: (a 9, .inl (g.2.1 0, 6, .inl (fun _ => 0))) :: (a 10, .inl (g.2.1 1, 64, .inl (fun _ => 0))) :: (a 17, .inl (g.2.1 0, 60, .inl (fun _ => 0))) :: (a 18, .inl (g.2.1 0, 60, .inl (fun _ => 0))) :: (a 19, .inl (g.2.1 0, 6, .inl (fun _ => 0))) :: (a 21, .inl (g.2.1 0, 1681, .inl (fun _ => 0))) :: (a 22, .inl (g.2.1 0, 1681, .inl (fun _ => 0))) :: (a 24, .inl (g.2.1 0, 20, .inl (fun _ => 0))) :: []
abbrev nF12 : List Value := [.int 0, .null, .null, .int 0, .int 0, .int 0, .int 0, .int 0, .int 0, .null, .null, .int 0, .int 0, .int 0, .int 0, .int 0, .int 0, .null, .null, .null, .int 0, .null, .null, .int 0, .null, .int 0, .int 0, .int 0, .int 0]
set_option maxHeartbeats 2000000 in
set_option maxRecDepth 20000 in
theorem k_X12_init (l : Launch) (g : GG) (h0 q : Nat) : Met l yX12_init (wsF yX12_init cX12_init 1 none) { frames := 1, cells := 10, slots := 5410, locals := 20 } (va_Pc [.ref q] (fun U => OB g q 12 nF12 U ∧ U.heap.size = h0)) (va_Qv (fun _ : Nat → Nat => True) (fun a t => va_P g.1 vwCl (nW12 g q a) t.heap ∧ va_D (fun z => z = q ∨ h0 ≤ z) (nW12 g q a)) (fun z => z = q ∨ h0 ≤ z)) 10 5410 (fun z => z = q ∨ h0 ≤ z) := by
  refine start_X (by decide) (Nat.le_of_ble_eq_true rfl) ?_
  intro p e s m args below meth c C0 hin hB ls hl
  obtain ⟨hx, hb, hr, hml, hown, hts, hlocks⟩ := id C0
  obtain ⟨⟨hK, hP⟩, hsz⟩ := hB
  have hl : lv_has ls 1 [(0, .ref q)] := hl
  have hS : va_S (fun z => z = q ∨ h0 ≤ z) s.heap s.heap [] := va_S.rf
  have hD : va_D (fun z => z = q ∨ h0 ≤ z) [(q, .inr (12, nF12))] := va_D1 (Or.inl rfl)
  refine lv_aload_n hx hb dX12_init_0 rfl (lv_at hl 0 rfl) ?_
  refine obj_init C0 w_967 hl.1 dX12_init_1 ⟨by decide, by decide⟩ (Nat.le_of_ble_eq_true rfl) ?_
  refine lv_aload_n hx hb dX12_init_4 rfl (lv_at hl 0 rfl) ?_
  refine lv_sipush (v := (916 : Int32)) hx hb dX12_init_5 (by decide) ?_
  refine va_newa (atype := .int) (a0 := (916, .inl (fun _ => 0))) hx hb (hts _ w_181) rfl hK.1 hP hD hS (fun z hz => Or.inr (by omega)) (fun _ => rfl) (by decide) rfl (Nat.le_of_ble_eq_true rfl) (Nat.le_of_ble_eq_true rfl) (Nat.le_of_ble_eq_true rfl) dX12_init_8 (fun b8 cA H hK2 hP hD hS => ?_)
  have eA := int_cls hK hK2
  subst eA
  have hP : va_P g.1 vwCl [(q, .inr (12, [.int 0, .null, .null, .int 0, .int 0, .int 0, .int 0, .int 0, .int 0, .null, .null, .int 0, .int 0, .int 0, .int 0, .int 0, .int 0, .null, .null, .null, .int 0, .null, .null, .int 0, .null, .int 0, .int 0, .int 0, .int 0])), (b8, .inl (g.2.1 0, 916, .inl (fun _ => 0)))] H := hP
  have hD : va_D (fun z => z = q ∨ h0 ≤ z) [(q, .inr (12, [.int 0, .null, .null, .int 0, .int 0, .int 0, .int 0, .int 0, .int 0, .null, .null, .int 0, .int 0, .int 0, .int 0, .int 0, .int 0, .null, .null, .null, .int 0, .null, .null, .int 0, .null, .int 0, .int 0, .int 0, .int 0])), (b8, .inl (g.2.1 0, 916, .inl (fun _ => 0)))] := hD
  refine va_putF (D := g.1) (ci := 12) (v := .ref b8) (ty := .array .int) (C := RX12) (T := TX12) (N := 29) (fs := [.int 0, .null, .null, .int 0, .int 0, .int 0, .int 0, .int 0, .int 0, .null, .null, .int 0, .int 0, .int 0, .int 0, .int 0, .int 0, .null, .null, .null, .int 0, .null, .null, .int 0, .null, .int 0, .int 0, .int 0, .int 0]) hx hb hts uw_12 tyX12 tyX12_ok nmX12 hown hK.1 hP hD hS 0 rfl rfl 1 (by decide) (hts _ w_968) (fun _ h => h) rfl hin rfl rfl rfl rfl (Nat.le_of_ble_eq_true rfl) dX12_init_10 (fun H locs hP hD hS => ?_)
  have hP : va_P g.1 vwCl [(q, .inr (12, [.int 0, .ref b8, .null, .int 0, .int 0, .int 0, .int 0, .int 0, .int 0, .null, .null, .int 0, .int 0, .int 0, .int 0, .int 0, .int 0, .null, .null, .null, .int 0, .null, .null, .int 0, .null, .int 0, .int 0, .int 0, .int 0])), (b8, .inl (g.2.1 0, 916, .inl (fun _ => 0)))] H := hP
  have hD : va_D (fun z => z = q ∨ h0 ≤ z) [(q, .inr (12, [.int 0, .ref b8, .null, .int 0, .int 0, .int 0, .int 0, .int 0, .int 0, .null, .null, .int 0, .int 0, .int 0, .int 0, .int 0, .int 0, .null, .null, .null, .int 0, .null, .null, .int 0, .null, .int 0, .int 0, .int 0, .int 0])), (b8, .inl (g.2.1 0, 916, .inl (fun _ => 0)))] := hD
  refine lv_aload_n hx hb dX12_init_13 rfl (lv_at hl 0 rfl) ?_
  refine lv_sipush (v := (916 : Int32)) hx hb dX12_init_14 (by decide) ?_
  refine va_newa (atype := .int) (a0 := (916, .inl (fun _ => 0))) hx hb (hts _ w_181) rfl hK.1 hP hD hS (fun z hz => Or.inr (by omega)) (fun _ => rfl) (by decide) rfl (Nat.le_of_ble_eq_true rfl) (Nat.le_of_ble_eq_true rfl) (Nat.le_of_ble_eq_true rfl) dX12_init_17 (fun b17 cA H hK2 hP hD hS => ?_)
  have eA := int_cls hK hK2
  subst eA
  have hP : va_P g.1 vwCl [(q, .inr (12, [.int 0, .ref b8, .null, .int 0, .int 0, .int 0, .int 0, .int 0, .int 0, .null, .null, .int 0, .int 0, .int 0, .int 0, .int 0, .int 0, .null, .null, .null, .int 0, .null, .null, .int 0, .null, .int 0, .int 0, .int 0, .int 0])), (b8, .inl (g.2.1 0, 916, .inl (fun _ => 0))), (b17, .inl (g.2.1 0, 916, .inl (fun _ => 0)))] H := hP
  have hD : va_D (fun z => z = q ∨ h0 ≤ z) [(q, .inr (12, [.int 0, .ref b8, .null, .int 0, .int 0, .int 0, .int 0, .int 0, .int 0, .null, .null, .int 0, .int 0, .int 0, .int 0, .int 0, .int 0, .null, .null, .null, .int 0, .null, .null, .int 0, .null, .int 0, .int 0, .int 0, .int 0])), (b8, .inl (g.2.1 0, 916, .inl (fun _ => 0))), (b17, .inl (g.2.1 0, 916, .inl (fun _ => 0)))] := hD
  refine va_putF (D := g.1) (ci := 12) (v := .ref b17) (ty := .array .int) (C := RX12) (T := TX12) (N := 29) (fs := [.int 0, .ref b8, .null, .int 0, .int 0, .int 0, .int 0, .int 0, .int 0, .null, .null, .int 0, .int 0, .int 0, .int 0, .int 0, .int 0, .null, .null, .null, .int 0, .null, .null, .int 0, .null, .int 0, .int 0, .int 0, .int 0]) hx hb hts uw_12 tyX12 tyX12_ok nmX12 hown hK.1 hP hD hS 0 rfl rfl 2 (by decide) (hts _ w_969) (fun _ h => h) rfl hin rfl rfl rfl rfl (Nat.le_of_ble_eq_true rfl) dX12_init_19 (fun H locs hP hD hS => ?_)
  have hP : va_P g.1 vwCl [(q, .inr (12, [.int 0, .ref b8, .ref b17, .int 0, .int 0, .int 0, .int 0, .int 0, .int 0, .null, .null, .int 0, .int 0, .int 0, .int 0, .int 0, .int 0, .null, .null, .null, .int 0, .null, .null, .int 0, .null, .int 0, .int 0, .int 0, .int 0])), (b8, .inl (g.2.1 0, 916, .inl (fun _ => 0))), (b17, .inl (g.2.1 0, 916, .inl (fun _ => 0)))] H := hP
  have hD : va_D (fun z => z = q ∨ h0 ≤ z) [(q, .inr (12, [.int 0, .ref b8, .ref b17, .int 0, .int 0, .int 0, .int 0, .int 0, .int 0, .null, .null, .int 0, .int 0, .int 0, .int 0, .int 0, .int 0, .null, .null, .null, .int 0, .null, .null, .int 0, .null, .int 0, .int 0, .int 0, .int 0])), (b8, .inl (g.2.1 0, 916, .inl (fun _ => 0))), (b17, .inl (g.2.1 0, 916, .inl (fun _ => 0)))] := hD
  refine lv_aload_n hx hb dX12_init_22 rfl (lv_at hl 0 rfl) ?_
  refine lv_bipush (v := (6 : Int32)) hx hb dX12_init_23 (by decide) ?_
  refine va_newa (atype := .int) (a0 := (6, .inl (fun _ => 0))) hx hb (hts _ w_181) rfl hK.1 hP hD hS (fun z hz => Or.inr (by omega)) (fun _ => rfl) (by decide) rfl (Nat.le_of_ble_eq_true rfl) (Nat.le_of_ble_eq_true rfl) (Nat.le_of_ble_eq_true rfl) dX12_init_25 (fun b25 cA H hK2 hP hD hS => ?_)
  have eA := int_cls hK hK2
  subst eA
  have hP : va_P g.1 vwCl [(q, .inr (12, [.int 0, .ref b8, .ref b17, .int 0, .int 0, .int 0, .int 0, .int 0, .int 0, .null, .null, .int 0, .int 0, .int 0, .int 0, .int 0, .int 0, .null, .null, .null, .int 0, .null, .null, .int 0, .null, .int 0, .int 0, .int 0, .int 0])), (b8, .inl (g.2.1 0, 916, .inl (fun _ => 0))), (b17, .inl (g.2.1 0, 916, .inl (fun _ => 0))), (b25, .inl (g.2.1 0, 6, .inl (fun _ => 0)))] H := hP
  have hD : va_D (fun z => z = q ∨ h0 ≤ z) [(q, .inr (12, [.int 0, .ref b8, .ref b17, .int 0, .int 0, .int 0, .int 0, .int 0, .int 0, .null, .null, .int 0, .int 0, .int 0, .int 0, .int 0, .int 0, .null, .null, .null, .int 0, .null, .null, .int 0, .null, .int 0, .int 0, .int 0, .int 0])), (b8, .inl (g.2.1 0, 916, .inl (fun _ => 0))), (b17, .inl (g.2.1 0, 916, .inl (fun _ => 0))), (b25, .inl (g.2.1 0, 6, .inl (fun _ => 0)))] := hD
  refine va_putF (D := g.1) (ci := 12) (v := .ref b25) (ty := .array .int) (C := RX12) (T := TX12) (N := 29) (fs := [.int 0, .ref b8, .ref b17, .int 0, .int 0, .int 0, .int 0, .int 0, .int 0, .null, .null, .int 0, .int 0, .int 0, .int 0, .int 0, .int 0, .null, .null, .null, .int 0, .null, .null, .int 0, .null, .int 0, .int 0, .int 0, .int 0]) hx hb hts uw_12 tyX12 tyX12_ok nmX12 hown hK.1 hP hD hS 0 rfl rfl 9 (by decide) (hts _ w_976) (fun _ h => h) rfl hin rfl rfl rfl rfl (Nat.le_of_ble_eq_true rfl) dX12_init_27 (fun H locs hP hD hS => ?_)
  have hP : va_P g.1 vwCl [(q, .inr (12, [.int 0, .ref b8, .ref b17, .int 0, .int 0, .int 0, .int 0, .int 0, .int 0, .ref b25, .null, .int 0, .int 0, .int 0, .int 0, .int 0, .int 0, .null, .null, .null, .int 0, .null, .null, .int 0, .null, .int 0, .int 0, .int 0, .int 0])), (b8, .inl (g.2.1 0, 916, .inl (fun _ => 0))), (b17, .inl (g.2.1 0, 916, .inl (fun _ => 0))), (b25, .inl (g.2.1 0, 6, .inl (fun _ => 0)))] H := hP
  have hD : va_D (fun z => z = q ∨ h0 ≤ z) [(q, .inr (12, [.int 0, .ref b8, .ref b17, .int 0, .int 0, .int 0, .int 0, .int 0, .int 0, .ref b25, .null, .int 0, .int 0, .int 0, .int 0, .int 0, .int 0, .null, .null, .null, .int 0, .null, .null, .int 0, .null, .int 0, .int 0, .int 0, .int 0])), (b8, .inl (g.2.1 0, 916, .inl (fun _ => 0))), (b17, .inl (g.2.1 0, 916, .inl (fun _ => 0))), (b25, .inl (g.2.1 0, 6, .inl (fun _ => 0)))] := hD
  refine lv_aload_n hx hb dX12_init_30 rfl (lv_at hl 0 rfl) ?_
  refine lv_bipush (v := (64 : Int32)) hx hb dX12_init_31 (by decide) ?_
  refine va_newa (atype := .boolean) (a0 := (64, .inl (fun _ => 0))) hx hb (hts _ w_1055) rfl hK.1 hP hD hS (fun z hz => Or.inr (by omega)) (fun _ => rfl) (by decide) rfl (Nat.le_of_ble_eq_true rfl) (Nat.le_of_ble_eq_true rfl) (Nat.le_of_ble_eq_true rfl) dX12_init_33 (fun b33 cA H hK2 hP hD hS => ?_)
  have eA := boo_cls hK hK2
  subst eA
  have hP : va_P g.1 vwCl [(q, .inr (12, [.int 0, .ref b8, .ref b17, .int 0, .int 0, .int 0, .int 0, .int 0, .int 0, .ref b25, .null, .int 0, .int 0, .int 0, .int 0, .int 0, .int 0, .null, .null, .null, .int 0, .null, .null, .int 0, .null, .int 0, .int 0, .int 0, .int 0])), (b8, .inl (g.2.1 0, 916, .inl (fun _ => 0))), (b17, .inl (g.2.1 0, 916, .inl (fun _ => 0))), (b25, .inl (g.2.1 0, 6, .inl (fun _ => 0))), (b33, .inl (g.2.1 1, 64, .inl (fun _ => 0)))] H := hP
  have hD : va_D (fun z => z = q ∨ h0 ≤ z) [(q, .inr (12, [.int 0, .ref b8, .ref b17, .int 0, .int 0, .int 0, .int 0, .int 0, .int 0, .ref b25, .null, .int 0, .int 0, .int 0, .int 0, .int 0, .int 0, .null, .null, .null, .int 0, .null, .null, .int 0, .null, .int 0, .int 0, .int 0, .int 0])), (b8, .inl (g.2.1 0, 916, .inl (fun _ => 0))), (b17, .inl (g.2.1 0, 916, .inl (fun _ => 0))), (b25, .inl (g.2.1 0, 6, .inl (fun _ => 0))), (b33, .inl (g.2.1 1, 64, .inl (fun _ => 0)))] := hD
  refine va_putF (D := g.1) (ci := 12) (v := .ref b33) (ty := .array .boolean) (C := RX12) (T := TX12) (N := 29) (fs := [.int 0, .ref b8, .ref b17, .int 0, .int 0, .int 0, .int 0, .int 0, .int 0, .ref b25, .null, .int 0, .int 0, .int 0, .int 0, .int 0, .int 0, .null, .null, .null, .int 0, .null, .null, .int 0, .null, .int 0, .int 0, .int 0, .int 0]) hx hb hts uw_12 tyX12 tyX12_ok nmX12 hown hK.1 hP hD hS 0 rfl rfl 10 (by decide) (hts _ w_977) (fun _ h => h) rfl hin rfl rfl rfl rfl (Nat.le_of_ble_eq_true rfl) dX12_init_35 (fun H locs hP hD hS => ?_)
  have hP : va_P g.1 vwCl [(q, .inr (12, [.int 0, .ref b8, .ref b17, .int 0, .int 0, .int 0, .int 0, .int 0, .int 0, .ref b25, .ref b33, .int 0, .int 0, .int 0, .int 0, .int 0, .int 0, .null, .null, .null, .int 0, .null, .null, .int 0, .null, .int 0, .int 0, .int 0, .int 0])), (b8, .inl (g.2.1 0, 916, .inl (fun _ => 0))), (b17, .inl (g.2.1 0, 916, .inl (fun _ => 0))), (b25, .inl (g.2.1 0, 6, .inl (fun _ => 0))), (b33, .inl (g.2.1 1, 64, .inl (fun _ => 0)))] H := hP
  have hD : va_D (fun z => z = q ∨ h0 ≤ z) [(q, .inr (12, [.int 0, .ref b8, .ref b17, .int 0, .int 0, .int 0, .int 0, .int 0, .int 0, .ref b25, .ref b33, .int 0, .int 0, .int 0, .int 0, .int 0, .int 0, .null, .null, .null, .int 0, .null, .null, .int 0, .null, .int 0, .int 0, .int 0, .int 0])), (b8, .inl (g.2.1 0, 916, .inl (fun _ => 0))), (b17, .inl (g.2.1 0, 916, .inl (fun _ => 0))), (b25, .inl (g.2.1 0, 6, .inl (fun _ => 0))), (b33, .inl (g.2.1 1, 64, .inl (fun _ => 0)))] := hD
  refine lv_aload_n hx hb dX12_init_38 rfl (lv_at hl 0 rfl) ?_
  refine lv_bipush (v := (60 : Int32)) hx hb dX12_init_39 (by decide) ?_
  refine va_newa (atype := .int) (a0 := (60, .inl (fun _ => 0))) hx hb (hts _ w_181) rfl hK.1 hP hD hS (fun z hz => Or.inr (by omega)) (fun _ => rfl) (by decide) rfl (Nat.le_of_ble_eq_true rfl) (Nat.le_of_ble_eq_true rfl) (Nat.le_of_ble_eq_true rfl) dX12_init_41 (fun b41 cA H hK2 hP hD hS => ?_)
  have eA := int_cls hK hK2
  subst eA
  have hP : va_P g.1 vwCl [(q, .inr (12, [.int 0, .ref b8, .ref b17, .int 0, .int 0, .int 0, .int 0, .int 0, .int 0, .ref b25, .ref b33, .int 0, .int 0, .int 0, .int 0, .int 0, .int 0, .null, .null, .null, .int 0, .null, .null, .int 0, .null, .int 0, .int 0, .int 0, .int 0])), (b8, .inl (g.2.1 0, 916, .inl (fun _ => 0))), (b17, .inl (g.2.1 0, 916, .inl (fun _ => 0))), (b25, .inl (g.2.1 0, 6, .inl (fun _ => 0))), (b33, .inl (g.2.1 1, 64, .inl (fun _ => 0))), (b41, .inl (g.2.1 0, 60, .inl (fun _ => 0)))] H := hP
  have hD : va_D (fun z => z = q ∨ h0 ≤ z) [(q, .inr (12, [.int 0, .ref b8, .ref b17, .int 0, .int 0, .int 0, .int 0, .int 0, .int 0, .ref b25, .ref b33, .int 0, .int 0, .int 0, .int 0, .int 0, .int 0, .null, .null, .null, .int 0, .null, .null, .int 0, .null, .int 0, .int 0, .int 0, .int 0])), (b8, .inl (g.2.1 0, 916, .inl (fun _ => 0))), (b17, .inl (g.2.1 0, 916, .inl (fun _ => 0))), (b25, .inl (g.2.1 0, 6, .inl (fun _ => 0))), (b33, .inl (g.2.1 1, 64, .inl (fun _ => 0))), (b41, .inl (g.2.1 0, 60, .inl (fun _ => 0)))] := hD
  refine va_putF (D := g.1) (ci := 12) (v := .ref b41) (ty := .array .int) (C := RX12) (T := TX12) (N := 29) (fs := [.int 0, .ref b8, .ref b17, .int 0, .int 0, .int 0, .int 0, .int 0, .int 0, .ref b25, .ref b33, .int 0, .int 0, .int 0, .int 0, .int 0, .int 0, .null, .null, .null, .int 0, .null, .null, .int 0, .null, .int 0, .int 0, .int 0, .int 0]) hx hb hts uw_12 tyX12 tyX12_ok nmX12 hown hK.1 hP hD hS 0 rfl rfl 17 (by decide) (hts _ w_984) (fun _ h => h) rfl hin rfl rfl rfl rfl (Nat.le_of_ble_eq_true rfl) dX12_init_43 (fun H locs hP hD hS => ?_)
  have hP : va_P g.1 vwCl [(q, .inr (12, [.int 0, .ref b8, .ref b17, .int 0, .int 0, .int 0, .int 0, .int 0, .int 0, .ref b25, .ref b33, .int 0, .int 0, .int 0, .int 0, .int 0, .int 0, .ref b41, .null, .null, .int 0, .null, .null, .int 0, .null, .int 0, .int 0, .int 0, .int 0])), (b8, .inl (g.2.1 0, 916, .inl (fun _ => 0))), (b17, .inl (g.2.1 0, 916, .inl (fun _ => 0))), (b25, .inl (g.2.1 0, 6, .inl (fun _ => 0))), (b33, .inl (g.2.1 1, 64, .inl (fun _ => 0))), (b41, .inl (g.2.1 0, 60, .inl (fun _ => 0)))] H := hP
  have hD : va_D (fun z => z = q ∨ h0 ≤ z) [(q, .inr (12, [.int 0, .ref b8, .ref b17, .int 0, .int 0, .int 0, .int 0, .int 0, .int 0, .ref b25, .ref b33, .int 0, .int 0, .int 0, .int 0, .int 0, .int 0, .ref b41, .null, .null, .int 0, .null, .null, .int 0, .null, .int 0, .int 0, .int 0, .int 0])), (b8, .inl (g.2.1 0, 916, .inl (fun _ => 0))), (b17, .inl (g.2.1 0, 916, .inl (fun _ => 0))), (b25, .inl (g.2.1 0, 6, .inl (fun _ => 0))), (b33, .inl (g.2.1 1, 64, .inl (fun _ => 0))), (b41, .inl (g.2.1 0, 60, .inl (fun _ => 0)))] := hD
  refine lv_aload_n hx hb dX12_init_46 rfl (lv_at hl 0 rfl) ?_
  refine lv_bipush (v := (60 : Int32)) hx hb dX12_init_47 (by decide) ?_
  refine va_newa (atype := .int) (a0 := (60, .inl (fun _ => 0))) hx hb (hts _ w_181) rfl hK.1 hP hD hS (fun z hz => Or.inr (by omega)) (fun _ => rfl) (by decide) rfl (Nat.le_of_ble_eq_true rfl) (Nat.le_of_ble_eq_true rfl) (Nat.le_of_ble_eq_true rfl) dX12_init_49 (fun b49 cA H hK2 hP hD hS => ?_)
  have eA := int_cls hK hK2
  subst eA
  have hP : va_P g.1 vwCl [(q, .inr (12, [.int 0, .ref b8, .ref b17, .int 0, .int 0, .int 0, .int 0, .int 0, .int 0, .ref b25, .ref b33, .int 0, .int 0, .int 0, .int 0, .int 0, .int 0, .ref b41, .null, .null, .int 0, .null, .null, .int 0, .null, .int 0, .int 0, .int 0, .int 0])), (b8, .inl (g.2.1 0, 916, .inl (fun _ => 0))), (b17, .inl (g.2.1 0, 916, .inl (fun _ => 0))), (b25, .inl (g.2.1 0, 6, .inl (fun _ => 0))), (b33, .inl (g.2.1 1, 64, .inl (fun _ => 0))), (b41, .inl (g.2.1 0, 60, .inl (fun _ => 0))), (b49, .inl (g.2.1 0, 60, .inl (fun _ => 0)))] H := hP
  have hD : va_D (fun z => z = q ∨ h0 ≤ z) [(q, .inr (12, [.int 0, .ref b8, .ref b17, .int 0, .int 0, .int 0, .int 0, .int 0, .int 0, .ref b25, .ref b33, .int 0, .int 0, .int 0, .int 0, .int 0, .int 0, .ref b41, .null, .null, .int 0, .null, .null, .int 0, .null, .int 0, .int 0, .int 0, .int 0])), (b8, .inl (g.2.1 0, 916, .inl (fun _ => 0))), (b17, .inl (g.2.1 0, 916, .inl (fun _ => 0))), (b25, .inl (g.2.1 0, 6, .inl (fun _ => 0))), (b33, .inl (g.2.1 1, 64, .inl (fun _ => 0))), (b41, .inl (g.2.1 0, 60, .inl (fun _ => 0))), (b49, .inl (g.2.1 0, 60, .inl (fun _ => 0)))] := hD
  refine va_putF (D := g.1) (ci := 12) (v := .ref b49) (ty := .array .int) (C := RX12) (T := TX12) (N := 29) (fs := [.int 0, .ref b8, .ref b17, .int 0, .int 0, .int 0, .int 0, .int 0, .int 0, .ref b25, .ref b33, .int 0, .int 0, .int 0, .int 0, .int 0, .int 0, .ref b41, .null, .null, .int 0, .null, .null, .int 0, .null, .int 0, .int 0, .int 0, .int 0]) hx hb hts uw_12 tyX12 tyX12_ok nmX12 hown hK.1 hP hD hS 0 rfl rfl 18 (by decide) (hts _ w_985) (fun _ h => h) rfl hin rfl rfl rfl rfl (Nat.le_of_ble_eq_true rfl) dX12_init_51 (fun H locs hP hD hS => ?_)
  have hP : va_P g.1 vwCl [(q, .inr (12, [.int 0, .ref b8, .ref b17, .int 0, .int 0, .int 0, .int 0, .int 0, .int 0, .ref b25, .ref b33, .int 0, .int 0, .int 0, .int 0, .int 0, .int 0, .ref b41, .ref b49, .null, .int 0, .null, .null, .int 0, .null, .int 0, .int 0, .int 0, .int 0])), (b8, .inl (g.2.1 0, 916, .inl (fun _ => 0))), (b17, .inl (g.2.1 0, 916, .inl (fun _ => 0))), (b25, .inl (g.2.1 0, 6, .inl (fun _ => 0))), (b33, .inl (g.2.1 1, 64, .inl (fun _ => 0))), (b41, .inl (g.2.1 0, 60, .inl (fun _ => 0))), (b49, .inl (g.2.1 0, 60, .inl (fun _ => 0)))] H := hP
  have hD : va_D (fun z => z = q ∨ h0 ≤ z) [(q, .inr (12, [.int 0, .ref b8, .ref b17, .int 0, .int 0, .int 0, .int 0, .int 0, .int 0, .ref b25, .ref b33, .int 0, .int 0, .int 0, .int 0, .int 0, .int 0, .ref b41, .ref b49, .null, .int 0, .null, .null, .int 0, .null, .int 0, .int 0, .int 0, .int 0])), (b8, .inl (g.2.1 0, 916, .inl (fun _ => 0))), (b17, .inl (g.2.1 0, 916, .inl (fun _ => 0))), (b25, .inl (g.2.1 0, 6, .inl (fun _ => 0))), (b33, .inl (g.2.1 1, 64, .inl (fun _ => 0))), (b41, .inl (g.2.1 0, 60, .inl (fun _ => 0))), (b49, .inl (g.2.1 0, 60, .inl (fun _ => 0)))] := hD
  refine lv_aload_n hx hb dX12_init_54 rfl (lv_at hl 0 rfl) ?_
  refine lv_bipush (v := (6 : Int32)) hx hb dX12_init_55 (by decide) ?_
  refine va_newa (atype := .int) (a0 := (6, .inl (fun _ => 0))) hx hb (hts _ w_181) rfl hK.1 hP hD hS (fun z hz => Or.inr (by omega)) (fun _ => rfl) (by decide) rfl (Nat.le_of_ble_eq_true rfl) (Nat.le_of_ble_eq_true rfl) (Nat.le_of_ble_eq_true rfl) dX12_init_57 (fun b57 cA H hK2 hP hD hS => ?_)
  have eA := int_cls hK hK2
  subst eA
  have hP : va_P g.1 vwCl [(q, .inr (12, [.int 0, .ref b8, .ref b17, .int 0, .int 0, .int 0, .int 0, .int 0, .int 0, .ref b25, .ref b33, .int 0, .int 0, .int 0, .int 0, .int 0, .int 0, .ref b41, .ref b49, .null, .int 0, .null, .null, .int 0, .null, .int 0, .int 0, .int 0, .int 0])), (b8, .inl (g.2.1 0, 916, .inl (fun _ => 0))), (b17, .inl (g.2.1 0, 916, .inl (fun _ => 0))), (b25, .inl (g.2.1 0, 6, .inl (fun _ => 0))), (b33, .inl (g.2.1 1, 64, .inl (fun _ => 0))), (b41, .inl (g.2.1 0, 60, .inl (fun _ => 0))), (b49, .inl (g.2.1 0, 60, .inl (fun _ => 0))), (b57, .inl (g.2.1 0, 6, .inl (fun _ => 0)))] H := hP
  have hD : va_D (fun z => z = q ∨ h0 ≤ z) [(q, .inr (12, [.int 0, .ref b8, .ref b17, .int 0, .int 0, .int 0, .int 0, .int 0, .int 0, .ref b25, .ref b33, .int 0, .int 0, .int 0, .int 0, .int 0, .int 0, .ref b41, .ref b49, .null, .int 0, .null, .null, .int 0, .null, .int 0, .int 0, .int 0, .int 0])), (b8, .inl (g.2.1 0, 916, .inl (fun _ => 0))), (b17, .inl (g.2.1 0, 916, .inl (fun _ => 0))), (b25, .inl (g.2.1 0, 6, .inl (fun _ => 0))), (b33, .inl (g.2.1 1, 64, .inl (fun _ => 0))), (b41, .inl (g.2.1 0, 60, .inl (fun _ => 0))), (b49, .inl (g.2.1 0, 60, .inl (fun _ => 0))), (b57, .inl (g.2.1 0, 6, .inl (fun _ => 0)))] := hD
  refine va_putF (D := g.1) (ci := 12) (v := .ref b57) (ty := .array .int) (C := RX12) (T := TX12) (N := 29) (fs := [.int 0, .ref b8, .ref b17, .int 0, .int 0, .int 0, .int 0, .int 0, .int 0, .ref b25, .ref b33, .int 0, .int 0, .int 0, .int 0, .int 0, .int 0, .ref b41, .ref b49, .null, .int 0, .null, .null, .int 0, .null, .int 0, .int 0, .int 0, .int 0]) hx hb hts uw_12 tyX12 tyX12_ok nmX12 hown hK.1 hP hD hS 0 rfl rfl 19 (by decide) (hts _ w_986) (fun _ h => h) rfl hin rfl rfl rfl rfl (Nat.le_of_ble_eq_true rfl) dX12_init_59 (fun H locs hP hD hS => ?_)
  have hP : va_P g.1 vwCl [(q, .inr (12, [.int 0, .ref b8, .ref b17, .int 0, .int 0, .int 0, .int 0, .int 0, .int 0, .ref b25, .ref b33, .int 0, .int 0, .int 0, .int 0, .int 0, .int 0, .ref b41, .ref b49, .ref b57, .int 0, .null, .null, .int 0, .null, .int 0, .int 0, .int 0, .int 0])), (b8, .inl (g.2.1 0, 916, .inl (fun _ => 0))), (b17, .inl (g.2.1 0, 916, .inl (fun _ => 0))), (b25, .inl (g.2.1 0, 6, .inl (fun _ => 0))), (b33, .inl (g.2.1 1, 64, .inl (fun _ => 0))), (b41, .inl (g.2.1 0, 60, .inl (fun _ => 0))), (b49, .inl (g.2.1 0, 60, .inl (fun _ => 0))), (b57, .inl (g.2.1 0, 6, .inl (fun _ => 0)))] H := hP
  have hD : va_D (fun z => z = q ∨ h0 ≤ z) [(q, .inr (12, [.int 0, .ref b8, .ref b17, .int 0, .int 0, .int 0, .int 0, .int 0, .int 0, .ref b25, .ref b33, .int 0, .int 0, .int 0, .int 0, .int 0, .int 0, .ref b41, .ref b49, .ref b57, .int 0, .null, .null, .int 0, .null, .int 0, .int 0, .int 0, .int 0])), (b8, .inl (g.2.1 0, 916, .inl (fun _ => 0))), (b17, .inl (g.2.1 0, 916, .inl (fun _ => 0))), (b25, .inl (g.2.1 0, 6, .inl (fun _ => 0))), (b33, .inl (g.2.1 1, 64, .inl (fun _ => 0))), (b41, .inl (g.2.1 0, 60, .inl (fun _ => 0))), (b49, .inl (g.2.1 0, 60, .inl (fun _ => 0))), (b57, .inl (g.2.1 0, 6, .inl (fun _ => 0)))] := hD
  refine lv_aload_n hx hb dX12_init_62 rfl (lv_at hl 0 rfl) ?_
  refine lv_sipush (v := (1681 : Int32)) hx hb dX12_init_63 (by decide) ?_
  refine va_newa (atype := .int) (a0 := (1681, .inl (fun _ => 0))) hx hb (hts _ w_181) rfl hK.1 hP hD hS (fun z hz => Or.inr (by omega)) (fun _ => rfl) (by decide) rfl (Nat.le_of_ble_eq_true rfl) (Nat.le_of_ble_eq_true rfl) (Nat.le_of_ble_eq_true rfl) dX12_init_66 (fun b66 cA H hK2 hP hD hS => ?_)
  have eA := int_cls hK hK2
  subst eA
  have hP : va_P g.1 vwCl [(q, .inr (12, [.int 0, .ref b8, .ref b17, .int 0, .int 0, .int 0, .int 0, .int 0, .int 0, .ref b25, .ref b33, .int 0, .int 0, .int 0, .int 0, .int 0, .int 0, .ref b41, .ref b49, .ref b57, .int 0, .null, .null, .int 0, .null, .int 0, .int 0, .int 0, .int 0])), (b8, .inl (g.2.1 0, 916, .inl (fun _ => 0))), (b17, .inl (g.2.1 0, 916, .inl (fun _ => 0))), (b25, .inl (g.2.1 0, 6, .inl (fun _ => 0))), (b33, .inl (g.2.1 1, 64, .inl (fun _ => 0))), (b41, .inl (g.2.1 0, 60, .inl (fun _ => 0))), (b49, .inl (g.2.1 0, 60, .inl (fun _ => 0))), (b57, .inl (g.2.1 0, 6, .inl (fun _ => 0))), (b66, .inl (g.2.1 0, 1681, .inl (fun _ => 0)))] H := hP
  have hD : va_D (fun z => z = q ∨ h0 ≤ z) [(q, .inr (12, [.int 0, .ref b8, .ref b17, .int 0, .int 0, .int 0, .int 0, .int 0, .int 0, .ref b25, .ref b33, .int 0, .int 0, .int 0, .int 0, .int 0, .int 0, .ref b41, .ref b49, .ref b57, .int 0, .null, .null, .int 0, .null, .int 0, .int 0, .int 0, .int 0])), (b8, .inl (g.2.1 0, 916, .inl (fun _ => 0))), (b17, .inl (g.2.1 0, 916, .inl (fun _ => 0))), (b25, .inl (g.2.1 0, 6, .inl (fun _ => 0))), (b33, .inl (g.2.1 1, 64, .inl (fun _ => 0))), (b41, .inl (g.2.1 0, 60, .inl (fun _ => 0))), (b49, .inl (g.2.1 0, 60, .inl (fun _ => 0))), (b57, .inl (g.2.1 0, 6, .inl (fun _ => 0))), (b66, .inl (g.2.1 0, 1681, .inl (fun _ => 0)))] := hD
  refine va_putF (D := g.1) (ci := 12) (v := .ref b66) (ty := .array .int) (C := RX12) (T := TX12) (N := 29) (fs := [.int 0, .ref b8, .ref b17, .int 0, .int 0, .int 0, .int 0, .int 0, .int 0, .ref b25, .ref b33, .int 0, .int 0, .int 0, .int 0, .int 0, .int 0, .ref b41, .ref b49, .ref b57, .int 0, .null, .null, .int 0, .null, .int 0, .int 0, .int 0, .int 0]) hx hb hts uw_12 tyX12 tyX12_ok nmX12 hown hK.1 hP hD hS 0 rfl rfl 21 (by decide) (hts _ w_988) (fun _ h => h) rfl hin rfl rfl rfl rfl (Nat.le_of_ble_eq_true rfl) dX12_init_68 (fun H locs hP hD hS => ?_)
  have hP : va_P g.1 vwCl [(q, .inr (12, [.int 0, .ref b8, .ref b17, .int 0, .int 0, .int 0, .int 0, .int 0, .int 0, .ref b25, .ref b33, .int 0, .int 0, .int 0, .int 0, .int 0, .int 0, .ref b41, .ref b49, .ref b57, .int 0, .ref b66, .null, .int 0, .null, .int 0, .int 0, .int 0, .int 0])), (b8, .inl (g.2.1 0, 916, .inl (fun _ => 0))), (b17, .inl (g.2.1 0, 916, .inl (fun _ => 0))), (b25, .inl (g.2.1 0, 6, .inl (fun _ => 0))), (b33, .inl (g.2.1 1, 64, .inl (fun _ => 0))), (b41, .inl (g.2.1 0, 60, .inl (fun _ => 0))), (b49, .inl (g.2.1 0, 60, .inl (fun _ => 0))), (b57, .inl (g.2.1 0, 6, .inl (fun _ => 0))), (b66, .inl (g.2.1 0, 1681, .inl (fun _ => 0)))] H := hP
  have hD : va_D (fun z => z = q ∨ h0 ≤ z) [(q, .inr (12, [.int 0, .ref b8, .ref b17, .int 0, .int 0, .int 0, .int 0, .int 0, .int 0, .ref b25, .ref b33, .int 0, .int 0, .int 0, .int 0, .int 0, .int 0, .ref b41, .ref b49, .ref b57, .int 0, .ref b66, .null, .int 0, .null, .int 0, .int 0, .int 0, .int 0])), (b8, .inl (g.2.1 0, 916, .inl (fun _ => 0))), (b17, .inl (g.2.1 0, 916, .inl (fun _ => 0))), (b25, .inl (g.2.1 0, 6, .inl (fun _ => 0))), (b33, .inl (g.2.1 1, 64, .inl (fun _ => 0))), (b41, .inl (g.2.1 0, 60, .inl (fun _ => 0))), (b49, .inl (g.2.1 0, 60, .inl (fun _ => 0))), (b57, .inl (g.2.1 0, 6, .inl (fun _ => 0))), (b66, .inl (g.2.1 0, 1681, .inl (fun _ => 0)))] := hD
  refine lv_aload_n hx hb dX12_init_71 rfl (lv_at hl 0 rfl) ?_
  refine lv_sipush (v := (1681 : Int32)) hx hb dX12_init_72 (by decide) ?_
  refine va_newa (atype := .int) (a0 := (1681, .inl (fun _ => 0))) hx hb (hts _ w_181) rfl hK.1 hP hD hS (fun z hz => Or.inr (by omega)) (fun _ => rfl) (by decide) rfl (Nat.le_of_ble_eq_true rfl) (Nat.le_of_ble_eq_true rfl) (Nat.le_of_ble_eq_true rfl) dX12_init_75 (fun b75 cA H hK2 hP hD hS => ?_)
  have eA := int_cls hK hK2
  subst eA
  have hP : va_P g.1 vwCl [(q, .inr (12, [.int 0, .ref b8, .ref b17, .int 0, .int 0, .int 0, .int 0, .int 0, .int 0, .ref b25, .ref b33, .int 0, .int 0, .int 0, .int 0, .int 0, .int 0, .ref b41, .ref b49, .ref b57, .int 0, .ref b66, .null, .int 0, .null, .int 0, .int 0, .int 0, .int 0])), (b8, .inl (g.2.1 0, 916, .inl (fun _ => 0))), (b17, .inl (g.2.1 0, 916, .inl (fun _ => 0))), (b25, .inl (g.2.1 0, 6, .inl (fun _ => 0))), (b33, .inl (g.2.1 1, 64, .inl (fun _ => 0))), (b41, .inl (g.2.1 0, 60, .inl (fun _ => 0))), (b49, .inl (g.2.1 0, 60, .inl (fun _ => 0))), (b57, .inl (g.2.1 0, 6, .inl (fun _ => 0))), (b66, .inl (g.2.1 0, 1681, .inl (fun _ => 0))), (b75, .inl (g.2.1 0, 1681, .inl (fun _ => 0)))] H := hP
  have hD : va_D (fun z => z = q ∨ h0 ≤ z) [(q, .inr (12, [.int 0, .ref b8, .ref b17, .int 0, .int 0, .int 0, .int 0, .int 0, .int 0, .ref b25, .ref b33, .int 0, .int 0, .int 0, .int 0, .int 0, .int 0, .ref b41, .ref b49, .ref b57, .int 0, .ref b66, .null, .int 0, .null, .int 0, .int 0, .int 0, .int 0])), (b8, .inl (g.2.1 0, 916, .inl (fun _ => 0))), (b17, .inl (g.2.1 0, 916, .inl (fun _ => 0))), (b25, .inl (g.2.1 0, 6, .inl (fun _ => 0))), (b33, .inl (g.2.1 1, 64, .inl (fun _ => 0))), (b41, .inl (g.2.1 0, 60, .inl (fun _ => 0))), (b49, .inl (g.2.1 0, 60, .inl (fun _ => 0))), (b57, .inl (g.2.1 0, 6, .inl (fun _ => 0))), (b66, .inl (g.2.1 0, 1681, .inl (fun _ => 0))), (b75, .inl (g.2.1 0, 1681, .inl (fun _ => 0)))] := hD
  refine va_putF (D := g.1) (ci := 12) (v := .ref b75) (ty := .array .int) (C := RX12) (T := TX12) (N := 29) (fs := [.int 0, .ref b8, .ref b17, .int 0, .int 0, .int 0, .int 0, .int 0, .int 0, .ref b25, .ref b33, .int 0, .int 0, .int 0, .int 0, .int 0, .int 0, .ref b41, .ref b49, .ref b57, .int 0, .ref b66, .null, .int 0, .null, .int 0, .int 0, .int 0, .int 0]) hx hb hts uw_12 tyX12 tyX12_ok nmX12 hown hK.1 hP hD hS 0 rfl rfl 22 (by decide) (hts _ w_989) (fun _ h => h) rfl hin rfl rfl rfl rfl (Nat.le_of_ble_eq_true rfl) dX12_init_77 (fun H locs hP hD hS => ?_)
  have hP : va_P g.1 vwCl [(q, .inr (12, [.int 0, .ref b8, .ref b17, .int 0, .int 0, .int 0, .int 0, .int 0, .int 0, .ref b25, .ref b33, .int 0, .int 0, .int 0, .int 0, .int 0, .int 0, .ref b41, .ref b49, .ref b57, .int 0, .ref b66, .ref b75, .int 0, .null, .int 0, .int 0, .int 0, .int 0])), (b8, .inl (g.2.1 0, 916, .inl (fun _ => 0))), (b17, .inl (g.2.1 0, 916, .inl (fun _ => 0))), (b25, .inl (g.2.1 0, 6, .inl (fun _ => 0))), (b33, .inl (g.2.1 1, 64, .inl (fun _ => 0))), (b41, .inl (g.2.1 0, 60, .inl (fun _ => 0))), (b49, .inl (g.2.1 0, 60, .inl (fun _ => 0))), (b57, .inl (g.2.1 0, 6, .inl (fun _ => 0))), (b66, .inl (g.2.1 0, 1681, .inl (fun _ => 0))), (b75, .inl (g.2.1 0, 1681, .inl (fun _ => 0)))] H := hP
  have hD : va_D (fun z => z = q ∨ h0 ≤ z) [(q, .inr (12, [.int 0, .ref b8, .ref b17, .int 0, .int 0, .int 0, .int 0, .int 0, .int 0, .ref b25, .ref b33, .int 0, .int 0, .int 0, .int 0, .int 0, .int 0, .ref b41, .ref b49, .ref b57, .int 0, .ref b66, .ref b75, .int 0, .null, .int 0, .int 0, .int 0, .int 0])), (b8, .inl (g.2.1 0, 916, .inl (fun _ => 0))), (b17, .inl (g.2.1 0, 916, .inl (fun _ => 0))), (b25, .inl (g.2.1 0, 6, .inl (fun _ => 0))), (b33, .inl (g.2.1 1, 64, .inl (fun _ => 0))), (b41, .inl (g.2.1 0, 60, .inl (fun _ => 0))), (b49, .inl (g.2.1 0, 60, .inl (fun _ => 0))), (b57, .inl (g.2.1 0, 6, .inl (fun _ => 0))), (b66, .inl (g.2.1 0, 1681, .inl (fun _ => 0))), (b75, .inl (g.2.1 0, 1681, .inl (fun _ => 0)))] := hD
  refine lv_aload_n hx hb dX12_init_80 rfl (lv_at hl 0 rfl) ?_
  refine lv_bipush (v := (20 : Int32)) hx hb dX12_init_81 (by decide) ?_
  refine va_newa (atype := .int) (a0 := (20, .inl (fun _ => 0))) hx hb (hts _ w_181) rfl hK.1 hP hD hS (fun z hz => Or.inr (by omega)) (fun _ => rfl) (by decide) rfl (Nat.le_of_ble_eq_true rfl) (Nat.le_of_ble_eq_true rfl) (Nat.le_of_ble_eq_true rfl) dX12_init_83 (fun b83 cA H hK2 hP hD hS => ?_)
  have eA := int_cls hK hK2
  subst eA
  have hP : va_P g.1 vwCl [(q, .inr (12, [.int 0, .ref b8, .ref b17, .int 0, .int 0, .int 0, .int 0, .int 0, .int 0, .ref b25, .ref b33, .int 0, .int 0, .int 0, .int 0, .int 0, .int 0, .ref b41, .ref b49, .ref b57, .int 0, .ref b66, .ref b75, .int 0, .null, .int 0, .int 0, .int 0, .int 0])), (b8, .inl (g.2.1 0, 916, .inl (fun _ => 0))), (b17, .inl (g.2.1 0, 916, .inl (fun _ => 0))), (b25, .inl (g.2.1 0, 6, .inl (fun _ => 0))), (b33, .inl (g.2.1 1, 64, .inl (fun _ => 0))), (b41, .inl (g.2.1 0, 60, .inl (fun _ => 0))), (b49, .inl (g.2.1 0, 60, .inl (fun _ => 0))), (b57, .inl (g.2.1 0, 6, .inl (fun _ => 0))), (b66, .inl (g.2.1 0, 1681, .inl (fun _ => 0))), (b75, .inl (g.2.1 0, 1681, .inl (fun _ => 0))), (b83, .inl (g.2.1 0, 20, .inl (fun _ => 0)))] H := hP
  have hD : va_D (fun z => z = q ∨ h0 ≤ z) [(q, .inr (12, [.int 0, .ref b8, .ref b17, .int 0, .int 0, .int 0, .int 0, .int 0, .int 0, .ref b25, .ref b33, .int 0, .int 0, .int 0, .int 0, .int 0, .int 0, .ref b41, .ref b49, .ref b57, .int 0, .ref b66, .ref b75, .int 0, .null, .int 0, .int 0, .int 0, .int 0])), (b8, .inl (g.2.1 0, 916, .inl (fun _ => 0))), (b17, .inl (g.2.1 0, 916, .inl (fun _ => 0))), (b25, .inl (g.2.1 0, 6, .inl (fun _ => 0))), (b33, .inl (g.2.1 1, 64, .inl (fun _ => 0))), (b41, .inl (g.2.1 0, 60, .inl (fun _ => 0))), (b49, .inl (g.2.1 0, 60, .inl (fun _ => 0))), (b57, .inl (g.2.1 0, 6, .inl (fun _ => 0))), (b66, .inl (g.2.1 0, 1681, .inl (fun _ => 0))), (b75, .inl (g.2.1 0, 1681, .inl (fun _ => 0))), (b83, .inl (g.2.1 0, 20, .inl (fun _ => 0)))] := hD
  refine va_putF (D := g.1) (ci := 12) (v := .ref b83) (ty := .array .int) (C := RX12) (T := TX12) (N := 29) (fs := [.int 0, .ref b8, .ref b17, .int 0, .int 0, .int 0, .int 0, .int 0, .int 0, .ref b25, .ref b33, .int 0, .int 0, .int 0, .int 0, .int 0, .int 0, .ref b41, .ref b49, .ref b57, .int 0, .ref b66, .ref b75, .int 0, .null, .int 0, .int 0, .int 0, .int 0]) hx hb hts uw_12 tyX12 tyX12_ok nmX12 hown hK.1 hP hD hS 0 rfl rfl 24 (by decide) (hts _ w_991) (fun _ h => h) rfl hin rfl rfl rfl rfl (Nat.le_of_ble_eq_true rfl) dX12_init_85 (fun H locs hP hD hS => ?_)
  have hP : va_P g.1 vwCl [(q, .inr (12, [.int 0, .ref b8, .ref b17, .int 0, .int 0, .int 0, .int 0, .int 0, .int 0, .ref b25, .ref b33, .int 0, .int 0, .int 0, .int 0, .int 0, .int 0, .ref b41, .ref b49, .ref b57, .int 0, .ref b66, .ref b75, .int 0, .ref b83, .int 0, .int 0, .int 0, .int 0])), (b8, .inl (g.2.1 0, 916, .inl (fun _ => 0))), (b17, .inl (g.2.1 0, 916, .inl (fun _ => 0))), (b25, .inl (g.2.1 0, 6, .inl (fun _ => 0))), (b33, .inl (g.2.1 1, 64, .inl (fun _ => 0))), (b41, .inl (g.2.1 0, 60, .inl (fun _ => 0))), (b49, .inl (g.2.1 0, 60, .inl (fun _ => 0))), (b57, .inl (g.2.1 0, 6, .inl (fun _ => 0))), (b66, .inl (g.2.1 0, 1681, .inl (fun _ => 0))), (b75, .inl (g.2.1 0, 1681, .inl (fun _ => 0))), (b83, .inl (g.2.1 0, 20, .inl (fun _ => 0)))] H := hP
  have hD : va_D (fun z => z = q ∨ h0 ≤ z) [(q, .inr (12, [.int 0, .ref b8, .ref b17, .int 0, .int 0, .int 0, .int 0, .int 0, .int 0, .ref b25, .ref b33, .int 0, .int 0, .int 0, .int 0, .int 0, .int 0, .ref b41, .ref b49, .ref b57, .int 0, .ref b66, .ref b75, .int 0, .ref b83, .int 0, .int 0, .int 0, .int 0])), (b8, .inl (g.2.1 0, 916, .inl (fun _ => 0))), (b17, .inl (g.2.1 0, 916, .inl (fun _ => 0))), (b25, .inl (g.2.1 0, 6, .inl (fun _ => 0))), (b33, .inl (g.2.1 1, 64, .inl (fun _ => 0))), (b41, .inl (g.2.1 0, 60, .inl (fun _ => 0))), (b49, .inl (g.2.1 0, 60, .inl (fun _ => 0))), (b57, .inl (g.2.1 0, 6, .inl (fun _ => 0))), (b66, .inl (g.2.1 0, 1681, .inl (fun _ => 0))), (b75, .inl (g.2.1 0, 1681, .inl (fun _ => 0))), (b83, .inl (g.2.1 0, 20, .inl (fun _ => 0)))] := hD
  refine lv_aload_n hx hb dX12_init_88 rfl (lv_at hl 0 rfl) ?_
  refine va_get (D := g.1) (ci := 12) (C := RX12) (T := TX12) (N := 29) hx hb hts uw_12 hown hK.1 hP 0 rfl rfl 1 (by decide) (hts _ w_968) (fun _ h => h) rfl dX12_init_89 ?_
  refine lv_bipush (v := (7 : Int32)) hx hb dX12_init_92 (by decide) ?_
  refine lv_iconst (v := (-1 : Int32)) hx hb dX12_init_94 (by decide) ?_
  refine va_iast hx hb hK.1 hP hD hS 1 0 rfl rfl (vin_l (by decide)) dX12_init_95 (fun H locs hP hD hS => ?_)
  have hP : va_P g.1 vwCl [(q, .inr (12, [.int 0, .ref b8, .ref b17, .int 0, .int 0, .int 0, .int 0, .int 0, .int 0, .ref b25, .ref b33, .int 0, .int 0, .int 0, .int 0, .int 0, .int 0, .ref b41, .ref b49, .ref b57, .int 0, .ref b66, .ref b75, .int 0, .ref b83, .int 0, .int 0, .int 0, .int 0])), (b8, .inl (g.2.1 0, 916, .inl (upd (fun _ => 0) 7 ((-1 : Int32))))), (b17, .inl (g.2.1 0, 916, .inl (fun _ => 0))), (b25, .inl (g.2.1 0, 6, .inl (fun _ => 0))), (b33, .inl (g.2.1 1, 64, .inl (fun _ => 0))), (b41, .inl (g.2.1 0, 60, .inl (fun _ => 0))), (b49, .inl (g.2.1 0, 60, .inl (fun _ => 0))), (b57, .inl (g.2.1 0, 6, .inl (fun _ => 0))), (b66, .inl (g.2.1 0, 1681, .inl (fun _ => 0))), (b75, .inl (g.2.1 0, 1681, .inl (fun _ => 0))), (b83, .inl (g.2.1 0, 20, .inl (fun _ => 0)))] H := hP
  have hD : va_D (fun z => z = q ∨ h0 ≤ z) [(q, .inr (12, [.int 0, .ref b8, .ref b17, .int 0, .int 0, .int 0, .int 0, .int 0, .int 0, .ref b25, .ref b33, .int 0, .int 0, .int 0, .int 0, .int 0, .int 0, .ref b41, .ref b49, .ref b57, .int 0, .ref b66, .ref b75, .int 0, .ref b83, .int 0, .int 0, .int 0, .int 0])), (b8, .inl (g.2.1 0, 916, .inl (upd (fun _ => 0) 7 ((-1 : Int32))))), (b17, .inl (g.2.1 0, 916, .inl (fun _ => 0))), (b25, .inl (g.2.1 0, 6, .inl (fun _ => 0))), (b33, .inl (g.2.1 1, 64, .inl (fun _ => 0))), (b41, .inl (g.2.1 0, 60, .inl (fun _ => 0))), (b49, .inl (g.2.1 0, 60, .inl (fun _ => 0))), (b57, .inl (g.2.1 0, 6, .inl (fun _ => 0))), (b66, .inl (g.2.1 0, 1681, .inl (fun _ => 0))), (b75, .inl (g.2.1 0, 1681, .inl (fun _ => 0))), (b83, .inl (g.2.1 0, 20, .inl (fun _ => 0)))] := hD
  refine W.vret hx hb hr (fun t ht _ => ⟨⟨(fun k => if k = 1 then b8 else if k = 2 then b17 else if k = 9 then b25 else if k = 10 then b33 else if k = 17 then b41 else if k = 18 then b49 else if k = 19 then b57 else if k = 21 then b66 else if k = 22 then b75 else if k = 24 then b83 else 0), rfl, trivial, ?_⟩, hS.F ht⟩) hS.2.2 dX12_init_96 hlocks
  show va_P g.1 vwCl _ t.heap ∧ va_D _ _
  rw [ht]
  exact ⟨hP, hD⟩

