
/-- a thing is made behind others, with its rows -/
theorem ctor_app {A : Nat → Prop} {D : va_G} {cl : List vw_C} {ws part : va_W} {p1 : Nat} {e : va_E} {H1 H2 : Heap} (hD1 : va_D A (ws ++ [(p1, e)])) (hP1 : va_P D cl (ws ++ [(p1, e)]) H1) (hk : ∀ z, z < H1.size → ¬ (z = p1 ∨ H1.size ≤ z) → H2[z]? = H1[z]?) (hPp : va_P D cl part H2) (hDp : va_D (fun z => z = p1 ∨ H1.size ≤ z) part) (hA : ∀ z, H1.size ≤ z → A z) : va_P D cl (ws ++ part) H2 ∧ va_D A (ws ++ part) := by
  have hl : ∀ (i : Nat) (x : Nat × va_E), ws[i]? = some x → (ws ++ [(p1, e)])[i]? = some x := fun i x h => by rw [List.getElem?_append_left (List.getElem?_eq_some_iff.mp h).1]; exact h
  have hlast : (ws ++ [(p1, e)])[ws.length]? = some (p1, e) := by rw [List.getElem?_append_right (Nat.le_refl _), Nat.sub_self]; rfl
  have hne : ∀ (i : Nat) (x : Nat × va_E), ws[i]? = some x → x.1 ≠ p1 ∧ x.1 < H1.size := fun i x h => ⟨fun z => by
    have h1 := hD1.1 i ws.length x (p1, e) (hl i x h) hlast z
    have := (List.getElem?_eq_some_iff.mp h).1
    omega, (hP1 i x (hl i x h)).lt⟩
  refine ⟨?_, va_Dapp ⟨fun i j p q hp hq h => hD1.1 i j p q (hl i p hp) (hl j q hq) h, fun k q h => hD1.2 k q (hl k q h)⟩ ⟨hDp.1, fun k q h => ?_⟩ (fun i j p q hp hq h => ?_)⟩
  · have h1 : va_P D cl ws H2 := fun k q h => (hP1 k q (hl k q h)).kept (hk q.1 (hne k q h).2 (fun z => by
      rcases z with z | z
      · exact (hne k q h).1 z
      · have := (hne k q h).2; omega))
    exact h1.app hPp
  · rcases hDp.2 k q h with z | z
    · rw [z]; exact hD1.2 _ _ hlast
    · exact hA _ z
  · have := hne i p hp
    rcases hDp.2 j q hq with z | z
    · exact this.1 (h.trans z)
    · omega

set_option maxRecDepth 20000 in
theorem w_97 : (Cond.methodLink RX11 3 objectInit) ∈ TB := inTB (List.mem_of_getElem? (i := 97) (by decide +kernel)) (by decide +kernel)
set_option maxRecDepth 20000 in
theorem w_100 : (Cond.classLink RX11 9 RX5) ∈ TB := inTB (List.mem_of_getElem? (i := 100) (by decide +kernel)) (by decide +kernel)
set_option maxRecDepth 20000 in
theorem w_101 : (Cond.instantiable RX5 18) ∈ TB := inTB (List.mem_of_getElem? (i := 101) (by decide +kernel)) (by decide +kernel)
set_option maxRecDepth 20000 in
theorem w_104 : (Cond.code yX5_init cX5_init 1 none) ∈ TB := inTB (List.mem_of_getElem? (i := 104) (by decide +kernel)) (by decide +kernel)
set_option maxRecDepth 20000 in
theorem w_103 : (Cond.instanceMethod yX5_init) ∈ TB := inTB (List.mem_of_getElem? (i := 103) (by decide +kernel)) (by decide +kernel)
theorem ci_X5_init : CI yX5_init cX5_init 1 0 := ⟨w_103, w_72, w_104, rfl, by decide +kernel, by decide +kernel, by decide +kernel⟩
set_option maxRecDepth 20000 in
theorem w_102 : (Cond.methodLinkNest RX11 11 yX5_init RX11) ∈ NB := inNB (List.mem_of_getElem? (i := 102) (by decide +kernel)) (by decide +kernel)
set_option maxRecDepth 20000 in
theorem w_182 : (Cond.classLink RX11 25 RX1) ∈ TB := inTB (List.mem_of_getElem? (i := 182) (by decide +kernel)) (by decide +kernel)
set_option maxRecDepth 20000 in
theorem w_183 : (Cond.instantiable RX1 8) ∈ TB := inTB (List.mem_of_getElem? (i := 183) (by decide +kernel)) (by decide +kernel)
set_option maxRecDepth 20000 in
theorem w_186 : (Cond.code yX1_init cX1_init 1 none) ∈ TB := inTB (List.mem_of_getElem? (i := 186) (by decide +kernel)) (by decide +kernel)
set_option maxRecDepth 20000 in
theorem w_185 : (Cond.instanceMethod yX1_init) ∈ TB := inTB (List.mem_of_getElem? (i := 185) (by decide +kernel)) (by decide +kernel)
theorem ci_X1_init : CI yX1_init cX1_init 1 0 := ⟨w_185, w_73, w_186, rfl, by decide +kernel, by decide +kernel, by decide +kernel⟩
set_option maxRecDepth 20000 in
theorem w_184 : (Cond.methodLinkNest RX11 27 yX1_init RX11) ∈ NB := inNB (List.mem_of_getElem? (i := 184) (by decide +kernel)) (by decide +kernel)
set_option maxRecDepth 20000 in
theorem w_214 : (Cond.classLink RX11 32 RX9) ∈ TB := inTB (List.mem_of_getElem? (i := 214) (by decide +kernel)) (by decide +kernel)
set_option maxRecDepth 20000 in
theorem w_215 : (Cond.instantiable RX9 2) ∈ TB := inTB (List.mem_of_getElem? (i := 215) (by decide +kernel)) (by decide +kernel)
set_option maxRecDepth 20000 in
theorem w_218 : (Cond.code yX9_init cX9_init 1 none) ∈ TB := inTB (List.mem_of_getElem? (i := 218) (by decide +kernel)) (by decide +kernel)
set_option maxRecDepth 20000 in
theorem w_217 : (Cond.instanceMethod yX9_init) ∈ TB := inTB (List.mem_of_getElem? (i := 217) (by decide +kernel)) (by decide +kernel)
theorem ci_X9_init : CI yX9_init cX9_init 1 0 := ⟨w_217, w_74, w_218, rfl, by decide +kernel, by decide +kernel, by decide +kernel⟩
set_option maxRecDepth 20000 in
theorem w_216 : (Cond.methodLinkNest RX11 34 yX9_init RX11) ∈ NB := inNB (List.mem_of_getElem? (i := 216) (by decide +kernel)) (by decide +kernel)
theorem dX11_init_0 : decode cX11_init 0 = .ok (.aload_n 0, 1) := by decide +kernel
theorem dX11_init_1 : decode cX11_init 1 = .ok (.invokespecial 3, 3) := by decide +kernel
theorem dX11_init_4 : decode cX11_init 4 = .ok (.aload_n 0, 1) := by decide +kernel
theorem dX11_init_5 : decode cX11_init 5 = .ok (.new 9, 3) := by decide +kernel
theorem dX11_init_8 : decode cX11_init 8 = .ok (.dup, 1) := by decide +kernel
theorem dX11_init_9 : decode cX11_init 9 = .ok (.invokespecial 11, 3) := by decide +kernel
theorem dX11_init_12 : decode cX11_init 12 = .ok (.putfield 12, 3) := by decide +kernel
theorem dX11_init_15 : decode cX11_init 15 = .ok (.aload_n 0, 1) := by decide +kernel
theorem dX11_init_16 : decode cX11_init 16 = .ok (.new 9, 3) := by decide +kernel
theorem dX11_init_19 : decode cX11_init 19 = .ok (.dup, 1) := by decide +kernel
theorem dX11_init_20 : decode cX11_init 20 = .ok (.invokespecial 11, 3) := by decide +kernel
theorem dX11_init_23 : decode cX11_init 23 = .ok (.putfield 18, 3) := by decide +kernel
theorem dX11_init_26 : decode cX11_init 26 = .ok (.aload_n 0, 1) := by decide +kernel
theorem dX11_init_27 : decode cX11_init 27 = .ok (.iconst 0, 1) := by decide +kernel
theorem dX11_init_28 : decode cX11_init 28 = .ok (.putfield 21, 3) := by decide +kernel
theorem dX11_init_31 : decode cX11_init 31 = .ok (.aload_n 0, 1) := by decide +kernel
theorem dX11_init_32 : decode cX11_init 32 = .ok (.new 25, 3) := by decide +kernel
theorem dX11_init_35 : decode cX11_init 35 = .ok (.dup, 1) := by decide +kernel
theorem dX11_init_36 : decode cX11_init 36 = .ok (.invokespecial 27, 3) := by decide +kernel
theorem dX11_init_39 : decode cX11_init 39 = .ok (.putfield 28, 3) := by decide +kernel
theorem dX11_init_42 : decode cX11_init 42 = .ok (.aload_n 0, 1) := by decide +kernel
theorem dX11_init_43 : decode cX11_init 43 = .ok (.new 32, 3) := by decide +kernel
theorem dX11_init_46 : decode cX11_init 46 = .ok (.dup, 1) := by decide +kernel
theorem dX11_init_47 : decode cX11_init 47 = .ok (.invokespecial 34, 3) := by decide +kernel
theorem dX11_init_50 : decode cX11_init 50 = .ok (.putfield 35, 3) := by decide +kernel
theorem dX11_init_53 : decode cX11_init 53 = .ok (.aload_n 0, 1) := by decide +kernel
theorem dX11_init_54 : decode cX11_init 54 = .ok (.bipush 6, 2) := by decide +kernel
theorem dX11_init_56 : decode cX11_init 56 = .ok (.newarray .int, 2) := by decide +kernel
theorem dX11_init_58 : decode cX11_init 58 = .ok (.putfield 39, 3) := by decide +kernel
theorem dX11_init_61 : decode cX11_init 61 = .ok (.aload_n 0, 1) := by decide +kernel
theorem dX11_init_62 : decode cX11_init 62 = .ok (.bipush 60, 2) := by decide +kernel
theorem dX11_init_64 : decode cX11_init 64 = .ok (.newarray .int, 2) := by decide +kernel
theorem dX11_init_66 : decode cX11_init 66 = .ok (.putfield 43, 3) := by decide +kernel
theorem dX11_init_69 : decode cX11_init 69 = .ok (.aload_n 0, 1) := by decide +kernel
theorem dX11_init_70 : decode cX11_init 70 = .ok (.bipush 60, 2) := by decide +kernel
theorem dX11_init_72 : decode cX11_init 72 = .ok (.newarray .int, 2) := by decide +kernel
theorem dX11_init_74 : decode cX11_init 74 = .ok (.putfield 46, 3) := by decide +kernel
theorem dX11_init_77 : decode cX11_init 77 = .ok (.aload_n 0, 1) := by decide +kernel
theorem dX11_init_78 : decode cX11_init 78 = .ok (.sipush 1681, 3) := by decide +kernel
theorem dX11_init_81 : decode cX11_init 81 = .ok (.newarray .int, 2) := by decide +kernel
theorem dX11_init_83 : decode cX11_init 83 = .ok (.putfield 49, 3) := by decide +kernel
theorem dX11_init_86 : decode cX11_init 86 = .ok (.aload_n 0, 1) := by decide +kernel
theorem dX11_init_87 : decode cX11_init 87 = .ok (.sipush 1681, 3) := by decide +kernel
theorem dX11_init_90 : decode cX11_init 90 = .ok (.newarray .int, 2) := by decide +kernel
theorem dX11_init_92 : decode cX11_init 92 = .ok (.putfield 52, 3) := by decide +kernel
theorem dX11_init_95 : decode cX11_init 95 = .ok (.return_, 1) := by decide +kernel
/-- the same tables, the addresses ad -/
abbrev gA (g : GG) (ad : Nat → Nat) : GG := (g.1, g.2.1, ad)
abbrev ρ0 : RR := fun _ _ => none
abbrev σ0 : St := fun _ _ => 0
abbrev nF11 : List Value := [.null, .null, .int 0, .null, .null, .null, .null, .null, .null, .null]
set_option maxHeartbeats 4000000 in
set_option maxRecDepth 20000 in
theorem k_X11_init (l : Launch) (g : GG) (h0 q : Nat) : Met l yX11_init (wsF yX11_init cX11_init 1 none) { frames := 2, cells := 29, slots := 3966, locals := 40 } (va_Pc [.ref q] (fun U => (OB g q 11 nF11 U ∧ U.heap.size = h0) ∧ va_AO "ThreeMeasures$Stick" U)) (va_Qv (fun _ : Nat → Nat => True) (fun ad t => (va_P g.1 vwCl (xW (gA g ad) ρ0 σ0) t.heap ∧ va_D (fun z => z = q ∨ h0 ≤ z) (xW (gA g ad) ρ0 σ0)) ∧ ad 100 = q) (fun z => z = q ∨ h0 ≤ z)) 29 3966 (fun z => z = q ∨ h0 ≤ z) := by
  refine start_X (by decide) (Nat.le_of_ble_eq_true rfl) ?_
  intro p e s m args below meth c C0 hin hB ls hl
  obtain ⟨hx, hb, hr, hml, hown, hts, hlocks⟩ := id C0
  obtain ⟨⟨⟨hK, hP⟩, hsz⟩, hAO⟩ := hB
  have hl : lv_has ls 1 [(0, .ref q)] := hl
  have hS : va_S (fun z => z = q ∨ h0 ≤ z) s.heap s.heap [] := va_S.rf
  have hD : va_D (fun z => z = q ∨ h0 ≤ z) [(q, .inr (11, nF11))] := va_D1 (Or.inl rfl)
  refine lv_aload_n hx hb dX11_init_0 rfl (lv_at hl 0 rfl) ?_
  refine obj_init C0 w_97 hl.1 dX11_init_1 ⟨by decide, by decide⟩ (Nat.le_of_ble_eq_true rfl) ?_
  refine lv_aload_n hx hb dX11_init_4 rfl (lv_at hl 0 rfl) ?_
  refine va_new (T := TX5) (N := 18) (ci := 5) (fs := nF5) hx hb hts uw_5 tyX5 tyX5_ok hown (hts _ w_100) (hts _ w_101) (hts _ w_72) hK.1 hP hD hS (fun z hz => Or.inr (by omega)) rfl (fun j hj => by
      rcases (show j = 0 ∨ j = 1 ∨ j = 2 ∨ j = 3 ∨ j = 4 ∨ j = 5 ∨ j = 6 ∨ j = 7 ∨ j = 8 ∨ j = 9 ∨ j = 10 ∨ j = 11 ∨ j = 12 ∨ j = 13 ∨ j = 14 ∨ j = 15 ∨ j = 16 ∨ j = 17 by omega) with rfl | rfl | rfl | rfl | rfl | rfl | rfl | rfl | rfl | rfl | rfl | rfl | rfl | rfl | rfl | rfl | rfl | rfl <;> rfl) (Nat.le_of_ble_eq_true rfl) (Nat.le_of_ble_eq_true rfl) dX11_init_5 (fun p1 H hP hD hS => ?_)
  refine lv_dup hx hb dX11_init_8 rfl ?_
  refine va_callv (run_IN (rm := { frames := 1, cells := 9, slots := 156, locals := 20 }) (As := []) (rest := [.ref p1, .ref q]) C0 ci_X5_init hK.2 w_102 ⟨by decide, by decide⟩ (k_X5_init l g H.size p1) ⟨(show SV (fun U => (OB g p1 5 nF5 U ∧ U.heap.size = H.size) ∧ va_AO "ThreeMeasures$Stick" U) from fun U U' hh hv h => ⟨⟨OB.sv U U' hh hv h.1.1, by rw [← hh]; exact h.1.2⟩, va_AO.moved (by rw [hv]; exact Vm.Alike.refl _) h.2⟩).blind, fun U hU hW => ⟨rfl, ⟨⟨⟨hK.warm hW, by rw [hU]; exact va_Pr hP⟩, by rw [hU]⟩, va_AO.moved hW.alike hAO⟩⟩⟩ rfl hl.1 rfl (Nat.le_of_ble_eq_true rfl) dX11_init_9 ⟨Nat.le_of_ble_eq_true rfl, Nat.le_of_ble_eq_true rfl⟩) hS (fun z hz h => by rcases h with h | h; rw [h]; exact hD.2 _ _ (List.getElem?_concat_length); exact absurd hz (by omega)) (fun z h => by have hz9 := hS.1; rcases h with h | h; rw [h]; exact hD.2 _ _ (List.getElem?_concat_length); exact Or.inr (by omega)) (fun a1 t1 H1 locs ht _ _ hB1 _ hk1 hS1 => ?_)
  obtain ⟨hPn, hDn⟩ := hB1
  rw [ht] at hPn
  have hz9 := hS.1
  obtain ⟨hP, hD⟩ := ctor_app hD hP hk1 hPn hDn (fun z hz => Or.inr (by omega))
  have hS := hS1
  have hP : va_P g.1 vwCl ((q, .inr (11, [.null, .null, .int 0, .null, .null, .null, .null, .null, .null, .null])) :: ([] ++ nW5 g p1 a1)) H1 := hP
  have hD : va_D (fun z => z = q ∨ h0 ≤ z) ((q, .inr (11, [.null, .null, .int 0, .null, .null, .null, .null, .null, .null, .null])) :: ([] ++ nW5 g p1 a1)) := hD
  refine va_putF (D := g.1) (ci := 11) (v := .ref p1) (ty := .object "ThreeMeasures$State") (C := RX11) (T := TX11) (N := 10) (fs := [.null, .null, .int 0, .null, .null, .null, .null, .null, .null, .null]) hx hb hts uw_11 tyX11 tyX11_ok nmX11 hown hK.1 hP hD hS 0 rfl rfl 0 (by decide) (hts _ w_229) (fun _ h => h) rfl hin rfl rfl rfl rfl (Nat.le_of_ble_eq_true rfl) dX11_init_12 (fun H locs hP hD hS => ?_)
  have hP : va_P g.1 vwCl ((q, .inr (11, [.ref p1, .null, .int 0, .null, .null, .null, .null, .null, .null, .null])) :: ([] ++ nW5 g p1 a1)) H := hP
  have hD : va_D (fun z => z = q ∨ h0 ≤ z) ((q, .inr (11, [.ref p1, .null, .int 0, .null, .null, .null, .null, .null, .null, .null])) :: ([] ++ nW5 g p1 a1)) := hD
  refine lv_aload_n hx hb dX11_init_15 rfl (lv_at hl 0 rfl) ?_
  refine va_new (T := TX5) (N := 18) (ci := 5) (fs := nF5) hx hb hts uw_5 tyX5 tyX5_ok hown (hts _ w_100) (hts _ w_101) (hts _ w_72) hK.1 hP hD hS (fun z hz => Or.inr (by omega)) rfl (fun j hj => by
      rcases (show j = 0 ∨ j = 1 ∨ j = 2 ∨ j = 3 ∨ j = 4 ∨ j = 5 ∨ j = 6 ∨ j = 7 ∨ j = 8 ∨ j = 9 ∨ j = 10 ∨ j = 11 ∨ j = 12 ∨ j = 13 ∨ j = 14 ∨ j = 15 ∨ j = 16 ∨ j = 17 by omega) with rfl | rfl | rfl | rfl | rfl | rfl | rfl | rfl | rfl | rfl | rfl | rfl | rfl | rfl | rfl | rfl | rfl | rfl <;> rfl) (Nat.le_of_ble_eq_true rfl) (Nat.le_of_ble_eq_true rfl) dX11_init_16 (fun p2 H hP hD hS => ?_)
  refine lv_dup hx hb dX11_init_19 rfl ?_
  refine va_callv (run_IN (rm := { frames := 1, cells := 9, slots := 156, locals := 20 }) (As := []) (rest := [.ref p2, .ref q]) C0 ci_X5_init hK.2 w_102 ⟨by decide, by decide⟩ (k_X5_init l g H.size p2) ⟨(show SV (fun U => (OB g p2 5 nF5 U ∧ U.heap.size = H.size) ∧ va_AO "ThreeMeasures$Stick" U) from fun U U' hh hv h => ⟨⟨OB.sv U U' hh hv h.1.1, by rw [← hh]; exact h.1.2⟩, va_AO.moved (by rw [hv]; exact Vm.Alike.refl _) h.2⟩).blind, fun U hU hW => ⟨rfl, ⟨⟨⟨hK.warm hW, by rw [hU]; exact va_Pr hP⟩, by rw [hU]⟩, va_AO.moved hW.alike hAO⟩⟩⟩ rfl hl.1 rfl (Nat.le_of_ble_eq_true rfl) dX11_init_20 ⟨Nat.le_of_ble_eq_true rfl, Nat.le_of_ble_eq_true rfl⟩) hS (fun z hz h => by rcases h with h | h; rw [h]; exact hD.2 _ _ (List.getElem?_concat_length); exact absurd hz (by omega)) (fun z h => by have hz9 := hS.1; rcases h with h | h; rw [h]; exact hD.2 _ _ (List.getElem?_concat_length); exact Or.inr (by omega)) (fun a2 t1 H1 locs ht _ _ hB1 _ hk1 hS1 => ?_)
  obtain ⟨hPn, hDn⟩ := hB1
  rw [ht] at hPn
  have hz9 := hS.1
  obtain ⟨hP, hD⟩ := ctor_app hD hP hk1 hPn hDn (fun z hz => Or.inr (by omega))
  have hS := hS1
  have hP : va_P g.1 vwCl ((q, .inr (11, [.ref p1, .null, .int 0, .null, .null, .null, .null, .null, .null, .null])) :: (([] ++ nW5 g p1 a1) ++ nW5 g p2 a2)) H1 := hP
  have hD : va_D (fun z => z = q ∨ h0 ≤ z) ((q, .inr (11, [.ref p1, .null, .int 0, .null, .null, .null, .null, .null, .null, .null])) :: (([] ++ nW5 g p1 a1) ++ nW5 g p2 a2)) := hD
  refine va_putF (D := g.1) (ci := 11) (v := .ref p2) (ty := .object "ThreeMeasures$State") (C := RX11) (T := TX11) (N := 10) (fs := [.ref p1, .null, .int 0, .null, .null, .null, .null, .null, .null, .null]) hx hb hts uw_11 tyX11 tyX11_ok nmX11 hown hK.1 hP hD hS 0 rfl rfl 1 (by decide) (hts _ w_230) (fun _ h => h) rfl hin rfl rfl rfl rfl (Nat.le_of_ble_eq_true rfl) dX11_init_23 (fun H locs hP hD hS => ?_)
  have hP : va_P g.1 vwCl ((q, .inr (11, [.ref p1, .ref p2, .int 0, .null, .null, .null, .null, .null, .null, .null])) :: (([] ++ nW5 g p1 a1) ++ nW5 g p2 a2)) H := hP
  have hD : va_D (fun z => z = q ∨ h0 ≤ z) ((q, .inr (11, [.ref p1, .ref p2, .int 0, .null, .null, .null, .null, .null, .null, .null])) :: (([] ++ nW5 g p1 a1) ++ nW5 g p2 a2)) := hD
  refine lv_aload_n hx hb dX11_init_26 rfl (lv_at hl 0 rfl) ?_
  refine lv_iconst (v := (0 : Int32)) hx hb dX11_init_27 (by decide) ?_
  refine va_put (D := g.1) (ci := 11) (v := .int 0) (ty := .boolean) (C := RX11) (T := TX11) (N := 10) (fs := [.ref p1, .ref p2, .int 0, .null, .null, .null, .null, .null, .null, .null]) hx hb hts uw_11 tyX11 tyX11_ok nmX11 hown hK.1 hP hD hS 0 rfl rfl 2 (by decide) (hts _ w_231) (fun _ h => h) rfl rfl rfl rfl (Nat.le_of_ble_eq_true rfl) dX11_init_28 (fun H locs hP hD hS => ?_)
  have hP : va_P g.1 vwCl ((q, .inr (11, [.ref p1, .ref p2, .int 0, .null, .null, .null, .null, .null, .null, .null])) :: (([] ++ nW5 g p1 a1) ++ nW5 g p2 a2)) H := hP
  have hD : va_D (fun z => z = q ∨ h0 ≤ z) ((q, .inr (11, [.ref p1, .ref p2, .int 0, .null, .null, .null, .null, .null, .null, .null])) :: (([] ++ nW5 g p1 a1) ++ nW5 g p2 a2)) := hD
  refine lv_aload_n hx hb dX11_init_31 rfl (lv_at hl 0 rfl) ?_
  refine va_new (T := TX1) (N := 8) (ci := 1) (fs := nF1) hx hb hts uw_1 tyX1 tyX1_ok hown (hts _ w_182) (hts _ w_183) (hts _ w_73) hK.1 hP hD hS (fun z hz => Or.inr (by omega)) rfl (fun j hj => by
      rcases (show j = 0 ∨ j = 1 ∨ j = 2 ∨ j = 3 ∨ j = 4 ∨ j = 5 ∨ j = 6 ∨ j = 7 by omega) with rfl | rfl | rfl | rfl | rfl | rfl | rfl | rfl <;> rfl) (Nat.le_of_ble_eq_true rfl) (Nat.le_of_ble_eq_true rfl) dX11_init_32 (fun p3 H hP hD hS => ?_)
  refine lv_dup hx hb dX11_init_35 rfl ?_
  refine va_callv (run_IN (rm := { frames := 1, cells := 1, slots := 100, locals := 20 }) (As := []) (rest := [.ref p3, .ref q]) C0 ci_X1_init hK.2 w_184 ⟨by decide, by decide⟩ (k_X1_init l g H.size p3) ⟨(show SV (fun U => OB g p3 1 nF1 U ∧ U.heap.size = H.size) from fun U U' hh hv h => ⟨OB.sv U U' hh hv h.1, by rw [← hh]; exact h.2⟩).blind, fun U hU hW => ⟨rfl, ⟨⟨hK.warm hW, by rw [hU]; exact va_Pr hP⟩, by rw [hU]⟩⟩⟩ rfl hl.1 rfl (Nat.le_of_ble_eq_true rfl) dX11_init_36 ⟨Nat.le_of_ble_eq_true rfl, Nat.le_of_ble_eq_true rfl⟩) hS (fun z hz h => by rcases h with h | h; rw [h]; exact hD.2 _ _ (List.getElem?_concat_length); exact absurd hz (by omega)) (fun z h => by have hz9 := hS.1; rcases h with h | h; rw [h]; exact hD.2 _ _ (List.getElem?_concat_length); exact Or.inr (by omega)) (fun a3 t1 H1 locs ht _ _ hB1 _ hk1 hS1 => ?_)
  obtain ⟨hPn, hDn⟩ := hB1
  rw [ht] at hPn
  have hz9 := hS.1
  obtain ⟨hP, hD⟩ := ctor_app hD hP hk1 hPn hDn (fun z hz => Or.inr (by omega))
  have hS := hS1
  have hP : va_P g.1 vwCl ((q, .inr (11, [.ref p1, .ref p2, .int 0, .null, .null, .null, .null, .null, .null, .null])) :: ((([] ++ nW5 g p1 a1) ++ nW5 g p2 a2) ++ nW1 g p3 a3)) H1 := hP
  have hD : va_D (fun z => z = q ∨ h0 ≤ z) ((q, .inr (11, [.ref p1, .ref p2, .int 0, .null, .null, .null, .null, .null, .null, .null])) :: ((([] ++ nW5 g p1 a1) ++ nW5 g p2 a2) ++ nW1 g p3 a3)) := hD
  refine va_putF (D := g.1) (ci := 11) (v := .ref p3) (ty := .object "ThreeMeasures$Reader") (C := RX11) (T := TX11) (N := 10) (fs := [.ref p1, .ref p2, .int 0, .null, .null, .null, .null, .null, .null, .null]) hx hb hts uw_11 tyX11 tyX11_ok nmX11 hown hK.1 hP hD hS 0 rfl rfl 3 (by decide) (hts _ w_232) (fun _ h => h) rfl hin rfl rfl rfl rfl (Nat.le_of_ble_eq_true rfl) dX11_init_39 (fun H locs hP hD hS => ?_)
  have hP : va_P g.1 vwCl ((q, .inr (11, [.ref p1, .ref p2, .int 0, .ref p3, .null, .null, .null, .null, .null, .null])) :: ((([] ++ nW5 g p1 a1) ++ nW5 g p2 a2) ++ nW1 g p3 a3)) H := hP
  have hD : va_D (fun z => z = q ∨ h0 ≤ z) ((q, .inr (11, [.ref p1, .ref p2, .int 0, .ref p3, .null, .null, .null, .null, .null, .null])) :: ((([] ++ nW5 g p1 a1) ++ nW5 g p2 a2) ++ nW1 g p3 a3)) := hD
  refine lv_aload_n hx hb dX11_init_42 rfl (lv_at hl 0 rfl) ?_
  refine va_new (T := TX9) (N := 2) (ci := 9) (fs := nF9) hx hb hts uw_9 tyX9 tyX9_ok hown (hts _ w_214) (hts _ w_215) (hts _ w_74) hK.1 hP hD hS (fun z hz => Or.inr (by omega)) rfl (fun j hj => by
      rcases (show j = 0 ∨ j = 1 by omega) with rfl | rfl <;> rfl) (Nat.le_of_ble_eq_true rfl) (Nat.le_of_ble_eq_true rfl) dX11_init_43 (fun p4 H hP hD hS => ?_)
  refine lv_dup hx hb dX11_init_46 rfl ?_
  refine va_callv (run_IN (rm := { frames := 1, cells := 1, slots := 20, locals := 20 }) (As := []) (rest := [.ref p4, .ref q]) C0 ci_X9_init hK.2 w_216 ⟨by decide, by decide⟩ (k_X9_init l g H.size p4) ⟨(show SV (fun U => OB g p4 9 nF9 U ∧ U.heap.size = H.size) from fun U U' hh hv h => ⟨OB.sv U U' hh hv h.1, by rw [← hh]; exact h.2⟩).blind, fun U hU hW => ⟨rfl, ⟨⟨hK.warm hW, by rw [hU]; exact va_Pr hP⟩, by rw [hU]⟩⟩⟩ rfl hl.1 rfl (Nat.le_of_ble_eq_true rfl) dX11_init_47 ⟨Nat.le_of_ble_eq_true rfl, Nat.le_of_ble_eq_true rfl⟩) hS (fun z hz h => by rcases h with h | h; rw [h]; exact hD.2 _ _ (List.getElem?_concat_length); exact absurd hz (by omega)) (fun z h => by have hz9 := hS.1; rcases h with h | h; rw [h]; exact hD.2 _ _ (List.getElem?_concat_length); exact Or.inr (by omega)) (fun a4 t1 H1 locs ht _ _ hB1 _ hk1 hS1 => ?_)
  obtain ⟨hPn, hDn⟩ := hB1
  rw [ht] at hPn
  have hz9 := hS.1
  obtain ⟨hP, hD⟩ := ctor_app hD hP hk1 hPn hDn (fun z hz => Or.inr (by omega))
  have hS := hS1
  have hP : va_P g.1 vwCl ((q, .inr (11, [.ref p1, .ref p2, .int 0, .ref p3, .null, .null, .null, .null, .null, .null])) :: (((([] ++ nW5 g p1 a1) ++ nW5 g p2 a2) ++ nW1 g p3 a3) ++ nW9 g p4 a4)) H1 := hP
  have hD : va_D (fun z => z = q ∨ h0 ≤ z) ((q, .inr (11, [.ref p1, .ref p2, .int 0, .ref p3, .null, .null, .null, .null, .null, .null])) :: (((([] ++ nW5 g p1 a1) ++ nW5 g p2 a2) ++ nW1 g p3 a3) ++ nW9 g p4 a4)) := hD
  refine va_putF (D := g.1) (ci := 11) (v := .ref p4) (ty := .object "ThreeMeasures$Trace") (C := RX11) (T := TX11) (N := 10) (fs := [.ref p1, .ref p2, .int 0, .ref p3, .null, .null, .null, .null, .null, .null]) hx hb hts uw_11 tyX11 tyX11_ok nmX11 hown hK.1 hP hD hS 0 rfl rfl 4 (by decide) (hts _ w_233) (fun _ h => h) rfl hin rfl rfl rfl rfl (Nat.le_of_ble_eq_true rfl) dX11_init_50 (fun H locs hP hD hS => ?_)
  have hP : va_P g.1 vwCl ((q, .inr (11, [.ref p1, .ref p2, .int 0, .ref p3, .ref p4, .null, .null, .null, .null, .null])) :: (((([] ++ nW5 g p1 a1) ++ nW5 g p2 a2) ++ nW1 g p3 a3) ++ nW9 g p4 a4)) H := hP
  have hD : va_D (fun z => z = q ∨ h0 ≤ z) ((q, .inr (11, [.ref p1, .ref p2, .int 0, .ref p3, .ref p4, .null, .null, .null, .null, .null])) :: (((([] ++ nW5 g p1 a1) ++ nW5 g p2 a2) ++ nW1 g p3 a3) ++ nW9 g p4 a4)) := hD
  refine lv_aload_n hx hb dX11_init_53 rfl (lv_at hl 0 rfl) ?_
  refine lv_bipush (v := (6 : Int32)) hx hb dX11_init_54 (by decide) ?_
  refine va_newa (atype := .int) (a0 := (6, .inl (fun _ => 0))) hx hb (hts _ w_181) rfl hK.1 hP hD hS (fun z hz => Or.inr (by omega)) (fun _ => rfl) (by decide) rfl (Nat.le_of_ble_eq_true rfl) (Nat.le_of_ble_eq_true rfl) (Nat.le_of_ble_eq_true rfl) dX11_init_56 (fun b56 cA H hK2 hP hD hS => ?_)
  have eA := int_cls hK hK2
  subst eA
  have hP : va_P g.1 vwCl ((q, .inr (11, [.ref p1, .ref p2, .int 0, .ref p3, .ref p4, .null, .null, .null, .null, .null])) :: ((((([] ++ nW5 g p1 a1) ++ nW5 g p2 a2) ++ nW1 g p3 a3) ++ nW9 g p4 a4) ++ [(b56, .inl (g.2.1 0, 6, .inl (fun _ => 0)))])) H := hP
  have hD : va_D (fun z => z = q ∨ h0 ≤ z) ((q, .inr (11, [.ref p1, .ref p2, .int 0, .ref p3, .ref p4, .null, .null, .null, .null, .null])) :: ((((([] ++ nW5 g p1 a1) ++ nW5 g p2 a2) ++ nW1 g p3 a3) ++ nW9 g p4 a4) ++ [(b56, .inl (g.2.1 0, 6, .inl (fun _ => 0)))])) := hD
  refine va_putF (D := g.1) (ci := 11) (v := .ref b56) (ty := .array .int) (C := RX11) (T := TX11) (N := 10) (fs := [.ref p1, .ref p2, .int 0, .ref p3, .ref p4, .null, .null, .null, .null, .null]) hx hb hts uw_11 tyX11 tyX11_ok nmX11 hown hK.1 hP hD hS 0 rfl rfl 5 (by decide) (hts _ w_234) (fun _ h => h) rfl hin rfl rfl rfl rfl (Nat.le_of_ble_eq_true rfl) dX11_init_58 (fun H locs hP hD hS => ?_)
  have hP : va_P g.1 vwCl ((q, .inr (11, [.ref p1, .ref p2, .int 0, .ref p3, .ref p4, .ref b56, .null, .null, .null, .null])) :: ((((([] ++ nW5 g p1 a1) ++ nW5 g p2 a2) ++ nW1 g p3 a3) ++ nW9 g p4 a4) ++ [(b56, .inl (g.2.1 0, 6, .inl (fun _ => 0)))])) H := hP
  have hD : va_D (fun z => z = q ∨ h0 ≤ z) ((q, .inr (11, [.ref p1, .ref p2, .int 0, .ref p3, .ref p4, .ref b56, .null, .null, .null, .null])) :: ((((([] ++ nW5 g p1 a1) ++ nW5 g p2 a2) ++ nW1 g p3 a3) ++ nW9 g p4 a4) ++ [(b56, .inl (g.2.1 0, 6, .inl (fun _ => 0)))])) := hD
  refine lv_aload_n hx hb dX11_init_61 rfl (lv_at hl 0 rfl) ?_
  refine lv_bipush (v := (60 : Int32)) hx hb dX11_init_62 (by decide) ?_
  refine va_newa (atype := .int) (a0 := (60, .inl (fun _ => 0))) hx hb (hts _ w_181) rfl hK.1 hP hD hS (fun z hz => Or.inr (by omega)) (fun _ => rfl) (by decide) rfl (Nat.le_of_ble_eq_true rfl) (Nat.le_of_ble_eq_true rfl) (Nat.le_of_ble_eq_true rfl) dX11_init_64 (fun b64 cA H hK2 hP hD hS => ?_)
  have eA := int_cls hK hK2
  subst eA
  have hP : va_P g.1 vwCl ((q, .inr (11, [.ref p1, .ref p2, .int 0, .ref p3, .ref p4, .ref b56, .null, .null, .null, .null])) :: (((((([] ++ nW5 g p1 a1) ++ nW5 g p2 a2) ++ nW1 g p3 a3) ++ nW9 g p4 a4) ++ [(b56, .inl (g.2.1 0, 6, .inl (fun _ => 0)))]) ++ [(b64, .inl (g.2.1 0, 60, .inl (fun _ => 0)))])) H := hP
  have hD : va_D (fun z => z = q ∨ h0 ≤ z) ((q, .inr (11, [.ref p1, .ref p2, .int 0, .ref p3, .ref p4, .ref b56, .null, .null, .null, .null])) :: (((((([] ++ nW5 g p1 a1) ++ nW5 g p2 a2) ++ nW1 g p3 a3) ++ nW9 g p4 a4) ++ [(b56, .inl (g.2.1 0, 6, .inl (fun _ => 0)))]) ++ [(b64, .inl (g.2.1 0, 60, .inl (fun _ => 0)))])) := hD
  refine va_putF (D := g.1) (ci := 11) (v := .ref b64) (ty := .array .int) (C := RX11) (T := TX11) (N := 10) (fs := [.ref p1, .ref p2, .int 0, .ref p3, .ref p4, .ref b56, .null, .null, .null, .null]) hx hb hts uw_11 tyX11 tyX11_ok nmX11 hown hK.1 hP hD hS 0 rfl rfl 6 (by decide) (hts _ w_235) (fun _ h => h) rfl hin rfl rfl rfl rfl (Nat.le_of_ble_eq_true rfl) dX11_init_66 (fun H locs hP hD hS => ?_)
  have hP : va_P g.1 vwCl ((q, .inr (11, [.ref p1, .ref p2, .int 0, .ref p3, .ref p4, .ref b56, .ref b64, .null, .null, .null])) :: (((((([] ++ nW5 g p1 a1) ++ nW5 g p2 a2) ++ nW1 g p3 a3) ++ nW9 g p4 a4) ++ [(b56, .inl (g.2.1 0, 6, .inl (fun _ => 0)))]) ++ [(b64, .inl (g.2.1 0, 60, .inl (fun _ => 0)))])) H := hP
  have hD : va_D (fun z => z = q ∨ h0 ≤ z) ((q, .inr (11, [.ref p1, .ref p2, .int 0, .ref p3, .ref p4, .ref b56, .ref b64, .null, .null, .null])) :: (((((([] ++ nW5 g p1 a1) ++ nW5 g p2 a2) ++ nW1 g p3 a3) ++ nW9 g p4 a4) ++ [(b56, .inl (g.2.1 0, 6, .inl (fun _ => 0)))]) ++ [(b64, .inl (g.2.1 0, 60, .inl (fun _ => 0)))])) := hD
  refine lv_aload_n hx hb dX11_init_69 rfl (lv_at hl 0 rfl) ?_
  refine lv_bipush (v := (60 : Int32)) hx hb dX11_init_70 (by decide) ?_
  refine va_newa (atype := .int) (a0 := (60, .inl (fun _ => 0))) hx hb (hts _ w_181) rfl hK.1 hP hD hS (fun z hz => Or.inr (by omega)) (fun _ => rfl) (by decide) rfl (Nat.le_of_ble_eq_true rfl) (Nat.le_of_ble_eq_true rfl) (Nat.le_of_ble_eq_true rfl) dX11_init_72 (fun b72 cA H hK2 hP hD hS => ?_)
  have eA := int_cls hK hK2
  subst eA
  have hP : va_P g.1 vwCl ((q, .inr (11, [.ref p1, .ref p2, .int 0, .ref p3, .ref p4, .ref b56, .ref b64, .null, .null, .null])) :: ((((((([] ++ nW5 g p1 a1) ++ nW5 g p2 a2) ++ nW1 g p3 a3) ++ nW9 g p4 a4) ++ [(b56, .inl (g.2.1 0, 6, .inl (fun _ => 0)))]) ++ [(b64, .inl (g.2.1 0, 60, .inl (fun _ => 0)))]) ++ [(b72, .inl (g.2.1 0, 60, .inl (fun _ => 0)))])) H := hP
  have hD : va_D (fun z => z = q ∨ h0 ≤ z) ((q, .inr (11, [.ref p1, .ref p2, .int 0, .ref p3, .ref p4, .ref b56, .ref b64, .null, .null, .null])) :: ((((((([] ++ nW5 g p1 a1) ++ nW5 g p2 a2) ++ nW1 g p3 a3) ++ nW9 g p4 a4) ++ [(b56, .inl (g.2.1 0, 6, .inl (fun _ => 0)))]) ++ [(b64, .inl (g.2.1 0, 60, .inl (fun _ => 0)))]) ++ [(b72, .inl (g.2.1 0, 60, .inl (fun _ => 0)))])) := hD
  refine va_putF (D := g.1) (ci := 11) (v := .ref b72) (ty := .array .int) (C := RX11) (T := TX11) (N := 10) (fs := [.ref p1, .ref p2, .int 0, .ref p3, .ref p4, .ref b56, .ref b64, .null, .null, .null]) hx hb hts uw_11 tyX11 tyX11_ok nmX11 hown hK.1 hP hD hS 0 rfl rfl 7 (by decide) (hts _ w_236) (fun _ h => h) rfl hin rfl rfl rfl rfl (Nat.le_of_ble_eq_true rfl) dX11_init_74 (fun H locs hP hD hS => ?_)
  have hP : va_P g.1 vwCl ((q, .inr (11, [.ref p1, .ref p2, .int 0, .ref p3, .ref p4, .ref b56, .ref b64, .ref b72, .null, .null])) :: ((((((([] ++ nW5 g p1 a1) ++ nW5 g p2 a2) ++ nW1 g p3 a3) ++ nW9 g p4 a4) ++ [(b56, .inl (g.2.1 0, 6, .inl (fun _ => 0)))]) ++ [(b64, .inl (g.2.1 0, 60, .inl (fun _ => 0)))]) ++ [(b72, .inl (g.2.1 0, 60, .inl (fun _ => 0)))])) H := hP
  have hD : va_D (fun z => z = q ∨ h0 ≤ z) ((q, .inr (11, [.ref p1, .ref p2, .int 0, .ref p3, .ref p4, .ref b56, .ref b64, .ref b72, .null, .null])) :: ((((((([] ++ nW5 g p1 a1) ++ nW5 g p2 a2) ++ nW1 g p3 a3) ++ nW9 g p4 a4) ++ [(b56, .inl (g.2.1 0, 6, .inl (fun _ => 0)))]) ++ [(b64, .inl (g.2.1 0, 60, .inl (fun _ => 0)))]) ++ [(b72, .inl (g.2.1 0, 60, .inl (fun _ => 0)))])) := hD
  refine lv_aload_n hx hb dX11_init_77 rfl (lv_at hl 0 rfl) ?_
  refine lv_sipush (v := (1681 : Int32)) hx hb dX11_init_78 (by decide) ?_
  refine va_newa (atype := .int) (a0 := (1681, .inl (fun _ => 0))) hx hb (hts _ w_181) rfl hK.1 hP hD hS (fun z hz => Or.inr (by omega)) (fun _ => rfl) (by decide) rfl (Nat.le_of_ble_eq_true rfl) (Nat.le_of_ble_eq_true rfl) (Nat.le_of_ble_eq_true rfl) dX11_init_81 (fun b81 cA H hK2 hP hD hS => ?_)
  have eA := int_cls hK hK2
  subst eA
  have hP : va_P g.1 vwCl ((q, .inr (11, [.ref p1, .ref p2, .int 0, .ref p3, .ref p4, .ref b56, .ref b64, .ref b72, .null, .null])) :: (((((((([] ++ nW5 g p1 a1) ++ nW5 g p2 a2) ++ nW1 g p3 a3) ++ nW9 g p4 a4) ++ [(b56, .inl (g.2.1 0, 6, .inl (fun _ => 0)))]) ++ [(b64, .inl (g.2.1 0, 60, .inl (fun _ => 0)))]) ++ [(b72, .inl (g.2.1 0, 60, .inl (fun _ => 0)))]) ++ [(b81, .inl (g.2.1 0, 1681, .inl (fun _ => 0)))])) H := hP
  have hD : va_D (fun z => z = q ∨ h0 ≤ z) ((q, .inr (11, [.ref p1, .ref p2, .int 0, .ref p3, .ref p4, .ref b56, .ref b64, .ref b72, .null, .null])) :: (((((((([] ++ nW5 g p1 a1) ++ nW5 g p2 a2) ++ nW1 g p3 a3) ++ nW9 g p4 a4) ++ [(b56, .inl (g.2.1 0, 6, .inl (fun _ => 0)))]) ++ [(b64, .inl (g.2.1 0, 60, .inl (fun _ => 0)))]) ++ [(b72, .inl (g.2.1 0, 60, .inl (fun _ => 0)))]) ++ [(b81, .inl (g.2.1 0, 1681, .inl (fun _ => 0)))])) := hD
  refine va_putF (D := g.1) (ci := 11) (v := .ref b81) (ty := .array .int) (C := RX11) (T := TX11) (N := 10) (fs := [.ref p1, .ref p2, .int 0, .ref p3, .ref p4, .ref b56, .ref b64, .ref b72, .null, .null]) hx hb hts uw_11 tyX11 tyX11_ok nmX11 hown hK.1 hP hD hS 0 rfl rfl 8 (by decide) (hts _ w_237) (fun _ h => h) rfl hin rfl rfl rfl rfl (Nat.le_of_ble_eq_true rfl) dX11_init_83 (fun H locs hP hD hS => ?_)
  have hP : va_P g.1 vwCl ((q, .inr (11, [.ref p1, .ref p2, .int 0, .ref p3, .ref p4, .ref b56, .ref b64, .ref b72, .ref b81, .null])) :: (((((((([] ++ nW5 g p1 a1) ++ nW5 g p2 a2) ++ nW1 g p3 a3) ++ nW9 g p4 a4) ++ [(b56, .inl (g.2.1 0, 6, .inl (fun _ => 0)))]) ++ [(b64, .inl (g.2.1 0, 60, .inl (fun _ => 0)))]) ++ [(b72, .inl (g.2.1 0, 60, .inl (fun _ => 0)))]) ++ [(b81, .inl (g.2.1 0, 1681, .inl (fun _ => 0)))])) H := hP
  have hD : va_D (fun z => z = q ∨ h0 ≤ z) ((q, .inr (11, [.ref p1, .ref p2, .int 0, .ref p3, .ref p4, .ref b56, .ref b64, .ref b72, .ref b81, .null])) :: (((((((([] ++ nW5 g p1 a1) ++ nW5 g p2 a2) ++ nW1 g p3 a3) ++ nW9 g p4 a4) ++ [(b56, .inl (g.2.1 0, 6, .inl (fun _ => 0)))]) ++ [(b64, .inl (g.2.1 0, 60, .inl (fun _ => 0)))]) ++ [(b72, .inl (g.2.1 0, 60, .inl (fun _ => 0)))]) ++ [(b81, .inl (g.2.1 0, 1681, .inl (fun _ => 0)))])) := hD
  refine lv_aload_n hx hb dX11_init_86 rfl (lv_at hl 0 rfl) ?_
  refine lv_sipush (v := (1681 : Int32)) hx hb dX11_init_87 (by decide) ?_
  refine va_newa (atype := .int) (a0 := (1681, .inl (fun _ => 0))) hx hb (hts _ w_181) rfl hK.1 hP hD hS (fun z hz => Or.inr (by omega)) (fun _ => rfl) (by decide) rfl (Nat.le_of_ble_eq_true rfl) (Nat.le_of_ble_eq_true rfl) (Nat.le_of_ble_eq_true rfl) dX11_init_90 (fun b90 cA H hK2 hP hD hS => ?_)
  have eA := int_cls hK hK2
  subst eA
  have hP : va_P g.1 vwCl ((q, .inr (11, [.ref p1, .ref p2, .int 0, .ref p3, .ref p4, .ref b56, .ref b64, .ref b72, .ref b81, .null])) :: ((((((((([] ++ nW5 g p1 a1) ++ nW5 g p2 a2) ++ nW1 g p3 a3) ++ nW9 g p4 a4) ++ [(b56, .inl (g.2.1 0, 6, .inl (fun _ => 0)))]) ++ [(b64, .inl (g.2.1 0, 60, .inl (fun _ => 0)))]) ++ [(b72, .inl (g.2.1 0, 60, .inl (fun _ => 0)))]) ++ [(b81, .inl (g.2.1 0, 1681, .inl (fun _ => 0)))]) ++ [(b90, .inl (g.2.1 0, 1681, .inl (fun _ => 0)))])) H := hP
  have hD : va_D (fun z => z = q ∨ h0 ≤ z) ((q, .inr (11, [.ref p1, .ref p2, .int 0, .ref p3, .ref p4, .ref b56, .ref b64, .ref b72, .ref b81, .null])) :: ((((((((([] ++ nW5 g p1 a1) ++ nW5 g p2 a2) ++ nW1 g p3 a3) ++ nW9 g p4 a4) ++ [(b56, .inl (g.2.1 0, 6, .inl (fun _ => 0)))]) ++ [(b64, .inl (g.2.1 0, 60, .inl (fun _ => 0)))]) ++ [(b72, .inl (g.2.1 0, 60, .inl (fun _ => 0)))]) ++ [(b81, .inl (g.2.1 0, 1681, .inl (fun _ => 0)))]) ++ [(b90, .inl (g.2.1 0, 1681, .inl (fun _ => 0)))])) := hD
  refine va_putF (D := g.1) (ci := 11) (v := .ref b90) (ty := .array .int) (C := RX11) (T := TX11) (N := 10) (fs := [.ref p1, .ref p2, .int 0, .ref p3, .ref p4, .ref b56, .ref b64, .ref b72, .ref b81, .null]) hx hb hts uw_11 tyX11 tyX11_ok nmX11 hown hK.1 hP hD hS 0 rfl rfl 9 (by decide) (hts _ w_238) (fun _ h => h) rfl hin rfl rfl rfl rfl (Nat.le_of_ble_eq_true rfl) dX11_init_92 (fun H locs hP hD hS => ?_)
  have hP : va_P g.1 vwCl ((q, .inr (11, [.ref p1, .ref p2, .int 0, .ref p3, .ref p4, .ref b56, .ref b64, .ref b72, .ref b81, .ref b90])) :: ((((((((([] ++ nW5 g p1 a1) ++ nW5 g p2 a2) ++ nW1 g p3 a3) ++ nW9 g p4 a4) ++ [(b56, .inl (g.2.1 0, 6, .inl (fun _ => 0)))]) ++ [(b64, .inl (g.2.1 0, 60, .inl (fun _ => 0)))]) ++ [(b72, .inl (g.2.1 0, 60, .inl (fun _ => 0)))]) ++ [(b81, .inl (g.2.1 0, 1681, .inl (fun _ => 0)))]) ++ [(b90, .inl (g.2.1 0, 1681, .inl (fun _ => 0)))])) H := hP
  have hD : va_D (fun z => z = q ∨ h0 ≤ z) ((q, .inr (11, [.ref p1, .ref p2, .int 0, .ref p3, .ref p4, .ref b56, .ref b64, .ref b72, .ref b81, .ref b90])) :: ((((((((([] ++ nW5 g p1 a1) ++ nW5 g p2 a2) ++ nW1 g p3 a3) ++ nW9 g p4 a4) ++ [(b56, .inl (g.2.1 0, 6, .inl (fun _ => 0)))]) ++ [(b64, .inl (g.2.1 0, 60, .inl (fun _ => 0)))]) ++ [(b72, .inl (g.2.1 0, 60, .inl (fun _ => 0)))]) ++ [(b81, .inl (g.2.1 0, 1681, .inl (fun _ => 0)))]) ++ [(b90, .inl (g.2.1 0, 1681, .inl (fun _ => 0)))])) := hD
  have hP' := hP.sub (ws' := xW (gA g (fun k => ([0, 0, 0, 0, 0, b56, b64, b72, b81, b90, 0, 0, 0, 0, 0, 0, 0, 0, 0, 0, a1 0, 0, 0, 0, a1 4, 0, a1 6, a1 7, 0, 0, a1 10, a1 11, 0, a1 13, 0, a1 15, a1 16, 0, 0, 0, a2 0, 0, 0, 0, a2 4, 0, a2 6, a2 7, 0, 0, a2 10, a2 11, 0, a2 13, 0, a2 15, a2 16, 0, 0, 0, a3 0, 0, 0, 0, 0, 0, 0, 0, 0, 0, 0, 0, 0, 0, 0, 0, 0, 0, 0, 0, a4 0, 0, 0, 0, 0, 0, 0, 0, 0, 0, 0, 0, 0, 0, 0, 0, 0, 0, 0, 0, q, p1, p2, p3, p4] : List Nat).getD k 0)) ρ0 σ0) [0, 1, 11, 21, 23, 25, 26, 27, 28, 29, 2, 4, 5, 6, 7, 8, 9, 10, 12, 14, 15, 16, 17, 18, 19, 20, 22, 24, 3, 13] rfl
  have hD' := hD.sub (ws' := xW (gA g (fun k => ([0, 0, 0, 0, 0, b56, b64, b72, b81, b90, 0, 0, 0, 0, 0, 0, 0, 0, 0, 0, a1 0, 0, 0, 0, a1 4, 0, a1 6, a1 7, 0, 0, a1 10, a1 11, 0, a1 13, 0, a1 15, a1 16, 0, 0, 0, a2 0, 0, 0, 0, a2 4, 0, a2 6, a2 7, 0, 0, a2 10, a2 11, 0, a2 13, 0, a2 15, a2 16, 0, 0, 0, a3 0, 0, 0, 0, 0, 0, 0, 0, 0, 0, 0, 0, 0, 0, 0, 0, 0, 0, 0, 0, a4 0, 0, 0, 0, 0, 0, 0, 0, 0, 0, 0, 0, 0, 0, 0, 0, 0, 0, 0, 0, q, p1, p2, p3, p4] : List Nat).getD k 0)) ρ0 σ0) [0, 1, 11, 21, 23, 25, 26, 27, 28, 29, 2, 4, 5, 6, 7, 8, 9, 10, 12, 14, 15, 16, 17, 18, 19, 20, 22, 24, 3, 13] (by decide) rfl
  refine W.vret hx hb hr (fun t ht _ => ⟨⟨(fun k => ([0, 0, 0, 0, 0, b56, b64, b72, b81, b90, 0, 0, 0, 0, 0, 0, 0, 0, 0, 0, a1 0, 0, 0, 0, a1 4, 0, a1 6, a1 7, 0, 0, a1 10, a1 11, 0, a1 13, 0, a1 15, a1 16, 0, 0, 0, a2 0, 0, 0, 0, a2 4, 0, a2 6, a2 7, 0, 0, a2 10, a2 11, 0, a2 13, 0, a2 15, a2 16, 0, 0, 0, a3 0, 0, 0, 0, 0, 0, 0, 0, 0, 0, 0, 0, 0, 0, 0, 0, 0, 0, 0, 0, a4 0, 0, 0, 0, 0, 0, 0, 0, 0, 0, 0, 0, 0, 0, 0, 0, 0, 0, 0, 0, q, p1, p2, p3, p4] : List Nat).getD k 0), rfl, trivial, ?_⟩, hS.F ht⟩) hS.2.2 dX11_init_95 hlocks
  show (va_P g.1 vwCl _ t.heap ∧ va_D _ _) ∧ _
  rw [ht]
  exact ⟨⟨hP', hD'⟩, rfl⟩

