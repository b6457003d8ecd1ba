/-! THE LAW, FROM ITS ENTRY -/
theorem dL_0 : decode code 0 = .ok (.new 7, 3) := by decide +kernel
theorem dL_3 : decode code 3 = .ok (.dup, 1) := by decide +kernel
theorem dL_4 : decode code 4 = .ok (.invokespecial 9, 3) := by decide +kernel
theorem dL_7 : decode code 7 = .ok (.astore_n 1, 1) := by decide +kernel
theorem dL_8 : decode code 8 = .ok (.new 10, 3) := by decide +kernel
theorem dL_11 : decode code 11 = .ok (.dup, 1) := by decide +kernel
theorem dL_12 : decode code 12 = .ok (.invokespecial 12, 3) := by decide +kernel
theorem dL_15 : decode code 15 = .ok (.astore_n 2, 1) := by decide +kernel
theorem dL_16 : decode code 16 = .ok (.iconst 0, 1) := by decide +kernel
theorem dL_17 : decode code 17 = .ok (.istore_n 3, 1) := by decide +kernel
set_option maxRecDepth 20000 in
theorem w_92 : (Cond.classLink RL 7 RX11) ∈ TB := inTB (List.mem_of_getElem? (i := 92) (by decide +kernel)) (by decide +kernel)
set_option maxRecDepth 20000 in
theorem w_962 : (Cond.classLink RL 10 RX12) ∈ TB := inTB (List.mem_of_getElem? (i := 962) (by decide +kernel)) (by decide +kernel)
set_option maxRecDepth 20000 in
theorem w_94 : (Cond.methodLink RL 9 yX11_init) ∈ TB := inTB (List.mem_of_getElem? (i := 94) (by decide +kernel)) (by decide +kernel)
set_option maxRecDepth 20000 in
theorem w_964 : (Cond.methodLink RL 12 yX12_init) ∈ TB := inTB (List.mem_of_getElem? (i := 964) (by decide +kernel)) (by decide +kernel)
set_option maxRecDepth 20000 in
theorem w_95 : (Cond.instanceMethod yX11_init) ∈ TB := inTB (List.mem_of_getElem? (i := 95) (by decide +kernel)) (by decide +kernel)
set_option maxRecDepth 20000 in
theorem w_965 : (Cond.instanceMethod yX12_init) ∈ TB := inTB (List.mem_of_getElem? (i := 965) (by decide +kernel)) (by decide +kernel)
set_option maxRecDepth 20000 in
theorem w_96 : (Cond.code yX11_init cX11_init 1 none) ∈ TB := inTB (List.mem_of_getElem? (i := 96) (by decide +kernel)) (by decide +kernel)
set_option maxRecDepth 20000 in
theorem w_966 : (Cond.code yX12_init cX12_init 1 none) ∈ TB := inTB (List.mem_of_getElem? (i := 966) (by decide +kernel)) (by decide +kernel)
theorem ci_X11_init : CI yX11_init cX11_init 1 0 := ⟨w_95, w_71, w_96, rfl, by decide +kernel, by decide +kernel, by decide +kernel⟩
theorem ci_X12_init : CI yX12_init cX12_init 1 0 := ⟨w_965, w_75, w_966, rfl, by decide +kernel, by decide +kernel, by decide +kernel⟩
/-- the model at its start -/
abbrev σ1 : St := fun k => if k = 1 then upd (fun _ => 0) 7 (-1) else fun _ => 0
theorem RLL.start : RLL ρ0 (fun _ _ => 0) σ0 σ1 := by
  have hIB : IB (σ1 1) := by
    refine ⟨by decide, by decide, by decide, by decide, by decide, by decide, by decide, by decide, by decide, ?_⟩
    have z : ∀ j, j ≠ 7 → σ1 1 j = 0 := fun j hj => if_neg hj
    refine ⟨fun i hi => ?_, fun i hi => ?_, fun i hi => ?_, fun i hi => ?_, fun i hi => ?_, fun i hi => ?_, fun i hi => ?_, fun i hi => ?_, fun i hi => ?_, fun i hi => ?_, fun i hi => ?_, fun i hi => ?_, fun i hi => ?_⟩
    · rw [z _ (by omega)]; decide
    · rw [z _ (by omega)]; decide
    · rw [z _ (by omega)]; decide
    · rw [z _ (by omega)]; decide
    · rw [z _ (by omega), z _ (by omega)]; decide
    · rw [z _ (by omega)]; decide
    · rw [z 3 (by omega), show (0 : Int32).toInt = 0 from rfl] at hi; omega
    · rw [z 4 (by omega), show (0 : Int32).toInt = 0 from rfl] at hi; omega
    · rw [z 5 (by omega), show (0 : Int32).toInt = 0 from rfl] at hi; omega
    · rw [z 5 (by omega), show (0 : Int32).toInt = 0 from rfl] at hi; omega
    · rw [z _ (by omega)]; decide
    · rw [z _ (by omega)]; decide
    · rw [z _ (by omega)]; decide
  refine ⟨⟨?_, ⟨fun i hi => ?_, Or.inl ⟨rfl, rfl⟩⟩, hIB, Or.inl rfl, fun i hi => ?_⟩, ⟨rfl, Or.inl rfl⟩, ⟨rfl, by decide, fun i hi => rfl⟩, by decide, by decide⟩
  · rw [RN_iff]
    intro k i j hp
    show (0 : Int32) = if j = 7 then -1 else 0
    rw [if_neg (by unfold PM at hp; omega)]
  · exact absurd hi (by show ¬ (i : Int) < (0 : Int32).toInt; rw [show (0 : Int32).toInt = 0 from rfl]; omega)
  · rw [show σ1 1 (101 + i) = 0 from if_neg (by omega)]; decide
set_option maxHeartbeats 4000000 in
set_option maxRecDepth 100000 in
/-- from the entry, for every script of at most 3072 ints, the law comes to its end with true -/
theorem whole_start {p : Program} {e : Env} {s : State} {m : MethodId} {below : List Frame} {meth : Method} {c : Code} (l : Launch) (hflags : l.flags = flags0) {b L : Nat} {xs : Nat → Int32} (hL : L ≤ 3072) (C0 : lw_At p s m meth c b L xs) : W p l e room_1 s m #[Value.ref b] below meth c s.heap [] 0 0 (lw_Z below #[Value.ref b] s) (entryFrame m ([Value.ref b] : List Value).toArray 4) := by
  obtain ⟨hx, hb, hr, hml, hown, hts, hX, hbl, hlocks, hgv⟩ := id C0
  have hT : ∀ w ∈ TB, w.before #[Value.ref b] s = true := fun w hw => hts w (List.mem_filter.mp hw).1
  have B0 : BC p s m #[Value.ref b] meth c code RL 4 ret := ⟨hx, hb, hr, hml, hown, hT, hlocks⟩
  obtain ⟨g0, hK⟩ := start_K hts
  obtain ⟨aK, aV, hZ, hv1, hv2⟩ := start_S hts hgv
  obtain ⟨hSA, hNC⟩ := start_A hts hgv
  have hAO : va_AO "ThreeMeasures$Stick" s := (hts (.arrayOver (.object "ThreeMeasures$Stick")) (List.mem_of_getElem? (i := 107) (by decide +kernel)))
  have hA : ∀ q : Nat, s.heap.size ≤ q → (fun q : Nat => s.heap.size ≤ q) q := fun _ h => h
  have hS : va_S (fun q : Nat => s.heap.size ≤ q) s.heap s.heap [] := va_S.rf
  have hP : va_P g0.1 vwCl [] s.heap := fun k q h => by simp at h
  have hD : va_D (fun q : Nat => s.heap.size ≤ q) [] := ⟨fun i j p q h => by simp at h, fun k q h => by simp at h⟩
  have hl := lv_entry ([.ref b]) (n := 4) (Nat.le_of_ble_eq_true rfl)
  rw [lg_entry_eq]
  generalize (lg_sl ([.ref b]) ++ List.replicate (4 - (lg_sl ([.ref b])).length) Slot.unset).toArray = ls at hl ⊢
  have hl : lv_has ls 4 [(0, .ref b)] := hl
  refine va_new (T := TX11) (N := 10) (ci := 11) (fs := nF11) hx hb hT uw_11 tyX11 tyX11_ok hown (hT _ w_92) (hT _ w_93) (hT _ w_71) hK.1 hP hD hS hA rfl (fun j hj => by
      rcases (show j = 0 ∨ j = 1 ∨ j = 2 ∨ j = 3 ∨ j = 4 ∨ j = 5 ∨ j = 6 ∨ j = 7 ∨ j = 8 ∨ j = 9 by omega) with rfl | rfl | rfl | rfl | rfl | rfl | rfl | rfl | rfl | rfl <;> rfl) (Nat.le_of_ble_eq_true rfl) (Nat.le_of_ble_eq_true rfl) dL_0 (fun q H hP hD hS => ?_)
  have hP : va_P g0.1 vwCl [(q, .inr (11, nF11))] H := hP
  have hD : va_D (fun z => s.heap.size ≤ z) [(q, .inr (11, nF11))] := hD
  have hq : s.heap.size ≤ q := hD.2 0 _ rfl
  have hs1 := hS.1
  refine lv_dup hx hb dL_3 rfl ?_
  refine va_callv (run_I (rm := { frames := 2, cells := 29, slots := 3966, locals := 40 }) (As := []) (rest := [.ref q]) B0 ci_X11_init w_94 ⟨Nat.le_of_ble_eq_true rfl, Nat.le_of_ble_eq_true rfl⟩ (k_X11_init l g0 H.size q) ⟨(show SV (fun U => (OB g0 q 11 nF11 U ∧ U.heap.size = H.size) ∧ va_AO "ThreeMeasures$Stick" U) from fun U U' hh hv h => ⟨⟨OB.sv U U' hh hv h.1.1, by rw [← hh]; exact h.1.2⟩, h.2.moved (by rw [hv]; exact Vm.Alike.refl _)⟩).blind, fun U hU hW => ⟨rfl, ⟨⟨hK.warm hW, by rw [hU]; exact hP⟩, by rw [hU]⟩, hAO.moved hW.alike⟩⟩ rfl hl.1 rfl (Nat.le_of_ble_eq_true rfl) dL_4 ⟨Nat.le_of_ble_eq_true rfl, Nat.le_of_ble_eq_true rfl⟩) hS (fun z hz h => by
    rcases h with h | h
    · rw [h]; exact hq
    · exact Nat.le_trans hS.1 h) (fun z h => by
    rcases h with h | h
    · rw [h]; exact hq
    · exact Nat.le_trans hS.1 h) (fun ad t H1 locs1 ht _ _ hB hz1 hk1 hS => ?_)
  obtain ⟨⟨hPx, hDx⟩, had⟩ := hB
  rw [ht] at hPx
  have hDx' : va_D (fun z => s.heap.size ≤ z) (xW (gA g0 ad) ρ0 σ0) := hDx.weaken (fun k z hz h => by
    rcases h with h | h
    · rw [h]; exact hq
    · exact Nat.le_trans hs1 h)
  subst had
  refine lv_astore_n (lv' := [(1, .ref (ad 100)), (0, .ref b)]) hx hb dL_7 rfl hl (by decide) rfl (fun ls hl => ?_)
  refine va_new (T := TX12) (N := 29) (ci := 12) (fs := nF12) hx hb hT uw_12 tyX12 tyX12_ok hown (hT _ w_962) (hT _ w_963) (hT _ w_75) hK.1 hPx hDx' hS hA rfl (fun j hj => by
      rcases (show j = 0 ∨ j = 1 ∨ j = 2 ∨ j = 3 ∨ j = 4 ∨ j = 5 ∨ j = 6 ∨ j = 7 ∨ j = 8 ∨ j = 9 ∨ j = 10 ∨ j = 11 ∨ j = 12 ∨ j = 13 ∨ j = 14 ∨ j = 15 ∨ j = 16 ∨ j = 17 ∨ j = 18 ∨ j = 19 ∨ j = 20 ∨ j = 21 ∨ j = 22 ∨ j = 23 ∨ j = 24 ∨ j = 25 ∨ j = 26 ∨ j = 27 ∨ j = 28 by omega) with rfl | rfl | rfl | rfl | rfl | rfl | rfl | rfl | rfl | rfl | rfl | rfl | rfl | rfl | rfl | rfl | rfl | rfl | rfl | rfl | rfl | rfl | rfl | rfl | rfl | rfl | rfl | rfl | rfl <;> rfl) (Nat.le_of_ble_eq_true rfl) (Nat.le_of_ble_eq_true rfl) dL_8 (fun q H2 hP2 hD2 hS => ?_)
  have hq2 : s.heap.size ≤ q := (va_Dr hD2).2 0 _ rfl
  have hs2 := hS.1
  refine lv_dup hx hb dL_11 rfl ?_
  refine va_callv (run_I (rm := { frames := 1, cells := 10, slots := 5410, locals := 20 }) (As := []) (rest := [.ref q]) B0 ci_X12_init w_964 ⟨Nat.le_of_ble_eq_true rfl, Nat.le_of_ble_eq_true rfl⟩ (k_X12_init l g0 H2.size q) ⟨(show SV (fun U => OB g0 q 12 nF12 U ∧ U.heap.size = H2.size) from fun U U' hh hv h => ⟨OB.sv U U' hh hv h.1, by rw [← hh]; exact h.2⟩).blind, fun U hU hW => ⟨rfl, ⟨hK.warm hW, by rw [hU]; exact va_Pr hP2⟩, by rw [hU]⟩⟩ rfl hl.1 rfl (Nat.le_of_ble_eq_true rfl) dL_12 ⟨Nat.le_of_ble_eq_true rfl, Nat.le_of_ble_eq_true rfl⟩) hS (fun z hz h => by
    rcases h with h | h
    · rw [h]; exact hq2
    · exact Nat.le_trans hs2 h) (fun z h => by
    rcases h with h | h
    · rw [h]; exact hq2
    · exact Nat.le_trans hs2 h) (fun a t H3 locs3 ht3 _ _ hB3 hz3 hk3 hS => ?_)
  obtain ⟨hPm, hDm⟩ := hB3
  rw [ht3] at hPm
  obtain ⟨f, hf⟩ : ∃ f : Nat → Nat, f = fun k => if k = 100 then q else a k := ⟨_, rfl⟩
  have ew : nW12 g0 q a = mW (gA g0 f) σ1 := by rw [hf]; rfl
  have ef : f 100 = q := by rw [hf]; rfl
  rw [ew] at hPm hDm
  have hPx2 := va_Pl hP2
  have qn : q ∉ adrs (xW (gA g0 ad) ρ0 σ0) := fun z => va_Dx hD2 z (List.mem_singleton.mpr rfl)
  have hPx3 : va_P g0.1 vwCl (xW (gA g0 ad) ρ0 σ0) H3 := va_Pk hPx2 hk3 (fun z hz h => by
    rcases h with h | h
    · rw [h] at hz; exact qn hz
    · have := va_Plt hPx2 hz
      omega)
  have hDm' : va_D (fun z => s.heap.size ≤ z) (mW (gA g0 f) σ1) := hDm.weaken (fun k z hz h => by
    rcases h with h | h
    · rw [h]; exact hq2
    · exact Nat.le_trans hs2 h)
  have hDD : va_D (fun z => s.heap.size ≤ z) (xW (gA g0 ad) ρ0 σ0 ++ mW (gA g0 f) σ1) := va_Dapp hDx' hDm' (fun i j z w hz hw e => by
    have hz' : z.1 ∈ adrs (xW (gA g0 ad) ρ0 σ0) := List.mem_of_getElem? (adrs_at hz)
    have h1 := va_Plt hPx2 hz'
    rcases hDm.2 j w hw with h | h
    · rw [e, h] at hz'; exact qn hz'
    · omega)
  have hLH : LH (gA g0 ad) f s (ρ0, (fun _ _ => 0), σ0) σ1 H3 locs3 := ⟨hPx3, hPm, hDD, hS, ⟨fun i a e => by rcases e with e | e <;> exact absurd e (by simp), fun a e => by rcases e with e | e <;> exact absurd e (by simp)⟩⟩
  have hLE : LE (gA g0 ad) aK aV s := ⟨hK, hZ, hv1, hv2, hSA, hNC⟩
  refine lv_astore_n (lv' := [(2, .ref q), (1, .ref (ad 100)), (0, .ref b)]) hx hb dL_15 rfl hl (by decide) rfl (fun ls hl => ?_)
  refine lv_iconst (v := 0) hx hb dL_16 (by decide) ?_
  refine lv_istore_n (lv' := [(3, .int 0), (2, .ref q), (1, .ref (ad 100)), (0, .ref b)]) hx hb dL_17 rfl hl (by decide) rfl (fun ls hl => ?_)
  refine W.widen (k := 41 + 2 * 0) (n := 9415 + 103 * 0) (Nat.le_of_ble_eq_true rfl) (Nat.le_of_ble_eq_true rfl) ?_
  have hl' : lv_has ls 4 [(0, .ref b), (1, .ref (ad 100)), (2, .ref (f 100)), (3, .int (nI (6 * 0)))] := by
    rw [ef]
    exact lv_sub hl [3, 2, 1, 0] rfl
  exact law_loop hL B0 hLE hX hbl (L + 1) 0 (ρ0, (fun _ _ => 0), σ0) σ1 H3 locs3 ls (by omega) (by omega) hLH RLL.start hl'

