set_option maxRecDepth 20000 in
theorem w_594 : (Cond.methodLinkNest RX11 104 yX8_changed RX11) ∈ NB := inNB (List.mem_of_getElem? (i := 594) (by decide +kernel)) (by decide +kernel)
set_option maxRecDepth 20000 in
theorem w_597 : (Cond.code yX8_changed cX8_changed 3 (some (.object "ThreeMeasures$Told"))) ∈ TB := inTB (List.mem_of_getElem? (i := 597) (by decide +kernel)) (by decide +kernel)
set_option maxRecDepth 20000 in
theorem w_596 : (Cond.instanceMethod yX8_changed) ∈ TB := inTB (List.mem_of_getElem? (i := 596) (by decide +kernel)) (by decide +kernel)
set_option maxRecDepth 20000 in
theorem w_11 : (Cond.selects RX8 yX8_changed yX8_changed) ∈ TB := inTB (List.mem_of_getElem? (i := 11) (by decide +kernel)) (by decide +kernel)
theorem cf_X8_changed : CF yX8_changed cX8_changed 3 (some (.object "ThreeMeasures$Told")) 2 := ⟨w_596, w_11, w_91, w_597, by decide +kernel, by decide +kernel, by decide +kernel⟩
set_option maxRecDepth 20000 in
theorem w_603 : (Cond.methodLinkNest RX11 108 yX8_more RX11) ∈ NB := inNB (List.mem_of_getElem? (i := 603) (by decide +kernel)) (by decide +kernel)
theorem dX11_row_0 : decode cX11_row 0 = .ok (.aload_n 0, 1) := by decide +kernel
theorem dX11_row_1 : decode cX11_row 1 = .ok (.getfield 12, 3) := by decide +kernel
theorem dX11_row_4 : decode cX11_row 4 = .ok (.iload_n 1, 1) := by decide +kernel
theorem dX11_row_5 : decode cX11_row 5 = .ok (.invokevirtual 87, 3) := by decide +kernel
theorem dX11_row_8 : decode cX11_row 8 = .ok (.astore 4, 2) := by decide +kernel
theorem dX11_row_10 : decode cX11_row 10 = .ok (.aload 4, 2) := by decide +kernel
theorem dX11_row_12 : decode cX11_row 12 = .ok (.ifnull 12, 3) := by decide +kernel
theorem dX11_row_15 : decode cX11_row 15 = .ok (.iload_n 2, 1) := by decide +kernel
theorem dX11_row_16 : decode cX11_row 16 = .ok (.ifCond .lt 8, 3) := by decide +kernel
theorem dX11_row_19 : decode cX11_row 19 = .ok (.iload_n 2, 1) := by decide +kernel
theorem dX11_row_20 : decode cX11_row 20 = .ok (.iconst 3, 1) := by decide +kernel
theorem dX11_row_21 : decode cX11_row 21 = .ok (.if_icmp .le 5, 3) := by decide +kernel
theorem dX11_row_24 : decode cX11_row 24 = .ok (.iconst (-1), 1) := by decide +kernel
theorem dX11_row_25 : decode cX11_row 25 = .ok (.ireturn, 1) := by decide +kernel
theorem dX11_row_26 : decode cX11_row 26 = .ok (.iload_n 3, 1) := by decide +kernel
theorem dX11_row_27 : decode cX11_row 27 = .ok (.ifCond .lt 9, 3) := by decide +kernel
theorem dX11_row_30 : decode cX11_row 30 = .ok (.iload_n 3, 1) := by decide +kernel
theorem dX11_row_31 : decode cX11_row 31 = .ok (.bipush 9, 2) := by decide +kernel
theorem dX11_row_33 : decode cX11_row 33 = .ok (.if_icmp .le 6, 3) := by decide +kernel
theorem dX11_row_36 : decode cX11_row 36 = .ok (.bipush (-2), 2) := by decide +kernel
theorem dX11_row_38 : decode cX11_row 38 = .ok (.ireturn, 1) := by decide +kernel
theorem dX11_row_39 : decode cX11_row 39 = .ok (.aload 4, 2) := by decide +kernel
theorem dX11_row_41 : decode cX11_row 41 = .ok (.instanceof 102, 3) := by decide +kernel
theorem dX11_row_44 : decode cX11_row 44 = .ok (.ifCond .eq 33, 3) := by decide +kernel
theorem dX11_row_47 : decode cX11_row 47 = .ok (.aload 4, 2) := by decide +kernel
theorem dX11_row_49 : decode cX11_row 49 = .ok (.checkcast 102, 3) := by decide +kernel
theorem dX11_row_52 : decode cX11_row 52 = .ok (.astore 5, 2) := by decide +kernel
theorem dX11_row_54 : decode cX11_row 54 = .ok (.aload_n 0, 1) := by decide +kernel
theorem dX11_row_55 : decode cX11_row 55 = .ok (.getfield 12, 3) := by decide +kernel
theorem dX11_row_58 : decode cX11_row 58 = .ok (.getfield 79, 3) := by decide +kernel
theorem dX11_row_61 : decode cX11_row 61 = .ok (.iload_n 1, 1) := by decide +kernel
theorem dX11_row_62 : decode cX11_row 62 = .ok (.aload 5, 2) := by decide +kernel
theorem dX11_row_64 : decode cX11_row 64 = .ok (.iload_n 2, 1) := by decide +kernel
theorem dX11_row_65 : decode cX11_row 65 = .ok (.iload_n 3, 1) := by decide +kernel
theorem dX11_row_66 : decode cX11_row 66 = .ok (.invokevirtual 104, 3) := by decide +kernel
theorem dX11_row_69 : decode cX11_row 69 = .ok (.aastore, 1) := by decide +kernel
theorem dX11_row_70 : decode cX11_row 70 = .ok (.aload 5, 2) := by decide +kernel
theorem dX11_row_72 : decode cX11_row 72 = .ok (.iload_n 2, 1) := by decide +kernel
theorem dX11_row_73 : decode cX11_row 73 = .ok (.invokevirtual 108, 3) := by decide +kernel
theorem dX11_row_76 : decode cX11_row 76 = .ok (.ireturn, 1) := by decide +kernel
theorem dX11_row_77 : decode cX11_row 77 = .ok (.bipush (-3), 2) := by decide +kernel
theorem dX11_row_79 : decode cX11_row 79 = .ok (.ireturn, 1) := by decide +kernel
/-- no stick but one that is told is told -/
def NCS (U : State) : Prop := va_Nc RX6 RX8 U ∧ va_Nc RX10 RX8 U ∧ va_Nc RX7 RX8 U ∧ va_Nc RX0 RX8 U ∧ va_Nc RX4 RX8 U ∧ va_Nc RX3 RX8 U
theorem NCS.same {U U' : State} (hv : U.vm = U'.vm) (h : NCS U) : NCS U' := by
  have ha : U.vm.Alike U'.vm := by rw [hv]; exact Vm.Alike.refl _
  exact ⟨h.1.moved ha, h.2.1.moved ha, h.2.2.1.moved ha, h.2.2.2.1.moved ha, h.2.2.2.2.1.moved ha, h.2.2.2.2.2.moved ha⟩
/-- what a call of row comes to -/
def f_X11_row (h0 : Nat) (a1 a2 a3 : Int32) (x : X3) (v : Int32) (u : X3) : Prop :=
  ((f_X5_stickAt x.1 x.2.2 a1 = none ∨ ¬ (0 ≤ a2.toInt ∧ a2.toInt ≤ 3)) ∧ v = -1 ∧ u = x) ∨
  (¬ f_X5_stickAt x.1 x.2.2 a1 = none ∧ (0 ≤ a2.toInt ∧ a2.toInt ≤ 3) ∧ ¬ (0 ≤ a3.toInt ∧ a3.toInt ≤ 9) ∧ v = -2 ∧ u = x) ∨
  (¬ f_X5_stickAt x.1 x.2.2 a1 = none ∧ (0 ≤ a2.toInt ∧ a2.toInt ≤ 3) ∧ (0 ≤ a3.toInt ∧ a3.toInt ≤ 9) ∧ ¬ x.2.1 (rf (f_X5_stickAt x.1 x.2.2 a1)) 1 = 6 ∧ v = -3 ∧ u = x) ∨
  (¬ f_X5_stickAt x.1 x.2.2 a1 = none ∧ (0 ≤ a2.toInt ∧ a2.toInt ≤ 3) ∧ (0 ≤ a3.toInt ∧ a3.toInt ≤ 9) ∧ x.2.1 (rf (f_X5_stickAt x.1 x.2.2 a1)) 1 = 6 ∧ ∃ a : Nat, h0 ≤ a ∧ v = f_X8_more (x.2.1 (rf (f_X5_stickAt x.1 x.2.2 a1))) a2 ∧ u = (upR x.1 24 (va_up (x.1 24) (ix a1) (some a)), upD x.2.1 a (dC (x.2.1 (rf (f_X5_stickAt x.1 x.2.2 a1))) a2 a3), x.2.2))
set_option maxHeartbeats 1000000 in
theorem k_X11_row (l : Launch) (g : GG) (aK aV : Nat → Nat) (x : X3) (h0 : Nat) (a1 a2 a3 : Int32) (hX : IX x.2.2) : Met l yX11_row (wsF yX11_row cX11_row 6 (some .int)) { frames := 5, cells := 2, slots := 9, locals := 114 } (va_Pc [.ref (g.2.2 100), .int a1, .int a2, .int a3] (fun U => (XS g aK aV x U ∧ U.heap.size = h0) ∧ NCS U)) (va_Qi (f_X11_row h0 a1 a2 a3 x) (fun u t => va_P g.1 vwCl (xW g u.1 u.2.2) t.heap ∧ XH g u.1 u.2.1 t.heap ∧ SKN g h0 u t.heap) (AX g)) 2 9 (fun z => AX g z ∨ h0 ≤ z) := by
  obtain ⟨ρ, dt, σ⟩ := x
  refine start_X (by decide) (Nat.le_of_ble_eq_true rfl) ?_
  intro p e s m args below meth c C0 hin hB0 ls hl
  obtain ⟨hx, hb, hr, hml, hown, hts, hlocks⟩ := id C0
  obtain ⟨⟨⟨hK, hP, hDD, hB⟩, hsz⟩, hNC⟩ := hB0
  have hP : va_P g.1 vwCl (xW g ρ σ) s.heap := hP
  have hDD : va_D (fun _ => True) (xW g ρ σ) := hDD
  have hB : YB g ρ dt aK aV s := hB
  have hX : IX σ := hX
  have hP0 := hP
  have hS : va_S (fun z => AX g z ∨ h0 ≤ z) s.heap s.heap [] := va_S.rf
  have hFF : ∀ {t : State} {H : Heap} {locs : List Loc}, va_S (fun z => AX g z ∨ h0 ≤ z) s.heap H locs → t.heap = H → va_F (AX g) s t := fun hS ht => ⟨by rw [ht]; exact hS.1, fun z h1 h2 => by rw [ht]; exact hS.2.1 z h1 (fun w => by rcases w with w | w; exact h2 w; omega)⟩
  have hKX : ∀ {H : Heap} {locs : List Loc}, va_S (fun z => AX g z ∨ h0 ≤ z) s.heap H locs → XH g ρ dt H := fun hS => hB.1.kept (fun q h1 h2 => hS.2.1 q h1 (fun w => by rcases w with w | w; exact h2 w; omega))
  obtain ⟨-, -, ⟨j5, j5'⟩, -⟩ := id hX
  have hl : lv_has ls 6 [(0, .ref (g.2.2 100)), (1, .int a1), (2, .int a2), (3, .int a3)] := hl
  have e0 : (0 : Int32).toInt = 0 := rfl
  have e9 : (9 : Int32).toInt = 9 := rfl
  have e3 : (3 : Int32).toInt = 3 := rfl
  have r1 : ∀ {ls : Array Slot}, (f_X5_stickAt ρ σ a1 = none ∨ ¬ (0 ≤ a2.toInt ∧ a2.toInt ≤ 3)) → W p l e { frames := 5, cells := 2, slots := 9, locals := 114 } s m args below meth c s.heap [] 0 0 (MQ below (va_Qi (f_X11_row h0 a1 a2 a3 (ρ, dt, σ)) (fun u t => va_P g.1 vwCl (xW g u.1 u.2.2) t.heap ∧ XH g u.1 u.2.1 t.heap ∧ SKN g h0 u t.heap) (AX g)) args s 2 9 (fun z => AX g z ∨ h0 ≤ z)) (F0 m 24 ls []) := fun hk => by
    refine lv_iconst (v := -1) hx hb dX11_row_24 (by decide) ?_
    refine W.widen (k := 2) (n := 9) (by decide) (by decide) ?_
    exact W.iret hx hb hr (fun t ht _ => ⟨⟨-1, (ρ, dt, σ), rfl, Or.inl ⟨hk, rfl, rfl⟩, by show va_P g.1 vwCl (xW g ρ σ) t.heap ∧ XH g ρ dt t.heap ∧ SKN g h0 (ρ, dt, σ) t.heap; rw [ht]; exact ⟨hP, hB.1, SKN.old hB.1 hsz rfl⟩⟩, hFF hS ht⟩) hS.2.2 dX11_row_25 hlocks
  refine lv_aload_n hx hb dX11_row_0 rfl (lv_at hl 0 rfl) ?_
  refine x_get (σ := σ) (v := .ref (g.2.2 101)) (fs := xF0 g ρ σ) 11 0 C0 uw_11 dc_11 hK hP rfl rfl 0 (by decide) rfl w_229 dX11_row_1 ?_
  refine lv_iload_n hx hb dX11_row_4 rfl (lv_at hl 1 rfl) ?_
  refine x_sa (σ := σ) (ρ := ρ) (dt := dt) (rest := []) C0 hK hP hDD hB.1 cf_X5_stickAt w_586 (k_X5_stickAt l g ρ dt σ a1 hX) (F := f_X5_stickAt ρ σ a1) ⟨by decide, by decide⟩ hl.1 (Nat.le_of_ble_eq_true rfl) dX11_row_5 ?_
  by_cases cF : f_X5_stickAt ρ σ a1 = none
  · rw [va_rf_none cF]
    refine lv_astoreN (lv' := [(4, .null), (0, .ref (g.2.2 100)), (1, .int a1), (2, .int a2), (3, .int a3)]) hx hb dX11_row_8 hl (by decide) rfl (fun ls hl => ?_)
    refine lv_aloadN hx hb dX11_row_10 (lv_at hl 0 rfl) ?_
    refine lv_ifnullN (tgt := 24) hx hb dX11_row_12 (by decide) ?_
    exact r1 (Or.inl cF)
  rw [va_rf_some cF]
  have hs24 := sa_some cF
  have hai := sa_in cF
  have hSK0 := hB.1.1 _ _ (Or.inl hs24)
  generalize hfa : rf (f_X5_stickAt ρ σ a1) = a at hs24 hSK0 ⊢
  refine lv_astore (lv' := [(4, .ref a), (0, .ref (g.2.2 100)), (1, .int a1), (2, .int a2), (3, .int a3)]) hx hb dX11_row_8 hl (by decide) rfl (fun ls hl => ?_)
  refine lv_aload hx hb dX11_row_10 (lv_at hl 0 rfl) ?_
  refine lv_ifnull hx hb dX11_row_12 ?_
  refine lv_iload_n hx hb dX11_row_15 rfl (lv_at hl 3 rfl) ?_
  refine lv_if_lt (tgt := 24) hx hb dX11_row_16 (by decide) (fun c1 => r1 (Or.inr (by have := ti_lt.mp c1; omega))) (fun c1 => ?_)
  refine lv_iload_n hx hb dX11_row_19 rfl (lv_at hl 3 rfl) ?_
  refine lv_iconst (v := 3) hx hb dX11_row_20 (by decide) ?_
  refine lv_icmp_le (tgt := 26) hx hb dX11_row_21 (by decide) (fun c2 => ?_) (fun c2 => r1 (Or.inr (by have := mt ti_le.mpr c2; omega)))
  have hk : 0 ≤ a2.toInt ∧ a2.toInt ≤ 3 := by have := mt ti_lt.mpr c1; have := ti_le.mp c2; omega
  have r2 : ¬ (0 ≤ a3.toInt ∧ a3.toInt ≤ 9) → W p l e { frames := 5, cells := 2, slots := 9, locals := 114 } s m args below meth c s.heap [] 0 0 (MQ below (va_Qi (f_X11_row h0 a1 a2 a3 (ρ, dt, σ)) (fun u t => va_P g.1 vwCl (xW g u.1 u.2.2) t.heap ∧ XH g u.1 u.2.1 t.heap ∧ SKN g h0 u t.heap) (AX g)) args s 2 9 (fun z => AX g z ∨ h0 ≤ z)) (F0 m 36 ls []) := fun hk2 => by
    refine lv_bipush (v := -2) hx hb dX11_row_36 (by decide) ?_
    refine W.widen (k := 2) (n := 9) (by decide) (by decide) ?_
    exact W.iret hx hb hr (fun t ht _ => ⟨⟨-2, (ρ, dt, σ), rfl, Or.inr (Or.inl ⟨cF, hk, hk2, rfl, rfl⟩), by show va_P g.1 vwCl (xW g ρ σ) t.heap ∧ XH g ρ dt t.heap ∧ SKN g h0 (ρ, dt, σ) t.heap; rw [ht]; exact ⟨hP, hB.1, SKN.old hB.1 hsz rfl⟩⟩, hFF hS ht⟩) hS.2.2 dX11_row_38 hlocks
  refine lv_iload_n hx hb dX11_row_26 rfl (lv_at hl 4 rfl) ?_
  refine lv_if_lt (tgt := 36) hx hb dX11_row_27 (by decide) (fun c3 => r2 (by have := ti_lt.mp c3; omega)) (fun c3 => ?_)
  refine lv_iload_n hx hb dX11_row_30 rfl (lv_at hl 4 rfl) ?_
  refine lv_bipush (v := 9) hx hb dX11_row_31 (by decide) ?_
  refine lv_icmp_le (tgt := 39) hx hb dX11_row_33 (by decide) (fun c4 => ?_) (fun c4 => r2 (by have := mt ti_le.mpr c4; omega))
  have hk2 : 0 ≤ a3.toInt ∧ a3.toInt ≤ 9 := by have := mt ti_lt.mpr c3; have := ti_le.mp c4; omega
  refine lv_aload hx hb dX11_row_39 (lv_at hl 0 rfl) ?_
  have r3 : ¬ dt a 1 = 6 → W p l e { frames := 5, cells := 2, slots := 9, locals := 114 } s m args below meth c s.heap [] 0 0 (MQ below (va_Qi (f_X11_row h0 a1 a2 a3 (ρ, dt, σ)) (fun u t => va_P g.1 vwCl (xW g u.1 u.2.2) t.heap ∧ XH g u.1 u.2.1 t.heap ∧ SKN g h0 u t.heap) (AX g)) args s 2 9 (fun z => AX g z ∨ h0 ≤ z)) (F0 m 44 ls [.int 0]) := fun hd => by
    refine lv_if_eq (tgt := 77) hx hb dX11_row_44 (by decide) (fun _ => ?_) (fun z => absurd rfl z)
    refine lv_bipush (v := -3) hx hb dX11_row_77 (by decide) ?_
    refine W.widen (k := 2) (n := 9) (by decide) (by decide) ?_
    exact W.iret hx hb hr (fun t ht _ => ⟨⟨-3, (ρ, dt, σ), rfl, Or.inr (Or.inr (Or.inl ⟨cF, hk, hk2, by show ¬ dt (rf (f_X5_stickAt ρ σ a1)) 1 = 6; rw [hfa]; exact hd, rfl, rfl⟩)), by show va_P g.1 vwCl (xW g ρ σ) t.heap ∧ XH g ρ dt t.heap ∧ SKN g h0 (ρ, dt, σ) t.heap; rw [ht]; exact ⟨hP, hB.1, SKN.old hB.1 hsz rfl⟩⟩, hFF hS ht⟩) hS.2.2 dX11_row_79 hlocks
  have hno : ∀ {ci : Nat} {C : String} {T : u_T} {N : Nat} {fs : List Value}, vwCl[ci]? = some (C, T, N) → va_at g.1 vwCl (a, .inr (ci, fs)) s.heap → va_Nc C RX8 s → ¬ dt a 1 = 6 → W p l e { frames := 5, cells := 2, slots := 9, locals := 114 } s m args below meth c s.heap [] 0 0 (MQ below (va_Qi (f_X11_row h0 a1 a2 a3 (ρ, dt, σ)) (fun u t => va_P g.1 vwCl (xW g u.1 u.2.2) t.heap ∧ XH g u.1 u.2.1 t.heap ∧ SKN g h0 u t.heap) (AX g)) args s 2 9 (fun z => AX g z ∨ h0 ≤ z)) (F0 m 41 ls [.ref a]) := fun hc h hn hd => va_instNo hx hb hown (hts _ w_560) hn (va_recv hK.1 (va_P1 h) (q0 := 0) hc rfl) dX11_row_41 (r3 hd)
  rcases hSK0.2 with ⟨ek, h⟩ | ⟨ek, h⟩ | ⟨ek, h⟩ | ⟨ek, h⟩ | ⟨ek, h⟩ | ⟨ek, h⟩ | ⟨ek, b, hb9, hba, h, h'⟩
  · exact hno rfl h hNC.1 (by rw [ek]; decide)
  · exact hno rfl h hNC.2.1 (by rw [ek]; decide)
  · exact hno rfl h hNC.2.2.1 (by rw [ek]; decide)
  · exact hno rfl h hNC.2.2.2.1 (by rw [ek]; decide)
  · exact hno rfl h hNC.2.2.2.2.1 (by rw [ek]; decide)
  · exact hno rfl h hNC.2.2.2.2.2 (by rw [ek]; decide)
  have hrT : ∃ cell : Cell, s.heap[a]? = some cell ∧ cell.vm.isStatics = false ∧ s.vm.findClass RX8 = some cell.cls := va_recv hK.1 (va_P1 h) (q0 := 0) (q := (RX8, TX8, 5)) rfl rfl
  have hCA : ClassAt s RX8 (g.1.1 8) := (hK.1.1 8 (RX8, TX8, 5) rfl).2
  refine va_instS hx hb hown (hts _ w_560) hCA hrT dX11_row_41 ?_
  refine lv_if_eq (tgt := 77) hx hb dX11_row_44 (by decide) (fun z => absurd z (by decide)) (fun _ => ?_)
  refine lv_aload hx hb dX11_row_47 (lv_at hl 0 rfl) ?_
  refine va_castS hx hb hown (hts _ w_560) hCA hrT dX11_row_49 ?_
  refine lv_astore (lv' := [(5, .ref a), (4, .ref a), (0, .ref (g.2.2 100)), (1, .int a1), (2, .int a2), (3, .int a3)]) hx hb dX11_row_52 hl (by decide) rfl (fun ls hl => ?_)
  refine lv_aload_n hx hb dX11_row_54 rfl (lv_at hl 2 rfl) ?_
  refine x_get (σ := σ) (v := .ref (g.2.2 101)) (fs := xF0 g ρ σ) 11 0 C0 uw_11 dc_11 hK hP rfl rfl 0 (by decide) rfl w_229 dX11_row_55 ?_
  refine x_getN (σ := σ) (v := .ref (g.2.2 24)) (fs := xF1 g ρ σ) 5 1 C0 uw_5 dc_5 hK hP rfl rfl 4 (by decide) rfl w_117 dX11_row_58 ?_
  refine lv_iload_n hx hb dX11_row_61 rfl (lv_at hl 3 rfl) ?_
  refine lv_aload hx hb dX11_row_62 (lv_at hl 0 rfl) ?_
  refine lv_iload_n hx hb dX11_row_64 rfl (lv_at hl 4 rfl) ?_
  refine lv_iload_n hx hb dX11_row_65 rfl (lv_at hl 5 rfl) ?_
  refine va_callr (run_VN (rm := { frames := 4, cells := 2, slots := 9, locals := 91 }) (As := [.int a2, .int a3]) (rest := [.int a1, .ref (g.2.2 24)]) C0 cf_X8_changed hK.2 w_594 ⟨by decide, by decide⟩ (k_X8_changed l g h0 a (dt a) a2 a3 hk.1 hk.2 ek) ⟨(show SV (fun U => KK g U ∧ SKH g U.heap a (dt a) ∧ U.heap.size = h0) from fun U U' hh hv h => ⟨h.1.same hv, by rw [← hh]; exact h.2⟩).blind, hrT, fun U hU hW => ⟨rfl, hK.warm hW, by rw [hU]; exact hSK0, by rw [hU]; exact hsz⟩⟩ rfl hl.1 rfl (Nat.le_of_ble_eq_true rfl) dX11_row_66 ⟨by decide, by decide⟩) hS (fun z hz h => Or.inr h) (fun z h => Or.inr h) (fun _ a9 t1 H locs ht _ _ hSK hz hk1 hS => ?_)
  have hSK : SKF g h0 t1.heap a9 (dC (dt a) a2 a3) := hSK
  rw [ht] at hSK
  have hah : h0 ≤ a9 := hSK.1
  have hP1 : va_P g.1 vwCl (xW g ρ σ) H := hP.kept (fun k x hx => hk1 x.1 (hP k x hx).lt (fun w => by have := (hP k x hx).lt; omega))
  obtain ⟨TL, hTP, hTD, hTR⟩ := hSK.tl
  have hD := AX_app h0 hP0 hsz (AX_D hDD (fun _ h => Or.inl h)) hTD
  have hP := hP1.app hTP
  refine x_astT (TL := TL) C0 hK hP hD hS (hSK.any hK) (vp_in_iff.mpr ⟨hai.1, by omega⟩) dX11_row_69 (fun H locs hP hD hS => ?_)
  have hXo := hKX hS
  have hSKa := hXo.1 _ _ (Or.inl hs24)
  have hXn := XH.stick (k := ix a1) hB.1 hsz hXo hah ((hTR H (va_Pr hP)).skh (fun q h => by have := AX_lt hP0 h; omega))
  refine lv_aload hx hb dX11_row_70 (lv_at hl 0 rfl) ?_
  refine lv_iload_n hx hb dX11_row_72 rfl (lv_at hl 4 rfl) ?_
  have hrT2 : ∃ cell : Cell, H[a]? = some cell ∧ cell.vm.isStatics = false ∧ s.vm.findClass RX8 = some cell.cls := by
    rcases hSKa.2 with ⟨ek2, h⟩ | ⟨ek2, h⟩ | ⟨ek2, h⟩ | ⟨ek2, h⟩ | ⟨ek2, h⟩ | ⟨ek2, h⟩ | ⟨ek2, b, hb9, hba, h, h'⟩
    all_goals first | exact va_recv hK.1 (va_P1 h) (q0 := 0) (q := (RX8, TX8, 5)) rfl rfl | (rw [ek] at ek2; exact absurd ek2 (by decide))
  refine aft_i (run_VN (rm := { frames := 0, cells := 0, slots := 0, locals := 0 }) (As := [.int a2]) (rest := []) C0 cf_X8_more hK.2 w_603 ⟨by decide, by decide⟩ (k_X8_more l g a (dt a) a2 ek) ⟨SB.sv.blind, hrT2, fun U hU hW => ⟨rfl, hK.warm hW, by rw [hU]; exact hSKa⟩⟩ rfl hl.1 rfl (Nat.le_of_ble_eq_true rfl) dX11_row_73 ⟨by decide, by decide⟩) ?_
  have hpost : f_X11_row h0 a1 a2 a3 (ρ, dt, σ) (f_X8_more (dt a) a2) (upR ρ 24 (va_up (ρ 24) (ix a1) (some a9)), upD dt a9 (dC (dt a) a2 a3), σ) := by
    unfold f_X11_row
    dsimp only
    rw [hfa]
    exact Or.inr (Or.inr (Or.inr ⟨cF, hk, hk2, ek, a9, hah, rfl, rfl⟩))
  exact W.iret hx hb hr (fun t ht _ => ⟨⟨_, _, rfl, hpost, by show va_P g.1 vwCl (xW g (upR ρ 24 (va_up (ρ 24) (ix a1) (some a9))) σ) t.heap ∧ XH g (upR ρ 24 (va_up (ρ 24) (ix a1) (some a9))) (upD dt a9 (dC (dt a) a2 a3)) t.heap ∧ SKN g h0 ((upR ρ 24 (va_up (ρ 24) (ix a1) (some a9))), upD dt a9 (dC (dt a) a2 a3), σ) t.heap; rw [ht]; exact ⟨va_Pl hP, hXn, SKN.new hB.1 hsz (hTR H (va_Pr hP))⟩⟩, hFF hS ht⟩) hS.2.2 dX11_row_76 hlocks

