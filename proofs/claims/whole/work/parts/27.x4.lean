
def NN (ρ : RR) (f : Nat → Int32) : Prop := ∀ i : Nat, (i : Int) < (f 0).toInt → ¬ ρ 24 i = none
theorem NN_ok {ρ : RR} {σ : St} (hN : NN ρ (σ 25)) {a : Int32} (h0 : 0 ≤ a.toInt) (c : ¬ σ 25 0 ≤ a) : ¬ f_X5_stickAt ρ σ a = none := by
  have q := mt ti_le.mpr c
  have := ti_ix h0
  exact sa_ok h0 (by omega) (hN _ (by omega))
theorem IX_of {σ u : St} (h : ∀ k, k ∈ [21, 23, 25, 26, 27, 28, 29, 32, 34, 37, 81] → u k = σ k) (hX : IX σ) : IX u := by
  unfold IX
  rw [h 21 (by decide), h 23 (by decide), h 25 (by decide), h 26 (by decide), h 27 (by decide), h 28 (by decide), h 29 (by decide), h 32 (by decide), h 34 (by decide), h 37 (by decide), h 81 (by decide)]
  exact hX
theorem IX_up {σ : St} {k j : Nat} {v : Int32} (hk : ([21, 23, 25, 26, 27, 28, 29, 32, 34, 37, 81].contains k) = false) (hX : IX σ) : IX (up2 σ k j v) := IX_of (fun c hc => by
  have : c ≠ k := fun e => by
    subst e
    rw [List.contains_iff_mem.mpr hc] at hk
    cases hk
  simp [up2, upC, this]) hX
set_option maxRecDepth 20000 in
theorem w_744 : (Cond.methodLink RX11 203 Lib.Math.abs.name) ∈ TB := inTB (List.mem_of_getElem? (i := 744) (by decide +kernel)) (by decide +kernel)
set_option maxRecDepth 20000 in
theorem w_745 : (Cond.static Lib.Math.abs.name) ∈ TB := inTB (List.mem_of_getElem? (i := 745) (by decide +kernel)) (by decide +kernel)
set_option maxRecDepth 20000 in
theorem w_746 : (Cond.code Lib.Math.abs.name Lib.Math.abs.code 1 (some .int)) ∈ TB := inTB (List.mem_of_getElem? (i := 746) (by decide +kernel)) (by decide +kernel)
/-! ThreeMeasures.nearestTimes -/
theorem dX11_nearestTimes_0 : decode cX11_nearestTimes 0 = .ok (.iconst 0, 1) := by decide +kernel
theorem dX11_nearestTimes_1 : decode cX11_nearestTimes 1 = .ok (.istore_n 3, 1) := by decide +kernel
theorem dX11_nearestTimes_2 : decode cX11_nearestTimes 2 = .ok (.iconst (-1), 1) := by decide +kernel
theorem dX11_nearestTimes_3 : decode cX11_nearestTimes 3 = .ok (.istore 4, 2) := by decide +kernel
theorem dX11_nearestTimes_5 : decode cX11_nearestTimes 5 = .ok (.iconst 0, 1) := by decide +kernel
theorem dX11_nearestTimes_6 : decode cX11_nearestTimes 6 = .ok (.istore 5, 2) := by decide +kernel
theorem dX11_nearestTimes_8 : decode cX11_nearestTimes 8 = .ok (.iload 5, 2) := by decide +kernel
theorem dX11_nearestTimes_10 : decode cX11_nearestTimes 10 = .ok (.bipush 30, 2) := by decide +kernel
theorem dX11_nearestTimes_12 : decode cX11_nearestTimes 12 = .ok (.if_icmp .gt 54, 3) := by decide +kernel
theorem dX11_nearestTimes_15 : decode cX11_nearestTimes 15 = .ok (.aload_n 0, 1) := by decide +kernel
theorem dX11_nearestTimes_16 : decode cX11_nearestTimes 16 = .ok (.getfield 12, 3) := by decide +kernel
theorem dX11_nearestTimes_19 : decode cX11_nearestTimes 19 = .ok (.aload_n 1, 1) := by decide +kernel
theorem dX11_nearestTimes_20 : decode cX11_nearestTimes 20 = .ok (.iload_n 2, 1) := by decide +kernel
theorem dX11_nearestTimes_21 : decode cX11_nearestTimes 21 = .ok (.iload 5, 2) := by decide +kernel
theorem dX11_nearestTimes_23 : decode cX11_nearestTimes 23 = .ok (.invokevirtual 157, 3) := by decide +kernel
theorem dX11_nearestTimes_26 : decode cX11_nearestTimes 26 = .ok (.aload_n 0, 1) := by decide +kernel
theorem dX11_nearestTimes_27 : decode cX11_nearestTimes 27 = .ok (.getfield 12, 3) := by decide +kernel
theorem dX11_nearestTimes_30 : decode cX11_nearestTimes 30 = .ok (.getfield 115, 3) := by decide +kernel
theorem dX11_nearestTimes_33 : decode cX11_nearestTimes 33 = .ok (.iload_n 2, 1) := by decide +kernel
theorem dX11_nearestTimes_34 : decode cX11_nearestTimes 34 = .ok (.iaload, 1) := by decide +kernel
theorem dX11_nearestTimes_35 : decode cX11_nearestTimes 35 = .ok (.isub, 1) := by decide +kernel
theorem dX11_nearestTimes_36 : decode cX11_nearestTimes 36 = .ok (.invokestatic 203, 3) := by decide +kernel
theorem dX11_nearestTimes_39 : decode cX11_nearestTimes 39 = .ok (.istore 6, 2) := by decide +kernel
theorem dX11_nearestTimes_41 : decode cX11_nearestTimes 41 = .ok (.iload 4, 2) := by decide +kernel
theorem dX11_nearestTimes_43 : decode cX11_nearestTimes 43 = .ok (.ifCond .lt 10, 3) := by decide +kernel
theorem dX11_nearestTimes_46 : decode cX11_nearestTimes 46 = .ok (.iload 6, 2) := by decide +kernel
theorem dX11_nearestTimes_48 : decode cX11_nearestTimes 48 = .ok (.iload 4, 2) := by decide +kernel
theorem dX11_nearestTimes_50 : decode cX11_nearestTimes 50 = .ok (.if_icmp .ge 10, 3) := by decide +kernel
theorem dX11_nearestTimes_53 : decode cX11_nearestTimes 53 = .ok (.iload 6, 2) := by decide +kernel
theorem dX11_nearestTimes_55 : decode cX11_nearestTimes 55 = .ok (.istore 4, 2) := by decide +kernel
theorem dX11_nearestTimes_57 : decode cX11_nearestTimes 57 = .ok (.iload 5, 2) := by decide +kernel
theorem dX11_nearestTimes_59 : decode cX11_nearestTimes 59 = .ok (.istore_n 3, 1) := by decide +kernel
theorem dX11_nearestTimes_60 : decode cX11_nearestTimes 60 = .ok (.iinc 5 1, 3) := by decide +kernel
theorem dX11_nearestTimes_63 : decode cX11_nearestTimes 63 = .ok (.goto (-55), 3) := by decide +kernel
theorem dX11_nearestTimes_66 : decode cX11_nearestTimes 66 = .ok (.iload_n 3, 1) := by decide +kernel
theorem dX11_nearestTimes_67 : decode cX11_nearestTimes 67 = .ok (.ireturn, 1) := by decide +kernel
def f_X11_nearestTimes_60 (ρ : RR) (dt : Nat → Nat → Int32) (K8 : St → Nat → Int32 → Int32 → Int32 → Int32 → Int32) (σ : St) (a1 : Nat) (a2 : Int32) (a3 : Int32) (a4 : Int32) (a5 : Int32) : Int32 := (K8 σ a1 a2 a3 a4 (a5 + (1 : Int32)))
set_option maxHeartbeats 600000 in
set_option maxRecDepth 100000 in
theorem b_X11_nearestTimes_60 {g : GG} {ρ : RR} {dt : Nat → Nat → Int32} {p : Program} {l : Launch} {e : Env} {s : State} {m : MethodId} {args : Array Value} {below : List Frame} {meth : Method} {c : Code}  {tgt : Int32} {K8 : St → Nat → Int32 → Int32 → Int32 → Int32 → Int32} {N8 : Nat} (C0 : BC p s m args meth c cX11_nearestTimes RX11 7 (some .int)) (hK8 : ∀ (σ : St) (a1 : Nat) (a2 : Int32) (a3 : Int32) (a4 : Int32) (a5 : Int32), (∃ i, ρ 24 i = some a1) → (0 ≤ a2.toInt) → (a2.toInt < 6) → (0 ≤ a5.toInt) → (31 - a5.toInt).toNat < N8 → KK g s → va_P g.1 vwCl ((xW g ρ) σ) s.heap → va_D (fun _ => True) ((xW g ρ) σ) → XH g ρ dt s.heap →  ∀ {ls : Array Slot}, lv_has ls 7 [(0, .ref (g.2.2 100)), (1, .ref (a1)), (2, .int (a2)), (3, .int (a3)), (4, .int (a4)), (5, .int (a5))] → K8 σ a1 a2 a3 a4 a5 = tgt → W p l e { frames := 3, cells := 0, slots := 0, locals := 79 } s m args below meth c s.heap [] 0 0 (QPI below args s tgt) (F0 m 8 ls [])) {σ : St} {a1 : Nat} {a2 : Int32} {a3 : Int32} {a4 : Int32} {a5 : Int32}  (hs : ∃ i, ρ 24 i = some a1) (h2 : 0 ≤ a2.toInt) (h2b : a2.toInt < 6) (h5 : 0 ≤ a5.toInt) (h5b : a5.toInt ≤ 30) (hm8 : (31 - a5.toInt).toNat < N8 + 1)  (hK : KK g s) (hP : va_P g.1 vwCl ((xW g ρ) σ) s.heap) (hDD : va_D (fun _ => True) ((xW g ρ) σ)) (hB : XH g ρ dt s.heap) {ls : Array Slot} (hl : lv_has ls 7 [(0, .ref (g.2.2 100)), (1, .ref (a1)), (2, .int (a2)), (3, .int (a3)), (4, .int (a4)), (5, .int (a5))]) (hT : f_X11_nearestTimes_60 ρ dt K8 σ a1 a2 a3 a4 a5 = tgt) : W p l e { frames := 3, cells := 0, slots := 0, locals := 79 } s m args below meth c s.heap [] 0 0 (QPI below args s tgt) (F0 m 60 ls []) := by
  obtain ⟨hx, hb, hr, hml, hown, hts, hlocks⟩ := id C0
  unfold f_X11_nearestTimes_60 at hT
  refine lv_iinc (v := (a5 + (1 : Int32))) (lv' := [(5, .int ((a5 + (1 : Int32)))), (0, .ref (g.2.2 100)), (1, .ref (a1)), (2, .int (a2)), (3, .int (a3)), (4, .int (a4))]) hx hb dX11_nearestTimes_60 hl (k := 5) rfl rfl (by decide) rfl (fun ls hl => ?_)
  refine lv_goto (tgt := 8) hx hb dX11_nearestTimes_63 (by decide) ?_
  have j63_h5 : 0 ≤ (a5 + (1 : Int32)).toInt := by
    have : ((1 : Int32)).toInt = 1 := by decide
    try have := ti_add (a := a5) (b := (1 : Int32)) (by omega) (by omega)
    omega
  have j63_m : (31 - (a5 + (1 : Int32)).toInt).toNat < N8 := by
    have : ((1 : Int32)).toInt = 1 := by decide
    try have := ti_add (a := a5) (b := (1 : Int32)) (by omega) (by omega)
    omega
  exact hK8 σ a1 a2 a3 a4 (a5 + (1 : Int32)) hs h2 h2b j63_h5 j63_m hK hP hDD hB (lv_sub hl [1, 2, 3, 4, 5, 0] rfl) hT
def f_X11_nearestTimes_53 (ρ : RR) (dt : Nat → Nat → Int32) (K8 : St → Nat → Int32 → Int32 → Int32 → Int32 → Int32) (σ : St) (a1 : Nat) (a2 : Int32) (a5 : Int32) (a6 : Int32) : Int32 := (f_X11_nearestTimes_60 ρ dt K8 σ a1 a2 a5 a6 a5)
set_option maxHeartbeats 600000 in
set_option maxRecDepth 100000 in
theorem b_X11_nearestTimes_53 {g : GG} {ρ : RR} {dt : Nat → Nat → Int32} {p : Program} {l : Launch} {e : Env} {s : State} {m : MethodId} {args : Array Value} {below : List Frame} {meth : Method} {c : Code}  {tgt : Int32} {K8 : St → Nat → Int32 → Int32 → Int32 → Int32 → Int32} {N8 : Nat} (C0 : BC p s m args meth c cX11_nearestTimes RX11 7 (some .int)) (hK8 : ∀ (σ : St) (a1 : Nat) (a2 : Int32) (a3 : Int32) (a4 : Int32) (a5 : Int32), (∃ i, ρ 24 i = some a1) → (0 ≤ a2.toInt) → (a2.toInt < 6) → (0 ≤ a5.toInt) → (31 - a5.toInt).toNat < N8 → KK g s → va_P g.1 vwCl ((xW g ρ) σ) s.heap → va_D (fun _ => True) ((xW g ρ) σ) → XH g ρ dt s.heap →  ∀ {ls : Array Slot}, lv_has ls 7 [(0, .ref (g.2.2 100)), (1, .ref (a1)), (2, .int (a2)), (3, .int (a3)), (4, .int (a4)), (5, .int (a5))] → K8 σ a1 a2 a3 a4 a5 = tgt → W p l e { frames := 3, cells := 0, slots := 0, locals := 79 } s m args below meth c s.heap [] 0 0 (QPI below args s tgt) (F0 m 8 ls [])) {σ : St} {a1 : Nat} {a2 : Int32} {a5 : Int32} {a6 : Int32}  (hs : ∃ i, ρ 24 i = some a1) (h2 : 0 ≤ a2.toInt) (h2b : a2.toInt < 6) (h5 : 0 ≤ a5.toInt) (h5b : a5.toInt ≤ 30) (hm8 : (31 - a5.toInt).toNat < N8 + 1)  (hK : KK g s) (hP : va_P g.1 vwCl ((xW g ρ) σ) s.heap) (hDD : va_D (fun _ => True) ((xW g ρ) σ)) (hB : XH g ρ dt s.heap) {ls : Array Slot} (hl : lv_has ls 7 [(0, .ref (g.2.2 100)), (1, .ref (a1)), (2, .int (a2)), (5, .int (a5)), (6, .int (a6))]) (hT : f_X11_nearestTimes_53 ρ dt K8 σ a1 a2 a5 a6 = tgt) : W p l e { frames := 3, cells := 0, slots := 0, locals := 79 } s m args below meth c s.heap [] 0 0 (QPI below args s tgt) (F0 m 53 ls []) := by
  obtain ⟨hx, hb, hr, hml, hown, hts, hlocks⟩ := id C0
  unfold f_X11_nearestTimes_53 at hT
  refine lv_iload hx hb dX11_nearestTimes_53 (lv_at hl 4 rfl) ?_
  refine lv_istore (lv' := [(4, .int (a6)), (0, .ref (g.2.2 100)), (1, .ref (a1)), (2, .int (a2)), (5, .int (a5)), (6, .int (a6))]) hx hb dX11_nearestTimes_55 hl (by decide) rfl (fun ls hl => ?_)
  refine lv_iload hx hb dX11_nearestTimes_57 (lv_at hl 4 rfl) ?_
  refine lv_istore_n (lv' := [(3, .int (a5)), (4, .int (a6)), (0, .ref (g.2.2 100)), (1, .ref (a1)), (2, .int (a2)), (5, .int (a5)), (6, .int (a6))]) hx hb dX11_nearestTimes_59 rfl hl (by decide) rfl (fun ls hl => ?_)
  exact b_X11_nearestTimes_60 (g := g) (ρ := ρ) (dt := dt) (σ := σ) (a1 := a1) (a2 := a2) (a3 := a5) (a4 := a6) (a5 := a5) C0 hK8 hs h2 h2b h5 h5b hm8 hK hP hDD hB (lv_sub hl [2, 3, 4, 0, 1, 5] rfl) hT
def f_X11_nearestTimes_8 (ρ : RR) (dt : Nat → Nat → Int32) (K8 : St → Nat → Int32 → Int32 → Int32 → Int32 → Int32) (σ : St) (a1 : Nat) (a2 : Int32) (a3 : Int32) (a4 : Int32) (a5 : Int32) : Int32 := (if (30 : Int32) < a5 then a3 else (if a4 < 0 then (f_X11_nearestTimes_53 ρ dt K8 σ a1 a2 a5 (if 0 ≤ ((f_X5_middle ρ dt σ a1 a2 a5) - (σ 26 (ix a2))) then ((f_X5_middle ρ dt σ a1 a2 a5) - (σ 26 (ix a2))) else 0 - ((f_X5_middle ρ dt σ a1 a2 a5) - (σ 26 (ix a2))))) else (if a4 ≤ (if 0 ≤ ((f_X5_middle ρ dt σ a1 a2 a5) - (σ 26 (ix a2))) then ((f_X5_middle ρ dt σ a1 a2 a5) - (σ 26 (ix a2))) else 0 - ((f_X5_middle ρ dt σ a1 a2 a5) - (σ 26 (ix a2)))) then (f_X11_nearestTimes_60 ρ dt K8 σ a1 a2 a3 a4 a5) else (f_X11_nearestTimes_53 ρ dt K8 σ a1 a2 a5 (if 0 ≤ ((f_X5_middle ρ dt σ a1 a2 a5) - (σ 26 (ix a2))) then ((f_X5_middle ρ dt σ a1 a2 a5) - (σ 26 (ix a2))) else 0 - ((f_X5_middle ρ dt σ a1 a2 a5) - (σ 26 (ix a2))))))))
set_option maxHeartbeats 600000 in
set_option maxRecDepth 100000 in
theorem b_X11_nearestTimes_8 {g : GG} {ρ : RR} {dt : Nat → Nat → Int32} {p : Program} {l : Launch} {e : Env} {s : State} {m : MethodId} {args : Array Value} {below : List Frame} {meth : Method} {c : Code}  {tgt : Int32} {K8 : St → Nat → Int32 → Int32 → Int32 → Int32 → Int32} {N8 : Nat} (C0 : BC p s m args meth c cX11_nearestTimes RX11 7 (some .int)) (hK8 : ∀ (σ : St) (a1 : Nat) (a2 : Int32) (a3 : Int32) (a4 : Int32) (a5 : Int32), (∃ i, ρ 24 i = some a1) → (0 ≤ a2.toInt) → (a2.toInt < 6) → (0 ≤ a5.toInt) → (31 - a5.toInt).toNat < N8 → KK g s → va_P g.1 vwCl ((xW g ρ) σ) s.heap → va_D (fun _ => True) ((xW g ρ) σ) → XH g ρ dt s.heap →  ∀ {ls : Array Slot}, lv_has ls 7 [(0, .ref (g.2.2 100)), (1, .ref (a1)), (2, .int (a2)), (3, .int (a3)), (4, .int (a4)), (5, .int (a5))] → K8 σ a1 a2 a3 a4 a5 = tgt → W p l e { frames := 3, cells := 0, slots := 0, locals := 79 } s m args below meth c s.heap [] 0 0 (QPI below args s tgt) (F0 m 8 ls [])) {σ : St} {a1 : Nat} {a2 : Int32} {a3 : Int32} {a4 : Int32} {a5 : Int32}  (hs : ∃ i, ρ 24 i = some a1) (h2 : 0 ≤ a2.toInt) (h2b : a2.toInt < 6) (h5 : 0 ≤ a5.toInt) (hm : (31 - a5.toInt).toNat < N8 + 1) (hK : KK g s) (hP : va_P g.1 vwCl ((xW g ρ) σ) s.heap) (hDD : va_D (fun _ => True) ((xW g ρ) σ)) (hB : XH g ρ dt s.heap) {ls : Array Slot} (hl : lv_has ls 7 [(0, .ref (g.2.2 100)), (1, .ref (a1)), (2, .int (a2)), (3, .int (a3)), (4, .int (a4)), (5, .int (a5))]) (hT : f_X11_nearestTimes_8 ρ dt K8 σ a1 a2 a3 a4 a5 = tgt) : W p l e { frames := 3, cells := 0, slots := 0, locals := 79 } s m args below meth c s.heap [] 0 0 (QPI below args s tgt) (F0 m 8 ls []) := by
  obtain ⟨hx, hb, hr, hml, hown, hts, hlocks⟩ := id C0
  unfold f_X11_nearestTimes_8 at hT
  refine lv_iload hx hb dX11_nearestTimes_8 (lv_at hl 5 rfl) ?_
  refine lv_bipush (v := (30 : Int32)) hx hb dX11_nearestTimes_10 (by decide) ?_
  refine lv_icmp_gt (tgt := 66) hx hb dX11_nearestTimes_12 (by decide) (fun c_12 => ?_) (fun c_12 => ?_)
  · have hT := hT_pos c_12 hT
    refine lv_iload_n hx hb dX11_nearestTimes_66 rfl (lv_at hl 3 rfl) ?_
    exact ret_PI C0 hT dX11_nearestTimes_67
  · have hT := hT_neg c_12 hT
    refine lv_aload_n hx hb dX11_nearestTimes_15 rfl (lv_at hl 0 rfl) ?_
    refine x_get (σ := σ) (v := .ref (g.2.2 101)) (fs := xF0 g ρ σ) 11 0 C0 uw_11 dc_11 hK hP rfl rfl 0 (by decide) rfl w_229 dX11_nearestTimes_16 ?_
    refine lv_aload_n hx hb dX11_nearestTimes_19 rfl (lv_at hl 1 rfl) ?_
    refine lv_iload_n hx hb dX11_nearestTimes_20 rfl (lv_at hl 2 rfl) ?_
    refine lv_iload hx hb dX11_nearestTimes_21 (lv_at hl 5 rfl) ?_
    refine x_cn (rest := []) (As := [.ref (a1), .int (a2), .int (a5)]) (σ := σ) (ρ := ρ) (dt := dt) (T := TX5) (N := 18) (fs := xF1 g ρ σ) 5 1 rfl rfl C0 hK hP hDD hB cf_X5_middle w_714 (k_X5_middle l g ρ dt σ a1 a2 a5 hs) ⟨by decide, by decide⟩ hl.1 rfl rfl (Nat.le_of_ble_eq_true rfl) dX11_nearestTimes_23 ⟨Nat.zero_le _, Nat.zero_le _⟩ ?_
    refine lv_aload_n hx hb dX11_nearestTimes_26 rfl (lv_at hl 0 rfl) ?_
    refine x_get (σ := σ) (v := .ref (g.2.2 101)) (fs := xF0 g ρ σ) 11 0 C0 uw_11 dc_11 hK hP rfl rfl 0 (by decide) rfl w_229 dX11_nearestTimes_27 ?_
    refine x_getN (σ := σ) (v := .ref (g.2.2 26)) (fs := xF1 g ρ σ) 5 1 C0 uw_5 dc_5 hK hP rfl rfl 6 (by decide) rfl w_121 dX11_nearestTimes_30 ?_
    refine lv_iload_n hx hb dX11_nearestTimes_33 rfl (lv_at hl 2 rfl) ?_
    have o_34 : vp_in a2 6 := by
      have : ((30 : Int32)).toInt = 30 := by decide
      have := mt ti_lt.mpr c_12
      exact vin (by omega) (by omega)
    refine x_ald (σ := σ) C0 hK hP 11 26 6 rfl o_34 (ix a2) rfl dX11_nearestTimes_34 ?_
    refine lv_isub hx hb dX11_nearestTimes_35 ?_
    refine va_mabs hx hb (hml.trans hl.1.symm) C0.2.2.2.2.1 (C0.2.2.2.2.2.1 _ w_744) (C0.2.2.2.2.2.1 _ w_745) (C0.2.2.2.2.2.1 _ w_80) (C0.2.2.2.2.2.1 _ w_746) (by decide) (Nat.le_of_ble_eq_true rfl) (Nat.zero_le _) (Nat.zero_le _) dX11_nearestTimes_36 ?_
    refine lv_istore (lv' := [(6, .int ((if 0 ≤ ((f_X5_middle ρ dt σ a1 a2 a5) - (σ 26 (ix a2))) then ((f_X5_middle ρ dt σ a1 a2 a5) - (σ 26 (ix a2))) else 0 - ((f_X5_middle ρ dt σ a1 a2 a5) - (σ 26 (ix a2)))))), (0, .ref (g.2.2 100)), (1, .ref (a1)), (2, .int (a2)), (3, .int (a3)), (4, .int (a4)), (5, .int (a5))]) hx hb dX11_nearestTimes_39 hl (by decide) rfl (fun ls hl => ?_)
    refine lv_iload hx hb dX11_nearestTimes_41 (lv_at hl 5 rfl) ?_
    refine lv_if_lt (tgt := 53) hx hb dX11_nearestTimes_43 (by decide) (fun c_43 => ?_) (fun c_43 => ?_)
    · have hT := hT_pos c_43 hT
      have j43_h5b : a5.toInt ≤ 30 := by
        have : ((30 : Int32)).toInt = 30 := by decide
        have : ((0 : Int32)).toInt = 0 := by decide
        have := mt ti_lt.mpr c_12
        have := ti_lt.mp c_43
        omega
      have j43_hm8 : (31 - a5.toInt).toNat < N8 + 1 := by
        have : ((30 : Int32)).toInt = 30 := by decide
        have : ((0 : Int32)).toInt = 0 := by decide
        have := mt ti_lt.mpr c_12
        have := ti_lt.mp c_43
        omega
      exact b_X11_nearestTimes_53 (g := g) (ρ := ρ) (dt := dt) (σ := σ) (a1 := a1) (a2 := a2) (a5 := a5) (a6 := (if 0 ≤ ((f_X5_middle ρ dt σ a1 a2 a5) - (σ 26 (ix a2))) then ((f_X5_middle ρ dt σ a1 a2 a5) - (σ 26 (ix a2))) else 0 - ((f_X5_middle ρ dt σ a1 a2 a5) - (σ 26 (ix a2))))) C0 hK8 hs h2 h2b h5 j43_h5b j43_hm8 hK hP hDD hB (lv_sub hl [1, 2, 3, 6, 0] rfl) hT
    · have hT := hT_neg c_43 hT
      refine lv_iload hx hb dX11_nearestTimes_46 (lv_at hl 0 rfl) ?_
      refine lv_iload hx hb dX11_nearestTimes_48 (lv_at hl 5 rfl) ?_
      refine lv_icmp_ge (tgt := 60) hx hb dX11_nearestTimes_50 (by decide) (fun c_50 => ?_) (fun c_50 => ?_)
      · have hT := hT_pos c_50 hT
        have j50_h5b : a5.toInt ≤ 30 := by
          have : ((30 : Int32)).toInt = 30 := by decide
          have : ((0 : Int32)).toInt = 0 := by decide
          have := mt ti_lt.mpr c_12
          have := mt ti_lt.mpr c_43
          have := ti_le.mp c_50
          omega
        have j50_hm8 : (31 - a5.toInt).toNat < N8 + 1 := by
          have : ((30 : Int32)).toInt = 30 := by decide
          have : ((0 : Int32)).toInt = 0 := by decide
          have := mt ti_lt.mpr c_12
          have := mt ti_lt.mpr c_43
          have := ti_le.mp c_50
          omega
        exact b_X11_nearestTimes_60 (g := g) (ρ := ρ) (dt := dt) (σ := σ) (a1 := a1) (a2 := a2) (a3 := a3) (a4 := a4) (a5 := a5) C0 hK8 hs h2 h2b h5 j50_h5b j50_hm8 hK hP hDD hB (lv_sub hl [1, 2, 3, 4, 5, 6] rfl) hT
      · have hT := hT_neg c_50 hT
        have j50_h5b : a5.toInt ≤ 30 := by
          have : ((30 : Int32)).toInt = 30 := by decide
          have : ((0 : Int32)).toInt = 0 := by decide
          have := mt ti_lt.mpr c_12
          have := mt ti_lt.mpr c_43
          have := mt ti_le.mpr c_50
          omega
        have j50_hm8 : (31 - a5.toInt).toNat < N8 + 1 := by
          have : ((30 : Int32)).toInt = 30 := by decide
          have : ((0 : Int32)).toInt = 0 := by decide
          have := mt ti_lt.mpr c_12
          have := mt ti_lt.mpr c_43
          have := mt ti_le.mpr c_50
          omega
        exact b_X11_nearestTimes_53 (g := g) (ρ := ρ) (dt := dt) (σ := σ) (a1 := a1) (a2 := a2) (a5 := a5) (a6 := (if 0 ≤ ((f_X5_middle ρ dt σ a1 a2 a5) - (σ 26 (ix a2))) then ((f_X5_middle ρ dt σ a1 a2 a5) - (σ 26 (ix a2))) else 0 - ((f_X5_middle ρ dt σ a1 a2 a5) - (σ 26 (ix a2))))) C0 hK8 hs h2 h2b h5 j50_h5b j50_hm8 hK hP hDD hB (lv_sub hl [1, 2, 3, 6, 0] rfl) hT
def g_X11_nearestTimes_8 (ρ : RR) (dt : Nat → Nat → Int32)  : Nat → St → Nat → Int32 → Int32 → Int32 → Int32 → Int32
  | 0 => fun σ a1 a2 a3 a4 a5 => 0
  | n + 1 => fun σ a1 a2 a3 a4 a5 => f_X11_nearestTimes_8 ρ dt  (g_X11_nearestTimes_8 ρ dt  n) σ a1 a2 a3 a4 a5
theorem l_X11_nearestTimes_8 {g : GG} {ρ : RR} {dt : Nat → Nat → Int32} {p : Program} {l : Launch} {e : Env} {s : State} {m : MethodId} {args : Array Value} {below : List Frame} {meth : Method} {c : Code}  {tgt : Int32}  (C0 : BC p s m args meth c cX11_nearestTimes RX11 7 (some .int))  : ∀ (n : Nat) (σ : St) (a1 : Nat) (a2 : Int32) (a3 : Int32) (a4 : Int32) (a5 : Int32), (∃ i, ρ 24 i = some a1) → (0 ≤ a2.toInt) → (a2.toInt < 6) → (0 ≤ a5.toInt) → (31 - a5.toInt).toNat < n → KK g s → va_P g.1 vwCl ((xW g ρ) σ) s.heap → va_D (fun _ => True) ((xW g ρ) σ) → XH g ρ dt s.heap →  ∀ {ls : Array Slot}, lv_has ls 7 [(0, .ref (g.2.2 100)), (1, .ref (a1)), (2, .int (a2)), (3, .int (a3)), (4, .int (a4)), (5, .int (a5))] → g_X11_nearestTimes_8 ρ dt  n σ a1 a2 a3 a4 a5 = tgt → W p l e { frames := 3, cells := 0, slots := 0, locals := 79 } s m args below meth c s.heap [] 0 0 (QPI below args s tgt) (F0 m 8 ls []) := by
  intro n
  induction n with
  | zero => intro σ a1 a2 a3 a4 a5 hs h2 h2b h5 hm; exact absurd hm (Nat.not_lt_zero _)
  | succ n ih =>
    intro σ a1 a2 a3 a4 a5 hs h2 h2b h5 hm  hK hP hDD hB ls hl hT
    exact b_X11_nearestTimes_8 (g := g) (ρ := ρ) (dt := dt) (K8 := g_X11_nearestTimes_8 ρ dt  n) (N8 := n) C0  (fun σ a1 a2 a3 a4 a5 hs h2 h2b h5 hmq => ih σ a1 a2 a3 a4 a5 hs h2 h2b h5 hmq) hs h2 h2b h5 hm hK hP hDD hB hl hT
def f_X11_nearestTimes (ρ : RR) (dt : Nat → Nat → Int32) (σ : St) (a1 : Nat) (a2 : Int32) : Int32 := (g_X11_nearestTimes_8 ρ dt  (32) σ a1 a2 (0 : Int32) (-1 : Int32) (0 : Int32))
set_option maxHeartbeats 600000 in
set_option maxRecDepth 100000 in
theorem k_X11_nearestTimes (l : Launch) (g : GG) (ρ : RR) (dt : Nat → Nat → Int32) (σ : St) (a1 : Nat) (a2 : Int32) (hs : ∃ i, ρ 24 i = some a1) (h2 : 0 ≤ a2.toInt) (h2b : a2.toInt < 6) : PI l yX11_nearestTimes (wsF yX11_nearestTimes cX11_nearestTimes 7 (some .int)) { frames := 3, cells := 0, slots := 0, locals := 79 } [.ref (g.2.2 100), .ref (a1), .int (a2)] (GB g (xW g ρ) (XB g ρ dt) σ) (f_X11_nearestTimes ρ dt σ a1 a2) := by
  refine start_PI (by decide) (Nat.le_of_ble_eq_true rfl) ?_
  intro p e s m args below meth c C0 hG ls hl
  obtain ⟨hK, hP, hDD, hB⟩ := hG
  obtain ⟨hx, hb, hr, hml, hown, hts, hlocks⟩ := id C0
  have hl : lv_has ls 7 [(0, .ref (g.2.2 100)), (1, .ref (a1)), (2, .int (a2))] := hl
  generalize hT : (f_X11_nearestTimes ρ dt σ a1 a2) = tgt
  unfold f_X11_nearestTimes at hT
  refine lv_iconst (v := (0 : Int32)) hx hb dX11_nearestTimes_0 (by decide) ?_
  refine lv_istore_n (lv' := [(3, .int ((0 : Int32))), (0, .ref (g.2.2 100)), (1, .ref (a1)), (2, .int (a2))]) hx hb dX11_nearestTimes_1 rfl hl (by decide) rfl (fun ls hl => ?_)
  refine lv_iconst (v := (-1 : Int32)) hx hb dX11_nearestTimes_2 (by decide) ?_
  refine lv_istore (lv' := [(4, .int ((-1 : Int32))), (3, .int ((0 : Int32))), (0, .ref (g.2.2 100)), (1, .ref (a1)), (2, .int (a2))]) hx hb dX11_nearestTimes_3 hl (by decide) rfl (fun ls hl => ?_)
  refine lv_iconst (v := (0 : Int32)) hx hb dX11_nearestTimes_5 (by decide) ?_
  refine lv_istore (lv' := [(5, .int ((0 : Int32))), (4, .int ((-1 : Int32))), (3, .int ((0 : Int32))), (0, .ref (g.2.2 100)), (1, .ref (a1)), (2, .int (a2))]) hx hb dX11_nearestTimes_6 hl (by decide) rfl (fun ls hl => ?_)
  have j6_h5 : 0 ≤ (0 : Int32).toInt := by
    have : ((0 : Int32)).toInt = 0 := by decide
    have : ((-1 : Int32)).toInt = -1 := by decide
    omega
  have j6_m : (31 - (0 : Int32).toInt).toNat < 32 := by
    have : ((0 : Int32)).toInt = 0 := by decide
    have : ((-1 : Int32)).toInt = -1 := by decide
    omega
  exact l_X11_nearestTimes_8 (g := g) (ρ := ρ) (dt := dt) C0   (32) σ a1 a2 (0 : Int32) (-1 : Int32) (0 : Int32) hs h2 h2b j6_h5 j6_m hK hP hDD hB (lv_sub hl [3, 4, 5, 2, 1, 0] rfl) hT
set_option maxRecDepth 20000 in
theorem w_740 : (Cond.methodLink RX11 195 yX11_nearestTimes) ∈ TB := inTB (List.mem_of_getElem? (i := 740) (by decide +kernel)) (by decide +kernel)
set_option maxRecDepth 20000 in
theorem w_743 : (Cond.code yX11_nearestTimes cX11_nearestTimes 7 (some .int)) ∈ TB := inTB (List.mem_of_getElem? (i := 743) (by decide +kernel)) (by decide +kernel)
set_option maxRecDepth 20000 in
theorem w_742 : (Cond.instanceMethod yX11_nearestTimes) ∈ TB := inTB (List.mem_of_getElem? (i := 742) (by decide +kernel)) (by decide +kernel)
set_option maxRecDepth 20000 in
theorem w_25 : (Cond.selects RX11 yX11_nearestTimes yX11_nearestTimes) ∈ TB := inTB (List.mem_of_getElem? (i := 25) (by decide +kernel)) (by decide +kernel)
theorem cf_X11_nearestTimes : CF yX11_nearestTimes cX11_nearestTimes 7 (some .int) 2 := ⟨w_742, w_25, w_71, w_743, by decide +kernel, by decide +kernel, by decide +kernel⟩
/-! ThreeMeasures.again -/
theorem dX11_again_0 : decode cX11_again 0 = .ok (.aload_n 0, 1) := by decide +kernel
theorem dX11_again_1 : decode cX11_again 1 = .ok (.getfield 12, 3) := by decide +kernel
theorem dX11_again_4 : decode cX11_again 4 = .ok (.iload_n 2, 1) := by decide +kernel
theorem dX11_again_5 : decode cX11_again 5 = .ok (.invokevirtual 87, 3) := by decide +kernel
theorem dX11_again_8 : decode cX11_again 8 = .ok (.astore 4, 2) := by decide +kernel
theorem dX11_again_10 : decode cX11_again 10 = .ok (.aload_n 0, 1) := by decide +kernel
theorem dX11_again_11 : decode cX11_again 11 = .ok (.getfield 12, 3) := by decide +kernel
theorem dX11_again_14 : decode cX11_again 14 = .ok (.iload_n 1, 1) := by decide +kernel
theorem dX11_again_15 : decode cX11_again 15 = .ok (.invokevirtual 121, 3) := by decide +kernel
theorem dX11_again_18 : decode cX11_again 18 = .ok (.ifCond .eq 8, 3) := by decide +kernel
theorem dX11_again_21 : decode cX11_again 21 = .ok (.aload 4, 2) := by decide +kernel
theorem dX11_again_23 : decode cX11_again 23 = .ok (.ifnonnull 5, 3) := by decide +kernel
theorem dX11_again_26 : decode cX11_again 26 = .ok (.iconst (-1), 1) := by decide +kernel
theorem dX11_again_27 : decode cX11_again 27 = .ok (.ireturn, 1) := by decide +kernel
theorem dX11_again_28 : decode cX11_again 28 = .ok (.iload_n 3, 1) := by decide +kernel
theorem dX11_again_29 : decode cX11_again 29 = .ok (.ifCond .lt 10, 3) := by decide +kernel
theorem dX11_again_32 : decode cX11_again 32 = .ok (.iload_n 3, 1) := by decide +kernel
theorem dX11_again_33 : decode cX11_again 33 = .ok (.sipush 999, 3) := by decide +kernel
theorem dX11_again_36 : decode cX11_again 36 = .ok (.if_icmp .le 6, 3) := by decide +kernel
theorem dX11_again_39 : decode cX11_again 39 = .ok (.bipush (-2), 2) := by decide +kernel
theorem dX11_again_41 : decode cX11_again 41 = .ok (.ireturn, 1) := by decide +kernel
theorem dX11_again_42 : decode cX11_again 42 = .ok (.aload_n 0, 1) := by decide +kernel
theorem dX11_again_43 : decode cX11_again 43 = .ok (.aload 4, 2) := by decide +kernel
theorem dX11_again_45 : decode cX11_again 45 = .ok (.iload_n 1, 1) := by decide +kernel
theorem dX11_again_46 : decode cX11_again 46 = .ok (.invokevirtual 195, 3) := by decide +kernel
theorem dX11_again_49 : decode cX11_again 49 = .ok (.istore 5, 2) := by decide +kernel
theorem dX11_again_51 : decode cX11_again 51 = .ok (.iload 5, 2) := by decide +kernel
theorem dX11_again_53 : decode cX11_again 53 = .ok (.aload_n 0, 1) := by decide +kernel
theorem dX11_again_54 : decode cX11_again 54 = .ok (.getfield 12, 3) := by decide +kernel
theorem dX11_again_57 : decode cX11_again 57 = .ok (.aload 4, 2) := by decide +kernel
theorem dX11_again_59 : decode cX11_again 59 = .ok (.iload_n 1, 1) := by decide +kernel
theorem dX11_again_60 : decode cX11_again 60 = .ok (.iload 5, 2) := by decide +kernel
theorem dX11_again_62 : decode cX11_again 62 = .ok (.invokevirtual 160, 3) := by decide +kernel
theorem dX11_again_65 : decode cX11_again 65 = .ok (.imul, 1) := by decide +kernel
theorem dX11_again_66 : decode cX11_again 66 = .ok (.istore 6, 2) := by decide +kernel
theorem dX11_again_68 : decode cX11_again 68 = .ok (.aload_n 0, 1) := by decide +kernel
theorem dX11_again_69 : decode cX11_again 69 = .ok (.getfield 12, 3) := by decide +kernel
theorem dX11_again_72 : decode cX11_again 72 = .ok (.iload_n 1, 1) := by decide +kernel
theorem dX11_again_73 : decode cX11_again 73 = .ok (.invokevirtual 125, 3) := by decide +kernel
theorem dX11_again_76 : decode cX11_again 76 = .ok (.istore 7, 2) := by decide +kernel
theorem dX11_again_78 : decode cX11_again 78 = .ok (.iconst 0, 1) := by decide +kernel
theorem dX11_again_79 : decode cX11_again 79 = .ok (.istore 8, 2) := by decide +kernel
theorem dX11_again_81 : decode cX11_again 81 = .ok (.iload 8, 2) := by decide +kernel
theorem dX11_again_83 : decode cX11_again 83 = .ok (.bipush 60, 2) := by decide +kernel
theorem dX11_again_85 : decode cX11_again 85 = .ok (.if_icmp .gt 34, 3) := by decide +kernel
theorem dX11_again_88 : decode cX11_again 88 = .ok (.iload 7, 2) := by decide +kernel
theorem dX11_again_90 : decode cX11_again 90 = .ok (.iload_n 3, 1) := by decide +kernel
theorem dX11_again_91 : decode cX11_again 91 = .ok (.if_icmp .gt 6, 3) := by decide +kernel
theorem dX11_again_94 : decode cX11_again 94 = .ok (.iload 8, 2) := by decide +kernel
theorem dX11_again_96 : decode cX11_again 96 = .ok (.ireturn, 1) := by decide +kernel
theorem dX11_again_97 : decode cX11_again 97 = .ok (.iload 7, 2) := by decide +kernel
theorem dX11_again_99 : decode cX11_again 99 = .ok (.iload 7, 2) := by decide +kernel
theorem dX11_again_101 : decode cX11_again 101 = .ok (.iconst 2, 1) := by decide +kernel
theorem dX11_again_102 : decode cX11_again 102 = .ok (.idiv, 1) := by decide +kernel
theorem dX11_again_103 : decode cX11_again 103 = .ok (.iload 6, 2) := by decide +kernel
theorem dX11_again_105 : decode cX11_again 105 = .ok (.invokestatic 145, 3) := by decide +kernel
theorem dX11_again_108 : decode cX11_again 108 = .ok (.invokestatic 154, 3) := by decide +kernel
theorem dX11_again_111 : decode cX11_again 111 = .ok (.istore 7, 2) := by decide +kernel
theorem dX11_again_113 : decode cX11_again 113 = .ok (.iinc 8 1, 3) := by decide +kernel
theorem dX11_again_116 : decode cX11_again 116 = .ok (.goto (-35), 3) := by decide +kernel
theorem dX11_again_119 : decode cX11_again 119 = .ok (.bipush (-5), 2) := by decide +kernel
theorem dX11_again_121 : decode cX11_again 121 = .ok (.ireturn, 1) := by decide +kernel
def f_X11_again_81 (ρ : RR) (dt : Nat → Nat → Int32) (K81 : St → Int32 → Int32 → Int32 → Int32 → Int32) (σ : St) (a3 : Int32) (a6 : Int32) (a7 : Int32) (a8 : Int32) : Int32 := (if (60 : Int32) < a8 then (-5 : Int32) else (if a3 < a7 then (K81 σ a3 a6 (if (if (a7 / (2 : Int32)) < a6 then a6 else (a7 / (2 : Int32))) < a7 then (if (a7 / (2 : Int32)) < a6 then a6 else (a7 / (2 : Int32))) else a7) (a8 + (1 : Int32))) else a8))
set_option maxHeartbeats 600000 in
set_option maxRecDepth 100000 in
theorem b_X11_again_81 {g : GG} {ρ : RR} {dt : Nat → Nat → Int32} {p : Program} {l : Launch} {e : Env} {s : State} {m : MethodId} {args : Array Value} {below : List Frame} {meth : Method} {c : Code}  {tgt : Int32} {K81 : St → Int32 → Int32 → Int32 → Int32 → Int32} {N81 : Nat} (C0 : BC p s m args meth c cX11_again RX11 9 (some .int)) (hK81 : ∀ (σ : St) (a3 : Int32) (a6 : Int32) (a7 : Int32) (a8 : Int32), (IX σ) → (0 ≤ a8.toInt) → (61 - a8.toInt).toNat < N81 → KK g s → va_P g.1 vwCl ((xW g ρ) σ) s.heap → va_D (fun _ => True) ((xW g ρ) σ) → XH g ρ dt s.heap →  ∀ {ls : Array Slot}, lv_has ls 9 [(0, .ref (g.2.2 100)), (3, .int (a3)), (6, .int (a6)), (7, .int (a7)), (8, .int (a8))] → K81 σ a3 a6 a7 a8 = tgt → W p l e { frames := 4, cells := 0, slots := 0, locals := 105 } s m args below meth c s.heap [] 0 0 (QPI below args s tgt) (F0 m 81 ls [])) {σ : St} {a3 : Int32} {a6 : Int32} {a7 : Int32} {a8 : Int32}  (hX : IX σ) (h8 : 0 ≤ a8.toInt) (hm : (61 - a8.toInt).toNat < N81 + 1) (hK : KK g s) (hP : va_P g.1 vwCl ((xW g ρ) σ) s.heap) (hDD : va_D (fun _ => True) ((xW g ρ) σ)) (hB : XH g ρ dt s.heap) {ls : Array Slot} (hl : lv_has ls 9 [(0, .ref (g.2.2 100)), (3, .int (a3)), (6, .int (a6)), (7, .int (a7)), (8, .int (a8))]) (hT : f_X11_again_81 ρ dt K81 σ a3 a6 a7 a8 = tgt) : W p l e { frames := 4, cells := 0, slots := 0, locals := 105 } s m args below meth c s.heap [] 0 0 (QPI below args s tgt) (F0 m 81 ls []) := by
  obtain ⟨hx, hb, hr, hml, hown, hts, hlocks⟩ := id C0
  unfold f_X11_again_81 at hT
  obtain ⟨⟨j1, j1'⟩, ⟨j3, j3'⟩, ⟨j5, j5'⟩, ⟨j8, j8'⟩, ⟨j9, j9'⟩, ⟨j12, j12'⟩, ⟨j14, j14'⟩, ⟨j17, j17'⟩, j81, jW⟩ := id hX
  refine lv_iload hx hb dX11_again_81 (lv_at hl 4 rfl) ?_
  refine lv_bipush (v := (60 : Int32)) hx hb dX11_again_83 (by decide) ?_
  refine lv_icmp_gt (tgt := 119) hx hb dX11_again_85 (by decide) (fun c_85 => ?_) (fun c_85 => ?_)
  · have hT := hT_pos c_85 hT
    refine lv_bipush (v := (-5 : Int32)) hx hb dX11_again_119 (by decide) ?_
    exact ret_PI C0 hT dX11_again_121
  · have hT := hT_neg c_85 hT
    refine lv_iload hx hb dX11_again_88 (lv_at hl 3 rfl) ?_
    refine lv_iload_n hx hb dX11_again_90 rfl (lv_at hl 1 rfl) ?_
    refine lv_icmp_gt (tgt := 97) hx hb dX11_again_91 (by decide) (fun c_91 => ?_) (fun c_91 => ?_)
    · have hT := hT_pos c_91 hT
      refine lv_iload hx hb dX11_again_97 (lv_at hl 3 rfl) ?_
      refine lv_iload hx hb dX11_again_99 (lv_at hl 3 rfl) ?_
      refine lv_iconst (v := (2 : Int32)) hx hb dX11_again_101 (by decide) ?_
      refine lv_idiv hx hb dX11_again_102 (by decide) ?_
      refine lv_iload hx hb dX11_again_103 (lv_at hl 2 rfl) ?_
      refine va_mmax hx hb (hml.trans hl.1.symm) C0.2.2.2.2.1 (C0.2.2.2.2.2.1 _ w_704) (C0.2.2.2.2.2.1 _ w_376) (C0.2.2.2.2.2.1 _ w_80) (C0.2.2.2.2.2.1 _ w_377) (by decide) (Nat.le_of_ble_eq_true rfl) (Nat.zero_le _) (Nat.zero_le _) dX11_again_105 ?_
      refine va_mmin hx hb (hml.trans hl.1.symm) C0.2.2.2.2.1 (C0.2.2.2.2.2.1 _ w_709) (C0.2.2.2.2.2.1 _ w_379) (C0.2.2.2.2.2.1 _ w_80) (C0.2.2.2.2.2.1 _ w_380) (by decide) (Nat.le_of_ble_eq_true rfl) (Nat.zero_le _) (Nat.zero_le _) dX11_again_108 ?_
      refine lv_istore (lv' := [(7, .int ((if (if (a7 / (2 : Int32)) < a6 then a6 else (a7 / (2 : Int32))) < a7 then (if (a7 / (2 : Int32)) < a6 then a6 else (a7 / (2 : Int32))) else a7))), (0, .ref (g.2.2 100)), (3, .int (a3)), (6, .int (a6)), (8, .int (a8))]) hx hb dX11_again_111 hl (by decide) rfl (fun ls hl => ?_)
      refine lv_iinc (v := (a8 + (1 : Int32))) (lv' := [(8, .int ((a8 + (1 : Int32)))), (7, .int ((if (if (a7 / (2 : Int32)) < a6 then a6 else (a7 / (2 : Int32))) < a7 then (if (a7 / (2 : Int32)) < a6 then a6 else (a7 / (2 : Int32))) else a7))), (0, .ref (g.2.2 100)), (3, .int (a3)), (6, .int (a6))]) hx hb dX11_again_113 hl (k := 4) rfl rfl (by decide) rfl (fun ls hl => ?_)
      refine lv_goto (tgt := 81) hx hb dX11_again_116 (by decide) ?_
      have j116_h8 : 0 ≤ (a8 + (1 : Int32)).toInt := by
        have : ((60 : Int32)).toInt = 60 := by decide
        have : ((1 : Int32)).toInt = 1 := by decide
        have := mt ti_lt.mpr c_85
        have := ti_lt.mp c_91
        try have := ti_add (a := a8) (b := (1 : Int32)) (by omega) (by omega)
        omega
      have j116_m : (61 - (a8 + (1 : Int32)).toInt).toNat < N81 := by
        have : ((60 : Int32)).toInt = 60 := by decide
        have : ((1 : Int32)).toInt = 1 := by decide
        have := mt ti_lt.mpr c_85
        have := ti_lt.mp c_91
        try have := ti_add (a := a8) (b := (1 : Int32)) (by omega) (by omega)
        omega
      exact hK81 σ a3 a6 (if (if (a7 / (2 : Int32)) < a6 then a6 else (a7 / (2 : Int32))) < a7 then (if (a7 / (2 : Int32)) < a6 then a6 else (a7 / (2 : Int32))) else a7) (a8 + (1 : Int32)) hX j116_h8 j116_m hK hP hDD hB (lv_sub hl [2, 3, 4, 1, 0] rfl) hT
    · have hT := hT_neg c_91 hT
      refine lv_iload hx hb dX11_again_94 (lv_at hl 4 rfl) ?_
      exact ret_PI C0 hT dX11_again_96
def g_X11_again_81 (ρ : RR) (dt : Nat → Nat → Int32)  : Nat → St → Int32 → Int32 → Int32 → Int32 → Int32
  | 0 => fun σ a3 a6 a7 a8 => 0
  | n + 1 => fun σ a3 a6 a7 a8 => f_X11_again_81 ρ dt  (g_X11_again_81 ρ dt  n) σ a3 a6 a7 a8
theorem l_X11_again_81 {g : GG} {ρ : RR} {dt : Nat → Nat → Int32} {p : Program} {l : Launch} {e : Env} {s : State} {m : MethodId} {args : Array Value} {below : List Frame} {meth : Method} {c : Code}  {tgt : Int32}  (C0 : BC p s m args meth c cX11_again RX11 9 (some .int))  : ∀ (n : Nat) (σ : St) (a3 : Int32) (a6 : Int32) (a7 : Int32) (a8 : Int32), (IX σ) → (0 ≤ a8.toInt) → (61 - a8.toInt).toNat < n → KK g s → va_P g.1 vwCl ((xW g ρ) σ) s.heap → va_D (fun _ => True) ((xW g ρ) σ) → XH g ρ dt s.heap →  ∀ {ls : Array Slot}, lv_has ls 9 [(0, .ref (g.2.2 100)), (3, .int (a3)), (6, .int (a6)), (7, .int (a7)), (8, .int (a8))] → g_X11_again_81 ρ dt  n σ a3 a6 a7 a8 = tgt → W p l e { frames := 4, cells := 0, slots := 0, locals := 105 } s m args below meth c s.heap [] 0 0 (QPI below args s tgt) (F0 m 81 ls []) := by
  intro n
  induction n with
  | zero => intro σ a3 a6 a7 a8 hX h8 hm; exact absurd hm (Nat.not_lt_zero _)
  | succ n ih =>
    intro σ a3 a6 a7 a8 hX h8 hm  hK hP hDD hB ls hl hT
    exact b_X11_again_81 (g := g) (ρ := ρ) (dt := dt) (K81 := g_X11_again_81 ρ dt  n) (N81 := n) C0  (fun σ a3 a6 a7 a8 hX h8 hmq => ih σ a3 a6 a7 a8 hX h8 hmq) hX h8 hm hK hP hDD hB hl hT
def f_X11_again (ρ : RR) (dt : Nat → Nat → Int32) (σ : St) (a1 : Int32) (a2 : Int32) (a3 : Int32) : Int32 := (if (f_X5_stickAt ρ σ a2) = none then (if (f_X5_isWall σ a1) = 0 then (-1 : Int32) else (-1 : Int32)) else (if (f_X5_isWall σ a1) = 0 then (-1 : Int32) else (if a3 < 0 then (-2 : Int32) else (if a3 ≤ (999 : Int32) then (g_X11_again_81 ρ dt  (62) σ a3 ((f_X11_nearestTimes ρ dt σ (rf (f_X5_stickAt ρ σ a2)) a1) * (f_X5_slack ρ dt σ (rf (f_X5_stickAt ρ σ a2)) a1 (f_X11_nearestTimes ρ dt σ (rf (f_X5_stickAt ρ σ a2)) a1))) (f_X5_gap σ a1) (0 : Int32)) else (-2 : Int32)))))
set_option maxHeartbeats 600000 in
set_option maxRecDepth 100000 in
theorem k_X11_again (l : Launch) (g : GG) (ρ : RR) (dt : Nat → Nat → Int32) (σ : St) (a1 : Int32) (a2 : Int32) (a3 : Int32) (hX : IX σ) : PI l yX11_again (wsF yX11_again cX11_again 9 (some .int)) { frames := 4, cells := 0, slots := 0, locals := 105 } [.ref (g.2.2 100), .int (a1), .int (a2), .int (a3)] (GB g (xW g ρ) (XB g ρ dt) σ) (f_X11_again ρ dt σ a1 a2 a3) := by
  refine start_PI (by decide) (Nat.le_of_ble_eq_true rfl) ?_
  intro p e s m args below meth c C0 hG ls hl
  obtain ⟨hK, hP, hDD, hB⟩ := hG
  obtain ⟨hx, hb, hr, hml, hown, hts, hlocks⟩ := id C0
  have hl : lv_has ls 9 [(0, .ref (g.2.2 100)), (1, .int (a1)), (2, .int (a2)), (3, .int (a3))] := hl
  generalize hT : (f_X11_again ρ dt σ a1 a2 a3) = tgt
  unfold f_X11_again at hT
  obtain ⟨⟨j1, j1'⟩, ⟨j3, j3'⟩, ⟨j5, j5'⟩, ⟨j8, j8'⟩, ⟨j9, j9'⟩, ⟨j12, j12'⟩, ⟨j14, j14'⟩, ⟨j17, j17'⟩, j81, jW⟩ := id hX
  refine lv_aload_n hx hb dX11_again_0 rfl (lv_at hl 0 rfl) ?_
  refine x_get (σ := σ) (v := .ref (g.2.2 101)) (fs := xF0 g ρ σ) 11 0 C0 uw_11 dc_11 hK hP rfl rfl 0 (by decide) rfl w_229 dX11_again_1 ?_
  refine lv_iload_n hx hb dX11_again_4 rfl (lv_at hl 2 rfl) ?_
  refine x_sa (σ := σ) (ρ := ρ) (dt := dt) (rest := []) C0 hK hP hDD hB cf_X5_stickAt w_586 (k_X5_stickAt l g ρ dt σ a2 hX) (F := (f_X5_stickAt ρ σ a2)) ⟨by decide, by decide⟩ hl.1 (Nat.le_of_ble_eq_true rfl) dX11_again_5 ?_
  by_cases c_5 : (f_X5_stickAt ρ σ a2) = none
  · have hT := hT_pos c_5 hT
    rw [va_rf_none c_5]
    refine lv_astoreN (lv' := [(4, .null), (0, .ref (g.2.2 100)), (1, .int (a1)), (2, .int (a2)), (3, .int (a3))]) hx hb dX11_again_8 hl (by decide) rfl (fun ls hl => ?_)
    refine lv_aload_n hx hb dX11_again_10 rfl (lv_at hl 1 rfl) ?_
    refine x_get (σ := σ) (v := .ref (g.2.2 101)) (fs := xF0 g ρ σ) 11 0 C0 uw_11 dc_11 hK hP rfl rfl 0 (by decide) rfl w_229 dX11_again_11 ?_
    refine lv_iload_n hx hb dX11_again_14 rfl (lv_at hl 2 rfl) ?_
    refine x_cn (rest := []) (As := [.int (a1)]) (σ := σ) (ρ := ρ) (dt := dt) (T := TX5) (N := 18) (fs := xF1 g ρ σ) 5 1 rfl rfl C0 hK hP hDD hB cf_X5_isWall w_615 (k_X5_isWall l g ρ dt σ a1 ) ⟨by decide, by decide⟩ hl.1 rfl rfl (Nat.le_of_ble_eq_true rfl) dX11_again_15 ⟨Nat.zero_le _, Nat.zero_le _⟩ ?_
    refine lv_if_eq (tgt := 26) hx hb dX11_again_18 (by decide) (fun c_18 => ?_) (fun c_18 => ?_)
    · have hT := hT_pos c_18 hT
      refine lv_iconst (v := (-1 : Int32)) hx hb dX11_again_26 (by decide) ?_
      exact ret_PI C0 hT dX11_again_27
    · have hT := hT_neg c_18 hT
      refine lv_aloadN hx hb dX11_again_21 (lv_at hl 0 rfl) ?_
      refine lv_ifnonnullN hx hb dX11_again_23 ?_
      refine lv_iconst (v := (-1 : Int32)) hx hb dX11_again_26 (by decide) ?_
      exact ret_PI C0 hT dX11_again_27
  · have hT := hT_neg c_5 hT
    rw [va_rf_some c_5]
    have s_5 := sa_in c_5
    refine lv_astore (lv' := [(4, .ref ((rf (f_X5_stickAt ρ σ a2)))), (0, .ref (g.2.2 100)), (1, .int (a1)), (2, .int (a2)), (3, .int (a3))]) hx hb dX11_again_8 hl (by decide) rfl (fun ls hl => ?_)
    refine lv_aload_n hx hb dX11_again_10 rfl (lv_at hl 1 rfl) ?_
    refine x_get (σ := σ) (v := .ref (g.2.2 101)) (fs := xF0 g ρ σ) 11 0 C0 uw_11 dc_11 hK hP rfl rfl 0 (by decide) rfl w_229 dX11_again_11 ?_
    refine lv_iload_n hx hb dX11_again_14 rfl (lv_at hl 2 rfl) ?_
    refine x_cn (rest := []) (As := [.int (a1)]) (σ := σ) (ρ := ρ) (dt := dt) (T := TX5) (N := 18) (fs := xF1 g ρ σ) 5 1 rfl rfl C0 hK hP hDD hB cf_X5_isWall w_615 (k_X5_isWall l g ρ dt σ a1 ) ⟨by decide, by decide⟩ hl.1 rfl rfl (Nat.le_of_ble_eq_true rfl) dX11_again_15 ⟨Nat.zero_le _, Nat.zero_le _⟩ ?_
    refine lv_if_eq (tgt := 26) hx hb dX11_again_18 (by decide) (fun c_18 => ?_) (fun c_18 => ?_)
    · have hT := hT_pos c_18 hT
      refine lv_iconst (v := (-1 : Int32)) hx hb dX11_again_26 (by decide) ?_
      exact ret_PI C0 hT dX11_again_27
    · have hT := hT_neg c_18 hT
      refine lv_aload hx hb dX11_again_21 (lv_at hl 0 rfl) ?_
      refine lv_ifnonnull (tgt := 28) hx hb dX11_again_23 (by decide) ?_
      refine lv_iload_n hx hb dX11_again_28 rfl (lv_at hl 4 rfl) ?_
      refine lv_if_lt (tgt := 39) hx hb dX11_again_29 (by decide) (fun c_29 => ?_) (fun c_29 => ?_)
      · have hT := hT_pos c_29 hT
        refine lv_bipush (v := (-2 : Int32)) hx hb dX11_again_39 (by decide) ?_
        exact ret_PI C0 hT dX11_again_41
      · have hT := hT_neg c_29 hT
        refine lv_iload_n hx hb dX11_again_32 rfl (lv_at hl 4 rfl) ?_
        refine lv_sipush (v := (999 : Int32)) hx hb dX11_again_33 (by decide) ?_
        refine lv_icmp_le (tgt := 42) hx hb dX11_again_36 (by decide) (fun c_36 => ?_) (fun c_36 => ?_)
        · have hT := hT_pos c_36 hT
          refine lv_aload_n hx hb dX11_again_42 rfl (lv_at hl 1 rfl) ?_
          refine lv_aload hx hb dX11_again_43 (lv_at hl 0 rfl) ?_
          refine lv_iload_n hx hb dX11_again_45 rfl (lv_at hl 2 rfl) ?_
          have q46_h2 : 0 ≤ a1.toInt := by
            have : ((0 : Int32)).toInt = 0 := by decide
            have : ((999 : Int32)).toInt = 999 := by decide
            have := xw_ne c_18
            have := mt ti_lt.mpr c_29
            have := ti_le.mp c_36
            omega
          have q46_h2b : a1.toInt < 6 := by
            have : ((0 : Int32)).toInt = 0 := by decide
            have : ((999 : Int32)).toInt = 999 := by decide
            have := xw_ne c_18
            have := mt ti_lt.mpr c_29
            have := ti_le.mp c_36
            omega
          refine x_ci (rest := []) (As := [.ref ((rf (f_X5_stickAt ρ σ a2))), .int (a1)]) (σ := σ) (ρ := ρ) (dt := dt) (T := TX11) (N := 10) (fs := xF0 g ρ σ) 11 0 rfl rfl C0 hK hP hDD hB cf_X11_nearestTimes w_740 (k_X11_nearestTimes l g ρ dt σ (rf (f_X5_stickAt ρ σ a2)) a1 ⟨_, (sa_some c_5)⟩ q46_h2 q46_h2b) ⟨by decide, by decide⟩ hl.1 rfl rfl (Nat.le_of_ble_eq_true rfl) dX11_again_46 ⟨Nat.zero_le _, Nat.zero_le _⟩ ?_
          refine lv_istore (lv' := [(5, .int ((f_X11_nearestTimes ρ dt σ (rf (f_X5_stickAt ρ σ a2)) a1))), (4, .ref ((rf (f_X5_stickAt ρ σ a2)))), (0, .ref (g.2.2 100)), (1, .int (a1)), (2, .int (a2)), (3, .int (a3))]) hx hb dX11_again_49 hl (by decide) rfl (fun ls hl => ?_)
          refine lv_iload hx hb dX11_again_51 (lv_at hl 0 rfl) ?_
          refine lv_aload_n hx hb dX11_again_53 rfl (lv_at hl 2 rfl) ?_
          refine x_get (σ := σ) (v := .ref (g.2.2 101)) (fs := xF0 g ρ σ) 11 0 C0 uw_11 dc_11 hK hP rfl rfl 0 (by decide) rfl w_229 dX11_again_54 ?_
          refine lv_aload hx hb dX11_again_57 (lv_at hl 1 rfl) ?_
          refine lv_iload_n hx hb dX11_again_59 rfl (lv_at hl 3 rfl) ?_
          refine lv_iload hx hb dX11_again_60 (lv_at hl 0 rfl) ?_
          refine x_cn (rest := [.int ((f_X11_nearestTimes ρ dt σ (rf (f_X5_stickAt ρ σ a2)) a1))]) (As := [.ref ((rf (f_X5_stickAt ρ σ a2))), .int (a1), .int ((f_X11_nearestTimes ρ dt σ (rf (f_X5_stickAt ρ σ a2)) a1))]) (σ := σ) (ρ := ρ) (dt := dt) (T := TX5) (N := 18) (fs := xF1 g ρ σ) 5 1 rfl rfl C0 hK hP hDD hB cf_X5_slack w_715 (k_X5_slack l g ρ dt σ (rf (f_X5_stickAt ρ σ a2)) a1 (f_X11_nearestTimes ρ dt σ (rf (f_X5_stickAt ρ σ a2)) a1) ⟨_, (sa_some c_5)⟩) ⟨by decide, by decide⟩ hl.1 rfl rfl (Nat.le_of_ble_eq_true rfl) dX11_again_62 ⟨Nat.zero_le _, Nat.zero_le _⟩ ?_
          refine lv_imul hx hb dX11_again_65 ?_
          refine lv_istore (lv' := [(6, .int (((f_X11_nearestTimes ρ dt σ (rf (f_X5_stickAt ρ σ a2)) a1) * (f_X5_slack ρ dt σ (rf (f_X5_stickAt ρ σ a2)) a1 (f_X11_nearestTimes ρ dt σ (rf (f_X5_stickAt ρ σ a2)) a1))))), (5, .int ((f_X11_nearestTimes ρ dt σ (rf (f_X5_stickAt ρ σ a2)) a1))), (4, .ref ((rf (f_X5_stickAt ρ σ a2)))), (0, .ref (g.2.2 100)), (1, .int (a1)), (2, .int (a2)), (3, .int (a3))]) hx hb dX11_again_66 hl (by decide) rfl (fun ls hl => ?_)
          refine lv_aload_n hx hb dX11_again_68 rfl (lv_at hl 3 rfl) ?_
          refine x_get (σ := σ) (v := .ref (g.2.2 101)) (fs := xF0 g ρ σ) 11 0 C0 uw_11 dc_11 hK hP rfl rfl 0 (by decide) rfl w_229 dX11_again_69 ?_
          refine lv_iload_n hx hb dX11_again_72 rfl (lv_at hl 4 rfl) ?_
          have q73_h1 : 0 ≤ a1.toInt := by
            have : ((0 : Int32)).toInt = 0 := by decide
            have : ((999 : Int32)).toInt = 999 := by decide
            have := xw_ne c_18
            have := mt ti_lt.mpr c_29
            have := ti_le.mp c_36
            omega
          have q73_h2 : a1.toInt < 6 := by
            have : ((0 : Int32)).toInt = 0 := by decide
            have : ((999 : Int32)).toInt = 999 := by decide
            have := xw_ne c_18
            have := mt ti_lt.mpr c_29
            have := ti_le.mp c_36
            omega
          refine x_cn (rest := []) (As := [.int (a1)]) (σ := σ) (ρ := ρ) (dt := dt) (T := TX5) (N := 18) (fs := xF1 g ρ σ) 5 1 rfl rfl C0 hK hP hDD hB cf_X5_gap w_619 (k_X5_gap l g ρ dt σ a1 q73_h1 q73_h2) ⟨by decide, by decide⟩ hl.1 rfl rfl (Nat.le_of_ble_eq_true rfl) dX11_again_73 ⟨Nat.zero_le _, Nat.zero_le _⟩ ?_
          refine lv_istore (lv' := [(7, .int ((f_X5_gap σ a1))), (6, .int (((f_X11_nearestTimes ρ dt σ (rf (f_X5_stickAt ρ σ a2)) a1) * (f_X5_slack ρ dt σ (rf (f_X5_stickAt ρ σ a2)) a1 (f_X11_nearestTimes ρ dt σ (rf (f_X5_stickAt ρ σ a2)) a1))))), (5, .int ((f_X11_nearestTimes ρ dt σ (rf (f_X5_stickAt ρ σ a2)) a1))), (4, .ref ((rf (f_X5_stickAt ρ σ a2)))), (0, .ref (g.2.2 100)), (1, .int (a1)), (2, .int (a2)), (3, .int (a3))]) hx hb dX11_again_76 hl (by decide) rfl (fun ls hl => ?_)
          refine lv_iconst (v := (0 : Int32)) hx hb dX11_again_78 (by decide) ?_
          refine lv_istore (lv' := [(8, .int ((0 : Int32))), (7, .int ((f_X5_gap σ a1))), (6, .int (((f_X11_nearestTimes ρ dt σ (rf (f_X5_stickAt ρ σ a2)) a1) * (f_X5_slack ρ dt σ (rf (f_X5_stickAt ρ σ a2)) a1 (f_X11_nearestTimes ρ dt σ (rf (f_X5_stickAt ρ σ a2)) a1))))), (5, .int ((f_X11_nearestTimes ρ dt σ (rf (f_X5_stickAt ρ σ a2)) a1))), (4, .ref ((rf (f_X5_stickAt ρ σ a2)))), (0, .ref (g.2.2 100)), (1, .int (a1)), (2, .int (a2)), (3, .int (a3))]) hx hb dX11_again_79 hl (by decide) rfl (fun ls hl => ?_)
          have j79_h8 : 0 ≤ (0 : Int32).toInt := by
            have : ((0 : Int32)).toInt = 0 := by decide
            have : ((999 : Int32)).toInt = 999 := by decide
            have := xw_ne c_18
            have := mt ti_lt.mpr c_29
            have := ti_le.mp c_36
            omega
          have j79_m : (61 - (0 : Int32).toInt).toNat < 62 := by
            have : ((0 : Int32)).toInt = 0 := by decide
            have : ((999 : Int32)).toInt = 999 := by decide
            have := xw_ne c_18
            have := mt ti_lt.mpr c_29
            have := ti_le.mp c_36
            omega
          exact l_X11_again_81 (g := g) (ρ := ρ) (dt := dt) C0   (62) σ a3 ((f_X11_nearestTimes ρ dt σ (rf (f_X5_stickAt ρ σ a2)) a1) * (f_X5_slack ρ dt σ (rf (f_X5_stickAt ρ σ a2)) a1 (f_X11_nearestTimes ρ dt σ (rf (f_X5_stickAt ρ σ a2)) a1))) (f_X5_gap σ a1) (0 : Int32) hX j79_h8 j79_m hK hP hDD hB (lv_sub hl [5, 8, 2, 1, 0] rfl) hT
        · have hT := hT_neg c_36 hT
          refine lv_bipush (v := (-2 : Int32)) hx hb dX11_again_39 (by decide) ?_
          exact ret_PI C0 hT dX11_again_41
/-! ThreeMeasures.isMarkedBy -/
theorem dX11_isMarkedBy_0 : decode cX11_isMarkedBy 0 = .ok (.iconst 0, 1) := by decide +kernel
theorem dX11_isMarkedBy_1 : decode cX11_isMarkedBy 1 = .ok (.istore 4, 2) := by decide +kernel
theorem dX11_isMarkedBy_3 : decode cX11_isMarkedBy 3 = .ok (.iload 4, 2) := by decide +kernel
theorem dX11_isMarkedBy_5 : decode cX11_isMarkedBy 5 = .ok (.aload_n 0, 1) := by decide +kernel
theorem dX11_isMarkedBy_6 : decode cX11_isMarkedBy 6 = .ok (.getfield 12, 3) := by decide +kernel
theorem dX11_isMarkedBy_9 : decode cX11_isMarkedBy 9 = .ok (.getfield 257, 3) := by decide +kernel
theorem dX11_isMarkedBy_12 : decode cX11_isMarkedBy 12 = .ok (.if_icmp .ge 65, 3) := by decide +kernel
theorem dX11_isMarkedBy_15 : decode cX11_isMarkedBy 15 = .ok (.aload_n 0, 1) := by decide +kernel
theorem dX11_isMarkedBy_16 : decode cX11_isMarkedBy 16 = .ok (.getfield 12, 3) := by decide +kernel
theorem dX11_isMarkedBy_19 : decode cX11_isMarkedBy 19 = .ok (.getfield 260, 3) := by decide +kernel
theorem dX11_isMarkedBy_22 : decode cX11_isMarkedBy 22 = .ok (.iload 4, 2) := by decide +kernel
theorem dX11_isMarkedBy_24 : decode cX11_isMarkedBy 24 = .ok (.iaload, 1) := by decide +kernel
theorem dX11_isMarkedBy_25 : decode cX11_isMarkedBy 25 = .ok (.istore 5, 2) := by decide +kernel
theorem dX11_isMarkedBy_27 : decode cX11_isMarkedBy 27 = .ok (.iload 4, 2) := by decide +kernel
theorem dX11_isMarkedBy_29 : decode cX11_isMarkedBy 29 = .ok (.iload_n 3, 1) := by decide +kernel
theorem dX11_isMarkedBy_30 : decode cX11_isMarkedBy 30 = .ok (.if_icmp .eq 41, 3) := by decide +kernel
theorem dX11_isMarkedBy_33 : decode cX11_isMarkedBy 33 = .ok (.iload 5, 2) := by decide +kernel
theorem dX11_isMarkedBy_35 : decode cX11_isMarkedBy 35 = .ok (.aload_n 0, 1) := by decide +kernel
theorem dX11_isMarkedBy_36 : decode cX11_isMarkedBy 36 = .ok (.getfield 12, 3) := by decide +kernel
theorem dX11_isMarkedBy_39 : decode cX11_isMarkedBy 39 = .ok (.aload_n 1, 1) := by decide +kernel
theorem dX11_isMarkedBy_40 : decode cX11_isMarkedBy 40 = .ok (.iload_n 2, 1) := by decide +kernel
theorem dX11_isMarkedBy_41 : decode cX11_isMarkedBy 41 = .ok (.iload 4, 2) := by decide +kernel
theorem dX11_isMarkedBy_43 : decode cX11_isMarkedBy 43 = .ok (.iconst 1, 1) := by decide +kernel
theorem dX11_isMarkedBy_44 : decode cX11_isMarkedBy 44 = .ok (.iadd, 1) := by decide +kernel
theorem dX11_isMarkedBy_45 : decode cX11_isMarkedBy 45 = .ok (.invokevirtual 141, 3) := by decide +kernel
theorem dX11_isMarkedBy_48 : decode cX11_isMarkedBy 48 = .ok (.if_icmp .lt 21, 3) := by decide +kernel
theorem dX11_isMarkedBy_51 : decode cX11_isMarkedBy 51 = .ok (.iload 5, 2) := by decide +kernel
theorem dX11_isMarkedBy_53 : decode cX11_isMarkedBy 53 = .ok (.aload_n 0, 1) := by decide +kernel
theorem dX11_isMarkedBy_54 : decode cX11_isMarkedBy 54 = .ok (.getfield 12, 3) := by decide +kernel
theorem dX11_isMarkedBy_57 : decode cX11_isMarkedBy 57 = .ok (.aload_n 1, 1) := by decide +kernel
theorem dX11_isMarkedBy_58 : decode cX11_isMarkedBy 58 = .ok (.iload_n 2, 1) := by decide +kernel
theorem dX11_isMarkedBy_59 : decode cX11_isMarkedBy 59 = .ok (.iload 4, 2) := by decide +kernel
theorem dX11_isMarkedBy_61 : decode cX11_isMarkedBy 61 = .ok (.iconst 1, 1) := by decide +kernel
theorem dX11_isMarkedBy_62 : decode cX11_isMarkedBy 62 = .ok (.iadd, 1) := by decide +kernel
theorem dX11_isMarkedBy_63 : decode cX11_isMarkedBy 63 = .ok (.invokevirtual 151, 3) := by decide +kernel
theorem dX11_isMarkedBy_66 : decode cX11_isMarkedBy 66 = .ok (.if_icmp .le 5, 3) := by decide +kernel
theorem dX11_isMarkedBy_69 : decode cX11_isMarkedBy 69 = .ok (.iconst 0, 1) := by decide +kernel
theorem dX11_isMarkedBy_70 : decode cX11_isMarkedBy 70 = .ok (.ireturn, 1) := by decide +kernel
theorem dX11_isMarkedBy_71 : decode cX11_isMarkedBy 71 = .ok (.iinc 4 1, 3) := by decide +kernel
theorem dX11_isMarkedBy_74 : decode cX11_isMarkedBy 74 = .ok (.goto (-71), 3) := by decide +kernel
theorem dX11_isMarkedBy_77 : decode cX11_isMarkedBy 77 = .ok (.iconst 1, 1) := by decide +kernel
theorem dX11_isMarkedBy_78 : decode cX11_isMarkedBy 78 = .ok (.ireturn, 1) := by decide +kernel
def f_X11_isMarkedBy_71 (ρ : RR) (dt : Nat → Nat → Int32) (K3 : St → Nat → Int32 → Int32 → Int32 → Int32) (σ : St) (a1 : Nat) (a2 : Int32) (a3 : Int32) (a4 : Int32) : Int32 := (K3 σ a1 a2 a3 (a4 + (1 : Int32)))
set_option maxHeartbeats 600000 in
set_option maxRecDepth 100000 in
theorem b_X11_isMarkedBy_71 {g : GG} {ρ : RR} {dt : Nat → Nat → Int32} {p : Program} {l : Launch} {e : Env} {s : State} {m : MethodId} {args : Array Value} {below : List Frame} {meth : Method} {c : Code}  {tgt : Int32} {K3 : St → Nat → Int32 → Int32 → Int32 → Int32} {N3 : Nat} (C0 : BC p s m args meth c cX11_isMarkedBy RX11 6 (some .boolean)) (hK3 : ∀ (σ : St) (a1 : Nat) (a2 : Int32) (a3 : Int32) (a4 : Int32), (IX σ) → (∃ i, ρ 24 i = some a1) → (0 ≤ a4.toInt) → ((σ 34 0).toInt - a4.toInt).toNat < N3 → KK g s → va_P g.1 vwCl ((xW g ρ) σ) s.heap → va_D (fun _ => True) ((xW g ρ) σ) → XH g ρ dt s.heap →  ∀ {ls : Array Slot}, lv_has ls 6 [(0, .ref (g.2.2 100)), (1, .ref (a1)), (2, .int (a2)), (3, .int (a3)), (4, .int (a4))] → K3 σ a1 a2 a3 a4 = tgt → W p l e { frames := 4, cells := 0, slots := 0, locals := 102 } s m args below meth c s.heap [] 0 0 (QPI below args s tgt) (F0 m 3 ls [])) {σ : St} {a1 : Nat} {a2 : Int32} {a3 : Int32} {a4 : Int32}  (hX : IX σ) (hs : ∃ i, ρ 24 i = some a1) (h4 : 0 ≤ a4.toInt) (h4b : a4.toInt < (σ 34 0).toInt) (hm3 : ((σ 34 0).toInt - a4.toInt).toNat < N3 + 1)  (hK : KK g s) (hP : va_P g.1 vwCl ((xW g ρ) σ) s.heap) (hDD : va_D (fun _ => True) ((xW g ρ) σ)) (hB : XH g ρ dt s.heap) {ls : Array Slot} (hl : lv_has ls 6 [(0, .ref (g.2.2 100)), (1, .ref (a1)), (2, .int (a2)), (3, .int (a3)), (4, .int (a4))]) (hT : f_X11_isMarkedBy_71 ρ dt K3 σ a1 a2 a3 a4 = tgt) : W p l e { frames := 4, cells := 0, slots := 0, locals := 102 } s m args below meth c s.heap [] 0 0 (QPI below args s tgt) (F0 m 71 ls []) := by
  obtain ⟨hx, hb, hr, hml, hown, hts, hlocks⟩ := id C0
  unfold f_X11_isMarkedBy_71 at hT
  obtain ⟨⟨j1, j1'⟩, ⟨j3, j3'⟩, ⟨j5, j5'⟩, ⟨j8, j8'⟩, ⟨j9, j9'⟩, ⟨j12, j12'⟩, ⟨j14, j14'⟩, ⟨j17, j17'⟩, j81, jW⟩ := id hX
  refine lv_iinc (v := (a4 + (1 : Int32))) (lv' := [(4, .int ((a4 + (1 : Int32)))), (0, .ref (g.2.2 100)), (1, .ref (a1)), (2, .int (a2)), (3, .int (a3))]) hx hb dX11_isMarkedBy_71 hl (k := 4) rfl rfl (by decide) rfl (fun ls hl => ?_)
  refine lv_goto (tgt := 3) hx hb dX11_isMarkedBy_74 (by decide) ?_
  have j74_h4 : 0 ≤ (a4 + (1 : Int32)).toInt := by
    have : ((1 : Int32)).toInt = 1 := by decide
    try have := ti_add (a := a4) (b := (1 : Int32)) (by omega) (by omega)
    omega
  have j74_m : ((σ 34 0).toInt - (a4 + (1 : Int32)).toInt).toNat < N3 := by
    have : ((1 : Int32)).toInt = 1 := by decide
    try have := ti_add (a := a4) (b := (1 : Int32)) (by omega) (by omega)
    omega
  exact hK3 σ a1 a2 a3 (a4 + (1 : Int32)) hX hs j74_h4 j74_m hK hP hDD hB (lv_sub hl [1, 2, 3, 4, 0] rfl) hT
def f_X11_isMarkedBy_3 (ρ : RR) (dt : Nat → Nat → Int32) (K3 : St → Nat → Int32 → Int32 → Int32 → Int32) (σ : St) (a1 : Nat) (a2 : Int32) (a3 : Int32) (a4 : Int32) : Int32 := (if (σ 34 0) ≤ a4 then (1 : Int32) else (if a4 = a3 then (f_X11_isMarkedBy_71 ρ dt K3 σ a1 a2 a3 a4) else (if (σ 33 (ix a4)) < (f_X5_least ρ dt σ a1 a2 (a4 + (1 : Int32))) then (0 : Int32) else (if (σ 33 (ix a4)) ≤ (f_X5_most ρ dt σ a1 a2 (a4 + (1 : Int32))) then (f_X11_isMarkedBy_71 ρ dt K3 σ a1 a2 a3 a4) else (0 : Int32)))))
set_option maxHeartbeats 600000 in
set_option maxRecDepth 100000 in
theorem b_X11_isMarkedBy_3 {g : GG} {ρ : RR} {dt : Nat → Nat → Int32} {p : Program} {l : Launch} {e : Env} {s : State} {m : MethodId} {args : Array Value} {below : List Frame} {meth : Method} {c : Code}  {tgt : Int32} {K3 : St → Nat → Int32 → Int32 → Int32 → Int32} {N3 : Nat} (C0 : BC p s m args meth c cX11_isMarkedBy RX11 6 (some .boolean)) (hK3 : ∀ (σ : St) (a1 : Nat) (a2 : Int32) (a3 : Int32) (a4 : Int32), (IX σ) → (∃ i, ρ 24 i = some a1) → (0 ≤ a4.toInt) → ((σ 34 0).toInt - a4.toInt).toNat < N3 → KK g s → va_P g.1 vwCl ((xW g ρ) σ) s.heap → va_D (fun _ => True) ((xW g ρ) σ) → XH g ρ dt s.heap →  ∀ {ls : Array Slot}, lv_has ls 6 [(0, .ref (g.2.2 100)), (1, .ref (a1)), (2, .int (a2)), (3, .int (a3)), (4, .int (a4))] → K3 σ a1 a2 a3 a4 = tgt → W p l e { frames := 4, cells := 0, slots := 0, locals := 102 } s m args below meth c s.heap [] 0 0 (QPI below args s tgt) (F0 m 3 ls [])) {σ : St} {a1 : Nat} {a2 : Int32} {a3 : Int32} {a4 : Int32}  (hX : IX σ) (hs : ∃ i, ρ 24 i = some a1) (h4 : 0 ≤ a4.toInt) (hm : ((σ 34 0).toInt - a4.toInt).toNat < N3 + 1) (hK : KK g s) (hP : va_P g.1 vwCl ((xW g ρ) σ) s.heap) (hDD : va_D (fun _ => True) ((xW g ρ) σ)) (hB : XH g ρ dt s.heap) {ls : Array Slot} (hl : lv_has ls 6 [(0, .ref (g.2.2 100)), (1, .ref (a1)), (2, .int (a2)), (3, .int (a3)), (4, .int (a4))]) (hT : f_X11_isMarkedBy_3 ρ dt K3 σ a1 a2 a3 a4 = tgt) : W p l e { frames := 4, cells := 0, slots := 0, locals := 102 } s m args below meth c s.heap [] 0 0 (QPI below args s tgt) (F0 m 3 ls []) := by
  obtain ⟨hx, hb, hr, hml, hown, hts, hlocks⟩ := id C0
  unfold f_X11_isMarkedBy_3 at hT
  obtain ⟨⟨j1, j1'⟩, ⟨j3, j3'⟩, ⟨j5, j5'⟩, ⟨j8, j8'⟩, ⟨j9, j9'⟩, ⟨j12, j12'⟩, ⟨j14, j14'⟩, ⟨j17, j17'⟩, j81, jW⟩ := id hX
  refine lv_iload hx hb dX11_isMarkedBy_3 (lv_at hl 4 rfl) ?_
  refine lv_aload_n hx hb dX11_isMarkedBy_5 rfl (lv_at hl 0 rfl) ?_
  refine x_get (σ := σ) (v := .ref (g.2.2 101)) (fs := xF0 g ρ σ) 11 0 C0 uw_11 dc_11 hK hP rfl rfl 0 (by decide) rfl w_229 dX11_isMarkedBy_6 ?_
  refine x_getN (σ := σ) (v := .int ((σ 34 0))) (fs := xF1 g ρ σ) 5 1 C0 uw_5 dc_5 hK hP rfl rfl 14 (by decide) rfl w_137 dX11_isMarkedBy_9 ?_
  refine lv_icmp_ge (tgt := 77) hx hb dX11_isMarkedBy_12 (by decide) (fun c_12 => ?_) (fun c_12 => ?_)
  · have hT := hT_pos c_12 hT
    refine lv_iconst (v := (1 : Int32)) hx hb dX11_isMarkedBy_77 (by decide) ?_
    exact ret_PZ C0 (nz_of (Or.inr rfl)) hT dX11_isMarkedBy_78
  · have hT := hT_neg c_12 hT
    refine lv_aload_n hx hb dX11_isMarkedBy_15 rfl (lv_at hl 0 rfl) ?_
    refine x_get (σ := σ) (v := .ref (g.2.2 101)) (fs := xF0 g ρ σ) 11 0 C0 uw_11 dc_11 hK hP rfl rfl 0 (by decide) rfl w_229 dX11_isMarkedBy_16 ?_
    refine x_getN (σ := σ) (v := .ref (g.2.2 33)) (fs := xF1 g ρ σ) 5 1 C0 uw_5 dc_5 hK hP rfl rfl 13 (by decide) rfl w_135 dX11_isMarkedBy_19 ?_
    refine lv_iload hx hb dX11_isMarkedBy_22 (lv_at hl 4 rfl) ?_
    have o_24 : vp_in a4 6 := by
      have := mt ti_le.mpr c_12
      exact vin (by omega) (by omega)
    refine x_ald (σ := σ) C0 hK hP 15 33 6 rfl o_24 (ix a4) rfl dX11_isMarkedBy_24 ?_
    refine lv_istore (lv' := [(5, .int ((σ 33 (ix a4)))), (0, .ref (g.2.2 100)), (1, .ref (a1)), (2, .int (a2)), (3, .int (a3)), (4, .int (a4))]) hx hb dX11_isMarkedBy_25 hl (by decide) rfl (fun ls hl => ?_)
    refine lv_iload hx hb dX11_isMarkedBy_27 (lv_at hl 5 rfl) ?_
    refine lv_iload_n hx hb dX11_isMarkedBy_29 rfl (lv_at hl 4 rfl) ?_
    refine lv_icmp_eq (tgt := 71) hx hb dX11_isMarkedBy_30 (by decide) (fun c_30 => ?_) (fun c_30 => ?_)
    · have hT := hT_pos c_30 hT
      have j30_h4b : a4.toInt < (σ 34 0).toInt := by
        have := mt ti_le.mpr c_12
        have := ti_eq.mp c_30
        omega
      have j30_hm3 : ((σ 34 0).toInt - a4.toInt).toNat < N3 + 1 := by
        have := mt ti_le.mpr c_12
        have := ti_eq.mp c_30
        omega
      exact b_X11_isMarkedBy_71 (g := g) (ρ := ρ) (dt := dt) (σ := σ) (a1 := a1) (a2 := a2) (a3 := a3) (a4 := a4) C0 hK3 hX hs h4 j30_h4b j30_hm3 hK hP hDD hB (lv_sub hl [1, 2, 3, 4, 5] rfl) hT
    · have hT := hT_neg c_30 hT
      refine lv_iload hx hb dX11_isMarkedBy_33 (lv_at hl 0 rfl) ?_
      refine lv_aload_n hx hb dX11_isMarkedBy_35 rfl (lv_at hl 1 rfl) ?_
      refine x_get (σ := σ) (v := .ref (g.2.2 101)) (fs := xF0 g ρ σ) 11 0 C0 uw_11 dc_11 hK hP rfl rfl 0 (by decide) rfl w_229 dX11_isMarkedBy_36 ?_
      refine lv_aload_n hx hb dX11_isMarkedBy_39 rfl (lv_at hl 2 rfl) ?_
      refine lv_iload_n hx hb dX11_isMarkedBy_40 rfl (lv_at hl 3 rfl) ?_
      refine lv_iload hx hb dX11_isMarkedBy_41 (lv_at hl 5 rfl) ?_
      refine lv_iconst (v := (1 : Int32)) hx hb dX11_isMarkedBy_43 (by decide) ?_
      refine lv_iadd hx hb dX11_isMarkedBy_44 ?_
      refine x_cn (rest := [.int ((σ 33 (ix a4)))]) (As := [.ref (a1), .int (a2), .int ((a4 + (1 : Int32)))]) (σ := σ) (ρ := ρ) (dt := dt) (T := TX5) (N := 18) (fs := xF1 g ρ σ) 5 1 rfl rfl C0 hK hP hDD hB cf_X5_least w_646 (k_X5_least l g ρ dt σ a1 a2 (a4 + (1 : Int32)) hs) ⟨by decide, by decide⟩ hl.1 rfl rfl (Nat.le_of_ble_eq_true rfl) dX11_isMarkedBy_45 ⟨Nat.zero_le _, Nat.zero_le _⟩ ?_
      refine lv_icmp_lt (tgt := 69) hx hb dX11_isMarkedBy_48 (by decide) (fun c_48 => ?_) (fun c_48 => ?_)
      · have hT := hT_pos c_48 hT
        refine lv_iconst (v := (0 : Int32)) hx hb dX11_isMarkedBy_69 (by decide) ?_
        exact ret_PZ C0 (nz_of (Or.inl rfl)) hT dX11_isMarkedBy_70
      · have hT := hT_neg c_48 hT
        refine lv_iload hx hb dX11_isMarkedBy_51 (lv_at hl 0 rfl) ?_
        refine lv_aload_n hx hb dX11_isMarkedBy_53 rfl (lv_at hl 1 rfl) ?_
        refine x_get (σ := σ) (v := .ref (g.2.2 101)) (fs := xF0 g ρ σ) 11 0 C0 uw_11 dc_11 hK hP rfl rfl 0 (by decide) rfl w_229 dX11_isMarkedBy_54 ?_
        refine lv_aload_n hx hb dX11_isMarkedBy_57 rfl (lv_at hl 2 rfl) ?_
        refine lv_iload_n hx hb dX11_isMarkedBy_58 rfl (lv_at hl 3 rfl) ?_
        refine lv_iload hx hb dX11_isMarkedBy_59 (lv_at hl 5 rfl) ?_
        refine lv_iconst (v := (1 : Int32)) hx hb dX11_isMarkedBy_61 (by decide) ?_
        refine lv_iadd hx hb dX11_isMarkedBy_62 ?_
        refine x_cn (rest := [.int ((σ 33 (ix a4)))]) (As := [.ref (a1), .int (a2), .int ((a4 + (1 : Int32)))]) (σ := σ) (ρ := ρ) (dt := dt) (T := TX5) (N := 18) (fs := xF1 g ρ σ) 5 1 rfl rfl C0 hK hP hDD hB cf_X5_most w_705 (k_X5_most l g ρ dt σ a1 a2 (a4 + (1 : Int32)) hs) ⟨by decide, by decide⟩ hl.1 rfl rfl (Nat.le_of_ble_eq_true rfl) dX11_isMarkedBy_63 ⟨Nat.zero_le _, Nat.zero_le _⟩ ?_
        refine lv_icmp_le (tgt := 71) hx hb dX11_isMarkedBy_66 (by decide) (fun c_66 => ?_) (fun c_66 => ?_)
        · have hT := hT_pos c_66 hT
          have j66_h4b : a4.toInt < (σ 34 0).toInt := by
            have := mt ti_le.mpr c_12
            have := mt ti_eq.mpr c_30
            have := mt ti_lt.mpr c_48
            have := ti_le.mp c_66
            omega
          have j66_hm3 : ((σ 34 0).toInt - a4.toInt).toNat < N3 + 1 := by
            have := mt ti_le.mpr c_12
            have := mt ti_eq.mpr c_30
            have := mt ti_lt.mpr c_48
            have := ti_le.mp c_66
            omega
          exact b_X11_isMarkedBy_71 (g := g) (ρ := ρ) (dt := dt) (σ := σ) (a1 := a1) (a2 := a2) (a3 := a3) (a4 := a4) C0 hK3 hX hs h4 j66_h4b j66_hm3 hK hP hDD hB (lv_sub hl [1, 2, 3, 4, 5] rfl) hT
        · have hT := hT_neg c_66 hT
          refine lv_iconst (v := (0 : Int32)) hx hb dX11_isMarkedBy_69 (by decide) ?_
          exact ret_PZ C0 (nz_of (Or.inl rfl)) hT dX11_isMarkedBy_70
def g_X11_isMarkedBy_3 (ρ : RR) (dt : Nat → Nat → Int32)  : Nat → St → Nat → Int32 → Int32 → Int32 → Int32
  | 0 => fun σ a1 a2 a3 a4 => 0
  | n + 1 => fun σ a1 a2 a3 a4 => f_X11_isMarkedBy_3 ρ dt  (g_X11_isMarkedBy_3 ρ dt  n) σ a1 a2 a3 a4
theorem l_X11_isMarkedBy_3 {g : GG} {ρ : RR} {dt : Nat → Nat → Int32} {p : Program} {l : Launch} {e : Env} {s : State} {m : MethodId} {args : Array Value} {below : List Frame} {meth : Method} {c : Code}  {tgt : Int32}  (C0 : BC p s m args meth c cX11_isMarkedBy RX11 6 (some .boolean))  : ∀ (n : Nat) (σ : St) (a1 : Nat) (a2 : Int32) (a3 : Int32) (a4 : Int32), (IX σ) → (∃ i, ρ 24 i = some a1) → (0 ≤ a4.toInt) → ((σ 34 0).toInt - a4.toInt).toNat < n → KK g s → va_P g.1 vwCl ((xW g ρ) σ) s.heap → va_D (fun _ => True) ((xW g ρ) σ) → XH g ρ dt s.heap →  ∀ {ls : Array Slot}, lv_has ls 6 [(0, .ref (g.2.2 100)), (1, .ref (a1)), (2, .int (a2)), (3, .int (a3)), (4, .int (a4))] → g_X11_isMarkedBy_3 ρ dt  n σ a1 a2 a3 a4 = tgt → W p l e { frames := 4, cells := 0, slots := 0, locals := 102 } s m args below meth c s.heap [] 0 0 (QPI below args s tgt) (F0 m 3 ls []) := by
  intro n
  induction n with
  | zero => intro σ a1 a2 a3 a4 hX hs h4 hm; exact absurd hm (Nat.not_lt_zero _)
  | succ n ih =>
    intro σ a1 a2 a3 a4 hX hs h4 hm  hK hP hDD hB ls hl hT
    exact b_X11_isMarkedBy_3 (g := g) (ρ := ρ) (dt := dt) (K3 := g_X11_isMarkedBy_3 ρ dt  n) (N3 := n) C0  (fun σ a1 a2 a3 a4 hX hs h4 hmq => ih σ a1 a2 a3 a4 hX hs h4 hmq) hX hs h4 hm hK hP hDD hB hl hT
def f_X11_isMarkedBy (ρ : RR) (dt : Nat → Nat → Int32) (σ : St) (a1 : Nat) (a2 : Int32) (a3 : Int32) : Int32 := (g_X11_isMarkedBy_3 ρ dt  (7) σ a1 a2 a3 (0 : Int32))
set_option maxHeartbeats 600000 in
set_option maxRecDepth 100000 in
theorem k_X11_isMarkedBy (l : Launch) (g : GG) (ρ : RR) (dt : Nat → Nat → Int32) (σ : St) (a1 : Nat) (a2 : Int32) (a3 : Int32) (hX : IX σ) (hs : ∃ i, ρ 24 i = some a1) : PI l yX11_isMarkedBy (wsF yX11_isMarkedBy cX11_isMarkedBy 6 (some .boolean)) { frames := 4, cells := 0, slots := 0, locals := 102 } [.ref (g.2.2 100), .ref (a1), .int (a2), .int (a3)] (GB g (xW g ρ) (XB g ρ dt) σ) (f_X11_isMarkedBy ρ dt σ a1 a2 a3) := by
  refine start_PI (by decide) (Nat.le_of_ble_eq_true rfl) ?_
  intro p e s m args below meth c C0 hG ls hl
  obtain ⟨hK, hP, hDD, hB⟩ := hG
  obtain ⟨hx, hb, hr, hml, hown, hts, hlocks⟩ := id C0
  have hl : lv_has ls 6 [(0, .ref (g.2.2 100)), (1, .ref (a1)), (2, .int (a2)), (3, .int (a3))] := hl
  generalize hT : (f_X11_isMarkedBy ρ dt σ a1 a2 a3) = tgt
  unfold f_X11_isMarkedBy at hT
  obtain ⟨⟨j1, j1'⟩, ⟨j3, j3'⟩, ⟨j5, j5'⟩, ⟨j8, j8'⟩, ⟨j9, j9'⟩, ⟨j12, j12'⟩, ⟨j14, j14'⟩, ⟨j17, j17'⟩, j81, jW⟩ := id hX
  refine lv_iconst (v := (0 : Int32)) hx hb dX11_isMarkedBy_0 (by decide) ?_
  refine lv_istore (lv' := [(4, .int ((0 : Int32))), (0, .ref (g.2.2 100)), (1, .ref (a1)), (2, .int (a2)), (3, .int (a3))]) hx hb dX11_isMarkedBy_1 hl (by decide) rfl (fun ls hl => ?_)
  have j1_h4 : 0 ≤ (0 : Int32).toInt := by
    have : ((0 : Int32)).toInt = 0 := by decide
    omega
  have j1_m : ((σ 34 0).toInt - (0 : Int32).toInt).toNat < 7 := by
    have : ((0 : Int32)).toInt = 0 := by decide
    omega
  exact l_X11_isMarkedBy_3 (g := g) (ρ := ρ) (dt := dt) C0   (7) σ a1 a2 a3 (0 : Int32) hX hs j1_h4 j1_m hK hP hDD hB (lv_sub hl [1, 2, 3, 4, 0] rfl) hT
set_option maxRecDepth 20000 in
theorem w_830 : (Cond.methodLink RX11 275 yX11_isMarkedBy) ∈ TB := inTB (List.mem_of_getElem? (i := 830) (by decide +kernel)) (by decide +kernel)
set_option maxRecDepth 20000 in
theorem w_833 : (Cond.code yX11_isMarkedBy cX11_isMarkedBy 6 (some .boolean)) ∈ TB := inTB (List.mem_of_getElem? (i := 833) (by decide +kernel)) (by decide +kernel)
set_option maxRecDepth 20000 in
theorem w_832 : (Cond.instanceMethod yX11_isMarkedBy) ∈ TB := inTB (List.mem_of_getElem? (i := 832) (by decide +kernel)) (by decide +kernel)
set_option maxRecDepth 20000 in
theorem w_34 : (Cond.selects RX11 yX11_isMarkedBy yX11_isMarkedBy) ∈ TB := inTB (List.mem_of_getElem? (i := 34) (by decide +kernel)) (by decide +kernel)
theorem cf_X11_isMarkedBy : CF yX11_isMarkedBy cX11_isMarkedBy 6 (some .boolean) 3 := ⟨w_832, w_34, w_71, w_833, by decide +kernel, by decide +kernel, by decide +kernel⟩
/-! ThreeMeasures.whoseWithout -/
theorem dX11_whoseWithout_0 : decode cX11_whoseWithout 0 = .ok (.iconst 0, 1) := by decide +kernel
theorem dX11_whoseWithout_1 : decode cX11_whoseWithout 1 = .ok (.istore_n 3, 1) := by decide +kernel
theorem dX11_whoseWithout_2 : decode cX11_whoseWithout 2 = .ok (.iconst 0, 1) := by decide +kernel
theorem dX11_whoseWithout_3 : decode cX11_whoseWithout 3 = .ok (.istore 4, 2) := by decide +kernel
theorem dX11_whoseWithout_5 : decode cX11_whoseWithout 5 = .ok (.iload 4, 2) := by decide +kernel
theorem dX11_whoseWithout_7 : decode cX11_whoseWithout 7 = .ok (.aload_n 0, 1) := by decide +kernel
theorem dX11_whoseWithout_8 : decode cX11_whoseWithout 8 = .ok (.getfield 12, 3) := by decide +kernel
theorem dX11_whoseWithout_11 : decode cX11_whoseWithout 11 = .ok (.getfield 76, 3) := by decide +kernel
theorem dX11_whoseWithout_14 : decode cX11_whoseWithout 14 = .ok (.if_icmp .ge 43, 3) := by decide +kernel
theorem dX11_whoseWithout_17 : decode cX11_whoseWithout 17 = .ok (.aload_n 0, 1) := by decide +kernel
theorem dX11_whoseWithout_18 : decode cX11_whoseWithout 18 = .ok (.getfield 12, 3) := by decide +kernel
theorem dX11_whoseWithout_21 : decode cX11_whoseWithout 21 = .ok (.iload 4, 2) := by decide +kernel
theorem dX11_whoseWithout_23 : decode cX11_whoseWithout 23 = .ok (.invokevirtual 87, 3) := by decide +kernel
theorem dX11_whoseWithout_26 : decode cX11_whoseWithout 26 = .ok (.astore 5, 2) := by decide +kernel
theorem dX11_whoseWithout_28 : decode cX11_whoseWithout 28 = .ok (.aload 5, 2) := by decide +kernel
theorem dX11_whoseWithout_30 : decode cX11_whoseWithout 30 = .ok (.ifnull 21, 3) := by decide +kernel
theorem dX11_whoseWithout_33 : decode cX11_whoseWithout 33 = .ok (.aload_n 0, 1) := by decide +kernel
theorem dX11_whoseWithout_34 : decode cX11_whoseWithout 34 = .ok (.aload 5, 2) := by decide +kernel
theorem dX11_whoseWithout_36 : decode cX11_whoseWithout 36 = .ok (.iload_n 1, 1) := by decide +kernel
theorem dX11_whoseWithout_37 : decode cX11_whoseWithout 37 = .ok (.iload_n 2, 1) := by decide +kernel
theorem dX11_whoseWithout_38 : decode cX11_whoseWithout 38 = .ok (.invokevirtual 275, 3) := by decide +kernel
theorem dX11_whoseWithout_41 : decode cX11_whoseWithout 41 = .ok (.ifCond .eq 10, 3) := by decide +kernel
theorem dX11_whoseWithout_44 : decode cX11_whoseWithout 44 = .ok (.iload_n 3, 1) := by decide +kernel
theorem dX11_whoseWithout_45 : decode cX11_whoseWithout 45 = .ok (.iconst 1, 1) := by decide +kernel
theorem dX11_whoseWithout_46 : decode cX11_whoseWithout 46 = .ok (.iload 4, 2) := by decide +kernel
theorem dX11_whoseWithout_48 : decode cX11_whoseWithout 48 = .ok (.ishl, 1) := by decide +kernel
theorem dX11_whoseWithout_49 : decode cX11_whoseWithout 49 = .ok (.ior, 1) := by decide +kernel
theorem dX11_whoseWithout_50 : decode cX11_whoseWithout 50 = .ok (.istore_n 3, 1) := by decide +kernel
theorem dX11_whoseWithout_51 : decode cX11_whoseWithout 51 = .ok (.iinc 4 1, 3) := by decide +kernel
theorem dX11_whoseWithout_54 : decode cX11_whoseWithout 54 = .ok (.goto (-49), 3) := by decide +kernel
theorem dX11_whoseWithout_57 : decode cX11_whoseWithout 57 = .ok (.iload_n 3, 1) := by decide +kernel
theorem dX11_whoseWithout_58 : decode cX11_whoseWithout 58 = .ok (.ireturn, 1) := by decide +kernel
def f_X11_whoseWithout_51 (ρ : RR) (dt : Nat → Nat → Int32) (K5 : St → Int32 → Int32 → Int32 → Int32 → Int32) (σ : St) (a1 : Int32) (a2 : Int32) (a3 : Int32) (a4 : Int32) : Int32 := (K5 σ a1 a2 a3 (a4 + (1 : Int32)))
set_option maxHeartbeats 600000 in
set_option maxRecDepth 100000 in
theorem b_X11_whoseWithout_51 {g : GG} {ρ : RR} {dt : Nat → Nat → Int32} {p : Program} {l : Launch} {e : Env} {s : State} {m : MethodId} {args : Array Value} {below : List Frame} {meth : Method} {c : Code}  {tgt : Int32} {K5 : St → Int32 → Int32 → Int32 → Int32 → Int32} {N5 : Nat} (C0 : BC p s m args meth c cX11_whoseWithout RX11 6 (some .int)) (hK5 : ∀ (σ : St) (a1 : Int32) (a2 : Int32) (a3 : Int32) (a4 : Int32), (IX σ) → (NN ρ (σ 25)) → (0 ≤ a4.toInt) → ((σ 25 0).toInt - a4.toInt).toNat < N5 → KK g s → va_P g.1 vwCl ((xW g ρ) σ) s.heap → va_D (fun _ => True) ((xW g ρ) σ) → XH g ρ dt s.heap →  ∀ {ls : Array Slot}, lv_has ls 6 [(0, .ref (g.2.2 100)), (1, .int (a1)), (2, .int (a2)), (3, .int (a3)), (4, .int (a4))] → K5 σ a1 a2 a3 a4 = tgt → W p l e { frames := 5, cells := 0, slots := 0, locals := 127 } s m args below meth c s.heap [] 0 0 (QPI below args s tgt) (F0 m 5 ls [])) {σ : St} {a1 : Int32} {a2 : Int32} {a3 : Int32} {a4 : Int32}  (hX : IX σ) (hN : NN ρ (σ 25)) (h4 : 0 ≤ a4.toInt) (h4b : a4.toInt < (σ 25 0).toInt) (hm5 : ((σ 25 0).toInt - a4.toInt).toNat < N5 + 1)  (hK : KK g s) (hP : va_P g.1 vwCl ((xW g ρ) σ) s.heap) (hDD : va_D (fun _ => True) ((xW g ρ) σ)) (hB : XH g ρ dt s.heap) {ls : Array Slot} (hl : lv_has ls 6 [(0, .ref (g.2.2 100)), (1, .int (a1)), (2, .int (a2)), (3, .int (a3)), (4, .int (a4))]) (hT : f_X11_whoseWithout_51 ρ dt K5 σ a1 a2 a3 a4 = tgt) : W p l e { frames := 5, cells := 0, slots := 0, locals := 127 } s m args below meth c s.heap [] 0 0 (QPI below args s tgt) (F0 m 51 ls []) := by
  obtain ⟨hx, hb, hr, hml, hown, hts, hlocks⟩ := id C0
  unfold f_X11_whoseWithout_51 at hT
  obtain ⟨⟨j1, j1'⟩, ⟨j3, j3'⟩, ⟨j5, j5'⟩, ⟨j8, j8'⟩, ⟨j9, j9'⟩, ⟨j12, j12'⟩, ⟨j14, j14'⟩, ⟨j17, j17'⟩, j81, jW⟩ := id hX
  refine lv_iinc (v := (a4 + (1 : Int32))) (lv' := [(4, .int ((a4 + (1 : Int32)))), (0, .ref (g.2.2 100)), (1, .int (a1)), (2, .int (a2)), (3, .int (a3))]) hx hb dX11_whoseWithout_51 hl (k := 4) rfl rfl (by decide) rfl (fun ls hl => ?_)
  refine lv_goto (tgt := 5) hx hb dX11_whoseWithout_54 (by decide) ?_
  have j54_h4 : 0 ≤ (a4 + (1 : Int32)).toInt := by
    have : ((1 : Int32)).toInt = 1 := by decide
    try have := ti_add (a := a4) (b := (1 : Int32)) (by omega) (by omega)
    omega
  have j54_m : ((σ 25 0).toInt - (a4 + (1 : Int32)).toInt).toNat < N5 := by
    have : ((1 : Int32)).toInt = 1 := by decide
    try have := ti_add (a := a4) (b := (1 : Int32)) (by omega) (by omega)
    omega
  exact hK5 σ a1 a2 a3 (a4 + (1 : Int32)) hX hN j54_h4 j54_m hK hP hDD hB (lv_sub hl [1, 2, 3, 4, 0] rfl) hT
def f_X11_whoseWithout_5 (ρ : RR) (dt : Nat → Nat → Int32) (K5 : St → Int32 → Int32 → Int32 → Int32 → Int32) (σ : St) (a1 : Int32) (a2 : Int32) (a3 : Int32) (a4 : Int32) : Int32 := (if (σ 25 0) ≤ a4 then a3 else (if (f_X11_isMarkedBy ρ dt σ (rf (f_X5_stickAt ρ σ a4)) a1 a2) = 0 then (f_X11_whoseWithout_51 ρ dt K5 σ a1 a2 a3 a4) else (f_X11_whoseWithout_51 ρ dt K5 σ a1 a2 (a3 ||| ((1 : Int32) <<< (a4 &&& 31))) a4)))
set_option maxHeartbeats 600000 in
set_option maxRecDepth 100000 in
theorem b_X11_whoseWithout_5 {g : GG} {ρ : RR} {dt : Nat → Nat → Int32} {p : Program} {l : Launch} {e : Env} {s : State} {m : MethodId} {args : Array Value} {below : List Frame} {meth : Method} {c : Code}  {tgt : Int32} {K5 : St → Int32 → Int32 → Int32 → Int32 → Int32} {N5 : Nat} (C0 : BC p s m args meth c cX11_whoseWithout RX11 6 (some .int)) (hK5 : ∀ (σ : St) (a1 : Int32) (a2 : Int32) (a3 : Int32) (a4 : Int32), (IX σ) → (NN ρ (σ 25)) → (0 ≤ a4.toInt) → ((σ 25 0).toInt - a4.toInt).toNat < N5 → KK g s → va_P g.1 vwCl ((xW g ρ) σ) s.heap → va_D (fun _ => True) ((xW g ρ) σ) → XH g ρ dt s.heap →  ∀ {ls : Array Slot}, lv_has ls 6 [(0, .ref (g.2.2 100)), (1, .int (a1)), (2, .int (a2)), (3, .int (a3)), (4, .int (a4))] → K5 σ a1 a2 a3 a4 = tgt → W p l e { frames := 5, cells := 0, slots := 0, locals := 127 } s m args below meth c s.heap [] 0 0 (QPI below args s tgt) (F0 m 5 ls [])) {σ : St} {a1 : Int32} {a2 : Int32} {a3 : Int32} {a4 : Int32}  (hX : IX σ) (hN : NN ρ (σ 25)) (h4 : 0 ≤ a4.toInt) (hm : ((σ 25 0).toInt - a4.toInt).toNat < N5 + 1) (hK : KK g s) (hP : va_P g.1 vwCl ((xW g ρ) σ) s.heap) (hDD : va_D (fun _ => True) ((xW g ρ) σ)) (hB : XH g ρ dt s.heap) {ls : Array Slot} (hl : lv_has ls 6 [(0, .ref (g.2.2 100)), (1, .int (a1)), (2, .int (a2)), (3, .int (a3)), (4, .int (a4))]) (hT : f_X11_whoseWithout_5 ρ dt K5 σ a1 a2 a3 a4 = tgt) : W p l e { frames := 5, cells := 0, slots := 0, locals := 127 } s m args below meth c s.heap [] 0 0 (QPI below args s tgt) (F0 m 5 ls []) := by
  obtain ⟨hx, hb, hr, hml, hown, hts, hlocks⟩ := id C0
  unfold f_X11_whoseWithout_5 at hT
  obtain ⟨⟨j1, j1'⟩, ⟨j3, j3'⟩, ⟨j5, j5'⟩, ⟨j8, j8'⟩, ⟨j9, j9'⟩, ⟨j12, j12'⟩, ⟨j14, j14'⟩, ⟨j17, j17'⟩, j81, jW⟩ := id hX
  refine lv_iload hx hb dX11_whoseWithout_5 (lv_at hl 4 rfl) ?_
  refine lv_aload_n hx hb dX11_whoseWithout_7 rfl (lv_at hl 0 rfl) ?_
  refine x_get (σ := σ) (v := .ref (g.2.2 101)) (fs := xF0 g ρ σ) 11 0 C0 uw_11 dc_11 hK hP rfl rfl 0 (by decide) rfl w_229 dX11_whoseWithout_8 ?_
  refine x_getN (σ := σ) (v := .int ((σ 25 0))) (fs := xF1 g ρ σ) 5 1 C0 uw_5 dc_5 hK hP rfl rfl 5 (by decide) rfl w_119 dX11_whoseWithout_11 ?_
  refine lv_icmp_ge (tgt := 57) hx hb dX11_whoseWithout_14 (by decide) (fun c_14 => ?_) (fun c_14 => ?_)
  · have hT := hT_pos c_14 hT
    refine lv_iload_n hx hb dX11_whoseWithout_57 rfl (lv_at hl 3 rfl) ?_
    exact ret_PI C0 hT dX11_whoseWithout_58
  · have hT := hT_neg c_14 hT
    refine lv_aload_n hx hb dX11_whoseWithout_17 rfl (lv_at hl 0 rfl) ?_
    refine x_get (σ := σ) (v := .ref (g.2.2 101)) (fs := xF0 g ρ σ) 11 0 C0 uw_11 dc_11 hK hP rfl rfl 0 (by decide) rfl w_229 dX11_whoseWithout_18 ?_
    refine lv_iload hx hb dX11_whoseWithout_21 (lv_at hl 4 rfl) ?_
    refine x_sa (σ := σ) (ρ := ρ) (dt := dt) (rest := []) C0 hK hP hDD hB cf_X5_stickAt w_586 (k_X5_stickAt l g ρ dt σ a4 hX) (F := (f_X5_stickAt ρ σ a4)) ⟨by decide, by decide⟩ hl.1 (Nat.le_of_ble_eq_true rfl) dX11_whoseWithout_23 ?_
    have c_23 : ¬ (f_X5_stickAt ρ σ a4) = none := NN_ok hN h4 c_14
    rw [va_rf_some c_23]
    refine lv_astore (lv' := [(5, .ref ((rf (f_X5_stickAt ρ σ a4)))), (0, .ref (g.2.2 100)), (1, .int (a1)), (2, .int (a2)), (3, .int (a3)), (4, .int (a4))]) hx hb dX11_whoseWithout_26 hl (by decide) rfl (fun ls hl => ?_)
    refine lv_aload hx hb dX11_whoseWithout_28 (lv_at hl 0 rfl) ?_
    refine lv_ifnull hx hb dX11_whoseWithout_30 ?_
    refine lv_aload_n hx hb dX11_whoseWithout_33 rfl (lv_at hl 1 rfl) ?_
    refine lv_aload hx hb dX11_whoseWithout_34 (lv_at hl 0 rfl) ?_
    refine lv_iload_n hx hb dX11_whoseWithout_36 rfl (lv_at hl 2 rfl) ?_
    refine lv_iload_n hx hb dX11_whoseWithout_37 rfl (lv_at hl 3 rfl) ?_
    refine x_ci (rest := []) (As := [.ref ((rf (f_X5_stickAt ρ σ a4))), .int (a1), .int (a2)]) (σ := σ) (ρ := ρ) (dt := dt) (T := TX11) (N := 10) (fs := xF0 g ρ σ) 11 0 rfl rfl C0 hK hP hDD hB cf_X11_isMarkedBy w_830 (k_X11_isMarkedBy l g ρ dt σ (rf (f_X5_stickAt ρ σ a4)) a1 a2 hX ⟨_, (sa_some c_23)⟩) ⟨by decide, by decide⟩ hl.1 rfl rfl (Nat.le_of_ble_eq_true rfl) dX11_whoseWithout_38 ⟨Nat.zero_le _, Nat.zero_le _⟩ ?_
    refine lv_if_eq (tgt := 51) hx hb dX11_whoseWithout_41 (by decide) (fun c_41 => ?_) (fun c_41 => ?_)
    · have hT := hT_pos c_41 hT
      have j41_h4b : a4.toInt < (σ 25 0).toInt := by
        have : ((0 : Int32)).toInt = 0 := by decide
        have := mt ti_le.mpr c_14
        have := ti_eq.mp c_41
        omega
      have j41_hm5 : ((σ 25 0).toInt - a4.toInt).toNat < N5 + 1 := by
        have : ((0 : Int32)).toInt = 0 := by decide
        have := mt ti_le.mpr c_14
        have := ti_eq.mp c_41
        omega
      exact b_X11_whoseWithout_51 (g := g) (ρ := ρ) (dt := dt) (σ := σ) (a1 := a1) (a2 := a2) (a3 := a3) (a4 := a4) C0 hK5 hX hN h4 j41_h4b j41_hm5 hK hP hDD hB (lv_sub hl [1, 2, 3, 4, 5] rfl) hT
    · have hT := hT_neg c_41 hT
      refine lv_iload_n hx hb dX11_whoseWithout_44 rfl (lv_at hl 4 rfl) ?_
      refine lv_iconst (v := (1 : Int32)) hx hb dX11_whoseWithout_45 (by decide) ?_
      refine lv_iload hx hb dX11_whoseWithout_46 (lv_at hl 5 rfl) ?_
      refine lv_ishl hx hb dX11_whoseWithout_48 ?_
      refine lv_ior hx hb dX11_whoseWithout_49 ?_
      refine lv_istore_n (lv' := [(3, .int ((a3 ||| ((1 : Int32) <<< (a4 &&& 31))))), (5, .ref ((rf (f_X5_stickAt ρ σ a4)))), (0, .ref (g.2.2 100)), (1, .int (a1)), (2, .int (a2)), (4, .int (a4))]) hx hb dX11_whoseWithout_50 rfl hl (by decide) rfl (fun ls hl => ?_)
      have j50_h4b : a4.toInt < (σ 25 0).toInt := by
        have : ((0 : Int32)).toInt = 0 := by decide
        have := mt ti_le.mpr c_14
        have := mt ti_eq.mpr c_41
        omega
      have j50_hm5 : ((σ 25 0).toInt - a4.toInt).toNat < N5 + 1 := by
        have : ((0 : Int32)).toInt = 0 := by decide
        have := mt ti_le.mpr c_14
        have := mt ti_eq.mpr c_41
        omega
      exact b_X11_whoseWithout_51 (g := g) (ρ := ρ) (dt := dt) (σ := σ) (a1 := a1) (a2 := a2) (a3 := (a3 ||| ((1 : Int32) <<< (a4 &&& 31)))) (a4 := a4) C0 hK5 hX hN h4 j50_h4b j50_hm5 hK hP hDD hB (lv_sub hl [2, 3, 4, 0, 5] rfl) hT
def g_X11_whoseWithout_5 (ρ : RR) (dt : Nat → Nat → Int32)  : Nat → St → Int32 → Int32 → Int32 → Int32 → Int32
  | 0 => fun σ a1 a2 a3 a4 => 0
  | n + 1 => fun σ a1 a2 a3 a4 => f_X11_whoseWithout_5 ρ dt  (g_X11_whoseWithout_5 ρ dt  n) σ a1 a2 a3 a4
theorem l_X11_whoseWithout_5 {g : GG} {ρ : RR} {dt : Nat → Nat → Int32} {p : Program} {l : Launch} {e : Env} {s : State} {m : MethodId} {args : Array Value} {below : List Frame} {meth : Method} {c : Code}  {tgt : Int32}  (C0 : BC p s m args meth c cX11_whoseWithout RX11 6 (some .int))  : ∀ (n : Nat) (σ : St) (a1 : Int32) (a2 : Int32) (a3 : Int32) (a4 : Int32), (IX σ) → (NN ρ (σ 25)) → (0 ≤ a4.toInt) → ((σ 25 0).toInt - a4.toInt).toNat < n → KK g s → va_P g.1 vwCl ((xW g ρ) σ) s.heap → va_D (fun _ => True) ((xW g ρ) σ) → XH g ρ dt s.heap →  ∀ {ls : Array Slot}, lv_has ls 6 [(0, .ref (g.2.2 100)), (1, .int (a1)), (2, .int (a2)), (3, .int (a3)), (4, .int (a4))] → g_X11_whoseWithout_5 ρ dt  n σ a1 a2 a3 a4 = tgt → W p l e { frames := 5, cells := 0, slots := 0, locals := 127 } s m args below meth c s.heap [] 0 0 (QPI below args s tgt) (F0 m 5 ls []) := by
  intro n
  induction n with
  | zero => intro σ a1 a2 a3 a4 hX hN h4 hm; exact absurd hm (Nat.not_lt_zero _)
  | succ n ih =>
    intro σ a1 a2 a3 a4 hX hN h4 hm  hK hP hDD hB ls hl hT
    exact b_X11_whoseWithout_5 (g := g) (ρ := ρ) (dt := dt) (K5 := g_X11_whoseWithout_5 ρ dt  n) (N5 := n) C0  (fun σ a1 a2 a3 a4 hX hN h4 hmq => ih σ a1 a2 a3 a4 hX hN h4 hmq) hX hN h4 hm hK hP hDD hB hl hT
def f_X11_whoseWithout (ρ : RR) (dt : Nat → Nat → Int32) (σ : St) (a1 : Int32) (a2 : Int32) : Int32 := (g_X11_whoseWithout_5 ρ dt  (7) σ a1 a2 (0 : Int32) (0 : Int32))
set_option maxHeartbeats 600000 in
set_option maxRecDepth 100000 in
theorem k_X11_whoseWithout (l : Launch) (g : GG) (ρ : RR) (dt : Nat → Nat → Int32) (σ : St) (a1 : Int32) (a2 : Int32) (hX : IX σ) (hN : NN ρ (σ 25)) : PI l yX11_whoseWithout (wsF yX11_whoseWithout cX11_whoseWithout 6 (some .int)) { frames := 5, cells := 0, slots := 0, locals := 127 } [.ref (g.2.2 100), .int (a1), .int (a2)] (GB g (xW g ρ) (XB g ρ dt) σ) (f_X11_whoseWithout ρ dt σ a1 a2) := by
  refine start_PI (by decide) (Nat.le_of_ble_eq_true rfl) ?_
  intro p e s m args below meth c C0 hG ls hl
  obtain ⟨hK, hP, hDD, hB⟩ := hG
  obtain ⟨hx, hb, hr, hml, hown, hts, hlocks⟩ := id C0
  have hl : lv_has ls 6 [(0, .ref (g.2.2 100)), (1, .int (a1)), (2, .int (a2))] := hl
  generalize hT : (f_X11_whoseWithout ρ dt σ a1 a2) = tgt
  unfold f_X11_whoseWithout at hT
  obtain ⟨⟨j1, j1'⟩, ⟨j3, j3'⟩, ⟨j5, j5'⟩, ⟨j8, j8'⟩, ⟨j9, j9'⟩, ⟨j12, j12'⟩, ⟨j14, j14'⟩, ⟨j17, j17'⟩, j81, jW⟩ := id hX
  refine lv_iconst (v := (0 : Int32)) hx hb dX11_whoseWithout_0 (by decide) ?_
  refine lv_istore_n (lv' := [(3, .int ((0 : Int32))), (0, .ref (g.2.2 100)), (1, .int (a1)), (2, .int (a2))]) hx hb dX11_whoseWithout_1 rfl hl (by decide) rfl (fun ls hl => ?_)
  refine lv_iconst (v := (0 : Int32)) hx hb dX11_whoseWithout_2 (by decide) ?_
  refine lv_istore (lv' := [(4, .int ((0 : Int32))), (3, .int ((0 : Int32))), (0, .ref (g.2.2 100)), (1, .int (a1)), (2, .int (a2))]) hx hb dX11_whoseWithout_3 hl (by decide) rfl (fun ls hl => ?_)
  have j3_h4 : 0 ≤ (0 : Int32).toInt := by
    have : ((0 : Int32)).toInt = 0 := by decide
    omega
  have j3_m : ((σ 25 0).toInt - (0 : Int32).toInt).toNat < 7 := by
    have : ((0 : Int32)).toInt = 0 := by decide
    omega
  exact l_X11_whoseWithout_5 (g := g) (ρ := ρ) (dt := dt) C0   (7) σ a1 a2 (0 : Int32) (0 : Int32) hX hN j3_h4 j3_m hK hP hDD hB (lv_sub hl [2, 3, 4, 1, 0] rfl) hT
set_option maxRecDepth 20000 in
theorem w_826 : (Cond.methodLink RX11 263 yX11_whoseWithout) ∈ TB := inTB (List.mem_of_getElem? (i := 826) (by decide +kernel)) (by decide +kernel)
set_option maxRecDepth 20000 in
theorem w_829 : (Cond.code yX11_whoseWithout cX11_whoseWithout 6 (some .int)) ∈ TB := inTB (List.mem_of_getElem? (i := 829) (by decide +kernel)) (by decide +kernel)
set_option maxRecDepth 20000 in
theorem w_828 : (Cond.instanceMethod yX11_whoseWithout) ∈ TB := inTB (List.mem_of_getElem? (i := 828) (by decide +kernel)) (by decide +kernel)
set_option maxRecDepth 20000 in
theorem w_33 : (Cond.selects RX11 yX11_whoseWithout yX11_whoseWithout) ∈ TB := inTB (List.mem_of_getElem? (i := 33) (by decide +kernel)) (by decide +kernel)
theorem cf_X11_whoseWithout : CF yX11_whoseWithout cX11_whoseWithout 6 (some .int) 2 := ⟨w_828, w_33, w_71, w_829, by decide +kernel, by decide +kernel, by decide +kernel⟩
/-! ThreeMeasures.whose -/
theorem dX11_whose_0 : decode cX11_whose 0 = .ok (.aload_n 0, 1) := by decide +kernel
theorem dX11_whose_1 : decode cX11_whose 1 = .ok (.getfield 12, 3) := by decide +kernel
theorem dX11_whose_4 : decode cX11_whose 4 = .ok (.iload_n 1, 1) := by decide +kernel
theorem dX11_whose_5 : decode cX11_whose 5 = .ok (.invokevirtual 121, 3) := by decide +kernel
theorem dX11_whose_8 : decode cX11_whose 8 = .ok (.ifCond .eq 12, 3) := by decide +kernel
theorem dX11_whose_11 : decode cX11_whose 11 = .ok (.aload_n 0, 1) := by decide +kernel
theorem dX11_whose_12 : decode cX11_whose 12 = .ok (.iload_n 1, 1) := by decide +kernel
theorem dX11_whose_13 : decode cX11_whose 13 = .ok (.iconst (-1), 1) := by decide +kernel
theorem dX11_whose_14 : decode cX11_whose 14 = .ok (.invokevirtual 263, 3) := by decide +kernel
theorem dX11_whose_17 : decode cX11_whose 17 = .ok (.goto 4, 3) := by decide +kernel
theorem dX11_whose_20 : decode cX11_whose 20 = .ok (.iconst (-1), 1) := by decide +kernel
theorem dX11_whose_21 : decode cX11_whose 21 = .ok (.ireturn, 1) := by decide +kernel
def f_X11_whose (ρ : RR) (dt : Nat → Nat → Int32) (σ : St) (a1 : Int32) : Int32 := (if (f_X5_isWall σ a1) = 0 then (-1 : Int32) else (f_X11_whoseWithout ρ dt σ a1 (-1 : Int32)))
set_option maxHeartbeats 600000 in
set_option maxRecDepth 100000 in
theorem k_X11_whose (l : Launch) (g : GG) (ρ : RR) (dt : Nat → Nat → Int32) (σ : St) (a1 : Int32) (hX : IX σ) (hN : NN ρ (σ 25)) : PI l yX11_whose (wsF yX11_whose cX11_whose 2 (some .int)) { frames := 6, cells := 0, slots := 0, locals := 152 } [.ref (g.2.2 100), .int (a1)] (GB g (xW g ρ) (XB g ρ dt) σ) (f_X11_whose ρ dt σ a1) := by
  refine start_PI (by decide) (Nat.le_of_ble_eq_true rfl) ?_
  intro p e s m args below meth c C0 hG ls hl
  obtain ⟨hK, hP, hDD, hB⟩ := hG
  obtain ⟨hx, hb, hr, hml, hown, hts, hlocks⟩ := id C0
  have hl : lv_has ls 2 [(0, .ref (g.2.2 100)), (1, .int (a1))] := hl
  generalize hT : (f_X11_whose ρ dt σ a1) = tgt
  unfold f_X11_whose at hT
  obtain ⟨⟨j1, j1'⟩, ⟨j3, j3'⟩, ⟨j5, j5'⟩, ⟨j8, j8'⟩, ⟨j9, j9'⟩, ⟨j12, j12'⟩, ⟨j14, j14'⟩, ⟨j17, j17'⟩, j81, jW⟩ := id hX
  refine lv_aload_n hx hb dX11_whose_0 rfl (lv_at hl 0 rfl) ?_
  refine x_get (σ := σ) (v := .ref (g.2.2 101)) (fs := xF0 g ρ σ) 11 0 C0 uw_11 dc_11 hK hP rfl rfl 0 (by decide) rfl w_229 dX11_whose_1 ?_
  refine lv_iload_n hx hb dX11_whose_4 rfl (lv_at hl 1 rfl) ?_
  refine x_cn (rest := []) (As := [.int (a1)]) (σ := σ) (ρ := ρ) (dt := dt) (T := TX5) (N := 18) (fs := xF1 g ρ σ) 5 1 rfl rfl C0 hK hP hDD hB cf_X5_isWall w_615 (k_X5_isWall l g ρ dt σ a1 ) ⟨by decide, by decide⟩ hl.1 rfl rfl (Nat.le_of_ble_eq_true rfl) dX11_whose_5 ⟨Nat.zero_le _, Nat.zero_le _⟩ ?_
  have J8 : ∀ v : Int32, v = (if (f_X5_isWall σ a1) = 0 then (-1 : Int32) else (f_X11_whoseWithout ρ dt σ a1 (-1 : Int32))) → W p l e { frames := 6, cells := 0, slots := 0, locals := 152 } s m args below meth c s.heap [] 0 0 (QPI below args s tgt) (F0 m 21 ls [.int (v)]) := by
    intro v ev
    subst ev
    exact ret_PI C0 hT dX11_whose_21
  refine lv_if_eq (tgt := 20) hx hb dX11_whose_8 (by decide) (fun c_8 => ?_) (fun c_8 => ?_)
  · refine lv_iconst (v := (-1 : Int32)) hx hb dX11_whose_20 (by decide) ?_
    exact J8 _ (iv_pos c_8 rfl)
  · refine lv_aload_n hx hb dX11_whose_11 rfl (lv_at hl 0 rfl) ?_
    refine lv_iload_n hx hb dX11_whose_12 rfl (lv_at hl 1 rfl) ?_
    refine lv_iconst (v := (-1 : Int32)) hx hb dX11_whose_13 (by decide) ?_
    refine x_ci (rest := []) (As := [.int (a1), .int ((-1 : Int32))]) (σ := σ) (ρ := ρ) (dt := dt) (T := TX11) (N := 10) (fs := xF0 g ρ σ) 11 0 rfl rfl C0 hK hP hDD hB cf_X11_whoseWithout w_826 (k_X11_whoseWithout l g ρ dt σ a1 (-1 : Int32) hX hN) ⟨by decide, by decide⟩ hl.1 rfl rfl (Nat.le_of_ble_eq_true rfl) dX11_whose_14 ⟨Nat.zero_le _, Nat.zero_le _⟩ ?_
    refine lv_goto (tgt := 21) hx hb dX11_whose_17 (by decide) ?_
    exact J8 _ (iv_neg c_8 rfl)
/-! ThreeMeasures.wrong -/
theorem dX11_wrong_0 : decode cX11_wrong 0 = .ok (.aload_n 0, 1) := by decide +kernel
theorem dX11_wrong_1 : decode cX11_wrong 1 = .ok (.getfield 12, 3) := by decide +kernel
theorem dX11_wrong_4 : decode cX11_wrong 4 = .ok (.iload_n 1, 1) := by decide +kernel
theorem dX11_wrong_5 : decode cX11_wrong 5 = .ok (.invokevirtual 121, 3) := by decide +kernel
theorem dX11_wrong_8 : decode cX11_wrong 8 = .ok (.ifCond .ne 5, 3) := by decide +kernel
theorem dX11_wrong_11 : decode cX11_wrong 11 = .ok (.iconst (-1), 1) := by decide +kernel
theorem dX11_wrong_12 : decode cX11_wrong 12 = .ok (.ireturn, 1) := by decide +kernel
theorem dX11_wrong_13 : decode cX11_wrong 13 = .ok (.aload_n 0, 1) := by decide +kernel
theorem dX11_wrong_14 : decode cX11_wrong 14 = .ok (.iload_n 1, 1) := by decide +kernel
theorem dX11_wrong_15 : decode cX11_wrong 15 = .ok (.iconst (-1), 1) := by decide +kernel
theorem dX11_wrong_16 : decode cX11_wrong 16 = .ok (.invokevirtual 263, 3) := by decide +kernel
theorem dX11_wrong_19 : decode cX11_wrong 19 = .ok (.ifCond .eq 6, 3) := by decide +kernel
theorem dX11_wrong_22 : decode cX11_wrong 22 = .ok (.bipush (-5), 2) := by decide +kernel
theorem dX11_wrong_24 : decode cX11_wrong 24 = .ok (.ireturn, 1) := by decide +kernel
theorem dX11_wrong_25 : decode cX11_wrong 25 = .ok (.iconst 0, 1) := by decide +kernel
theorem dX11_wrong_26 : decode cX11_wrong 26 = .ok (.istore_n 2, 1) := by decide +kernel
theorem dX11_wrong_27 : decode cX11_wrong 27 = .ok (.iload_n 2, 1) := by decide +kernel
theorem dX11_wrong_28 : decode cX11_wrong 28 = .ok (.aload_n 0, 1) := by decide +kernel
theorem dX11_wrong_29 : decode cX11_wrong 29 = .ok (.getfield 12, 3) := by decide +kernel
theorem dX11_wrong_32 : decode cX11_wrong 32 = .ok (.getfield 257, 3) := by decide +kernel
theorem dX11_wrong_35 : decode cX11_wrong 35 = .ok (.if_icmp .ge 20, 3) := by decide +kernel
theorem dX11_wrong_38 : decode cX11_wrong 38 = .ok (.aload_n 0, 1) := by decide +kernel
theorem dX11_wrong_39 : decode cX11_wrong 39 = .ok (.iload_n 1, 1) := by decide +kernel
theorem dX11_wrong_40 : decode cX11_wrong 40 = .ok (.iload_n 2, 1) := by decide +kernel
theorem dX11_wrong_41 : decode cX11_wrong 41 = .ok (.invokevirtual 263, 3) := by decide +kernel
theorem dX11_wrong_44 : decode cX11_wrong 44 = .ok (.ifCond .eq 5, 3) := by decide +kernel
theorem dX11_wrong_47 : decode cX11_wrong 47 = .ok (.iload_n 2, 1) := by decide +kernel
theorem dX11_wrong_48 : decode cX11_wrong 48 = .ok (.ireturn, 1) := by decide +kernel
theorem dX11_wrong_49 : decode cX11_wrong 49 = .ok (.iinc 2 1, 3) := by decide +kernel
theorem dX11_wrong_52 : decode cX11_wrong 52 = .ok (.goto (-25), 3) := by decide +kernel
theorem dX11_wrong_55 : decode cX11_wrong 55 = .ok (.bipush (-5), 2) := by decide +kernel
theorem dX11_wrong_57 : decode cX11_wrong 57 = .ok (.ireturn, 1) := by decide +kernel
def f_X11_wrong_27 (ρ : RR) (dt : Nat → Nat → Int32) (K27 : St → Int32 → Int32 → Int32) (σ : St) (a1 : Int32) (a2 : Int32) : Int32 := (if (σ 34 0) ≤ a2 then (-5 : Int32) else (if (f_X11_whoseWithout ρ dt σ a1 a2) = 0 then (K27 σ a1 (a2 + (1 : Int32))) else a2))
set_option maxHeartbeats 600000 in
set_option maxRecDepth 100000 in
theorem b_X11_wrong_27 {g : GG} {ρ : RR} {dt : Nat → Nat → Int32} {p : Program} {l : Launch} {e : Env} {s : State} {m : MethodId} {args : Array Value} {below : List Frame} {meth : Method} {c : Code}  {tgt : Int32} {K27 : St → Int32 → Int32 → Int32} {N27 : Nat} (C0 : BC p s m args meth c cX11_wrong RX11 3 (some .int)) (hK27 : ∀ (σ : St) (a1 : Int32) (a2 : Int32), (IX σ) → (NN ρ (σ 25)) → (0 ≤ a2.toInt) → ((σ 34 0).toInt - a2.toInt).toNat < N27 → KK g s → va_P g.1 vwCl ((xW g ρ) σ) s.heap → va_D (fun _ => True) ((xW g ρ) σ) → XH g ρ dt s.heap →  ∀ {ls : Array Slot}, lv_has ls 3 [(0, .ref (g.2.2 100)), (1, .int (a1)), (2, .int (a2))] → K27 σ a1 a2 = tgt → W p l e { frames := 6, cells := 0, slots := 0, locals := 152 } s m args below meth c s.heap [] 0 0 (QPI below args s tgt) (F0 m 27 ls [])) {σ : St} {a1 : Int32} {a2 : Int32}  (hX : IX σ) (hN : NN ρ (σ 25)) (h2 : 0 ≤ a2.toInt) (hm : ((σ 34 0).toInt - a2.toInt).toNat < N27 + 1) (hK : KK g s) (hP : va_P g.1 vwCl ((xW g ρ) σ) s.heap) (hDD : va_D (fun _ => True) ((xW g ρ) σ)) (hB : XH g ρ dt s.heap) {ls : Array Slot} (hl : lv_has ls 3 [(0, .ref (g.2.2 100)), (1, .int (a1)), (2, .int (a2))]) (hT : f_X11_wrong_27 ρ dt K27 σ a1 a2 = tgt) : W p l e { frames := 6, cells := 0, slots := 0, locals := 152 } s m args below meth c s.heap [] 0 0 (QPI below args s tgt) (F0 m 27 ls []) := by
  obtain ⟨hx, hb, hr, hml, hown, hts, hlocks⟩ := id C0
  unfold f_X11_wrong_27 at hT
  obtain ⟨⟨j1, j1'⟩, ⟨j3, j3'⟩, ⟨j5, j5'⟩, ⟨j8, j8'⟩, ⟨j9, j9'⟩, ⟨j12, j12'⟩, ⟨j14, j14'⟩, ⟨j17, j17'⟩, j81, jW⟩ := id hX
  refine lv_iload_n hx hb dX11_wrong_27 rfl (lv_at hl 2 rfl) ?_
  refine lv_aload_n hx hb dX11_wrong_28 rfl (lv_at hl 0 rfl) ?_
  refine x_get (σ := σ) (v := .ref (g.2.2 101)) (fs := xF0 g ρ σ) 11 0 C0 uw_11 dc_11 hK hP rfl rfl 0 (by decide) rfl w_229 dX11_wrong_29 ?_
  refine x_getN (σ := σ) (v := .int ((σ 34 0))) (fs := xF1 g ρ σ) 5 1 C0 uw_5 dc_5 hK hP rfl rfl 14 (by decide) rfl w_137 dX11_wrong_32 ?_
  refine lv_icmp_ge (tgt := 55) hx hb dX11_wrong_35 (by decide) (fun c_35 => ?_) (fun c_35 => ?_)
  · have hT := hT_pos c_35 hT
    refine lv_bipush (v := (-5 : Int32)) hx hb dX11_wrong_55 (by decide) ?_
    exact ret_PI C0 hT dX11_wrong_57
  · have hT := hT_neg c_35 hT
    refine lv_aload_n hx hb dX11_wrong_38 rfl (lv_at hl 0 rfl) ?_
    refine lv_iload_n hx hb dX11_wrong_39 rfl (lv_at hl 1 rfl) ?_
    refine lv_iload_n hx hb dX11_wrong_40 rfl (lv_at hl 2 rfl) ?_
    refine x_ci (rest := []) (As := [.int (a1), .int (a2)]) (σ := σ) (ρ := ρ) (dt := dt) (T := TX11) (N := 10) (fs := xF0 g ρ σ) 11 0 rfl rfl C0 hK hP hDD hB cf_X11_whoseWithout w_826 (k_X11_whoseWithout l g ρ dt σ a1 a2 hX hN) ⟨by decide, by decide⟩ hl.1 rfl rfl (Nat.le_of_ble_eq_true rfl) dX11_wrong_41 ⟨Nat.zero_le _, Nat.zero_le _⟩ ?_
    refine lv_if_eq (tgt := 49) hx hb dX11_wrong_44 (by decide) (fun c_44 => ?_) (fun c_44 => ?_)
    · have hT := hT_pos c_44 hT
      refine lv_iinc (v := (a2 + (1 : Int32))) (lv' := [(2, .int ((a2 + (1 : Int32)))), (0, .ref (g.2.2 100)), (1, .int (a1))]) hx hb dX11_wrong_49 hl (k := 2) rfl rfl (by decide) rfl (fun ls hl => ?_)
      refine lv_goto (tgt := 27) hx hb dX11_wrong_52 (by decide) ?_
      have j52_h2 : 0 ≤ (a2 + (1 : Int32)).toInt := by
        have : ((0 : Int32)).toInt = 0 := by decide
        have : ((1 : Int32)).toInt = 1 := by decide
        have := mt ti_le.mpr c_35
        have := ti_eq.mp c_44
        try have := ti_add (a := a2) (b := (1 : Int32)) (by omega) (by omega)
        omega
      have j52_m : ((σ 34 0).toInt - (a2 + (1 : Int32)).toInt).toNat < N27 := by
        have : ((0 : Int32)).toInt = 0 := by decide
        have : ((1 : Int32)).toInt = 1 := by decide
        have := mt ti_le.mpr c_35
        have := ti_eq.mp c_44
        try have := ti_add (a := a2) (b := (1 : Int32)) (by omega) (by omega)
        omega
      exact hK27 σ a1 (a2 + (1 : Int32)) hX hN j52_h2 j52_m hK hP hDD hB (lv_sub hl [1, 2, 0] rfl) hT
    · have hT := hT_neg c_44 hT
      refine lv_iload_n hx hb dX11_wrong_47 rfl (lv_at hl 2 rfl) ?_
      exact ret_PI C0 hT dX11_wrong_48
def g_X11_wrong_27 (ρ : RR) (dt : Nat → Nat → Int32)  : Nat → St → Int32 → Int32 → Int32
  | 0 => fun σ a1 a2 => 0
  | n + 1 => fun σ a1 a2 => f_X11_wrong_27 ρ dt  (g_X11_wrong_27 ρ dt  n) σ a1 a2
theorem l_X11_wrong_27 {g : GG} {ρ : RR} {dt : Nat → Nat → Int32} {p : Program} {l : Launch} {e : Env} {s : State} {m : MethodId} {args : Array Value} {below : List Frame} {meth : Method} {c : Code}  {tgt : Int32}  (C0 : BC p s m args meth c cX11_wrong RX11 3 (some .int))  : ∀ (n : Nat) (σ : St) (a1 : Int32) (a2 : Int32), (IX σ) → (NN ρ (σ 25)) → (0 ≤ a2.toInt) → ((σ 34 0).toInt - a2.toInt).toNat < n → KK g s → va_P g.1 vwCl ((xW g ρ) σ) s.heap → va_D (fun _ => True) ((xW g ρ) σ) → XH g ρ dt s.heap →  ∀ {ls : Array Slot}, lv_has ls 3 [(0, .ref (g.2.2 100)), (1, .int (a1)), (2, .int (a2))] → g_X11_wrong_27 ρ dt  n σ a1 a2 = tgt → W p l e { frames := 6, cells := 0, slots := 0, locals := 152 } s m args below meth c s.heap [] 0 0 (QPI below args s tgt) (F0 m 27 ls []) := by
  intro n
  induction n with
  | zero => intro σ a1 a2 hX hN h2 hm; exact absurd hm (Nat.not_lt_zero _)
  | succ n ih =>
    intro σ a1 a2 hX hN h2 hm  hK hP hDD hB ls hl hT
    exact b_X11_wrong_27 (g := g) (ρ := ρ) (dt := dt) (K27 := g_X11_wrong_27 ρ dt  n) (N27 := n) C0  (fun σ a1 a2 hX hN h2 hmq => ih σ a1 a2 hX hN h2 hmq) hX hN h2 hm hK hP hDD hB hl hT
def f_X11_wrong (ρ : RR) (dt : Nat → Nat → Int32) (σ : St) (a1 : Int32) : Int32 := (if (f_X5_isWall σ a1) = 0 then (-1 : Int32) else (if (f_X11_whoseWithout ρ dt σ a1 (-1 : Int32)) = 0 then (g_X11_wrong_27 ρ dt  (7) σ a1 (0 : Int32)) else (-5 : Int32)))
set_option maxHeartbeats 600000 in
set_option maxRecDepth 100000 in
theorem k_X11_wrong (l : Launch) (g : GG) (ρ : RR) (dt : Nat → Nat → Int32) (σ : St) (a1 : Int32) (hX : IX σ) (hN : NN ρ (σ 25)) : PI l yX11_wrong (wsF yX11_wrong cX11_wrong 3 (some .int)) { frames := 6, cells := 0, slots := 0, locals := 152 } [.ref (g.2.2 100), .int (a1)] (GB g (xW g ρ) (XB g ρ dt) σ) (f_X11_wrong ρ dt σ a1) := by
  refine start_PI (by decide) (Nat.le_of_ble_eq_true rfl) ?_
  intro p e s m args below meth c C0 hG ls hl
  obtain ⟨hK, hP, hDD, hB⟩ := hG
  obtain ⟨hx, hb, hr, hml, hown, hts, hlocks⟩ := id C0
  have hl : lv_has ls 3 [(0, .ref (g.2.2 100)), (1, .int (a1))] := hl
  generalize hT : (f_X11_wrong ρ dt σ a1) = tgt
  unfold f_X11_wrong at hT
  obtain ⟨⟨j1, j1'⟩, ⟨j3, j3'⟩, ⟨j5, j5'⟩, ⟨j8, j8'⟩, ⟨j9, j9'⟩, ⟨j12, j12'⟩, ⟨j14, j14'⟩, ⟨j17, j17'⟩, j81, jW⟩ := id hX
  refine lv_aload_n hx hb dX11_wrong_0 rfl (lv_at hl 0 rfl) ?_
  refine x_get (σ := σ) (v := .ref (g.2.2 101)) (fs := xF0 g ρ σ) 11 0 C0 uw_11 dc_11 hK hP rfl rfl 0 (by decide) rfl w_229 dX11_wrong_1 ?_
  refine lv_iload_n hx hb dX11_wrong_4 rfl (lv_at hl 1 rfl) ?_
  refine x_cn (rest := []) (As := [.int (a1)]) (σ := σ) (ρ := ρ) (dt := dt) (T := TX5) (N := 18) (fs := xF1 g ρ σ) 5 1 rfl rfl C0 hK hP hDD hB cf_X5_isWall w_615 (k_X5_isWall l g ρ dt σ a1 ) ⟨by decide, by decide⟩ hl.1 rfl rfl (Nat.le_of_ble_eq_true rfl) dX11_wrong_5 ⟨Nat.zero_le _, Nat.zero_le _⟩ ?_
  refine lv_if_ne (tgt := 13) hx hb dX11_wrong_8 (by decide) (fun c_8 => ?_) (fun c_8 => ?_)
  · have hT := hT_neg c_8 hT
    refine lv_aload_n hx hb dX11_wrong_13 rfl (lv_at hl 0 rfl) ?_
    refine lv_iload_n hx hb dX11_wrong_14 rfl (lv_at hl 1 rfl) ?_
    refine lv_iconst (v := (-1 : Int32)) hx hb dX11_wrong_15 (by decide) ?_
    refine x_ci (rest := []) (As := [.int (a1), .int ((-1 : Int32))]) (σ := σ) (ρ := ρ) (dt := dt) (T := TX11) (N := 10) (fs := xF0 g ρ σ) 11 0 rfl rfl C0 hK hP hDD hB cf_X11_whoseWithout w_826 (k_X11_whoseWithout l g ρ dt σ a1 (-1 : Int32) hX hN) ⟨by decide, by decide⟩ hl.1 rfl rfl (Nat.le_of_ble_eq_true rfl) dX11_wrong_16 ⟨Nat.zero_le _, Nat.zero_le _⟩ ?_
    refine lv_if_eq (tgt := 25) hx hb dX11_wrong_19 (by decide) (fun c_19 => ?_) (fun c_19 => ?_)
    · have hT := hT_pos c_19 hT
      refine lv_iconst (v := (0 : Int32)) hx hb dX11_wrong_25 (by decide) ?_
      refine lv_istore_n (lv' := [(2, .int ((0 : Int32))), (0, .ref (g.2.2 100)), (1, .int (a1))]) hx hb dX11_wrong_26 rfl hl (by decide) rfl (fun ls hl => ?_)
      have j26_h2 : 0 ≤ (0 : Int32).toInt := by
        have : ((0 : Int32)).toInt = 0 := by decide
        have := xw_ne c_8
        have := ti_eq.mp c_19
        omega
      have j26_m : ((σ 34 0).toInt - (0 : Int32).toInt).toNat < 7 := by
        have : ((0 : Int32)).toInt = 0 := by decide
        have := xw_ne c_8
        have := ti_eq.mp c_19
        omega
      exact l_X11_wrong_27 (g := g) (ρ := ρ) (dt := dt) C0   (7) σ a1 (0 : Int32) hX hN j26_h2 j26_m hK hP hDD hB (lv_sub hl [1, 2, 0] rfl) hT
    · have hT := hT_neg c_19 hT
      refine lv_bipush (v := (-5 : Int32)) hx hb dX11_wrong_22 (by decide) ?_
      exact ret_PI C0 hT dX11_wrong_24
  · have hT := hT_pos c_8 hT
    refine lv_iconst (v := (-1 : Int32)) hx hb dX11_wrong_11 (by decide) ?_
    exact ret_PI C0 hT dX11_wrong_12
set_option maxRecDepth 20000 in
theorem w_799 : (Cond.constantLong RX11 255 (2 : Int64)) ∈ TB := inTB (List.mem_of_getElem? (i := 799) (by decide +kernel)) (by decide +kernel)
/-! ThreeMeasures.costOfAll -/
theorem dX11_costOfAll_0 : decode cX11_costOfAll 0 = .ok (.aload_n 0, 1) := by decide +kernel
theorem dX11_costOfAll_1 : decode cX11_costOfAll 1 = .ok (.getfield 12, 3) := by decide +kernel
theorem dX11_costOfAll_4 : decode cX11_costOfAll 4 = .ok (.getfield 118, 3) := by decide +kernel
theorem dX11_costOfAll_7 : decode cX11_costOfAll 7 = .ok (.iload_n 1, 1) := by decide +kernel
theorem dX11_costOfAll_8 : decode cX11_costOfAll 8 = .ok (.iaload, 1) := by decide +kernel
theorem dX11_costOfAll_9 : decode cX11_costOfAll 9 = .ok (.iload_n 2, 1) := by decide +kernel
theorem dX11_costOfAll_10 : decode cX11_costOfAll 10 = .ok (.isub, 1) := by decide +kernel
theorem dX11_costOfAll_11 : decode cX11_costOfAll 11 = .ok (.i2l, 1) := by decide +kernel
theorem dX11_costOfAll_12 : decode cX11_costOfAll 12 = .ok (.lstore_n 3, 1) := by decide +kernel
theorem dX11_costOfAll_13 : decode cX11_costOfAll 13 = .ok (.iload_n 2, 1) := by decide +kernel
theorem dX11_costOfAll_14 : decode cX11_costOfAll 14 = .ok (.aload_n 0, 1) := by decide +kernel
theorem dX11_costOfAll_15 : decode cX11_costOfAll 15 = .ok (.getfield 12, 3) := by decide +kernel
theorem dX11_costOfAll_18 : decode cX11_costOfAll 18 = .ok (.getfield 115, 3) := by decide +kernel
theorem dX11_costOfAll_21 : decode cX11_costOfAll 21 = .ok (.iload_n 1, 1) := by decide +kernel
theorem dX11_costOfAll_22 : decode cX11_costOfAll 22 = .ok (.iaload, 1) := by decide +kernel
theorem dX11_costOfAll_23 : decode cX11_costOfAll 23 = .ok (.isub, 1) := by decide +kernel
theorem dX11_costOfAll_24 : decode cX11_costOfAll 24 = .ok (.i2l, 1) := by decide +kernel
theorem dX11_costOfAll_25 : decode cX11_costOfAll 25 = .ok (.lstore 5, 2) := by decide +kernel
theorem dX11_costOfAll_27 : decode cX11_costOfAll 27 = .ok (.aload_n 0, 1) := by decide +kernel
theorem dX11_costOfAll_28 : decode cX11_costOfAll 28 = .ok (.getfield 12, 3) := by decide +kernel
theorem dX11_costOfAll_31 : decode cX11_costOfAll 31 = .ok (.invokevirtual 131, 3) := by decide +kernel
theorem dX11_costOfAll_34 : decode cX11_costOfAll 34 = .ok (.i2l, 1) := by decide +kernel
theorem dX11_costOfAll_35 : decode cX11_costOfAll 35 = .ok (.lload_n 3, 1) := by decide +kernel
theorem dX11_costOfAll_36 : decode cX11_costOfAll 36 = .ok (.lmul, 1) := by decide +kernel
theorem dX11_costOfAll_37 : decode cX11_costOfAll 37 = .ok (.aload_n 0, 1) := by decide +kernel
theorem dX11_costOfAll_38 : decode cX11_costOfAll 38 = .ok (.getfield 12, 3) := by decide +kernel
theorem dX11_costOfAll_41 : decode cX11_costOfAll 41 = .ok (.invokevirtual 135, 3) := by decide +kernel
theorem dX11_costOfAll_44 : decode cX11_costOfAll 44 = .ok (.i2l, 1) := by decide +kernel
theorem dX11_costOfAll_45 : decode cX11_costOfAll 45 = .ok (.lload 5, 2) := by decide +kernel
theorem dX11_costOfAll_47 : decode cX11_costOfAll 47 = .ok (.lload 5, 2) := by decide +kernel
theorem dX11_costOfAll_49 : decode cX11_costOfAll 49 = .ok (.lconst 1, 1) := by decide +kernel
theorem dX11_costOfAll_50 : decode cX11_costOfAll 50 = .ok (.ladd, 1) := by decide +kernel
theorem dX11_costOfAll_51 : decode cX11_costOfAll 51 = .ok (.lmul, 1) := by decide +kernel
theorem dX11_costOfAll_52 : decode cX11_costOfAll 52 = .ok (.ldc2_w 255, 3) := by decide +kernel
theorem dX11_costOfAll_55 : decode cX11_costOfAll 55 = .ok (.ldiv, 1) := by decide +kernel
theorem dX11_costOfAll_56 : decode cX11_costOfAll 56 = .ok (.lmul, 1) := by decide +kernel
theorem dX11_costOfAll_57 : decode cX11_costOfAll 57 = .ok (.ladd, 1) := by decide +kernel
theorem dX11_costOfAll_58 : decode cX11_costOfAll 58 = .ok (.lreturn, 1) := by decide +kernel
def f_X11_costOfAll (ρ : RR) (dt : Nat → Nat → Int32) (σ : St) (a1 : Int32) (a2 : Int32) : Int64 := ((((f_X5_board ρ dt σ ).toInt64) * (((σ 27 (ix a1)) - a2).toInt64)) + (((f_X5_perStep ρ dt σ ).toInt64) * ((((a2 - (σ 26 (ix a1))).toInt64) * (((a2 - (σ 26 (ix a1))).toInt64) + (1 : Int64))) / (2 : Int64))))
set_option maxHeartbeats 600000 in
set_option maxRecDepth 100000 in
theorem k_X11_costOfAll (l : Launch) (g : GG) (ρ : RR) (dt : Nat → Nat → Int32) (σ : St) (a1 : Int32) (a2 : Int32) (hX : IX σ) (h1 : 0 ≤ a1.toInt) (h1b : a1.toInt < 6) : PL l yX11_costOfAll (wsF yX11_costOfAll cX11_costOfAll 7 (some .long)) { frames := 1, cells := 0, slots := 0, locals := 20 } [.ref (g.2.2 100), .int (a1), .int (a2)] (GB g (xW g ρ) (XB g ρ dt) σ) (f_X11_costOfAll ρ dt σ a1 a2) := by
  refine start_PL (by decide) (Nat.le_of_ble_eq_true rfl) ?_
  intro p e s m args below meth c C0 hG ls hl
  obtain ⟨hK, hP, hDD, hB⟩ := hG
  obtain ⟨hx, hb, hr, hml, hown, hts, hlocks⟩ := id C0
  have hl : lv_has ls 7 [(0, .ref (g.2.2 100)), (1, .int (a1)), (2, .int (a2))] := hl
  generalize hT : (f_X11_costOfAll ρ dt σ a1 a2) = tgt
  unfold f_X11_costOfAll at hT
  obtain ⟨⟨j1, j1'⟩, ⟨j3, j3'⟩, ⟨j5, j5'⟩, ⟨j8, j8'⟩, ⟨j9, j9'⟩, ⟨j12, j12'⟩, ⟨j14, j14'⟩, ⟨j17, j17'⟩, j81, jW⟩ := id hX
  refine lv_aload_n hx hb dX11_costOfAll_0 rfl (lv_at hl 0 rfl) ?_
  refine x_get (σ := σ) (v := .ref (g.2.2 101)) (fs := xF0 g ρ σ) 11 0 C0 uw_11 dc_11 hK hP rfl rfl 0 (by decide) rfl w_229 dX11_costOfAll_1 ?_
  refine x_getN (σ := σ) (v := .ref (g.2.2 27)) (fs := xF1 g ρ σ) 5 1 C0 uw_5 dc_5 hK hP rfl rfl 7 (by decide) rfl w_123 dX11_costOfAll_4 ?_
  refine lv_iload_n hx hb dX11_costOfAll_7 rfl (lv_at hl 1 rfl) ?_
  have o_8 : vp_in a1 6 := by
    exact vin (by omega) (by omega)
  refine x_ald (σ := σ) C0 hK hP 12 27 6 rfl o_8 (ix a1) rfl dX11_costOfAll_8 ?_
  refine lv_iload_n hx hb dX11_costOfAll_9 rfl (lv_at hl 2 rfl) ?_
  refine lv_isub hx hb dX11_costOfAll_10 ?_
  refine lv_i2l (v := (((σ 27 (ix a1)) - a2).toInt64)) hx hb dX11_costOfAll_11 rfl ?_
  refine lv_lstore_n (lv' := [(3, .long ((((σ 27 (ix a1)) - a2).toInt64))), (0, .ref (g.2.2 100)), (1, .int (a1)), (2, .int (a2))]) hx hb dX11_costOfAll_12 rfl hl (by decide) rfl (fun ls hl => ?_)
  refine lv_iload_n hx hb dX11_costOfAll_13 rfl (lv_at hl 3 rfl) ?_
  refine lv_aload_n hx hb dX11_costOfAll_14 rfl (lv_at hl 1 rfl) ?_
  refine x_get (σ := σ) (v := .ref (g.2.2 101)) (fs := xF0 g ρ σ) 11 0 C0 uw_11 dc_11 hK hP rfl rfl 0 (by decide) rfl w_229 dX11_costOfAll_15 ?_
  refine x_getN (σ := σ) (v := .ref (g.2.2 26)) (fs := xF1 g ρ σ) 5 1 C0 uw_5 dc_5 hK hP rfl rfl 6 (by decide) rfl w_121 dX11_costOfAll_18 ?_
  refine lv_iload_n hx hb dX11_costOfAll_21 rfl (lv_at hl 2 rfl) ?_
  have o_22 : vp_in a1 6 := by
    exact vin (by omega) (by omega)
  refine x_ald (σ := σ) C0 hK hP 11 26 6 rfl o_22 (ix a1) rfl dX11_costOfAll_22 ?_
  refine lv_isub hx hb dX11_costOfAll_23 ?_
  refine lv_i2l (v := ((a2 - (σ 26 (ix a1))).toInt64)) hx hb dX11_costOfAll_24 rfl ?_
  refine lv_lstore (lv' := [(5, .long (((a2 - (σ 26 (ix a1))).toInt64))), (3, .long ((((σ 27 (ix a1)) - a2).toInt64))), (0, .ref (g.2.2 100)), (1, .int (a1)), (2, .int (a2))]) hx hb dX11_costOfAll_25 hl (by decide) rfl (fun ls hl => ?_)
  refine lv_aload_n hx hb dX11_costOfAll_27 rfl (lv_at hl 2 rfl) ?_
  refine x_get (σ := σ) (v := .ref (g.2.2 101)) (fs := xF0 g ρ σ) 11 0 C0 uw_11 dc_11 hK hP rfl rfl 0 (by decide) rfl w_229 dX11_costOfAll_28 ?_
  refine x_cn (rest := []) (As := []) (σ := σ) (ρ := ρ) (dt := dt) (T := TX5) (N := 18) (fs := xF1 g ρ σ) 5 1 rfl rfl C0 hK hP hDD hB cf_X5_board w_631 (k_X5_board l g ρ dt σ  ) ⟨by decide, by decide⟩ hl.1 rfl rfl (Nat.le_of_ble_eq_true rfl) dX11_costOfAll_31 ⟨Nat.zero_le _, Nat.zero_le _⟩ ?_
  refine lv_i2l (v := ((f_X5_board ρ dt σ ).toInt64)) hx hb dX11_costOfAll_34 rfl ?_
  refine lv_lload_n hx hb dX11_costOfAll_35 rfl (lv_at hl 1 rfl) ?_
  refine lv_lmul hx hb dX11_costOfAll_36 ?_
  refine lv_aload_n hx hb dX11_costOfAll_37 rfl (lv_at hl 2 rfl) ?_
  refine x_get (σ := σ) (v := .ref (g.2.2 101)) (fs := xF0 g ρ σ) 11 0 C0 uw_11 dc_11 hK hP rfl rfl 0 (by decide) rfl w_229 dX11_costOfAll_38 ?_
  refine x_cn (rest := [.long ((((f_X5_board ρ dt σ ).toInt64) * (((σ 27 (ix a1)) - a2).toInt64)))]) (As := []) (σ := σ) (ρ := ρ) (dt := dt) (T := TX5) (N := 18) (fs := xF1 g ρ σ) 5 1 rfl rfl C0 hK hP hDD hB cf_X5_perStep w_635 (k_X5_perStep l g ρ dt σ  ) ⟨by decide, by decide⟩ hl.1 rfl rfl (Nat.le_of_ble_eq_true rfl) dX11_costOfAll_41 ⟨Nat.zero_le _, Nat.zero_le _⟩ ?_
  refine lv_i2l (v := ((f_X5_perStep ρ dt σ ).toInt64)) hx hb dX11_costOfAll_44 rfl ?_
  refine lv_lload hx hb dX11_costOfAll_45 (lv_at hl 0 rfl) ?_
  refine lv_lload hx hb dX11_costOfAll_47 (lv_at hl 0 rfl) ?_
  refine lv_lconst (v := (1 : Int64)) hx hb dX11_costOfAll_49 (by decide) ?_
  refine lv_ladd hx hb dX11_costOfAll_50 ?_
  refine lv_lmul hx hb dX11_costOfAll_51 ?_
  refine lv_ldc2 (v := (2 : Int64)) hx hb C0.2.2.2.2.1 (C0.2.2.2.2.2.1 _ w_799) dX11_costOfAll_52 ?_
  refine lv_ldiv hx hb dX11_costOfAll_55 (by decide) ?_
  refine lv_lmul hx hb dX11_costOfAll_56 ?_
  refine lv_ladd hx hb dX11_costOfAll_57 ?_
  exact ret_PL C0 hT dX11_costOfAll_58
set_option maxRecDepth 20000 in
theorem w_795 : (Cond.methodLink RX11 235 yX11_costOfAll) ∈ TB := inTB (List.mem_of_getElem? (i := 795) (by decide +kernel)) (by decide +kernel)
set_option maxRecDepth 20000 in
theorem w_798 : (Cond.code yX11_costOfAll cX11_costOfAll 7 (some .long)) ∈ TB := inTB (List.mem_of_getElem? (i := 798) (by decide +kernel)) (by decide +kernel)
set_option maxRecDepth 20000 in
theorem w_797 : (Cond.instanceMethod yX11_costOfAll) ∈ TB := inTB (List.mem_of_getElem? (i := 797) (by decide +kernel)) (by decide +kernel)
set_option maxRecDepth 20000 in
theorem w_32 : (Cond.selects RX11 yX11_costOfAll yX11_costOfAll) ∈ TB := inTB (List.mem_of_getElem? (i := 32) (by decide +kernel)) (by decide +kernel)
theorem cf_X11_costOfAll : CF yX11_costOfAll cX11_costOfAll 7 (some .long) 2 := ⟨w_797, w_32, w_71, w_798, by decide +kernel, by decide +kernel, by decide +kernel⟩
set_option maxRecDepth 20000 in
theorem w_794 : (Cond.constantLong RX11 253 (-1 : Int64)) ∈ TB := inTB (List.mem_of_getElem? (i := 794) (by decide +kernel)) (by decide +kernel)
/-! ThreeMeasures.bestCut -/
theorem dX11_bestCut_0 : decode cX11_bestCut 0 = .ok (.aload_n 0, 1) := by decide +kernel
theorem dX11_bestCut_1 : decode cX11_bestCut 1 = .ok (.getfield 12, 3) := by decide +kernel
theorem dX11_bestCut_4 : decode cX11_bestCut 4 = .ok (.getfield 115, 3) := by decide +kernel
theorem dX11_bestCut_7 : decode cX11_bestCut 7 = .ok (.iload_n 1, 1) := by decide +kernel
theorem dX11_bestCut_8 : decode cX11_bestCut 8 = .ok (.iaload, 1) := by decide +kernel
theorem dX11_bestCut_9 : decode cX11_bestCut 9 = .ok (.istore_n 2, 1) := by decide +kernel
theorem dX11_bestCut_10 : decode cX11_bestCut 10 = .ok (.ldc2_w 253, 3) := by decide +kernel
theorem dX11_bestCut_13 : decode cX11_bestCut 13 = .ok (.lstore_n 3, 1) := by decide +kernel
theorem dX11_bestCut_14 : decode cX11_bestCut 14 = .ok (.aload_n 0, 1) := by decide +kernel
theorem dX11_bestCut_15 : decode cX11_bestCut 15 = .ok (.getfield 12, 3) := by decide +kernel
theorem dX11_bestCut_18 : decode cX11_bestCut 18 = .ok (.getfield 118, 3) := by decide +kernel
theorem dX11_bestCut_21 : decode cX11_bestCut 21 = .ok (.iload_n 1, 1) := by decide +kernel
theorem dX11_bestCut_22 : decode cX11_bestCut 22 = .ok (.iaload, 1) := by decide +kernel
theorem dX11_bestCut_23 : decode cX11_bestCut 23 = .ok (.aload_n 0, 1) := by decide +kernel
theorem dX11_bestCut_24 : decode cX11_bestCut 24 = .ok (.getfield 12, 3) := by decide +kernel
theorem dX11_bestCut_27 : decode cX11_bestCut 27 = .ok (.getfield 115, 3) := by decide +kernel
theorem dX11_bestCut_30 : decode cX11_bestCut 30 = .ok (.iload_n 1, 1) := by decide +kernel
theorem dX11_bestCut_31 : decode cX11_bestCut 31 = .ok (.iaload, 1) := by decide +kernel
theorem dX11_bestCut_32 : decode cX11_bestCut 32 = .ok (.bipush 60, 2) := by decide +kernel
theorem dX11_bestCut_34 : decode cX11_bestCut 34 = .ok (.iadd, 1) := by decide +kernel
theorem dX11_bestCut_35 : decode cX11_bestCut 35 = .ok (.invokestatic 154, 3) := by decide +kernel
theorem dX11_bestCut_38 : decode cX11_bestCut 38 = .ok (.istore 5, 2) := by decide +kernel
theorem dX11_bestCut_40 : decode cX11_bestCut 40 = .ok (.aload_n 0, 1) := by decide +kernel
theorem dX11_bestCut_41 : decode cX11_bestCut 41 = .ok (.getfield 12, 3) := by decide +kernel
theorem dX11_bestCut_44 : decode cX11_bestCut 44 = .ok (.getfield 115, 3) := by decide +kernel
theorem dX11_bestCut_47 : decode cX11_bestCut 47 = .ok (.iload_n 1, 1) := by decide +kernel
theorem dX11_bestCut_48 : decode cX11_bestCut 48 = .ok (.iaload, 1) := by decide +kernel
theorem dX11_bestCut_49 : decode cX11_bestCut 49 = .ok (.istore 6, 2) := by decide +kernel
theorem dX11_bestCut_51 : decode cX11_bestCut 51 = .ok (.iload 6, 2) := by decide +kernel
theorem dX11_bestCut_53 : decode cX11_bestCut 53 = .ok (.iload 5, 2) := by decide +kernel
theorem dX11_bestCut_55 : decode cX11_bestCut 55 = .ok (.if_icmp .gt 37, 3) := by decide +kernel
theorem dX11_bestCut_58 : decode cX11_bestCut 58 = .ok (.aload_n 0, 1) := by decide +kernel
theorem dX11_bestCut_59 : decode cX11_bestCut 59 = .ok (.iload_n 1, 1) := by decide +kernel
theorem dX11_bestCut_60 : decode cX11_bestCut 60 = .ok (.iload 6, 2) := by decide +kernel
theorem dX11_bestCut_62 : decode cX11_bestCut 62 = .ok (.invokevirtual 235, 3) := by decide +kernel
theorem dX11_bestCut_65 : decode cX11_bestCut 65 = .ok (.lstore 7, 2) := by decide +kernel
theorem dX11_bestCut_67 : decode cX11_bestCut 67 = .ok (.lload_n 3, 1) := by decide +kernel
theorem dX11_bestCut_68 : decode cX11_bestCut 68 = .ok (.lconst 0, 1) := by decide +kernel
theorem dX11_bestCut_69 : decode cX11_bestCut 69 = .ok (.lcmp, 1) := by decide +kernel
theorem dX11_bestCut_70 : decode cX11_bestCut 70 = .ok (.ifCond .lt 10, 3) := by decide +kernel
theorem dX11_bestCut_73 : decode cX11_bestCut 73 = .ok (.lload 7, 2) := by decide +kernel
theorem dX11_bestCut_75 : decode cX11_bestCut 75 = .ok (.lload_n 3, 1) := by decide +kernel
theorem dX11_bestCut_76 : decode cX11_bestCut 76 = .ok (.lcmp, 1) := by decide +kernel
theorem dX11_bestCut_77 : decode cX11_bestCut 77 = .ok (.ifCond .ge 9, 3) := by decide +kernel
theorem dX11_bestCut_80 : decode cX11_bestCut 80 = .ok (.lload 7, 2) := by decide +kernel
theorem dX11_bestCut_82 : decode cX11_bestCut 82 = .ok (.lstore_n 3, 1) := by decide +kernel
theorem dX11_bestCut_83 : decode cX11_bestCut 83 = .ok (.iload 6, 2) := by decide +kernel
theorem dX11_bestCut_85 : decode cX11_bestCut 85 = .ok (.istore_n 2, 1) := by decide +kernel
theorem dX11_bestCut_86 : decode cX11_bestCut 86 = .ok (.iinc 6 1, 3) := by decide +kernel
theorem dX11_bestCut_89 : decode cX11_bestCut 89 = .ok (.goto (-38), 3) := by decide +kernel
theorem dX11_bestCut_92 : decode cX11_bestCut 92 = .ok (.iload_n 2, 1) := by decide +kernel
theorem dX11_bestCut_93 : decode cX11_bestCut 93 = .ok (.ireturn, 1) := by decide +kernel
def f_X11_bestCut_86 (ρ : RR) (dt : Nat → Nat → Int32) (K51 : St → Int32 → Int32 → Int64 → Int32 → Int32 → Int32) (σ : St) (a1 : Int32) (a2 : Int32) (a3 : Int64) (a5 : Int32) (a6 : Int32) : Int32 := (K51 σ a1 a2 a3 a5 (a6 + (1 : Int32)))
set_option maxHeartbeats 600000 in
set_option maxRecDepth 100000 in
theorem b_X11_bestCut_86 {g : GG} {ρ : RR} {dt : Nat → Nat → Int32} {p : Program} {l : Launch} {e : Env} {s : State} {m : MethodId} {args : Array Value} {below : List Frame} {meth : Method} {c : Code}  {tgt : Int32} {K51 : St → Int32 → Int32 → Int64 → Int32 → Int32 → Int32} {N51 : Nat} (C0 : BC p s m args meth c cX11_bestCut RX11 9 (some .int)) (hK51 : ∀ (σ : St) (a1 : Int32) (a2 : Int32) (a3 : Int64) (a5 : Int32) (a6 : Int32), (IX σ) → (0 ≤ a1.toInt) → (a1.toInt < 6) → (a5.toInt ≤ 999) → (0 ≤ a6.toInt) → (a5.toInt - a6.toInt + 1).toNat < N51 → KK g s → va_P g.1 vwCl ((xW g ρ) σ) s.heap → va_D (fun _ => True) ((xW g ρ) σ) → XH g ρ dt s.heap →  ∀ {ls : Array Slot}, lv_has ls 9 [(0, .ref (g.2.2 100)), (1, .int (a1)), (2, .int (a2)), (3, .long (a3)), (5, .int (a5)), (6, .int (a6))] → K51 σ a1 a2 a3 a5 a6 = tgt → W p l e { frames := 2, cells := 0, slots := 0, locals := 46 } s m args below meth c s.heap [] 0 0 (QPI below args s tgt) (F0 m 51 ls [])) {σ : St} {a1 : Int32} {a2 : Int32} {a3 : Int64} {a5 : Int32} {a6 : Int32}  (hX : IX σ) (h1 : 0 ≤ a1.toInt) (h1b : a1.toInt < 6) (h5 : a5.toInt ≤ 999) (h6 : 0 ≤ a6.toInt) (h6b : a6.toInt ≤ a5.toInt) (hm51 : (a5.toInt - a6.toInt + 1).toNat < N51 + 1)  (hK : KK g s) (hP : va_P g.1 vwCl ((xW g ρ) σ) s.heap) (hDD : va_D (fun _ => True) ((xW g ρ) σ)) (hB : XH g ρ dt s.heap) {ls : Array Slot} (hl : lv_has ls 9 [(0, .ref (g.2.2 100)), (1, .int (a1)), (2, .int (a2)), (3, .long (a3)), (5, .int (a5)), (6, .int (a6))]) (hT : f_X11_bestCut_86 ρ dt K51 σ a1 a2 a3 a5 a6 = tgt) : W p l e { frames := 2, cells := 0, slots := 0, locals := 46 } s m args below meth c s.heap [] 0 0 (QPI below args s tgt) (F0 m 86 ls []) := by
  obtain ⟨hx, hb, hr, hml, hown, hts, hlocks⟩ := id C0
  unfold f_X11_bestCut_86 at hT
  obtain ⟨⟨j1, j1'⟩, ⟨j3, j3'⟩, ⟨j5, j5'⟩, ⟨j8, j8'⟩, ⟨j9, j9'⟩, ⟨j12, j12'⟩, ⟨j14, j14'⟩, ⟨j17, j17'⟩, j81, jW⟩ := id hX
  obtain ⟨w11, w12, w13⟩ := IX_w hX h1 h1b
  refine lv_iinc (v := (a6 + (1 : Int32))) (lv' := [(6, .int ((a6 + (1 : Int32)))), (0, .ref (g.2.2 100)), (1, .int (a1)), (2, .int (a2)), (3, .long (a3)), (5, .int (a5))]) hx hb dX11_bestCut_86 hl (k := 5) rfl rfl (by decide) rfl (fun ls hl => ?_)
  refine lv_goto (tgt := 51) hx hb dX11_bestCut_89 (by decide) ?_
  have j89_h6 : 0 ≤ (a6 + (1 : Int32)).toInt := by
    have : ((1 : Int32)).toInt = 1 := by decide
    try have := ti_add (a := a6) (b := (1 : Int32)) (by omega) (by omega)
    omega
  have j89_m : (a5.toInt - (a6 + (1 : Int32)).toInt + 1).toNat < N51 := by
    have : ((1 : Int32)).toInt = 1 := by decide
    try have := ti_add (a := a6) (b := (1 : Int32)) (by omega) (by omega)
    omega
  exact hK51 σ a1 a2 a3 a5 (a6 + (1 : Int32)) hX h1 h1b h5 j89_h6 j89_m hK hP hDD hB (lv_sub hl [1, 2, 3, 4, 5, 0] rfl) hT
def f_X11_bestCut_80 (ρ : RR) (dt : Nat → Nat → Int32) (K51 : St → Int32 → Int32 → Int64 → Int32 → Int32 → Int32) (σ : St) (a1 : Int32) (a5 : Int32) (a6 : Int32) (a7 : Int64) : Int32 := (f_X11_bestCut_86 ρ dt K51 σ a1 a6 a7 a5 a6)
set_option maxHeartbeats 600000 in
set_option maxRecDepth 100000 in
theorem b_X11_bestCut_80 {g : GG} {ρ : RR} {dt : Nat → Nat → Int32} {p : Program} {l : Launch} {e : Env} {s : State} {m : MethodId} {args : Array Value} {below : List Frame} {meth : Method} {c : Code}  {tgt : Int32} {K51 : St → Int32 → Int32 → Int64 → Int32 → Int32 → Int32} {N51 : Nat} (C0 : BC p s m args meth c cX11_bestCut RX11 9 (some .int)) (hK51 : ∀ (σ : St) (a1 : Int32) (a2 : Int32) (a3 : Int64) (a5 : Int32) (a6 : Int32), (IX σ) → (0 ≤ a1.toInt) → (a1.toInt < 6) → (a5.toInt ≤ 999) → (0 ≤ a6.toInt) → (a5.toInt - a6.toInt + 1).toNat < N51 → KK g s → va_P g.1 vwCl ((xW g ρ) σ) s.heap → va_D (fun _ => True) ((xW g ρ) σ) → XH g ρ dt s.heap →  ∀ {ls : Array Slot}, lv_has ls 9 [(0, .ref (g.2.2 100)), (1, .int (a1)), (2, .int (a2)), (3, .long (a3)), (5, .int (a5)), (6, .int (a6))] → K51 σ a1 a2 a3 a5 a6 = tgt → W p l e { frames := 2, cells := 0, slots := 0, locals := 46 } s m args below meth c s.heap [] 0 0 (QPI below args s tgt) (F0 m 51 ls [])) {σ : St} {a1 : Int32} {a5 : Int32} {a6 : Int32} {a7 : Int64}  (hX : IX σ) (h1 : 0 ≤ a1.toInt) (h1b : a1.toInt < 6) (h5 : a5.toInt ≤ 999) (h6 : 0 ≤ a6.toInt) (h6b : a6.toInt ≤ a5.toInt) (hm51 : (a5.toInt - a6.toInt + 1).toNat < N51 + 1)  (hK : KK g s) (hP : va_P g.1 vwCl ((xW g ρ) σ) s.heap) (hDD : va_D (fun _ => True) ((xW g ρ) σ)) (hB : XH g ρ dt s.heap) {ls : Array Slot} (hl : lv_has ls 9 [(0, .ref (g.2.2 100)), (1, .int (a1)), (5, .int (a5)), (6, .int (a6)), (7, .long (a7))]) (hT : f_X11_bestCut_80 ρ dt K51 σ a1 a5 a6 a7 = tgt) : W p l e { frames := 2, cells := 0, slots := 0, locals := 46 } s m args below meth c s.heap [] 0 0 (QPI below args s tgt) (F0 m 80 ls []) := by
  obtain ⟨hx, hb, hr, hml, hown, hts, hlocks⟩ := id C0
  unfold f_X11_bestCut_80 at hT
  obtain ⟨⟨j1, j1'⟩, ⟨j3, j3'⟩, ⟨j5, j5'⟩, ⟨j8, j8'⟩, ⟨j9, j9'⟩, ⟨j12, j12'⟩, ⟨j14, j14'⟩, ⟨j17, j17'⟩, j81, jW⟩ := id hX
  obtain ⟨w11, w12, w13⟩ := IX_w hX h1 h1b
  refine lv_lload hx hb dX11_bestCut_80 (lv_at hl 4 rfl) ?_
  refine lv_lstore_n (lv' := [(3, .long (a7)), (0, .ref (g.2.2 100)), (1, .int (a1)), (5, .int (a5)), (6, .int (a6)), (7, .long (a7))]) hx hb dX11_bestCut_82 rfl hl (by decide) rfl (fun ls hl => ?_)
  refine lv_iload hx hb dX11_bestCut_83 (lv_at hl 4 rfl) ?_
  refine lv_istore_n (lv' := [(2, .int (a6)), (3, .long (a7)), (0, .ref (g.2.2 100)), (1, .int (a1)), (5, .int (a5)), (6, .int (a6)), (7, .long (a7))]) hx hb dX11_bestCut_85 rfl hl (by decide) rfl (fun ls hl => ?_)
  exact b_X11_bestCut_86 (g := g) (ρ := ρ) (dt := dt) (σ := σ) (a1 := a1) (a2 := a6) (a3 := a7) (a5 := a5) (a6 := a6) C0 hK51 hX h1 h1b h5 h6 h6b hm51 hK hP hDD hB (lv_sub hl [2, 3, 0, 1, 4, 5] rfl) hT
def f_X11_bestCut_51 (ρ : RR) (dt : Nat → Nat → Int32) (K51 : St → Int32 → Int32 → Int64 → Int32 → Int32 → Int32) (σ : St) (a1 : Int32) (a2 : Int32) (a3 : Int64) (a5 : Int32) (a6 : Int32) : Int32 := (if a5 < a6 then a2 else (if (lg_cmp a3 (0 : Int64)) < 0 then (f_X11_bestCut_80 ρ dt K51 σ a1 a5 a6 (f_X11_costOfAll ρ dt σ a1 a6)) else (if 0 ≤ (lg_cmp (f_X11_costOfAll ρ dt σ a1 a6) a3) then (f_X11_bestCut_86 ρ dt K51 σ a1 a2 a3 a5 a6) else (f_X11_bestCut_80 ρ dt K51 σ a1 a5 a6 (f_X11_costOfAll ρ dt σ a1 a6)))))
set_option maxHeartbeats 600000 in
set_option maxRecDepth 100000 in
theorem b_X11_bestCut_51 {g : GG} {ρ : RR} {dt : Nat → Nat → Int32} {p : Program} {l : Launch} {e : Env} {s : State} {m : MethodId} {args : Array Value} {below : List Frame} {meth : Method} {c : Code}  {tgt : Int32} {K51 : St → Int32 → Int32 → Int64 → Int32 → Int32 → Int32} {N51 : Nat} (C0 : BC p s m args meth c cX11_bestCut RX11 9 (some .int)) (hK51 : ∀ (σ : St) (a1 : Int32) (a2 : Int32) (a3 : Int64) (a5 : Int32) (a6 : Int32), (IX σ) → (0 ≤ a1.toInt) → (a1.toInt < 6) → (a5.toInt ≤ 999) → (0 ≤ a6.toInt) → (a5.toInt - a6.toInt + 1).toNat < N51 → KK g s → va_P g.1 vwCl ((xW g ρ) σ) s.heap → va_D (fun _ => True) ((xW g ρ) σ) → XH g ρ dt s.heap →  ∀ {ls : Array Slot}, lv_has ls 9 [(0, .ref (g.2.2 100)), (1, .int (a1)), (2, .int (a2)), (3, .long (a3)), (5, .int (a5)), (6, .int (a6))] → K51 σ a1 a2 a3 a5 a6 = tgt → W p l e { frames := 2, cells := 0, slots := 0, locals := 46 } s m args below meth c s.heap [] 0 0 (QPI below args s tgt) (F0 m 51 ls [])) {σ : St} {a1 : Int32} {a2 : Int32} {a3 : Int64} {a5 : Int32} {a6 : Int32}  (hX : IX σ) (h1 : 0 ≤ a1.toInt) (h1b : a1.toInt < 6) (h5 : a5.toInt ≤ 999) (h6 : 0 ≤ a6.toInt) (hm : (a5.toInt - a6.toInt + 1).toNat < N51 + 1) (hK : KK g s) (hP : va_P g.1 vwCl ((xW g ρ) σ) s.heap) (hDD : va_D (fun _ => True) ((xW g ρ) σ)) (hB : XH g ρ dt s.heap) {ls : Array Slot} (hl : lv_has ls 9 [(0, .ref (g.2.2 100)), (1, .int (a1)), (2, .int (a2)), (3, .long (a3)), (5, .int (a5)), (6, .int (a6))]) (hT : f_X11_bestCut_51 ρ dt K51 σ a1 a2 a3 a5 a6 = tgt) : W p l e { frames := 2, cells := 0, slots := 0, locals := 46 } s m args below meth c s.heap [] 0 0 (QPI below args s tgt) (F0 m 51 ls []) := by
  obtain ⟨hx, hb, hr, hml, hown, hts, hlocks⟩ := id C0
  unfold f_X11_bestCut_51 at hT
  obtain ⟨⟨j1, j1'⟩, ⟨j3, j3'⟩, ⟨j5, j5'⟩, ⟨j8, j8'⟩, ⟨j9, j9'⟩, ⟨j12, j12'⟩, ⟨j14, j14'⟩, ⟨j17, j17'⟩, j81, jW⟩ := id hX
  obtain ⟨w11, w12, w13⟩ := IX_w hX h1 h1b
  refine lv_iload hx hb dX11_bestCut_51 (lv_at hl 5 rfl) ?_
  refine lv_iload hx hb dX11_bestCut_53 (lv_at hl 4 rfl) ?_
  refine lv_icmp_gt (tgt := 92) hx hb dX11_bestCut_55 (by decide) (fun c_55 => ?_) (fun c_55 => ?_)
  · have hT := hT_pos c_55 hT
    refine lv_iload_n hx hb dX11_bestCut_92 rfl (lv_at hl 2 rfl) ?_
    exact ret_PI C0 hT dX11_bestCut_93
  · have hT := hT_neg c_55 hT
    refine lv_aload_n hx hb dX11_bestCut_58 rfl (lv_at hl 0 rfl) ?_
    refine lv_iload_n hx hb dX11_bestCut_59 rfl (lv_at hl 1 rfl) ?_
    refine lv_iload hx hb dX11_bestCut_60 (lv_at hl 5 rfl) ?_
    refine x_cl (rest := []) (As := [.int (a1), .int (a6)]) (σ := σ) (ρ := ρ) (dt := dt) (T := TX11) (N := 10) (fs := xF0 g ρ σ) 11 0 rfl rfl C0 hK hP hDD hB cf_X11_costOfAll w_795 (k_X11_costOfAll l g ρ dt σ a1 a6 hX h1 h1b) ⟨by decide, by decide⟩ hl.1 rfl rfl (Nat.le_of_ble_eq_true rfl) dX11_bestCut_62 ⟨Nat.zero_le _, Nat.zero_le _⟩ ?_
    refine lv_lstore (lv' := [(7, .long ((f_X11_costOfAll ρ dt σ a1 a6))), (0, .ref (g.2.2 100)), (1, .int (a1)), (2, .int (a2)), (3, .long (a3)), (5, .int (a5)), (6, .int (a6))]) hx hb dX11_bestCut_65 hl (by decide) rfl (fun ls hl => ?_)
    refine lv_lload_n hx hb dX11_bestCut_67 rfl (lv_at hl 4 rfl) ?_
    refine lv_lconst (v := (0 : Int64)) hx hb dX11_bestCut_68 (by decide) ?_
    refine W.lcmp hx hb dX11_bestCut_69 ?_
    refine lv_if_lt (tgt := 80) hx hb dX11_bestCut_70 (by decide) (fun c_70 => ?_) (fun c_70 => ?_)
    · have hT := hT_pos c_70 hT
      have j70_h6b : a6.toInt ≤ a5.toInt := by
        have : ((0 : Int32)).toInt = 0 := by decide
        have := mt ti_lt.mpr c_55
        have := ti_lt.mp c_70
        omega
      have j70_hm51 : (a5.toInt - a6.toInt + 1).toNat < N51 + 1 := by
        have : ((0 : Int32)).toInt = 0 := by decide
        have := mt ti_lt.mpr c_55
        have := ti_lt.mp c_70
        omega
      exact b_X11_bestCut_80 (g := g) (ρ := ρ) (dt := dt) (σ := σ) (a1 := a1) (a5 := a5) (a6 := a6) (a7 := (f_X11_costOfAll ρ dt σ a1 a6)) C0 hK51 hX h1 h1b h5 h6 j70_h6b j70_hm51 hK hP hDD hB (lv_sub hl [1, 2, 5, 6, 0] rfl) hT
    · have hT := hT_neg c_70 hT
      refine lv_lload hx hb dX11_bestCut_73 (lv_at hl 0 rfl) ?_
      refine lv_lload_n hx hb dX11_bestCut_75 rfl (lv_at hl 4 rfl) ?_
      refine W.lcmp hx hb dX11_bestCut_76 ?_
      refine lv_if_ge (tgt := 86) hx hb dX11_bestCut_77 (by decide) (fun c_77 => ?_) (fun c_77 => ?_)
      · have hT := hT_pos c_77 hT
        have j77_h6b : a6.toInt ≤ a5.toInt := by
          have : ((0 : Int32)).toInt = 0 := by decide
          have := mt ti_lt.mpr c_55
          have := mt ti_lt.mpr c_70
          have := ti_le.mp c_77
          omega
        have j77_hm51 : (a5.toInt - a6.toInt + 1).toNat < N51 + 1 := by
          have : ((0 : Int32)).toInt = 0 := by decide
          have := mt ti_lt.mpr c_55
          have := mt ti_lt.mpr c_70
          have := ti_le.mp c_77
          omega
        exact b_X11_bestCut_86 (g := g) (ρ := ρ) (dt := dt) (σ := σ) (a1 := a1) (a2 := a2) (a3 := a3) (a5 := a5) (a6 := a6) C0 hK51 hX h1 h1b h5 h6 j77_h6b j77_hm51 hK hP hDD hB (lv_sub hl [1, 2, 3, 4, 5, 6] rfl) hT
      · have hT := hT_neg c_77 hT
        have j77_h6b : a6.toInt ≤ a5.toInt := by
          have : ((0 : Int32)).toInt = 0 := by decide
          have := mt ti_lt.mpr c_55
          have := mt ti_lt.mpr c_70
          have := mt ti_le.mpr c_77
          omega
        have j77_hm51 : (a5.toInt - a6.toInt + 1).toNat < N51 + 1 := by
          have : ((0 : Int32)).toInt = 0 := by decide
          have := mt ti_lt.mpr c_55
          have := mt ti_lt.mpr c_70
          have := mt ti_le.mpr c_77
          omega
        exact b_X11_bestCut_80 (g := g) (ρ := ρ) (dt := dt) (σ := σ) (a1 := a1) (a5 := a5) (a6 := a6) (a7 := (f_X11_costOfAll ρ dt σ a1 a6)) C0 hK51 hX h1 h1b h5 h6 j77_h6b j77_hm51 hK hP hDD hB (lv_sub hl [1, 2, 5, 6, 0] rfl) hT
def g_X11_bestCut_51 (ρ : RR) (dt : Nat → Nat → Int32)  : Nat → St → Int32 → Int32 → Int64 → Int32 → Int32 → Int32
  | 0 => fun σ a1 a2 a3 a5 a6 => 0
  | n + 1 => fun σ a1 a2 a3 a5 a6 => f_X11_bestCut_51 ρ dt  (g_X11_bestCut_51 ρ dt  n) σ a1 a2 a3 a5 a6
theorem l_X11_bestCut_51 {g : GG} {ρ : RR} {dt : Nat → Nat → Int32} {p : Program} {l : Launch} {e : Env} {s : State} {m : MethodId} {args : Array Value} {below : List Frame} {meth : Method} {c : Code}  {tgt : Int32}  (C0 : BC p s m args meth c cX11_bestCut RX11 9 (some .int))  : ∀ (n : Nat) (σ : St) (a1 : Int32) (a2 : Int32) (a3 : Int64) (a5 : Int32) (a6 : Int32), (IX σ) → (0 ≤ a1.toInt) → (a1.toInt < 6) → (a5.toInt ≤ 999) → (0 ≤ a6.toInt) → (a5.toInt - a6.toInt + 1).toNat < n → KK g s → va_P g.1 vwCl ((xW g ρ) σ) s.heap → va_D (fun _ => True) ((xW g ρ) σ) → XH g ρ dt s.heap →  ∀ {ls : Array Slot}, lv_has ls 9 [(0, .ref (g.2.2 100)), (1, .int (a1)), (2, .int (a2)), (3, .long (a3)), (5, .int (a5)), (6, .int (a6))] → g_X11_bestCut_51 ρ dt  n σ a1 a2 a3 a5 a6 = tgt → W p l e { frames := 2, cells := 0, slots := 0, locals := 46 } s m args below meth c s.heap [] 0 0 (QPI below args s tgt) (F0 m 51 ls []) := by
  intro n
  induction n with
  | zero => intro σ a1 a2 a3 a5 a6 hX h1 h1b h5 h6 hm; exact absurd hm (Nat.not_lt_zero _)
  | succ n ih =>
    intro σ a1 a2 a3 a5 a6 hX h1 h1b h5 h6 hm  hK hP hDD hB ls hl hT
    exact b_X11_bestCut_51 (g := g) (ρ := ρ) (dt := dt) (K51 := g_X11_bestCut_51 ρ dt  n) (N51 := n) C0  (fun σ a1 a2 a3 a5 a6 hX h1 h1b h5 h6 hmq => ih σ a1 a2 a3 a5 a6 hX h1 h1b h5 h6 hmq) hX h1 h1b h5 h6 hm hK hP hDD hB hl hT
def f_X11_bestCut (ρ : RR) (dt : Nat → Nat → Int32) (σ : St) (a1 : Int32) : Int32 := (g_X11_bestCut_51 ρ dt  (1001) σ a1 (σ 26 (ix a1)) (-1 : Int64) (if ((σ 26 (ix a1)) + (60 : Int32)) < (σ 27 (ix a1)) then ((σ 26 (ix a1)) + (60 : Int32)) else (σ 27 (ix a1))) (σ 26 (ix a1)))
set_option maxHeartbeats 600000 in
set_option maxRecDepth 100000 in
theorem k_X11_bestCut (l : Launch) (g : GG) (ρ : RR) (dt : Nat → Nat → Int32) (σ : St) (a1 : Int32) (hX : IX σ) (h1 : 0 ≤ a1.toInt) (h1b : a1.toInt < 6) : PI l yX11_bestCut (wsF yX11_bestCut cX11_bestCut 9 (some .int)) { frames := 2, cells := 0, slots := 0, locals := 46 } [.ref (g.2.2 100), .int (a1)] (GB g (xW g ρ) (XB g ρ dt) σ) (f_X11_bestCut ρ dt σ a1) := by
  refine start_PI (by decide) (Nat.le_of_ble_eq_true rfl) ?_
  intro p e s m args below meth c C0 hG ls hl
  obtain ⟨hK, hP, hDD, hB⟩ := hG
  obtain ⟨hx, hb, hr, hml, hown, hts, hlocks⟩ := id C0
  have hl : lv_has ls 9 [(0, .ref (g.2.2 100)), (1, .int (a1))] := hl
  generalize hT : (f_X11_bestCut ρ dt σ a1) = tgt
  unfold f_X11_bestCut at hT
  obtain ⟨⟨j1, j1'⟩, ⟨j3, j3'⟩, ⟨j5, j5'⟩, ⟨j8, j8'⟩, ⟨j9, j9'⟩, ⟨j12, j12'⟩, ⟨j14, j14'⟩, ⟨j17, j17'⟩, j81, jW⟩ := id hX
  obtain ⟨w11, w12, w13⟩ := IX_w hX h1 h1b
  refine lv_aload_n hx hb dX11_bestCut_0 rfl (lv_at hl 0 rfl) ?_
  refine x_get (σ := σ) (v := .ref (g.2.2 101)) (fs := xF0 g ρ σ) 11 0 C0 uw_11 dc_11 hK hP rfl rfl 0 (by decide) rfl w_229 dX11_bestCut_1 ?_
  refine x_getN (σ := σ) (v := .ref (g.2.2 26)) (fs := xF1 g ρ σ) 5 1 C0 uw_5 dc_5 hK hP rfl rfl 6 (by decide) rfl w_121 dX11_bestCut_4 ?_
  refine lv_iload_n hx hb dX11_bestCut_7 rfl (lv_at hl 1 rfl) ?_
  have o_8 : vp_in a1 6 := by
    exact vin (by omega) (by omega)
  refine x_ald (σ := σ) C0 hK hP 11 26 6 rfl o_8 (ix a1) rfl dX11_bestCut_8 ?_
  refine lv_istore_n (lv' := [(2, .int ((σ 26 (ix a1)))), (0, .ref (g.2.2 100)), (1, .int (a1))]) hx hb dX11_bestCut_9 rfl hl (by decide) rfl (fun ls hl => ?_)
  refine lv_ldc2 (v := (-1 : Int64)) hx hb C0.2.2.2.2.1 (C0.2.2.2.2.2.1 _ w_794) dX11_bestCut_10 ?_
  refine lv_lstore_n (lv' := [(3, .long ((-1 : Int64))), (2, .int ((σ 26 (ix a1)))), (0, .ref (g.2.2 100)), (1, .int (a1))]) hx hb dX11_bestCut_13 rfl hl (by decide) rfl (fun ls hl => ?_)
  refine lv_aload_n hx hb dX11_bestCut_14 rfl (lv_at hl 2 rfl) ?_
  refine x_get (σ := σ) (v := .ref (g.2.2 101)) (fs := xF0 g ρ σ) 11 0 C0 uw_11 dc_11 hK hP rfl rfl 0 (by decide) rfl w_229 dX11_bestCut_15 ?_
  refine x_getN (σ := σ) (v := .ref (g.2.2 27)) (fs := xF1 g ρ σ) 5 1 C0 uw_5 dc_5 hK hP rfl rfl 7 (by decide) rfl w_123 dX11_bestCut_18 ?_
  refine lv_iload_n hx hb dX11_bestCut_21 rfl (lv_at hl 3 rfl) ?_
  have o_22 : vp_in a1 6 := by
    exact vin (by omega) (by omega)
  refine x_ald (σ := σ) C0 hK hP 12 27 6 rfl o_22 (ix a1) rfl dX11_bestCut_22 ?_
  refine lv_aload_n hx hb dX11_bestCut_23 rfl (lv_at hl 2 rfl) ?_
  refine x_get (σ := σ) (v := .ref (g.2.2 101)) (fs := xF0 g ρ σ) 11 0 C0 uw_11 dc_11 hK hP rfl rfl 0 (by decide) rfl w_229 dX11_bestCut_24 ?_
  refine x_getN (σ := σ) (v := .ref (g.2.2 26)) (fs := xF1 g ρ σ) 5 1 C0 uw_5 dc_5 hK hP rfl rfl 6 (by decide) rfl w_121 dX11_bestCut_27 ?_
  refine lv_iload_n hx hb dX11_bestCut_30 rfl (lv_at hl 3 rfl) ?_
  have o_31 : vp_in a1 6 := by
    exact vin (by omega) (by omega)
  refine x_ald (σ := σ) C0 hK hP 11 26 6 rfl o_31 (ix a1) rfl dX11_bestCut_31 ?_
  refine lv_bipush (v := (60 : Int32)) hx hb dX11_bestCut_32 (by decide) ?_
  refine lv_iadd hx hb dX11_bestCut_34 ?_
  refine va_mmin hx hb (hml.trans hl.1.symm) C0.2.2.2.2.1 (C0.2.2.2.2.2.1 _ w_709) (C0.2.2.2.2.2.1 _ w_379) (C0.2.2.2.2.2.1 _ w_80) (C0.2.2.2.2.2.1 _ w_380) (by decide) (Nat.le_of_ble_eq_true rfl) (Nat.zero_le _) (Nat.zero_le _) dX11_bestCut_35 ?_
  refine lv_istore (lv' := [(5, .int ((if ((σ 26 (ix a1)) + (60 : Int32)) < (σ 27 (ix a1)) then ((σ 26 (ix a1)) + (60 : Int32)) else (σ 27 (ix a1))))), (3, .long ((-1 : Int64))), (2, .int ((σ 26 (ix a1)))), (0, .ref (g.2.2 100)), (1, .int (a1))]) hx hb dX11_bestCut_38 hl (by decide) rfl (fun ls hl => ?_)
  refine lv_aload_n hx hb dX11_bestCut_40 rfl (lv_at hl 3 rfl) ?_
  refine x_get (σ := σ) (v := .ref (g.2.2 101)) (fs := xF0 g ρ σ) 11 0 C0 uw_11 dc_11 hK hP rfl rfl 0 (by decide) rfl w_229 dX11_bestCut_41 ?_
  refine x_getN (σ := σ) (v := .ref (g.2.2 26)) (fs := xF1 g ρ σ) 5 1 C0 uw_5 dc_5 hK hP rfl rfl 6 (by decide) rfl w_121 dX11_bestCut_44 ?_
  refine lv_iload_n hx hb dX11_bestCut_47 rfl (lv_at hl 4 rfl) ?_
  have o_48 : vp_in a1 6 := by
    exact vin (by omega) (by omega)
  refine x_ald (σ := σ) C0 hK hP 11 26 6 rfl o_48 (ix a1) rfl dX11_bestCut_48 ?_
  refine lv_istore (lv' := [(6, .int ((σ 26 (ix a1)))), (5, .int ((if ((σ 26 (ix a1)) + (60 : Int32)) < (σ 27 (ix a1)) then ((σ 26 (ix a1)) + (60 : Int32)) else (σ 27 (ix a1))))), (3, .long ((-1 : Int64))), (2, .int ((σ 26 (ix a1)))), (0, .ref (g.2.2 100)), (1, .int (a1))]) hx hb dX11_bestCut_49 hl (by decide) rfl (fun ls hl => ?_)
  have j49_h5 : (if ((σ 26 (ix a1)) + (60 : Int32)) < (σ 27 (ix a1)) then ((σ 26 (ix a1)) + (60 : Int32)) else (σ 27 (ix a1))).toInt ≤ 999 := mn_le (by omega)
  have j49_h6 : 0 ≤ (σ 26 (ix a1)).toInt := by
    omega
  have j49_m : ((if ((σ 26 (ix a1)) + (60 : Int32)) < (σ 27 (ix a1)) then ((σ 26 (ix a1)) + (60 : Int32)) else (σ 27 (ix a1))).toInt - (σ 26 (ix a1)).toInt + 1).toNat < 1001 := by
    omega
  exact l_X11_bestCut_51 (g := g) (ρ := ρ) (dt := dt) C0   (1001) σ a1 (σ 26 (ix a1)) (-1 : Int64) (if ((σ 26 (ix a1)) + (60 : Int32)) < (σ 27 (ix a1)) then ((σ 26 (ix a1)) + (60 : Int32)) else (σ 27 (ix a1))) (σ 26 (ix a1)) hX h1 h1b j49_h5 j49_h6 j49_m hK hP hDD hB (lv_sub hl [4, 5, 3, 2, 1, 0] rfl) hT
set_option maxRecDepth 20000 in
theorem w_790 : (Cond.methodLink RX11 230 yX11_bestCut) ∈ TB := inTB (List.mem_of_getElem? (i := 790) (by decide +kernel)) (by decide +kernel)
set_option maxRecDepth 20000 in
theorem w_793 : (Cond.code yX11_bestCut cX11_bestCut 9 (some .int)) ∈ TB := inTB (List.mem_of_getElem? (i := 793) (by decide +kernel)) (by decide +kernel)
set_option maxRecDepth 20000 in
theorem w_792 : (Cond.instanceMethod yX11_bestCut) ∈ TB := inTB (List.mem_of_getElem? (i := 792) (by decide +kernel)) (by decide +kernel)
set_option maxRecDepth 20000 in
theorem w_31 : (Cond.selects RX11 yX11_bestCut yX11_bestCut) ∈ TB := inTB (List.mem_of_getElem? (i := 31) (by decide +kernel)) (by decide +kernel)
theorem cf_X11_bestCut : CF yX11_bestCut cX11_bestCut 9 (some .int) 1 := ⟨w_792, w_31, w_71, w_793, by decide +kernel, by decide +kernel, by decide +kernel⟩
/-! ThreeMeasures.cut -/
theorem dX11_cut_0 : decode cX11_cut 0 = .ok (.aload_n 0, 1) := by decide +kernel
theorem dX11_cut_1 : decode cX11_cut 1 = .ok (.getfield 12, 3) := by decide +kernel
theorem dX11_cut_4 : decode cX11_cut 4 = .ok (.iload_n 1, 1) := by decide +kernel
theorem dX11_cut_5 : decode cX11_cut 5 = .ok (.invokevirtual 121, 3) := by decide +kernel
theorem dX11_cut_8 : decode cX11_cut 8 = .ok (.ifCond .eq 11, 3) := by decide +kernel
theorem dX11_cut_11 : decode cX11_cut 11 = .ok (.aload_n 0, 1) := by decide +kernel
theorem dX11_cut_12 : decode cX11_cut 12 = .ok (.iload_n 1, 1) := by decide +kernel
theorem dX11_cut_13 : decode cX11_cut 13 = .ok (.invokevirtual 230, 3) := by decide +kernel
theorem dX11_cut_16 : decode cX11_cut 16 = .ok (.goto 4, 3) := by decide +kernel
theorem dX11_cut_19 : decode cX11_cut 19 = .ok (.iconst (-1), 1) := by decide +kernel
theorem dX11_cut_20 : decode cX11_cut 20 = .ok (.ireturn, 1) := by decide +kernel
def f_X11_cut (ρ : RR) (dt : Nat → Nat → Int32) (σ : St) (a1 : Int32) : Int32 := (if (f_X5_isWall σ a1) = 0 then (-1 : Int32) else (f_X11_bestCut ρ dt σ a1))
set_option maxHeartbeats 600000 in
set_option maxRecDepth 100000 in
theorem k_X11_cut (l : Launch) (g : GG) (ρ : RR) (dt : Nat → Nat → Int32) (σ : St) (a1 : Int32) (hX : IX σ) : PI l yX11_cut (wsF yX11_cut cX11_cut 2 (some .int)) { frames := 3, cells := 0, slots := 0, locals := 74 } [.ref (g.2.2 100), .int (a1)] (GB g (xW g ρ) (XB g ρ dt) σ) (f_X11_cut ρ dt σ a1) := by
  refine start_PI (by decide) (Nat.le_of_ble_eq_true rfl) ?_
  intro p e s m args below meth c C0 hG ls hl
  obtain ⟨hK, hP, hDD, hB⟩ := hG
  obtain ⟨hx, hb, hr, hml, hown, hts, hlocks⟩ := id C0
  have hl : lv_has ls 2 [(0, .ref (g.2.2 100)), (1, .int (a1))] := hl
  generalize hT : (f_X11_cut ρ dt σ a1) = tgt
  unfold f_X11_cut at hT
  obtain ⟨⟨j1, j1'⟩, ⟨j3, j3'⟩, ⟨j5, j5'⟩, ⟨j8, j8'⟩, ⟨j9, j9'⟩, ⟨j12, j12'⟩, ⟨j14, j14'⟩, ⟨j17, j17'⟩, j81, jW⟩ := id hX
  refine lv_aload_n hx hb dX11_cut_0 rfl (lv_at hl 0 rfl) ?_
  refine x_get (σ := σ) (v := .ref (g.2.2 101)) (fs := xF0 g ρ σ) 11 0 C0 uw_11 dc_11 hK hP rfl rfl 0 (by decide) rfl w_229 dX11_cut_1 ?_
  refine lv_iload_n hx hb dX11_cut_4 rfl (lv_at hl 1 rfl) ?_
  refine x_cn (rest := []) (As := [.int (a1)]) (σ := σ) (ρ := ρ) (dt := dt) (T := TX5) (N := 18) (fs := xF1 g ρ σ) 5 1 rfl rfl C0 hK hP hDD hB cf_X5_isWall w_615 (k_X5_isWall l g ρ dt σ a1 ) ⟨by decide, by decide⟩ hl.1 rfl rfl (Nat.le_of_ble_eq_true rfl) dX11_cut_5 ⟨Nat.zero_le _, Nat.zero_le _⟩ ?_
  have J8 : ∀ v : Int32, v = (if (f_X5_isWall σ a1) = 0 then (-1 : Int32) else (f_X11_bestCut ρ dt σ a1)) → W p l e { frames := 3, cells := 0, slots := 0, locals := 74 } s m args below meth c s.heap [] 0 0 (QPI below args s tgt) (F0 m 20 ls [.int (v)]) := by
    intro v ev
    subst ev
    exact ret_PI C0 hT dX11_cut_20
  refine lv_if_eq (tgt := 19) hx hb dX11_cut_8 (by decide) (fun c_8 => ?_) (fun c_8 => ?_)
  · refine lv_iconst (v := (-1 : Int32)) hx hb dX11_cut_19 (by decide) ?_
    exact J8 _ (iv_pos c_8 rfl)
  · refine lv_aload_n hx hb dX11_cut_11 rfl (lv_at hl 0 rfl) ?_
    refine lv_iload_n hx hb dX11_cut_12 rfl (lv_at hl 1 rfl) ?_
    have q13_h1 : 0 ≤ a1.toInt := by
      have := xw_ne c_8
      omega
    have q13_h1b : a1.toInt < 6 := by
      have := xw_ne c_8
      omega
    refine x_ci (rest := []) (As := [.int (a1)]) (σ := σ) (ρ := ρ) (dt := dt) (T := TX11) (N := 10) (fs := xF0 g ρ σ) 11 0 rfl rfl C0 hK hP hDD hB cf_X11_bestCut w_790 (k_X11_bestCut l g ρ dt σ a1 hX q13_h1 q13_h1b) ⟨by decide, by decide⟩ hl.1 rfl rfl (Nat.le_of_ble_eq_true rfl) dX11_cut_13 ⟨Nat.zero_le _, Nat.zero_le _⟩ ?_
    refine lv_goto (tgt := 20) hx hb dX11_cut_16 (by decide) ?_
    exact J8 _ (iv_neg c_8 rfl)
/-! ThreeMeasures.cost -/
theorem dX11_cost_0 : decode cX11_cost 0 = .ok (.aload_n 0, 1) := by decide +kernel
theorem dX11_cost_1 : decode cX11_cost 1 = .ok (.getfield 12, 3) := by decide +kernel
theorem dX11_cost_4 : decode cX11_cost 4 = .ok (.iload_n 1, 1) := by decide +kernel
theorem dX11_cost_5 : decode cX11_cost 5 = .ok (.invokevirtual 121, 3) := by decide +kernel
theorem dX11_cost_8 : decode cX11_cost 8 = .ok (.ifCond .ne 7, 3) := by decide +kernel
theorem dX11_cost_11 : decode cX11_cost 11 = .ok (.ldc2_w 233, 3) := by decide +kernel
theorem dX11_cost_14 : decode cX11_cost 14 = .ok (.lreturn, 1) := by decide +kernel
theorem dX11_cost_15 : decode cX11_cost 15 = .ok (.aload_n 0, 1) := by decide +kernel
theorem dX11_cost_16 : decode cX11_cost 16 = .ok (.iload_n 1, 1) := by decide +kernel
theorem dX11_cost_17 : decode cX11_cost 17 = .ok (.aload_n 0, 1) := by decide +kernel
theorem dX11_cost_18 : decode cX11_cost 18 = .ok (.iload_n 1, 1) := by decide +kernel
theorem dX11_cost_19 : decode cX11_cost 19 = .ok (.invokevirtual 230, 3) := by decide +kernel
theorem dX11_cost_22 : decode cX11_cost 22 = .ok (.invokevirtual 235, 3) := by decide +kernel
theorem dX11_cost_25 : decode cX11_cost 25 = .ok (.aload_n 0, 1) := by decide +kernel
theorem dX11_cost_26 : decode cX11_cost 26 = .ok (.getfield 12, 3) := by decide +kernel
theorem dX11_cost_29 : decode cX11_cost 29 = .ok (.iload_n 1, 1) := by decide +kernel
theorem dX11_cost_30 : decode cX11_cost 30 = .ok (.invokevirtual 125, 3) := by decide +kernel
theorem dX11_cost_33 : decode cX11_cost 33 = .ok (.iconst 1, 1) := by decide +kernel
theorem dX11_cost_34 : decode cX11_cost 34 = .ok (.iadd, 1) := by decide +kernel
theorem dX11_cost_35 : decode cX11_cost 35 = .ok (.i2l, 1) := by decide +kernel
theorem dX11_cost_36 : decode cX11_cost 36 = .ok (.iload_n 2, 1) := by decide +kernel
theorem dX11_cost_37 : decode cX11_cost 37 = .ok (.invokestatic 239, 3) := by decide +kernel
theorem dX11_cost_40 : decode cX11_cost 40 = .ok (.lreturn, 1) := by decide +kernel
def f_X11_cost (ρ : RR) (dt : Nat → Nat → Int32) (σ : St) (a1 : Int32) (a2 : Int32) : Int64 := (if (f_X5_isWall σ a1) = 0 then (-9223372036854775808 : Int64) else (f_X11_fraction (f_X11_costOfAll ρ dt σ a1 (f_X11_bestCut ρ dt σ a1)) (((f_X5_gap σ a1) + (1 : Int32)).toInt64) a2))
set_option maxHeartbeats 600000 in
set_option maxRecDepth 100000 in
theorem k_X11_cost (l : Launch) (g : GG) (ρ : RR) (dt : Nat → Nat → Int32) (σ : St) (a1 : Int32) (a2 : Int32) (hX : IX σ) : PL l yX11_cost (wsF yX11_cost cX11_cost 3 (some .long)) { frames := 3, cells := 0, slots := 0, locals := 74 } [.ref (g.2.2 100), .int (a1), .int (a2)] (GB g (xW g ρ) (XB g ρ dt) σ) (f_X11_cost ρ dt σ a1 a2) := by
  refine start_PL (by decide) (Nat.le_of_ble_eq_true rfl) ?_
  intro p e s m args below meth c C0 hG ls hl
  obtain ⟨hK, hP, hDD, hB⟩ := hG
  obtain ⟨hx, hb, hr, hml, hown, hts, hlocks⟩ := id C0
  have hl : lv_has ls 3 [(0, .ref (g.2.2 100)), (1, .int (a1)), (2, .int (a2))] := hl
  generalize hT : (f_X11_cost ρ dt σ a1 a2) = tgt
  unfold f_X11_cost at hT
  obtain ⟨⟨j1, j1'⟩, ⟨j3, j3'⟩, ⟨j5, j5'⟩, ⟨j8, j8'⟩, ⟨j9, j9'⟩, ⟨j12, j12'⟩, ⟨j14, j14'⟩, ⟨j17, j17'⟩, j81, jW⟩ := id hX
  refine lv_aload_n hx hb dX11_cost_0 rfl (lv_at hl 0 rfl) ?_
  refine x_get (σ := σ) (v := .ref (g.2.2 101)) (fs := xF0 g ρ σ) 11 0 C0 uw_11 dc_11 hK hP rfl rfl 0 (by decide) rfl w_229 dX11_cost_1 ?_
  refine lv_iload_n hx hb dX11_cost_4 rfl (lv_at hl 1 rfl) ?_
  refine x_cn (rest := []) (As := [.int (a1)]) (σ := σ) (ρ := ρ) (dt := dt) (T := TX5) (N := 18) (fs := xF1 g ρ σ) 5 1 rfl rfl C0 hK hP hDD hB cf_X5_isWall w_615 (k_X5_isWall l g ρ dt σ a1 ) ⟨by decide, by decide⟩ hl.1 rfl rfl (Nat.le_of_ble_eq_true rfl) dX11_cost_5 ⟨Nat.zero_le _, Nat.zero_le _⟩ ?_
  refine lv_if_ne (tgt := 15) hx hb dX11_cost_8 (by decide) (fun c_8 => ?_) (fun c_8 => ?_)
  · have hT := hT_neg c_8 hT
    refine lv_aload_n hx hb dX11_cost_15 rfl (lv_at hl 0 rfl) ?_
    refine lv_iload_n hx hb dX11_cost_16 rfl (lv_at hl 1 rfl) ?_
    refine lv_aload_n hx hb dX11_cost_17 rfl (lv_at hl 0 rfl) ?_
    refine lv_iload_n hx hb dX11_cost_18 rfl (lv_at hl 1 rfl) ?_
    have q19_h1 : 0 ≤ a1.toInt := by
      have := xw_ne c_8
      omega
    have q19_h1b : a1.toInt < 6 := by
      have := xw_ne c_8
      omega
    refine x_ci (rest := [.int (a1), .ref (g.2.2 100)]) (As := [.int (a1)]) (σ := σ) (ρ := ρ) (dt := dt) (T := TX11) (N := 10) (fs := xF0 g ρ σ) 11 0 rfl rfl C0 hK hP hDD hB cf_X11_bestCut w_790 (k_X11_bestCut l g ρ dt σ a1 hX q19_h1 q19_h1b) ⟨by decide, by decide⟩ hl.1 rfl rfl (Nat.le_of_ble_eq_true rfl) dX11_cost_19 ⟨Nat.zero_le _, Nat.zero_le _⟩ ?_
    have q22_h1 : 0 ≤ a1.toInt := by
      have := xw_ne c_8
      omega
    have q22_h1b : a1.toInt < 6 := by
      have := xw_ne c_8
      omega
    refine x_cl (rest := []) (As := [.int (a1), .int ((f_X11_bestCut ρ dt σ a1))]) (σ := σ) (ρ := ρ) (dt := dt) (T := TX11) (N := 10) (fs := xF0 g ρ σ) 11 0 rfl rfl C0 hK hP hDD hB cf_X11_costOfAll w_795 (k_X11_costOfAll l g ρ dt σ a1 (f_X11_bestCut ρ dt σ a1) hX q22_h1 q22_h1b) ⟨by decide, by decide⟩ hl.1 rfl rfl (Nat.le_of_ble_eq_true rfl) dX11_cost_22 ⟨Nat.zero_le _, Nat.zero_le _⟩ ?_
    refine lv_aload_n hx hb dX11_cost_25 rfl (lv_at hl 0 rfl) ?_
    refine x_get (σ := σ) (v := .ref (g.2.2 101)) (fs := xF0 g ρ σ) 11 0 C0 uw_11 dc_11 hK hP rfl rfl 0 (by decide) rfl w_229 dX11_cost_26 ?_
    refine lv_iload_n hx hb dX11_cost_29 rfl (lv_at hl 1 rfl) ?_
    have q30_h1 : 0 ≤ a1.toInt := by
      have := xw_ne c_8
      omega
    have q30_h2 : a1.toInt < 6 := by
      have := xw_ne c_8
      omega
    refine x_cn (rest := [.long ((f_X11_costOfAll ρ dt σ a1 (f_X11_bestCut ρ dt σ a1)))]) (As := [.int (a1)]) (σ := σ) (ρ := ρ) (dt := dt) (T := TX5) (N := 18) (fs := xF1 g ρ σ) 5 1 rfl rfl C0 hK hP hDD hB cf_X5_gap w_619 (k_X5_gap l g ρ dt σ a1 q30_h1 q30_h2) ⟨by decide, by decide⟩ hl.1 rfl rfl (Nat.le_of_ble_eq_true rfl) dX11_cost_30 ⟨Nat.zero_le _, Nat.zero_le _⟩ ?_
    refine lv_iconst (v := (1 : Int32)) hx hb dX11_cost_33 (by decide) ?_
    refine lv_iadd hx hb dX11_cost_34 ?_
    refine lv_i2l (v := (((f_X5_gap σ a1) + (1 : Int32)).toInt64)) hx hb dX11_cost_35 rfl ?_
    refine lv_iload_n hx hb dX11_cost_36 rfl (lv_at hl 2 rfl) ?_
    refine s_cl (rest := []) (As := [.long ((f_X11_costOfAll ρ dt σ a1 (f_X11_bestCut ρ dt σ a1))), .long ((((f_X5_gap σ a1) + (1 : Int32)).toInt64)), .int (a2)]) C0 cf_X11_fraction w_805 (k_X11_fraction l (f_X11_costOfAll ρ dt σ a1 (f_X11_bestCut ρ dt σ a1)) (((f_X5_gap σ a1) + (1 : Int32)).toInt64) a2 ) ⟨by decide, by decide⟩ hl.1 rfl rfl (Nat.le_of_ble_eq_true rfl) dX11_cost_37 ⟨Nat.zero_le _, Nat.zero_le _⟩ ?_
    exact ret_PL C0 hT dX11_cost_40
  · have hT := hT_pos c_8 hT
    refine lv_ldc2 (v := (-9223372036854775808 : Int64)) hx hb C0.2.2.2.2.1 (C0.2.2.2.2.2.1 _ w_804) dX11_cost_11 ?_
    exact ret_PL C0 hT dX11_cost_14
set_option maxRecDepth 20000 in
theorem w_234 : (Cond.fieldLink RX11 39 RX11 "found" "[I") ∈ TB := inTB (List.mem_of_getElem? (i := 234) (by decide +kernel)) (by decide +kernel)
/-! ThreeMeasures.findSurest -/
theorem dX11_findSurest_0 : decode cX11_findSurest 0 = .ok (.iconst 0, 1) := by decide +kernel
theorem dX11_findSurest_1 : decode cX11_findSurest 1 = .ok (.istore_n 3, 1) := by decide +kernel
theorem dX11_findSurest_2 : decode cX11_findSurest 2 = .ok (.iconst 0, 1) := by decide +kernel
theorem dX11_findSurest_3 : decode cX11_findSurest 3 = .ok (.istore 4, 2) := by decide +kernel
theorem dX11_findSurest_5 : decode cX11_findSurest 5 = .ok (.iload 4, 2) := by decide +kernel
theorem dX11_findSurest_7 : decode cX11_findSurest 7 = .ok (.aload_n 0, 1) := by decide +kernel
theorem dX11_findSurest_8 : decode cX11_findSurest 8 = .ok (.getfield 12, 3) := by decide +kernel
theorem dX11_findSurest_11 : decode cX11_findSurest 11 = .ok (.getfield 76, 3) := by decide +kernel
theorem dX11_findSurest_14 : decode cX11_findSurest 14 = .ok (.if_icmp .ge 137, 3) := by decide +kernel
theorem dX11_findSurest_17 : decode cX11_findSurest 17 = .ok (.aload_n 0, 1) := by decide +kernel
theorem dX11_findSurest_18 : decode cX11_findSurest 18 = .ok (.getfield 12, 3) := by decide +kernel
theorem dX11_findSurest_21 : decode cX11_findSurest 21 = .ok (.iload 4, 2) := by decide +kernel
theorem dX11_findSurest_23 : decode cX11_findSurest 23 = .ok (.invokevirtual 87, 3) := by decide +kernel
theorem dX11_findSurest_26 : decode cX11_findSurest 26 = .ok (.astore 5, 2) := by decide +kernel
theorem dX11_findSurest_28 : decode cX11_findSurest 28 = .ok (.iconst 0, 1) := by decide +kernel
theorem dX11_findSurest_29 : decode cX11_findSurest 29 = .ok (.istore 6, 2) := by decide +kernel
theorem dX11_findSurest_31 : decode cX11_findSurest 31 = .ok (.aload 5, 2) := by decide +kernel
theorem dX11_findSurest_33 : decode cX11_findSurest 33 = .ok (.ifnull 112, 3) := by decide +kernel
theorem dX11_findSurest_36 : decode cX11_findSurest 36 = .ok (.iload 6, 2) := by decide +kernel
theorem dX11_findSurest_38 : decode cX11_findSurest 38 = .ok (.bipush 30, 2) := by decide +kernel
theorem dX11_findSurest_40 : decode cX11_findSurest 40 = .ok (.if_icmp .gt 105, 3) := by decide +kernel
theorem dX11_findSurest_43 : decode cX11_findSurest 43 = .ok (.iload_n 2, 1) := by decide +kernel
theorem dX11_findSurest_44 : decode cX11_findSurest 44 = .ok (.aload_n 0, 1) := by decide +kernel
theorem dX11_findSurest_45 : decode cX11_findSurest 45 = .ok (.getfield 12, 3) := by decide +kernel
theorem dX11_findSurest_48 : decode cX11_findSurest 48 = .ok (.aload 5, 2) := by decide +kernel
theorem dX11_findSurest_50 : decode cX11_findSurest 50 = .ok (.iload_n 1, 1) := by decide +kernel
theorem dX11_findSurest_51 : decode cX11_findSurest 51 = .ok (.iload 6, 2) := by decide +kernel
theorem dX11_findSurest_53 : decode cX11_findSurest 53 = .ok (.invokevirtual 157, 3) := by decide +kernel
theorem dX11_findSurest_56 : decode cX11_findSurest 56 = .ok (.isub, 1) := by decide +kernel
theorem dX11_findSurest_57 : decode cX11_findSurest 57 = .ok (.istore 7, 2) := by decide +kernel
theorem dX11_findSurest_59 : decode cX11_findSurest 59 = .ok (.aload_n 0, 1) := by decide +kernel
theorem dX11_findSurest_60 : decode cX11_findSurest 60 = .ok (.getfield 12, 3) := by decide +kernel
theorem dX11_findSurest_63 : decode cX11_findSurest 63 = .ok (.aload 5, 2) := by decide +kernel
theorem dX11_findSurest_65 : decode cX11_findSurest 65 = .ok (.iload_n 1, 1) := by decide +kernel
theorem dX11_findSurest_66 : decode cX11_findSurest 66 = .ok (.iload 6, 2) := by decide +kernel
theorem dX11_findSurest_68 : decode cX11_findSurest 68 = .ok (.invokevirtual 151, 3) := by decide +kernel
theorem dX11_findSurest_71 : decode cX11_findSurest 71 = .ok (.aload_n 0, 1) := by decide +kernel
theorem dX11_findSurest_72 : decode cX11_findSurest 72 = .ok (.getfield 12, 3) := by decide +kernel
theorem dX11_findSurest_75 : decode cX11_findSurest 75 = .ok (.aload 5, 2) := by decide +kernel
theorem dX11_findSurest_77 : decode cX11_findSurest 77 = .ok (.iload_n 1, 1) := by decide +kernel
theorem dX11_findSurest_78 : decode cX11_findSurest 78 = .ok (.iload 6, 2) := by decide +kernel
theorem dX11_findSurest_80 : decode cX11_findSurest 80 = .ok (.invokevirtual 141, 3) := by decide +kernel
theorem dX11_findSurest_83 : decode cX11_findSurest 83 = .ok (.isub, 1) := by decide +kernel
theorem dX11_findSurest_84 : decode cX11_findSurest 84 = .ok (.istore 8, 2) := by decide +kernel
theorem dX11_findSurest_86 : decode cX11_findSurest 86 = .ok (.iload 7, 2) := by decide +kernel
theorem dX11_findSurest_88 : decode cX11_findSurest 88 = .ok (.ifCond .lt 51, 3) := by decide +kernel
theorem dX11_findSurest_91 : decode cX11_findSurest 91 = .ok (.iload 7, 2) := by decide +kernel
theorem dX11_findSurest_93 : decode cX11_findSurest 93 = .ok (.bipush 59, 2) := by decide +kernel
theorem dX11_findSurest_95 : decode cX11_findSurest 95 = .ok (.if_icmp .gt 44, 3) := by decide +kernel
theorem dX11_findSurest_98 : decode cX11_findSurest 98 = .ok (.iload_n 3, 1) := by decide +kernel
theorem dX11_findSurest_99 : decode cX11_findSurest 99 = .ok (.ifCond .eq 14, 3) := by decide +kernel
theorem dX11_findSurest_102 : decode cX11_findSurest 102 = .ok (.iload 8, 2) := by decide +kernel
theorem dX11_findSurest_104 : decode cX11_findSurest 104 = .ok (.aload_n 0, 1) := by decide +kernel
theorem dX11_findSurest_105 : decode cX11_findSurest 105 = .ok (.getfield 39, 3) := by decide +kernel
theorem dX11_findSurest_108 : decode cX11_findSurest 108 = .ok (.iconst 2, 1) := by decide +kernel
theorem dX11_findSurest_109 : decode cX11_findSurest 109 = .ok (.iaload, 1) := by decide +kernel
theorem dX11_findSurest_110 : decode cX11_findSurest 110 = .ok (.if_icmp .ge 29, 3) := by decide +kernel
theorem dX11_findSurest_113 : decode cX11_findSurest 113 = .ok (.iconst 1, 1) := by decide +kernel
theorem dX11_findSurest_114 : decode cX11_findSurest 114 = .ok (.istore_n 3, 1) := by decide +kernel
theorem dX11_findSurest_115 : decode cX11_findSurest 115 = .ok (.aload_n 0, 1) := by decide +kernel
theorem dX11_findSurest_116 : decode cX11_findSurest 116 = .ok (.getfield 39, 3) := by decide +kernel
theorem dX11_findSurest_119 : decode cX11_findSurest 119 = .ok (.iconst 0, 1) := by decide +kernel
theorem dX11_findSurest_120 : decode cX11_findSurest 120 = .ok (.iload 4, 2) := by decide +kernel
theorem dX11_findSurest_122 : decode cX11_findSurest 122 = .ok (.iastore, 1) := by decide +kernel
theorem dX11_findSurest_123 : decode cX11_findSurest 123 = .ok (.aload_n 0, 1) := by decide +kernel
theorem dX11_findSurest_124 : decode cX11_findSurest 124 = .ok (.getfield 39, 3) := by decide +kernel
theorem dX11_findSurest_127 : decode cX11_findSurest 127 = .ok (.iconst 1, 1) := by decide +kernel
theorem dX11_findSurest_128 : decode cX11_findSurest 128 = .ok (.iload 6, 2) := by decide +kernel
theorem dX11_findSurest_130 : decode cX11_findSurest 130 = .ok (.iastore, 1) := by decide +kernel
theorem dX11_findSurest_131 : decode cX11_findSurest 131 = .ok (.aload_n 0, 1) := by decide +kernel
theorem dX11_findSurest_132 : decode cX11_findSurest 132 = .ok (.getfield 39, 3) := by decide +kernel
theorem dX11_findSurest_135 : decode cX11_findSurest 135 = .ok (.iconst 2, 1) := by decide +kernel
theorem dX11_findSurest_136 : decode cX11_findSurest 136 = .ok (.iload 8, 2) := by decide +kernel
theorem dX11_findSurest_138 : decode cX11_findSurest 138 = .ok (.iastore, 1) := by decide +kernel
theorem dX11_findSurest_139 : decode cX11_findSurest 139 = .ok (.iinc 6 1, 3) := by decide +kernel
theorem dX11_findSurest_142 : decode cX11_findSurest 142 = .ok (.goto (-111), 3) := by decide +kernel
theorem dX11_findSurest_145 : decode cX11_findSurest 145 = .ok (.iinc 4 1, 3) := by decide +kernel
theorem dX11_findSurest_148 : decode cX11_findSurest 148 = .ok (.goto (-143), 3) := by decide +kernel
theorem dX11_findSurest_151 : decode cX11_findSurest 151 = .ok (.iload_n 3, 1) := by decide +kernel
theorem dX11_findSurest_152 : decode cX11_findSurest 152 = .ok (.ireturn, 1) := by decide +kernel
def f_X11_findSurest_145 (ρ : RR) (dt : Nat → Nat → Int32) (K5 : St → Int32 → Int32 → Int32 → Int32 → Int32 × St) (σ : St) (a1 : Int32) (a2 : Int32) (a3 : Int32) (a4 : Int32) : Int32 × St := (K5 σ a1 a2 a3 (a4 + (1 : Int32)))
set_option maxHeartbeats 600000 in
set_option maxRecDepth 100000 in
theorem b_X11_findSurest_145 {g : GG} {ρ : RR} {dt : Nat → Nat → Int32} {p : Program} {l : Launch} {e : Env} {s : State} {m : MethodId} {args : Array Value} {below : List Frame} {meth : Method} {c : Code} {A : Nat → Prop} {tgt : Int32 × St} {K5 : St → Int32 → Int32 → Int32 → Int32 → Int32 × St} {N5 : Nat} (C0 : BC p s m args meth c cX11_findSurest RX11 9 (some .boolean)) (hK5 : ∀ (σ : St) (a1 : Int32) (a2 : Int32) (a3 : Int32) (a4 : Int32), (IX σ) → (NN ρ (σ 25)) → (a3 = 0 ∨ a3 = 1) → (0 ≤ a4.toInt) → ((σ 25 0).toInt - a4.toInt).toNat < N5 → ∀ {H : Heap} {locs : List Loc}, KK g s → WC g (xW g ρ) A s.heap σ H locs → XH g ρ dt s.heap → (∀ q, A q → q ∈ adrs (xW g (fun _ _ => none) (fun _ _ => 0))) → ∀ {ls : Array Slot}, lv_has ls 9 [(0, .ref (g.2.2 100)), (1, .int (a1)), (2, .int (a2)), (3, .int (a3)), (4, .int (a4))] → K5 σ a1 a2 a3 a4 = tgt → W p l e { frames := 4, cells := 0, slots := 0, locals := 102 } s m args below meth c H locs 0 0 (QMI below args s g (xW g ρ) A tgt) (F0 m 5 ls [])) {σ : St} {a1 : Int32} {a2 : Int32} {a3 : Int32} {a4 : Int32} {H : Heap} {locs : List Loc} (hX : IX σ) (hN : NN ρ (σ 25)) (hz : a3 = 0 ∨ a3 = 1) (h4 : 0 ≤ a4.toInt) (h4b : a4.toInt < (σ 25 0).toInt) (hm5 : ((σ 25 0).toInt - a4.toInt).toNat < N5 + 1)  (hK : KK g s) (hC : WC g (xW g ρ) A s.heap σ H locs) (hB : XH g ρ dt s.heap) (hA : ∀ q, A q → q ∈ adrs (xW g (fun _ _ => none) (fun _ _ => 0))) {ls : Array Slot} (hl : lv_has ls 9 [(0, .ref (g.2.2 100)), (1, .int (a1)), (2, .int (a2)), (3, .int (a3)), (4, .int (a4))]) (hT : f_X11_findSurest_145 ρ dt K5 σ a1 a2 a3 a4 = tgt) : W p l e { frames := 4, cells := 0, slots := 0, locals := 102 } s m args below meth c H locs 0 0 (QMI below args s g (xW g ρ) A tgt) (F0 m 145 ls []) := by
  obtain ⟨hx, hb, hr, hml, hown, hts, hlocks⟩ := id C0
  unfold f_X11_findSurest_145 at hT
  obtain ⟨⟨j1, j1'⟩, ⟨j3, j3'⟩, ⟨j5, j5'⟩, ⟨j8, j8'⟩, ⟨j9, j9'⟩, ⟨j12, j12'⟩, ⟨j14, j14'⟩, ⟨j17, j17'⟩, j81, jW⟩ := id hX
  refine lv_iinc (v := (a4 + (1 : Int32))) (lv' := [(4, .int ((a4 + (1 : Int32)))), (0, .ref (g.2.2 100)), (1, .int (a1)), (2, .int (a2)), (3, .int (a3))]) hx hb dX11_findSurest_145 hl (k := 4) rfl rfl (by decide) rfl (fun ls hl => ?_)
  refine lv_goto (tgt := 5) hx hb dX11_findSurest_148 (by decide) ?_
  have j148_h4 : 0 ≤ (a4 + (1 : Int32)).toInt := by
    have : ((1 : Int32)).toInt = 1 := by decide
    try have := ti_add (a := a4) (b := (1 : Int32)) (by omega) (by omega)
    omega
  have j148_m : ((σ 25 0).toInt - (a4 + (1 : Int32)).toInt).toNat < N5 := by
    have : ((1 : Int32)).toInt = 1 := by decide
    try have := ti_add (a := a4) (b := (1 : Int32)) (by omega) (by omega)
    omega
  exact hK5 σ a1 a2 a3 (a4 + (1 : Int32)) hX hN hz j148_h4 j148_m hK hC hB hA (lv_sub hl [1, 2, 3, 4, 0] rfl) hT
def f_X11_findSurest_139 (ρ : RR) (dt : Nat → Nat → Int32) (K5 : St → Int32 → Int32 → Int32 → Int32 → Int32 × St) (K31 : St → Int32 → Int32 → Int32 → Int32 → Nat → Int32 → Int32 × St) (σ : St) (a1 : Int32) (a2 : Int32) (a3 : Int32) (a4 : Int32) (a5 : Nat) (a6 : Int32) : Int32 × St := (K31 σ a1 a2 a3 a4 a5 (a6 + (1 : Int32)))
set_option maxHeartbeats 600000 in
set_option maxRecDepth 100000 in
theorem b_X11_findSurest_139 {g : GG} {ρ : RR} {dt : Nat → Nat → Int32} {p : Program} {l : Launch} {e : Env} {s : State} {m : MethodId} {args : Array Value} {below : List Frame} {meth : Method} {c : Code} {A : Nat → Prop} {tgt : Int32 × St} {K5 : St → Int32 → Int32 → Int32 → Int32 → Int32 × St} {N5 : Nat} {K31 : St → Int32 → Int32 → Int32 → Int32 → Nat → Int32 → Int32 × St} {N31 : Nat} (C0 : BC p s m args meth c cX11_findSurest RX11 9 (some .boolean)) (hK5 : ∀ (σ : St) (a1 : Int32) (a2 : Int32) (a3 : Int32) (a4 : Int32), (IX σ) → (NN ρ (σ 25)) → (a3 = 0 ∨ a3 = 1) → (0 ≤ a4.toInt) → ((σ 25 0).toInt - a4.toInt).toNat < N5 → ∀ {H : Heap} {locs : List Loc}, KK g s → WC g (xW g ρ) A s.heap σ H locs → XH g ρ dt s.heap → (∀ q, A q → q ∈ adrs (xW g (fun _ _ => none) (fun _ _ => 0))) → ∀ {ls : Array Slot}, lv_has ls 9 [(0, .ref (g.2.2 100)), (1, .int (a1)), (2, .int (a2)), (3, .int (a3)), (4, .int (a4))] → K5 σ a1 a2 a3 a4 = tgt → W p l e { frames := 4, cells := 0, slots := 0, locals := 102 } s m args below meth c H locs 0 0 (QMI below args s g (xW g ρ) A tgt) (F0 m 5 ls [])) (hK31 : ∀ (σ : St) (a1 : Int32) (a2 : Int32) (a3 : Int32) (a4 : Int32) (a5 : Nat) (a6 : Int32), (IX σ) → (NN ρ (σ 25)) → (a3 = 0 ∨ a3 = 1) → (0 ≤ a4.toInt) → (a4.toInt < (σ 25 0).toInt) → (((σ 25 0).toInt - a4.toInt).toNat < N5 + 1) → (∃ i, ρ 24 i = some a5) → (0 ≤ a6.toInt) → (31 - a6.toInt).toNat < N31 → ∀ {H : Heap} {locs : List Loc}, KK g s → WC g (xW g ρ) A s.heap σ H locs → XH g ρ dt s.heap → (∀ q, A q → q ∈ adrs (xW g (fun _ _ => none) (fun _ _ => 0))) → ∀ {ls : Array Slot}, lv_has ls 9 [(0, .ref (g.2.2 100)), (1, .int (a1)), (2, .int (a2)), (3, .int (a3)), (4, .int (a4)), (5, .ref (a5)), (6, .int (a6))] → K31 σ a1 a2 a3 a4 a5 a6 = tgt → W p l e { frames := 4, cells := 0, slots := 0, locals := 102 } s m args below meth c H locs 0 0 (QMI below args s g (xW g ρ) A tgt) (F0 m 31 ls [])) {σ : St} {a1 : Int32} {a2 : Int32} {a3 : Int32} {a4 : Int32} {a5 : Nat} {a6 : Int32} {H : Heap} {locs : List Loc} (hX : IX σ) (hN : NN ρ (σ 25)) (hz : a3 = 0 ∨ a3 = 1) (h4 : 0 ≤ a4.toInt) (h4b : a4.toInt < (σ 25 0).toInt) (hm5 : ((σ 25 0).toInt - a4.toInt).toNat < N5 + 1) (hs5 : ∃ i, ρ 24 i = some a5) (h6 : 0 ≤ a6.toInt) (h6b : a6.toInt ≤ 30) (hm31 : (31 - a6.toInt).toNat < N31 + 1)  (hK : KK g s) (hC : WC g (xW g ρ) A s.heap σ H locs) (hB : XH g ρ dt s.heap) (hA : ∀ q, A q → q ∈ adrs (xW g (fun _ _ => none) (fun _ _ => 0))) {ls : Array Slot} (hl : lv_has ls 9 [(0, .ref (g.2.2 100)), (1, .int (a1)), (2, .int (a2)), (3, .int (a3)), (4, .int (a4)), (5, .ref (a5)), (6, .int (a6))]) (hT : f_X11_findSurest_139 ρ dt K5 K31 σ a1 a2 a3 a4 a5 a6 = tgt) : W p l e { frames := 4, cells := 0, slots := 0, locals := 102 } s m args below meth c H locs 0 0 (QMI below args s g (xW g ρ) A tgt) (F0 m 139 ls []) := by
  obtain ⟨hx, hb, hr, hml, hown, hts, hlocks⟩ := id C0
  unfold f_X11_findSurest_139 at hT
  obtain ⟨⟨j1, j1'⟩, ⟨j3, j3'⟩, ⟨j5, j5'⟩, ⟨j8, j8'⟩, ⟨j9, j9'⟩, ⟨j12, j12'⟩, ⟨j14, j14'⟩, ⟨j17, j17'⟩, j81, jW⟩ := id hX
  refine lv_iinc (v := (a6 + (1 : Int32))) (lv' := [(6, .int ((a6 + (1 : Int32)))), (0, .ref (g.2.2 100)), (1, .int (a1)), (2, .int (a2)), (3, .int (a3)), (4, .int (a4)), (5, .ref (a5))]) hx hb dX11_findSurest_139 hl (k := 6) rfl rfl (by decide) rfl (fun ls hl => ?_)
  refine lv_goto (tgt := 31) hx hb dX11_findSurest_142 (by decide) ?_
  have j142_h6 : 0 ≤ (a6 + (1 : Int32)).toInt := by
    have : ((1 : Int32)).toInt = 1 := by decide
    try have := ti_add (a := a6) (b := (1 : Int32)) (by omega) (by omega)
    omega
  have j142_m : (31 - (a6 + (1 : Int32)).toInt).toNat < N31 := by
    have : ((1 : Int32)).toInt = 1 := by decide
    try have := ti_add (a := a6) (b := (1 : Int32)) (by omega) (by omega)
    omega
  exact hK31 σ a1 a2 a3 a4 a5 (a6 + (1 : Int32)) hX hN hz h4 h4b hm5 hs5 j142_h6 j142_m hK hC hB hA (lv_sub hl [1, 2, 3, 4, 5, 6, 0] rfl) hT
def f_X11_findSurest_113 (ρ : RR) (dt : Nat → Nat → Int32) (K5 : St → Int32 → Int32 → Int32 → Int32 → Int32 × St) (K31 : St → Int32 → Int32 → Int32 → Int32 → Nat → Int32 → Int32 × St) (σ : St) (a1 : Int32) (a2 : Int32) (a4 : Int32) (a5 : Nat) (a6 : Int32) (a8 : Int32) : Int32 × St := (f_X11_findSurest_139 ρ dt K5 K31 (up2 (up2 (up2 σ 5 0 a4) 5 1 a6) 5 2 a8) a1 a2 (1 : Int32) a4 a5 a6)
set_option maxHeartbeats 600000 in
set_option maxRecDepth 100000 in
theorem b_X11_findSurest_113 {g : GG} {ρ : RR} {dt : Nat → Nat → Int32} {p : Program} {l : Launch} {e : Env} {s : State} {m : MethodId} {args : Array Value} {below : List Frame} {meth : Method} {c : Code} {A : Nat → Prop} {tgt : Int32 × St} {K5 : St → Int32 → Int32 → Int32 → Int32 → Int32 × St} {N5 : Nat} {K31 : St → Int32 → Int32 → Int32 → Int32 → Nat → Int32 → Int32 × St} {N31 : Nat} (C0 : BC p s m args meth c cX11_findSurest RX11 9 (some .boolean)) (hK5 : ∀ (σ : St) (a1 : Int32) (a2 : Int32) (a3 : Int32) (a4 : Int32), (IX σ) → (NN ρ (σ 25)) → (a3 = 0 ∨ a3 = 1) → (0 ≤ a4.toInt) → ((σ 25 0).toInt - a4.toInt).toNat < N5 → ∀ {H : Heap} {locs : List Loc}, KK g s → WC g (xW g ρ) A s.heap σ H locs → XH g ρ dt s.heap → (∀ q, A q → q ∈ adrs (xW g (fun _ _ => none) (fun _ _ => 0))) → ∀ {ls : Array Slot}, lv_has ls 9 [(0, .ref (g.2.2 100)), (1, .int (a1)), (2, .int (a2)), (3, .int (a3)), (4, .int (a4))] → K5 σ a1 a2 a3 a4 = tgt → W p l e { frames := 4, cells := 0, slots := 0, locals := 102 } s m args below meth c H locs 0 0 (QMI below args s g (xW g ρ) A tgt) (F0 m 5 ls [])) (hK31 : ∀ (σ : St) (a1 : Int32) (a2 : Int32) (a3 : Int32) (a4 : Int32) (a5 : Nat) (a6 : Int32), (IX σ) → (NN ρ (σ 25)) → (a3 = 0 ∨ a3 = 1) → (0 ≤ a4.toInt) → (a4.toInt < (σ 25 0).toInt) → (((σ 25 0).toInt - a4.toInt).toNat < N5 + 1) → (∃ i, ρ 24 i = some a5) → (0 ≤ a6.toInt) → (31 - a6.toInt).toNat < N31 → ∀ {H : Heap} {locs : List Loc}, KK g s → WC g (xW g ρ) A s.heap σ H locs → XH g ρ dt s.heap → (∀ q, A q → q ∈ adrs (xW g (fun _ _ => none) (fun _ _ => 0))) → ∀ {ls : Array Slot}, lv_has ls 9 [(0, .ref (g.2.2 100)), (1, .int (a1)), (2, .int (a2)), (3, .int (a3)), (4, .int (a4)), (5, .ref (a5)), (6, .int (a6))] → K31 σ a1 a2 a3 a4 a5 a6 = tgt → W p l e { frames := 4, cells := 0, slots := 0, locals := 102 } s m args below meth c H locs 0 0 (QMI below args s g (xW g ρ) A tgt) (F0 m 31 ls [])) {σ : St} {a1 : Int32} {a2 : Int32} {a4 : Int32} {a5 : Nat} {a6 : Int32} {a8 : Int32} {H : Heap} {locs : List Loc} (hX : IX σ) (hN : NN ρ (σ 25)) (h4 : 0 ≤ a4.toInt) (h4b : a4.toInt < (σ 25 0).toInt) (hm5 : ((σ 25 0).toInt - a4.toInt).toNat < N5 + 1) (hs5 : ∃ i, ρ 24 i = some a5) (h6 : 0 ≤ a6.toInt) (h6b : a6.toInt ≤ 30) (hm31 : (31 - a6.toInt).toNat < N31 + 1)  (hK : KK g s) (hC : WC g (xW g ρ) A s.heap σ H locs) (hB : XH g ρ dt s.heap) (hA : ∀ q, A q → q ∈ adrs (xW g (fun _ _ => none) (fun _ _ => 0))) {ls : Array Slot} (hl : lv_has ls 9 [(0, .ref (g.2.2 100)), (1, .int (a1)), (2, .int (a2)), (4, .int (a4)), (5, .ref (a5)), (6, .int (a6)), (8, .int (a8))]) (hT : f_X11_findSurest_113 ρ dt K5 K31 σ a1 a2 a4 a5 a6 a8 = tgt) : W p l e { frames := 4, cells := 0, slots := 0, locals := 102 } s m args below meth c H locs 0 0 (QMI below args s g (xW g ρ) A tgt) (F0 m 113 ls []) := by
  obtain ⟨hx, hb, hr, hml, hown, hts, hlocks⟩ := id C0
  unfold f_X11_findSurest_113 at hT
  obtain ⟨⟨j1, j1'⟩, ⟨j3, j3'⟩, ⟨j5, j5'⟩, ⟨j8, j8'⟩, ⟨j9, j9'⟩, ⟨j12, j12'⟩, ⟨j14, j14'⟩, ⟨j17, j17'⟩, j81, jW⟩ := id hX
  refine lv_iconst (v := (1 : Int32)) hx hb dX11_findSurest_113 (by decide) ?_
  refine lv_istore_n (lv' := [(3, .int ((1 : Int32))), (0, .ref (g.2.2 100)), (1, .int (a1)), (2, .int (a2)), (4, .int (a4)), (5, .ref (a5)), (6, .int (a6)), (8, .int (a8))]) hx hb dX11_findSurest_114 rfl hl (by decide) rfl (fun ls hl => ?_)
  refine lv_aload_n hx hb dX11_findSurest_115 rfl (lv_at hl 1 rfl) ?_
  refine x_get (σ := σ) (v := .ref (g.2.2 5)) (fs := xF0 g ρ σ) 11 0 C0 uw_11 dc_11 hK hC.1 rfl rfl 5 (by decide) rfl w_234 dX11_findSurest_116 ?_
  refine lv_iconst (v := (0 : Int32)) hx hb dX11_findSurest_119 (by decide) ?_
  refine lv_iload hx hb dX11_findSurest_120 (lv_at hl 4 rfl) ?_
  refine x_ast (σ := σ) C0 hK hC 5 5 6 rfl (xs_5 g ρ _) (vin_l (by decide)) 0 (by decide) dX11_findSurest_122 (fun H locs hC => ?_)
  refine lv_aload_n hx hb dX11_findSurest_123 rfl (lv_at hl 1 rfl) ?_
  refine x_get (σ := (up2 σ 5 0 a4)) (v := .ref (g.2.2 5)) (fs := xF0 g ρ (up2 σ 5 0 a4)) 11 0 C0 uw_11 dc_11 hK hC.1 rfl rfl 5 (by decide) rfl w_234 dX11_findSurest_124 ?_
  refine lv_iconst (v := (1 : Int32)) hx hb dX11_findSurest_127 (by decide) ?_
  refine lv_iload hx hb dX11_findSurest_128 (lv_at hl 6 rfl) ?_
  refine x_ast (σ := (up2 σ 5 0 a4)) C0 hK hC 5 5 6 rfl (xs_5 g ρ _) (vin_l (by decide)) 1 (by decide) dX11_findSurest_130 (fun H locs hC => ?_)
  refine lv_aload_n hx hb dX11_findSurest_131 rfl (lv_at hl 1 rfl) ?_
  refine x_get (σ := (up2 (up2 σ 5 0 a4) 5 1 a6)) (v := .ref (g.2.2 5)) (fs := xF0 g ρ (up2 (up2 σ 5 0 a4) 5 1 a6)) 11 0 C0 uw_11 dc_11 hK hC.1 rfl rfl 5 (by decide) rfl w_234 dX11_findSurest_132 ?_
  refine lv_iconst (v := (2 : Int32)) hx hb dX11_findSurest_135 (by decide) ?_
  refine lv_iload hx hb dX11_findSurest_136 (lv_at hl 7 rfl) ?_
  refine x_ast (σ := (up2 (up2 σ 5 0 a4) 5 1 a6)) C0 hK hC 5 5 6 rfl (xs_5 g ρ _) (vin_l (by decide)) 2 (by decide) dX11_findSurest_138 (fun H locs hC => ?_)
  have j138_hz : (1 : Int32) = 0 ∨ (1 : Int32) = 1 := Or.inr rfl
  exact b_X11_findSurest_139 (g := g) (ρ := ρ) (dt := dt) (σ := (up2 (up2 (up2 σ 5 0 a4) 5 1 a6) 5 2 a8)) (a1 := a1) (a2 := a2) (a3 := (1 : Int32)) (a4 := a4) (a5 := a5) (a6 := a6) C0 hK5 hK31 (IX_up (by decide) (IX_up (by decide) (IX_up (by decide) hX))) hN j138_hz h4 h4b hm5 hs5 h6 h6b hm31 hK hC hB hA (lv_sub hl [1, 2, 3, 0, 4, 5, 6] rfl) hT
def f_X11_findSurest_31 (ρ : RR) (dt : Nat → Nat → Int32) (K5 : St → Int32 → Int32 → Int32 → Int32 → Int32 × St) (K31 : St → Int32 → Int32 → Int32 → Int32 → Nat → Int32 → Int32 × St) (σ : St) (a1 : Int32) (a2 : Int32) (a3 : Int32) (a4 : Int32) (a5 : Nat) (a6 : Int32) : Int32 × St := (if (30 : Int32) < a6 then (f_X11_findSurest_145 ρ dt K5 σ a1 a2 a3 a4) else (if (a2 - (f_X5_middle ρ dt σ a5 a1 a6)) < 0 then (f_X11_findSurest_139 ρ dt K5 K31 σ a1 a2 a3 a4 a5 a6) else (if (59 : Int32) < (a2 - (f_X5_middle ρ dt σ a5 a1 a6)) then (f_X11_findSurest_139 ρ dt K5 K31 σ a1 a2 a3 a4 a5 a6) else (if a3 = 0 then (f_X11_findSurest_113 ρ dt K5 K31 σ a1 a2 a4 a5 a6 ((f_X5_most ρ dt σ a5 a1 a6) - (f_X5_least ρ dt σ a5 a1 a6))) else (if (σ 5 2) ≤ ((f_X5_most ρ dt σ a5 a1 a6) - (f_X5_least ρ dt σ a5 a1 a6)) then (f_X11_findSurest_139 ρ dt K5 K31 σ a1 a2 a3 a4 a5 a6) else (f_X11_findSurest_113 ρ dt K5 K31 σ a1 a2 a4 a5 a6 ((f_X5_most ρ dt σ a5 a1 a6) - (f_X5_least ρ dt σ a5 a1 a6))))))))
set_option maxHeartbeats 600000 in
set_option maxRecDepth 100000 in
theorem b_X11_findSurest_31 {g : GG} {ρ : RR} {dt : Nat → Nat → Int32} {p : Program} {l : Launch} {e : Env} {s : State} {m : MethodId} {args : Array Value} {below : List Frame} {meth : Method} {c : Code} {A : Nat → Prop} {tgt : Int32 × St} {K5 : St → Int32 → Int32 → Int32 → Int32 → Int32 × St} {N5 : Nat} {K31 : St → Int32 → Int32 → Int32 → Int32 → Nat → Int32 → Int32 × St} {N31 : Nat} (C0 : BC p s m args meth c cX11_findSurest RX11 9 (some .boolean)) (hK5 : ∀ (σ : St) (a1 : Int32) (a2 : Int32) (a3 : Int32) (a4 : Int32), (IX σ) → (NN ρ (σ 25)) → (a3 = 0 ∨ a3 = 1) → (0 ≤ a4.toInt) → ((σ 25 0).toInt - a4.toInt).toNat < N5 → ∀ {H : Heap} {locs : List Loc}, KK g s → WC g (xW g ρ) A s.heap σ H locs → XH g ρ dt s.heap → (∀ q, A q → q ∈ adrs (xW g (fun _ _ => none) (fun _ _ => 0))) → ∀ {ls : Array Slot}, lv_has ls 9 [(0, .ref (g.2.2 100)), (1, .int (a1)), (2, .int (a2)), (3, .int (a3)), (4, .int (a4))] → K5 σ a1 a2 a3 a4 = tgt → W p l e { frames := 4, cells := 0, slots := 0, locals := 102 } s m args below meth c H locs 0 0 (QMI below args s g (xW g ρ) A tgt) (F0 m 5 ls [])) (hK31 : ∀ (σ : St) (a1 : Int32) (a2 : Int32) (a3 : Int32) (a4 : Int32) (a5 : Nat) (a6 : Int32), (IX σ) → (NN ρ (σ 25)) → (a3 = 0 ∨ a3 = 1) → (0 ≤ a4.toInt) → (a4.toInt < (σ 25 0).toInt) → (((σ 25 0).toInt - a4.toInt).toNat < N5 + 1) → (∃ i, ρ 24 i = some a5) → (0 ≤ a6.toInt) → (31 - a6.toInt).toNat < N31 → ∀ {H : Heap} {locs : List Loc}, KK g s → WC g (xW g ρ) A s.heap σ H locs → XH g ρ dt s.heap → (∀ q, A q → q ∈ adrs (xW g (fun _ _ => none) (fun _ _ => 0))) → ∀ {ls : Array Slot}, lv_has ls 9 [(0, .ref (g.2.2 100)), (1, .int (a1)), (2, .int (a2)), (3, .int (a3)), (4, .int (a4)), (5, .ref (a5)), (6, .int (a6))] → K31 σ a1 a2 a3 a4 a5 a6 = tgt → W p l e { frames := 4, cells := 0, slots := 0, locals := 102 } s m args below meth c H locs 0 0 (QMI below args s g (xW g ρ) A tgt) (F0 m 31 ls [])) {σ : St} {a1 : Int32} {a2 : Int32} {a3 : Int32} {a4 : Int32} {a5 : Nat} {a6 : Int32} {H : Heap} {locs : List Loc} (hX : IX σ) (hN : NN ρ (σ 25)) (hz : a3 = 0 ∨ a3 = 1) (h4 : 0 ≤ a4.toInt) (h4b : a4.toInt < (σ 25 0).toInt) (hm5 : ((σ 25 0).toInt - a4.toInt).toNat < N5 + 1) (hs5 : ∃ i, ρ 24 i = some a5) (h6 : 0 ≤ a6.toInt) (hm : (31 - a6.toInt).toNat < N31 + 1) (hK : KK g s) (hC : WC g (xW g ρ) A s.heap σ H locs) (hB : XH g ρ dt s.heap) (hA : ∀ q, A q → q ∈ adrs (xW g (fun _ _ => none) (fun _ _ => 0))) {ls : Array Slot} (hl : lv_has ls 9 [(0, .ref (g.2.2 100)), (1, .int (a1)), (2, .int (a2)), (3, .int (a3)), (4, .int (a4)), (5, .ref (a5)), (6, .int (a6))]) (hT : f_X11_findSurest_31 ρ dt K5 K31 σ a1 a2 a3 a4 a5 a6 = tgt) : W p l e { frames := 4, cells := 0, slots := 0, locals := 102 } s m args below meth c H locs 0 0 (QMI below args s g (xW g ρ) A tgt) (F0 m 31 ls []) := by
  obtain ⟨hx, hb, hr, hml, hown, hts, hlocks⟩ := id C0
  unfold f_X11_findSurest_31 at hT
  obtain ⟨⟨j1, j1'⟩, ⟨j3, j3'⟩, ⟨j5, j5'⟩, ⟨j8, j8'⟩, ⟨j9, j9'⟩, ⟨j12, j12'⟩, ⟨j14, j14'⟩, ⟨j17, j17'⟩, j81, jW⟩ := id hX
  refine lv_aload hx hb dX11_findSurest_31 (lv_at hl 5 rfl) ?_
  refine lv_ifnull hx hb dX11_findSurest_33 ?_
  refine lv_iload hx hb dX11_findSurest_36 (lv_at hl 6 rfl) ?_
  refine lv_bipush (v := (30 : Int32)) hx hb dX11_findSurest_38 (by decide) ?_
  refine lv_icmp_gt (tgt := 145) hx hb dX11_findSurest_40 (by decide) (fun c_40 => ?_) (fun c_40 => ?_)
  · have hT := hT_pos c_40 hT
    exact b_X11_findSurest_145 (g := g) (ρ := ρ) (dt := dt) (σ := σ) (a1 := a1) (a2 := a2) (a3 := a3) (a4 := a4) C0 hK5 hX hN hz h4 h4b hm5 hK hC hB hA (lv_sub hl [0, 1, 2, 3, 4] rfl) hT
  · have hT := hT_neg c_40 hT
    refine lv_iload_n hx hb dX11_findSurest_43 rfl (lv_at hl 2 rfl) ?_
    refine lv_aload_n hx hb dX11_findSurest_44 rfl (lv_at hl 0 rfl) ?_
    refine x_get (σ := σ) (v := .ref (g.2.2 101)) (fs := xF0 g ρ σ) 11 0 C0 uw_11 dc_11 hK hC.1 rfl rfl 0 (by decide) rfl w_229 dX11_findSurest_45 ?_
    refine lv_aload hx hb dX11_findSurest_48 (lv_at hl 5 rfl) ?_
    refine lv_iload_n hx hb dX11_findSurest_50 rfl (lv_at hl 1 rfl) ?_
    refine lv_iload hx hb dX11_findSurest_51 (lv_at hl 6 rfl) ?_
    refine x_cn (rest := [.int (a2)]) (As := [.ref (a5), .int (a1), .int (a6)]) (σ := σ) (ρ := ρ) (dt := dt) (T := TX5) (N := 18) (fs := xF1 g ρ σ) 5 1 rfl rfl C0 hK hC.1 (hC.2.1.weaken (fun _ _ _ _ => trivial)) (XH.wa hB hA hC) cf_X5_middle w_714 (k_X5_middle l g ρ dt σ a5 a1 a6 hs5) ⟨by decide, by decide⟩ hl.1 rfl rfl (Nat.le_of_ble_eq_true rfl) dX11_findSurest_53 ⟨Nat.zero_le _, Nat.zero_le _⟩ ?_
    refine lv_isub hx hb dX11_findSurest_56 ?_
    refine lv_istore (lv' := [(7, .int ((a2 - (f_X5_middle ρ dt σ a5 a1 a6)))), (0, .ref (g.2.2 100)), (1, .int (a1)), (2, .int (a2)), (3, .int (a3)), (4, .int (a4)), (5, .ref (a5)), (6, .int (a6))]) hx hb dX11_findSurest_57 hl (by decide) rfl (fun ls hl => ?_)
    refine lv_aload_n hx hb dX11_findSurest_59 rfl (lv_at hl 1 rfl) ?_
    refine x_get (σ := σ) (v := .ref (g.2.2 101)) (fs := xF0 g ρ σ) 11 0 C0 uw_11 dc_11 hK hC.1 rfl rfl 0 (by decide) rfl w_229 dX11_findSurest_60 ?_
    refine lv_aload hx hb dX11_findSurest_63 (lv_at hl 6 rfl) ?_
    refine lv_iload_n hx hb dX11_findSurest_65 rfl (lv_at hl 2 rfl) ?_
    refine lv_iload hx hb dX11_findSurest_66 (lv_at hl 7 rfl) ?_
    refine x_cn (rest := []) (As := [.ref (a5), .int (a1), .int (a6)]) (σ := σ) (ρ := ρ) (dt := dt) (T := TX5) (N := 18) (fs := xF1 g ρ σ) 5 1 rfl rfl C0 hK hC.1 (hC.2.1.weaken (fun _ _ _ _ => trivial)) (XH.wa hB hA hC) cf_X5_most w_705 (k_X5_most l g ρ dt σ a5 a1 a6 hs5) ⟨by decide, by decide⟩ hl.1 rfl rfl (Nat.le_of_ble_eq_true rfl) dX11_findSurest_68 ⟨Nat.zero_le _, Nat.zero_le _⟩ ?_
    refine lv_aload_n hx hb dX11_findSurest_71 rfl (lv_at hl 1 rfl) ?_
    refine x_get (σ := σ) (v := .ref (g.2.2 101)) (fs := xF0 g ρ σ) 11 0 C0 uw_11 dc_11 hK hC.1 rfl rfl 0 (by decide) rfl w_229 dX11_findSurest_72 ?_
    refine lv_aload hx hb dX11_findSurest_75 (lv_at hl 6 rfl) ?_
    refine lv_iload_n hx hb dX11_findSurest_77 rfl (lv_at hl 2 rfl) ?_
    refine lv_iload hx hb dX11_findSurest_78 (lv_at hl 7 rfl) ?_
    refine x_cn (rest := [.int ((f_X5_most ρ dt σ a5 a1 a6))]) (As := [.ref (a5), .int (a1), .int (a6)]) (σ := σ) (ρ := ρ) (dt := dt) (T := TX5) (N := 18) (fs := xF1 g ρ σ) 5 1 rfl rfl C0 hK hC.1 (hC.2.1.weaken (fun _ _ _ _ => trivial)) (XH.wa hB hA hC) cf_X5_least w_646 (k_X5_least l g ρ dt σ a5 a1 a6 hs5) ⟨by decide, by decide⟩ hl.1 rfl rfl (Nat.le_of_ble_eq_true rfl) dX11_findSurest_80 ⟨Nat.zero_le _, Nat.zero_le _⟩ ?_
    refine lv_isub hx hb dX11_findSurest_83 ?_
    refine lv_istore (lv' := [(8, .int (((f_X5_most ρ dt σ a5 a1 a6) - (f_X5_least ρ dt σ a5 a1 a6)))), (7, .int ((a2 - (f_X5_middle ρ dt σ a5 a1 a6)))), (0, .ref (g.2.2 100)), (1, .int (a1)), (2, .int (a2)), (3, .int (a3)), (4, .int (a4)), (5, .ref (a5)), (6, .int (a6))]) hx hb dX11_findSurest_84 hl (by decide) rfl (fun ls hl => ?_)
    refine lv_iload hx hb dX11_findSurest_86 (lv_at hl 1 rfl) ?_
    refine lv_if_lt (tgt := 139) hx hb dX11_findSurest_88 (by decide) (fun c_88 => ?_) (fun c_88 => ?_)
    · have hT := hT_pos c_88 hT
      have j88_h6b : a6.toInt ≤ 30 := by
        have : ((30 : Int32)).toInt = 30 := by decide
        have : ((0 : Int32)).toInt = 0 := by decide
        have := mt ti_lt.mpr c_40
        have := ti_lt.mp c_88
        try have := ti_sub (a := a2) (b := (f_X5_middle ρ dt σ a5 a1 a6)) (by omega) (by omega)
        try have := ti_sub (a := (f_X5_most ρ dt σ a5 a1 a6)) (b := (f_X5_least ρ dt σ a5 a1 a6)) (by omega) (by omega)
        omega
      have j88_hm31 : (31 - a6.toInt).toNat < N31 + 1 := by
        have : ((30 : Int32)).toInt = 30 := by decide
        have : ((0 : Int32)).toInt = 0 := by decide
        have := mt ti_lt.mpr c_40
        have := ti_lt.mp c_88
        try have := ti_sub (a := a2) (b := (f_X5_middle ρ dt σ a5 a1 a6)) (by omega) (by omega)
        try have := ti_sub (a := (f_X5_most ρ dt σ a5 a1 a6)) (b := (f_X5_least ρ dt σ a5 a1 a6)) (by omega) (by omega)
        omega
      exact b_X11_findSurest_139 (g := g) (ρ := ρ) (dt := dt) (σ := σ) (a1 := a1) (a2 := a2) (a3 := a3) (a4 := a4) (a5 := a5) (a6 := a6) C0 hK5 hK31 hX hN hz h4 h4b hm5 hs5 h6 j88_h6b j88_hm31 hK hC hB hA (lv_sub hl [2, 3, 4, 5, 6, 7, 8] rfl) hT
    · have hT := hT_neg c_88 hT
      refine lv_iload hx hb dX11_findSurest_91 (lv_at hl 1 rfl) ?_
      refine lv_bipush (v := (59 : Int32)) hx hb dX11_findSurest_93 (by decide) ?_
      refine lv_icmp_gt (tgt := 139) hx hb dX11_findSurest_95 (by decide) (fun c_95 => ?_) (fun c_95 => ?_)
      · have hT := hT_pos c_95 hT
        have j95_h6b : a6.toInt ≤ 30 := by
          have : ((30 : Int32)).toInt = 30 := by decide
          have : ((0 : Int32)).toInt = 0 := by decide
          have : ((59 : Int32)).toInt = 59 := by decide
          have := mt ti_lt.mpr c_40
          have := mt ti_lt.mpr c_88
          have := ti_lt.mp c_95
          try have := ti_sub (a := a2) (b := (f_X5_middle ρ dt σ a5 a1 a6)) (by omega) (by omega)
          try have := ti_sub (a := (f_X5_most ρ dt σ a5 a1 a6)) (b := (f_X5_least ρ dt σ a5 a1 a6)) (by omega) (by omega)
          omega
        have j95_hm31 : (31 - a6.toInt).toNat < N31 + 1 := by
          have : ((30 : Int32)).toInt = 30 := by decide
          have : ((0 : Int32)).toInt = 0 := by decide
          have : ((59 : Int32)).toInt = 59 := by decide
          have := mt ti_lt.mpr c_40
          have := mt ti_lt.mpr c_88
          have := ti_lt.mp c_95
          try have := ti_sub (a := a2) (b := (f_X5_middle ρ dt σ a5 a1 a6)) (by omega) (by omega)
          try have := ti_sub (a := (f_X5_most ρ dt σ a5 a1 a6)) (b := (f_X5_least ρ dt σ a5 a1 a6)) (by omega) (by omega)
          omega
        exact b_X11_findSurest_139 (g := g) (ρ := ρ) (dt := dt) (σ := σ) (a1 := a1) (a2 := a2) (a3 := a3) (a4 := a4) (a5 := a5) (a6 := a6) C0 hK5 hK31 hX hN hz h4 h4b hm5 hs5 h6 j95_h6b j95_hm31 hK hC hB hA (lv_sub hl [2, 3, 4, 5, 6, 7, 8] rfl) hT
      · have hT := hT_neg c_95 hT
        refine lv_iload_n hx hb dX11_findSurest_98 rfl (lv_at hl 5 rfl) ?_
        refine lv_if_eq (tgt := 113) hx hb dX11_findSurest_99 (by decide) (fun c_99 => ?_) (fun c_99 => ?_)
        · have hT := hT_pos c_99 hT
          have j99_h6b : a6.toInt ≤ 30 := by
            have : ((30 : Int32)).toInt = 30 := by decide
            have : ((0 : Int32)).toInt = 0 := by decide
            have : ((59 : Int32)).toInt = 59 := by decide
            have := mt ti_lt.mpr c_40
            have := mt ti_lt.mpr c_88
            have := mt ti_lt.mpr c_95
            have := ti_eq.mp c_99
            try have := ti_sub (a := a2) (b := (f_X5_middle ρ dt σ a5 a1 a6)) (by omega) (by omega)
            try have := ti_sub (a := (f_X5_most ρ dt σ a5 a1 a6)) (b := (f_X5_least ρ dt σ a5 a1 a6)) (by omega) (by omega)
            omega
          have j99_hm31 : (31 - a6.toInt).toNat < N31 + 1 := by
            have : ((30 : Int32)).toInt = 30 := by decide
            have : ((0 : Int32)).toInt = 0 := by decide
            have : ((59 : Int32)).toInt = 59 := by decide
            have := mt ti_lt.mpr c_40
            have := mt ti_lt.mpr c_88
            have := mt ti_lt.mpr c_95
            have := ti_eq.mp c_99
            try have := ti_sub (a := a2) (b := (f_X5_middle ρ dt σ a5 a1 a6)) (by omega) (by omega)
            try have := ti_sub (a := (f_X5_most ρ dt σ a5 a1 a6)) (b := (f_X5_least ρ dt σ a5 a1 a6)) (by omega) (by omega)
            omega
          exact b_X11_findSurest_113 (g := g) (ρ := ρ) (dt := dt) (σ := σ) (a1 := a1) (a2 := a2) (a4 := a4) (a5 := a5) (a6 := a6) (a8 := ((f_X5_most ρ dt σ a5 a1 a6) - (f_X5_least ρ dt σ a5 a1 a6))) C0 hK5 hK31 hX hN h4 h4b hm5 hs5 h6 j99_h6b j99_hm31 hK hC hB hA (lv_sub hl [2, 3, 4, 6, 7, 8, 0] rfl) hT
        · have hT := hT_neg c_99 hT
          refine lv_iload hx hb dX11_findSurest_102 (lv_at hl 0 rfl) ?_
          refine lv_aload_n hx hb dX11_findSurest_104 rfl (lv_at hl 2 rfl) ?_
          refine x_get (σ := σ) (v := .ref (g.2.2 5)) (fs := xF0 g ρ σ) 11 0 C0 uw_11 dc_11 hK hC.1 rfl rfl 5 (by decide) rfl w_234 dX11_findSurest_105 ?_
          refine lv_iconst (v := (2 : Int32)) hx hb dX11_findSurest_108 (by decide) ?_
          refine x_ald (σ := σ) C0 hK hC.1 5 5 6 rfl (vin_l (by decide)) 2 (by decide) dX11_findSurest_109 ?_
          refine lv_icmp_ge (tgt := 139) hx hb dX11_findSurest_110 (by decide) (fun c_110 => ?_) (fun c_110 => ?_)
          · have hT := hT_pos c_110 hT
            have j110_h6b : a6.toInt ≤ 30 := by
              have : ((30 : Int32)).toInt = 30 := by decide
              have : ((0 : Int32)).toInt = 0 := by decide
              have : ((59 : Int32)).toInt = 59 := by decide
              have := mt ti_lt.mpr c_40
              have := mt ti_lt.mpr c_88
              have := mt ti_lt.mpr c_95
              have := mt ti_eq.mpr c_99
              have := ti_le.mp c_110
              try have := ti_sub (a := a2) (b := (f_X5_middle ρ dt σ a5 a1 a6)) (by omega) (by omega)
              try have := ti_sub (a := (f_X5_most ρ dt σ a5 a1 a6)) (b := (f_X5_least ρ dt σ a5 a1 a6)) (by omega) (by omega)
              omega
            have j110_hm31 : (31 - a6.toInt).toNat < N31 + 1 := by
              have : ((30 : Int32)).toInt = 30 := by decide
              have : ((0 : Int32)).toInt = 0 := by decide
              have : ((59 : Int32)).toInt = 59 := by decide
              have := mt ti_lt.mpr c_40
              have := mt ti_lt.mpr c_88
              have := mt ti_lt.mpr c_95
              have := mt ti_eq.mpr c_99
              have := ti_le.mp c_110
              try have := ti_sub (a := a2) (b := (f_X5_middle ρ dt σ a5 a1 a6)) (by omega) (by omega)
              try have := ti_sub (a := (f_X5_most ρ dt σ a5 a1 a6)) (b := (f_X5_least ρ dt σ a5 a1 a6)) (by omega) (by omega)
              omega
            exact b_X11_findSurest_139 (g := g) (ρ := ρ) (dt := dt) (σ := σ) (a1 := a1) (a2 := a2) (a3 := a3) (a4 := a4) (a5 := a5) (a6 := a6) C0 hK5 hK31 hX hN hz h4 h4b hm5 hs5 h6 j110_h6b j110_hm31 hK hC hB hA (lv_sub hl [2, 3, 4, 5, 6, 7, 8] rfl) hT
          · have hT := hT_neg c_110 hT
            have j110_h6b : a6.toInt ≤ 30 := by
              have : ((30 : Int32)).toInt = 30 := by decide
              have : ((0 : Int32)).toInt = 0 := by decide
              have : ((59 : Int32)).toInt = 59 := by decide
              have := mt ti_lt.mpr c_40
              have := mt ti_lt.mpr c_88
              have := mt ti_lt.mpr c_95
              have := mt ti_eq.mpr c_99
              have := mt ti_le.mpr c_110
              try have := ti_sub (a := a2) (b := (f_X5_middle ρ dt σ a5 a1 a6)) (by omega) (by omega)
              try have := ti_sub (a := (f_X5_most ρ dt σ a5 a1 a6)) (b := (f_X5_least ρ dt σ a5 a1 a6)) (by omega) (by omega)
              omega
            have j110_hm31 : (31 - a6.toInt).toNat < N31 + 1 := by
              have : ((30 : Int32)).toInt = 30 := by decide
              have : ((0 : Int32)).toInt = 0 := by decide
              have : ((59 : Int32)).toInt = 59 := by decide
              have := mt ti_lt.mpr c_40
              have := mt ti_lt.mpr c_88
              have := mt ti_lt.mpr c_95
              have := mt ti_eq.mpr c_99
              have := mt ti_le.mpr c_110
              try have := ti_sub (a := a2) (b := (f_X5_middle ρ dt σ a5 a1 a6)) (by omega) (by omega)
              try have := ti_sub (a := (f_X5_most ρ dt σ a5 a1 a6)) (b := (f_X5_least ρ dt σ a5 a1 a6)) (by omega) (by omega)
              omega
            exact b_X11_findSurest_113 (g := g) (ρ := ρ) (dt := dt) (σ := σ) (a1 := a1) (a2 := a2) (a4 := a4) (a5 := a5) (a6 := a6) (a8 := ((f_X5_most ρ dt σ a5 a1 a6) - (f_X5_least ρ dt σ a5 a1 a6))) C0 hK5 hK31 hX hN h4 h4b hm5 hs5 h6 j110_h6b j110_hm31 hK hC hB hA (lv_sub hl [2, 3, 4, 6, 7, 8, 0] rfl) hT
def g_X11_findSurest_31 (ρ : RR) (dt : Nat → Nat → Int32) (K5 : St → Int32 → Int32 → Int32 → Int32 → Int32 × St) : Nat → St → Int32 → Int32 → Int32 → Int32 → Nat → Int32 → Int32 × St
  | 0 => fun σ a1 a2 a3 a4 a5 a6 => (0, σ)
  | n + 1 => fun σ a1 a2 a3 a4 a5 a6 => f_X11_findSurest_31 ρ dt K5 (g_X11_findSurest_31 ρ dt K5 n) σ a1 a2 a3 a4 a5 a6
theorem l_X11_findSurest_31 {g : GG} {ρ : RR} {dt : Nat → Nat → Int32} {p : Program} {l : Launch} {e : Env} {s : State} {m : MethodId} {args : Array Value} {below : List Frame} {meth : Method} {c : Code} {A : Nat → Prop} {tgt : Int32 × St} {K5 : St → Int32 → Int32 → Int32 → Int32 → Int32 × St} {N5 : Nat} (C0 : BC p s m args meth c cX11_findSurest RX11 9 (some .boolean)) (hK5 : ∀ (σ : St) (a1 : Int32) (a2 : Int32) (a3 : Int32) (a4 : Int32), (IX σ) → (NN ρ (σ 25)) → (a3 = 0 ∨ a3 = 1) → (0 ≤ a4.toInt) → ((σ 25 0).toInt - a4.toInt).toNat < N5 → ∀ {H : Heap} {locs : List Loc}, KK g s → WC g (xW g ρ) A s.heap σ H locs → XH g ρ dt s.heap → (∀ q, A q → q ∈ adrs (xW g (fun _ _ => none) (fun _ _ => 0))) → ∀ {ls : Array Slot}, lv_has ls 9 [(0, .ref (g.2.2 100)), (1, .int (a1)), (2, .int (a2)), (3, .int (a3)), (4, .int (a4))] → K5 σ a1 a2 a3 a4 = tgt → W p l e { frames := 4, cells := 0, slots := 0, locals := 102 } s m args below meth c H locs 0 0 (QMI below args s g (xW g ρ) A tgt) (F0 m 5 ls [])) : ∀ (n : Nat) (σ : St) (a1 : Int32) (a2 : Int32) (a3 : Int32) (a4 : Int32) (a5 : Nat) (a6 : Int32), (IX σ) → (NN ρ (σ 25)) → (a3 = 0 ∨ a3 = 1) → (0 ≤ a4.toInt) → (a4.toInt < (σ 25 0).toInt) → (((σ 25 0).toInt - a4.toInt).toNat < N5 + 1) → (∃ i, ρ 24 i = some a5) → (0 ≤ a6.toInt) → (31 - a6.toInt).toNat < n → ∀ {H : Heap} {locs : List Loc}, KK g s → WC g (xW g ρ) A s.heap σ H locs → XH g ρ dt s.heap → (∀ q, A q → q ∈ adrs (xW g (fun _ _ => none) (fun _ _ => 0))) → ∀ {ls : Array Slot}, lv_has ls 9 [(0, .ref (g.2.2 100)), (1, .int (a1)), (2, .int (a2)), (3, .int (a3)), (4, .int (a4)), (5, .ref (a5)), (6, .int (a6))] → g_X11_findSurest_31 ρ dt K5 n σ a1 a2 a3 a4 a5 a6 = tgt → W p l e { frames := 4, cells := 0, slots := 0, locals := 102 } s m args below meth c H locs 0 0 (QMI below args s g (xW g ρ) A tgt) (F0 m 31 ls []) := by
  intro n
  induction n with
  | zero => intro σ a1 a2 a3 a4 a5 a6 hX hN hz h4 h4b hm5 hs5 h6 hm; exact absurd hm (Nat.not_lt_zero _)
  | succ n ih =>
    intro σ a1 a2 a3 a4 a5 a6 hX hN hz h4 h4b hm5 hs5 h6 hm H locs hK hC hB hA ls hl hT
    exact b_X11_findSurest_31 (g := g) (ρ := ρ) (dt := dt) (K31 := g_X11_findSurest_31 ρ dt K5 n) (N31 := n) C0 hK5 (fun σ a1 a2 a3 a4 a5 a6 hX hN hz h4 h4b hm5 hs5 h6 hmq => ih σ a1 a2 a3 a4 a5 a6 hX hN hz h4 h4b hm5 hs5 h6 hmq) hX hN hz h4 h4b hm5 hs5 h6 hm hK hC hB hA hl hT
def f_X11_findSurest_5 (ρ : RR) (dt : Nat → Nat → Int32) (K5 : St → Int32 → Int32 → Int32 → Int32 → Int32 × St) (σ : St) (a1 : Int32) (a2 : Int32) (a3 : Int32) (a4 : Int32) : Int32 × St := (if (σ 25 0) ≤ a4 then (a3, σ) else (g_X11_findSurest_31 ρ dt K5 (32) σ a1 a2 a3 a4 (rf (f_X5_stickAt ρ σ a4)) (0 : Int32)))
set_option maxHeartbeats 600000 in
set_option maxRecDepth 100000 in
theorem b_X11_findSurest_5 {g : GG} {ρ : RR} {dt : Nat → Nat → Int32} {p : Program} {l : Launch} {e : Env} {s : State} {m : MethodId} {args : Array Value} {below : List Frame} {meth : Method} {c : Code} {A : Nat → Prop} {tgt : Int32 × St} {K5 : St → Int32 → Int32 → Int32 → Int32 → Int32 × St} {N5 : Nat} (C0 : BC p s m args meth c cX11_findSurest RX11 9 (some .boolean)) (hK5 : ∀ (σ : St) (a1 : Int32) (a2 : Int32) (a3 : Int32) (a4 : Int32), (IX σ) → (NN ρ (σ 25)) → (a3 = 0 ∨ a3 = 1) → (0 ≤ a4.toInt) → ((σ 25 0).toInt - a4.toInt).toNat < N5 → ∀ {H : Heap} {locs : List Loc}, KK g s → WC g (xW g ρ) A s.heap σ H locs → XH g ρ dt s.heap → (∀ q, A q → q ∈ adrs (xW g (fun _ _ => none) (fun _ _ => 0))) → ∀ {ls : Array Slot}, lv_has ls 9 [(0, .ref (g.2.2 100)), (1, .int (a1)), (2, .int (a2)), (3, .int (a3)), (4, .int (a4))] → K5 σ a1 a2 a3 a4 = tgt → W p l e { frames := 4, cells := 0, slots := 0, locals := 102 } s m args below meth c H locs 0 0 (QMI below args s g (xW g ρ) A tgt) (F0 m 5 ls [])) {σ : St} {a1 : Int32} {a2 : Int32} {a3 : Int32} {a4 : Int32} {H : Heap} {locs : List Loc} (hX : IX σ) (hN : NN ρ (σ 25)) (hz : a3 = 0 ∨ a3 = 1) (h4 : 0 ≤ a4.toInt) (hm : ((σ 25 0).toInt - a4.toInt).toNat < N5 + 1) (hK : KK g s) (hC : WC g (xW g ρ) A s.heap σ H locs) (hB : XH g ρ dt s.heap) (hA : ∀ q, A q → q ∈ adrs (xW g (fun _ _ => none) (fun _ _ => 0))) {ls : Array Slot} (hl : lv_has ls 9 [(0, .ref (g.2.2 100)), (1, .int (a1)), (2, .int (a2)), (3, .int (a3)), (4, .int (a4))]) (hT : f_X11_findSurest_5 ρ dt K5 σ a1 a2 a3 a4 = tgt) : W p l e { frames := 4, cells := 0, slots := 0, locals := 102 } s m args below meth c H locs 0 0 (QMI below args s g (xW g ρ) A tgt) (F0 m 5 ls []) := by
  obtain ⟨hx, hb, hr, hml, hown, hts, hlocks⟩ := id C0
  unfold f_X11_findSurest_5 at hT
  obtain ⟨⟨j1, j1'⟩, ⟨j3, j3'⟩, ⟨j5, j5'⟩, ⟨j8, j8'⟩, ⟨j9, j9'⟩, ⟨j12, j12'⟩, ⟨j14, j14'⟩, ⟨j17, j17'⟩, j81, jW⟩ := id hX
  refine lv_iload hx hb dX11_findSurest_5 (lv_at hl 4 rfl) ?_
  refine lv_aload_n hx hb dX11_findSurest_7 rfl (lv_at hl 0 rfl) ?_
  refine x_get (σ := σ) (v := .ref (g.2.2 101)) (fs := xF0 g ρ σ) 11 0 C0 uw_11 dc_11 hK hC.1 rfl rfl 0 (by decide) rfl w_229 dX11_findSurest_8 ?_
  refine x_getN (σ := σ) (v := .int ((σ 25 0))) (fs := xF1 g ρ σ) 5 1 C0 uw_5 dc_5 hK hC.1 rfl rfl 5 (by decide) rfl w_119 dX11_findSurest_11 ?_
  refine lv_icmp_ge (tgt := 151) hx hb dX11_findSurest_14 (by decide) (fun c_14 => ?_) (fun c_14 => ?_)
  · have hT := hT_pos c_14 hT
    refine lv_iload_n hx hb dX11_findSurest_151 rfl (lv_at hl 3 rfl) ?_
    exact ret_MZ C0 (nz_of (by exact hz)) hC hT dX11_findSurest_152
  · have hT := hT_neg c_14 hT
    refine lv_aload_n hx hb dX11_findSurest_17 rfl (lv_at hl 0 rfl) ?_
    refine x_get (σ := σ) (v := .ref (g.2.2 101)) (fs := xF0 g ρ σ) 11 0 C0 uw_11 dc_11 hK hC.1 rfl rfl 0 (by decide) rfl w_229 dX11_findSurest_18 ?_
    refine lv_iload hx hb dX11_findSurest_21 (lv_at hl 4 rfl) ?_
    refine x_sa (σ := σ) (ρ := ρ) (dt := dt) (rest := []) C0 hK hC.1 (hC.2.1.weaken (fun _ _ _ _ => trivial)) (XH.wa hB hA hC) cf_X5_stickAt w_586 (k_X5_stickAt l g ρ dt σ a4 hX) (F := (f_X5_stickAt ρ σ a4)) ⟨by decide, by decide⟩ hl.1 (Nat.le_of_ble_eq_true rfl) dX11_findSurest_23 ?_
    have c_23 : ¬ (f_X5_stickAt ρ σ a4) = none := NN_ok hN h4 c_14
    rw [va_rf_some c_23]
    refine lv_astore (lv' := [(5, .ref ((rf (f_X5_stickAt ρ σ a4)))), (0, .ref (g.2.2 100)), (1, .int (a1)), (2, .int (a2)), (3, .int (a3)), (4, .int (a4))]) hx hb dX11_findSurest_26 hl (by decide) rfl (fun ls hl => ?_)
    refine lv_iconst (v := (0 : Int32)) hx hb dX11_findSurest_28 (by decide) ?_
    refine lv_istore (lv' := [(6, .int ((0 : Int32))), (5, .ref ((rf (f_X5_stickAt ρ σ a4)))), (0, .ref (g.2.2 100)), (1, .int (a1)), (2, .int (a2)), (3, .int (a3)), (4, .int (a4))]) hx hb dX11_findSurest_29 hl (by decide) rfl (fun ls hl => ?_)
    have j29_h4b : a4.toInt < (σ 25 0).toInt := by
      have : ((0 : Int32)).toInt = 0 := by decide
      have := mt ti_le.mpr c_14
      omega
    have j29_hm5 : ((σ 25 0).toInt - a4.toInt).toNat < N5 + 1 := by
      have : ((0 : Int32)).toInt = 0 := by decide
      have := mt ti_le.mpr c_14
      omega
    have j29_h6 : 0 ≤ (0 : Int32).toInt := by
      have : ((0 : Int32)).toInt = 0 := by decide
      have := mt ti_le.mpr c_14
      omega
    have j29_m : (31 - (0 : Int32).toInt).toNat < 32 := by
      have : ((0 : Int32)).toInt = 0 := by decide
      have := mt ti_le.mpr c_14
      omega
    exact l_X11_findSurest_31 (g := g) (ρ := ρ) (dt := dt) C0 hK5  (32) σ a1 a2 a3 a4 (rf (f_X5_stickAt ρ σ a4)) (0 : Int32) hX hN hz h4 j29_h4b j29_hm5 ⟨_, (sa_some c_23)⟩ j29_h6 j29_m hK hC hB hA (lv_sub hl [2, 3, 4, 5, 6, 1, 0] rfl) hT
def g_X11_findSurest_5 (ρ : RR) (dt : Nat → Nat → Int32)  : Nat → St → Int32 → Int32 → Int32 → Int32 → Int32 × St
  | 0 => fun σ a1 a2 a3 a4 => (0, σ)
  | n + 1 => fun σ a1 a2 a3 a4 => f_X11_findSurest_5 ρ dt  (g_X11_findSurest_5 ρ dt  n) σ a1 a2 a3 a4
theorem l_X11_findSurest_5 {g : GG} {ρ : RR} {dt : Nat → Nat → Int32} {p : Program} {l : Launch} {e : Env} {s : State} {m : MethodId} {args : Array Value} {below : List Frame} {meth : Method} {c : Code} {A : Nat → Prop} {tgt : Int32 × St}  (C0 : BC p s m args meth c cX11_findSurest RX11 9 (some .boolean))  : ∀ (n : Nat) (σ : St) (a1 : Int32) (a2 : Int32) (a3 : Int32) (a4 : Int32), (IX σ) → (NN ρ (σ 25)) → (a3 = 0 ∨ a3 = 1) → (0 ≤ a4.toInt) → ((σ 25 0).toInt - a4.toInt).toNat < n → ∀ {H : Heap} {locs : List Loc}, KK g s → WC g (xW g ρ) A s.heap σ H locs → XH g ρ dt s.heap → (∀ q, A q → q ∈ adrs (xW g (fun _ _ => none) (fun _ _ => 0))) → ∀ {ls : Array Slot}, lv_has ls 9 [(0, .ref (g.2.2 100)), (1, .int (a1)), (2, .int (a2)), (3, .int (a3)), (4, .int (a4))] → g_X11_findSurest_5 ρ dt  n σ a1 a2 a3 a4 = tgt → W p l e { frames := 4, cells := 0, slots := 0, locals := 102 } s m args below meth c H locs 0 0 (QMI below args s g (xW g ρ) A tgt) (F0 m 5 ls []) := by
  intro n
  induction n with
  | zero => intro σ a1 a2 a3 a4 hX hN hz h4 hm; exact absurd hm (Nat.not_lt_zero _)
  | succ n ih =>
    intro σ a1 a2 a3 a4 hX hN hz h4 hm H locs hK hC hB hA ls hl hT
    exact b_X11_findSurest_5 (g := g) (ρ := ρ) (dt := dt) (K5 := g_X11_findSurest_5 ρ dt  n) (N5 := n) C0  (fun σ a1 a2 a3 a4 hX hN hz h4 hmq => ih σ a1 a2 a3 a4 hX hN hz h4 hmq) hX hN hz h4 hm hK hC hB hA hl hT
def f_X11_findSurest (ρ : RR) (dt : Nat → Nat → Int32) (σ : St) (a1 : Int32) (a2 : Int32) : Int32 × St := (g_X11_findSurest_5 ρ dt  (7) σ a1 a2 (0 : Int32) (0 : Int32))
set_option maxHeartbeats 600000 in
set_option maxRecDepth 100000 in
theorem k_X11_findSurest (l : Launch) (g : GG) (ρ : RR) (dt : Nat → Nat → Int32) (σ : St) (a1 : Int32) (a2 : Int32) (hX : IX σ) (hN : NN ρ (σ 25)) : MI l yX11_findSurest (wsF yX11_findSurest cX11_findSurest 9 (some .boolean)) { frames := 4, cells := 0, slots := 0, locals := 102 } [.ref (g.2.2 100), .int (a1), .int (a2)] g (xW g ρ) (XB g ρ dt) σ (f_X11_findSurest ρ dt σ a1 a2) := by
  refine start_MI (by decide) (Nat.le_of_ble_eq_true rfl) ?_
  intro p e s m args below meth c C0 hK hB hC ls hl
  generalize hAe : aA ((xW g ρ) σ) = A at hC ⊢
  have hA : ∀ q, A q → q ∈ adrs (xW g (fun _ _ => none) (fun _ _ => 0)) := fun q h => by rw [← hAe] at h; exact h
  obtain ⟨hx, hb, hr, hml, hown, hts, hlocks⟩ := id C0
  have hl : lv_has ls 9 [(0, .ref (g.2.2 100)), (1, .int (a1)), (2, .int (a2))] := hl
  generalize hT : (f_X11_findSurest ρ dt σ a1 a2) = tgt
  suffices key : ∀ (H : Heap) (locs : List Loc), WC g (xW g ρ) A s.heap σ H locs → W p l e { frames := 4, cells := 0, slots := 0, locals := 102 } s m args below meth c H locs 0 0 (QMI below args s g (xW g ρ) A tgt) (F0 m 0 ls []) from key _ _ hC
  intro H locs hC
  unfold f_X11_findSurest at hT
  obtain ⟨⟨j1, j1'⟩, ⟨j3, j3'⟩, ⟨j5, j5'⟩, ⟨j8, j8'⟩, ⟨j9, j9'⟩, ⟨j12, j12'⟩, ⟨j14, j14'⟩, ⟨j17, j17'⟩, j81, jW⟩ := id hX
  refine lv_iconst (v := (0 : Int32)) hx hb dX11_findSurest_0 (by decide) ?_
  refine lv_istore_n (lv' := [(3, .int ((0 : Int32))), (0, .ref (g.2.2 100)), (1, .int (a1)), (2, .int (a2))]) hx hb dX11_findSurest_1 rfl hl (by decide) rfl (fun ls hl => ?_)
  refine lv_iconst (v := (0 : Int32)) hx hb dX11_findSurest_2 (by decide) ?_
  refine lv_istore (lv' := [(4, .int ((0 : Int32))), (3, .int ((0 : Int32))), (0, .ref (g.2.2 100)), (1, .int (a1)), (2, .int (a2))]) hx hb dX11_findSurest_3 hl (by decide) rfl (fun ls hl => ?_)
  have j3_hz : (0 : Int32) = 0 ∨ (0 : Int32) = 1 := Or.inl rfl
  have j3_h4 : 0 ≤ (0 : Int32).toInt := by
    have : ((0 : Int32)).toInt = 0 := by decide
    omega
  have j3_m : ((σ 25 0).toInt - (0 : Int32).toInt).toNat < 7 := by
    have : ((0 : Int32)).toInt = 0 := by decide
    omega
  exact l_X11_findSurest_5 (g := g) (ρ := ρ) (dt := dt) C0   (7) σ a1 a2 (0 : Int32) (0 : Int32) hX hN j3_hz j3_h4 j3_m hK hC hB hA (lv_sub hl [2, 3, 4, 1, 0] rfl) hT
set_option maxRecDepth 20000 in
theorem w_235 : (Cond.fieldLink RX11 43 RX11 "middles" "[I") ∈ TB := inTB (List.mem_of_getElem? (i := 235) (by decide +kernel)) (by decide +kernel)
set_option maxRecDepth 20000 in
theorem w_236 : (Cond.fieldLink RX11 46 RX11 "slacks" "[I") ∈ TB := inTB (List.mem_of_getElem? (i := 236) (by decide +kernel)) (by decide +kernel)
/-! ThreeMeasures.tellMiddles -/
theorem dX11_tellMiddles_0 : decode cX11_tellMiddles 0 = .ok (.iconst 0, 1) := by decide +kernel
theorem dX11_tellMiddles_1 : decode cX11_tellMiddles 1 = .ok (.istore_n 2, 1) := by decide +kernel
theorem dX11_tellMiddles_2 : decode cX11_tellMiddles 2 = .ok (.iload_n 2, 1) := by decide +kernel
theorem dX11_tellMiddles_3 : decode cX11_tellMiddles 3 = .ok (.aload_n 0, 1) := by decide +kernel
theorem dX11_tellMiddles_4 : decode cX11_tellMiddles 4 = .ok (.getfield 12, 3) := by decide +kernel
theorem dX11_tellMiddles_7 : decode cX11_tellMiddles 7 = .ok (.getfield 76, 3) := by decide +kernel
theorem dX11_tellMiddles_10 : decode cX11_tellMiddles 10 = .ok (.if_icmp .ge 87, 3) := by decide +kernel
theorem dX11_tellMiddles_13 : decode cX11_tellMiddles 13 = .ok (.aload_n 0, 1) := by decide +kernel
theorem dX11_tellMiddles_14 : decode cX11_tellMiddles 14 = .ok (.getfield 12, 3) := by decide +kernel
theorem dX11_tellMiddles_17 : decode cX11_tellMiddles 17 = .ok (.iload_n 2, 1) := by decide +kernel
theorem dX11_tellMiddles_18 : decode cX11_tellMiddles 18 = .ok (.invokevirtual 87, 3) := by decide +kernel
theorem dX11_tellMiddles_21 : decode cX11_tellMiddles 21 = .ok (.astore_n 3, 1) := by decide +kernel
theorem dX11_tellMiddles_22 : decode cX11_tellMiddles 22 = .ok (.iconst 0, 1) := by decide +kernel
theorem dX11_tellMiddles_23 : decode cX11_tellMiddles 23 = .ok (.istore 4, 2) := by decide +kernel
theorem dX11_tellMiddles_25 : decode cX11_tellMiddles 25 = .ok (.aload_n 3, 1) := by decide +kernel
theorem dX11_tellMiddles_26 : decode cX11_tellMiddles 26 = .ok (.ifnull 65, 3) := by decide +kernel
theorem dX11_tellMiddles_29 : decode cX11_tellMiddles 29 = .ok (.iload 4, 2) := by decide +kernel
theorem dX11_tellMiddles_31 : decode cX11_tellMiddles 31 = .ok (.bipush 10, 2) := by decide +kernel
theorem dX11_tellMiddles_33 : decode cX11_tellMiddles 33 = .ok (.if_icmp .ge 58, 3) := by decide +kernel
theorem dX11_tellMiddles_36 : decode cX11_tellMiddles 36 = .ok (.aload_n 0, 1) := by decide +kernel
theorem dX11_tellMiddles_37 : decode cX11_tellMiddles 37 = .ok (.getfield 43, 3) := by decide +kernel
theorem dX11_tellMiddles_40 : decode cX11_tellMiddles 40 = .ok (.iload_n 2, 1) := by decide +kernel
theorem dX11_tellMiddles_41 : decode cX11_tellMiddles 41 = .ok (.bipush 10, 2) := by decide +kernel
theorem dX11_tellMiddles_43 : decode cX11_tellMiddles 43 = .ok (.imul, 1) := by decide +kernel
theorem dX11_tellMiddles_44 : decode cX11_tellMiddles 44 = .ok (.iload 4, 2) := by decide +kernel
theorem dX11_tellMiddles_46 : decode cX11_tellMiddles 46 = .ok (.iadd, 1) := by decide +kernel
theorem dX11_tellMiddles_47 : decode cX11_tellMiddles 47 = .ok (.aload_n 0, 1) := by decide +kernel
theorem dX11_tellMiddles_48 : decode cX11_tellMiddles 48 = .ok (.getfield 12, 3) := by decide +kernel
theorem dX11_tellMiddles_51 : decode cX11_tellMiddles 51 = .ok (.aload_n 3, 1) := by decide +kernel
theorem dX11_tellMiddles_52 : decode cX11_tellMiddles 52 = .ok (.iload_n 1, 1) := by decide +kernel
theorem dX11_tellMiddles_53 : decode cX11_tellMiddles 53 = .ok (.iload 4, 2) := by decide +kernel
theorem dX11_tellMiddles_55 : decode cX11_tellMiddles 55 = .ok (.invokevirtual 157, 3) := by decide +kernel
theorem dX11_tellMiddles_58 : decode cX11_tellMiddles 58 = .ok (.iastore, 1) := by decide +kernel
theorem dX11_tellMiddles_59 : decode cX11_tellMiddles 59 = .ok (.aload_n 0, 1) := by decide +kernel
theorem dX11_tellMiddles_60 : decode cX11_tellMiddles 60 = .ok (.getfield 46, 3) := by decide +kernel
theorem dX11_tellMiddles_63 : decode cX11_tellMiddles 63 = .ok (.iload_n 2, 1) := by decide +kernel
theorem dX11_tellMiddles_64 : decode cX11_tellMiddles 64 = .ok (.bipush 10, 2) := by decide +kernel
theorem dX11_tellMiddles_66 : decode cX11_tellMiddles 66 = .ok (.imul, 1) := by decide +kernel
theorem dX11_tellMiddles_67 : decode cX11_tellMiddles 67 = .ok (.iload 4, 2) := by decide +kernel
theorem dX11_tellMiddles_69 : decode cX11_tellMiddles 69 = .ok (.iadd, 1) := by decide +kernel
theorem dX11_tellMiddles_70 : decode cX11_tellMiddles 70 = .ok (.iload 4, 2) := by decide +kernel
theorem dX11_tellMiddles_72 : decode cX11_tellMiddles 72 = .ok (.aload_n 0, 1) := by decide +kernel
theorem dX11_tellMiddles_73 : decode cX11_tellMiddles 73 = .ok (.getfield 12, 3) := by decide +kernel
theorem dX11_tellMiddles_76 : decode cX11_tellMiddles 76 = .ok (.aload_n 3, 1) := by decide +kernel
theorem dX11_tellMiddles_77 : decode cX11_tellMiddles 77 = .ok (.iload_n 1, 1) := by decide +kernel
theorem dX11_tellMiddles_78 : decode cX11_tellMiddles 78 = .ok (.iload 4, 2) := by decide +kernel
theorem dX11_tellMiddles_80 : decode cX11_tellMiddles 80 = .ok (.invokevirtual 160, 3) := by decide +kernel
theorem dX11_tellMiddles_83 : decode cX11_tellMiddles 83 = .ok (.imul, 1) := by decide +kernel
theorem dX11_tellMiddles_84 : decode cX11_tellMiddles 84 = .ok (.iastore, 1) := by decide +kernel
theorem dX11_tellMiddles_85 : decode cX11_tellMiddles 85 = .ok (.iinc 4 1, 3) := by decide +kernel
theorem dX11_tellMiddles_88 : decode cX11_tellMiddles 88 = .ok (.goto (-63), 3) := by decide +kernel
theorem dX11_tellMiddles_91 : decode cX11_tellMiddles 91 = .ok (.iinc 2 1, 3) := by decide +kernel
theorem dX11_tellMiddles_94 : decode cX11_tellMiddles 94 = .ok (.goto (-92), 3) := by decide +kernel
theorem dX11_tellMiddles_97 : decode cX11_tellMiddles 97 = .ok (.return_, 1) := by decide +kernel
def f_X11_tellMiddles_91 (ρ : RR) (dt : Nat → Nat → Int32) (K2 : St → Int32 → Int32 → St) (σ : St) (a1 : Int32) (a2 : Int32) : St := (K2 σ a1 (a2 + (1 : Int32)))
set_option maxHeartbeats 600000 in
set_option maxRecDepth 100000 in
theorem b_X11_tellMiddles_91 {g : GG} {ρ : RR} {dt : Nat → Nat → Int32} {p : Program} {l : Launch} {e : Env} {s : State} {m : MethodId} {args : Array Value} {below : List Frame} {meth : Method} {c : Code} {A : Nat → Prop} {tgt : St} {K2 : St → Int32 → Int32 → St} {N2 : Nat} (C0 : BC p s m args meth c cX11_tellMiddles RX11 5 none) (hK2 : ∀ (σ : St) (a1 : Int32) (a2 : Int32), (IX σ) → (NN ρ (σ 25)) → (0 ≤ a2.toInt) → ((σ 25 0).toInt - a2.toInt).toNat < N2 → ∀ {H : Heap} {locs : List Loc}, KK g s → WC g (xW g ρ) A s.heap σ H locs → XH g ρ dt s.heap → (∀ q, A q → q ∈ adrs (xW g (fun _ _ => none) (fun _ _ => 0))) → ∀ {ls : Array Slot}, lv_has ls 5 [(0, .ref (g.2.2 100)), (1, .int (a1)), (2, .int (a2))] → K2 σ a1 a2 = tgt → W p l e { frames := 3, cells := 0, slots := 0, locals := 79 } s m args below meth c H locs 0 0 (QMV below args s g (xW g ρ) A tgt) (F0 m 2 ls [])) {σ : St} {a1 : Int32} {a2 : Int32} {H : Heap} {locs : List Loc} (hX : IX σ) (hN : NN ρ (σ 25)) (h2 : 0 ≤ a2.toInt) (h2b : a2.toInt < (σ 25 0).toInt) (hm2 : ((σ 25 0).toInt - a2.toInt).toNat < N2 + 1)  (hK : KK g s) (hC : WC g (xW g ρ) A s.heap σ H locs) (hB : XH g ρ dt s.heap) (hA : ∀ q, A q → q ∈ adrs (xW g (fun _ _ => none) (fun _ _ => 0))) {ls : Array Slot} (hl : lv_has ls 5 [(0, .ref (g.2.2 100)), (1, .int (a1)), (2, .int (a2))]) (hT : f_X11_tellMiddles_91 ρ dt K2 σ a1 a2 = tgt) : W p l e { frames := 3, cells := 0, slots := 0, locals := 79 } s m args below meth c H locs 0 0 (QMV below args s g (xW g ρ) A tgt) (F0 m 91 ls []) := by
  obtain ⟨hx, hb, hr, hml, hown, hts, hlocks⟩ := id C0
  unfold f_X11_tellMiddles_91 at hT
  obtain ⟨⟨j1, j1'⟩, ⟨j3, j3'⟩, ⟨j5, j5'⟩, ⟨j8, j8'⟩, ⟨j9, j9'⟩, ⟨j12, j12'⟩, ⟨j14, j14'⟩, ⟨j17, j17'⟩, j81, jW⟩ := id hX
  refine lv_iinc (v := (a2 + (1 : Int32))) (lv' := [(2, .int ((a2 + (1 : Int32)))), (0, .ref (g.2.2 100)), (1, .int (a1))]) hx hb dX11_tellMiddles_91 hl (k := 2) rfl rfl (by decide) rfl (fun ls hl => ?_)
  refine lv_goto (tgt := 2) hx hb dX11_tellMiddles_94 (by decide) ?_
  have j94_h2 : 0 ≤ (a2 + (1 : Int32)).toInt := by
    have : ((1 : Int32)).toInt = 1 := by decide
    try have := ti_add (a := a2) (b := (1 : Int32)) (by omega) (by omega)
    omega
  have j94_m : ((σ 25 0).toInt - (a2 + (1 : Int32)).toInt).toNat < N2 := by
    have : ((1 : Int32)).toInt = 1 := by decide
    try have := ti_add (a := a2) (b := (1 : Int32)) (by omega) (by omega)
    omega
  exact hK2 σ a1 (a2 + (1 : Int32)) hX hN j94_h2 j94_m hK hC hB hA (lv_sub hl [1, 2, 0] rfl) hT
def f_X11_tellMiddles_25 (ρ : RR) (dt : Nat → Nat → Int32) (K2 : St → Int32 → Int32 → St) (K25 : St → Int32 → Int32 → Nat → Int32 → St) (σ : St) (a1 : Int32) (a2 : Int32) (a3 : Nat) (a4 : Int32) : St := (if (10 : Int32) ≤ a4 then (f_X11_tellMiddles_91 ρ dt K2 σ a1 a2) else (K25 (up2 (up2 σ 6 (ix ((a2 * (10 : Int32)) + a4)) (f_X5_middle ρ dt σ a3 a1 a4)) 7 (ix ((a2 * (10 : Int32)) + a4)) (a4 * (f_X5_slack ρ dt (up2 σ 6 (ix ((a2 * (10 : Int32)) + a4)) (f_X5_middle ρ dt σ a3 a1 a4)) a3 a1 a4))) a1 a2 a3 (a4 + (1 : Int32))))
set_option maxHeartbeats 600000 in
set_option maxRecDepth 100000 in
theorem b_X11_tellMiddles_25 {g : GG} {ρ : RR} {dt : Nat → Nat → Int32} {p : Program} {l : Launch} {e : Env} {s : State} {m : MethodId} {args : Array Value} {below : List Frame} {meth : Method} {c : Code} {A : Nat → Prop} {tgt : St} {K2 : St → Int32 → Int32 → St} {N2 : Nat} {K25 : St → Int32 → Int32 → Nat → Int32 → St} {N25 : Nat} (C0 : BC p s m args meth c cX11_tellMiddles RX11 5 none) (hK2 : ∀ (σ : St) (a1 : Int32) (a2 : Int32), (IX σ) → (NN ρ (σ 25)) → (0 ≤ a2.toInt) → ((σ 25 0).toInt - a2.toInt).toNat < N2 → ∀ {H : Heap} {locs : List Loc}, KK g s → WC g (xW g ρ) A s.heap σ H locs → XH g ρ dt s.heap → (∀ q, A q → q ∈ adrs (xW g (fun _ _ => none) (fun _ _ => 0))) → ∀ {ls : Array Slot}, lv_has ls 5 [(0, .ref (g.2.2 100)), (1, .int (a1)), (2, .int (a2))] → K2 σ a1 a2 = tgt → W p l e { frames := 3, cells := 0, slots := 0, locals := 79 } s m args below meth c H locs 0 0 (QMV below args s g (xW g ρ) A tgt) (F0 m 2 ls [])) (hK25 : ∀ (σ : St) (a1 : Int32) (a2 : Int32) (a3 : Nat) (a4 : Int32), (IX σ) → (NN ρ (σ 25)) → (0 ≤ a2.toInt) → (a2.toInt < (σ 25 0).toInt) → (((σ 25 0).toInt - a2.toInt).toNat < N2 + 1) → (∃ i, ρ 24 i = some a3) → (0 ≤ a4.toInt) → (10 - a4.toInt).toNat < N25 → ∀ {H : Heap} {locs : List Loc}, KK g s → WC g (xW g ρ) A s.heap σ H locs → XH g ρ dt s.heap → (∀ q, A q → q ∈ adrs (xW g (fun _ _ => none) (fun _ _ => 0))) → ∀ {ls : Array Slot}, lv_has ls 5 [(0, .ref (g.2.2 100)), (1, .int (a1)), (2, .int (a2)), (3, .ref (a3)), (4, .int (a4))] → K25 σ a1 a2 a3 a4 = tgt → W p l e { frames := 3, cells := 0, slots := 0, locals := 79 } s m args below meth c H locs 0 0 (QMV below args s g (xW g ρ) A tgt) (F0 m 25 ls [])) {σ : St} {a1 : Int32} {a2 : Int32} {a3 : Nat} {a4 : Int32} {H : Heap} {locs : List Loc} (hX : IX σ) (hN : NN ρ (σ 25)) (h2 : 0 ≤ a2.toInt) (h2b : a2.toInt < (σ 25 0).toInt) (hm2 : ((σ 25 0).toInt - a2.toInt).toNat < N2 + 1) (hs3 : ∃ i, ρ 24 i = some a3) (h4 : 0 ≤ a4.toInt) (hm : (10 - a4.toInt).toNat < N25 + 1) (hK : KK g s) (hC : WC g (xW g ρ) A s.heap σ H locs) (hB : XH g ρ dt s.heap) (hA : ∀ q, A q → q ∈ adrs (xW g (fun _ _ => none) (fun _ _ => 0))) {ls : Array Slot} (hl : lv_has ls 5 [(0, .ref (g.2.2 100)), (1, .int (a1)), (2, .int (a2)), (3, .ref (a3)), (4, .int (a4))]) (hT : f_X11_tellMiddles_25 ρ dt K2 K25 σ a1 a2 a3 a4 = tgt) : W p l e { frames := 3, cells := 0, slots := 0, locals := 79 } s m args below meth c H locs 0 0 (QMV below args s g (xW g ρ) A tgt) (F0 m 25 ls []) := by
  obtain ⟨hx, hb, hr, hml, hown, hts, hlocks⟩ := id C0
  unfold f_X11_tellMiddles_25 at hT
  obtain ⟨⟨j1, j1'⟩, ⟨j3, j3'⟩, ⟨j5, j5'⟩, ⟨j8, j8'⟩, ⟨j9, j9'⟩, ⟨j12, j12'⟩, ⟨j14, j14'⟩, ⟨j17, j17'⟩, j81, jW⟩ := id hX
  refine lv_aload_n hx hb dX11_tellMiddles_25 rfl (lv_at hl 3 rfl) ?_
  refine lv_ifnull hx hb dX11_tellMiddles_26 ?_
  refine lv_iload hx hb dX11_tellMiddles_29 (lv_at hl 4 rfl) ?_
  refine lv_bipush (v := (10 : Int32)) hx hb dX11_tellMiddles_31 (by decide) ?_
  refine lv_icmp_ge (tgt := 91) hx hb dX11_tellMiddles_33 (by decide) (fun c_33 => ?_) (fun c_33 => ?_)
  · have hT := hT_pos c_33 hT
    exact b_X11_tellMiddles_91 (g := g) (ρ := ρ) (dt := dt) (σ := σ) (a1 := a1) (a2 := a2) C0 hK2 hX hN h2 h2b hm2 hK hC hB hA (lv_sub hl [0, 1, 2] rfl) hT
  · have hT := hT_neg c_33 hT
    refine lv_aload_n hx hb dX11_tellMiddles_36 rfl (lv_at hl 0 rfl) ?_
    refine x_get (σ := σ) (v := .ref (g.2.2 6)) (fs := xF0 g ρ σ) 11 0 C0 uw_11 dc_11 hK hC.1 rfl rfl 6 (by decide) rfl w_235 dX11_tellMiddles_37 ?_
    refine lv_iload_n hx hb dX11_tellMiddles_40 rfl (lv_at hl 2 rfl) ?_
    refine lv_bipush (v := (10 : Int32)) hx hb dX11_tellMiddles_41 (by decide) ?_
    refine lv_imul hx hb dX11_tellMiddles_43 ?_
    refine lv_iload hx hb dX11_tellMiddles_44 (lv_at hl 4 rfl) ?_
    refine lv_iadd hx hb dX11_tellMiddles_46 ?_
    refine lv_aload_n hx hb dX11_tellMiddles_47 rfl (lv_at hl 0 rfl) ?_
    refine x_get (σ := σ) (v := .ref (g.2.2 101)) (fs := xF0 g ρ σ) 11 0 C0 uw_11 dc_11 hK hC.1 rfl rfl 0 (by decide) rfl w_229 dX11_tellMiddles_48 ?_
    refine lv_aload_n hx hb dX11_tellMiddles_51 rfl (lv_at hl 3 rfl) ?_
    refine lv_iload_n hx hb dX11_tellMiddles_52 rfl (lv_at hl 1 rfl) ?_
    refine lv_iload hx hb dX11_tellMiddles_53 (lv_at hl 4 rfl) ?_
    refine x_cn (rest := [.int (((a2 * (10 : Int32)) + a4)), .ref (g.2.2 6)]) (As := [.ref (a3), .int (a1), .int (a4)]) (σ := σ) (ρ := ρ) (dt := dt) (T := TX5) (N := 18) (fs := xF1 g ρ σ) 5 1 rfl rfl C0 hK hC.1 (hC.2.1.weaken (fun _ _ _ _ => trivial)) (XH.wa hB hA hC) cf_X5_middle w_714 (k_X5_middle l g ρ dt σ a3 a1 a4 hs3) ⟨by decide, by decide⟩ hl.1 rfl rfl (Nat.le_of_ble_eq_true rfl) dX11_tellMiddles_55 ⟨Nat.zero_le _, Nat.zero_le _⟩ ?_
    have o_58 : vp_in ((a2 * (10 : Int32)) + a4) 60 := by
      have : ((10 : Int32)).toInt = 10 := by decide
      have := mt ti_le.mpr c_33
      try have := ti_mulL (a := a2) (b := (10 : Int32)) (n := 10) (by decide) (by omega) (by omega)
      try have := ti_add (a := (a2 * (10 : Int32))) (b := a4) (by omega) (by omega)
      exact vin (by omega) (by omega)
    refine x_ast (σ := σ) C0 hK hC 6 6 60 rfl (xs_6 g ρ _) o_58 (ix ((a2 * (10 : Int32)) + a4)) rfl dX11_tellMiddles_58 (fun H locs hC => ?_)
    refine lv_aload_n hx hb dX11_tellMiddles_59 rfl (lv_at hl 0 rfl) ?_
    refine x_get (σ := (up2 σ 6 (ix ((a2 * (10 : Int32)) + a4)) (f_X5_middle ρ dt σ a3 a1 a4))) (v := .ref (g.2.2 7)) (fs := xF0 g ρ (up2 σ 6 (ix ((a2 * (10 : Int32)) + a4)) (f_X5_middle ρ dt σ a3 a1 a4))) 11 0 C0 uw_11 dc_11 hK hC.1 rfl rfl 7 (by decide) rfl w_236 dX11_tellMiddles_60 ?_
    refine lv_iload_n hx hb dX11_tellMiddles_63 rfl (lv_at hl 2 rfl) ?_
    refine lv_bipush (v := (10 : Int32)) hx hb dX11_tellMiddles_64 (by decide) ?_
    refine lv_imul hx hb dX11_tellMiddles_66 ?_
    refine lv_iload hx hb dX11_tellMiddles_67 (lv_at hl 4 rfl) ?_
    refine lv_iadd hx hb dX11_tellMiddles_69 ?_
    refine lv_iload hx hb dX11_tellMiddles_70 (lv_at hl 4 rfl) ?_
    refine lv_aload_n hx hb dX11_tellMiddles_72 rfl (lv_at hl 0 rfl) ?_
    refine x_get (σ := (up2 σ 6 (ix ((a2 * (10 : Int32)) + a4)) (f_X5_middle ρ dt σ a3 a1 a4))) (v := .ref (g.2.2 101)) (fs := xF0 g ρ (up2 σ 6 (ix ((a2 * (10 : Int32)) + a4)) (f_X5_middle ρ dt σ a3 a1 a4))) 11 0 C0 uw_11 dc_11 hK hC.1 rfl rfl 0 (by decide) rfl w_229 dX11_tellMiddles_73 ?_
    refine lv_aload_n hx hb dX11_tellMiddles_76 rfl (lv_at hl 3 rfl) ?_
    refine lv_iload_n hx hb dX11_tellMiddles_77 rfl (lv_at hl 1 rfl) ?_
    refine lv_iload hx hb dX11_tellMiddles_78 (lv_at hl 4 rfl) ?_
    refine x_cn (rest := [.int (a4), .int (((a2 * (10 : Int32)) + a4)), .ref (g.2.2 7)]) (As := [.ref (a3), .int (a1), .int (a4)]) (σ := (up2 σ 6 (ix ((a2 * (10 : Int32)) + a4)) (f_X5_middle ρ dt σ a3 a1 a4))) (ρ := ρ) (dt := dt) (T := TX5) (N := 18) (fs := xF1 g ρ (up2 σ 6 (ix ((a2 * (10 : Int32)) + a4)) (f_X5_middle ρ dt σ a3 a1 a4))) 5 1 rfl rfl C0 hK hC.1 (hC.2.1.weaken (fun _ _ _ _ => trivial)) (XH.wa hB hA hC) cf_X5_slack w_715 (k_X5_slack l g ρ dt (up2 σ 6 (ix ((a2 * (10 : Int32)) + a4)) (f_X5_middle ρ dt σ a3 a1 a4)) a3 a1 a4 hs3) ⟨by decide, by decide⟩ hl.1 rfl rfl (Nat.le_of_ble_eq_true rfl) dX11_tellMiddles_80 ⟨Nat.zero_le _, Nat.zero_le _⟩ ?_
    refine lv_imul hx hb dX11_tellMiddles_83 ?_
    have o_84 : vp_in ((a2 * (10 : Int32)) + a4) 60 := by
      have : ((10 : Int32)).toInt = 10 := by decide
      have := mt ti_le.mpr c_33
      try have := ti_mulL (a := a2) (b := (10 : Int32)) (n := 10) (by decide) (by omega) (by omega)
      try have := ti_add (a := (a2 * (10 : Int32))) (b := a4) (by omega) (by omega)
      exact vin (by omega) (by omega)
    refine x_ast (σ := (up2 σ 6 (ix ((a2 * (10 : Int32)) + a4)) (f_X5_middle ρ dt σ a3 a1 a4))) C0 hK hC 7 7 60 rfl (xs_7 g ρ _) o_84 (ix ((a2 * (10 : Int32)) + a4)) rfl dX11_tellMiddles_84 (fun H locs hC => ?_)
    refine lv_iinc (v := (a4 + (1 : Int32))) (lv' := [(4, .int ((a4 + (1 : Int32)))), (0, .ref (g.2.2 100)), (1, .int (a1)), (2, .int (a2)), (3, .ref (a3))]) hx hb dX11_tellMiddles_85 hl (k := 4) rfl rfl (by decide) rfl (fun ls hl => ?_)
    refine lv_goto (tgt := 25) hx hb dX11_tellMiddles_88 (by decide) ?_
    have j88_h4 : 0 ≤ (a4 + (1 : Int32)).toInt := by
      have : ((10 : Int32)).toInt = 10 := by decide
      have : ((1 : Int32)).toInt = 1 := by decide
      have := mt ti_le.mpr c_33
      try have := ti_add (a := a4) (b := (1 : Int32)) (by omega) (by omega)
      omega
    have j88_m : (10 - (a4 + (1 : Int32)).toInt).toNat < N25 := by
      have : ((10 : Int32)).toInt = 10 := by decide
      have : ((1 : Int32)).toInt = 1 := by decide
      have := mt ti_le.mpr c_33
      try have := ti_add (a := a4) (b := (1 : Int32)) (by omega) (by omega)
      omega
    exact hK25 (up2 (up2 σ 6 (ix ((a2 * (10 : Int32)) + a4)) (f_X5_middle ρ dt σ a3 a1 a4)) 7 (ix ((a2 * (10 : Int32)) + a4)) (a4 * (f_X5_slack ρ dt (up2 σ 6 (ix ((a2 * (10 : Int32)) + a4)) (f_X5_middle ρ dt σ a3 a1 a4)) a3 a1 a4))) a1 a2 a3 (a4 + (1 : Int32)) (IX_up (by decide) (IX_up (by decide) hX)) hN h2 h2b hm2 hs3 j88_h4 j88_m hK hC hB hA (lv_sub hl [1, 2, 3, 4, 0] rfl) hT
def g_X11_tellMiddles_25 (ρ : RR) (dt : Nat → Nat → Int32) (K2 : St → Int32 → Int32 → St) : Nat → St → Int32 → Int32 → Nat → Int32 → St
  | 0 => fun σ a1 a2 a3 a4 => σ
  | n + 1 => fun σ a1 a2 a3 a4 => f_X11_tellMiddles_25 ρ dt K2 (g_X11_tellMiddles_25 ρ dt K2 n) σ a1 a2 a3 a4
theorem l_X11_tellMiddles_25 {g : GG} {ρ : RR} {dt : Nat → Nat → Int32} {p : Program} {l : Launch} {e : Env} {s : State} {m : MethodId} {args : Array Value} {below : List Frame} {meth : Method} {c : Code} {A : Nat → Prop} {tgt : St} {K2 : St → Int32 → Int32 → St} {N2 : Nat} (C0 : BC p s m args meth c cX11_tellMiddles RX11 5 none) (hK2 : ∀ (σ : St) (a1 : Int32) (a2 : Int32), (IX σ) → (NN ρ (σ 25)) → (0 ≤ a2.toInt) → ((σ 25 0).toInt - a2.toInt).toNat < N2 → ∀ {H : Heap} {locs : List Loc}, KK g s → WC g (xW g ρ) A s.heap σ H locs → XH g ρ dt s.heap → (∀ q, A q → q ∈ adrs (xW g (fun _ _ => none) (fun _ _ => 0))) → ∀ {ls : Array Slot}, lv_has ls 5 [(0, .ref (g.2.2 100)), (1, .int (a1)), (2, .int (a2))] → K2 σ a1 a2 = tgt → W p l e { frames := 3, cells := 0, slots := 0, locals := 79 } s m args below meth c H locs 0 0 (QMV below args s g (xW g ρ) A tgt) (F0 m 2 ls [])) : ∀ (n : Nat) (σ : St) (a1 : Int32) (a2 : Int32) (a3 : Nat) (a4 : Int32), (IX σ) → (NN ρ (σ 25)) → (0 ≤ a2.toInt) → (a2.toInt < (σ 25 0).toInt) → (((σ 25 0).toInt - a2.toInt).toNat < N2 + 1) → (∃ i, ρ 24 i = some a3) → (0 ≤ a4.toInt) → (10 - a4.toInt).toNat < n → ∀ {H : Heap} {locs : List Loc}, KK g s → WC g (xW g ρ) A s.heap σ H locs → XH g ρ dt s.heap → (∀ q, A q → q ∈ adrs (xW g (fun _ _ => none) (fun _ _ => 0))) → ∀ {ls : Array Slot}, lv_has ls 5 [(0, .ref (g.2.2 100)), (1, .int (a1)), (2, .int (a2)), (3, .ref (a3)), (4, .int (a4))] → g_X11_tellMiddles_25 ρ dt K2 n σ a1 a2 a3 a4 = tgt → W p l e { frames := 3, cells := 0, slots := 0, locals := 79 } s m args below meth c H locs 0 0 (QMV below args s g (xW g ρ) A tgt) (F0 m 25 ls []) := by
  intro n
  induction n with
  | zero => intro σ a1 a2 a3 a4 hX hN h2 h2b hm2 hs3 h4 hm; exact absurd hm (Nat.not_lt_zero _)
  | succ n ih =>
    intro σ a1 a2 a3 a4 hX hN h2 h2b hm2 hs3 h4 hm H locs hK hC hB hA ls hl hT
    exact b_X11_tellMiddles_25 (g := g) (ρ := ρ) (dt := dt) (K25 := g_X11_tellMiddles_25 ρ dt K2 n) (N25 := n) C0 hK2 (fun σ a1 a2 a3 a4 hX hN h2 h2b hm2 hs3 h4 hmq => ih σ a1 a2 a3 a4 hX hN h2 h2b hm2 hs3 h4 hmq) hX hN h2 h2b hm2 hs3 h4 hm hK hC hB hA hl hT
def f_X11_tellMiddles_2 (ρ : RR) (dt : Nat → Nat → Int32) (K2 : St → Int32 → Int32 → St) (σ : St) (a1 : Int32) (a2 : Int32) : St := (if (σ 25 0) ≤ a2 then σ else (g_X11_tellMiddles_25 ρ dt K2 (11) σ a1 a2 (rf (f_X5_stickAt ρ σ a2)) (0 : Int32)))
set_option maxHeartbeats 600000 in
set_option maxRecDepth 100000 in
theorem b_X11_tellMiddles_2 {g : GG} {ρ : RR} {dt : Nat → Nat → Int32} {p : Program} {l : Launch} {e : Env} {s : State} {m : MethodId} {args : Array Value} {below : List Frame} {meth : Method} {c : Code} {A : Nat → Prop} {tgt : St} {K2 : St → Int32 → Int32 → St} {N2 : Nat} (C0 : BC p s m args meth c cX11_tellMiddles RX11 5 none) (hK2 : ∀ (σ : St) (a1 : Int32) (a2 : Int32), (IX σ) → (NN ρ (σ 25)) → (0 ≤ a2.toInt) → ((σ 25 0).toInt - a2.toInt).toNat < N2 → ∀ {H : Heap} {locs : List Loc}, KK g s → WC g (xW g ρ) A s.heap σ H locs → XH g ρ dt s.heap → (∀ q, A q → q ∈ adrs (xW g (fun _ _ => none) (fun _ _ => 0))) → ∀ {ls : Array Slot}, lv_has ls 5 [(0, .ref (g.2.2 100)), (1, .int (a1)), (2, .int (a2))] → K2 σ a1 a2 = tgt → W p l e { frames := 3, cells := 0, slots := 0, locals := 79 } s m args below meth c H locs 0 0 (QMV below args s g (xW g ρ) A tgt) (F0 m 2 ls [])) {σ : St} {a1 : Int32} {a2 : Int32} {H : Heap} {locs : List Loc} (hX : IX σ) (hN : NN ρ (σ 25)) (h2 : 0 ≤ a2.toInt) (hm : ((σ 25 0).toInt - a2.toInt).toNat < N2 + 1) (hK : KK g s) (hC : WC g (xW g ρ) A s.heap σ H locs) (hB : XH g ρ dt s.heap) (hA : ∀ q, A q → q ∈ adrs (xW g (fun _ _ => none) (fun _ _ => 0))) {ls : Array Slot} (hl : lv_has ls 5 [(0, .ref (g.2.2 100)), (1, .int (a1)), (2, .int (a2))]) (hT : f_X11_tellMiddles_2 ρ dt K2 σ a1 a2 = tgt) : W p l e { frames := 3, cells := 0, slots := 0, locals := 79 } s m args below meth c H locs 0 0 (QMV below args s g (xW g ρ) A tgt) (F0 m 2 ls []) := by
  obtain ⟨hx, hb, hr, hml, hown, hts, hlocks⟩ := id C0
  unfold f_X11_tellMiddles_2 at hT
  obtain ⟨⟨j1, j1'⟩, ⟨j3, j3'⟩, ⟨j5, j5'⟩, ⟨j8, j8'⟩, ⟨j9, j9'⟩, ⟨j12, j12'⟩, ⟨j14, j14'⟩, ⟨j17, j17'⟩, j81, jW⟩ := id hX
  refine lv_iload_n hx hb dX11_tellMiddles_2 rfl (lv_at hl 2 rfl) ?_
  refine lv_aload_n hx hb dX11_tellMiddles_3 rfl (lv_at hl 0 rfl) ?_
  refine x_get (σ := σ) (v := .ref (g.2.2 101)) (fs := xF0 g ρ σ) 11 0 C0 uw_11 dc_11 hK hC.1 rfl rfl 0 (by decide) rfl w_229 dX11_tellMiddles_4 ?_
  refine x_getN (σ := σ) (v := .int ((σ 25 0))) (fs := xF1 g ρ σ) 5 1 C0 uw_5 dc_5 hK hC.1 rfl rfl 5 (by decide) rfl w_119 dX11_tellMiddles_7 ?_
  refine lv_icmp_ge (tgt := 97) hx hb dX11_tellMiddles_10 (by decide) (fun c_10 => ?_) (fun c_10 => ?_)
  · have hT := hT_pos c_10 hT
    exact ret_MV C0 hC hT dX11_tellMiddles_97
  · have hT := hT_neg c_10 hT
    refine lv_aload_n hx hb dX11_tellMiddles_13 rfl (lv_at hl 0 rfl) ?_
    refine x_get (σ := σ) (v := .ref (g.2.2 101)) (fs := xF0 g ρ σ) 11 0 C0 uw_11 dc_11 hK hC.1 rfl rfl 0 (by decide) rfl w_229 dX11_tellMiddles_14 ?_
    refine lv_iload_n hx hb dX11_tellMiddles_17 rfl (lv_at hl 2 rfl) ?_
    refine x_sa (σ := σ) (ρ := ρ) (dt := dt) (rest := []) C0 hK hC.1 (hC.2.1.weaken (fun _ _ _ _ => trivial)) (XH.wa hB hA hC) cf_X5_stickAt w_586 (k_X5_stickAt l g ρ dt σ a2 hX) (F := (f_X5_stickAt ρ σ a2)) ⟨by decide, by decide⟩ hl.1 (Nat.le_of_ble_eq_true rfl) dX11_tellMiddles_18 ?_
    have c_18 : ¬ (f_X5_stickAt ρ σ a2) = none := NN_ok hN h2 c_10
    rw [va_rf_some c_18]
    refine lv_astore_n (lv' := [(3, .ref ((rf (f_X5_stickAt ρ σ a2)))), (0, .ref (g.2.2 100)), (1, .int (a1)), (2, .int (a2))]) hx hb dX11_tellMiddles_21 rfl hl (by decide) rfl (fun ls hl => ?_)
    refine lv_iconst (v := (0 : Int32)) hx hb dX11_tellMiddles_22 (by decide) ?_
    refine lv_istore (lv' := [(4, .int ((0 : Int32))), (3, .ref ((rf (f_X5_stickAt ρ σ a2)))), (0, .ref (g.2.2 100)), (1, .int (a1)), (2, .int (a2))]) hx hb dX11_tellMiddles_23 hl (by decide) rfl (fun ls hl => ?_)
    have j23_h2b : a2.toInt < (σ 25 0).toInt := by
      have : ((0 : Int32)).toInt = 0 := by decide
      have := mt ti_le.mpr c_10
      omega
    have j23_hm2 : ((σ 25 0).toInt - a2.toInt).toNat < N2 + 1 := by
      have : ((0 : Int32)).toInt = 0 := by decide
      have := mt ti_le.mpr c_10
      omega
    have j23_h4 : 0 ≤ (0 : Int32).toInt := by
      have : ((0 : Int32)).toInt = 0 := by decide
      have := mt ti_le.mpr c_10
      omega
    have j23_m : (10 - (0 : Int32).toInt).toNat < 11 := by
      have : ((0 : Int32)).toInt = 0 := by decide
      have := mt ti_le.mpr c_10
      omega
    exact l_X11_tellMiddles_25 (g := g) (ρ := ρ) (dt := dt) C0 hK2  (11) σ a1 a2 (rf (f_X5_stickAt ρ σ a2)) (0 : Int32) hX hN h2 j23_h2b j23_hm2 ⟨_, (sa_some c_18)⟩ j23_h4 j23_m hK hC hB hA (lv_sub hl [2, 3, 4, 1, 0] rfl) hT
def g_X11_tellMiddles_2 (ρ : RR) (dt : Nat → Nat → Int32)  : Nat → St → Int32 → Int32 → St
  | 0 => fun σ a1 a2 => σ
  | n + 1 => fun σ a1 a2 => f_X11_tellMiddles_2 ρ dt  (g_X11_tellMiddles_2 ρ dt  n) σ a1 a2
theorem l_X11_tellMiddles_2 {g : GG} {ρ : RR} {dt : Nat → Nat → Int32} {p : Program} {l : Launch} {e : Env} {s : State} {m : MethodId} {args : Array Value} {below : List Frame} {meth : Method} {c : Code} {A : Nat → Prop} {tgt : St}  (C0 : BC p s m args meth c cX11_tellMiddles RX11 5 none)  : ∀ (n : Nat) (σ : St) (a1 : Int32) (a2 : Int32), (IX σ) → (NN ρ (σ 25)) → (0 ≤ a2.toInt) → ((σ 25 0).toInt - a2.toInt).toNat < n → ∀ {H : Heap} {locs : List Loc}, KK g s → WC g (xW g ρ) A s.heap σ H locs → XH g ρ dt s.heap → (∀ q, A q → q ∈ adrs (xW g (fun _ _ => none) (fun _ _ => 0))) → ∀ {ls : Array Slot}, lv_has ls 5 [(0, .ref (g.2.2 100)), (1, .int (a1)), (2, .int (a2))] → g_X11_tellMiddles_2 ρ dt  n σ a1 a2 = tgt → W p l e { frames := 3, cells := 0, slots := 0, locals := 79 } s m args below meth c H locs 0 0 (QMV below args s g (xW g ρ) A tgt) (F0 m 2 ls []) := by
  intro n
  induction n with
  | zero => intro σ a1 a2 hX hN h2 hm; exact absurd hm (Nat.not_lt_zero _)
  | succ n ih =>
    intro σ a1 a2 hX hN h2 hm H locs hK hC hB hA ls hl hT
    exact b_X11_tellMiddles_2 (g := g) (ρ := ρ) (dt := dt) (K2 := g_X11_tellMiddles_2 ρ dt  n) (N2 := n) C0  (fun σ a1 a2 hX hN h2 hmq => ih σ a1 a2 hX hN h2 hmq) hX hN h2 hm hK hC hB hA hl hT
def f_X11_tellMiddles (ρ : RR) (dt : Nat → Nat → Int32) (σ : St) (a1 : Int32) : St := (g_X11_tellMiddles_2 ρ dt  (7) σ a1 (0 : Int32))
set_option maxHeartbeats 600000 in
set_option maxRecDepth 100000 in
theorem k_X11_tellMiddles (l : Launch) (g : GG) (ρ : RR) (dt : Nat → Nat → Int32) (σ : St) (a1 : Int32) (hX : IX σ) (hN : NN ρ (σ 25)) : MV l yX11_tellMiddles (wsF yX11_tellMiddles cX11_tellMiddles 5 none) { frames := 3, cells := 0, slots := 0, locals := 79 } [.ref (g.2.2 100), .int (a1)] g (xW g ρ) (XB g ρ dt) σ (f_X11_tellMiddles ρ dt σ a1) := by
  refine start_MV (by decide) (Nat.le_of_ble_eq_true rfl) ?_
  intro p e s m args below meth c C0 hK hB hC ls hl
  generalize hAe : aA ((xW g ρ) σ) = A at hC ⊢
  have hA : ∀ q, A q → q ∈ adrs (xW g (fun _ _ => none) (fun _ _ => 0)) := fun q h => by rw [← hAe] at h; exact h
  obtain ⟨hx, hb, hr, hml, hown, hts, hlocks⟩ := id C0
  have hl : lv_has ls 5 [(0, .ref (g.2.2 100)), (1, .int (a1))] := hl
  generalize hT : (f_X11_tellMiddles ρ dt σ a1) = tgt
  suffices key : ∀ (H : Heap) (locs : List Loc), WC g (xW g ρ) A s.heap σ H locs → W p l e { frames := 3, cells := 0, slots := 0, locals := 79 } s m args below meth c H locs 0 0 (QMV below args s g (xW g ρ) A tgt) (F0 m 0 ls []) from key _ _ hC
  intro H locs hC
  unfold f_X11_tellMiddles at hT
  obtain ⟨⟨j1, j1'⟩, ⟨j3, j3'⟩, ⟨j5, j5'⟩, ⟨j8, j8'⟩, ⟨j9, j9'⟩, ⟨j12, j12'⟩, ⟨j14, j14'⟩, ⟨j17, j17'⟩, j81, jW⟩ := id hX
  refine lv_iconst (v := (0 : Int32)) hx hb dX11_tellMiddles_0 (by decide) ?_
  refine lv_istore_n (lv' := [(2, .int ((0 : Int32))), (0, .ref (g.2.2 100)), (1, .int (a1))]) hx hb dX11_tellMiddles_1 rfl hl (by decide) rfl (fun ls hl => ?_)
  have j1_h2 : 0 ≤ (0 : Int32).toInt := by
    have : ((0 : Int32)).toInt = 0 := by decide
    omega
  have j1_m : ((σ 25 0).toInt - (0 : Int32).toInt).toNat < 7 := by
    have : ((0 : Int32)).toInt = 0 := by decide
    omega
  exact l_X11_tellMiddles_2 (g := g) (ρ := ρ) (dt := dt) C0   (7) σ a1 (0 : Int32) hX hN j1_h2 j1_m hK hC hB hA (lv_sub hl [1, 2, 0] rfl) hT
/-! ThreeMeasures.findTwice -/
theorem dX11_findTwice_0 : decode cX11_findTwice 0 = .ok (.aload_n 0, 1) := by decide +kernel
theorem dX11_findTwice_1 : decode cX11_findTwice 1 = .ok (.getfield 12, 3) := by decide +kernel
theorem dX11_findTwice_4 : decode cX11_findTwice 4 = .ok (.getfield 76, 3) := by decide +kernel
theorem dX11_findTwice_7 : decode cX11_findTwice 7 = .ok (.bipush 10, 2) := by decide +kernel
theorem dX11_findTwice_9 : decode cX11_findTwice 9 = .ok (.imul, 1) := by decide +kernel
theorem dX11_findTwice_10 : decode cX11_findTwice 10 = .ok (.istore_n 2, 1) := by decide +kernel
theorem dX11_findTwice_11 : decode cX11_findTwice 11 = .ok (.iconst 0, 1) := by decide +kernel
theorem dX11_findTwice_12 : decode cX11_findTwice 12 = .ok (.istore_n 3, 1) := by decide +kernel
theorem dX11_findTwice_13 : decode cX11_findTwice 13 = .ok (.iconst 0, 1) := by decide +kernel
theorem dX11_findTwice_14 : decode cX11_findTwice 14 = .ok (.istore 4, 2) := by decide +kernel
theorem dX11_findTwice_16 : decode cX11_findTwice 16 = .ok (.iload 4, 2) := by decide +kernel
theorem dX11_findTwice_18 : decode cX11_findTwice 18 = .ok (.iload_n 2, 1) := by decide +kernel
theorem dX11_findTwice_19 : decode cX11_findTwice 19 = .ok (.if_icmp .ge 188, 3) := by decide +kernel
theorem dX11_findTwice_22 : decode cX11_findTwice 22 = .ok (.iconst 0, 1) := by decide +kernel
theorem dX11_findTwice_23 : decode cX11_findTwice 23 = .ok (.istore 5, 2) := by decide +kernel
theorem dX11_findTwice_25 : decode cX11_findTwice 25 = .ok (.iload 5, 2) := by decide +kernel
theorem dX11_findTwice_27 : decode cX11_findTwice 27 = .ok (.iload_n 2, 1) := by decide +kernel
theorem dX11_findTwice_28 : decode cX11_findTwice 28 = .ok (.if_icmp .ge 173, 3) := by decide +kernel
theorem dX11_findTwice_31 : decode cX11_findTwice 31 = .ok (.aload_n 0, 1) := by decide +kernel
theorem dX11_findTwice_32 : decode cX11_findTwice 32 = .ok (.getfield 46, 3) := by decide +kernel
theorem dX11_findTwice_35 : decode cX11_findTwice 35 = .ok (.iload 4, 2) := by decide +kernel
theorem dX11_findTwice_37 : decode cX11_findTwice 37 = .ok (.iaload, 1) := by decide +kernel
theorem dX11_findTwice_38 : decode cX11_findTwice 38 = .ok (.aload_n 0, 1) := by decide +kernel
theorem dX11_findTwice_39 : decode cX11_findTwice 39 = .ok (.getfield 46, 3) := by decide +kernel
theorem dX11_findTwice_42 : decode cX11_findTwice 42 = .ok (.iload 5, 2) := by decide +kernel
theorem dX11_findTwice_44 : decode cX11_findTwice 44 = .ok (.iaload, 1) := by decide +kernel
theorem dX11_findTwice_45 : decode cX11_findTwice 45 = .ok (.iadd, 1) := by decide +kernel
theorem dX11_findTwice_46 : decode cX11_findTwice 46 = .ok (.istore 6, 2) := by decide +kernel
theorem dX11_findTwice_48 : decode cX11_findTwice 48 = .ok (.aload_n 0, 1) := by decide +kernel
theorem dX11_findTwice_49 : decode cX11_findTwice 49 = .ok (.getfield 43, 3) := by decide +kernel
theorem dX11_findTwice_52 : decode cX11_findTwice 52 = .ok (.iload 4, 2) := by decide +kernel
theorem dX11_findTwice_54 : decode cX11_findTwice 54 = .ok (.iaload, 1) := by decide +kernel
theorem dX11_findTwice_55 : decode cX11_findTwice 55 = .ok (.aload_n 0, 1) := by decide +kernel
theorem dX11_findTwice_56 : decode cX11_findTwice 56 = .ok (.getfield 43, 3) := by decide +kernel
theorem dX11_findTwice_59 : decode cX11_findTwice 59 = .ok (.iload 5, 2) := by decide +kernel
theorem dX11_findTwice_61 : decode cX11_findTwice 61 = .ok (.iaload, 1) := by decide +kernel
theorem dX11_findTwice_62 : decode cX11_findTwice 62 = .ok (.iadd, 1) := by decide +kernel
theorem dX11_findTwice_63 : decode cX11_findTwice 63 = .ok (.iload_n 1, 1) := by decide +kernel
theorem dX11_findTwice_64 : decode cX11_findTwice 64 = .ok (.if_icmp .ne 7, 3) := by decide +kernel
theorem dX11_findTwice_67 : decode cX11_findTwice 67 = .ok (.iconst 1, 1) := by decide +kernel
theorem dX11_findTwice_68 : decode cX11_findTwice 68 = .ok (.goto 4, 3) := by decide +kernel
theorem dX11_findTwice_71 : decode cX11_findTwice 71 = .ok (.iconst 0, 1) := by decide +kernel
theorem dX11_findTwice_72 : decode cX11_findTwice 72 = .ok (.istore 7, 2) := by decide +kernel
theorem dX11_findTwice_74 : decode cX11_findTwice 74 = .ok (.aload_n 0, 1) := by decide +kernel
theorem dX11_findTwice_75 : decode cX11_findTwice 75 = .ok (.getfield 43, 3) := by decide +kernel
theorem dX11_findTwice_78 : decode cX11_findTwice 78 = .ok (.iload 4, 2) := by decide +kernel
theorem dX11_findTwice_80 : decode cX11_findTwice 80 = .ok (.iaload, 1) := by decide +kernel
theorem dX11_findTwice_81 : decode cX11_findTwice 81 = .ok (.aload_n 0, 1) := by decide +kernel
theorem dX11_findTwice_82 : decode cX11_findTwice 82 = .ok (.getfield 43, 3) := by decide +kernel
theorem dX11_findTwice_85 : decode cX11_findTwice 85 = .ok (.iload 5, 2) := by decide +kernel
theorem dX11_findTwice_87 : decode cX11_findTwice 87 = .ok (.iaload, 1) := by decide +kernel
theorem dX11_findTwice_88 : decode cX11_findTwice 88 = .ok (.isub, 1) := by decide +kernel
theorem dX11_findTwice_89 : decode cX11_findTwice 89 = .ok (.iload_n 1, 1) := by decide +kernel
theorem dX11_findTwice_90 : decode cX11_findTwice 90 = .ok (.if_icmp .ne 7, 3) := by decide +kernel
theorem dX11_findTwice_93 : decode cX11_findTwice 93 = .ok (.iconst 1, 1) := by decide +kernel
theorem dX11_findTwice_94 : decode cX11_findTwice 94 = .ok (.goto 4, 3) := by decide +kernel
theorem dX11_findTwice_97 : decode cX11_findTwice 97 = .ok (.iconst 0, 1) := by decide +kernel
theorem dX11_findTwice_98 : decode cX11_findTwice 98 = .ok (.istore 8, 2) := by decide +kernel
theorem dX11_findTwice_100 : decode cX11_findTwice 100 = .ok (.iload 7, 2) := by decide +kernel
theorem dX11_findTwice_102 : decode cX11_findTwice 102 = .ok (.ifCond .ne 8, 3) := by decide +kernel
theorem dX11_findTwice_105 : decode cX11_findTwice 105 = .ok (.iload 8, 2) := by decide +kernel
theorem dX11_findTwice_107 : decode cX11_findTwice 107 = .ok (.ifCond .eq 88, 3) := by decide +kernel
theorem dX11_findTwice_110 : decode cX11_findTwice 110 = .ok (.iload_n 3, 1) := by decide +kernel
theorem dX11_findTwice_111 : decode cX11_findTwice 111 = .ok (.ifCond .eq 14, 3) := by decide +kernel
theorem dX11_findTwice_114 : decode cX11_findTwice 114 = .ok (.iload 6, 2) := by decide +kernel
theorem dX11_findTwice_116 : decode cX11_findTwice 116 = .ok (.aload_n 0, 1) := by decide +kernel
theorem dX11_findTwice_117 : decode cX11_findTwice 117 = .ok (.getfield 39, 3) := by decide +kernel
theorem dX11_findTwice_120 : decode cX11_findTwice 120 = .ok (.iconst 0, 1) := by decide +kernel
theorem dX11_findTwice_121 : decode cX11_findTwice 121 = .ok (.iaload, 1) := by decide +kernel
theorem dX11_findTwice_122 : decode cX11_findTwice 122 = .ok (.if_icmp .ge 73, 3) := by decide +kernel
theorem dX11_findTwice_125 : decode cX11_findTwice 125 = .ok (.iconst 1, 1) := by decide +kernel
theorem dX11_findTwice_126 : decode cX11_findTwice 126 = .ok (.istore_n 3, 1) := by decide +kernel
theorem dX11_findTwice_127 : decode cX11_findTwice 127 = .ok (.aload_n 0, 1) := by decide +kernel
theorem dX11_findTwice_128 : decode cX11_findTwice 128 = .ok (.getfield 39, 3) := by decide +kernel
theorem dX11_findTwice_131 : decode cX11_findTwice 131 = .ok (.iconst 0, 1) := by decide +kernel
theorem dX11_findTwice_132 : decode cX11_findTwice 132 = .ok (.iload 6, 2) := by decide +kernel
theorem dX11_findTwice_134 : decode cX11_findTwice 134 = .ok (.iastore, 1) := by decide +kernel
theorem dX11_findTwice_135 : decode cX11_findTwice 135 = .ok (.aload_n 0, 1) := by decide +kernel
theorem dX11_findTwice_136 : decode cX11_findTwice 136 = .ok (.getfield 39, 3) := by decide +kernel
theorem dX11_findTwice_139 : decode cX11_findTwice 139 = .ok (.iconst 1, 1) := by decide +kernel
theorem dX11_findTwice_140 : decode cX11_findTwice 140 = .ok (.iload 4, 2) := by decide +kernel
theorem dX11_findTwice_142 : decode cX11_findTwice 142 = .ok (.bipush 10, 2) := by decide +kernel
theorem dX11_findTwice_144 : decode cX11_findTwice 144 = .ok (.idiv, 1) := by decide +kernel
theorem dX11_findTwice_145 : decode cX11_findTwice 145 = .ok (.iastore, 1) := by decide +kernel
theorem dX11_findTwice_146 : decode cX11_findTwice 146 = .ok (.aload_n 0, 1) := by decide +kernel
theorem dX11_findTwice_147 : decode cX11_findTwice 147 = .ok (.getfield 39, 3) := by decide +kernel
theorem dX11_findTwice_150 : decode cX11_findTwice 150 = .ok (.iconst 2, 1) := by decide +kernel
theorem dX11_findTwice_151 : decode cX11_findTwice 151 = .ok (.iload 4, 2) := by decide +kernel
theorem dX11_findTwice_153 : decode cX11_findTwice 153 = .ok (.bipush 10, 2) := by decide +kernel
theorem dX11_findTwice_155 : decode cX11_findTwice 155 = .ok (.irem, 1) := by decide +kernel
theorem dX11_findTwice_156 : decode cX11_findTwice 156 = .ok (.iastore, 1) := by decide +kernel
theorem dX11_findTwice_157 : decode cX11_findTwice 157 = .ok (.aload_n 0, 1) := by decide +kernel
theorem dX11_findTwice_158 : decode cX11_findTwice 158 = .ok (.getfield 39, 3) := by decide +kernel
theorem dX11_findTwice_161 : decode cX11_findTwice 161 = .ok (.iconst 3, 1) := by decide +kernel
theorem dX11_findTwice_162 : decode cX11_findTwice 162 = .ok (.iload 5, 2) := by decide +kernel
theorem dX11_findTwice_164 : decode cX11_findTwice 164 = .ok (.bipush 10, 2) := by decide +kernel
theorem dX11_findTwice_166 : decode cX11_findTwice 166 = .ok (.idiv, 1) := by decide +kernel
theorem dX11_findTwice_167 : decode cX11_findTwice 167 = .ok (.iastore, 1) := by decide +kernel
theorem dX11_findTwice_168 : decode cX11_findTwice 168 = .ok (.aload_n 0, 1) := by decide +kernel
theorem dX11_findTwice_169 : decode cX11_findTwice 169 = .ok (.getfield 39, 3) := by decide +kernel
theorem dX11_findTwice_172 : decode cX11_findTwice 172 = .ok (.iconst 4, 1) := by decide +kernel
theorem dX11_findTwice_173 : decode cX11_findTwice 173 = .ok (.iload 5, 2) := by decide +kernel
theorem dX11_findTwice_175 : decode cX11_findTwice 175 = .ok (.bipush 10, 2) := by decide +kernel
theorem dX11_findTwice_177 : decode cX11_findTwice 177 = .ok (.irem, 1) := by decide +kernel
theorem dX11_findTwice_178 : decode cX11_findTwice 178 = .ok (.iastore, 1) := by decide +kernel
theorem dX11_findTwice_179 : decode cX11_findTwice 179 = .ok (.aload_n 0, 1) := by decide +kernel
theorem dX11_findTwice_180 : decode cX11_findTwice 180 = .ok (.getfield 39, 3) := by decide +kernel
theorem dX11_findTwice_183 : decode cX11_findTwice 183 = .ok (.iconst 5, 1) := by decide +kernel
theorem dX11_findTwice_184 : decode cX11_findTwice 184 = .ok (.iload 7, 2) := by decide +kernel
theorem dX11_findTwice_186 : decode cX11_findTwice 186 = .ok (.ifCond .eq 7, 3) := by decide +kernel
theorem dX11_findTwice_189 : decode cX11_findTwice 189 = .ok (.iconst 0, 1) := by decide +kernel
theorem dX11_findTwice_190 : decode cX11_findTwice 190 = .ok (.goto 4, 3) := by decide +kernel
theorem dX11_findTwice_193 : decode cX11_findTwice 193 = .ok (.iconst 1, 1) := by decide +kernel
theorem dX11_findTwice_194 : decode cX11_findTwice 194 = .ok (.iastore, 1) := by decide +kernel
theorem dX11_findTwice_195 : decode cX11_findTwice 195 = .ok (.iinc 5 1, 3) := by decide +kernel
theorem dX11_findTwice_198 : decode cX11_findTwice 198 = .ok (.goto (-173), 3) := by decide +kernel
theorem dX11_findTwice_201 : decode cX11_findTwice 201 = .ok (.iinc 4 1, 3) := by decide +kernel
theorem dX11_findTwice_204 : decode cX11_findTwice 204 = .ok (.goto (-188), 3) := by decide +kernel
theorem dX11_findTwice_207 : decode cX11_findTwice 207 = .ok (.iload_n 3, 1) := by decide +kernel
theorem dX11_findTwice_208 : decode cX11_findTwice 208 = .ok (.ireturn, 1) := by decide +kernel
def f_X11_findTwice_195 (K16 : St → Int32 → Int32 → Int32 → Int32 → Int32 × St) (K25 : St → Int32 → Int32 → Int32 → Int32 → Int32 → Int32 × St) (σ : St) (a1 : Int32) (a2 : Int32) (a3 : Int32) (a4 : Int32) (a5 : Int32) : Int32 × St := (K25 σ a1 a2 a3 a4 (a5 + (1 : Int32)))
set_option maxHeartbeats 600000 in
set_option maxRecDepth 100000 in
theorem b_X11_findTwice_195 {g : GG} {ρ : RR} {dt : Nat → Nat → Int32} {p : Program} {l : Launch} {e : Env} {s : State} {m : MethodId} {args : Array Value} {below : List Frame} {meth : Method} {c : Code} {A : Nat → Prop} {tgt : Int32 × St} {K16 : St → Int32 → Int32 → Int32 → Int32 → Int32 × St} {N16 : Nat} {K25 : St → Int32 → Int32 → Int32 → Int32 → Int32 → Int32 × St} {N25 : Nat} (C0 : BC p s m args meth c cX11_findTwice RX11 9 (some .boolean)) (hK16 : ∀ (σ : St) (a1 : Int32) (a2 : Int32) (a3 : Int32) (a4 : Int32), (IX σ) → (a3 = 0 ∨ a3 = 1) → (a2.toInt = 10 * (σ 25 0).toInt) → (0 ≤ a4.toInt) → (a2.toInt - a4.toInt).toNat < N16 → ∀ {H : Heap} {locs : List Loc}, KK g s → WC g (xW g ρ) A s.heap σ H locs → XH g ρ dt s.heap → (∀ q, A q → q ∈ adrs (xW g (fun _ _ => none) (fun _ _ => 0))) → ∀ {ls : Array Slot}, lv_has ls 9 [(0, .ref (g.2.2 100)), (1, .int (a1)), (2, .int (a2)), (3, .int (a3)), (4, .int (a4))] → K16 σ a1 a2 a3 a4 = tgt → W p l e { frames := 0, cells := 0, slots := 0, locals := 0 } s m args below meth c H locs 0 0 (QMI below args s g (xW g ρ) A tgt) (F0 m 16 ls [])) (hK25 : ∀ (σ : St) (a1 : Int32) (a2 : Int32) (a3 : Int32) (a4 : Int32) (a5 : Int32), (IX σ) → (a3 = 0 ∨ a3 = 1) → (a2.toInt = 10 * (σ 25 0).toInt) → (0 ≤ a4.toInt) → (a4.toInt < a2.toInt) → ((a2.toInt - a4.toInt).toNat < N16 + 1) → (0 ≤ a5.toInt) → (a2.toInt - a5.toInt).toNat < N25 → ∀ {H : Heap} {locs : List Loc}, KK g s → WC g (xW g ρ) A s.heap σ H locs → XH g ρ dt s.heap → (∀ q, A q → q ∈ adrs (xW g (fun _ _ => none) (fun _ _ => 0))) → ∀ {ls : Array Slot}, lv_has ls 9 [(0, .ref (g.2.2 100)), (1, .int (a1)), (2, .int (a2)), (3, .int (a3)), (4, .int (a4)), (5, .int (a5))] → K25 σ a1 a2 a3 a4 a5 = tgt → W p l e { frames := 0, cells := 0, slots := 0, locals := 0 } s m args below meth c H locs 0 0 (QMI below args s g (xW g ρ) A tgt) (F0 m 25 ls [])) {σ : St} {a1 : Int32} {a2 : Int32} {a3 : Int32} {a4 : Int32} {a5 : Int32} {H : Heap} {locs : List Loc} (hX : IX σ) (hz : a3 = 0 ∨ a3 = 1) (h2 : a2.toInt = 10 * (σ 25 0).toInt) (h4 : 0 ≤ a4.toInt) (h4b : a4.toInt < a2.toInt) (hm16 : (a2.toInt - a4.toInt).toNat < N16 + 1) (h5 : 0 ≤ a5.toInt) (h5b : a5.toInt < a2.toInt) (hm25 : (a2.toInt - a5.toInt).toNat < N25 + 1)  (hK : KK g s) (hC : WC g (xW g ρ) A s.heap σ H locs) (hB : XH g ρ dt s.heap) (hA : ∀ q, A q → q ∈ adrs (xW g (fun _ _ => none) (fun _ _ => 0))) {ls : Array Slot} (hl : lv_has ls 9 [(0, .ref (g.2.2 100)), (1, .int (a1)), (2, .int (a2)), (3, .int (a3)), (4, .int (a4)), (5, .int (a5))]) (hT : f_X11_findTwice_195 K16 K25 σ a1 a2 a3 a4 a5 = tgt) : W p l e { frames := 0, cells := 0, slots := 0, locals := 0 } s m args below meth c H locs 0 0 (QMI below args s g (xW g ρ) A tgt) (F0 m 195 ls []) := by
  obtain ⟨hx, hb, hr, hml, hown, hts, hlocks⟩ := id C0
  unfold f_X11_findTwice_195 at hT
  obtain ⟨⟨j1, j1'⟩, ⟨j3, j3'⟩, ⟨j5, j5'⟩, ⟨j8, j8'⟩, ⟨j9, j9'⟩, ⟨j12, j12'⟩, ⟨j14, j14'⟩, ⟨j17, j17'⟩, j81, jW⟩ := id hX
  refine lv_iinc (v := (a5 + (1 : Int32))) (lv' := [(5, .int ((a5 + (1 : Int32)))), (0, .ref (g.2.2 100)), (1, .int (a1)), (2, .int (a2)), (3, .int (a3)), (4, .int (a4))]) hx hb dX11_findTwice_195 hl (k := 5) rfl rfl (by decide) rfl (fun ls hl => ?_)
  refine lv_goto (tgt := 25) hx hb dX11_findTwice_198 (by decide) ?_
  have j198_h5 : 0 ≤ (a5 + (1 : Int32)).toInt := by
    have : ((1 : Int32)).toInt = 1 := by decide
    try have := ti_add (a := a5) (b := (1 : Int32)) (by omega) (by omega)
    omega
  have j198_m : (a2.toInt - (a5 + (1 : Int32)).toInt).toNat < N25 := by
    have : ((1 : Int32)).toInt = 1 := by decide
    try have := ti_add (a := a5) (b := (1 : Int32)) (by omega) (by omega)
    omega
  exact hK25 σ a1 a2 a3 a4 (a5 + (1 : Int32)) hX hz h2 h4 h4b hm16 j198_h5 j198_m hK hC hB hA (lv_sub hl [1, 2, 3, 4, 5, 0] rfl) hT
def f_X11_findTwice_125 (K16 : St → Int32 → Int32 → Int32 → Int32 → Int32 × St) (K25 : St → Int32 → Int32 → Int32 → Int32 → Int32 → Int32 × St) (σ : St) (a1 : Int32) (a2 : Int32) (a4 : Int32) (a5 : Int32) (a6 : Int32) (a7 : Int32) : Int32 × St := (f_X11_findTwice_195 K16 K25 (up2 (up2 (up2 (up2 (up2 (up2 σ 5 0 a6) 5 1 (a4 / (10 : Int32))) 5 2 (a4 - a4 / (10 : Int32) * (10 : Int32))) 5 3 (a5 / (10 : Int32))) 5 4 (a5 - a5 / (10 : Int32) * (10 : Int32))) 5 5 (if a7 = 0 then (1 : Int32) else (0 : Int32))) a1 a2 (1 : Int32) a4 a5)
set_option maxHeartbeats 600000 in
set_option maxRecDepth 100000 in
theorem b_X11_findTwice_125 {g : GG} {ρ : RR} {dt : Nat → Nat → Int32} {p : Program} {l : Launch} {e : Env} {s : State} {m : MethodId} {args : Array Value} {below : List Frame} {meth : Method} {c : Code} {A : Nat → Prop} {tgt : Int32 × St} {K16 : St → Int32 → Int32 → Int32 → Int32 → Int32 × St} {N16 : Nat} {K25 : St → Int32 → Int32 → Int32 → Int32 → Int32 → Int32 × St} {N25 : Nat} (C0 : BC p s m args meth c cX11_findTwice RX11 9 (some .boolean)) (hK16 : ∀ (σ : St) (a1 : Int32) (a2 : Int32) (a3 : Int32) (a4 : Int32), (IX σ) → (a3 = 0 ∨ a3 = 1) → (a2.toInt = 10 * (σ 25 0).toInt) → (0 ≤ a4.toInt) → (a2.toInt - a4.toInt).toNat < N16 → ∀ {H : Heap} {locs : List Loc}, KK g s → WC g (xW g ρ) A s.heap σ H locs → XH g ρ dt s.heap → (∀ q, A q → q ∈ adrs (xW g (fun _ _ => none) (fun _ _ => 0))) → ∀ {ls : Array Slot}, lv_has ls 9 [(0, .ref (g.2.2 100)), (1, .int (a1)), (2, .int (a2)), (3, .int (a3)), (4, .int (a4))] → K16 σ a1 a2 a3 a4 = tgt → W p l e { frames := 0, cells := 0, slots := 0, locals := 0 } s m args below meth c H locs 0 0 (QMI below args s g (xW g ρ) A tgt) (F0 m 16 ls [])) (hK25 : ∀ (σ : St) (a1 : Int32) (a2 : Int32) (a3 : Int32) (a4 : Int32) (a5 : Int32), (IX σ) → (a3 = 0 ∨ a3 = 1) → (a2.toInt = 10 * (σ 25 0).toInt) → (0 ≤ a4.toInt) → (a4.toInt < a2.toInt) → ((a2.toInt - a4.toInt).toNat < N16 + 1) → (0 ≤ a5.toInt) → (a2.toInt - a5.toInt).toNat < N25 → ∀ {H : Heap} {locs : List Loc}, KK g s → WC g (xW g ρ) A s.heap σ H locs → XH g ρ dt s.heap → (∀ q, A q → q ∈ adrs (xW g (fun _ _ => none) (fun _ _ => 0))) → ∀ {ls : Array Slot}, lv_has ls 9 [(0, .ref (g.2.2 100)), (1, .int (a1)), (2, .int (a2)), (3, .int (a3)), (4, .int (a4)), (5, .int (a5))] → K25 σ a1 a2 a3 a4 a5 = tgt → W p l e { frames := 0, cells := 0, slots := 0, locals := 0 } s m args below meth c H locs 0 0 (QMI below args s g (xW g ρ) A tgt) (F0 m 25 ls [])) {σ : St} {a1 : Int32} {a2 : Int32} {a4 : Int32} {a5 : Int32} {a6 : Int32} {a7 : Int32} {H : Heap} {locs : List Loc} (hX : IX σ) (h2 : a2.toInt = 10 * (σ 25 0).toInt) (h4 : 0 ≤ a4.toInt) (h4b : a4.toInt < a2.toInt) (hm16 : (a2.toInt - a4.toInt).toNat < N16 + 1) (h5 : 0 ≤ a5.toInt) (h5b : a5.toInt < a2.toInt) (hm25 : (a2.toInt - a5.toInt).toNat < N25 + 1)  (hK : KK g s) (hC : WC g (xW g ρ) A s.heap σ H locs) (hB : XH g ρ dt s.heap) (hA : ∀ q, A q → q ∈ adrs (xW g (fun _ _ => none) (fun _ _ => 0))) {ls : Array Slot} (hl : lv_has ls 9 [(0, .ref (g.2.2 100)), (1, .int (a1)), (2, .int (a2)), (4, .int (a4)), (5, .int (a5)), (6, .int (a6)), (7, .int (a7))]) (hT : f_X11_findTwice_125 K16 K25 σ a1 a2 a4 a5 a6 a7 = tgt) : W p l e { frames := 0, cells := 0, slots := 0, locals := 0 } s m args below meth c H locs 0 0 (QMI below args s g (xW g ρ) A tgt) (F0 m 125 ls []) := by
  obtain ⟨hx, hb, hr, hml, hown, hts, hlocks⟩ := id C0
  unfold f_X11_findTwice_125 at hT
  obtain ⟨⟨j1, j1'⟩, ⟨j3, j3'⟩, ⟨j5, j5'⟩, ⟨j8, j8'⟩, ⟨j9, j9'⟩, ⟨j12, j12'⟩, ⟨j14, j14'⟩, ⟨j17, j17'⟩, j81, jW⟩ := id hX
  refine lv_iconst (v := (1 : Int32)) hx hb dX11_findTwice_125 (by decide) ?_
  refine lv_istore_n (lv' := [(3, .int ((1 : Int32))), (0, .ref (g.2.2 100)), (1, .int (a1)), (2, .int (a2)), (4, .int (a4)), (5, .int (a5)), (6, .int (a6)), (7, .int (a7))]) hx hb dX11_findTwice_126 rfl hl (by decide) rfl (fun ls hl => ?_)
  refine lv_aload_n hx hb dX11_findTwice_127 rfl (lv_at hl 1 rfl) ?_
  refine x_get (σ := σ) (v := .ref (g.2.2 5)) (fs := xF0 g ρ σ) 11 0 C0 uw_11 dc_11 hK hC.1 rfl rfl 5 (by decide) rfl w_234 dX11_findTwice_128 ?_
  refine lv_iconst (v := (0 : Int32)) hx hb dX11_findTwice_131 (by decide) ?_
  refine lv_iload hx hb dX11_findTwice_132 (lv_at hl 6 rfl) ?_
  refine x_ast (σ := σ) C0 hK hC 5 5 6 rfl (xs_5 g ρ _) (vin_l (by decide)) 0 (by decide) dX11_findTwice_134 (fun H locs hC => ?_)
  refine lv_aload_n hx hb dX11_findTwice_135 rfl (lv_at hl 1 rfl) ?_
  refine x_get (σ := (up2 σ 5 0 a6)) (v := .ref (g.2.2 5)) (fs := xF0 g ρ (up2 σ 5 0 a6)) 11 0 C0 uw_11 dc_11 hK hC.1 rfl rfl 5 (by decide) rfl w_234 dX11_findTwice_136 ?_
  refine lv_iconst (v := (1 : Int32)) hx hb dX11_findTwice_139 (by decide) ?_
  refine lv_iload hx hb dX11_findTwice_140 (lv_at hl 4 rfl) ?_
  refine lv_bipush (v := (10 : Int32)) hx hb dX11_findTwice_142 (by decide) ?_
  refine lv_idiv hx hb dX11_findTwice_144 (by decide) ?_
  refine x_ast (σ := (up2 σ 5 0 a6)) C0 hK hC 5 5 6 rfl (xs_5 g ρ _) (vin_l (by decide)) 1 (by decide) dX11_findTwice_145 (fun H locs hC => ?_)
  refine lv_aload_n hx hb dX11_findTwice_146 rfl (lv_at hl 1 rfl) ?_
  refine x_get (σ := (up2 (up2 σ 5 0 a6) 5 1 (a4 / (10 : Int32)))) (v := .ref (g.2.2 5)) (fs := xF0 g ρ (up2 (up2 σ 5 0 a6) 5 1 (a4 / (10 : Int32)))) 11 0 C0 uw_11 dc_11 hK hC.1 rfl rfl 5 (by decide) rfl w_234 dX11_findTwice_147 ?_
  refine lv_iconst (v := (2 : Int32)) hx hb dX11_findTwice_150 (by decide) ?_
  refine lv_iload hx hb dX11_findTwice_151 (lv_at hl 4 rfl) ?_
  refine lv_bipush (v := (10 : Int32)) hx hb dX11_findTwice_153 (by decide) ?_
  refine lv_irem hx hb dX11_findTwice_155 (by decide) ?_
  refine x_ast (σ := (up2 (up2 σ 5 0 a6) 5 1 (a4 / (10 : Int32)))) C0 hK hC 5 5 6 rfl (xs_5 g ρ _) (vin_l (by decide)) 2 (by decide) dX11_findTwice_156 (fun H locs hC => ?_)
  refine lv_aload_n hx hb dX11_findTwice_157 rfl (lv_at hl 1 rfl) ?_
  refine x_get (σ := (up2 (up2 (up2 σ 5 0 a6) 5 1 (a4 / (10 : Int32))) 5 2 (a4 - a4 / (10 : Int32) * (10 : Int32)))) (v := .ref (g.2.2 5)) (fs := xF0 g ρ (up2 (up2 (up2 σ 5 0 a6) 5 1 (a4 / (10 : Int32))) 5 2 (a4 - a4 / (10 : Int32) * (10 : Int32)))) 11 0 C0 uw_11 dc_11 hK hC.1 rfl rfl 5 (by decide) rfl w_234 dX11_findTwice_158 ?_
  refine lv_iconst (v := (3 : Int32)) hx hb dX11_findTwice_161 (by decide) ?_
  refine lv_iload hx hb dX11_findTwice_162 (lv_at hl 5 rfl) ?_
  refine lv_bipush (v := (10 : Int32)) hx hb dX11_findTwice_164 (by decide) ?_
  refine lv_idiv hx hb dX11_findTwice_166 (by decide) ?_
  refine x_ast (σ := (up2 (up2 (up2 σ 5 0 a6) 5 1 (a4 / (10 : Int32))) 5 2 (a4 - a4 / (10 : Int32) * (10 : Int32)))) C0 hK hC 5 5 6 rfl (xs_5 g ρ _) (vin_l (by decide)) 3 (by decide) dX11_findTwice_167 (fun H locs hC => ?_)
  refine lv_aload_n hx hb dX11_findTwice_168 rfl (lv_at hl 1 rfl) ?_
  refine x_get (σ := (up2 (up2 (up2 (up2 σ 5 0 a6) 5 1 (a4 / (10 : Int32))) 5 2 (a4 - a4 / (10 : Int32) * (10 : Int32))) 5 3 (a5 / (10 : Int32)))) (v := .ref (g.2.2 5)) (fs := xF0 g ρ (up2 (up2 (up2 (up2 σ 5 0 a6) 5 1 (a4 / (10 : Int32))) 5 2 (a4 - a4 / (10 : Int32) * (10 : Int32))) 5 3 (a5 / (10 : Int32)))) 11 0 C0 uw_11 dc_11 hK hC.1 rfl rfl 5 (by decide) rfl w_234 dX11_findTwice_169 ?_
  refine lv_iconst (v := (4 : Int32)) hx hb dX11_findTwice_172 (by decide) ?_
  refine lv_iload hx hb dX11_findTwice_173 (lv_at hl 5 rfl) ?_
  refine lv_bipush (v := (10 : Int32)) hx hb dX11_findTwice_175 (by decide) ?_
  refine lv_irem hx hb dX11_findTwice_177 (by decide) ?_
  refine x_ast (σ := (up2 (up2 (up2 (up2 σ 5 0 a6) 5 1 (a4 / (10 : Int32))) 5 2 (a4 - a4 / (10 : Int32) * (10 : Int32))) 5 3 (a5 / (10 : Int32)))) C0 hK hC 5 5 6 rfl (xs_5 g ρ _) (vin_l (by decide)) 4 (by decide) dX11_findTwice_178 (fun H locs hC => ?_)
  refine lv_aload_n hx hb dX11_findTwice_179 rfl (lv_at hl 1 rfl) ?_
  refine x_get (σ := (up2 (up2 (up2 (up2 (up2 σ 5 0 a6) 5 1 (a4 / (10 : Int32))) 5 2 (a4 - a4 / (10 : Int32) * (10 : Int32))) 5 3 (a5 / (10 : Int32))) 5 4 (a5 - a5 / (10 : Int32) * (10 : Int32)))) (v := .ref (g.2.2 5)) (fs := xF0 g ρ (up2 (up2 (up2 (up2 (up2 σ 5 0 a6) 5 1 (a4 / (10 : Int32))) 5 2 (a4 - a4 / (10 : Int32) * (10 : Int32))) 5 3 (a5 / (10 : Int32))) 5 4 (a5 - a5 / (10 : Int32) * (10 : Int32)))) 11 0 C0 uw_11 dc_11 hK hC.1 rfl rfl 5 (by decide) rfl w_234 dX11_findTwice_180 ?_
  refine lv_iconst (v := (5 : Int32)) hx hb dX11_findTwice_183 (by decide) ?_
  refine lv_iload hx hb dX11_findTwice_184 (lv_at hl 7 rfl) ?_
  have J186 : ∀ v : Int32, v = (if a7 = 0 then (1 : Int32) else (0 : Int32)) → W p l e { frames := 0, cells := 0, slots := 0, locals := 0 } s m args below meth c H locs 0 0 (QMI below args s g (xW g ρ) A tgt) (F0 m 194 ls [.int (v), .int ((5 : Int32)), .ref (g.2.2 5)]) := by
    intro v ev
    subst ev
    refine x_ast (σ := (up2 (up2 (up2 (up2 (up2 σ 5 0 a6) 5 1 (a4 / (10 : Int32))) 5 2 (a4 - a4 / (10 : Int32) * (10 : Int32))) 5 3 (a5 / (10 : Int32))) 5 4 (a5 - a5 / (10 : Int32) * (10 : Int32)))) C0 hK hC 5 5 6 rfl (xs_5 g ρ _) (vin_l (by decide)) 5 (by decide) dX11_findTwice_194 (fun H locs hC => ?_)
    have j194_hz : (1 : Int32) = 0 ∨ (1 : Int32) = 1 := Or.inr rfl
    exact b_X11_findTwice_195 (g := g) (ρ := ρ) (dt := dt) (σ := (up2 (up2 (up2 (up2 (up2 (up2 σ 5 0 a6) 5 1 (a4 / (10 : Int32))) 5 2 (a4 - a4 / (10 : Int32) * (10 : Int32))) 5 3 (a5 / (10 : Int32))) 5 4 (a5 - a5 / (10 : Int32) * (10 : Int32))) 5 5 (if a7 = 0 then (1 : Int32) else (0 : Int32)))) (a1 := a1) (a2 := a2) (a3 := (1 : Int32)) (a4 := a4) (a5 := a5) C0 hK16 hK25 (IX_up (by decide) (IX_up (by decide) (IX_up (by decide) (IX_up (by decide) (IX_up (by decide) (IX_up (by decide) hX)))))) j194_hz h2 h4 h4b hm16 h5 h5b hm25 hK hC hB hA (lv_sub hl [1, 2, 3, 0, 4, 5] rfl) hT
  refine lv_if_eq (tgt := 193) hx hb dX11_findTwice_186 (by decide) (fun c_186 => ?_) (fun c_186 => ?_)
  · refine lv_iconst (v := (1 : Int32)) hx hb dX11_findTwice_193 (by decide) ?_
    exact J186 _ (iv_pos c_186 rfl)
  · refine lv_iconst (v := (0 : Int32)) hx hb dX11_findTwice_189 (by decide) ?_
    refine lv_goto (tgt := 194) hx hb dX11_findTwice_190 (by decide) ?_
    exact J186 _ (iv_neg c_186 rfl)
def f_X11_findTwice_110 (K16 : St → Int32 → Int32 → Int32 → Int32 → Int32 × St) (K25 : St → Int32 → Int32 → Int32 → Int32 → Int32 → Int32 × St) (σ : St) (a1 : Int32) (a2 : Int32) (a3 : Int32) (a4 : Int32) (a5 : Int32) (a6 : Int32) (a7 : Int32) : Int32 × St := (if a3 = 0 then (f_X11_findTwice_125 K16 K25 σ a1 a2 a4 a5 a6 a7) else (if (σ 5 0) ≤ a6 then (f_X11_findTwice_195 K16 K25 σ a1 a2 a3 a4 a5) else (f_X11_findTwice_125 K16 K25 σ a1 a2 a4 a5 a6 a7)))
set_option maxHeartbeats 600000 in
set_option maxRecDepth 100000 in
theorem b_X11_findTwice_110 {g : GG} {ρ : RR} {dt : Nat → Nat → Int32} {p : Program} {l : Launch} {e : Env} {s : State} {m : MethodId} {args : Array Value} {below : List Frame} {meth : Method} {c : Code} {A : Nat → Prop} {tgt : Int32 × St} {K16 : St → Int32 → Int32 → Int32 → Int32 → Int32 × St} {N16 : Nat} {K25 : St → Int32 → Int32 → Int32 → Int32 → Int32 → Int32 × St} {N25 : Nat} (C0 : BC p s m args meth c cX11_findTwice RX11 9 (some .boolean)) (hK16 : ∀ (σ : St) (a1 : Int32) (a2 : Int32) (a3 : Int32) (a4 : Int32), (IX σ) → (a3 = 0 ∨ a3 = 1) → (a2.toInt = 10 * (σ 25 0).toInt) → (0 ≤ a4.toInt) → (a2.toInt - a4.toInt).toNat < N16 → ∀ {H : Heap} {locs : List Loc}, KK g s → WC g (xW g ρ) A s.heap σ H locs → XH g ρ dt s.heap → (∀ q, A q → q ∈ adrs (xW g (fun _ _ => none) (fun _ _ => 0))) → ∀ {ls : Array Slot}, lv_has ls 9 [(0, .ref (g.2.2 100)), (1, .int (a1)), (2, .int (a2)), (3, .int (a3)), (4, .int (a4))] → K16 σ a1 a2 a3 a4 = tgt → W p l e { frames := 0, cells := 0, slots := 0, locals := 0 } s m args below meth c H locs 0 0 (QMI below args s g (xW g ρ) A tgt) (F0 m 16 ls [])) (hK25 : ∀ (σ : St) (a1 : Int32) (a2 : Int32) (a3 : Int32) (a4 : Int32) (a5 : Int32), (IX σ) → (a3 = 0 ∨ a3 = 1) → (a2.toInt = 10 * (σ 25 0).toInt) → (0 ≤ a4.toInt) → (a4.toInt < a2.toInt) → ((a2.toInt - a4.toInt).toNat < N16 + 1) → (0 ≤ a5.toInt) → (a2.toInt - a5.toInt).toNat < N25 → ∀ {H : Heap} {locs : List Loc}, KK g s → WC g (xW g ρ) A s.heap σ H locs → XH g ρ dt s.heap → (∀ q, A q → q ∈ adrs (xW g (fun _ _ => none) (fun _ _ => 0))) → ∀ {ls : Array Slot}, lv_has ls 9 [(0, .ref (g.2.2 100)), (1, .int (a1)), (2, .int (a2)), (3, .int (a3)), (4, .int (a4)), (5, .int (a5))] → K25 σ a1 a2 a3 a4 a5 = tgt → W p l e { frames := 0, cells := 0, slots := 0, locals := 0 } s m args below meth c H locs 0 0 (QMI below args s g (xW g ρ) A tgt) (F0 m 25 ls [])) {σ : St} {a1 : Int32} {a2 : Int32} {a3 : Int32} {a4 : Int32} {a5 : Int32} {a6 : Int32} {a7 : Int32} {H : Heap} {locs : List Loc} (hX : IX σ) (hz : a3 = 0 ∨ a3 = 1) (h2 : a2.toInt = 10 * (σ 25 0).toInt) (h4 : 0 ≤ a4.toInt) (h4b : a4.toInt < a2.toInt) (hm16 : (a2.toInt - a4.toInt).toNat < N16 + 1) (h5 : 0 ≤ a5.toInt) (h5b : a5.toInt < a2.toInt) (hm25 : (a2.toInt - a5.toInt).toNat < N25 + 1)  (hK : KK g s) (hC : WC g (xW g ρ) A s.heap σ H locs) (hB : XH g ρ dt s.heap) (hA : ∀ q, A q → q ∈ adrs (xW g (fun _ _ => none) (fun _ _ => 0))) {ls : Array Slot} (hl : lv_has ls 9 [(0, .ref (g.2.2 100)), (1, .int (a1)), (2, .int (a2)), (3, .int (a3)), (4, .int (a4)), (5, .int (a5)), (6, .int (a6)), (7, .int (a7))]) (hT : f_X11_findTwice_110 K16 K25 σ a1 a2 a3 a4 a5 a6 a7 = tgt) : W p l e { frames := 0, cells := 0, slots := 0, locals := 0 } s m args below meth c H locs 0 0 (QMI below args s g (xW g ρ) A tgt) (F0 m 110 ls []) := by
  obtain ⟨hx, hb, hr, hml, hown, hts, hlocks⟩ := id C0
  unfold f_X11_findTwice_110 at hT
  obtain ⟨⟨j1, j1'⟩, ⟨j3, j3'⟩, ⟨j5, j5'⟩, ⟨j8, j8'⟩, ⟨j9, j9'⟩, ⟨j12, j12'⟩, ⟨j14, j14'⟩, ⟨j17, j17'⟩, j81, jW⟩ := id hX
  refine lv_iload_n hx hb dX11_findTwice_110 rfl (lv_at hl 3 rfl) ?_
  refine lv_if_eq (tgt := 125) hx hb dX11_findTwice_111 (by decide) (fun c_111 => ?_) (fun c_111 => ?_)
  · have hT := hT_pos c_111 hT
    exact b_X11_findTwice_125 (g := g) (ρ := ρ) (dt := dt) (σ := σ) (a1 := a1) (a2 := a2) (a4 := a4) (a5 := a5) (a6 := a6) (a7 := a7) C0 hK16 hK25 hX h2 h4 h4b hm16 h5 h5b hm25 hK hC hB hA (lv_sub hl [0, 1, 2, 4, 5, 6, 7] rfl) hT
  · have hT := hT_neg c_111 hT
    refine lv_iload hx hb dX11_findTwice_114 (lv_at hl 6 rfl) ?_
    refine lv_aload_n hx hb dX11_findTwice_116 rfl (lv_at hl 0 rfl) ?_
    refine x_get (σ := σ) (v := .ref (g.2.2 5)) (fs := xF0 g ρ σ) 11 0 C0 uw_11 dc_11 hK hC.1 rfl rfl 5 (by decide) rfl w_234 dX11_findTwice_117 ?_
    refine lv_iconst (v := (0 : Int32)) hx hb dX11_findTwice_120 (by decide) ?_
    refine x_ald (σ := σ) C0 hK hC.1 5 5 6 rfl (vin_l (by decide)) 0 (by decide) dX11_findTwice_121 ?_
    refine lv_icmp_ge (tgt := 195) hx hb dX11_findTwice_122 (by decide) (fun c_122 => ?_) (fun c_122 => ?_)
    · have hT := hT_pos c_122 hT
      exact b_X11_findTwice_195 (g := g) (ρ := ρ) (dt := dt) (σ := σ) (a1 := a1) (a2 := a2) (a3 := a3) (a4 := a4) (a5 := a5) C0 hK16 hK25 hX hz h2 h4 h4b hm16 h5 h5b hm25 hK hC hB hA (lv_sub hl [0, 1, 2, 3, 4, 5] rfl) hT
    · have hT := hT_neg c_122 hT
      exact b_X11_findTwice_125 (g := g) (ρ := ρ) (dt := dt) (σ := σ) (a1 := a1) (a2 := a2) (a4 := a4) (a5 := a5) (a6 := a6) (a7 := a7) C0 hK16 hK25 hX h2 h4 h4b hm16 h5 h5b hm25 hK hC hB hA (lv_sub hl [0, 1, 2, 4, 5, 6, 7] rfl) hT
def f_X11_findTwice_25 (K16 : St → Int32 → Int32 → Int32 → Int32 → Int32 × St) (K25 : St → Int32 → Int32 → Int32 → Int32 → Int32 → Int32 × St) (σ : St) (a1 : Int32) (a2 : Int32) (a3 : Int32) (a4 : Int32) (a5 : Int32) : Int32 × St := (if a2 ≤ a5 then (K16 σ a1 a2 a3 (a4 + (1 : Int32))) else (if (if ((σ 6 (ix a4)) + (σ 6 (ix a5))) = a1 then (1 : Int32) else (0 : Int32)) = 0 then (if (if ((σ 6 (ix a4)) - (σ 6 (ix a5))) = a1 then (1 : Int32) else (0 : Int32)) = 0 then (f_X11_findTwice_195 K16 K25 σ a1 a2 a3 a4 a5) else (f_X11_findTwice_110 K16 K25 σ a1 a2 a3 a4 a5 ((σ 7 (ix a4)) + (σ 7 (ix a5))) (if ((σ 6 (ix a4)) + (σ 6 (ix a5))) = a1 then (1 : Int32) else (0 : Int32)))) else (f_X11_findTwice_110 K16 K25 σ a1 a2 a3 a4 a5 ((σ 7 (ix a4)) + (σ 7 (ix a5))) (if ((σ 6 (ix a4)) + (σ 6 (ix a5))) = a1 then (1 : Int32) else (0 : Int32)))))
set_option maxHeartbeats 600000 in
set_option maxRecDepth 100000 in
theorem b_X11_findTwice_25 {g : GG} {ρ : RR} {dt : Nat → Nat → Int32} {p : Program} {l : Launch} {e : Env} {s : State} {m : MethodId} {args : Array Value} {below : List Frame} {meth : Method} {c : Code} {A : Nat → Prop} {tgt : Int32 × St} {K16 : St → Int32 → Int32 → Int32 → Int32 → Int32 × St} {N16 : Nat} {K25 : St → Int32 → Int32 → Int32 → Int32 → Int32 → Int32 × St} {N25 : Nat} (C0 : BC p s m args meth c cX11_findTwice RX11 9 (some .boolean)) (hK16 : ∀ (σ : St) (a1 : Int32) (a2 : Int32) (a3 : Int32) (a4 : Int32), (IX σ) → (a3 = 0 ∨ a3 = 1) → (a2.toInt = 10 * (σ 25 0).toInt) → (0 ≤ a4.toInt) → (a2.toInt - a4.toInt).toNat < N16 → ∀ {H : Heap} {locs : List Loc}, KK g s → WC g (xW g ρ) A s.heap σ H locs → XH g ρ dt s.heap → (∀ q, A q → q ∈ adrs (xW g (fun _ _ => none) (fun _ _ => 0))) → ∀ {ls : Array Slot}, lv_has ls 9 [(0, .ref (g.2.2 100)), (1, .int (a1)), (2, .int (a2)), (3, .int (a3)), (4, .int (a4))] → K16 σ a1 a2 a3 a4 = tgt → W p l e { frames := 0, cells := 0, slots := 0, locals := 0 } s m args below meth c H locs 0 0 (QMI below args s g (xW g ρ) A tgt) (F0 m 16 ls [])) (hK25 : ∀ (σ : St) (a1 : Int32) (a2 : Int32) (a3 : Int32) (a4 : Int32) (a5 : Int32), (IX σ) → (a3 = 0 ∨ a3 = 1) → (a2.toInt = 10 * (σ 25 0).toInt) → (0 ≤ a4.toInt) → (a4.toInt < a2.toInt) → ((a2.toInt - a4.toInt).toNat < N16 + 1) → (0 ≤ a5.toInt) → (a2.toInt - a5.toInt).toNat < N25 → ∀ {H : Heap} {locs : List Loc}, KK g s → WC g (xW g ρ) A s.heap σ H locs → XH g ρ dt s.heap → (∀ q, A q → q ∈ adrs (xW g (fun _ _ => none) (fun _ _ => 0))) → ∀ {ls : Array Slot}, lv_has ls 9 [(0, .ref (g.2.2 100)), (1, .int (a1)), (2, .int (a2)), (3, .int (a3)), (4, .int (a4)), (5, .int (a5))] → K25 σ a1 a2 a3 a4 a5 = tgt → W p l e { frames := 0, cells := 0, slots := 0, locals := 0 } s m args below meth c H locs 0 0 (QMI below args s g (xW g ρ) A tgt) (F0 m 25 ls [])) {σ : St} {a1 : Int32} {a2 : Int32} {a3 : Int32} {a4 : Int32} {a5 : Int32} {H : Heap} {locs : List Loc} (hX : IX σ) (hz : a3 = 0 ∨ a3 = 1) (h2 : a2.toInt = 10 * (σ 25 0).toInt) (h4 : 0 ≤ a4.toInt) (h4b : a4.toInt < a2.toInt) (hm16 : (a2.toInt - a4.toInt).toNat < N16 + 1) (h5 : 0 ≤ a5.toInt) (hm : (a2.toInt - a5.toInt).toNat < N25 + 1) (hK : KK g s) (hC : WC g (xW g ρ) A s.heap σ H locs) (hB : XH g ρ dt s.heap) (hA : ∀ q, A q → q ∈ adrs (xW g (fun _ _ => none) (fun _ _ => 0))) {ls : Array Slot} (hl : lv_has ls 9 [(0, .ref (g.2.2 100)), (1, .int (a1)), (2, .int (a2)), (3, .int (a3)), (4, .int (a4)), (5, .int (a5))]) (hT : f_X11_findTwice_25 K16 K25 σ a1 a2 a3 a4 a5 = tgt) : W p l e { frames := 0, cells := 0, slots := 0, locals := 0 } s m args below meth c H locs 0 0 (QMI below args s g (xW g ρ) A tgt) (F0 m 25 ls []) := by
  obtain ⟨hx, hb, hr, hml, hown, hts, hlocks⟩ := id C0
  unfold f_X11_findTwice_25 at hT
  obtain ⟨⟨j1, j1'⟩, ⟨j3, j3'⟩, ⟨j5, j5'⟩, ⟨j8, j8'⟩, ⟨j9, j9'⟩, ⟨j12, j12'⟩, ⟨j14, j14'⟩, ⟨j17, j17'⟩, j81, jW⟩ := id hX
  refine lv_iload hx hb dX11_findTwice_25 (lv_at hl 5 rfl) ?_
  refine lv_iload_n hx hb dX11_findTwice_27 rfl (lv_at hl 2 rfl) ?_
  refine lv_icmp_ge (tgt := 201) hx hb dX11_findTwice_28 (by decide) (fun c_28 => ?_) (fun c_28 => ?_)
  · have hT := hT_pos c_28 hT
    refine lv_iinc (v := (a4 + (1 : Int32))) (lv' := [(4, .int ((a4 + (1 : Int32)))), (0, .ref (g.2.2 100)), (1, .int (a1)), (2, .int (a2)), (3, .int (a3)), (5, .int (a5))]) hx hb dX11_findTwice_201 hl (k := 4) rfl rfl (by decide) rfl (fun ls hl => ?_)
    refine lv_goto (tgt := 16) hx hb dX11_findTwice_204 (by decide) ?_
    have j204_h4 : 0 ≤ (a4 + (1 : Int32)).toInt := by
      have : ((1 : Int32)).toInt = 1 := by decide
      have := ti_le.mp c_28
      try have := ti_add (a := a4) (b := (1 : Int32)) (by omega) (by omega)
      omega
    have j204_m : (a2.toInt - (a4 + (1 : Int32)).toInt).toNat < N16 := by
      have : ((1 : Int32)).toInt = 1 := by decide
      have := ti_le.mp c_28
      try have := ti_add (a := a4) (b := (1 : Int32)) (by omega) (by omega)
      omega
    exact hK16 σ a1 a2 a3 (a4 + (1 : Int32)) hX hz h2 j204_h4 j204_m hK hC hB hA (lv_sub hl [1, 2, 3, 4, 0] rfl) hT
  · have hT := hT_neg c_28 hT
    refine lv_aload_n hx hb dX11_findTwice_31 rfl (lv_at hl 0 rfl) ?_
    refine x_get (σ := σ) (v := .ref (g.2.2 7)) (fs := xF0 g ρ σ) 11 0 C0 uw_11 dc_11 hK hC.1 rfl rfl 7 (by decide) rfl w_236 dX11_findTwice_32 ?_
    refine lv_iload hx hb dX11_findTwice_35 (lv_at hl 4 rfl) ?_
    have o_37 : vp_in a4 60 := by
      have := mt ti_le.mpr c_28
      exact vin (by omega) (by omega)
    refine x_ald (σ := σ) C0 hK hC.1 7 7 60 rfl o_37 (ix a4) rfl dX11_findTwice_37 ?_
    refine lv_aload_n hx hb dX11_findTwice_38 rfl (lv_at hl 0 rfl) ?_
    refine x_get (σ := σ) (v := .ref (g.2.2 7)) (fs := xF0 g ρ σ) 11 0 C0 uw_11 dc_11 hK hC.1 rfl rfl 7 (by decide) rfl w_236 dX11_findTwice_39 ?_
    refine lv_iload hx hb dX11_findTwice_42 (lv_at hl 5 rfl) ?_
    have o_44 : vp_in a5 60 := by
      have := mt ti_le.mpr c_28
      exact vin (by omega) (by omega)
    refine x_ald (σ := σ) C0 hK hC.1 7 7 60 rfl o_44 (ix a5) rfl dX11_findTwice_44 ?_
    refine lv_iadd hx hb dX11_findTwice_45 ?_
    refine lv_istore (lv' := [(6, .int (((σ 7 (ix a4)) + (σ 7 (ix a5))))), (0, .ref (g.2.2 100)), (1, .int (a1)), (2, .int (a2)), (3, .int (a3)), (4, .int (a4)), (5, .int (a5))]) hx hb dX11_findTwice_46 hl (by decide) rfl (fun ls hl => ?_)
    refine lv_aload_n hx hb dX11_findTwice_48 rfl (lv_at hl 1 rfl) ?_
    refine x_get (σ := σ) (v := .ref (g.2.2 6)) (fs := xF0 g ρ σ) 11 0 C0 uw_11 dc_11 hK hC.1 rfl rfl 6 (by decide) rfl w_235 dX11_findTwice_49 ?_
    refine lv_iload hx hb dX11_findTwice_52 (lv_at hl 5 rfl) ?_
    have o_54 : vp_in a4 60 := by
      have := mt ti_le.mpr c_28
      exact vin (by omega) (by omega)
    refine x_ald (σ := σ) C0 hK hC.1 6 6 60 rfl o_54 (ix a4) rfl dX11_findTwice_54 ?_
    refine lv_aload_n hx hb dX11_findTwice_55 rfl (lv_at hl 1 rfl) ?_
    refine x_get (σ := σ) (v := .ref (g.2.2 6)) (fs := xF0 g ρ σ) 11 0 C0 uw_11 dc_11 hK hC.1 rfl rfl 6 (by decide) rfl w_235 dX11_findTwice_56 ?_
    refine lv_iload hx hb dX11_findTwice_59 (lv_at hl 6 rfl) ?_
    have o_61 : vp_in a5 60 := by
      have := mt ti_le.mpr c_28
      exact vin (by omega) (by omega)
    refine x_ald (σ := σ) C0 hK hC.1 6 6 60 rfl o_61 (ix a5) rfl dX11_findTwice_61 ?_
    refine lv_iadd hx hb dX11_findTwice_62 ?_
    refine lv_iload_n hx hb dX11_findTwice_63 rfl (lv_at hl 2 rfl) ?_
    have J64 : ∀ v : Int32, v = (if ((σ 6 (ix a4)) + (σ 6 (ix a5))) = a1 then (1 : Int32) else (0 : Int32)) → W p l e { frames := 0, cells := 0, slots := 0, locals := 0 } s m args below meth c H locs 0 0 (QMI below args s g (xW g ρ) A tgt) (F0 m 72 ls [.int (v)]) := by
      intro v ev
      subst ev
      refine lv_istore (lv' := [(7, .int ((if ((σ 6 (ix a4)) + (σ 6 (ix a5))) = a1 then (1 : Int32) else (0 : Int32)))), (6, .int (((σ 7 (ix a4)) + (σ 7 (ix a5))))), (0, .ref (g.2.2 100)), (1, .int (a1)), (2, .int (a2)), (3, .int (a3)), (4, .int (a4)), (5, .int (a5))]) hx hb dX11_findTwice_72 hl (by decide) rfl (fun ls hl => ?_)
      refine lv_aload_n hx hb dX11_findTwice_74 rfl (lv_at hl 2 rfl) ?_
      refine x_get (σ := σ) (v := .ref (g.2.2 6)) (fs := xF0 g ρ σ) 11 0 C0 uw_11 dc_11 hK hC.1 rfl rfl 6 (by decide) rfl w_235 dX11_findTwice_75 ?_
      refine lv_iload hx hb dX11_findTwice_78 (lv_at hl 6 rfl) ?_
      have o_80 : vp_in a4 60 := by
        have := mt ti_le.mpr c_28
        exact vin (by omega) (by omega)
      refine x_ald (σ := σ) C0 hK hC.1 6 6 60 rfl o_80 (ix a4) rfl dX11_findTwice_80 ?_
      refine lv_aload_n hx hb dX11_findTwice_81 rfl (lv_at hl 2 rfl) ?_
      refine x_get (σ := σ) (v := .ref (g.2.2 6)) (fs := xF0 g ρ σ) 11 0 C0 uw_11 dc_11 hK hC.1 rfl rfl 6 (by decide) rfl w_235 dX11_findTwice_82 ?_
      refine lv_iload hx hb dX11_findTwice_85 (lv_at hl 7 rfl) ?_
      have o_87 : vp_in a5 60 := by
        have := mt ti_le.mpr c_28
        exact vin (by omega) (by omega)
      refine x_ald (σ := σ) C0 hK hC.1 6 6 60 rfl o_87 (ix a5) rfl dX11_findTwice_87 ?_
      refine lv_isub hx hb dX11_findTwice_88 ?_
      refine lv_iload_n hx hb dX11_findTwice_89 rfl (lv_at hl 3 rfl) ?_
      have J90 : ∀ v : Int32, v = (if ((σ 6 (ix a4)) - (σ 6 (ix a5))) = a1 then (1 : Int32) else (0 : Int32)) → W p l e { frames := 0, cells := 0, slots := 0, locals := 0 } s m args below meth c H locs 0 0 (QMI below args s g (xW g ρ) A tgt) (F0 m 98 ls [.int (v)]) := by
        intro v ev
        subst ev
        refine lv_istore (lv' := [(8, .int ((if ((σ 6 (ix a4)) - (σ 6 (ix a5))) = a1 then (1 : Int32) else (0 : Int32)))), (7, .int ((if ((σ 6 (ix a4)) + (σ 6 (ix a5))) = a1 then (1 : Int32) else (0 : Int32)))), (6, .int (((σ 7 (ix a4)) + (σ 7 (ix a5))))), (0, .ref (g.2.2 100)), (1, .int (a1)), (2, .int (a2)), (3, .int (a3)), (4, .int (a4)), (5, .int (a5))]) hx hb dX11_findTwice_98 hl (by decide) rfl (fun ls hl => ?_)
        refine lv_iload hx hb dX11_findTwice_100 (lv_at hl 1 rfl) ?_
        refine lv_if_ne (tgt := 110) hx hb dX11_findTwice_102 (by decide) (fun c_102 => ?_) (fun c_102 => ?_)
        · have hT := hT_neg c_102 hT
          have j102_h5b : a5.toInt < a2.toInt := by
            have : ((0 : Int32)).toInt = 0 := by decide
            have := mt ti_le.mpr c_28
            have := mt ti_eq.mpr c_102
            try have := ti_add (a := (σ 7 (ix a4))) (b := (σ 7 (ix a5))) (by omega) (by omega)
            omega
          have j102_hm25 : (a2.toInt - a5.toInt).toNat < N25 + 1 := by
            have : ((0 : Int32)).toInt = 0 := by decide
            have := mt ti_le.mpr c_28
            have := mt ti_eq.mpr c_102
            try have := ti_add (a := (σ 7 (ix a4))) (b := (σ 7 (ix a5))) (by omega) (by omega)
            omega
          exact b_X11_findTwice_110 (g := g) (ρ := ρ) (dt := dt) (σ := σ) (a1 := a1) (a2 := a2) (a3 := a3) (a4 := a4) (a5 := a5) (a6 := ((σ 7 (ix a4)) + (σ 7 (ix a5)))) (a7 := (if ((σ 6 (ix a4)) + (σ 6 (ix a5))) = a1 then (1 : Int32) else (0 : Int32))) C0 hK16 hK25 hX hz h2 h4 h4b hm16 h5 j102_h5b j102_hm25 hK hC hB hA (lv_sub hl [3, 4, 5, 6, 7, 8, 2, 1] rfl) hT
        · have hT := hT_pos c_102 hT
          refine lv_iload hx hb dX11_findTwice_105 (lv_at hl 0 rfl) ?_
          refine lv_if_eq (tgt := 195) hx hb dX11_findTwice_107 (by decide) (fun c_107 => ?_) (fun c_107 => ?_)
          · have hT := hT_pos c_107 hT
            have j107_h5b : a5.toInt < a2.toInt := by
              have : ((0 : Int32)).toInt = 0 := by decide
              have := mt ti_le.mpr c_28
              have := ti_eq.mp c_102
              have := ti_eq.mp c_107
              try have := ti_add (a := (σ 7 (ix a4))) (b := (σ 7 (ix a5))) (by omega) (by omega)
              omega
            have j107_hm25 : (a2.toInt - a5.toInt).toNat < N25 + 1 := by
              have : ((0 : Int32)).toInt = 0 := by decide
              have := mt ti_le.mpr c_28
              have := ti_eq.mp c_102
              have := ti_eq.mp c_107
              try have := ti_add (a := (σ 7 (ix a4))) (b := (σ 7 (ix a5))) (by omega) (by omega)
              omega
            exact b_X11_findTwice_195 (g := g) (ρ := ρ) (dt := dt) (σ := σ) (a1 := a1) (a2 := a2) (a3 := a3) (a4 := a4) (a5 := a5) C0 hK16 hK25 hX hz h2 h4 h4b hm16 h5 j107_h5b j107_hm25 hK hC hB hA (lv_sub hl [3, 4, 5, 6, 7, 8] rfl) hT
          · have hT := hT_neg c_107 hT
            have j107_h5b : a5.toInt < a2.toInt := by
              have : ((0 : Int32)).toInt = 0 := by decide
              have := mt ti_le.mpr c_28
              have := ti_eq.mp c_102
              have := mt ti_eq.mpr c_107
              try have := ti_add (a := (σ 7 (ix a4))) (b := (σ 7 (ix a5))) (by omega) (by omega)
              omega
            have j107_hm25 : (a2.toInt - a5.toInt).toNat < N25 + 1 := by
              have : ((0 : Int32)).toInt = 0 := by decide
              have := mt ti_le.mpr c_28
              have := ti_eq.mp c_102
              have := mt ti_eq.mpr c_107
              try have := ti_add (a := (σ 7 (ix a4))) (b := (σ 7 (ix a5))) (by omega) (by omega)
              omega
            exact b_X11_findTwice_110 (g := g) (ρ := ρ) (dt := dt) (σ := σ) (a1 := a1) (a2 := a2) (a3 := a3) (a4 := a4) (a5 := a5) (a6 := ((σ 7 (ix a4)) + (σ 7 (ix a5)))) (a7 := (if ((σ 6 (ix a4)) + (σ 6 (ix a5))) = a1 then (1 : Int32) else (0 : Int32))) C0 hK16 hK25 hX hz h2 h4 h4b hm16 h5 j107_h5b j107_hm25 hK hC hB hA (lv_sub hl [3, 4, 5, 6, 7, 8, 2, 1] rfl) hT
      refine lv_icmp_ne (tgt := 97) hx hb dX11_findTwice_90 (by decide) (fun c_90 => ?_) (fun c_90 => ?_)
      · refine lv_iconst (v := (0 : Int32)) hx hb dX11_findTwice_97 (by decide) ?_
        exact J90 _ (iv_neg c_90 rfl)
      · refine lv_iconst (v := (1 : Int32)) hx hb dX11_findTwice_93 (by decide) ?_
        refine lv_goto (tgt := 98) hx hb dX11_findTwice_94 (by decide) ?_
        exact J90 _ (iv_pos c_90 rfl)
    refine lv_icmp_ne (tgt := 71) hx hb dX11_findTwice_64 (by decide) (fun c_64 => ?_) (fun c_64 => ?_)
    · refine lv_iconst (v := (0 : Int32)) hx hb dX11_findTwice_71 (by decide) ?_
      exact J64 _ (iv_neg c_64 rfl)
    · refine lv_iconst (v := (1 : Int32)) hx hb dX11_findTwice_67 (by decide) ?_
      refine lv_goto (tgt := 72) hx hb dX11_findTwice_68 (by decide) ?_
      exact J64 _ (iv_pos c_64 rfl)
def g_X11_findTwice_25 (K16 : St → Int32 → Int32 → Int32 → Int32 → Int32 × St) : Nat → St → Int32 → Int32 → Int32 → Int32 → Int32 → Int32 × St
  | 0 => fun σ a1 a2 a3 a4 a5 => (0, σ)
  | n + 1 => fun σ a1 a2 a3 a4 a5 => f_X11_findTwice_25 K16 (g_X11_findTwice_25 K16 n) σ a1 a2 a3 a4 a5
theorem l_X11_findTwice_25 {g : GG} {ρ : RR} {dt : Nat → Nat → Int32} {p : Program} {l : Launch} {e : Env} {s : State} {m : MethodId} {args : Array Value} {below : List Frame} {meth : Method} {c : Code} {A : Nat → Prop} {tgt : Int32 × St} {K16 : St → Int32 → Int32 → Int32 → Int32 → Int32 × St} {N16 : Nat} (C0 : BC p s m args meth c cX11_findTwice RX11 9 (some .boolean)) (hK16 : ∀ (σ : St) (a1 : Int32) (a2 : Int32) (a3 : Int32) (a4 : Int32), (IX σ) → (a3 = 0 ∨ a3 = 1) → (a2.toInt = 10 * (σ 25 0).toInt) → (0 ≤ a4.toInt) → (a2.toInt - a4.toInt).toNat < N16 → ∀ {H : Heap} {locs : List Loc}, KK g s → WC g (xW g ρ) A s.heap σ H locs → XH g ρ dt s.heap → (∀ q, A q → q ∈ adrs (xW g (fun _ _ => none) (fun _ _ => 0))) → ∀ {ls : Array Slot}, lv_has ls 9 [(0, .ref (g.2.2 100)), (1, .int (a1)), (2, .int (a2)), (3, .int (a3)), (4, .int (a4))] → K16 σ a1 a2 a3 a4 = tgt → W p l e { frames := 0, cells := 0, slots := 0, locals := 0 } s m args below meth c H locs 0 0 (QMI below args s g (xW g ρ) A tgt) (F0 m 16 ls [])) : ∀ (n : Nat) (σ : St) (a1 : Int32) (a2 : Int32) (a3 : Int32) (a4 : Int32) (a5 : Int32), (IX σ) → (a3 = 0 ∨ a3 = 1) → (a2.toInt = 10 * (σ 25 0).toInt) → (0 ≤ a4.toInt) → (a4.toInt < a2.toInt) → ((a2.toInt - a4.toInt).toNat < N16 + 1) → (0 ≤ a5.toInt) → (a2.toInt - a5.toInt).toNat < n → ∀ {H : Heap} {locs : List Loc}, KK g s → WC g (xW g ρ) A s.heap σ H locs → XH g ρ dt s.heap → (∀ q, A q → q ∈ adrs (xW g (fun _ _ => none) (fun _ _ => 0))) → ∀ {ls : Array Slot}, lv_has ls 9 [(0, .ref (g.2.2 100)), (1, .int (a1)), (2, .int (a2)), (3, .int (a3)), (4, .int (a4)), (5, .int (a5))] → g_X11_findTwice_25 K16 n σ a1 a2 a3 a4 a5 = tgt → W p l e { frames := 0, cells := 0, slots := 0, locals := 0 } s m args below meth c H locs 0 0 (QMI below args s g (xW g ρ) A tgt) (F0 m 25 ls []) := by
  intro n
  induction n with
  | zero => intro σ a1 a2 a3 a4 a5 hX hz h2 h4 h4b hm16 h5 hm; exact absurd hm (Nat.not_lt_zero _)
  | succ n ih =>
    intro σ a1 a2 a3 a4 a5 hX hz h2 h4 h4b hm16 h5 hm H locs hK hC hB hA ls hl hT
    exact b_X11_findTwice_25 (g := g) (ρ := ρ) (dt := dt) (K25 := g_X11_findTwice_25 K16 n) (N25 := n) C0 hK16 (fun σ a1 a2 a3 a4 a5 hX hz h2 h4 h4b hm16 h5 hmq => ih σ a1 a2 a3 a4 a5 hX hz h2 h4 h4b hm16 h5 hmq) hX hz h2 h4 h4b hm16 h5 hm hK hC hB hA hl hT
def f_X11_findTwice_16 (K16 : St → Int32 → Int32 → Int32 → Int32 → Int32 × St) (σ : St) (a1 : Int32) (a2 : Int32) (a3 : Int32) (a4 : Int32) : Int32 × St := (if a2 ≤ a4 then (a3, σ) else (g_X11_findTwice_25 K16 (61) σ a1 a2 a3 a4 (0 : Int32)))
set_option maxHeartbeats 600000 in
set_option maxRecDepth 100000 in
theorem b_X11_findTwice_16 {g : GG} {ρ : RR} {dt : Nat → Nat → Int32} {p : Program} {l : Launch} {e : Env} {s : State} {m : MethodId} {args : Array Value} {below : List Frame} {meth : Method} {c : Code} {A : Nat → Prop} {tgt : Int32 × St} {K16 : St → Int32 → Int32 → Int32 → Int32 → Int32 × St} {N16 : Nat} (C0 : BC p s m args meth c cX11_findTwice RX11 9 (some .boolean)) (hK16 : ∀ (σ : St) (a1 : Int32) (a2 : Int32) (a3 : Int32) (a4 : Int32), (IX σ) → (a3 = 0 ∨ a3 = 1) → (a2.toInt = 10 * (σ 25 0).toInt) → (0 ≤ a4.toInt) → (a2.toInt - a4.toInt).toNat < N16 → ∀ {H : Heap} {locs : List Loc}, KK g s → WC g (xW g ρ) A s.heap σ H locs → XH g ρ dt s.heap → (∀ q, A q → q ∈ adrs (xW g (fun _ _ => none) (fun _ _ => 0))) → ∀ {ls : Array Slot}, lv_has ls 9 [(0, .ref (g.2.2 100)), (1, .int (a1)), (2, .int (a2)), (3, .int (a3)), (4, .int (a4))] → K16 σ a1 a2 a3 a4 = tgt → W p l e { frames := 0, cells := 0, slots := 0, locals := 0 } s m args below meth c H locs 0 0 (QMI below args s g (xW g ρ) A tgt) (F0 m 16 ls [])) {σ : St} {a1 : Int32} {a2 : Int32} {a3 : Int32} {a4 : Int32} {H : Heap} {locs : List Loc} (hX : IX σ) (hz : a3 = 0 ∨ a3 = 1) (h2 : a2.toInt = 10 * (σ 25 0).toInt) (h4 : 0 ≤ a4.toInt) (hm : (a2.toInt - a4.toInt).toNat < N16 + 1) (hK : KK g s) (hC : WC g (xW g ρ) A s.heap σ H locs) (hB : XH g ρ dt s.heap) (hA : ∀ q, A q → q ∈ adrs (xW g (fun _ _ => none) (fun _ _ => 0))) {ls : Array Slot} (hl : lv_has ls 9 [(0, .ref (g.2.2 100)), (1, .int (a1)), (2, .int (a2)), (3, .int (a3)), (4, .int (a4))]) (hT : f_X11_findTwice_16 K16 σ a1 a2 a3 a4 = tgt) : W p l e { frames := 0, cells := 0, slots := 0, locals := 0 } s m args below meth c H locs 0 0 (QMI below args s g (xW g ρ) A tgt) (F0 m 16 ls []) := by
  obtain ⟨hx, hb, hr, hml, hown, hts, hlocks⟩ := id C0
  unfold f_X11_findTwice_16 at hT
  obtain ⟨⟨j1, j1'⟩, ⟨j3, j3'⟩, ⟨j5, j5'⟩, ⟨j8, j8'⟩, ⟨j9, j9'⟩, ⟨j12, j12'⟩, ⟨j14, j14'⟩, ⟨j17, j17'⟩, j81, jW⟩ := id hX
  refine lv_iload hx hb dX11_findTwice_16 (lv_at hl 4 rfl) ?_
  refine lv_iload_n hx hb dX11_findTwice_18 rfl (lv_at hl 2 rfl) ?_
  refine lv_icmp_ge (tgt := 207) hx hb dX11_findTwice_19 (by decide) (fun c_19 => ?_) (fun c_19 => ?_)
  · have hT := hT_pos c_19 hT
    refine lv_iload_n hx hb dX11_findTwice_207 rfl (lv_at hl 3 rfl) ?_
    exact ret_MZ C0 (nz_of (by exact hz)) hC hT dX11_findTwice_208
  · have hT := hT_neg c_19 hT
    refine lv_iconst (v := (0 : Int32)) hx hb dX11_findTwice_22 (by decide) ?_
    refine lv_istore (lv' := [(5, .int ((0 : Int32))), (0, .ref (g.2.2 100)), (1, .int (a1)), (2, .int (a2)), (3, .int (a3)), (4, .int (a4))]) hx hb dX11_findTwice_23 hl (by decide) rfl (fun ls hl => ?_)
    have j23_h4b : a4.toInt < a2.toInt := by
      have : ((0 : Int32)).toInt = 0 := by decide
      have := mt ti_le.mpr c_19
      omega
    have j23_hm16 : (a2.toInt - a4.toInt).toNat < N16 + 1 := by
      have : ((0 : Int32)).toInt = 0 := by decide
      have := mt ti_le.mpr c_19
      omega
    have j23_h5 : 0 ≤ (0 : Int32).toInt := by
      have : ((0 : Int32)).toInt = 0 := by decide
      have := mt ti_le.mpr c_19
      omega
    have j23_m : (a2.toInt - (0 : Int32).toInt).toNat < 61 := by
      have : ((0 : Int32)).toInt = 0 := by decide
      have := mt ti_le.mpr c_19
      omega
    exact l_X11_findTwice_25 (g := g) (ρ := ρ) (dt := dt) C0 hK16  (61) σ a1 a2 a3 a4 (0 : Int32) hX hz h2 h4 j23_h4b j23_hm16 j23_h5 j23_m hK hC hB hA (lv_sub hl [1, 2, 3, 4, 5, 0] rfl) hT
def g_X11_findTwice_16  : Nat → St → Int32 → Int32 → Int32 → Int32 → Int32 × St
  | 0 => fun σ a1 a2 a3 a4 => (0, σ)
  | n + 1 => fun σ a1 a2 a3 a4 => f_X11_findTwice_16  (g_X11_findTwice_16  n) σ a1 a2 a3 a4
theorem l_X11_findTwice_16 {g : GG} {ρ : RR} {dt : Nat → Nat → Int32} {p : Program} {l : Launch} {e : Env} {s : State} {m : MethodId} {args : Array Value} {below : List Frame} {meth : Method} {c : Code} {A : Nat → Prop} {tgt : Int32 × St}  (C0 : BC p s m args meth c cX11_findTwice RX11 9 (some .boolean))  : ∀ (n : Nat) (σ : St) (a1 : Int32) (a2 : Int32) (a3 : Int32) (a4 : Int32), (IX σ) → (a3 = 0 ∨ a3 = 1) → (a2.toInt = 10 * (σ 25 0).toInt) → (0 ≤ a4.toInt) → (a2.toInt - a4.toInt).toNat < n → ∀ {H : Heap} {locs : List Loc}, KK g s → WC g (xW g ρ) A s.heap σ H locs → XH g ρ dt s.heap → (∀ q, A q → q ∈ adrs (xW g (fun _ _ => none) (fun _ _ => 0))) → ∀ {ls : Array Slot}, lv_has ls 9 [(0, .ref (g.2.2 100)), (1, .int (a1)), (2, .int (a2)), (3, .int (a3)), (4, .int (a4))] → g_X11_findTwice_16  n σ a1 a2 a3 a4 = tgt → W p l e { frames := 0, cells := 0, slots := 0, locals := 0 } s m args below meth c H locs 0 0 (QMI below args s g (xW g ρ) A tgt) (F0 m 16 ls []) := by
  intro n
  induction n with
  | zero => intro σ a1 a2 a3 a4 hX hz h2 h4 hm; exact absurd hm (Nat.not_lt_zero _)
  | succ n ih =>
    intro σ a1 a2 a3 a4 hX hz h2 h4 hm H locs hK hC hB hA ls hl hT
    exact b_X11_findTwice_16 (g := g) (ρ := ρ) (dt := dt) (K16 := g_X11_findTwice_16  n) (N16 := n) C0  (fun σ a1 a2 a3 a4 hX hz h2 h4 hmq => ih σ a1 a2 a3 a4 hX hz h2 h4 hmq) hX hz h2 h4 hm hK hC hB hA hl hT
def f_X11_findTwice (σ : St) (a1 : Int32) : Int32 × St := (g_X11_findTwice_16  (61) σ a1 ((σ 25 0) * (10 : Int32)) (0 : Int32) (0 : Int32))
set_option maxHeartbeats 600000 in
set_option maxRecDepth 100000 in
theorem k_X11_findTwice (l : Launch) (g : GG) (ρ : RR) (dt : Nat → Nat → Int32) (σ : St) (a1 : Int32) (hX : IX σ) : MI l yX11_findTwice (wsF yX11_findTwice cX11_findTwice 9 (some .boolean)) { frames := 0, cells := 0, slots := 0, locals := 0 } [.ref (g.2.2 100), .int (a1)] g (xW g ρ) (XB g ρ dt) σ (f_X11_findTwice σ a1) := by
  refine start_MI (by decide) (Nat.le_of_ble_eq_true rfl) ?_
  intro p e s m args below meth c C0 hK hB hC ls hl
  generalize hAe : aA ((xW g ρ) σ) = A at hC ⊢
  have hA : ∀ q, A q → q ∈ adrs (xW g (fun _ _ => none) (fun _ _ => 0)) := fun q h => by rw [← hAe] at h; exact h
  obtain ⟨hx, hb, hr, hml, hown, hts, hlocks⟩ := id C0
  have hl : lv_has ls 9 [(0, .ref (g.2.2 100)), (1, .int (a1))] := hl
  generalize hT : (f_X11_findTwice σ a1) = tgt
  suffices key : ∀ (H : Heap) (locs : List Loc), WC g (xW g ρ) A s.heap σ H locs → W p l e { frames := 0, cells := 0, slots := 0, locals := 0 } s m args below meth c H locs 0 0 (QMI below args s g (xW g ρ) A tgt) (F0 m 0 ls []) from key _ _ hC
  intro H locs hC
  unfold f_X11_findTwice at hT
  obtain ⟨⟨j1, j1'⟩, ⟨j3, j3'⟩, ⟨j5, j5'⟩, ⟨j8, j8'⟩, ⟨j9, j9'⟩, ⟨j12, j12'⟩, ⟨j14, j14'⟩, ⟨j17, j17'⟩, j81, jW⟩ := id hX
  refine lv_aload_n hx hb dX11_findTwice_0 rfl (lv_at hl 0 rfl) ?_
  refine x_get (σ := σ) (v := .ref (g.2.2 101)) (fs := xF0 g ρ σ) 11 0 C0 uw_11 dc_11 hK hC.1 rfl rfl 0 (by decide) rfl w_229 dX11_findTwice_1 ?_
  refine x_getN (σ := σ) (v := .int ((σ 25 0))) (fs := xF1 g ρ σ) 5 1 C0 uw_5 dc_5 hK hC.1 rfl rfl 5 (by decide) rfl w_119 dX11_findTwice_4 ?_
  refine lv_bipush (v := (10 : Int32)) hx hb dX11_findTwice_7 (by decide) ?_
  refine lv_imul hx hb dX11_findTwice_9 ?_
  refine lv_istore_n (lv' := [(2, .int (((σ 25 0) * (10 : Int32)))), (0, .ref (g.2.2 100)), (1, .int (a1))]) hx hb dX11_findTwice_10 rfl hl (by decide) rfl (fun ls hl => ?_)
  refine lv_iconst (v := (0 : Int32)) hx hb dX11_findTwice_11 (by decide) ?_
  refine lv_istore_n (lv' := [(3, .int ((0 : Int32))), (2, .int (((σ 25 0) * (10 : Int32)))), (0, .ref (g.2.2 100)), (1, .int (a1))]) hx hb dX11_findTwice_12 rfl hl (by decide) rfl (fun ls hl => ?_)
  refine lv_iconst (v := (0 : Int32)) hx hb dX11_findTwice_13 (by decide) ?_
  refine lv_istore (lv' := [(4, .int ((0 : Int32))), (3, .int ((0 : Int32))), (2, .int (((σ 25 0) * (10 : Int32)))), (0, .ref (g.2.2 100)), (1, .int (a1))]) hx hb dX11_findTwice_14 hl (by decide) rfl (fun ls hl => ?_)
  have j14_hz : (0 : Int32) = 0 ∨ (0 : Int32) = 1 := Or.inl rfl
  have j14_h2 : ((σ 25 0) * (10 : Int32)).toInt = 10 * (σ 25 0).toInt := by
    have : ((0 : Int32)).toInt = 0 := by decide
    have : ((10 : Int32)).toInt = 10 := by decide
    try have := ti_mulL (a := (σ 25 0)) (b := (10 : Int32)) (n := 10) (by decide) (by omega) (by omega)
    omega
  have j14_h4 : 0 ≤ (0 : Int32).toInt := by
    have : ((0 : Int32)).toInt = 0 := by decide
    have : ((10 : Int32)).toInt = 10 := by decide
    try have := ti_mulL (a := (σ 25 0)) (b := (10 : Int32)) (n := 10) (by decide) (by omega) (by omega)
    omega
  have j14_m : (((σ 25 0) * (10 : Int32)).toInt - (0 : Int32).toInt).toNat < 61 := by
    have : ((0 : Int32)).toInt = 0 := by decide
    have : ((10 : Int32)).toInt = 10 := by decide
    try have := ti_mulL (a := (σ 25 0)) (b := (10 : Int32)) (n := 10) (by decide) (by omega) (by omega)
    omega
  exact l_X11_findTwice_16 (g := g) (ρ := ρ) (dt := dt) C0   (61) σ a1 ((σ 25 0) * (10 : Int32)) (0 : Int32) (0 : Int32) hX j14_hz j14_h2 j14_h4 j14_m hK hC hB hA (lv_sub hl [3, 4, 2, 1, 0] rfl) hT
