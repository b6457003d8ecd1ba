
theorem mn_le {x y : Int32} {n : Int} (h : x.toInt ≤ n) : (if y < x then y else x).toInt ≤ n := by
  split
  · rename_i q
    have q := ti_lt.mp q
    omega
  · exact h
theorem mx_ge {x y : Int32} {n : Int} (h : n ≤ x.toInt) : n ≤ (if x < y then y else x).toInt := by
  split
  · rename_i q
    have q := ti_lt.mp q
    omega
  · exact h
theorem IX_w {σ : St} (hX : IX σ) {a : Int32} (h1 : 0 ≤ a.toInt) (h2 : a.toInt < 6) : 0 ≤ (σ 26 (ix a)).toInt ∧ (σ 26 (ix a)).toInt ≤ (σ 27 (ix a)).toInt ∧ (σ 27 (ix a)).toInt ≤ 999 := by
  obtain ⟨-, -, -, -, -, -, -, -, -, jW⟩ := hX
  exact jW _ (ix_lt h1 h2)
theorem shr1 {a : Int32} (h : 0 ≤ a.toInt) : (a >>> ((1 : Int32) &&& 31)).toInt = a.toInt / 2 := by
  obtain ⟨k, hk, rfl⟩ := nn_nI h
  rw [pk_shrN hk ((1 : Int32) &&& 31) 1 (by decide), nI_toInt hk, nI_toInt (Nat.lt_of_le_of_lt (Nat.div_le_self _ _) hk)]
  rfl
/-! ThreeMeasures.isForward -/
theorem dX11_isForward_0 : decode cX11_isForward 0 = .ok (.aload_n 0, 1) := by decide +kernel
theorem dX11_isForward_1 : decode cX11_isForward 1 = .ok (.getfield 12, 3) := by decide +kernel
theorem dX11_isForward_4 : decode cX11_isForward 4 = .ok (.getfield 212, 3) := by decide +kernel
theorem dX11_isForward_7 : decode cX11_isForward 7 = .ok (.iload_n 1, 1) := by decide +kernel
theorem dX11_isForward_8 : decode cX11_isForward 8 = .ok (.iaload, 1) := by decide +kernel
theorem dX11_isForward_9 : decode cX11_isForward 9 = .ok (.iconst 2, 1) := by decide +kernel
theorem dX11_isForward_10 : decode cX11_isForward 10 = .ok (.if_icmp .ge 7, 3) := by decide +kernel
theorem dX11_isForward_13 : decode cX11_isForward 13 = .ok (.iconst 1, 1) := by decide +kernel
theorem dX11_isForward_14 : decode cX11_isForward 14 = .ok (.goto 4, 3) := by decide +kernel
theorem dX11_isForward_17 : decode cX11_isForward 17 = .ok (.iconst 0, 1) := by decide +kernel
theorem dX11_isForward_18 : decode cX11_isForward 18 = .ok (.ireturn, 1) := by decide +kernel
def f_X11_isForward (σ : St) (a1 : Int32) : Int32 := (if (2 : Int32) ≤ (σ 30 (ix a1)) then (0 : Int32) else (1 : Int32))
set_option maxHeartbeats 600000 in
set_option maxRecDepth 100000 in
theorem k_X11_isForward (l : Launch) (g : GG) (ρ : RR) (dt : Nat → Nat → Int32) (σ : St) (a1 : Int32) (h1 : 0 ≤ a1.toInt) (h1b : a1.toInt < 8) : PI l yX11_isForward (wsF yX11_isForward cX11_isForward 2 (some .boolean)) { frames := 0, cells := 0, slots := 0, locals := 0 } [.ref (g.2.2 100), .int (a1)] (GB g (xW g ρ) (XB g ρ dt) σ) (f_X11_isForward σ a1) := by
  refine start_PI (by decide) (Nat.le_of_ble_eq_true rfl) ?_
  intro p e s m args below meth c C0 hG ls hl
  obtain ⟨hK, hP, hDD, hB⟩ := hG
  obtain ⟨hx, hb, hr, hml, hown, hts, hlocks⟩ := id C0
  have hl : lv_has ls 2 [(0, .ref (g.2.2 100)), (1, .int (a1))] := hl
  generalize hT : (f_X11_isForward σ a1) = tgt
  unfold f_X11_isForward at hT
  refine lv_aload_n hx hb dX11_isForward_0 rfl (lv_at hl 0 rfl) ?_
  refine x_get (σ := σ) (v := .ref (g.2.2 101)) (fs := xF0 g ρ σ) 11 0 C0 uw_11 dc_11 hK hP rfl rfl 0 (by decide) rfl w_229 dX11_isForward_1 ?_
  refine x_getN (σ := σ) (v := .ref (g.2.2 30)) (fs := xF1 g ρ σ) 5 1 C0 uw_5 dc_5 hK hP rfl rfl 10 (by decide) rfl w_129 dX11_isForward_4 ?_
  refine lv_iload_n hx hb dX11_isForward_7 rfl (lv_at hl 1 rfl) ?_
  have o_8 : vp_in a1 8 := by
    exact vin (by omega) (by omega)
  refine x_ald (σ := σ) C0 hK hP 13 30 8 rfl o_8 (ix a1) rfl dX11_isForward_8 ?_
  refine lv_iconst (v := (2 : Int32)) hx hb dX11_isForward_9 (by decide) ?_
  have J10 : ∀ v : Int32, v = (if (2 : Int32) ≤ (σ 30 (ix a1)) then (0 : Int32) else (1 : Int32)) → W p l e { frames := 0, cells := 0, slots := 0, locals := 0 } s m args below meth c s.heap [] 0 0 (QPI below args s tgt) (F0 m 18 ls [.int (v)]) := by
    intro v ev
    subst ev
    exact ret_PZ C0 (nz_of (by (repeat' split) <;> simp)) hT dX11_isForward_18
  refine lv_icmp_ge (tgt := 17) hx hb dX11_isForward_10 (by decide) (fun c_10 => ?_) (fun c_10 => ?_)
  · refine lv_iconst (v := (0 : Int32)) hx hb dX11_isForward_17 (by decide) ?_
    exact J10 _ (iv_pos c_10 rfl)
  · refine lv_iconst (v := (1 : Int32)) hx hb dX11_isForward_13 (by decide) ?_
    refine lv_goto (tgt := 18) hx hb dX11_isForward_14 (by decide) ?_
    exact J10 _ (iv_neg c_10 rfl)
/-! ThreeMeasures.isAlong -/
theorem dX11_isAlong_0 : decode cX11_isAlong 0 = .ok (.aload_n 0, 1) := by decide +kernel
theorem dX11_isAlong_1 : decode cX11_isAlong 1 = .ok (.getfield 12, 3) := by decide +kernel
theorem dX11_isAlong_4 : decode cX11_isAlong 4 = .ok (.getfield 212, 3) := by decide +kernel
theorem dX11_isAlong_7 : decode cX11_isAlong 7 = .ok (.iload_n 1, 1) := by decide +kernel
theorem dX11_isAlong_8 : decode cX11_isAlong 8 = .ok (.iaload, 1) := by decide +kernel
theorem dX11_isAlong_9 : decode cX11_isAlong 9 = .ok (.iconst 2, 1) := by decide +kernel
theorem dX11_isAlong_10 : decode cX11_isAlong 10 = .ok (.irem, 1) := by decide +kernel
theorem dX11_isAlong_11 : decode cX11_isAlong 11 = .ok (.iload_n 2, 1) := by decide +kernel
theorem dX11_isAlong_12 : decode cX11_isAlong 12 = .ok (.if_icmp .ne 7, 3) := by decide +kernel
theorem dX11_isAlong_15 : decode cX11_isAlong 15 = .ok (.iconst 1, 1) := by decide +kernel
theorem dX11_isAlong_16 : decode cX11_isAlong 16 = .ok (.goto 4, 3) := by decide +kernel
theorem dX11_isAlong_19 : decode cX11_isAlong 19 = .ok (.iconst 0, 1) := by decide +kernel
theorem dX11_isAlong_20 : decode cX11_isAlong 20 = .ok (.ireturn, 1) := by decide +kernel
def f_X11_isAlong (σ : St) (a1 : Int32) (a2 : Int32) : Int32 := (if ((σ 30 (ix a1)) - (σ 30 (ix a1)) / (2 : Int32) * (2 : Int32)) = a2 then (1 : Int32) else (0 : Int32))
set_option maxHeartbeats 600000 in
set_option maxRecDepth 100000 in
theorem k_X11_isAlong (l : Launch) (g : GG) (ρ : RR) (dt : Nat → Nat → Int32) (σ : St) (a1 : Int32) (a2 : Int32) (h1 : 0 ≤ a1.toInt) (h1b : a1.toInt < 8) : PI l yX11_isAlong (wsF yX11_isAlong cX11_isAlong 3 (some .boolean)) { frames := 0, cells := 0, slots := 0, locals := 0 } [.ref (g.2.2 100), .int (a1), .int (a2)] (GB g (xW g ρ) (XB g ρ dt) σ) (f_X11_isAlong σ a1 a2) := by
  refine start_PI (by decide) (Nat.le_of_ble_eq_true rfl) ?_
  intro p e s m args below meth c C0 hG ls hl
  obtain ⟨hK, hP, hDD, hB⟩ := hG
  obtain ⟨hx, hb, hr, hml, hown, hts, hlocks⟩ := id C0
  have hl : lv_has ls 3 [(0, .ref (g.2.2 100)), (1, .int (a1)), (2, .int (a2))] := hl
  generalize hT : (f_X11_isAlong σ a1 a2) = tgt
  unfold f_X11_isAlong at hT
  refine lv_aload_n hx hb dX11_isAlong_0 rfl (lv_at hl 0 rfl) ?_
  refine x_get (σ := σ) (v := .ref (g.2.2 101)) (fs := xF0 g ρ σ) 11 0 C0 uw_11 dc_11 hK hP rfl rfl 0 (by decide) rfl w_229 dX11_isAlong_1 ?_
  refine x_getN (σ := σ) (v := .ref (g.2.2 30)) (fs := xF1 g ρ σ) 5 1 C0 uw_5 dc_5 hK hP rfl rfl 10 (by decide) rfl w_129 dX11_isAlong_4 ?_
  refine lv_iload_n hx hb dX11_isAlong_7 rfl (lv_at hl 1 rfl) ?_
  have o_8 : vp_in a1 8 := by
    exact vin (by omega) (by omega)
  refine x_ald (σ := σ) C0 hK hP 13 30 8 rfl o_8 (ix a1) rfl dX11_isAlong_8 ?_
  refine lv_iconst (v := (2 : Int32)) hx hb dX11_isAlong_9 (by decide) ?_
  refine lv_irem hx hb dX11_isAlong_10 (by decide) ?_
  refine lv_iload_n hx hb dX11_isAlong_11 rfl (lv_at hl 2 rfl) ?_
  have J12 : ∀ v : Int32, v = (if ((σ 30 (ix a1)) - (σ 30 (ix a1)) / (2 : Int32) * (2 : Int32)) = a2 then (1 : Int32) else (0 : Int32)) → W p l e { frames := 0, cells := 0, slots := 0, locals := 0 } s m args below meth c s.heap [] 0 0 (QPI below args s tgt) (F0 m 20 ls [.int (v)]) := by
    intro v ev
    subst ev
    exact ret_PZ C0 (nz_of (by (repeat' split) <;> simp)) hT dX11_isAlong_20
  refine lv_icmp_ne (tgt := 19) hx hb dX11_isAlong_12 (by decide) (fun c_12 => ?_) (fun c_12 => ?_)
  · refine lv_iconst (v := (0 : Int32)) hx hb dX11_isAlong_19 (by decide) ?_
    exact J12 _ (iv_neg c_12 rfl)
  · refine lv_iconst (v := (1 : Int32)) hx hb dX11_isAlong_15 (by decide) ?_
    refine lv_goto (tgt := 20) hx hb dX11_isAlong_16 (by decide) ?_
    exact J12 _ (iv_pos c_12 rfl)
set_option maxRecDepth 20000 in
theorem w_770 : (Cond.methodLink RX11 227 yX11_isAlong) ∈ TB := inTB (List.mem_of_getElem? (i := 770) (by decide +kernel)) (by decide +kernel)
set_option maxRecDepth 20000 in
theorem w_773 : (Cond.code yX11_isAlong cX11_isAlong 3 (some .boolean)) ∈ TB := inTB (List.mem_of_getElem? (i := 773) (by decide +kernel)) (by decide +kernel)
set_option maxRecDepth 20000 in
theorem w_772 : (Cond.instanceMethod yX11_isAlong) ∈ TB := inTB (List.mem_of_getElem? (i := 772) (by decide +kernel)) (by decide +kernel)
set_option maxRecDepth 20000 in
theorem w_28 : (Cond.selects RX11 yX11_isAlong yX11_isAlong) ∈ TB := inTB (List.mem_of_getElem? (i := 28) (by decide +kernel)) (by decide +kernel)
set_option maxRecDepth 20000 in
theorem w_71 : (Cond.initialized RX11) ∈ TB := inTB (List.mem_of_getElem? (i := 71) (by decide +kernel)) (by decide +kernel)
theorem cf_X11_isAlong : CF yX11_isAlong cX11_isAlong 3 (some .boolean) 2 := ⟨w_772, w_28, w_71, w_773, by decide +kernel, by decide +kernel, by decide +kernel⟩
set_option maxRecDepth 20000 in
theorem w_774 : (Cond.methodLink RX11 224 yX11_isForward) ∈ TB := inTB (List.mem_of_getElem? (i := 774) (by decide +kernel)) (by decide +kernel)
set_option maxRecDepth 20000 in
theorem w_777 : (Cond.code yX11_isForward cX11_isForward 2 (some .boolean)) ∈ TB := inTB (List.mem_of_getElem? (i := 777) (by decide +kernel)) (by decide +kernel)
set_option maxRecDepth 20000 in
theorem w_776 : (Cond.instanceMethod yX11_isForward) ∈ TB := inTB (List.mem_of_getElem? (i := 776) (by decide +kernel)) (by decide +kernel)
set_option maxRecDepth 20000 in
theorem w_29 : (Cond.selects RX11 yX11_isForward yX11_isForward) ∈ TB := inTB (List.mem_of_getElem? (i := 29) (by decide +kernel)) (by decide +kernel)
theorem cf_X11_isForward : CF yX11_isForward cX11_isForward 2 (some .boolean) 1 := ⟨w_776, w_29, w_71, w_777, by decide +kernel, by decide +kernel, by decide +kernel⟩
/-! ThreeMeasures.offAlong -/
theorem dX11_offAlong_0 : decode cX11_offAlong 0 = .ok (.iconst 0, 1) := by decide +kernel
theorem dX11_offAlong_1 : decode cX11_offAlong 1 = .ok (.istore_n 2, 1) := by decide +kernel
theorem dX11_offAlong_2 : decode cX11_offAlong 2 = .ok (.iconst 0, 1) := by decide +kernel
theorem dX11_offAlong_3 : decode cX11_offAlong 3 = .ok (.istore_n 3, 1) := by decide +kernel
theorem dX11_offAlong_4 : decode cX11_offAlong 4 = .ok (.iload_n 3, 1) := by decide +kernel
theorem dX11_offAlong_5 : decode cX11_offAlong 5 = .ok (.aload_n 0, 1) := by decide +kernel
theorem dX11_offAlong_6 : decode cX11_offAlong 6 = .ok (.getfield 12, 3) := by decide +kernel
theorem dX11_offAlong_9 : decode cX11_offAlong 9 = .ok (.getfield 209, 3) := by decide +kernel
theorem dX11_offAlong_12 : decode cX11_offAlong 12 = .ok (.if_icmp .ge 51, 3) := by decide +kernel
theorem dX11_offAlong_15 : decode cX11_offAlong 15 = .ok (.aload_n 0, 1) := by decide +kernel
theorem dX11_offAlong_16 : decode cX11_offAlong 16 = .ok (.iload_n 3, 1) := by decide +kernel
theorem dX11_offAlong_17 : decode cX11_offAlong 17 = .ok (.iload_n 1, 1) := by decide +kernel
theorem dX11_offAlong_18 : decode cX11_offAlong 18 = .ok (.invokevirtual 227, 3) := by decide +kernel
theorem dX11_offAlong_21 : decode cX11_offAlong 21 = .ok (.ifCond .eq 36, 3) := by decide +kernel
theorem dX11_offAlong_24 : decode cX11_offAlong 24 = .ok (.iload_n 2, 1) := by decide +kernel
theorem dX11_offAlong_25 : decode cX11_offAlong 25 = .ok (.aload_n 0, 1) := by decide +kernel
theorem dX11_offAlong_26 : decode cX11_offAlong 26 = .ok (.iload_n 3, 1) := by decide +kernel
theorem dX11_offAlong_27 : decode cX11_offAlong 27 = .ok (.invokevirtual 224, 3) := by decide +kernel
theorem dX11_offAlong_30 : decode cX11_offAlong 30 = .ok (.ifCond .eq 15, 3) := by decide +kernel
theorem dX11_offAlong_33 : decode cX11_offAlong 33 = .ok (.aload_n 0, 1) := by decide +kernel
theorem dX11_offAlong_34 : decode cX11_offAlong 34 = .ok (.getfield 12, 3) := by decide +kernel
theorem dX11_offAlong_37 : decode cX11_offAlong 37 = .ok (.getfield 215, 3) := by decide +kernel
theorem dX11_offAlong_40 : decode cX11_offAlong 40 = .ok (.iload_n 3, 1) := by decide +kernel
theorem dX11_offAlong_41 : decode cX11_offAlong 41 = .ok (.iaload, 1) := by decide +kernel
theorem dX11_offAlong_42 : decode cX11_offAlong 42 = .ok (.goto 13, 3) := by decide +kernel
theorem dX11_offAlong_45 : decode cX11_offAlong 45 = .ok (.aload_n 0, 1) := by decide +kernel
theorem dX11_offAlong_46 : decode cX11_offAlong 46 = .ok (.getfield 12, 3) := by decide +kernel
theorem dX11_offAlong_49 : decode cX11_offAlong 49 = .ok (.getfield 215, 3) := by decide +kernel
theorem dX11_offAlong_52 : decode cX11_offAlong 52 = .ok (.iload_n 3, 1) := by decide +kernel
theorem dX11_offAlong_53 : decode cX11_offAlong 53 = .ok (.iaload, 1) := by decide +kernel
theorem dX11_offAlong_54 : decode cX11_offAlong 54 = .ok (.ineg, 1) := by decide +kernel
theorem dX11_offAlong_55 : decode cX11_offAlong 55 = .ok (.iadd, 1) := by decide +kernel
theorem dX11_offAlong_56 : decode cX11_offAlong 56 = .ok (.istore_n 2, 1) := by decide +kernel
theorem dX11_offAlong_57 : decode cX11_offAlong 57 = .ok (.iinc 3 1, 3) := by decide +kernel
theorem dX11_offAlong_60 : decode cX11_offAlong 60 = .ok (.goto (-56), 3) := by decide +kernel
theorem dX11_offAlong_63 : decode cX11_offAlong 63 = .ok (.iload_n 2, 1) := by decide +kernel
theorem dX11_offAlong_64 : decode cX11_offAlong 64 = .ok (.ireturn, 1) := by decide +kernel
def f_X11_offAlong_57 (K4 : St → Int32 → Int32 → Int32 → Int32) (σ : St) (a1 : Int32) (a2 : Int32) (a3 : Int32) : Int32 := (K4 σ a1 a2 (a3 + (1 : Int32)))
set_option maxHeartbeats 600000 in
set_option maxRecDepth 100000 in
theorem b_X11_offAlong_57 {g : GG} {ρ : RR} {dt : Nat → Nat → Int32} {p : Program} {l : Launch} {e : Env} {s : State} {m : MethodId} {args : Array Value} {below : List Frame} {meth : Method} {c : Code}  {tgt : Int32} {K4 : St → Int32 → Int32 → Int32 → Int32} {N4 : Nat} (C0 : BC p s m args meth c cX11_offAlong RX11 4 (some .int)) (hK4 : ∀ (σ : St) (a1 : Int32) (a2 : Int32) (a3 : Int32), (IX σ) → (0 ≤ a3.toInt) → ((σ 32 0).toInt - a3.toInt).toNat < N4 → KK g s → va_P g.1 vwCl ((xW g ρ) σ) s.heap → va_D (fun _ => True) ((xW g ρ) σ) → XH g ρ dt s.heap →  ∀ {ls : Array Slot}, lv_has ls 4 [(0, .ref (g.2.2 100)), (1, .int (a1)), (2, .int (a2)), (3, .int (a3))] → K4 σ a1 a2 a3 = tgt → W p l e { frames := 1, cells := 0, slots := 0, locals := 22 } s m args below meth c s.heap [] 0 0 (QPI below args s tgt) (F0 m 4 ls [])) {σ : St} {a1 : Int32} {a2 : Int32} {a3 : Int32}  (hX : IX σ) (h3 : 0 ≤ a3.toInt) (h3b : a3.toInt < (σ 32 0).toInt) (hm4 : ((σ 32 0).toInt - a3.toInt).toNat < N4 + 1)  (hK : KK g s) (hP : va_P g.1 vwCl ((xW g ρ) σ) s.heap) (hDD : va_D (fun _ => True) ((xW g ρ) σ)) (hB : XH g ρ dt s.heap) {ls : Array Slot} (hl : lv_has ls 4 [(0, .ref (g.2.2 100)), (1, .int (a1)), (2, .int (a2)), (3, .int (a3))]) (hT : f_X11_offAlong_57 K4 σ a1 a2 a3 = tgt) : W p l e { frames := 1, cells := 0, slots := 0, locals := 22 } s m args below meth c s.heap [] 0 0 (QPI below args s tgt) (F0 m 57 ls []) := by
  obtain ⟨hx, hb, hr, hml, hown, hts, hlocks⟩ := id C0
  unfold f_X11_offAlong_57 at hT
  obtain ⟨⟨j1, j1'⟩, ⟨j3, j3'⟩, ⟨j5, j5'⟩, ⟨j8, j8'⟩, ⟨j9, j9'⟩, ⟨j12, j12'⟩, ⟨j14, j14'⟩, ⟨j17, j17'⟩, j81, jW⟩ := id hX
  refine lv_iinc (v := (a3 + (1 : Int32))) (lv' := [(3, .int ((a3 + (1 : Int32)))), (0, .ref (g.2.2 100)), (1, .int (a1)), (2, .int (a2))]) hx hb dX11_offAlong_57 hl (k := 3) rfl rfl (by decide) rfl (fun ls hl => ?_)
  refine lv_goto (tgt := 4) hx hb dX11_offAlong_60 (by decide) ?_
  have j60_h3 : 0 ≤ (a3 + (1 : Int32)).toInt := by
    have : ((1 : Int32)).toInt = 1 := by decide
    try have := ti_add (a := a3) (b := (1 : Int32)) (by omega) (by omega)
    omega
  have j60_m : ((σ 32 0).toInt - (a3 + (1 : Int32)).toInt).toNat < N4 := by
    have : ((1 : Int32)).toInt = 1 := by decide
    try have := ti_add (a := a3) (b := (1 : Int32)) (by omega) (by omega)
    omega
  exact hK4 σ a1 a2 (a3 + (1 : Int32)) hX j60_h3 j60_m hK hP hDD hB (lv_sub hl [1, 2, 3, 0] rfl) hT
def f_X11_offAlong_4 (K4 : St → Int32 → Int32 → Int32 → Int32) (σ : St) (a1 : Int32) (a2 : Int32) (a3 : Int32) : Int32 := (if (σ 32 0) ≤ a3 then a2 else (if (f_X11_isAlong σ a3 a1) = 0 then (f_X11_offAlong_57 K4 σ a1 a2 a3) else (f_X11_offAlong_57 K4 σ a1 (a2 + (if (f_X11_isForward σ a3) = 0 then (-(σ 31 (ix a3))) else (σ 31 (ix a3)))) a3)))
set_option maxHeartbeats 600000 in
set_option maxRecDepth 100000 in
theorem b_X11_offAlong_4 {g : GG} {ρ : RR} {dt : Nat → Nat → Int32} {p : Program} {l : Launch} {e : Env} {s : State} {m : MethodId} {args : Array Value} {below : List Frame} {meth : Method} {c : Code}  {tgt : Int32} {K4 : St → Int32 → Int32 → Int32 → Int32} {N4 : Nat} (C0 : BC p s m args meth c cX11_offAlong RX11 4 (some .int)) (hK4 : ∀ (σ : St) (a1 : Int32) (a2 : Int32) (a3 : Int32), (IX σ) → (0 ≤ a3.toInt) → ((σ 32 0).toInt - a3.toInt).toNat < N4 → KK g s → va_P g.1 vwCl ((xW g ρ) σ) s.heap → va_D (fun _ => True) ((xW g ρ) σ) → XH g ρ dt s.heap →  ∀ {ls : Array Slot}, lv_has ls 4 [(0, .ref (g.2.2 100)), (1, .int (a1)), (2, .int (a2)), (3, .int (a3))] → K4 σ a1 a2 a3 = tgt → W p l e { frames := 1, cells := 0, slots := 0, locals := 22 } s m args below meth c s.heap [] 0 0 (QPI below args s tgt) (F0 m 4 ls [])) {σ : St} {a1 : Int32} {a2 : Int32} {a3 : Int32}  (hX : IX σ) (h3 : 0 ≤ a3.toInt) (hm : ((σ 32 0).toInt - a3.toInt).toNat < N4 + 1) (hK : KK g s) (hP : va_P g.1 vwCl ((xW g ρ) σ) s.heap) (hDD : va_D (fun _ => True) ((xW g ρ) σ)) (hB : XH g ρ dt s.heap) {ls : Array Slot} (hl : lv_has ls 4 [(0, .ref (g.2.2 100)), (1, .int (a1)), (2, .int (a2)), (3, .int (a3))]) (hT : f_X11_offAlong_4 K4 σ a1 a2 a3 = tgt) : W p l e { frames := 1, cells := 0, slots := 0, locals := 22 } s m args below meth c s.heap [] 0 0 (QPI below args s tgt) (F0 m 4 ls []) := by
  obtain ⟨hx, hb, hr, hml, hown, hts, hlocks⟩ := id C0
  unfold f_X11_offAlong_4 at hT
  obtain ⟨⟨j1, j1'⟩, ⟨j3, j3'⟩, ⟨j5, j5'⟩, ⟨j8, j8'⟩, ⟨j9, j9'⟩, ⟨j12, j12'⟩, ⟨j14, j14'⟩, ⟨j17, j17'⟩, j81, jW⟩ := id hX
  refine lv_iload_n hx hb dX11_offAlong_4 rfl (lv_at hl 3 rfl) ?_
  refine lv_aload_n hx hb dX11_offAlong_5 rfl (lv_at hl 0 rfl) ?_
  refine x_get (σ := σ) (v := .ref (g.2.2 101)) (fs := xF0 g ρ σ) 11 0 C0 uw_11 dc_11 hK hP rfl rfl 0 (by decide) rfl w_229 dX11_offAlong_6 ?_
  refine x_getN (σ := σ) (v := .int ((σ 32 0))) (fs := xF1 g ρ σ) 5 1 C0 uw_5 dc_5 hK hP rfl rfl 12 (by decide) rfl w_133 dX11_offAlong_9 ?_
  refine lv_icmp_ge (tgt := 63) hx hb dX11_offAlong_12 (by decide) (fun c_12 => ?_) (fun c_12 => ?_)
  · have hT := hT_pos c_12 hT
    refine lv_iload_n hx hb dX11_offAlong_63 rfl (lv_at hl 2 rfl) ?_
    exact ret_PI C0 hT dX11_offAlong_64
  · have hT := hT_neg c_12 hT
    refine lv_aload_n hx hb dX11_offAlong_15 rfl (lv_at hl 0 rfl) ?_
    refine lv_iload_n hx hb dX11_offAlong_16 rfl (lv_at hl 3 rfl) ?_
    refine lv_iload_n hx hb dX11_offAlong_17 rfl (lv_at hl 1 rfl) ?_
    have q18_h1b : a3.toInt < 8 := by
      have := mt ti_le.mpr c_12
      omega
    refine x_ci (rest := []) (As := [.int (a3), .int (a1)]) (σ := σ) (ρ := ρ) (dt := dt) (T := TX11) (N := 10) (fs := xF0 g ρ σ) 11 0 rfl rfl C0 hK hP hDD hB cf_X11_isAlong w_770 (k_X11_isAlong l g ρ dt σ a3 a1 h3 q18_h1b) ⟨by decide, by decide⟩ hl.1 rfl rfl (Nat.le_of_ble_eq_true rfl) dX11_offAlong_18 ⟨Nat.zero_le _, Nat.zero_le _⟩ ?_
    refine lv_if_eq (tgt := 57) hx hb dX11_offAlong_21 (by decide) (fun c_21 => ?_) (fun c_21 => ?_)
    · have hT := hT_pos c_21 hT
      have j21_h3b : a3.toInt < (σ 32 0).toInt := by
        have : ((0 : Int32)).toInt = 0 := by decide
        have := mt ti_le.mpr c_12
        have := ti_eq.mp c_21
        omega
      have j21_hm4 : ((σ 32 0).toInt - a3.toInt).toNat < N4 + 1 := by
        have : ((0 : Int32)).toInt = 0 := by decide
        have := mt ti_le.mpr c_12
        have := ti_eq.mp c_21
        omega
      exact b_X11_offAlong_57 (g := g) (ρ := ρ) (dt := dt) (σ := σ) (a1 := a1) (a2 := a2) (a3 := a3) C0 hK4 hX h3 j21_h3b j21_hm4 hK hP hDD hB hl hT
    · have hT := hT_neg c_21 hT
      refine lv_iload_n hx hb dX11_offAlong_24 rfl (lv_at hl 2 rfl) ?_
      refine lv_aload_n hx hb dX11_offAlong_25 rfl (lv_at hl 0 rfl) ?_
      refine lv_iload_n hx hb dX11_offAlong_26 rfl (lv_at hl 3 rfl) ?_
      have q27_h1b : a3.toInt < 8 := by
        have : ((0 : Int32)).toInt = 0 := by decide
        have := mt ti_le.mpr c_12
        have := mt ti_eq.mpr c_21
        omega
      refine x_ci (rest := [.int (a2)]) (As := [.int (a3)]) (σ := σ) (ρ := ρ) (dt := dt) (T := TX11) (N := 10) (fs := xF0 g ρ σ) 11 0 rfl rfl C0 hK hP hDD hB cf_X11_isForward w_774 (k_X11_isForward l g ρ dt σ a3 h3 q27_h1b) ⟨by decide, by decide⟩ hl.1 rfl rfl (Nat.le_of_ble_eq_true rfl) dX11_offAlong_27 ⟨Nat.zero_le _, Nat.zero_le _⟩ ?_
      have J30 : ∀ v : Int32, v = (if (f_X11_isForward σ a3) = 0 then (-(σ 31 (ix a3))) else (σ 31 (ix a3))) → W p l e { frames := 1, cells := 0, slots := 0, locals := 22 } s m args below meth c s.heap [] 0 0 (QPI below args s tgt) (F0 m 55 ls [.int (v), .int (a2)]) := by
        intro v ev
        subst ev
        refine lv_iadd hx hb dX11_offAlong_55 ?_
        refine lv_istore_n (lv' := [(2, .int ((a2 + (if (f_X11_isForward σ a3) = 0 then (-(σ 31 (ix a3))) else (σ 31 (ix a3)))))), (0, .ref (g.2.2 100)), (1, .int (a1)), (3, .int (a3))]) hx hb dX11_offAlong_56 rfl hl (by decide) rfl (fun ls hl => ?_)
        have j56_h3b : a3.toInt < (σ 32 0).toInt := by
          have : ((0 : Int32)).toInt = 0 := by decide
          have := mt ti_le.mpr c_12
          have := mt ti_eq.mpr c_21
          try have := ti_add (a := a2) (b := (if (f_X11_isForward σ a3) = 0 then (-(σ 31 (ix a3))) else (σ 31 (ix a3)))) (by omega) (by omega)
          omega
        have j56_hm4 : ((σ 32 0).toInt - a3.toInt).toNat < N4 + 1 := by
          have : ((0 : Int32)).toInt = 0 := by decide
          have := mt ti_le.mpr c_12
          have := mt ti_eq.mpr c_21
          try have := ti_add (a := a2) (b := (if (f_X11_isForward σ a3) = 0 then (-(σ 31 (ix a3))) else (σ 31 (ix a3)))) (by omega) (by omega)
          omega
        exact b_X11_offAlong_57 (g := g) (ρ := ρ) (dt := dt) (σ := σ) (a1 := a1) (a2 := (a2 + (if (f_X11_isForward σ a3) = 0 then (-(σ 31 (ix a3))) else (σ 31 (ix a3))))) (a3 := a3) C0 hK4 hX h3 j56_h3b j56_hm4 hK hP hDD hB (lv_sub hl [1, 2, 0, 3] rfl) hT
      refine lv_if_eq (tgt := 45) hx hb dX11_offAlong_30 (by decide) (fun c_30 => ?_) (fun c_30 => ?_)
      · refine lv_aload_n hx hb dX11_offAlong_45 rfl (lv_at hl 0 rfl) ?_
        refine x_get (σ := σ) (v := .ref (g.2.2 101)) (fs := xF0 g ρ σ) 11 0 C0 uw_11 dc_11 hK hP rfl rfl 0 (by decide) rfl w_229 dX11_offAlong_46 ?_
        refine x_getN (σ := σ) (v := .ref (g.2.2 31)) (fs := xF1 g ρ σ) 5 1 C0 uw_5 dc_5 hK hP rfl rfl 11 (by decide) rfl w_131 dX11_offAlong_49 ?_
        refine lv_iload_n hx hb dX11_offAlong_52 rfl (lv_at hl 3 rfl) ?_
        have o_53 : vp_in a3 8 := by
          have : ((0 : Int32)).toInt = 0 := by decide
          have := mt ti_le.mpr c_12
          have := mt ti_eq.mpr c_21
          have := ti_eq.mp c_30
          exact vin (by omega) (by omega)
        refine x_ald (σ := σ) C0 hK hP 14 31 8 rfl o_53 (ix a3) rfl dX11_offAlong_53 ?_
        refine lv_ineg hx hb dX11_offAlong_54 ?_
        exact J30 _ (iv_pos c_30 rfl)
      · refine lv_aload_n hx hb dX11_offAlong_33 rfl (lv_at hl 0 rfl) ?_
        refine x_get (σ := σ) (v := .ref (g.2.2 101)) (fs := xF0 g ρ σ) 11 0 C0 uw_11 dc_11 hK hP rfl rfl 0 (by decide) rfl w_229 dX11_offAlong_34 ?_
        refine x_getN (σ := σ) (v := .ref (g.2.2 31)) (fs := xF1 g ρ σ) 5 1 C0 uw_5 dc_5 hK hP rfl rfl 11 (by decide) rfl w_131 dX11_offAlong_37 ?_
        refine lv_iload_n hx hb dX11_offAlong_40 rfl (lv_at hl 3 rfl) ?_
        have o_41 : vp_in a3 8 := by
          have : ((0 : Int32)).toInt = 0 := by decide
          have := mt ti_le.mpr c_12
          have := mt ti_eq.mpr c_21
          have := mt ti_eq.mpr c_30
          exact vin (by omega) (by omega)
        refine x_ald (σ := σ) C0 hK hP 14 31 8 rfl o_41 (ix a3) rfl dX11_offAlong_41 ?_
        refine lv_goto (tgt := 55) hx hb dX11_offAlong_42 (by decide) ?_
        exact J30 _ (iv_neg c_30 rfl)
def g_X11_offAlong_4  : Nat → St → Int32 → Int32 → Int32 → Int32
  | 0 => fun σ a1 a2 a3 => 0
  | n + 1 => fun σ a1 a2 a3 => f_X11_offAlong_4  (g_X11_offAlong_4  n) σ a1 a2 a3
theorem l_X11_offAlong_4 {g : GG} {ρ : RR} {dt : Nat → Nat → Int32} {p : Program} {l : Launch} {e : Env} {s : State} {m : MethodId} {args : Array Value} {below : List Frame} {meth : Method} {c : Code}  {tgt : Int32}  (C0 : BC p s m args meth c cX11_offAlong RX11 4 (some .int))  : ∀ (n : Nat) (σ : St) (a1 : Int32) (a2 : Int32) (a3 : Int32), (IX σ) → (0 ≤ a3.toInt) → ((σ 32 0).toInt - a3.toInt).toNat < n → KK g s → va_P g.1 vwCl ((xW g ρ) σ) s.heap → va_D (fun _ => True) ((xW g ρ) σ) → XH g ρ dt s.heap →  ∀ {ls : Array Slot}, lv_has ls 4 [(0, .ref (g.2.2 100)), (1, .int (a1)), (2, .int (a2)), (3, .int (a3))] → g_X11_offAlong_4  n σ a1 a2 a3 = tgt → W p l e { frames := 1, cells := 0, slots := 0, locals := 22 } s m args below meth c s.heap [] 0 0 (QPI below args s tgt) (F0 m 4 ls []) := by
  intro n
  induction n with
  | zero => intro σ a1 a2 a3 hX h3 hm; exact absurd hm (Nat.not_lt_zero _)
  | succ n ih =>
    intro σ a1 a2 a3 hX h3 hm  hK hP hDD hB ls hl hT
    exact b_X11_offAlong_4 (g := g) (ρ := ρ) (dt := dt) (K4 := g_X11_offAlong_4  n) (N4 := n) C0  (fun σ a1 a2 a3 hX h3 hm2 => ih σ a1 a2 a3 hX h3 hm2) hX h3 hm hK hP hDD hB hl hT
def f_X11_offAlong (σ : St) (a1 : Int32) : Int32 := (g_X11_offAlong_4  (9) σ a1 (0 : Int32) (0 : Int32))
set_option maxHeartbeats 600000 in
set_option maxRecDepth 100000 in
theorem k_X11_offAlong (l : Launch) (g : GG) (ρ : RR) (dt : Nat → Nat → Int32) (σ : St) (a1 : Int32) (hX : IX σ) : PI l yX11_offAlong (wsF yX11_offAlong cX11_offAlong 4 (some .int)) { frames := 1, cells := 0, slots := 0, locals := 22 } [.ref (g.2.2 100), .int (a1)] (GB g (xW g ρ) (XB g ρ dt) σ) (f_X11_offAlong σ a1) := by
  refine start_PI (by decide) (Nat.le_of_ble_eq_true rfl) ?_
  intro p e s m args below meth c C0 hG ls hl
  obtain ⟨hK, hP, hDD, hB⟩ := hG
  obtain ⟨hx, hb, hr, hml, hown, hts, hlocks⟩ := id C0
  have hl : lv_has ls 4 [(0, .ref (g.2.2 100)), (1, .int (a1))] := hl
  generalize hT : (f_X11_offAlong σ a1) = tgt
  unfold f_X11_offAlong at hT
  obtain ⟨⟨j1, j1'⟩, ⟨j3, j3'⟩, ⟨j5, j5'⟩, ⟨j8, j8'⟩, ⟨j9, j9'⟩, ⟨j12, j12'⟩, ⟨j14, j14'⟩, ⟨j17, j17'⟩, j81, jW⟩ := id hX
  refine lv_iconst (v := (0 : Int32)) hx hb dX11_offAlong_0 (by decide) ?_
  refine lv_istore_n (lv' := [(2, .int ((0 : Int32))), (0, .ref (g.2.2 100)), (1, .int (a1))]) hx hb dX11_offAlong_1 rfl hl (by decide) rfl (fun ls hl => ?_)
  refine lv_iconst (v := (0 : Int32)) hx hb dX11_offAlong_2 (by decide) ?_
  refine lv_istore_n (lv' := [(3, .int ((0 : Int32))), (2, .int ((0 : Int32))), (0, .ref (g.2.2 100)), (1, .int (a1))]) hx hb dX11_offAlong_3 rfl hl (by decide) rfl (fun ls hl => ?_)
  have j3_h3 : 0 ≤ (0 : Int32).toInt := by
    have : ((0 : Int32)).toInt = 0 := by decide
    omega
  have j3_m : ((σ 32 0).toInt - (0 : Int32).toInt).toNat < 9 := by
    have : ((0 : Int32)).toInt = 0 := by decide
    omega
  exact l_X11_offAlong_4 (g := g) (ρ := ρ) (dt := dt) C0   (9) σ a1 (0 : Int32) (0 : Int32) hX j3_h3 j3_m hK hP hDD hB (lv_sub hl [2, 3, 1, 0] rfl) hT
set_option maxRecDepth 20000 in
theorem w_766 : (Cond.methodLink RX11 218 yX11_offAlong) ∈ TB := inTB (List.mem_of_getElem? (i := 766) (by decide +kernel)) (by decide +kernel)
set_option maxRecDepth 20000 in
theorem w_769 : (Cond.code yX11_offAlong cX11_offAlong 4 (some .int)) ∈ TB := inTB (List.mem_of_getElem? (i := 769) (by decide +kernel)) (by decide +kernel)
set_option maxRecDepth 20000 in
theorem w_768 : (Cond.instanceMethod yX11_offAlong) ∈ TB := inTB (List.mem_of_getElem? (i := 768) (by decide +kernel)) (by decide +kernel)
set_option maxRecDepth 20000 in
theorem w_27 : (Cond.selects RX11 yX11_offAlong yX11_offAlong) ∈ TB := inTB (List.mem_of_getElem? (i := 27) (by decide +kernel)) (by decide +kernel)
theorem cf_X11_offAlong : CF yX11_offAlong cX11_offAlong 4 (some .int) 1 := ⟨w_768, w_27, w_71, w_769, by decide +kernel, by decide +kernel, by decide +kernel⟩
/-! ThreeMeasures.off -/
theorem dX11_off_0 : decode cX11_off 0 = .ok (.iload_n 1, 1) := by decide +kernel
theorem dX11_off_1 : decode cX11_off 1 = .ok (.ifCond .eq 8, 3) := by decide +kernel
theorem dX11_off_4 : decode cX11_off 4 = .ok (.iload_n 1, 1) := by decide +kernel
theorem dX11_off_5 : decode cX11_off 5 = .ok (.iconst 1, 1) := by decide +kernel
theorem dX11_off_6 : decode cX11_off 6 = .ok (.if_icmp .ne 11, 3) := by decide +kernel
theorem dX11_off_9 : decode cX11_off 9 = .ok (.aload_n 0, 1) := by decide +kernel
theorem dX11_off_10 : decode cX11_off 10 = .ok (.iload_n 1, 1) := by decide +kernel
theorem dX11_off_11 : decode cX11_off 11 = .ok (.invokevirtual 218, 3) := by decide +kernel
theorem dX11_off_14 : decode cX11_off 14 = .ok (.goto 6, 3) := by decide +kernel
theorem dX11_off_17 : decode cX11_off 17 = .ok (.sipush (-1001), 3) := by decide +kernel
theorem dX11_off_20 : decode cX11_off 20 = .ok (.ireturn, 1) := by decide +kernel
def f_X11_off (σ : St) (a1 : Int32) : Int32 := (if a1 = 0 then (f_X11_offAlong σ a1) else (if a1 = (1 : Int32) then (f_X11_offAlong σ a1) else (-1001 : Int32)))
set_option maxHeartbeats 600000 in
set_option maxRecDepth 100000 in
theorem k_X11_off (l : Launch) (g : GG) (ρ : RR) (dt : Nat → Nat → Int32) (σ : St) (a1 : Int32) (hX : IX σ) : PI l yX11_off (wsF yX11_off cX11_off 2 (some .int)) { frames := 2, cells := 0, slots := 0, locals := 45 } [.ref (g.2.2 100), .int (a1)] (GB g (xW g ρ) (XB g ρ dt) σ) (f_X11_off σ a1) := by
  refine start_PI (by decide) (Nat.le_of_ble_eq_true rfl) ?_
  intro p e s m args below meth c C0 hG ls hl
  obtain ⟨hK, hP, hDD, hB⟩ := hG
  obtain ⟨hx, hb, hr, hml, hown, hts, hlocks⟩ := id C0
  have hl : lv_has ls 2 [(0, .ref (g.2.2 100)), (1, .int (a1))] := hl
  generalize hT : (f_X11_off σ a1) = tgt
  unfold f_X11_off at hT
  obtain ⟨⟨j1, j1'⟩, ⟨j3, j3'⟩, ⟨j5, j5'⟩, ⟨j8, j8'⟩, ⟨j9, j9'⟩, ⟨j12, j12'⟩, ⟨j14, j14'⟩, ⟨j17, j17'⟩, j81, jW⟩ := id hX
  refine lv_iload_n hx hb dX11_off_0 rfl (lv_at hl 1 rfl) ?_
  have J1 : ∀ v : Int32, v = (if a1 = 0 then (f_X11_offAlong σ a1) else (if a1 = (1 : Int32) then (f_X11_offAlong σ a1) else (-1001 : Int32))) → W p l e { frames := 2, cells := 0, slots := 0, locals := 45 } s m args below meth c s.heap [] 0 0 (QPI below args s tgt) (F0 m 20 ls [.int (v)]) := by
    intro v ev
    subst ev
    exact ret_PI C0 hT dX11_off_20
  refine lv_if_eq (tgt := 9) hx hb dX11_off_1 (by decide) (fun c_1 => ?_) (fun c_1 => ?_)
  · refine lv_aload_n hx hb dX11_off_9 rfl (lv_at hl 0 rfl) ?_
    refine lv_iload_n hx hb dX11_off_10 rfl (lv_at hl 1 rfl) ?_
    refine x_ci (rest := []) (As := [.int (a1)]) (σ := σ) (ρ := ρ) (dt := dt) (T := TX11) (N := 10) (fs := xF0 g ρ σ) 11 0 rfl rfl C0 hK hP hDD hB cf_X11_offAlong w_766 (k_X11_offAlong l g ρ dt σ a1 hX) ⟨by decide, by decide⟩ hl.1 rfl rfl (Nat.le_of_ble_eq_true rfl) dX11_off_11 ⟨Nat.zero_le _, Nat.zero_le _⟩ ?_
    refine lv_goto (tgt := 20) hx hb dX11_off_14 (by decide) ?_
    exact J1 _ (iv_pos c_1 rfl)
  · refine lv_iload_n hx hb dX11_off_4 rfl (lv_at hl 1 rfl) ?_
    refine lv_iconst (v := (1 : Int32)) hx hb dX11_off_5 (by decide) ?_
    refine lv_icmp_ne (tgt := 17) hx hb dX11_off_6 (by decide) (fun c_6 => ?_) (fun c_6 => ?_)
    · refine lv_sipush (v := (-1001 : Int32)) hx hb dX11_off_17 (by decide) ?_
      exact J1 _ (iv_neg c_1 (iv_neg c_6 rfl))
    · refine lv_aload_n hx hb dX11_off_9 rfl (lv_at hl 0 rfl) ?_
      refine lv_iload_n hx hb dX11_off_10 rfl (lv_at hl 1 rfl) ?_
      refine x_ci (rest := []) (As := [.int (a1)]) (σ := σ) (ρ := ρ) (dt := dt) (T := TX11) (N := 10) (fs := xF0 g ρ σ) 11 0 rfl rfl C0 hK hP hDD hB cf_X11_offAlong w_766 (k_X11_offAlong l g ρ dt σ a1 hX) ⟨by decide, by decide⟩ hl.1 rfl rfl (Nat.le_of_ble_eq_true rfl) dX11_off_11 ⟨Nat.zero_le _, Nat.zero_le _⟩ ?_
      refine lv_goto (tgt := 20) hx hb dX11_off_14 (by decide) ?_
      exact J1 _ (iv_neg c_1 (iv_pos c_6 rfl))
/-! ThreeMeasures.shareOf -/
theorem dX11_shareOf_0 : decode cX11_shareOf 0 = .ok (.iconst 0, 1) := by decide +kernel
theorem dX11_shareOf_1 : decode cX11_shareOf 1 = .ok (.istore_n 3, 1) := by decide +kernel
theorem dX11_shareOf_2 : decode cX11_shareOf 2 = .ok (.iconst (-1), 1) := by decide +kernel
theorem dX11_shareOf_3 : decode cX11_shareOf 3 = .ok (.istore 4, 2) := by decide +kernel
theorem dX11_shareOf_5 : decode cX11_shareOf 5 = .ok (.iconst 0, 1) := by decide +kernel
theorem dX11_shareOf_6 : decode cX11_shareOf 6 = .ok (.istore 5, 2) := by decide +kernel
theorem dX11_shareOf_8 : decode cX11_shareOf 8 = .ok (.iload 5, 2) := by decide +kernel
theorem dX11_shareOf_10 : decode cX11_shareOf 10 = .ok (.aload_n 0, 1) := by decide +kernel
theorem dX11_shareOf_11 : decode cX11_shareOf 11 = .ok (.getfield 12, 3) := by decide +kernel
theorem dX11_shareOf_14 : decode cX11_shareOf 14 = .ok (.getfield 209, 3) := by decide +kernel
theorem dX11_shareOf_17 : decode cX11_shareOf 17 = .ok (.if_icmp .ge 36, 3) := by decide +kernel
theorem dX11_shareOf_20 : decode cX11_shareOf 20 = .ok (.aload_n 0, 1) := by decide +kernel
theorem dX11_shareOf_21 : decode cX11_shareOf 21 = .ok (.iload 5, 2) := by decide +kernel
theorem dX11_shareOf_23 : decode cX11_shareOf 23 = .ok (.iload_n 2, 1) := by decide +kernel
theorem dX11_shareOf_24 : decode cX11_shareOf 24 = .ok (.invokevirtual 227, 3) := by decide +kernel
theorem dX11_shareOf_27 : decode cX11_shareOf 27 = .ok (.ifCond .eq 20, 3) := by decide +kernel
theorem dX11_shareOf_30 : decode cX11_shareOf 30 = .ok (.iload_n 3, 1) := by decide +kernel
theorem dX11_shareOf_31 : decode cX11_shareOf 31 = .ok (.aload_n 0, 1) := by decide +kernel
theorem dX11_shareOf_32 : decode cX11_shareOf 32 = .ok (.getfield 12, 3) := by decide +kernel
theorem dX11_shareOf_35 : decode cX11_shareOf 35 = .ok (.getfield 215, 3) := by decide +kernel
theorem dX11_shareOf_38 : decode cX11_shareOf 38 = .ok (.iload 5, 2) := by decide +kernel
theorem dX11_shareOf_40 : decode cX11_shareOf 40 = .ok (.iaload, 1) := by decide +kernel
theorem dX11_shareOf_41 : decode cX11_shareOf 41 = .ok (.iadd, 1) := by decide +kernel
theorem dX11_shareOf_42 : decode cX11_shareOf 42 = .ok (.istore_n 3, 1) := by decide +kernel
theorem dX11_shareOf_43 : decode cX11_shareOf 43 = .ok (.iload 5, 2) := by decide +kernel
theorem dX11_shareOf_45 : decode cX11_shareOf 45 = .ok (.istore 4, 2) := by decide +kernel
theorem dX11_shareOf_47 : decode cX11_shareOf 47 = .ok (.iinc 5 1, 3) := by decide +kernel
theorem dX11_shareOf_50 : decode cX11_shareOf 50 = .ok (.goto (-42), 3) := by decide +kernel
theorem dX11_shareOf_53 : decode cX11_shareOf 53 = .ok (.iload_n 3, 1) := by decide +kernel
theorem dX11_shareOf_54 : decode cX11_shareOf 54 = .ok (.ifCond .ne 5, 3) := by decide +kernel
theorem dX11_shareOf_57 : decode cX11_shareOf 57 = .ok (.iconst 0, 1) := by decide +kernel
theorem dX11_shareOf_58 : decode cX11_shareOf 58 = .ok (.ireturn, 1) := by decide +kernel
theorem dX11_shareOf_59 : decode cX11_shareOf 59 = .ok (.aload_n 0, 1) := by decide +kernel
theorem dX11_shareOf_60 : decode cX11_shareOf 60 = .ok (.iload_n 2, 1) := by decide +kernel
theorem dX11_shareOf_61 : decode cX11_shareOf 61 = .ok (.invokevirtual 218, 3) := by decide +kernel
theorem dX11_shareOf_64 : decode cX11_shareOf 64 = .ok (.istore 5, 2) := by decide +kernel
theorem dX11_shareOf_66 : decode cX11_shareOf 66 = .ok (.iload_n 1, 1) := by decide +kernel
theorem dX11_shareOf_67 : decode cX11_shareOf 67 = .ok (.iload 4, 2) := by decide +kernel
theorem dX11_shareOf_69 : decode cX11_shareOf 69 = .ok (.if_icmp .eq 18, 3) := by decide +kernel
theorem dX11_shareOf_72 : decode cX11_shareOf 72 = .ok (.iload 5, 2) := by decide +kernel
theorem dX11_shareOf_74 : decode cX11_shareOf 74 = .ok (.aload_n 0, 1) := by decide +kernel
theorem dX11_shareOf_75 : decode cX11_shareOf 75 = .ok (.getfield 12, 3) := by decide +kernel
theorem dX11_shareOf_78 : decode cX11_shareOf 78 = .ok (.getfield 215, 3) := by decide +kernel
theorem dX11_shareOf_81 : decode cX11_shareOf 81 = .ok (.iload_n 1, 1) := by decide +kernel
theorem dX11_shareOf_82 : decode cX11_shareOf 82 = .ok (.iaload, 1) := by decide +kernel
theorem dX11_shareOf_83 : decode cX11_shareOf 83 = .ok (.imul, 1) := by decide +kernel
theorem dX11_shareOf_84 : decode cX11_shareOf 84 = .ok (.iload_n 3, 1) := by decide +kernel
theorem dX11_shareOf_85 : decode cX11_shareOf 85 = .ok (.idiv, 1) := by decide +kernel
theorem dX11_shareOf_86 : decode cX11_shareOf 86 = .ok (.ireturn, 1) := by decide +kernel
theorem dX11_shareOf_87 : decode cX11_shareOf 87 = .ok (.iload 5, 2) := by decide +kernel
theorem dX11_shareOf_89 : decode cX11_shareOf 89 = .ok (.istore 6, 2) := by decide +kernel
theorem dX11_shareOf_91 : decode cX11_shareOf 91 = .ok (.iconst 0, 1) := by decide +kernel
theorem dX11_shareOf_92 : decode cX11_shareOf 92 = .ok (.istore 7, 2) := by decide +kernel
theorem dX11_shareOf_94 : decode cX11_shareOf 94 = .ok (.iload 7, 2) := by decide +kernel
theorem dX11_shareOf_96 : decode cX11_shareOf 96 = .ok (.iload 4, 2) := by decide +kernel
theorem dX11_shareOf_98 : decode cX11_shareOf 98 = .ok (.if_icmp .ge 39, 3) := by decide +kernel
theorem dX11_shareOf_101 : decode cX11_shareOf 101 = .ok (.aload_n 0, 1) := by decide +kernel
theorem dX11_shareOf_102 : decode cX11_shareOf 102 = .ok (.iload 7, 2) := by decide +kernel
theorem dX11_shareOf_104 : decode cX11_shareOf 104 = .ok (.iload_n 2, 1) := by decide +kernel
theorem dX11_shareOf_105 : decode cX11_shareOf 105 = .ok (.invokevirtual 227, 3) := by decide +kernel
theorem dX11_shareOf_108 : decode cX11_shareOf 108 = .ok (.ifCond .eq 23, 3) := by decide +kernel
theorem dX11_shareOf_111 : decode cX11_shareOf 111 = .ok (.iload 6, 2) := by decide +kernel
theorem dX11_shareOf_113 : decode cX11_shareOf 113 = .ok (.iload 5, 2) := by decide +kernel
theorem dX11_shareOf_115 : decode cX11_shareOf 115 = .ok (.aload_n 0, 1) := by decide +kernel
theorem dX11_shareOf_116 : decode cX11_shareOf 116 = .ok (.getfield 12, 3) := by decide +kernel
theorem dX11_shareOf_119 : decode cX11_shareOf 119 = .ok (.getfield 215, 3) := by decide +kernel
theorem dX11_shareOf_122 : decode cX11_shareOf 122 = .ok (.iload 7, 2) := by decide +kernel
theorem dX11_shareOf_124 : decode cX11_shareOf 124 = .ok (.iaload, 1) := by decide +kernel
theorem dX11_shareOf_125 : decode cX11_shareOf 125 = .ok (.imul, 1) := by decide +kernel
theorem dX11_shareOf_126 : decode cX11_shareOf 126 = .ok (.iload_n 3, 1) := by decide +kernel
theorem dX11_shareOf_127 : decode cX11_shareOf 127 = .ok (.idiv, 1) := by decide +kernel
theorem dX11_shareOf_128 : decode cX11_shareOf 128 = .ok (.isub, 1) := by decide +kernel
theorem dX11_shareOf_129 : decode cX11_shareOf 129 = .ok (.istore 6, 2) := by decide +kernel
theorem dX11_shareOf_131 : decode cX11_shareOf 131 = .ok (.iinc 7 1, 3) := by decide +kernel
theorem dX11_shareOf_134 : decode cX11_shareOf 134 = .ok (.goto (-40), 3) := by decide +kernel
theorem dX11_shareOf_137 : decode cX11_shareOf 137 = .ok (.iload 6, 2) := by decide +kernel
theorem dX11_shareOf_139 : decode cX11_shareOf 139 = .ok (.ireturn, 1) := by decide +kernel
def f_X11_shareOf_131 (K94 : St → Int32 → Int32 → Int32 → Int32 → Int32 → Int32 → Int32) (σ : St) (a2 : Int32) (a3 : Int32) (a4 : Int32) (a5 : Int32) (a6 : Int32) (a7 : Int32) : Int32 := (K94 σ a2 a3 a4 a5 a6 (a7 + (1 : Int32)))
set_option maxHeartbeats 600000 in
set_option maxRecDepth 100000 in
theorem b_X11_shareOf_131 {g : GG} {ρ : RR} {dt : Nat → Nat → Int32} {p : Program} {l : Launch} {e : Env} {s : State} {m : MethodId} {args : Array Value} {below : List Frame} {meth : Method} {c : Code}  {tgt : Int32} {K94 : St → Int32 → Int32 → Int32 → Int32 → Int32 → Int32 → Int32} {N94 : Nat} (C0 : BC p s m args meth c cX11_shareOf RX11 8 (some .int)) (hK94 : ∀ (σ : St) (a2 : Int32) (a3 : Int32) (a4 : Int32) (a5 : Int32) (a6 : Int32) (a7 : Int32), (IX σ) → (¬ a3 = 0) → (a4.toInt < (σ 32 0).toInt) → (0 ≤ a7.toInt) → (a4.toInt - a7.toInt).toNat < N94 → KK g s → va_P g.1 vwCl ((xW g ρ) σ) s.heap → va_D (fun _ => True) ((xW g ρ) σ) → XH g ρ dt s.heap →  ∀ {ls : Array Slot}, lv_has ls 8 [(0, .ref (g.2.2 100)), (2, .int (a2)), (3, .int (a3)), (4, .int (a4)), (5, .int (a5)), (6, .int (a6)), (7, .int (a7))] → K94 σ a2 a3 a4 a5 a6 a7 = tgt → W p l e { frames := 2, cells := 0, slots := 0, locals := 45 } s m args below meth c s.heap [] 0 0 (QPI below args s tgt) (F0 m 94 ls [])) {σ : St} {a2 : Int32} {a3 : Int32} {a4 : Int32} {a5 : Int32} {a6 : Int32} {a7 : Int32}  (hX : IX σ) (h3 : ¬ a3 = 0) (h4 : a4.toInt < (σ 32 0).toInt) (h7 : 0 ≤ a7.toInt) (h7b : a7.toInt < a4.toInt) (hm94 : (a4.toInt - a7.toInt).toNat < N94 + 1)  (hK : KK g s) (hP : va_P g.1 vwCl ((xW g ρ) σ) s.heap) (hDD : va_D (fun _ => True) ((xW g ρ) σ)) (hB : XH g ρ dt s.heap) {ls : Array Slot} (hl : lv_has ls 8 [(0, .ref (g.2.2 100)), (2, .int (a2)), (3, .int (a3)), (4, .int (a4)), (5, .int (a5)), (6, .int (a6)), (7, .int (a7))]) (hT : f_X11_shareOf_131 K94 σ a2 a3 a4 a5 a6 a7 = tgt) : W p l e { frames := 2, cells := 0, slots := 0, locals := 45 } s m args below meth c s.heap [] 0 0 (QPI below args s tgt) (F0 m 131 ls []) := by
  obtain ⟨hx, hb, hr, hml, hown, hts, hlocks⟩ := id C0
  unfold f_X11_shareOf_131 at hT
  obtain ⟨⟨j1, j1'⟩, ⟨j3, j3'⟩, ⟨j5, j5'⟩, ⟨j8, j8'⟩, ⟨j9, j9'⟩, ⟨j12, j12'⟩, ⟨j14, j14'⟩, ⟨j17, j17'⟩, j81, jW⟩ := id hX
  refine lv_iinc (v := (a7 + (1 : Int32))) (lv' := [(7, .int ((a7 + (1 : Int32)))), (0, .ref (g.2.2 100)), (2, .int (a2)), (3, .int (a3)), (4, .int (a4)), (5, .int (a5)), (6, .int (a6))]) hx hb dX11_shareOf_131 hl (k := 6) rfl rfl (by decide) rfl (fun ls hl => ?_)
  refine lv_goto (tgt := 94) hx hb dX11_shareOf_134 (by decide) ?_
  have j134_h7 : 0 ≤ (a7 + (1 : Int32)).toInt := by
    have : ((1 : Int32)).toInt = 1 := by decide
    try have := ti_add (a := a7) (b := (1 : Int32)) (by omega) (by omega)
    omega
  have j134_m : (a4.toInt - (a7 + (1 : Int32)).toInt).toNat < N94 := by
    have : ((1 : Int32)).toInt = 1 := by decide
    try have := ti_add (a := a7) (b := (1 : Int32)) (by omega) (by omega)
    omega
  exact hK94 σ a2 a3 a4 a5 a6 (a7 + (1 : Int32)) hX h3 h4 j134_h7 j134_m hK hP hDD hB (lv_sub hl [1, 2, 3, 4, 5, 6, 0] rfl) hT
def f_X11_shareOf_94 (K94 : St → Int32 → Int32 → Int32 → Int32 → Int32 → Int32 → Int32) (σ : St) (a2 : Int32) (a3 : Int32) (a4 : Int32) (a5 : Int32) (a6 : Int32) (a7 : Int32) : Int32 := (if a4 ≤ a7 then a6 else (if (f_X11_isAlong σ a7 a2) = 0 then (f_X11_shareOf_131 K94 σ a2 a3 a4 a5 a6 a7) else (f_X11_shareOf_131 K94 σ a2 a3 a4 a5 (a6 - ((a5 * (σ 31 (ix a7))) / a3)) a7)))
set_option maxHeartbeats 600000 in
set_option maxRecDepth 100000 in
theorem b_X11_shareOf_94 {g : GG} {ρ : RR} {dt : Nat → Nat → Int32} {p : Program} {l : Launch} {e : Env} {s : State} {m : MethodId} {args : Array Value} {below : List Frame} {meth : Method} {c : Code}  {tgt : Int32} {K94 : St → Int32 → Int32 → Int32 → Int32 → Int32 → Int32 → Int32} {N94 : Nat} (C0 : BC p s m args meth c cX11_shareOf RX11 8 (some .int)) (hK94 : ∀ (σ : St) (a2 : Int32) (a3 : Int32) (a4 : Int32) (a5 : Int32) (a6 : Int32) (a7 : Int32), (IX σ) → (¬ a3 = 0) → (a4.toInt < (σ 32 0).toInt) → (0 ≤ a7.toInt) → (a4.toInt - a7.toInt).toNat < N94 → KK g s → va_P g.1 vwCl ((xW g ρ) σ) s.heap → va_D (fun _ => True) ((xW g ρ) σ) → XH g ρ dt s.heap →  ∀ {ls : Array Slot}, lv_has ls 8 [(0, .ref (g.2.2 100)), (2, .int (a2)), (3, .int (a3)), (4, .int (a4)), (5, .int (a5)), (6, .int (a6)), (7, .int (a7))] → K94 σ a2 a3 a4 a5 a6 a7 = tgt → W p l e { frames := 2, cells := 0, slots := 0, locals := 45 } s m args below meth c s.heap [] 0 0 (QPI below args s tgt) (F0 m 94 ls [])) {σ : St} {a2 : Int32} {a3 : Int32} {a4 : Int32} {a5 : Int32} {a6 : Int32} {a7 : Int32}  (hX : IX σ) (h3 : ¬ a3 = 0) (h4 : a4.toInt < (σ 32 0).toInt) (h7 : 0 ≤ a7.toInt) (hm : (a4.toInt - a7.toInt).toNat < N94 + 1) (hK : KK g s) (hP : va_P g.1 vwCl ((xW g ρ) σ) s.heap) (hDD : va_D (fun _ => True) ((xW g ρ) σ)) (hB : XH g ρ dt s.heap) {ls : Array Slot} (hl : lv_has ls 8 [(0, .ref (g.2.2 100)), (2, .int (a2)), (3, .int (a3)), (4, .int (a4)), (5, .int (a5)), (6, .int (a6)), (7, .int (a7))]) (hT : f_X11_shareOf_94 K94 σ a2 a3 a4 a5 a6 a7 = tgt) : W p l e { frames := 2, cells := 0, slots := 0, locals := 45 } s m args below meth c s.heap [] 0 0 (QPI below args s tgt) (F0 m 94 ls []) := by
  obtain ⟨hx, hb, hr, hml, hown, hts, hlocks⟩ := id C0
  unfold f_X11_shareOf_94 at hT
  obtain ⟨⟨j1, j1'⟩, ⟨j3, j3'⟩, ⟨j5, j5'⟩, ⟨j8, j8'⟩, ⟨j9, j9'⟩, ⟨j12, j12'⟩, ⟨j14, j14'⟩, ⟨j17, j17'⟩, j81, jW⟩ := id hX
  refine lv_iload hx hb dX11_shareOf_94 (lv_at hl 6 rfl) ?_
  refine lv_iload hx hb dX11_shareOf_96 (lv_at hl 3 rfl) ?_
  refine lv_icmp_ge (tgt := 137) hx hb dX11_shareOf_98 (by decide) (fun c_98 => ?_) (fun c_98 => ?_)
  · have hT := hT_pos c_98 hT
    refine lv_iload hx hb dX11_shareOf_137 (lv_at hl 5 rfl) ?_
    exact ret_PI C0 hT dX11_shareOf_139
  · have hT := hT_neg c_98 hT
    refine lv_aload_n hx hb dX11_shareOf_101 rfl (lv_at hl 0 rfl) ?_
    refine lv_iload hx hb dX11_shareOf_102 (lv_at hl 6 rfl) ?_
    refine lv_iload_n hx hb dX11_shareOf_104 rfl (lv_at hl 1 rfl) ?_
    have q105_h1b : a7.toInt < 8 := by
      have := mt ti_le.mpr c_98
      omega
    refine x_ci (rest := []) (As := [.int (a7), .int (a2)]) (σ := σ) (ρ := ρ) (dt := dt) (T := TX11) (N := 10) (fs := xF0 g ρ σ) 11 0 rfl rfl C0 hK hP hDD hB cf_X11_isAlong w_770 (k_X11_isAlong l g ρ dt σ a7 a2 h7 q105_h1b) ⟨by decide, by decide⟩ hl.1 rfl rfl (Nat.le_of_ble_eq_true rfl) dX11_shareOf_105 ⟨Nat.zero_le _, Nat.zero_le _⟩ ?_
    refine lv_if_eq (tgt := 131) hx hb dX11_shareOf_108 (by decide) (fun c_108 => ?_) (fun c_108 => ?_)
    · have hT := hT_pos c_108 hT
      have j108_h7b : a7.toInt < a4.toInt := by
        have : ((0 : Int32)).toInt = 0 := by decide
        have := mt ti_le.mpr c_98
        have := ti_eq.mp c_108
        omega
      have j108_hm94 : (a4.toInt - a7.toInt).toNat < N94 + 1 := by
        have : ((0 : Int32)).toInt = 0 := by decide
        have := mt ti_le.mpr c_98
        have := ti_eq.mp c_108
        omega
      exact b_X11_shareOf_131 (g := g) (ρ := ρ) (dt := dt) (σ := σ) (a2 := a2) (a3 := a3) (a4 := a4) (a5 := a5) (a6 := a6) (a7 := a7) C0 hK94 hX h3 h4 h7 j108_h7b j108_hm94 hK hP hDD hB hl hT
    · have hT := hT_neg c_108 hT
      refine lv_iload hx hb dX11_shareOf_111 (lv_at hl 5 rfl) ?_
      refine lv_iload hx hb dX11_shareOf_113 (lv_at hl 4 rfl) ?_
      refine lv_aload_n hx hb dX11_shareOf_115 rfl (lv_at hl 0 rfl) ?_
      refine x_get (σ := σ) (v := .ref (g.2.2 101)) (fs := xF0 g ρ σ) 11 0 C0 uw_11 dc_11 hK hP rfl rfl 0 (by decide) rfl w_229 dX11_shareOf_116 ?_
      refine x_getN (σ := σ) (v := .ref (g.2.2 31)) (fs := xF1 g ρ σ) 5 1 C0 uw_5 dc_5 hK hP rfl rfl 11 (by decide) rfl w_131 dX11_shareOf_119 ?_
      refine lv_iload hx hb dX11_shareOf_122 (lv_at hl 6 rfl) ?_
      have o_124 : vp_in a7 8 := by
        have : ((0 : Int32)).toInt = 0 := by decide
        have := mt ti_le.mpr c_98
        have := mt ti_eq.mpr c_108
        exact vin (by omega) (by omega)
      refine x_ald (σ := σ) C0 hK hP 14 31 8 rfl o_124 (ix a7) rfl dX11_shareOf_124 ?_
      refine lv_imul hx hb dX11_shareOf_125 ?_
      refine lv_iload_n hx hb dX11_shareOf_126 rfl (lv_at hl 2 rfl) ?_
      have o_127 : ¬ a3 = 0 := h3
      refine lv_idiv hx hb dX11_shareOf_127 o_127 ?_
      refine lv_isub hx hb dX11_shareOf_128 ?_
      refine lv_istore (lv' := [(6, .int ((a6 - ((a5 * (σ 31 (ix a7))) / a3)))), (0, .ref (g.2.2 100)), (2, .int (a2)), (3, .int (a3)), (4, .int (a4)), (5, .int (a5)), (7, .int (a7))]) hx hb dX11_shareOf_129 hl (by decide) rfl (fun ls hl => ?_)
      have j129_h7b : a7.toInt < a4.toInt := by
        have : ((0 : Int32)).toInt = 0 := by decide
        have := mt ti_le.mpr c_98
        have := mt ti_eq.mpr c_108
        try have := ti_sub (a := a6) (b := ((a5 * (σ 31 (ix a7))) / a3)) (by omega) (by omega)
        omega
      have j129_hm94 : (a4.toInt - a7.toInt).toNat < N94 + 1 := by
        have : ((0 : Int32)).toInt = 0 := by decide
        have := mt ti_le.mpr c_98
        have := mt ti_eq.mpr c_108
        try have := ti_sub (a := a6) (b := ((a5 * (σ 31 (ix a7))) / a3)) (by omega) (by omega)
        omega
      exact b_X11_shareOf_131 (g := g) (ρ := ρ) (dt := dt) (σ := σ) (a2 := a2) (a3 := a3) (a4 := a4) (a5 := a5) (a6 := (a6 - ((a5 * (σ 31 (ix a7))) / a3))) (a7 := a7) C0 hK94 hX h3 h4 h7 j129_h7b j129_hm94 hK hP hDD hB (lv_sub hl [1, 2, 3, 4, 5, 0, 6] rfl) hT
def g_X11_shareOf_94  : Nat → St → Int32 → Int32 → Int32 → Int32 → Int32 → Int32 → Int32
  | 0 => fun σ a2 a3 a4 a5 a6 a7 => 0
  | n + 1 => fun σ a2 a3 a4 a5 a6 a7 => f_X11_shareOf_94  (g_X11_shareOf_94  n) σ a2 a3 a4 a5 a6 a7
theorem l_X11_shareOf_94 {g : GG} {ρ : RR} {dt : Nat → Nat → Int32} {p : Program} {l : Launch} {e : Env} {s : State} {m : MethodId} {args : Array Value} {below : List Frame} {meth : Method} {c : Code}  {tgt : Int32}  (C0 : BC p s m args meth c cX11_shareOf RX11 8 (some .int))  : ∀ (n : Nat) (σ : St) (a2 : Int32) (a3 : Int32) (a4 : Int32) (a5 : Int32) (a6 : Int32) (a7 : Int32), (IX σ) → (¬ a3 = 0) → (a4.toInt < (σ 32 0).toInt) → (0 ≤ a7.toInt) → (a4.toInt - a7.toInt).toNat < n → KK g s → va_P g.1 vwCl ((xW g ρ) σ) s.heap → va_D (fun _ => True) ((xW g ρ) σ) → XH g ρ dt s.heap →  ∀ {ls : Array Slot}, lv_has ls 8 [(0, .ref (g.2.2 100)), (2, .int (a2)), (3, .int (a3)), (4, .int (a4)), (5, .int (a5)), (6, .int (a6)), (7, .int (a7))] → g_X11_shareOf_94  n σ a2 a3 a4 a5 a6 a7 = tgt → W p l e { frames := 2, cells := 0, slots := 0, locals := 45 } s m args below meth c s.heap [] 0 0 (QPI below args s tgt) (F0 m 94 ls []) := by
  intro n
  induction n with
  | zero => intro σ a2 a3 a4 a5 a6 a7 hX h3 h4 h7 hm; exact absurd hm (Nat.not_lt_zero _)
  | succ n ih =>
    intro σ a2 a3 a4 a5 a6 a7 hX h3 h4 h7 hm  hK hP hDD hB ls hl hT
    exact b_X11_shareOf_94 (g := g) (ρ := ρ) (dt := dt) (K94 := g_X11_shareOf_94  n) (N94 := n) C0  (fun σ a2 a3 a4 a5 a6 a7 hX h3 h4 h7 hm2 => ih σ a2 a3 a4 a5 a6 a7 hX h3 h4 h7 hm2) hX h3 h4 h7 hm hK hP hDD hB hl hT
def f_X11_shareOf_47 (K8 : St → Int32 → Int32 → Int32 → Int32 → Int32 → Int32) (σ : St) (a1 : Int32) (a2 : Int32) (a3 : Int32) (a4 : Int32) (a5 : Int32) : Int32 := (K8 σ a1 a2 a3 a4 (a5 + (1 : Int32)))
set_option maxHeartbeats 600000 in
set_option maxRecDepth 100000 in
theorem b_X11_shareOf_47 {g : GG} {ρ : RR} {dt : Nat → Nat → Int32} {p : Program} {l : Launch} {e : Env} {s : State} {m : MethodId} {args : Array Value} {below : List Frame} {meth : Method} {c : Code}  {tgt : Int32} {K8 : St → Int32 → Int32 → Int32 → Int32 → Int32 → Int32} {N8 : Nat} (C0 : BC p s m args meth c cX11_shareOf RX11 8 (some .int)) (hK8 : ∀ (σ : St) (a1 : Int32) (a2 : Int32) (a3 : Int32) (a4 : Int32) (a5 : Int32), (IX σ) → (0 ≤ a1.toInt) → (a1.toInt < (σ 32 0).toInt) → (a4.toInt < (σ 32 0).toInt) → (0 ≤ a5.toInt) → ((σ 32 0).toInt - a5.toInt).toNat < N8 → KK g s → va_P g.1 vwCl ((xW g ρ) σ) s.heap → va_D (fun _ => True) ((xW g ρ) σ) → XH g ρ dt s.heap →  ∀ {ls : Array Slot}, lv_has ls 8 [(0, .ref (g.2.2 100)), (1, .int (a1)), (2, .int (a2)), (3, .int (a3)), (4, .int (a4)), (5, .int (a5))] → K8 σ a1 a2 a3 a4 a5 = tgt → W p l e { frames := 2, cells := 0, slots := 0, locals := 45 } s m args below meth c s.heap [] 0 0 (QPI below args s tgt) (F0 m 8 ls [])) {σ : St} {a1 : Int32} {a2 : Int32} {a3 : Int32} {a4 : Int32} {a5 : Int32}  (hX : IX σ) (h1 : 0 ≤ a1.toInt) (h1b : a1.toInt < (σ 32 0).toInt) (h4 : a4.toInt < (σ 32 0).toInt) (h5 : 0 ≤ a5.toInt) (h5b : a5.toInt < (σ 32 0).toInt) (hm8 : ((σ 32 0).toInt - a5.toInt).toNat < N8 + 1)  (hK : KK g s) (hP : va_P g.1 vwCl ((xW g ρ) σ) s.heap) (hDD : va_D (fun _ => True) ((xW g ρ) σ)) (hB : XH g ρ dt s.heap) {ls : Array Slot} (hl : lv_has ls 8 [(0, .ref (g.2.2 100)), (1, .int (a1)), (2, .int (a2)), (3, .int (a3)), (4, .int (a4)), (5, .int (a5))]) (hT : f_X11_shareOf_47 K8 σ a1 a2 a3 a4 a5 = tgt) : W p l e { frames := 2, cells := 0, slots := 0, locals := 45 } s m args below meth c s.heap [] 0 0 (QPI below args s tgt) (F0 m 47 ls []) := by
  obtain ⟨hx, hb, hr, hml, hown, hts, hlocks⟩ := id C0
  unfold f_X11_shareOf_47 at hT
  obtain ⟨⟨j1, j1'⟩, ⟨j3, j3'⟩, ⟨j5, j5'⟩, ⟨j8, j8'⟩, ⟨j9, j9'⟩, ⟨j12, j12'⟩, ⟨j14, j14'⟩, ⟨j17, j17'⟩, j81, jW⟩ := id hX
  refine lv_iinc (v := (a5 + (1 : Int32))) (lv' := [(5, .int ((a5 + (1 : Int32)))), (0, .ref (g.2.2 100)), (1, .int (a1)), (2, .int (a2)), (3, .int (a3)), (4, .int (a4))]) hx hb dX11_shareOf_47 hl (k := 5) rfl rfl (by decide) rfl (fun ls hl => ?_)
  refine lv_goto (tgt := 8) hx hb dX11_shareOf_50 (by decide) ?_
  have j50_h5 : 0 ≤ (a5 + (1 : Int32)).toInt := by
    have : ((1 : Int32)).toInt = 1 := by decide
    try have := ti_add (a := a5) (b := (1 : Int32)) (by omega) (by omega)
    omega
  have j50_m : ((σ 32 0).toInt - (a5 + (1 : Int32)).toInt).toNat < N8 := by
    have : ((1 : Int32)).toInt = 1 := by decide
    try have := ti_add (a := a5) (b := (1 : Int32)) (by omega) (by omega)
    omega
  exact hK8 σ a1 a2 a3 a4 (a5 + (1 : Int32)) hX h1 h1b h4 j50_h5 j50_m hK hP hDD hB (lv_sub hl [1, 2, 3, 4, 5, 0] rfl) hT
def f_X11_shareOf_8 (K8 : St → Int32 → Int32 → Int32 → Int32 → Int32 → Int32) (σ : St) (a1 : Int32) (a2 : Int32) (a3 : Int32) (a4 : Int32) (a5 : Int32) : Int32 := (if (σ 32 0) ≤ a5 then (if a3 = 0 then (0 : Int32) else (if a1 = a4 then (g_X11_shareOf_94  (9) σ a2 a3 a4 (f_X11_offAlong σ a2) (f_X11_offAlong σ a2) (0 : Int32)) else (((f_X11_offAlong σ a2) * (σ 31 (ix a1))) / a3))) else (if (f_X11_isAlong σ a5 a2) = 0 then (f_X11_shareOf_47 K8 σ a1 a2 a3 a4 a5) else (f_X11_shareOf_47 K8 σ a1 a2 (a3 + (σ 31 (ix a5))) a5 a5)))
set_option maxHeartbeats 600000 in
set_option maxRecDepth 100000 in
theorem b_X11_shareOf_8 {g : GG} {ρ : RR} {dt : Nat → Nat → Int32} {p : Program} {l : Launch} {e : Env} {s : State} {m : MethodId} {args : Array Value} {below : List Frame} {meth : Method} {c : Code}  {tgt : Int32} {K8 : St → Int32 → Int32 → Int32 → Int32 → Int32 → Int32} {N8 : Nat} (C0 : BC p s m args meth c cX11_shareOf RX11 8 (some .int)) (hK8 : ∀ (σ : St) (a1 : Int32) (a2 : Int32) (a3 : Int32) (a4 : Int32) (a5 : Int32), (IX σ) → (0 ≤ a1.toInt) → (a1.toInt < (σ 32 0).toInt) → (a4.toInt < (σ 32 0).toInt) → (0 ≤ a5.toInt) → ((σ 32 0).toInt - a5.toInt).toNat < N8 → KK g s → va_P g.1 vwCl ((xW g ρ) σ) s.heap → va_D (fun _ => True) ((xW g ρ) σ) → XH g ρ dt s.heap →  ∀ {ls : Array Slot}, lv_has ls 8 [(0, .ref (g.2.2 100)), (1, .int (a1)), (2, .int (a2)), (3, .int (a3)), (4, .int (a4)), (5, .int (a5))] → K8 σ a1 a2 a3 a4 a5 = tgt → W p l e { frames := 2, cells := 0, slots := 0, locals := 45 } s m args below meth c s.heap [] 0 0 (QPI below args s tgt) (F0 m 8 ls [])) {σ : St} {a1 : Int32} {a2 : Int32} {a3 : Int32} {a4 : Int32} {a5 : Int32}  (hX : IX σ) (h1 : 0 ≤ a1.toInt) (h1b : a1.toInt < (σ 32 0).toInt) (h4 : a4.toInt < (σ 32 0).toInt) (h5 : 0 ≤ a5.toInt) (hm : ((σ 32 0).toInt - a5.toInt).toNat < N8 + 1) (hK : KK g s) (hP : va_P g.1 vwCl ((xW g ρ) σ) s.heap) (hDD : va_D (fun _ => True) ((xW g ρ) σ)) (hB : XH g ρ dt s.heap) {ls : Array Slot} (hl : lv_has ls 8 [(0, .ref (g.2.2 100)), (1, .int (a1)), (2, .int (a2)), (3, .int (a3)), (4, .int (a4)), (5, .int (a5))]) (hT : f_X11_shareOf_8 K8 σ a1 a2 a3 a4 a5 = tgt) : W p l e { frames := 2, cells := 0, slots := 0, locals := 45 } s m args below meth c s.heap [] 0 0 (QPI below args s tgt) (F0 m 8 ls []) := by
  obtain ⟨hx, hb, hr, hml, hown, hts, hlocks⟩ := id C0
  unfold f_X11_shareOf_8 at hT
  obtain ⟨⟨j1, j1'⟩, ⟨j3, j3'⟩, ⟨j5, j5'⟩, ⟨j8, j8'⟩, ⟨j9, j9'⟩, ⟨j12, j12'⟩, ⟨j14, j14'⟩, ⟨j17, j17'⟩, j81, jW⟩ := id hX
  refine lv_iload hx hb dX11_shareOf_8 (lv_at hl 5 rfl) ?_
  refine lv_aload_n hx hb dX11_shareOf_10 rfl (lv_at hl 0 rfl) ?_
  refine x_get (σ := σ) (v := .ref (g.2.2 101)) (fs := xF0 g ρ σ) 11 0 C0 uw_11 dc_11 hK hP rfl rfl 0 (by decide) rfl w_229 dX11_shareOf_11 ?_
  refine x_getN (σ := σ) (v := .int ((σ 32 0))) (fs := xF1 g ρ σ) 5 1 C0 uw_5 dc_5 hK hP rfl rfl 12 (by decide) rfl w_133 dX11_shareOf_14 ?_
  refine lv_icmp_ge (tgt := 53) hx hb dX11_shareOf_17 (by decide) (fun c_17 => ?_) (fun c_17 => ?_)
  · have hT := hT_pos c_17 hT
    refine lv_iload_n hx hb dX11_shareOf_53 rfl (lv_at hl 3 rfl) ?_
    refine lv_if_ne (tgt := 59) hx hb dX11_shareOf_54 (by decide) (fun c_54 => ?_) (fun c_54 => ?_)
    · have hT := hT_neg c_54 hT
      refine lv_aload_n hx hb dX11_shareOf_59 rfl (lv_at hl 0 rfl) ?_
      refine lv_iload_n hx hb dX11_shareOf_60 rfl (lv_at hl 2 rfl) ?_
      refine x_ci (rest := []) (As := [.int (a2)]) (σ := σ) (ρ := ρ) (dt := dt) (T := TX11) (N := 10) (fs := xF0 g ρ σ) 11 0 rfl rfl C0 hK hP hDD hB cf_X11_offAlong w_766 (k_X11_offAlong l g ρ dt σ a2 hX) ⟨by decide, by decide⟩ hl.1 rfl rfl (Nat.le_of_ble_eq_true rfl) dX11_shareOf_61 ⟨Nat.zero_le _, Nat.zero_le _⟩ ?_
      refine lv_istore (lv' := [(5, .int ((f_X11_offAlong σ a2))), (0, .ref (g.2.2 100)), (1, .int (a1)), (2, .int (a2)), (3, .int (a3)), (4, .int (a4))]) hx hb dX11_shareOf_64 hl (by decide) rfl (fun ls hl => ?_)
      refine lv_iload_n hx hb dX11_shareOf_66 rfl (lv_at hl 2 rfl) ?_
      refine lv_iload hx hb dX11_shareOf_67 (lv_at hl 5 rfl) ?_
      refine lv_icmp_eq (tgt := 87) hx hb dX11_shareOf_69 (by decide) (fun c_69 => ?_) (fun c_69 => ?_)
      · have hT := hT_pos c_69 hT
        refine lv_iload hx hb dX11_shareOf_87 (lv_at hl 0 rfl) ?_
        refine lv_istore (lv' := [(6, .int ((f_X11_offAlong σ a2))), (5, .int ((f_X11_offAlong σ a2))), (0, .ref (g.2.2 100)), (1, .int (a1)), (2, .int (a2)), (3, .int (a3)), (4, .int (a4))]) hx hb dX11_shareOf_89 hl (by decide) rfl (fun ls hl => ?_)
        refine lv_iconst (v := (0 : Int32)) hx hb dX11_shareOf_91 (by decide) ?_
        refine lv_istore (lv' := [(7, .int ((0 : Int32))), (6, .int ((f_X11_offAlong σ a2))), (5, .int ((f_X11_offAlong σ a2))), (0, .ref (g.2.2 100)), (1, .int (a1)), (2, .int (a2)), (3, .int (a3)), (4, .int (a4))]) hx hb dX11_shareOf_92 hl (by decide) rfl (fun ls hl => ?_)
        have j92_h3 : ¬ a3 = 0 := c_54
        have j92_h7 : 0 ≤ (0 : Int32).toInt := by
          have : ((0 : Int32)).toInt = 0 := by decide
          have := ti_le.mp c_17
          have := mt ti_eq.mpr c_54
          have := ti_eq.mp c_69
          omega
        have j92_m : (a4.toInt - (0 : Int32).toInt).toNat < 9 := by
          have : ((0 : Int32)).toInt = 0 := by decide
          have := ti_le.mp c_17
          have := mt ti_eq.mpr c_54
          have := ti_eq.mp c_69
          omega
        exact l_X11_shareOf_94 (g := g) (ρ := ρ) (dt := dt) C0   (9) σ a2 a3 a4 (f_X11_offAlong σ a2) (f_X11_offAlong σ a2) (0 : Int32) hX j92_h3 h4 j92_h7 j92_m hK hP hDD hB (lv_sub hl [3, 5, 6, 7, 2, 1, 0] rfl) hT
      · have hT := hT_neg c_69 hT
        refine lv_iload hx hb dX11_shareOf_72 (lv_at hl 0 rfl) ?_
        refine lv_aload_n hx hb dX11_shareOf_74 rfl (lv_at hl 1 rfl) ?_
        refine x_get (σ := σ) (v := .ref (g.2.2 101)) (fs := xF0 g ρ σ) 11 0 C0 uw_11 dc_11 hK hP rfl rfl 0 (by decide) rfl w_229 dX11_shareOf_75 ?_
        refine x_getN (σ := σ) (v := .ref (g.2.2 31)) (fs := xF1 g ρ σ) 5 1 C0 uw_5 dc_5 hK hP rfl rfl 11 (by decide) rfl w_131 dX11_shareOf_78 ?_
        refine lv_iload_n hx hb dX11_shareOf_81 rfl (lv_at hl 2 rfl) ?_
        have o_82 : vp_in a1 8 := by
          have : ((0 : Int32)).toInt = 0 := by decide
          have := ti_le.mp c_17
          have := mt ti_eq.mpr c_54
          have := mt ti_eq.mpr c_69
          exact vin (by omega) (by omega)
        refine x_ald (σ := σ) C0 hK hP 14 31 8 rfl o_82 (ix a1) rfl dX11_shareOf_82 ?_
        refine lv_imul hx hb dX11_shareOf_83 ?_
        refine lv_iload_n hx hb dX11_shareOf_84 rfl (lv_at hl 4 rfl) ?_
        have o_85 : ¬ a3 = 0 := c_54
        refine lv_idiv hx hb dX11_shareOf_85 o_85 ?_
        exact ret_PI C0 hT dX11_shareOf_86
    · have hT := hT_pos c_54 hT
      refine lv_iconst (v := (0 : Int32)) hx hb dX11_shareOf_57 (by decide) ?_
      exact ret_PI C0 hT dX11_shareOf_58
  · have hT := hT_neg c_17 hT
    refine lv_aload_n hx hb dX11_shareOf_20 rfl (lv_at hl 0 rfl) ?_
    refine lv_iload hx hb dX11_shareOf_21 (lv_at hl 5 rfl) ?_
    refine lv_iload_n hx hb dX11_shareOf_23 rfl (lv_at hl 2 rfl) ?_
    have q24_h1b : a5.toInt < 8 := by
      have := mt ti_le.mpr c_17
      omega
    refine x_ci (rest := []) (As := [.int (a5), .int (a2)]) (σ := σ) (ρ := ρ) (dt := dt) (T := TX11) (N := 10) (fs := xF0 g ρ σ) 11 0 rfl rfl C0 hK hP hDD hB cf_X11_isAlong w_770 (k_X11_isAlong l g ρ dt σ a5 a2 h5 q24_h1b) ⟨by decide, by decide⟩ hl.1 rfl rfl (Nat.le_of_ble_eq_true rfl) dX11_shareOf_24 ⟨Nat.zero_le _, Nat.zero_le _⟩ ?_
    refine lv_if_eq (tgt := 47) hx hb dX11_shareOf_27 (by decide) (fun c_27 => ?_) (fun c_27 => ?_)
    · have hT := hT_pos c_27 hT
      have j27_h5b : a5.toInt < (σ 32 0).toInt := by
        have : ((0 : Int32)).toInt = 0 := by decide
        have := mt ti_le.mpr c_17
        have := ti_eq.mp c_27
        omega
      have j27_hm8 : ((σ 32 0).toInt - a5.toInt).toNat < N8 + 1 := by
        have : ((0 : Int32)).toInt = 0 := by decide
        have := mt ti_le.mpr c_17
        have := ti_eq.mp c_27
        omega
      exact b_X11_shareOf_47 (g := g) (ρ := ρ) (dt := dt) (σ := σ) (a1 := a1) (a2 := a2) (a3 := a3) (a4 := a4) (a5 := a5) C0 hK8 hX h1 h1b h4 h5 j27_h5b j27_hm8 hK hP hDD hB hl hT
    · have hT := hT_neg c_27 hT
      refine lv_iload_n hx hb dX11_shareOf_30 rfl (lv_at hl 3 rfl) ?_
      refine lv_aload_n hx hb dX11_shareOf_31 rfl (lv_at hl 0 rfl) ?_
      refine x_get (σ := σ) (v := .ref (g.2.2 101)) (fs := xF0 g ρ σ) 11 0 C0 uw_11 dc_11 hK hP rfl rfl 0 (by decide) rfl w_229 dX11_shareOf_32 ?_
      refine x_getN (σ := σ) (v := .ref (g.2.2 31)) (fs := xF1 g ρ σ) 5 1 C0 uw_5 dc_5 hK hP rfl rfl 11 (by decide) rfl w_131 dX11_shareOf_35 ?_
      refine lv_iload hx hb dX11_shareOf_38 (lv_at hl 5 rfl) ?_
      have o_40 : vp_in a5 8 := by
        have : ((0 : Int32)).toInt = 0 := by decide
        have := mt ti_le.mpr c_17
        have := mt ti_eq.mpr c_27
        exact vin (by omega) (by omega)
      refine x_ald (σ := σ) C0 hK hP 14 31 8 rfl o_40 (ix a5) rfl dX11_shareOf_40 ?_
      refine lv_iadd hx hb dX11_shareOf_41 ?_
      refine lv_istore_n (lv' := [(3, .int ((a3 + (σ 31 (ix a5))))), (0, .ref (g.2.2 100)), (1, .int (a1)), (2, .int (a2)), (4, .int (a4)), (5, .int (a5))]) hx hb dX11_shareOf_42 rfl hl (by decide) rfl (fun ls hl => ?_)
      refine lv_iload hx hb dX11_shareOf_43 (lv_at hl 5 rfl) ?_
      refine lv_istore (lv' := [(4, .int (a5)), (3, .int ((a3 + (σ 31 (ix a5))))), (0, .ref (g.2.2 100)), (1, .int (a1)), (2, .int (a2)), (5, .int (a5))]) hx hb dX11_shareOf_45 hl (by decide) rfl (fun ls hl => ?_)
      have j45_h4 : a5.toInt < (σ 32 0).toInt := by
        have : ((0 : Int32)).toInt = 0 := by decide
        have := mt ti_le.mpr c_17
        have := mt ti_eq.mpr c_27
        try have := ti_add (a := a3) (b := (σ 31 (ix a5))) (by omega) (by omega)
        omega
      have j45_h5b : a5.toInt < (σ 32 0).toInt := by
        have : ((0 : Int32)).toInt = 0 := by decide
        have := mt ti_le.mpr c_17
        have := mt ti_eq.mpr c_27
        try have := ti_add (a := a3) (b := (σ 31 (ix a5))) (by omega) (by omega)
        omega
      have j45_hm8 : ((σ 32 0).toInt - a5.toInt).toNat < N8 + 1 := by
        have : ((0 : Int32)).toInt = 0 := by decide
        have := mt ti_le.mpr c_17
        have := mt ti_eq.mpr c_27
        try have := ti_add (a := a3) (b := (σ 31 (ix a5))) (by omega) (by omega)
        omega
      exact b_X11_shareOf_47 (g := g) (ρ := ρ) (dt := dt) (σ := σ) (a1 := a1) (a2 := a2) (a3 := (a3 + (σ 31 (ix a5)))) (a4 := a5) (a5 := a5) C0 hK8 hX h1 h1b j45_h4 h5 j45_h5b j45_hm8 hK hP hDD hB (lv_sub hl [2, 3, 4, 1, 0, 5] rfl) hT
def g_X11_shareOf_8  : Nat → St → Int32 → Int32 → Int32 → Int32 → Int32 → Int32
  | 0 => fun σ a1 a2 a3 a4 a5 => 0
  | n + 1 => fun σ a1 a2 a3 a4 a5 => f_X11_shareOf_8  (g_X11_shareOf_8  n) σ a1 a2 a3 a4 a5
theorem l_X11_shareOf_8 {g : GG} {ρ : RR} {dt : Nat → Nat → Int32} {p : Program} {l : Launch} {e : Env} {s : State} {m : MethodId} {args : Array Value} {below : List Frame} {meth : Method} {c : Code}  {tgt : Int32}  (C0 : BC p s m args meth c cX11_shareOf RX11 8 (some .int))  : ∀ (n : Nat) (σ : St) (a1 : Int32) (a2 : Int32) (a3 : Int32) (a4 : Int32) (a5 : Int32), (IX σ) → (0 ≤ a1.toInt) → (a1.toInt < (σ 32 0).toInt) → (a4.toInt < (σ 32 0).toInt) → (0 ≤ a5.toInt) → ((σ 32 0).toInt - a5.toInt).toNat < n → KK g s → va_P g.1 vwCl ((xW g ρ) σ) s.heap → va_D (fun _ => True) ((xW g ρ) σ) → XH g ρ dt s.heap →  ∀ {ls : Array Slot}, lv_has ls 8 [(0, .ref (g.2.2 100)), (1, .int (a1)), (2, .int (a2)), (3, .int (a3)), (4, .int (a4)), (5, .int (a5))] → g_X11_shareOf_8  n σ a1 a2 a3 a4 a5 = tgt → W p l e { frames := 2, cells := 0, slots := 0, locals := 45 } s m args below meth c s.heap [] 0 0 (QPI below args s tgt) (F0 m 8 ls []) := by
  intro n
  induction n with
  | zero => intro σ a1 a2 a3 a4 a5 hX h1 h1b h4 h5 hm; exact absurd hm (Nat.not_lt_zero _)
  | succ n ih =>
    intro σ a1 a2 a3 a4 a5 hX h1 h1b h4 h5 hm  hK hP hDD hB ls hl hT
    exact b_X11_shareOf_8 (g := g) (ρ := ρ) (dt := dt) (K8 := g_X11_shareOf_8  n) (N8 := n) C0  (fun σ a1 a2 a3 a4 a5 hX h1 h1b h4 h5 hm2 => ih σ a1 a2 a3 a4 a5 hX h1 h1b h4 h5 hm2) hX h1 h1b h4 h5 hm hK hP hDD hB hl hT
def f_X11_shareOf (σ : St) (a1 : Int32) (a2 : Int32) : Int32 := (g_X11_shareOf_8  (9) σ a1 a2 (0 : Int32) (-1 : Int32) (0 : Int32))
set_option maxHeartbeats 600000 in
set_option maxRecDepth 100000 in
theorem k_X11_shareOf (l : Launch) (g : GG) (ρ : RR) (dt : Nat → Nat → Int32) (σ : St) (a1 : Int32) (a2 : Int32) (hX : IX σ) (h1 : 0 ≤ a1.toInt) (h1b : a1.toInt < (σ 32 0).toInt) : PI l yX11_shareOf (wsF yX11_shareOf cX11_shareOf 8 (some .int)) { frames := 2, cells := 0, slots := 0, locals := 45 } [.ref (g.2.2 100), .int (a1), .int (a2)] (GB g (xW g ρ) (XB g ρ dt) σ) (f_X11_shareOf σ a1 a2) := by
  refine start_PI (by decide) (Nat.le_of_ble_eq_true rfl) ?_
  intro p e s m args below meth c C0 hG ls hl
  obtain ⟨hK, hP, hDD, hB⟩ := hG
  obtain ⟨hx, hb, hr, hml, hown, hts, hlocks⟩ := id C0
  have hl : lv_has ls 8 [(0, .ref (g.2.2 100)), (1, .int (a1)), (2, .int (a2))] := hl
  generalize hT : (f_X11_shareOf σ a1 a2) = tgt
  unfold f_X11_shareOf at hT
  obtain ⟨⟨j1, j1'⟩, ⟨j3, j3'⟩, ⟨j5, j5'⟩, ⟨j8, j8'⟩, ⟨j9, j9'⟩, ⟨j12, j12'⟩, ⟨j14, j14'⟩, ⟨j17, j17'⟩, j81, jW⟩ := id hX
  refine lv_iconst (v := (0 : Int32)) hx hb dX11_shareOf_0 (by decide) ?_
  refine lv_istore_n (lv' := [(3, .int ((0 : Int32))), (0, .ref (g.2.2 100)), (1, .int (a1)), (2, .int (a2))]) hx hb dX11_shareOf_1 rfl hl (by decide) rfl (fun ls hl => ?_)
  refine lv_iconst (v := (-1 : Int32)) hx hb dX11_shareOf_2 (by decide) ?_
  refine lv_istore (lv' := [(4, .int ((-1 : Int32))), (3, .int ((0 : Int32))), (0, .ref (g.2.2 100)), (1, .int (a1)), (2, .int (a2))]) hx hb dX11_shareOf_3 hl (by decide) rfl (fun ls hl => ?_)
  refine lv_iconst (v := (0 : Int32)) hx hb dX11_shareOf_5 (by decide) ?_
  refine lv_istore (lv' := [(5, .int ((0 : Int32))), (4, .int ((-1 : Int32))), (3, .int ((0 : Int32))), (0, .ref (g.2.2 100)), (1, .int (a1)), (2, .int (a2))]) hx hb dX11_shareOf_6 hl (by decide) rfl (fun ls hl => ?_)
  have j6_h4 : (-1 : Int32).toInt < (σ 32 0).toInt := by
    have : ((0 : Int32)).toInt = 0 := by decide
    have : ((-1 : Int32)).toInt = -1 := by decide
    omega
  have j6_h5 : 0 ≤ (0 : Int32).toInt := by
    have : ((0 : Int32)).toInt = 0 := by decide
    have : ((-1 : Int32)).toInt = -1 := by decide
    omega
  have j6_m : ((σ 32 0).toInt - (0 : Int32).toInt).toNat < 9 := by
    have : ((0 : Int32)).toInt = 0 := by decide
    have : ((-1 : Int32)).toInt = -1 := by decide
    omega
  exact l_X11_shareOf_8 (g := g) (ρ := ρ) (dt := dt) C0   (9) σ a1 a2 (0 : Int32) (-1 : Int32) (0 : Int32) hX h1 h1b j6_h4 j6_h5 j6_m hK hP hDD hB (lv_sub hl [3, 4, 5, 2, 1, 0] rfl) hT
set_option maxRecDepth 20000 in
theorem w_782 : (Cond.methodLink RX11 221 yX11_shareOf) ∈ TB := inTB (List.mem_of_getElem? (i := 782) (by decide +kernel)) (by decide +kernel)
set_option maxRecDepth 20000 in
theorem w_785 : (Cond.code yX11_shareOf cX11_shareOf 8 (some .int)) ∈ TB := inTB (List.mem_of_getElem? (i := 785) (by decide +kernel)) (by decide +kernel)
set_option maxRecDepth 20000 in
theorem w_784 : (Cond.instanceMethod yX11_shareOf) ∈ TB := inTB (List.mem_of_getElem? (i := 784) (by decide +kernel)) (by decide +kernel)
set_option maxRecDepth 20000 in
theorem w_30 : (Cond.selects RX11 yX11_shareOf yX11_shareOf) ∈ TB := inTB (List.mem_of_getElem? (i := 30) (by decide +kernel)) (by decide +kernel)
theorem cf_X11_shareOf : CF yX11_shareOf cX11_shareOf 8 (some .int) 2 := ⟨w_784, w_30, w_71, w_785, by decide +kernel, by decide +kernel, by decide +kernel⟩
/-! ThreeMeasures.closed -/
theorem dX11_closed_0 : decode cX11_closed 0 = .ok (.iload_n 1, 1) := by decide +kernel
theorem dX11_closed_1 : decode cX11_closed 1 = .ok (.ifCond .lt 14, 3) := by decide +kernel
theorem dX11_closed_4 : decode cX11_closed 4 = .ok (.iload_n 1, 1) := by decide +kernel
theorem dX11_closed_5 : decode cX11_closed 5 = .ok (.aload_n 0, 1) := by decide +kernel
theorem dX11_closed_6 : decode cX11_closed 6 = .ok (.getfield 12, 3) := by decide +kernel
theorem dX11_closed_9 : decode cX11_closed 9 = .ok (.getfield 209, 3) := by decide +kernel
theorem dX11_closed_12 : decode cX11_closed 12 = .ok (.if_icmp .lt 7, 3) := by decide +kernel
theorem dX11_closed_15 : decode cX11_closed 15 = .ok (.sipush (-1001), 3) := by decide +kernel
theorem dX11_closed_18 : decode cX11_closed 18 = .ok (.ireturn, 1) := by decide +kernel
theorem dX11_closed_19 : decode cX11_closed 19 = .ok (.aload_n 0, 1) := by decide +kernel
theorem dX11_closed_20 : decode cX11_closed 20 = .ok (.getfield 12, 3) := by decide +kernel
theorem dX11_closed_23 : decode cX11_closed 23 = .ok (.getfield 212, 3) := by decide +kernel
theorem dX11_closed_26 : decode cX11_closed 26 = .ok (.iload_n 1, 1) := by decide +kernel
theorem dX11_closed_27 : decode cX11_closed 27 = .ok (.iaload, 1) := by decide +kernel
theorem dX11_closed_28 : decode cX11_closed 28 = .ok (.iconst 2, 1) := by decide +kernel
theorem dX11_closed_29 : decode cX11_closed 29 = .ok (.irem, 1) := by decide +kernel
theorem dX11_closed_30 : decode cX11_closed 30 = .ok (.istore_n 2, 1) := by decide +kernel
theorem dX11_closed_31 : decode cX11_closed 31 = .ok (.aload_n 0, 1) := by decide +kernel
theorem dX11_closed_32 : decode cX11_closed 32 = .ok (.iload_n 1, 1) := by decide +kernel
theorem dX11_closed_33 : decode cX11_closed 33 = .ok (.iload_n 2, 1) := by decide +kernel
theorem dX11_closed_34 : decode cX11_closed 34 = .ok (.invokevirtual 221, 3) := by decide +kernel
theorem dX11_closed_37 : decode cX11_closed 37 = .ok (.istore_n 3, 1) := by decide +kernel
theorem dX11_closed_38 : decode cX11_closed 38 = .ok (.aload_n 0, 1) := by decide +kernel
theorem dX11_closed_39 : decode cX11_closed 39 = .ok (.iload_n 1, 1) := by decide +kernel
theorem dX11_closed_40 : decode cX11_closed 40 = .ok (.invokevirtual 224, 3) := by decide +kernel
theorem dX11_closed_43 : decode cX11_closed 43 = .ok (.ifCond .eq 17, 3) := by decide +kernel
theorem dX11_closed_46 : decode cX11_closed 46 = .ok (.aload_n 0, 1) := by decide +kernel
theorem dX11_closed_47 : decode cX11_closed 47 = .ok (.getfield 12, 3) := by decide +kernel
theorem dX11_closed_50 : decode cX11_closed 50 = .ok (.getfield 215, 3) := by decide +kernel
theorem dX11_closed_53 : decode cX11_closed 53 = .ok (.iload_n 1, 1) := by decide +kernel
theorem dX11_closed_54 : decode cX11_closed 54 = .ok (.iaload, 1) := by decide +kernel
theorem dX11_closed_55 : decode cX11_closed 55 = .ok (.iload_n 3, 1) := by decide +kernel
theorem dX11_closed_56 : decode cX11_closed 56 = .ok (.isub, 1) := by decide +kernel
theorem dX11_closed_57 : decode cX11_closed 57 = .ok (.goto 14, 3) := by decide +kernel
theorem dX11_closed_60 : decode cX11_closed 60 = .ok (.aload_n 0, 1) := by decide +kernel
theorem dX11_closed_61 : decode cX11_closed 61 = .ok (.getfield 12, 3) := by decide +kernel
theorem dX11_closed_64 : decode cX11_closed 64 = .ok (.getfield 215, 3) := by decide +kernel
theorem dX11_closed_67 : decode cX11_closed 67 = .ok (.iload_n 1, 1) := by decide +kernel
theorem dX11_closed_68 : decode cX11_closed 68 = .ok (.iaload, 1) := by decide +kernel
theorem dX11_closed_69 : decode cX11_closed 69 = .ok (.iload_n 3, 1) := by decide +kernel
theorem dX11_closed_70 : decode cX11_closed 70 = .ok (.iadd, 1) := by decide +kernel
theorem dX11_closed_71 : decode cX11_closed 71 = .ok (.ireturn, 1) := by decide +kernel
def f_X11_closed (σ : St) (a1 : Int32) : Int32 := (if a1 < 0 then (-1001 : Int32) else (if a1 < (σ 32 0) then (if (f_X11_isForward σ a1) = 0 then ((σ 31 (ix a1)) + (f_X11_shareOf σ a1 ((σ 30 (ix a1)) - (σ 30 (ix a1)) / (2 : Int32) * (2 : Int32)))) else ((σ 31 (ix a1)) - (f_X11_shareOf σ a1 ((σ 30 (ix a1)) - (σ 30 (ix a1)) / (2 : Int32) * (2 : Int32))))) else (-1001 : Int32)))
set_option maxHeartbeats 600000 in
set_option maxRecDepth 100000 in
theorem k_X11_closed (l : Launch) (g : GG) (ρ : RR) (dt : Nat → Nat → Int32) (σ : St) (a1 : Int32) (hX : IX σ) : PI l yX11_closed (wsF yX11_closed cX11_closed 4 (some .int)) { frames := 3, cells := 0, slots := 0, locals := 72 } [.ref (g.2.2 100), .int (a1)] (GB g (xW g ρ) (XB g ρ dt) σ) (f_X11_closed σ a1) := by
  refine start_PI (by decide) (Nat.le_of_ble_eq_true rfl) ?_
  intro p e s m args below meth c C0 hG ls hl
  obtain ⟨hK, hP, hDD, hB⟩ := hG
  obtain ⟨hx, hb, hr, hml, hown, hts, hlocks⟩ := id C0
  have hl : lv_has ls 4 [(0, .ref (g.2.2 100)), (1, .int (a1))] := hl
  generalize hT : (f_X11_closed σ a1) = tgt
  unfold f_X11_closed at hT
  obtain ⟨⟨j1, j1'⟩, ⟨j3, j3'⟩, ⟨j5, j5'⟩, ⟨j8, j8'⟩, ⟨j9, j9'⟩, ⟨j12, j12'⟩, ⟨j14, j14'⟩, ⟨j17, j17'⟩, j81, jW⟩ := id hX
  refine lv_iload_n hx hb dX11_closed_0 rfl (lv_at hl 1 rfl) ?_
  refine lv_if_lt (tgt := 15) hx hb dX11_closed_1 (by decide) (fun c_1 => ?_) (fun c_1 => ?_)
  · have hT := hT_pos c_1 hT
    refine lv_sipush (v := (-1001 : Int32)) hx hb dX11_closed_15 (by decide) ?_
    exact ret_PI C0 hT dX11_closed_18
  · have hT := hT_neg c_1 hT
    refine lv_iload_n hx hb dX11_closed_4 rfl (lv_at hl 1 rfl) ?_
    refine lv_aload_n hx hb dX11_closed_5 rfl (lv_at hl 0 rfl) ?_
    refine x_get (σ := σ) (v := .ref (g.2.2 101)) (fs := xF0 g ρ σ) 11 0 C0 uw_11 dc_11 hK hP rfl rfl 0 (by decide) rfl w_229 dX11_closed_6 ?_
    refine x_getN (σ := σ) (v := .int ((σ 32 0))) (fs := xF1 g ρ σ) 5 1 C0 uw_5 dc_5 hK hP rfl rfl 12 (by decide) rfl w_133 dX11_closed_9 ?_
    refine lv_icmp_lt (tgt := 19) hx hb dX11_closed_12 (by decide) (fun c_12 => ?_) (fun c_12 => ?_)
    · have hT := hT_pos c_12 hT
      refine lv_aload_n hx hb dX11_closed_19 rfl (lv_at hl 0 rfl) ?_
      refine x_get (σ := σ) (v := .ref (g.2.2 101)) (fs := xF0 g ρ σ) 11 0 C0 uw_11 dc_11 hK hP rfl rfl 0 (by decide) rfl w_229 dX11_closed_20 ?_
      refine x_getN (σ := σ) (v := .ref (g.2.2 30)) (fs := xF1 g ρ σ) 5 1 C0 uw_5 dc_5 hK hP rfl rfl 10 (by decide) rfl w_129 dX11_closed_23 ?_
      refine lv_iload_n hx hb dX11_closed_26 rfl (lv_at hl 1 rfl) ?_
      have o_27 : vp_in a1 8 := by
        have : ((0 : Int32)).toInt = 0 := by decide
        have := mt ti_lt.mpr c_1
        have := ti_lt.mp c_12
        exact vin (by omega) (by omega)
      refine x_ald (σ := σ) C0 hK hP 13 30 8 rfl o_27 (ix a1) rfl dX11_closed_27 ?_
      refine lv_iconst (v := (2 : Int32)) hx hb dX11_closed_28 (by decide) ?_
      refine lv_irem hx hb dX11_closed_29 (by decide) ?_
      refine lv_istore_n (lv' := [(2, .int (((σ 30 (ix a1)) - (σ 30 (ix a1)) / (2 : Int32) * (2 : Int32)))), (0, .ref (g.2.2 100)), (1, .int (a1))]) hx hb dX11_closed_30 rfl hl (by decide) rfl (fun ls hl => ?_)
      refine lv_aload_n hx hb dX11_closed_31 rfl (lv_at hl 1 rfl) ?_
      refine lv_iload_n hx hb dX11_closed_32 rfl (lv_at hl 2 rfl) ?_
      refine lv_iload_n hx hb dX11_closed_33 rfl (lv_at hl 0 rfl) ?_
      have q34_h1 : 0 ≤ a1.toInt := by
        have : ((0 : Int32)).toInt = 0 := by decide
        have := mt ti_lt.mpr c_1
        have := ti_lt.mp c_12
        try have := rem_b (a := (σ 30 (ix a1))) (b := (2 : Int32)) (n := 2) (by decide) (by omega) (by omega)
        omega
      have q34_h1b : a1.toInt < (σ 32 0).toInt := by
        have : ((0 : Int32)).toInt = 0 := by decide
        have := mt ti_lt.mpr c_1
        have := ti_lt.mp c_12
        try have := rem_b (a := (σ 30 (ix a1))) (b := (2 : Int32)) (n := 2) (by decide) (by omega) (by omega)
        omega
      refine x_ci (rest := []) (As := [.int (a1), .int (((σ 30 (ix a1)) - (σ 30 (ix a1)) / (2 : Int32) * (2 : Int32)))]) (σ := σ) (ρ := ρ) (dt := dt) (T := TX11) (N := 10) (fs := xF0 g ρ σ) 11 0 rfl rfl C0 hK hP hDD hB cf_X11_shareOf w_782 (k_X11_shareOf l g ρ dt σ a1 ((σ 30 (ix a1)) - (σ 30 (ix a1)) / (2 : Int32) * (2 : Int32)) hX q34_h1 q34_h1b) ⟨by decide, by decide⟩ hl.1 rfl rfl (Nat.le_of_ble_eq_true rfl) dX11_closed_34 ⟨Nat.zero_le _, Nat.zero_le _⟩ ?_
      refine lv_istore_n (lv' := [(3, .int ((f_X11_shareOf σ a1 ((σ 30 (ix a1)) - (σ 30 (ix a1)) / (2 : Int32) * (2 : Int32))))), (2, .int (((σ 30 (ix a1)) - (σ 30 (ix a1)) / (2 : Int32) * (2 : Int32)))), (0, .ref (g.2.2 100)), (1, .int (a1))]) hx hb dX11_closed_37 rfl hl (by decide) rfl (fun ls hl => ?_)
      refine lv_aload_n hx hb dX11_closed_38 rfl (lv_at hl 2 rfl) ?_
      refine lv_iload_n hx hb dX11_closed_39 rfl (lv_at hl 3 rfl) ?_
      have q40_h1 : 0 ≤ a1.toInt := by
        have : ((0 : Int32)).toInt = 0 := by decide
        have := mt ti_lt.mpr c_1
        have := ti_lt.mp c_12
        omega
      have q40_h1b : a1.toInt < 8 := by
        have : ((0 : Int32)).toInt = 0 := by decide
        have := mt ti_lt.mpr c_1
        have := ti_lt.mp c_12
        omega
      refine x_ci (rest := []) (As := [.int (a1)]) (σ := σ) (ρ := ρ) (dt := dt) (T := TX11) (N := 10) (fs := xF0 g ρ σ) 11 0 rfl rfl C0 hK hP hDD hB cf_X11_isForward w_774 (k_X11_isForward l g ρ dt σ a1 q40_h1 q40_h1b) ⟨by decide, by decide⟩ hl.1 rfl rfl (Nat.le_of_ble_eq_true rfl) dX11_closed_40 ⟨Nat.zero_le _, Nat.zero_le _⟩ ?_
      have J43 : ∀ v : Int32, v = (if (f_X11_isForward σ a1) = 0 then ((σ 31 (ix a1)) + (f_X11_shareOf σ a1 ((σ 30 (ix a1)) - (σ 30 (ix a1)) / (2 : Int32) * (2 : Int32)))) else ((σ 31 (ix a1)) - (f_X11_shareOf σ a1 ((σ 30 (ix a1)) - (σ 30 (ix a1)) / (2 : Int32) * (2 : Int32))))) → W p l e { frames := 3, cells := 0, slots := 0, locals := 72 } s m args below meth c s.heap [] 0 0 (QPI below args s tgt) (F0 m 71 ls [.int (v)]) := by
        intro v ev
        subst ev
        exact ret_PI C0 hT dX11_closed_71
      refine lv_if_eq (tgt := 60) hx hb dX11_closed_43 (by decide) (fun c_43 => ?_) (fun c_43 => ?_)
      · refine lv_aload_n hx hb dX11_closed_60 rfl (lv_at hl 2 rfl) ?_
        refine x_get (σ := σ) (v := .ref (g.2.2 101)) (fs := xF0 g ρ σ) 11 0 C0 uw_11 dc_11 hK hP rfl rfl 0 (by decide) rfl w_229 dX11_closed_61 ?_
        refine x_getN (σ := σ) (v := .ref (g.2.2 31)) (fs := xF1 g ρ σ) 5 1 C0 uw_5 dc_5 hK hP rfl rfl 11 (by decide) rfl w_131 dX11_closed_64 ?_
        refine lv_iload_n hx hb dX11_closed_67 rfl (lv_at hl 3 rfl) ?_
        have o_68 : vp_in a1 8 := by
          have : ((0 : Int32)).toInt = 0 := by decide
          have := mt ti_lt.mpr c_1
          have := ti_lt.mp c_12
          have := ti_eq.mp c_43
          exact vin (by omega) (by omega)
        refine x_ald (σ := σ) C0 hK hP 14 31 8 rfl o_68 (ix a1) rfl dX11_closed_68 ?_
        refine lv_iload_n hx hb dX11_closed_69 rfl (lv_at hl 0 rfl) ?_
        refine lv_iadd hx hb dX11_closed_70 ?_
        exact J43 _ (iv_pos c_43 rfl)
      · refine lv_aload_n hx hb dX11_closed_46 rfl (lv_at hl 2 rfl) ?_
        refine x_get (σ := σ) (v := .ref (g.2.2 101)) (fs := xF0 g ρ σ) 11 0 C0 uw_11 dc_11 hK hP rfl rfl 0 (by decide) rfl w_229 dX11_closed_47 ?_
        refine x_getN (σ := σ) (v := .ref (g.2.2 31)) (fs := xF1 g ρ σ) 5 1 C0 uw_5 dc_5 hK hP rfl rfl 11 (by decide) rfl w_131 dX11_closed_50 ?_
        refine lv_iload_n hx hb dX11_closed_53 rfl (lv_at hl 3 rfl) ?_
        have o_54 : vp_in a1 8 := by
          have : ((0 : Int32)).toInt = 0 := by decide
          have := mt ti_lt.mpr c_1
          have := ti_lt.mp c_12
          have := mt ti_eq.mpr c_43
          exact vin (by omega) (by omega)
        refine x_ald (σ := σ) C0 hK hP 14 31 8 rfl o_54 (ix a1) rfl dX11_closed_54 ?_
        refine lv_iload_n hx hb dX11_closed_55 rfl (lv_at hl 0 rfl) ?_
        refine lv_isub hx hb dX11_closed_56 ?_
        refine lv_goto (tgt := 71) hx hb dX11_closed_57 (by decide) ?_
        exact J43 _ (iv_neg c_43 rfl)
    · have hT := hT_neg c_12 hT
      refine lv_sipush (v := (-1001 : Int32)) hx hb dX11_closed_15 (by decide) ?_
      exact ret_PI C0 hT dX11_closed_18
set_option maxRecDepth 20000 in
theorem w_804 : (Cond.constantLong RX11 233 (-9223372036854775808 : Int64)) ∈ TB := inTB (List.mem_of_getElem? (i := 804) (by decide +kernel)) (by decide +kernel)
/-! ThreeMeasures.fraction -/
theorem dX11_fraction_0 : decode cX11_fraction 0 = .ok (.iload 4, 2) := by decide +kernel
theorem dX11_fraction_2 : decode cX11_fraction 2 = .ok (.ifCond .lt 9, 3) := by decide +kernel
theorem dX11_fraction_5 : decode cX11_fraction 5 = .ok (.iload 4, 2) := by decide +kernel
theorem dX11_fraction_7 : decode cX11_fraction 7 = .ok (.iconst 1, 1) := by decide +kernel
theorem dX11_fraction_8 : decode cX11_fraction 8 = .ok (.if_icmp .le 7, 3) := by decide +kernel
theorem dX11_fraction_11 : decode cX11_fraction 11 = .ok (.ldc2_w 233, 3) := by decide +kernel
theorem dX11_fraction_14 : decode cX11_fraction 14 = .ok (.lreturn, 1) := by decide +kernel
theorem dX11_fraction_15 : decode cX11_fraction 15 = .ok (.lload_n 0, 1) := by decide +kernel
theorem dX11_fraction_16 : decode cX11_fraction 16 = .ok (.lstore 5, 2) := by decide +kernel
theorem dX11_fraction_18 : decode cX11_fraction 18 = .ok (.lload_n 2, 1) := by decide +kernel
theorem dX11_fraction_19 : decode cX11_fraction 19 = .ok (.lstore 7, 2) := by decide +kernel
theorem dX11_fraction_21 : decode cX11_fraction 21 = .ok (.iconst 0, 1) := by decide +kernel
theorem dX11_fraction_22 : decode cX11_fraction 22 = .ok (.istore 9, 2) := by decide +kernel
theorem dX11_fraction_24 : decode cX11_fraction 24 = .ok (.iload 9, 2) := by decide +kernel
theorem dX11_fraction_26 : decode cX11_fraction 26 = .ok (.bipush 100, 2) := by decide +kernel
theorem dX11_fraction_28 : decode cX11_fraction 28 = .ok (.if_icmp .ge 31, 3) := by decide +kernel
theorem dX11_fraction_31 : decode cX11_fraction 31 = .ok (.lload 7, 2) := by decide +kernel
theorem dX11_fraction_33 : decode cX11_fraction 33 = .ok (.lconst 0, 1) := by decide +kernel
theorem dX11_fraction_34 : decode cX11_fraction 34 = .ok (.lcmp, 1) := by decide +kernel
theorem dX11_fraction_35 : decode cX11_fraction 35 = .ok (.ifCond .eq 24, 3) := by decide +kernel
theorem dX11_fraction_38 : decode cX11_fraction 38 = .ok (.lload 5, 2) := by decide +kernel
theorem dX11_fraction_40 : decode cX11_fraction 40 = .ok (.lload 7, 2) := by decide +kernel
theorem dX11_fraction_42 : decode cX11_fraction 42 = .ok (.lrem, 1) := by decide +kernel
theorem dX11_fraction_43 : decode cX11_fraction 43 = .ok (.lstore 10, 2) := by decide +kernel
theorem dX11_fraction_45 : decode cX11_fraction 45 = .ok (.lload 7, 2) := by decide +kernel
theorem dX11_fraction_47 : decode cX11_fraction 47 = .ok (.lstore 5, 2) := by decide +kernel
theorem dX11_fraction_49 : decode cX11_fraction 49 = .ok (.lload 10, 2) := by decide +kernel
theorem dX11_fraction_51 : decode cX11_fraction 51 = .ok (.lstore 7, 2) := by decide +kernel
theorem dX11_fraction_53 : decode cX11_fraction 53 = .ok (.iinc 9 1, 3) := by decide +kernel
theorem dX11_fraction_56 : decode cX11_fraction 56 = .ok (.goto (-32), 3) := by decide +kernel
theorem dX11_fraction_59 : decode cX11_fraction 59 = .ok (.lload 5, 2) := by decide +kernel
theorem dX11_fraction_61 : decode cX11_fraction 61 = .ok (.lconst 0, 1) := by decide +kernel
theorem dX11_fraction_62 : decode cX11_fraction 62 = .ok (.lcmp, 1) := by decide +kernel
theorem dX11_fraction_63 : decode cX11_fraction 63 = .ok (.ifCond .ne 7, 3) := by decide +kernel
theorem dX11_fraction_66 : decode cX11_fraction 66 = .ok (.ldc2_w 233, 3) := by decide +kernel
theorem dX11_fraction_69 : decode cX11_fraction 69 = .ok (.lreturn, 1) := by decide +kernel
theorem dX11_fraction_70 : decode cX11_fraction 70 = .ok (.iload 4, 2) := by decide +kernel
theorem dX11_fraction_72 : decode cX11_fraction 72 = .ok (.ifCond .ne 10, 3) := by decide +kernel
theorem dX11_fraction_75 : decode cX11_fraction 75 = .ok (.lload_n 0, 1) := by decide +kernel
theorem dX11_fraction_76 : decode cX11_fraction 76 = .ok (.lload 5, 2) := by decide +kernel
theorem dX11_fraction_78 : decode cX11_fraction 78 = .ok (.ldiv, 1) := by decide +kernel
theorem dX11_fraction_79 : decode cX11_fraction 79 = .ok (.goto 7, 3) := by decide +kernel
theorem dX11_fraction_82 : decode cX11_fraction 82 = .ok (.lload_n 2, 1) := by decide +kernel
theorem dX11_fraction_83 : decode cX11_fraction 83 = .ok (.lload 5, 2) := by decide +kernel
theorem dX11_fraction_85 : decode cX11_fraction 85 = .ok (.ldiv, 1) := by decide +kernel
theorem dX11_fraction_86 : decode cX11_fraction 86 = .ok (.lreturn, 1) := by decide +kernel
def f_X11_fraction_59  (a0 : Int64) (a2 : Int64) (a4 : Int32) (a5 : Int64) : Int64 := (if (lg_cmp a5 (0 : Int64)) = 0 then (-9223372036854775808 : Int64) else (if a4 = 0 then (a0 / a5) else (a2 / a5)))
set_option maxHeartbeats 600000 in
set_option maxRecDepth 100000 in
theorem b_X11_fraction_59  {p : Program} {l : Launch} {e : Env} {s : State} {m : MethodId} {args : Array Value} {below : List Frame} {meth : Method} {c : Code}  {tgt : Int64}  (C0 : BC p s m args meth c cX11_fraction RX11 12 (some .long))  {a0 : Int64} {a2 : Int64} {a4 : Int32} {a5 : Int64}     {ls : Array Slot} (hl : lv_has ls 12 [(0, .long (a0)), (2, .long (a2)), (4, .int (a4)), (5, .long (a5))]) (hT : f_X11_fraction_59  a0 a2 a4 a5 = tgt) : W p l e { frames := 0, cells := 0, slots := 0, locals := 0 } s m args below meth c s.heap [] 0 0 (QPL below args s tgt) (F0 m 59 ls []) := by
  obtain ⟨hx, hb, hr, hml, hown, hts, hlocks⟩ := id C0
  unfold f_X11_fraction_59 at hT
  refine lv_lload hx hb dX11_fraction_59 (lv_at hl 3 rfl) ?_
  refine lv_lconst (v := (0 : Int64)) hx hb dX11_fraction_61 (by decide) ?_
  refine W.lcmp hx hb dX11_fraction_62 ?_
  refine lv_if_ne (tgt := 70) hx hb dX11_fraction_63 (by decide) (fun c_63 => ?_) (fun c_63 => ?_)
  · have hT := hT_neg c_63 hT
    refine lv_iload hx hb dX11_fraction_70 (lv_at hl 2 rfl) ?_
    refine lv_if_ne (tgt := 82) hx hb dX11_fraction_72 (by decide) (fun c_72 => ?_) (fun c_72 => ?_)
    · have hT := hT_neg c_72 hT
      refine lv_lload_n hx hb dX11_fraction_82 rfl (lv_at hl 1 rfl) ?_
      refine lv_lload hx hb dX11_fraction_83 (lv_at hl 3 rfl) ?_
      have o_85 : ¬ a5 = 0 := fun q => c_63 (lcmp0.mpr q)
      refine lv_ldiv hx hb dX11_fraction_85 o_85 ?_
      exact ret_PL C0 hT dX11_fraction_86
    · have hT := hT_pos c_72 hT
      refine lv_lload_n hx hb dX11_fraction_75 rfl (lv_at hl 0 rfl) ?_
      refine lv_lload hx hb dX11_fraction_76 (lv_at hl 3 rfl) ?_
      have o_78 : ¬ a5 = 0 := fun q => c_63 (lcmp0.mpr q)
      refine lv_ldiv hx hb dX11_fraction_78 o_78 ?_
      refine lv_goto (tgt := 86) hx hb dX11_fraction_79 (by decide) ?_
      exact ret_PL C0 hT dX11_fraction_86
  · have hT := hT_pos c_63 hT
    refine lv_ldc2 (v := (-9223372036854775808 : Int64)) hx hb C0.2.2.2.2.1 (C0.2.2.2.2.2.1 _ w_804) dX11_fraction_66 ?_
    exact ret_PL C0 hT dX11_fraction_69
def f_X11_fraction_24 (K24 : Int64 → Int64 → Int32 → Int64 → Int64 → Int32 → Int64) (a0 : Int64) (a2 : Int64) (a4 : Int32) (a5 : Int64) (a7 : Int64) (a9 : Int32) : Int64 := (if (100 : Int32) ≤ a9 then (f_X11_fraction_59  a0 a2 a4 a5) else (if (lg_cmp a7 (0 : Int64)) = 0 then (f_X11_fraction_59  a0 a2 a4 a5) else (K24 a0 a2 a4 a7 (a5 - a5 / a7 * a7) (a9 + (1 : Int32)))))
set_option maxHeartbeats 600000 in
set_option maxRecDepth 100000 in
theorem b_X11_fraction_24  {p : Program} {l : Launch} {e : Env} {s : State} {m : MethodId} {args : Array Value} {below : List Frame} {meth : Method} {c : Code}  {tgt : Int64} {K24 : Int64 → Int64 → Int32 → Int64 → Int64 → Int32 → Int64} {N24 : Nat} (C0 : BC p s m args meth c cX11_fraction RX11 12 (some .long)) (hK24 : ∀ (a0 : Int64) (a2 : Int64) (a4 : Int32) (a5 : Int64) (a7 : Int64) (a9 : Int32), (0 ≤ a9.toInt) → (100 - a9.toInt).toNat < N24 →  ∀ {ls : Array Slot}, lv_has ls 12 [(0, .long (a0)), (2, .long (a2)), (4, .int (a4)), (5, .long (a5)), (7, .long (a7)), (9, .int (a9))] → K24 a0 a2 a4 a5 a7 a9 = tgt → W p l e { frames := 0, cells := 0, slots := 0, locals := 0 } s m args below meth c s.heap [] 0 0 (QPL below args s tgt) (F0 m 24 ls [])) {a0 : Int64} {a2 : Int64} {a4 : Int32} {a5 : Int64} {a7 : Int64} {a9 : Int32}  (h9 : 0 ≤ a9.toInt) (hm : (100 - a9.toInt).toNat < N24 + 1)  {ls : Array Slot} (hl : lv_has ls 12 [(0, .long (a0)), (2, .long (a2)), (4, .int (a4)), (5, .long (a5)), (7, .long (a7)), (9, .int (a9))]) (hT : f_X11_fraction_24 K24 a0 a2 a4 a5 a7 a9 = tgt) : W p l e { frames := 0, cells := 0, slots := 0, locals := 0 } s m args below meth c s.heap [] 0 0 (QPL below args s tgt) (F0 m 24 ls []) := by
  obtain ⟨hx, hb, hr, hml, hown, hts, hlocks⟩ := id C0
  unfold f_X11_fraction_24 at hT
  refine lv_iload hx hb dX11_fraction_24 (lv_at hl 5 rfl) ?_
  refine lv_bipush (v := (100 : Int32)) hx hb dX11_fraction_26 (by decide) ?_
  refine lv_icmp_ge (tgt := 59) hx hb dX11_fraction_28 (by decide) (fun c_28 => ?_) (fun c_28 => ?_)
  · have hT := hT_pos c_28 hT
    exact b_X11_fraction_59  (a0 := a0) (a2 := a2) (a4 := a4) (a5 := a5) C0    (lv_sub hl [0, 1, 2, 3] rfl) hT
  · have hT := hT_neg c_28 hT
    refine lv_lload hx hb dX11_fraction_31 (lv_at hl 4 rfl) ?_
    refine lv_lconst (v := (0 : Int64)) hx hb dX11_fraction_33 (by decide) ?_
    refine W.lcmp hx hb dX11_fraction_34 ?_
    refine lv_if_eq (tgt := 59) hx hb dX11_fraction_35 (by decide) (fun c_35 => ?_) (fun c_35 => ?_)
    · have hT := hT_pos c_35 hT
      exact b_X11_fraction_59  (a0 := a0) (a2 := a2) (a4 := a4) (a5 := a5) C0    (lv_sub hl [0, 1, 2, 3] rfl) hT
    · have hT := hT_neg c_35 hT
      refine lv_lload hx hb dX11_fraction_38 (lv_at hl 3 rfl) ?_
      refine lv_lload hx hb dX11_fraction_40 (lv_at hl 4 rfl) ?_
      have o_42 : ¬ a7 = 0 := fun q => c_35 (lcmp0.mpr q)
      refine lv_lrem hx hb dX11_fraction_42 o_42 ?_
      refine lv_lstore (lv' := [(10, .long ((a5 - a5 / a7 * a7))), (0, .long (a0)), (2, .long (a2)), (4, .int (a4)), (5, .long (a5)), (7, .long (a7)), (9, .int (a9))]) hx hb dX11_fraction_43 hl (by decide) rfl (fun ls hl => ?_)
      refine lv_lload hx hb dX11_fraction_45 (lv_at hl 5 rfl) ?_
      refine lv_lstore (lv' := [(5, .long (a7)), (10, .long ((a5 - a5 / a7 * a7))), (0, .long (a0)), (2, .long (a2)), (4, .int (a4)), (7, .long (a7)), (9, .int (a9))]) hx hb dX11_fraction_47 hl (by decide) rfl (fun ls hl => ?_)
      refine lv_lload hx hb dX11_fraction_49 (lv_at hl 1 rfl) ?_
      refine lv_lstore (lv' := [(7, .long ((a5 - a5 / a7 * a7))), (5, .long (a7)), (10, .long ((a5 - a5 / a7 * a7))), (0, .long (a0)), (2, .long (a2)), (4, .int (a4)), (9, .int (a9))]) hx hb dX11_fraction_51 hl (by decide) rfl (fun ls hl => ?_)
      refine lv_iinc (v := (a9 + (1 : Int32))) (lv' := [(9, .int ((a9 + (1 : Int32)))), (7, .long ((a5 - a5 / a7 * a7))), (5, .long (a7)), (10, .long ((a5 - a5 / a7 * a7))), (0, .long (a0)), (2, .long (a2)), (4, .int (a4))]) hx hb dX11_fraction_53 hl (k := 6) rfl rfl (by decide) rfl (fun ls hl => ?_)
      refine lv_goto (tgt := 24) hx hb dX11_fraction_56 (by decide) ?_
      have j56_h9 : 0 ≤ (a9 + (1 : Int32)).toInt := by
        have : ((100 : Int32)).toInt = 100 := by decide
        have : ((0 : Int32)).toInt = 0 := by decide
        have : ((1 : Int32)).toInt = 1 := by decide
        have := mt ti_le.mpr c_28
        have := mt ti_eq.mpr c_35
        try have := ti_add (a := a9) (b := (1 : Int32)) (by omega) (by omega)
        omega
      have j56_m : (100 - (a9 + (1 : Int32)).toInt).toNat < N24 := by
        have : ((100 : Int32)).toInt = 100 := by decide
        have : ((0 : Int32)).toInt = 0 := by decide
        have : ((1 : Int32)).toInt = 1 := by decide
        have := mt ti_le.mpr c_28
        have := mt ti_eq.mpr c_35
        try have := ti_add (a := a9) (b := (1 : Int32)) (by omega) (by omega)
        omega
      exact hK24 a0 a2 a4 a7 (a5 - a5 / a7 * a7) (a9 + (1 : Int32)) j56_h9 j56_m  (lv_sub hl [4, 5, 6, 2, 1, 0] rfl) hT
def g_X11_fraction_24  : Nat → Int64 → Int64 → Int32 → Int64 → Int64 → Int32 → Int64
  | 0 => fun a0 a2 a4 a5 a7 a9 => 0
  | n + 1 => fun a0 a2 a4 a5 a7 a9 => f_X11_fraction_24  (g_X11_fraction_24  n) a0 a2 a4 a5 a7 a9
theorem l_X11_fraction_24  {p : Program} {l : Launch} {e : Env} {s : State} {m : MethodId} {args : Array Value} {below : List Frame} {meth : Method} {c : Code}  {tgt : Int64}  (C0 : BC p s m args meth c cX11_fraction RX11 12 (some .long))  : ∀ (n : Nat) (a0 : Int64) (a2 : Int64) (a4 : Int32) (a5 : Int64) (a7 : Int64) (a9 : Int32), (0 ≤ a9.toInt) → (100 - a9.toInt).toNat < n →  ∀ {ls : Array Slot}, lv_has ls 12 [(0, .long (a0)), (2, .long (a2)), (4, .int (a4)), (5, .long (a5)), (7, .long (a7)), (9, .int (a9))] → g_X11_fraction_24  n a0 a2 a4 a5 a7 a9 = tgt → W p l e { frames := 0, cells := 0, slots := 0, locals := 0 } s m args below meth c s.heap [] 0 0 (QPL below args s tgt) (F0 m 24 ls []) := by
  intro n
  induction n with
  | zero => intro a0 a2 a4 a5 a7 a9 h9 hm; exact absurd hm (Nat.not_lt_zero _)
  | succ n ih =>
    intro a0 a2 a4 a5 a7 a9 h9 hm   ls hl hT
    exact b_X11_fraction_24  (K24 := g_X11_fraction_24  n) (N24 := n) C0  (fun a0 a2 a4 a5 a7 a9 h9 hm2 => ih a0 a2 a4 a5 a7 a9 h9 hm2) h9 hm  hl hT
def f_X11_fraction (a0 : Int64) (a2 : Int64) (a4 : Int32) : Int64 := (if a4 < 0 then (-9223372036854775808 : Int64) else (if a4 ≤ (1 : Int32) then (g_X11_fraction_24  (101) a0 a2 a4 a0 a2 (0 : Int32)) else (-9223372036854775808 : Int64)))
set_option maxHeartbeats 600000 in
set_option maxRecDepth 100000 in
theorem k_X11_fraction (l : Launch)  (a0 : Int64) (a2 : Int64) (a4 : Int32)  : PL l yX11_fraction (wsF yX11_fraction cX11_fraction 12 (some .long)) { frames := 0, cells := 0, slots := 0, locals := 0 } [.long (a0), .long (a2), .int (a4)] (fun _ => True) (f_X11_fraction a0 a2 a4) := by
  refine start_PL (by decide) (Nat.le_of_ble_eq_true rfl) ?_
  intro p e s m args below meth c C0 hG ls hl
  obtain ⟨hx, hb, hr, hml, hown, hts, hlocks⟩ := id C0
  have hl : lv_has ls 12 [(0, .long (a0)), (2, .long (a2)), (4, .int (a4))] := hl
  generalize hT : (f_X11_fraction a0 a2 a4) = tgt
  unfold f_X11_fraction at hT
  refine lv_iload hx hb dX11_fraction_0 (lv_at hl 2 rfl) ?_
  refine lv_if_lt (tgt := 11) hx hb dX11_fraction_2 (by decide) (fun c_2 => ?_) (fun c_2 => ?_)
  · have hT := hT_pos c_2 hT
    refine lv_ldc2 (v := (-9223372036854775808 : Int64)) hx hb C0.2.2.2.2.1 (C0.2.2.2.2.2.1 _ w_804) dX11_fraction_11 ?_
    exact ret_PL C0 hT dX11_fraction_14
  · have hT := hT_neg c_2 hT
    refine lv_iload hx hb dX11_fraction_5 (lv_at hl 2 rfl) ?_
    refine lv_iconst (v := (1 : Int32)) hx hb dX11_fraction_7 (by decide) ?_
    refine lv_icmp_le (tgt := 15) hx hb dX11_fraction_8 (by decide) (fun c_8 => ?_) (fun c_8 => ?_)
    · have hT := hT_pos c_8 hT
      refine lv_lload_n hx hb dX11_fraction_15 rfl (lv_at hl 0 rfl) ?_
      refine lv_lstore (lv' := [(5, .long (a0)), (0, .long (a0)), (2, .long (a2)), (4, .int (a4))]) hx hb dX11_fraction_16 hl (by decide) rfl (fun ls hl => ?_)
      refine lv_lload_n hx hb dX11_fraction_18 rfl (lv_at hl 2 rfl) ?_
      refine lv_lstore (lv' := [(7, .long (a2)), (5, .long (a0)), (0, .long (a0)), (2, .long (a2)), (4, .int (a4))]) hx hb dX11_fraction_19 hl (by decide) rfl (fun ls hl => ?_)
      refine lv_iconst (v := (0 : Int32)) hx hb dX11_fraction_21 (by decide) ?_
      refine lv_istore (lv' := [(9, .int ((0 : Int32))), (7, .long (a2)), (5, .long (a0)), (0, .long (a0)), (2, .long (a2)), (4, .int (a4))]) hx hb dX11_fraction_22 hl (by decide) rfl (fun ls hl => ?_)
      have j22_h9 : 0 ≤ (0 : Int32).toInt := by
        have : ((0 : Int32)).toInt = 0 := by decide
        have : ((1 : Int32)).toInt = 1 := by decide
        have := mt ti_lt.mpr c_2
        have := ti_le.mp c_8
        omega
      have j22_m : (100 - (0 : Int32).toInt).toNat < 101 := by
        have : ((0 : Int32)).toInt = 0 := by decide
        have : ((1 : Int32)).toInt = 1 := by decide
        have := mt ti_lt.mpr c_2
        have := ti_le.mp c_8
        omega
      exact l_X11_fraction_24  C0   (101) a0 a2 a4 a0 a2 (0 : Int32) j22_h9 j22_m  (lv_sub hl [3, 4, 5, 2, 1, 0] rfl) hT
    · have hT := hT_neg c_8 hT
      refine lv_ldc2 (v := (-9223372036854775808 : Int64)) hx hb C0.2.2.2.2.1 (C0.2.2.2.2.2.1 _ w_804) dX11_fraction_11 ?_
      exact ret_PL C0 hT dX11_fraction_14
set_option maxRecDepth 20000 in
theorem w_704 : (Cond.methodLink RX11 145 Lib.Math.max.name) ∈ TB := inTB (List.mem_of_getElem? (i := 704) (by decide +kernel)) (by decide +kernel)
set_option maxRecDepth 20000 in
theorem w_376 : (Cond.static Lib.Math.max.name) ∈ TB := inTB (List.mem_of_getElem? (i := 376) (by decide +kernel)) (by decide +kernel)
set_option maxRecDepth 20000 in
theorem w_377 : (Cond.code Lib.Math.max.name Lib.Math.max.code 2 (some .int)) ∈ TB := inTB (List.mem_of_getElem? (i := 377) (by decide +kernel)) (by decide +kernel)
set_option maxRecDepth 20000 in
theorem w_805 : (Cond.methodLink RX11 239 yX11_fraction) ∈ TB := inTB (List.mem_of_getElem? (i := 805) (by decide +kernel)) (by decide +kernel)
set_option maxRecDepth 20000 in
theorem w_807 : (Cond.code yX11_fraction cX11_fraction 12 (some .long)) ∈ TB := inTB (List.mem_of_getElem? (i := 807) (by decide +kernel)) (by decide +kernel)
set_option maxRecDepth 20000 in
theorem w_806 : (Cond.static yX11_fraction) ∈ TB := inTB (List.mem_of_getElem? (i := 806) (by decide +kernel)) (by decide +kernel)
theorem cf_X11_fraction : CG yX11_fraction cX11_fraction 12 (some .long) 3 := ⟨w_806, w_71, w_807, by decide +kernel, by decide +kernel, by decide +kernel⟩
/-! ThreeMeasures.odds -/
theorem dX11_odds_0 : decode cX11_odds 0 = .ok (.aload_n 0, 1) := by decide +kernel
theorem dX11_odds_1 : decode cX11_odds 1 = .ok (.getfield 12, 3) := by decide +kernel
theorem dX11_odds_4 : decode cX11_odds 4 = .ok (.iload_n 1, 1) := by decide +kernel
theorem dX11_odds_5 : decode cX11_odds 5 = .ok (.invokevirtual 121, 3) := by decide +kernel
theorem dX11_odds_8 : decode cX11_odds 8 = .ok (.ifCond .eq 14, 3) := by decide +kernel
theorem dX11_odds_11 : decode cX11_odds 11 = .ok (.iload_n 2, 1) := by decide +kernel
theorem dX11_odds_12 : decode cX11_odds 12 = .ok (.ifCond .lt 10, 3) := by decide +kernel
theorem dX11_odds_15 : decode cX11_odds 15 = .ok (.iload_n 2, 1) := by decide +kernel
theorem dX11_odds_16 : decode cX11_odds 16 = .ok (.sipush 999, 3) := by decide +kernel
theorem dX11_odds_19 : decode cX11_odds 19 = .ok (.if_icmp .le 7, 3) := by decide +kernel
theorem dX11_odds_22 : decode cX11_odds 22 = .ok (.ldc2_w 233, 3) := by decide +kernel
theorem dX11_odds_25 : decode cX11_odds 25 = .ok (.lreturn, 1) := by decide +kernel
theorem dX11_odds_26 : decode cX11_odds 26 = .ok (.aload_n 0, 1) := by decide +kernel
theorem dX11_odds_27 : decode cX11_odds 27 = .ok (.getfield 12, 3) := by decide +kernel
theorem dX11_odds_30 : decode cX11_odds 30 = .ok (.iload_n 1, 1) := by decide +kernel
theorem dX11_odds_31 : decode cX11_odds 31 = .ok (.invokevirtual 125, 3) := by decide +kernel
theorem dX11_odds_34 : decode cX11_odds 34 = .ok (.iconst 1, 1) := by decide +kernel
theorem dX11_odds_35 : decode cX11_odds 35 = .ok (.iadd, 1) := by decide +kernel
theorem dX11_odds_36 : decode cX11_odds 36 = .ok (.istore 4, 2) := by decide +kernel
theorem dX11_odds_38 : decode cX11_odds 38 = .ok (.iconst 0, 1) := by decide +kernel
theorem dX11_odds_39 : decode cX11_odds 39 = .ok (.iload 4, 2) := by decide +kernel
theorem dX11_odds_41 : decode cX11_odds 41 = .ok (.iload_n 2, 1) := by decide +kernel
theorem dX11_odds_42 : decode cX11_odds 42 = .ok (.aload_n 0, 1) := by decide +kernel
theorem dX11_odds_43 : decode cX11_odds 43 = .ok (.getfield 12, 3) := by decide +kernel
theorem dX11_odds_46 : decode cX11_odds 46 = .ok (.getfield 115, 3) := by decide +kernel
theorem dX11_odds_49 : decode cX11_odds 49 = .ok (.iload_n 1, 1) := by decide +kernel
theorem dX11_odds_50 : decode cX11_odds 50 = .ok (.iaload, 1) := by decide +kernel
theorem dX11_odds_51 : decode cX11_odds 51 = .ok (.isub, 1) := by decide +kernel
theorem dX11_odds_52 : decode cX11_odds 52 = .ok (.iconst 1, 1) := by decide +kernel
theorem dX11_odds_53 : decode cX11_odds 53 = .ok (.iadd, 1) := by decide +kernel
theorem dX11_odds_54 : decode cX11_odds 54 = .ok (.invokestatic 154, 3) := by decide +kernel
theorem dX11_odds_57 : decode cX11_odds 57 = .ok (.invokestatic 145, 3) := by decide +kernel
theorem dX11_odds_60 : decode cX11_odds 60 = .ok (.istore 5, 2) := by decide +kernel
theorem dX11_odds_62 : decode cX11_odds 62 = .ok (.iload 5, 2) := by decide +kernel
theorem dX11_odds_64 : decode cX11_odds 64 = .ok (.i2l, 1) := by decide +kernel
theorem dX11_odds_65 : decode cX11_odds 65 = .ok (.iload 4, 2) := by decide +kernel
theorem dX11_odds_67 : decode cX11_odds 67 = .ok (.i2l, 1) := by decide +kernel
theorem dX11_odds_68 : decode cX11_odds 68 = .ok (.iload_n 3, 1) := by decide +kernel
theorem dX11_odds_69 : decode cX11_odds 69 = .ok (.invokestatic 239, 3) := by decide +kernel
theorem dX11_odds_72 : decode cX11_odds 72 = .ok (.lreturn, 1) := by decide +kernel
def f_X11_odds (σ : St) (a1 : Int32) (a2 : Int32) (a3 : Int32) : Int64 := (if (f_X5_isWall σ a1) = 0 then (-9223372036854775808 : Int64) else (if a2 < 0 then (-9223372036854775808 : Int64) else (if a2 ≤ (999 : Int32) then (f_X11_fraction ((if (0 : Int32) < (if ((a2 - (σ 26 (ix a1))) + (1 : Int32)) < ((f_X5_gap σ a1) + (1 : Int32)) then ((a2 - (σ 26 (ix a1))) + (1 : Int32)) else ((f_X5_gap σ a1) + (1 : Int32))) then (if ((a2 - (σ 26 (ix a1))) + (1 : Int32)) < ((f_X5_gap σ a1) + (1 : Int32)) then ((a2 - (σ 26 (ix a1))) + (1 : Int32)) else ((f_X5_gap σ a1) + (1 : Int32))) else (0 : Int32)).toInt64) (((f_X5_gap σ a1) + (1 : Int32)).toInt64) a3) else (-9223372036854775808 : Int64))))
set_option maxHeartbeats 600000 in
set_option maxRecDepth 100000 in
theorem k_X11_odds (l : Launch) (g : GG) (ρ : RR) (dt : Nat → Nat → Int32) (σ : St) (a1 : Int32) (a2 : Int32) (a3 : Int32) (hX : IX σ) : PL l yX11_odds (wsF yX11_odds cX11_odds 6 (some .long)) { frames := 1, cells := 0, slots := 0, locals := 31 } [.ref (g.2.2 100), .int (a1), .int (a2), .int (a3)] (GB g (xW g ρ) (XB g ρ dt) σ) (f_X11_odds σ a1 a2 a3) := by
  refine start_PL (by decide) (Nat.le_of_ble_eq_true rfl) ?_
  intro p e s m args below meth c C0 hG ls hl
  obtain ⟨hK, hP, hDD, hB⟩ := hG
  obtain ⟨hx, hb, hr, hml, hown, hts, hlocks⟩ := id C0
  have hl : lv_has ls 6 [(0, .ref (g.2.2 100)), (1, .int (a1)), (2, .int (a2)), (3, .int (a3))] := hl
  generalize hT : (f_X11_odds σ a1 a2 a3) = tgt
  unfold f_X11_odds at hT
  obtain ⟨⟨j1, j1'⟩, ⟨j3, j3'⟩, ⟨j5, j5'⟩, ⟨j8, j8'⟩, ⟨j9, j9'⟩, ⟨j12, j12'⟩, ⟨j14, j14'⟩, ⟨j17, j17'⟩, j81, jW⟩ := id hX
  refine lv_aload_n hx hb dX11_odds_0 rfl (lv_at hl 0 rfl) ?_
  refine x_get (σ := σ) (v := .ref (g.2.2 101)) (fs := xF0 g ρ σ) 11 0 C0 uw_11 dc_11 hK hP rfl rfl 0 (by decide) rfl w_229 dX11_odds_1 ?_
  refine lv_iload_n hx hb dX11_odds_4 rfl (lv_at hl 1 rfl) ?_
  refine x_cn (rest := []) (As := [.int (a1)]) (σ := σ) (ρ := ρ) (dt := dt) (T := TX5) (N := 18) (fs := xF1 g ρ σ) 5 1 rfl rfl C0 hK hP hDD hB cf_X5_isWall w_615 (k_X5_isWall l g ρ dt σ a1 ) ⟨by decide, by decide⟩ hl.1 rfl rfl (Nat.le_of_ble_eq_true rfl) dX11_odds_5 ⟨Nat.zero_le _, Nat.zero_le _⟩ ?_
  refine lv_if_eq (tgt := 22) hx hb dX11_odds_8 (by decide) (fun c_8 => ?_) (fun c_8 => ?_)
  · have hT := hT_pos c_8 hT
    refine lv_ldc2 (v := (-9223372036854775808 : Int64)) hx hb C0.2.2.2.2.1 (C0.2.2.2.2.2.1 _ w_804) dX11_odds_22 ?_
    exact ret_PL C0 hT dX11_odds_25
  · have hT := hT_neg c_8 hT
    refine lv_iload_n hx hb dX11_odds_11 rfl (lv_at hl 2 rfl) ?_
    refine lv_if_lt (tgt := 22) hx hb dX11_odds_12 (by decide) (fun c_12 => ?_) (fun c_12 => ?_)
    · have hT := hT_pos c_12 hT
      refine lv_ldc2 (v := (-9223372036854775808 : Int64)) hx hb C0.2.2.2.2.1 (C0.2.2.2.2.2.1 _ w_804) dX11_odds_22 ?_
      exact ret_PL C0 hT dX11_odds_25
    · have hT := hT_neg c_12 hT
      refine lv_iload_n hx hb dX11_odds_15 rfl (lv_at hl 2 rfl) ?_
      refine lv_sipush (v := (999 : Int32)) hx hb dX11_odds_16 (by decide) ?_
      refine lv_icmp_le (tgt := 26) hx hb dX11_odds_19 (by decide) (fun c_19 => ?_) (fun c_19 => ?_)
      · have hT := hT_pos c_19 hT
        refine lv_aload_n hx hb dX11_odds_26 rfl (lv_at hl 0 rfl) ?_
        refine x_get (σ := σ) (v := .ref (g.2.2 101)) (fs := xF0 g ρ σ) 11 0 C0 uw_11 dc_11 hK hP rfl rfl 0 (by decide) rfl w_229 dX11_odds_27 ?_
        refine lv_iload_n hx hb dX11_odds_30 rfl (lv_at hl 1 rfl) ?_
        have q31_h1 : 0 ≤ a1.toInt := by
          have : ((0 : Int32)).toInt = 0 := by decide
          have : ((999 : Int32)).toInt = 999 := by decide
          have := xw_ne c_8
          have := mt ti_lt.mpr c_12
          have := ti_le.mp c_19
          omega
        have q31_h2 : a1.toInt < 6 := by
          have : ((0 : Int32)).toInt = 0 := by decide
          have : ((999 : Int32)).toInt = 999 := by decide
          have := xw_ne c_8
          have := mt ti_lt.mpr c_12
          have := ti_le.mp c_19
          omega
        refine x_cn (rest := []) (As := [.int (a1)]) (σ := σ) (ρ := ρ) (dt := dt) (T := TX5) (N := 18) (fs := xF1 g ρ σ) 5 1 rfl rfl C0 hK hP hDD hB cf_X5_gap w_619 (k_X5_gap l g ρ dt σ a1 q31_h1 q31_h2) ⟨by decide, by decide⟩ hl.1 rfl rfl (Nat.le_of_ble_eq_true rfl) dX11_odds_31 ⟨Nat.zero_le _, Nat.zero_le _⟩ ?_
        refine lv_iconst (v := (1 : Int32)) hx hb dX11_odds_34 (by decide) ?_
        refine lv_iadd hx hb dX11_odds_35 ?_
        refine lv_istore (lv' := [(4, .int (((f_X5_gap σ a1) + (1 : Int32)))), (0, .ref (g.2.2 100)), (1, .int (a1)), (2, .int (a2)), (3, .int (a3))]) hx hb dX11_odds_36 hl (by decide) rfl (fun ls hl => ?_)
        refine lv_iconst (v := (0 : Int32)) hx hb dX11_odds_38 (by decide) ?_
        refine lv_iload hx hb dX11_odds_39 (lv_at hl 0 rfl) ?_
        refine lv_iload_n hx hb dX11_odds_41 rfl (lv_at hl 3 rfl) ?_
        refine lv_aload_n hx hb dX11_odds_42 rfl (lv_at hl 1 rfl) ?_
        refine x_get (σ := σ) (v := .ref (g.2.2 101)) (fs := xF0 g ρ σ) 11 0 C0 uw_11 dc_11 hK hP rfl rfl 0 (by decide) rfl w_229 dX11_odds_43 ?_
        refine x_getN (σ := σ) (v := .ref (g.2.2 26)) (fs := xF1 g ρ σ) 5 1 C0 uw_5 dc_5 hK hP rfl rfl 6 (by decide) rfl w_121 dX11_odds_46 ?_
        refine lv_iload_n hx hb dX11_odds_49 rfl (lv_at hl 2 rfl) ?_
        have o_50 : vp_in a1 6 := by
          have : ((0 : Int32)).toInt = 0 := by decide
          have : ((999 : Int32)).toInt = 999 := by decide
          have := xw_ne c_8
          have := mt ti_lt.mpr c_12
          have := ti_le.mp c_19
          exact vin (by omega) (by omega)
        refine x_ald (σ := σ) C0 hK hP 11 26 6 rfl o_50 (ix a1) rfl dX11_odds_50 ?_
        refine lv_isub hx hb dX11_odds_51 ?_
        refine lv_iconst (v := (1 : Int32)) hx hb dX11_odds_52 (by decide) ?_
        refine lv_iadd hx hb dX11_odds_53 ?_
        refine va_mmin hx hb (hml.trans hl.1.symm) C0.2.2.2.2.1 (C0.2.2.2.2.2.1 _ w_709) (C0.2.2.2.2.2.1 _ w_379) (C0.2.2.2.2.2.1 _ w_80) (C0.2.2.2.2.2.1 _ w_380) (by decide) (by decide) (Nat.zero_le _) (Nat.zero_le _) dX11_odds_54 ?_
        refine va_mmax hx hb (hml.trans hl.1.symm) C0.2.2.2.2.1 (C0.2.2.2.2.2.1 _ w_704) (C0.2.2.2.2.2.1 _ w_376) (C0.2.2.2.2.2.1 _ w_80) (C0.2.2.2.2.2.1 _ w_377) (by decide) (by decide) (Nat.zero_le _) (Nat.zero_le _) dX11_odds_57 ?_
        refine lv_istore (lv' := [(5, .int ((if (0 : Int32) < (if ((a2 - (σ 26 (ix a1))) + (1 : Int32)) < ((f_X5_gap σ a1) + (1 : Int32)) then ((a2 - (σ 26 (ix a1))) + (1 : Int32)) else ((f_X5_gap σ a1) + (1 : Int32))) then (if ((a2 - (σ 26 (ix a1))) + (1 : Int32)) < ((f_X5_gap σ a1) + (1 : Int32)) then ((a2 - (σ 26 (ix a1))) + (1 : Int32)) else ((f_X5_gap σ a1) + (1 : Int32))) else (0 : Int32)))), (4, .int (((f_X5_gap σ a1) + (1 : Int32)))), (0, .ref (g.2.2 100)), (1, .int (a1)), (2, .int (a2)), (3, .int (a3))]) hx hb dX11_odds_60 hl (by decide) rfl (fun ls hl => ?_)
        refine lv_iload hx hb dX11_odds_62 (lv_at hl 0 rfl) ?_
        refine lv_i2l (v := ((if (0 : Int32) < (if ((a2 - (σ 26 (ix a1))) + (1 : Int32)) < ((f_X5_gap σ a1) + (1 : Int32)) then ((a2 - (σ 26 (ix a1))) + (1 : Int32)) else ((f_X5_gap σ a1) + (1 : Int32))) then (if ((a2 - (σ 26 (ix a1))) + (1 : Int32)) < ((f_X5_gap σ a1) + (1 : Int32)) then ((a2 - (σ 26 (ix a1))) + (1 : Int32)) else ((f_X5_gap σ a1) + (1 : Int32))) else (0 : Int32)).toInt64)) hx hb dX11_odds_64 rfl ?_
        refine lv_iload hx hb dX11_odds_65 (lv_at hl 1 rfl) ?_
        refine lv_i2l (v := (((f_X5_gap σ a1) + (1 : Int32)).toInt64)) hx hb dX11_odds_67 rfl ?_
        refine lv_iload_n hx hb dX11_odds_68 rfl (lv_at hl 5 rfl) ?_
        refine s_cl (rest := []) (As := [.long (((if (0 : Int32) < (if ((a2 - (σ 26 (ix a1))) + (1 : Int32)) < ((f_X5_gap σ a1) + (1 : Int32)) then ((a2 - (σ 26 (ix a1))) + (1 : Int32)) else ((f_X5_gap σ a1) + (1 : Int32))) then (if ((a2 - (σ 26 (ix a1))) + (1 : Int32)) < ((f_X5_gap σ a1) + (1 : Int32)) then ((a2 - (σ 26 (ix a1))) + (1 : Int32)) else ((f_X5_gap σ a1) + (1 : Int32))) else (0 : Int32)).toInt64)), .long ((((f_X5_gap σ a1) + (1 : Int32)).toInt64)), .int (a3)]) C0 cf_X11_fraction w_805 (k_X11_fraction l ((if (0 : Int32) < (if ((a2 - (σ 26 (ix a1))) + (1 : Int32)) < ((f_X5_gap σ a1) + (1 : Int32)) then ((a2 - (σ 26 (ix a1))) + (1 : Int32)) else ((f_X5_gap σ a1) + (1 : Int32))) then (if ((a2 - (σ 26 (ix a1))) + (1 : Int32)) < ((f_X5_gap σ a1) + (1 : Int32)) then ((a2 - (σ 26 (ix a1))) + (1 : Int32)) else ((f_X5_gap σ a1) + (1 : Int32))) else (0 : Int32)).toInt64) (((f_X5_gap σ a1) + (1 : Int32)).toInt64) a3 ) ⟨by decide, by decide⟩ hl.1 rfl rfl (Nat.le_of_ble_eq_true rfl) dX11_odds_69 ⟨Nat.zero_le _, Nat.zero_le _⟩ ?_
        exact ret_PL C0 hT dX11_odds_72
      · have hT := hT_neg c_19 hT
        refine lv_ldc2 (v := (-9223372036854775808 : Int64)) hx hb C0.2.2.2.2.1 (C0.2.2.2.2.2.1 _ w_804) dX11_odds_22 ?_
        exact ret_PL C0 hT dX11_odds_25
/-! ThreeMeasures.mean -/
theorem dX11_mean_0 : decode cX11_mean 0 = .ok (.aload_n 0, 1) := by decide +kernel
theorem dX11_mean_1 : decode cX11_mean 1 = .ok (.getfield 12, 3) := by decide +kernel
theorem dX11_mean_4 : decode cX11_mean 4 = .ok (.getfield 112, 3) := by decide +kernel
theorem dX11_mean_7 : decode cX11_mean 7 = .ok (.ifCond .ne 7, 3) := by decide +kernel
theorem dX11_mean_10 : decode cX11_mean 10 = .ok (.ldc2_w 233, 3) := by decide +kernel
theorem dX11_mean_13 : decode cX11_mean 13 = .ok (.lreturn, 1) := by decide +kernel
theorem dX11_mean_14 : decode cX11_mean 14 = .ok (.iconst 0, 1) := by decide +kernel
theorem dX11_mean_15 : decode cX11_mean 15 = .ok (.istore_n 2, 1) := by decide +kernel
theorem dX11_mean_16 : decode cX11_mean 16 = .ok (.iconst 0, 1) := by decide +kernel
theorem dX11_mean_17 : decode cX11_mean 17 = .ok (.istore_n 3, 1) := by decide +kernel
theorem dX11_mean_18 : decode cX11_mean 18 = .ok (.iload_n 3, 1) := by decide +kernel
theorem dX11_mean_19 : decode cX11_mean 19 = .ok (.aload_n 0, 1) := by decide +kernel
theorem dX11_mean_20 : decode cX11_mean 20 = .ok (.getfield 12, 3) := by decide +kernel
theorem dX11_mean_23 : decode cX11_mean 23 = .ok (.getfield 112, 3) := by decide +kernel
theorem dX11_mean_26 : decode cX11_mean 26 = .ok (.if_icmp .ge 31, 3) := by decide +kernel
theorem dX11_mean_29 : decode cX11_mean 29 = .ok (.iload_n 2, 1) := by decide +kernel
theorem dX11_mean_30 : decode cX11_mean 30 = .ok (.aload_n 0, 1) := by decide +kernel
theorem dX11_mean_31 : decode cX11_mean 31 = .ok (.getfield 12, 3) := by decide +kernel
theorem dX11_mean_34 : decode cX11_mean 34 = .ok (.getfield 115, 3) := by decide +kernel
theorem dX11_mean_37 : decode cX11_mean 37 = .ok (.iload_n 3, 1) := by decide +kernel
theorem dX11_mean_38 : decode cX11_mean 38 = .ok (.iaload, 1) := by decide +kernel
theorem dX11_mean_39 : decode cX11_mean 39 = .ok (.aload_n 0, 1) := by decide +kernel
theorem dX11_mean_40 : decode cX11_mean 40 = .ok (.getfield 12, 3) := by decide +kernel
theorem dX11_mean_43 : decode cX11_mean 43 = .ok (.getfield 118, 3) := by decide +kernel
theorem dX11_mean_46 : decode cX11_mean 46 = .ok (.iload_n 3, 1) := by decide +kernel
theorem dX11_mean_47 : decode cX11_mean 47 = .ok (.iaload, 1) := by decide +kernel
theorem dX11_mean_48 : decode cX11_mean 48 = .ok (.iadd, 1) := by decide +kernel
theorem dX11_mean_49 : decode cX11_mean 49 = .ok (.iadd, 1) := by decide +kernel
theorem dX11_mean_50 : decode cX11_mean 50 = .ok (.istore_n 2, 1) := by decide +kernel
theorem dX11_mean_51 : decode cX11_mean 51 = .ok (.iinc 3 1, 3) := by decide +kernel
theorem dX11_mean_54 : decode cX11_mean 54 = .ok (.goto (-36), 3) := by decide +kernel
theorem dX11_mean_57 : decode cX11_mean 57 = .ok (.iload_n 2, 1) := by decide +kernel
theorem dX11_mean_58 : decode cX11_mean 58 = .ok (.i2l, 1) := by decide +kernel
theorem dX11_mean_59 : decode cX11_mean 59 = .ok (.iconst 2, 1) := by decide +kernel
theorem dX11_mean_60 : decode cX11_mean 60 = .ok (.aload_n 0, 1) := by decide +kernel
theorem dX11_mean_61 : decode cX11_mean 61 = .ok (.getfield 12, 3) := by decide +kernel
theorem dX11_mean_64 : decode cX11_mean 64 = .ok (.getfield 112, 3) := by decide +kernel
theorem dX11_mean_67 : decode cX11_mean 67 = .ok (.imul, 1) := by decide +kernel
theorem dX11_mean_68 : decode cX11_mean 68 = .ok (.i2l, 1) := by decide +kernel
theorem dX11_mean_69 : decode cX11_mean 69 = .ok (.iload_n 1, 1) := by decide +kernel
theorem dX11_mean_70 : decode cX11_mean 70 = .ok (.invokestatic 239, 3) := by decide +kernel
theorem dX11_mean_73 : decode cX11_mean 73 = .ok (.lreturn, 1) := by decide +kernel
def f_X11_mean_18 (K18 : St → Int32 → Int32 → Int32 → Int64) (σ : St) (a1 : Int32) (a2 : Int32) (a3 : Int32) : Int64 := (if (σ 28 0) ≤ a3 then (f_X11_fraction (a2.toInt64) (((2 : Int32) * (σ 28 0)).toInt64) a1) else (K18 σ a1 (a2 + ((σ 26 (ix a3)) + (σ 27 (ix a3)))) (a3 + (1 : Int32))))
set_option maxHeartbeats 600000 in
set_option maxRecDepth 100000 in
theorem b_X11_mean_18 {g : GG} {ρ : RR} {dt : Nat → Nat → Int32} {p : Program} {l : Launch} {e : Env} {s : State} {m : MethodId} {args : Array Value} {below : List Frame} {meth : Method} {c : Code}  {tgt : Int64} {K18 : St → Int32 → Int32 → Int32 → Int64} {N18 : Nat} (C0 : BC p s m args meth c cX11_mean RX11 4 (some .long)) (hK18 : ∀ (σ : St) (a1 : Int32) (a2 : Int32) (a3 : Int32), (IX σ) → (0 ≤ a3.toInt) → ((σ 28 0).toInt - a3.toInt).toNat < N18 → KK g s → va_P g.1 vwCl ((xW g ρ) σ) s.heap → va_D (fun _ => True) ((xW g ρ) σ) → XH g ρ dt s.heap →  ∀ {ls : Array Slot}, lv_has ls 4 [(0, .ref (g.2.2 100)), (1, .int (a1)), (2, .int (a2)), (3, .int (a3))] → K18 σ a1 a2 a3 = tgt → W p l e { frames := 1, cells := 0, slots := 0, locals := 31 } s m args below meth c s.heap [] 0 0 (QPL below args s tgt) (F0 m 18 ls [])) {σ : St} {a1 : Int32} {a2 : Int32} {a3 : Int32}  (hX : IX σ) (h3 : 0 ≤ a3.toInt) (hm : ((σ 28 0).toInt - a3.toInt).toNat < N18 + 1) (hK : KK g s) (hP : va_P g.1 vwCl ((xW g ρ) σ) s.heap) (hDD : va_D (fun _ => True) ((xW g ρ) σ)) (hB : XH g ρ dt s.heap) {ls : Array Slot} (hl : lv_has ls 4 [(0, .ref (g.2.2 100)), (1, .int (a1)), (2, .int (a2)), (3, .int (a3))]) (hT : f_X11_mean_18 K18 σ a1 a2 a3 = tgt) : W p l e { frames := 1, cells := 0, slots := 0, locals := 31 } s m args below meth c s.heap [] 0 0 (QPL below args s tgt) (F0 m 18 ls []) := by
  obtain ⟨hx, hb, hr, hml, hown, hts, hlocks⟩ := id C0
  unfold f_X11_mean_18 at hT
  obtain ⟨⟨j1, j1'⟩, ⟨j3, j3'⟩, ⟨j5, j5'⟩, ⟨j8, j8'⟩, ⟨j9, j9'⟩, ⟨j12, j12'⟩, ⟨j14, j14'⟩, ⟨j17, j17'⟩, j81, jW⟩ := id hX
  refine lv_iload_n hx hb dX11_mean_18 rfl (lv_at hl 3 rfl) ?_
  refine lv_aload_n hx hb dX11_mean_19 rfl (lv_at hl 0 rfl) ?_
  refine x_get (σ := σ) (v := .ref (g.2.2 101)) (fs := xF0 g ρ σ) 11 0 C0 uw_11 dc_11 hK hP rfl rfl 0 (by decide) rfl w_229 dX11_mean_20 ?_
  refine x_getN (σ := σ) (v := .int ((σ 28 0))) (fs := xF1 g ρ σ) 5 1 C0 uw_5 dc_5 hK hP rfl rfl 8 (by decide) rfl w_125 dX11_mean_23 ?_
  refine lv_icmp_ge (tgt := 57) hx hb dX11_mean_26 (by decide) (fun c_26 => ?_) (fun c_26 => ?_)
  · have hT := hT_pos c_26 hT
    refine lv_iload_n hx hb dX11_mean_57 rfl (lv_at hl 2 rfl) ?_
    refine lv_i2l (v := (a2.toInt64)) hx hb dX11_mean_58 rfl ?_
    refine lv_iconst (v := (2 : Int32)) hx hb dX11_mean_59 (by decide) ?_
    refine lv_aload_n hx hb dX11_mean_60 rfl (lv_at hl 0 rfl) ?_
    refine x_get (σ := σ) (v := .ref (g.2.2 101)) (fs := xF0 g ρ σ) 11 0 C0 uw_11 dc_11 hK hP rfl rfl 0 (by decide) rfl w_229 dX11_mean_61 ?_
    refine x_getN (σ := σ) (v := .int ((σ 28 0))) (fs := xF1 g ρ σ) 5 1 C0 uw_5 dc_5 hK hP rfl rfl 8 (by decide) rfl w_125 dX11_mean_64 ?_
    refine lv_imul hx hb dX11_mean_67 ?_
    refine lv_i2l (v := (((2 : Int32) * (σ 28 0)).toInt64)) hx hb dX11_mean_68 rfl ?_
    refine lv_iload_n hx hb dX11_mean_69 rfl (lv_at hl 1 rfl) ?_
    refine s_cl (rest := []) (As := [.long ((a2.toInt64)), .long ((((2 : Int32) * (σ 28 0)).toInt64)), .int (a1)]) C0 cf_X11_fraction w_805 (k_X11_fraction l (a2.toInt64) (((2 : Int32) * (σ 28 0)).toInt64) a1 ) ⟨by decide, by decide⟩ hl.1 rfl rfl (Nat.le_of_ble_eq_true rfl) dX11_mean_70 ⟨Nat.zero_le _, Nat.zero_le _⟩ ?_
    exact ret_PL C0 hT dX11_mean_73
  · have hT := hT_neg c_26 hT
    refine lv_iload_n hx hb dX11_mean_29 rfl (lv_at hl 2 rfl) ?_
    refine lv_aload_n hx hb dX11_mean_30 rfl (lv_at hl 0 rfl) ?_
    refine x_get (σ := σ) (v := .ref (g.2.2 101)) (fs := xF0 g ρ σ) 11 0 C0 uw_11 dc_11 hK hP rfl rfl 0 (by decide) rfl w_229 dX11_mean_31 ?_
    refine x_getN (σ := σ) (v := .ref (g.2.2 26)) (fs := xF1 g ρ σ) 5 1 C0 uw_5 dc_5 hK hP rfl rfl 6 (by decide) rfl w_121 dX11_mean_34 ?_
    refine lv_iload_n hx hb dX11_mean_37 rfl (lv_at hl 3 rfl) ?_
    have o_38 : vp_in a3 6 := by
      have := mt ti_le.mpr c_26
      exact vin (by omega) (by omega)
    refine x_ald (σ := σ) C0 hK hP 11 26 6 rfl o_38 (ix a3) rfl dX11_mean_38 ?_
    refine lv_aload_n hx hb dX11_mean_39 rfl (lv_at hl 0 rfl) ?_
    refine x_get (σ := σ) (v := .ref (g.2.2 101)) (fs := xF0 g ρ σ) 11 0 C0 uw_11 dc_11 hK hP rfl rfl 0 (by decide) rfl w_229 dX11_mean_40 ?_
    refine x_getN (σ := σ) (v := .ref (g.2.2 27)) (fs := xF1 g ρ σ) 5 1 C0 uw_5 dc_5 hK hP rfl rfl 7 (by decide) rfl w_123 dX11_mean_43 ?_
    refine lv_iload_n hx hb dX11_mean_46 rfl (lv_at hl 3 rfl) ?_
    have o_47 : vp_in a3 6 := by
      have := mt ti_le.mpr c_26
      exact vin (by omega) (by omega)
    refine x_ald (σ := σ) C0 hK hP 12 27 6 rfl o_47 (ix a3) rfl dX11_mean_47 ?_
    refine lv_iadd hx hb dX11_mean_48 ?_
    refine lv_iadd hx hb dX11_mean_49 ?_
    refine lv_istore_n (lv' := [(2, .int ((a2 + ((σ 26 (ix a3)) + (σ 27 (ix a3)))))), (0, .ref (g.2.2 100)), (1, .int (a1)), (3, .int (a3))]) hx hb dX11_mean_50 rfl hl (by decide) rfl (fun ls hl => ?_)
    refine lv_iinc (v := (a3 + (1 : Int32))) (lv' := [(3, .int ((a3 + (1 : Int32)))), (2, .int ((a2 + ((σ 26 (ix a3)) + (σ 27 (ix a3)))))), (0, .ref (g.2.2 100)), (1, .int (a1))]) hx hb dX11_mean_51 hl (k := 3) rfl rfl (by decide) rfl (fun ls hl => ?_)
    refine lv_goto (tgt := 18) hx hb dX11_mean_54 (by decide) ?_
    have j54_h3 : 0 ≤ (a3 + (1 : Int32)).toInt := by
      have : ((1 : Int32)).toInt = 1 := by decide
      have := mt ti_le.mpr c_26
      try have := ti_add (a := a3) (b := (1 : Int32)) (by omega) (by omega)
      try have := ti_add (a := (σ 26 (ix a3))) (b := (σ 27 (ix a3))) (by omega) (by omega)
      try have := ti_add (a := a2) (b := ((σ 26 (ix a3)) + (σ 27 (ix a3)))) (by omega) (by omega)
      omega
    have j54_m : ((σ 28 0).toInt - (a3 + (1 : Int32)).toInt).toNat < N18 := by
      have : ((1 : Int32)).toInt = 1 := by decide
      have := mt ti_le.mpr c_26
      try have := ti_add (a := a3) (b := (1 : Int32)) (by omega) (by omega)
      try have := ti_add (a := (σ 26 (ix a3))) (b := (σ 27 (ix a3))) (by omega) (by omega)
      try have := ti_add (a := a2) (b := ((σ 26 (ix a3)) + (σ 27 (ix a3)))) (by omega) (by omega)
      omega
    exact hK18 σ a1 (a2 + ((σ 26 (ix a3)) + (σ 27 (ix a3)))) (a3 + (1 : Int32)) hX j54_h3 j54_m hK hP hDD hB (lv_sub hl [2, 3, 1, 0] rfl) hT
def g_X11_mean_18  : Nat → St → Int32 → Int32 → Int32 → Int64
  | 0 => fun σ a1 a2 a3 => 0
  | n + 1 => fun σ a1 a2 a3 => f_X11_mean_18  (g_X11_mean_18  n) σ a1 a2 a3
theorem l_X11_mean_18 {g : GG} {ρ : RR} {dt : Nat → Nat → Int32} {p : Program} {l : Launch} {e : Env} {s : State} {m : MethodId} {args : Array Value} {below : List Frame} {meth : Method} {c : Code}  {tgt : Int64}  (C0 : BC p s m args meth c cX11_mean RX11 4 (some .long))  : ∀ (n : Nat) (σ : St) (a1 : Int32) (a2 : Int32) (a3 : Int32), (IX σ) → (0 ≤ a3.toInt) → ((σ 28 0).toInt - a3.toInt).toNat < n → KK g s → va_P g.1 vwCl ((xW g ρ) σ) s.heap → va_D (fun _ => True) ((xW g ρ) σ) → XH g ρ dt s.heap →  ∀ {ls : Array Slot}, lv_has ls 4 [(0, .ref (g.2.2 100)), (1, .int (a1)), (2, .int (a2)), (3, .int (a3))] → g_X11_mean_18  n σ a1 a2 a3 = tgt → W p l e { frames := 1, cells := 0, slots := 0, locals := 31 } s m args below meth c s.heap [] 0 0 (QPL below args s tgt) (F0 m 18 ls []) := by
  intro n
  induction n with
  | zero => intro σ a1 a2 a3 hX h3 hm; exact absurd hm (Nat.not_lt_zero _)
  | succ n ih =>
    intro σ a1 a2 a3 hX h3 hm  hK hP hDD hB ls hl hT
    exact b_X11_mean_18 (g := g) (ρ := ρ) (dt := dt) (K18 := g_X11_mean_18  n) (N18 := n) C0  (fun σ a1 a2 a3 hX h3 hm2 => ih σ a1 a2 a3 hX h3 hm2) hX h3 hm hK hP hDD hB hl hT
def f_X11_mean (σ : St) (a1 : Int32) : Int64 := (if (σ 28 0) = 0 then (-9223372036854775808 : Int64) else (g_X11_mean_18  (7) σ a1 (0 : Int32) (0 : Int32)))
set_option maxHeartbeats 600000 in
set_option maxRecDepth 100000 in
theorem k_X11_mean (l : Launch) (g : GG) (ρ : RR) (dt : Nat → Nat → Int32) (σ : St) (a1 : Int32) (hX : IX σ) : PL l yX11_mean (wsF yX11_mean cX11_mean 4 (some .long)) { frames := 1, cells := 0, slots := 0, locals := 31 } [.ref (g.2.2 100), .int (a1)] (GB g (xW g ρ) (XB g ρ dt) σ) (f_X11_mean σ a1) := by
  refine start_PL (by decide) (Nat.le_of_ble_eq_true rfl) ?_
  intro p e s m args below meth c C0 hG ls hl
  obtain ⟨hK, hP, hDD, hB⟩ := hG
  obtain ⟨hx, hb, hr, hml, hown, hts, hlocks⟩ := id C0
  have hl : lv_has ls 4 [(0, .ref (g.2.2 100)), (1, .int (a1))] := hl
  generalize hT : (f_X11_mean σ a1) = tgt
  unfold f_X11_mean at hT
  obtain ⟨⟨j1, j1'⟩, ⟨j3, j3'⟩, ⟨j5, j5'⟩, ⟨j8, j8'⟩, ⟨j9, j9'⟩, ⟨j12, j12'⟩, ⟨j14, j14'⟩, ⟨j17, j17'⟩, j81, jW⟩ := id hX
  refine lv_aload_n hx hb dX11_mean_0 rfl (lv_at hl 0 rfl) ?_
  refine x_get (σ := σ) (v := .ref (g.2.2 101)) (fs := xF0 g ρ σ) 11 0 C0 uw_11 dc_11 hK hP rfl rfl 0 (by decide) rfl w_229 dX11_mean_1 ?_
  refine x_getN (σ := σ) (v := .int ((σ 28 0))) (fs := xF1 g ρ σ) 5 1 C0 uw_5 dc_5 hK hP rfl rfl 8 (by decide) rfl w_125 dX11_mean_4 ?_
  refine lv_if_ne (tgt := 14) hx hb dX11_mean_7 (by decide) (fun c_7 => ?_) (fun c_7 => ?_)
  · have hT := hT_neg c_7 hT
    refine lv_iconst (v := (0 : Int32)) hx hb dX11_mean_14 (by decide) ?_
    refine lv_istore_n (lv' := [(2, .int ((0 : Int32))), (0, .ref (g.2.2 100)), (1, .int (a1))]) hx hb dX11_mean_15 rfl hl (by decide) rfl (fun ls hl => ?_)
    refine lv_iconst (v := (0 : Int32)) hx hb dX11_mean_16 (by decide) ?_
    refine lv_istore_n (lv' := [(3, .int ((0 : Int32))), (2, .int ((0 : Int32))), (0, .ref (g.2.2 100)), (1, .int (a1))]) hx hb dX11_mean_17 rfl hl (by decide) rfl (fun ls hl => ?_)
    have j17_h3 : 0 ≤ (0 : Int32).toInt := by
      have : ((0 : Int32)).toInt = 0 := by decide
      have := mt ti_eq.mpr c_7
      omega
    have j17_m : ((σ 28 0).toInt - (0 : Int32).toInt).toNat < 7 := by
      have : ((0 : Int32)).toInt = 0 := by decide
      have := mt ti_eq.mpr c_7
      omega
    exact l_X11_mean_18 (g := g) (ρ := ρ) (dt := dt) C0   (7) σ a1 (0 : Int32) (0 : Int32) hX j17_h3 j17_m hK hP hDD hB (lv_sub hl [2, 3, 1, 0] rfl) hT
  · have hT := hT_pos c_7 hT
    refine lv_ldc2 (v := (-9223372036854775808 : Int64)) hx hb C0.2.2.2.2.1 (C0.2.2.2.2.2.1 _ w_804) dX11_mean_10 ?_
    exact ret_PL C0 hT dX11_mean_13
/-! ThreeMeasures.spread -/
theorem dX11_spread_0 : decode cX11_spread 0 = .ok (.bipush (-5), 2) := by decide +kernel
theorem dX11_spread_2 : decode cX11_spread 2 = .ok (.istore_n 1, 1) := by decide +kernel
theorem dX11_spread_3 : decode cX11_spread 3 = .ok (.iconst (-1), 1) := by decide +kernel
theorem dX11_spread_4 : decode cX11_spread 4 = .ok (.istore_n 2, 1) := by decide +kernel
theorem dX11_spread_5 : decode cX11_spread 5 = .ok (.iconst 0, 1) := by decide +kernel
theorem dX11_spread_6 : decode cX11_spread 6 = .ok (.istore_n 3, 1) := by decide +kernel
theorem dX11_spread_7 : decode cX11_spread 7 = .ok (.iload_n 3, 1) := by decide +kernel
theorem dX11_spread_8 : decode cX11_spread 8 = .ok (.aload_n 0, 1) := by decide +kernel
theorem dX11_spread_9 : decode cX11_spread 9 = .ok (.getfield 12, 3) := by decide +kernel
theorem dX11_spread_12 : decode cX11_spread 12 = .ok (.getfield 112, 3) := by decide +kernel
theorem dX11_spread_15 : decode cX11_spread 15 = .ok (.if_icmp .ge 32, 3) := by decide +kernel
theorem dX11_spread_18 : decode cX11_spread 18 = .ok (.aload_n 0, 1) := by decide +kernel
theorem dX11_spread_19 : decode cX11_spread 19 = .ok (.getfield 12, 3) := by decide +kernel
theorem dX11_spread_22 : decode cX11_spread 22 = .ok (.iload_n 3, 1) := by decide +kernel
theorem dX11_spread_23 : decode cX11_spread 23 = .ok (.invokevirtual 125, 3) := by decide +kernel
theorem dX11_spread_26 : decode cX11_spread 26 = .ok (.iload_n 2, 1) := by decide +kernel
theorem dX11_spread_27 : decode cX11_spread 27 = .ok (.if_icmp .le 14, 3) := by decide +kernel
theorem dX11_spread_30 : decode cX11_spread 30 = .ok (.aload_n 0, 1) := by decide +kernel
theorem dX11_spread_31 : decode cX11_spread 31 = .ok (.getfield 12, 3) := by decide +kernel
theorem dX11_spread_34 : decode cX11_spread 34 = .ok (.iload_n 3, 1) := by decide +kernel
theorem dX11_spread_35 : decode cX11_spread 35 = .ok (.invokevirtual 125, 3) := by decide +kernel
theorem dX11_spread_38 : decode cX11_spread 38 = .ok (.istore_n 2, 1) := by decide +kernel
theorem dX11_spread_39 : decode cX11_spread 39 = .ok (.iload_n 3, 1) := by decide +kernel
theorem dX11_spread_40 : decode cX11_spread 40 = .ok (.istore_n 1, 1) := by decide +kernel
theorem dX11_spread_41 : decode cX11_spread 41 = .ok (.iinc 3 1, 3) := by decide +kernel
theorem dX11_spread_44 : decode cX11_spread 44 = .ok (.goto (-37), 3) := by decide +kernel
theorem dX11_spread_47 : decode cX11_spread 47 = .ok (.iload_n 1, 1) := by decide +kernel
theorem dX11_spread_48 : decode cX11_spread 48 = .ok (.ireturn, 1) := by decide +kernel
def f_X11_spread_41 (K7 : St → Int32 → Int32 → Int32 → Int32) (σ : St) (a1 : Int32) (a2 : Int32) (a3 : Int32) : Int32 := (K7 σ a1 a2 (a3 + (1 : Int32)))
set_option maxHeartbeats 600000 in
set_option maxRecDepth 100000 in
theorem b_X11_spread_41 {g : GG} {ρ : RR} {dt : Nat → Nat → Int32} {p : Program} {l : Launch} {e : Env} {s : State} {m : MethodId} {args : Array Value} {below : List Frame} {meth : Method} {c : Code}  {tgt : Int32} {K7 : St → Int32 → Int32 → Int32 → Int32} {N7 : Nat} (C0 : BC p s m args meth c cX11_spread RX11 4 (some .int)) (hK7 : ∀ (σ : St) (a1 : Int32) (a2 : Int32) (a3 : Int32), (IX σ) → (0 ≤ a3.toInt) → ((σ 28 0).toInt - a3.toInt).toNat < N7 → KK g s → va_P g.1 vwCl ((xW g ρ) σ) s.heap → va_D (fun _ => True) ((xW g ρ) σ) → XH g ρ dt s.heap →  ∀ {ls : Array Slot}, lv_has ls 4 [(0, .ref (g.2.2 100)), (1, .int (a1)), (2, .int (a2)), (3, .int (a3))] → K7 σ a1 a2 a3 = tgt → W p l e { frames := 1, cells := 0, slots := 0, locals := 21 } s m args below meth c s.heap [] 0 0 (QPI below args s tgt) (F0 m 7 ls [])) {σ : St} {a1 : Int32} {a2 : Int32} {a3 : Int32}  (hX : IX σ) (h3 : 0 ≤ a3.toInt) (h3b : a3.toInt < (σ 28 0).toInt) (hm7 : ((σ 28 0).toInt - a3.toInt).toNat < N7 + 1)  (hK : KK g s) (hP : va_P g.1 vwCl ((xW g ρ) σ) s.heap) (hDD : va_D (fun _ => True) ((xW g ρ) σ)) (hB : XH g ρ dt s.heap) {ls : Array Slot} (hl : lv_has ls 4 [(0, .ref (g.2.2 100)), (1, .int (a1)), (2, .int (a2)), (3, .int (a3))]) (hT : f_X11_spread_41 K7 σ a1 a2 a3 = tgt) : W p l e { frames := 1, cells := 0, slots := 0, locals := 21 } s m args below meth c s.heap [] 0 0 (QPI below args s tgt) (F0 m 41 ls []) := by
  obtain ⟨hx, hb, hr, hml, hown, hts, hlocks⟩ := id C0
  unfold f_X11_spread_41 at hT
  obtain ⟨⟨j1, j1'⟩, ⟨j3, j3'⟩, ⟨j5, j5'⟩, ⟨j8, j8'⟩, ⟨j9, j9'⟩, ⟨j12, j12'⟩, ⟨j14, j14'⟩, ⟨j17, j17'⟩, j81, jW⟩ := id hX
  refine lv_iinc (v := (a3 + (1 : Int32))) (lv' := [(3, .int ((a3 + (1 : Int32)))), (0, .ref (g.2.2 100)), (1, .int (a1)), (2, .int (a2))]) hx hb dX11_spread_41 hl (k := 3) rfl rfl (by decide) rfl (fun ls hl => ?_)
  refine lv_goto (tgt := 7) hx hb dX11_spread_44 (by decide) ?_
  have j44_h3 : 0 ≤ (a3 + (1 : Int32)).toInt := by
    have : ((1 : Int32)).toInt = 1 := by decide
    try have := ti_add (a := a3) (b := (1 : Int32)) (by omega) (by omega)
    omega
  have j44_m : ((σ 28 0).toInt - (a3 + (1 : Int32)).toInt).toNat < N7 := by
    have : ((1 : Int32)).toInt = 1 := by decide
    try have := ti_add (a := a3) (b := (1 : Int32)) (by omega) (by omega)
    omega
  exact hK7 σ a1 a2 (a3 + (1 : Int32)) hX j44_h3 j44_m hK hP hDD hB (lv_sub hl [1, 2, 3, 0] rfl) hT
def f_X11_spread_7 (K7 : St → Int32 → Int32 → Int32 → Int32) (σ : St) (a1 : Int32) (a2 : Int32) (a3 : Int32) : Int32 := (if (σ 28 0) ≤ a3 then a1 else (if (f_X5_gap σ a3) ≤ a2 then (f_X11_spread_41 K7 σ a1 a2 a3) else (f_X11_spread_41 K7 σ a3 (f_X5_gap σ a3) a3)))
set_option maxHeartbeats 600000 in
set_option maxRecDepth 100000 in
theorem b_X11_spread_7 {g : GG} {ρ : RR} {dt : Nat → Nat → Int32} {p : Program} {l : Launch} {e : Env} {s : State} {m : MethodId} {args : Array Value} {below : List Frame} {meth : Method} {c : Code}  {tgt : Int32} {K7 : St → Int32 → Int32 → Int32 → Int32} {N7 : Nat} (C0 : BC p s m args meth c cX11_spread RX11 4 (some .int)) (hK7 : ∀ (σ : St) (a1 : Int32) (a2 : Int32) (a3 : Int32), (IX σ) → (0 ≤ a3.toInt) → ((σ 28 0).toInt - a3.toInt).toNat < N7 → KK g s → va_P g.1 vwCl ((xW g ρ) σ) s.heap → va_D (fun _ => True) ((xW g ρ) σ) → XH g ρ dt s.heap →  ∀ {ls : Array Slot}, lv_has ls 4 [(0, .ref (g.2.2 100)), (1, .int (a1)), (2, .int (a2)), (3, .int (a3))] → K7 σ a1 a2 a3 = tgt → W p l e { frames := 1, cells := 0, slots := 0, locals := 21 } s m args below meth c s.heap [] 0 0 (QPI below args s tgt) (F0 m 7 ls [])) {σ : St} {a1 : Int32} {a2 : Int32} {a3 : Int32}  (hX : IX σ) (h3 : 0 ≤ a3.toInt) (hm : ((σ 28 0).toInt - a3.toInt).toNat < N7 + 1) (hK : KK g s) (hP : va_P g.1 vwCl ((xW g ρ) σ) s.heap) (hDD : va_D (fun _ => True) ((xW g ρ) σ)) (hB : XH g ρ dt s.heap) {ls : Array Slot} (hl : lv_has ls 4 [(0, .ref (g.2.2 100)), (1, .int (a1)), (2, .int (a2)), (3, .int (a3))]) (hT : f_X11_spread_7 K7 σ a1 a2 a3 = tgt) : W p l e { frames := 1, cells := 0, slots := 0, locals := 21 } s m args below meth c s.heap [] 0 0 (QPI below args s tgt) (F0 m 7 ls []) := by
  obtain ⟨hx, hb, hr, hml, hown, hts, hlocks⟩ := id C0
  unfold f_X11_spread_7 at hT
  obtain ⟨⟨j1, j1'⟩, ⟨j3, j3'⟩, ⟨j5, j5'⟩, ⟨j8, j8'⟩, ⟨j9, j9'⟩, ⟨j12, j12'⟩, ⟨j14, j14'⟩, ⟨j17, j17'⟩, j81, jW⟩ := id hX
  refine lv_iload_n hx hb dX11_spread_7 rfl (lv_at hl 3 rfl) ?_
  refine lv_aload_n hx hb dX11_spread_8 rfl (lv_at hl 0 rfl) ?_
  refine x_get (σ := σ) (v := .ref (g.2.2 101)) (fs := xF0 g ρ σ) 11 0 C0 uw_11 dc_11 hK hP rfl rfl 0 (by decide) rfl w_229 dX11_spread_9 ?_
  refine x_getN (σ := σ) (v := .int ((σ 28 0))) (fs := xF1 g ρ σ) 5 1 C0 uw_5 dc_5 hK hP rfl rfl 8 (by decide) rfl w_125 dX11_spread_12 ?_
  refine lv_icmp_ge (tgt := 47) hx hb dX11_spread_15 (by decide) (fun c_15 => ?_) (fun c_15 => ?_)
  · have hT := hT_pos c_15 hT
    refine lv_iload_n hx hb dX11_spread_47 rfl (lv_at hl 1 rfl) ?_
    exact ret_PI C0 hT dX11_spread_48
  · have hT := hT_neg c_15 hT
    refine lv_aload_n hx hb dX11_spread_18 rfl (lv_at hl 0 rfl) ?_
    refine x_get (σ := σ) (v := .ref (g.2.2 101)) (fs := xF0 g ρ σ) 11 0 C0 uw_11 dc_11 hK hP rfl rfl 0 (by decide) rfl w_229 dX11_spread_19 ?_
    refine lv_iload_n hx hb dX11_spread_22 rfl (lv_at hl 3 rfl) ?_
    have q23_h2 : a3.toInt < 6 := by
      have := mt ti_le.mpr c_15
      omega
    refine x_cn (rest := []) (As := [.int (a3)]) (σ := σ) (ρ := ρ) (dt := dt) (T := TX5) (N := 18) (fs := xF1 g ρ σ) 5 1 rfl rfl C0 hK hP hDD hB cf_X5_gap w_619 (k_X5_gap l g ρ dt σ a3 h3 q23_h2) ⟨by decide, by decide⟩ hl.1 rfl rfl (Nat.le_of_ble_eq_true rfl) dX11_spread_23 ⟨Nat.zero_le _, Nat.zero_le _⟩ ?_
    refine lv_iload_n hx hb dX11_spread_26 rfl (lv_at hl 2 rfl) ?_
    refine lv_icmp_le (tgt := 41) hx hb dX11_spread_27 (by decide) (fun c_27 => ?_) (fun c_27 => ?_)
    · have hT := hT_pos c_27 hT
      have j27_h3b : a3.toInt < (σ 28 0).toInt := by
        have := mt ti_le.mpr c_15
        have := ti_le.mp c_27
        omega
      have j27_hm7 : ((σ 28 0).toInt - a3.toInt).toNat < N7 + 1 := by
        have := mt ti_le.mpr c_15
        have := ti_le.mp c_27
        omega
      exact b_X11_spread_41 (g := g) (ρ := ρ) (dt := dt) (σ := σ) (a1 := a1) (a2 := a2) (a3 := a3) C0 hK7 hX h3 j27_h3b j27_hm7 hK hP hDD hB hl hT
    · have hT := hT_neg c_27 hT
      refine lv_aload_n hx hb dX11_spread_30 rfl (lv_at hl 0 rfl) ?_
      refine x_get (σ := σ) (v := .ref (g.2.2 101)) (fs := xF0 g ρ σ) 11 0 C0 uw_11 dc_11 hK hP rfl rfl 0 (by decide) rfl w_229 dX11_spread_31 ?_
      refine lv_iload_n hx hb dX11_spread_34 rfl (lv_at hl 3 rfl) ?_
      have q35_h2 : a3.toInt < 6 := by
        have := mt ti_le.mpr c_15
        have := mt ti_le.mpr c_27
        omega
      refine x_cn (rest := []) (As := [.int (a3)]) (σ := σ) (ρ := ρ) (dt := dt) (T := TX5) (N := 18) (fs := xF1 g ρ σ) 5 1 rfl rfl C0 hK hP hDD hB cf_X5_gap w_619 (k_X5_gap l g ρ dt σ a3 h3 q35_h2) ⟨by decide, by decide⟩ hl.1 rfl rfl (Nat.le_of_ble_eq_true rfl) dX11_spread_35 ⟨Nat.zero_le _, Nat.zero_le _⟩ ?_
      refine lv_istore_n (lv' := [(2, .int ((f_X5_gap σ a3))), (0, .ref (g.2.2 100)), (1, .int (a1)), (3, .int (a3))]) hx hb dX11_spread_38 rfl hl (by decide) rfl (fun ls hl => ?_)
      refine lv_iload_n hx hb dX11_spread_39 rfl (lv_at hl 3 rfl) ?_
      refine lv_istore_n (lv' := [(1, .int (a3)), (2, .int ((f_X5_gap σ a3))), (0, .ref (g.2.2 100)), (3, .int (a3))]) hx hb dX11_spread_40 rfl hl (by decide) rfl (fun ls hl => ?_)
      have j40_h3b : a3.toInt < (σ 28 0).toInt := by
        have := mt ti_le.mpr c_15
        have := mt ti_le.mpr c_27
        omega
      have j40_hm7 : ((σ 28 0).toInt - a3.toInt).toNat < N7 + 1 := by
        have := mt ti_le.mpr c_15
        have := mt ti_le.mpr c_27
        omega
      exact b_X11_spread_41 (g := g) (ρ := ρ) (dt := dt) (σ := σ) (a1 := a3) (a2 := (f_X5_gap σ a3)) (a3 := a3) C0 hK7 hX h3 j40_h3b j40_hm7 hK hP hDD hB (lv_sub hl [2, 0, 1, 3] rfl) hT
def g_X11_spread_7  : Nat → St → Int32 → Int32 → Int32 → Int32
  | 0 => fun σ a1 a2 a3 => 0
  | n + 1 => fun σ a1 a2 a3 => f_X11_spread_7  (g_X11_spread_7  n) σ a1 a2 a3
theorem l_X11_spread_7 {g : GG} {ρ : RR} {dt : Nat → Nat → Int32} {p : Program} {l : Launch} {e : Env} {s : State} {m : MethodId} {args : Array Value} {below : List Frame} {meth : Method} {c : Code}  {tgt : Int32}  (C0 : BC p s m args meth c cX11_spread RX11 4 (some .int))  : ∀ (n : Nat) (σ : St) (a1 : Int32) (a2 : Int32) (a3 : Int32), (IX σ) → (0 ≤ a3.toInt) → ((σ 28 0).toInt - a3.toInt).toNat < n → KK g s → va_P g.1 vwCl ((xW g ρ) σ) s.heap → va_D (fun _ => True) ((xW g ρ) σ) → XH g ρ dt s.heap →  ∀ {ls : Array Slot}, lv_has ls 4 [(0, .ref (g.2.2 100)), (1, .int (a1)), (2, .int (a2)), (3, .int (a3))] → g_X11_spread_7  n σ a1 a2 a3 = tgt → W p l e { frames := 1, cells := 0, slots := 0, locals := 21 } s m args below meth c s.heap [] 0 0 (QPI below args s tgt) (F0 m 7 ls []) := by
  intro n
  induction n with
  | zero => intro σ a1 a2 a3 hX h3 hm; exact absurd hm (Nat.not_lt_zero _)
  | succ n ih =>
    intro σ a1 a2 a3 hX h3 hm  hK hP hDD hB ls hl hT
    exact b_X11_spread_7 (g := g) (ρ := ρ) (dt := dt) (K7 := g_X11_spread_7  n) (N7 := n) C0  (fun σ a1 a2 a3 hX h3 hm2 => ih σ a1 a2 a3 hX h3 hm2) hX h3 hm hK hP hDD hB hl hT
def f_X11_spread (σ : St) : Int32 := (g_X11_spread_7  (7) σ (-5 : Int32) (-1 : Int32) (0 : Int32))
set_option maxHeartbeats 600000 in
set_option maxRecDepth 100000 in
theorem k_X11_spread (l : Launch) (g : GG) (ρ : RR) (dt : Nat → Nat → Int32) (σ : St) (hX : IX σ) : PI l yX11_spread (wsF yX11_spread cX11_spread 4 (some .int)) { frames := 1, cells := 0, slots := 0, locals := 21 } [.ref (g.2.2 100)] (GB g (xW g ρ) (XB g ρ dt) σ) (f_X11_spread σ) := by
  refine start_PI (by decide) (Nat.le_of_ble_eq_true rfl) ?_
  intro p e s m args below meth c C0 hG ls hl
  obtain ⟨hK, hP, hDD, hB⟩ := hG
  obtain ⟨hx, hb, hr, hml, hown, hts, hlocks⟩ := id C0
  have hl : lv_has ls 4 [(0, .ref (g.2.2 100))] := hl
  generalize hT : (f_X11_spread σ) = tgt
  unfold f_X11_spread at hT
  obtain ⟨⟨j1, j1'⟩, ⟨j3, j3'⟩, ⟨j5, j5'⟩, ⟨j8, j8'⟩, ⟨j9, j9'⟩, ⟨j12, j12'⟩, ⟨j14, j14'⟩, ⟨j17, j17'⟩, j81, jW⟩ := id hX
  refine lv_bipush (v := (-5 : Int32)) hx hb dX11_spread_0 (by decide) ?_
  refine lv_istore_n (lv' := [(1, .int ((-5 : Int32))), (0, .ref (g.2.2 100))]) hx hb dX11_spread_2 rfl hl (by decide) rfl (fun ls hl => ?_)
  refine lv_iconst (v := (-1 : Int32)) hx hb dX11_spread_3 (by decide) ?_
  refine lv_istore_n (lv' := [(2, .int ((-1 : Int32))), (1, .int ((-5 : Int32))), (0, .ref (g.2.2 100))]) hx hb dX11_spread_4 rfl hl (by decide) rfl (fun ls hl => ?_)
  refine lv_iconst (v := (0 : Int32)) hx hb dX11_spread_5 (by decide) ?_
  refine lv_istore_n (lv' := [(3, .int ((0 : Int32))), (2, .int ((-1 : Int32))), (1, .int ((-5 : Int32))), (0, .ref (g.2.2 100))]) hx hb dX11_spread_6 rfl hl (by decide) rfl (fun ls hl => ?_)
  have j6_h3 : 0 ≤ (0 : Int32).toInt := by
    have : ((0 : Int32)).toInt = 0 := by decide
    have : ((-1 : Int32)).toInt = -1 := by decide
    have : ((-5 : Int32)).toInt = -5 := by decide
    omega
  have j6_m : ((σ 28 0).toInt - (0 : Int32).toInt).toNat < 7 := by
    have : ((0 : Int32)).toInt = 0 := by decide
    have : ((-1 : Int32)).toInt = -1 := by decide
    have : ((-5 : Int32)).toInt = -5 := by decide
    omega
  exact l_X11_spread_7 (g := g) (ρ := ρ) (dt := dt) C0   (7) σ (-5 : Int32) (-1 : Int32) (0 : Int32) hX j6_h3 j6_m hK hP hDD hB (lv_sub hl [3, 2, 1, 0] rfl) hT
/-! ThreeMeasures.looked -/
theorem dX11_looked_0 : decode cX11_looked 0 = .ok (.iconst 0, 1) := by decide +kernel
theorem dX11_looked_1 : decode cX11_looked 1 = .ok (.istore_n 1, 1) := by decide +kernel
theorem dX11_looked_2 : decode cX11_looked 2 = .ok (.iload_n 1, 1) := by decide +kernel
theorem dX11_looked_3 : decode cX11_looked 3 = .ok (.aload_n 0, 1) := by decide +kernel
theorem dX11_looked_4 : decode cX11_looked 4 = .ok (.getfield 12, 3) := by decide +kernel
theorem dX11_looked_7 : decode cX11_looked 7 = .ok (.getfield 266, 3) := by decide +kernel
theorem dX11_looked_10 : decode cX11_looked 10 = .ok (.if_icmp .ge 74, 3) := by decide +kernel
theorem dX11_looked_13 : decode cX11_looked 13 = .ok (.aload_n 0, 1) := by decide +kernel
theorem dX11_looked_14 : decode cX11_looked 14 = .ok (.getfield 12, 3) := by decide +kernel
theorem dX11_looked_17 : decode cX11_looked 17 = .ok (.getfield 269, 3) := by decide +kernel
theorem dX11_looked_20 : decode cX11_looked 20 = .ok (.iload_n 1, 1) := by decide +kernel
theorem dX11_looked_21 : decode cX11_looked 21 = .ok (.iaload, 1) := by decide +kernel
theorem dX11_looked_22 : decode cX11_looked 22 = .ok (.istore_n 2, 1) := by decide +kernel
theorem dX11_looked_23 : decode cX11_looked 23 = .ok (.aload_n 0, 1) := by decide +kernel
theorem dX11_looked_24 : decode cX11_looked 24 = .ok (.getfield 12, 3) := by decide +kernel
theorem dX11_looked_27 : decode cX11_looked 27 = .ok (.iload_n 2, 1) := by decide +kernel
theorem dX11_looked_28 : decode cX11_looked 28 = .ok (.invokevirtual 121, 3) := by decide +kernel
theorem dX11_looked_31 : decode cX11_looked 31 = .ok (.ifCond .eq 47, 3) := by decide +kernel
theorem dX11_looked_34 : decode cX11_looked 34 = .ok (.aload_n 0, 1) := by decide +kernel
theorem dX11_looked_35 : decode cX11_looked 35 = .ok (.getfield 12, 3) := by decide +kernel
theorem dX11_looked_38 : decode cX11_looked 38 = .ok (.getfield 272, 3) := by decide +kernel
theorem dX11_looked_41 : decode cX11_looked 41 = .ok (.iload_n 1, 1) := by decide +kernel
theorem dX11_looked_42 : decode cX11_looked 42 = .ok (.iaload, 1) := by decide +kernel
theorem dX11_looked_43 : decode cX11_looked 43 = .ok (.aload_n 0, 1) := by decide +kernel
theorem dX11_looked_44 : decode cX11_looked 44 = .ok (.getfield 12, 3) := by decide +kernel
theorem dX11_looked_47 : decode cX11_looked 47 = .ok (.getfield 115, 3) := by decide +kernel
theorem dX11_looked_50 : decode cX11_looked 50 = .ok (.iload_n 2, 1) := by decide +kernel
theorem dX11_looked_51 : decode cX11_looked 51 = .ok (.iaload, 1) := by decide +kernel
theorem dX11_looked_52 : decode cX11_looked 52 = .ok (.if_icmp .lt 24, 3) := by decide +kernel
theorem dX11_looked_55 : decode cX11_looked 55 = .ok (.aload_n 0, 1) := by decide +kernel
theorem dX11_looked_56 : decode cX11_looked 56 = .ok (.getfield 12, 3) := by decide +kernel
theorem dX11_looked_59 : decode cX11_looked 59 = .ok (.getfield 272, 3) := by decide +kernel
theorem dX11_looked_62 : decode cX11_looked 62 = .ok (.iload_n 1, 1) := by decide +kernel
theorem dX11_looked_63 : decode cX11_looked 63 = .ok (.iaload, 1) := by decide +kernel
theorem dX11_looked_64 : decode cX11_looked 64 = .ok (.aload_n 0, 1) := by decide +kernel
theorem dX11_looked_65 : decode cX11_looked 65 = .ok (.getfield 12, 3) := by decide +kernel
theorem dX11_looked_68 : decode cX11_looked 68 = .ok (.getfield 118, 3) := by decide +kernel
theorem dX11_looked_71 : decode cX11_looked 71 = .ok (.iload_n 2, 1) := by decide +kernel
theorem dX11_looked_72 : decode cX11_looked 72 = .ok (.iaload, 1) := by decide +kernel
theorem dX11_looked_73 : decode cX11_looked 73 = .ok (.if_icmp .le 5, 3) := by decide +kernel
theorem dX11_looked_76 : decode cX11_looked 76 = .ok (.iload_n 1, 1) := by decide +kernel
theorem dX11_looked_77 : decode cX11_looked 77 = .ok (.ireturn, 1) := by decide +kernel
theorem dX11_looked_78 : decode cX11_looked 78 = .ok (.iinc 1 1, 3) := by decide +kernel
theorem dX11_looked_81 : decode cX11_looked 81 = .ok (.goto (-79), 3) := by decide +kernel
theorem dX11_looked_84 : decode cX11_looked 84 = .ok (.bipush (-5), 2) := by decide +kernel
theorem dX11_looked_86 : decode cX11_looked 86 = .ok (.ireturn, 1) := by decide +kernel
def f_X11_looked_78 (K2 : St → Int32 → Int32) (σ : St) (a1 : Int32) : Int32 := (K2 σ (a1 + (1 : Int32)))
set_option maxHeartbeats 600000 in
set_option maxRecDepth 100000 in
theorem b_X11_looked_78 {g : GG} {ρ : RR} {dt : Nat → Nat → Int32} {p : Program} {l : Launch} {e : Env} {s : State} {m : MethodId} {args : Array Value} {below : List Frame} {meth : Method} {c : Code}  {tgt : Int32} {K2 : St → Int32 → Int32} {N2 : Nat} (C0 : BC p s m args meth c cX11_looked RX11 3 (some .int)) (hK2 : ∀ (σ : St) (a1 : Int32), (IX σ) → (0 ≤ a1.toInt) → ((σ 37 0).toInt - a1.toInt).toNat < N2 → KK g s → va_P g.1 vwCl ((xW g ρ) σ) s.heap → va_D (fun _ => True) ((xW g ρ) σ) → XH g ρ dt s.heap →  ∀ {ls : Array Slot}, lv_has ls 3 [(0, .ref (g.2.2 100)), (1, .int (a1))] → K2 σ a1 = tgt → W p l e { frames := 1, cells := 0, slots := 0, locals := 21 } s m args below meth c s.heap [] 0 0 (QPI below args s tgt) (F0 m 2 ls [])) {σ : St} {a1 : Int32}  (hX : IX σ) (h1 : 0 ≤ a1.toInt) (h1b : a1.toInt < (σ 37 0).toInt) (hm2 : ((σ 37 0).toInt - a1.toInt).toNat < N2 + 1)  (hK : KK g s) (hP : va_P g.1 vwCl ((xW g ρ) σ) s.heap) (hDD : va_D (fun _ => True) ((xW g ρ) σ)) (hB : XH g ρ dt s.heap) {ls : Array Slot} (hl : lv_has ls 3 [(0, .ref (g.2.2 100)), (1, .int (a1))]) (hT : f_X11_looked_78 K2 σ a1 = tgt) : W p l e { frames := 1, cells := 0, slots := 0, locals := 21 } s m args below meth c s.heap [] 0 0 (QPI below args s tgt) (F0 m 78 ls []) := by
  obtain ⟨hx, hb, hr, hml, hown, hts, hlocks⟩ := id C0
  unfold f_X11_looked_78 at hT
  obtain ⟨⟨j1, j1'⟩, ⟨j3, j3'⟩, ⟨j5, j5'⟩, ⟨j8, j8'⟩, ⟨j9, j9'⟩, ⟨j12, j12'⟩, ⟨j14, j14'⟩, ⟨j17, j17'⟩, j81, jW⟩ := id hX
  refine lv_iinc (v := (a1 + (1 : Int32))) (lv' := [(1, .int ((a1 + (1 : Int32)))), (0, .ref (g.2.2 100))]) hx hb dX11_looked_78 hl (k := 1) rfl rfl (by decide) rfl (fun ls hl => ?_)
  refine lv_goto (tgt := 2) hx hb dX11_looked_81 (by decide) ?_
  have j81_h1 : 0 ≤ (a1 + (1 : Int32)).toInt := by
    have : ((1 : Int32)).toInt = 1 := by decide
    try have := ti_add (a := a1) (b := (1 : Int32)) (by omega) (by omega)
    omega
  have j81_m : ((σ 37 0).toInt - (a1 + (1 : Int32)).toInt).toNat < N2 := by
    have : ((1 : Int32)).toInt = 1 := by decide
    try have := ti_add (a := a1) (b := (1 : Int32)) (by omega) (by omega)
    omega
  exact hK2 σ (a1 + (1 : Int32)) hX j81_h1 j81_m hK hP hDD hB (lv_sub hl [1, 0] rfl) hT
def f_X11_looked_2 (K2 : St → Int32 → Int32) (σ : St) (a1 : Int32) : Int32 := (if (σ 37 0) ≤ a1 then (-5 : Int32) else (if (f_X5_isWall σ (σ 35 (ix a1))) = 0 then (f_X11_looked_78 K2 σ a1) else (if (σ 36 (ix a1)) < (σ 26 (ix (σ 35 (ix a1)))) then a1 else (if (σ 36 (ix a1)) ≤ (σ 27 (ix (σ 35 (ix a1)))) then (f_X11_looked_78 K2 σ a1) else a1))))
set_option maxHeartbeats 600000 in
set_option maxRecDepth 100000 in
theorem b_X11_looked_2 {g : GG} {ρ : RR} {dt : Nat → Nat → Int32} {p : Program} {l : Launch} {e : Env} {s : State} {m : MethodId} {args : Array Value} {below : List Frame} {meth : Method} {c : Code}  {tgt : Int32} {K2 : St → Int32 → Int32} {N2 : Nat} (C0 : BC p s m args meth c cX11_looked RX11 3 (some .int)) (hK2 : ∀ (σ : St) (a1 : Int32), (IX σ) → (0 ≤ a1.toInt) → ((σ 37 0).toInt - a1.toInt).toNat < N2 → KK g s → va_P g.1 vwCl ((xW g ρ) σ) s.heap → va_D (fun _ => True) ((xW g ρ) σ) → XH g ρ dt s.heap →  ∀ {ls : Array Slot}, lv_has ls 3 [(0, .ref (g.2.2 100)), (1, .int (a1))] → K2 σ a1 = tgt → W p l e { frames := 1, cells := 0, slots := 0, locals := 21 } s m args below meth c s.heap [] 0 0 (QPI below args s tgt) (F0 m 2 ls [])) {σ : St} {a1 : Int32}  (hX : IX σ) (h1 : 0 ≤ a1.toInt) (hm : ((σ 37 0).toInt - a1.toInt).toNat < N2 + 1) (hK : KK g s) (hP : va_P g.1 vwCl ((xW g ρ) σ) s.heap) (hDD : va_D (fun _ => True) ((xW g ρ) σ)) (hB : XH g ρ dt s.heap) {ls : Array Slot} (hl : lv_has ls 3 [(0, .ref (g.2.2 100)), (1, .int (a1))]) (hT : f_X11_looked_2 K2 σ a1 = tgt) : W p l e { frames := 1, cells := 0, slots := 0, locals := 21 } s m args below meth c s.heap [] 0 0 (QPI below args s tgt) (F0 m 2 ls []) := by
  obtain ⟨hx, hb, hr, hml, hown, hts, hlocks⟩ := id C0
  unfold f_X11_looked_2 at hT
  obtain ⟨⟨j1, j1'⟩, ⟨j3, j3'⟩, ⟨j5, j5'⟩, ⟨j8, j8'⟩, ⟨j9, j9'⟩, ⟨j12, j12'⟩, ⟨j14, j14'⟩, ⟨j17, j17'⟩, j81, jW⟩ := id hX
  refine lv_iload_n hx hb dX11_looked_2 rfl (lv_at hl 1 rfl) ?_
  refine lv_aload_n hx hb dX11_looked_3 rfl (lv_at hl 0 rfl) ?_
  refine x_get (σ := σ) (v := .ref (g.2.2 101)) (fs := xF0 g ρ σ) 11 0 C0 uw_11 dc_11 hK hP rfl rfl 0 (by decide) rfl w_229 dX11_looked_4 ?_
  refine x_getN (σ := σ) (v := .int ((σ 37 0))) (fs := xF1 g ρ σ) 5 1 C0 uw_5 dc_5 hK hP rfl rfl 17 (by decide) rfl w_143 dX11_looked_7 ?_
  refine lv_icmp_ge (tgt := 84) hx hb dX11_looked_10 (by decide) (fun c_10 => ?_) (fun c_10 => ?_)
  · have hT := hT_pos c_10 hT
    refine lv_bipush (v := (-5 : Int32)) hx hb dX11_looked_84 (by decide) ?_
    exact ret_PI C0 hT dX11_looked_86
  · have hT := hT_neg c_10 hT
    refine lv_aload_n hx hb dX11_looked_13 rfl (lv_at hl 0 rfl) ?_
    refine x_get (σ := σ) (v := .ref (g.2.2 101)) (fs := xF0 g ρ σ) 11 0 C0 uw_11 dc_11 hK hP rfl rfl 0 (by decide) rfl w_229 dX11_looked_14 ?_
    refine x_getN (σ := σ) (v := .ref (g.2.2 35)) (fs := xF1 g ρ σ) 5 1 C0 uw_5 dc_5 hK hP rfl rfl 15 (by decide) rfl w_139 dX11_looked_17 ?_
    refine lv_iload_n hx hb dX11_looked_20 rfl (lv_at hl 1 rfl) ?_
    have o_21 : vp_in a1 8 := by
      have := mt ti_le.mpr c_10
      exact vin (by omega) (by omega)
    refine x_ald (σ := σ) C0 hK hP 16 35 8 rfl o_21 (ix a1) rfl dX11_looked_21 ?_
    refine lv_istore_n (lv' := [(2, .int ((σ 35 (ix a1)))), (0, .ref (g.2.2 100)), (1, .int (a1))]) hx hb dX11_looked_22 rfl hl (by decide) rfl (fun ls hl => ?_)
    refine lv_aload_n hx hb dX11_looked_23 rfl (lv_at hl 1 rfl) ?_
    refine x_get (σ := σ) (v := .ref (g.2.2 101)) (fs := xF0 g ρ σ) 11 0 C0 uw_11 dc_11 hK hP rfl rfl 0 (by decide) rfl w_229 dX11_looked_24 ?_
    refine lv_iload_n hx hb dX11_looked_27 rfl (lv_at hl 0 rfl) ?_
    refine x_cn (rest := []) (As := [.int ((σ 35 (ix a1)))]) (σ := σ) (ρ := ρ) (dt := dt) (T := TX5) (N := 18) (fs := xF1 g ρ σ) 5 1 rfl rfl C0 hK hP hDD hB cf_X5_isWall w_615 (k_X5_isWall l g ρ dt σ (σ 35 (ix a1)) ) ⟨by decide, by decide⟩ hl.1 rfl rfl (Nat.le_of_ble_eq_true rfl) dX11_looked_28 ⟨Nat.zero_le _, Nat.zero_le _⟩ ?_
    refine lv_if_eq (tgt := 78) hx hb dX11_looked_31 (by decide) (fun c_31 => ?_) (fun c_31 => ?_)
    · have hT := hT_pos c_31 hT
      have j31_h1b : a1.toInt < (σ 37 0).toInt := by
        have := mt ti_le.mpr c_10
        have := xw_eq c_31
        omega
      have j31_hm2 : ((σ 37 0).toInt - a1.toInt).toNat < N2 + 1 := by
        have := mt ti_le.mpr c_10
        have := xw_eq c_31
        omega
      exact b_X11_looked_78 (g := g) (ρ := ρ) (dt := dt) (σ := σ) (a1 := a1) C0 hK2 hX h1 j31_h1b j31_hm2 hK hP hDD hB (lv_sub hl [1, 2] rfl) hT
    · have hT := hT_neg c_31 hT
      refine lv_aload_n hx hb dX11_looked_34 rfl (lv_at hl 1 rfl) ?_
      refine x_get (σ := σ) (v := .ref (g.2.2 101)) (fs := xF0 g ρ σ) 11 0 C0 uw_11 dc_11 hK hP rfl rfl 0 (by decide) rfl w_229 dX11_looked_35 ?_
      refine x_getN (σ := σ) (v := .ref (g.2.2 36)) (fs := xF1 g ρ σ) 5 1 C0 uw_5 dc_5 hK hP rfl rfl 16 (by decide) rfl w_141 dX11_looked_38 ?_
      refine lv_iload_n hx hb dX11_looked_41 rfl (lv_at hl 2 rfl) ?_
      have o_42 : vp_in a1 8 := by
        have := mt ti_le.mpr c_10
        have := xw_ne c_31
        exact vin (by omega) (by omega)
      refine x_ald (σ := σ) C0 hK hP 17 36 8 rfl o_42 (ix a1) rfl dX11_looked_42 ?_
      refine lv_aload_n hx hb dX11_looked_43 rfl (lv_at hl 1 rfl) ?_
      refine x_get (σ := σ) (v := .ref (g.2.2 101)) (fs := xF0 g ρ σ) 11 0 C0 uw_11 dc_11 hK hP rfl rfl 0 (by decide) rfl w_229 dX11_looked_44 ?_
      refine x_getN (σ := σ) (v := .ref (g.2.2 26)) (fs := xF1 g ρ σ) 5 1 C0 uw_5 dc_5 hK hP rfl rfl 6 (by decide) rfl w_121 dX11_looked_47 ?_
      refine lv_iload_n hx hb dX11_looked_50 rfl (lv_at hl 0 rfl) ?_
      have o_51 : vp_in (σ 35 (ix a1)) 6 := by
        have := mt ti_le.mpr c_10
        have := xw_ne c_31
        exact vin (by omega) (by omega)
      refine x_ald (σ := σ) C0 hK hP 11 26 6 rfl o_51 (ix (σ 35 (ix a1))) rfl dX11_looked_51 ?_
      refine lv_icmp_lt (tgt := 76) hx hb dX11_looked_52 (by decide) (fun c_52 => ?_) (fun c_52 => ?_)
      · have hT := hT_pos c_52 hT
        refine lv_iload_n hx hb dX11_looked_76 rfl (lv_at hl 2 rfl) ?_
        exact ret_PI C0 hT dX11_looked_77
      · have hT := hT_neg c_52 hT
        refine lv_aload_n hx hb dX11_looked_55 rfl (lv_at hl 1 rfl) ?_
        refine x_get (σ := σ) (v := .ref (g.2.2 101)) (fs := xF0 g ρ σ) 11 0 C0 uw_11 dc_11 hK hP rfl rfl 0 (by decide) rfl w_229 dX11_looked_56 ?_
        refine x_getN (σ := σ) (v := .ref (g.2.2 36)) (fs := xF1 g ρ σ) 5 1 C0 uw_5 dc_5 hK hP rfl rfl 16 (by decide) rfl w_141 dX11_looked_59 ?_
        refine lv_iload_n hx hb dX11_looked_62 rfl (lv_at hl 2 rfl) ?_
        have o_63 : vp_in a1 8 := by
          have := mt ti_le.mpr c_10
          have := xw_ne c_31
          have := mt ti_lt.mpr c_52
          exact vin (by omega) (by omega)
        refine x_ald (σ := σ) C0 hK hP 17 36 8 rfl o_63 (ix a1) rfl dX11_looked_63 ?_
        refine lv_aload_n hx hb dX11_looked_64 rfl (lv_at hl 1 rfl) ?_
        refine x_get (σ := σ) (v := .ref (g.2.2 101)) (fs := xF0 g ρ σ) 11 0 C0 uw_11 dc_11 hK hP rfl rfl 0 (by decide) rfl w_229 dX11_looked_65 ?_
        refine x_getN (σ := σ) (v := .ref (g.2.2 27)) (fs := xF1 g ρ σ) 5 1 C0 uw_5 dc_5 hK hP rfl rfl 7 (by decide) rfl w_123 dX11_looked_68 ?_
        refine lv_iload_n hx hb dX11_looked_71 rfl (lv_at hl 0 rfl) ?_
        have o_72 : vp_in (σ 35 (ix a1)) 6 := by
          have := mt ti_le.mpr c_10
          have := xw_ne c_31
          have := mt ti_lt.mpr c_52
          exact vin (by omega) (by omega)
        refine x_ald (σ := σ) C0 hK hP 12 27 6 rfl o_72 (ix (σ 35 (ix a1))) rfl dX11_looked_72 ?_
        refine lv_icmp_le (tgt := 78) hx hb dX11_looked_73 (by decide) (fun c_73 => ?_) (fun c_73 => ?_)
        · have hT := hT_pos c_73 hT
          have j73_h1b : a1.toInt < (σ 37 0).toInt := by
            have := mt ti_le.mpr c_10
            have := xw_ne c_31
            have := mt ti_lt.mpr c_52
            have := ti_le.mp c_73
            omega
          have j73_hm2 : ((σ 37 0).toInt - a1.toInt).toNat < N2 + 1 := by
            have := mt ti_le.mpr c_10
            have := xw_ne c_31
            have := mt ti_lt.mpr c_52
            have := ti_le.mp c_73
            omega
          exact b_X11_looked_78 (g := g) (ρ := ρ) (dt := dt) (σ := σ) (a1 := a1) C0 hK2 hX h1 j73_h1b j73_hm2 hK hP hDD hB (lv_sub hl [1, 2] rfl) hT
        · have hT := hT_neg c_73 hT
          refine lv_iload_n hx hb dX11_looked_76 rfl (lv_at hl 2 rfl) ?_
          exact ret_PI C0 hT dX11_looked_77
def g_X11_looked_2  : Nat → St → Int32 → Int32
  | 0 => fun σ a1 => 0
  | n + 1 => fun σ a1 => f_X11_looked_2  (g_X11_looked_2  n) σ a1
theorem l_X11_looked_2 {g : GG} {ρ : RR} {dt : Nat → Nat → Int32} {p : Program} {l : Launch} {e : Env} {s : State} {m : MethodId} {args : Array Value} {below : List Frame} {meth : Method} {c : Code}  {tgt : Int32}  (C0 : BC p s m args meth c cX11_looked RX11 3 (some .int))  : ∀ (n : Nat) (σ : St) (a1 : Int32), (IX σ) → (0 ≤ a1.toInt) → ((σ 37 0).toInt - a1.toInt).toNat < n → KK g s → va_P g.1 vwCl ((xW g ρ) σ) s.heap → va_D (fun _ => True) ((xW g ρ) σ) → XH g ρ dt s.heap →  ∀ {ls : Array Slot}, lv_has ls 3 [(0, .ref (g.2.2 100)), (1, .int (a1))] → g_X11_looked_2  n σ a1 = tgt → W p l e { frames := 1, cells := 0, slots := 0, locals := 21 } s m args below meth c s.heap [] 0 0 (QPI below args s tgt) (F0 m 2 ls []) := by
  intro n
  induction n with
  | zero => intro σ a1 hX h1 hm; exact absurd hm (Nat.not_lt_zero _)
  | succ n ih =>
    intro σ a1 hX h1 hm  hK hP hDD hB ls hl hT
    exact b_X11_looked_2 (g := g) (ρ := ρ) (dt := dt) (K2 := g_X11_looked_2  n) (N2 := n) C0  (fun σ a1 hX h1 hm2 => ih σ a1 hX h1 hm2) hX h1 hm hK hP hDD hB hl hT
def f_X11_looked (σ : St) : Int32 := (g_X11_looked_2  (9) σ (0 : Int32))
set_option maxHeartbeats 600000 in
set_option maxRecDepth 100000 in
theorem k_X11_looked (l : Launch) (g : GG) (ρ : RR) (dt : Nat → Nat → Int32) (σ : St) (hX : IX σ) : PI l yX11_looked (wsF yX11_looked cX11_looked 3 (some .int)) { frames := 1, cells := 0, slots := 0, locals := 21 } [.ref (g.2.2 100)] (GB g (xW g ρ) (XB g ρ dt) σ) (f_X11_looked σ) := by
  refine start_PI (by decide) (Nat.le_of_ble_eq_true rfl) ?_
  intro p e s m args below meth c C0 hG ls hl
  obtain ⟨hK, hP, hDD, hB⟩ := hG
  obtain ⟨hx, hb, hr, hml, hown, hts, hlocks⟩ := id C0
  have hl : lv_has ls 3 [(0, .ref (g.2.2 100))] := hl
  generalize hT : (f_X11_looked σ) = tgt
  unfold f_X11_looked at hT
  obtain ⟨⟨j1, j1'⟩, ⟨j3, j3'⟩, ⟨j5, j5'⟩, ⟨j8, j8'⟩, ⟨j9, j9'⟩, ⟨j12, j12'⟩, ⟨j14, j14'⟩, ⟨j17, j17'⟩, j81, jW⟩ := id hX
  refine lv_iconst (v := (0 : Int32)) hx hb dX11_looked_0 (by decide) ?_
  refine lv_istore_n (lv' := [(1, .int ((0 : Int32))), (0, .ref (g.2.2 100))]) hx hb dX11_looked_1 rfl hl (by decide) rfl (fun ls hl => ?_)
  have j1_h1 : 0 ≤ (0 : Int32).toInt := by
    have : ((0 : Int32)).toInt = 0 := by decide
    omega
  have j1_m : ((σ 37 0).toInt - (0 : Int32).toInt).toNat < 9 := by
    have : ((0 : Int32)).toInt = 0 := by decide
    omega
  exact l_X11_looked_2 (g := g) (ρ := ρ) (dt := dt) C0   (9) σ (0 : Int32) hX j1_h1 j1_m hK hP hDD hB (lv_sub hl [1, 0] rfl) hT
/-! ThreeMeasures.root -/
theorem dX11_root_0 : decode cX11_root 0 = .ok (.iload_n 0, 1) := by decide +kernel
theorem dX11_root_1 : decode cX11_root 1 = .ok (.ifCond .ge 5, 3) := by decide +kernel
theorem dX11_root_4 : decode cX11_root 4 = .ok (.iconst (-1), 1) := by decide +kernel
theorem dX11_root_5 : decode cX11_root 5 = .ok (.ireturn, 1) := by decide +kernel
theorem dX11_root_6 : decode cX11_root 6 = .ok (.iconst 0, 1) := by decide +kernel
theorem dX11_root_7 : decode cX11_root 7 = .ok (.istore_n 1, 1) := by decide +kernel
theorem dX11_root_8 : decode cX11_root 8 = .ok (.sipush 1024, 3) := by decide +kernel
theorem dX11_root_11 : decode cX11_root 11 = .ok (.istore_n 2, 1) := by decide +kernel
theorem dX11_root_12 : decode cX11_root 12 = .ok (.iload_n 2, 1) := by decide +kernel
theorem dX11_root_13 : decode cX11_root 13 = .ok (.ifCond .le 25, 3) := by decide +kernel
theorem dX11_root_16 : decode cX11_root 16 = .ok (.iload_n 1, 1) := by decide +kernel
theorem dX11_root_17 : decode cX11_root 17 = .ok (.iload_n 2, 1) := by decide +kernel
theorem dX11_root_18 : decode cX11_root 18 = .ok (.iadd, 1) := by decide +kernel
theorem dX11_root_19 : decode cX11_root 19 = .ok (.iload_n 1, 1) := by decide +kernel
theorem dX11_root_20 : decode cX11_root 20 = .ok (.iload_n 2, 1) := by decide +kernel
theorem dX11_root_21 : decode cX11_root 21 = .ok (.iadd, 1) := by decide +kernel
theorem dX11_root_22 : decode cX11_root 22 = .ok (.imul, 1) := by decide +kernel
theorem dX11_root_23 : decode cX11_root 23 = .ok (.iload_n 0, 1) := by decide +kernel
theorem dX11_root_24 : decode cX11_root 24 = .ok (.if_icmp .gt 7, 3) := by decide +kernel
theorem dX11_root_27 : decode cX11_root 27 = .ok (.iload_n 1, 1) := by decide +kernel
theorem dX11_root_28 : decode cX11_root 28 = .ok (.iload_n 2, 1) := by decide +kernel
theorem dX11_root_29 : decode cX11_root 29 = .ok (.iadd, 1) := by decide +kernel
theorem dX11_root_30 : decode cX11_root 30 = .ok (.istore_n 1, 1) := by decide +kernel
theorem dX11_root_31 : decode cX11_root 31 = .ok (.iload_n 2, 1) := by decide +kernel
theorem dX11_root_32 : decode cX11_root 32 = .ok (.iconst 1, 1) := by decide +kernel
theorem dX11_root_33 : decode cX11_root 33 = .ok (.ishr, 1) := by decide +kernel
theorem dX11_root_34 : decode cX11_root 34 = .ok (.istore_n 2, 1) := by decide +kernel
theorem dX11_root_35 : decode cX11_root 35 = .ok (.goto (-23), 3) := by decide +kernel
theorem dX11_root_38 : decode cX11_root 38 = .ok (.iload_n 1, 1) := by decide +kernel
theorem dX11_root_39 : decode cX11_root 39 = .ok (.ireturn, 1) := by decide +kernel
def f_X11_root_31 (K12 : Int32 → Int32 → Int32 → Int32) (a0 : Int32) (a1 : Int32) (a2 : Int32) : Int32 := (K12 a0 a1 (a2 >>> ((1 : Int32) &&& 31)))
set_option maxHeartbeats 600000 in
set_option maxRecDepth 100000 in
theorem b_X11_root_31  {p : Program} {l : Launch} {e : Env} {s : State} {m : MethodId} {args : Array Value} {below : List Frame} {meth : Method} {c : Code}  {tgt : Int32} {K12 : Int32 → Int32 → Int32 → Int32} {N12 : Nat} (C0 : BC p s m args meth c cX11_root RX11 3 (some .int)) (hK12 : ∀ (a0 : Int32) (a1 : Int32) (a2 : Int32), (0 ≤ a2.toInt) → a2.toInt.toNat < N12 →  ∀ {ls : Array Slot}, lv_has ls 3 [(0, .int (a0)), (1, .int (a1)), (2, .int (a2))] → K12 a0 a1 a2 = tgt → W p l e { frames := 0, cells := 0, slots := 0, locals := 0 } s m args below meth c s.heap [] 0 0 (QPI below args s tgt) (F0 m 12 ls [])) {a0 : Int32} {a1 : Int32} {a2 : Int32}  (h2 : 0 ≤ a2.toInt) (h2b : 0 < a2.toInt) (hm12 : a2.toInt.toNat < N12 + 1)   {ls : Array Slot} (hl : lv_has ls 3 [(0, .int (a0)), (1, .int (a1)), (2, .int (a2))]) (hT : f_X11_root_31 K12 a0 a1 a2 = tgt) : W p l e { frames := 0, cells := 0, slots := 0, locals := 0 } s m args below meth c s.heap [] 0 0 (QPI below args s tgt) (F0 m 31 ls []) := by
  obtain ⟨hx, hb, hr, hml, hown, hts, hlocks⟩ := id C0
  unfold f_X11_root_31 at hT
  refine lv_iload_n hx hb dX11_root_31 rfl (lv_at hl 2 rfl) ?_
  refine lv_iconst (v := (1 : Int32)) hx hb dX11_root_32 (by decide) ?_
  refine lv_ishr hx hb dX11_root_33 ?_
  refine lv_istore_n (lv' := [(2, .int ((a2 >>> ((1 : Int32) &&& 31)))), (0, .int (a0)), (1, .int (a1))]) hx hb dX11_root_34 rfl hl (by decide) rfl (fun ls hl => ?_)
  refine lv_goto (tgt := 12) hx hb dX11_root_35 (by decide) ?_
  have j35_h2 : 0 ≤ (a2 >>> ((1 : Int32) &&& 31)).toInt := (by rw [shr1 h2]; omega)
  have j35_m : (a2 >>> ((1 : Int32) &&& 31)).toInt.toNat < N12 := by
    rw [shr1 h2]; omega
  exact hK12 a0 a1 (a2 >>> ((1 : Int32) &&& 31)) j35_h2 j35_m  (lv_sub hl [1, 2, 0] rfl) hT
def f_X11_root_12 (K12 : Int32 → Int32 → Int32 → Int32) (a0 : Int32) (a1 : Int32) (a2 : Int32) : Int32 := (if a2 ≤ 0 then a1 else (if a0 < ((a1 + a2) * (a1 + a2)) then (f_X11_root_31 K12 a0 a1 a2) else (f_X11_root_31 K12 a0 (a1 + a2) a2)))
set_option maxHeartbeats 600000 in
set_option maxRecDepth 100000 in
theorem b_X11_root_12  {p : Program} {l : Launch} {e : Env} {s : State} {m : MethodId} {args : Array Value} {below : List Frame} {meth : Method} {c : Code}  {tgt : Int32} {K12 : Int32 → Int32 → Int32 → Int32} {N12 : Nat} (C0 : BC p s m args meth c cX11_root RX11 3 (some .int)) (hK12 : ∀ (a0 : Int32) (a1 : Int32) (a2 : Int32), (0 ≤ a2.toInt) → a2.toInt.toNat < N12 →  ∀ {ls : Array Slot}, lv_has ls 3 [(0, .int (a0)), (1, .int (a1)), (2, .int (a2))] → K12 a0 a1 a2 = tgt → W p l e { frames := 0, cells := 0, slots := 0, locals := 0 } s m args below meth c s.heap [] 0 0 (QPI below args s tgt) (F0 m 12 ls [])) {a0 : Int32} {a1 : Int32} {a2 : Int32}  (h2 : 0 ≤ a2.toInt) (hm : a2.toInt.toNat < N12 + 1)  {ls : Array Slot} (hl : lv_has ls 3 [(0, .int (a0)), (1, .int (a1)), (2, .int (a2))]) (hT : f_X11_root_12 K12 a0 a1 a2 = tgt) : W p l e { frames := 0, cells := 0, slots := 0, locals := 0 } s m args below meth c s.heap [] 0 0 (QPI below args s tgt) (F0 m 12 ls []) := by
  obtain ⟨hx, hb, hr, hml, hown, hts, hlocks⟩ := id C0
  unfold f_X11_root_12 at hT
  refine lv_iload_n hx hb dX11_root_12 rfl (lv_at hl 2 rfl) ?_
  refine lv_if_le (tgt := 38) hx hb dX11_root_13 (by decide) (fun c_13 => ?_) (fun c_13 => ?_)
  · have hT := hT_pos c_13 hT
    refine lv_iload_n hx hb dX11_root_38 rfl (lv_at hl 1 rfl) ?_
    exact ret_PI C0 hT dX11_root_39
  · have hT := hT_neg c_13 hT
    refine lv_iload_n hx hb dX11_root_16 rfl (lv_at hl 1 rfl) ?_
    refine lv_iload_n hx hb dX11_root_17 rfl (lv_at hl 2 rfl) ?_
    refine lv_iadd hx hb dX11_root_18 ?_
    refine lv_iload_n hx hb dX11_root_19 rfl (lv_at hl 1 rfl) ?_
    refine lv_iload_n hx hb dX11_root_20 rfl (lv_at hl 2 rfl) ?_
    refine lv_iadd hx hb dX11_root_21 ?_
    refine lv_imul hx hb dX11_root_22 ?_
    refine lv_iload_n hx hb dX11_root_23 rfl (lv_at hl 0 rfl) ?_
    refine lv_icmp_gt (tgt := 31) hx hb dX11_root_24 (by decide) (fun c_24 => ?_) (fun c_24 => ?_)
    · have hT := hT_pos c_24 hT
      have j24_h2b : 0 < a2.toInt := by
        have : ((0 : Int32)).toInt = 0 := by decide
        have := mt ti_le.mpr c_13
        have := ti_lt.mp c_24
        try have := ti_add (a := a1) (b := a2) (by omega) (by omega)
        omega
      have j24_hm12 : a2.toInt.toNat < N12 + 1 := by
        have : ((0 : Int32)).toInt = 0 := by decide
        have := mt ti_le.mpr c_13
        have := ti_lt.mp c_24
        try have := ti_add (a := a1) (b := a2) (by omega) (by omega)
        omega
      exact b_X11_root_31  (a0 := a0) (a1 := a1) (a2 := a2) C0 hK12 h2 j24_h2b j24_hm12  hl hT
    · have hT := hT_neg c_24 hT
      refine lv_iload_n hx hb dX11_root_27 rfl (lv_at hl 1 rfl) ?_
      refine lv_iload_n hx hb dX11_root_28 rfl (lv_at hl 2 rfl) ?_
      refine lv_iadd hx hb dX11_root_29 ?_
      refine lv_istore_n (lv' := [(1, .int ((a1 + a2))), (0, .int (a0)), (2, .int (a2))]) hx hb dX11_root_30 rfl hl (by decide) rfl (fun ls hl => ?_)
      have j30_h2b : 0 < a2.toInt := by
        have : ((0 : Int32)).toInt = 0 := by decide
        have := mt ti_le.mpr c_13
        have := mt ti_lt.mpr c_24
        try have := ti_add (a := a1) (b := a2) (by omega) (by omega)
        omega
      have j30_hm12 : a2.toInt.toNat < N12 + 1 := by
        have : ((0 : Int32)).toInt = 0 := by decide
        have := mt ti_le.mpr c_13
        have := mt ti_lt.mpr c_24
        try have := ti_add (a := a1) (b := a2) (by omega) (by omega)
        omega
      exact b_X11_root_31  (a0 := a0) (a1 := (a1 + a2)) (a2 := a2) C0 hK12 h2 j30_h2b j30_hm12  (lv_sub hl [1, 0, 2] rfl) hT
def g_X11_root_12  : Nat → Int32 → Int32 → Int32 → Int32
  | 0 => fun a0 a1 a2 => 0
  | n + 1 => fun a0 a1 a2 => f_X11_root_12  (g_X11_root_12  n) a0 a1 a2
theorem l_X11_root_12  {p : Program} {l : Launch} {e : Env} {s : State} {m : MethodId} {args : Array Value} {below : List Frame} {meth : Method} {c : Code}  {tgt : Int32}  (C0 : BC p s m args meth c cX11_root RX11 3 (some .int))  : ∀ (n : Nat) (a0 : Int32) (a1 : Int32) (a2 : Int32), (0 ≤ a2.toInt) → a2.toInt.toNat < n →  ∀ {ls : Array Slot}, lv_has ls 3 [(0, .int (a0)), (1, .int (a1)), (2, .int (a2))] → g_X11_root_12  n a0 a1 a2 = tgt → W p l e { frames := 0, cells := 0, slots := 0, locals := 0 } s m args below meth c s.heap [] 0 0 (QPI below args s tgt) (F0 m 12 ls []) := by
  intro n
  induction n with
  | zero => intro a0 a1 a2 h2 hm; exact absurd hm (Nat.not_lt_zero _)
  | succ n ih =>
    intro a0 a1 a2 h2 hm   ls hl hT
    exact b_X11_root_12  (K12 := g_X11_root_12  n) (N12 := n) C0  (fun a0 a1 a2 h2 hm2 => ih a0 a1 a2 h2 hm2) h2 hm  hl hT
def f_X11_root (a0 : Int32) : Int32 := (if 0 ≤ a0 then (g_X11_root_12  (1025) a0 (0 : Int32) (1024 : Int32)) else (-1 : Int32))
set_option maxHeartbeats 600000 in
set_option maxRecDepth 100000 in
theorem k_X11_root (l : Launch)  (a0 : Int32)  : PI l yX11_root (wsF yX11_root cX11_root 3 (some .int)) { frames := 0, cells := 0, slots := 0, locals := 0 } [.int (a0)] (fun _ => True) (f_X11_root a0) := by
  refine start_PI (by decide) (Nat.le_of_ble_eq_true rfl) ?_
  intro p e s m args below meth c C0 hG ls hl
  obtain ⟨hx, hb, hr, hml, hown, hts, hlocks⟩ := id C0
  have hl : lv_has ls 3 [(0, .int (a0))] := hl
  generalize hT : (f_X11_root a0) = tgt
  unfold f_X11_root at hT
  refine lv_iload_n hx hb dX11_root_0 rfl (lv_at hl 0 rfl) ?_
  refine lv_if_ge (tgt := 6) hx hb dX11_root_1 (by decide) (fun c_1 => ?_) (fun c_1 => ?_)
  · have hT := hT_pos c_1 hT
    refine lv_iconst (v := (0 : Int32)) hx hb dX11_root_6 (by decide) ?_
    refine lv_istore_n (lv' := [(1, .int ((0 : Int32))), (0, .int (a0))]) hx hb dX11_root_7 rfl hl (by decide) rfl (fun ls hl => ?_)
    refine lv_sipush (v := (1024 : Int32)) hx hb dX11_root_8 (by decide) ?_
    refine lv_istore_n (lv' := [(2, .int ((1024 : Int32))), (1, .int ((0 : Int32))), (0, .int (a0))]) hx hb dX11_root_11 rfl hl (by decide) rfl (fun ls hl => ?_)
    have j11_h2 : 0 ≤ (1024 : Int32).toInt := by
      have : ((0 : Int32)).toInt = 0 := by decide
      have : ((1024 : Int32)).toInt = 1024 := by decide
      have := ti_le.mp c_1
      omega
    have j11_m : (1024 : Int32).toInt.toNat < 1025 := by
      have : ((0 : Int32)).toInt = 0 := by decide
      have : ((1024 : Int32)).toInt = 1024 := by decide
      have := ti_le.mp c_1
      omega
    exact l_X11_root_12  C0   (1025) a0 (0 : Int32) (1024 : Int32) j11_h2 j11_m  (lv_sub hl [2, 1, 0] rfl) hT
  · have hT := hT_neg c_1 hT
    refine lv_iconst (v := (-1 : Int32)) hx hb dX11_root_4 (by decide) ?_
    exact ret_PI C0 hT dX11_root_5
set_option maxRecDepth 20000 in
theorem w_755 : (Cond.methodLink RX11 206 yX11_root) ∈ TB := inTB (List.mem_of_getElem? (i := 755) (by decide +kernel)) (by decide +kernel)
set_option maxRecDepth 20000 in
theorem w_757 : (Cond.code yX11_root cX11_root 3 (some .int)) ∈ TB := inTB (List.mem_of_getElem? (i := 757) (by decide +kernel)) (by decide +kernel)
set_option maxRecDepth 20000 in
theorem w_756 : (Cond.static yX11_root) ∈ TB := inTB (List.mem_of_getElem? (i := 756) (by decide +kernel)) (by decide +kernel)
theorem cf_X11_root : CG yX11_root cX11_root 3 (some .int) 1 := ⟨w_756, w_71, w_757, by decide +kernel, by decide +kernel, by decide +kernel⟩
/-! ThreeMeasures.canBeCorner -/
theorem dX11_canBeCorner_0 : decode cX11_canBeCorner 0 = .ok (.aload_n 0, 1) := by decide +kernel
theorem dX11_canBeCorner_1 : decode cX11_canBeCorner 1 = .ok (.getfield 12, 3) := by decide +kernel
theorem dX11_canBeCorner_4 : decode cX11_canBeCorner 4 = .ok (.getfield 115, 3) := by decide +kernel
theorem dX11_canBeCorner_7 : decode cX11_canBeCorner 7 = .ok (.iload_n 3, 1) := by decide +kernel
theorem dX11_canBeCorner_8 : decode cX11_canBeCorner 8 = .ok (.iaload, 1) := by decide +kernel
theorem dX11_canBeCorner_9 : decode cX11_canBeCorner 9 = .ok (.aload_n 0, 1) := by decide +kernel
theorem dX11_canBeCorner_10 : decode cX11_canBeCorner 10 = .ok (.getfield 12, 3) := by decide +kernel
theorem dX11_canBeCorner_13 : decode cX11_canBeCorner 13 = .ok (.getfield 115, 3) := by decide +kernel
theorem dX11_canBeCorner_16 : decode cX11_canBeCorner 16 = .ok (.iload_n 3, 1) := by decide +kernel
theorem dX11_canBeCorner_17 : decode cX11_canBeCorner 17 = .ok (.iaload, 1) := by decide +kernel
theorem dX11_canBeCorner_18 : decode cX11_canBeCorner 18 = .ok (.imul, 1) := by decide +kernel
theorem dX11_canBeCorner_19 : decode cX11_canBeCorner 19 = .ok (.istore 4, 2) := by decide +kernel
theorem dX11_canBeCorner_21 : decode cX11_canBeCorner 21 = .ok (.aload_n 0, 1) := by decide +kernel
theorem dX11_canBeCorner_22 : decode cX11_canBeCorner 22 = .ok (.getfield 12, 3) := by decide +kernel
theorem dX11_canBeCorner_25 : decode cX11_canBeCorner 25 = .ok (.getfield 118, 3) := by decide +kernel
theorem dX11_canBeCorner_28 : decode cX11_canBeCorner 28 = .ok (.iload_n 3, 1) := by decide +kernel
theorem dX11_canBeCorner_29 : decode cX11_canBeCorner 29 = .ok (.iaload, 1) := by decide +kernel
theorem dX11_canBeCorner_30 : decode cX11_canBeCorner 30 = .ok (.aload_n 0, 1) := by decide +kernel
theorem dX11_canBeCorner_31 : decode cX11_canBeCorner 31 = .ok (.getfield 12, 3) := by decide +kernel
theorem dX11_canBeCorner_34 : decode cX11_canBeCorner 34 = .ok (.getfield 118, 3) := by decide +kernel
theorem dX11_canBeCorner_37 : decode cX11_canBeCorner 37 = .ok (.iload_n 3, 1) := by decide +kernel
theorem dX11_canBeCorner_38 : decode cX11_canBeCorner 38 = .ok (.iaload, 1) := by decide +kernel
theorem dX11_canBeCorner_39 : decode cX11_canBeCorner 39 = .ok (.imul, 1) := by decide +kernel
theorem dX11_canBeCorner_40 : decode cX11_canBeCorner 40 = .ok (.istore 5, 2) := by decide +kernel
theorem dX11_canBeCorner_42 : decode cX11_canBeCorner 42 = .ok (.aload_n 0, 1) := by decide +kernel
theorem dX11_canBeCorner_43 : decode cX11_canBeCorner 43 = .ok (.getfield 12, 3) := by decide +kernel
theorem dX11_canBeCorner_46 : decode cX11_canBeCorner 46 = .ok (.getfield 115, 3) := by decide +kernel
theorem dX11_canBeCorner_49 : decode cX11_canBeCorner 49 = .ok (.iload_n 1, 1) := by decide +kernel
theorem dX11_canBeCorner_50 : decode cX11_canBeCorner 50 = .ok (.iaload, 1) := by decide +kernel
theorem dX11_canBeCorner_51 : decode cX11_canBeCorner 51 = .ok (.istore 6, 2) := by decide +kernel
theorem dX11_canBeCorner_53 : decode cX11_canBeCorner 53 = .ok (.iload 6, 2) := by decide +kernel
theorem dX11_canBeCorner_55 : decode cX11_canBeCorner 55 = .ok (.aload_n 0, 1) := by decide +kernel
theorem dX11_canBeCorner_56 : decode cX11_canBeCorner 56 = .ok (.getfield 12, 3) := by decide +kernel
theorem dX11_canBeCorner_59 : decode cX11_canBeCorner 59 = .ok (.getfield 118, 3) := by decide +kernel
theorem dX11_canBeCorner_62 : decode cX11_canBeCorner 62 = .ok (.iload_n 1, 1) := by decide +kernel
theorem dX11_canBeCorner_63 : decode cX11_canBeCorner 63 = .ok (.iaload, 1) := by decide +kernel
theorem dX11_canBeCorner_64 : decode cX11_canBeCorner 64 = .ok (.if_icmp .gt 112, 3) := by decide +kernel
theorem dX11_canBeCorner_67 : decode cX11_canBeCorner 67 = .ok (.aload_n 0, 1) := by decide +kernel
theorem dX11_canBeCorner_68 : decode cX11_canBeCorner 68 = .ok (.getfield 12, 3) := by decide +kernel
theorem dX11_canBeCorner_71 : decode cX11_canBeCorner 71 = .ok (.getfield 115, 3) := by decide +kernel
theorem dX11_canBeCorner_74 : decode cX11_canBeCorner 74 = .ok (.iload_n 2, 1) := by decide +kernel
theorem dX11_canBeCorner_75 : decode cX11_canBeCorner 75 = .ok (.iaload, 1) := by decide +kernel
theorem dX11_canBeCorner_76 : decode cX11_canBeCorner 76 = .ok (.iload 4, 2) := by decide +kernel
theorem dX11_canBeCorner_78 : decode cX11_canBeCorner 78 = .ok (.iload 6, 2) := by decide +kernel
theorem dX11_canBeCorner_80 : decode cX11_canBeCorner 80 = .ok (.iload 6, 2) := by decide +kernel
theorem dX11_canBeCorner_82 : decode cX11_canBeCorner 82 = .ok (.imul, 1) := by decide +kernel
theorem dX11_canBeCorner_83 : decode cX11_canBeCorner 83 = .ok (.isub, 1) := by decide +kernel
theorem dX11_canBeCorner_84 : decode cX11_canBeCorner 84 = .ok (.iconst 1, 1) := by decide +kernel
theorem dX11_canBeCorner_85 : decode cX11_canBeCorner 85 = .ok (.isub, 1) := by decide +kernel
theorem dX11_canBeCorner_86 : decode cX11_canBeCorner 86 = .ok (.invokestatic 206, 3) := by decide +kernel
theorem dX11_canBeCorner_89 : decode cX11_canBeCorner 89 = .ok (.iconst 1, 1) := by decide +kernel
theorem dX11_canBeCorner_90 : decode cX11_canBeCorner 90 = .ok (.iadd, 1) := by decide +kernel
theorem dX11_canBeCorner_91 : decode cX11_canBeCorner 91 = .ok (.invokestatic 145, 3) := by decide +kernel
theorem dX11_canBeCorner_94 : decode cX11_canBeCorner 94 = .ok (.istore 7, 2) := by decide +kernel
theorem dX11_canBeCorner_96 : decode cX11_canBeCorner 96 = .ok (.aload_n 0, 1) := by decide +kernel
theorem dX11_canBeCorner_97 : decode cX11_canBeCorner 97 = .ok (.getfield 12, 3) := by decide +kernel
theorem dX11_canBeCorner_100 : decode cX11_canBeCorner 100 = .ok (.getfield 118, 3) := by decide +kernel
theorem dX11_canBeCorner_103 : decode cX11_canBeCorner 103 = .ok (.iload_n 2, 1) := by decide +kernel
theorem dX11_canBeCorner_104 : decode cX11_canBeCorner 104 = .ok (.iaload, 1) := by decide +kernel
theorem dX11_canBeCorner_105 : decode cX11_canBeCorner 105 = .ok (.iload 5, 2) := by decide +kernel
theorem dX11_canBeCorner_107 : decode cX11_canBeCorner 107 = .ok (.iload 6, 2) := by decide +kernel
theorem dX11_canBeCorner_109 : decode cX11_canBeCorner 109 = .ok (.iload 6, 2) := by decide +kernel
theorem dX11_canBeCorner_111 : decode cX11_canBeCorner 111 = .ok (.imul, 1) := by decide +kernel
theorem dX11_canBeCorner_112 : decode cX11_canBeCorner 112 = .ok (.isub, 1) := by decide +kernel
theorem dX11_canBeCorner_113 : decode cX11_canBeCorner 113 = .ok (.invokestatic 206, 3) := by decide +kernel
theorem dX11_canBeCorner_116 : decode cX11_canBeCorner 116 = .ok (.invokestatic 154, 3) := by decide +kernel
theorem dX11_canBeCorner_119 : decode cX11_canBeCorner 119 = .ok (.istore 8, 2) := by decide +kernel
theorem dX11_canBeCorner_121 : decode cX11_canBeCorner 121 = .ok (.iload 7, 2) := by decide +kernel
theorem dX11_canBeCorner_123 : decode cX11_canBeCorner 123 = .ok (.istore 9, 2) := by decide +kernel
theorem dX11_canBeCorner_125 : decode cX11_canBeCorner 125 = .ok (.iload 9, 2) := by decide +kernel
theorem dX11_canBeCorner_127 : decode cX11_canBeCorner 127 = .ok (.iload 8, 2) := by decide +kernel
theorem dX11_canBeCorner_129 : decode cX11_canBeCorner 129 = .ok (.if_icmp .gt 41, 3) := by decide +kernel
theorem dX11_canBeCorner_132 : decode cX11_canBeCorner 132 = .ok (.iload 6, 2) := by decide +kernel
theorem dX11_canBeCorner_134 : decode cX11_canBeCorner 134 = .ok (.iload 6, 2) := by decide +kernel
theorem dX11_canBeCorner_136 : decode cX11_canBeCorner 136 = .ok (.imul, 1) := by decide +kernel
theorem dX11_canBeCorner_137 : decode cX11_canBeCorner 137 = .ok (.iload 9, 2) := by decide +kernel
theorem dX11_canBeCorner_139 : decode cX11_canBeCorner 139 = .ok (.iload 9, 2) := by decide +kernel
theorem dX11_canBeCorner_141 : decode cX11_canBeCorner 141 = .ok (.imul, 1) := by decide +kernel
theorem dX11_canBeCorner_142 : decode cX11_canBeCorner 142 = .ok (.iadd, 1) := by decide +kernel
theorem dX11_canBeCorner_143 : decode cX11_canBeCorner 143 = .ok (.istore 10, 2) := by decide +kernel
theorem dX11_canBeCorner_145 : decode cX11_canBeCorner 145 = .ok (.iload 10, 2) := by decide +kernel
theorem dX11_canBeCorner_147 : decode cX11_canBeCorner 147 = .ok (.invokestatic 206, 3) := by decide +kernel
theorem dX11_canBeCorner_150 : decode cX11_canBeCorner 150 = .ok (.istore 11, 2) := by decide +kernel
theorem dX11_canBeCorner_152 : decode cX11_canBeCorner 152 = .ok (.iload 11, 2) := by decide +kernel
theorem dX11_canBeCorner_154 : decode cX11_canBeCorner 154 = .ok (.iload 11, 2) := by decide +kernel
theorem dX11_canBeCorner_156 : decode cX11_canBeCorner 156 = .ok (.imul, 1) := by decide +kernel
theorem dX11_canBeCorner_157 : decode cX11_canBeCorner 157 = .ok (.iload 10, 2) := by decide +kernel
theorem dX11_canBeCorner_159 : decode cX11_canBeCorner 159 = .ok (.if_icmp .ne 5, 3) := by decide +kernel
theorem dX11_canBeCorner_162 : decode cX11_canBeCorner 162 = .ok (.iconst 1, 1) := by decide +kernel
theorem dX11_canBeCorner_163 : decode cX11_canBeCorner 163 = .ok (.ireturn, 1) := by decide +kernel
theorem dX11_canBeCorner_164 : decode cX11_canBeCorner 164 = .ok (.iinc 9 1, 3) := by decide +kernel
theorem dX11_canBeCorner_167 : decode cX11_canBeCorner 167 = .ok (.goto (-42), 3) := by decide +kernel
theorem dX11_canBeCorner_170 : decode cX11_canBeCorner 170 = .ok (.iinc 6 1, 3) := by decide +kernel
theorem dX11_canBeCorner_173 : decode cX11_canBeCorner 173 = .ok (.goto (-120), 3) := by decide +kernel
theorem dX11_canBeCorner_176 : decode cX11_canBeCorner 176 = .ok (.iconst 0, 1) := by decide +kernel
theorem dX11_canBeCorner_177 : decode cX11_canBeCorner 177 = .ok (.ireturn, 1) := by decide +kernel
def f_X11_canBeCorner_125 (K53 : St → Int32 → Int32 → Int32 → Int32 → Int32 → Int32) (K125 : St → Int32 → Int32 → Int32 → Int32 → Int32 → Int32 → Int32 → Int32) (σ : St) (a1 : Int32) (a2 : Int32) (a4 : Int32) (a5 : Int32) (a6 : Int32) (a8 : Int32) (a9 : Int32) : Int32 := (if a8 < a9 then (K53 σ a1 a2 a4 a5 (a6 + (1 : Int32))) else (if ((f_X11_root ((a6 * a6) + (a9 * a9))) * (f_X11_root ((a6 * a6) + (a9 * a9)))) = ((a6 * a6) + (a9 * a9)) then (1 : Int32) else (K125 σ a1 a2 a4 a5 a6 a8 (a9 + (1 : Int32)))))
set_option maxHeartbeats 600000 in
set_option maxRecDepth 100000 in
theorem b_X11_canBeCorner_125 {g : GG} {ρ : RR} {dt : Nat → Nat → Int32} {p : Program} {l : Launch} {e : Env} {s : State} {m : MethodId} {args : Array Value} {below : List Frame} {meth : Method} {c : Code}  {tgt : Int32} {K53 : St → Int32 → Int32 → Int32 → Int32 → Int32 → Int32} {N53 : Nat} {K125 : St → Int32 → Int32 → Int32 → Int32 → Int32 → Int32 → Int32 → Int32} {N125 : Nat} (C0 : BC p s m args meth c cX11_canBeCorner RX11 12 (some .boolean)) (hK53 : ∀ (σ : St) (a1 : Int32) (a2 : Int32) (a4 : Int32) (a5 : Int32) (a6 : Int32), (IX σ) → (0 ≤ a1.toInt) → (a1.toInt < 6) → (0 ≤ a2.toInt) → (a2.toInt < 6) → (0 ≤ a6.toInt) → ((σ 27 (ix a1)).toInt - a6.toInt + 1).toNat < N53 → KK g s → va_P g.1 vwCl ((xW g ρ) σ) s.heap → va_D (fun _ => True) ((xW g ρ) σ) → XH g ρ dt s.heap →  ∀ {ls : Array Slot}, lv_has ls 12 [(0, .ref (g.2.2 100)), (1, .int (a1)), (2, .int (a2)), (4, .int (a4)), (5, .int (a5)), (6, .int (a6))] → K53 σ a1 a2 a4 a5 a6 = tgt → W p l e { frames := 1, cells := 0, slots := 0, locals := 22 } s m args below meth c s.heap [] 0 0 (QPI below args s tgt) (F0 m 53 ls [])) (hK125 : ∀ (σ : St) (a1 : Int32) (a2 : Int32) (a4 : Int32) (a5 : Int32) (a6 : Int32) (a8 : Int32) (a9 : Int32), (IX σ) → (0 ≤ a1.toInt) → (a1.toInt < 6) → (0 ≤ a2.toInt) → (a2.toInt < 6) → (0 ≤ a6.toInt) → (a6.toInt ≤ (σ 27 (ix a1)).toInt) → (((σ 27 (ix a1)).toInt - a6.toInt + 1).toNat < N53 + 1) → (a8.toInt ≤ 999) → (0 ≤ a9.toInt) → (a8.toInt - a9.toInt + 1).toNat < N125 → KK g s → va_P g.1 vwCl ((xW g ρ) σ) s.heap → va_D (fun _ => True) ((xW g ρ) σ) → XH g ρ dt s.heap →  ∀ {ls : Array Slot}, lv_has ls 12 [(0, .ref (g.2.2 100)), (1, .int (a1)), (2, .int (a2)), (4, .int (a4)), (5, .int (a5)), (6, .int (a6)), (8, .int (a8)), (9, .int (a9))] → K125 σ a1 a2 a4 a5 a6 a8 a9 = tgt → W p l e { frames := 1, cells := 0, slots := 0, locals := 22 } s m args below meth c s.heap [] 0 0 (QPI below args s tgt) (F0 m 125 ls [])) {σ : St} {a1 : Int32} {a2 : Int32} {a4 : Int32} {a5 : Int32} {a6 : Int32} {a8 : Int32} {a9 : Int32}  (hX : IX σ) (h1 : 0 ≤ a1.toInt) (h1b : a1.toInt < 6) (h2 : 0 ≤ a2.toInt) (h2b : a2.toInt < 6) (h6 : 0 ≤ a6.toInt) (h6c : a6.toInt ≤ (σ 27 (ix a1)).toInt) (hm53 : ((σ 27 (ix a1)).toInt - a6.toInt + 1).toNat < N53 + 1) (h8 : a8.toInt ≤ 999) (h9 : 0 ≤ a9.toInt) (hm : (a8.toInt - a9.toInt + 1).toNat < N125 + 1) (hK : KK g s) (hP : va_P g.1 vwCl ((xW g ρ) σ) s.heap) (hDD : va_D (fun _ => True) ((xW g ρ) σ)) (hB : XH g ρ dt s.heap) {ls : Array Slot} (hl : lv_has ls 12 [(0, .ref (g.2.2 100)), (1, .int (a1)), (2, .int (a2)), (4, .int (a4)), (5, .int (a5)), (6, .int (a6)), (8, .int (a8)), (9, .int (a9))]) (hT : f_X11_canBeCorner_125 K53 K125 σ a1 a2 a4 a5 a6 a8 a9 = tgt) : W p l e { frames := 1, cells := 0, slots := 0, locals := 22 } s m args below meth c s.heap [] 0 0 (QPI below args s tgt) (F0 m 125 ls []) := by
  obtain ⟨hx, hb, hr, hml, hown, hts, hlocks⟩ := id C0
  unfold f_X11_canBeCorner_125 at hT
  obtain ⟨⟨j1, j1'⟩, ⟨j3, j3'⟩, ⟨j5, j5'⟩, ⟨j8, j8'⟩, ⟨j9, j9'⟩, ⟨j12, j12'⟩, ⟨j14, j14'⟩, ⟨j17, j17'⟩, j81, jW⟩ := id hX
  obtain ⟨w11, w12, w13⟩ := IX_w hX h1 h1b
  obtain ⟨w21, w22, w23⟩ := IX_w hX h2 h2b
  refine lv_iload hx hb dX11_canBeCorner_125 (lv_at hl 7 rfl) ?_
  refine lv_iload hx hb dX11_canBeCorner_127 (lv_at hl 6 rfl) ?_
  refine lv_icmp_gt (tgt := 170) hx hb dX11_canBeCorner_129 (by decide) (fun c_129 => ?_) (fun c_129 => ?_)
  · have hT := hT_pos c_129 hT
    refine lv_iinc (v := (a6 + (1 : Int32))) (lv' := [(6, .int ((a6 + (1 : Int32)))), (0, .ref (g.2.2 100)), (1, .int (a1)), (2, .int (a2)), (4, .int (a4)), (5, .int (a5)), (8, .int (a8)), (9, .int (a9))]) hx hb dX11_canBeCorner_170 hl (k := 5) rfl rfl (by decide) rfl (fun ls hl => ?_)
    refine lv_goto (tgt := 53) hx hb dX11_canBeCorner_173 (by decide) ?_
    have j173_h6 : 0 ≤ (a6 + (1 : Int32)).toInt := by
      have : ((1 : Int32)).toInt = 1 := by decide
      have := ti_lt.mp c_129
      try have := ti_add (a := a6) (b := (1 : Int32)) (by omega) (by omega)
      omega
    have j173_m : ((σ 27 (ix a1)).toInt - (a6 + (1 : Int32)).toInt + 1).toNat < N53 := by
      have : ((1 : Int32)).toInt = 1 := by decide
      have := ti_lt.mp c_129
      try have := ti_add (a := a6) (b := (1 : Int32)) (by omega) (by omega)
      omega
    exact hK53 σ a1 a2 a4 a5 (a6 + (1 : Int32)) hX h1 h1b h2 h2b j173_h6 j173_m hK hP hDD hB (lv_sub hl [1, 2, 3, 4, 5, 0] rfl) hT
  · have hT := hT_neg c_129 hT
    refine lv_iload hx hb dX11_canBeCorner_132 (lv_at hl 5 rfl) ?_
    refine lv_iload hx hb dX11_canBeCorner_134 (lv_at hl 5 rfl) ?_
    refine lv_imul hx hb dX11_canBeCorner_136 ?_
    refine lv_iload hx hb dX11_canBeCorner_137 (lv_at hl 7 rfl) ?_
    refine lv_iload hx hb dX11_canBeCorner_139 (lv_at hl 7 rfl) ?_
    refine lv_imul hx hb dX11_canBeCorner_141 ?_
    refine lv_iadd hx hb dX11_canBeCorner_142 ?_
    refine lv_istore (lv' := [(10, .int (((a6 * a6) + (a9 * a9)))), (0, .ref (g.2.2 100)), (1, .int (a1)), (2, .int (a2)), (4, .int (a4)), (5, .int (a5)), (6, .int (a6)), (8, .int (a8)), (9, .int (a9))]) hx hb dX11_canBeCorner_143 hl (by decide) rfl (fun ls hl => ?_)
    refine lv_iload hx hb dX11_canBeCorner_145 (lv_at hl 0 rfl) ?_
    refine s_ci (rest := []) (As := [.int (((a6 * a6) + (a9 * a9)))]) C0 cf_X11_root w_755 (k_X11_root l ((a6 * a6) + (a9 * a9)) ) ⟨by decide, by decide⟩ hl.1 rfl rfl (Nat.le_of_ble_eq_true rfl) dX11_canBeCorner_147 ⟨Nat.zero_le _, Nat.zero_le _⟩ ?_
    refine lv_istore (lv' := [(11, .int ((f_X11_root ((a6 * a6) + (a9 * a9))))), (10, .int (((a6 * a6) + (a9 * a9)))), (0, .ref (g.2.2 100)), (1, .int (a1)), (2, .int (a2)), (4, .int (a4)), (5, .int (a5)), (6, .int (a6)), (8, .int (a8)), (9, .int (a9))]) hx hb dX11_canBeCorner_150 hl (by decide) rfl (fun ls hl => ?_)
    refine lv_iload hx hb dX11_canBeCorner_152 (lv_at hl 0 rfl) ?_
    refine lv_iload hx hb dX11_canBeCorner_154 (lv_at hl 0 rfl) ?_
    refine lv_imul hx hb dX11_canBeCorner_156 ?_
    refine lv_iload hx hb dX11_canBeCorner_157 (lv_at hl 1 rfl) ?_
    refine lv_icmp_ne (tgt := 164) hx hb dX11_canBeCorner_159 (by decide) (fun c_159 => ?_) (fun c_159 => ?_)
    · have hT := hT_neg c_159 hT
      refine lv_iinc (v := (a9 + (1 : Int32))) (lv' := [(9, .int ((a9 + (1 : Int32)))), (11, .int ((f_X11_root ((a6 * a6) + (a9 * a9))))), (10, .int (((a6 * a6) + (a9 * a9)))), (0, .ref (g.2.2 100)), (1, .int (a1)), (2, .int (a2)), (4, .int (a4)), (5, .int (a5)), (6, .int (a6)), (8, .int (a8))]) hx hb dX11_canBeCorner_164 hl (k := 9) rfl rfl (by decide) rfl (fun ls hl => ?_)
      refine lv_goto (tgt := 125) hx hb dX11_canBeCorner_167 (by decide) ?_
      have j167_h9 : 0 ≤ (a9 + (1 : Int32)).toInt := by
        have : ((1 : Int32)).toInt = 1 := by decide
        have := mt ti_lt.mpr c_129
        have := mt ti_eq.mpr c_159
        try have := ti_add (a := (a6 * a6)) (b := (a9 * a9)) (by omega) (by omega)
        try have := ti_add (a := a9) (b := (1 : Int32)) (by omega) (by omega)
        omega
      have j167_m : (a8.toInt - (a9 + (1 : Int32)).toInt + 1).toNat < N125 := by
        have : ((1 : Int32)).toInt = 1 := by decide
        have := mt ti_lt.mpr c_129
        have := mt ti_eq.mpr c_159
        try have := ti_add (a := (a6 * a6)) (b := (a9 * a9)) (by omega) (by omega)
        try have := ti_add (a := a9) (b := (1 : Int32)) (by omega) (by omega)
        omega
      exact hK125 σ a1 a2 a4 a5 a6 a8 (a9 + (1 : Int32)) hX h1 h1b h2 h2b h6 h6c hm53 h8 j167_h9 j167_m hK hP hDD hB (lv_sub hl [3, 4, 5, 6, 7, 8, 9, 0] rfl) hT
    · have hT := hT_pos c_159 hT
      refine lv_iconst (v := (1 : Int32)) hx hb dX11_canBeCorner_162 (by decide) ?_
      exact ret_PZ C0 (nz_of (Or.inr rfl)) hT dX11_canBeCorner_163
def g_X11_canBeCorner_125 (K53 : St → Int32 → Int32 → Int32 → Int32 → Int32 → Int32) : Nat → St → Int32 → Int32 → Int32 → Int32 → Int32 → Int32 → Int32 → Int32
  | 0 => fun σ a1 a2 a4 a5 a6 a8 a9 => 0
  | n + 1 => fun σ a1 a2 a4 a5 a6 a8 a9 => f_X11_canBeCorner_125 K53 (g_X11_canBeCorner_125 K53 n) σ a1 a2 a4 a5 a6 a8 a9
theorem l_X11_canBeCorner_125 {g : GG} {ρ : RR} {dt : Nat → Nat → Int32} {p : Program} {l : Launch} {e : Env} {s : State} {m : MethodId} {args : Array Value} {below : List Frame} {meth : Method} {c : Code}  {tgt : Int32} {K53 : St → Int32 → Int32 → Int32 → Int32 → Int32 → Int32} {N53 : Nat} (C0 : BC p s m args meth c cX11_canBeCorner RX11 12 (some .boolean)) (hK53 : ∀ (σ : St) (a1 : Int32) (a2 : Int32) (a4 : Int32) (a5 : Int32) (a6 : Int32), (IX σ) → (0 ≤ a1.toInt) → (a1.toInt < 6) → (0 ≤ a2.toInt) → (a2.toInt < 6) → (0 ≤ a6.toInt) → ((σ 27 (ix a1)).toInt - a6.toInt + 1).toNat < N53 → KK g s → va_P g.1 vwCl ((xW g ρ) σ) s.heap → va_D (fun _ => True) ((xW g ρ) σ) → XH g ρ dt s.heap →  ∀ {ls : Array Slot}, lv_has ls 12 [(0, .ref (g.2.2 100)), (1, .int (a1)), (2, .int (a2)), (4, .int (a4)), (5, .int (a5)), (6, .int (a6))] → K53 σ a1 a2 a4 a5 a6 = tgt → W p l e { frames := 1, cells := 0, slots := 0, locals := 22 } s m args below meth c s.heap [] 0 0 (QPI below args s tgt) (F0 m 53 ls [])) : ∀ (n : Nat) (σ : St) (a1 : Int32) (a2 : Int32) (a4 : Int32) (a5 : Int32) (a6 : Int32) (a8 : Int32) (a9 : Int32), (IX σ) → (0 ≤ a1.toInt) → (a1.toInt < 6) → (0 ≤ a2.toInt) → (a2.toInt < 6) → (0 ≤ a6.toInt) → (a6.toInt ≤ (σ 27 (ix a1)).toInt) → (((σ 27 (ix a1)).toInt - a6.toInt + 1).toNat < N53 + 1) → (a8.toInt ≤ 999) → (0 ≤ a9.toInt) → (a8.toInt - a9.toInt + 1).toNat < n → KK g s → va_P g.1 vwCl ((xW g ρ) σ) s.heap → va_D (fun _ => True) ((xW g ρ) σ) → XH g ρ dt s.heap →  ∀ {ls : Array Slot}, lv_has ls 12 [(0, .ref (g.2.2 100)), (1, .int (a1)), (2, .int (a2)), (4, .int (a4)), (5, .int (a5)), (6, .int (a6)), (8, .int (a8)), (9, .int (a9))] → g_X11_canBeCorner_125 K53 n σ a1 a2 a4 a5 a6 a8 a9 = tgt → W p l e { frames := 1, cells := 0, slots := 0, locals := 22 } s m args below meth c s.heap [] 0 0 (QPI below args s tgt) (F0 m 125 ls []) := by
  intro n
  induction n with
  | zero => intro σ a1 a2 a4 a5 a6 a8 a9 hX h1 h1b h2 h2b h6 h6c hm53 h8 h9 hm; exact absurd hm (Nat.not_lt_zero _)
  | succ n ih =>
    intro σ a1 a2 a4 a5 a6 a8 a9 hX h1 h1b h2 h2b h6 h6c hm53 h8 h9 hm  hK hP hDD hB ls hl hT
    exact b_X11_canBeCorner_125 (g := g) (ρ := ρ) (dt := dt) (K125 := g_X11_canBeCorner_125 K53 n) (N125 := n) C0 hK53 (fun σ a1 a2 a4 a5 a6 a8 a9 hX h1 h1b h2 h2b h6 h6c hm53 h8 h9 hm2 => ih σ a1 a2 a4 a5 a6 a8 a9 hX h1 h1b h2 h2b h6 h6c hm53 h8 h9 hm2) hX h1 h1b h2 h2b h6 h6c hm53 h8 h9 hm hK hP hDD hB hl hT
def f_X11_canBeCorner_53 (K53 : St → Int32 → Int32 → Int32 → Int32 → Int32 → Int32) (σ : St) (a1 : Int32) (a2 : Int32) (a4 : Int32) (a5 : Int32) (a6 : Int32) : Int32 := (if (σ 27 (ix a1)) < a6 then (0 : Int32) else (g_X11_canBeCorner_125 K53 (1001) σ a1 a2 a4 a5 a6 (if (f_X11_root (a5 - (a6 * a6))) < (σ 27 (ix a2)) then (f_X11_root (a5 - (a6 * a6))) else (σ 27 (ix a2))) (if (σ 26 (ix a2)) < ((f_X11_root ((a4 - (a6 * a6)) - (1 : Int32))) + (1 : Int32)) then ((f_X11_root ((a4 - (a6 * a6)) - (1 : Int32))) + (1 : Int32)) else (σ 26 (ix a2)))))
set_option maxHeartbeats 600000 in
set_option maxRecDepth 100000 in
theorem b_X11_canBeCorner_53 {g : GG} {ρ : RR} {dt : Nat → Nat → Int32} {p : Program} {l : Launch} {e : Env} {s : State} {m : MethodId} {args : Array Value} {below : List Frame} {meth : Method} {c : Code}  {tgt : Int32} {K53 : St → Int32 → Int32 → Int32 → Int32 → Int32 → Int32} {N53 : Nat} (C0 : BC p s m args meth c cX11_canBeCorner RX11 12 (some .boolean)) (hK53 : ∀ (σ : St) (a1 : Int32) (a2 : Int32) (a4 : Int32) (a5 : Int32) (a6 : Int32), (IX σ) → (0 ≤ a1.toInt) → (a1.toInt < 6) → (0 ≤ a2.toInt) → (a2.toInt < 6) → (0 ≤ a6.toInt) → ((σ 27 (ix a1)).toInt - a6.toInt + 1).toNat < N53 → KK g s → va_P g.1 vwCl ((xW g ρ) σ) s.heap → va_D (fun _ => True) ((xW g ρ) σ) → XH g ρ dt s.heap →  ∀ {ls : Array Slot}, lv_has ls 12 [(0, .ref (g.2.2 100)), (1, .int (a1)), (2, .int (a2)), (4, .int (a4)), (5, .int (a5)), (6, .int (a6))] → K53 σ a1 a2 a4 a5 a6 = tgt → W p l e { frames := 1, cells := 0, slots := 0, locals := 22 } s m args below meth c s.heap [] 0 0 (QPI below args s tgt) (F0 m 53 ls [])) {σ : St} {a1 : Int32} {a2 : Int32} {a4 : Int32} {a5 : Int32} {a6 : Int32}  (hX : IX σ) (h1 : 0 ≤ a1.toInt) (h1b : a1.toInt < 6) (h2 : 0 ≤ a2.toInt) (h2b : a2.toInt < 6) (h6 : 0 ≤ a6.toInt) (hm : ((σ 27 (ix a1)).toInt - a6.toInt + 1).toNat < N53 + 1) (hK : KK g s) (hP : va_P g.1 vwCl ((xW g ρ) σ) s.heap) (hDD : va_D (fun _ => True) ((xW g ρ) σ)) (hB : XH g ρ dt s.heap) {ls : Array Slot} (hl : lv_has ls 12 [(0, .ref (g.2.2 100)), (1, .int (a1)), (2, .int (a2)), (4, .int (a4)), (5, .int (a5)), (6, .int (a6))]) (hT : f_X11_canBeCorner_53 K53 σ a1 a2 a4 a5 a6 = tgt) : W p l e { frames := 1, cells := 0, slots := 0, locals := 22 } s m args below meth c s.heap [] 0 0 (QPI below args s tgt) (F0 m 53 ls []) := by
  obtain ⟨hx, hb, hr, hml, hown, hts, hlocks⟩ := id C0
  unfold f_X11_canBeCorner_53 at hT
  obtain ⟨⟨j1, j1'⟩, ⟨j3, j3'⟩, ⟨j5, j5'⟩, ⟨j8, j8'⟩, ⟨j9, j9'⟩, ⟨j12, j12'⟩, ⟨j14, j14'⟩, ⟨j17, j17'⟩, j81, jW⟩ := id hX
  obtain ⟨w11, w12, w13⟩ := IX_w hX h1 h1b
  obtain ⟨w21, w22, w23⟩ := IX_w hX h2 h2b
  refine lv_iload hx hb dX11_canBeCorner_53 (lv_at hl 5 rfl) ?_
  refine lv_aload_n hx hb dX11_canBeCorner_55 rfl (lv_at hl 0 rfl) ?_
  refine x_get (σ := σ) (v := .ref (g.2.2 101)) (fs := xF0 g ρ σ) 11 0 C0 uw_11 dc_11 hK hP rfl rfl 0 (by decide) rfl w_229 dX11_canBeCorner_56 ?_
  refine x_getN (σ := σ) (v := .ref (g.2.2 27)) (fs := xF1 g ρ σ) 5 1 C0 uw_5 dc_5 hK hP rfl rfl 7 (by decide) rfl w_123 dX11_canBeCorner_59 ?_
  refine lv_iload_n hx hb dX11_canBeCorner_62 rfl (lv_at hl 1 rfl) ?_
  have o_63 : vp_in a1 6 := by
    exact vin (by omega) (by omega)
  refine x_ald (σ := σ) C0 hK hP 12 27 6 rfl o_63 (ix a1) rfl dX11_canBeCorner_63 ?_
  refine lv_icmp_gt (tgt := 176) hx hb dX11_canBeCorner_64 (by decide) (fun c_64 => ?_) (fun c_64 => ?_)
  · have hT := hT_pos c_64 hT
    refine lv_iconst (v := (0 : Int32)) hx hb dX11_canBeCorner_176 (by decide) ?_
    exact ret_PZ C0 (nz_of (Or.inl rfl)) hT dX11_canBeCorner_177
  · have hT := hT_neg c_64 hT
    refine lv_aload_n hx hb dX11_canBeCorner_67 rfl (lv_at hl 0 rfl) ?_
    refine x_get (σ := σ) (v := .ref (g.2.2 101)) (fs := xF0 g ρ σ) 11 0 C0 uw_11 dc_11 hK hP rfl rfl 0 (by decide) rfl w_229 dX11_canBeCorner_68 ?_
    refine x_getN (σ := σ) (v := .ref (g.2.2 26)) (fs := xF1 g ρ σ) 5 1 C0 uw_5 dc_5 hK hP rfl rfl 6 (by decide) rfl w_121 dX11_canBeCorner_71 ?_
    refine lv_iload_n hx hb dX11_canBeCorner_74 rfl (lv_at hl 2 rfl) ?_
    have o_75 : vp_in a2 6 := by
      have := mt ti_lt.mpr c_64
      exact vin (by omega) (by omega)
    refine x_ald (σ := σ) C0 hK hP 11 26 6 rfl o_75 (ix a2) rfl dX11_canBeCorner_75 ?_
    refine lv_iload hx hb dX11_canBeCorner_76 (lv_at hl 3 rfl) ?_
    refine lv_iload hx hb dX11_canBeCorner_78 (lv_at hl 5 rfl) ?_
    refine lv_iload hx hb dX11_canBeCorner_80 (lv_at hl 5 rfl) ?_
    refine lv_imul hx hb dX11_canBeCorner_82 ?_
    refine lv_isub hx hb dX11_canBeCorner_83 ?_
    refine lv_iconst (v := (1 : Int32)) hx hb dX11_canBeCorner_84 (by decide) ?_
    refine lv_isub hx hb dX11_canBeCorner_85 ?_
    refine s_ci (rest := [.int ((σ 26 (ix a2)))]) (As := [.int (((a4 - (a6 * a6)) - (1 : Int32)))]) C0 cf_X11_root w_755 (k_X11_root l ((a4 - (a6 * a6)) - (1 : Int32)) ) ⟨by decide, by decide⟩ hl.1 rfl rfl (Nat.le_of_ble_eq_true rfl) dX11_canBeCorner_86 ⟨Nat.zero_le _, Nat.zero_le _⟩ ?_
    refine lv_iconst (v := (1 : Int32)) hx hb dX11_canBeCorner_89 (by decide) ?_
    refine lv_iadd hx hb dX11_canBeCorner_90 ?_
    refine va_mmax hx hb (hml.trans hl.1.symm) C0.2.2.2.2.1 (C0.2.2.2.2.2.1 _ w_704) (C0.2.2.2.2.2.1 _ w_376) (C0.2.2.2.2.2.1 _ w_80) (C0.2.2.2.2.2.1 _ w_377) (by decide) (by decide) (Nat.zero_le _) (Nat.zero_le _) dX11_canBeCorner_91 ?_
    refine lv_istore (lv' := [(7, .int ((if (σ 26 (ix a2)) < ((f_X11_root ((a4 - (a6 * a6)) - (1 : Int32))) + (1 : Int32)) then ((f_X11_root ((a4 - (a6 * a6)) - (1 : Int32))) + (1 : Int32)) else (σ 26 (ix a2))))), (0, .ref (g.2.2 100)), (1, .int (a1)), (2, .int (a2)), (4, .int (a4)), (5, .int (a5)), (6, .int (a6))]) hx hb dX11_canBeCorner_94 hl (by decide) rfl (fun ls hl => ?_)
    refine lv_aload_n hx hb dX11_canBeCorner_96 rfl (lv_at hl 1 rfl) ?_
    refine x_get (σ := σ) (v := .ref (g.2.2 101)) (fs := xF0 g ρ σ) 11 0 C0 uw_11 dc_11 hK hP rfl rfl 0 (by decide) rfl w_229 dX11_canBeCorner_97 ?_
    refine x_getN (σ := σ) (v := .ref (g.2.2 27)) (fs := xF1 g ρ σ) 5 1 C0 uw_5 dc_5 hK hP rfl rfl 7 (by decide) rfl w_123 dX11_canBeCorner_100 ?_
    refine lv_iload_n hx hb dX11_canBeCorner_103 rfl (lv_at hl 3 rfl) ?_
    have o_104 : vp_in a2 6 := by
      have := mt ti_lt.mpr c_64
      exact vin (by omega) (by omega)
    refine x_ald (σ := σ) C0 hK hP 12 27 6 rfl o_104 (ix a2) rfl dX11_canBeCorner_104 ?_
    refine lv_iload hx hb dX11_canBeCorner_105 (lv_at hl 5 rfl) ?_
    refine lv_iload hx hb dX11_canBeCorner_107 (lv_at hl 6 rfl) ?_
    refine lv_iload hx hb dX11_canBeCorner_109 (lv_at hl 6 rfl) ?_
    refine lv_imul hx hb dX11_canBeCorner_111 ?_
    refine lv_isub hx hb dX11_canBeCorner_112 ?_
    refine s_ci (rest := [.int ((σ 27 (ix a2)))]) (As := [.int ((a5 - (a6 * a6)))]) C0 cf_X11_root w_755 (k_X11_root l (a5 - (a6 * a6)) ) ⟨by decide, by decide⟩ hl.1 rfl rfl (Nat.le_of_ble_eq_true rfl) dX11_canBeCorner_113 ⟨Nat.zero_le _, Nat.zero_le _⟩ ?_
    refine va_mmin hx hb (hml.trans hl.1.symm) C0.2.2.2.2.1 (C0.2.2.2.2.2.1 _ w_709) (C0.2.2.2.2.2.1 _ w_379) (C0.2.2.2.2.2.1 _ w_80) (C0.2.2.2.2.2.1 _ w_380) (by decide) (by decide) (Nat.zero_le _) (Nat.zero_le _) dX11_canBeCorner_116 ?_
    refine lv_istore (lv' := [(8, .int ((if (f_X11_root (a5 - (a6 * a6))) < (σ 27 (ix a2)) then (f_X11_root (a5 - (a6 * a6))) else (σ 27 (ix a2))))), (7, .int ((if (σ 26 (ix a2)) < ((f_X11_root ((a4 - (a6 * a6)) - (1 : Int32))) + (1 : Int32)) then ((f_X11_root ((a4 - (a6 * a6)) - (1 : Int32))) + (1 : Int32)) else (σ 26 (ix a2))))), (0, .ref (g.2.2 100)), (1, .int (a1)), (2, .int (a2)), (4, .int (a4)), (5, .int (a5)), (6, .int (a6))]) hx hb dX11_canBeCorner_119 hl (by decide) rfl (fun ls hl => ?_)
    refine lv_iload hx hb dX11_canBeCorner_121 (lv_at hl 1 rfl) ?_
    refine lv_istore (lv' := [(9, .int ((if (σ 26 (ix a2)) < ((f_X11_root ((a4 - (a6 * a6)) - (1 : Int32))) + (1 : Int32)) then ((f_X11_root ((a4 - (a6 * a6)) - (1 : Int32))) + (1 : Int32)) else (σ 26 (ix a2))))), (8, .int ((if (f_X11_root (a5 - (a6 * a6))) < (σ 27 (ix a2)) then (f_X11_root (a5 - (a6 * a6))) else (σ 27 (ix a2))))), (7, .int ((if (σ 26 (ix a2)) < ((f_X11_root ((a4 - (a6 * a6)) - (1 : Int32))) + (1 : Int32)) then ((f_X11_root ((a4 - (a6 * a6)) - (1 : Int32))) + (1 : Int32)) else (σ 26 (ix a2))))), (0, .ref (g.2.2 100)), (1, .int (a1)), (2, .int (a2)), (4, .int (a4)), (5, .int (a5)), (6, .int (a6))]) hx hb dX11_canBeCorner_123 hl (by decide) rfl (fun ls hl => ?_)
    have j123_h6c : a6.toInt ≤ (σ 27 (ix a1)).toInt := by
      have := mt ti_lt.mpr c_64
      omega
    have j123_hm53 : ((σ 27 (ix a1)).toInt - a6.toInt + 1).toNat < N53 + 1 := by
      have := mt ti_lt.mpr c_64
      omega
    have j123_h8 : (if (f_X11_root (a5 - (a6 * a6))) < (σ 27 (ix a2)) then (f_X11_root (a5 - (a6 * a6))) else (σ 27 (ix a2))).toInt ≤ 999 := mn_le (by omega)
    have j123_h9 : 0 ≤ (if (σ 26 (ix a2)) < ((f_X11_root ((a4 - (a6 * a6)) - (1 : Int32))) + (1 : Int32)) then ((f_X11_root ((a4 - (a6 * a6)) - (1 : Int32))) + (1 : Int32)) else (σ 26 (ix a2))).toInt := mx_ge (by omega)
    have j123_m : ((if (f_X11_root (a5 - (a6 * a6))) < (σ 27 (ix a2)) then (f_X11_root (a5 - (a6 * a6))) else (σ 27 (ix a2))).toInt - (if (σ 26 (ix a2)) < ((f_X11_root ((a4 - (a6 * a6)) - (1 : Int32))) + (1 : Int32)) then ((f_X11_root ((a4 - (a6 * a6)) - (1 : Int32))) + (1 : Int32)) else (σ 26 (ix a2))).toInt + 1).toNat < 1001 := by
      have := mt ti_lt.mpr c_64
      omega
    exact l_X11_canBeCorner_125 (g := g) (ρ := ρ) (dt := dt) C0 hK53  (1001) σ a1 a2 a4 a5 a6 (if (f_X11_root (a5 - (a6 * a6))) < (σ 27 (ix a2)) then (f_X11_root (a5 - (a6 * a6))) else (σ 27 (ix a2))) (if (σ 26 (ix a2)) < ((f_X11_root ((a4 - (a6 * a6)) - (1 : Int32))) + (1 : Int32)) then ((f_X11_root ((a4 - (a6 * a6)) - (1 : Int32))) + (1 : Int32)) else (σ 26 (ix a2))) hX h1 h1b h2 h2b h6 j123_h6c j123_hm53 j123_h8 j123_h9 j123_m hK hP hDD hB (lv_sub hl [3, 4, 5, 6, 7, 8, 1, 0] rfl) hT
def g_X11_canBeCorner_53  : Nat → St → Int32 → Int32 → Int32 → Int32 → Int32 → Int32
  | 0 => fun σ a1 a2 a4 a5 a6 => 0
  | n + 1 => fun σ a1 a2 a4 a5 a6 => f_X11_canBeCorner_53  (g_X11_canBeCorner_53  n) σ a1 a2 a4 a5 a6
theorem l_X11_canBeCorner_53 {g : GG} {ρ : RR} {dt : Nat → Nat → Int32} {p : Program} {l : Launch} {e : Env} {s : State} {m : MethodId} {args : Array Value} {below : List Frame} {meth : Method} {c : Code}  {tgt : Int32}  (C0 : BC p s m args meth c cX11_canBeCorner RX11 12 (some .boolean))  : ∀ (n : Nat) (σ : St) (a1 : Int32) (a2 : Int32) (a4 : Int32) (a5 : Int32) (a6 : Int32), (IX σ) → (0 ≤ a1.toInt) → (a1.toInt < 6) → (0 ≤ a2.toInt) → (a2.toInt < 6) → (0 ≤ a6.toInt) → ((σ 27 (ix a1)).toInt - a6.toInt + 1).toNat < n → KK g s → va_P g.1 vwCl ((xW g ρ) σ) s.heap → va_D (fun _ => True) ((xW g ρ) σ) → XH g ρ dt s.heap →  ∀ {ls : Array Slot}, lv_has ls 12 [(0, .ref (g.2.2 100)), (1, .int (a1)), (2, .int (a2)), (4, .int (a4)), (5, .int (a5)), (6, .int (a6))] → g_X11_canBeCorner_53  n σ a1 a2 a4 a5 a6 = tgt → W p l e { frames := 1, cells := 0, slots := 0, locals := 22 } s m args below meth c s.heap [] 0 0 (QPI below args s tgt) (F0 m 53 ls []) := by
  intro n
  induction n with
  | zero => intro σ a1 a2 a4 a5 a6 hX h1 h1b h2 h2b h6 hm; exact absurd hm (Nat.not_lt_zero _)
  | succ n ih =>
    intro σ a1 a2 a4 a5 a6 hX h1 h1b h2 h2b h6 hm  hK hP hDD hB ls hl hT
    exact b_X11_canBeCorner_53 (g := g) (ρ := ρ) (dt := dt) (K53 := g_X11_canBeCorner_53  n) (N53 := n) C0  (fun σ a1 a2 a4 a5 a6 hX h1 h1b h2 h2b h6 hm2 => ih σ a1 a2 a4 a5 a6 hX h1 h1b h2 h2b h6 hm2) hX h1 h1b h2 h2b h6 hm hK hP hDD hB hl hT
def f_X11_canBeCorner (σ : St) (a1 : Int32) (a2 : Int32) (a3 : Int32) : Int32 := (g_X11_canBeCorner_53  (1001) σ a1 a2 ((σ 26 (ix a3)) * (σ 26 (ix a3))) ((σ 27 (ix a3)) * (σ 27 (ix a3))) (σ 26 (ix a1)))
set_option maxHeartbeats 600000 in
set_option maxRecDepth 100000 in
theorem k_X11_canBeCorner (l : Launch) (g : GG) (ρ : RR) (dt : Nat → Nat → Int32) (σ : St) (a1 : Int32) (a2 : Int32) (a3 : Int32) (hX : IX σ) (h1 : 0 ≤ a1.toInt) (h1b : a1.toInt < 6) (h2 : 0 ≤ a2.toInt) (h2b : a2.toInt < 6) (h3 : 0 ≤ a3.toInt) (h3b : a3.toInt < 6) : PI l yX11_canBeCorner (wsF yX11_canBeCorner cX11_canBeCorner 12 (some .boolean)) { frames := 1, cells := 0, slots := 0, locals := 22 } [.ref (g.2.2 100), .int (a1), .int (a2), .int (a3)] (GB g (xW g ρ) (XB g ρ dt) σ) (f_X11_canBeCorner σ a1 a2 a3) := by
  refine start_PI (by decide) (Nat.le_of_ble_eq_true rfl) ?_
  intro p e s m args below meth c C0 hG ls hl
  obtain ⟨hK, hP, hDD, hB⟩ := hG
  obtain ⟨hx, hb, hr, hml, hown, hts, hlocks⟩ := id C0
  have hl : lv_has ls 12 [(0, .ref (g.2.2 100)), (1, .int (a1)), (2, .int (a2)), (3, .int (a3))] := hl
  generalize hT : (f_X11_canBeCorner σ a1 a2 a3) = tgt
  unfold f_X11_canBeCorner at hT
  obtain ⟨⟨j1, j1'⟩, ⟨j3, j3'⟩, ⟨j5, j5'⟩, ⟨j8, j8'⟩, ⟨j9, j9'⟩, ⟨j12, j12'⟩, ⟨j14, j14'⟩, ⟨j17, j17'⟩, j81, jW⟩ := id hX
  obtain ⟨w11, w12, w13⟩ := IX_w hX h1 h1b
  obtain ⟨w21, w22, w23⟩ := IX_w hX h2 h2b
  obtain ⟨w31, w32, w33⟩ := IX_w hX h3 h3b
  refine lv_aload_n hx hb dX11_canBeCorner_0 rfl (lv_at hl 0 rfl) ?_
  refine x_get (σ := σ) (v := .ref (g.2.2 101)) (fs := xF0 g ρ σ) 11 0 C0 uw_11 dc_11 hK hP rfl rfl 0 (by decide) rfl w_229 dX11_canBeCorner_1 ?_
  refine x_getN (σ := σ) (v := .ref (g.2.2 26)) (fs := xF1 g ρ σ) 5 1 C0 uw_5 dc_5 hK hP rfl rfl 6 (by decide) rfl w_121 dX11_canBeCorner_4 ?_
  refine lv_iload_n hx hb dX11_canBeCorner_7 rfl (lv_at hl 3 rfl) ?_
  have o_8 : vp_in a3 6 := by
    exact vin (by omega) (by omega)
  refine x_ald (σ := σ) C0 hK hP 11 26 6 rfl o_8 (ix a3) rfl dX11_canBeCorner_8 ?_
  refine lv_aload_n hx hb dX11_canBeCorner_9 rfl (lv_at hl 0 rfl) ?_
  refine x_get (σ := σ) (v := .ref (g.2.2 101)) (fs := xF0 g ρ σ) 11 0 C0 uw_11 dc_11 hK hP rfl rfl 0 (by decide) rfl w_229 dX11_canBeCorner_10 ?_
  refine x_getN (σ := σ) (v := .ref (g.2.2 26)) (fs := xF1 g ρ σ) 5 1 C0 uw_5 dc_5 hK hP rfl rfl 6 (by decide) rfl w_121 dX11_canBeCorner_13 ?_
  refine lv_iload_n hx hb dX11_canBeCorner_16 rfl (lv_at hl 3 rfl) ?_
  have o_17 : vp_in a3 6 := by
    exact vin (by omega) (by omega)
  refine x_ald (σ := σ) C0 hK hP 11 26 6 rfl o_17 (ix a3) rfl dX11_canBeCorner_17 ?_
  refine lv_imul hx hb dX11_canBeCorner_18 ?_
  refine lv_istore (lv' := [(4, .int (((σ 26 (ix a3)) * (σ 26 (ix a3))))), (0, .ref (g.2.2 100)), (1, .int (a1)), (2, .int (a2)), (3, .int (a3))]) hx hb dX11_canBeCorner_19 hl (by decide) rfl (fun ls hl => ?_)
  refine lv_aload_n hx hb dX11_canBeCorner_21 rfl (lv_at hl 1 rfl) ?_
  refine x_get (σ := σ) (v := .ref (g.2.2 101)) (fs := xF0 g ρ σ) 11 0 C0 uw_11 dc_11 hK hP rfl rfl 0 (by decide) rfl w_229 dX11_canBeCorner_22 ?_
  refine x_getN (σ := σ) (v := .ref (g.2.2 27)) (fs := xF1 g ρ σ) 5 1 C0 uw_5 dc_5 hK hP rfl rfl 7 (by decide) rfl w_123 dX11_canBeCorner_25 ?_
  refine lv_iload_n hx hb dX11_canBeCorner_28 rfl (lv_at hl 4 rfl) ?_
  have o_29 : vp_in a3 6 := by
    exact vin (by omega) (by omega)
  refine x_ald (σ := σ) C0 hK hP 12 27 6 rfl o_29 (ix a3) rfl dX11_canBeCorner_29 ?_
  refine lv_aload_n hx hb dX11_canBeCorner_30 rfl (lv_at hl 1 rfl) ?_
  refine x_get (σ := σ) (v := .ref (g.2.2 101)) (fs := xF0 g ρ σ) 11 0 C0 uw_11 dc_11 hK hP rfl rfl 0 (by decide) rfl w_229 dX11_canBeCorner_31 ?_
  refine x_getN (σ := σ) (v := .ref (g.2.2 27)) (fs := xF1 g ρ σ) 5 1 C0 uw_5 dc_5 hK hP rfl rfl 7 (by decide) rfl w_123 dX11_canBeCorner_34 ?_
  refine lv_iload_n hx hb dX11_canBeCorner_37 rfl (lv_at hl 4 rfl) ?_
  have o_38 : vp_in a3 6 := by
    exact vin (by omega) (by omega)
  refine x_ald (σ := σ) C0 hK hP 12 27 6 rfl o_38 (ix a3) rfl dX11_canBeCorner_38 ?_
  refine lv_imul hx hb dX11_canBeCorner_39 ?_
  refine lv_istore (lv' := [(5, .int (((σ 27 (ix a3)) * (σ 27 (ix a3))))), (4, .int (((σ 26 (ix a3)) * (σ 26 (ix a3))))), (0, .ref (g.2.2 100)), (1, .int (a1)), (2, .int (a2)), (3, .int (a3))]) hx hb dX11_canBeCorner_40 hl (by decide) rfl (fun ls hl => ?_)
  refine lv_aload_n hx hb dX11_canBeCorner_42 rfl (lv_at hl 2 rfl) ?_
  refine x_get (σ := σ) (v := .ref (g.2.2 101)) (fs := xF0 g ρ σ) 11 0 C0 uw_11 dc_11 hK hP rfl rfl 0 (by decide) rfl w_229 dX11_canBeCorner_43 ?_
  refine x_getN (σ := σ) (v := .ref (g.2.2 26)) (fs := xF1 g ρ σ) 5 1 C0 uw_5 dc_5 hK hP rfl rfl 6 (by decide) rfl w_121 dX11_canBeCorner_46 ?_
  refine lv_iload_n hx hb dX11_canBeCorner_49 rfl (lv_at hl 3 rfl) ?_
  have o_50 : vp_in a1 6 := by
    exact vin (by omega) (by omega)
  refine x_ald (σ := σ) C0 hK hP 11 26 6 rfl o_50 (ix a1) rfl dX11_canBeCorner_50 ?_
  refine lv_istore (lv' := [(6, .int ((σ 26 (ix a1)))), (5, .int (((σ 27 (ix a3)) * (σ 27 (ix a3))))), (4, .int (((σ 26 (ix a3)) * (σ 26 (ix a3))))), (0, .ref (g.2.2 100)), (1, .int (a1)), (2, .int (a2)), (3, .int (a3))]) hx hb dX11_canBeCorner_51 hl (by decide) rfl (fun ls hl => ?_)
  have j51_h6 : 0 ≤ (σ 26 (ix a1)).toInt := by
    omega
  have j51_m : ((σ 27 (ix a1)).toInt - (σ 26 (ix a1)).toInt + 1).toNat < 1001 := by
    omega
  exact l_X11_canBeCorner_53 (g := g) (ρ := ρ) (dt := dt) C0   (1001) σ a1 a2 ((σ 26 (ix a3)) * (σ 26 (ix a3))) ((σ 27 (ix a3)) * (σ 27 (ix a3))) (σ 26 (ix a1)) hX h1 h1b h2 h2b j51_h6 j51_m hK hP hDD hB (lv_sub hl [3, 4, 5, 2, 1, 0] rfl) hT
set_option maxRecDepth 20000 in
theorem w_751 : (Cond.methodLink RX11 199 yX11_canBeCorner) ∈ TB := inTB (List.mem_of_getElem? (i := 751) (by decide +kernel)) (by decide +kernel)
set_option maxRecDepth 20000 in
theorem w_754 : (Cond.code yX11_canBeCorner cX11_canBeCorner 12 (some .boolean)) ∈ TB := inTB (List.mem_of_getElem? (i := 754) (by decide +kernel)) (by decide +kernel)
set_option maxRecDepth 20000 in
theorem w_753 : (Cond.instanceMethod yX11_canBeCorner) ∈ TB := inTB (List.mem_of_getElem? (i := 753) (by decide +kernel)) (by decide +kernel)
set_option maxRecDepth 20000 in
theorem w_26 : (Cond.selects RX11 yX11_canBeCorner yX11_canBeCorner) ∈ TB := inTB (List.mem_of_getElem? (i := 26) (by decide +kernel)) (by decide +kernel)
theorem cf_X11_canBeCorner : CF yX11_canBeCorner cX11_canBeCorner 12 (some .boolean) 3 := ⟨w_753, w_26, w_71, w_754, by decide +kernel, by decide +kernel, by decide +kernel⟩
/-! ThreeMeasures.square -/
theorem dX11_square_0 : decode cX11_square 0 = .ok (.aload_n 0, 1) := by decide +kernel
theorem dX11_square_1 : decode cX11_square 1 = .ok (.getfield 12, 3) := by decide +kernel
theorem dX11_square_4 : decode cX11_square 4 = .ok (.iload_n 1, 1) := by decide +kernel
theorem dX11_square_5 : decode cX11_square 5 = .ok (.invokevirtual 121, 3) := by decide +kernel
theorem dX11_square_8 : decode cX11_square 8 = .ok (.ifCond .eq 25, 3) := by decide +kernel
theorem dX11_square_11 : decode cX11_square 11 = .ok (.aload_n 0, 1) := by decide +kernel
theorem dX11_square_12 : decode cX11_square 12 = .ok (.getfield 12, 3) := by decide +kernel
theorem dX11_square_15 : decode cX11_square 15 = .ok (.iload_n 2, 1) := by decide +kernel
theorem dX11_square_16 : decode cX11_square 16 = .ok (.invokevirtual 121, 3) := by decide +kernel
theorem dX11_square_19 : decode cX11_square 19 = .ok (.ifCond .eq 14, 3) := by decide +kernel
theorem dX11_square_22 : decode cX11_square 22 = .ok (.aload_n 0, 1) := by decide +kernel
theorem dX11_square_23 : decode cX11_square 23 = .ok (.getfield 12, 3) := by decide +kernel
theorem dX11_square_26 : decode cX11_square 26 = .ok (.iload_n 3, 1) := by decide +kernel
theorem dX11_square_27 : decode cX11_square 27 = .ok (.invokevirtual 121, 3) := by decide +kernel
theorem dX11_square_30 : decode cX11_square 30 = .ok (.ifCond .ne 5, 3) := by decide +kernel
theorem dX11_square_33 : decode cX11_square 33 = .ok (.iconst (-1), 1) := by decide +kernel
theorem dX11_square_34 : decode cX11_square 34 = .ok (.ireturn, 1) := by decide +kernel
theorem dX11_square_35 : decode cX11_square 35 = .ok (.aload_n 0, 1) := by decide +kernel
theorem dX11_square_36 : decode cX11_square 36 = .ok (.iload_n 1, 1) := by decide +kernel
theorem dX11_square_37 : decode cX11_square 37 = .ok (.iload_n 2, 1) := by decide +kernel
theorem dX11_square_38 : decode cX11_square 38 = .ok (.iload_n 3, 1) := by decide +kernel
theorem dX11_square_39 : decode cX11_square 39 = .ok (.invokevirtual 199, 3) := by decide +kernel
theorem dX11_square_42 : decode cX11_square 42 = .ok (.ifCond .ne 5, 3) := by decide +kernel
theorem dX11_square_45 : decode cX11_square 45 = .ok (.iconst 0, 1) := by decide +kernel
theorem dX11_square_46 : decode cX11_square 46 = .ok (.ireturn, 1) := by decide +kernel
theorem dX11_square_47 : decode cX11_square 47 = .ok (.aload_n 0, 1) := by decide +kernel
theorem dX11_square_48 : decode cX11_square 48 = .ok (.getfield 12, 3) := by decide +kernel
theorem dX11_square_51 : decode cX11_square 51 = .ok (.iload_n 1, 1) := by decide +kernel
theorem dX11_square_52 : decode cX11_square 52 = .ok (.invokevirtual 125, 3) := by decide +kernel
theorem dX11_square_55 : decode cX11_square 55 = .ok (.ifCond .ne 29, 3) := by decide +kernel
theorem dX11_square_58 : decode cX11_square 58 = .ok (.aload_n 0, 1) := by decide +kernel
theorem dX11_square_59 : decode cX11_square 59 = .ok (.getfield 12, 3) := by decide +kernel
theorem dX11_square_62 : decode cX11_square 62 = .ok (.iload_n 2, 1) := by decide +kernel
theorem dX11_square_63 : decode cX11_square 63 = .ok (.invokevirtual 125, 3) := by decide +kernel
theorem dX11_square_66 : decode cX11_square 66 = .ok (.ifCond .ne 18, 3) := by decide +kernel
theorem dX11_square_69 : decode cX11_square 69 = .ok (.aload_n 0, 1) := by decide +kernel
theorem dX11_square_70 : decode cX11_square 70 = .ok (.getfield 12, 3) := by decide +kernel
theorem dX11_square_73 : decode cX11_square 73 = .ok (.iload_n 3, 1) := by decide +kernel
theorem dX11_square_74 : decode cX11_square 74 = .ok (.invokevirtual 125, 3) := by decide +kernel
theorem dX11_square_77 : decode cX11_square 77 = .ok (.ifCond .ne 7, 3) := by decide +kernel
theorem dX11_square_80 : decode cX11_square 80 = .ok (.iconst 2, 1) := by decide +kernel
theorem dX11_square_81 : decode cX11_square 81 = .ok (.goto 4, 3) := by decide +kernel
theorem dX11_square_84 : decode cX11_square 84 = .ok (.iconst 1, 1) := by decide +kernel
theorem dX11_square_85 : decode cX11_square 85 = .ok (.ireturn, 1) := by decide +kernel
def f_X11_square (σ : St) (a1 : Int32) (a2 : Int32) (a3 : Int32) : Int32 := (if (f_X5_isWall σ a1) = 0 then (-1 : Int32) else (if (f_X5_isWall σ a2) = 0 then (-1 : Int32) else (if (f_X5_isWall σ a3) = 0 then (-1 : Int32) else (if (f_X11_canBeCorner σ a1 a2 a3) = 0 then (0 : Int32) else (if (f_X5_gap σ a1) = 0 then (if (f_X5_gap σ a2) = 0 then (if (f_X5_gap σ a3) = 0 then (2 : Int32) else (1 : Int32)) else (1 : Int32)) else (1 : Int32))))))
set_option maxHeartbeats 600000 in
set_option maxRecDepth 100000 in
theorem k_X11_square (l : Launch) (g : GG) (ρ : RR) (dt : Nat → Nat → Int32) (σ : St) (a1 : Int32) (a2 : Int32) (a3 : Int32) (hX : IX σ) : PI l yX11_square (wsF yX11_square cX11_square 4 (some .int)) { frames := 2, cells := 0, slots := 0, locals := 53 } [.ref (g.2.2 100), .int (a1), .int (a2), .int (a3)] (GB g (xW g ρ) (XB g ρ dt) σ) (f_X11_square σ a1 a2 a3) := by
  refine start_PI (by decide) (Nat.le_of_ble_eq_true rfl) ?_
  intro p e s m args below meth c C0 hG ls hl
  obtain ⟨hK, hP, hDD, hB⟩ := hG
  obtain ⟨hx, hb, hr, hml, hown, hts, hlocks⟩ := id C0
  have hl : lv_has ls 4 [(0, .ref (g.2.2 100)), (1, .int (a1)), (2, .int (a2)), (3, .int (a3))] := hl
  generalize hT : (f_X11_square σ a1 a2 a3) = tgt
  unfold f_X11_square at hT
  obtain ⟨⟨j1, j1'⟩, ⟨j3, j3'⟩, ⟨j5, j5'⟩, ⟨j8, j8'⟩, ⟨j9, j9'⟩, ⟨j12, j12'⟩, ⟨j14, j14'⟩, ⟨j17, j17'⟩, j81, jW⟩ := id hX
  refine lv_aload_n hx hb dX11_square_0 rfl (lv_at hl 0 rfl) ?_
  refine x_get (σ := σ) (v := .ref (g.2.2 101)) (fs := xF0 g ρ σ) 11 0 C0 uw_11 dc_11 hK hP rfl rfl 0 (by decide) rfl w_229 dX11_square_1 ?_
  refine lv_iload_n hx hb dX11_square_4 rfl (lv_at hl 1 rfl) ?_
  refine x_cn (rest := []) (As := [.int (a1)]) (σ := σ) (ρ := ρ) (dt := dt) (T := TX5) (N := 18) (fs := xF1 g ρ σ) 5 1 rfl rfl C0 hK hP hDD hB cf_X5_isWall w_615 (k_X5_isWall l g ρ dt σ a1 ) ⟨by decide, by decide⟩ hl.1 rfl rfl (Nat.le_of_ble_eq_true rfl) dX11_square_5 ⟨Nat.zero_le _, Nat.zero_le _⟩ ?_
  refine lv_if_eq (tgt := 33) hx hb dX11_square_8 (by decide) (fun c_8 => ?_) (fun c_8 => ?_)
  · have hT := hT_pos c_8 hT
    refine lv_iconst (v := (-1 : Int32)) hx hb dX11_square_33 (by decide) ?_
    exact ret_PI C0 hT dX11_square_34
  · have hT := hT_neg c_8 hT
    refine lv_aload_n hx hb dX11_square_11 rfl (lv_at hl 0 rfl) ?_
    refine x_get (σ := σ) (v := .ref (g.2.2 101)) (fs := xF0 g ρ σ) 11 0 C0 uw_11 dc_11 hK hP rfl rfl 0 (by decide) rfl w_229 dX11_square_12 ?_
    refine lv_iload_n hx hb dX11_square_15 rfl (lv_at hl 2 rfl) ?_
    refine x_cn (rest := []) (As := [.int (a2)]) (σ := σ) (ρ := ρ) (dt := dt) (T := TX5) (N := 18) (fs := xF1 g ρ σ) 5 1 rfl rfl C0 hK hP hDD hB cf_X5_isWall w_615 (k_X5_isWall l g ρ dt σ a2 ) ⟨by decide, by decide⟩ hl.1 rfl rfl (Nat.le_of_ble_eq_true rfl) dX11_square_16 ⟨Nat.zero_le _, Nat.zero_le _⟩ ?_
    refine lv_if_eq (tgt := 33) hx hb dX11_square_19 (by decide) (fun c_19 => ?_) (fun c_19 => ?_)
    · have hT := hT_pos c_19 hT
      refine lv_iconst (v := (-1 : Int32)) hx hb dX11_square_33 (by decide) ?_
      exact ret_PI C0 hT dX11_square_34
    · have hT := hT_neg c_19 hT
      refine lv_aload_n hx hb dX11_square_22 rfl (lv_at hl 0 rfl) ?_
      refine x_get (σ := σ) (v := .ref (g.2.2 101)) (fs := xF0 g ρ σ) 11 0 C0 uw_11 dc_11 hK hP rfl rfl 0 (by decide) rfl w_229 dX11_square_23 ?_
      refine lv_iload_n hx hb dX11_square_26 rfl (lv_at hl 3 rfl) ?_
      refine x_cn (rest := []) (As := [.int (a3)]) (σ := σ) (ρ := ρ) (dt := dt) (T := TX5) (N := 18) (fs := xF1 g ρ σ) 5 1 rfl rfl C0 hK hP hDD hB cf_X5_isWall w_615 (k_X5_isWall l g ρ dt σ a3 ) ⟨by decide, by decide⟩ hl.1 rfl rfl (Nat.le_of_ble_eq_true rfl) dX11_square_27 ⟨Nat.zero_le _, Nat.zero_le _⟩ ?_
      refine lv_if_ne (tgt := 35) hx hb dX11_square_30 (by decide) (fun c_30 => ?_) (fun c_30 => ?_)
      · have hT := hT_neg c_30 hT
        refine lv_aload_n hx hb dX11_square_35 rfl (lv_at hl 0 rfl) ?_
        refine lv_iload_n hx hb dX11_square_36 rfl (lv_at hl 1 rfl) ?_
        refine lv_iload_n hx hb dX11_square_37 rfl (lv_at hl 2 rfl) ?_
        refine lv_iload_n hx hb dX11_square_38 rfl (lv_at hl 3 rfl) ?_
        have q39_h1 : 0 ≤ a1.toInt := by
          have := xw_ne c_8
          have := xw_ne c_19
          have := xw_ne c_30
          omega
        have q39_h1b : a1.toInt < 6 := by
          have := xw_ne c_8
          have := xw_ne c_19
          have := xw_ne c_30
          omega
        have q39_h2 : 0 ≤ a2.toInt := by
          have := xw_ne c_8
          have := xw_ne c_19
          have := xw_ne c_30
          omega
        have q39_h2b : a2.toInt < 6 := by
          have := xw_ne c_8
          have := xw_ne c_19
          have := xw_ne c_30
          omega
        have q39_h3 : 0 ≤ a3.toInt := by
          have := xw_ne c_8
          have := xw_ne c_19
          have := xw_ne c_30
          omega
        have q39_h3b : a3.toInt < 6 := by
          have := xw_ne c_8
          have := xw_ne c_19
          have := xw_ne c_30
          omega
        refine x_ci (rest := []) (As := [.int (a1), .int (a2), .int (a3)]) (σ := σ) (ρ := ρ) (dt := dt) (T := TX11) (N := 10) (fs := xF0 g ρ σ) 11 0 rfl rfl C0 hK hP hDD hB cf_X11_canBeCorner w_751 (k_X11_canBeCorner l g ρ dt σ a1 a2 a3 hX q39_h1 q39_h1b q39_h2 q39_h2b q39_h3 q39_h3b) ⟨by decide, by decide⟩ hl.1 rfl rfl (Nat.le_of_ble_eq_true rfl) dX11_square_39 ⟨Nat.zero_le _, Nat.zero_le _⟩ ?_
        refine lv_if_ne (tgt := 47) hx hb dX11_square_42 (by decide) (fun c_42 => ?_) (fun c_42 => ?_)
        · have hT := hT_neg c_42 hT
          refine lv_aload_n hx hb dX11_square_47 rfl (lv_at hl 0 rfl) ?_
          refine x_get (σ := σ) (v := .ref (g.2.2 101)) (fs := xF0 g ρ σ) 11 0 C0 uw_11 dc_11 hK hP rfl rfl 0 (by decide) rfl w_229 dX11_square_48 ?_
          refine lv_iload_n hx hb dX11_square_51 rfl (lv_at hl 1 rfl) ?_
          have q52_h1 : 0 ≤ a1.toInt := by
            have : ((0 : Int32)).toInt = 0 := by decide
            have := xw_ne c_8
            have := xw_ne c_19
            have := xw_ne c_30
            have := mt ti_eq.mpr c_42
            omega
          have q52_h2 : a1.toInt < 6 := by
            have : ((0 : Int32)).toInt = 0 := by decide
            have := xw_ne c_8
            have := xw_ne c_19
            have := xw_ne c_30
            have := mt ti_eq.mpr c_42
            omega
          refine x_cn (rest := []) (As := [.int (a1)]) (σ := σ) (ρ := ρ) (dt := dt) (T := TX5) (N := 18) (fs := xF1 g ρ σ) 5 1 rfl rfl C0 hK hP hDD hB cf_X5_gap w_619 (k_X5_gap l g ρ dt σ a1 q52_h1 q52_h2) ⟨by decide, by decide⟩ hl.1 rfl rfl (Nat.le_of_ble_eq_true rfl) dX11_square_52 ⟨Nat.zero_le _, Nat.zero_le _⟩ ?_
          have J55 : ∀ v : Int32, v = (if (f_X5_gap σ a1) = 0 then (if (f_X5_gap σ a2) = 0 then (if (f_X5_gap σ a3) = 0 then (2 : Int32) else (1 : Int32)) else (1 : Int32)) else (1 : Int32)) → W p l e { frames := 2, cells := 0, slots := 0, locals := 53 } s m args below meth c s.heap [] 0 0 (QPI below args s tgt) (F0 m 85 ls [.int (v)]) := by
            intro v ev
            subst ev
            exact ret_PI C0 hT dX11_square_85
          refine lv_if_ne (tgt := 84) hx hb dX11_square_55 (by decide) (fun c_55 => ?_) (fun c_55 => ?_)
          · refine lv_iconst (v := (1 : Int32)) hx hb dX11_square_84 (by decide) ?_
            exact J55 _ (iv_neg c_55 rfl)
          · refine lv_aload_n hx hb dX11_square_58 rfl (lv_at hl 0 rfl) ?_
            refine x_get (σ := σ) (v := .ref (g.2.2 101)) (fs := xF0 g ρ σ) 11 0 C0 uw_11 dc_11 hK hP rfl rfl 0 (by decide) rfl w_229 dX11_square_59 ?_
            refine lv_iload_n hx hb dX11_square_62 rfl (lv_at hl 2 rfl) ?_
            have q63_h1 : 0 ≤ a2.toInt := by
              have : ((0 : Int32)).toInt = 0 := by decide
              have := xw_ne c_8
              have := xw_ne c_19
              have := xw_ne c_30
              have := mt ti_eq.mpr c_42
              have := ti_eq.mp c_55
              omega
            have q63_h2 : a2.toInt < 6 := by
              have : ((0 : Int32)).toInt = 0 := by decide
              have := xw_ne c_8
              have := xw_ne c_19
              have := xw_ne c_30
              have := mt ti_eq.mpr c_42
              have := ti_eq.mp c_55
              omega
            refine x_cn (rest := []) (As := [.int (a2)]) (σ := σ) (ρ := ρ) (dt := dt) (T := TX5) (N := 18) (fs := xF1 g ρ σ) 5 1 rfl rfl C0 hK hP hDD hB cf_X5_gap w_619 (k_X5_gap l g ρ dt σ a2 q63_h1 q63_h2) ⟨by decide, by decide⟩ hl.1 rfl rfl (Nat.le_of_ble_eq_true rfl) dX11_square_63 ⟨Nat.zero_le _, Nat.zero_le _⟩ ?_
            refine lv_if_ne (tgt := 84) hx hb dX11_square_66 (by decide) (fun c_66 => ?_) (fun c_66 => ?_)
            · refine lv_iconst (v := (1 : Int32)) hx hb dX11_square_84 (by decide) ?_
              exact J55 _ (iv_pos c_55 (iv_neg c_66 rfl))
            · refine lv_aload_n hx hb dX11_square_69 rfl (lv_at hl 0 rfl) ?_
              refine x_get (σ := σ) (v := .ref (g.2.2 101)) (fs := xF0 g ρ σ) 11 0 C0 uw_11 dc_11 hK hP rfl rfl 0 (by decide) rfl w_229 dX11_square_70 ?_
              refine lv_iload_n hx hb dX11_square_73 rfl (lv_at hl 3 rfl) ?_
              have q74_h1 : 0 ≤ a3.toInt := by
                have : ((0 : Int32)).toInt = 0 := by decide
                have := xw_ne c_8
                have := xw_ne c_19
                have := xw_ne c_30
                have := mt ti_eq.mpr c_42
                have := ti_eq.mp c_55
                have := ti_eq.mp c_66
                omega
              have q74_h2 : a3.toInt < 6 := by
                have : ((0 : Int32)).toInt = 0 := by decide
                have := xw_ne c_8
                have := xw_ne c_19
                have := xw_ne c_30
                have := mt ti_eq.mpr c_42
                have := ti_eq.mp c_55
                have := ti_eq.mp c_66
                omega
              refine x_cn (rest := []) (As := [.int (a3)]) (σ := σ) (ρ := ρ) (dt := dt) (T := TX5) (N := 18) (fs := xF1 g ρ σ) 5 1 rfl rfl C0 hK hP hDD hB cf_X5_gap w_619 (k_X5_gap l g ρ dt σ a3 q74_h1 q74_h2) ⟨by decide, by decide⟩ hl.1 rfl rfl (Nat.le_of_ble_eq_true rfl) dX11_square_74 ⟨Nat.zero_le _, Nat.zero_le _⟩ ?_
              refine lv_if_ne (tgt := 84) hx hb dX11_square_77 (by decide) (fun c_77 => ?_) (fun c_77 => ?_)
              · refine lv_iconst (v := (1 : Int32)) hx hb dX11_square_84 (by decide) ?_
                exact J55 _ (iv_pos c_55 (iv_pos c_66 (iv_neg c_77 rfl)))
              · refine lv_iconst (v := (2 : Int32)) hx hb dX11_square_80 (by decide) ?_
                refine lv_goto (tgt := 85) hx hb dX11_square_81 (by decide) ?_
                exact J55 _ (iv_pos c_55 (iv_pos c_66 (iv_pos c_77 rfl)))
        · have hT := hT_pos c_42 hT
          refine lv_iconst (v := (0 : Int32)) hx hb dX11_square_45 (by decide) ?_
          exact ret_PI C0 hT dX11_square_46
      · have hT := hT_pos c_30 hT
        refine lv_iconst (v := (-1 : Int32)) hx hb dX11_square_33 (by decide) ?_
        exact ret_PI C0 hT dX11_square_34
