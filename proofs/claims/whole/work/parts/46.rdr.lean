
/-! THE READER: what is said of strings beside the class's world -/
def AX (g : GG) : Nat → Prop := fun q => q ∈ adrs (xW g (fun _ _ => none) (fun _ _ => 0))
def YB (g : GG) (ρ : RR) (dt : Nat → Nat → Int32) (aK aV : Nat → Nat) : State → Prop := fun U => XH g ρ dt U.heap ∧ ZB aK aV (AX g) U ∧ vk_R RX1 103 "skvlnw" (aK 0) U ∧ vk_R RX1 109 "<=>" (aK 1) U ∧ vk_R RX1 76 "board " (aK 2) U ∧ vk_R RX1 78 "step " (aK 3) U ∧ vk_R RX1 80 "off " (aK 4) U ∧ vk_R RX1 82 "wear " (aK 5) U
theorem YB.sv {g : GG} {ρ : RR} {dt : Nat → Nat → Int32} {aK aV : Nat → Nat} : SV (YB g ρ dt aK aV) := fun U U' hh hv ⟨hx, h, h0, h1, h2, h3, h4, h5⟩ => ⟨XB.sv U U' hh hv hx, ZB.sv U U' hh hv h, h0.same hv.symm, h1.same hv.symm, h2.same hv.symm, h3.same hv.symm, h4.same hv.symm, h5.same hv.symm⟩
theorem YB.to {g : GG} {ρ : RR} {dt : Nat → Nat → Int32} {aK aV : Nat → Nat} {s U : State} {H : Heap} {locs : List Loc} (h : YB g ρ dt aK aV s) (hS : va_S (AX g) s.heap H locs) (hU : U.heap = H) (hW : s.WarmedH U.vm) : YB g ρ dt aK aV U := by
  obtain ⟨hx, h, h0, h1, h2, h3, h4, h5⟩ := h
  exact ⟨by rw [hU]; exact hx.kept (fun q h1 h2 => hS.2.1 q h1 h2), h.to hS hU hW, h0.warm hW, h1.warm hW, h2.warm hW, h3.warm hW, h4.warm hW, h5.warm hW⟩
section YROWS
variable {p : Program} {l : Launch} {e : Env} {R : Room} {s : State} {m : MethodId} {args : Array Value} {below : List Frame} {meth : Method} {c : Code} {H : Heap} {locs : List Loc} {cells slots : Nat} {Q : State → Prop}
variable {cc : ByteArray} {own C : String} {nL pc : Nat} {ret0 : Option FieldType} {ls : Array Slot} {rest st0 : List Value} {g : GG} {ρ : RR} {dt : Nat → Nat → Int32} {σ : St} {idx N : Nat} {T : u_T} {A : Nat → Prop} {H0 : Heap} {a : Nat} {aK aV : Nat → Nat}
variable {y : MethodName} {cy : ByteArray} {maxL n : Nat} {ret : Option FieldType} {fr lo : Nat} {As : List Value} {fs : List Value}
theorem y_pre (ci q0 : Nat) (he : (xW g ρ σ)[q0]? = some (a, .inr (ci, fs))) (hc : vwCl[ci]? = some (y.cls, T, N)) (hK : KK g s) (hC : WC g (xW g ρ) A s.heap σ H locs) (hB : YB g ρ dt aK aV s) (hA : ∀ q, A q → AX g q) : PreV s H y.cls a (va_Pc (.ref a :: As) (GB g (xW g ρ) (YB g ρ dt aK aV) σ)) As :=
  ⟨(GB.sv YB.sv).blind, va_recv hK.1 hC.1 (ci := ci) (q0 := q0) hc he, fun U hU hW => ⟨rfl, hK.warm hW, by rw [hU]; exact hC.1, hC.2.1.weaken (fun _ _ _ _ => trivial), hB.to (hC.2.2.mono hA) hU hW⟩⟩
theorem y_mi {F : Int32 × St} (ci q0 : Nat) (he : (xW g ρ σ)[q0]? = some (a, .inr (ci, fs))) (hc : vwCl[ci]? = some (y.cls, T, N)) (C0 : BC p s m args meth c cc own nL ret0) (hK : KK g s) (hC : WC g (xW g ρ) A s.heap σ H locs) (hB : YB g ρ dt aK aV s) (hA : ∀ q, A q → AX g q) (hF : CF y cy maxL ret n) (hl : Cond.methodLink own idx y ∈ TB) (hM : MI l y (wsF y cy maxL ret) { frames := fr, cells := 0, slots := 0, locals := lo } (.ref a :: As) g (xW g ρ) (YB g ρ dt aK aV) σ F) (hR : fr + 1 ≤ R.frames ∧ 8 + (maxL + 11) + lo ≤ R.locals) (hsz : ls.size = nL) (hst : st0 = As.reverse ++ .ref a :: rest) (hn : As.length = n) (hW : (rest.map fun v => v.category).sum ≤ 8) (hdg : decode cc pc = .ok (.invokevirtual idx, 3)) (hf : cells ≤ R.cells ∧ slots ≤ R.slots) (kk : ∀ (r : Int32) (u : St) (H1 : Heap) (locs1 : List Loc), (r, u) = F → WC g (xW g ρ) A s.heap u H1 locs1 → W p l e R s m args below meth c H1 locs1 cells slots Q (F0 m (pc + 3) ls (.int r :: rest))) : W p l e R s m args below meth c H locs cells slots Q (F0 m pc ls st0) :=
  aft_mi hC (fun u => xW_adr g ρ ρ σ u) (run_V C0 hF hl hR hM (y_pre ci q0 he hc hK hC hB hA) hn hsz hst hW hdg hf) kk
end YROWS

/-- how far the reader is -/
def RC (σ : St) : Prop := 0 ≤ (σ 64 0).toInt ∧ (σ 64 0).toInt ≤ (σ 63 0).toInt ∧ (σ 63 0).toInt ≤ 100 ∧ 0 ≤ (σ 61 0).toInt ∧ (σ 61 0).toInt ≤ 100 ∧ 0 ≤ (σ 65 0).toInt ∧ (σ 65 0).toInt ≤ 99
def RQ (j : Int) (σ u : St) : Prop := (∀ k, k ≠ 60 → k ≠ 61 → k ≠ 64 → k ≠ 65 → u k = σ k) ∧ RC u ∧ (σ 64 0).toInt ≤ (u 64 0).toInt ∧ (σ 64 0).toInt - (σ 61 0).toInt + j ≤ (u 64 0).toInt - (u 61 0).toInt
theorem RQ.tr {j k : Int} {σ u w : St} (h : RQ j σ u) (h' : RQ k u w) : RQ (j + k) σ w := ⟨fun k a b c d => (h'.1 k a b c d).trans (h.1 k a b c d), h'.2.1, Int.le_trans h.2.2.1 h'.2.2.1, by have := h.2.2.2; have := h'.2.2.2; omega⟩
theorem RQ.rfl {σ : St} (h : RC σ) : RQ 0 σ σ := ⟨fun _ _ _ _ _ => Eq.refl _, h, Int.le_refl _, by omega⟩
theorem RQ.le {j k : Int} {σ u : St} (h : RQ j σ u) (hk : k ≤ j) : RQ k σ u := ⟨h.1, h.2.1, h.2.2.1, by have := h.2.2.2; omega⟩
set_option maxRecDepth 20000 in
theorem w_190 : (Cond.fieldLink RX1 15 RX1 "text" "[I") ∈ TB := inTB (List.mem_of_getElem? (i := 190) (by decide +kernel)) (by decide +kernel)
set_option maxRecDepth 20000 in
theorem w_192 : (Cond.fieldLink RX1 22 RX1 "place" "I") ∈ TB := inTB (List.mem_of_getElem? (i := 192) (by decide +kernel)) (by decide +kernel)
set_option maxRecDepth 20000 in
theorem w_191 : (Cond.fieldLink RX1 18 RX1 "size" "I") ∈ TB := inTB (List.mem_of_getElem? (i := 191) (by decide +kernel)) (by decide +kernel)
/-! ThreeMeasures$Reader.next -/
theorem dX1_next_0 : decode cX1_next 0 = .ok (.aload_n 0, 1) := by decide +kernel
theorem dX1_next_1 : decode cX1_next 1 = .ok (.getfield 15, 3) := by decide +kernel
theorem dX1_next_4 : decode cX1_next 4 = .ok (.ifnull 39, 3) := by decide +kernel
theorem dX1_next_7 : decode cX1_next 7 = .ok (.aload_n 0, 1) := by decide +kernel
theorem dX1_next_8 : decode cX1_next 8 = .ok (.getfield 22, 3) := by decide +kernel
theorem dX1_next_11 : decode cX1_next 11 = .ok (.aload_n 0, 1) := by decide +kernel
theorem dX1_next_12 : decode cX1_next 12 = .ok (.getfield 18, 3) := by decide +kernel
theorem dX1_next_15 : decode cX1_next 15 = .ok (.if_icmp .ge 28, 3) := by decide +kernel
theorem dX1_next_18 : decode cX1_next 18 = .ok (.aload_n 0, 1) := by decide +kernel
theorem dX1_next_19 : decode cX1_next 19 = .ok (.getfield 22, 3) := by decide +kernel
theorem dX1_next_22 : decode cX1_next 22 = .ok (.aload_n 0, 1) := by decide +kernel
theorem dX1_next_23 : decode cX1_next 23 = .ok (.getfield 15, 3) := by decide +kernel
theorem dX1_next_26 : decode cX1_next 26 = .ok (.arraylength, 1) := by decide +kernel
theorem dX1_next_27 : decode cX1_next 27 = .ok (.if_icmp .ge 16, 3) := by decide +kernel
theorem dX1_next_30 : decode cX1_next 30 = .ok (.aload_n 0, 1) := by decide +kernel
theorem dX1_next_31 : decode cX1_next 31 = .ok (.getfield 15, 3) := by decide +kernel
theorem dX1_next_34 : decode cX1_next 34 = .ok (.aload_n 0, 1) := by decide +kernel
theorem dX1_next_35 : decode cX1_next 35 = .ok (.getfield 22, 3) := by decide +kernel
theorem dX1_next_38 : decode cX1_next 38 = .ok (.iaload, 1) := by decide +kernel
theorem dX1_next_39 : decode cX1_next 39 = .ok (.i2c, 1) := by decide +kernel
theorem dX1_next_40 : decode cX1_next 40 = .ok (.goto 4, 3) := by decide +kernel
theorem dX1_next_43 : decode cX1_next 43 = .ok (.iconst 0, 1) := by decide +kernel
theorem dX1_next_44 : decode cX1_next 44 = .ok (.ireturn, 1) := by decide +kernel
def f_X1_next (σ : St) : Int32 := (if (σ 63 0) ≤ (σ 64 0) then (0 : Int32) else (if (100 : Int32) ≤ (σ 64 0) then (0 : Int32) else (((σ 20 (ix (σ 64 0))).toUInt32 % 65536).toInt32)))
set_option maxHeartbeats 600000 in
set_option maxRecDepth 100000 in
theorem k_X1_next (l : Launch) (g : GG) (ρ : RR) (dt : Nat → Nat → Int32)  (σ : St) (hTx : ρ 62 0 = some (g.2.2 20)) (hp : 0 ≤ (σ 64 0).toInt) : PI l yX1_next (wsF yX1_next cX1_next 1 (some .char)) { frames := 0, cells := 0, slots := 0, locals := 0 } [.ref (g.2.2 103)] (GB g (xW g ρ) (XB g ρ dt) σ) (f_X1_next σ) := by
  refine start_PI (by decide) (Nat.le_of_ble_eq_true rfl) ?_
  intro p e s m args below meth c C0 hG ls hl
  obtain ⟨hK, hP, hDD, hB⟩ := hG
  obtain ⟨hx, hb, hr, hml, hown, hts, hlocks⟩ := id C0
  have hl : lv_has ls 1 [(0, .ref (g.2.2 103))] := hl
  generalize hT : (f_X1_next σ) = tgt
  unfold f_X1_next at hT
  refine lv_aload_n hx hb dX1_next_0 rfl (lv_at hl 0 rfl) ?_
  refine x_get (σ := σ) (v := va_rf ((ρ 62 0))) (fs := xF3 g ρ σ) 1 3 C0 uw_1 dc_1 hK hP rfl rfl 2 (by decide) rfl w_190 dX1_next_1 ?_
  rw [show va_rf (ρ 62 0) = .ref (g.2.2 20) by rw [hTx]; rfl]
  refine lv_ifnull hx hb dX1_next_4 ?_
  refine lv_aload_n hx hb dX1_next_7 rfl (lv_at hl 0 rfl) ?_
  refine x_get (σ := σ) (v := .int ((σ 64 0))) (fs := xF3 g ρ σ) 1 3 C0 uw_1 dc_1 hK hP rfl rfl 4 (by decide) rfl w_192 dX1_next_8 ?_
  refine lv_aload_n hx hb dX1_next_11 rfl (lv_at hl 0 rfl) ?_
  refine x_get (σ := σ) (v := .int ((σ 63 0))) (fs := xF3 g ρ σ) 1 3 C0 uw_1 dc_1 hK hP rfl rfl 3 (by decide) rfl w_191 dX1_next_12 ?_
  refine lv_icmp_ge (tgt := 43) hx hb dX1_next_15 (by decide) (fun c_15 => ?_) (fun c_15 => ?_)
  · have hT := hT_pos c_15 hT
    refine lv_iconst (v := (0 : Int32)) hx hb dX1_next_43 (by decide) ?_
    exact ret_PZ C0 rfl hT dX1_next_44
  · have hT := hT_neg c_15 hT
    refine lv_aload_n hx hb dX1_next_18 rfl (lv_at hl 0 rfl) ?_
    refine x_get (σ := σ) (v := .int ((σ 64 0))) (fs := xF3 g ρ σ) 1 3 C0 uw_1 dc_1 hK hP rfl rfl 4 (by decide) rfl w_192 dX1_next_19 ?_
    refine lv_aload_n hx hb dX1_next_22 rfl (lv_at hl 0 rfl) ?_
    refine x_get (σ := σ) (v := va_rf ((ρ 62 0))) (fs := xF3 g ρ σ) 1 3 C0 uw_1 dc_1 hK hP rfl rfl 2 (by decide) rfl w_190 dX1_next_23 ?_
    rw [show va_rf (ρ 62 0) = .ref (g.2.2 20) by rw [hTx]; rfl]
    refine x_alen (σ := σ) C0 hK hP 10 20 100 rfl (v := (100 : Int32)) (by decide) dX1_next_26 ?_
    refine lv_icmp_ge (tgt := 43) hx hb dX1_next_27 (by decide) (fun c_27 => ?_) (fun c_27 => ?_)
    · have hT := hT_pos c_27 hT
      refine lv_iconst (v := (0 : Int32)) hx hb dX1_next_43 (by decide) ?_
      exact ret_PZ C0 rfl hT dX1_next_44
    · have hT := hT_neg c_27 hT
      refine lv_aload_n hx hb dX1_next_30 rfl (lv_at hl 0 rfl) ?_
      refine x_get (σ := σ) (v := va_rf ((ρ 62 0))) (fs := xF3 g ρ σ) 1 3 C0 uw_1 dc_1 hK hP rfl rfl 2 (by decide) rfl w_190 dX1_next_31 ?_
      rw [show va_rf (ρ 62 0) = .ref (g.2.2 20) by rw [hTx]; rfl]
      refine lv_aload_n hx hb dX1_next_34 rfl (lv_at hl 0 rfl) ?_
      refine x_get (σ := σ) (v := .int ((σ 64 0))) (fs := xF3 g ρ σ) 1 3 C0 uw_1 dc_1 hK hP rfl rfl 4 (by decide) rfl w_192 dX1_next_35 ?_
      have o_38 : vp_in (σ 64 0) 100 := by
        have : ((100 : Int32)).toInt = 100 := by decide
        have := mt ti_le.mpr c_15
        have := mt ti_le.mpr c_27
        exact vin (by omega) (by omega)
      refine x_ald (σ := σ) C0 hK hP 10 20 100 rfl o_38 (ix (σ 64 0)) rfl dX1_next_38 ?_
      refine lv_i2c (v := ((σ 20 (ix (σ 64 0))).toUInt32 % 65536).toInt32) hx hb dX1_next_39 rfl ?_
      refine lv_goto (tgt := 44) hx hb dX1_next_40 (by decide) ?_
      exact ret_PZ C0 (pk_nc _) hT dX1_next_44
theorem nx_lt {σ : St} (h : ¬ f_X1_next σ = 0) : (σ 64 0).toInt < (σ 63 0).toInt := by
  unfold f_X1_next at h
  split at h
  · exact absurd (Eq.refl _) h
  · rename_i c
    have c := mt ti_le.mpr c
    omega
theorem rc_64 {σ : St} (h : RC σ) (hn : (σ 64 0).toInt < (σ 63 0).toInt)  : RQ 1 σ (up2 σ 64 0 (σ 64 0 + 1)) ∧ ((up2 σ 64 0 (σ 64 0 + 1)) 64 0).toInt = (σ 64 0).toInt + 1 := by
  obtain ⟨p1, p2, p3, p4, p5, p6, p7⟩ := h
  have e1 : (1 : Int32).toInt = 1 := Eq.refl _
  have q := ti_add (a := σ 64 0) (b := 1) (by omega) (by omega)
  have k : (up2 σ 64 0 (σ 64 0 + 1)) 64 0 = σ 64 0 + 1 := Eq.refl _
  refine ⟨⟨fun k h1 h2 h3 h4 => if_neg h3, ⟨by rw [k]; omega, by rw [k]; show _ ≤ (σ 63 0).toInt; omega, p3, p4, p5, p6, p7⟩, by rw [k]; omega, by rw [k]; show _ ≤ _ - (σ 61 0).toInt; omega⟩, by rw [k]; omega⟩
theorem rc_65 {σ : St} (h : RC σ) {v : Int32} (h1 : 0 ≤ v.toInt) (h2 : v.toInt ≤ 99) : RQ 0 σ (up2 σ 65 0 v) := by
  obtain ⟨p1, p2, p3, p4, p5, p6, p7⟩ := h
  exact ⟨fun k a b c d => if_neg d, ⟨p1, p2, p3, p4, p5, h1, h2⟩, Int.le_refl _, by show _ ≤ (σ 64 0).toInt - (σ 61 0).toInt; omega⟩
theorem dig_ne {σ : St} {c : Int32} (c1 : ¬ c - 48 < 0) : ¬ c = 0 := fun z => by
  rw [z] at c1
  exact c1 (by decide)
theorem tn_1 {σ : St} (h : RC σ) (c1 : ¬ f_X1_next σ - 48 < 0) (c2 : f_X1_next σ - 48 ≤ 9) : RQ 1 σ (up2 (up2 σ 65 0 (f_X1_next σ - 48)) 64 0 (σ 64 0 + 1)) ∧ 0 ≤ (f_X1_next σ - 48).toInt ∧ (f_X1_next σ - 48).toInt ≤ 9 := by
  have e0 : (0 : Int32).toInt = 0 := Eq.refl _
  have e9 : (9 : Int32).toInt = 9 := Eq.refl _
  have w1 := mt ti_lt.mpr c1
  have w2 := ti_le.mp c2
  have S1 := rc_65 h (v := f_X1_next σ - 48) (by omega) (by omega)
  obtain ⟨S2, -⟩ := rc_64 S1.2.1 (show (σ 64 0).toInt < (σ 63 0).toInt from nx_lt (dig_ne (σ := σ) c1))
  exact ⟨(S1.tr S2).le (by decide), by omega, by omega⟩
theorem tn_2 {u : St} (h : RC u) (v1 : 0 ≤ (u 65 0).toInt) (v2 : (u 65 0).toInt ≤ 9) (c1 : ¬ f_X1_next u - 48 < 0) (c2 : ¬ (9 : Int32) < f_X1_next u - 48) : RQ 1 u (up2 (up2 u 65 0 (u 65 0 * 10 + (f_X1_next u - 48))) 64 0 (u 64 0 + 1)) := by
  have e0 : (0 : Int32).toInt = 0 := Eq.refl _
  have e9 : (9 : Int32).toInt = 9 := Eq.refl _
  have w1 := mt ti_lt.mpr c1
  have w2 := mt ti_lt.mpr c2
  have q1 := ti_mulL (n := 10) (a := u 65 0) (b := 10) (Eq.refl _) (by omega) (by omega)
  have q2 := ti_add (a := u 65 0 * 10) (b := f_X1_next u - 48) (by omega) (by omega)
  have S1 := rc_65 h (v := u 65 0 * 10 + (f_X1_next u - 48)) (by omega) (by omega)
  obtain ⟨S2, -⟩ := rc_64 S1.2.1 (show (u 64 0).toInt < (u 63 0).toInt from nx_lt (dig_ne (σ := u) c1))
  exact (S1.tr S2).le (by decide)
set_option maxRecDepth 20000 in
theorem w_276 : (Cond.methodLink RX1 53 yX1_next) ∈ TB := inTB (List.mem_of_getElem? (i := 276) (by decide +kernel)) (by decide +kernel)
set_option maxRecDepth 20000 in
theorem w_279 : (Cond.code yX1_next cX1_next 1 (some .char)) ∈ TB := inTB (List.mem_of_getElem? (i := 279) (by decide +kernel)) (by decide +kernel)
set_option maxRecDepth 20000 in
theorem w_278 : (Cond.instanceMethod yX1_next) ∈ TB := inTB (List.mem_of_getElem? (i := 278) (by decide +kernel)) (by decide +kernel)
set_option maxRecDepth 20000 in
theorem w_2 : (Cond.selects RX1 yX1_next yX1_next) ∈ TB := inTB (List.mem_of_getElem? (i := 2) (by decide +kernel)) (by decide +kernel)
set_option maxRecDepth 20000 in
theorem w_73 : (Cond.initialized RX1) ∈ TB := inTB (List.mem_of_getElem? (i := 73) (by decide +kernel)) (by decide +kernel)
theorem cf_X1_next : CF yX1_next cX1_next 1 (some .char) 0 := ⟨w_278, w_2, w_73, w_279, by decide +kernel, by decide +kernel, by decide +kernel⟩
/-! ThreeMeasures$Reader.takes -/
theorem dX1_takes_0 : decode cX1_takes 0 = .ok (.aload_n 0, 1) := by decide +kernel
theorem dX1_takes_1 : decode cX1_takes 1 = .ok (.invokevirtual 53, 3) := by decide +kernel
theorem dX1_takes_4 : decode cX1_takes 4 = .ok (.iload_n 1, 1) := by decide +kernel
theorem dX1_takes_5 : decode cX1_takes 5 = .ok (.if_icmp .eq 5, 3) := by decide +kernel
theorem dX1_takes_8 : decode cX1_takes 8 = .ok (.iconst 0, 1) := by decide +kernel
theorem dX1_takes_9 : decode cX1_takes 9 = .ok (.ireturn, 1) := by decide +kernel
theorem dX1_takes_10 : decode cX1_takes 10 = .ok (.aload_n 0, 1) := by decide +kernel
theorem dX1_takes_11 : decode cX1_takes 11 = .ok (.dup, 1) := by decide +kernel
theorem dX1_takes_12 : decode cX1_takes 12 = .ok (.getfield 22, 3) := by decide +kernel
theorem dX1_takes_15 : decode cX1_takes 15 = .ok (.iconst 1, 1) := by decide +kernel
theorem dX1_takes_16 : decode cX1_takes 16 = .ok (.iadd, 1) := by decide +kernel
theorem dX1_takes_17 : decode cX1_takes 17 = .ok (.putfield 22, 3) := by decide +kernel
theorem dX1_takes_20 : decode cX1_takes 20 = .ok (.iconst 1, 1) := by decide +kernel
theorem dX1_takes_21 : decode cX1_takes 21 = .ok (.ireturn, 1) := by decide +kernel
def f_X1_takes (σ : St) (a1 : Int32) : Int32 × St := (if (f_X1_next σ ) = a1 then ((1 : Int32), (up2 σ 64 0 ((σ 64 0) + (1 : Int32)))) else ((0 : Int32), σ))
set_option maxHeartbeats 600000 in
set_option maxRecDepth 100000 in
theorem k_X1_takes (l : Launch) (g : GG) (ρ : RR) (dt : Nat → Nat → Int32)  (σ : St) (a1 : Int32) (hTx : ρ 62 0 = some (g.2.2 20)) (hp : 0 ≤ (σ 64 0).toInt) : MI l yX1_takes (wsF yX1_takes cX1_takes 2 (some .boolean)) { frames := 1, cells := 0, slots := 0, locals := 20 } [.ref (g.2.2 103), .int (a1)] g (xW g ρ) (XB g ρ dt) σ (f_X1_takes σ a1) := by
  refine start_MI (by decide) (Nat.le_of_ble_eq_true rfl) ?_
  intro p e s m args below meth c C0 hK hB hC ls hl
  generalize hAe : aA ((xW g ρ) σ) = A at hC ⊢
  have hA : ∀ q, A q → q ∈ adrs (xW g (fun _ _ => none) (fun _ _ => 0)) := fun q h => by rw [← hAe] at h; exact h
  obtain ⟨hx, hb, hr, hml, hown, hts, hlocks⟩ := id C0
  have hl : lv_has ls 2 [(0, .ref (g.2.2 103)), (1, .int (a1))] := hl
  generalize hT : (f_X1_takes σ a1) = tgt
  suffices key : ∀ (H : Heap) (locs : List Loc), WC g (xW g ρ) A s.heap σ H locs → W p l e { frames := 1, cells := 0, slots := 0, locals := 20 } s m args below meth c H locs 0 0 (QMI below args s g (xW g ρ) A tgt) (F0 m 0 ls []) from key _ _ hC
  intro H locs hC
  unfold f_X1_takes at hT
  refine lv_aload_n hx hb dX1_takes_0 rfl (lv_at hl 0 rfl) ?_
  refine x_ci (rest := []) (As := []) (σ := σ) (ρ := ρ) (dt := dt) (T := TX1) (N := 8) (fs := xF3 g ρ σ) 1 3 rfl rfl C0 hK hC.1 (hC.2.1.weaken (fun _ _ _ _ => trivial)) (XH.wa hB hA hC) cf_X1_next w_276 (k_X1_next l g ρ dt σ  hTx hp) ⟨by decide, by decide⟩ hl.1 rfl rfl (Nat.le_of_ble_eq_true rfl) dX1_takes_1 ⟨Nat.zero_le _, Nat.zero_le _⟩ ?_
  refine lv_iload_n hx hb dX1_takes_4 rfl (lv_at hl 1 rfl) ?_
  refine lv_icmp_eq (tgt := 10) hx hb dX1_takes_5 (by decide) (fun c_5 => ?_) (fun c_5 => ?_)
  · have hT := hT_pos c_5 hT
    refine lv_aload_n hx hb dX1_takes_10 rfl (lv_at hl 0 rfl) ?_
    refine lv_dup hx hb dX1_takes_11 rfl ?_
    refine x_get (σ := σ) (v := .int ((σ 64 0))) (fs := xF3 g ρ σ) 1 3 C0 uw_1 dc_1 hK hC.1 rfl rfl 4 (by decide) rfl w_192 dX1_takes_12 ?_
    refine lv_iconst (v := (1 : Int32)) hx hb dX1_takes_15 (by decide) ?_
    refine lv_iadd hx hb dX1_takes_16 ?_
    refine x_put (σ := σ) (ty := .int) (fs := xF3 g ρ σ) 1 3 C0 uw_1 dc_1 tyX1 tyX1_ok nmX1 hK hC rfl rfl 4 (by decide) rfl rfl rfl rfl (Nat.le_of_ble_eq_true rfl) (xs_64 g ρ _ _) w_192 dX1_takes_17 (fun H locs hC => ?_)
    refine lv_iconst (v := (1 : Int32)) hx hb dX1_takes_20 (by decide) ?_
    exact ret_MZ C0 (nz_of (Or.inr rfl)) hC hT dX1_takes_21
  · have hT := hT_neg c_5 hT
    refine lv_iconst (v := (0 : Int32)) hx hb dX1_takes_8 (by decide) ?_
    exact ret_MZ C0 (nz_of (Or.inl rfl)) hC hT dX1_takes_9
theorem takes_q {σ : St} (h : RC σ) {c : Int32} (hc : ¬ c = 0) : RQ 0 σ (f_X1_takes σ c).2 ∧ ((f_X1_takes σ c).1 = 0 ∨ RQ 1 σ (f_X1_takes σ c).2) := by
  unfold f_X1_takes
  by_cases e : f_X1_next σ = c
  · rw [if_pos e]
    obtain ⟨q1, q2⟩ := rc_64 h (nx_lt (by rw [e]; exact hc))
    exact ⟨q1.le (by decide), Or.inr q1⟩
  · rw [if_neg e]
    exact ⟨RQ.rfl h, Or.inl (Eq.refl _)⟩
set_option maxRecDepth 20000 in
theorem w_189 : (Cond.fieldLink RX1 25 RX1 "codeSize" "I") ∈ TB := inTB (List.mem_of_getElem? (i := 189) (by decide +kernel)) (by decide +kernel)
set_option maxRecDepth 20000 in
theorem w_188 : (Cond.fieldLink RX1 9 RX1 "code" "[I") ∈ TB := inTB (List.mem_of_getElem? (i := 188) (by decide +kernel)) (by decide +kernel)
/-! ThreeMeasures$Reader.emit -/
theorem dX1_emit_0 : decode cX1_emit 0 = .ok (.aload_n 0, 1) := by decide +kernel
theorem dX1_emit_1 : decode cX1_emit 1 = .ok (.getfield 25, 3) := by decide +kernel
theorem dX1_emit_4 : decode cX1_emit 4 = .ok (.aload_n 0, 1) := by decide +kernel
theorem dX1_emit_5 : decode cX1_emit 5 = .ok (.getfield 9, 3) := by decide +kernel
theorem dX1_emit_8 : decode cX1_emit 8 = .ok (.arraylength, 1) := by decide +kernel
theorem dX1_emit_9 : decode cX1_emit 9 = .ok (.if_icmp .ge 27, 3) := by decide +kernel
theorem dX1_emit_12 : decode cX1_emit 12 = .ok (.aload_n 0, 1) := by decide +kernel
theorem dX1_emit_13 : decode cX1_emit 13 = .ok (.getfield 9, 3) := by decide +kernel
theorem dX1_emit_16 : decode cX1_emit 16 = .ok (.aload_n 0, 1) := by decide +kernel
theorem dX1_emit_17 : decode cX1_emit 17 = .ok (.getfield 25, 3) := by decide +kernel
theorem dX1_emit_20 : decode cX1_emit 20 = .ok (.iload_n 2, 1) := by decide +kernel
theorem dX1_emit_21 : decode cX1_emit 21 = .ok (.iconst 3, 1) := by decide +kernel
theorem dX1_emit_22 : decode cX1_emit 22 = .ok (.ishl, 1) := by decide +kernel
theorem dX1_emit_23 : decode cX1_emit 23 = .ok (.iload_n 1, 1) := by decide +kernel
theorem dX1_emit_24 : decode cX1_emit 24 = .ok (.ior, 1) := by decide +kernel
theorem dX1_emit_25 : decode cX1_emit 25 = .ok (.iastore, 1) := by decide +kernel
theorem dX1_emit_26 : decode cX1_emit 26 = .ok (.aload_n 0, 1) := by decide +kernel
theorem dX1_emit_27 : decode cX1_emit 27 = .ok (.dup, 1) := by decide +kernel
theorem dX1_emit_28 : decode cX1_emit 28 = .ok (.getfield 25, 3) := by decide +kernel
theorem dX1_emit_31 : decode cX1_emit 31 = .ok (.iconst 1, 1) := by decide +kernel
theorem dX1_emit_32 : decode cX1_emit 32 = .ok (.iadd, 1) := by decide +kernel
theorem dX1_emit_33 : decode cX1_emit 33 = .ok (.putfield 25, 3) := by decide +kernel
theorem dX1_emit_36 : decode cX1_emit 36 = .ok (.return_, 1) := by decide +kernel
def f_X1_emit (σ : St) (a1 : Int32) (a2 : Int32) : St := (if (100 : Int32) ≤ (σ 61 0) then σ else (up2 (up2 σ 60 (ix (σ 61 0)) ((a2 <<< ((3 : Int32) &&& 31)) ||| a1)) 61 0 ((σ 61 0) + (1 : Int32))))
set_option maxHeartbeats 600000 in
set_option maxRecDepth 100000 in
theorem k_X1_emit (l : Launch) (g : GG) (ρ : RR) (dt : Nat → Nat → Int32)  (σ : St) (a1 : Int32) (a2 : Int32) (h61 : 0 ≤ (σ 61 0).toInt) : MV l yX1_emit (wsF yX1_emit cX1_emit 3 none) { frames := 0, cells := 0, slots := 0, locals := 0 } [.ref (g.2.2 103), .int (a1), .int (a2)] g (xW g ρ) (XB g ρ dt) σ (f_X1_emit σ a1 a2) := by
  refine start_MV (by decide) (Nat.le_of_ble_eq_true rfl) ?_
  intro p e s m args below meth c C0 hK hB hC ls hl
  generalize hAe : aA ((xW g ρ) σ) = A at hC ⊢
  have hA : ∀ q, A q → q ∈ adrs (xW g (fun _ _ => none) (fun _ _ => 0)) := fun q h => by rw [← hAe] at h; exact h
  obtain ⟨hx, hb, hr, hml, hown, hts, hlocks⟩ := id C0
  have hl : lv_has ls 3 [(0, .ref (g.2.2 103)), (1, .int (a1)), (2, .int (a2))] := hl
  generalize hT : (f_X1_emit σ a1 a2) = tgt
  suffices key : ∀ (H : Heap) (locs : List Loc), WC g (xW g ρ) A s.heap σ H locs → W p l e { frames := 0, cells := 0, slots := 0, locals := 0 } s m args below meth c H locs 0 0 (QMV below args s g (xW g ρ) A tgt) (F0 m 0 ls []) from key _ _ hC
  intro H locs hC
  unfold f_X1_emit at hT
  refine lv_aload_n hx hb dX1_emit_0 rfl (lv_at hl 0 rfl) ?_
  refine x_get (σ := σ) (v := .int ((σ 61 0))) (fs := xF3 g ρ σ) 1 3 C0 uw_1 dc_1 hK hC.1 rfl rfl 1 (by decide) rfl w_189 dX1_emit_1 ?_
  refine lv_aload_n hx hb dX1_emit_4 rfl (lv_at hl 0 rfl) ?_
  refine x_get (σ := σ) (v := .ref (g.2.2 60)) (fs := xF3 g ρ σ) 1 3 C0 uw_1 dc_1 hK hC.1 rfl rfl 0 (by decide) rfl w_188 dX1_emit_5 ?_
  refine x_alen (σ := σ) C0 hK hC.1 26 60 100 rfl (v := (100 : Int32)) (by decide) dX1_emit_8 ?_
  refine lv_icmp_ge (tgt := 36) hx hb dX1_emit_9 (by decide) (fun c_9 => ?_) (fun c_9 => ?_)
  · have hT := hT_pos c_9 hT
    exact ret_MV C0 hC hT dX1_emit_36
  · have hT := hT_neg c_9 hT
    refine lv_aload_n hx hb dX1_emit_12 rfl (lv_at hl 0 rfl) ?_
    refine x_get (σ := σ) (v := .ref (g.2.2 60)) (fs := xF3 g ρ σ) 1 3 C0 uw_1 dc_1 hK hC.1 rfl rfl 0 (by decide) rfl w_188 dX1_emit_13 ?_
    refine lv_aload_n hx hb dX1_emit_16 rfl (lv_at hl 0 rfl) ?_
    refine x_get (σ := σ) (v := .int ((σ 61 0))) (fs := xF3 g ρ σ) 1 3 C0 uw_1 dc_1 hK hC.1 rfl rfl 1 (by decide) rfl w_189 dX1_emit_17 ?_
    refine lv_iload_n hx hb dX1_emit_20 rfl (lv_at hl 2 rfl) ?_
    refine lv_iconst (v := (3 : Int32)) hx hb dX1_emit_21 (by decide) ?_
    refine lv_ishl hx hb dX1_emit_22 ?_
    refine lv_iload_n hx hb dX1_emit_23 rfl (lv_at hl 1 rfl) ?_
    refine lv_ior hx hb dX1_emit_24 ?_
    have o_25 : vp_in (σ 61 0) 100 := by
      have : ((100 : Int32)).toInt = 100 := by decide
      have := mt ti_le.mpr c_9
      exact vin (by omega) (by omega)
    refine x_ast (σ := σ) C0 hK hC 26 60 100 rfl (xs_60 g ρ _) o_25 (ix (σ 61 0)) rfl dX1_emit_25 (fun H locs hC => ?_)
    refine lv_aload_n hx hb dX1_emit_26 rfl (lv_at hl 0 rfl) ?_
    refine lv_dup hx hb dX1_emit_27 rfl ?_
    refine x_get (σ := (up2 σ 60 (ix (σ 61 0)) ((a2 <<< ((3 : Int32) &&& 31)) ||| a1))) (v := .int ((σ 61 0))) (fs := xF3 g ρ (up2 σ 60 (ix (σ 61 0)) ((a2 <<< ((3 : Int32) &&& 31)) ||| a1))) 1 3 C0 uw_1 dc_1 hK hC.1 rfl rfl 1 (by decide) rfl w_189 dX1_emit_28 ?_
    refine lv_iconst (v := (1 : Int32)) hx hb dX1_emit_31 (by decide) ?_
    refine lv_iadd hx hb dX1_emit_32 ?_
    refine x_put (σ := (up2 σ 60 (ix (σ 61 0)) ((a2 <<< ((3 : Int32) &&& 31)) ||| a1))) (ty := .int) (fs := xF3 g ρ (up2 σ 60 (ix (σ 61 0)) ((a2 <<< ((3 : Int32) &&& 31)) ||| a1))) 1 3 C0 uw_1 dc_1 tyX1 tyX1_ok nmX1 hK hC rfl rfl 1 (by decide) rfl rfl rfl rfl (Nat.le_of_ble_eq_true rfl) (xs_61 g ρ _ _) w_189 dX1_emit_33 (fun H locs hC => ?_)
    exact ret_MV C0 hC hT dX1_emit_36
theorem emit_q {σ : St} (h : RC σ) (a b : Int32) : RQ (-1) σ (f_X1_emit σ a b) := by
  unfold f_X1_emit
  by_cases e : (100 : Int32) ≤ σ 61 0
  · rw [if_pos e]
    exact (RQ.rfl h).le (by decide)
  · rw [if_neg e]
    have w := mt ti_le.mpr e
    have e100 : (100 : Int32).toInt = 100 := Eq.refl _
    have e1 : (1 : Int32).toInt = 1 := Eq.refl _
    obtain ⟨p1, p2, p3, p4, p5, p6, p7⟩ := h
    have q := ti_add (a := σ 61 0) (b := 1) (by omega) (by omega)
    have k : ∀ x : Int32, (up2 (up2 σ 60 (ix (σ 61 0)) x) 61 0 (σ 61 0 + 1)) 61 0 = σ 61 0 + 1 := fun x => Eq.refl _
    refine ⟨fun k h1 h2 h3 h4 => ?_, ⟨p1, p2, p3, by rw [k]; omega, by rw [k]; omega, p6, p7⟩, Int.le_refl _, by rw [k]; show _ ≤ (σ 64 0).toInt - _; omega⟩
    show (if k = 61 then _ else if k = 60 then _ else σ k) = σ k
    rw [if_neg h2, if_neg h1]
set_option maxRecDepth 20000 in
theorem w_194 : (Cond.fieldLink RX1 65 RX1 "number" "I") ∈ TB := inTB (List.mem_of_getElem? (i := 194) (by decide +kernel)) (by decide +kernel)
/-! ThreeMeasures$Reader.takesNumber -/
theorem dX1_takesNumber_0 : decode cX1_takesNumber 0 = .ok (.aload_n 0, 1) := by decide +kernel
theorem dX1_takesNumber_1 : decode cX1_takesNumber 1 = .ok (.invokevirtual 53, 3) := by decide +kernel
theorem dX1_takesNumber_4 : decode cX1_takesNumber 4 = .ok (.bipush 48, 2) := by decide +kernel
theorem dX1_takesNumber_6 : decode cX1_takesNumber 6 = .ok (.isub, 1) := by decide +kernel
theorem dX1_takesNumber_7 : decode cX1_takesNumber 7 = .ok (.istore_n 1, 1) := by decide +kernel
theorem dX1_takesNumber_8 : decode cX1_takesNumber 8 = .ok (.iload_n 1, 1) := by decide +kernel
theorem dX1_takesNumber_9 : decode cX1_takesNumber 9 = .ok (.ifCond .lt 9, 3) := by decide +kernel
theorem dX1_takesNumber_12 : decode cX1_takesNumber 12 = .ok (.iload_n 1, 1) := by decide +kernel
theorem dX1_takesNumber_13 : decode cX1_takesNumber 13 = .ok (.bipush 9, 2) := by decide +kernel
theorem dX1_takesNumber_15 : decode cX1_takesNumber 15 = .ok (.if_icmp .le 5, 3) := by decide +kernel
theorem dX1_takesNumber_18 : decode cX1_takesNumber 18 = .ok (.iconst 0, 1) := by decide +kernel
theorem dX1_takesNumber_19 : decode cX1_takesNumber 19 = .ok (.ireturn, 1) := by decide +kernel
theorem dX1_takesNumber_20 : decode cX1_takesNumber 20 = .ok (.aload_n 0, 1) := by decide +kernel
theorem dX1_takesNumber_21 : decode cX1_takesNumber 21 = .ok (.iload_n 1, 1) := by decide +kernel
theorem dX1_takesNumber_22 : decode cX1_takesNumber 22 = .ok (.putfield 65, 3) := by decide +kernel
theorem dX1_takesNumber_25 : decode cX1_takesNumber 25 = .ok (.aload_n 0, 1) := by decide +kernel
theorem dX1_takesNumber_26 : decode cX1_takesNumber 26 = .ok (.dup, 1) := by decide +kernel
theorem dX1_takesNumber_27 : decode cX1_takesNumber 27 = .ok (.getfield 22, 3) := by decide +kernel
theorem dX1_takesNumber_30 : decode cX1_takesNumber 30 = .ok (.iconst 1, 1) := by decide +kernel
theorem dX1_takesNumber_31 : decode cX1_takesNumber 31 = .ok (.iadd, 1) := by decide +kernel
theorem dX1_takesNumber_32 : decode cX1_takesNumber 32 = .ok (.putfield 22, 3) := by decide +kernel
theorem dX1_takesNumber_35 : decode cX1_takesNumber 35 = .ok (.aload_n 0, 1) := by decide +kernel
theorem dX1_takesNumber_36 : decode cX1_takesNumber 36 = .ok (.invokevirtual 53, 3) := by decide +kernel
theorem dX1_takesNumber_39 : decode cX1_takesNumber 39 = .ok (.bipush 48, 2) := by decide +kernel
theorem dX1_takesNumber_41 : decode cX1_takesNumber 41 = .ok (.isub, 1) := by decide +kernel
theorem dX1_takesNumber_42 : decode cX1_takesNumber 42 = .ok (.istore_n 1, 1) := by decide +kernel
theorem dX1_takesNumber_43 : decode cX1_takesNumber 43 = .ok (.aload_n 0, 1) := by decide +kernel
theorem dX1_takesNumber_44 : decode cX1_takesNumber 44 = .ok (.getfield 65, 3) := by decide +kernel
theorem dX1_takesNumber_47 : decode cX1_takesNumber 47 = .ok (.ifCond .le 36, 3) := by decide +kernel
theorem dX1_takesNumber_50 : decode cX1_takesNumber 50 = .ok (.iload_n 1, 1) := by decide +kernel
theorem dX1_takesNumber_51 : decode cX1_takesNumber 51 = .ok (.ifCond .lt 32, 3) := by decide +kernel
theorem dX1_takesNumber_54 : decode cX1_takesNumber 54 = .ok (.iload_n 1, 1) := by decide +kernel
theorem dX1_takesNumber_55 : decode cX1_takesNumber 55 = .ok (.bipush 9, 2) := by decide +kernel
theorem dX1_takesNumber_57 : decode cX1_takesNumber 57 = .ok (.if_icmp .gt 26, 3) := by decide +kernel
theorem dX1_takesNumber_60 : decode cX1_takesNumber 60 = .ok (.aload_n 0, 1) := by decide +kernel
theorem dX1_takesNumber_61 : decode cX1_takesNumber 61 = .ok (.aload_n 0, 1) := by decide +kernel
theorem dX1_takesNumber_62 : decode cX1_takesNumber 62 = .ok (.getfield 65, 3) := by decide +kernel
theorem dX1_takesNumber_65 : decode cX1_takesNumber 65 = .ok (.bipush 10, 2) := by decide +kernel
theorem dX1_takesNumber_67 : decode cX1_takesNumber 67 = .ok (.imul, 1) := by decide +kernel
theorem dX1_takesNumber_68 : decode cX1_takesNumber 68 = .ok (.iload_n 1, 1) := by decide +kernel
theorem dX1_takesNumber_69 : decode cX1_takesNumber 69 = .ok (.iadd, 1) := by decide +kernel
theorem dX1_takesNumber_70 : decode cX1_takesNumber 70 = .ok (.putfield 65, 3) := by decide +kernel
theorem dX1_takesNumber_73 : decode cX1_takesNumber 73 = .ok (.aload_n 0, 1) := by decide +kernel
theorem dX1_takesNumber_74 : decode cX1_takesNumber 74 = .ok (.dup, 1) := by decide +kernel
theorem dX1_takesNumber_75 : decode cX1_takesNumber 75 = .ok (.getfield 22, 3) := by decide +kernel
theorem dX1_takesNumber_78 : decode cX1_takesNumber 78 = .ok (.iconst 1, 1) := by decide +kernel
theorem dX1_takesNumber_79 : decode cX1_takesNumber 79 = .ok (.iadd, 1) := by decide +kernel
theorem dX1_takesNumber_80 : decode cX1_takesNumber 80 = .ok (.putfield 22, 3) := by decide +kernel
theorem dX1_takesNumber_83 : decode cX1_takesNumber 83 = .ok (.iconst 1, 1) := by decide +kernel
theorem dX1_takesNumber_84 : decode cX1_takesNumber 84 = .ok (.ireturn, 1) := by decide +kernel
def f_X1_takesNumber (σ : St) : Int32 × St := (if ((f_X1_next σ ) - (48 : Int32)) < 0 then ((0 : Int32), σ) else (if ((f_X1_next σ ) - (48 : Int32)) ≤ (9 : Int32) then (if ((f_X1_next σ ) - (48 : Int32)) ≤ 0 then ((1 : Int32), (up2 (up2 σ 65 0 ((f_X1_next σ ) - (48 : Int32))) 64 0 ((σ 64 0) + (1 : Int32)))) else (if ((f_X1_next (up2 (up2 σ 65 0 ((f_X1_next σ ) - (48 : Int32))) 64 0 ((σ 64 0) + (1 : Int32))) ) - (48 : Int32)) < 0 then ((1 : Int32), (up2 (up2 σ 65 0 ((f_X1_next σ ) - (48 : Int32))) 64 0 ((σ 64 0) + (1 : Int32)))) else (if (9 : Int32) < ((f_X1_next (up2 (up2 σ 65 0 ((f_X1_next σ ) - (48 : Int32))) 64 0 ((σ 64 0) + (1 : Int32))) ) - (48 : Int32)) then ((1 : Int32), (up2 (up2 σ 65 0 ((f_X1_next σ ) - (48 : Int32))) 64 0 ((σ 64 0) + (1 : Int32)))) else ((1 : Int32), (up2 (up2 (up2 (up2 σ 65 0 ((f_X1_next σ ) - (48 : Int32))) 64 0 ((σ 64 0) + (1 : Int32))) 65 0 ((((f_X1_next σ ) - (48 : Int32)) * (10 : Int32)) + ((f_X1_next (up2 (up2 σ 65 0 ((f_X1_next σ ) - (48 : Int32))) 64 0 ((σ 64 0) + (1 : Int32))) ) - (48 : Int32)))) 64 0 (((σ 64 0) + (1 : Int32)) + (1 : Int32))))))) else ((0 : Int32), σ)))
set_option maxHeartbeats 600000 in
set_option maxRecDepth 100000 in
theorem k_X1_takesNumber (l : Launch) (g : GG) (ρ : RR) (dt : Nat → Nat → Int32)  (σ : St) (hTx : ρ 62 0 = some (g.2.2 20)) (hR : RC σ) : MI l yX1_takesNumber (wsF yX1_takesNumber cX1_takesNumber 2 (some .boolean)) { frames := 1, cells := 0, slots := 0, locals := 20 } [.ref (g.2.2 103)] g (xW g ρ) (XB g ρ dt) σ (f_X1_takesNumber σ) := by
  refine start_MI (by decide) (Nat.le_of_ble_eq_true rfl) ?_
  intro p e s m args below meth c C0 hK hB hC ls hl
  generalize hAe : aA ((xW g ρ) σ) = A at hC ⊢
  have hA : ∀ q, A q → q ∈ adrs (xW g (fun _ _ => none) (fun _ _ => 0)) := fun q h => by rw [← hAe] at h; exact h
  obtain ⟨hx, hb, hr, hml, hown, hts, hlocks⟩ := id C0
  have hl : lv_has ls 2 [(0, .ref (g.2.2 103))] := hl
  generalize hT : (f_X1_takesNumber σ) = tgt
  suffices key : ∀ (H : Heap) (locs : List Loc), WC g (xW g ρ) A s.heap σ H locs → W p l e { frames := 1, cells := 0, slots := 0, locals := 20 } s m args below meth c H locs 0 0 (QMI below args s g (xW g ρ) A tgt) (F0 m 0 ls []) from key _ _ hC
  intro H locs hC
  unfold f_X1_takesNumber at hT
  obtain ⟨p1, p2, p3, p4, p5, p6, p7⟩ := id hR
  refine lv_aload_n hx hb dX1_takesNumber_0 rfl (lv_at hl 0 rfl) ?_
  have q1_hp : 0 ≤ (σ 64 0).toInt := by
    omega
  refine x_ci (rest := []) (As := []) (σ := σ) (ρ := ρ) (dt := dt) (T := TX1) (N := 8) (fs := xF3 g ρ σ) 1 3 rfl rfl C0 hK hC.1 (hC.2.1.weaken (fun _ _ _ _ => trivial)) (XH.wa hB hA hC) cf_X1_next w_276 (k_X1_next l g ρ dt σ  hTx q1_hp) ⟨by decide, by decide⟩ hl.1 rfl rfl (Nat.le_of_ble_eq_true rfl) dX1_takesNumber_1 ⟨Nat.zero_le _, Nat.zero_le _⟩ ?_
  refine lv_bipush (v := (48 : Int32)) hx hb dX1_takesNumber_4 (by decide) ?_
  refine lv_isub hx hb dX1_takesNumber_6 ?_
  refine lv_istore_n (lv' := [(1, .int (((f_X1_next σ ) - (48 : Int32)))), (0, .ref (g.2.2 103))]) hx hb dX1_takesNumber_7 rfl hl (by decide) rfl (fun ls hl => ?_)
  refine lv_iload_n hx hb dX1_takesNumber_8 rfl (lv_at hl 0 rfl) ?_
  refine lv_if_lt (tgt := 18) hx hb dX1_takesNumber_9 (by decide) (fun c_9 => ?_) (fun c_9 => ?_)
  · have hT := hT_pos c_9 hT
    refine lv_iconst (v := (0 : Int32)) hx hb dX1_takesNumber_18 (by decide) ?_
    exact ret_MZ C0 (nz_of (Or.inl rfl)) hC hT dX1_takesNumber_19
  · have hT := hT_neg c_9 hT
    refine lv_iload_n hx hb dX1_takesNumber_12 rfl (lv_at hl 0 rfl) ?_
    refine lv_bipush (v := (9 : Int32)) hx hb dX1_takesNumber_13 (by decide) ?_
    refine lv_icmp_le (tgt := 20) hx hb dX1_takesNumber_15 (by decide) (fun c_15 => ?_) (fun c_15 => ?_)
    · have hT := hT_pos c_15 hT
      refine lv_aload_n hx hb dX1_takesNumber_20 rfl (lv_at hl 1 rfl) ?_
      refine lv_iload_n hx hb dX1_takesNumber_21 rfl (lv_at hl 0 rfl) ?_
      refine x_put (σ := σ) (ty := .int) (fs := xF3 g ρ σ) 1 3 C0 uw_1 dc_1 tyX1 tyX1_ok nmX1 hK hC rfl rfl 5 (by decide) rfl rfl rfl rfl (Nat.le_of_ble_eq_true rfl) (xs_65 g ρ _ _) w_194 dX1_takesNumber_22 (fun H locs hC => ?_)
      refine lv_aload_n hx hb dX1_takesNumber_25 rfl (lv_at hl 1 rfl) ?_
      refine lv_dup hx hb dX1_takesNumber_26 rfl ?_
      refine x_get (σ := (up2 σ 65 0 ((f_X1_next σ ) - (48 : Int32)))) (v := .int ((σ 64 0))) (fs := xF3 g ρ (up2 σ 65 0 ((f_X1_next σ ) - (48 : Int32)))) 1 3 C0 uw_1 dc_1 hK hC.1 rfl rfl 4 (by decide) rfl w_192 dX1_takesNumber_27 ?_
      refine lv_iconst (v := (1 : Int32)) hx hb dX1_takesNumber_30 (by decide) ?_
      refine lv_iadd hx hb dX1_takesNumber_31 ?_
      refine x_put (σ := (up2 σ 65 0 ((f_X1_next σ ) - (48 : Int32)))) (ty := .int) (fs := xF3 g ρ (up2 σ 65 0 ((f_X1_next σ ) - (48 : Int32)))) 1 3 C0 uw_1 dc_1 tyX1 tyX1_ok nmX1 hK hC rfl rfl 4 (by decide) rfl rfl rfl rfl (Nat.le_of_ble_eq_true rfl) (xs_64 g ρ _ _) w_192 dX1_takesNumber_32 (fun H locs hC => ?_)
      refine lv_aload_n hx hb dX1_takesNumber_35 rfl (lv_at hl 1 rfl) ?_
      have q36_hp : 0 ≤ (((σ 64 0) + (1 : Int32))).toInt := (tn_1 hR c_9 c_15).1.2.1.1
      refine x_ci (rest := []) (As := []) (σ := (up2 (up2 σ 65 0 ((f_X1_next σ ) - (48 : Int32))) 64 0 ((σ 64 0) + (1 : Int32)))) (ρ := ρ) (dt := dt) (T := TX1) (N := 8) (fs := xF3 g ρ (up2 (up2 σ 65 0 ((f_X1_next σ ) - (48 : Int32))) 64 0 ((σ 64 0) + (1 : Int32)))) 1 3 rfl rfl C0 hK hC.1 (hC.2.1.weaken (fun _ _ _ _ => trivial)) (XH.wa hB hA hC) cf_X1_next w_276 (k_X1_next l g ρ dt (up2 (up2 σ 65 0 ((f_X1_next σ ) - (48 : Int32))) 64 0 ((σ 64 0) + (1 : Int32)))  hTx q36_hp) ⟨by decide, by decide⟩ hl.1 rfl rfl (Nat.le_of_ble_eq_true rfl) dX1_takesNumber_36 ⟨Nat.zero_le _, Nat.zero_le _⟩ ?_
      refine lv_bipush (v := (48 : Int32)) hx hb dX1_takesNumber_39 (by decide) ?_
      refine lv_isub hx hb dX1_takesNumber_41 ?_
      refine lv_istore_n (lv' := [(1, .int (((f_X1_next (up2 (up2 σ 65 0 ((f_X1_next σ ) - (48 : Int32))) 64 0 ((σ 64 0) + (1 : Int32))) ) - (48 : Int32)))), (0, .ref (g.2.2 103))]) hx hb dX1_takesNumber_42 rfl hl (by decide) rfl (fun ls hl => ?_)
      refine lv_aload_n hx hb dX1_takesNumber_43 rfl (lv_at hl 1 rfl) ?_
      refine x_get (σ := (up2 (up2 σ 65 0 ((f_X1_next σ ) - (48 : Int32))) 64 0 ((σ 64 0) + (1 : Int32)))) (v := .int (((f_X1_next σ ) - (48 : Int32)))) (fs := xF3 g ρ (up2 (up2 σ 65 0 ((f_X1_next σ ) - (48 : Int32))) 64 0 ((σ 64 0) + (1 : Int32)))) 1 3 C0 uw_1 dc_1 hK hC.1 rfl rfl 5 (by decide) rfl w_194 dX1_takesNumber_44 ?_
      refine lv_if_le (tgt := 83) hx hb dX1_takesNumber_47 (by decide) (fun c_47 => ?_) (fun c_47 => ?_)
      · have hT := hT_pos c_47 hT
        refine lv_iconst (v := (1 : Int32)) hx hb dX1_takesNumber_83 (by decide) ?_
        exact ret_MZ C0 (nz_of (Or.inr rfl)) hC hT dX1_takesNumber_84
      · have hT := hT_neg c_47 hT
        refine lv_iload_n hx hb dX1_takesNumber_50 rfl (lv_at hl 0 rfl) ?_
        refine lv_if_lt (tgt := 83) hx hb dX1_takesNumber_51 (by decide) (fun c_51 => ?_) (fun c_51 => ?_)
        · have hT := hT_pos c_51 hT
          refine lv_iconst (v := (1 : Int32)) hx hb dX1_takesNumber_83 (by decide) ?_
          exact ret_MZ C0 (nz_of (Or.inr rfl)) hC hT dX1_takesNumber_84
        · have hT := hT_neg c_51 hT
          refine lv_iload_n hx hb dX1_takesNumber_54 rfl (lv_at hl 0 rfl) ?_
          refine lv_bipush (v := (9 : Int32)) hx hb dX1_takesNumber_55 (by decide) ?_
          refine lv_icmp_gt (tgt := 83) hx hb dX1_takesNumber_57 (by decide) (fun c_57 => ?_) (fun c_57 => ?_)
          · have hT := hT_pos c_57 hT
            refine lv_iconst (v := (1 : Int32)) hx hb dX1_takesNumber_83 (by decide) ?_
            exact ret_MZ C0 (nz_of (Or.inr rfl)) hC hT dX1_takesNumber_84
          · have hT := hT_neg c_57 hT
            refine lv_aload_n hx hb dX1_takesNumber_60 rfl (lv_at hl 1 rfl) ?_
            refine lv_aload_n hx hb dX1_takesNumber_61 rfl (lv_at hl 1 rfl) ?_
            refine x_get (σ := (up2 (up2 σ 65 0 ((f_X1_next σ ) - (48 : Int32))) 64 0 ((σ 64 0) + (1 : Int32)))) (v := .int (((f_X1_next σ ) - (48 : Int32)))) (fs := xF3 g ρ (up2 (up2 σ 65 0 ((f_X1_next σ ) - (48 : Int32))) 64 0 ((σ 64 0) + (1 : Int32)))) 1 3 C0 uw_1 dc_1 hK hC.1 rfl rfl 5 (by decide) rfl w_194 dX1_takesNumber_62 ?_
            refine lv_bipush (v := (10 : Int32)) hx hb dX1_takesNumber_65 (by decide) ?_
            refine lv_imul hx hb dX1_takesNumber_67 ?_
            refine lv_iload_n hx hb dX1_takesNumber_68 rfl (lv_at hl 0 rfl) ?_
            refine lv_iadd hx hb dX1_takesNumber_69 ?_
            refine x_put (σ := (up2 (up2 σ 65 0 ((f_X1_next σ ) - (48 : Int32))) 64 0 ((σ 64 0) + (1 : Int32)))) (ty := .int) (fs := xF3 g ρ (up2 (up2 σ 65 0 ((f_X1_next σ ) - (48 : Int32))) 64 0 ((σ 64 0) + (1 : Int32)))) 1 3 C0 uw_1 dc_1 tyX1 tyX1_ok nmX1 hK hC rfl rfl 5 (by decide) rfl rfl rfl rfl (Nat.le_of_ble_eq_true rfl) (xs_65 g ρ _ _) w_194 dX1_takesNumber_70 (fun H locs hC => ?_)
            refine lv_aload_n hx hb dX1_takesNumber_73 rfl (lv_at hl 1 rfl) ?_
            refine lv_dup hx hb dX1_takesNumber_74 rfl ?_
            refine x_get (σ := (up2 (up2 (up2 σ 65 0 ((f_X1_next σ ) - (48 : Int32))) 64 0 ((σ 64 0) + (1 : Int32))) 65 0 ((((f_X1_next σ ) - (48 : Int32)) * (10 : Int32)) + ((f_X1_next (up2 (up2 σ 65 0 ((f_X1_next σ ) - (48 : Int32))) 64 0 ((σ 64 0) + (1 : Int32))) ) - (48 : Int32))))) (v := .int (((σ 64 0) + (1 : Int32)))) (fs := xF3 g ρ (up2 (up2 (up2 σ 65 0 ((f_X1_next σ ) - (48 : Int32))) 64 0 ((σ 64 0) + (1 : Int32))) 65 0 ((((f_X1_next σ ) - (48 : Int32)) * (10 : Int32)) + ((f_X1_next (up2 (up2 σ 65 0 ((f_X1_next σ ) - (48 : Int32))) 64 0 ((σ 64 0) + (1 : Int32))) ) - (48 : Int32))))) 1 3 C0 uw_1 dc_1 hK hC.1 rfl rfl 4 (by decide) rfl w_192 dX1_takesNumber_75 ?_
            refine lv_iconst (v := (1 : Int32)) hx hb dX1_takesNumber_78 (by decide) ?_
            refine lv_iadd hx hb dX1_takesNumber_79 ?_
            refine x_put (σ := (up2 (up2 (up2 σ 65 0 ((f_X1_next σ ) - (48 : Int32))) 64 0 ((σ 64 0) + (1 : Int32))) 65 0 ((((f_X1_next σ ) - (48 : Int32)) * (10 : Int32)) + ((f_X1_next (up2 (up2 σ 65 0 ((f_X1_next σ ) - (48 : Int32))) 64 0 ((σ 64 0) + (1 : Int32))) ) - (48 : Int32))))) (ty := .int) (fs := xF3 g ρ (up2 (up2 (up2 σ 65 0 ((f_X1_next σ ) - (48 : Int32))) 64 0 ((σ 64 0) + (1 : Int32))) 65 0 ((((f_X1_next σ ) - (48 : Int32)) * (10 : Int32)) + ((f_X1_next (up2 (up2 σ 65 0 ((f_X1_next σ ) - (48 : Int32))) 64 0 ((σ 64 0) + (1 : Int32))) ) - (48 : Int32))))) 1 3 C0 uw_1 dc_1 tyX1 tyX1_ok nmX1 hK hC rfl rfl 4 (by decide) rfl rfl rfl rfl (Nat.le_of_ble_eq_true rfl) (xs_64 g ρ _ _) w_192 dX1_takesNumber_80 (fun H locs hC => ?_)
            refine lv_iconst (v := (1 : Int32)) hx hb dX1_takesNumber_83 (by decide) ?_
            exact ret_MZ C0 (nz_of (Or.inr rfl)) hC hT dX1_takesNumber_84
    · have hT := hT_neg c_15 hT
      refine lv_iconst (v := (0 : Int32)) hx hb dX1_takesNumber_18 (by decide) ?_
      exact ret_MZ C0 (nz_of (Or.inl rfl)) hC hT dX1_takesNumber_19
theorem tnum_q {σ : St} (h : RC σ) : RQ 0 σ (f_X1_takesNumber σ).2 ∧ ((f_X1_takesNumber σ).1 = 0 ∨ RQ 1 σ (f_X1_takesNumber σ).2) := by
  unfold f_X1_takesNumber
  by_cases c1 : f_X1_next σ - 48 < 0
  · rw [if_pos c1]
    exact ⟨RQ.rfl h, Or.inl (Eq.refl _)⟩
  · rw [if_neg c1]
    by_cases c2 : f_X1_next σ - 48 ≤ 9
    · rw [if_pos c2]
      obtain ⟨S, v1, v2⟩ := tn_1 h c1 c2
      by_cases c3 : f_X1_next σ - 48 ≤ 0
      · rw [if_pos c3]
        exact ⟨S.le (by decide), Or.inr S⟩
      · rw [if_neg c3]
        by_cases c4 : f_X1_next (up2 (up2 σ 65 0 (f_X1_next σ - 48)) 64 0 (σ 64 0 + 1)) - 48 < 0
        · rw [if_pos c4]
          exact ⟨S.le (by decide), Or.inr S⟩
        · rw [if_neg c4]
          by_cases c5 : (9 : Int32) < f_X1_next (up2 (up2 σ 65 0 (f_X1_next σ - 48)) 64 0 (σ 64 0 + 1)) - 48
          · rw [if_pos c5]
            exact ⟨S.le (by decide), Or.inr S⟩
          · rw [if_neg c5]
            exact ⟨(S.tr (tn_2 S.2.1 v1 v2 c4 c5)).le (by decide), Or.inr ((S.tr (tn_2 S.2.1 v1 v2 c4 c5)).le (by decide))⟩
    · rw [if_neg c2]
      exact ⟨RQ.rfl h, Or.inl (Eq.refl _)⟩
