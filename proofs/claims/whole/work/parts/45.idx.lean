/-! java/lang/StringLatin1.canEncode -/
theorem dJ1_canEncode_9a6ad_0 : decode cJ1_canEncode_9a6ad 0 = .ok (.iload_n 0, 1) := by decide +kernel
theorem dJ1_canEncode_9a6ad_1 : decode cJ1_canEncode_9a6ad 1 = .ok (.ifCond .lt 14, 3) := by decide +kernel
theorem dJ1_canEncode_9a6ad_4 : decode cJ1_canEncode_9a6ad 4 = .ok (.iload_n 0, 1) := by decide +kernel
theorem dJ1_canEncode_9a6ad_5 : decode cJ1_canEncode_9a6ad 5 = .ok (.sipush 255, 3) := by decide +kernel
theorem dJ1_canEncode_9a6ad_8 : decode cJ1_canEncode_9a6ad 8 = .ok (.if_icmp .gt 7, 3) := by decide +kernel
theorem dJ1_canEncode_9a6ad_11 : decode cJ1_canEncode_9a6ad 11 = .ok (.iconst 1, 1) := by decide +kernel
theorem dJ1_canEncode_9a6ad_12 : decode cJ1_canEncode_9a6ad 12 = .ok (.goto 4, 3) := by decide +kernel
theorem dJ1_canEncode_9a6ad_15 : decode cJ1_canEncode_9a6ad 15 = .ok (.iconst 0, 1) := by decide +kernel
theorem dJ1_canEncode_9a6ad_16 : decode cJ1_canEncode_9a6ad 16 = .ok (.ireturn, 1) := by decide +kernel
def f_J1_canEncode_9a6ad (a0 : Int32) : Int32 := (if a0 < 0 then (0 : Int32) else (if (255 : Int32) < a0 then (0 : Int32) else (1 : Int32)))
set_option maxHeartbeats 600000 in
set_option maxRecDepth 100000 in
theorem k_J1_canEncode_9a6ad (l : Launch)   (a0 : Int32)  : PI l yJ1_canEncode_9a6ad (wsF yJ1_canEncode_9a6ad cJ1_canEncode_9a6ad 1 (some .boolean)) { frames := 0, cells := 0, slots := 0, locals := 0 } [.int (a0)] (fun _ => True) (f_J1_canEncode_9a6ad a0) := by
  refine start_PI (by decide) (Nat.le_of_ble_eq_true rfl) ?_
  intro p e s m args below meth c C0 hG ls hl
  obtain ⟨hx, hb, hr, hml, hown, hts, hlocks⟩ := id C0
  have hl : lv_has ls 1 [(0, .int (a0))] := hl
  generalize hT : (f_J1_canEncode_9a6ad a0) = tgt
  unfold f_J1_canEncode_9a6ad at hT
  refine lv_iload_n hx hb dJ1_canEncode_9a6ad_0 rfl (lv_at hl 0 rfl) ?_
  have J1 : ∀ v : Int32, v = (if a0 < 0 then (0 : Int32) else (if (255 : Int32) < a0 then (0 : Int32) else (1 : Int32))) → W p l e { frames := 0, cells := 0, slots := 0, locals := 0 } s m args below meth c s.heap [] 0 0 (QPI below args s tgt) (F0 m 16 ls [.int (v)]) := by
    intro v ev
    subst ev
    exact ret_PZ C0 (nz_of (by (repeat' split) <;> simp)) hT dJ1_canEncode_9a6ad_16
  refine lv_if_lt (tgt := 15) hx hb dJ1_canEncode_9a6ad_1 (by decide) (fun c_1 => ?_) (fun c_1 => ?_)
  · refine lv_iconst (v := (0 : Int32)) hx hb dJ1_canEncode_9a6ad_15 (by decide) ?_
    exact J1 _ (iv_pos c_1 rfl)
  · refine lv_iload_n hx hb dJ1_canEncode_9a6ad_4 rfl (lv_at hl 0 rfl) ?_
    refine lv_sipush (v := (255 : Int32)) hx hb dJ1_canEncode_9a6ad_5 (by decide) ?_
    refine lv_icmp_gt (tgt := 15) hx hb dJ1_canEncode_9a6ad_8 (by decide) (fun c_8 => ?_) (fun c_8 => ?_)
    · refine lv_iconst (v := (0 : Int32)) hx hb dJ1_canEncode_9a6ad_15 (by decide) ?_
      exact J1 _ (iv_neg c_1 (iv_pos c_8 rfl))
    · refine lv_iconst (v := (1 : Int32)) hx hb dJ1_canEncode_9a6ad_11 (by decide) ?_
      refine lv_goto (tgt := 16) hx hb dJ1_canEncode_9a6ad_12 (by decide) ?_
      exact J1 _ (iv_neg c_1 (iv_neg c_8 rfl))
theorem jce_0 {c : Int32} (h : f_J1_canEncode_9a6ad c = 0) : ¬ (0 ≤ c.toInt ∧ c.toInt ≤ 255) := by
  unfold f_J1_canEncode_9a6ad at h
  split at h
  · rename_i q
    rw [ti_lt] at q
    have e : (0 : Int32).toInt = 0 := rfl
    omega
  · split at h
    · rename_i q
      rw [ti_lt] at q
      have e : (255 : Int32).toInt = 255 := rfl
      omega
    · exact absurd h (by decide)
/-! java/lang/StringLatin1.indexOfChar -/
theorem dJ1_indexOfChar_4cfef_0 : decode cJ1_indexOfChar_4cfef 0 = .ok (.iload_n 1, 1) := by decide +kernel
theorem dJ1_indexOfChar_4cfef_1 : decode cJ1_indexOfChar_4cfef 1 = .ok (.i2b, 1) := by decide +kernel
theorem dJ1_indexOfChar_4cfef_2 : decode cJ1_indexOfChar_4cfef 2 = .ok (.istore 4, 2) := by decide +kernel
theorem dJ1_indexOfChar_4cfef_4 : decode cJ1_indexOfChar_4cfef 4 = .ok (.iload_n 2, 1) := by decide +kernel
theorem dJ1_indexOfChar_4cfef_5 : decode cJ1_indexOfChar_4cfef 5 = .ok (.istore 5, 2) := by decide +kernel
theorem dJ1_indexOfChar_4cfef_7 : decode cJ1_indexOfChar_4cfef 7 = .ok (.iload 5, 2) := by decide +kernel
theorem dJ1_indexOfChar_4cfef_9 : decode cJ1_indexOfChar_4cfef 9 = .ok (.iload_n 3, 1) := by decide +kernel
theorem dJ1_indexOfChar_4cfef_10 : decode cJ1_indexOfChar_4cfef 10 = .ok (.if_icmp .ge 21, 3) := by decide +kernel
theorem dJ1_indexOfChar_4cfef_13 : decode cJ1_indexOfChar_4cfef 13 = .ok (.aload_n 0, 1) := by decide +kernel
theorem dJ1_indexOfChar_4cfef_14 : decode cJ1_indexOfChar_4cfef 14 = .ok (.iload 5, 2) := by decide +kernel
theorem dJ1_indexOfChar_4cfef_16 : decode cJ1_indexOfChar_4cfef 16 = .ok (.baload, 1) := by decide +kernel
theorem dJ1_indexOfChar_4cfef_17 : decode cJ1_indexOfChar_4cfef 17 = .ok (.iload 4, 2) := by decide +kernel
theorem dJ1_indexOfChar_4cfef_19 : decode cJ1_indexOfChar_4cfef 19 = .ok (.if_icmp .ne 6, 3) := by decide +kernel
theorem dJ1_indexOfChar_4cfef_22 : decode cJ1_indexOfChar_4cfef 22 = .ok (.iload 5, 2) := by decide +kernel
theorem dJ1_indexOfChar_4cfef_24 : decode cJ1_indexOfChar_4cfef 24 = .ok (.ireturn, 1) := by decide +kernel
theorem dJ1_indexOfChar_4cfef_25 : decode cJ1_indexOfChar_4cfef 25 = .ok (.iinc 5 1, 3) := by decide +kernel
theorem dJ1_indexOfChar_4cfef_28 : decode cJ1_indexOfChar_4cfef 28 = .ok (.goto (-21), 3) := by decide +kernel
theorem dJ1_indexOfChar_4cfef_31 : decode cJ1_indexOfChar_4cfef 31 = .ok (.iconst (-1), 1) := by decide +kernel
theorem dJ1_indexOfChar_4cfef_32 : decode cJ1_indexOfChar_4cfef 32 = .ok (.ireturn, 1) := by decide +kernel
def f_J1_indexOfChar_4cfef_7 (K7 : Nat → Int32 → Int32 → Int32 → Int32) (a0 : Nat) (a3 : Int32) (a4 : Int32) (a5 : Int32) : Int32 := (if a3 ≤ a5 then (-1 : Int32) else (if ((bytS.getD a0 []).getD (ix a5) 0) = a4 then a5 else (K7 a0 a3 a4 (a5 + (1 : Int32)))))
set_option maxHeartbeats 600000 in
set_option maxRecDepth 100000 in
theorem b_J1_indexOfChar_4cfef_7 {aK aV : Nat → Nat} {A : Nat → Prop} {p : Program} {l : Launch} {e : Env} {s : State} {m : MethodId} {args : Array Value} {below : List Frame} {meth : Method} {c : Code}  {tgt : Int32} {K7 : Nat → Int32 → Int32 → Int32 → Int32} {N7 : Nat}  (C0 : BC p s m args meth c cJ1_indexOfChar_4cfef RJ1 6 (some .int)) (hK7 : ∀ (a0 : Nat) (a3 : Int32) (a4 : Int32) (a5 : Int32), (a0 < 6) → (a3.toInt ≤ lenS.getD a0 0) → (0 ≤ a5.toInt) → (a3.toInt - a5.toInt).toNat < N7 → ZB aK aV A s →  ∀ {ls : Array Slot}, lv_has ls 6 [(0, .ref (aV a0)), (3, .int (a3)), (4, .int (a4)), (5, .int (a5))] → K7 a0 a3 a4 a5 = tgt → W p l e { frames := 0, cells := 0, slots := 0, locals := 0 } s m args below meth c s.heap [] 0 0 (QPI below args s tgt) (F0 m 7 ls [])) {a0 : Nat} {a3 : Int32} {a4 : Int32} {a5 : Int32}  (hi : a0 < 6) (h3 : a3.toInt ≤ lenS.getD a0 0) (h5 : 0 ≤ a5.toInt) (hm : (a3.toInt - a5.toInt).toNat < N7 + 1) (hZB : ZB aK aV A s) {ls : Array Slot} (hl : lv_has ls 6 [(0, .ref (aV a0)), (3, .int (a3)), (4, .int (a4)), (5, .int (a5))]) (hT : f_J1_indexOfChar_4cfef_7 K7 a0 a3 a4 a5 = tgt) : W p l e { frames := 0, cells := 0, slots := 0, locals := 0 } s m args below meth c s.heap [] 0 0 (QPI below args s tgt) (F0 m 7 ls []) := by
  obtain ⟨hx, hb, hr, hml, hown, hts, hlocks⟩ := id C0
  unfold f_J1_indexOfChar_4cfef_7 at hT
  refine lv_iload hx hb dJ1_indexOfChar_4cfef_7 (lv_at hl 3 rfl) ?_
  refine lv_iload_n hx hb dJ1_indexOfChar_4cfef_9 rfl (lv_at hl 1 rfl) ?_
  refine lv_icmp_ge (tgt := 31) hx hb dJ1_indexOfChar_4cfef_10 (by decide) (fun c_10 => ?_) (fun c_10 => ?_)
  · have hT := hT_pos c_10 hT
    refine lv_iconst (v := (-1 : Int32)) hx hb dJ1_indexOfChar_4cfef_31 (by decide) ?_
    exact ret_PI C0 hT dJ1_indexOfChar_4cfef_32
  · have hT := hT_neg c_10 hT
    refine lv_aload_n hx hb dJ1_indexOfChar_4cfef_13 rfl (lv_at hl 0 rfl) ?_
    refine lv_iload hx hb dJ1_indexOfChar_4cfef_14 (lv_at hl 3 rfl) ?_
    have w1 := mt ti_le.mpr c_10
    have w3 := jlen_b hi
    have o_16 : vp_in a5 (lenS.getD a0 0) := (vp_in_iff.mpr ⟨h5, by omega⟩)
    refine va_tb hx hb (hZB.1.1 _ hi).2.2.2 va_S.rf o_16 rfl dJ1_indexOfChar_4cfef_16 ?_
    refine lv_iload hx hb dJ1_indexOfChar_4cfef_17 (lv_at hl 2 rfl) ?_
    refine lv_icmp_ne (tgt := 25) hx hb dJ1_indexOfChar_4cfef_19 (by decide) (fun c_19 => ?_) (fun c_19 => ?_)
    · have hT := hT_neg c_19 hT
      refine lv_iinc (v := (a5 + (1 : Int32))) (lv' := [(5, .int ((a5 + (1 : Int32)))), (0, .ref (aV a0)), (3, .int (a3)), (4, .int (a4))]) hx hb dJ1_indexOfChar_4cfef_25 hl (k := 3) rfl rfl (by decide) rfl (fun ls hl => ?_)
      refine lv_goto (tgt := 7) hx hb dJ1_indexOfChar_4cfef_28 (by decide) ?_
      have j28_h5 : 0 ≤ (a5 + (1 : Int32)).toInt := by
        have : ((1 : Int32)).toInt = 1 := by decide
        have := mt ti_le.mpr c_10
        have := mt ti_eq.mpr c_19
        try have := ti_add (a := a5) (b := (1 : Int32)) (by omega) (by omega)
        omega
      have j28_m : (a3.toInt - (a5 + (1 : Int32)).toInt).toNat < N7 := by
        have : ((1 : Int32)).toInt = 1 := by decide
        have := mt ti_le.mpr c_10
        have := mt ti_eq.mpr c_19
        try have := ti_add (a := a5) (b := (1 : Int32)) (by omega) (by omega)
        omega
      exact hK7 a0 a3 a4 (a5 + (1 : Int32)) hi h3 j28_h5 j28_m hZB (lv_sub hl [1, 2, 3, 0] rfl) hT
    · have hT := hT_pos c_19 hT
      refine lv_iload hx hb dJ1_indexOfChar_4cfef_22 (lv_at hl 3 rfl) ?_
      exact ret_PI C0 hT dJ1_indexOfChar_4cfef_24
def g_J1_indexOfChar_4cfef_7  : Nat → Nat → Int32 → Int32 → Int32 → Int32
  | 0 => fun a0 a3 a4 a5 => 0
  | n + 1 => fun a0 a3 a4 a5 => f_J1_indexOfChar_4cfef_7  (g_J1_indexOfChar_4cfef_7  n) a0 a3 a4 a5
theorem l_J1_indexOfChar_4cfef_7 {aK aV : Nat → Nat} {A : Nat → Prop} {p : Program} {l : Launch} {e : Env} {s : State} {m : MethodId} {args : Array Value} {below : List Frame} {meth : Method} {c : Code}  {tgt : Int32}   (C0 : BC p s m args meth c cJ1_indexOfChar_4cfef RJ1 6 (some .int))  : ∀ (n : Nat) (a0 : Nat) (a3 : Int32) (a4 : Int32) (a5 : Int32), (a0 < 6) → (a3.toInt ≤ lenS.getD a0 0) → (0 ≤ a5.toInt) → (a3.toInt - a5.toInt).toNat < n → ZB aK aV A s →  ∀ {ls : Array Slot}, lv_has ls 6 [(0, .ref (aV a0)), (3, .int (a3)), (4, .int (a4)), (5, .int (a5))] → g_J1_indexOfChar_4cfef_7  n a0 a3 a4 a5 = tgt → W p l e { frames := 0, cells := 0, slots := 0, locals := 0 } s m args below meth c s.heap [] 0 0 (QPI below args s tgt) (F0 m 7 ls []) := by
  intro n
  induction n with
  | zero => intro a0 a3 a4 a5 hi h3 h5 hm; exact absurd hm (Nat.not_lt_zero _)
  | succ n ih =>
    intro a0 a3 a4 a5 hi h3 h5 hm  hZB ls hl hT
    exact b_J1_indexOfChar_4cfef_7 (aK := aK) (aV := aV) (A := A)  (K7 := g_J1_indexOfChar_4cfef_7  n) (N7 := n) C0  (fun a0 a3 a4 a5 hi h3 h5 hmq => ih a0 a3 a4 a5 hi h3 h5 hmq) hi h3 h5 hm hZB hl hT
def f_J1_indexOfChar_4cfef (a0 : Nat) (a1 : Int32) (a2 : Int32) (a3 : Int32) : Int32 := (g_J1_indexOfChar_4cfef_7  (7) a0 a3 (a1.toInt8.toInt32) a2)
set_option maxHeartbeats 600000 in
set_option maxRecDepth 100000 in
theorem k_J1_indexOfChar_4cfef (l : Launch) (aK aV : Nat → Nat) (A : Nat → Prop)  (a0 : Nat) (a1 : Int32) (a2 : Int32) (a3 : Int32) (hi : a0 < 6) (h2 : 0 ≤ a2.toInt) (h3 : a3.toInt ≤ lenS.getD a0 0) : PI l yJ1_indexOfChar_4cfef (wsF yJ1_indexOfChar_4cfef cJ1_indexOfChar_4cfef 6 (some .int)) { frames := 0, cells := 0, slots := 0, locals := 0 } [.ref (aV a0), .int (a1), .int (a2), .int (a3)] (ZB aK aV A) (f_J1_indexOfChar_4cfef a0 a1 a2 a3) := by
  refine start_PI (by decide) (Nat.le_of_ble_eq_true rfl) ?_
  intro p e s m args below meth c C0 hG ls hl
  have hZB := hG
  obtain ⟨hx, hb, hr, hml, hown, hts, hlocks⟩ := id C0
  have hl : lv_has ls 6 [(0, .ref (aV a0)), (1, .int (a1)), (2, .int (a2)), (3, .int (a3))] := hl
  generalize hT : (f_J1_indexOfChar_4cfef a0 a1 a2 a3) = tgt
  unfold f_J1_indexOfChar_4cfef at hT
  refine lv_iload_n hx hb dJ1_indexOfChar_4cfef_0 rfl (lv_at hl 1 rfl) ?_
  refine lv_i2b (v := (a1.toInt8.toInt32)) hx hb dJ1_indexOfChar_4cfef_1 rfl ?_
  refine lv_istore (lv' := [(4, .int ((a1.toInt8.toInt32))), (0, .ref (aV a0)), (1, .int (a1)), (2, .int (a2)), (3, .int (a3))]) hx hb dJ1_indexOfChar_4cfef_2 hl (by decide) rfl (fun ls hl => ?_)
  refine lv_iload_n hx hb dJ1_indexOfChar_4cfef_4 rfl (lv_at hl 3 rfl) ?_
  refine lv_istore (lv' := [(5, .int (a2)), (4, .int ((a1.toInt8.toInt32))), (0, .ref (aV a0)), (1, .int (a1)), (2, .int (a2)), (3, .int (a3))]) hx hb dJ1_indexOfChar_4cfef_5 hl (by decide) rfl (fun ls hl => ?_)
  have j5_m : (a3.toInt - a2.toInt).toNat < 7 := by
    have := jlen_b hi; omega
  exact l_J1_indexOfChar_4cfef_7 (aK := aK) (aV := aV) (A := A)  C0   (7) a0 a3 (a1.toInt8.toInt32) a2 hi h3 h2 j5_m hZB (lv_sub hl [2, 5, 1, 0] rfl) hT
set_option maxRecDepth 20000 in
theorem w_372 : (Cond.methodLink RJ1 88 yJ1_canEncode_9a6ad) ∈ TB := inTB (List.mem_of_getElem? (i := 372) (by decide +kernel)) (by decide +kernel)
set_option maxRecDepth 20000 in
theorem w_374 : (Cond.code yJ1_canEncode_9a6ad cJ1_canEncode_9a6ad 1 (some .boolean)) ∈ TB := inTB (List.mem_of_getElem? (i := 374) (by decide +kernel)) (by decide +kernel)
set_option maxRecDepth 20000 in
theorem w_373 : (Cond.static yJ1_canEncode_9a6ad) ∈ TB := inTB (List.mem_of_getElem? (i := 373) (by decide +kernel)) (by decide +kernel)
theorem cf_J1_canEncode_9a6ad : CG yJ1_canEncode_9a6ad cJ1_canEncode_9a6ad 1 (some .boolean) 1 := ⟨w_373, w_77, w_374, by decide +kernel, by decide +kernel, by decide +kernel⟩
set_option maxRecDepth 20000 in
theorem w_375 : (Cond.methodLink RJ1 92 Lib.Math.max.name) ∈ TB := inTB (List.mem_of_getElem? (i := 375) (by decide +kernel)) (by decide +kernel)
set_option maxRecDepth 20000 in
theorem w_378 : (Cond.methodLink RJ1 38 Lib.Math.min.name) ∈ TB := inTB (List.mem_of_getElem? (i := 378) (by decide +kernel)) (by decide +kernel)
set_option maxRecDepth 20000 in
theorem w_381 : (Cond.methodLink RJ1 95 yJ1_indexOfChar_4cfef) ∈ TB := inTB (List.mem_of_getElem? (i := 381) (by decide +kernel)) (by decide +kernel)
set_option maxRecDepth 20000 in
theorem w_383 : (Cond.code yJ1_indexOfChar_4cfef cJ1_indexOfChar_4cfef 6 (some .int)) ∈ TB := inTB (List.mem_of_getElem? (i := 383) (by decide +kernel)) (by decide +kernel)
set_option maxRecDepth 20000 in
theorem w_382 : (Cond.static yJ1_indexOfChar_4cfef) ∈ TB := inTB (List.mem_of_getElem? (i := 382) (by decide +kernel)) (by decide +kernel)
theorem cf_J1_indexOfChar_4cfef : CG yJ1_indexOfChar_4cfef cJ1_indexOfChar_4cfef 6 (some .int) 4 := ⟨w_382, w_77, w_383, by decide +kernel, by decide +kernel, by decide +kernel⟩
/-! java/lang/StringLatin1.indexOf -/
theorem dJ1_indexOf_4cfef_0 : decode cJ1_indexOf_4cfef 0 = .ok (.iload_n 1, 1) := by decide +kernel
theorem dJ1_indexOf_4cfef_1 : decode cJ1_indexOf_4cfef 1 = .ok (.invokestatic 88, 3) := by decide +kernel
theorem dJ1_indexOf_4cfef_4 : decode cJ1_indexOf_4cfef 4 = .ok (.ifCond .ne 5, 3) := by decide +kernel
theorem dJ1_indexOf_4cfef_7 : decode cJ1_indexOf_4cfef 7 = .ok (.iconst (-1), 1) := by decide +kernel
theorem dJ1_indexOf_4cfef_8 : decode cJ1_indexOf_4cfef 8 = .ok (.ireturn, 1) := by decide +kernel
theorem dJ1_indexOf_4cfef_9 : decode cJ1_indexOf_4cfef 9 = .ok (.iload_n 2, 1) := by decide +kernel
theorem dJ1_indexOf_4cfef_10 : decode cJ1_indexOf_4cfef 10 = .ok (.iconst 0, 1) := by decide +kernel
theorem dJ1_indexOf_4cfef_11 : decode cJ1_indexOf_4cfef 11 = .ok (.invokestatic 92, 3) := by decide +kernel
theorem dJ1_indexOf_4cfef_14 : decode cJ1_indexOf_4cfef 14 = .ok (.istore_n 2, 1) := by decide +kernel
theorem dJ1_indexOf_4cfef_15 : decode cJ1_indexOf_4cfef 15 = .ok (.iload_n 3, 1) := by decide +kernel
theorem dJ1_indexOf_4cfef_16 : decode cJ1_indexOf_4cfef 16 = .ok (.aload_n 0, 1) := by decide +kernel
theorem dJ1_indexOf_4cfef_17 : decode cJ1_indexOf_4cfef 17 = .ok (.arraylength, 1) := by decide +kernel
theorem dJ1_indexOf_4cfef_18 : decode cJ1_indexOf_4cfef 18 = .ok (.invokestatic 38, 3) := by decide +kernel
theorem dJ1_indexOf_4cfef_21 : decode cJ1_indexOf_4cfef 21 = .ok (.istore_n 3, 1) := by decide +kernel
theorem dJ1_indexOf_4cfef_22 : decode cJ1_indexOf_4cfef 22 = .ok (.iload_n 2, 1) := by decide +kernel
theorem dJ1_indexOf_4cfef_23 : decode cJ1_indexOf_4cfef 23 = .ok (.iload_n 3, 1) := by decide +kernel
theorem dJ1_indexOf_4cfef_24 : decode cJ1_indexOf_4cfef 24 = .ok (.if_icmp .lt 5, 3) := by decide +kernel
theorem dJ1_indexOf_4cfef_27 : decode cJ1_indexOf_4cfef 27 = .ok (.iconst (-1), 1) := by decide +kernel
theorem dJ1_indexOf_4cfef_28 : decode cJ1_indexOf_4cfef 28 = .ok (.ireturn, 1) := by decide +kernel
theorem dJ1_indexOf_4cfef_29 : decode cJ1_indexOf_4cfef 29 = .ok (.aload_n 0, 1) := by decide +kernel
theorem dJ1_indexOf_4cfef_30 : decode cJ1_indexOf_4cfef 30 = .ok (.iload_n 1, 1) := by decide +kernel
theorem dJ1_indexOf_4cfef_31 : decode cJ1_indexOf_4cfef 31 = .ok (.iload_n 2, 1) := by decide +kernel
theorem dJ1_indexOf_4cfef_32 : decode cJ1_indexOf_4cfef 32 = .ok (.iload_n 3, 1) := by decide +kernel
theorem dJ1_indexOf_4cfef_33 : decode cJ1_indexOf_4cfef 33 = .ok (.invokestatic 95, 3) := by decide +kernel
theorem dJ1_indexOf_4cfef_36 : decode cJ1_indexOf_4cfef 36 = .ok (.ireturn, 1) := by decide +kernel
def f_J1_indexOf_4cfef (a0 : Nat) (a1 : Int32) (a2 : Int32) (a3 : Int32) : Int32 := (if (f_J1_canEncode_9a6ad a1) = 0 then (-1 : Int32) else (if (if a2 < (0 : Int32) then (0 : Int32) else a2) < (if (Int32.ofNat (lenS.getD a0 0)) < a3 then (Int32.ofNat (lenS.getD a0 0)) else a3) then (f_J1_indexOfChar_4cfef a0 a1 (if a2 < (0 : Int32) then (0 : Int32) else a2) (if (Int32.ofNat (lenS.getD a0 0)) < a3 then (Int32.ofNat (lenS.getD a0 0)) else a3)) else (-1 : Int32)))
set_option maxHeartbeats 600000 in
set_option maxRecDepth 100000 in
theorem k_J1_indexOf_4cfef (l : Launch) (aK aV : Nat → Nat) (A : Nat → Prop)  (a0 : Nat) (a1 : Int32) (a2 : Int32) (a3 : Int32) (hi : a0 < 6) : PI l yJ1_indexOf_4cfef (wsF yJ1_indexOf_4cfef cJ1_indexOf_4cfef 4 (some .int)) { frames := 1, cells := 0, slots := 0, locals := 25 } [.ref (aV a0), .int (a1), .int (a2), .int (a3)] (ZB aK aV A) (f_J1_indexOf_4cfef a0 a1 a2 a3) := by
  refine start_PI (by decide) (Nat.le_of_ble_eq_true rfl) ?_
  intro p e s m args below meth c C0 hG ls hl
  have hZB := hG
  obtain ⟨hx, hb, hr, hml, hown, hts, hlocks⟩ := id C0
  have hl : lv_has ls 4 [(0, .ref (aV a0)), (1, .int (a1)), (2, .int (a2)), (3, .int (a3))] := hl
  generalize hT : (f_J1_indexOf_4cfef a0 a1 a2 a3) = tgt
  unfold f_J1_indexOf_4cfef at hT
  refine lv_iload_n hx hb dJ1_indexOf_4cfef_0 rfl (lv_at hl 1 rfl) ?_
  refine s_ci (rest := []) (As := [.int (a1)]) C0 cf_J1_canEncode_9a6ad w_372 (k_J1_canEncode_9a6ad l a1 ) ⟨by decide, by decide⟩ hl.1 rfl rfl (Nat.le_of_ble_eq_true rfl) dJ1_indexOf_4cfef_1 ⟨Nat.zero_le _, Nat.zero_le _⟩ ?_
  refine lv_if_ne (tgt := 9) hx hb dJ1_indexOf_4cfef_4 (by decide) (fun c_4 => ?_) (fun c_4 => ?_)
  · have hT := hT_neg c_4 hT
    refine lv_iload_n hx hb dJ1_indexOf_4cfef_9 rfl (lv_at hl 2 rfl) ?_
    refine lv_iconst (v := (0 : Int32)) hx hb dJ1_indexOf_4cfef_10 (by decide) ?_
    refine va_mmax hx hb (hml.trans hl.1.symm) C0.2.2.2.2.1 (C0.2.2.2.2.2.1 _ w_375) (C0.2.2.2.2.2.1 _ w_376) (C0.2.2.2.2.2.1 _ w_80) (C0.2.2.2.2.2.1 _ w_377) (by decide) (Nat.le_of_ble_eq_true rfl) (Nat.zero_le _) (Nat.zero_le _) dJ1_indexOf_4cfef_11 ?_
    refine lv_istore_n (lv' := [(2, .int ((if a2 < (0 : Int32) then (0 : Int32) else a2))), (0, .ref (aV a0)), (1, .int (a1)), (3, .int (a3))]) hx hb dJ1_indexOf_4cfef_14 rfl hl (by decide) rfl (fun ls hl => ?_)
    refine lv_iload_n hx hb dJ1_indexOf_4cfef_15 rfl (lv_at hl 3 rfl) ?_
    refine lv_aload_n hx hb dJ1_indexOf_4cfef_16 rfl (lv_at hl 1 rfl) ?_
    refine va_tlen hx hb (hZB.1.1 _ hi).2.2.2 va_S.rf rfl dJ1_indexOf_4cfef_17 ?_
    refine va_mmin hx hb (hml.trans hl.1.symm) C0.2.2.2.2.1 (C0.2.2.2.2.2.1 _ w_378) (C0.2.2.2.2.2.1 _ w_379) (C0.2.2.2.2.2.1 _ w_80) (C0.2.2.2.2.2.1 _ w_380) (by decide) (Nat.le_of_ble_eq_true rfl) (Nat.zero_le _) (Nat.zero_le _) dJ1_indexOf_4cfef_18 ?_
    refine lv_istore_n (lv' := [(3, .int ((if (Int32.ofNat (lenS.getD a0 0)) < a3 then (Int32.ofNat (lenS.getD a0 0)) else a3))), (2, .int ((if a2 < (0 : Int32) then (0 : Int32) else a2))), (0, .ref (aV a0)), (1, .int (a1))]) hx hb dJ1_indexOf_4cfef_21 rfl hl (by decide) rfl (fun ls hl => ?_)
    refine lv_iload_n hx hb dJ1_indexOf_4cfef_22 rfl (lv_at hl 1 rfl) ?_
    refine lv_iload_n hx hb dJ1_indexOf_4cfef_23 rfl (lv_at hl 0 rfl) ?_
    refine lv_icmp_lt (tgt := 29) hx hb dJ1_indexOf_4cfef_24 (by decide) (fun c_24 => ?_) (fun c_24 => ?_)
    · have hT := hT_pos c_24 hT
      refine lv_aload_n hx hb dJ1_indexOf_4cfef_29 rfl (lv_at hl 2 rfl) ?_
      refine lv_iload_n hx hb dJ1_indexOf_4cfef_30 rfl (lv_at hl 3 rfl) ?_
      refine lv_iload_n hx hb dJ1_indexOf_4cfef_31 rfl (lv_at hl 1 rfl) ?_
      refine lv_iload_n hx hb dJ1_indexOf_4cfef_32 rfl (lv_at hl 0 rfl) ?_
      have q33_h2 : 0 ≤ (if a2 < (0 : Int32) then (0 : Int32) else a2).toInt := by
          split
          · decide
          · rename_i q
            have := mt ti_lt.mpr q
            have e : (0 : Int32).toInt = 0 := rfl
            omega
      have q33_h3 : (if (Int32.ofNat (lenS.getD a0 0)) < a3 then (Int32.ofNat (lenS.getD a0 0)) else a3).toInt ≤ lenS.getD a0 0 := by
          have z := jlen_t hi
          split
          · omega
          · rename_i q
            have := mt ti_lt.mpr q
            omega
      refine j_ciS (rest := []) (As := [.ref (aV a0), .int (a1), .int ((if a2 < (0 : Int32) then (0 : Int32) else a2)), .int ((if (Int32.ofNat (lenS.getD a0 0)) < a3 then (Int32.ofNat (lenS.getD a0 0)) else a3))]) C0 hZB va_S.rf cf_J1_indexOfChar_4cfef w_381 (k_J1_indexOfChar_4cfef l _ _ _ a0 a1 (if a2 < (0 : Int32) then (0 : Int32) else a2) (if (Int32.ofNat (lenS.getD a0 0)) < a3 then (Int32.ofNat (lenS.getD a0 0)) else a3) hi q33_h2 q33_h3) ⟨by decide, by decide⟩ hl.1 rfl rfl (Nat.le_of_ble_eq_true rfl) dJ1_indexOf_4cfef_33 ⟨Nat.zero_le _, Nat.zero_le _⟩ ?_
      exact ret_PI C0 hT dJ1_indexOf_4cfef_36
    · have hT := hT_neg c_24 hT
      refine lv_iconst (v := (-1 : Int32)) hx hb dJ1_indexOf_4cfef_27 (by decide) ?_
      exact ret_PI C0 hT dJ1_indexOf_4cfef_28
  · have hT := hT_pos c_4 hT
    refine lv_iconst (v := (-1 : Int32)) hx hb dJ1_indexOf_4cfef_7 (by decide) ?_
    exact ret_PI C0 hT dJ1_indexOf_4cfef_8
set_option maxRecDepth 20000 in
theorem w_368 : (Cond.methodLink RJ0 505 yJ0_length_8abf5) ∈ TB := inTB (List.mem_of_getElem? (i := 368) (by decide +kernel)) (by decide +kernel)
set_option maxRecDepth 20000 in
theorem w_369 : (Cond.methodLink RJ0 637 yJ1_indexOf_4cfef) ∈ TB := inTB (List.mem_of_getElem? (i := 369) (by decide +kernel)) (by decide +kernel)
set_option maxRecDepth 20000 in
theorem w_371 : (Cond.code yJ1_indexOf_4cfef cJ1_indexOf_4cfef 4 (some .int)) ∈ TB := inTB (List.mem_of_getElem? (i := 371) (by decide +kernel)) (by decide +kernel)
set_option maxRecDepth 20000 in
theorem w_370 : (Cond.static yJ1_indexOf_4cfef) ∈ TB := inTB (List.mem_of_getElem? (i := 370) (by decide +kernel)) (by decide +kernel)
theorem cf_J1_indexOf_4cfef : CG yJ1_indexOf_4cfef cJ1_indexOf_4cfef 4 (some .int) 4 := ⟨w_370, w_77, w_371, by decide +kernel, by decide +kernel, by decide +kernel⟩
/-! java/lang/String.indexOf -/
theorem dJ0_indexOf_7cf53_0 : decode cJ0_indexOf_7cf53 0 = .ok (.aload_n 0, 1) := by decide +kernel
theorem dJ0_indexOf_7cf53_1 : decode cJ0_indexOf_7cf53 1 = .ok (.invokevirtual 492, 3) := by decide +kernel
theorem dJ0_indexOf_7cf53_4 : decode cJ0_indexOf_7cf53 4 = .ok (.ifCond .eq 19, 3) := by decide +kernel
theorem dJ0_indexOf_7cf53_7 : decode cJ0_indexOf_7cf53 7 = .ok (.aload_n 0, 1) := by decide +kernel
theorem dJ0_indexOf_7cf53_8 : decode cJ0_indexOf_7cf53 8 = .ok (.getfield 9, 3) := by decide +kernel
theorem dJ0_indexOf_7cf53_11 : decode cJ0_indexOf_7cf53 11 = .ok (.iload_n 1, 1) := by decide +kernel
theorem dJ0_indexOf_7cf53_12 : decode cJ0_indexOf_7cf53 12 = .ok (.iload_n 2, 1) := by decide +kernel
theorem dJ0_indexOf_7cf53_13 : decode cJ0_indexOf_7cf53 13 = .ok (.aload_n 0, 1) := by decide +kernel
theorem dJ0_indexOf_7cf53_14 : decode cJ0_indexOf_7cf53 14 = .ok (.invokevirtual 505, 3) := by decide +kernel
theorem dJ0_indexOf_7cf53_17 : decode cJ0_indexOf_7cf53 17 = .ok (.invokestatic 637, 3) := by decide +kernel
theorem dJ0_indexOf_7cf53_20 : decode cJ0_indexOf_7cf53 20 = .ok (.goto 16, 3) := by decide +kernel
theorem dJ0_indexOf_7cf53_23 : decode cJ0_indexOf_7cf53 23 = .ok (.aload_n 0, 1) := by decide +kernel
theorem dJ0_indexOf_7cf53_24 : decode cJ0_indexOf_7cf53 24 = .ok (.getfield 9, 3) := by decide +kernel
theorem dJ0_indexOf_7cf53_27 : decode cJ0_indexOf_7cf53 27 = .ok (.iload_n 1, 1) := by decide +kernel
theorem dJ0_indexOf_7cf53_28 : decode cJ0_indexOf_7cf53 28 = .ok (.iload_n 2, 1) := by decide +kernel
theorem dJ0_indexOf_7cf53_29 : decode cJ0_indexOf_7cf53 29 = .ok (.aload_n 0, 1) := by decide +kernel
theorem dJ0_indexOf_7cf53_30 : decode cJ0_indexOf_7cf53 30 = .ok (.invokevirtual 505, 3) := by decide +kernel
theorem dJ0_indexOf_7cf53_33 : decode cJ0_indexOf_7cf53 33 = .ok (.invokestatic 640, 3) := by decide +kernel
theorem dJ0_indexOf_7cf53_36 : decode cJ0_indexOf_7cf53 36 = .ok (.ireturn, 1) := by decide +kernel
def f_J0_indexOf_7cf53 (a0 : Nat) (a1 : Int32) (a2 : Int32) : Int32 := (f_J1_indexOf_4cfef a0 a1 a2 (f_J0_length_8abf5 a0))
set_option maxHeartbeats 600000 in
set_option maxRecDepth 100000 in
theorem k_J0_indexOf_7cf53 (l : Launch) (aK aV : Nat → Nat) (A : Nat → Prop)  (a0 : Nat) (a1 : Int32) (a2 : Int32) (hi : a0 < 6) : PI l yJ0_indexOf_7cf53 (wsF yJ0_indexOf_7cf53 cJ0_indexOf_7cf53 3 (some .int)) { frames := 2, cells := 0, slots := 0, locals := 48 } [.ref (aK a0), .int (a1), .int (a2)] (ZB aK aV A) (f_J0_indexOf_7cf53 a0 a1 a2) := by
  refine start_PI (by decide) (Nat.le_of_ble_eq_true rfl) ?_
  intro p e s m args below meth c C0 hG ls hl
  have hZB := hG
  obtain ⟨hx, hb, hr, hml, hown, hts, hlocks⟩ := id C0
  have hl : lv_has ls 3 [(0, .ref (aK a0)), (1, .int (a1)), (2, .int (a2))] := hl
  generalize hT : (f_J0_indexOf_7cf53 a0 a1 a2) = tgt
  unfold f_J0_indexOf_7cf53 at hT
  refine lv_aload_n hx hb dJ0_indexOf_7cf53_0 rfl (lv_at hl 0 rfl) ?_
  refine j_ciV (rest := []) (As := []) (i := a0) C0 hZB va_S.rf hi rfl cf_J0_isLatin1_aae02 w_305 (k_J0_isLatin1_aae02 l _ _ _ a0 hi) ⟨by decide, by decide⟩ hl.1 rfl rfl (Nat.le_of_ble_eq_true rfl) dJ0_indexOf_7cf53_1 ⟨Nat.zero_le _, Nat.zero_le _⟩ ?_
  refine lv_if_eq (tgt := 23) hx hb dJ0_indexOf_7cf53_4 (by decide) (fun c_4 => ?_) (fun c_4 => ?_)
  · exact absurd (show (1 : Int32) = 0 from c_4) (by decide)
  · have hT := hT
    refine lv_aload_n hx hb dJ0_indexOf_7cf53_7 rfl (lv_at hl 0 rfl) ?_
    refine vk_getf hx hb (hZB.1.1 _ hi).2.2.1 va_S.rf hown (hts _ w_1361) (fun _ h => h) dJ0_indexOf_7cf53_8 ?_
    refine lv_iload_n hx hb dJ0_indexOf_7cf53_11 rfl (lv_at hl 1 rfl) ?_
    refine lv_iload_n hx hb dJ0_indexOf_7cf53_12 rfl (lv_at hl 2 rfl) ?_
    refine lv_aload_n hx hb dJ0_indexOf_7cf53_13 rfl (lv_at hl 0 rfl) ?_
    refine j_ciV (rest := [.int (a2), .int (a1), .ref (aV a0)]) (As := []) (i := a0) C0 hZB va_S.rf hi rfl cf_J0_length_8abf5 w_368 (k_J0_length_8abf5 l _ _ _ a0 hi) ⟨by decide, by decide⟩ hl.1 rfl rfl (Nat.le_of_ble_eq_true rfl) dJ0_indexOf_7cf53_14 ⟨Nat.zero_le _, Nat.zero_le _⟩ ?_
    refine j_ciS (rest := []) (As := [.ref (aV a0), .int (a1), .int (a2), .int ((f_J0_length_8abf5 a0))]) C0 hZB va_S.rf cf_J1_indexOf_4cfef w_369 (k_J1_indexOf_4cfef l _ _ _ a0 a1 a2 (f_J0_length_8abf5 a0) hi) ⟨by decide, by decide⟩ hl.1 rfl rfl (Nat.le_of_ble_eq_true rfl) dJ0_indexOf_7cf53_17 ⟨Nat.zero_le _, Nat.zero_le _⟩ ?_
    refine lv_goto (tgt := 36) hx hb dJ0_indexOf_7cf53_20 (by decide) ?_
    exact ret_PI C0 hT dJ0_indexOf_7cf53_36
set_option maxRecDepth 20000 in
theorem w_364 : (Cond.methodLink RJ0 633 yJ0_indexOf_7cf53) ∈ TB := inTB (List.mem_of_getElem? (i := 364) (by decide +kernel)) (by decide +kernel)
set_option maxRecDepth 20000 in
theorem w_367 : (Cond.code yJ0_indexOf_7cf53 cJ0_indexOf_7cf53 3 (some .int)) ∈ TB := inTB (List.mem_of_getElem? (i := 367) (by decide +kernel)) (by decide +kernel)
set_option maxRecDepth 20000 in
theorem w_365 : (Cond.instanceMethod yJ0_indexOf_7cf53) ∈ TB := inTB (List.mem_of_getElem? (i := 365) (by decide +kernel)) (by decide +kernel)
set_option maxRecDepth 20000 in
theorem w_366 : (Cond.selects RJ0 yJ0_indexOf_7cf53 yJ0_indexOf_7cf53) ∈ TB := inTB (List.mem_of_getElem? (i := 366) (by decide +kernel)) (by decide +kernel)
theorem cf_J0_indexOf_7cf53 : CF yJ0_indexOf_7cf53 cJ0_indexOf_7cf53 3 (some .int) 2 := ⟨w_365, w_366, w_76, w_367, by decide +kernel, by decide +kernel, by decide +kernel⟩
/-! java/lang/String.indexOf -/
theorem dJ0_indexOf_0f7a4_0 : decode cJ0_indexOf_0f7a4 0 = .ok (.aload_n 0, 1) := by decide +kernel
theorem dJ0_indexOf_0f7a4_1 : decode cJ0_indexOf_0f7a4 1 = .ok (.iload_n 1, 1) := by decide +kernel
theorem dJ0_indexOf_0f7a4_2 : decode cJ0_indexOf_0f7a4 2 = .ok (.iconst 0, 1) := by decide +kernel
theorem dJ0_indexOf_0f7a4_3 : decode cJ0_indexOf_0f7a4 3 = .ok (.invokevirtual 633, 3) := by decide +kernel
theorem dJ0_indexOf_0f7a4_6 : decode cJ0_indexOf_0f7a4 6 = .ok (.ireturn, 1) := by decide +kernel
def f_J0_indexOf_0f7a4 (a0 : Nat) (a1 : Int32) : Int32 := (f_J0_indexOf_7cf53 a0 a1 (0 : Int32))
set_option maxHeartbeats 600000 in
set_option maxRecDepth 100000 in
theorem k_J0_indexOf_0f7a4 (l : Launch) (aK aV : Nat → Nat) (A : Nat → Prop)  (a0 : Nat) (a1 : Int32) (hi : a0 < 6) : PI l yJ0_indexOf_0f7a4 (wsF yJ0_indexOf_0f7a4 cJ0_indexOf_0f7a4 2 (some .int)) { frames := 3, cells := 0, slots := 0, locals := 70 } [.ref (aK a0), .int (a1)] (ZB aK aV A) (f_J0_indexOf_0f7a4 a0 a1) := by
  refine start_PI (by decide) (Nat.le_of_ble_eq_true rfl) ?_
  intro p e s m args below meth c C0 hG ls hl
  have hZB := hG
  obtain ⟨hx, hb, hr, hml, hown, hts, hlocks⟩ := id C0
  have hl : lv_has ls 2 [(0, .ref (aK a0)), (1, .int (a1))] := hl
  generalize hT : (f_J0_indexOf_0f7a4 a0 a1) = tgt
  unfold f_J0_indexOf_0f7a4 at hT
  refine lv_aload_n hx hb dJ0_indexOf_0f7a4_0 rfl (lv_at hl 0 rfl) ?_
  refine lv_iload_n hx hb dJ0_indexOf_0f7a4_1 rfl (lv_at hl 1 rfl) ?_
  refine lv_iconst (v := (0 : Int32)) hx hb dJ0_indexOf_0f7a4_2 (by decide) ?_
  refine j_ciV (rest := []) (As := [.int (a1), .int ((0 : Int32))]) (i := a0) C0 hZB va_S.rf hi rfl cf_J0_indexOf_7cf53 w_364 (k_J0_indexOf_7cf53 l _ _ _ a0 a1 (0 : Int32) hi) ⟨by decide, by decide⟩ hl.1 rfl rfl (Nat.le_of_ble_eq_true rfl) dJ0_indexOf_0f7a4_3 ⟨Nat.zero_le _, Nat.zero_le _⟩ ?_
  exact ret_PI C0 hT dJ0_indexOf_0f7a4_6
