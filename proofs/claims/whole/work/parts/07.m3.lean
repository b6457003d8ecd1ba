
theorem ra_up {x a b : Int} (h : 0 ≤ x ∧ x ≤ a) (hab : a ≤ b) : 0 ≤ x ∧ x ≤ b := ⟨h.1, Int.le_trans h.2 hab⟩
theorem gap_pos {σ : St} (hI : IB (σ 1)) {a : Int32} (h1 : 0 ≤ a.toInt) (h2 : a.toInt < 6) : 0 ≤ (f_X12_gapOf σ a).toInt ∧ (f_X12_gapOf σ a).toInt ≤ 999 ∧ 0 < (f_X12_gapOf σ a + 1).toInt ∧ (f_X12_gapOf σ a + 1).toInt ≤ 1000 := by
  obtain ⟨w1, w2, w3⟩ := IB_w hI h1 h2
  have e1 : (1 : Int32).toInt = 1 := rfl
  have q := ti_sub (a := σ 1 (ix (57 + a))) (b := σ 1 (ix (51 + a))) (by omega) (by omega)
  have hg : f_X12_gapOf σ a = σ 1 (ix (57 + a)) - σ 1 (ix (51 + a)) := rfl
  rw [hg]
  have q2 := ti_add (a := σ 1 (ix (57 + a)) - σ 1 (ix (51 + a))) (b := 1) (by omega) (by omega)
  omega
set_option maxRecDepth 20000 in
theorem w_1287 : (Cond.constantLong RX12 215 (2 : Int64)) ∈ TB := inTB (List.mem_of_getElem? (i := 1287) (by decide +kernel)) (by decide +kernel)
set_option maxRecDepth 20000 in
theorem w_1252 : (Cond.methodLink RX12 201 yX12_lowest) ∈ TB := inTB (List.mem_of_getElem? (i := 1252) (by decide +kernel)) (by decide +kernel)
set_option maxRecDepth 20000 in
theorem w_1254 : (Cond.code yX12_lowest cX12_lowest 11 (some .long)) ∈ TB := inTB (List.mem_of_getElem? (i := 1254) (by decide +kernel)) (by decide +kernel)
set_option maxRecDepth 20000 in
theorem w_1253 : (Cond.static yX12_lowest) ∈ TB := inTB (List.mem_of_getElem? (i := 1253) (by decide +kernel)) (by decide +kernel)
theorem cf_X12_lowest : CG yX12_lowest cX12_lowest 11 (some .long) 3 := ⟨w_1253, w_75, w_1254, by decide +kernel, by decide +kernel, by decide +kernel⟩
set_option maxRecDepth 20000 in
theorem w_1251 : (Cond.constantLong RX12 199 (-9223372036854775808 : Int64)) ∈ TB := inTB (List.mem_of_getElem? (i := 1251) (by decide +kernel)) (by decide +kernel)
/-! ThreeMeasuresModel.mean -/
theorem dX12_mean_0 : decode cX12_mean 0 = .ok (.iload_n 1, 1) := by decide +kernel
theorem dX12_mean_1 : decode cX12_mean 1 = .ok (.iconst 0, 1) := by decide +kernel
theorem dX12_mean_2 : decode cX12_mean 2 = .ok (.iconst 1, 1) := by decide +kernel
theorem dX12_mean_3 : decode cX12_mean 3 = .ok (.invokestatic 47, 3) := by decide +kernel
theorem dX12_mean_6 : decode cX12_mean 6 = .ok (.ifCond .eq 12, 3) := by decide +kernel
theorem dX12_mean_9 : decode cX12_mean 9 = .ok (.aload_n 0, 1) := by decide +kernel
theorem dX12_mean_10 : decode cX12_mean 10 = .ok (.getfield 9, 3) := by decide +kernel
theorem dX12_mean_13 : decode cX12_mean 13 = .ok (.iconst 1, 1) := by decide +kernel
theorem dX12_mean_14 : decode cX12_mean 14 = .ok (.iaload, 1) := by decide +kernel
theorem dX12_mean_15 : decode cX12_mean 15 = .ok (.ifCond .ne 7, 3) := by decide +kernel
theorem dX12_mean_18 : decode cX12_mean 18 = .ok (.ldc2_w 199, 3) := by decide +kernel
theorem dX12_mean_21 : decode cX12_mean 21 = .ok (.lreturn, 1) := by decide +kernel
theorem dX12_mean_22 : decode cX12_mean 22 = .ok (.lconst 0, 1) := by decide +kernel
theorem dX12_mean_23 : decode cX12_mean 23 = .ok (.lstore_n 2, 1) := by decide +kernel
theorem dX12_mean_24 : decode cX12_mean 24 = .ok (.iconst 0, 1) := by decide +kernel
theorem dX12_mean_25 : decode cX12_mean 25 = .ok (.istore 4, 2) := by decide +kernel
theorem dX12_mean_27 : decode cX12_mean 27 = .ok (.iload 4, 2) := by decide +kernel
theorem dX12_mean_29 : decode cX12_mean 29 = .ok (.aload_n 0, 1) := by decide +kernel
theorem dX12_mean_30 : decode cX12_mean 30 = .ok (.getfield 9, 3) := by decide +kernel
theorem dX12_mean_33 : decode cX12_mean 33 = .ok (.iconst 1, 1) := by decide +kernel
theorem dX12_mean_34 : decode cX12_mean 34 = .ok (.iaload, 1) := by decide +kernel
theorem dX12_mean_35 : decode cX12_mean 35 = .ok (.if_icmp .ge 34, 3) := by decide +kernel
theorem dX12_mean_38 : decode cX12_mean 38 = .ok (.lload_n 2, 1) := by decide +kernel
theorem dX12_mean_39 : decode cX12_mean 39 = .ok (.aload_n 0, 1) := by decide +kernel
theorem dX12_mean_40 : decode cX12_mean 40 = .ok (.getfield 9, 3) := by decide +kernel
theorem dX12_mean_43 : decode cX12_mean 43 = .ok (.bipush 51, 2) := by decide +kernel
theorem dX12_mean_45 : decode cX12_mean 45 = .ok (.iload 4, 2) := by decide +kernel
theorem dX12_mean_47 : decode cX12_mean 47 = .ok (.iadd, 1) := by decide +kernel
theorem dX12_mean_48 : decode cX12_mean 48 = .ok (.iaload, 1) := by decide +kernel
theorem dX12_mean_49 : decode cX12_mean 49 = .ok (.aload_n 0, 1) := by decide +kernel
theorem dX12_mean_50 : decode cX12_mean 50 = .ok (.getfield 9, 3) := by decide +kernel
theorem dX12_mean_53 : decode cX12_mean 53 = .ok (.bipush 57, 2) := by decide +kernel
theorem dX12_mean_55 : decode cX12_mean 55 = .ok (.iload 4, 2) := by decide +kernel
theorem dX12_mean_57 : decode cX12_mean 57 = .ok (.iadd, 1) := by decide +kernel
theorem dX12_mean_58 : decode cX12_mean 58 = .ok (.iaload, 1) := by decide +kernel
theorem dX12_mean_59 : decode cX12_mean 59 = .ok (.iadd, 1) := by decide +kernel
theorem dX12_mean_60 : decode cX12_mean 60 = .ok (.i2l, 1) := by decide +kernel
theorem dX12_mean_61 : decode cX12_mean 61 = .ok (.ladd, 1) := by decide +kernel
theorem dX12_mean_62 : decode cX12_mean 62 = .ok (.lstore_n 2, 1) := by decide +kernel
theorem dX12_mean_63 : decode cX12_mean 63 = .ok (.iinc 4 1, 3) := by decide +kernel
theorem dX12_mean_66 : decode cX12_mean 66 = .ok (.goto (-39), 3) := by decide +kernel
theorem dX12_mean_69 : decode cX12_mean 69 = .ok (.lload_n 2, 1) := by decide +kernel
theorem dX12_mean_70 : decode cX12_mean 70 = .ok (.ldc2_w 215, 3) := by decide +kernel
theorem dX12_mean_73 : decode cX12_mean 73 = .ok (.aload_n 0, 1) := by decide +kernel
theorem dX12_mean_74 : decode cX12_mean 74 = .ok (.getfield 9, 3) := by decide +kernel
theorem dX12_mean_77 : decode cX12_mean 77 = .ok (.iconst 1, 1) := by decide +kernel
theorem dX12_mean_78 : decode cX12_mean 78 = .ok (.iaload, 1) := by decide +kernel
theorem dX12_mean_79 : decode cX12_mean 79 = .ok (.i2l, 1) := by decide +kernel
theorem dX12_mean_80 : decode cX12_mean 80 = .ok (.lmul, 1) := by decide +kernel
theorem dX12_mean_81 : decode cX12_mean 81 = .ok (.iload_n 1, 1) := by decide +kernel
theorem dX12_mean_82 : decode cX12_mean 82 = .ok (.invokestatic 201, 3) := by decide +kernel
theorem dX12_mean_85 : decode cX12_mean 85 = .ok (.lreturn, 1) := by decide +kernel
def f_X12_mean_27 (K27 : St → Int32 → Int64 → Int32 → Int64) (σ : St) (a1 : Int32) (a2 : Int64) (a4 : Int32) : Int64 := (if (σ 1 1) ≤ a4 then (f_X12_lowest a2 ((2 : Int64) * ((σ 1 1).toInt64)) a1) else (K27 σ a1 (a2 + (((σ 1 (ix ((51 : Int32) + a4))) + (σ 1 (ix ((57 : Int32) + a4)))).toInt64)) (a4 + (1 : Int32))))
set_option maxHeartbeats 600000 in
set_option maxRecDepth 100000 in
theorem b_X12_mean_27 {g : GG} {p : Program} {l : Launch} {e : Env} {s : State} {m : MethodId} {args : Array Value} {below : List Frame} {meth : Method} {c : Code}  {tgt : Int64} {K27 : St → Int32 → Int64 → Int32 → Int64} {N27 : Nat} (C0 : BC p s m args meth c cX12_mean RX12 5 (some .long)) (hK27 : ∀ (σ : St) (a1 : Int32) (a2 : Int64) (a4 : Int32), (IB (σ 1)) → (0 ≤ a2.toInt ∧ a2.toInt ≤ 1998 * a4.toInt) → (0 ≤ a4.toInt) → (a4.toInt ≤ (σ 1 1).toInt) → (1 ≤ (σ 1 1).toInt) → ((σ 1 1).toInt - a4.toInt).toNat < N27 → KK g s → va_P g.1 vwCl ((mW g) σ) s.heap → va_D (fun _ => True) ((mW g) σ) → ∀ {ls : Array Slot}, lv_has ls 5 [(0, .ref (g.2.2 100)), (1, .int (a1)), (2, .long (a2)), (4, .int (a4))] → K27 σ a1 a2 a4 = tgt → W p l e { frames := 1, cells := 0, slots := 0, locals := 30 } s m args below meth c s.heap [] 0 0 (QPL below args s tgt) (F0 m 27 ls [])) {σ : St} {a1 : Int32} {a2 : Int64} {a4 : Int32}  (hI : IB (σ 1)) (h2 : 0 ≤ a2.toInt ∧ a2.toInt ≤ 1998 * a4.toInt) (h4 : 0 ≤ a4.toInt) (h4b : a4.toInt ≤ (σ 1 1).toInt) (hB : 1 ≤ (σ 1 1).toInt) (hm : ((σ 1 1).toInt - a4.toInt).toNat < N27 + 1) (hK : KK g s) (hP : va_P g.1 vwCl ((mW g) σ) s.heap) (hDD : va_D (fun _ => True) ((mW g) σ)) {ls : Array Slot} (hl : lv_has ls 5 [(0, .ref (g.2.2 100)), (1, .int (a1)), (2, .long (a2)), (4, .int (a4))]) (hT : f_X12_mean_27 K27 σ a1 a2 a4 = tgt) : W p l e { frames := 1, cells := 0, slots := 0, locals := 30 } s m args below meth c s.heap [] 0 0 (QPL below args s tgt) (F0 m 27 ls []) := by
  obtain ⟨hx, hb, hr, hml, hown, hts, hlocks⟩ := id C0
  unfold f_X12_mean_27 at hT
  obtain ⟨⟨i0, i0'⟩, ⟨i1, i1'⟩, ⟨i2, i2'⟩, ⟨i3, i3'⟩, ⟨i4, i4'⟩, ⟨i5, i5'⟩, ⟨i6, i6'⟩, ⟨i7, i7'⟩, ⟨i8, i8'⟩, iK, iV, iL, iR, iW, iY, iG, iM, iB, iQ, iP, iT, iU⟩ := id hI
  refine lv_iload hx hb dX12_mean_27 (lv_at hl 3 rfl) ?_
  refine lv_aload_n hx hb dX12_mean_29 rfl (lv_at hl 0 rfl) ?_
  refine m_get (σ := σ) (v := .ref (g.2.2 1)) C0 hK hP 1 (by decide) rfl w_968 dX12_mean_30 ?_
  refine lv_iconst (v := (1 : Int32)) hx hb dX12_mean_33 (by decide) ?_
  refine m_ald (σ := σ) C0 hK hP 1 1 916 rfl (vin_l (by decide)) 1 (by decide) dX12_mean_34 ?_
  refine lv_icmp_ge (tgt := 69) hx hb dX12_mean_35 (by decide) (fun c_35 => ?_) (fun c_35 => ?_)
  · have hT := hT_pos c_35 hT
    refine lv_lload_n hx hb dX12_mean_69 rfl (lv_at hl 2 rfl) ?_
    refine lv_ldc2 (v := (2 : Int64)) hx hb C0.2.2.2.2.1 (C0.2.2.2.2.2.1 _ w_1287) dX12_mean_70 ?_
    refine lv_aload_n hx hb dX12_mean_73 rfl (lv_at hl 0 rfl) ?_
    refine m_get (σ := σ) (v := .ref (g.2.2 1)) C0 hK hP 1 (by decide) rfl w_968 dX12_mean_74 ?_
    refine lv_iconst (v := (1 : Int32)) hx hb dX12_mean_77 (by decide) ?_
    refine m_ald (σ := σ) C0 hK hP 1 1 916 rfl (vin_l (by decide)) 1 (by decide) dX12_mean_78 ?_
    refine lv_i2l (v := ((σ 1 1).toInt64)) hx hb dX12_mean_79 rfl ?_
    refine lv_lmul hx hb dX12_mean_80 ?_
    refine lv_iload_n hx hb dX12_mean_81 rfl (lv_at hl 1 rfl) ?_
    have q82_h0 : 0 ≤ a2.toInt := h2.1
    have q82_h2 : 0 < ((2 : Int64) * ((σ 1 1).toInt64)).toInt := mul2 hB i1'
    refine s_cl (rest := []) (As := [.long (a2), .long (((2 : Int64) * ((σ 1 1).toInt64))), .int (a1)]) C0 cf_X12_lowest w_1252 (k_X12_lowest l a2 ((2 : Int64) * ((σ 1 1).toInt64)) a1 q82_h0 q82_h2) ⟨by decide, by decide⟩ hl.1 rfl rfl (Nat.le_of_ble_eq_true rfl) dX12_mean_82 ⟨Nat.zero_le _, Nat.zero_le _⟩ ?_
    exact ret_PL C0 hT dX12_mean_85
  · have hT := hT_neg c_35 hT
    refine lv_lload_n hx hb dX12_mean_38 rfl (lv_at hl 2 rfl) ?_
    refine lv_aload_n hx hb dX12_mean_39 rfl (lv_at hl 0 rfl) ?_
    refine m_get (σ := σ) (v := .ref (g.2.2 1)) C0 hK hP 1 (by decide) rfl w_968 dX12_mean_40 ?_
    refine lv_bipush (v := (51 : Int32)) hx hb dX12_mean_43 (by decide) ?_
    refine lv_iload hx hb dX12_mean_45 (lv_at hl 3 rfl) ?_
    refine lv_iadd hx hb dX12_mean_47 ?_
    have o_48 : vp_in ((51 : Int32) + a4) 916 := by
      have : ((51 : Int32)).toInt = 51 := by decide
      have := mt ti_le.mpr c_35
      try have := ti_add (a := (51 : Int32)) (b := a4) (by omega) (by omega)
      exact vin (by omega) (by omega)
    refine m_ald (σ := σ) C0 hK hP 1 1 916 rfl o_48 (ix ((51 : Int32) + a4)) rfl dX12_mean_48 ?_
    refine lv_aload_n hx hb dX12_mean_49 rfl (lv_at hl 0 rfl) ?_
    refine m_get (σ := σ) (v := .ref (g.2.2 1)) C0 hK hP 1 (by decide) rfl w_968 dX12_mean_50 ?_
    refine lv_bipush (v := (57 : Int32)) hx hb dX12_mean_53 (by decide) ?_
    refine lv_iload hx hb dX12_mean_55 (lv_at hl 3 rfl) ?_
    refine lv_iadd hx hb dX12_mean_57 ?_
    have o_58 : vp_in ((57 : Int32) + a4) 916 := by
      have : ((57 : Int32)).toInt = 57 := by decide
      have := mt ti_le.mpr c_35
      try have := ti_add (a := (57 : Int32)) (b := a4) (by omega) (by omega)
      exact vin (by omega) (by omega)
    refine m_ald (σ := σ) C0 hK hP 1 1 916 rfl o_58 (ix ((57 : Int32) + a4)) rfl dX12_mean_58 ?_
    refine lv_iadd hx hb dX12_mean_59 ?_
    refine lv_i2l (v := (((σ 1 (ix ((51 : Int32) + a4))) + (σ 1 (ix ((57 : Int32) + a4)))).toInt64)) hx hb dX12_mean_60 rfl ?_
    refine lv_ladd hx hb dX12_mean_61 ?_
    refine lv_lstore_n (lv' := [(2, .long ((a2 + (((σ 1 (ix ((51 : Int32) + a4))) + (σ 1 (ix ((57 : Int32) + a4)))).toInt64)))), (0, .ref (g.2.2 100)), (1, .int (a1)), (4, .int (a4))]) hx hb dX12_mean_62 rfl hl (by decide) rfl (fun ls hl => ?_)
    refine lv_iinc (v := (a4 + (1 : Int32))) (lv' := [(4, .int ((a4 + (1 : Int32)))), (2, .long ((a2 + (((σ 1 (ix ((51 : Int32) + a4))) + (σ 1 (ix ((57 : Int32) + a4)))).toInt64)))), (0, .ref (g.2.2 100)), (1, .int (a1))]) hx hb dX12_mean_63 hl (k := 3) rfl rfl (by decide) rfl (fun ls hl => ?_)
    have q35 := mt ti_le.mpr c_35
    obtain ⟨w1, w2, w3⟩ := IB_w hI h4 (by omega)
    refine lv_goto (tgt := 27) hx hb dX12_mean_66 (by decide) ?_
    have j66_h2 : 0 ≤ (a2 + (((σ 1 (ix ((51 : Int32) + a4))) + (σ 1 (ix ((57 : Int32) + a4)))).toInt64)).toInt ∧ (a2 + (((σ 1 (ix ((51 : Int32) + a4))) + (σ 1 (ix ((57 : Int32) + a4)))).toInt64)).toInt ≤ 1998 * (a4 + (1 : Int32)).toInt := mean_h2 h2 ⟨h4, by omega⟩ ⟨w1, by omega⟩ ⟨by omega, w3⟩
    have j66_h4 : 0 ≤ (a4 + (1 : Int32)).toInt := by
      have : ((1 : Int32)).toInt = 1 := by decide
      have := mt ti_le.mpr c_35
      try have := ti_add (a := a4) (b := (1 : Int32)) (by omega) (by omega)
      omega
    have j66_h4b : (a4 + (1 : Int32)).toInt ≤ (σ 1 1).toInt := by
      have : ((1 : Int32)).toInt = 1 := by decide
      have := mt ti_le.mpr c_35
      try have := ti_add (a := a4) (b := (1 : Int32)) (by omega) (by omega)
      omega
    have j66_m : ((σ 1 1).toInt - (a4 + (1 : Int32)).toInt).toNat < N27 := by
      have : ((1 : Int32)).toInt = 1 := by decide
      have := mt ti_le.mpr c_35
      try have := ti_add (a := a4) (b := (1 : Int32)) (by omega) (by omega)
      omega
    exact hK27 σ a1 (a2 + (((σ 1 (ix ((51 : Int32) + a4))) + (σ 1 (ix ((57 : Int32) + a4)))).toInt64)) (a4 + (1 : Int32)) hI j66_h2 j66_h4 j66_h4b hB j66_m hK hP hDD (lv_sub hl [2, 3, 1, 0] rfl) hT
def g_X12_mean_27  : Nat → St → Int32 → Int64 → Int32 → Int64
  | 0 => fun σ a1 a2 a4 => 0
  | n + 1 => fun σ a1 a2 a4 => f_X12_mean_27  (g_X12_mean_27  n) σ a1 a2 a4
theorem l_X12_mean_27 {g : GG} {p : Program} {l : Launch} {e : Env} {s : State} {m : MethodId} {args : Array Value} {below : List Frame} {meth : Method} {c : Code}  {tgt : Int64}  (C0 : BC p s m args meth c cX12_mean RX12 5 (some .long))  : ∀ (n : Nat) (σ : St) (a1 : Int32) (a2 : Int64) (a4 : Int32), (IB (σ 1)) → (0 ≤ a2.toInt ∧ a2.toInt ≤ 1998 * a4.toInt) → (0 ≤ a4.toInt) → (a4.toInt ≤ (σ 1 1).toInt) → (1 ≤ (σ 1 1).toInt) → ((σ 1 1).toInt - a4.toInt).toNat < n → KK g s → va_P g.1 vwCl ((mW g) σ) s.heap → va_D (fun _ => True) ((mW g) σ) → ∀ {ls : Array Slot}, lv_has ls 5 [(0, .ref (g.2.2 100)), (1, .int (a1)), (2, .long (a2)), (4, .int (a4))] → g_X12_mean_27  n σ a1 a2 a4 = tgt → W p l e { frames := 1, cells := 0, slots := 0, locals := 30 } s m args below meth c s.heap [] 0 0 (QPL below args s tgt) (F0 m 27 ls []) := by
  intro n
  induction n with
  | zero => intro σ a1 a2 a4 hI h2 h4 h4b hB hm; exact absurd hm (Nat.not_lt_zero _)
  | succ n ih =>
    intro σ a1 a2 a4 hI h2 h4 h4b hB hm  hK hP hDD ls hl hT
    exact b_X12_mean_27  (K27 := g_X12_mean_27  n) (N27 := n) C0  (fun σ a1 a2 a4 hI h2 h4 h4b hB hm2 => ih σ a1 a2 a4 hI h2 h4 h4b hB hm2) hI h2 h4 h4b hB hm hK hP hDD hl hT
def f_X12_mean (σ : St) (a1 : Int32) : Int64 := (if (f_X12_in a1 (0 : Int32) (1 : Int32)) = 0 then (-9223372036854775808 : Int64) else (if (σ 1 1) = 0 then (-9223372036854775808 : Int64) else (g_X12_mean_27  (7) σ a1 (0 : Int64) (0 : Int32))))
set_option maxHeartbeats 600000 in
set_option maxRecDepth 100000 in
theorem k_X12_mean (l : Launch) (g : GG) (σ : St) (a1 : Int32) (hI : IB (σ 1)) : PL l yX12_mean (wsF yX12_mean cX12_mean 5 (some .long)) { frames := 1, cells := 0, slots := 0, locals := 30 } [.ref (g.2.2 100), .int (a1)] (GB g (mW g) (fun _ => True) σ) (f_X12_mean σ a1) := by
  refine start_PL (by decide) (Nat.le_of_ble_eq_true rfl) ?_
  intro p e s m args below meth c C0 hG ls hl
  obtain ⟨hK, hP, hDD, hBg⟩ := hG
  obtain ⟨hx, hb, hr, hml, hown, hts, hlocks⟩ := id C0
  have hl : lv_has ls 5 [(0, .ref (g.2.2 100)), (1, .int (a1))] := hl
  generalize hT : (f_X12_mean σ a1) = tgt
  unfold f_X12_mean at hT
  obtain ⟨⟨i0, i0'⟩, ⟨i1, i1'⟩, ⟨i2, i2'⟩, ⟨i3, i3'⟩, ⟨i4, i4'⟩, ⟨i5, i5'⟩, ⟨i6, i6'⟩, ⟨i7, i7'⟩, ⟨i8, i8'⟩, iK, iV, iL, iR, iW, iY, iG, iM, iB, iQ, iP, iT, iU⟩ := id hI
  refine lv_iload_n hx hb dX12_mean_0 rfl (lv_at hl 1 rfl) ?_
  refine lv_iconst (v := (0 : Int32)) hx hb dX12_mean_1 (by decide) ?_
  refine lv_iconst (v := (1 : Int32)) hx hb dX12_mean_2 (by decide) ?_
  refine s_ci (rest := []) (As := [.int (a1), .int ((0 : Int32)), .int ((1 : Int32))]) C0 cf_X12_in w_1060 (k_X12_in l a1 (0 : Int32) (1 : Int32) ) ⟨by decide, by decide⟩ hl.1 rfl rfl (Nat.le_of_ble_eq_true rfl) dX12_mean_3 ⟨Nat.zero_le _, Nat.zero_le _⟩ ?_
  refine lv_if_eq (tgt := 18) hx hb dX12_mean_6 (by decide) (fun c_6 => ?_) (fun c_6 => ?_)
  · have hT := hT_pos c_6 hT
    refine lv_ldc2 (v := (-9223372036854775808 : Int64)) hx hb C0.2.2.2.2.1 (C0.2.2.2.2.2.1 _ w_1251) dX12_mean_18 ?_
    exact ret_PL C0 hT dX12_mean_21
  · have hT := hT_neg c_6 hT
    refine lv_aload_n hx hb dX12_mean_9 rfl (lv_at hl 0 rfl) ?_
    refine m_get (σ := σ) (v := .ref (g.2.2 1)) C0 hK hP 1 (by decide) rfl w_968 dX12_mean_10 ?_
    refine lv_iconst (v := (1 : Int32)) hx hb dX12_mean_13 (by decide) ?_
    refine m_ald (σ := σ) C0 hK hP 1 1 916 rfl (vin_l (by decide)) 1 (by decide) dX12_mean_14 ?_
    refine lv_if_ne (tgt := 22) hx hb dX12_mean_15 (by decide) (fun c_15 => ?_) (fun c_15 => ?_)
    · have hT := hT_neg c_15 hT
      refine lv_lconst (v := (0 : Int64)) hx hb dX12_mean_22 (by decide) ?_
      refine lv_lstore_n (lv' := [(2, .long ((0 : Int64))), (0, .ref (g.2.2 100)), (1, .int (a1))]) hx hb dX12_mean_23 rfl hl (by decide) rfl (fun ls hl => ?_)
      refine lv_iconst (v := (0 : Int32)) hx hb dX12_mean_24 (by decide) ?_
      refine lv_istore (lv' := [(4, .int ((0 : Int32))), (2, .long ((0 : Int64))), (0, .ref (g.2.2 100)), (1, .int (a1))]) hx hb dX12_mean_25 hl (by decide) rfl (fun ls hl => ?_)
      have j25_h2 : 0 ≤ (0 : Int64).toInt ∧ (0 : Int64).toInt ≤ 1998 * (0 : Int32).toInt := ⟨by decide, by decide⟩
      have j25_h4 : 0 ≤ (0 : Int32).toInt := by
        have : ((0 : Int32)).toInt = 0 := by decide
        have : ((1 : Int32)).toInt = 1 := by decide
        have := in_ne c_6
        have := mt ti_eq.mpr c_15
        omega
      have j25_h4b : (0 : Int32).toInt ≤ (σ 1 1).toInt := by
        have : ((0 : Int32)).toInt = 0 := by decide
        have : ((1 : Int32)).toInt = 1 := by decide
        have := in_ne c_6
        have := mt ti_eq.mpr c_15
        omega
      have j25_hB : 1 ≤ (σ 1 1).toInt := by
        have : ((0 : Int32)).toInt = 0 := by decide
        have : ((1 : Int32)).toInt = 1 := by decide
        have := in_ne c_6
        have := mt ti_eq.mpr c_15
        omega
      have j25_m : ((σ 1 1).toInt - (0 : Int32).toInt).toNat < 7 := by
        have : ((0 : Int32)).toInt = 0 := by decide
        have : ((1 : Int32)).toInt = 1 := by decide
        have := in_ne c_6
        have := mt ti_eq.mpr c_15
        omega
      exact l_X12_mean_27  C0   (7) σ a1 (0 : Int64) (0 : Int32) hI j25_h2 j25_h4 j25_h4b j25_hB j25_m hK hP hDD (lv_sub hl [2, 3, 1, 0] rfl) hT
    · have hT := hT_pos c_15 hT
      refine lv_ldc2 (v := (-9223372036854775808 : Int64)) hx hb C0.2.2.2.2.1 (C0.2.2.2.2.2.1 _ w_1251) dX12_mean_18 ?_
      exact ret_PL C0 hT dX12_mean_21
set_option maxRecDepth 20000 in
theorem w_1179 : (Cond.methodLink RX12 149 yX12_lesser) ∈ TB := inTB (List.mem_of_getElem? (i := 1179) (by decide +kernel)) (by decide +kernel)
set_option maxRecDepth 20000 in
theorem w_1181 : (Cond.code yX12_lesser cX12_lesser 2 (some .int)) ∈ TB := inTB (List.mem_of_getElem? (i := 1181) (by decide +kernel)) (by decide +kernel)
set_option maxRecDepth 20000 in
theorem w_1180 : (Cond.static yX12_lesser) ∈ TB := inTB (List.mem_of_getElem? (i := 1180) (by decide +kernel)) (by decide +kernel)
theorem cf_X12_lesser : CG yX12_lesser cX12_lesser 2 (some .int) 2 := ⟨w_1180, w_75, w_1181, by decide +kernel, by decide +kernel, by decide +kernel⟩
set_option maxRecDepth 20000 in
theorem w_1182 : (Cond.methodLink RX12 152 yX12_greater) ∈ TB := inTB (List.mem_of_getElem? (i := 1182) (by decide +kernel)) (by decide +kernel)
set_option maxRecDepth 20000 in
theorem w_1184 : (Cond.code yX12_greater cX12_greater 2 (some .int)) ∈ TB := inTB (List.mem_of_getElem? (i := 1184) (by decide +kernel)) (by decide +kernel)
set_option maxRecDepth 20000 in
theorem w_1183 : (Cond.static yX12_greater) ∈ TB := inTB (List.mem_of_getElem? (i := 1183) (by decide +kernel)) (by decide +kernel)
theorem cf_X12_greater : CG yX12_greater cX12_greater 2 (some .int) 2 := ⟨w_1183, w_75, w_1184, by decide +kernel, by decide +kernel, by decide +kernel⟩
/-! ThreeMeasuresModel.odds -/
theorem dX12_odds_0 : decode cX12_odds 0 = .ok (.aload_n 0, 1) := by decide +kernel
theorem dX12_odds_1 : decode cX12_odds 1 = .ok (.iload_n 1, 1) := by decide +kernel
theorem dX12_odds_2 : decode cX12_odds 2 = .ok (.invokevirtual 165, 3) := by decide +kernel
theorem dX12_odds_5 : decode cX12_odds 5 = .ok (.ifCond .eq 23, 3) := by decide +kernel
theorem dX12_odds_8 : decode cX12_odds 8 = .ok (.iload_n 2, 1) := by decide +kernel
theorem dX12_odds_9 : decode cX12_odds 9 = .ok (.iconst 0, 1) := by decide +kernel
theorem dX12_odds_10 : decode cX12_odds 10 = .ok (.sipush 999, 3) := by decide +kernel
theorem dX12_odds_13 : decode cX12_odds 13 = .ok (.invokestatic 47, 3) := by decide +kernel
theorem dX12_odds_16 : decode cX12_odds 16 = .ok (.ifCond .eq 12, 3) := by decide +kernel
theorem dX12_odds_19 : decode cX12_odds 19 = .ok (.iload_n 3, 1) := by decide +kernel
theorem dX12_odds_20 : decode cX12_odds 20 = .ok (.iconst 0, 1) := by decide +kernel
theorem dX12_odds_21 : decode cX12_odds 21 = .ok (.iconst 1, 1) := by decide +kernel
theorem dX12_odds_22 : decode cX12_odds 22 = .ok (.invokestatic 47, 3) := by decide +kernel
theorem dX12_odds_25 : decode cX12_odds 25 = .ok (.ifCond .ne 7, 3) := by decide +kernel
theorem dX12_odds_28 : decode cX12_odds 28 = .ok (.ldc2_w 199, 3) := by decide +kernel
theorem dX12_odds_31 : decode cX12_odds 31 = .ok (.lreturn, 1) := by decide +kernel
theorem dX12_odds_32 : decode cX12_odds 32 = .ok (.iload_n 2, 1) := by decide +kernel
theorem dX12_odds_33 : decode cX12_odds 33 = .ok (.aload_n 0, 1) := by decide +kernel
theorem dX12_odds_34 : decode cX12_odds 34 = .ok (.getfield 9, 3) := by decide +kernel
theorem dX12_odds_37 : decode cX12_odds 37 = .ok (.bipush 57, 2) := by decide +kernel
theorem dX12_odds_39 : decode cX12_odds 39 = .ok (.iload_n 1, 1) := by decide +kernel
theorem dX12_odds_40 : decode cX12_odds 40 = .ok (.iadd, 1) := by decide +kernel
theorem dX12_odds_41 : decode cX12_odds 41 = .ok (.iaload, 1) := by decide +kernel
theorem dX12_odds_42 : decode cX12_odds 42 = .ok (.invokestatic 149, 3) := by decide +kernel
theorem dX12_odds_45 : decode cX12_odds 45 = .ok (.aload_n 0, 1) := by decide +kernel
theorem dX12_odds_46 : decode cX12_odds 46 = .ok (.getfield 9, 3) := by decide +kernel
theorem dX12_odds_49 : decode cX12_odds 49 = .ok (.bipush 51, 2) := by decide +kernel
theorem dX12_odds_51 : decode cX12_odds 51 = .ok (.iload_n 1, 1) := by decide +kernel
theorem dX12_odds_52 : decode cX12_odds 52 = .ok (.iadd, 1) := by decide +kernel
theorem dX12_odds_53 : decode cX12_odds 53 = .ok (.iaload, 1) := by decide +kernel
theorem dX12_odds_54 : decode cX12_odds 54 = .ok (.isub, 1) := by decide +kernel
theorem dX12_odds_55 : decode cX12_odds 55 = .ok (.iconst 1, 1) := by decide +kernel
theorem dX12_odds_56 : decode cX12_odds 56 = .ok (.iadd, 1) := by decide +kernel
theorem dX12_odds_57 : decode cX12_odds 57 = .ok (.istore 4, 2) := by decide +kernel
theorem dX12_odds_59 : decode cX12_odds 59 = .ok (.iconst 0, 1) := by decide +kernel
theorem dX12_odds_60 : decode cX12_odds 60 = .ok (.iload 4, 2) := by decide +kernel
theorem dX12_odds_62 : decode cX12_odds 62 = .ok (.invokestatic 152, 3) := by decide +kernel
theorem dX12_odds_65 : decode cX12_odds 65 = .ok (.i2l, 1) := by decide +kernel
theorem dX12_odds_66 : decode cX12_odds 66 = .ok (.aload_n 0, 1) := by decide +kernel
theorem dX12_odds_67 : decode cX12_odds 67 = .ok (.iload_n 1, 1) := by decide +kernel
theorem dX12_odds_68 : decode cX12_odds 68 = .ok (.invokevirtual 168, 3) := by decide +kernel
theorem dX12_odds_71 : decode cX12_odds 71 = .ok (.iconst 1, 1) := by decide +kernel
theorem dX12_odds_72 : decode cX12_odds 72 = .ok (.iadd, 1) := by decide +kernel
theorem dX12_odds_73 : decode cX12_odds 73 = .ok (.i2l, 1) := by decide +kernel
theorem dX12_odds_74 : decode cX12_odds 74 = .ok (.iload_n 3, 1) := by decide +kernel
theorem dX12_odds_75 : decode cX12_odds 75 = .ok (.invokestatic 201, 3) := by decide +kernel
theorem dX12_odds_78 : decode cX12_odds 78 = .ok (.lreturn, 1) := by decide +kernel
def f_X12_odds (σ : St) (a1 : Int32) (a2 : Int32) (a3 : Int32) : Int64 := (if (f_X12_isWall σ a1) = 0 then (-9223372036854775808 : Int64) else (if (f_X12_in a2 (0 : Int32) (999 : Int32)) = 0 then (-9223372036854775808 : Int64) else (if (f_X12_in a3 (0 : Int32) (1 : Int32)) = 0 then (-9223372036854775808 : Int64) else (f_X12_lowest ((f_X12_greater (0 : Int32) (((f_X12_lesser a2 (σ 1 (ix ((57 : Int32) + a1)))) - (σ 1 (ix ((51 : Int32) + a1)))) + (1 : Int32))).toInt64) (((f_X12_gapOf σ a1) + (1 : Int32)).toInt64) a3))))
set_option maxHeartbeats 600000 in
set_option maxRecDepth 100000 in
theorem k_X12_odds (l : Launch) (g : GG) (σ : St) (a1 : Int32) (a2 : Int32) (a3 : Int32) (hI : IB (σ 1)) : PL l yX12_odds (wsF yX12_odds cX12_odds 5 (some .long)) { frames := 2, cells := 0, slots := 0, locals := 43 } [.ref (g.2.2 100), .int (a1), .int (a2), .int (a3)] (GB g (mW g) (fun _ => True) σ) (f_X12_odds σ a1 a2 a3) := by
  refine start_PL (by decide) (Nat.le_of_ble_eq_true rfl) ?_
  intro p e s m args below meth c C0 hG ls hl
  obtain ⟨hK, hP, hDD, hBg⟩ := hG
  obtain ⟨hx, hb, hr, hml, hown, hts, hlocks⟩ := id C0
  have hl : lv_has ls 5 [(0, .ref (g.2.2 100)), (1, .int (a1)), (2, .int (a2)), (3, .int (a3))] := hl
  generalize hT : (f_X12_odds σ a1 a2 a3) = tgt
  unfold f_X12_odds at hT
  obtain ⟨⟨i0, i0'⟩, ⟨i1, i1'⟩, ⟨i2, i2'⟩, ⟨i3, i3'⟩, ⟨i4, i4'⟩, ⟨i5, i5'⟩, ⟨i6, i6'⟩, ⟨i7, i7'⟩, ⟨i8, i8'⟩, iK, iV, iL, iR, iW, iY, iG, iM, iB, iQ, iP, iT, iU⟩ := id hI
  refine lv_aload_n hx hb dX12_odds_0 rfl (lv_at hl 0 rfl) ?_
  refine lv_iload_n hx hb dX12_odds_1 rfl (lv_at hl 1 rfl) ?_
  refine m_ci (rest := []) (As := [.int (a1)]) (σ := σ) C0 hK hP hDD SV.tt (fun _ _ _ => trivial) cf_X12_isWall w_1147 rfl (k_X12_isWall l g σ a1 ) ⟨by decide, by decide⟩ hl.1 rfl rfl (Nat.le_of_ble_eq_true rfl) dX12_odds_2 ⟨Nat.zero_le _, Nat.zero_le _⟩ ?_
  refine lv_if_eq (tgt := 28) hx hb dX12_odds_5 (by decide) (fun c_5 => ?_) (fun c_5 => ?_)
  · have hT := hT_pos c_5 hT
    refine lv_ldc2 (v := (-9223372036854775808 : Int64)) hx hb C0.2.2.2.2.1 (C0.2.2.2.2.2.1 _ w_1251) dX12_odds_28 ?_
    exact ret_PL C0 hT dX12_odds_31
  · have hT := hT_neg c_5 hT
    refine lv_iload_n hx hb dX12_odds_8 rfl (lv_at hl 2 rfl) ?_
    refine lv_iconst (v := (0 : Int32)) hx hb dX12_odds_9 (by decide) ?_
    refine lv_sipush (v := (999 : Int32)) hx hb dX12_odds_10 (by decide) ?_
    refine s_ci (rest := []) (As := [.int (a2), .int ((0 : Int32)), .int ((999 : Int32))]) C0 cf_X12_in w_1060 (k_X12_in l a2 (0 : Int32) (999 : Int32) ) ⟨by decide, by decide⟩ hl.1 rfl rfl (Nat.le_of_ble_eq_true rfl) dX12_odds_13 ⟨Nat.zero_le _, Nat.zero_le _⟩ ?_
    refine lv_if_eq (tgt := 28) hx hb dX12_odds_16 (by decide) (fun c_16 => ?_) (fun c_16 => ?_)
    · have hT := hT_pos c_16 hT
      refine lv_ldc2 (v := (-9223372036854775808 : Int64)) hx hb C0.2.2.2.2.1 (C0.2.2.2.2.2.1 _ w_1251) dX12_odds_28 ?_
      exact ret_PL C0 hT dX12_odds_31
    · have hT := hT_neg c_16 hT
      refine lv_iload_n hx hb dX12_odds_19 rfl (lv_at hl 3 rfl) ?_
      refine lv_iconst (v := (0 : Int32)) hx hb dX12_odds_20 (by decide) ?_
      refine lv_iconst (v := (1 : Int32)) hx hb dX12_odds_21 (by decide) ?_
      refine s_ci (rest := []) (As := [.int (a3), .int ((0 : Int32)), .int ((1 : Int32))]) C0 cf_X12_in w_1060 (k_X12_in l a3 (0 : Int32) (1 : Int32) ) ⟨by decide, by decide⟩ hl.1 rfl rfl (Nat.le_of_ble_eq_true rfl) dX12_odds_22 ⟨Nat.zero_le _, Nat.zero_le _⟩ ?_
      refine lv_if_ne (tgt := 32) hx hb dX12_odds_25 (by decide) (fun c_25 => ?_) (fun c_25 => ?_)
      · have hT := hT_neg c_25 hT
        obtain ⟨z1, z2⟩ := isWall_ne hI.2.1.1 c_5
        obtain ⟨g1, g2, g3, g4⟩ := gap_pos hI z1 (by omega)
        refine lv_iload_n hx hb dX12_odds_32 rfl (lv_at hl 2 rfl) ?_
        refine lv_aload_n hx hb dX12_odds_33 rfl (lv_at hl 0 rfl) ?_
        refine m_get (σ := σ) (v := .ref (g.2.2 1)) C0 hK hP 1 (by decide) rfl w_968 dX12_odds_34 ?_
        refine lv_bipush (v := (57 : Int32)) hx hb dX12_odds_37 (by decide) ?_
        refine lv_iload_n hx hb dX12_odds_39 rfl (lv_at hl 1 rfl) ?_
        refine lv_iadd hx hb dX12_odds_40 ?_
        have o_41 : vp_in ((57 : Int32) + a1) 916 := by
          have : ((0 : Int32)).toInt = 0 := by decide
          have : ((999 : Int32)).toInt = 999 := by decide
          have : ((1 : Int32)).toInt = 1 := by decide
          have : ((57 : Int32)).toInt = 57 := by decide
          have := isWall_ne hI.2.1.1 c_5
          have := in_ne c_16
          have := in_ne c_25
          try have := ti_add (a := (57 : Int32)) (b := a1) (by omega) (by omega)
          exact vin (by omega) (by omega)
        refine m_ald (σ := σ) C0 hK hP 1 1 916 rfl o_41 (ix ((57 : Int32) + a1)) rfl dX12_odds_41 ?_
        refine s_ci (rest := []) (As := [.int (a2), .int ((σ 1 (ix ((57 : Int32) + a1))))]) C0 cf_X12_lesser w_1179 (k_X12_lesser l a2 (σ 1 (ix ((57 : Int32) + a1))) ) ⟨by decide, by decide⟩ hl.1 rfl rfl (Nat.le_of_ble_eq_true rfl) dX12_odds_42 ⟨Nat.zero_le _, Nat.zero_le _⟩ ?_
        refine lv_aload_n hx hb dX12_odds_45 rfl (lv_at hl 0 rfl) ?_
        refine m_get (σ := σ) (v := .ref (g.2.2 1)) C0 hK hP 1 (by decide) rfl w_968 dX12_odds_46 ?_
        refine lv_bipush (v := (51 : Int32)) hx hb dX12_odds_49 (by decide) ?_
        refine lv_iload_n hx hb dX12_odds_51 rfl (lv_at hl 1 rfl) ?_
        refine lv_iadd hx hb dX12_odds_52 ?_
        have o_53 : vp_in ((51 : Int32) + a1) 916 := by
          have : ((0 : Int32)).toInt = 0 := by decide
          have : ((999 : Int32)).toInt = 999 := by decide
          have : ((1 : Int32)).toInt = 1 := by decide
          have : ((51 : Int32)).toInt = 51 := by decide
          have := isWall_ne hI.2.1.1 c_5
          have := in_ne c_16
          have := in_ne c_25
          try have := ti_add (a := (51 : Int32)) (b := a1) (by omega) (by omega)
          exact vin (by omega) (by omega)
        refine m_ald (σ := σ) C0 hK hP 1 1 916 rfl o_53 (ix ((51 : Int32) + a1)) rfl dX12_odds_53 ?_
        refine lv_isub hx hb dX12_odds_54 ?_
        refine lv_iconst (v := (1 : Int32)) hx hb dX12_odds_55 (by decide) ?_
        refine lv_iadd hx hb dX12_odds_56 ?_
        refine lv_istore (lv' := [(4, .int ((((f_X12_lesser a2 (σ 1 (ix ((57 : Int32) + a1)))) - (σ 1 (ix ((51 : Int32) + a1)))) + (1 : Int32)))), (0, .ref (g.2.2 100)), (1, .int (a1)), (2, .int (a2)), (3, .int (a3))]) hx hb dX12_odds_57 hl (by decide) rfl (fun ls hl => ?_)
        refine lv_iconst (v := (0 : Int32)) hx hb dX12_odds_59 (by decide) ?_
        refine lv_iload hx hb dX12_odds_60 (lv_at hl 0 rfl) ?_
        refine s_ci (rest := []) (As := [.int ((0 : Int32)), .int ((((f_X12_lesser a2 (σ 1 (ix ((57 : Int32) + a1)))) - (σ 1 (ix ((51 : Int32) + a1)))) + (1 : Int32)))]) C0 cf_X12_greater w_1182 (k_X12_greater l (0 : Int32) (((f_X12_lesser a2 (σ 1 (ix ((57 : Int32) + a1)))) - (σ 1 (ix ((51 : Int32) + a1)))) + (1 : Int32)) ) ⟨by decide, by decide⟩ hl.1 rfl rfl (Nat.le_of_ble_eq_true rfl) dX12_odds_62 ⟨Nat.zero_le _, Nat.zero_le _⟩ ?_
        refine lv_i2l (v := ((f_X12_greater (0 : Int32) (((f_X12_lesser a2 (σ 1 (ix ((57 : Int32) + a1)))) - (σ 1 (ix ((51 : Int32) + a1)))) + (1 : Int32))).toInt64)) hx hb dX12_odds_65 rfl ?_
        refine lv_aload_n hx hb dX12_odds_66 rfl (lv_at hl 1 rfl) ?_
        refine lv_iload_n hx hb dX12_odds_67 rfl (lv_at hl 2 rfl) ?_
        have q68_h1 : 0 ≤ a1.toInt := by
          have : ((0 : Int32)).toInt = 0 := by decide
          have : ((999 : Int32)).toInt = 999 := by decide
          have : ((1 : Int32)).toInt = 1 := by decide
          have := isWall_ne hI.2.1.1 c_5
          have := in_ne c_16
          have := in_ne c_25
          omega
        have q68_h2 : a1.toInt ≤ 6 := by
          have : ((0 : Int32)).toInt = 0 := by decide
          have : ((999 : Int32)).toInt = 999 := by decide
          have : ((1 : Int32)).toInt = 1 := by decide
          have := isWall_ne hI.2.1.1 c_5
          have := in_ne c_16
          have := in_ne c_25
          omega
        refine m_ci (rest := [.long (((f_X12_greater (0 : Int32) (((f_X12_lesser a2 (σ 1 (ix ((57 : Int32) + a1)))) - (σ 1 (ix ((51 : Int32) + a1)))) + (1 : Int32))).toInt64))]) (As := [.int (a1)]) (σ := σ) C0 hK hP hDD SV.tt (fun _ _ _ => trivial) cf_X12_gapOf w_1151 rfl (k_X12_gapOf l g σ a1 q68_h1 q68_h2) ⟨by decide, by decide⟩ hl.1 rfl rfl (Nat.le_of_ble_eq_true rfl) dX12_odds_68 ⟨Nat.zero_le _, Nat.zero_le _⟩ ?_
        refine lv_iconst (v := (1 : Int32)) hx hb dX12_odds_71 (by decide) ?_
        refine lv_iadd hx hb dX12_odds_72 ?_
        refine lv_i2l (v := (((f_X12_gapOf σ a1) + (1 : Int32)).toInt64)) hx hb dX12_odds_73 rfl ?_
        refine lv_iload_n hx hb dX12_odds_74 rfl (lv_at hl 4 rfl) ?_
        have q75_h0 : 0 ≤ ((f_X12_greater (0 : Int32) (((f_X12_lesser a2 (σ 1 (ix ((57 : Int32) + a1)))) - (σ 1 (ix ((51 : Int32) + a1)))) + (1 : Int32))).toInt64).toInt := (by rw [i2l_toInt]; exact ge0 _)
        have q75_h2 : 0 < (((f_X12_gapOf σ a1) + (1 : Int32)).toInt64).toInt := (by rw [i2l_toInt]; exact g3)
        refine s_cl (rest := []) (As := [.long (((f_X12_greater (0 : Int32) (((f_X12_lesser a2 (σ 1 (ix ((57 : Int32) + a1)))) - (σ 1 (ix ((51 : Int32) + a1)))) + (1 : Int32))).toInt64)), .long ((((f_X12_gapOf σ a1) + (1 : Int32)).toInt64)), .int (a3)]) C0 cf_X12_lowest w_1252 (k_X12_lowest l ((f_X12_greater (0 : Int32) (((f_X12_lesser a2 (σ 1 (ix ((57 : Int32) + a1)))) - (σ 1 (ix ((51 : Int32) + a1)))) + (1 : Int32))).toInt64) (((f_X12_gapOf σ a1) + (1 : Int32)).toInt64) a3 q75_h0 q75_h2) ⟨by decide, by decide⟩ hl.1 rfl rfl (Nat.le_of_ble_eq_true rfl) dX12_odds_75 ⟨Nat.zero_le _, Nat.zero_le _⟩ ?_
        exact ret_PL C0 hT dX12_odds_78
      · have hT := hT_pos c_25 hT
        refine lv_ldc2 (v := (-9223372036854775808 : Int64)) hx hb C0.2.2.2.2.1 (C0.2.2.2.2.2.1 _ w_1251) dX12_odds_28 ?_
        exact ret_PL C0 hT dX12_odds_31
/-! ThreeMeasuresModel.spread -/
theorem dX12_spread_0 : decode cX12_spread 0 = .ok (.bipush (-5), 2) := by decide +kernel
theorem dX12_spread_2 : decode cX12_spread 2 = .ok (.istore_n 1, 1) := by decide +kernel
theorem dX12_spread_3 : decode cX12_spread 3 = .ok (.iconst 0, 1) := by decide +kernel
theorem dX12_spread_4 : decode cX12_spread 4 = .ok (.istore_n 2, 1) := by decide +kernel
theorem dX12_spread_5 : decode cX12_spread 5 = .ok (.iload_n 2, 1) := by decide +kernel
theorem dX12_spread_6 : decode cX12_spread 6 = .ok (.aload_n 0, 1) := by decide +kernel
theorem dX12_spread_7 : decode cX12_spread 7 = .ok (.getfield 9, 3) := by decide +kernel
theorem dX12_spread_10 : decode cX12_spread 10 = .ok (.iconst 1, 1) := by decide +kernel
theorem dX12_spread_11 : decode cX12_spread 11 = .ok (.iaload, 1) := by decide +kernel
theorem dX12_spread_12 : decode cX12_spread 12 = .ok (.if_icmp .ge 34, 3) := by decide +kernel
theorem dX12_spread_15 : decode cX12_spread 15 = .ok (.iload_n 1, 1) := by decide +kernel
theorem dX12_spread_16 : decode cX12_spread 16 = .ok (.bipush (-5), 2) := by decide +kernel
theorem dX12_spread_18 : decode cX12_spread 18 = .ok (.if_icmp .eq 16, 3) := by decide +kernel
theorem dX12_spread_21 : decode cX12_spread 21 = .ok (.aload_n 0, 1) := by decide +kernel
theorem dX12_spread_22 : decode cX12_spread 22 = .ok (.iload_n 2, 1) := by decide +kernel
theorem dX12_spread_23 : decode cX12_spread 23 = .ok (.invokevirtual 168, 3) := by decide +kernel
theorem dX12_spread_26 : decode cX12_spread 26 = .ok (.aload_n 0, 1) := by decide +kernel
theorem dX12_spread_27 : decode cX12_spread 27 = .ok (.iload_n 1, 1) := by decide +kernel
theorem dX12_spread_28 : decode cX12_spread 28 = .ok (.invokevirtual 168, 3) := by decide +kernel
theorem dX12_spread_31 : decode cX12_spread 31 = .ok (.if_icmp .le 7, 3) := by decide +kernel
theorem dX12_spread_34 : decode cX12_spread 34 = .ok (.iload_n 2, 1) := by decide +kernel
theorem dX12_spread_35 : decode cX12_spread 35 = .ok (.goto 4, 3) := by decide +kernel
theorem dX12_spread_38 : decode cX12_spread 38 = .ok (.iload_n 1, 1) := by decide +kernel
theorem dX12_spread_39 : decode cX12_spread 39 = .ok (.istore_n 1, 1) := by decide +kernel
theorem dX12_spread_40 : decode cX12_spread 40 = .ok (.iinc 2 1, 3) := by decide +kernel
theorem dX12_spread_43 : decode cX12_spread 43 = .ok (.goto (-38), 3) := by decide +kernel
theorem dX12_spread_46 : decode cX12_spread 46 = .ok (.iload_n 1, 1) := by decide +kernel
theorem dX12_spread_47 : decode cX12_spread 47 = .ok (.ireturn, 1) := by decide +kernel
def f_X12_spread_5 (K5 : St → Int32 → Int32 → Int32) (σ : St) (a1 : Int32) (a2 : Int32) : Int32 := (if (σ 1 1) ≤ a2 then a1 else (K5 σ (if a1 = (-5 : Int32) then a2 else (if (f_X12_gapOf σ a2) ≤ (f_X12_gapOf σ a1) then a1 else a2)) (a2 + (1 : Int32))))
set_option maxHeartbeats 600000 in
set_option maxRecDepth 100000 in
theorem b_X12_spread_5 {g : GG} {p : Program} {l : Launch} {e : Env} {s : State} {m : MethodId} {args : Array Value} {below : List Frame} {meth : Method} {c : Code}  {tgt : Int32} {K5 : St → Int32 → Int32 → Int32} {N5 : Nat} (C0 : BC p s m args meth c cX12_spread RX12 3 (some .int)) (hK5 : ∀ (σ : St) (a1 : Int32) (a2 : Int32), (IB (σ 1)) → (a1.toInt = -5 ∨ (0 ≤ a1.toInt ∧ a1.toInt < 6)) → (0 ≤ a2.toInt) → ((σ 1 1).toInt - a2.toInt).toNat < N5 → KK g s → va_P g.1 vwCl ((mW g) σ) s.heap → va_D (fun _ => True) ((mW g) σ) → ∀ {ls : Array Slot}, lv_has ls 3 [(0, .ref (g.2.2 100)), (1, .int (a1)), (2, .int (a2))] → K5 σ a1 a2 = tgt → W p l e { frames := 1, cells := 0, slots := 0, locals := 21 } s m args below meth c s.heap [] 0 0 (QPI below args s tgt) (F0 m 5 ls [])) {σ : St} {a1 : Int32} {a2 : Int32}  (hI : IB (σ 1)) (h1 : a1.toInt = -5 ∨ (0 ≤ a1.toInt ∧ a1.toInt < 6)) (h2 : 0 ≤ a2.toInt) (hm : ((σ 1 1).toInt - a2.toInt).toNat < N5 + 1) (hK : KK g s) (hP : va_P g.1 vwCl ((mW g) σ) s.heap) (hDD : va_D (fun _ => True) ((mW g) σ)) {ls : Array Slot} (hl : lv_has ls 3 [(0, .ref (g.2.2 100)), (1, .int (a1)), (2, .int (a2))]) (hT : f_X12_spread_5 K5 σ a1 a2 = tgt) : W p l e { frames := 1, cells := 0, slots := 0, locals := 21 } s m args below meth c s.heap [] 0 0 (QPI below args s tgt) (F0 m 5 ls []) := by
  obtain ⟨hx, hb, hr, hml, hown, hts, hlocks⟩ := id C0
  unfold f_X12_spread_5 at hT
  obtain ⟨⟨i0, i0'⟩, ⟨i1, i1'⟩, ⟨i2, i2'⟩, ⟨i3, i3'⟩, ⟨i4, i4'⟩, ⟨i5, i5'⟩, ⟨i6, i6'⟩, ⟨i7, i7'⟩, ⟨i8, i8'⟩, iK, iV, iL, iR, iW, iY, iG, iM, iB, iQ, iP, iT, iU⟩ := id hI
  refine lv_iload_n hx hb dX12_spread_5 rfl (lv_at hl 2 rfl) ?_
  refine lv_aload_n hx hb dX12_spread_6 rfl (lv_at hl 0 rfl) ?_
  refine m_get (σ := σ) (v := .ref (g.2.2 1)) C0 hK hP 1 (by decide) rfl w_968 dX12_spread_7 ?_
  refine lv_iconst (v := (1 : Int32)) hx hb dX12_spread_10 (by decide) ?_
  refine m_ald (σ := σ) C0 hK hP 1 1 916 rfl (vin_l (by decide)) 1 (by decide) dX12_spread_11 ?_
  refine lv_icmp_ge (tgt := 46) hx hb dX12_spread_12 (by decide) (fun c_12 => ?_) (fun c_12 => ?_)
  · have hT := hT_pos c_12 hT
    refine lv_iload_n hx hb dX12_spread_46 rfl (lv_at hl 1 rfl) ?_
    exact ret_PI C0 hT dX12_spread_47
  · have hT := hT_neg c_12 hT
    refine lv_iload_n hx hb dX12_spread_15 rfl (lv_at hl 1 rfl) ?_
    refine lv_bipush (v := (-5 : Int32)) hx hb dX12_spread_16 (by decide) ?_
    have J18 : ∀ v : Int32, v = (if a1 = (-5 : Int32) then a2 else (if (f_X12_gapOf σ a2) ≤ (f_X12_gapOf σ a1) then a1 else a2)) → W p l e { frames := 1, cells := 0, slots := 0, locals := 21 } s m args below meth c s.heap [] 0 0 (QPI below args s tgt) (F0 m 39 ls [.int (v)]) := by
      intro v ev
      subst ev
      refine lv_istore_n (lv' := [(1, .int ((if a1 = (-5 : Int32) then a2 else (if (f_X12_gapOf σ a2) ≤ (f_X12_gapOf σ a1) then a1 else a2)))), (0, .ref (g.2.2 100)), (2, .int (a2))]) hx hb dX12_spread_39 rfl hl (by decide) rfl (fun ls hl => ?_)
      refine lv_iinc (v := (a2 + (1 : Int32))) (lv' := [(2, .int ((a2 + (1 : Int32)))), (1, .int ((if a1 = (-5 : Int32) then a2 else (if (f_X12_gapOf σ a2) ≤ (f_X12_gapOf σ a1) then a1 else a2)))), (0, .ref (g.2.2 100))]) hx hb dX12_spread_40 hl (k := 2) rfl rfl (by decide) rfl (fun ls hl => ?_)
      refine lv_goto (tgt := 5) hx hb dX12_spread_43 (by decide) ?_
      have j43_h1 : (if a1 = (-5 : Int32) then a2 else (if (f_X12_gapOf σ a2) ≤ (f_X12_gapOf σ a1) then a1 else a2)).toInt = -5 ∨ (0 ≤ (if a1 = (-5 : Int32) then a2 else (if (f_X12_gapOf σ a2) ≤ (f_X12_gapOf σ a1) then a1 else a2)).toInt ∧ (if a1 = (-5 : Int32) then a2 else (if (f_X12_gapOf σ a2) ≤ (f_X12_gapOf σ a1) then a1 else a2)).toInt < 6) := (by have q12 := mt ti_le.mpr c_12; (repeat' split) <;> omega)
      have j43_h2 : 0 ≤ (a2 + (1 : Int32)).toInt := by
        have : ((1 : Int32)).toInt = 1 := by decide
        have := mt ti_le.mpr c_12
        try have := ti_add (a := a2) (b := (1 : Int32)) (by omega) (by omega)
        omega
      have j43_m : ((σ 1 1).toInt - (a2 + (1 : Int32)).toInt).toNat < N5 := by
        have : ((1 : Int32)).toInt = 1 := by decide
        have := mt ti_le.mpr c_12
        try have := ti_add (a := a2) (b := (1 : Int32)) (by omega) (by omega)
        omega
      exact hK5 σ (if a1 = (-5 : Int32) then a2 else (if (f_X12_gapOf σ a2) ≤ (f_X12_gapOf σ a1) then a1 else a2)) (a2 + (1 : Int32)) hI j43_h1 j43_h2 j43_m hK hP hDD (lv_sub hl [2, 1, 0] rfl) hT
    refine lv_icmp_eq (tgt := 34) hx hb dX12_spread_18 (by decide) (fun c_18 => ?_) (fun c_18 => ?_)
    · refine lv_iload_n hx hb dX12_spread_34 rfl (lv_at hl 2 rfl) ?_
      refine lv_goto (tgt := 39) hx hb dX12_spread_35 (by decide) ?_
      exact J18 _ (iv_pos c_18 rfl)
    · refine lv_aload_n hx hb dX12_spread_21 rfl (lv_at hl 0 rfl) ?_
      refine lv_iload_n hx hb dX12_spread_22 rfl (lv_at hl 2 rfl) ?_
      have q23_h2 : a2.toInt ≤ 6 := by
        have : ((-5 : Int32)).toInt = -5 := by decide
        have := mt ti_le.mpr c_12
        have := mt ti_eq.mpr c_18
        omega
      refine m_ci (rest := []) (As := [.int (a2)]) (σ := σ) C0 hK hP hDD SV.tt (fun _ _ _ => trivial) cf_X12_gapOf w_1151 rfl (k_X12_gapOf l g σ a2 h2 q23_h2) ⟨by decide, by decide⟩ hl.1 rfl rfl (Nat.le_of_ble_eq_true rfl) dX12_spread_23 ⟨Nat.zero_le _, Nat.zero_le _⟩ ?_
      refine lv_aload_n hx hb dX12_spread_26 rfl (lv_at hl 0 rfl) ?_
      refine lv_iload_n hx hb dX12_spread_27 rfl (lv_at hl 1 rfl) ?_
      have q28_h1 : 0 ≤ a1.toInt := by
        have : ((-5 : Int32)).toInt = -5 := by decide
        have := mt ti_le.mpr c_12
        have := mt ti_eq.mpr c_18
        omega
      have q28_h2 : a1.toInt ≤ 6 := by
        have : ((-5 : Int32)).toInt = -5 := by decide
        have := mt ti_le.mpr c_12
        have := mt ti_eq.mpr c_18
        omega
      refine m_ci (rest := [.int ((f_X12_gapOf σ a2))]) (As := [.int (a1)]) (σ := σ) C0 hK hP hDD SV.tt (fun _ _ _ => trivial) cf_X12_gapOf w_1151 rfl (k_X12_gapOf l g σ a1 q28_h1 q28_h2) ⟨by decide, by decide⟩ hl.1 rfl rfl (Nat.le_of_ble_eq_true rfl) dX12_spread_28 ⟨Nat.zero_le _, Nat.zero_le _⟩ ?_
      refine lv_icmp_le (tgt := 38) hx hb dX12_spread_31 (by decide) (fun c_31 => ?_) (fun c_31 => ?_)
      · refine lv_iload_n hx hb dX12_spread_38 rfl (lv_at hl 1 rfl) ?_
        exact J18 _ (iv_neg c_18 (iv_pos c_31 rfl))
      · refine lv_iload_n hx hb dX12_spread_34 rfl (lv_at hl 2 rfl) ?_
        refine lv_goto (tgt := 39) hx hb dX12_spread_35 (by decide) ?_
        exact J18 _ (iv_neg c_18 (iv_neg c_31 rfl))
def g_X12_spread_5  : Nat → St → Int32 → Int32 → Int32
  | 0 => fun σ a1 a2 => 0
  | n + 1 => fun σ a1 a2 => f_X12_spread_5  (g_X12_spread_5  n) σ a1 a2
theorem l_X12_spread_5 {g : GG} {p : Program} {l : Launch} {e : Env} {s : State} {m : MethodId} {args : Array Value} {below : List Frame} {meth : Method} {c : Code}  {tgt : Int32}  (C0 : BC p s m args meth c cX12_spread RX12 3 (some .int))  : ∀ (n : Nat) (σ : St) (a1 : Int32) (a2 : Int32), (IB (σ 1)) → (a1.toInt = -5 ∨ (0 ≤ a1.toInt ∧ a1.toInt < 6)) → (0 ≤ a2.toInt) → ((σ 1 1).toInt - a2.toInt).toNat < n → KK g s → va_P g.1 vwCl ((mW g) σ) s.heap → va_D (fun _ => True) ((mW g) σ) → ∀ {ls : Array Slot}, lv_has ls 3 [(0, .ref (g.2.2 100)), (1, .int (a1)), (2, .int (a2))] → g_X12_spread_5  n σ a1 a2 = tgt → W p l e { frames := 1, cells := 0, slots := 0, locals := 21 } s m args below meth c s.heap [] 0 0 (QPI below args s tgt) (F0 m 5 ls []) := by
  intro n
  induction n with
  | zero => intro σ a1 a2 hI h1 h2 hm; exact absurd hm (Nat.not_lt_zero _)
  | succ n ih =>
    intro σ a1 a2 hI h1 h2 hm  hK hP hDD ls hl hT
    exact b_X12_spread_5  (K5 := g_X12_spread_5  n) (N5 := n) C0  (fun σ a1 a2 hI h1 h2 hm2 => ih σ a1 a2 hI h1 h2 hm2) hI h1 h2 hm hK hP hDD hl hT
def f_X12_spread (σ : St) : Int32 := (g_X12_spread_5  (7) σ (-5 : Int32) (0 : Int32))
set_option maxHeartbeats 600000 in
set_option maxRecDepth 100000 in
theorem k_X12_spread (l : Launch) (g : GG) (σ : St) (hI : IB (σ 1)) : PI l yX12_spread (wsF yX12_spread cX12_spread 3 (some .int)) { frames := 1, cells := 0, slots := 0, locals := 21 } [.ref (g.2.2 100)] (GB g (mW g) (fun _ => True) σ) (f_X12_spread σ) := by
  refine start_PI (by decide) (Nat.le_of_ble_eq_true rfl) ?_
  intro p e s m args below meth c C0 hG ls hl
  obtain ⟨hK, hP, hDD, hBg⟩ := hG
  obtain ⟨hx, hb, hr, hml, hown, hts, hlocks⟩ := id C0
  have hl : lv_has ls 3 [(0, .ref (g.2.2 100))] := hl
  generalize hT : (f_X12_spread σ) = tgt
  unfold f_X12_spread at hT
  obtain ⟨⟨i0, i0'⟩, ⟨i1, i1'⟩, ⟨i2, i2'⟩, ⟨i3, i3'⟩, ⟨i4, i4'⟩, ⟨i5, i5'⟩, ⟨i6, i6'⟩, ⟨i7, i7'⟩, ⟨i8, i8'⟩, iK, iV, iL, iR, iW, iY, iG, iM, iB, iQ, iP, iT, iU⟩ := id hI
  refine lv_bipush (v := (-5 : Int32)) hx hb dX12_spread_0 (by decide) ?_
  refine lv_istore_n (lv' := [(1, .int ((-5 : Int32))), (0, .ref (g.2.2 100))]) hx hb dX12_spread_2 rfl hl (by decide) rfl (fun ls hl => ?_)
  refine lv_iconst (v := (0 : Int32)) hx hb dX12_spread_3 (by decide) ?_
  refine lv_istore_n (lv' := [(2, .int ((0 : Int32))), (1, .int ((-5 : Int32))), (0, .ref (g.2.2 100))]) hx hb dX12_spread_4 rfl hl (by decide) rfl (fun ls hl => ?_)
  have j4_h1 : (-5 : Int32).toInt = -5 ∨ (0 ≤ (-5 : Int32).toInt ∧ (-5 : Int32).toInt < 6) := by
    have : ((0 : Int32)).toInt = 0 := by decide
    have : ((-5 : Int32)).toInt = -5 := by decide
    omega
  have j4_h2 : 0 ≤ (0 : Int32).toInt := by
    have : ((0 : Int32)).toInt = 0 := by decide
    have : ((-5 : Int32)).toInt = -5 := by decide
    omega
  have j4_m : ((σ 1 1).toInt - (0 : Int32).toInt).toNat < 7 := by
    have : ((0 : Int32)).toInt = 0 := by decide
    have : ((-5 : Int32)).toInt = -5 := by decide
    omega
  exact l_X12_spread_5  C0   (7) σ (-5 : Int32) (0 : Int32) hI j4_h1 j4_h2 j4_m hK hP hDD (lv_sub hl [2, 1, 0] rfl) hT
/-! ThreeMeasuresModel.looked -/
theorem dX12_looked_0 : decode cX12_looked 0 = .ok (.iconst 0, 1) := by decide +kernel
theorem dX12_looked_1 : decode cX12_looked 1 = .ok (.istore_n 1, 1) := by decide +kernel
theorem dX12_looked_2 : decode cX12_looked 2 = .ok (.iload_n 1, 1) := by decide +kernel
theorem dX12_looked_3 : decode cX12_looked 3 = .ok (.aload_n 0, 1) := by decide +kernel
theorem dX12_looked_4 : decode cX12_looked 4 = .ok (.getfield 9, 3) := by decide +kernel
theorem dX12_looked_7 : decode cX12_looked 7 = .ok (.iconst 5, 1) := by decide +kernel
theorem dX12_looked_8 : decode cX12_looked 8 = .ok (.iaload, 1) := by decide +kernel
theorem dX12_looked_9 : decode cX12_looked 9 = .ok (.if_icmp .ge 54, 3) := by decide +kernel
theorem dX12_looked_12 : decode cX12_looked 12 = .ok (.aload_n 0, 1) := by decide +kernel
theorem dX12_looked_13 : decode cX12_looked 13 = .ok (.getfield 9, 3) := by decide +kernel
theorem dX12_looked_16 : decode cX12_looked 16 = .ok (.bipush 85, 2) := by decide +kernel
theorem dX12_looked_18 : decode cX12_looked 18 = .ok (.iload_n 1, 1) := by decide +kernel
theorem dX12_looked_19 : decode cX12_looked 19 = .ok (.iadd, 1) := by decide +kernel
theorem dX12_looked_20 : decode cX12_looked 20 = .ok (.iaload, 1) := by decide +kernel
theorem dX12_looked_21 : decode cX12_looked 21 = .ok (.istore_n 2, 1) := by decide +kernel
theorem dX12_looked_22 : decode cX12_looked 22 = .ok (.aload_n 0, 1) := by decide +kernel
theorem dX12_looked_23 : decode cX12_looked 23 = .ok (.getfield 9, 3) := by decide +kernel
theorem dX12_looked_26 : decode cX12_looked 26 = .ok (.bipush 93, 2) := by decide +kernel
theorem dX12_looked_28 : decode cX12_looked 28 = .ok (.iload_n 1, 1) := by decide +kernel
theorem dX12_looked_29 : decode cX12_looked 29 = .ok (.iadd, 1) := by decide +kernel
theorem dX12_looked_30 : decode cX12_looked 30 = .ok (.iaload, 1) := by decide +kernel
theorem dX12_looked_31 : decode cX12_looked 31 = .ok (.aload_n 0, 1) := by decide +kernel
theorem dX12_looked_32 : decode cX12_looked 32 = .ok (.getfield 9, 3) := by decide +kernel
theorem dX12_looked_35 : decode cX12_looked 35 = .ok (.bipush 51, 2) := by decide +kernel
theorem dX12_looked_37 : decode cX12_looked 37 = .ok (.iload_n 2, 1) := by decide +kernel
theorem dX12_looked_38 : decode cX12_looked 38 = .ok (.iadd, 1) := by decide +kernel
theorem dX12_looked_39 : decode cX12_looked 39 = .ok (.iaload, 1) := by decide +kernel
theorem dX12_looked_40 : decode cX12_looked 40 = .ok (.aload_n 0, 1) := by decide +kernel
theorem dX12_looked_41 : decode cX12_looked 41 = .ok (.getfield 9, 3) := by decide +kernel
theorem dX12_looked_44 : decode cX12_looked 44 = .ok (.bipush 57, 2) := by decide +kernel
theorem dX12_looked_46 : decode cX12_looked 46 = .ok (.iload_n 2, 1) := by decide +kernel
theorem dX12_looked_47 : decode cX12_looked 47 = .ok (.iadd, 1) := by decide +kernel
theorem dX12_looked_48 : decode cX12_looked 48 = .ok (.iaload, 1) := by decide +kernel
theorem dX12_looked_49 : decode cX12_looked 49 = .ok (.invokestatic 47, 3) := by decide +kernel
theorem dX12_looked_52 : decode cX12_looked 52 = .ok (.ifCond .ne 5, 3) := by decide +kernel
theorem dX12_looked_55 : decode cX12_looked 55 = .ok (.iload_n 1, 1) := by decide +kernel
theorem dX12_looked_56 : decode cX12_looked 56 = .ok (.ireturn, 1) := by decide +kernel
theorem dX12_looked_57 : decode cX12_looked 57 = .ok (.iinc 1 1, 3) := by decide +kernel
theorem dX12_looked_60 : decode cX12_looked 60 = .ok (.goto (-58), 3) := by decide +kernel
theorem dX12_looked_63 : decode cX12_looked 63 = .ok (.bipush (-5), 2) := by decide +kernel
theorem dX12_looked_65 : decode cX12_looked 65 = .ok (.ireturn, 1) := by decide +kernel
def f_X12_looked_2 (K2 : St → Int32 → Int32) (σ : St) (a1 : Int32) : Int32 := (if (σ 1 5) ≤ a1 then (-5 : Int32) else (if (f_X12_in (σ 1 (ix ((93 : Int32) + a1))) (σ 1 (ix ((51 : Int32) + (σ 1 (ix ((85 : Int32) + a1)))))) (σ 1 (ix ((57 : Int32) + (σ 1 (ix ((85 : Int32) + a1))))))) = 0 then a1 else (K2 σ (a1 + (1 : Int32)))))
set_option maxHeartbeats 600000 in
set_option maxRecDepth 100000 in
theorem b_X12_looked_2 {g : GG} {p : Program} {l : Launch} {e : Env} {s : State} {m : MethodId} {args : Array Value} {below : List Frame} {meth : Method} {c : Code}  {tgt : Int32} {K2 : St → Int32 → Int32} {N2 : Nat} (C0 : BC p s m args meth c cX12_looked RX12 3 (some .int)) (hK2 : ∀ (σ : St) (a1 : Int32), (IB (σ 1)) → (0 ≤ a1.toInt) → ((σ 1 5).toInt - a1.toInt).toNat < N2 → KK g s → va_P g.1 vwCl ((mW g) σ) s.heap → va_D (fun _ => True) ((mW g) σ) → ∀ {ls : Array Slot}, lv_has ls 3 [(0, .ref (g.2.2 100)), (1, .int (a1))] → K2 σ a1 = tgt → W p l e { frames := 1, cells := 0, slots := 0, locals := 22 } s m args below meth c s.heap [] 0 0 (QPI below args s tgt) (F0 m 2 ls [])) {σ : St} {a1 : Int32}  (hI : IB (σ 1)) (h1 : 0 ≤ a1.toInt) (hm : ((σ 1 5).toInt - a1.toInt).toNat < N2 + 1) (hK : KK g s) (hP : va_P g.1 vwCl ((mW g) σ) s.heap) (hDD : va_D (fun _ => True) ((mW g) σ)) {ls : Array Slot} (hl : lv_has ls 3 [(0, .ref (g.2.2 100)), (1, .int (a1))]) (hT : f_X12_looked_2 K2 σ a1 = tgt) : W p l e { frames := 1, cells := 0, slots := 0, locals := 22 } s m args below meth c s.heap [] 0 0 (QPI below args s tgt) (F0 m 2 ls []) := by
  obtain ⟨hx, hb, hr, hml, hown, hts, hlocks⟩ := id C0
  unfold f_X12_looked_2 at hT
  obtain ⟨⟨i0, i0'⟩, ⟨i1, i1'⟩, ⟨i2, i2'⟩, ⟨i3, i3'⟩, ⟨i4, i4'⟩, ⟨i5, i5'⟩, ⟨i6, i6'⟩, ⟨i7, i7'⟩, ⟨i8, i8'⟩, iK, iV, iL, iR, iW, iY, iG, iM, iB, iQ, iP, iT, iU⟩ := id hI
  refine lv_iload_n hx hb dX12_looked_2 rfl (lv_at hl 1 rfl) ?_
  refine lv_aload_n hx hb dX12_looked_3 rfl (lv_at hl 0 rfl) ?_
  refine m_get (σ := σ) (v := .ref (g.2.2 1)) C0 hK hP 1 (by decide) rfl w_968 dX12_looked_4 ?_
  refine lv_iconst (v := (5 : Int32)) hx hb dX12_looked_7 (by decide) ?_
  refine m_ald (σ := σ) C0 hK hP 1 1 916 rfl (vin_l (by decide)) 5 (by decide) dX12_looked_8 ?_
  refine lv_icmp_ge (tgt := 63) hx hb dX12_looked_9 (by decide) (fun c_9 => ?_) (fun c_9 => ?_)
  · have hT := hT_pos c_9 hT
    refine lv_bipush (v := (-5 : Int32)) hx hb dX12_looked_63 (by decide) ?_
    exact ret_PI C0 hT dX12_looked_65
  · have hT := hT_neg c_9 hT
    have q9 := mt ti_le.mpr c_9
    obtain ⟨b1, b2⟩ := IB_b hI h1 (by omega)
    refine lv_aload_n hx hb dX12_looked_12 rfl (lv_at hl 0 rfl) ?_
    refine m_get (σ := σ) (v := .ref (g.2.2 1)) C0 hK hP 1 (by decide) rfl w_968 dX12_looked_13 ?_
    refine lv_bipush (v := (85 : Int32)) hx hb dX12_looked_16 (by decide) ?_
    refine lv_iload_n hx hb dX12_looked_18 rfl (lv_at hl 1 rfl) ?_
    refine lv_iadd hx hb dX12_looked_19 ?_
    have o_20 : vp_in ((85 : Int32) + a1) 916 := by
      have : ((85 : Int32)).toInt = 85 := by decide
      have := mt ti_le.mpr c_9
      try have := ti_add (a := (85 : Int32)) (b := a1) (by omega) (by omega)
      exact vin (by omega) (by omega)
    refine m_ald (σ := σ) C0 hK hP 1 1 916 rfl o_20 (ix ((85 : Int32) + a1)) rfl dX12_looked_20 ?_
    refine lv_istore_n (lv' := [(2, .int ((σ 1 (ix ((85 : Int32) + a1))))), (0, .ref (g.2.2 100)), (1, .int (a1))]) hx hb dX12_looked_21 rfl hl (by decide) rfl (fun ls hl => ?_)
    refine lv_aload_n hx hb dX12_looked_22 rfl (lv_at hl 1 rfl) ?_
    refine m_get (σ := σ) (v := .ref (g.2.2 1)) C0 hK hP 1 (by decide) rfl w_968 dX12_looked_23 ?_
    refine lv_bipush (v := (93 : Int32)) hx hb dX12_looked_26 (by decide) ?_
    refine lv_iload_n hx hb dX12_looked_28 rfl (lv_at hl 2 rfl) ?_
    refine lv_iadd hx hb dX12_looked_29 ?_
    have o_30 : vp_in ((93 : Int32) + a1) 916 := by
      have : ((93 : Int32)).toInt = 93 := by decide
      have := mt ti_le.mpr c_9
      try have := ti_add (a := (93 : Int32)) (b := a1) (by omega) (by omega)
      exact vin (by omega) (by omega)
    refine m_ald (σ := σ) C0 hK hP 1 1 916 rfl o_30 (ix ((93 : Int32) + a1)) rfl dX12_looked_30 ?_
    refine lv_aload_n hx hb dX12_looked_31 rfl (lv_at hl 1 rfl) ?_
    refine m_get (σ := σ) (v := .ref (g.2.2 1)) C0 hK hP 1 (by decide) rfl w_968 dX12_looked_32 ?_
    refine lv_bipush (v := (51 : Int32)) hx hb dX12_looked_35 (by decide) ?_
    refine lv_iload_n hx hb dX12_looked_37 rfl (lv_at hl 0 rfl) ?_
    refine lv_iadd hx hb dX12_looked_38 ?_
    have o_39 : vp_in ((51 : Int32) + (σ 1 (ix ((85 : Int32) + a1)))) 916 := by
      have : ((51 : Int32)).toInt = 51 := by decide
      have := mt ti_le.mpr c_9
      try have := ti_add (a := (51 : Int32)) (b := (σ 1 (ix ((85 : Int32) + a1)))) (by omega) (by omega)
      exact vin (by omega) (by omega)
    refine m_ald (σ := σ) C0 hK hP 1 1 916 rfl o_39 (ix ((51 : Int32) + (σ 1 (ix ((85 : Int32) + a1))))) rfl dX12_looked_39 ?_
    refine lv_aload_n hx hb dX12_looked_40 rfl (lv_at hl 1 rfl) ?_
    refine m_get (σ := σ) (v := .ref (g.2.2 1)) C0 hK hP 1 (by decide) rfl w_968 dX12_looked_41 ?_
    refine lv_bipush (v := (57 : Int32)) hx hb dX12_looked_44 (by decide) ?_
    refine lv_iload_n hx hb dX12_looked_46 rfl (lv_at hl 0 rfl) ?_
    refine lv_iadd hx hb dX12_looked_47 ?_
    have o_48 : vp_in ((57 : Int32) + (σ 1 (ix ((85 : Int32) + a1)))) 916 := by
      have : ((57 : Int32)).toInt = 57 := by decide
      have := mt ti_le.mpr c_9
      try have := ti_add (a := (57 : Int32)) (b := (σ 1 (ix ((85 : Int32) + a1)))) (by omega) (by omega)
      exact vin (by omega) (by omega)
    refine m_ald (σ := σ) C0 hK hP 1 1 916 rfl o_48 (ix ((57 : Int32) + (σ 1 (ix ((85 : Int32) + a1))))) rfl dX12_looked_48 ?_
    refine s_ci (rest := []) (As := [.int ((σ 1 (ix ((93 : Int32) + a1)))), .int ((σ 1 (ix ((51 : Int32) + (σ 1 (ix ((85 : Int32) + a1))))))), .int ((σ 1 (ix ((57 : Int32) + (σ 1 (ix ((85 : Int32) + a1)))))))]) C0 cf_X12_in w_1060 (k_X12_in l (σ 1 (ix ((93 : Int32) + a1))) (σ 1 (ix ((51 : Int32) + (σ 1 (ix ((85 : Int32) + a1)))))) (σ 1 (ix ((57 : Int32) + (σ 1 (ix ((85 : Int32) + a1)))))) ) ⟨by decide, by decide⟩ hl.1 rfl rfl (Nat.le_of_ble_eq_true rfl) dX12_looked_49 ⟨Nat.zero_le _, Nat.zero_le _⟩ ?_
    refine lv_if_ne (tgt := 57) hx hb dX12_looked_52 (by decide) (fun c_52 => ?_) (fun c_52 => ?_)
    · have hT := hT_neg c_52 hT
      refine lv_iinc (v := (a1 + (1 : Int32))) (lv' := [(1, .int ((a1 + (1 : Int32)))), (2, .int ((σ 1 (ix ((85 : Int32) + a1))))), (0, .ref (g.2.2 100))]) hx hb dX12_looked_57 hl (k := 2) rfl rfl (by decide) rfl (fun ls hl => ?_)
      refine lv_goto (tgt := 2) hx hb dX12_looked_60 (by decide) ?_
      have j60_h1 : 0 ≤ (a1 + (1 : Int32)).toInt := by
        have : ((93 : Int32)).toInt = 93 := by decide
        have : ((51 : Int32)).toInt = 51 := by decide
        have : ((85 : Int32)).toInt = 85 := by decide
        have : ((57 : Int32)).toInt = 57 := by decide
        have : ((1 : Int32)).toInt = 1 := by decide
        have := mt ti_le.mpr c_9
        have := in_ne c_52
        try have := ti_add (a := a1) (b := (1 : Int32)) (by omega) (by omega)
        omega
      have j60_m : ((σ 1 5).toInt - (a1 + (1 : Int32)).toInt).toNat < N2 := by
        have : ((93 : Int32)).toInt = 93 := by decide
        have : ((51 : Int32)).toInt = 51 := by decide
        have : ((85 : Int32)).toInt = 85 := by decide
        have : ((57 : Int32)).toInt = 57 := by decide
        have : ((1 : Int32)).toInt = 1 := by decide
        have := mt ti_le.mpr c_9
        have := in_ne c_52
        try have := ti_add (a := a1) (b := (1 : Int32)) (by omega) (by omega)
        omega
      exact hK2 σ (a1 + (1 : Int32)) hI j60_h1 j60_m hK hP hDD (lv_sub hl [2, 0] rfl) hT
    · have hT := hT_pos c_52 hT
      refine lv_iload_n hx hb dX12_looked_55 rfl (lv_at hl 2 rfl) ?_
      exact ret_PI C0 hT dX12_looked_56
def g_X12_looked_2  : Nat → St → Int32 → Int32
  | 0 => fun σ a1 => 0
  | n + 1 => fun σ a1 => f_X12_looked_2  (g_X12_looked_2  n) σ a1
theorem l_X12_looked_2 {g : GG} {p : Program} {l : Launch} {e : Env} {s : State} {m : MethodId} {args : Array Value} {below : List Frame} {meth : Method} {c : Code}  {tgt : Int32}  (C0 : BC p s m args meth c cX12_looked RX12 3 (some .int))  : ∀ (n : Nat) (σ : St) (a1 : Int32), (IB (σ 1)) → (0 ≤ a1.toInt) → ((σ 1 5).toInt - a1.toInt).toNat < n → KK g s → va_P g.1 vwCl ((mW g) σ) s.heap → va_D (fun _ => True) ((mW g) σ) → ∀ {ls : Array Slot}, lv_has ls 3 [(0, .ref (g.2.2 100)), (1, .int (a1))] → g_X12_looked_2  n σ a1 = tgt → W p l e { frames := 1, cells := 0, slots := 0, locals := 22 } s m args below meth c s.heap [] 0 0 (QPI below args s tgt) (F0 m 2 ls []) := by
  intro n
  induction n with
  | zero => intro σ a1 hI h1 hm; exact absurd hm (Nat.not_lt_zero _)
  | succ n ih =>
    intro σ a1 hI h1 hm  hK hP hDD ls hl hT
    exact b_X12_looked_2  (K2 := g_X12_looked_2  n) (N2 := n) C0  (fun σ a1 hI h1 hm2 => ih σ a1 hI h1 hm2) hI h1 hm hK hP hDD hl hT
def f_X12_looked (σ : St) : Int32 := (g_X12_looked_2  (9) σ (0 : Int32))
set_option maxHeartbeats 600000 in
set_option maxRecDepth 100000 in
theorem k_X12_looked (l : Launch) (g : GG) (σ : St) (hI : IB (σ 1)) : PI l yX12_looked (wsF yX12_looked cX12_looked 3 (some .int)) { frames := 1, cells := 0, slots := 0, locals := 22 } [.ref (g.2.2 100)] (GB g (mW g) (fun _ => True) σ) (f_X12_looked σ) := by
  refine start_PI (by decide) (Nat.le_of_ble_eq_true rfl) ?_
  intro p e s m args below meth c C0 hG ls hl
  obtain ⟨hK, hP, hDD, hBg⟩ := hG
  obtain ⟨hx, hb, hr, hml, hown, hts, hlocks⟩ := id C0
  have hl : lv_has ls 3 [(0, .ref (g.2.2 100))] := hl
  generalize hT : (f_X12_looked σ) = tgt
  unfold f_X12_looked at hT
  obtain ⟨⟨i0, i0'⟩, ⟨i1, i1'⟩, ⟨i2, i2'⟩, ⟨i3, i3'⟩, ⟨i4, i4'⟩, ⟨i5, i5'⟩, ⟨i6, i6'⟩, ⟨i7, i7'⟩, ⟨i8, i8'⟩, iK, iV, iL, iR, iW, iY, iG, iM, iB, iQ, iP, iT, iU⟩ := id hI
  refine lv_iconst (v := (0 : Int32)) hx hb dX12_looked_0 (by decide) ?_
  refine lv_istore_n (lv' := [(1, .int ((0 : Int32))), (0, .ref (g.2.2 100))]) hx hb dX12_looked_1 rfl hl (by decide) rfl (fun ls hl => ?_)
  have j1_h1 : 0 ≤ (0 : Int32).toInt := by
    have : ((0 : Int32)).toInt = 0 := by decide
    omega
  have j1_m : ((σ 1 5).toInt - (0 : Int32).toInt).toNat < 9 := by
    have : ((0 : Int32)).toInt = 0 := by decide
    omega
  exact l_X12_looked_2  C0   (9) σ (0 : Int32) hI j1_h1 j1_m hK hP hDD (lv_sub hl [1, 0] rfl) hT
set_option maxRecDepth 20000 in
theorem w_991 : (Cond.fieldLink RX12 40 RX12 "bodies" "[I") ∈ TB := inTB (List.mem_of_getElem? (i := 991) (by decide +kernel)) (by decide +kernel)
/-! ThreeMeasuresModel.trace -/
theorem dX12_trace_0 : decode cX12_trace 0 = .ok (.iload_n 1, 1) := by decide +kernel
theorem dX12_trace_1 : decode cX12_trace 1 = .ok (.iconst 0, 1) := by decide +kernel
theorem dX12_trace_2 : decode cX12_trace 2 = .ok (.aload_n 0, 1) := by decide +kernel
theorem dX12_trace_3 : decode cX12_trace 3 = .ok (.getfield 217, 3) := by decide +kernel
theorem dX12_trace_6 : decode cX12_trace 6 = .ok (.bipush 20, 2) := by decide +kernel
theorem dX12_trace_8 : decode cX12_trace 8 = .ok (.if_icmp .ge 10, 3) := by decide +kernel
theorem dX12_trace_11 : decode cX12_trace 11 = .ok (.aload_n 0, 1) := by decide +kernel
theorem dX12_trace_12 : decode cX12_trace 12 = .ok (.getfield 217, 3) := by decide +kernel
theorem dX12_trace_15 : decode cX12_trace 15 = .ok (.goto 5, 3) := by decide +kernel
theorem dX12_trace_18 : decode cX12_trace 18 = .ok (.bipush 20, 2) := by decide +kernel
theorem dX12_trace_20 : decode cX12_trace 20 = .ok (.iconst 1, 1) := by decide +kernel
theorem dX12_trace_21 : decode cX12_trace 21 = .ok (.isub, 1) := by decide +kernel
theorem dX12_trace_22 : decode cX12_trace 22 = .ok (.invokestatic 47, 3) := by decide +kernel
theorem dX12_trace_25 : decode cX12_trace 25 = .ok (.ifCond .eq 12, 3) := by decide +kernel
theorem dX12_trace_28 : decode cX12_trace 28 = .ok (.aload_n 0, 1) := by decide +kernel
theorem dX12_trace_29 : decode cX12_trace 29 = .ok (.getfield 40, 3) := by decide +kernel
theorem dX12_trace_32 : decode cX12_trace 32 = .ok (.iload_n 1, 1) := by decide +kernel
theorem dX12_trace_33 : decode cX12_trace 33 = .ok (.iaload, 1) := by decide +kernel
theorem dX12_trace_34 : decode cX12_trace 34 = .ok (.goto 4, 3) := by decide +kernel
theorem dX12_trace_37 : decode cX12_trace 37 = .ok (.iconst (-1), 1) := by decide +kernel
theorem dX12_trace_38 : decode cX12_trace 38 = .ok (.ireturn, 1) := by decide +kernel
def f_X12_trace (σ : St) (a1 : Int32) : Int32 := (if (f_X12_in a1 (0 : Int32) ((if (20 : Int32) ≤ (σ 25 0) then (20 : Int32) else (σ 25 0)) - (1 : Int32))) = 0 then (-1 : Int32) else (σ 24 (ix a1)))
set_option maxHeartbeats 600000 in
set_option maxRecDepth 100000 in
theorem k_X12_trace (l : Launch) (g : GG) (σ : St) (a1 : Int32) (hrn : 0 ≤ (σ 25 0).toInt) : PI l yX12_trace (wsF yX12_trace cX12_trace 2 (some .int)) { frames := 1, cells := 0, slots := 0, locals := 22 } [.ref (g.2.2 100), .int (a1)] (GB g (mW g) (fun _ => True) σ) (f_X12_trace σ a1) := by
  refine start_PI (by decide) (Nat.le_of_ble_eq_true rfl) ?_
  intro p e s m args below meth c C0 hG ls hl
  obtain ⟨hK, hP, hDD, hBg⟩ := hG
  obtain ⟨hx, hb, hr, hml, hown, hts, hlocks⟩ := id C0
  have hl : lv_has ls 2 [(0, .ref (g.2.2 100)), (1, .int (a1))] := hl
  generalize hT : (f_X12_trace σ a1) = tgt
  unfold f_X12_trace at hT
  refine lv_iload_n hx hb dX12_trace_0 rfl (lv_at hl 1 rfl) ?_
  refine lv_iconst (v := (0 : Int32)) hx hb dX12_trace_1 (by decide) ?_
  refine lv_aload_n hx hb dX12_trace_2 rfl (lv_at hl 0 rfl) ?_
  refine m_get (σ := σ) (v := .int ((σ 25 0))) C0 hK hP 25 (by decide) rfl w_992 dX12_trace_3 ?_
  refine lv_bipush (v := (20 : Int32)) hx hb dX12_trace_6 (by decide) ?_
  have J8 : ∀ v : Int32, v = (if (20 : Int32) ≤ (σ 25 0) then (20 : Int32) else (σ 25 0)) → W p l e { frames := 1, cells := 0, slots := 0, locals := 22 } s m args below meth c s.heap [] 0 0 (QPI below args s tgt) (F0 m 20 ls [.int (v), .int ((0 : Int32)), .int (a1)]) := by
    intro v ev
    subst ev
    refine lv_iconst (v := (1 : Int32)) hx hb dX12_trace_20 (by decide) ?_
    refine lv_isub hx hb dX12_trace_21 ?_
    refine s_ci (rest := []) (As := [.int (a1), .int ((0 : Int32)), .int (((if (20 : Int32) ≤ (σ 25 0) then (20 : Int32) else (σ 25 0)) - (1 : Int32)))]) C0 cf_X12_in w_1060 (k_X12_in l a1 (0 : Int32) ((if (20 : Int32) ≤ (σ 25 0) then (20 : Int32) else (σ 25 0)) - (1 : Int32)) ) ⟨by decide, by decide⟩ hl.1 rfl rfl (Nat.le_of_ble_eq_true rfl) dX12_trace_22 ⟨Nat.zero_le _, Nat.zero_le _⟩ ?_
    have J25 : ∀ v : Int32, v = (if (f_X12_in a1 (0 : Int32) ((if (20 : Int32) ≤ (σ 25 0) then (20 : Int32) else (σ 25 0)) - (1 : Int32))) = 0 then (-1 : Int32) else (σ 24 (ix a1))) → W p l e { frames := 1, cells := 0, slots := 0, locals := 22 } s m args below meth c s.heap [] 0 0 (QPI below args s tgt) (F0 m 38 ls [.int (v)]) := by
      intro v ev
      subst ev
      exact ret_PI C0 hT dX12_trace_38
    refine lv_if_eq (tgt := 37) hx hb dX12_trace_25 (by decide) (fun c_25 => ?_) (fun c_25 => ?_)
    · refine lv_iconst (v := (-1 : Int32)) hx hb dX12_trace_37 (by decide) ?_
      exact J25 _ (iv_pos c_25 rfl)
    · refine lv_aload_n hx hb dX12_trace_28 rfl (lv_at hl 0 rfl) ?_
      refine m_get (σ := σ) (v := .ref (g.2.2 24)) C0 hK hP 24 (by decide) rfl w_991 dX12_trace_29 ?_
      refine lv_iload_n hx hb dX12_trace_32 rfl (lv_at hl 1 rfl) ?_
      have o_33 : vp_in a1 20 := (by
      obtain ⟨q1, q2⟩ := in_ne c_25
      have e0 : (0 : Int32).toInt = 0 := rfl
      refine vin (by omega) ?_
      split at q2
      · rw [show ((20 : Int32) - 1).toInt = 19 from rfl] at q2
        omega
      · rename_i h
        have h := mt ti_le.mpr h
        have e20 : (20 : Int32).toInt = 20 := rfl
        have e1 : (1 : Int32).toInt = 1 := rfl
        have q3 := ti_sub (a := σ 25 0) (b := 1) (by omega) (by omega)
        omega)
      refine m_ald (σ := σ) C0 hK hP 10 24 20 rfl o_33 (ix a1) rfl dX12_trace_33 ?_
      refine lv_goto (tgt := 38) hx hb dX12_trace_34 (by decide) ?_
      exact J25 _ (iv_neg c_25 rfl)
  refine lv_icmp_ge (tgt := 18) hx hb dX12_trace_8 (by decide) (fun c_8 => ?_) (fun c_8 => ?_)
  · refine lv_bipush (v := (20 : Int32)) hx hb dX12_trace_18 (by decide) ?_
    exact J8 _ (iv_pos c_8 rfl)
  · refine lv_aload_n hx hb dX12_trace_11 rfl (lv_at hl 0 rfl) ?_
    refine m_get (σ := σ) (v := .int ((σ 25 0))) C0 hK hP 25 (by decide) rfl w_992 dX12_trace_12 ?_
    refine lv_goto (tgt := 20) hx hb dX12_trace_15 (by decide) ?_
    exact J8 _ (iv_neg c_8 rfl)
/-! ThreeMeasuresModel.ranBody -/
theorem dX12_ranBody_0 : decode cX12_ranBody 0 = .ok (.aload_n 0, 1) := by decide +kernel
theorem dX12_ranBody_1 : decode cX12_ranBody 1 = .ok (.getfield 217, 3) := by decide +kernel
theorem dX12_ranBody_4 : decode cX12_ranBody 4 = .ok (.bipush 20, 2) := by decide +kernel
theorem dX12_ranBody_6 : decode cX12_ranBody 6 = .ok (.if_icmp .ge 13, 3) := by decide +kernel
theorem dX12_ranBody_9 : decode cX12_ranBody 9 = .ok (.aload_n 0, 1) := by decide +kernel
theorem dX12_ranBody_10 : decode cX12_ranBody 10 = .ok (.getfield 40, 3) := by decide +kernel
theorem dX12_ranBody_13 : decode cX12_ranBody 13 = .ok (.aload_n 0, 1) := by decide +kernel
theorem dX12_ranBody_14 : decode cX12_ranBody 14 = .ok (.getfield 217, 3) := by decide +kernel
theorem dX12_ranBody_17 : decode cX12_ranBody 17 = .ok (.iload_n 1, 1) := by decide +kernel
theorem dX12_ranBody_18 : decode cX12_ranBody 18 = .ok (.iastore, 1) := by decide +kernel
theorem dX12_ranBody_19 : decode cX12_ranBody 19 = .ok (.aload_n 0, 1) := by decide +kernel
theorem dX12_ranBody_20 : decode cX12_ranBody 20 = .ok (.dup, 1) := by decide +kernel
theorem dX12_ranBody_21 : decode cX12_ranBody 21 = .ok (.getfield 217, 3) := by decide +kernel
theorem dX12_ranBody_24 : decode cX12_ranBody 24 = .ok (.iconst 1, 1) := by decide +kernel
theorem dX12_ranBody_25 : decode cX12_ranBody 25 = .ok (.iadd, 1) := by decide +kernel
theorem dX12_ranBody_26 : decode cX12_ranBody 26 = .ok (.putfield 217, 3) := by decide +kernel
theorem dX12_ranBody_29 : decode cX12_ranBody 29 = .ok (.return_, 1) := by decide +kernel
def f_X12_ranBody (σ : St) (a1 : Int32) : St := (if (20 : Int32) ≤ (σ 25 0) then (up2 σ 25 0 ((σ 25 0) + (1 : Int32))) else (up2 (up2 σ 24 (ix (σ 25 0)) a1) 25 0 ((σ 25 0) + (1 : Int32))))
set_option maxHeartbeats 600000 in
set_option maxRecDepth 100000 in
theorem k_X12_ranBody (l : Launch) (g : GG) (σ : St) (a1 : Int32) (hrn : 0 ≤ (σ 25 0).toInt ∧ (σ 25 0).toInt ≤ 100) : MV l yX12_ranBody (wsF yX12_ranBody cX12_ranBody 2 none) { frames := 0, cells := 0, slots := 0, locals := 0 } [.ref (g.2.2 100), .int (a1)] g (mW g) (fun _ => True) σ (f_X12_ranBody σ a1) := by
  refine start_MV (by decide) (Nat.le_of_ble_eq_true rfl) ?_
  intro p e s m args below meth c C0 hK hBg hC ls hl
  generalize hAe : aA ((mW g) σ) = A at hC ⊢
  obtain ⟨hx, hb, hr, hml, hown, hts, hlocks⟩ := id C0
  have hl : lv_has ls 2 [(0, .ref (g.2.2 100)), (1, .int (a1))] := hl
  generalize hT : (f_X12_ranBody σ a1) = tgt
  suffices key : ∀ (H : Heap) (locs : List Loc), WC g (mW g) A s.heap σ H locs → W p l e { frames := 0, cells := 0, slots := 0, locals := 0 } s m args below meth c H locs 0 0 (QMV below args s g (mW g) A tgt) (F0 m 0 ls []) from key _ _ hC
  intro H locs hC
  unfold f_X12_ranBody at hT
  obtain ⟨hr1, hr2⟩ := hrn
  refine lv_aload_n hx hb dX12_ranBody_0 rfl (lv_at hl 0 rfl) ?_
  refine m_get (σ := σ) (v := .int ((σ 25 0))) C0 hK hC.1 25 (by decide) rfl w_992 dX12_ranBody_1 ?_
  refine lv_bipush (v := (20 : Int32)) hx hb dX12_ranBody_4 (by decide) ?_
  refine lv_icmp_ge (tgt := 19) hx hb dX12_ranBody_6 (by decide) (fun c_6 => ?_) (fun c_6 => ?_)
  · have hT := hT_pos c_6 hT
    refine lv_aload_n hx hb dX12_ranBody_19 rfl (lv_at hl 0 rfl) ?_
    refine lv_dup hx hb dX12_ranBody_20 rfl ?_
    refine m_get (σ := σ) (v := .int ((σ 25 0))) C0 hK hC.1 25 (by decide) rfl w_992 dX12_ranBody_21 ?_
    refine lv_iconst (v := (1 : Int32)) hx hb dX12_ranBody_24 (by decide) ?_
    refine lv_iadd hx hb dX12_ranBody_25 ?_
    refine m_put (σ := σ) (ty := .int) C0 hK hC 25 (by decide) rfl rfl rfl rfl (ms_25 g _ _) w_992 dX12_ranBody_26 (fun H locs hC => ?_)
    exact ret_MV C0 hC hT dX12_ranBody_29
  · have hT := hT_neg c_6 hT
    refine lv_aload_n hx hb dX12_ranBody_9 rfl (lv_at hl 0 rfl) ?_
    refine m_get (σ := σ) (v := .ref (g.2.2 24)) C0 hK hC.1 24 (by decide) rfl w_991 dX12_ranBody_10 ?_
    refine lv_aload_n hx hb dX12_ranBody_13 rfl (lv_at hl 0 rfl) ?_
    refine m_get (σ := σ) (v := .int ((σ 25 0))) C0 hK hC.1 25 (by decide) rfl w_992 dX12_ranBody_14 ?_
    refine lv_iload_n hx hb dX12_ranBody_17 rfl (lv_at hl 1 rfl) ?_
    have o_18 : vp_in (σ 25 0) 20 := by
      have : ((20 : Int32)).toInt = 20 := by decide
      have := mt ti_le.mpr c_6
      exact vin (by omega) (by omega)
    refine m_ast (σ := σ) C0 hK hC 10 24 20 rfl (ms_24 g _) o_18 (ix (σ 25 0)) rfl dX12_ranBody_18 (fun H locs hC => ?_)
    refine lv_aload_n hx hb dX12_ranBody_19 rfl (lv_at hl 0 rfl) ?_
    refine lv_dup hx hb dX12_ranBody_20 rfl ?_
    refine m_get (σ := (up2 σ 24 (ix (σ 25 0)) a1)) (v := .int ((σ 25 0))) C0 hK hC.1 25 (by decide) rfl w_992 dX12_ranBody_21 ?_
    refine lv_iconst (v := (1 : Int32)) hx hb dX12_ranBody_24 (by decide) ?_
    refine lv_iadd hx hb dX12_ranBody_25 ?_
    refine m_put (σ := (up2 σ 24 (ix (σ 25 0)) a1)) (ty := .int) C0 hK hC 25 (by decide) rfl rfl rfl rfl (ms_25 g _ _) w_992 dX12_ranBody_26 (fun H locs hC => ?_)
    exact ret_MV C0 hC hT dX12_ranBody_29
theorem ra_ranBody {σ : St} {x : Int32} {n : Int} (hn : n ≤ 2000) (h : 0 ≤ (σ 25 0).toInt ∧ (σ 25 0).toInt ≤ n) : 0 ≤ ((f_X12_ranBody σ x) 25 0).toInt ∧ ((f_X12_ranBody σ x) 25 0).toInt ≤ n + 1 := by
  have e1 : (1 : Int32).toInt = 1 := rfl
  have q := ti_add (a := σ 25 0) (b := 1) (by omega) (by omega)
  have key : (f_X12_ranBody σ x) 25 0 = σ 25 0 + 1 := by
    unfold f_X12_ranBody
    split <;> rfl
  rw [key]
  omega
set_option maxRecDepth 20000 in
theorem w_1311 : (Cond.methodLink RX12 220 yX12_ranBody) ∈ TB := inTB (List.mem_of_getElem? (i := 1311) (by decide +kernel)) (by decide +kernel)
set_option maxRecDepth 20000 in
theorem w_1314 : (Cond.code yX12_ranBody cX12_ranBody 2 none) ∈ TB := inTB (List.mem_of_getElem? (i := 1314) (by decide +kernel)) (by decide +kernel)
set_option maxRecDepth 20000 in
theorem w_1313 : (Cond.instanceMethod yX12_ranBody) ∈ TB := inTB (List.mem_of_getElem? (i := 1313) (by decide +kernel)) (by decide +kernel)
set_option maxRecDepth 20000 in
theorem w_64 : (Cond.selects RX12 yX12_ranBody yX12_ranBody) ∈ TB := inTB (List.mem_of_getElem? (i := 64) (by decide +kernel)) (by decide +kernel)
theorem cf_X12_ranBody : CF yX12_ranBody cX12_ranBody 2 none 1 := ⟨w_1313, w_64, w_75, w_1314, by decide +kernel, by decide +kernel, by decide +kernel⟩
set_option maxRecDepth 20000 in
theorem w_994 : (Cond.fieldLink RX12 223 RX12 "number" "I") ∈ TB := inTB (List.mem_of_getElem? (i := 994) (by decide +kernel)) (by decide +kernel)
/-! ThreeMeasuresModel.plainSets -/
theorem dX12_plainSets_0 : decode cX12_plainSets 0 = .ok (.aload_n 0, 1) := by decide +kernel
theorem dX12_plainSets_1 : decode cX12_plainSets 1 = .ok (.iconst 1, 1) := by decide +kernel
theorem dX12_plainSets_2 : decode cX12_plainSets 2 = .ok (.invokevirtual 220, 3) := by decide +kernel
theorem dX12_plainSets_5 : decode cX12_plainSets 5 = .ok (.iload_n 1, 1) := by decide +kernel
theorem dX12_plainSets_6 : decode cX12_plainSets 6 = .ok (.aload_n 0, 1) := by decide +kernel
theorem dX12_plainSets_7 : decode cX12_plainSets 7 = .ok (.getfield 223, 3) := by decide +kernel
theorem dX12_plainSets_10 : decode cX12_plainSets 10 = .ok (.iadd, 1) := by decide +kernel
theorem dX12_plainSets_11 : decode cX12_plainSets 11 = .ok (.ireturn, 1) := by decide +kernel
def f_X12_plainSets (σ : St) (a1 : Int32) : Int32 × St := (bd1 (f_X12_ranBody σ (1 : Int32)) (fun u2 => ((a1 + (u2 27 0)), u2)))
set_option maxHeartbeats 600000 in
set_option maxRecDepth 100000 in
theorem k_X12_plainSets (l : Launch) (g : GG) (σ : St) (a1 : Int32) (hrn : 0 ≤ (σ 25 0).toInt ∧ (σ 25 0).toInt ≤ 90) : MI l yX12_plainSets (wsF yX12_plainSets cX12_plainSets 2 (some .int)) { frames := 1, cells := 0, slots := 0, locals := 21 } [.ref (g.2.2 100), .int (a1)] g (mW g) (fun _ => True) σ (f_X12_plainSets σ a1) := by
  refine start_MI (by decide) (Nat.le_of_ble_eq_true rfl) ?_
  intro p e s m args below meth c C0 hK hBg hC ls hl
  generalize hAe : aA ((mW g) σ) = A at hC ⊢
  obtain ⟨hx, hb, hr, hml, hown, hts, hlocks⟩ := id C0
  have hl : lv_has ls 2 [(0, .ref (g.2.2 100)), (1, .int (a1))] := hl
  generalize hT : (f_X12_plainSets σ a1) = tgt
  suffices key : ∀ (H : Heap) (locs : List Loc), WC g (mW g) A s.heap σ H locs → W p l e { frames := 1, cells := 0, slots := 0, locals := 21 } s m args below meth c H locs 0 0 (QMI below args s g (mW g) A tgt) (F0 m 0 ls []) from key _ _ hC
  intro H locs hC
  unfold f_X12_plainSets at hT
  refine lv_aload_n hx hb dX12_plainSets_0 rfl (lv_at hl 0 rfl) ?_
  refine lv_iconst (v := (1 : Int32)) hx hb dX12_plainSets_1 (by decide) ?_
  have q2_hrn : 0 ≤ (σ 25 0).toInt ∧ (σ 25 0).toInt ≤ 100 := ⟨hrn.1, by omega⟩
  refine m_mv (rest := []) (As := [.int ((1 : Int32))]) (σ := σ) C0 hK hC SV.tt (fun _ _ _ => trivial) cf_X12_ranBody w_1311 rfl (k_X12_ranBody l g σ (1 : Int32) q2_hrn) ⟨by decide, by decide⟩ hl.1 rfl rfl (Nat.le_of_ble_eq_true rfl) dX12_plainSets_2 ⟨Nat.zero_le _, Nat.zero_le _⟩ (fun u2 H locs e2 hC => ?_)
  have hT := bd1_e e2 hT
  refine lv_iload_n hx hb dX12_plainSets_5 rfl (lv_at hl 1 rfl) ?_
  refine lv_aload_n hx hb dX12_plainSets_6 rfl (lv_at hl 0 rfl) ?_
  refine m_get (σ := u2) (v := .int ((u2 27 0))) C0 hK hC.1 27 (by decide) rfl w_994 dX12_plainSets_7 ?_
  refine lv_iadd hx hb dX12_plainSets_10 ?_
  exact ret_MI C0 hC hT dX12_plainSets_11
theorem ra_plainSets {σ : St} {x : Int32} {n : Int} (hn : n ≤ 1900) (h : 0 ≤ (σ 25 0).toInt ∧ (σ 25 0).toInt ≤ n) : 0 ≤ ((f_X12_plainSets σ x).2 25 0).toInt ∧ ((f_X12_plainSets σ x).2 25 0).toInt ≤ n + 1 := by
  exact ra_ranBody (by omega) h
set_option maxRecDepth 20000 in
theorem w_993 : (Cond.fieldLink RX12 226 RX12 "kind" "I") ∈ TB := inTB (List.mem_of_getElem? (i := 993) (by decide +kernel)) (by decide +kernel)
set_option maxRecDepth 20000 in
theorem w_1315 : (Cond.methodLink RX12 233 yX12_plainSets) ∈ TB := inTB (List.mem_of_getElem? (i := 1315) (by decide +kernel)) (by decide +kernel)
set_option maxRecDepth 20000 in
theorem w_1318 : (Cond.code yX12_plainSets cX12_plainSets 2 (some .int)) ∈ TB := inTB (List.mem_of_getElem? (i := 1318) (by decide +kernel)) (by decide +kernel)
set_option maxRecDepth 20000 in
theorem w_1317 : (Cond.instanceMethod yX12_plainSets) ∈ TB := inTB (List.mem_of_getElem? (i := 1317) (by decide +kernel)) (by decide +kernel)
set_option maxRecDepth 20000 in
theorem w_65 : (Cond.selects RX12 yX12_plainSets yX12_plainSets) ∈ TB := inTB (List.mem_of_getElem? (i := 65) (by decide +kernel)) (by decide +kernel)
theorem cf_X12_plainSets : CF yX12_plainSets cX12_plainSets 2 (some .int) 1 := ⟨w_1317, w_65, w_75, w_1318, by decide +kernel, by decide +kernel, by decide +kernel⟩
/-! ThreeMeasuresModel.setsActs -/
theorem dX12_setsActs_0 : decode cX12_setsActs 0 = .ok (.aload_n 0, 1) := by decide +kernel
theorem dX12_setsActs_1 : decode cX12_setsActs 1 = .ok (.getfield 226, 3) := by decide +kernel
theorem dX12_setsActs_4 : decode cX12_setsActs 4 = .ok (.iconst 1, 1) := by decide +kernel
theorem dX12_setsActs_5 : decode cX12_setsActs 5 = .ok (.invokestatic 229, 3) := by decide +kernel
theorem dX12_setsActs_8 : decode cX12_setsActs 8 = .ok (.ifCond .eq 17, 3) := by decide +kernel
theorem dX12_setsActs_11 : decode cX12_setsActs 11 = .ok (.aload_n 0, 1) := by decide +kernel
theorem dX12_setsActs_12 : decode cX12_setsActs 12 = .ok (.bipush 11, 2) := by decide +kernel
theorem dX12_setsActs_14 : decode cX12_setsActs 14 = .ok (.invokevirtual 220, 3) := by decide +kernel
theorem dX12_setsActs_17 : decode cX12_setsActs 17 = .ok (.aload_n 0, 1) := by decide +kernel
theorem dX12_setsActs_18 : decode cX12_setsActs 18 = .ok (.iload_n 1, 1) := by decide +kernel
theorem dX12_setsActs_19 : decode cX12_setsActs 19 = .ok (.iconst 3, 1) := by decide +kernel
theorem dX12_setsActs_20 : decode cX12_setsActs 20 = .ok (.imul, 1) := by decide +kernel
theorem dX12_setsActs_21 : decode cX12_setsActs 21 = .ok (.invokevirtual 233, 3) := by decide +kernel
theorem dX12_setsActs_24 : decode cX12_setsActs 24 = .ok (.ireturn, 1) := by decide +kernel
theorem dX12_setsActs_25 : decode cX12_setsActs 25 = .ok (.aload_n 0, 1) := by decide +kernel
theorem dX12_setsActs_26 : decode cX12_setsActs 26 = .ok (.getfield 226, 3) := by decide +kernel
theorem dX12_setsActs_29 : decode cX12_setsActs 29 = .ok (.iconst 5, 1) := by decide +kernel
theorem dX12_setsActs_30 : decode cX12_setsActs 30 = .ok (.if_icmp .ne 20, 3) := by decide +kernel
theorem dX12_setsActs_33 : decode cX12_setsActs 33 = .ok (.aload_n 0, 1) := by decide +kernel
theorem dX12_setsActs_34 : decode cX12_setsActs 34 = .ok (.bipush 51, 2) := by decide +kernel
theorem dX12_setsActs_36 : decode cX12_setsActs 36 = .ok (.invokevirtual 220, 3) := by decide +kernel
theorem dX12_setsActs_39 : decode cX12_setsActs 39 = .ok (.aload_n 0, 1) := by decide +kernel
theorem dX12_setsActs_40 : decode cX12_setsActs 40 = .ok (.iload_n 1, 1) := by decide +kernel
theorem dX12_setsActs_41 : decode cX12_setsActs 41 = .ok (.invokevirtual 233, 3) := by decide +kernel
theorem dX12_setsActs_44 : decode cX12_setsActs 44 = .ok (.aload_n 0, 1) := by decide +kernel
theorem dX12_setsActs_45 : decode cX12_setsActs 45 = .ok (.getfield 223, 3) := by decide +kernel
theorem dX12_setsActs_48 : decode cX12_setsActs 48 = .ok (.ixor, 1) := by decide +kernel
theorem dX12_setsActs_49 : decode cX12_setsActs 49 = .ok (.ireturn, 1) := by decide +kernel
theorem dX12_setsActs_50 : decode cX12_setsActs 50 = .ok (.aload_n 0, 1) := by decide +kernel
theorem dX12_setsActs_51 : decode cX12_setsActs 51 = .ok (.iload_n 1, 1) := by decide +kernel
theorem dX12_setsActs_52 : decode cX12_setsActs 52 = .ok (.invokevirtual 233, 3) := by decide +kernel
theorem dX12_setsActs_55 : decode cX12_setsActs 55 = .ok (.ireturn, 1) := by decide +kernel
def f_X12_setsActs (σ : St) (a1 : Int32) : Int32 × St := (if (f_X12_isUnder (σ 26 0) (1 : Int32)) = 0 then (if (σ 26 0) = (5 : Int32) then (bd1 (f_X12_ranBody σ (51 : Int32)) (fun u36 => (bd (f_X12_plainSets u36 a1) (fun r41 u41 => ((r41 ^^^ (u41 27 0)), u41))))) else (bd (f_X12_plainSets σ a1) (fun r52 u52 => (r52, u52)))) else (bd1 (f_X12_ranBody σ (11 : Int32)) (fun u14 => (bd (f_X12_plainSets u14 (a1 * (3 : Int32))) (fun r21 u21 => (r21, u21))))))
set_option maxHeartbeats 600000 in
set_option maxRecDepth 100000 in
theorem k_X12_setsActs (l : Launch) (g : GG) (σ : St) (a1 : Int32) (hrn : 0 ≤ (σ 25 0).toInt ∧ (σ 25 0).toInt ≤ 80) : MI l yX12_setsActs (wsF yX12_setsActs cX12_setsActs 2 (some .int)) { frames := 2, cells := 0, slots := 0, locals := 42 } [.ref (g.2.2 100), .int (a1)] g (mW g) (fun _ => True) σ (f_X12_setsActs σ a1) := by
  refine start_MI (by decide) (Nat.le_of_ble_eq_true rfl) ?_
  intro p e s m args below meth c C0 hK hBg hC ls hl
  generalize hAe : aA ((mW g) σ) = A at hC ⊢
  obtain ⟨hx, hb, hr, hml, hown, hts, hlocks⟩ := id C0
  have hl : lv_has ls 2 [(0, .ref (g.2.2 100)), (1, .int (a1))] := hl
  generalize hT : (f_X12_setsActs σ a1) = tgt
  suffices key : ∀ (H : Heap) (locs : List Loc), WC g (mW g) A s.heap σ H locs → W p l e { frames := 2, cells := 0, slots := 0, locals := 42 } s m args below meth c H locs 0 0 (QMI below args s g (mW g) A tgt) (F0 m 0 ls []) from key _ _ hC
  intro H locs hC
  unfold f_X12_setsActs at hT
  refine lv_aload_n hx hb dX12_setsActs_0 rfl (lv_at hl 0 rfl) ?_
  refine m_get (σ := σ) (v := .int ((σ 26 0))) C0 hK hC.1 26 (by decide) rfl w_993 dX12_setsActs_1 ?_
  refine lv_iconst (v := (1 : Int32)) hx hb dX12_setsActs_4 (by decide) ?_
  refine s_ci (rest := []) (As := [.int ((σ 26 0)), .int ((1 : Int32))]) C0 cf_X12_isUnder w_1308 (k_X12_isUnder l (σ 26 0) (1 : Int32) ) ⟨by decide, by decide⟩ hl.1 rfl rfl (Nat.le_of_ble_eq_true rfl) dX12_setsActs_5 ⟨Nat.zero_le _, Nat.zero_le _⟩ ?_
  refine lv_if_eq (tgt := 25) hx hb dX12_setsActs_8 (by decide) (fun c_8 => ?_) (fun c_8 => ?_)
  · have hT := hT_pos c_8 hT
    refine lv_aload_n hx hb dX12_setsActs_25 rfl (lv_at hl 0 rfl) ?_
    refine m_get (σ := σ) (v := .int ((σ 26 0))) C0 hK hC.1 26 (by decide) rfl w_993 dX12_setsActs_26 ?_
    refine lv_iconst (v := (5 : Int32)) hx hb dX12_setsActs_29 (by decide) ?_
    refine lv_icmp_ne (tgt := 50) hx hb dX12_setsActs_30 (by decide) (fun c_30 => ?_) (fun c_30 => ?_)
    · have hT := hT_neg c_30 hT
      refine lv_aload_n hx hb dX12_setsActs_50 rfl (lv_at hl 0 rfl) ?_
      refine lv_iload_n hx hb dX12_setsActs_51 rfl (lv_at hl 1 rfl) ?_
      have q52_hrn : 0 ≤ (σ 25 0).toInt ∧ (σ 25 0).toInt ≤ 90 := ⟨hrn.1, by omega⟩
      refine m_mi (rest := []) (As := [.int (a1)]) (σ := σ) C0 hK hC SV.tt (fun _ _ _ => trivial) cf_X12_plainSets w_1315 rfl (k_X12_plainSets l g σ a1 q52_hrn) ⟨by decide, by decide⟩ hl.1 rfl rfl (Nat.le_of_ble_eq_true rfl) dX12_setsActs_52 ⟨Nat.zero_le _, Nat.zero_le _⟩ (fun r52 u52 H locs e52 hC => ?_)
      have hT := bd_e e52 hT
      exact ret_MI C0 hC hT dX12_setsActs_55
    · have hT := hT_pos c_30 hT
      refine lv_aload_n hx hb dX12_setsActs_33 rfl (lv_at hl 0 rfl) ?_
      refine lv_bipush (v := (51 : Int32)) hx hb dX12_setsActs_34 (by decide) ?_
      have q36_hrn : 0 ≤ (σ 25 0).toInt ∧ (σ 25 0).toInt ≤ 100 := ⟨hrn.1, by omega⟩
      refine m_mv (rest := []) (As := [.int ((51 : Int32))]) (σ := σ) C0 hK hC SV.tt (fun _ _ _ => trivial) cf_X12_ranBody w_1311 rfl (k_X12_ranBody l g σ (51 : Int32) q36_hrn) ⟨by decide, by decide⟩ hl.1 rfl rfl (Nat.le_of_ble_eq_true rfl) dX12_setsActs_36 ⟨Nat.zero_le _, Nat.zero_le _⟩ (fun u36 H locs e36 hC => ?_)
      have hT := bd1_e e36 hT
      refine lv_aload_n hx hb dX12_setsActs_39 rfl (lv_at hl 0 rfl) ?_
      refine lv_iload_n hx hb dX12_setsActs_40 rfl (lv_at hl 1 rfl) ?_
      have q41_hrn : 0 ≤ (u36 25 0).toInt ∧ (u36 25 0).toInt ≤ 90 := (by rw [e36]; exact ra_up (ra_ranBody (n := 80) (by omega) hrn) (by omega))
      refine m_mi (rest := []) (As := [.int (a1)]) (σ := u36) C0 hK hC SV.tt (fun _ _ _ => trivial) cf_X12_plainSets w_1315 rfl (k_X12_plainSets l g u36 a1 q41_hrn) ⟨by decide, by decide⟩ hl.1 rfl rfl (Nat.le_of_ble_eq_true rfl) dX12_setsActs_41 ⟨Nat.zero_le _, Nat.zero_le _⟩ (fun r41 u41 H locs e41 hC => ?_)
      have hT := bd_e e41 hT
      refine lv_aload_n hx hb dX12_setsActs_44 rfl (lv_at hl 0 rfl) ?_
      refine m_get (σ := u41) (v := .int ((u41 27 0))) C0 hK hC.1 27 (by decide) rfl w_994 dX12_setsActs_45 ?_
      refine lv_ixor hx hb dX12_setsActs_48 ?_
      exact ret_MI C0 hC hT dX12_setsActs_49
  · have hT := hT_neg c_8 hT
    refine lv_aload_n hx hb dX12_setsActs_11 rfl (lv_at hl 0 rfl) ?_
    refine lv_bipush (v := (11 : Int32)) hx hb dX12_setsActs_12 (by decide) ?_
    have q14_hrn : 0 ≤ (σ 25 0).toInt ∧ (σ 25 0).toInt ≤ 100 := ⟨hrn.1, by omega⟩
    refine m_mv (rest := []) (As := [.int ((11 : Int32))]) (σ := σ) C0 hK hC SV.tt (fun _ _ _ => trivial) cf_X12_ranBody w_1311 rfl (k_X12_ranBody l g σ (11 : Int32) q14_hrn) ⟨by decide, by decide⟩ hl.1 rfl rfl (Nat.le_of_ble_eq_true rfl) dX12_setsActs_14 ⟨Nat.zero_le _, Nat.zero_le _⟩ (fun u14 H locs e14 hC => ?_)
    have hT := bd1_e e14 hT
    refine lv_aload_n hx hb dX12_setsActs_17 rfl (lv_at hl 0 rfl) ?_
    refine lv_iload_n hx hb dX12_setsActs_18 rfl (lv_at hl 1 rfl) ?_
    refine lv_iconst (v := (3 : Int32)) hx hb dX12_setsActs_19 (by decide) ?_
    refine lv_imul hx hb dX12_setsActs_20 ?_
    have q21_hrn : 0 ≤ (u14 25 0).toInt ∧ (u14 25 0).toInt ≤ 90 := (by rw [e14]; exact ra_up (ra_ranBody (n := 80) (by omega) hrn) (by omega))
    refine m_mi (rest := []) (As := [.int ((a1 * (3 : Int32)))]) (σ := u14) C0 hK hC SV.tt (fun _ _ _ => trivial) cf_X12_plainSets w_1315 rfl (k_X12_plainSets l g u14 (a1 * (3 : Int32)) q21_hrn) ⟨by decide, by decide⟩ hl.1 rfl rfl (Nat.le_of_ble_eq_true rfl) dX12_setsActs_21 ⟨Nat.zero_le _, Nat.zero_le _⟩ (fun r21 u21 H locs e21 hC => ?_)
    have hT := bd_e e21 hT
    exact ret_MI C0 hC hT dX12_setsActs_24
theorem ra_setsActs {σ : St} {x : Int32} {n : Int} (hn : n ≤ 1800) (h : 0 ≤ (σ 25 0).toInt ∧ (σ 25 0).toInt ≤ n) : 0 ≤ ((f_X12_setsActs σ x).2 25 0).toInt ∧ ((f_X12_setsActs σ x).2 25 0).toInt ≤ n + 2 := by
  unfold f_X12_setsActs
  simp only [bd, bd1]
  have hA := ra_plainSets (x := x) (by omega) h
  have hB := ra_plainSets (x := x) (n := n + 1) (by omega) (ra_ranBody (x := 51) (by omega) h)
  have hC := ra_plainSets (x := x * 3) (n := n + 1) (by omega) (ra_ranBody (x := 11) (by omega) h)
  split
  · split
    · exact ra_up hB (by omega)
    · exact ra_up hA (by omega)
  · exact ra_up hC (by omega)
set_option maxRecDepth 20000 in
theorem w_1304 : (Cond.methodLink RX12 236 yX12_setsActs) ∈ TB := inTB (List.mem_of_getElem? (i := 1304) (by decide +kernel)) (by decide +kernel)
set_option maxRecDepth 20000 in
theorem w_1307 : (Cond.code yX12_setsActs cX12_setsActs 2 (some .int)) ∈ TB := inTB (List.mem_of_getElem? (i := 1307) (by decide +kernel)) (by decide +kernel)
set_option maxRecDepth 20000 in
theorem w_1306 : (Cond.instanceMethod yX12_setsActs) ∈ TB := inTB (List.mem_of_getElem? (i := 1306) (by decide +kernel)) (by decide +kernel)
set_option maxRecDepth 20000 in
theorem w_63 : (Cond.selects RX12 yX12_setsActs yX12_setsActs) ∈ TB := inTB (List.mem_of_getElem? (i := 63) (by decide +kernel)) (by decide +kernel)
theorem cf_X12_setsActs : CF yX12_setsActs cX12_setsActs 2 (some .int) 1 := ⟨w_1306, w_63, w_75, w_1307, by decide +kernel, by decide +kernel, by decide +kernel⟩
set_option maxRecDepth 20000 in
theorem w_995 : (Cond.fieldLink RX12 239 RX12 "tellsV" "I") ∈ TB := inTB (List.mem_of_getElem? (i := 995) (by decide +kernel)) (by decide +kernel)
/-! ThreeMeasuresModel.plainReads -/
theorem dX12_plainReads_0 : decode cX12_plainReads 0 = .ok (.aload_n 0, 1) := by decide +kernel
theorem dX12_plainReads_1 : decode cX12_plainReads 1 = .ok (.iconst 2, 1) := by decide +kernel
theorem dX12_plainReads_2 : decode cX12_plainReads 2 = .ok (.invokevirtual 220, 3) := by decide +kernel
theorem dX12_plainReads_5 : decode cX12_plainReads 5 = .ok (.aload_n 0, 1) := by decide +kernel
theorem dX12_plainReads_6 : decode cX12_plainReads 6 = .ok (.iload_n 1, 1) := by decide +kernel
theorem dX12_plainReads_7 : decode cX12_plainReads 7 = .ok (.invokevirtual 236, 3) := by decide +kernel
theorem dX12_plainReads_10 : decode cX12_plainReads 10 = .ok (.aload_n 0, 1) := by decide +kernel
theorem dX12_plainReads_11 : decode cX12_plainReads 11 = .ok (.getfield 239, 3) := by decide +kernel
theorem dX12_plainReads_14 : decode cX12_plainReads 14 = .ok (.isub, 1) := by decide +kernel
theorem dX12_plainReads_15 : decode cX12_plainReads 15 = .ok (.ireturn, 1) := by decide +kernel
def f_X12_plainReads (σ : St) (a1 : Int32) : Int32 × St := (bd1 (f_X12_ranBody σ (2 : Int32)) (fun u2 => (bd (f_X12_setsActs u2 a1) (fun r7 u7 => ((r7 - (u7 28 0)), u7)))))
set_option maxHeartbeats 600000 in
set_option maxRecDepth 100000 in
theorem k_X12_plainReads (l : Launch) (g : GG) (σ : St) (a1 : Int32) (hrn : 0 ≤ (σ 25 0).toInt ∧ (σ 25 0).toInt ≤ 70) : MI l yX12_plainReads (wsF yX12_plainReads cX12_plainReads 2 (some .int)) { frames := 3, cells := 0, slots := 0, locals := 63 } [.ref (g.2.2 100), .int (a1)] g (mW g) (fun _ => True) σ (f_X12_plainReads σ a1) := by
  refine start_MI (by decide) (Nat.le_of_ble_eq_true rfl) ?_
  intro p e s m args below meth c C0 hK hBg hC ls hl
  generalize hAe : aA ((mW g) σ) = A at hC ⊢
  obtain ⟨hx, hb, hr, hml, hown, hts, hlocks⟩ := id C0
  have hl : lv_has ls 2 [(0, .ref (g.2.2 100)), (1, .int (a1))] := hl
  generalize hT : (f_X12_plainReads σ a1) = tgt
  suffices key : ∀ (H : Heap) (locs : List Loc), WC g (mW g) A s.heap σ H locs → W p l e { frames := 3, cells := 0, slots := 0, locals := 63 } s m args below meth c H locs 0 0 (QMI below args s g (mW g) A tgt) (F0 m 0 ls []) from key _ _ hC
  intro H locs hC
  unfold f_X12_plainReads at hT
  refine lv_aload_n hx hb dX12_plainReads_0 rfl (lv_at hl 0 rfl) ?_
  refine lv_iconst (v := (2 : Int32)) hx hb dX12_plainReads_1 (by decide) ?_
  have q2_hrn : 0 ≤ (σ 25 0).toInt ∧ (σ 25 0).toInt ≤ 100 := ⟨hrn.1, by omega⟩
  refine m_mv (rest := []) (As := [.int ((2 : Int32))]) (σ := σ) C0 hK hC SV.tt (fun _ _ _ => trivial) cf_X12_ranBody w_1311 rfl (k_X12_ranBody l g σ (2 : Int32) q2_hrn) ⟨by decide, by decide⟩ hl.1 rfl rfl (Nat.le_of_ble_eq_true rfl) dX12_plainReads_2 ⟨Nat.zero_le _, Nat.zero_le _⟩ (fun u2 H locs e2 hC => ?_)
  have hT := bd1_e e2 hT
  refine lv_aload_n hx hb dX12_plainReads_5 rfl (lv_at hl 0 rfl) ?_
  refine lv_iload_n hx hb dX12_plainReads_6 rfl (lv_at hl 1 rfl) ?_
  have q7_hrn : 0 ≤ (u2 25 0).toInt ∧ (u2 25 0).toInt ≤ 80 := (by rw [e2]; exact ra_up (ra_ranBody (n := 70) (by omega) hrn) (by omega))
  refine m_mi (rest := []) (As := [.int (a1)]) (σ := u2) C0 hK hC SV.tt (fun _ _ _ => trivial) cf_X12_setsActs w_1304 rfl (k_X12_setsActs l g u2 a1 q7_hrn) ⟨by decide, by decide⟩ hl.1 rfl rfl (Nat.le_of_ble_eq_true rfl) dX12_plainReads_7 ⟨Nat.zero_le _, Nat.zero_le _⟩ (fun r7 u7 H locs e7 hC => ?_)
  have hT := bd_e e7 hT
  refine lv_aload_n hx hb dX12_plainReads_10 rfl (lv_at hl 0 rfl) ?_
  refine m_get (σ := u7) (v := .int ((u7 28 0))) C0 hK hC.1 28 (by decide) rfl w_995 dX12_plainReads_11 ?_
  refine lv_isub hx hb dX12_plainReads_14 ?_
  exact ret_MI C0 hC hT dX12_plainReads_15
theorem ra_plainReads {σ : St} {x : Int32} {n : Int} (hn : n ≤ 1700) (h : 0 ≤ (σ 25 0).toInt ∧ (σ 25 0).toInt ≤ n) : 0 ≤ ((f_X12_plainReads σ x).2 25 0).toInt ∧ ((f_X12_plainReads σ x).2 25 0).toInt ≤ n + 3 := by
  have q := ra_ranBody (x := 2) (by omega) h
  have q2 := ra_setsActs (x := x) (n := n + 1) (by omega) q
  unfold f_X12_plainReads
  simp only [bd, bd1]
  exact ra_up q2 (by omega)
set_option maxRecDepth 20000 in
theorem w_1323 : (Cond.methodLink RX12 242 yX12_plainReads) ∈ TB := inTB (List.mem_of_getElem? (i := 1323) (by decide +kernel)) (by decide +kernel)
set_option maxRecDepth 20000 in
theorem w_1326 : (Cond.code yX12_plainReads cX12_plainReads 2 (some .int)) ∈ TB := inTB (List.mem_of_getElem? (i := 1326) (by decide +kernel)) (by decide +kernel)
set_option maxRecDepth 20000 in
theorem w_1325 : (Cond.instanceMethod yX12_plainReads) ∈ TB := inTB (List.mem_of_getElem? (i := 1325) (by decide +kernel)) (by decide +kernel)
set_option maxRecDepth 20000 in
theorem w_67 : (Cond.selects RX12 yX12_plainReads yX12_plainReads) ∈ TB := inTB (List.mem_of_getElem? (i := 67) (by decide +kernel)) (by decide +kernel)
theorem cf_X12_plainReads : CF yX12_plainReads cX12_plainReads 2 (some .int) 1 := ⟨w_1325, w_67, w_75, w_1326, by decide +kernel, by decide +kernel, by decide +kernel⟩
/-! ThreeMeasuresModel.readsActs -/
theorem dX12_readsActs_0 : decode cX12_readsActs 0 = .ok (.aload_n 0, 1) := by decide +kernel
theorem dX12_readsActs_1 : decode cX12_readsActs 1 = .ok (.getfield 226, 3) := by decide +kernel
theorem dX12_readsActs_4 : decode cX12_readsActs 4 = .ok (.iconst 2, 1) := by decide +kernel
theorem dX12_readsActs_5 : decode cX12_readsActs 5 = .ok (.invokestatic 229, 3) := by decide +kernel
theorem dX12_readsActs_8 : decode cX12_readsActs 8 = .ok (.ifCond .eq 16, 3) := by decide +kernel
theorem dX12_readsActs_11 : decode cX12_readsActs 11 = .ok (.aload_n 0, 1) := by decide +kernel
theorem dX12_readsActs_12 : decode cX12_readsActs 12 = .ok (.bipush 21, 2) := by decide +kernel
theorem dX12_readsActs_14 : decode cX12_readsActs 14 = .ok (.invokevirtual 220, 3) := by decide +kernel
theorem dX12_readsActs_17 : decode cX12_readsActs 17 = .ok (.aload_n 0, 1) := by decide +kernel
theorem dX12_readsActs_18 : decode cX12_readsActs 18 = .ok (.iload_n 1, 1) := by decide +kernel
theorem dX12_readsActs_19 : decode cX12_readsActs 19 = .ok (.invokevirtual 242, 3) := by decide +kernel
theorem dX12_readsActs_22 : decode cX12_readsActs 22 = .ok (.ineg, 1) := by decide +kernel
theorem dX12_readsActs_23 : decode cX12_readsActs 23 = .ok (.ireturn, 1) := by decide +kernel
theorem dX12_readsActs_24 : decode cX12_readsActs 24 = .ok (.aload_n 0, 1) := by decide +kernel
theorem dX12_readsActs_25 : decode cX12_readsActs 25 = .ok (.getfield 226, 3) := by decide +kernel
theorem dX12_readsActs_28 : decode cX12_readsActs 28 = .ok (.bipush 6, 2) := by decide +kernel
theorem dX12_readsActs_30 : decode cX12_readsActs 30 = .ok (.if_icmp .ne 20, 3) := by decide +kernel
theorem dX12_readsActs_33 : decode cX12_readsActs 33 = .ok (.aload_n 0, 1) := by decide +kernel
theorem dX12_readsActs_34 : decode cX12_readsActs 34 = .ok (.bipush 61, 2) := by decide +kernel
theorem dX12_readsActs_36 : decode cX12_readsActs 36 = .ok (.invokevirtual 220, 3) := by decide +kernel
theorem dX12_readsActs_39 : decode cX12_readsActs 39 = .ok (.aload_n 0, 1) := by decide +kernel
theorem dX12_readsActs_40 : decode cX12_readsActs 40 = .ok (.iload_n 1, 1) := by decide +kernel
theorem dX12_readsActs_41 : decode cX12_readsActs 41 = .ok (.invokevirtual 242, 3) := by decide +kernel
theorem dX12_readsActs_44 : decode cX12_readsActs 44 = .ok (.aload_n 0, 1) := by decide +kernel
theorem dX12_readsActs_45 : decode cX12_readsActs 45 = .ok (.getfield 239, 3) := by decide +kernel
theorem dX12_readsActs_48 : decode cX12_readsActs 48 = .ok (.iadd, 1) := by decide +kernel
theorem dX12_readsActs_49 : decode cX12_readsActs 49 = .ok (.ireturn, 1) := by decide +kernel
theorem dX12_readsActs_50 : decode cX12_readsActs 50 = .ok (.aload_n 0, 1) := by decide +kernel
theorem dX12_readsActs_51 : decode cX12_readsActs 51 = .ok (.iload_n 1, 1) := by decide +kernel
theorem dX12_readsActs_52 : decode cX12_readsActs 52 = .ok (.invokevirtual 242, 3) := by decide +kernel
theorem dX12_readsActs_55 : decode cX12_readsActs 55 = .ok (.ireturn, 1) := by decide +kernel
def f_X12_readsActs (σ : St) (a1 : Int32) : Int32 × St := (if (f_X12_isUnder (σ 26 0) (2 : Int32)) = 0 then (if (σ 26 0) = (6 : Int32) then (bd1 (f_X12_ranBody σ (61 : Int32)) (fun u36 => (bd (f_X12_plainReads u36 a1) (fun r41 u41 => ((r41 + (u41 28 0)), u41))))) else (bd (f_X12_plainReads σ a1) (fun r52 u52 => (r52, u52)))) else (bd1 (f_X12_ranBody σ (21 : Int32)) (fun u14 => (bd (f_X12_plainReads u14 a1) (fun r19 u19 => ((-r19), u19))))))
set_option maxHeartbeats 600000 in
set_option maxRecDepth 100000 in
theorem k_X12_readsActs (l : Launch) (g : GG) (σ : St) (a1 : Int32) (hrn : 0 ≤ (σ 25 0).toInt ∧ (σ 25 0).toInt ≤ 60) : MI l yX12_readsActs (wsF yX12_readsActs cX12_readsActs 2 (some .int)) { frames := 4, cells := 0, slots := 0, locals := 84 } [.ref (g.2.2 100), .int (a1)] g (mW g) (fun _ => True) σ (f_X12_readsActs σ a1) := by
  refine start_MI (by decide) (Nat.le_of_ble_eq_true rfl) ?_
  intro p e s m args below meth c C0 hK hBg hC ls hl
  generalize hAe : aA ((mW g) σ) = A at hC ⊢
  obtain ⟨hx, hb, hr, hml, hown, hts, hlocks⟩ := id C0
  have hl : lv_has ls 2 [(0, .ref (g.2.2 100)), (1, .int (a1))] := hl
  generalize hT : (f_X12_readsActs σ a1) = tgt
  suffices key : ∀ (H : Heap) (locs : List Loc), WC g (mW g) A s.heap σ H locs → W p l e { frames := 4, cells := 0, slots := 0, locals := 84 } s m args below meth c H locs 0 0 (QMI below args s g (mW g) A tgt) (F0 m 0 ls []) from key _ _ hC
  intro H locs hC
  unfold f_X12_readsActs at hT
  refine lv_aload_n hx hb dX12_readsActs_0 rfl (lv_at hl 0 rfl) ?_
  refine m_get (σ := σ) (v := .int ((σ 26 0))) C0 hK hC.1 26 (by decide) rfl w_993 dX12_readsActs_1 ?_
  refine lv_iconst (v := (2 : Int32)) hx hb dX12_readsActs_4 (by decide) ?_
  refine s_ci (rest := []) (As := [.int ((σ 26 0)), .int ((2 : Int32))]) C0 cf_X12_isUnder w_1308 (k_X12_isUnder l (σ 26 0) (2 : Int32) ) ⟨by decide, by decide⟩ hl.1 rfl rfl (Nat.le_of_ble_eq_true rfl) dX12_readsActs_5 ⟨Nat.zero_le _, Nat.zero_le _⟩ ?_
  refine lv_if_eq (tgt := 24) hx hb dX12_readsActs_8 (by decide) (fun c_8 => ?_) (fun c_8 => ?_)
  · have hT := hT_pos c_8 hT
    refine lv_aload_n hx hb dX12_readsActs_24 rfl (lv_at hl 0 rfl) ?_
    refine m_get (σ := σ) (v := .int ((σ 26 0))) C0 hK hC.1 26 (by decide) rfl w_993 dX12_readsActs_25 ?_
    refine lv_bipush (v := (6 : Int32)) hx hb dX12_readsActs_28 (by decide) ?_
    refine lv_icmp_ne (tgt := 50) hx hb dX12_readsActs_30 (by decide) (fun c_30 => ?_) (fun c_30 => ?_)
    · have hT := hT_neg c_30 hT
      refine lv_aload_n hx hb dX12_readsActs_50 rfl (lv_at hl 0 rfl) ?_
      refine lv_iload_n hx hb dX12_readsActs_51 rfl (lv_at hl 1 rfl) ?_
      have q52_hrn : 0 ≤ (σ 25 0).toInt ∧ (σ 25 0).toInt ≤ 70 := ⟨hrn.1, by omega⟩
      refine m_mi (rest := []) (As := [.int (a1)]) (σ := σ) C0 hK hC SV.tt (fun _ _ _ => trivial) cf_X12_plainReads w_1323 rfl (k_X12_plainReads l g σ a1 q52_hrn) ⟨by decide, by decide⟩ hl.1 rfl rfl (Nat.le_of_ble_eq_true rfl) dX12_readsActs_52 ⟨Nat.zero_le _, Nat.zero_le _⟩ (fun r52 u52 H locs e52 hC => ?_)
      have hT := bd_e e52 hT
      exact ret_MI C0 hC hT dX12_readsActs_55
    · have hT := hT_pos c_30 hT
      refine lv_aload_n hx hb dX12_readsActs_33 rfl (lv_at hl 0 rfl) ?_
      refine lv_bipush (v := (61 : Int32)) hx hb dX12_readsActs_34 (by decide) ?_
      have q36_hrn : 0 ≤ (σ 25 0).toInt ∧ (σ 25 0).toInt ≤ 100 := ⟨hrn.1, by omega⟩
      refine m_mv (rest := []) (As := [.int ((61 : Int32))]) (σ := σ) C0 hK hC SV.tt (fun _ _ _ => trivial) cf_X12_ranBody w_1311 rfl (k_X12_ranBody l g σ (61 : Int32) q36_hrn) ⟨by decide, by decide⟩ hl.1 rfl rfl (Nat.le_of_ble_eq_true rfl) dX12_readsActs_36 ⟨Nat.zero_le _, Nat.zero_le _⟩ (fun u36 H locs e36 hC => ?_)
      have hT := bd1_e e36 hT
      refine lv_aload_n hx hb dX12_readsActs_39 rfl (lv_at hl 0 rfl) ?_
      refine lv_iload_n hx hb dX12_readsActs_40 rfl (lv_at hl 1 rfl) ?_
      have q41_hrn : 0 ≤ (u36 25 0).toInt ∧ (u36 25 0).toInt ≤ 70 := (by rw [e36]; exact ra_up (ra_ranBody (n := 60) (by omega) hrn) (by omega))
      refine m_mi (rest := []) (As := [.int (a1)]) (σ := u36) C0 hK hC SV.tt (fun _ _ _ => trivial) cf_X12_plainReads w_1323 rfl (k_X12_plainReads l g u36 a1 q41_hrn) ⟨by decide, by decide⟩ hl.1 rfl rfl (Nat.le_of_ble_eq_true rfl) dX12_readsActs_41 ⟨Nat.zero_le _, Nat.zero_le _⟩ (fun r41 u41 H locs e41 hC => ?_)
      have hT := bd_e e41 hT
      refine lv_aload_n hx hb dX12_readsActs_44 rfl (lv_at hl 0 rfl) ?_
      refine m_get (σ := u41) (v := .int ((u41 28 0))) C0 hK hC.1 28 (by decide) rfl w_995 dX12_readsActs_45 ?_
      refine lv_iadd hx hb dX12_readsActs_48 ?_
      exact ret_MI C0 hC hT dX12_readsActs_49
  · have hT := hT_neg c_8 hT
    refine lv_aload_n hx hb dX12_readsActs_11 rfl (lv_at hl 0 rfl) ?_
    refine lv_bipush (v := (21 : Int32)) hx hb dX12_readsActs_12 (by decide) ?_
    have q14_hrn : 0 ≤ (σ 25 0).toInt ∧ (σ 25 0).toInt ≤ 100 := ⟨hrn.1, by omega⟩
    refine m_mv (rest := []) (As := [.int ((21 : Int32))]) (σ := σ) C0 hK hC SV.tt (fun _ _ _ => trivial) cf_X12_ranBody w_1311 rfl (k_X12_ranBody l g σ (21 : Int32) q14_hrn) ⟨by decide, by decide⟩ hl.1 rfl rfl (Nat.le_of_ble_eq_true rfl) dX12_readsActs_14 ⟨Nat.zero_le _, Nat.zero_le _⟩ (fun u14 H locs e14 hC => ?_)
    have hT := bd1_e e14 hT
    refine lv_aload_n hx hb dX12_readsActs_17 rfl (lv_at hl 0 rfl) ?_
    refine lv_iload_n hx hb dX12_readsActs_18 rfl (lv_at hl 1 rfl) ?_
    have q19_hrn : 0 ≤ (u14 25 0).toInt ∧ (u14 25 0).toInt ≤ 70 := (by rw [e14]; exact ra_up (ra_ranBody (n := 60) (by omega) hrn) (by omega))
    refine m_mi (rest := []) (As := [.int (a1)]) (σ := u14) C0 hK hC SV.tt (fun _ _ _ => trivial) cf_X12_plainReads w_1323 rfl (k_X12_plainReads l g u14 a1 q19_hrn) ⟨by decide, by decide⟩ hl.1 rfl rfl (Nat.le_of_ble_eq_true rfl) dX12_readsActs_19 ⟨Nat.zero_le _, Nat.zero_le _⟩ (fun r19 u19 H locs e19 hC => ?_)
    have hT := bd_e e19 hT
    refine lv_ineg hx hb dX12_readsActs_22 ?_
    exact ret_MI C0 hC hT dX12_readsActs_23
theorem ra_readsActs {σ : St} {x : Int32} {n : Int} (hn : n ≤ 1600) (h : 0 ≤ (σ 25 0).toInt ∧ (σ 25 0).toInt ≤ n) : 0 ≤ ((f_X12_readsActs σ x).2 25 0).toInt ∧ ((f_X12_readsActs σ x).2 25 0).toInt ≤ n + 4 := by
  unfold f_X12_readsActs
  simp only [bd, bd1]
  have hp := ra_plainReads (x := x) (by omega) h
  have h21 := ra_plainReads (x := x) (n := n + 1) (by omega) (ra_ranBody (x := 21) (by omega) h)
  have h61 := ra_plainReads (x := x) (n := n + 1) (by omega) (ra_ranBody (x := 61) (by omega) h)
  split
  · split
    · exact ra_up h61 (by omega)
    · exact ra_up hp (by omega)
  · exact ra_up h21 (by omega)
set_option maxRecDepth 20000 in
theorem w_1319 : (Cond.methodLink RX12 245 yX12_readsActs) ∈ TB := inTB (List.mem_of_getElem? (i := 1319) (by decide +kernel)) (by decide +kernel)
set_option maxRecDepth 20000 in
theorem w_1322 : (Cond.code yX12_readsActs cX12_readsActs 2 (some .int)) ∈ TB := inTB (List.mem_of_getElem? (i := 1322) (by decide +kernel)) (by decide +kernel)
set_option maxRecDepth 20000 in
theorem w_1321 : (Cond.instanceMethod yX12_readsActs) ∈ TB := inTB (List.mem_of_getElem? (i := 1321) (by decide +kernel)) (by decide +kernel)
set_option maxRecDepth 20000 in
theorem w_66 : (Cond.selects RX12 yX12_readsActs yX12_readsActs) ∈ TB := inTB (List.mem_of_getElem? (i := 66) (by decide +kernel)) (by decide +kernel)
theorem cf_X12_readsActs : CF yX12_readsActs cX12_readsActs 2 (some .int) 1 := ⟨w_1321, w_66, w_75, w_1322, by decide +kernel, by decide +kernel, by decide +kernel⟩
/-! ThreeMeasuresModel.plainTells -/
theorem dX12_plainTells_0 : decode cX12_plainTells 0 = .ok (.aload_n 0, 1) := by decide +kernel
theorem dX12_plainTells_1 : decode cX12_plainTells 1 = .ok (.iconst 3, 1) := by decide +kernel
theorem dX12_plainTells_2 : decode cX12_plainTells 2 = .ok (.invokevirtual 220, 3) := by decide +kernel
theorem dX12_plainTells_5 : decode cX12_plainTells 5 = .ok (.aload_n 0, 1) := by decide +kernel
theorem dX12_plainTells_6 : decode cX12_plainTells 6 = .ok (.iload_n 1, 1) := by decide +kernel
theorem dX12_plainTells_7 : decode cX12_plainTells 7 = .ok (.invokevirtual 245, 3) := by decide +kernel
theorem dX12_plainTells_10 : decode cX12_plainTells 10 = .ok (.iconst 2, 1) := by decide +kernel
theorem dX12_plainTells_11 : decode cX12_plainTells 11 = .ok (.imul, 1) := by decide +kernel
theorem dX12_plainTells_12 : decode cX12_plainTells 12 = .ok (.ireturn, 1) := by decide +kernel
def f_X12_plainTells (σ : St) (a1 : Int32) : Int32 × St := (bd1 (f_X12_ranBody σ (3 : Int32)) (fun u2 => (bd (f_X12_readsActs u2 a1) (fun r7 u7 => ((r7 * (2 : Int32)), u7)))))
set_option maxHeartbeats 600000 in
set_option maxRecDepth 100000 in
theorem k_X12_plainTells (l : Launch) (g : GG) (σ : St) (a1 : Int32) (hrn : 0 ≤ (σ 25 0).toInt ∧ (σ 25 0).toInt ≤ 50) : MI l yX12_plainTells (wsF yX12_plainTells cX12_plainTells 2 (some .int)) { frames := 5, cells := 0, slots := 0, locals := 105 } [.ref (g.2.2 100), .int (a1)] g (mW g) (fun _ => True) σ (f_X12_plainTells σ a1) := by
  refine start_MI (by decide) (Nat.le_of_ble_eq_true rfl) ?_
  intro p e s m args below meth c C0 hK hBg hC ls hl
  generalize hAe : aA ((mW g) σ) = A at hC ⊢
  obtain ⟨hx, hb, hr, hml, hown, hts, hlocks⟩ := id C0
  have hl : lv_has ls 2 [(0, .ref (g.2.2 100)), (1, .int (a1))] := hl
  generalize hT : (f_X12_plainTells σ a1) = tgt
  suffices key : ∀ (H : Heap) (locs : List Loc), WC g (mW g) A s.heap σ H locs → W p l e { frames := 5, cells := 0, slots := 0, locals := 105 } s m args below meth c H locs 0 0 (QMI below args s g (mW g) A tgt) (F0 m 0 ls []) from key _ _ hC
  intro H locs hC
  unfold f_X12_plainTells at hT
  refine lv_aload_n hx hb dX12_plainTells_0 rfl (lv_at hl 0 rfl) ?_
  refine lv_iconst (v := (3 : Int32)) hx hb dX12_plainTells_1 (by decide) ?_
  have q2_hrn : 0 ≤ (σ 25 0).toInt ∧ (σ 25 0).toInt ≤ 100 := ⟨hrn.1, by omega⟩
  refine m_mv (rest := []) (As := [.int ((3 : Int32))]) (σ := σ) C0 hK hC SV.tt (fun _ _ _ => trivial) cf_X12_ranBody w_1311 rfl (k_X12_ranBody l g σ (3 : Int32) q2_hrn) ⟨by decide, by decide⟩ hl.1 rfl rfl (Nat.le_of_ble_eq_true rfl) dX12_plainTells_2 ⟨Nat.zero_le _, Nat.zero_le _⟩ (fun u2 H locs e2 hC => ?_)
  have hT := bd1_e e2 hT
  refine lv_aload_n hx hb dX12_plainTells_5 rfl (lv_at hl 0 rfl) ?_
  refine lv_iload_n hx hb dX12_plainTells_6 rfl (lv_at hl 1 rfl) ?_
  have q7_hrn : 0 ≤ (u2 25 0).toInt ∧ (u2 25 0).toInt ≤ 60 := (by rw [e2]; exact ra_up (ra_ranBody (n := 50) (by omega) hrn) (by omega))
  refine m_mi (rest := []) (As := [.int (a1)]) (σ := u2) C0 hK hC SV.tt (fun _ _ _ => trivial) cf_X12_readsActs w_1319 rfl (k_X12_readsActs l g u2 a1 q7_hrn) ⟨by decide, by decide⟩ hl.1 rfl rfl (Nat.le_of_ble_eq_true rfl) dX12_plainTells_7 ⟨Nat.zero_le _, Nat.zero_le _⟩ (fun r7 u7 H locs e7 hC => ?_)
  have hT := bd_e e7 hT
  refine lv_iconst (v := (2 : Int32)) hx hb dX12_plainTells_10 (by decide) ?_
  refine lv_imul hx hb dX12_plainTells_11 ?_
  exact ret_MI C0 hC hT dX12_plainTells_12
theorem ra_plainTells {σ : St} {x : Int32} {n : Int} (hn : n ≤ 1500) (h : 0 ≤ (σ 25 0).toInt ∧ (σ 25 0).toInt ≤ n) : 0 ≤ ((f_X12_plainTells σ x).2 25 0).toInt ∧ ((f_X12_plainTells σ x).2 25 0).toInt ≤ n + 5 := by
  have q := ra_ranBody (x := 3) (by omega) h
  have q2 := ra_readsActs (x := x) (n := n + 1) (by omega) q
  unfold f_X12_plainTells
  simp only [bd, bd1]
  exact ra_up q2 (by omega)
set_option maxRecDepth 20000 in
theorem w_1331 : (Cond.methodLink RX12 248 yX12_plainTells) ∈ TB := inTB (List.mem_of_getElem? (i := 1331) (by decide +kernel)) (by decide +kernel)
set_option maxRecDepth 20000 in
theorem w_1334 : (Cond.code yX12_plainTells cX12_plainTells 2 (some .int)) ∈ TB := inTB (List.mem_of_getElem? (i := 1334) (by decide +kernel)) (by decide +kernel)
set_option maxRecDepth 20000 in
theorem w_1333 : (Cond.instanceMethod yX12_plainTells) ∈ TB := inTB (List.mem_of_getElem? (i := 1333) (by decide +kernel)) (by decide +kernel)
set_option maxRecDepth 20000 in
theorem w_69 : (Cond.selects RX12 yX12_plainTells yX12_plainTells) ∈ TB := inTB (List.mem_of_getElem? (i := 69) (by decide +kernel)) (by decide +kernel)
theorem cf_X12_plainTells : CF yX12_plainTells cX12_plainTells 2 (some .int) 1 := ⟨w_1333, w_69, w_75, w_1334, by decide +kernel, by decide +kernel, by decide +kernel⟩
/-! ThreeMeasuresModel.tellsActs -/
theorem dX12_tellsActs_0 : decode cX12_tellsActs 0 = .ok (.aload_n 0, 1) := by decide +kernel
theorem dX12_tellsActs_1 : decode cX12_tellsActs 1 = .ok (.getfield 226, 3) := by decide +kernel
theorem dX12_tellsActs_4 : decode cX12_tellsActs 4 = .ok (.iconst 3, 1) := by decide +kernel
theorem dX12_tellsActs_5 : decode cX12_tellsActs 5 = .ok (.invokestatic 229, 3) := by decide +kernel
theorem dX12_tellsActs_8 : decode cX12_tellsActs 8 = .ok (.ifCond .eq 18, 3) := by decide +kernel
theorem dX12_tellsActs_11 : decode cX12_tellsActs 11 = .ok (.aload_n 0, 1) := by decide +kernel
theorem dX12_tellsActs_12 : decode cX12_tellsActs 12 = .ok (.bipush 31, 2) := by decide +kernel
theorem dX12_tellsActs_14 : decode cX12_tellsActs 14 = .ok (.invokevirtual 220, 3) := by decide +kernel
theorem dX12_tellsActs_17 : decode cX12_tellsActs 17 = .ok (.aload_n 0, 1) := by decide +kernel
theorem dX12_tellsActs_18 : decode cX12_tellsActs 18 = .ok (.iload_n 1, 1) := by decide +kernel
theorem dX12_tellsActs_19 : decode cX12_tellsActs 19 = .ok (.invokevirtual 248, 3) := by decide +kernel
theorem dX12_tellsActs_22 : decode cX12_tellsActs 22 = .ok (.bipush 7, 2) := by decide +kernel
theorem dX12_tellsActs_24 : decode cX12_tellsActs 24 = .ok (.ixor, 1) := by decide +kernel
theorem dX12_tellsActs_25 : decode cX12_tellsActs 25 = .ok (.ireturn, 1) := by decide +kernel
theorem dX12_tellsActs_26 : decode cX12_tellsActs 26 = .ok (.aload_n 0, 1) := by decide +kernel
theorem dX12_tellsActs_27 : decode cX12_tellsActs 27 = .ok (.getfield 226, 3) := by decide +kernel
theorem dX12_tellsActs_30 : decode cX12_tellsActs 30 = .ok (.iconst 4, 1) := by decide +kernel
theorem dX12_tellsActs_31 : decode cX12_tellsActs 31 = .ok (.if_icmp .ne 25, 3) := by decide +kernel
theorem dX12_tellsActs_34 : decode cX12_tellsActs 34 = .ok (.aload_n 0, 1) := by decide +kernel
theorem dX12_tellsActs_35 : decode cX12_tellsActs 35 = .ok (.bipush 41, 2) := by decide +kernel
theorem dX12_tellsActs_37 : decode cX12_tellsActs 37 = .ok (.invokevirtual 220, 3) := by decide +kernel
theorem dX12_tellsActs_40 : decode cX12_tellsActs 40 = .ok (.aload_n 0, 1) := by decide +kernel
theorem dX12_tellsActs_41 : decode cX12_tellsActs 41 = .ok (.iload_n 1, 1) := by decide +kernel
theorem dX12_tellsActs_42 : decode cX12_tellsActs 42 = .ok (.iconst 1, 1) := by decide +kernel
theorem dX12_tellsActs_43 : decode cX12_tellsActs 43 = .ok (.isub, 1) := by decide +kernel
theorem dX12_tellsActs_44 : decode cX12_tellsActs 44 = .ok (.invokevirtual 248, 3) := by decide +kernel
theorem dX12_tellsActs_47 : decode cX12_tellsActs 47 = .ok (.istore_n 2, 1) := by decide +kernel
theorem dX12_tellsActs_48 : decode cX12_tellsActs 48 = .ok (.iload_n 2, 1) := by decide +kernel
theorem dX12_tellsActs_49 : decode cX12_tellsActs 49 = .ok (.aload_n 0, 1) := by decide +kernel
theorem dX12_tellsActs_50 : decode cX12_tellsActs 50 = .ok (.iconst 2, 1) := by decide +kernel
theorem dX12_tellsActs_51 : decode cX12_tellsActs 51 = .ok (.invokevirtual 236, 3) := by decide +kernel
theorem dX12_tellsActs_54 : decode cX12_tellsActs 54 = .ok (.iadd, 1) := by decide +kernel
theorem dX12_tellsActs_55 : decode cX12_tellsActs 55 = .ok (.ireturn, 1) := by decide +kernel
theorem dX12_tellsActs_56 : decode cX12_tellsActs 56 = .ok (.aload_n 0, 1) := by decide +kernel
theorem dX12_tellsActs_57 : decode cX12_tellsActs 57 = .ok (.iload_n 1, 1) := by decide +kernel
theorem dX12_tellsActs_58 : decode cX12_tellsActs 58 = .ok (.invokevirtual 248, 3) := by decide +kernel
theorem dX12_tellsActs_61 : decode cX12_tellsActs 61 = .ok (.ireturn, 1) := by decide +kernel
def f_X12_tellsActs (σ : St) (a1 : Int32) : Int32 × St := (if (f_X12_isUnder (σ 26 0) (3 : Int32)) = 0 then (if (σ 26 0) = (4 : Int32) then (bd1 (f_X12_ranBody σ (41 : Int32)) (fun u37 => (bd (f_X12_plainTells u37 (a1 - (1 : Int32))) (fun r44 u44 => (bd (f_X12_setsActs u44 (2 : Int32)) (fun r51 u51 => ((r44 + r51), u51))))))) else (bd (f_X12_plainTells σ a1) (fun r58 u58 => (r58, u58)))) else (bd1 (f_X12_ranBody σ (31 : Int32)) (fun u14 => (bd (f_X12_plainTells u14 a1) (fun r19 u19 => ((r19 ^^^ (7 : Int32)), u19))))))
set_option maxHeartbeats 600000 in
set_option maxRecDepth 100000 in
theorem k_X12_tellsActs (l : Launch) (g : GG) (σ : St) (a1 : Int32) (hrn : 0 ≤ (σ 25 0).toInt ∧ (σ 25 0).toInt ≤ 40) : MI l yX12_tellsActs (wsF yX12_tellsActs cX12_tellsActs 3 (some .int)) { frames := 6, cells := 0, slots := 0, locals := 126 } [.ref (g.2.2 100), .int (a1)] g (mW g) (fun _ => True) σ (f_X12_tellsActs σ a1) := by
  refine start_MI (by decide) (Nat.le_of_ble_eq_true rfl) ?_
  intro p e s m args below meth c C0 hK hBg hC ls hl
  generalize hAe : aA ((mW g) σ) = A at hC ⊢
  obtain ⟨hx, hb, hr, hml, hown, hts, hlocks⟩ := id C0
  have hl : lv_has ls 3 [(0, .ref (g.2.2 100)), (1, .int (a1))] := hl
  generalize hT : (f_X12_tellsActs σ a1) = tgt
  suffices key : ∀ (H : Heap) (locs : List Loc), WC g (mW g) A s.heap σ H locs → W p l e { frames := 6, cells := 0, slots := 0, locals := 126 } s m args below meth c H locs 0 0 (QMI below args s g (mW g) A tgt) (F0 m 0 ls []) from key _ _ hC
  intro H locs hC
  unfold f_X12_tellsActs at hT
  refine lv_aload_n hx hb dX12_tellsActs_0 rfl (lv_at hl 0 rfl) ?_
  refine m_get (σ := σ) (v := .int ((σ 26 0))) C0 hK hC.1 26 (by decide) rfl w_993 dX12_tellsActs_1 ?_
  refine lv_iconst (v := (3 : Int32)) hx hb dX12_tellsActs_4 (by decide) ?_
  refine s_ci (rest := []) (As := [.int ((σ 26 0)), .int ((3 : Int32))]) C0 cf_X12_isUnder w_1308 (k_X12_isUnder l (σ 26 0) (3 : Int32) ) ⟨by decide, by decide⟩ hl.1 rfl rfl (Nat.le_of_ble_eq_true rfl) dX12_tellsActs_5 ⟨Nat.zero_le _, Nat.zero_le _⟩ ?_
  refine lv_if_eq (tgt := 26) hx hb dX12_tellsActs_8 (by decide) (fun c_8 => ?_) (fun c_8 => ?_)
  · have hT := hT_pos c_8 hT
    refine lv_aload_n hx hb dX12_tellsActs_26 rfl (lv_at hl 0 rfl) ?_
    refine m_get (σ := σ) (v := .int ((σ 26 0))) C0 hK hC.1 26 (by decide) rfl w_993 dX12_tellsActs_27 ?_
    refine lv_iconst (v := (4 : Int32)) hx hb dX12_tellsActs_30 (by decide) ?_
    refine lv_icmp_ne (tgt := 56) hx hb dX12_tellsActs_31 (by decide) (fun c_31 => ?_) (fun c_31 => ?_)
    · have hT := hT_neg c_31 hT
      refine lv_aload_n hx hb dX12_tellsActs_56 rfl (lv_at hl 0 rfl) ?_
      refine lv_iload_n hx hb dX12_tellsActs_57 rfl (lv_at hl 1 rfl) ?_
      have q58_hrn : 0 ≤ (σ 25 0).toInt ∧ (σ 25 0).toInt ≤ 50 := ⟨hrn.1, by omega⟩
      refine m_mi (rest := []) (As := [.int (a1)]) (σ := σ) C0 hK hC SV.tt (fun _ _ _ => trivial) cf_X12_plainTells w_1331 rfl (k_X12_plainTells l g σ a1 q58_hrn) ⟨by decide, by decide⟩ hl.1 rfl rfl (Nat.le_of_ble_eq_true rfl) dX12_tellsActs_58 ⟨Nat.zero_le _, Nat.zero_le _⟩ (fun r58 u58 H locs e58 hC => ?_)
      have hT := bd_e e58 hT
      exact ret_MI C0 hC hT dX12_tellsActs_61
    · have hT := hT_pos c_31 hT
      refine lv_aload_n hx hb dX12_tellsActs_34 rfl (lv_at hl 0 rfl) ?_
      refine lv_bipush (v := (41 : Int32)) hx hb dX12_tellsActs_35 (by decide) ?_
      have q37_hrn : 0 ≤ (σ 25 0).toInt ∧ (σ 25 0).toInt ≤ 100 := ⟨hrn.1, by omega⟩
      refine m_mv (rest := []) (As := [.int ((41 : Int32))]) (σ := σ) C0 hK hC SV.tt (fun _ _ _ => trivial) cf_X12_ranBody w_1311 rfl (k_X12_ranBody l g σ (41 : Int32) q37_hrn) ⟨by decide, by decide⟩ hl.1 rfl rfl (Nat.le_of_ble_eq_true rfl) dX12_tellsActs_37 ⟨Nat.zero_le _, Nat.zero_le _⟩ (fun u37 H locs e37 hC => ?_)
      have hT := bd1_e e37 hT
      refine lv_aload_n hx hb dX12_tellsActs_40 rfl (lv_at hl 0 rfl) ?_
      refine lv_iload_n hx hb dX12_tellsActs_41 rfl (lv_at hl 1 rfl) ?_
      refine lv_iconst (v := (1 : Int32)) hx hb dX12_tellsActs_42 (by decide) ?_
      refine lv_isub hx hb dX12_tellsActs_43 ?_
      have q44_hrn : 0 ≤ (u37 25 0).toInt ∧ (u37 25 0).toInt ≤ 50 := (by rw [e37]; exact ra_up (ra_ranBody (n := 40) (by omega) hrn) (by omega))
      refine m_mi (rest := []) (As := [.int ((a1 - (1 : Int32)))]) (σ := u37) C0 hK hC SV.tt (fun _ _ _ => trivial) cf_X12_plainTells w_1331 rfl (k_X12_plainTells l g u37 (a1 - (1 : Int32)) q44_hrn) ⟨by decide, by decide⟩ hl.1 rfl rfl (Nat.le_of_ble_eq_true rfl) dX12_tellsActs_44 ⟨Nat.zero_le _, Nat.zero_le _⟩ (fun r44 u44 H locs e44 hC => ?_)
      have hT := bd_e e44 hT
      refine lv_istore_n (lv' := [(2, .int (r44)), (0, .ref (g.2.2 100)), (1, .int (a1))]) hx hb dX12_tellsActs_47 rfl hl (by decide) rfl (fun ls hl => ?_)
      refine lv_iload_n hx hb dX12_tellsActs_48 rfl (lv_at hl 0 rfl) ?_
      refine lv_aload_n hx hb dX12_tellsActs_49 rfl (lv_at hl 1 rfl) ?_
      refine lv_iconst (v := (2 : Int32)) hx hb dX12_tellsActs_50 (by decide) ?_
      have q51_hrn : 0 ≤ (u44 25 0).toInt ∧ (u44 25 0).toInt ≤ 80 := (by have q := congrArg Prod.snd e44; dsimp only at q; rw [q]; rw [e37]; exact ra_up (ra_plainTells (n := 41) (by omega) (ra_ranBody (n := 40) (by omega) hrn)) (by omega))
      refine m_mi (rest := [.int (r44)]) (As := [.int ((2 : Int32))]) (σ := u44) C0 hK hC SV.tt (fun _ _ _ => trivial) cf_X12_setsActs w_1304 rfl (k_X12_setsActs l g u44 (2 : Int32) q51_hrn) ⟨by decide, by decide⟩ hl.1 rfl rfl (Nat.le_of_ble_eq_true rfl) dX12_tellsActs_51 ⟨Nat.zero_le _, Nat.zero_le _⟩ (fun r51 u51 H locs e51 hC => ?_)
      have hT := bd_e e51 hT
      refine lv_iadd hx hb dX12_tellsActs_54 ?_
      exact ret_MI C0 hC hT dX12_tellsActs_55
  · have hT := hT_neg c_8 hT
    refine lv_aload_n hx hb dX12_tellsActs_11 rfl (lv_at hl 0 rfl) ?_
    refine lv_bipush (v := (31 : Int32)) hx hb dX12_tellsActs_12 (by decide) ?_
    have q14_hrn : 0 ≤ (σ 25 0).toInt ∧ (σ 25 0).toInt ≤ 100 := ⟨hrn.1, by omega⟩
    refine m_mv (rest := []) (As := [.int ((31 : Int32))]) (σ := σ) C0 hK hC SV.tt (fun _ _ _ => trivial) cf_X12_ranBody w_1311 rfl (k_X12_ranBody l g σ (31 : Int32) q14_hrn) ⟨by decide, by decide⟩ hl.1 rfl rfl (Nat.le_of_ble_eq_true rfl) dX12_tellsActs_14 ⟨Nat.zero_le _, Nat.zero_le _⟩ (fun u14 H locs e14 hC => ?_)
    have hT := bd1_e e14 hT
    refine lv_aload_n hx hb dX12_tellsActs_17 rfl (lv_at hl 0 rfl) ?_
    refine lv_iload_n hx hb dX12_tellsActs_18 rfl (lv_at hl 1 rfl) ?_
    have q19_hrn : 0 ≤ (u14 25 0).toInt ∧ (u14 25 0).toInt ≤ 50 := (by rw [e14]; exact ra_up (ra_ranBody (n := 40) (by omega) hrn) (by omega))
    refine m_mi (rest := []) (As := [.int (a1)]) (σ := u14) C0 hK hC SV.tt (fun _ _ _ => trivial) cf_X12_plainTells w_1331 rfl (k_X12_plainTells l g u14 a1 q19_hrn) ⟨by decide, by decide⟩ hl.1 rfl rfl (Nat.le_of_ble_eq_true rfl) dX12_tellsActs_19 ⟨Nat.zero_le _, Nat.zero_le _⟩ (fun r19 u19 H locs e19 hC => ?_)
    have hT := bd_e e19 hT
    refine lv_bipush (v := (7 : Int32)) hx hb dX12_tellsActs_22 (by decide) ?_
    refine lv_ixor hx hb dX12_tellsActs_24 ?_
    exact ret_MI C0 hC hT dX12_tellsActs_25
set_option maxRecDepth 20000 in
theorem w_1327 : (Cond.methodLink RX12 251 yX12_tellsActs) ∈ TB := inTB (List.mem_of_getElem? (i := 1327) (by decide +kernel)) (by decide +kernel)
set_option maxRecDepth 20000 in
theorem w_1330 : (Cond.code yX12_tellsActs cX12_tellsActs 3 (some .int)) ∈ TB := inTB (List.mem_of_getElem? (i := 1330) (by decide +kernel)) (by decide +kernel)
set_option maxRecDepth 20000 in
theorem w_1329 : (Cond.instanceMethod yX12_tellsActs) ∈ TB := inTB (List.mem_of_getElem? (i := 1329) (by decide +kernel)) (by decide +kernel)
set_option maxRecDepth 20000 in
theorem w_68 : (Cond.selects RX12 yX12_tellsActs yX12_tellsActs) ∈ TB := inTB (List.mem_of_getElem? (i := 68) (by decide +kernel)) (by decide +kernel)
theorem cf_X12_tellsActs : CF yX12_tellsActs cX12_tellsActs 3 (some .int) 1 := ⟨w_1329, w_68, w_75, w_1330, by decide +kernel, by decide +kernel, by decide +kernel⟩
/-! ThreeMeasuresModel.act -/
theorem dX12_act_0 : decode cX12_act 0 = .ok (.aload_n 0, 1) := by decide +kernel
theorem dX12_act_1 : decode cX12_act 1 = .ok (.iconst 0, 1) := by decide +kernel
theorem dX12_act_2 : decode cX12_act 2 = .ok (.putfield 217, 3) := by decide +kernel
theorem dX12_act_5 : decode cX12_act 5 = .ok (.aload_n 0, 1) := by decide +kernel
theorem dX12_act_6 : decode cX12_act 6 = .ok (.iload_n 1, 1) := by decide +kernel
theorem dX12_act_7 : decode cX12_act 7 = .ok (.invokevirtual 161, 3) := by decide +kernel
theorem dX12_act_10 : decode cX12_act 10 = .ok (.ifCond .eq 12, 3) := by decide +kernel
theorem dX12_act_13 : decode cX12_act 13 = .ok (.iload_n 2, 1) := by decide +kernel
theorem dX12_act_14 : decode cX12_act 14 = .ok (.iconst 0, 1) := by decide +kernel
theorem dX12_act_15 : decode cX12_act 15 = .ok (.iconst 2, 1) := by decide +kernel
theorem dX12_act_16 : decode cX12_act 16 = .ok (.invokestatic 47, 3) := by decide +kernel
theorem dX12_act_19 : decode cX12_act 19 = .ok (.ifCond .ne 5, 3) := by decide +kernel
theorem dX12_act_22 : decode cX12_act 22 = .ok (.iconst 0, 1) := by decide +kernel
theorem dX12_act_23 : decode cX12_act 23 = .ok (.ireturn, 1) := by decide +kernel
theorem dX12_act_24 : decode cX12_act 24 = .ok (.aload_n 0, 1) := by decide +kernel
theorem dX12_act_25 : decode cX12_act 25 = .ok (.aload_n 0, 1) := by decide +kernel
theorem dX12_act_26 : decode cX12_act 26 = .ok (.getfield 9, 3) := by decide +kernel
theorem dX12_act_29 : decode cX12_act 29 = .ok (.bipush 9, 2) := by decide +kernel
theorem dX12_act_31 : decode cX12_act 31 = .ok (.iload_n 1, 1) := by decide +kernel
theorem dX12_act_32 : decode cX12_act 32 = .ok (.iadd, 1) := by decide +kernel
theorem dX12_act_33 : decode cX12_act 33 = .ok (.iaload, 1) := by decide +kernel
theorem dX12_act_34 : decode cX12_act 34 = .ok (.putfield 226, 3) := by decide +kernel
theorem dX12_act_37 : decode cX12_act 37 = .ok (.aload_n 0, 1) := by decide +kernel
theorem dX12_act_38 : decode cX12_act 38 = .ok (.iload_n 1, 1) := by decide +kernel
theorem dX12_act_39 : decode cX12_act 39 = .ok (.putfield 223, 3) := by decide +kernel
theorem dX12_act_42 : decode cX12_act 42 = .ok (.aload_n 0, 1) := by decide +kernel
theorem dX12_act_43 : decode cX12_act 43 = .ok (.aload_n 0, 1) := by decide +kernel
theorem dX12_act_44 : decode cX12_act 44 = .ok (.getfield 9, 3) := by decide +kernel
theorem dX12_act_47 : decode cX12_act 47 = .ok (.bipush 15, 2) := by decide +kernel
theorem dX12_act_49 : decode cX12_act 49 = .ok (.iload_n 1, 1) := by decide +kernel
theorem dX12_act_50 : decode cX12_act 50 = .ok (.iadd, 1) := by decide +kernel
theorem dX12_act_51 : decode cX12_act 51 = .ok (.iaload, 1) := by decide +kernel
theorem dX12_act_52 : decode cX12_act 52 = .ok (.putfield 239, 3) := by decide +kernel
theorem dX12_act_55 : decode cX12_act 55 = .ok (.iload_n 2, 1) := by decide +kernel
theorem dX12_act_56 : decode cX12_act 56 = .ok (.ifCond .ne 11, 3) := by decide +kernel
theorem dX12_act_59 : decode cX12_act 59 = .ok (.aload_n 0, 1) := by decide +kernel
theorem dX12_act_60 : decode cX12_act 60 = .ok (.iload_n 3, 1) := by decide +kernel
theorem dX12_act_61 : decode cX12_act 61 = .ok (.invokevirtual 236, 3) := by decide +kernel
theorem dX12_act_64 : decode cX12_act 64 = .ok (.goto 21, 3) := by decide +kernel
theorem dX12_act_67 : decode cX12_act 67 = .ok (.iload_n 2, 1) := by decide +kernel
theorem dX12_act_68 : decode cX12_act 68 = .ok (.iconst 1, 1) := by decide +kernel
theorem dX12_act_69 : decode cX12_act 69 = .ok (.if_icmp .ne 11, 3) := by decide +kernel
theorem dX12_act_72 : decode cX12_act 72 = .ok (.aload_n 0, 1) := by decide +kernel
theorem dX12_act_73 : decode cX12_act 73 = .ok (.iload_n 3, 1) := by decide +kernel
theorem dX12_act_74 : decode cX12_act 74 = .ok (.invokevirtual 245, 3) := by decide +kernel
theorem dX12_act_77 : decode cX12_act 77 = .ok (.goto 8, 3) := by decide +kernel
theorem dX12_act_80 : decode cX12_act 80 = .ok (.aload_n 0, 1) := by decide +kernel
theorem dX12_act_81 : decode cX12_act 81 = .ok (.iload_n 3, 1) := by decide +kernel
theorem dX12_act_82 : decode cX12_act 82 = .ok (.invokevirtual 251, 3) := by decide +kernel
theorem dX12_act_85 : decode cX12_act 85 = .ok (.ireturn, 1) := by decide +kernel
def f_X12_act (σ : St) (a1 : Int32) (a2 : Int32) (a3 : Int32) : Int32 × St := (if (f_X12_isStick σ a1) = 0 then ((0 : Int32), (up2 σ 25 0 (0 : Int32))) else (if (f_X12_in a2 (0 : Int32) (2 : Int32)) = 0 then ((0 : Int32), (up2 σ 25 0 (0 : Int32))) else (if a2 = 0 then (bd (f_X12_setsActs (up2 (up2 (up2 (up2 σ 25 0 (0 : Int32)) 26 0 (σ 1 (ix ((9 : Int32) + a1)))) 27 0 a1) 28 0 (σ 1 (ix ((15 : Int32) + a1)))) a3) (fun r61 u61 => (r61, u61))) else (if a2 = (1 : Int32) then (bd (f_X12_readsActs (up2 (up2 (up2 (up2 σ 25 0 (0 : Int32)) 26 0 (σ 1 (ix ((9 : Int32) + a1)))) 27 0 a1) 28 0 (σ 1 (ix ((15 : Int32) + a1)))) a3) (fun r74 u74 => (r74, u74))) else (bd (f_X12_tellsActs (up2 (up2 (up2 (up2 σ 25 0 (0 : Int32)) 26 0 (σ 1 (ix ((9 : Int32) + a1)))) 27 0 a1) 28 0 (σ 1 (ix ((15 : Int32) + a1)))) a3) (fun r82 u82 => (r82, u82)))))))
set_option maxHeartbeats 600000 in
set_option maxRecDepth 100000 in
theorem k_X12_act (l : Launch) (g : GG) (σ : St) (a1 : Int32) (a2 : Int32) (a3 : Int32) (hI : IB (σ 1)) : MI l yX12_act (wsF yX12_act cX12_act 4 (some .int)) { frames := 7, cells := 0, slots := 0, locals := 148 } [.ref (g.2.2 100), .int (a1), .int (a2), .int (a3)] g (mW g) (fun _ => True) σ (f_X12_act σ a1 a2 a3) := by
  refine start_MI (by decide) (Nat.le_of_ble_eq_true rfl) ?_
  intro p e s m args below meth c C0 hK hBg hC ls hl
  generalize hAe : aA ((mW g) σ) = A at hC ⊢
  obtain ⟨hx, hb, hr, hml, hown, hts, hlocks⟩ := id C0
  have hl : lv_has ls 4 [(0, .ref (g.2.2 100)), (1, .int (a1)), (2, .int (a2)), (3, .int (a3))] := hl
  generalize hT : (f_X12_act σ a1 a2 a3) = tgt
  suffices key : ∀ (H : Heap) (locs : List Loc), WC g (mW g) A s.heap σ H locs → W p l e { frames := 7, cells := 0, slots := 0, locals := 148 } s m args below meth c H locs 0 0 (QMI below args s g (mW g) A tgt) (F0 m 0 ls []) from key _ _ hC
  intro H locs hC
  unfold f_X12_act at hT
  obtain ⟨⟨i0, i0'⟩, ⟨i1, i1'⟩, ⟨i2, i2'⟩, ⟨i3, i3'⟩, ⟨i4, i4'⟩, ⟨i5, i5'⟩, ⟨i6, i6'⟩, ⟨i7, i7'⟩, ⟨i8, i8'⟩, iK, iV, iL, iR, iW, iY, iG, iM, iB, iQ, iP, iT, iU⟩ := id hI
  refine lv_aload_n hx hb dX12_act_0 rfl (lv_at hl 0 rfl) ?_
  refine lv_iconst (v := (0 : Int32)) hx hb dX12_act_1 (by decide) ?_
  refine m_put (σ := σ) (ty := .int) C0 hK hC 25 (by decide) rfl rfl rfl rfl (ms_25 g _ _) w_992 dX12_act_2 (fun H locs hC => ?_)
  refine lv_aload_n hx hb dX12_act_5 rfl (lv_at hl 0 rfl) ?_
  refine lv_iload_n hx hb dX12_act_6 rfl (lv_at hl 1 rfl) ?_
  refine m_ci (rest := []) (As := [.int (a1)]) (σ := (up2 σ 25 0 (0 : Int32))) (F := (f_X12_isStick σ a1)) C0 hK hC.1 (hC.2.1.weaken (fun _ _ _ _ => trivial)) SV.tt (fun _ _ _ => trivial) cf_X12_isStick w_1131 rfl (k_X12_isStick l g (up2 σ 25 0 (0 : Int32)) a1 ) ⟨by decide, by decide⟩ hl.1 rfl rfl (Nat.le_of_ble_eq_true rfl) dX12_act_7 ⟨Nat.zero_le _, Nat.zero_le _⟩ ?_
  refine lv_if_eq (tgt := 22) hx hb dX12_act_10 (by decide) (fun c_10 => ?_) (fun c_10 => ?_)
  · have hT := hT_pos c_10 hT
    refine lv_iconst (v := (0 : Int32)) hx hb dX12_act_22 (by decide) ?_
    exact ret_MI C0 hC hT dX12_act_23
  · have hT := hT_neg c_10 hT
    refine lv_iload_n hx hb dX12_act_13 rfl (lv_at hl 2 rfl) ?_
    refine lv_iconst (v := (0 : Int32)) hx hb dX12_act_14 (by decide) ?_
    refine lv_iconst (v := (2 : Int32)) hx hb dX12_act_15 (by decide) ?_
    refine s_ci (rest := []) (As := [.int (a2), .int ((0 : Int32)), .int ((2 : Int32))]) C0 cf_X12_in w_1060 (k_X12_in l a2 (0 : Int32) (2 : Int32) ) ⟨by decide, by decide⟩ hl.1 rfl rfl (Nat.le_of_ble_eq_true rfl) dX12_act_16 ⟨Nat.zero_le _, Nat.zero_le _⟩ ?_
    refine lv_if_ne (tgt := 24) hx hb dX12_act_19 (by decide) (fun c_19 => ?_) (fun c_19 => ?_)
    · have hT := hT_neg c_19 hT
      refine lv_aload_n hx hb dX12_act_24 rfl (lv_at hl 0 rfl) ?_
      refine lv_aload_n hx hb dX12_act_25 rfl (lv_at hl 0 rfl) ?_
      refine m_get (σ := (up2 σ 25 0 (0 : Int32))) (v := .ref (g.2.2 1)) C0 hK hC.1 1 (by decide) rfl w_968 dX12_act_26 ?_
      refine lv_bipush (v := (9 : Int32)) hx hb dX12_act_29 (by decide) ?_
      refine lv_iload_n hx hb dX12_act_31 rfl (lv_at hl 1 rfl) ?_
      refine lv_iadd hx hb dX12_act_32 ?_
      have o_33 : vp_in ((9 : Int32) + a1) 916 := by
        have : ((0 : Int32)).toInt = 0 := by decide
        have : ((2 : Int32)).toInt = 2 := by decide
        have : ((9 : Int32)).toInt = 9 := by decide
        have := isStick_ne hI.1.1 c_10
        have := in_ne c_19
        try have := ti_add (a := (9 : Int32)) (b := a1) (by omega) (by omega)
        exact vin (by omega) (by omega)
      refine m_ald (σ := (up2 σ 25 0 (0 : Int32))) C0 hK hC.1 1 1 916 rfl o_33 (ix ((9 : Int32) + a1)) rfl dX12_act_33 ?_
      refine m_put (σ := (up2 σ 25 0 (0 : Int32))) (ty := .int) C0 hK hC 26 (by decide) rfl rfl rfl rfl (ms_26 g _ _) w_993 dX12_act_34 (fun H locs hC => ?_)
      refine lv_aload_n hx hb dX12_act_37 rfl (lv_at hl 0 rfl) ?_
      refine lv_iload_n hx hb dX12_act_38 rfl (lv_at hl 1 rfl) ?_
      refine m_put (σ := (up2 (up2 σ 25 0 (0 : Int32)) 26 0 (σ 1 (ix ((9 : Int32) + a1))))) (ty := .int) C0 hK hC 27 (by decide) rfl rfl rfl rfl (ms_27 g _ _) w_994 dX12_act_39 (fun H locs hC => ?_)
      refine lv_aload_n hx hb dX12_act_42 rfl (lv_at hl 0 rfl) ?_
      refine lv_aload_n hx hb dX12_act_43 rfl (lv_at hl 0 rfl) ?_
      refine m_get (σ := (up2 (up2 (up2 σ 25 0 (0 : Int32)) 26 0 (σ 1 (ix ((9 : Int32) + a1)))) 27 0 a1)) (v := .ref (g.2.2 1)) C0 hK hC.1 1 (by decide) rfl w_968 dX12_act_44 ?_
      refine lv_bipush (v := (15 : Int32)) hx hb dX12_act_47 (by decide) ?_
      refine lv_iload_n hx hb dX12_act_49 rfl (lv_at hl 1 rfl) ?_
      refine lv_iadd hx hb dX12_act_50 ?_
      have o_51 : vp_in ((15 : Int32) + a1) 916 := by
        have : ((0 : Int32)).toInt = 0 := by decide
        have : ((2 : Int32)).toInt = 2 := by decide
        have : ((15 : Int32)).toInt = 15 := by decide
        have := isStick_ne hI.1.1 c_10
        have := in_ne c_19
        try have := ti_add (a := (15 : Int32)) (b := a1) (by omega) (by omega)
        exact vin (by omega) (by omega)
      refine m_ald (σ := (up2 (up2 (up2 σ 25 0 (0 : Int32)) 26 0 (σ 1 (ix ((9 : Int32) + a1)))) 27 0 a1)) C0 hK hC.1 1 1 916 rfl o_51 (ix ((15 : Int32) + a1)) rfl dX12_act_51 ?_
      refine m_put (σ := (up2 (up2 (up2 σ 25 0 (0 : Int32)) 26 0 (σ 1 (ix ((9 : Int32) + a1)))) 27 0 a1)) (ty := .int) C0 hK hC 28 (by decide) rfl rfl rfl rfl (ms_28 g _ _) w_995 dX12_act_52 (fun H locs hC => ?_)
      refine lv_iload_n hx hb dX12_act_55 rfl (lv_at hl 2 rfl) ?_
      refine lv_if_ne (tgt := 67) hx hb dX12_act_56 (by decide) (fun c_56 => ?_) (fun c_56 => ?_)
      · have hT := hT_neg c_56 hT
        refine lv_iload_n hx hb dX12_act_67 rfl (lv_at hl 2 rfl) ?_
        refine lv_iconst (v := (1 : Int32)) hx hb dX12_act_68 (by decide) ?_
        refine lv_icmp_ne (tgt := 80) hx hb dX12_act_69 (by decide) (fun c_69 => ?_) (fun c_69 => ?_)
        · have hT := hT_neg c_69 hT
          refine lv_aload_n hx hb dX12_act_80 rfl (lv_at hl 0 rfl) ?_
          refine lv_iload_n hx hb dX12_act_81 rfl (lv_at hl 3 rfl) ?_
          have q82_hrn : 0 ≤ ((up2 σ 25 0 (0 : Int32)) 25 0).toInt ∧ ((up2 σ 25 0 (0 : Int32)) 25 0).toInt ≤ 40 := (show 0 ≤ (0 : Int32).toInt ∧ (0 : Int32).toInt ≤ 40 from ⟨by decide, by decide⟩)
          refine m_mi (rest := []) (As := [.int (a3)]) (σ := (up2 (up2 (up2 (up2 σ 25 0 (0 : Int32)) 26 0 (σ 1 (ix ((9 : Int32) + a1)))) 27 0 a1) 28 0 (σ 1 (ix ((15 : Int32) + a1))))) C0 hK hC SV.tt (fun _ _ _ => trivial) cf_X12_tellsActs w_1327 rfl (k_X12_tellsActs l g (up2 (up2 (up2 (up2 σ 25 0 (0 : Int32)) 26 0 (σ 1 (ix ((9 : Int32) + a1)))) 27 0 a1) 28 0 (σ 1 (ix ((15 : Int32) + a1)))) a3 q82_hrn) ⟨by decide, by decide⟩ hl.1 rfl rfl (Nat.le_of_ble_eq_true rfl) dX12_act_82 ⟨Nat.zero_le _, Nat.zero_le _⟩ (fun r82 u82 H locs e82 hC => ?_)
          have hT := bd_e e82 hT
          exact ret_MI C0 hC hT dX12_act_85
        · have hT := hT_pos c_69 hT
          refine lv_aload_n hx hb dX12_act_72 rfl (lv_at hl 0 rfl) ?_
          refine lv_iload_n hx hb dX12_act_73 rfl (lv_at hl 3 rfl) ?_
          have q74_hrn : 0 ≤ ((up2 σ 25 0 (0 : Int32)) 25 0).toInt ∧ ((up2 σ 25 0 (0 : Int32)) 25 0).toInt ≤ 60 := (show 0 ≤ (0 : Int32).toInt ∧ (0 : Int32).toInt ≤ 60 from ⟨by decide, by decide⟩)
          refine m_mi (rest := []) (As := [.int (a3)]) (σ := (up2 (up2 (up2 (up2 σ 25 0 (0 : Int32)) 26 0 (σ 1 (ix ((9 : Int32) + a1)))) 27 0 a1) 28 0 (σ 1 (ix ((15 : Int32) + a1))))) C0 hK hC SV.tt (fun _ _ _ => trivial) cf_X12_readsActs w_1319 rfl (k_X12_readsActs l g (up2 (up2 (up2 (up2 σ 25 0 (0 : Int32)) 26 0 (σ 1 (ix ((9 : Int32) + a1)))) 27 0 a1) 28 0 (σ 1 (ix ((15 : Int32) + a1)))) a3 q74_hrn) ⟨by decide, by decide⟩ hl.1 rfl rfl (Nat.le_of_ble_eq_true rfl) dX12_act_74 ⟨Nat.zero_le _, Nat.zero_le _⟩ (fun r74 u74 H locs e74 hC => ?_)
          have hT := bd_e e74 hT
          refine lv_goto (tgt := 85) hx hb dX12_act_77 (by decide) ?_
          exact ret_MI C0 hC hT dX12_act_85
      · have hT := hT_pos c_56 hT
        refine lv_aload_n hx hb dX12_act_59 rfl (lv_at hl 0 rfl) ?_
        refine lv_iload_n hx hb dX12_act_60 rfl (lv_at hl 3 rfl) ?_
        have q61_hrn : 0 ≤ ((up2 σ 25 0 (0 : Int32)) 25 0).toInt ∧ ((up2 σ 25 0 (0 : Int32)) 25 0).toInt ≤ 80 := (show 0 ≤ (0 : Int32).toInt ∧ (0 : Int32).toInt ≤ 80 from ⟨by decide, by decide⟩)
        refine m_mi (rest := []) (As := [.int (a3)]) (σ := (up2 (up2 (up2 (up2 σ 25 0 (0 : Int32)) 26 0 (σ 1 (ix ((9 : Int32) + a1)))) 27 0 a1) 28 0 (σ 1 (ix ((15 : Int32) + a1))))) C0 hK hC SV.tt (fun _ _ _ => trivial) cf_X12_setsActs w_1304 rfl (k_X12_setsActs l g (up2 (up2 (up2 (up2 σ 25 0 (0 : Int32)) 26 0 (σ 1 (ix ((9 : Int32) + a1)))) 27 0 a1) 28 0 (σ 1 (ix ((15 : Int32) + a1)))) a3 q61_hrn) ⟨by decide, by decide⟩ hl.1 rfl rfl (Nat.le_of_ble_eq_true rfl) dX12_act_61 ⟨Nat.zero_le _, Nat.zero_le _⟩ (fun r61 u61 H locs e61 hC => ?_)
        have hT := bd_e e61 hT
        refine lv_goto (tgt := 85) hx hb dX12_act_64 (by decide) ?_
        exact ret_MI C0 hC hT dX12_act_85
    · have hT := hT_pos c_19 hT
      refine lv_iconst (v := (0 : Int32)) hx hb dX12_act_22 (by decide) ?_
      exact ret_MI C0 hC hT dX12_act_23
set_option maxRecDepth 20000 in
theorem w_970 : (Cond.fieldLink RX12 254 RX12 "hasImage" "Z") ∈ TB := inTB (List.mem_of_getElem? (i := 970) (by decide +kernel)) (by decide +kernel)
set_option maxRecDepth 20000 in
theorem w_969 : (Cond.fieldLink RX12 15 RX12 "image" "[I") ∈ TB := inTB (List.mem_of_getElem? (i := 969) (by decide +kernel)) (by decide +kernel)
/-! ThreeMeasuresModel.image -/
theorem dX12_image_0 : decode cX12_image 0 = .ok (.iconst 0, 1) := by decide +kernel
theorem dX12_image_1 : decode cX12_image 1 = .ok (.istore_n 1, 1) := by decide +kernel
theorem dX12_image_2 : decode cX12_image 2 = .ok (.iload_n 1, 1) := by decide +kernel
theorem dX12_image_3 : decode cX12_image 3 = .ok (.sipush 916, 3) := by decide +kernel
theorem dX12_image_6 : decode cX12_image 6 = .ok (.if_icmp .ge 21, 3) := by decide +kernel
theorem dX12_image_9 : decode cX12_image 9 = .ok (.aload_n 0, 1) := by decide +kernel
theorem dX12_image_10 : decode cX12_image 10 = .ok (.getfield 15, 3) := by decide +kernel
theorem dX12_image_13 : decode cX12_image 13 = .ok (.iload_n 1, 1) := by decide +kernel
theorem dX12_image_14 : decode cX12_image 14 = .ok (.aload_n 0, 1) := by decide +kernel
theorem dX12_image_15 : decode cX12_image 15 = .ok (.getfield 9, 3) := by decide +kernel
theorem dX12_image_18 : decode cX12_image 18 = .ok (.iload_n 1, 1) := by decide +kernel
theorem dX12_image_19 : decode cX12_image 19 = .ok (.iaload, 1) := by decide +kernel
theorem dX12_image_20 : decode cX12_image 20 = .ok (.iastore, 1) := by decide +kernel
theorem dX12_image_21 : decode cX12_image 21 = .ok (.iinc 1 1, 3) := by decide +kernel
theorem dX12_image_24 : decode cX12_image 24 = .ok (.goto (-22), 3) := by decide +kernel
theorem dX12_image_27 : decode cX12_image 27 = .ok (.aload_n 0, 1) := by decide +kernel
theorem dX12_image_28 : decode cX12_image 28 = .ok (.iconst 1, 1) := by decide +kernel
theorem dX12_image_29 : decode cX12_image 29 = .ok (.putfield 254, 3) := by decide +kernel
theorem dX12_image_32 : decode cX12_image 32 = .ok (.aload_n 0, 1) := by decide +kernel
theorem dX12_image_33 : decode cX12_image 33 = .ok (.getfield 9, 3) := by decide +kernel
theorem dX12_image_36 : decode cX12_image 36 = .ok (.iconst 0, 1) := by decide +kernel
theorem dX12_image_37 : decode cX12_image 37 = .ok (.iaload, 1) := by decide +kernel
theorem dX12_image_38 : decode cX12_image 38 = .ok (.ireturn, 1) := by decide +kernel
def f_X12_image_2 (K2 : St → Int32 → Int32 × St) (σ : St) (a1 : Int32) : Int32 × St := (if (916 : Int32) ≤ a1 then ((σ 1 0), (up2 σ 3 0 (1 : Int32))) else (K2 (up2 σ 2 (ix a1) (σ 1 (ix a1))) (a1 + (1 : Int32))))
set_option maxHeartbeats 600000 in
set_option maxRecDepth 100000 in
theorem b_X12_image_2 {g : GG} {p : Program} {l : Launch} {e : Env} {s : State} {m : MethodId} {args : Array Value} {below : List Frame} {meth : Method} {c : Code} {A : Nat → Prop} {tgt : Int32 × St} {K2 : St → Int32 → Int32 × St} {N2 : Nat} (C0 : BC p s m args meth c cX12_image RX12 2 (some .int)) (hK2 : ∀ (σ : St) (a1 : Int32), (IB (σ 1)) → (0 ≤ a1.toInt) → (916 - a1.toInt).toNat < N2 → ∀ {H : Heap} {locs : List Loc}, KK g s → WC g (mW g) A s.heap σ H locs → ∀ {ls : Array Slot}, lv_has ls 2 [(0, .ref (g.2.2 100)), (1, .int (a1))] → K2 σ a1 = tgt → W p l e { frames := 0, cells := 0, slots := 0, locals := 0 } s m args below meth c H locs 0 0 (QMI below args s g (mW g) A tgt) (F0 m 2 ls [])) {σ : St} {a1 : Int32} {H : Heap} {locs : List Loc} (hI : IB (σ 1)) (h1 : 0 ≤ a1.toInt) (hm : (916 - a1.toInt).toNat < N2 + 1) (hK : KK g s) (hC : WC g (mW g) A s.heap σ H locs) {ls : Array Slot} (hl : lv_has ls 2 [(0, .ref (g.2.2 100)), (1, .int (a1))]) (hT : f_X12_image_2 K2 σ a1 = tgt) : W p l e { frames := 0, cells := 0, slots := 0, locals := 0 } s m args below meth c H locs 0 0 (QMI below args s g (mW g) A tgt) (F0 m 2 ls []) := by
  obtain ⟨hx, hb, hr, hml, hown, hts, hlocks⟩ := id C0
  unfold f_X12_image_2 at hT
  obtain ⟨⟨i0, i0'⟩, ⟨i1, i1'⟩, ⟨i2, i2'⟩, ⟨i3, i3'⟩, ⟨i4, i4'⟩, ⟨i5, i5'⟩, ⟨i6, i6'⟩, ⟨i7, i7'⟩, ⟨i8, i8'⟩, iK, iV, iL, iR, iW, iY, iG, iM, iB, iQ, iP, iT, iU⟩ := id hI
  refine lv_iload_n hx hb dX12_image_2 rfl (lv_at hl 1 rfl) ?_
  refine lv_sipush (v := (916 : Int32)) hx hb dX12_image_3 (by decide) ?_
  refine lv_icmp_ge (tgt := 27) hx hb dX12_image_6 (by decide) (fun c_6 => ?_) (fun c_6 => ?_)
  · have hT := hT_pos c_6 hT
    refine lv_aload_n hx hb dX12_image_27 rfl (lv_at hl 0 rfl) ?_
    refine lv_iconst (v := (1 : Int32)) hx hb dX12_image_28 (by decide) ?_
    refine m_put (σ := σ) (ty := .boolean) C0 hK hC 3 (by decide) rfl rfl (nz_of (Or.inr rfl)) rfl (ms_3 g _ _) w_970 dX12_image_29 (fun H locs hC => ?_)
    refine lv_aload_n hx hb dX12_image_32 rfl (lv_at hl 0 rfl) ?_
    refine m_get (σ := (up2 σ 3 0 (1 : Int32))) (v := .ref (g.2.2 1)) C0 hK hC.1 1 (by decide) rfl w_968 dX12_image_33 ?_
    refine lv_iconst (v := (0 : Int32)) hx hb dX12_image_36 (by decide) ?_
    refine m_ald (σ := (up2 σ 3 0 (1 : Int32))) C0 hK hC.1 1 1 916 rfl (vin_l (by decide)) 0 (by decide) dX12_image_37 ?_
    exact ret_MI C0 hC hT dX12_image_38
  · have hT := hT_neg c_6 hT
    refine lv_aload_n hx hb dX12_image_9 rfl (lv_at hl 0 rfl) ?_
    refine m_get (σ := σ) (v := .ref (g.2.2 2)) C0 hK hC.1 2 (by decide) rfl w_969 dX12_image_10 ?_
    refine lv_iload_n hx hb dX12_image_13 rfl (lv_at hl 1 rfl) ?_
    refine lv_aload_n hx hb dX12_image_14 rfl (lv_at hl 0 rfl) ?_
    refine m_get (σ := σ) (v := .ref (g.2.2 1)) C0 hK hC.1 1 (by decide) rfl w_968 dX12_image_15 ?_
    refine lv_iload_n hx hb dX12_image_18 rfl (lv_at hl 1 rfl) ?_
    have o_19 : vp_in a1 916 := by
      have : ((916 : Int32)).toInt = 916 := by decide
      have := mt ti_le.mpr c_6
      exact vin (by omega) (by omega)
    refine m_ald (σ := σ) C0 hK hC.1 1 1 916 rfl o_19 (ix a1) rfl dX12_image_19 ?_
    have o_20 : vp_in a1 916 := by
      have : ((916 : Int32)).toInt = 916 := by decide
      have := mt ti_le.mpr c_6
      exact vin (by omega) (by omega)
    refine m_ast (σ := σ) C0 hK hC 2 2 916 rfl (ms_2 g _) o_20 (ix a1) rfl dX12_image_20 (fun H locs hC => ?_)
    refine lv_iinc (v := (a1 + (1 : Int32))) (lv' := [(1, .int ((a1 + (1 : Int32)))), (0, .ref (g.2.2 100))]) hx hb dX12_image_21 hl (k := 1) rfl rfl (by decide) rfl (fun ls hl => ?_)
    refine lv_goto (tgt := 2) hx hb dX12_image_24 (by decide) ?_
    have j24_h1 : 0 ≤ (a1 + (1 : Int32)).toInt := by
      have : ((916 : Int32)).toInt = 916 := by decide
      have : ((1 : Int32)).toInt = 1 := by decide
      have := mt ti_le.mpr c_6
      try have := ti_add (a := a1) (b := (1 : Int32)) (by omega) (by omega)
      omega
    have j24_m : (916 - (a1 + (1 : Int32)).toInt).toNat < N2 := by
      have : ((916 : Int32)).toInt = 916 := by decide
      have : ((1 : Int32)).toInt = 1 := by decide
      have := mt ti_le.mpr c_6
      try have := ti_add (a := a1) (b := (1 : Int32)) (by omega) (by omega)
      omega
    exact hK2 (up2 σ 2 (ix a1) (σ 1 (ix a1))) (a1 + (1 : Int32)) hI j24_h1 j24_m hK hC (lv_sub hl [1, 0] rfl) hT
def g_X12_image_2  : Nat → St → Int32 → Int32 × St
  | 0 => fun σ a1 => (0, σ)
  | n + 1 => fun σ a1 => f_X12_image_2  (g_X12_image_2  n) σ a1
theorem l_X12_image_2 {g : GG} {p : Program} {l : Launch} {e : Env} {s : State} {m : MethodId} {args : Array Value} {below : List Frame} {meth : Method} {c : Code} {A : Nat → Prop} {tgt : Int32 × St}  (C0 : BC p s m args meth c cX12_image RX12 2 (some .int))  : ∀ (n : Nat) (σ : St) (a1 : Int32), (IB (σ 1)) → (0 ≤ a1.toInt) → (916 - a1.toInt).toNat < n → ∀ {H : Heap} {locs : List Loc}, KK g s → WC g (mW g) A s.heap σ H locs → ∀ {ls : Array Slot}, lv_has ls 2 [(0, .ref (g.2.2 100)), (1, .int (a1))] → g_X12_image_2  n σ a1 = tgt → W p l e { frames := 0, cells := 0, slots := 0, locals := 0 } s m args below meth c H locs 0 0 (QMI below args s g (mW g) A tgt) (F0 m 2 ls []) := by
  intro n
  induction n with
  | zero => intro σ a1 hI h1 hm; exact absurd hm (Nat.not_lt_zero _)
  | succ n ih =>
    intro σ a1 hI h1 hm H locs hK hC ls hl hT
    exact b_X12_image_2  (K2 := g_X12_image_2  n) (N2 := n) C0  (fun σ a1 hI h1 hm2 => ih σ a1 hI h1 hm2) hI h1 hm hK hC hl hT
def f_X12_image (σ : St) : Int32 × St := (g_X12_image_2  (917) σ (0 : Int32))
set_option maxHeartbeats 600000 in
set_option maxRecDepth 100000 in
theorem k_X12_image (l : Launch) (g : GG) (σ : St) (hI : IB (σ 1)) : MI l yX12_image (wsF yX12_image cX12_image 2 (some .int)) { frames := 0, cells := 0, slots := 0, locals := 0 } [.ref (g.2.2 100)] g (mW g) (fun _ => True) σ (f_X12_image σ) := by
  refine start_MI (by decide) (Nat.le_of_ble_eq_true rfl) ?_
  intro p e s m args below meth c C0 hK hBg hC ls hl
  generalize hAe : aA ((mW g) σ) = A at hC ⊢
  obtain ⟨hx, hb, hr, hml, hown, hts, hlocks⟩ := id C0
  have hl : lv_has ls 2 [(0, .ref (g.2.2 100))] := hl
  generalize hT : (f_X12_image σ) = tgt
  suffices key : ∀ (H : Heap) (locs : List Loc), WC g (mW g) A s.heap σ H locs → W p l e { frames := 0, cells := 0, slots := 0, locals := 0 } s m args below meth c H locs 0 0 (QMI below args s g (mW g) A tgt) (F0 m 0 ls []) from key _ _ hC
  intro H locs hC
  unfold f_X12_image at hT
  obtain ⟨⟨i0, i0'⟩, ⟨i1, i1'⟩, ⟨i2, i2'⟩, ⟨i3, i3'⟩, ⟨i4, i4'⟩, ⟨i5, i5'⟩, ⟨i6, i6'⟩, ⟨i7, i7'⟩, ⟨i8, i8'⟩, iK, iV, iL, iR, iW, iY, iG, iM, iB, iQ, iP, iT, iU⟩ := id hI
  refine lv_iconst (v := (0 : Int32)) hx hb dX12_image_0 (by decide) ?_
  refine lv_istore_n (lv' := [(1, .int ((0 : Int32))), (0, .ref (g.2.2 100))]) hx hb dX12_image_1 rfl hl (by decide) rfl (fun ls hl => ?_)
  have j1_h1 : 0 ≤ (0 : Int32).toInt := by
    have : ((0 : Int32)).toInt = 0 := by decide
    omega
  have j1_m : (916 - (0 : Int32).toInt).toNat < 917 := by
    have : ((0 : Int32)).toInt = 0 := by decide
    omega
  exact l_X12_image_2  C0   (917) σ (0 : Int32) hI j1_h1 j1_m hK hC (lv_sub hl [1, 0] rfl) hT
/-! ThreeMeasuresModel.undo -/
theorem dX12_undo_0 : decode cX12_undo 0 = .ok (.aload_n 0, 1) := by decide +kernel
theorem dX12_undo_1 : decode cX12_undo 1 = .ok (.getfield 254, 3) := by decide +kernel
theorem dX12_undo_4 : decode cX12_undo 4 = .ok (.ifCond .ne 6, 3) := by decide +kernel
theorem dX12_undo_7 : decode cX12_undo 7 = .ok (.bipush (-3), 2) := by decide +kernel
theorem dX12_undo_9 : decode cX12_undo 9 = .ok (.ireturn, 1) := by decide +kernel
theorem dX12_undo_10 : decode cX12_undo 10 = .ok (.iconst 0, 1) := by decide +kernel
theorem dX12_undo_11 : decode cX12_undo 11 = .ok (.istore_n 1, 1) := by decide +kernel
theorem dX12_undo_12 : decode cX12_undo 12 = .ok (.iload_n 1, 1) := by decide +kernel
theorem dX12_undo_13 : decode cX12_undo 13 = .ok (.sipush 916, 3) := by decide +kernel
theorem dX12_undo_16 : decode cX12_undo 16 = .ok (.if_icmp .ge 21, 3) := by decide +kernel
theorem dX12_undo_19 : decode cX12_undo 19 = .ok (.aload_n 0, 1) := by decide +kernel
theorem dX12_undo_20 : decode cX12_undo 20 = .ok (.getfield 9, 3) := by decide +kernel
theorem dX12_undo_23 : decode cX12_undo 23 = .ok (.iload_n 1, 1) := by decide +kernel
theorem dX12_undo_24 : decode cX12_undo 24 = .ok (.aload_n 0, 1) := by decide +kernel
theorem dX12_undo_25 : decode cX12_undo 25 = .ok (.getfield 15, 3) := by decide +kernel
theorem dX12_undo_28 : decode cX12_undo 28 = .ok (.iload_n 1, 1) := by decide +kernel
theorem dX12_undo_29 : decode cX12_undo 29 = .ok (.iaload, 1) := by decide +kernel
theorem dX12_undo_30 : decode cX12_undo 30 = .ok (.iastore, 1) := by decide +kernel
theorem dX12_undo_31 : decode cX12_undo 31 = .ok (.iinc 1 1, 3) := by decide +kernel
theorem dX12_undo_34 : decode cX12_undo 34 = .ok (.goto (-22), 3) := by decide +kernel
theorem dX12_undo_37 : decode cX12_undo 37 = .ok (.aload_n 0, 1) := by decide +kernel
theorem dX12_undo_38 : decode cX12_undo 38 = .ok (.getfield 9, 3) := by decide +kernel
theorem dX12_undo_41 : decode cX12_undo 41 = .ok (.iconst 0, 1) := by decide +kernel
theorem dX12_undo_42 : decode cX12_undo 42 = .ok (.iaload, 1) := by decide +kernel
theorem dX12_undo_43 : decode cX12_undo 43 = .ok (.ireturn, 1) := by decide +kernel
def f_X12_undo_12 (K12 : St → Int32 → Int32 × St) (σ : St) (a1 : Int32) : Int32 × St := (if (916 : Int32) ≤ a1 then ((σ 1 0), σ) else (K12 (up2 σ 1 (ix a1) (σ 2 (ix a1))) (a1 + (1 : Int32))))
set_option maxHeartbeats 600000 in
set_option maxRecDepth 100000 in
theorem b_X12_undo_12 {g : GG} {p : Program} {l : Launch} {e : Env} {s : State} {m : MethodId} {args : Array Value} {below : List Frame} {meth : Method} {c : Code} {A : Nat → Prop} {tgt : Int32 × St} {K12 : St → Int32 → Int32 × St} {N12 : Nat} (C0 : BC p s m args meth c cX12_undo RX12 2 (some .int)) (hK12 : ∀ (σ : St) (a1 : Int32), (0 ≤ a1.toInt) → (916 - a1.toInt).toNat < N12 → ∀ {H : Heap} {locs : List Loc}, KK g s → WC g (mW g) A s.heap σ H locs → ∀ {ls : Array Slot}, lv_has ls 2 [(0, .ref (g.2.2 100)), (1, .int (a1))] → K12 σ a1 = tgt → W p l e { frames := 0, cells := 0, slots := 0, locals := 0 } s m args below meth c H locs 0 0 (QMI below args s g (mW g) A tgt) (F0 m 12 ls [])) {σ : St} {a1 : Int32} {H : Heap} {locs : List Loc} (h1 : 0 ≤ a1.toInt) (hm : (916 - a1.toInt).toNat < N12 + 1) (hK : KK g s) (hC : WC g (mW g) A s.heap σ H locs) {ls : Array Slot} (hl : lv_has ls 2 [(0, .ref (g.2.2 100)), (1, .int (a1))]) (hT : f_X12_undo_12 K12 σ a1 = tgt) : W p l e { frames := 0, cells := 0, slots := 0, locals := 0 } s m args below meth c H locs 0 0 (QMI below args s g (mW g) A tgt) (F0 m 12 ls []) := by
  obtain ⟨hx, hb, hr, hml, hown, hts, hlocks⟩ := id C0
  unfold f_X12_undo_12 at hT
  refine lv_iload_n hx hb dX12_undo_12 rfl (lv_at hl 1 rfl) ?_
  refine lv_sipush (v := (916 : Int32)) hx hb dX12_undo_13 (by decide) ?_
  refine lv_icmp_ge (tgt := 37) hx hb dX12_undo_16 (by decide) (fun c_16 => ?_) (fun c_16 => ?_)
  · have hT := hT_pos c_16 hT
    refine lv_aload_n hx hb dX12_undo_37 rfl (lv_at hl 0 rfl) ?_
    refine m_get (σ := σ) (v := .ref (g.2.2 1)) C0 hK hC.1 1 (by decide) rfl w_968 dX12_undo_38 ?_
    refine lv_iconst (v := (0 : Int32)) hx hb dX12_undo_41 (by decide) ?_
    refine m_ald (σ := σ) C0 hK hC.1 1 1 916 rfl (vin_l (by decide)) 0 (by decide) dX12_undo_42 ?_
    exact ret_MI C0 hC hT dX12_undo_43
  · have hT := hT_neg c_16 hT
    refine lv_aload_n hx hb dX12_undo_19 rfl (lv_at hl 0 rfl) ?_
    refine m_get (σ := σ) (v := .ref (g.2.2 1)) C0 hK hC.1 1 (by decide) rfl w_968 dX12_undo_20 ?_
    refine lv_iload_n hx hb dX12_undo_23 rfl (lv_at hl 1 rfl) ?_
    refine lv_aload_n hx hb dX12_undo_24 rfl (lv_at hl 0 rfl) ?_
    refine m_get (σ := σ) (v := .ref (g.2.2 2)) C0 hK hC.1 2 (by decide) rfl w_969 dX12_undo_25 ?_
    refine lv_iload_n hx hb dX12_undo_28 rfl (lv_at hl 1 rfl) ?_
    have o_29 : vp_in a1 916 := by
      have : ((916 : Int32)).toInt = 916 := by decide
      have := mt ti_le.mpr c_16
      exact vin (by omega) (by omega)
    refine m_ald (σ := σ) C0 hK hC.1 2 2 916 rfl o_29 (ix a1) rfl dX12_undo_29 ?_
    have o_30 : vp_in a1 916 := by
      have : ((916 : Int32)).toInt = 916 := by decide
      have := mt ti_le.mpr c_16
      exact vin (by omega) (by omega)
    refine m_ast (σ := σ) C0 hK hC 1 1 916 rfl (ms_1 g _) o_30 (ix a1) rfl dX12_undo_30 (fun H locs hC => ?_)
    refine lv_iinc (v := (a1 + (1 : Int32))) (lv' := [(1, .int ((a1 + (1 : Int32)))), (0, .ref (g.2.2 100))]) hx hb dX12_undo_31 hl (k := 1) rfl rfl (by decide) rfl (fun ls hl => ?_)
    refine lv_goto (tgt := 12) hx hb dX12_undo_34 (by decide) ?_
    have j34_h1 : 0 ≤ (a1 + (1 : Int32)).toInt := by
      have : ((916 : Int32)).toInt = 916 := by decide
      have : ((1 : Int32)).toInt = 1 := by decide
      have := mt ti_le.mpr c_16
      try have := ti_add (a := a1) (b := (1 : Int32)) (by omega) (by omega)
      omega
    have j34_m : (916 - (a1 + (1 : Int32)).toInt).toNat < N12 := by
      have : ((916 : Int32)).toInt = 916 := by decide
      have : ((1 : Int32)).toInt = 1 := by decide
      have := mt ti_le.mpr c_16
      try have := ti_add (a := a1) (b := (1 : Int32)) (by omega) (by omega)
      omega
    exact hK12 (up2 σ 1 (ix a1) (σ 2 (ix a1))) (a1 + (1 : Int32)) j34_h1 j34_m hK hC (lv_sub hl [1, 0] rfl) hT
def g_X12_undo_12  : Nat → St → Int32 → Int32 × St
  | 0 => fun σ a1 => (0, σ)
  | n + 1 => fun σ a1 => f_X12_undo_12  (g_X12_undo_12  n) σ a1
theorem l_X12_undo_12 {g : GG} {p : Program} {l : Launch} {e : Env} {s : State} {m : MethodId} {args : Array Value} {below : List Frame} {meth : Method} {c : Code} {A : Nat → Prop} {tgt : Int32 × St}  (C0 : BC p s m args meth c cX12_undo RX12 2 (some .int))  : ∀ (n : Nat) (σ : St) (a1 : Int32), (0 ≤ a1.toInt) → (916 - a1.toInt).toNat < n → ∀ {H : Heap} {locs : List Loc}, KK g s → WC g (mW g) A s.heap σ H locs → ∀ {ls : Array Slot}, lv_has ls 2 [(0, .ref (g.2.2 100)), (1, .int (a1))] → g_X12_undo_12  n σ a1 = tgt → W p l e { frames := 0, cells := 0, slots := 0, locals := 0 } s m args below meth c H locs 0 0 (QMI below args s g (mW g) A tgt) (F0 m 12 ls []) := by
  intro n
  induction n with
  | zero => intro σ a1 h1 hm; exact absurd hm (Nat.not_lt_zero _)
  | succ n ih =>
    intro σ a1 h1 hm H locs hK hC ls hl hT
    exact b_X12_undo_12  (K12 := g_X12_undo_12  n) (N12 := n) C0  (fun σ a1 h1 hm2 => ih σ a1 h1 hm2) h1 hm hK hC hl hT
def f_X12_undo (σ : St) : Int32 × St := (if (σ 3 0) = 0 then ((-3 : Int32), σ) else (g_X12_undo_12  (917) σ (0 : Int32)))
set_option maxHeartbeats 600000 in
set_option maxRecDepth 100000 in
theorem k_X12_undo (l : Launch) (g : GG) (σ : St)  : MI l yX12_undo (wsF yX12_undo cX12_undo 2 (some .int)) { frames := 0, cells := 0, slots := 0, locals := 0 } [.ref (g.2.2 100)] g (mW g) (fun _ => True) σ (f_X12_undo σ) := by
  refine start_MI (by decide) (Nat.le_of_ble_eq_true rfl) ?_
  intro p e s m args below meth c C0 hK hBg hC ls hl
  generalize hAe : aA ((mW g) σ) = A at hC ⊢
  obtain ⟨hx, hb, hr, hml, hown, hts, hlocks⟩ := id C0
  have hl : lv_has ls 2 [(0, .ref (g.2.2 100))] := hl
  generalize hT : (f_X12_undo σ) = tgt
  suffices key : ∀ (H : Heap) (locs : List Loc), WC g (mW g) A s.heap σ H locs → W p l e { frames := 0, cells := 0, slots := 0, locals := 0 } s m args below meth c H locs 0 0 (QMI below args s g (mW g) A tgt) (F0 m 0 ls []) from key _ _ hC
  intro H locs hC
  unfold f_X12_undo at hT
  refine lv_aload_n hx hb dX12_undo_0 rfl (lv_at hl 0 rfl) ?_
  refine m_get (σ := σ) (v := .int ((σ 3 0))) C0 hK hC.1 3 (by decide) rfl w_970 dX12_undo_1 ?_
  refine lv_if_ne (tgt := 10) hx hb dX12_undo_4 (by decide) (fun c_4 => ?_) (fun c_4 => ?_)
  · have hT := hT_neg c_4 hT
    refine lv_iconst (v := (0 : Int32)) hx hb dX12_undo_10 (by decide) ?_
    refine lv_istore_n (lv' := [(1, .int ((0 : Int32))), (0, .ref (g.2.2 100))]) hx hb dX12_undo_11 rfl hl (by decide) rfl (fun ls hl => ?_)
    have j11_h1 : 0 ≤ (0 : Int32).toInt := by
      have : ((0 : Int32)).toInt = 0 := by decide
      have := mt ti_eq.mpr c_4
      omega
    have j11_m : (916 - (0 : Int32).toInt).toNat < 917 := by
      have : ((0 : Int32)).toInt = 0 := by decide
      have := mt ti_eq.mpr c_4
      omega
    exact l_X12_undo_12  C0   (917) σ (0 : Int32) j11_h1 j11_m hK hC (lv_sub hl [1, 0] rfl) hT
  · have hT := hT_pos c_4 hT
    refine lv_bipush (v := (-3 : Int32)) hx hb dX12_undo_7 (by decide) ?_
    exact ret_MI C0 hC hT dX12_undo_9
/-! ThreeMeasuresModel.hasSquare -/
theorem dX12_hasSquare_0 : decode cX12_hasSquare 0 = .ok (.aload_n 0, 1) := by decide +kernel
theorem dX12_hasSquare_1 : decode cX12_hasSquare 1 = .ok (.getfield 9, 3) := by decide +kernel
theorem dX12_hasSquare_4 : decode cX12_hasSquare 4 = .ok (.bipush 51, 2) := by decide +kernel
theorem dX12_hasSquare_6 : decode cX12_hasSquare 6 = .ok (.iload_n 1, 1) := by decide +kernel
theorem dX12_hasSquare_7 : decode cX12_hasSquare 7 = .ok (.iadd, 1) := by decide +kernel
theorem dX12_hasSquare_8 : decode cX12_hasSquare 8 = .ok (.iaload, 1) := by decide +kernel
theorem dX12_hasSquare_9 : decode cX12_hasSquare 9 = .ok (.istore 4, 2) := by decide +kernel
theorem dX12_hasSquare_11 : decode cX12_hasSquare 11 = .ok (.iload 4, 2) := by decide +kernel
theorem dX12_hasSquare_13 : decode cX12_hasSquare 13 = .ok (.aload_n 0, 1) := by decide +kernel
theorem dX12_hasSquare_14 : decode cX12_hasSquare 14 = .ok (.getfield 9, 3) := by decide +kernel
theorem dX12_hasSquare_17 : decode cX12_hasSquare 17 = .ok (.bipush 57, 2) := by decide +kernel
theorem dX12_hasSquare_19 : decode cX12_hasSquare 19 = .ok (.iload_n 1, 1) := by decide +kernel
theorem dX12_hasSquare_20 : decode cX12_hasSquare 20 = .ok (.iadd, 1) := by decide +kernel
theorem dX12_hasSquare_21 : decode cX12_hasSquare 21 = .ok (.iaload, 1) := by decide +kernel
theorem dX12_hasSquare_22 : decode cX12_hasSquare 22 = .ok (.if_icmp .gt 106, 3) := by decide +kernel
theorem dX12_hasSquare_25 : decode cX12_hasSquare 25 = .ok (.aload_n 0, 1) := by decide +kernel
theorem dX12_hasSquare_26 : decode cX12_hasSquare 26 = .ok (.getfield 9, 3) := by decide +kernel
theorem dX12_hasSquare_29 : decode cX12_hasSquare 29 = .ok (.bipush 51, 2) := by decide +kernel
theorem dX12_hasSquare_31 : decode cX12_hasSquare 31 = .ok (.iload_n 3, 1) := by decide +kernel
theorem dX12_hasSquare_32 : decode cX12_hasSquare 32 = .ok (.iadd, 1) := by decide +kernel
theorem dX12_hasSquare_33 : decode cX12_hasSquare 33 = .ok (.iaload, 1) := by decide +kernel
theorem dX12_hasSquare_34 : decode cX12_hasSquare 34 = .ok (.istore 5, 2) := by decide +kernel
theorem dX12_hasSquare_36 : decode cX12_hasSquare 36 = .ok (.aload_n 0, 1) := by decide +kernel
theorem dX12_hasSquare_37 : decode cX12_hasSquare 37 = .ok (.getfield 9, 3) := by decide +kernel
theorem dX12_hasSquare_40 : decode cX12_hasSquare 40 = .ok (.bipush 51, 2) := by decide +kernel
theorem dX12_hasSquare_42 : decode cX12_hasSquare 42 = .ok (.iload_n 2, 1) := by decide +kernel
theorem dX12_hasSquare_43 : decode cX12_hasSquare 43 = .ok (.iadd, 1) := by decide +kernel
theorem dX12_hasSquare_44 : decode cX12_hasSquare 44 = .ok (.iaload, 1) := by decide +kernel
theorem dX12_hasSquare_45 : decode cX12_hasSquare 45 = .ok (.istore 6, 2) := by decide +kernel
theorem dX12_hasSquare_47 : decode cX12_hasSquare 47 = .ok (.iload 6, 2) := by decide +kernel
theorem dX12_hasSquare_49 : decode cX12_hasSquare 49 = .ok (.aload_n 0, 1) := by decide +kernel
theorem dX12_hasSquare_50 : decode cX12_hasSquare 50 = .ok (.getfield 9, 3) := by decide +kernel
theorem dX12_hasSquare_53 : decode cX12_hasSquare 53 = .ok (.bipush 57, 2) := by decide +kernel
theorem dX12_hasSquare_55 : decode cX12_hasSquare 55 = .ok (.iload_n 2, 1) := by decide +kernel
theorem dX12_hasSquare_56 : decode cX12_hasSquare 56 = .ok (.iadd, 1) := by decide +kernel
theorem dX12_hasSquare_57 : decode cX12_hasSquare 57 = .ok (.iaload, 1) := by decide +kernel
theorem dX12_hasSquare_58 : decode cX12_hasSquare 58 = .ok (.if_icmp .gt 64, 3) := by decide +kernel
theorem dX12_hasSquare_61 : decode cX12_hasSquare 61 = .ok (.iload 4, 2) := by decide +kernel
theorem dX12_hasSquare_63 : decode cX12_hasSquare 63 = .ok (.iload 4, 2) := by decide +kernel
theorem dX12_hasSquare_65 : decode cX12_hasSquare 65 = .ok (.imul, 1) := by decide +kernel
theorem dX12_hasSquare_66 : decode cX12_hasSquare 66 = .ok (.iload 6, 2) := by decide +kernel
theorem dX12_hasSquare_68 : decode cX12_hasSquare 68 = .ok (.iload 6, 2) := by decide +kernel
theorem dX12_hasSquare_70 : decode cX12_hasSquare 70 = .ok (.imul, 1) := by decide +kernel
theorem dX12_hasSquare_71 : decode cX12_hasSquare 71 = .ok (.iadd, 1) := by decide +kernel
theorem dX12_hasSquare_72 : decode cX12_hasSquare 72 = .ok (.istore 7, 2) := by decide +kernel
theorem dX12_hasSquare_74 : decode cX12_hasSquare 74 = .ok (.iload 5, 2) := by decide +kernel
theorem dX12_hasSquare_76 : decode cX12_hasSquare 76 = .ok (.aload_n 0, 1) := by decide +kernel
theorem dX12_hasSquare_77 : decode cX12_hasSquare 77 = .ok (.getfield 9, 3) := by decide +kernel
theorem dX12_hasSquare_80 : decode cX12_hasSquare 80 = .ok (.bipush 57, 2) := by decide +kernel
theorem dX12_hasSquare_82 : decode cX12_hasSquare 82 = .ok (.iload_n 3, 1) := by decide +kernel
theorem dX12_hasSquare_83 : decode cX12_hasSquare 83 = .ok (.iadd, 1) := by decide +kernel
theorem dX12_hasSquare_84 : decode cX12_hasSquare 84 = .ok (.iaload, 1) := by decide +kernel
theorem dX12_hasSquare_85 : decode cX12_hasSquare 85 = .ok (.if_icmp .ge 19, 3) := by decide +kernel
theorem dX12_hasSquare_88 : decode cX12_hasSquare 88 = .ok (.iload 5, 2) := by decide +kernel
theorem dX12_hasSquare_90 : decode cX12_hasSquare 90 = .ok (.iload 5, 2) := by decide +kernel
theorem dX12_hasSquare_92 : decode cX12_hasSquare 92 = .ok (.imul, 1) := by decide +kernel
theorem dX12_hasSquare_93 : decode cX12_hasSquare 93 = .ok (.iload 7, 2) := by decide +kernel
theorem dX12_hasSquare_95 : decode cX12_hasSquare 95 = .ok (.if_icmp .ge 9, 3) := by decide +kernel
theorem dX12_hasSquare_98 : decode cX12_hasSquare 98 = .ok (.iinc 5 1, 3) := by decide +kernel
theorem dX12_hasSquare_101 : decode cX12_hasSquare 101 = .ok (.goto (-27), 3) := by decide +kernel
theorem dX12_hasSquare_104 : decode cX12_hasSquare 104 = .ok (.iload 5, 2) := by decide +kernel
theorem dX12_hasSquare_106 : decode cX12_hasSquare 106 = .ok (.iload 5, 2) := by decide +kernel
theorem dX12_hasSquare_108 : decode cX12_hasSquare 108 = .ok (.imul, 1) := by decide +kernel
theorem dX12_hasSquare_109 : decode cX12_hasSquare 109 = .ok (.iload 7, 2) := by decide +kernel
theorem dX12_hasSquare_111 : decode cX12_hasSquare 111 = .ok (.if_icmp .ne 5, 3) := by decide +kernel
theorem dX12_hasSquare_114 : decode cX12_hasSquare 114 = .ok (.iconst 1, 1) := by decide +kernel
theorem dX12_hasSquare_115 : decode cX12_hasSquare 115 = .ok (.ireturn, 1) := by decide +kernel
theorem dX12_hasSquare_116 : decode cX12_hasSquare 116 = .ok (.iinc 6 1, 3) := by decide +kernel
theorem dX12_hasSquare_119 : decode cX12_hasSquare 119 = .ok (.goto (-72), 3) := by decide +kernel
theorem dX12_hasSquare_122 : decode cX12_hasSquare 122 = .ok (.iinc 4 1, 3) := by decide +kernel
theorem dX12_hasSquare_125 : decode cX12_hasSquare 125 = .ok (.goto (-114), 3) := by decide +kernel
theorem dX12_hasSquare_128 : decode cX12_hasSquare 128 = .ok (.iconst 0, 1) := by decide +kernel
theorem dX12_hasSquare_129 : decode cX12_hasSquare 129 = .ok (.ireturn, 1) := by decide +kernel
def f_X12_hasSquare_104 (K11 : St → Int32 → Int32 → Int32 → Int32 → Int32) (K47 : St → Int32 → Int32 → Int32 → Int32 → Int32 → Int32 → Int32) (σ : St) (a1 : Int32) (a2 : Int32) (a3 : Int32) (a4 : Int32) (a5 : Int32) (a6 : Int32) (a7 : Int32) : Int32 := (if (a5 * a5) = a7 then (1 : Int32) else (K47 σ a1 a2 a3 a4 a5 (a6 + (1 : Int32))))
set_option maxHeartbeats 600000 in
set_option maxRecDepth 100000 in
theorem b_X12_hasSquare_104 {g : GG} {p : Program} {l : Launch} {e : Env} {s : State} {m : MethodId} {args : Array Value} {below : List Frame} {meth : Method} {c : Code}  {tgt : Int32} {K11 : St → Int32 → Int32 → Int32 → Int32 → Int32} {N11 : Nat} {K47 : St → Int32 → Int32 → Int32 → Int32 → Int32 → Int32 → Int32} {N47 : Nat} (C0 : BC p s m args meth c cX12_hasSquare RX12 8 (some .boolean)) (hK11 : ∀ (σ : St) (a1 : Int32) (a2 : Int32) (a3 : Int32) (a4 : Int32), (IB (σ 1)) → (0 ≤ a1.toInt) → (a1.toInt < 6) → (0 ≤ a2.toInt) → (a2.toInt < 6) → (0 ≤ a3.toInt) → (a3.toInt < 6) → (0 ≤ a4.toInt) → ((σ 1 (ix (57 + a1))).toInt - a4.toInt + 1).toNat < N11 → KK g s → va_P g.1 vwCl ((mW g) σ) s.heap → va_D (fun _ => True) ((mW g) σ) → ∀ {ls : Array Slot}, lv_has ls 8 [(0, .ref (g.2.2 100)), (1, .int (a1)), (2, .int (a2)), (3, .int (a3)), (4, .int (a4))] → K11 σ a1 a2 a3 a4 = tgt → W p l e { frames := 0, cells := 0, slots := 0, locals := 0 } s m args below meth c s.heap [] 0 0 (QPI below args s tgt) (F0 m 11 ls [])) (hK47 : ∀ (σ : St) (a1 : Int32) (a2 : Int32) (a3 : Int32) (a4 : Int32) (a5 : Int32) (a6 : Int32), (IB (σ 1)) → (0 ≤ a1.toInt) → (a1.toInt < 6) → (0 ≤ a2.toInt) → (a2.toInt < 6) → (0 ≤ a3.toInt) → (a3.toInt < 6) → (0 ≤ a4.toInt) → (a4.toInt ≤ (σ 1 (ix (57 + a1))).toInt) → (((σ 1 (ix (57 + a1))).toInt - a4.toInt + 1).toNat < N11 + 1) → (0 ≤ a5.toInt) → (0 ≤ a6.toInt) → ((σ 1 (ix (57 + a2))).toInt - a6.toInt + 1).toNat < N47 → KK g s → va_P g.1 vwCl ((mW g) σ) s.heap → va_D (fun _ => True) ((mW g) σ) → ∀ {ls : Array Slot}, lv_has ls 8 [(0, .ref (g.2.2 100)), (1, .int (a1)), (2, .int (a2)), (3, .int (a3)), (4, .int (a4)), (5, .int (a5)), (6, .int (a6))] → K47 σ a1 a2 a3 a4 a5 a6 = tgt → W p l e { frames := 0, cells := 0, slots := 0, locals := 0 } s m args below meth c s.heap [] 0 0 (QPI below args s tgt) (F0 m 47 ls [])) {σ : St} {a1 : Int32} {a2 : Int32} {a3 : Int32} {a4 : Int32} {a5 : Int32} {a6 : Int32} {a7 : Int32}  (hI : IB (σ 1)) (h1 : 0 ≤ a1.toInt) (h1b : a1.toInt < 6) (h2 : 0 ≤ a2.toInt) (h2b : a2.toInt < 6) (h3 : 0 ≤ a3.toInt) (h3b : a3.toInt < 6) (h4 : 0 ≤ a4.toInt) (h4c : a4.toInt ≤ (σ 1 (ix (57 + a1))).toInt) (hm11 : ((σ 1 (ix (57 + a1))).toInt - a4.toInt + 1).toNat < N11 + 1) (h5 : 0 ≤ a5.toInt) (h6 : 0 ≤ a6.toInt) (h6c : a6.toInt ≤ (σ 1 (ix (57 + a2))).toInt) (hm47 : ((σ 1 (ix (57 + a2))).toInt - a6.toInt + 1).toNat < N47 + 1)  (hK : KK g s) (hP : va_P g.1 vwCl ((mW g) σ) s.heap) (hDD : va_D (fun _ => True) ((mW g) σ)) {ls : Array Slot} (hl : lv_has ls 8 [(0, .ref (g.2.2 100)), (1, .int (a1)), (2, .int (a2)), (3, .int (a3)), (4, .int (a4)), (5, .int (a5)), (6, .int (a6)), (7, .int (a7))]) (hT : f_X12_hasSquare_104 K11 K47 σ a1 a2 a3 a4 a5 a6 a7 = tgt) : W p l e { frames := 0, cells := 0, slots := 0, locals := 0 } s m args below meth c s.heap [] 0 0 (QPI below args s tgt) (F0 m 104 ls []) := by
  obtain ⟨hx, hb, hr, hml, hown, hts, hlocks⟩ := id C0
  unfold f_X12_hasSquare_104 at hT
  obtain ⟨⟨i0, i0'⟩, ⟨i1, i1'⟩, ⟨i2, i2'⟩, ⟨i3, i3'⟩, ⟨i4, i4'⟩, ⟨i5, i5'⟩, ⟨i6, i6'⟩, ⟨i7, i7'⟩, ⟨i8, i8'⟩, iK, iV, iL, iR, iW, iY, iG, iM, iB, iQ, iP, iT, iU⟩ := id hI
  obtain ⟨w11, w12, w13⟩ := IB_w hI h1 h1b
  obtain ⟨w21, w22, w23⟩ := IB_w hI h2 h2b
  obtain ⟨w31, w32, w33⟩ := IB_w hI h3 h3b
  refine lv_iload hx hb dX12_hasSquare_104 (lv_at hl 5 rfl) ?_
  refine lv_iload hx hb dX12_hasSquare_106 (lv_at hl 5 rfl) ?_
  refine lv_imul hx hb dX12_hasSquare_108 ?_
  refine lv_iload hx hb dX12_hasSquare_109 (lv_at hl 7 rfl) ?_
  refine lv_icmp_ne (tgt := 116) hx hb dX12_hasSquare_111 (by decide) (fun c_111 => ?_) (fun c_111 => ?_)
  · have hT := hT_neg c_111 hT
    refine lv_iinc (v := (a6 + (1 : Int32))) (lv' := [(6, .int ((a6 + (1 : Int32)))), (0, .ref (g.2.2 100)), (1, .int (a1)), (2, .int (a2)), (3, .int (a3)), (4, .int (a4)), (5, .int (a5)), (7, .int (a7))]) hx hb dX12_hasSquare_116 hl (k := 6) rfl rfl (by decide) rfl (fun ls hl => ?_)
    refine lv_goto (tgt := 47) hx hb dX12_hasSquare_119 (by decide) ?_
    have j119_h6 : 0 ≤ (a6 + (1 : Int32)).toInt := by
      have : ((1 : Int32)).toInt = 1 := by decide
      have := mt ti_eq.mpr c_111
      try have := ti_add (a := a6) (b := (1 : Int32)) (by omega) (by omega)
      omega
    have j119_m : ((σ 1 (ix (57 + a2))).toInt - (a6 + (1 : Int32)).toInt + 1).toNat < N47 := by
      have : ((1 : Int32)).toInt = 1 := by decide
      have := mt ti_eq.mpr c_111
      try have := ti_add (a := a6) (b := (1 : Int32)) (by omega) (by omega)
      omega
    exact hK47 σ a1 a2 a3 a4 a5 (a6 + (1 : Int32)) hI h1 h1b h2 h2b h3 h3b h4 h4c hm11 h5 j119_h6 j119_m hK hP hDD (lv_sub hl [1, 2, 3, 4, 5, 6, 0] rfl) hT
  · have hT := hT_pos c_111 hT
    refine lv_iconst (v := (1 : Int32)) hx hb dX12_hasSquare_114 (by decide) ?_
    exact ret_PZ C0 (nz_of (Or.inr rfl)) hT dX12_hasSquare_115
def f_X12_hasSquare_74 (K11 : St → Int32 → Int32 → Int32 → Int32 → Int32) (K47 : St → Int32 → Int32 → Int32 → Int32 → Int32 → Int32 → Int32) (K74 : St → Int32 → Int32 → Int32 → Int32 → Int32 → Int32 → Int32 → Int32) (σ : St) (a1 : Int32) (a2 : Int32) (a3 : Int32) (a4 : Int32) (a5 : Int32) (a6 : Int32) (a7 : Int32) : Int32 := (if (σ 1 (ix ((57 : Int32) + a3))) ≤ a5 then (f_X12_hasSquare_104 K11 K47 σ a1 a2 a3 a4 a5 a6 a7) else (if a7 ≤ (a5 * a5) then (f_X12_hasSquare_104 K11 K47 σ a1 a2 a3 a4 a5 a6 a7) else (K74 σ a1 a2 a3 a4 (a5 + (1 : Int32)) a6 a7)))
set_option maxHeartbeats 600000 in
set_option maxRecDepth 100000 in
theorem b_X12_hasSquare_74 {g : GG} {p : Program} {l : Launch} {e : Env} {s : State} {m : MethodId} {args : Array Value} {below : List Frame} {meth : Method} {c : Code}  {tgt : Int32} {K11 : St → Int32 → Int32 → Int32 → Int32 → Int32} {N11 : Nat} {K47 : St → Int32 → Int32 → Int32 → Int32 → Int32 → Int32 → Int32} {N47 : Nat} {K74 : St → Int32 → Int32 → Int32 → Int32 → Int32 → Int32 → Int32 → Int32} {N74 : Nat} (C0 : BC p s m args meth c cX12_hasSquare RX12 8 (some .boolean)) (hK11 : ∀ (σ : St) (a1 : Int32) (a2 : Int32) (a3 : Int32) (a4 : Int32), (IB (σ 1)) → (0 ≤ a1.toInt) → (a1.toInt < 6) → (0 ≤ a2.toInt) → (a2.toInt < 6) → (0 ≤ a3.toInt) → (a3.toInt < 6) → (0 ≤ a4.toInt) → ((σ 1 (ix (57 + a1))).toInt - a4.toInt + 1).toNat < N11 → KK g s → va_P g.1 vwCl ((mW g) σ) s.heap → va_D (fun _ => True) ((mW g) σ) → ∀ {ls : Array Slot}, lv_has ls 8 [(0, .ref (g.2.2 100)), (1, .int (a1)), (2, .int (a2)), (3, .int (a3)), (4, .int (a4))] → K11 σ a1 a2 a3 a4 = tgt → W p l e { frames := 0, cells := 0, slots := 0, locals := 0 } s m args below meth c s.heap [] 0 0 (QPI below args s tgt) (F0 m 11 ls [])) (hK47 : ∀ (σ : St) (a1 : Int32) (a2 : Int32) (a3 : Int32) (a4 : Int32) (a5 : Int32) (a6 : Int32), (IB (σ 1)) → (0 ≤ a1.toInt) → (a1.toInt < 6) → (0 ≤ a2.toInt) → (a2.toInt < 6) → (0 ≤ a3.toInt) → (a3.toInt < 6) → (0 ≤ a4.toInt) → (a4.toInt ≤ (σ 1 (ix (57 + a1))).toInt) → (((σ 1 (ix (57 + a1))).toInt - a4.toInt + 1).toNat < N11 + 1) → (0 ≤ a5.toInt) → (0 ≤ a6.toInt) → ((σ 1 (ix (57 + a2))).toInt - a6.toInt + 1).toNat < N47 → KK g s → va_P g.1 vwCl ((mW g) σ) s.heap → va_D (fun _ => True) ((mW g) σ) → ∀ {ls : Array Slot}, lv_has ls 8 [(0, .ref (g.2.2 100)), (1, .int (a1)), (2, .int (a2)), (3, .int (a3)), (4, .int (a4)), (5, .int (a5)), (6, .int (a6))] → K47 σ a1 a2 a3 a4 a5 a6 = tgt → W p l e { frames := 0, cells := 0, slots := 0, locals := 0 } s m args below meth c s.heap [] 0 0 (QPI below args s tgt) (F0 m 47 ls [])) (hK74 : ∀ (σ : St) (a1 : Int32) (a2 : Int32) (a3 : Int32) (a4 : Int32) (a5 : Int32) (a6 : Int32) (a7 : Int32), (IB (σ 1)) → (0 ≤ a1.toInt) → (a1.toInt < 6) → (0 ≤ a2.toInt) → (a2.toInt < 6) → (0 ≤ a3.toInt) → (a3.toInt < 6) → (0 ≤ a4.toInt) → (a4.toInt ≤ (σ 1 (ix (57 + a1))).toInt) → (((σ 1 (ix (57 + a1))).toInt - a4.toInt + 1).toNat < N11 + 1) → (0 ≤ a5.toInt) → (0 ≤ a6.toInt) → (a6.toInt ≤ (σ 1 (ix (57 + a2))).toInt) → (((σ 1 (ix (57 + a2))).toInt - a6.toInt + 1).toNat < N47 + 1) → ((σ 1 (ix (57 + a3))).toInt - a5.toInt + 1).toNat < N74 → KK g s → va_P g.1 vwCl ((mW g) σ) s.heap → va_D (fun _ => True) ((mW g) σ) → ∀ {ls : Array Slot}, lv_has ls 8 [(0, .ref (g.2.2 100)), (1, .int (a1)), (2, .int (a2)), (3, .int (a3)), (4, .int (a4)), (5, .int (a5)), (6, .int (a6)), (7, .int (a7))] → K74 σ a1 a2 a3 a4 a5 a6 a7 = tgt → W p l e { frames := 0, cells := 0, slots := 0, locals := 0 } s m args below meth c s.heap [] 0 0 (QPI below args s tgt) (F0 m 74 ls [])) {σ : St} {a1 : Int32} {a2 : Int32} {a3 : Int32} {a4 : Int32} {a5 : Int32} {a6 : Int32} {a7 : Int32}  (hI : IB (σ 1)) (h1 : 0 ≤ a1.toInt) (h1b : a1.toInt < 6) (h2 : 0 ≤ a2.toInt) (h2b : a2.toInt < 6) (h3 : 0 ≤ a3.toInt) (h3b : a3.toInt < 6) (h4 : 0 ≤ a4.toInt) (h4c : a4.toInt ≤ (σ 1 (ix (57 + a1))).toInt) (hm11 : ((σ 1 (ix (57 + a1))).toInt - a4.toInt + 1).toNat < N11 + 1) (h5 : 0 ≤ a5.toInt) (h6 : 0 ≤ a6.toInt) (h6c : a6.toInt ≤ (σ 1 (ix (57 + a2))).toInt) (hm47 : ((σ 1 (ix (57 + a2))).toInt - a6.toInt + 1).toNat < N47 + 1) (hm : ((σ 1 (ix (57 + a3))).toInt - a5.toInt + 1).toNat < N74 + 1) (hK : KK g s) (hP : va_P g.1 vwCl ((mW g) σ) s.heap) (hDD : va_D (fun _ => True) ((mW g) σ)) {ls : Array Slot} (hl : lv_has ls 8 [(0, .ref (g.2.2 100)), (1, .int (a1)), (2, .int (a2)), (3, .int (a3)), (4, .int (a4)), (5, .int (a5)), (6, .int (a6)), (7, .int (a7))]) (hT : f_X12_hasSquare_74 K11 K47 K74 σ a1 a2 a3 a4 a5 a6 a7 = tgt) : W p l e { frames := 0, cells := 0, slots := 0, locals := 0 } s m args below meth c s.heap [] 0 0 (QPI below args s tgt) (F0 m 74 ls []) := by
  obtain ⟨hx, hb, hr, hml, hown, hts, hlocks⟩ := id C0
  unfold f_X12_hasSquare_74 at hT
  obtain ⟨⟨i0, i0'⟩, ⟨i1, i1'⟩, ⟨i2, i2'⟩, ⟨i3, i3'⟩, ⟨i4, i4'⟩, ⟨i5, i5'⟩, ⟨i6, i6'⟩, ⟨i7, i7'⟩, ⟨i8, i8'⟩, iK, iV, iL, iR, iW, iY, iG, iM, iB, iQ, iP, iT, iU⟩ := id hI
  obtain ⟨w11, w12, w13⟩ := IB_w hI h1 h1b
  obtain ⟨w21, w22, w23⟩ := IB_w hI h2 h2b
  obtain ⟨w31, w32, w33⟩ := IB_w hI h3 h3b
  refine lv_iload hx hb dX12_hasSquare_74 (lv_at hl 5 rfl) ?_
  refine lv_aload_n hx hb dX12_hasSquare_76 rfl (lv_at hl 0 rfl) ?_
  refine m_get (σ := σ) (v := .ref (g.2.2 1)) C0 hK hP 1 (by decide) rfl w_968 dX12_hasSquare_77 ?_
  refine lv_bipush (v := (57 : Int32)) hx hb dX12_hasSquare_80 (by decide) ?_
  refine lv_iload_n hx hb dX12_hasSquare_82 rfl (lv_at hl 3 rfl) ?_
  refine lv_iadd hx hb dX12_hasSquare_83 ?_
  have o_84 : vp_in ((57 : Int32) + a3) 916 := by
    have : ((57 : Int32)).toInt = 57 := by decide
    try have := ti_add (a := (57 : Int32)) (b := a3) (by omega) (by omega)
    exact vin (by omega) (by omega)
  refine m_ald (σ := σ) C0 hK hP 1 1 916 rfl o_84 (ix ((57 : Int32) + a3)) rfl dX12_hasSquare_84 ?_
  refine lv_icmp_ge (tgt := 104) hx hb dX12_hasSquare_85 (by decide) (fun c_85 => ?_) (fun c_85 => ?_)
  · have hT := hT_pos c_85 hT
    exact b_X12_hasSquare_104  (σ := σ) (a1 := a1) (a2 := a2) (a3 := a3) (a4 := a4) (a5 := a5) (a6 := a6) (a7 := a7) C0 hK11 hK47 hI h1 h1b h2 h2b h3 h3b h4 h4c hm11 h5 h6 h6c hm47 hK hP hDD hl hT
  · have hT := hT_neg c_85 hT
    refine lv_iload hx hb dX12_hasSquare_88 (lv_at hl 5 rfl) ?_
    refine lv_iload hx hb dX12_hasSquare_90 (lv_at hl 5 rfl) ?_
    refine lv_imul hx hb dX12_hasSquare_92 ?_
    refine lv_iload hx hb dX12_hasSquare_93 (lv_at hl 7 rfl) ?_
    refine lv_icmp_ge (tgt := 104) hx hb dX12_hasSquare_95 (by decide) (fun c_95 => ?_) (fun c_95 => ?_)
    · have hT := hT_pos c_95 hT
      exact b_X12_hasSquare_104  (σ := σ) (a1 := a1) (a2 := a2) (a3 := a3) (a4 := a4) (a5 := a5) (a6 := a6) (a7 := a7) C0 hK11 hK47 hI h1 h1b h2 h2b h3 h3b h4 h4c hm11 h5 h6 h6c hm47 hK hP hDD hl hT
    · have hT := hT_neg c_95 hT
      refine lv_iinc (v := (a5 + (1 : Int32))) (lv' := [(5, .int ((a5 + (1 : Int32)))), (0, .ref (g.2.2 100)), (1, .int (a1)), (2, .int (a2)), (3, .int (a3)), (4, .int (a4)), (6, .int (a6)), (7, .int (a7))]) hx hb dX12_hasSquare_98 hl (k := 5) rfl rfl (by decide) rfl (fun ls hl => ?_)
      refine lv_goto (tgt := 74) hx hb dX12_hasSquare_101 (by decide) ?_
      have j101_h5 : 0 ≤ (a5 + (1 : Int32)).toInt := by
        have : ((1 : Int32)).toInt = 1 := by decide
        have := mt ti_le.mpr c_85
        have := mt ti_le.mpr c_95
        try have := ti_add (a := a5) (b := (1 : Int32)) (by omega) (by omega)
        omega
      have j101_m : ((σ 1 (ix (57 + a3))).toInt - (a5 + (1 : Int32)).toInt + 1).toNat < N74 := by
        have : ((1 : Int32)).toInt = 1 := by decide
        have := mt ti_le.mpr c_85
        have := mt ti_le.mpr c_95
        try have := ti_add (a := a5) (b := (1 : Int32)) (by omega) (by omega)
        omega
      exact hK74 σ a1 a2 a3 a4 (a5 + (1 : Int32)) a6 a7 hI h1 h1b h2 h2b h3 h3b h4 h4c hm11 j101_h5 h6 h6c hm47 j101_m hK hP hDD (lv_sub hl [1, 2, 3, 4, 5, 0, 6, 7] rfl) hT
def g_X12_hasSquare_74 (K11 : St → Int32 → Int32 → Int32 → Int32 → Int32) (K47 : St → Int32 → Int32 → Int32 → Int32 → Int32 → Int32 → Int32) : Nat → St → Int32 → Int32 → Int32 → Int32 → Int32 → Int32 → Int32 → Int32
  | 0 => fun σ a1 a2 a3 a4 a5 a6 a7 => 0
  | n + 1 => fun σ a1 a2 a3 a4 a5 a6 a7 => f_X12_hasSquare_74 K11 K47 (g_X12_hasSquare_74 K11 K47 n) σ a1 a2 a3 a4 a5 a6 a7
theorem l_X12_hasSquare_74 {g : GG} {p : Program} {l : Launch} {e : Env} {s : State} {m : MethodId} {args : Array Value} {below : List Frame} {meth : Method} {c : Code}  {tgt : Int32} {K11 : St → Int32 → Int32 → Int32 → Int32 → Int32} {N11 : Nat} {K47 : St → Int32 → Int32 → Int32 → Int32 → Int32 → Int32 → Int32} {N47 : Nat} (C0 : BC p s m args meth c cX12_hasSquare RX12 8 (some .boolean)) (hK11 : ∀ (σ : St) (a1 : Int32) (a2 : Int32) (a3 : Int32) (a4 : Int32), (IB (σ 1)) → (0 ≤ a1.toInt) → (a1.toInt < 6) → (0 ≤ a2.toInt) → (a2.toInt < 6) → (0 ≤ a3.toInt) → (a3.toInt < 6) → (0 ≤ a4.toInt) → ((σ 1 (ix (57 + a1))).toInt - a4.toInt + 1).toNat < N11 → KK g s → va_P g.1 vwCl ((mW g) σ) s.heap → va_D (fun _ => True) ((mW g) σ) → ∀ {ls : Array Slot}, lv_has ls 8 [(0, .ref (g.2.2 100)), (1, .int (a1)), (2, .int (a2)), (3, .int (a3)), (4, .int (a4))] → K11 σ a1 a2 a3 a4 = tgt → W p l e { frames := 0, cells := 0, slots := 0, locals := 0 } s m args below meth c s.heap [] 0 0 (QPI below args s tgt) (F0 m 11 ls [])) (hK47 : ∀ (σ : St) (a1 : Int32) (a2 : Int32) (a3 : Int32) (a4 : Int32) (a5 : Int32) (a6 : Int32), (IB (σ 1)) → (0 ≤ a1.toInt) → (a1.toInt < 6) → (0 ≤ a2.toInt) → (a2.toInt < 6) → (0 ≤ a3.toInt) → (a3.toInt < 6) → (0 ≤ a4.toInt) → (a4.toInt ≤ (σ 1 (ix (57 + a1))).toInt) → (((σ 1 (ix (57 + a1))).toInt - a4.toInt + 1).toNat < N11 + 1) → (0 ≤ a5.toInt) → (0 ≤ a6.toInt) → ((σ 1 (ix (57 + a2))).toInt - a6.toInt + 1).toNat < N47 → KK g s → va_P g.1 vwCl ((mW g) σ) s.heap → va_D (fun _ => True) ((mW g) σ) → ∀ {ls : Array Slot}, lv_has ls 8 [(0, .ref (g.2.2 100)), (1, .int (a1)), (2, .int (a2)), (3, .int (a3)), (4, .int (a4)), (5, .int (a5)), (6, .int (a6))] → K47 σ a1 a2 a3 a4 a5 a6 = tgt → W p l e { frames := 0, cells := 0, slots := 0, locals := 0 } s m args below meth c s.heap [] 0 0 (QPI below args s tgt) (F0 m 47 ls [])) : ∀ (n : Nat) (σ : St) (a1 : Int32) (a2 : Int32) (a3 : Int32) (a4 : Int32) (a5 : Int32) (a6 : Int32) (a7 : Int32), (IB (σ 1)) → (0 ≤ a1.toInt) → (a1.toInt < 6) → (0 ≤ a2.toInt) → (a2.toInt < 6) → (0 ≤ a3.toInt) → (a3.toInt < 6) → (0 ≤ a4.toInt) → (a4.toInt ≤ (σ 1 (ix (57 + a1))).toInt) → (((σ 1 (ix (57 + a1))).toInt - a4.toInt + 1).toNat < N11 + 1) → (0 ≤ a5.toInt) → (0 ≤ a6.toInt) → (a6.toInt ≤ (σ 1 (ix (57 + a2))).toInt) → (((σ 1 (ix (57 + a2))).toInt - a6.toInt + 1).toNat < N47 + 1) → ((σ 1 (ix (57 + a3))).toInt - a5.toInt + 1).toNat < n → KK g s → va_P g.1 vwCl ((mW g) σ) s.heap → va_D (fun _ => True) ((mW g) σ) → ∀ {ls : Array Slot}, lv_has ls 8 [(0, .ref (g.2.2 100)), (1, .int (a1)), (2, .int (a2)), (3, .int (a3)), (4, .int (a4)), (5, .int (a5)), (6, .int (a6)), (7, .int (a7))] → g_X12_hasSquare_74 K11 K47 n σ a1 a2 a3 a4 a5 a6 a7 = tgt → W p l e { frames := 0, cells := 0, slots := 0, locals := 0 } s m args below meth c s.heap [] 0 0 (QPI below args s tgt) (F0 m 74 ls []) := by
  intro n
  induction n with
  | zero => intro σ a1 a2 a3 a4 a5 a6 a7 hI h1 h1b h2 h2b h3 h3b h4 h4c hm11 h5 h6 h6c hm47 hm; exact absurd hm (Nat.not_lt_zero _)
  | succ n ih =>
    intro σ a1 a2 a3 a4 a5 a6 a7 hI h1 h1b h2 h2b h3 h3b h4 h4c hm11 h5 h6 h6c hm47 hm  hK hP hDD ls hl hT
    exact b_X12_hasSquare_74  (K74 := g_X12_hasSquare_74 K11 K47 n) (N74 := n) C0 hK11 hK47 (fun σ a1 a2 a3 a4 a5 a6 a7 hI h1 h1b h2 h2b h3 h3b h4 h4c hm11 h5 h6 h6c hm47 hm2 => ih σ a1 a2 a3 a4 a5 a6 a7 hI h1 h1b h2 h2b h3 h3b h4 h4c hm11 h5 h6 h6c hm47 hm2) hI h1 h1b h2 h2b h3 h3b h4 h4c hm11 h5 h6 h6c hm47 hm hK hP hDD hl hT
def f_X12_hasSquare_47 (K11 : St → Int32 → Int32 → Int32 → Int32 → Int32) (K47 : St → Int32 → Int32 → Int32 → Int32 → Int32 → Int32 → Int32) (σ : St) (a1 : Int32) (a2 : Int32) (a3 : Int32) (a4 : Int32) (a5 : Int32) (a6 : Int32) : Int32 := (if (σ 1 (ix ((57 : Int32) + a2))) < a6 then (K11 σ a1 a2 a3 (a4 + (1 : Int32))) else (g_X12_hasSquare_74 K11 K47 (1001) σ a1 a2 a3 a4 a5 a6 ((a4 * a4) + (a6 * a6))))
set_option maxHeartbeats 600000 in
set_option maxRecDepth 100000 in
theorem b_X12_hasSquare_47 {g : GG} {p : Program} {l : Launch} {e : Env} {s : State} {m : MethodId} {args : Array Value} {below : List Frame} {meth : Method} {c : Code}  {tgt : Int32} {K11 : St → Int32 → Int32 → Int32 → Int32 → Int32} {N11 : Nat} {K47 : St → Int32 → Int32 → Int32 → Int32 → Int32 → Int32 → Int32} {N47 : Nat} (C0 : BC p s m args meth c cX12_hasSquare RX12 8 (some .boolean)) (hK11 : ∀ (σ : St) (a1 : Int32) (a2 : Int32) (a3 : Int32) (a4 : Int32), (IB (σ 1)) → (0 ≤ a1.toInt) → (a1.toInt < 6) → (0 ≤ a2.toInt) → (a2.toInt < 6) → (0 ≤ a3.toInt) → (a3.toInt < 6) → (0 ≤ a4.toInt) → ((σ 1 (ix (57 + a1))).toInt - a4.toInt + 1).toNat < N11 → KK g s → va_P g.1 vwCl ((mW g) σ) s.heap → va_D (fun _ => True) ((mW g) σ) → ∀ {ls : Array Slot}, lv_has ls 8 [(0, .ref (g.2.2 100)), (1, .int (a1)), (2, .int (a2)), (3, .int (a3)), (4, .int (a4))] → K11 σ a1 a2 a3 a4 = tgt → W p l e { frames := 0, cells := 0, slots := 0, locals := 0 } s m args below meth c s.heap [] 0 0 (QPI below args s tgt) (F0 m 11 ls [])) (hK47 : ∀ (σ : St) (a1 : Int32) (a2 : Int32) (a3 : Int32) (a4 : Int32) (a5 : Int32) (a6 : Int32), (IB (σ 1)) → (0 ≤ a1.toInt) → (a1.toInt < 6) → (0 ≤ a2.toInt) → (a2.toInt < 6) → (0 ≤ a3.toInt) → (a3.toInt < 6) → (0 ≤ a4.toInt) → (a4.toInt ≤ (σ 1 (ix (57 + a1))).toInt) → (((σ 1 (ix (57 + a1))).toInt - a4.toInt + 1).toNat < N11 + 1) → (0 ≤ a5.toInt) → (0 ≤ a6.toInt) → ((σ 1 (ix (57 + a2))).toInt - a6.toInt + 1).toNat < N47 → KK g s → va_P g.1 vwCl ((mW g) σ) s.heap → va_D (fun _ => True) ((mW g) σ) → ∀ {ls : Array Slot}, lv_has ls 8 [(0, .ref (g.2.2 100)), (1, .int (a1)), (2, .int (a2)), (3, .int (a3)), (4, .int (a4)), (5, .int (a5)), (6, .int (a6))] → K47 σ a1 a2 a3 a4 a5 a6 = tgt → W p l e { frames := 0, cells := 0, slots := 0, locals := 0 } s m args below meth c s.heap [] 0 0 (QPI below args s tgt) (F0 m 47 ls [])) {σ : St} {a1 : Int32} {a2 : Int32} {a3 : Int32} {a4 : Int32} {a5 : Int32} {a6 : Int32}  (hI : IB (σ 1)) (h1 : 0 ≤ a1.toInt) (h1b : a1.toInt < 6) (h2 : 0 ≤ a2.toInt) (h2b : a2.toInt < 6) (h3 : 0 ≤ a3.toInt) (h3b : a3.toInt < 6) (h4 : 0 ≤ a4.toInt) (h4c : a4.toInt ≤ (σ 1 (ix (57 + a1))).toInt) (hm11 : ((σ 1 (ix (57 + a1))).toInt - a4.toInt + 1).toNat < N11 + 1) (h5 : 0 ≤ a5.toInt) (h6 : 0 ≤ a6.toInt) (hm : ((σ 1 (ix (57 + a2))).toInt - a6.toInt + 1).toNat < N47 + 1) (hK : KK g s) (hP : va_P g.1 vwCl ((mW g) σ) s.heap) (hDD : va_D (fun _ => True) ((mW g) σ)) {ls : Array Slot} (hl : lv_has ls 8 [(0, .ref (g.2.2 100)), (1, .int (a1)), (2, .int (a2)), (3, .int (a3)), (4, .int (a4)), (5, .int (a5)), (6, .int (a6))]) (hT : f_X12_hasSquare_47 K11 K47 σ a1 a2 a3 a4 a5 a6 = tgt) : W p l e { frames := 0, cells := 0, slots := 0, locals := 0 } s m args below meth c s.heap [] 0 0 (QPI below args s tgt) (F0 m 47 ls []) := by
  obtain ⟨hx, hb, hr, hml, hown, hts, hlocks⟩ := id C0
  unfold f_X12_hasSquare_47 at hT
  obtain ⟨⟨i0, i0'⟩, ⟨i1, i1'⟩, ⟨i2, i2'⟩, ⟨i3, i3'⟩, ⟨i4, i4'⟩, ⟨i5, i5'⟩, ⟨i6, i6'⟩, ⟨i7, i7'⟩, ⟨i8, i8'⟩, iK, iV, iL, iR, iW, iY, iG, iM, iB, iQ, iP, iT, iU⟩ := id hI
  obtain ⟨w11, w12, w13⟩ := IB_w hI h1 h1b
  obtain ⟨w21, w22, w23⟩ := IB_w hI h2 h2b
  obtain ⟨w31, w32, w33⟩ := IB_w hI h3 h3b
  refine lv_iload hx hb dX12_hasSquare_47 (lv_at hl 6 rfl) ?_
  refine lv_aload_n hx hb dX12_hasSquare_49 rfl (lv_at hl 0 rfl) ?_
  refine m_get (σ := σ) (v := .ref (g.2.2 1)) C0 hK hP 1 (by decide) rfl w_968 dX12_hasSquare_50 ?_
  refine lv_bipush (v := (57 : Int32)) hx hb dX12_hasSquare_53 (by decide) ?_
  refine lv_iload_n hx hb dX12_hasSquare_55 rfl (lv_at hl 2 rfl) ?_
  refine lv_iadd hx hb dX12_hasSquare_56 ?_
  have o_57 : vp_in ((57 : Int32) + a2) 916 := by
    have : ((57 : Int32)).toInt = 57 := by decide
    try have := ti_add (a := (57 : Int32)) (b := a2) (by omega) (by omega)
    exact vin (by omega) (by omega)
  refine m_ald (σ := σ) C0 hK hP 1 1 916 rfl o_57 (ix ((57 : Int32) + a2)) rfl dX12_hasSquare_57 ?_
  refine lv_icmp_gt (tgt := 122) hx hb dX12_hasSquare_58 (by decide) (fun c_58 => ?_) (fun c_58 => ?_)
  · have hT := hT_pos c_58 hT
    refine lv_iinc (v := (a4 + (1 : Int32))) (lv' := [(4, .int ((a4 + (1 : Int32)))), (0, .ref (g.2.2 100)), (1, .int (a1)), (2, .int (a2)), (3, .int (a3)), (5, .int (a5)), (6, .int (a6))]) hx hb dX12_hasSquare_122 hl (k := 4) rfl rfl (by decide) rfl (fun ls hl => ?_)
    refine lv_goto (tgt := 11) hx hb dX12_hasSquare_125 (by decide) ?_
    have j125_h4 : 0 ≤ (a4 + (1 : Int32)).toInt := by
      have : ((1 : Int32)).toInt = 1 := by decide
      have := ti_lt.mp c_58
      try have := ti_add (a := a4) (b := (1 : Int32)) (by omega) (by omega)
      omega
    have j125_m : ((σ 1 (ix (57 + a1))).toInt - (a4 + (1 : Int32)).toInt + 1).toNat < N11 := by
      have : ((1 : Int32)).toInt = 1 := by decide
      have := ti_lt.mp c_58
      try have := ti_add (a := a4) (b := (1 : Int32)) (by omega) (by omega)
      omega
    exact hK11 σ a1 a2 a3 (a4 + (1 : Int32)) hI h1 h1b h2 h2b h3 h3b j125_h4 j125_m hK hP hDD (lv_sub hl [1, 2, 3, 4, 0] rfl) hT
  · have hT := hT_neg c_58 hT
    refine lv_iload hx hb dX12_hasSquare_61 (lv_at hl 4 rfl) ?_
    refine lv_iload hx hb dX12_hasSquare_63 (lv_at hl 4 rfl) ?_
    refine lv_imul hx hb dX12_hasSquare_65 ?_
    refine lv_iload hx hb dX12_hasSquare_66 (lv_at hl 6 rfl) ?_
    refine lv_iload hx hb dX12_hasSquare_68 (lv_at hl 6 rfl) ?_
    refine lv_imul hx hb dX12_hasSquare_70 ?_
    refine lv_iadd hx hb dX12_hasSquare_71 ?_
    refine lv_istore (lv' := [(7, .int (((a4 * a4) + (a6 * a6)))), (0, .ref (g.2.2 100)), (1, .int (a1)), (2, .int (a2)), (3, .int (a3)), (4, .int (a4)), (5, .int (a5)), (6, .int (a6))]) hx hb dX12_hasSquare_72 hl (by decide) rfl (fun ls hl => ?_)
    have j72_h6c : a6.toInt ≤ (σ 1 (ix (57 + a2))).toInt := by
      have := mt ti_lt.mpr c_58
      try have := ti_add (a := (a4 * a4)) (b := (a6 * a6)) (by omega) (by omega)
      omega
    have j72_hm47 : ((σ 1 (ix (57 + a2))).toInt - a6.toInt + 1).toNat < N47 + 1 := by
      have := mt ti_lt.mpr c_58
      try have := ti_add (a := (a4 * a4)) (b := (a6 * a6)) (by omega) (by omega)
      omega
    have j72_m : ((σ 1 (ix (57 + a3))).toInt - a5.toInt + 1).toNat < 1001 := by
      have := mt ti_lt.mpr c_58
      try have := ti_add (a := (a4 * a4)) (b := (a6 * a6)) (by omega) (by omega)
      omega
    exact l_X12_hasSquare_74  C0 hK11 hK47  (1001) σ a1 a2 a3 a4 a5 a6 ((a4 * a4) + (a6 * a6)) hI h1 h1b h2 h2b h3 h3b h4 h4c hm11 h5 h6 j72_h6c j72_hm47 j72_m hK hP hDD (lv_sub hl [1, 2, 3, 4, 5, 6, 7, 0] rfl) hT
def g_X12_hasSquare_47 (K11 : St → Int32 → Int32 → Int32 → Int32 → Int32) : Nat → St → Int32 → Int32 → Int32 → Int32 → Int32 → Int32 → Int32
  | 0 => fun σ a1 a2 a3 a4 a5 a6 => 0
  | n + 1 => fun σ a1 a2 a3 a4 a5 a6 => f_X12_hasSquare_47 K11 (g_X12_hasSquare_47 K11 n) σ a1 a2 a3 a4 a5 a6
theorem l_X12_hasSquare_47 {g : GG} {p : Program} {l : Launch} {e : Env} {s : State} {m : MethodId} {args : Array Value} {below : List Frame} {meth : Method} {c : Code}  {tgt : Int32} {K11 : St → Int32 → Int32 → Int32 → Int32 → Int32} {N11 : Nat} (C0 : BC p s m args meth c cX12_hasSquare RX12 8 (some .boolean)) (hK11 : ∀ (σ : St) (a1 : Int32) (a2 : Int32) (a3 : Int32) (a4 : Int32), (IB (σ 1)) → (0 ≤ a1.toInt) → (a1.toInt < 6) → (0 ≤ a2.toInt) → (a2.toInt < 6) → (0 ≤ a3.toInt) → (a3.toInt < 6) → (0 ≤ a4.toInt) → ((σ 1 (ix (57 + a1))).toInt - a4.toInt + 1).toNat < N11 → KK g s → va_P g.1 vwCl ((mW g) σ) s.heap → va_D (fun _ => True) ((mW g) σ) → ∀ {ls : Array Slot}, lv_has ls 8 [(0, .ref (g.2.2 100)), (1, .int (a1)), (2, .int (a2)), (3, .int (a3)), (4, .int (a4))] → K11 σ a1 a2 a3 a4 = tgt → W p l e { frames := 0, cells := 0, slots := 0, locals := 0 } s m args below meth c s.heap [] 0 0 (QPI below args s tgt) (F0 m 11 ls [])) : ∀ (n : Nat) (σ : St) (a1 : Int32) (a2 : Int32) (a3 : Int32) (a4 : Int32) (a5 : Int32) (a6 : Int32), (IB (σ 1)) → (0 ≤ a1.toInt) → (a1.toInt < 6) → (0 ≤ a2.toInt) → (a2.toInt < 6) → (0 ≤ a3.toInt) → (a3.toInt < 6) → (0 ≤ a4.toInt) → (a4.toInt ≤ (σ 1 (ix (57 + a1))).toInt) → (((σ 1 (ix (57 + a1))).toInt - a4.toInt + 1).toNat < N11 + 1) → (0 ≤ a5.toInt) → (0 ≤ a6.toInt) → ((σ 1 (ix (57 + a2))).toInt - a6.toInt + 1).toNat < n → KK g s → va_P g.1 vwCl ((mW g) σ) s.heap → va_D (fun _ => True) ((mW g) σ) → ∀ {ls : Array Slot}, lv_has ls 8 [(0, .ref (g.2.2 100)), (1, .int (a1)), (2, .int (a2)), (3, .int (a3)), (4, .int (a4)), (5, .int (a5)), (6, .int (a6))] → g_X12_hasSquare_47 K11 n σ a1 a2 a3 a4 a5 a6 = tgt → W p l e { frames := 0, cells := 0, slots := 0, locals := 0 } s m args below meth c s.heap [] 0 0 (QPI below args s tgt) (F0 m 47 ls []) := by
  intro n
  induction n with
  | zero => intro σ a1 a2 a3 a4 a5 a6 hI h1 h1b h2 h2b h3 h3b h4 h4c hm11 h5 h6 hm; exact absurd hm (Nat.not_lt_zero _)
  | succ n ih =>
    intro σ a1 a2 a3 a4 a5 a6 hI h1 h1b h2 h2b h3 h3b h4 h4c hm11 h5 h6 hm  hK hP hDD ls hl hT
    exact b_X12_hasSquare_47  (K47 := g_X12_hasSquare_47 K11 n) (N47 := n) C0 hK11 (fun σ a1 a2 a3 a4 a5 a6 hI h1 h1b h2 h2b h3 h3b h4 h4c hm11 h5 h6 hm2 => ih σ a1 a2 a3 a4 a5 a6 hI h1 h1b h2 h2b h3 h3b h4 h4c hm11 h5 h6 hm2) hI h1 h1b h2 h2b h3 h3b h4 h4c hm11 h5 h6 hm hK hP hDD hl hT
def f_X12_hasSquare_11 (K11 : St → Int32 → Int32 → Int32 → Int32 → Int32) (σ : St) (a1 : Int32) (a2 : Int32) (a3 : Int32) (a4 : Int32) : Int32 := (if (σ 1 (ix ((57 : Int32) + a1))) < a4 then (0 : Int32) else (g_X12_hasSquare_47 K11 (1001) σ a1 a2 a3 a4 (σ 1 (ix ((51 : Int32) + a3))) (σ 1 (ix ((51 : Int32) + a2)))))
set_option maxHeartbeats 600000 in
set_option maxRecDepth 100000 in
theorem b_X12_hasSquare_11 {g : GG} {p : Program} {l : Launch} {e : Env} {s : State} {m : MethodId} {args : Array Value} {below : List Frame} {meth : Method} {c : Code}  {tgt : Int32} {K11 : St → Int32 → Int32 → Int32 → Int32 → Int32} {N11 : Nat} (C0 : BC p s m args meth c cX12_hasSquare RX12 8 (some .boolean)) (hK11 : ∀ (σ : St) (a1 : Int32) (a2 : Int32) (a3 : Int32) (a4 : Int32), (IB (σ 1)) → (0 ≤ a1.toInt) → (a1.toInt < 6) → (0 ≤ a2.toInt) → (a2.toInt < 6) → (0 ≤ a3.toInt) → (a3.toInt < 6) → (0 ≤ a4.toInt) → ((σ 1 (ix (57 + a1))).toInt - a4.toInt + 1).toNat < N11 → KK g s → va_P g.1 vwCl ((mW g) σ) s.heap → va_D (fun _ => True) ((mW g) σ) → ∀ {ls : Array Slot}, lv_has ls 8 [(0, .ref (g.2.2 100)), (1, .int (a1)), (2, .int (a2)), (3, .int (a3)), (4, .int (a4))] → K11 σ a1 a2 a3 a4 = tgt → W p l e { frames := 0, cells := 0, slots := 0, locals := 0 } s m args below meth c s.heap [] 0 0 (QPI below args s tgt) (F0 m 11 ls [])) {σ : St} {a1 : Int32} {a2 : Int32} {a3 : Int32} {a4 : Int32}  (hI : IB (σ 1)) (h1 : 0 ≤ a1.toInt) (h1b : a1.toInt < 6) (h2 : 0 ≤ a2.toInt) (h2b : a2.toInt < 6) (h3 : 0 ≤ a3.toInt) (h3b : a3.toInt < 6) (h4 : 0 ≤ a4.toInt) (hm : ((σ 1 (ix (57 + a1))).toInt - a4.toInt + 1).toNat < N11 + 1) (hK : KK g s) (hP : va_P g.1 vwCl ((mW g) σ) s.heap) (hDD : va_D (fun _ => True) ((mW g) σ)) {ls : Array Slot} (hl : lv_has ls 8 [(0, .ref (g.2.2 100)), (1, .int (a1)), (2, .int (a2)), (3, .int (a3)), (4, .int (a4))]) (hT : f_X12_hasSquare_11 K11 σ a1 a2 a3 a4 = tgt) : W p l e { frames := 0, cells := 0, slots := 0, locals := 0 } s m args below meth c s.heap [] 0 0 (QPI below args s tgt) (F0 m 11 ls []) := by
  obtain ⟨hx, hb, hr, hml, hown, hts, hlocks⟩ := id C0
  unfold f_X12_hasSquare_11 at hT
  obtain ⟨⟨i0, i0'⟩, ⟨i1, i1'⟩, ⟨i2, i2'⟩, ⟨i3, i3'⟩, ⟨i4, i4'⟩, ⟨i5, i5'⟩, ⟨i6, i6'⟩, ⟨i7, i7'⟩, ⟨i8, i8'⟩, iK, iV, iL, iR, iW, iY, iG, iM, iB, iQ, iP, iT, iU⟩ := id hI
  obtain ⟨w11, w12, w13⟩ := IB_w hI h1 h1b
  obtain ⟨w21, w22, w23⟩ := IB_w hI h2 h2b
  obtain ⟨w31, w32, w33⟩ := IB_w hI h3 h3b
  refine lv_iload hx hb dX12_hasSquare_11 (lv_at hl 4 rfl) ?_
  refine lv_aload_n hx hb dX12_hasSquare_13 rfl (lv_at hl 0 rfl) ?_
  refine m_get (σ := σ) (v := .ref (g.2.2 1)) C0 hK hP 1 (by decide) rfl w_968 dX12_hasSquare_14 ?_
  refine lv_bipush (v := (57 : Int32)) hx hb dX12_hasSquare_17 (by decide) ?_
  refine lv_iload_n hx hb dX12_hasSquare_19 rfl (lv_at hl 1 rfl) ?_
  refine lv_iadd hx hb dX12_hasSquare_20 ?_
  have o_21 : vp_in ((57 : Int32) + a1) 916 := by
    have : ((57 : Int32)).toInt = 57 := by decide
    try have := ti_add (a := (57 : Int32)) (b := a1) (by omega) (by omega)
    exact vin (by omega) (by omega)
  refine m_ald (σ := σ) C0 hK hP 1 1 916 rfl o_21 (ix ((57 : Int32) + a1)) rfl dX12_hasSquare_21 ?_
  refine lv_icmp_gt (tgt := 128) hx hb dX12_hasSquare_22 (by decide) (fun c_22 => ?_) (fun c_22 => ?_)
  · have hT := hT_pos c_22 hT
    refine lv_iconst (v := (0 : Int32)) hx hb dX12_hasSquare_128 (by decide) ?_
    exact ret_PZ C0 (nz_of (Or.inl rfl)) hT dX12_hasSquare_129
  · have hT := hT_neg c_22 hT
    refine lv_aload_n hx hb dX12_hasSquare_25 rfl (lv_at hl 0 rfl) ?_
    refine m_get (σ := σ) (v := .ref (g.2.2 1)) C0 hK hP 1 (by decide) rfl w_968 dX12_hasSquare_26 ?_
    refine lv_bipush (v := (51 : Int32)) hx hb dX12_hasSquare_29 (by decide) ?_
    refine lv_iload_n hx hb dX12_hasSquare_31 rfl (lv_at hl 3 rfl) ?_
    refine lv_iadd hx hb dX12_hasSquare_32 ?_
    have o_33 : vp_in ((51 : Int32) + a3) 916 := by
      have : ((51 : Int32)).toInt = 51 := by decide
      have := mt ti_lt.mpr c_22
      try have := ti_add (a := (51 : Int32)) (b := a3) (by omega) (by omega)
      exact vin (by omega) (by omega)
    refine m_ald (σ := σ) C0 hK hP 1 1 916 rfl o_33 (ix ((51 : Int32) + a3)) rfl dX12_hasSquare_33 ?_
    refine lv_istore (lv' := [(5, .int ((σ 1 (ix ((51 : Int32) + a3))))), (0, .ref (g.2.2 100)), (1, .int (a1)), (2, .int (a2)), (3, .int (a3)), (4, .int (a4))]) hx hb dX12_hasSquare_34 hl (by decide) rfl (fun ls hl => ?_)
    refine lv_aload_n hx hb dX12_hasSquare_36 rfl (lv_at hl 1 rfl) ?_
    refine m_get (σ := σ) (v := .ref (g.2.2 1)) C0 hK hP 1 (by decide) rfl w_968 dX12_hasSquare_37 ?_
    refine lv_bipush (v := (51 : Int32)) hx hb dX12_hasSquare_40 (by decide) ?_
    refine lv_iload_n hx hb dX12_hasSquare_42 rfl (lv_at hl 3 rfl) ?_
    refine lv_iadd hx hb dX12_hasSquare_43 ?_
    have o_44 : vp_in ((51 : Int32) + a2) 916 := by
      have : ((51 : Int32)).toInt = 51 := by decide
      have := mt ti_lt.mpr c_22
      try have := ti_add (a := (51 : Int32)) (b := a2) (by omega) (by omega)
      exact vin (by omega) (by omega)
    refine m_ald (σ := σ) C0 hK hP 1 1 916 rfl o_44 (ix ((51 : Int32) + a2)) rfl dX12_hasSquare_44 ?_
    refine lv_istore (lv' := [(6, .int ((σ 1 (ix ((51 : Int32) + a2))))), (5, .int ((σ 1 (ix ((51 : Int32) + a3))))), (0, .ref (g.2.2 100)), (1, .int (a1)), (2, .int (a2)), (3, .int (a3)), (4, .int (a4))]) hx hb dX12_hasSquare_45 hl (by decide) rfl (fun ls hl => ?_)
    have j45_h4c : a4.toInt ≤ (σ 1 (ix (57 + a1))).toInt := by
      have := mt ti_lt.mpr c_22
      omega
    have j45_hm11 : ((σ 1 (ix (57 + a1))).toInt - a4.toInt + 1).toNat < N11 + 1 := by
      have := mt ti_lt.mpr c_22
      omega
    have j45_h5 : 0 ≤ (σ 1 (ix ((51 : Int32) + a3))).toInt := by
      have := mt ti_lt.mpr c_22
      omega
    have j45_h6 : 0 ≤ (σ 1 (ix ((51 : Int32) + a2))).toInt := by
      have := mt ti_lt.mpr c_22
      omega
    have j45_m : ((σ 1 (ix (57 + a2))).toInt - (σ 1 (ix ((51 : Int32) + a2))).toInt + 1).toNat < 1001 := by
      have := mt ti_lt.mpr c_22
      omega
    exact l_X12_hasSquare_47  C0 hK11  (1001) σ a1 a2 a3 a4 (σ 1 (ix ((51 : Int32) + a3))) (σ 1 (ix ((51 : Int32) + a2))) hI h1 h1b h2 h2b h3 h3b h4 j45_h4c j45_hm11 j45_h5 j45_h6 j45_m hK hP hDD (lv_sub hl [2, 3, 4, 5, 6, 1, 0] rfl) hT
def g_X12_hasSquare_11  : Nat → St → Int32 → Int32 → Int32 → Int32 → Int32
  | 0 => fun σ a1 a2 a3 a4 => 0
  | n + 1 => fun σ a1 a2 a3 a4 => f_X12_hasSquare_11  (g_X12_hasSquare_11  n) σ a1 a2 a3 a4
theorem l_X12_hasSquare_11 {g : GG} {p : Program} {l : Launch} {e : Env} {s : State} {m : MethodId} {args : Array Value} {below : List Frame} {meth : Method} {c : Code}  {tgt : Int32}  (C0 : BC p s m args meth c cX12_hasSquare RX12 8 (some .boolean))  : ∀ (n : Nat) (σ : St) (a1 : Int32) (a2 : Int32) (a3 : Int32) (a4 : Int32), (IB (σ 1)) → (0 ≤ a1.toInt) → (a1.toInt < 6) → (0 ≤ a2.toInt) → (a2.toInt < 6) → (0 ≤ a3.toInt) → (a3.toInt < 6) → (0 ≤ a4.toInt) → ((σ 1 (ix (57 + a1))).toInt - a4.toInt + 1).toNat < n → KK g s → va_P g.1 vwCl ((mW g) σ) s.heap → va_D (fun _ => True) ((mW g) σ) → ∀ {ls : Array Slot}, lv_has ls 8 [(0, .ref (g.2.2 100)), (1, .int (a1)), (2, .int (a2)), (3, .int (a3)), (4, .int (a4))] → g_X12_hasSquare_11  n σ a1 a2 a3 a4 = tgt → W p l e { frames := 0, cells := 0, slots := 0, locals := 0 } s m args below meth c s.heap [] 0 0 (QPI below args s tgt) (F0 m 11 ls []) := by
  intro n
  induction n with
  | zero => intro σ a1 a2 a3 a4 hI h1 h1b h2 h2b h3 h3b h4 hm; exact absurd hm (Nat.not_lt_zero _)
  | succ n ih =>
    intro σ a1 a2 a3 a4 hI h1 h1b h2 h2b h3 h3b h4 hm  hK hP hDD ls hl hT
    exact b_X12_hasSquare_11  (K11 := g_X12_hasSquare_11  n) (N11 := n) C0  (fun σ a1 a2 a3 a4 hI h1 h1b h2 h2b h3 h3b h4 hm2 => ih σ a1 a2 a3 a4 hI h1 h1b h2 h2b h3 h3b h4 hm2) hI h1 h1b h2 h2b h3 h3b h4 hm hK hP hDD hl hT
def f_X12_hasSquare (σ : St) (a1 : Int32) (a2 : Int32) (a3 : Int32) : Int32 := (g_X12_hasSquare_11  (1001) σ a1 a2 a3 (σ 1 (ix ((51 : Int32) + a1))))
set_option maxHeartbeats 600000 in
set_option maxRecDepth 100000 in
theorem k_X12_hasSquare (l : Launch) (g : GG) (σ : St) (a1 : Int32) (a2 : Int32) (a3 : Int32) (hI : IB (σ 1)) (h1 : 0 ≤ a1.toInt) (h1b : a1.toInt < 6) (h2 : 0 ≤ a2.toInt) (h2b : a2.toInt < 6) (h3 : 0 ≤ a3.toInt) (h3b : a3.toInt < 6) : PI l yX12_hasSquare (wsF yX12_hasSquare cX12_hasSquare 8 (some .boolean)) { frames := 0, cells := 0, slots := 0, locals := 0 } [.ref (g.2.2 100), .int (a1), .int (a2), .int (a3)] (GB g (mW g) (fun _ => True) σ) (f_X12_hasSquare σ a1 a2 a3) := by
  refine start_PI (by decide) (Nat.le_of_ble_eq_true rfl) ?_
  intro p e s m args below meth c C0 hG ls hl
  obtain ⟨hK, hP, hDD, hBg⟩ := hG
  obtain ⟨hx, hb, hr, hml, hown, hts, hlocks⟩ := id C0
  have hl : lv_has ls 8 [(0, .ref (g.2.2 100)), (1, .int (a1)), (2, .int (a2)), (3, .int (a3))] := hl
  generalize hT : (f_X12_hasSquare σ a1 a2 a3) = tgt
  unfold f_X12_hasSquare at hT
  obtain ⟨⟨i0, i0'⟩, ⟨i1, i1'⟩, ⟨i2, i2'⟩, ⟨i3, i3'⟩, ⟨i4, i4'⟩, ⟨i5, i5'⟩, ⟨i6, i6'⟩, ⟨i7, i7'⟩, ⟨i8, i8'⟩, iK, iV, iL, iR, iW, iY, iG, iM, iB, iQ, iP, iT, iU⟩ := id hI
  obtain ⟨w11, w12, w13⟩ := IB_w hI h1 h1b
  obtain ⟨w21, w22, w23⟩ := IB_w hI h2 h2b
  obtain ⟨w31, w32, w33⟩ := IB_w hI h3 h3b
  refine lv_aload_n hx hb dX12_hasSquare_0 rfl (lv_at hl 0 rfl) ?_
  refine m_get (σ := σ) (v := .ref (g.2.2 1)) C0 hK hP 1 (by decide) rfl w_968 dX12_hasSquare_1 ?_
  refine lv_bipush (v := (51 : Int32)) hx hb dX12_hasSquare_4 (by decide) ?_
  refine lv_iload_n hx hb dX12_hasSquare_6 rfl (lv_at hl 1 rfl) ?_
  refine lv_iadd hx hb dX12_hasSquare_7 ?_
  have o_8 : vp_in ((51 : Int32) + a1) 916 := by
    have : ((51 : Int32)).toInt = 51 := by decide
    try have := ti_add (a := (51 : Int32)) (b := a1) (by omega) (by omega)
    exact vin (by omega) (by omega)
  refine m_ald (σ := σ) C0 hK hP 1 1 916 rfl o_8 (ix ((51 : Int32) + a1)) rfl dX12_hasSquare_8 ?_
  refine lv_istore (lv' := [(4, .int ((σ 1 (ix ((51 : Int32) + a1))))), (0, .ref (g.2.2 100)), (1, .int (a1)), (2, .int (a2)), (3, .int (a3))]) hx hb dX12_hasSquare_9 hl (by decide) rfl (fun ls hl => ?_)
  have j9_h4 : 0 ≤ (σ 1 (ix ((51 : Int32) + a1))).toInt := by
    omega
  have j9_m : ((σ 1 (ix (57 + a1))).toInt - (σ 1 (ix ((51 : Int32) + a1))).toInt + 1).toNat < 1001 := by
    omega
  exact l_X12_hasSquare_11  C0   (1001) σ a1 a2 a3 (σ 1 (ix ((51 : Int32) + a1))) hI h1 h1b h2 h2b h3 h3b j9_h4 j9_m hK hP hDD (lv_sub hl [1, 2, 3, 4, 0] rfl) hT
set_option maxRecDepth 20000 in
theorem w_1210 : (Cond.methodLink RX12 180 yX12_hasSquare) ∈ TB := inTB (List.mem_of_getElem? (i := 1210) (by decide +kernel)) (by decide +kernel)
set_option maxRecDepth 20000 in
theorem w_1213 : (Cond.code yX12_hasSquare cX12_hasSquare 8 (some .boolean)) ∈ TB := inTB (List.mem_of_getElem? (i := 1213) (by decide +kernel)) (by decide +kernel)
set_option maxRecDepth 20000 in
theorem w_1212 : (Cond.instanceMethod yX12_hasSquare) ∈ TB := inTB (List.mem_of_getElem? (i := 1212) (by decide +kernel)) (by decide +kernel)
set_option maxRecDepth 20000 in
theorem w_56 : (Cond.selects RX12 yX12_hasSquare yX12_hasSquare) ∈ TB := inTB (List.mem_of_getElem? (i := 56) (by decide +kernel)) (by decide +kernel)
theorem cf_X12_hasSquare : CF yX12_hasSquare cX12_hasSquare 8 (some .boolean) 3 := ⟨w_1212, w_56, w_75, w_1213, by decide +kernel, by decide +kernel, by decide +kernel⟩
set_option maxRecDepth 20000 in
theorem w_1214 : (Cond.methodLink RX12 183 yX12_isOne) ∈ TB := inTB (List.mem_of_getElem? (i := 1214) (by decide +kernel)) (by decide +kernel)
set_option maxRecDepth 20000 in
theorem w_1217 : (Cond.code yX12_isOne cX12_isOne 2 (some .boolean)) ∈ TB := inTB (List.mem_of_getElem? (i := 1217) (by decide +kernel)) (by decide +kernel)
set_option maxRecDepth 20000 in
theorem w_1216 : (Cond.instanceMethod yX12_isOne) ∈ TB := inTB (List.mem_of_getElem? (i := 1216) (by decide +kernel)) (by decide +kernel)
set_option maxRecDepth 20000 in
theorem w_57 : (Cond.selects RX12 yX12_isOne yX12_isOne) ∈ TB := inTB (List.mem_of_getElem? (i := 57) (by decide +kernel)) (by decide +kernel)
theorem cf_X12_isOne : CF yX12_isOne cX12_isOne 2 (some .boolean) 1 := ⟨w_1216, w_57, w_75, w_1217, by decide +kernel, by decide +kernel, by decide +kernel⟩
/-! ThreeMeasuresModel.square -/
theorem dX12_square_0 : decode cX12_square 0 = .ok (.aload_n 0, 1) := by decide +kernel
theorem dX12_square_1 : decode cX12_square 1 = .ok (.iload_n 1, 1) := by decide +kernel
theorem dX12_square_2 : decode cX12_square 2 = .ok (.invokevirtual 165, 3) := by decide +kernel
theorem dX12_square_5 : decode cX12_square 5 = .ok (.ifCond .eq 19, 3) := by decide +kernel
theorem dX12_square_8 : decode cX12_square 8 = .ok (.aload_n 0, 1) := by decide +kernel
theorem dX12_square_9 : decode cX12_square 9 = .ok (.iload_n 2, 1) := by decide +kernel
theorem dX12_square_10 : decode cX12_square 10 = .ok (.invokevirtual 165, 3) := by decide +kernel
theorem dX12_square_13 : decode cX12_square 13 = .ok (.ifCond .eq 11, 3) := by decide +kernel
theorem dX12_square_16 : decode cX12_square 16 = .ok (.aload_n 0, 1) := by decide +kernel
theorem dX12_square_17 : decode cX12_square 17 = .ok (.iload_n 3, 1) := by decide +kernel
theorem dX12_square_18 : decode cX12_square 18 = .ok (.invokevirtual 165, 3) := by decide +kernel
theorem dX12_square_21 : decode cX12_square 21 = .ok (.ifCond .ne 5, 3) := by decide +kernel
theorem dX12_square_24 : decode cX12_square 24 = .ok (.iconst (-1), 1) := by decide +kernel
theorem dX12_square_25 : decode cX12_square 25 = .ok (.ireturn, 1) := by decide +kernel
theorem dX12_square_26 : decode cX12_square 26 = .ok (.aload_n 0, 1) := by decide +kernel
theorem dX12_square_27 : decode cX12_square 27 = .ok (.iload_n 1, 1) := by decide +kernel
theorem dX12_square_28 : decode cX12_square 28 = .ok (.iload_n 2, 1) := by decide +kernel
theorem dX12_square_29 : decode cX12_square 29 = .ok (.iload_n 3, 1) := by decide +kernel
theorem dX12_square_30 : decode cX12_square 30 = .ok (.invokevirtual 180, 3) := by decide +kernel
theorem dX12_square_33 : decode cX12_square 33 = .ok (.ifCond .ne 7, 3) := by decide +kernel
theorem dX12_square_36 : decode cX12_square 36 = .ok (.iconst 0, 1) := by decide +kernel
theorem dX12_square_37 : decode cX12_square 37 = .ok (.goto 32, 3) := by decide +kernel
theorem dX12_square_40 : decode cX12_square 40 = .ok (.aload_n 0, 1) := by decide +kernel
theorem dX12_square_41 : decode cX12_square 41 = .ok (.iload_n 1, 1) := by decide +kernel
theorem dX12_square_42 : decode cX12_square 42 = .ok (.invokevirtual 183, 3) := by decide +kernel
theorem dX12_square_45 : decode cX12_square 45 = .ok (.ifCond .eq 23, 3) := by decide +kernel
theorem dX12_square_48 : decode cX12_square 48 = .ok (.aload_n 0, 1) := by decide +kernel
theorem dX12_square_49 : decode cX12_square 49 = .ok (.iload_n 2, 1) := by decide +kernel
theorem dX12_square_50 : decode cX12_square 50 = .ok (.invokevirtual 183, 3) := by decide +kernel
theorem dX12_square_53 : decode cX12_square 53 = .ok (.ifCond .eq 15, 3) := by decide +kernel
theorem dX12_square_56 : decode cX12_square 56 = .ok (.aload_n 0, 1) := by decide +kernel
theorem dX12_square_57 : decode cX12_square 57 = .ok (.iload_n 3, 1) := by decide +kernel
theorem dX12_square_58 : decode cX12_square 58 = .ok (.invokevirtual 183, 3) := by decide +kernel
theorem dX12_square_61 : decode cX12_square 61 = .ok (.ifCond .eq 7, 3) := by decide +kernel
theorem dX12_square_64 : decode cX12_square 64 = .ok (.iconst 2, 1) := by decide +kernel
theorem dX12_square_65 : decode cX12_square 65 = .ok (.goto 4, 3) := by decide +kernel
theorem dX12_square_68 : decode cX12_square 68 = .ok (.iconst 1, 1) := by decide +kernel
theorem dX12_square_69 : decode cX12_square 69 = .ok (.ireturn, 1) := by decide +kernel
def f_X12_square (σ : St) (a1 : Int32) (a2 : Int32) (a3 : Int32) : Int32 := (if (f_X12_isWall σ a1) = 0 then (-1 : Int32) else (if (f_X12_isWall σ a2) = 0 then (-1 : Int32) else (if (f_X12_isWall σ a3) = 0 then (-1 : Int32) else (if (f_X12_hasSquare σ a1 a2 a3) = 0 then (0 : Int32) else (if (f_X12_isOne σ a1) = 0 then (1 : Int32) else (if (f_X12_isOne σ a2) = 0 then (1 : Int32) else (if (f_X12_isOne σ a3) = 0 then (1 : Int32) else (2 : Int32))))))))
set_option maxHeartbeats 600000 in
set_option maxRecDepth 100000 in
theorem k_X12_square (l : Launch) (g : GG) (σ : St) (a1 : Int32) (a2 : Int32) (a3 : Int32) (hI : IB (σ 1)) : PI l yX12_square (wsF yX12_square cX12_square 4 (some .int)) { frames := 2, cells := 0, slots := 0, locals := 43 } [.ref (g.2.2 100), .int (a1), .int (a2), .int (a3)] (GB g (mW g) (fun _ => True) σ) (f_X12_square σ a1 a2 a3) := by
  refine start_PI (by decide) (Nat.le_of_ble_eq_true rfl) ?_
  intro p e s m args below meth c C0 hG ls hl
  obtain ⟨hK, hP, hDD, hBg⟩ := hG
  obtain ⟨hx, hb, hr, hml, hown, hts, hlocks⟩ := id C0
  have hl : lv_has ls 4 [(0, .ref (g.2.2 100)), (1, .int (a1)), (2, .int (a2)), (3, .int (a3))] := hl
  generalize hT : (f_X12_square σ a1 a2 a3) = tgt
  unfold f_X12_square at hT
  obtain ⟨⟨i0, i0'⟩, ⟨i1, i1'⟩, ⟨i2, i2'⟩, ⟨i3, i3'⟩, ⟨i4, i4'⟩, ⟨i5, i5'⟩, ⟨i6, i6'⟩, ⟨i7, i7'⟩, ⟨i8, i8'⟩, iK, iV, iL, iR, iW, iY, iG, iM, iB, iQ, iP, iT, iU⟩ := id hI
  refine lv_aload_n hx hb dX12_square_0 rfl (lv_at hl 0 rfl) ?_
  refine lv_iload_n hx hb dX12_square_1 rfl (lv_at hl 1 rfl) ?_
  refine m_ci (rest := []) (As := [.int (a1)]) (σ := σ) C0 hK hP hDD SV.tt (fun _ _ _ => trivial) cf_X12_isWall w_1147 rfl (k_X12_isWall l g σ a1 ) ⟨by decide, by decide⟩ hl.1 rfl rfl (Nat.le_of_ble_eq_true rfl) dX12_square_2 ⟨Nat.zero_le _, Nat.zero_le _⟩ ?_
  refine lv_if_eq (tgt := 24) hx hb dX12_square_5 (by decide) (fun c_5 => ?_) (fun c_5 => ?_)
  · have hT := hT_pos c_5 hT
    refine lv_iconst (v := (-1 : Int32)) hx hb dX12_square_24 (by decide) ?_
    exact ret_PI C0 hT dX12_square_25
  · have hT := hT_neg c_5 hT
    refine lv_aload_n hx hb dX12_square_8 rfl (lv_at hl 0 rfl) ?_
    refine lv_iload_n hx hb dX12_square_9 rfl (lv_at hl 2 rfl) ?_
    refine m_ci (rest := []) (As := [.int (a2)]) (σ := σ) C0 hK hP hDD SV.tt (fun _ _ _ => trivial) cf_X12_isWall w_1147 rfl (k_X12_isWall l g σ a2 ) ⟨by decide, by decide⟩ hl.1 rfl rfl (Nat.le_of_ble_eq_true rfl) dX12_square_10 ⟨Nat.zero_le _, Nat.zero_le _⟩ ?_
    refine lv_if_eq (tgt := 24) hx hb dX12_square_13 (by decide) (fun c_13 => ?_) (fun c_13 => ?_)
    · have hT := hT_pos c_13 hT
      refine lv_iconst (v := (-1 : Int32)) hx hb dX12_square_24 (by decide) ?_
      exact ret_PI C0 hT dX12_square_25
    · have hT := hT_neg c_13 hT
      refine lv_aload_n hx hb dX12_square_16 rfl (lv_at hl 0 rfl) ?_
      refine lv_iload_n hx hb dX12_square_17 rfl (lv_at hl 3 rfl) ?_
      refine m_ci (rest := []) (As := [.int (a3)]) (σ := σ) C0 hK hP hDD SV.tt (fun _ _ _ => trivial) cf_X12_isWall w_1147 rfl (k_X12_isWall l g σ a3 ) ⟨by decide, by decide⟩ hl.1 rfl rfl (Nat.le_of_ble_eq_true rfl) dX12_square_18 ⟨Nat.zero_le _, Nat.zero_le _⟩ ?_
      refine lv_if_ne (tgt := 26) hx hb dX12_square_21 (by decide) (fun c_21 => ?_) (fun c_21 => ?_)
      · have hT := hT_neg c_21 hT
        refine lv_aload_n hx hb dX12_square_26 rfl (lv_at hl 0 rfl) ?_
        refine lv_iload_n hx hb dX12_square_27 rfl (lv_at hl 1 rfl) ?_
        refine lv_iload_n hx hb dX12_square_28 rfl (lv_at hl 2 rfl) ?_
        refine lv_iload_n hx hb dX12_square_29 rfl (lv_at hl 3 rfl) ?_
        have q30_h1 : 0 ≤ a1.toInt := by
          have := isWall_ne hI.2.1.1 c_5
          have := isWall_ne hI.2.1.1 c_13
          have := isWall_ne hI.2.1.1 c_21
          omega
        have q30_h1b : a1.toInt < 6 := by
          have := isWall_ne hI.2.1.1 c_5
          have := isWall_ne hI.2.1.1 c_13
          have := isWall_ne hI.2.1.1 c_21
          omega
        have q30_h2 : 0 ≤ a2.toInt := by
          have := isWall_ne hI.2.1.1 c_5
          have := isWall_ne hI.2.1.1 c_13
          have := isWall_ne hI.2.1.1 c_21
          omega
        have q30_h2b : a2.toInt < 6 := by
          have := isWall_ne hI.2.1.1 c_5
          have := isWall_ne hI.2.1.1 c_13
          have := isWall_ne hI.2.1.1 c_21
          omega
        have q30_h3 : 0 ≤ a3.toInt := by
          have := isWall_ne hI.2.1.1 c_5
          have := isWall_ne hI.2.1.1 c_13
          have := isWall_ne hI.2.1.1 c_21
          omega
        have q30_h3b : a3.toInt < 6 := by
          have := isWall_ne hI.2.1.1 c_5
          have := isWall_ne hI.2.1.1 c_13
          have := isWall_ne hI.2.1.1 c_21
          omega
        refine m_ci (rest := []) (As := [.int (a1), .int (a2), .int (a3)]) (σ := σ) C0 hK hP hDD SV.tt (fun _ _ _ => trivial) cf_X12_hasSquare w_1210 rfl (k_X12_hasSquare l g σ a1 a2 a3 hI q30_h1 q30_h1b q30_h2 q30_h2b q30_h3 q30_h3b) ⟨by decide, by decide⟩ hl.1 rfl rfl (Nat.le_of_ble_eq_true rfl) dX12_square_30 ⟨Nat.zero_le _, Nat.zero_le _⟩ ?_
        have J33 : ∀ v : Int32, v = (if (f_X12_hasSquare σ a1 a2 a3) = 0 then (0 : Int32) else (if (f_X12_isOne σ a1) = 0 then (1 : Int32) else (if (f_X12_isOne σ a2) = 0 then (1 : Int32) else (if (f_X12_isOne σ a3) = 0 then (1 : Int32) else (2 : Int32))))) → W p l e { frames := 2, cells := 0, slots := 0, locals := 43 } s m args below meth c s.heap [] 0 0 (QPI below args s tgt) (F0 m 69 ls [.int (v)]) := by
          intro v ev
          subst ev
          exact ret_PI C0 hT dX12_square_69
        refine lv_if_ne (tgt := 40) hx hb dX12_square_33 (by decide) (fun c_33 => ?_) (fun c_33 => ?_)
        · refine lv_aload_n hx hb dX12_square_40 rfl (lv_at hl 0 rfl) ?_
          refine lv_iload_n hx hb dX12_square_41 rfl (lv_at hl 1 rfl) ?_
          have q42_h1 : 0 ≤ a1.toInt := by
            have : ((0 : Int32)).toInt = 0 := by decide
            have := isWall_ne hI.2.1.1 c_5
            have := isWall_ne hI.2.1.1 c_13
            have := isWall_ne hI.2.1.1 c_21
            have := mt ti_eq.mpr c_33
            omega
          have q42_h2 : a1.toInt ≤ 6 := by
            have : ((0 : Int32)).toInt = 0 := by decide
            have := isWall_ne hI.2.1.1 c_5
            have := isWall_ne hI.2.1.1 c_13
            have := isWall_ne hI.2.1.1 c_21
            have := mt ti_eq.mpr c_33
            omega
          refine m_ci (rest := []) (As := [.int (a1)]) (σ := σ) C0 hK hP hDD SV.tt (fun _ _ _ => trivial) cf_X12_isOne w_1214 rfl (k_X12_isOne l g σ a1 q42_h1 q42_h2) ⟨by decide, by decide⟩ hl.1 rfl rfl (Nat.le_of_ble_eq_true rfl) dX12_square_42 ⟨Nat.zero_le _, Nat.zero_le _⟩ ?_
          refine lv_if_eq (tgt := 68) hx hb dX12_square_45 (by decide) (fun c_45 => ?_) (fun c_45 => ?_)
          · refine lv_iconst (v := (1 : Int32)) hx hb dX12_square_68 (by decide) ?_
            exact J33 _ (iv_neg c_33 (iv_pos c_45 rfl))
          · refine lv_aload_n hx hb dX12_square_48 rfl (lv_at hl 0 rfl) ?_
            refine lv_iload_n hx hb dX12_square_49 rfl (lv_at hl 2 rfl) ?_
            have q50_h1 : 0 ≤ a2.toInt := by
              have : ((0 : Int32)).toInt = 0 := by decide
              have := isWall_ne hI.2.1.1 c_5
              have := isWall_ne hI.2.1.1 c_13
              have := isWall_ne hI.2.1.1 c_21
              have := mt ti_eq.mpr c_33
              have := mt ti_eq.mpr c_45
              omega
            have q50_h2 : a2.toInt ≤ 6 := by
              have : ((0 : Int32)).toInt = 0 := by decide
              have := isWall_ne hI.2.1.1 c_5
              have := isWall_ne hI.2.1.1 c_13
              have := isWall_ne hI.2.1.1 c_21
              have := mt ti_eq.mpr c_33
              have := mt ti_eq.mpr c_45
              omega
            refine m_ci (rest := []) (As := [.int (a2)]) (σ := σ) C0 hK hP hDD SV.tt (fun _ _ _ => trivial) cf_X12_isOne w_1214 rfl (k_X12_isOne l g σ a2 q50_h1 q50_h2) ⟨by decide, by decide⟩ hl.1 rfl rfl (Nat.le_of_ble_eq_true rfl) dX12_square_50 ⟨Nat.zero_le _, Nat.zero_le _⟩ ?_
            refine lv_if_eq (tgt := 68) hx hb dX12_square_53 (by decide) (fun c_53 => ?_) (fun c_53 => ?_)
            · refine lv_iconst (v := (1 : Int32)) hx hb dX12_square_68 (by decide) ?_
              exact J33 _ (iv_neg c_33 (iv_neg c_45 (iv_pos c_53 rfl)))
            · refine lv_aload_n hx hb dX12_square_56 rfl (lv_at hl 0 rfl) ?_
              refine lv_iload_n hx hb dX12_square_57 rfl (lv_at hl 3 rfl) ?_
              have q58_h1 : 0 ≤ a3.toInt := by
                have : ((0 : Int32)).toInt = 0 := by decide
                have := isWall_ne hI.2.1.1 c_5
                have := isWall_ne hI.2.1.1 c_13
                have := isWall_ne hI.2.1.1 c_21
                have := mt ti_eq.mpr c_33
                have := mt ti_eq.mpr c_45
                have := mt ti_eq.mpr c_53
                omega
              have q58_h2 : a3.toInt ≤ 6 := by
                have : ((0 : Int32)).toInt = 0 := by decide
                have := isWall_ne hI.2.1.1 c_5
                have := isWall_ne hI.2.1.1 c_13
                have := isWall_ne hI.2.1.1 c_21
                have := mt ti_eq.mpr c_33
                have := mt ti_eq.mpr c_45
                have := mt ti_eq.mpr c_53
                omega
              refine m_ci (rest := []) (As := [.int (a3)]) (σ := σ) C0 hK hP hDD SV.tt (fun _ _ _ => trivial) cf_X12_isOne w_1214 rfl (k_X12_isOne l g σ a3 q58_h1 q58_h2) ⟨by decide, by decide⟩ hl.1 rfl rfl (Nat.le_of_ble_eq_true rfl) dX12_square_58 ⟨Nat.zero_le _, Nat.zero_le _⟩ ?_
              refine lv_if_eq (tgt := 68) hx hb dX12_square_61 (by decide) (fun c_61 => ?_) (fun c_61 => ?_)
              · refine lv_iconst (v := (1 : Int32)) hx hb dX12_square_68 (by decide) ?_
                exact J33 _ (iv_neg c_33 (iv_neg c_45 (iv_neg c_53 (iv_pos c_61 rfl))))
              · refine lv_iconst (v := (2 : Int32)) hx hb dX12_square_64 (by decide) ?_
                refine lv_goto (tgt := 69) hx hb dX12_square_65 (by decide) ?_
                exact J33 _ (iv_neg c_33 (iv_neg c_45 (iv_neg c_53 (iv_neg c_61 rfl))))
        · refine lv_iconst (v := (0 : Int32)) hx hb dX12_square_36 (by decide) ?_
          refine lv_goto (tgt := 69) hx hb dX12_square_37 (by decide) ?_
          exact J33 _ (iv_pos c_33 rfl)
      · have hT := hT_pos c_21 hT
        refine lv_iconst (v := (-1 : Int32)) hx hb dX12_square_24 (by decide) ?_
        exact ret_PI C0 hT dX12_square_25
set_option maxRecDepth 20000 in
theorem w_986 : (Cond.fieldLink RX12 31 RX12 "bestWay" "[I") ∈ TB := inTB (List.mem_of_getElem? (i := 986) (by decide +kernel)) (by decide +kernel)
set_option maxRecDepth 20000 in
theorem w_984 : (Cond.fieldLink RX12 25 RX12 "middles" "[I") ∈ TB := inTB (List.mem_of_getElem? (i := 984) (by decide +kernel)) (by decide +kernel)
set_option maxRecDepth 20000 in
theorem w_985 : (Cond.fieldLink RX12 28 RX12 "slacks" "[I") ∈ TB := inTB (List.mem_of_getElem? (i := 985) (by decide +kernel)) (by decide +kernel)
/-! ThreeMeasuresModel.triesTwice -/
theorem dX12_triesTwice_0 : decode cX12_triesTwice 0 = .ok (.iconst 0, 1) := by decide +kernel
theorem dX12_triesTwice_1 : decode cX12_triesTwice 1 = .ok (.istore 6, 2) := by decide +kernel
theorem dX12_triesTwice_3 : decode cX12_triesTwice 3 = .ok (.iload 6, 2) := by decide +kernel
theorem dX12_triesTwice_5 : decode cX12_triesTwice 5 = .ok (.iconst 2, 1) := by decide +kernel
theorem dX12_triesTwice_6 : decode cX12_triesTwice 6 = .ok (.if_icmp .ge 156, 3) := by decide +kernel
theorem dX12_triesTwice_9 : decode cX12_triesTwice 9 = .ok (.aload_n 0, 1) := by decide +kernel
theorem dX12_triesTwice_10 : decode cX12_triesTwice 10 = .ok (.getfield 25, 3) := by decide +kernel
theorem dX12_triesTwice_13 : decode cX12_triesTwice 13 = .ok (.bipush 10, 2) := by decide +kernel
theorem dX12_triesTwice_15 : decode cX12_triesTwice 15 = .ok (.iload_n 1, 1) := by decide +kernel
theorem dX12_triesTwice_16 : decode cX12_triesTwice 16 = .ok (.imul, 1) := by decide +kernel
theorem dX12_triesTwice_17 : decode cX12_triesTwice 17 = .ok (.iload_n 2, 1) := by decide +kernel
theorem dX12_triesTwice_18 : decode cX12_triesTwice 18 = .ok (.iadd, 1) := by decide +kernel
theorem dX12_triesTwice_19 : decode cX12_triesTwice 19 = .ok (.iaload, 1) := by decide +kernel
theorem dX12_triesTwice_20 : decode cX12_triesTwice 20 = .ok (.iload 6, 2) := by decide +kernel
theorem dX12_triesTwice_22 : decode cX12_triesTwice 22 = .ok (.ifCond .ne 18, 3) := by decide +kernel
theorem dX12_triesTwice_25 : decode cX12_triesTwice 25 = .ok (.aload_n 0, 1) := by decide +kernel
theorem dX12_triesTwice_26 : decode cX12_triesTwice 26 = .ok (.getfield 25, 3) := by decide +kernel
theorem dX12_triesTwice_29 : decode cX12_triesTwice 29 = .ok (.bipush 10, 2) := by decide +kernel
theorem dX12_triesTwice_31 : decode cX12_triesTwice 31 = .ok (.iload_n 3, 1) := by decide +kernel
theorem dX12_triesTwice_32 : decode cX12_triesTwice 32 = .ok (.imul, 1) := by decide +kernel
theorem dX12_triesTwice_33 : decode cX12_triesTwice 33 = .ok (.iload 4, 2) := by decide +kernel
theorem dX12_triesTwice_35 : decode cX12_triesTwice 35 = .ok (.iadd, 1) := by decide +kernel
theorem dX12_triesTwice_36 : decode cX12_triesTwice 36 = .ok (.iaload, 1) := by decide +kernel
theorem dX12_triesTwice_37 : decode cX12_triesTwice 37 = .ok (.goto 16, 3) := by decide +kernel
theorem dX12_triesTwice_40 : decode cX12_triesTwice 40 = .ok (.aload_n 0, 1) := by decide +kernel
theorem dX12_triesTwice_41 : decode cX12_triesTwice 41 = .ok (.getfield 25, 3) := by decide +kernel
theorem dX12_triesTwice_44 : decode cX12_triesTwice 44 = .ok (.bipush 10, 2) := by decide +kernel
theorem dX12_triesTwice_46 : decode cX12_triesTwice 46 = .ok (.iload_n 3, 1) := by decide +kernel
theorem dX12_triesTwice_47 : decode cX12_triesTwice 47 = .ok (.imul, 1) := by decide +kernel
theorem dX12_triesTwice_48 : decode cX12_triesTwice 48 = .ok (.iload 4, 2) := by decide +kernel
theorem dX12_triesTwice_50 : decode cX12_triesTwice 50 = .ok (.iadd, 1) := by decide +kernel
theorem dX12_triesTwice_51 : decode cX12_triesTwice 51 = .ok (.iaload, 1) := by decide +kernel
theorem dX12_triesTwice_52 : decode cX12_triesTwice 52 = .ok (.ineg, 1) := by decide +kernel
theorem dX12_triesTwice_53 : decode cX12_triesTwice 53 = .ok (.iadd, 1) := by decide +kernel
theorem dX12_triesTwice_54 : decode cX12_triesTwice 54 = .ok (.istore 7, 2) := by decide +kernel
theorem dX12_triesTwice_56 : decode cX12_triesTwice 56 = .ok (.aload_n 0, 1) := by decide +kernel
theorem dX12_triesTwice_57 : decode cX12_triesTwice 57 = .ok (.getfield 28, 3) := by decide +kernel
theorem dX12_triesTwice_60 : decode cX12_triesTwice 60 = .ok (.bipush 10, 2) := by decide +kernel
theorem dX12_triesTwice_62 : decode cX12_triesTwice 62 = .ok (.iload_n 1, 1) := by decide +kernel
theorem dX12_triesTwice_63 : decode cX12_triesTwice 63 = .ok (.imul, 1) := by decide +kernel
theorem dX12_triesTwice_64 : decode cX12_triesTwice 64 = .ok (.iload_n 2, 1) := by decide +kernel
theorem dX12_triesTwice_65 : decode cX12_triesTwice 65 = .ok (.iadd, 1) := by decide +kernel
theorem dX12_triesTwice_66 : decode cX12_triesTwice 66 = .ok (.iaload, 1) := by decide +kernel
theorem dX12_triesTwice_67 : decode cX12_triesTwice 67 = .ok (.aload_n 0, 1) := by decide +kernel
theorem dX12_triesTwice_68 : decode cX12_triesTwice 68 = .ok (.getfield 28, 3) := by decide +kernel
theorem dX12_triesTwice_71 : decode cX12_triesTwice 71 = .ok (.bipush 10, 2) := by decide +kernel
theorem dX12_triesTwice_73 : decode cX12_triesTwice 73 = .ok (.iload_n 3, 1) := by decide +kernel
theorem dX12_triesTwice_74 : decode cX12_triesTwice 74 = .ok (.imul, 1) := by decide +kernel
theorem dX12_triesTwice_75 : decode cX12_triesTwice 75 = .ok (.iload 4, 2) := by decide +kernel
theorem dX12_triesTwice_77 : decode cX12_triesTwice 77 = .ok (.iadd, 1) := by decide +kernel
theorem dX12_triesTwice_78 : decode cX12_triesTwice 78 = .ok (.iaload, 1) := by decide +kernel
theorem dX12_triesTwice_79 : decode cX12_triesTwice 79 = .ok (.iadd, 1) := by decide +kernel
theorem dX12_triesTwice_80 : decode cX12_triesTwice 80 = .ok (.istore 8, 2) := by decide +kernel
theorem dX12_triesTwice_82 : decode cX12_triesTwice 82 = .ok (.iload 7, 2) := by decide +kernel
theorem dX12_triesTwice_84 : decode cX12_triesTwice 84 = .ok (.iload 5, 2) := by decide +kernel
theorem dX12_triesTwice_86 : decode cX12_triesTwice 86 = .ok (.if_icmp .ne 70, 3) := by decide +kernel
theorem dX12_triesTwice_89 : decode cX12_triesTwice 89 = .ok (.aload_n 0, 1) := by decide +kernel
theorem dX12_triesTwice_90 : decode cX12_triesTwice 90 = .ok (.getfield 31, 3) := by decide +kernel
theorem dX12_triesTwice_93 : decode cX12_triesTwice 93 = .ok (.iconst 0, 1) := by decide +kernel
theorem dX12_triesTwice_94 : decode cX12_triesTwice 94 = .ok (.iaload, 1) := by decide +kernel
theorem dX12_triesTwice_95 : decode cX12_triesTwice 95 = .ok (.bipush (-5), 2) := by decide +kernel
theorem dX12_triesTwice_97 : decode cX12_triesTwice 97 = .ok (.if_icmp .eq 14, 3) := by decide +kernel
theorem dX12_triesTwice_100 : decode cX12_triesTwice 100 = .ok (.iload 8, 2) := by decide +kernel
theorem dX12_triesTwice_102 : decode cX12_triesTwice 102 = .ok (.aload_n 0, 1) := by decide +kernel
theorem dX12_triesTwice_103 : decode cX12_triesTwice 103 = .ok (.getfield 31, 3) := by decide +kernel
theorem dX12_triesTwice_106 : decode cX12_triesTwice 106 = .ok (.iconst 0, 1) := by decide +kernel
theorem dX12_triesTwice_107 : decode cX12_triesTwice 107 = .ok (.iaload, 1) := by decide +kernel
theorem dX12_triesTwice_108 : decode cX12_triesTwice 108 = .ok (.if_icmp .ge 48, 3) := by decide +kernel
theorem dX12_triesTwice_111 : decode cX12_triesTwice 111 = .ok (.aload_n 0, 1) := by decide +kernel
theorem dX12_triesTwice_112 : decode cX12_triesTwice 112 = .ok (.getfield 31, 3) := by decide +kernel
theorem dX12_triesTwice_115 : decode cX12_triesTwice 115 = .ok (.iconst 0, 1) := by decide +kernel
theorem dX12_triesTwice_116 : decode cX12_triesTwice 116 = .ok (.iload 8, 2) := by decide +kernel
theorem dX12_triesTwice_118 : decode cX12_triesTwice 118 = .ok (.iastore, 1) := by decide +kernel
theorem dX12_triesTwice_119 : decode cX12_triesTwice 119 = .ok (.aload_n 0, 1) := by decide +kernel
theorem dX12_triesTwice_120 : decode cX12_triesTwice 120 = .ok (.getfield 31, 3) := by decide +kernel
theorem dX12_triesTwice_123 : decode cX12_triesTwice 123 = .ok (.iconst 1, 1) := by decide +kernel
theorem dX12_triesTwice_124 : decode cX12_triesTwice 124 = .ok (.iload_n 1, 1) := by decide +kernel
theorem dX12_triesTwice_125 : decode cX12_triesTwice 125 = .ok (.iastore, 1) := by decide +kernel
theorem dX12_triesTwice_126 : decode cX12_triesTwice 126 = .ok (.aload_n 0, 1) := by decide +kernel
theorem dX12_triesTwice_127 : decode cX12_triesTwice 127 = .ok (.getfield 31, 3) := by decide +kernel
theorem dX12_triesTwice_130 : decode cX12_triesTwice 130 = .ok (.iconst 2, 1) := by decide +kernel
theorem dX12_triesTwice_131 : decode cX12_triesTwice 131 = .ok (.iload_n 2, 1) := by decide +kernel
theorem dX12_triesTwice_132 : decode cX12_triesTwice 132 = .ok (.iastore, 1) := by decide +kernel
theorem dX12_triesTwice_133 : decode cX12_triesTwice 133 = .ok (.aload_n 0, 1) := by decide +kernel
theorem dX12_triesTwice_134 : decode cX12_triesTwice 134 = .ok (.getfield 31, 3) := by decide +kernel
theorem dX12_triesTwice_137 : decode cX12_triesTwice 137 = .ok (.iconst 3, 1) := by decide +kernel
theorem dX12_triesTwice_138 : decode cX12_triesTwice 138 = .ok (.iload_n 3, 1) := by decide +kernel
theorem dX12_triesTwice_139 : decode cX12_triesTwice 139 = .ok (.iastore, 1) := by decide +kernel
theorem dX12_triesTwice_140 : decode cX12_triesTwice 140 = .ok (.aload_n 0, 1) := by decide +kernel
theorem dX12_triesTwice_141 : decode cX12_triesTwice 141 = .ok (.getfield 31, 3) := by decide +kernel
theorem dX12_triesTwice_144 : decode cX12_triesTwice 144 = .ok (.iconst 4, 1) := by decide +kernel
theorem dX12_triesTwice_145 : decode cX12_triesTwice 145 = .ok (.iload 4, 2) := by decide +kernel
theorem dX12_triesTwice_147 : decode cX12_triesTwice 147 = .ok (.iastore, 1) := by decide +kernel
theorem dX12_triesTwice_148 : decode cX12_triesTwice 148 = .ok (.aload_n 0, 1) := by decide +kernel
theorem dX12_triesTwice_149 : decode cX12_triesTwice 149 = .ok (.getfield 31, 3) := by decide +kernel
theorem dX12_triesTwice_152 : decode cX12_triesTwice 152 = .ok (.iconst 5, 1) := by decide +kernel
theorem dX12_triesTwice_153 : decode cX12_triesTwice 153 = .ok (.iload 6, 2) := by decide +kernel
theorem dX12_triesTwice_155 : decode cX12_triesTwice 155 = .ok (.iastore, 1) := by decide +kernel
theorem dX12_triesTwice_156 : decode cX12_triesTwice 156 = .ok (.iinc 6 1, 3) := by decide +kernel
theorem dX12_triesTwice_159 : decode cX12_triesTwice 159 = .ok (.goto (-156), 3) := by decide +kernel
theorem dX12_triesTwice_162 : decode cX12_triesTwice 162 = .ok (.return_, 1) := by decide +kernel
def f_X12_triesTwice_156 (K3 : St → Int32 → Int32 → Int32 → Int32 → Int32 → Int32 → St) (σ : St) (a1 : Int32) (a2 : Int32) (a3 : Int32) (a4 : Int32) (a5 : Int32) (a6 : Int32) : St := (K3 σ a1 a2 a3 a4 a5 (a6 + (1 : Int32)))
set_option maxHeartbeats 600000 in
set_option maxRecDepth 100000 in
theorem b_X12_triesTwice_156 {g : GG} {p : Program} {l : Launch} {e : Env} {s : State} {m : MethodId} {args : Array Value} {below : List Frame} {meth : Method} {c : Code} {A : Nat → Prop} {tgt : St} {K3 : St → Int32 → Int32 → Int32 → Int32 → Int32 → Int32 → St} {N3 : Nat} (C0 : BC p s m args meth c cX12_triesTwice RX12 9 none) (hK3 : ∀ (σ : St) (a1 : Int32) (a2 : Int32) (a3 : Int32) (a4 : Int32) (a5 : Int32) (a6 : Int32), (0 ≤ a1.toInt) → (a1.toInt < 6) → (0 ≤ a2.toInt) → (a2.toInt < 10) → (0 ≤ a3.toInt) → (a3.toInt < 6) → (0 ≤ a4.toInt) → (a4.toInt < 10) → (0 ≤ a6.toInt) → (2 - a6.toInt).toNat < N3 → ∀ {H : Heap} {locs : List Loc}, KK g s → WC g (mW g) A s.heap σ H locs → ∀ {ls : Array Slot}, lv_has ls 9 [(0, .ref (g.2.2 100)), (1, .int (a1)), (2, .int (a2)), (3, .int (a3)), (4, .int (a4)), (5, .int (a5)), (6, .int (a6))] → K3 σ a1 a2 a3 a4 a5 a6 = tgt → W p l e { frames := 0, cells := 0, slots := 0, locals := 0 } s m args below meth c H locs 0 0 (QMV below args s g (mW g) A tgt) (F0 m 3 ls [])) {σ : St} {a1 : Int32} {a2 : Int32} {a3 : Int32} {a4 : Int32} {a5 : Int32} {a6 : Int32} {H : Heap} {locs : List Loc} (h1 : 0 ≤ a1.toInt) (h1b : a1.toInt < 6) (h2 : 0 ≤ a2.toInt) (h2b : a2.toInt < 10) (h3 : 0 ≤ a3.toInt) (h3b : a3.toInt < 6) (h4 : 0 ≤ a4.toInt) (h4b : a4.toInt < 10) (h6 : 0 ≤ a6.toInt) (h6b : a6.toInt < 2) (hm3 : (2 - a6.toInt).toNat < N3 + 1)  (hK : KK g s) (hC : WC g (mW g) A s.heap σ H locs) {ls : Array Slot} (hl : lv_has ls 9 [(0, .ref (g.2.2 100)), (1, .int (a1)), (2, .int (a2)), (3, .int (a3)), (4, .int (a4)), (5, .int (a5)), (6, .int (a6))]) (hT : f_X12_triesTwice_156 K3 σ a1 a2 a3 a4 a5 a6 = tgt) : W p l e { frames := 0, cells := 0, slots := 0, locals := 0 } s m args below meth c H locs 0 0 (QMV below args s g (mW g) A tgt) (F0 m 156 ls []) := by
  obtain ⟨hx, hb, hr, hml, hown, hts, hlocks⟩ := id C0
  unfold f_X12_triesTwice_156 at hT
  refine lv_iinc (v := (a6 + (1 : Int32))) (lv' := [(6, .int ((a6 + (1 : Int32)))), (0, .ref (g.2.2 100)), (1, .int (a1)), (2, .int (a2)), (3, .int (a3)), (4, .int (a4)), (5, .int (a5))]) hx hb dX12_triesTwice_156 hl (k := 6) rfl rfl (by decide) rfl (fun ls hl => ?_)
  refine lv_goto (tgt := 3) hx hb dX12_triesTwice_159 (by decide) ?_
  have j159_h6 : 0 ≤ (a6 + (1 : Int32)).toInt := by
    have : ((1 : Int32)).toInt = 1 := by decide
    try have := ti_add (a := a6) (b := (1 : Int32)) (by omega) (by omega)
    omega
  have j159_m : (2 - (a6 + (1 : Int32)).toInt).toNat < N3 := by
    have : ((1 : Int32)).toInt = 1 := by decide
    try have := ti_add (a := a6) (b := (1 : Int32)) (by omega) (by omega)
    omega
  exact hK3 σ a1 a2 a3 a4 a5 (a6 + (1 : Int32)) h1 h1b h2 h2b h3 h3b h4 h4b j159_h6 j159_m hK hC (lv_sub hl [1, 2, 3, 4, 5, 6, 0] rfl) hT
def f_X12_triesTwice_111 (K3 : St → Int32 → Int32 → Int32 → Int32 → Int32 → Int32 → St) (σ : St) (a1 : Int32) (a2 : Int32) (a3 : Int32) (a4 : Int32) (a5 : Int32) (a6 : Int32) (a8 : Int32) : St := (f_X12_triesTwice_156 K3 (up2 (up2 (up2 (up2 (up2 (up2 σ 19 0 a8) 19 1 a1) 19 2 a2) 19 3 a3) 19 4 a4) 19 5 a6) a1 a2 a3 a4 a5 a6)
set_option maxHeartbeats 600000 in
set_option maxRecDepth 100000 in
theorem b_X12_triesTwice_111 {g : GG} {p : Program} {l : Launch} {e : Env} {s : State} {m : MethodId} {args : Array Value} {below : List Frame} {meth : Method} {c : Code} {A : Nat → Prop} {tgt : St} {K3 : St → Int32 → Int32 → Int32 → Int32 → Int32 → Int32 → St} {N3 : Nat} (C0 : BC p s m args meth c cX12_triesTwice RX12 9 none) (hK3 : ∀ (σ : St) (a1 : Int32) (a2 : Int32) (a3 : Int32) (a4 : Int32) (a5 : Int32) (a6 : Int32), (0 ≤ a1.toInt) → (a1.toInt < 6) → (0 ≤ a2.toInt) → (a2.toInt < 10) → (0 ≤ a3.toInt) → (a3.toInt < 6) → (0 ≤ a4.toInt) → (a4.toInt < 10) → (0 ≤ a6.toInt) → (2 - a6.toInt).toNat < N3 → ∀ {H : Heap} {locs : List Loc}, KK g s → WC g (mW g) A s.heap σ H locs → ∀ {ls : Array Slot}, lv_has ls 9 [(0, .ref (g.2.2 100)), (1, .int (a1)), (2, .int (a2)), (3, .int (a3)), (4, .int (a4)), (5, .int (a5)), (6, .int (a6))] → K3 σ a1 a2 a3 a4 a5 a6 = tgt → W p l e { frames := 0, cells := 0, slots := 0, locals := 0 } s m args below meth c H locs 0 0 (QMV below args s g (mW g) A tgt) (F0 m 3 ls [])) {σ : St} {a1 : Int32} {a2 : Int32} {a3 : Int32} {a4 : Int32} {a5 : Int32} {a6 : Int32} {a8 : Int32} {H : Heap} {locs : List Loc} (h1 : 0 ≤ a1.toInt) (h1b : a1.toInt < 6) (h2 : 0 ≤ a2.toInt) (h2b : a2.toInt < 10) (h3 : 0 ≤ a3.toInt) (h3b : a3.toInt < 6) (h4 : 0 ≤ a4.toInt) (h4b : a4.toInt < 10) (h6 : 0 ≤ a6.toInt) (h6b : a6.toInt < 2) (hm3 : (2 - a6.toInt).toNat < N3 + 1)  (hK : KK g s) (hC : WC g (mW g) A s.heap σ H locs) {ls : Array Slot} (hl : lv_has ls 9 [(0, .ref (g.2.2 100)), (1, .int (a1)), (2, .int (a2)), (3, .int (a3)), (4, .int (a4)), (5, .int (a5)), (6, .int (a6)), (8, .int (a8))]) (hT : f_X12_triesTwice_111 K3 σ a1 a2 a3 a4 a5 a6 a8 = tgt) : W p l e { frames := 0, cells := 0, slots := 0, locals := 0 } s m args below meth c H locs 0 0 (QMV below args s g (mW g) A tgt) (F0 m 111 ls []) := by
  obtain ⟨hx, hb, hr, hml, hown, hts, hlocks⟩ := id C0
  unfold f_X12_triesTwice_111 at hT
  refine lv_aload_n hx hb dX12_triesTwice_111 rfl (lv_at hl 0 rfl) ?_
  refine m_get (σ := σ) (v := .ref (g.2.2 19)) C0 hK hC.1 19 (by decide) rfl w_986 dX12_triesTwice_112 ?_
  refine lv_iconst (v := (0 : Int32)) hx hb dX12_triesTwice_115 (by decide) ?_
  refine lv_iload hx hb dX12_triesTwice_116 (lv_at hl 7 rfl) ?_
  refine m_ast (σ := σ) C0 hK hC 7 19 6 rfl (ms_19 g _) (vin_l (by decide)) 0 (by decide) dX12_triesTwice_118 (fun H locs hC => ?_)
  refine lv_aload_n hx hb dX12_triesTwice_119 rfl (lv_at hl 0 rfl) ?_
  refine m_get (σ := (up2 σ 19 0 a8)) (v := .ref (g.2.2 19)) C0 hK hC.1 19 (by decide) rfl w_986 dX12_triesTwice_120 ?_
  refine lv_iconst (v := (1 : Int32)) hx hb dX12_triesTwice_123 (by decide) ?_
  refine lv_iload_n hx hb dX12_triesTwice_124 rfl (lv_at hl 1 rfl) ?_
  refine m_ast (σ := (up2 σ 19 0 a8)) C0 hK hC 7 19 6 rfl (ms_19 g _) (vin_l (by decide)) 1 (by decide) dX12_triesTwice_125 (fun H locs hC => ?_)
  refine lv_aload_n hx hb dX12_triesTwice_126 rfl (lv_at hl 0 rfl) ?_
  refine m_get (σ := (up2 (up2 σ 19 0 a8) 19 1 a1)) (v := .ref (g.2.2 19)) C0 hK hC.1 19 (by decide) rfl w_986 dX12_triesTwice_127 ?_
  refine lv_iconst (v := (2 : Int32)) hx hb dX12_triesTwice_130 (by decide) ?_
  refine lv_iload_n hx hb dX12_triesTwice_131 rfl (lv_at hl 2 rfl) ?_
  refine m_ast (σ := (up2 (up2 σ 19 0 a8) 19 1 a1)) C0 hK hC 7 19 6 rfl (ms_19 g _) (vin_l (by decide)) 2 (by decide) dX12_triesTwice_132 (fun H locs hC => ?_)
  refine lv_aload_n hx hb dX12_triesTwice_133 rfl (lv_at hl 0 rfl) ?_
  refine m_get (σ := (up2 (up2 (up2 σ 19 0 a8) 19 1 a1) 19 2 a2)) (v := .ref (g.2.2 19)) C0 hK hC.1 19 (by decide) rfl w_986 dX12_triesTwice_134 ?_
  refine lv_iconst (v := (3 : Int32)) hx hb dX12_triesTwice_137 (by decide) ?_
  refine lv_iload_n hx hb dX12_triesTwice_138 rfl (lv_at hl 3 rfl) ?_
  refine m_ast (σ := (up2 (up2 (up2 σ 19 0 a8) 19 1 a1) 19 2 a2)) C0 hK hC 7 19 6 rfl (ms_19 g _) (vin_l (by decide)) 3 (by decide) dX12_triesTwice_139 (fun H locs hC => ?_)
  refine lv_aload_n hx hb dX12_triesTwice_140 rfl (lv_at hl 0 rfl) ?_
  refine m_get (σ := (up2 (up2 (up2 (up2 σ 19 0 a8) 19 1 a1) 19 2 a2) 19 3 a3)) (v := .ref (g.2.2 19)) C0 hK hC.1 19 (by decide) rfl w_986 dX12_triesTwice_141 ?_
  refine lv_iconst (v := (4 : Int32)) hx hb dX12_triesTwice_144 (by decide) ?_
  refine lv_iload hx hb dX12_triesTwice_145 (lv_at hl 4 rfl) ?_
  refine m_ast (σ := (up2 (up2 (up2 (up2 σ 19 0 a8) 19 1 a1) 19 2 a2) 19 3 a3)) C0 hK hC 7 19 6 rfl (ms_19 g _) (vin_l (by decide)) 4 (by decide) dX12_triesTwice_147 (fun H locs hC => ?_)
  refine lv_aload_n hx hb dX12_triesTwice_148 rfl (lv_at hl 0 rfl) ?_
  refine m_get (σ := (up2 (up2 (up2 (up2 (up2 σ 19 0 a8) 19 1 a1) 19 2 a2) 19 3 a3) 19 4 a4)) (v := .ref (g.2.2 19)) C0 hK hC.1 19 (by decide) rfl w_986 dX12_triesTwice_149 ?_
  refine lv_iconst (v := (5 : Int32)) hx hb dX12_triesTwice_152 (by decide) ?_
  refine lv_iload hx hb dX12_triesTwice_153 (lv_at hl 6 rfl) ?_
  refine m_ast (σ := (up2 (up2 (up2 (up2 (up2 σ 19 0 a8) 19 1 a1) 19 2 a2) 19 3 a3) 19 4 a4)) C0 hK hC 7 19 6 rfl (ms_19 g _) (vin_l (by decide)) 5 (by decide) dX12_triesTwice_155 (fun H locs hC => ?_)
  exact b_X12_triesTwice_156  (σ := (up2 (up2 (up2 (up2 (up2 (up2 σ 19 0 a8) 19 1 a1) 19 2 a2) 19 3 a3) 19 4 a4) 19 5 a6)) (a1 := a1) (a2 := a2) (a3 := a3) (a4 := a4) (a5 := a5) (a6 := a6) C0 hK3 h1 h1b h2 h2b h3 h3b h4 h4b h6 h6b hm3 hK hC (lv_sub hl [0, 1, 2, 3, 4, 5, 6] rfl) hT
def f_X12_triesTwice_3 (K3 : St → Int32 → Int32 → Int32 → Int32 → Int32 → Int32 → St) (σ : St) (a1 : Int32) (a2 : Int32) (a3 : Int32) (a4 : Int32) (a5 : Int32) (a6 : Int32) : St := (if (2 : Int32) ≤ a6 then σ else (if ((σ 17 (ix (((10 : Int32) * a1) + a2))) + (if a6 = 0 then (σ 17 (ix (((10 : Int32) * a3) + a4))) else (-(σ 17 (ix (((10 : Int32) * a3) + a4)))))) = a5 then (if (σ 19 0) = (-5 : Int32) then (f_X12_triesTwice_111 K3 σ a1 a2 a3 a4 a5 a6 ((σ 18 (ix (((10 : Int32) * a1) + a2))) + (σ 18 (ix (((10 : Int32) * a3) + a4))))) else (if (σ 19 0) ≤ ((σ 18 (ix (((10 : Int32) * a1) + a2))) + (σ 18 (ix (((10 : Int32) * a3) + a4)))) then (f_X12_triesTwice_156 K3 σ a1 a2 a3 a4 a5 a6) else (f_X12_triesTwice_111 K3 σ a1 a2 a3 a4 a5 a6 ((σ 18 (ix (((10 : Int32) * a1) + a2))) + (σ 18 (ix (((10 : Int32) * a3) + a4))))))) else (f_X12_triesTwice_156 K3 σ a1 a2 a3 a4 a5 a6)))
set_option maxHeartbeats 600000 in
set_option maxRecDepth 100000 in
theorem b_X12_triesTwice_3 {g : GG} {p : Program} {l : Launch} {e : Env} {s : State} {m : MethodId} {args : Array Value} {below : List Frame} {meth : Method} {c : Code} {A : Nat → Prop} {tgt : St} {K3 : St → Int32 → Int32 → Int32 → Int32 → Int32 → Int32 → St} {N3 : Nat} (C0 : BC p s m args meth c cX12_triesTwice RX12 9 none) (hK3 : ∀ (σ : St) (a1 : Int32) (a2 : Int32) (a3 : Int32) (a4 : Int32) (a5 : Int32) (a6 : Int32), (0 ≤ a1.toInt) → (a1.toInt < 6) → (0 ≤ a2.toInt) → (a2.toInt < 10) → (0 ≤ a3.toInt) → (a3.toInt < 6) → (0 ≤ a4.toInt) → (a4.toInt < 10) → (0 ≤ a6.toInt) → (2 - a6.toInt).toNat < N3 → ∀ {H : Heap} {locs : List Loc}, KK g s → WC g (mW g) A s.heap σ H locs → ∀ {ls : Array Slot}, lv_has ls 9 [(0, .ref (g.2.2 100)), (1, .int (a1)), (2, .int (a2)), (3, .int (a3)), (4, .int (a4)), (5, .int (a5)), (6, .int (a6))] → K3 σ a1 a2 a3 a4 a5 a6 = tgt → W p l e { frames := 0, cells := 0, slots := 0, locals := 0 } s m args below meth c H locs 0 0 (QMV below args s g (mW g) A tgt) (F0 m 3 ls [])) {σ : St} {a1 : Int32} {a2 : Int32} {a3 : Int32} {a4 : Int32} {a5 : Int32} {a6 : Int32} {H : Heap} {locs : List Loc} (h1 : 0 ≤ a1.toInt) (h1b : a1.toInt < 6) (h2 : 0 ≤ a2.toInt) (h2b : a2.toInt < 10) (h3 : 0 ≤ a3.toInt) (h3b : a3.toInt < 6) (h4 : 0 ≤ a4.toInt) (h4b : a4.toInt < 10) (h6 : 0 ≤ a6.toInt) (hm : (2 - a6.toInt).toNat < N3 + 1) (hK : KK g s) (hC : WC g (mW g) A s.heap σ H locs) {ls : Array Slot} (hl : lv_has ls 9 [(0, .ref (g.2.2 100)), (1, .int (a1)), (2, .int (a2)), (3, .int (a3)), (4, .int (a4)), (5, .int (a5)), (6, .int (a6))]) (hT : f_X12_triesTwice_3 K3 σ a1 a2 a3 a4 a5 a6 = tgt) : W p l e { frames := 0, cells := 0, slots := 0, locals := 0 } s m args below meth c H locs 0 0 (QMV below args s g (mW g) A tgt) (F0 m 3 ls []) := by
  obtain ⟨hx, hb, hr, hml, hown, hts, hlocks⟩ := id C0
  unfold f_X12_triesTwice_3 at hT
  refine lv_iload hx hb dX12_triesTwice_3 (lv_at hl 6 rfl) ?_
  refine lv_iconst (v := (2 : Int32)) hx hb dX12_triesTwice_5 (by decide) ?_
  refine lv_icmp_ge (tgt := 162) hx hb dX12_triesTwice_6 (by decide) (fun c_6 => ?_) (fun c_6 => ?_)
  · have hT := hT_pos c_6 hT
    exact ret_MV C0 hC hT dX12_triesTwice_162
  · have hT := hT_neg c_6 hT
    refine lv_aload_n hx hb dX12_triesTwice_9 rfl (lv_at hl 0 rfl) ?_
    refine m_get (σ := σ) (v := .ref (g.2.2 17)) C0 hK hC.1 17 (by decide) rfl w_984 dX12_triesTwice_10 ?_
    refine lv_bipush (v := (10 : Int32)) hx hb dX12_triesTwice_13 (by decide) ?_
    refine lv_iload_n hx hb dX12_triesTwice_15 rfl (lv_at hl 1 rfl) ?_
    refine lv_imul hx hb dX12_triesTwice_16 ?_
    refine lv_iload_n hx hb dX12_triesTwice_17 rfl (lv_at hl 2 rfl) ?_
    refine lv_iadd hx hb dX12_triesTwice_18 ?_
    have o_19 : vp_in (((10 : Int32) * a1) + a2) 60 := by
      have : ((2 : Int32)).toInt = 2 := by decide
      have : ((10 : Int32)).toInt = 10 := by decide
      have := mt ti_le.mpr c_6
      try have := ti_mulR (a := (10 : Int32)) (b := a1) (n := 10) (by decide) (by omega) (by omega)
      try have := ti_add (a := ((10 : Int32) * a1)) (b := a2) (by omega) (by omega)
      exact vin (by omega) (by omega)
    refine m_ald (σ := σ) C0 hK hC.1 5 17 60 rfl o_19 (ix (((10 : Int32) * a1) + a2)) rfl dX12_triesTwice_19 ?_
    refine lv_iload hx hb dX12_triesTwice_20 (lv_at hl 6 rfl) ?_
    have J22 : ∀ v : Int32, v = (if a6 = 0 then (σ 17 (ix (((10 : Int32) * a3) + a4))) else (-(σ 17 (ix (((10 : Int32) * a3) + a4))))) → W p l e { frames := 0, cells := 0, slots := 0, locals := 0 } s m args below meth c H locs 0 0 (QMV below args s g (mW g) A tgt) (F0 m 53 ls [.int (v), .int ((σ 17 (ix (((10 : Int32) * a1) + a2))))]) := by
      intro v ev
      subst ev
      refine lv_iadd hx hb dX12_triesTwice_53 ?_
      refine lv_istore (lv' := [(7, .int (((σ 17 (ix (((10 : Int32) * a1) + a2))) + (if a6 = 0 then (σ 17 (ix (((10 : Int32) * a3) + a4))) else (-(σ 17 (ix (((10 : Int32) * a3) + a4)))))))), (0, .ref (g.2.2 100)), (1, .int (a1)), (2, .int (a2)), (3, .int (a3)), (4, .int (a4)), (5, .int (a5)), (6, .int (a6))]) hx hb dX12_triesTwice_54 hl (by decide) rfl (fun ls hl => ?_)
      refine lv_aload_n hx hb dX12_triesTwice_56 rfl (lv_at hl 1 rfl) ?_
      refine m_get (σ := σ) (v := .ref (g.2.2 18)) C0 hK hC.1 18 (by decide) rfl w_985 dX12_triesTwice_57 ?_
      refine lv_bipush (v := (10 : Int32)) hx hb dX12_triesTwice_60 (by decide) ?_
      refine lv_iload_n hx hb dX12_triesTwice_62 rfl (lv_at hl 2 rfl) ?_
      refine lv_imul hx hb dX12_triesTwice_63 ?_
      refine lv_iload_n hx hb dX12_triesTwice_64 rfl (lv_at hl 3 rfl) ?_
      refine lv_iadd hx hb dX12_triesTwice_65 ?_
      have o_66 : vp_in (((10 : Int32) * a1) + a2) 60 := by
        have : ((2 : Int32)).toInt = 2 := by decide
        have : ((10 : Int32)).toInt = 10 := by decide
        have := mt ti_le.mpr c_6
        try have := ti_mulR (a := (10 : Int32)) (b := a1) (n := 10) (by decide) (by omega) (by omega)
        try have := ti_add (a := ((10 : Int32) * a1)) (b := a2) (by omega) (by omega)
        exact vin (by omega) (by omega)
      refine m_ald (σ := σ) C0 hK hC.1 6 18 60 rfl o_66 (ix (((10 : Int32) * a1) + a2)) rfl dX12_triesTwice_66 ?_
      refine lv_aload_n hx hb dX12_triesTwice_67 rfl (lv_at hl 1 rfl) ?_
      refine m_get (σ := σ) (v := .ref (g.2.2 18)) C0 hK hC.1 18 (by decide) rfl w_985 dX12_triesTwice_68 ?_
      refine lv_bipush (v := (10 : Int32)) hx hb dX12_triesTwice_71 (by decide) ?_
      refine lv_iload_n hx hb dX12_triesTwice_73 rfl (lv_at hl 4 rfl) ?_
      refine lv_imul hx hb dX12_triesTwice_74 ?_
      refine lv_iload hx hb dX12_triesTwice_75 (lv_at hl 5 rfl) ?_
      refine lv_iadd hx hb dX12_triesTwice_77 ?_
      have o_78 : vp_in (((10 : Int32) * a3) + a4) 60 := by
        have : ((2 : Int32)).toInt = 2 := by decide
        have : ((10 : Int32)).toInt = 10 := by decide
        have := mt ti_le.mpr c_6
        try have := ti_mulR (a := (10 : Int32)) (b := a3) (n := 10) (by decide) (by omega) (by omega)
        try have := ti_add (a := ((10 : Int32) * a3)) (b := a4) (by omega) (by omega)
        exact vin (by omega) (by omega)
      refine m_ald (σ := σ) C0 hK hC.1 6 18 60 rfl o_78 (ix (((10 : Int32) * a3) + a4)) rfl dX12_triesTwice_78 ?_
      refine lv_iadd hx hb dX12_triesTwice_79 ?_
      refine lv_istore (lv' := [(8, .int (((σ 18 (ix (((10 : Int32) * a1) + a2))) + (σ 18 (ix (((10 : Int32) * a3) + a4)))))), (7, .int (((σ 17 (ix (((10 : Int32) * a1) + a2))) + (if a6 = 0 then (σ 17 (ix (((10 : Int32) * a3) + a4))) else (-(σ 17 (ix (((10 : Int32) * a3) + a4)))))))), (0, .ref (g.2.2 100)), (1, .int (a1)), (2, .int (a2)), (3, .int (a3)), (4, .int (a4)), (5, .int (a5)), (6, .int (a6))]) hx hb dX12_triesTwice_80 hl (by decide) rfl (fun ls hl => ?_)
      refine lv_iload hx hb dX12_triesTwice_82 (lv_at hl 1 rfl) ?_
      refine lv_iload hx hb dX12_triesTwice_84 (lv_at hl 7 rfl) ?_
      refine lv_icmp_ne (tgt := 156) hx hb dX12_triesTwice_86 (by decide) (fun c_86 => ?_) (fun c_86 => ?_)
      · have hT := hT_neg c_86 hT
        have j86_h6b : a6.toInt < 2 := by
          have : ((2 : Int32)).toInt = 2 := by decide
          have := mt ti_le.mpr c_6
          have := mt ti_eq.mpr c_86
          try have := ti_add (a := (σ 17 (ix (((10 : Int32) * a1) + a2)))) (b := (if a6 = 0 then (σ 17 (ix (((10 : Int32) * a3) + a4))) else (-(σ 17 (ix (((10 : Int32) * a3) + a4)))))) (by omega) (by omega)
          try have := ti_add (a := (σ 18 (ix (((10 : Int32) * a1) + a2)))) (b := (σ 18 (ix (((10 : Int32) * a3) + a4)))) (by omega) (by omega)
          omega
        have j86_hm3 : (2 - a6.toInt).toNat < N3 + 1 := by
          have : ((2 : Int32)).toInt = 2 := by decide
          have := mt ti_le.mpr c_6
          have := mt ti_eq.mpr c_86
          try have := ti_add (a := (σ 17 (ix (((10 : Int32) * a1) + a2)))) (b := (if a6 = 0 then (σ 17 (ix (((10 : Int32) * a3) + a4))) else (-(σ 17 (ix (((10 : Int32) * a3) + a4)))))) (by omega) (by omega)
          try have := ti_add (a := (σ 18 (ix (((10 : Int32) * a1) + a2)))) (b := (σ 18 (ix (((10 : Int32) * a3) + a4)))) (by omega) (by omega)
          omega
        exact b_X12_triesTwice_156  (σ := σ) (a1 := a1) (a2 := a2) (a3 := a3) (a4 := a4) (a5 := a5) (a6 := a6) C0 hK3 h1 h1b h2 h2b h3 h3b h4 h4b h6 j86_h6b j86_hm3 hK hC (lv_sub hl [2, 3, 4, 5, 6, 7, 8] rfl) hT
      · have hT := hT_pos c_86 hT
        refine lv_aload_n hx hb dX12_triesTwice_89 rfl (lv_at hl 2 rfl) ?_
        refine m_get (σ := σ) (v := .ref (g.2.2 19)) C0 hK hC.1 19 (by decide) rfl w_986 dX12_triesTwice_90 ?_
        refine lv_iconst (v := (0 : Int32)) hx hb dX12_triesTwice_93 (by decide) ?_
        refine m_ald (σ := σ) C0 hK hC.1 7 19 6 rfl (vin_l (by decide)) 0 (by decide) dX12_triesTwice_94 ?_
        refine lv_bipush (v := (-5 : Int32)) hx hb dX12_triesTwice_95 (by decide) ?_
        refine lv_icmp_eq (tgt := 111) hx hb dX12_triesTwice_97 (by decide) (fun c_97 => ?_) (fun c_97 => ?_)
        · have hT := hT_pos c_97 hT
          have j97_h6b : a6.toInt < 2 := by
            have : ((2 : Int32)).toInt = 2 := by decide
            have : ((-5 : Int32)).toInt = -5 := by decide
            have := mt ti_le.mpr c_6
            have := ti_eq.mp c_86
            have := ti_eq.mp c_97
            try have := ti_add (a := (σ 17 (ix (((10 : Int32) * a1) + a2)))) (b := (if a6 = 0 then (σ 17 (ix (((10 : Int32) * a3) + a4))) else (-(σ 17 (ix (((10 : Int32) * a3) + a4)))))) (by omega) (by omega)
            try have := ti_add (a := (σ 18 (ix (((10 : Int32) * a1) + a2)))) (b := (σ 18 (ix (((10 : Int32) * a3) + a4)))) (by omega) (by omega)
            omega
          have j97_hm3 : (2 - a6.toInt).toNat < N3 + 1 := by
            have : ((2 : Int32)).toInt = 2 := by decide
            have : ((-5 : Int32)).toInt = -5 := by decide
            have := mt ti_le.mpr c_6
            have := ti_eq.mp c_86
            have := ti_eq.mp c_97
            try have := ti_add (a := (σ 17 (ix (((10 : Int32) * a1) + a2)))) (b := (if a6 = 0 then (σ 17 (ix (((10 : Int32) * a3) + a4))) else (-(σ 17 (ix (((10 : Int32) * a3) + a4)))))) (by omega) (by omega)
            try have := ti_add (a := (σ 18 (ix (((10 : Int32) * a1) + a2)))) (b := (σ 18 (ix (((10 : Int32) * a3) + a4)))) (by omega) (by omega)
            omega
          exact b_X12_triesTwice_111  (σ := σ) (a1 := a1) (a2 := a2) (a3 := a3) (a4 := a4) (a5 := a5) (a6 := a6) (a8 := ((σ 18 (ix (((10 : Int32) * a1) + a2))) + (σ 18 (ix (((10 : Int32) * a3) + a4))))) C0 hK3 h1 h1b h2 h2b h3 h3b h4 h4b h6 j97_h6b j97_hm3 hK hC (lv_sub hl [2, 3, 4, 5, 6, 7, 8, 0] rfl) hT
        · have hT := hT_neg c_97 hT
          refine lv_iload hx hb dX12_triesTwice_100 (lv_at hl 0 rfl) ?_
          refine lv_aload_n hx hb dX12_triesTwice_102 rfl (lv_at hl 2 rfl) ?_
          refine m_get (σ := σ) (v := .ref (g.2.2 19)) C0 hK hC.1 19 (by decide) rfl w_986 dX12_triesTwice_103 ?_
          refine lv_iconst (v := (0 : Int32)) hx hb dX12_triesTwice_106 (by decide) ?_
          refine m_ald (σ := σ) C0 hK hC.1 7 19 6 rfl (vin_l (by decide)) 0 (by decide) dX12_triesTwice_107 ?_
          refine lv_icmp_ge (tgt := 156) hx hb dX12_triesTwice_108 (by decide) (fun c_108 => ?_) (fun c_108 => ?_)
          · have hT := hT_pos c_108 hT
            have j108_h6b : a6.toInt < 2 := by
              have : ((2 : Int32)).toInt = 2 := by decide
              have : ((-5 : Int32)).toInt = -5 := by decide
              have := mt ti_le.mpr c_6
              have := ti_eq.mp c_86
              have := mt ti_eq.mpr c_97
              have := ti_le.mp c_108
              try have := ti_add (a := (σ 17 (ix (((10 : Int32) * a1) + a2)))) (b := (if a6 = 0 then (σ 17 (ix (((10 : Int32) * a3) + a4))) else (-(σ 17 (ix (((10 : Int32) * a3) + a4)))))) (by omega) (by omega)
              try have := ti_add (a := (σ 18 (ix (((10 : Int32) * a1) + a2)))) (b := (σ 18 (ix (((10 : Int32) * a3) + a4)))) (by omega) (by omega)
              omega
            have j108_hm3 : (2 - a6.toInt).toNat < N3 + 1 := by
              have : ((2 : Int32)).toInt = 2 := by decide
              have : ((-5 : Int32)).toInt = -5 := by decide
              have := mt ti_le.mpr c_6
              have := ti_eq.mp c_86
              have := mt ti_eq.mpr c_97
              have := ti_le.mp c_108
              try have := ti_add (a := (σ 17 (ix (((10 : Int32) * a1) + a2)))) (b := (if a6 = 0 then (σ 17 (ix (((10 : Int32) * a3) + a4))) else (-(σ 17 (ix (((10 : Int32) * a3) + a4)))))) (by omega) (by omega)
              try have := ti_add (a := (σ 18 (ix (((10 : Int32) * a1) + a2)))) (b := (σ 18 (ix (((10 : Int32) * a3) + a4)))) (by omega) (by omega)
              omega
            exact b_X12_triesTwice_156  (σ := σ) (a1 := a1) (a2 := a2) (a3 := a3) (a4 := a4) (a5 := a5) (a6 := a6) C0 hK3 h1 h1b h2 h2b h3 h3b h4 h4b h6 j108_h6b j108_hm3 hK hC (lv_sub hl [2, 3, 4, 5, 6, 7, 8] rfl) hT
          · have hT := hT_neg c_108 hT
            have j108_h6b : a6.toInt < 2 := by
              have : ((2 : Int32)).toInt = 2 := by decide
              have : ((-5 : Int32)).toInt = -5 := by decide
              have := mt ti_le.mpr c_6
              have := ti_eq.mp c_86
              have := mt ti_eq.mpr c_97
              have := mt ti_le.mpr c_108
              try have := ti_add (a := (σ 17 (ix (((10 : Int32) * a1) + a2)))) (b := (if a6 = 0 then (σ 17 (ix (((10 : Int32) * a3) + a4))) else (-(σ 17 (ix (((10 : Int32) * a3) + a4)))))) (by omega) (by omega)
              try have := ti_add (a := (σ 18 (ix (((10 : Int32) * a1) + a2)))) (b := (σ 18 (ix (((10 : Int32) * a3) + a4)))) (by omega) (by omega)
              omega
            have j108_hm3 : (2 - a6.toInt).toNat < N3 + 1 := by
              have : ((2 : Int32)).toInt = 2 := by decide
              have : ((-5 : Int32)).toInt = -5 := by decide
              have := mt ti_le.mpr c_6
              have := ti_eq.mp c_86
              have := mt ti_eq.mpr c_97
              have := mt ti_le.mpr c_108
              try have := ti_add (a := (σ 17 (ix (((10 : Int32) * a1) + a2)))) (b := (if a6 = 0 then (σ 17 (ix (((10 : Int32) * a3) + a4))) else (-(σ 17 (ix (((10 : Int32) * a3) + a4)))))) (by omega) (by omega)
              try have := ti_add (a := (σ 18 (ix (((10 : Int32) * a1) + a2)))) (b := (σ 18 (ix (((10 : Int32) * a3) + a4)))) (by omega) (by omega)
              omega
            exact b_X12_triesTwice_111  (σ := σ) (a1 := a1) (a2 := a2) (a3 := a3) (a4 := a4) (a5 := a5) (a6 := a6) (a8 := ((σ 18 (ix (((10 : Int32) * a1) + a2))) + (σ 18 (ix (((10 : Int32) * a3) + a4))))) C0 hK3 h1 h1b h2 h2b h3 h3b h4 h4b h6 j108_h6b j108_hm3 hK hC (lv_sub hl [2, 3, 4, 5, 6, 7, 8, 0] rfl) hT
    refine lv_if_ne (tgt := 40) hx hb dX12_triesTwice_22 (by decide) (fun c_22 => ?_) (fun c_22 => ?_)
    · refine lv_aload_n hx hb dX12_triesTwice_40 rfl (lv_at hl 0 rfl) ?_
      refine m_get (σ := σ) (v := .ref (g.2.2 17)) C0 hK hC.1 17 (by decide) rfl w_984 dX12_triesTwice_41 ?_
      refine lv_bipush (v := (10 : Int32)) hx hb dX12_triesTwice_44 (by decide) ?_
      refine lv_iload_n hx hb dX12_triesTwice_46 rfl (lv_at hl 3 rfl) ?_
      refine lv_imul hx hb dX12_triesTwice_47 ?_
      refine lv_iload hx hb dX12_triesTwice_48 (lv_at hl 4 rfl) ?_
      refine lv_iadd hx hb dX12_triesTwice_50 ?_
      have o_51 : vp_in (((10 : Int32) * a3) + a4) 60 := by
        have : ((2 : Int32)).toInt = 2 := by decide
        have : ((0 : Int32)).toInt = 0 := by decide
        have : ((10 : Int32)).toInt = 10 := by decide
        have := mt ti_le.mpr c_6
        have := mt ti_eq.mpr c_22
        try have := ti_mulR (a := (10 : Int32)) (b := a3) (n := 10) (by decide) (by omega) (by omega)
        try have := ti_add (a := ((10 : Int32) * a3)) (b := a4) (by omega) (by omega)
        exact vin (by omega) (by omega)
      refine m_ald (σ := σ) C0 hK hC.1 5 17 60 rfl o_51 (ix (((10 : Int32) * a3) + a4)) rfl dX12_triesTwice_51 ?_
      refine lv_ineg hx hb dX12_triesTwice_52 ?_
      exact J22 _ (iv_neg c_22 rfl)
    · refine lv_aload_n hx hb dX12_triesTwice_25 rfl (lv_at hl 0 rfl) ?_
      refine m_get (σ := σ) (v := .ref (g.2.2 17)) C0 hK hC.1 17 (by decide) rfl w_984 dX12_triesTwice_26 ?_
      refine lv_bipush (v := (10 : Int32)) hx hb dX12_triesTwice_29 (by decide) ?_
      refine lv_iload_n hx hb dX12_triesTwice_31 rfl (lv_at hl 3 rfl) ?_
      refine lv_imul hx hb dX12_triesTwice_32 ?_
      refine lv_iload hx hb dX12_triesTwice_33 (lv_at hl 4 rfl) ?_
      refine lv_iadd hx hb dX12_triesTwice_35 ?_
      have o_36 : vp_in (((10 : Int32) * a3) + a4) 60 := by
        have : ((2 : Int32)).toInt = 2 := by decide
        have : ((0 : Int32)).toInt = 0 := by decide
        have : ((10 : Int32)).toInt = 10 := by decide
        have := mt ti_le.mpr c_6
        have := ti_eq.mp c_22
        try have := ti_mulR (a := (10 : Int32)) (b := a3) (n := 10) (by decide) (by omega) (by omega)
        try have := ti_add (a := ((10 : Int32) * a3)) (b := a4) (by omega) (by omega)
        exact vin (by omega) (by omega)
      refine m_ald (σ := σ) C0 hK hC.1 5 17 60 rfl o_36 (ix (((10 : Int32) * a3) + a4)) rfl dX12_triesTwice_36 ?_
      refine lv_goto (tgt := 53) hx hb dX12_triesTwice_37 (by decide) ?_
      exact J22 _ (iv_pos c_22 rfl)
def g_X12_triesTwice_3  : Nat → St → Int32 → Int32 → Int32 → Int32 → Int32 → Int32 → St
  | 0 => fun σ a1 a2 a3 a4 a5 a6 => σ
  | n + 1 => fun σ a1 a2 a3 a4 a5 a6 => f_X12_triesTwice_3  (g_X12_triesTwice_3  n) σ a1 a2 a3 a4 a5 a6
theorem l_X12_triesTwice_3 {g : GG} {p : Program} {l : Launch} {e : Env} {s : State} {m : MethodId} {args : Array Value} {below : List Frame} {meth : Method} {c : Code} {A : Nat → Prop} {tgt : St}  (C0 : BC p s m args meth c cX12_triesTwice RX12 9 none)  : ∀ (n : Nat) (σ : St) (a1 : Int32) (a2 : Int32) (a3 : Int32) (a4 : Int32) (a5 : Int32) (a6 : Int32), (0 ≤ a1.toInt) → (a1.toInt < 6) → (0 ≤ a2.toInt) → (a2.toInt < 10) → (0 ≤ a3.toInt) → (a3.toInt < 6) → (0 ≤ a4.toInt) → (a4.toInt < 10) → (0 ≤ a6.toInt) → (2 - a6.toInt).toNat < n → ∀ {H : Heap} {locs : List Loc}, KK g s → WC g (mW g) A s.heap σ H locs → ∀ {ls : Array Slot}, lv_has ls 9 [(0, .ref (g.2.2 100)), (1, .int (a1)), (2, .int (a2)), (3, .int (a3)), (4, .int (a4)), (5, .int (a5)), (6, .int (a6))] → g_X12_triesTwice_3  n σ a1 a2 a3 a4 a5 a6 = tgt → W p l e { frames := 0, cells := 0, slots := 0, locals := 0 } s m args below meth c H locs 0 0 (QMV below args s g (mW g) A tgt) (F0 m 3 ls []) := by
  intro n
  induction n with
  | zero => intro σ a1 a2 a3 a4 a5 a6 h1 h1b h2 h2b h3 h3b h4 h4b h6 hm; exact absurd hm (Nat.not_lt_zero _)
  | succ n ih =>
    intro σ a1 a2 a3 a4 a5 a6 h1 h1b h2 h2b h3 h3b h4 h4b h6 hm H locs hK hC ls hl hT
    exact b_X12_triesTwice_3  (K3 := g_X12_triesTwice_3  n) (N3 := n) C0  (fun σ a1 a2 a3 a4 a5 a6 h1 h1b h2 h2b h3 h3b h4 h4b h6 hm2 => ih σ a1 a2 a3 a4 a5 a6 h1 h1b h2 h2b h3 h3b h4 h4b h6 hm2) h1 h1b h2 h2b h3 h3b h4 h4b h6 hm hK hC hl hT
def f_X12_triesTwice (σ : St) (a1 : Int32) (a2 : Int32) (a3 : Int32) (a4 : Int32) (a5 : Int32) : St := (g_X12_triesTwice_3  (3) σ a1 a2 a3 a4 a5 (0 : Int32))
set_option maxHeartbeats 600000 in
set_option maxRecDepth 100000 in
theorem k_X12_triesTwice (l : Launch) (g : GG) (σ : St) (a1 : Int32) (a2 : Int32) (a3 : Int32) (a4 : Int32) (a5 : Int32) (h1 : 0 ≤ a1.toInt) (h1b : a1.toInt < 6) (h2 : 0 ≤ a2.toInt) (h2b : a2.toInt < 10) (h3 : 0 ≤ a3.toInt) (h3b : a3.toInt < 6) (h4 : 0 ≤ a4.toInt) (h4b : a4.toInt < 10) : MV l yX12_triesTwice (wsF yX12_triesTwice cX12_triesTwice 9 none) { frames := 0, cells := 0, slots := 0, locals := 0 } [.ref (g.2.2 100), .int (a1), .int (a2), .int (a3), .int (a4), .int (a5)] g (mW g) (fun _ => True) σ (f_X12_triesTwice σ a1 a2 a3 a4 a5) := by
  refine start_MV (by decide) (Nat.le_of_ble_eq_true rfl) ?_
  intro p e s m args below meth c C0 hK hBg hC ls hl
  generalize hAe : aA ((mW g) σ) = A at hC ⊢
  obtain ⟨hx, hb, hr, hml, hown, hts, hlocks⟩ := id C0
  have hl : lv_has ls 9 [(0, .ref (g.2.2 100)), (1, .int (a1)), (2, .int (a2)), (3, .int (a3)), (4, .int (a4)), (5, .int (a5))] := hl
  generalize hT : (f_X12_triesTwice σ a1 a2 a3 a4 a5) = tgt
  suffices key : ∀ (H : Heap) (locs : List Loc), WC g (mW g) A s.heap σ H locs → W p l e { frames := 0, cells := 0, slots := 0, locals := 0 } s m args below meth c H locs 0 0 (QMV below args s g (mW g) A tgt) (F0 m 0 ls []) from key _ _ hC
  intro H locs hC
  unfold f_X12_triesTwice at hT
  refine lv_iconst (v := (0 : Int32)) hx hb dX12_triesTwice_0 (by decide) ?_
  refine lv_istore (lv' := [(6, .int ((0 : Int32))), (0, .ref (g.2.2 100)), (1, .int (a1)), (2, .int (a2)), (3, .int (a3)), (4, .int (a4)), (5, .int (a5))]) hx hb dX12_triesTwice_1 hl (by decide) rfl (fun ls hl => ?_)
  have j1_h6 : 0 ≤ (0 : Int32).toInt := by
    have : ((0 : Int32)).toInt = 0 := by decide
    omega
  have j1_m : (2 - (0 : Int32).toInt).toNat < 3 := by
    have : ((0 : Int32)).toInt = 0 := by decide
    omega
  exact l_X12_triesTwice_3  C0   (3) σ a1 a2 a3 a4 a5 (0 : Int32) h1 h1b h2 h2b h3 h3b h4 h4b j1_h6 j1_m hK hC (lv_sub hl [1, 2, 3, 4, 5, 6, 0] rfl) hT
set_option maxRecDepth 20000 in
theorem w_988 : (Cond.fieldLink RX12 34 RX12 "steps0" "[I") ∈ TB := inTB (List.mem_of_getElem? (i := 988) (by decide +kernel)) (by decide +kernel)
set_option maxRecDepth 20000 in
theorem w_989 : (Cond.fieldLink RX12 37 RX12 "queue" "[I") ∈ TB := inTB (List.mem_of_getElem? (i := 989) (by decide +kernel)) (by decide +kernel)
set_option maxRecDepth 20000 in
theorem w_990 : (Cond.fieldLink RX12 205 RX12 "tail" "I") ∈ TB := inTB (List.mem_of_getElem? (i := 990) (by decide +kernel)) (by decide +kernel)
/-! ThreeMeasuresModel.comes -/
theorem dX12_comes_0 : decode cX12_comes 0 = .ok (.aload_n 0, 1) := by decide +kernel
theorem dX12_comes_1 : decode cX12_comes 1 = .ok (.getfield 34, 3) := by decide +kernel
theorem dX12_comes_4 : decode cX12_comes 4 = .ok (.iload_n 1, 1) := by decide +kernel
theorem dX12_comes_5 : decode cX12_comes 5 = .ok (.iaload, 1) := by decide +kernel
theorem dX12_comes_6 : decode cX12_comes 6 = .ok (.iconst (-1), 1) := by decide +kernel
theorem dX12_comes_7 : decode cX12_comes 7 = .ok (.if_icmp .ne 30, 3) := by decide +kernel
theorem dX12_comes_10 : decode cX12_comes 10 = .ok (.aload_n 0, 1) := by decide +kernel
theorem dX12_comes_11 : decode cX12_comes 11 = .ok (.getfield 34, 3) := by decide +kernel
theorem dX12_comes_14 : decode cX12_comes 14 = .ok (.iload_n 1, 1) := by decide +kernel
theorem dX12_comes_15 : decode cX12_comes 15 = .ok (.iload_n 2, 1) := by decide +kernel
theorem dX12_comes_16 : decode cX12_comes 16 = .ok (.iastore, 1) := by decide +kernel
theorem dX12_comes_17 : decode cX12_comes 17 = .ok (.aload_n 0, 1) := by decide +kernel
theorem dX12_comes_18 : decode cX12_comes 18 = .ok (.getfield 37, 3) := by decide +kernel
theorem dX12_comes_21 : decode cX12_comes 21 = .ok (.aload_n 0, 1) := by decide +kernel
theorem dX12_comes_22 : decode cX12_comes 22 = .ok (.getfield 205, 3) := by decide +kernel
theorem dX12_comes_25 : decode cX12_comes 25 = .ok (.iload_n 1, 1) := by decide +kernel
theorem dX12_comes_26 : decode cX12_comes 26 = .ok (.iastore, 1) := by decide +kernel
theorem dX12_comes_27 : decode cX12_comes 27 = .ok (.aload_n 0, 1) := by decide +kernel
theorem dX12_comes_28 : decode cX12_comes 28 = .ok (.dup, 1) := by decide +kernel
theorem dX12_comes_29 : decode cX12_comes 29 = .ok (.getfield 205, 3) := by decide +kernel
theorem dX12_comes_32 : decode cX12_comes 32 = .ok (.iconst 1, 1) := by decide +kernel
theorem dX12_comes_33 : decode cX12_comes 33 = .ok (.iadd, 1) := by decide +kernel
theorem dX12_comes_34 : decode cX12_comes 34 = .ok (.putfield 205, 3) := by decide +kernel
theorem dX12_comes_37 : decode cX12_comes 37 = .ok (.return_, 1) := by decide +kernel
def f_X12_comes (σ : St) (a1 : Int32) (a2 : Int32) : St := (if (σ 21 (ix a1)) = (-1 : Int32) then (up2 (up2 (up2 σ 21 (ix a1) a2) 22 (ix (σ 23 0)) a1) 23 0 ((σ 23 0) + (1 : Int32))) else σ)
set_option maxHeartbeats 600000 in
set_option maxRecDepth 100000 in
theorem k_X12_comes (l : Launch) (g : GG) (σ : St) (a1 : Int32) (a2 : Int32) (h1 : 0 ≤ a1.toInt) (h1b : a1.toInt < 1681) (ht : (σ 21 (ix a1)) = -1 → 0 ≤ (σ 23 0).toInt ∧ (σ 23 0).toInt < 1681) : MV l yX12_comes (wsF yX12_comes cX12_comes 3 none) { frames := 0, cells := 0, slots := 0, locals := 0 } [.ref (g.2.2 100), .int (a1), .int (a2)] g (mW g) (fun _ => True) σ (f_X12_comes σ a1 a2) := by
  refine start_MV (by decide) (Nat.le_of_ble_eq_true rfl) ?_
  intro p e s m args below meth c C0 hK hBg hC ls hl
  generalize hAe : aA ((mW g) σ) = A at hC ⊢
  obtain ⟨hx, hb, hr, hml, hown, hts, hlocks⟩ := id C0
  have hl : lv_has ls 3 [(0, .ref (g.2.2 100)), (1, .int (a1)), (2, .int (a2))] := hl
  generalize hT : (f_X12_comes σ a1 a2) = tgt
  suffices key : ∀ (H : Heap) (locs : List Loc), WC g (mW g) A s.heap σ H locs → W p l e { frames := 0, cells := 0, slots := 0, locals := 0 } s m args below meth c H locs 0 0 (QMV below args s g (mW g) A tgt) (F0 m 0 ls []) from key _ _ hC
  intro H locs hC
  unfold f_X12_comes at hT
  refine lv_aload_n hx hb dX12_comes_0 rfl (lv_at hl 0 rfl) ?_
  refine m_get (σ := σ) (v := .ref (g.2.2 21)) C0 hK hC.1 21 (by decide) rfl w_988 dX12_comes_1 ?_
  refine lv_iload_n hx hb dX12_comes_4 rfl (lv_at hl 1 rfl) ?_
  have o_5 : vp_in a1 1681 := by
    exact vin (by omega) (by omega)
  refine m_ald (σ := σ) C0 hK hC.1 8 21 1681 rfl o_5 (ix a1) rfl dX12_comes_5 ?_
  refine lv_iconst (v := (-1 : Int32)) hx hb dX12_comes_6 (by decide) ?_
  refine lv_icmp_ne (tgt := 37) hx hb dX12_comes_7 (by decide) (fun c_7 => ?_) (fun c_7 => ?_)
  · have hT := hT_neg c_7 hT
    exact ret_MV C0 hC hT dX12_comes_37
  · have hT := hT_pos c_7 hT
    obtain ⟨t1, t2⟩ := ht c_7
    refine lv_aload_n hx hb dX12_comes_10 rfl (lv_at hl 0 rfl) ?_
    refine m_get (σ := σ) (v := .ref (g.2.2 21)) C0 hK hC.1 21 (by decide) rfl w_988 dX12_comes_11 ?_
    refine lv_iload_n hx hb dX12_comes_14 rfl (lv_at hl 1 rfl) ?_
    refine lv_iload_n hx hb dX12_comes_15 rfl (lv_at hl 2 rfl) ?_
    have o_16 : vp_in a1 1681 := by
      have : ((-1 : Int32)).toInt = -1 := by decide
      have := ti_eq.mp c_7
      exact vin (by omega) (by omega)
    refine m_ast (σ := σ) C0 hK hC 8 21 1681 rfl (ms_21 g _) o_16 (ix a1) rfl dX12_comes_16 (fun H locs hC => ?_)
    refine lv_aload_n hx hb dX12_comes_17 rfl (lv_at hl 0 rfl) ?_
    refine m_get (σ := (up2 σ 21 (ix a1) a2)) (v := .ref (g.2.2 22)) C0 hK hC.1 22 (by decide) rfl w_989 dX12_comes_18 ?_
    refine lv_aload_n hx hb dX12_comes_21 rfl (lv_at hl 0 rfl) ?_
    refine m_get (σ := (up2 σ 21 (ix a1) a2)) (v := .int ((σ 23 0))) C0 hK hC.1 23 (by decide) rfl w_990 dX12_comes_22 ?_
    refine lv_iload_n hx hb dX12_comes_25 rfl (lv_at hl 1 rfl) ?_
    have o_26 : vp_in (σ 23 0) 1681 := by
      have : ((-1 : Int32)).toInt = -1 := by decide
      have := ti_eq.mp c_7
      exact vin (by omega) (by omega)
    refine m_ast (σ := (up2 σ 21 (ix a1) a2)) C0 hK hC 9 22 1681 rfl (ms_22 g _) o_26 (ix (σ 23 0)) rfl dX12_comes_26 (fun H locs hC => ?_)
    refine lv_aload_n hx hb dX12_comes_27 rfl (lv_at hl 0 rfl) ?_
    refine lv_dup hx hb dX12_comes_28 rfl ?_
    refine m_get (σ := (up2 (up2 σ 21 (ix a1) a2) 22 (ix (σ 23 0)) a1)) (v := .int ((σ 23 0))) C0 hK hC.1 23 (by decide) rfl w_990 dX12_comes_29 ?_
    refine lv_iconst (v := (1 : Int32)) hx hb dX12_comes_32 (by decide) ?_
    refine lv_iadd hx hb dX12_comes_33 ?_
    refine m_put (σ := (up2 (up2 σ 21 (ix a1) a2) 22 (ix (σ 23 0)) a1)) (ty := .int) C0 hK hC 23 (by decide) rfl rfl rfl rfl (ms_23 g _ _) w_990 dX12_comes_34 (fun H locs hC => ?_)
    exact ret_MV C0 hC hT dX12_comes_37
