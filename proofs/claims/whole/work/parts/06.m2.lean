
def wr (σ : St) (k : Int32) : Int32 := (σ 1 (ix ((63 : Int32) + k))) - (σ 1 (ix ((63 : Int32) + k))) / (2 : Int32) * (2 : Int32)
theorem cl_h4 {σ : St} (hI : IB (σ 1)) {a2 a4 a6 : Int32} (h6 : 0 ≤ a6.toInt) (c : ¬ σ 1 3 ≤ a6) (h4 : 0 ≤ a4.toInt ∧ a4.toInt ≤ 99 * a6.toInt) : 0 ≤ (a4 + (if wr σ a6 = a2 then (σ 1 (ix ((71 : Int32) + a6))) else (0 : Int32))).toInt ∧ (a4 + (if wr σ a6 = a2 then (σ 1 (ix ((71 : Int32) + a6))) else (0 : Int32))).toInt ≤ 99 * (a6 + 1).toInt := by
  have h := mt ti_le.mpr c
  obtain ⟨-, -, -, i3, -⟩ := id hI
  have hg := IB_g hI h6 (by omega)
  have e1 : (1 : Int32).toInt = 1 := rfl
  have e0 : (0 : Int32).toInt = 0 := rfl
  have q := ti_add (a := a6) (b := 1) (by omega) (by omega)
  split
  · have q2 := ti_add (a := a4) (b := σ 1 (ix ((71 : Int32) + a6))) (by omega) (by omega)
    omega
  · have q2 := ti_add (a := a4) (b := 0) (by omega) (by omega)
    omega
theorem cl_h46 {σ : St} (hI : IB (σ 1)) {a1 a2 a4 a6 : Int32} (hw : a2 = wr σ a1) (h6 : 0 ≤ a6.toInt) (c : ¬ σ 1 3 ≤ a6) (h4 : 0 ≤ a4.toInt ∧ a4.toInt ≤ 99 * a6.toInt) (h46 : a1.toInt < a6.toInt → 1 ≤ a4.toInt) : a1.toInt < (a6 + 1).toInt → 1 ≤ (a4 + (if wr σ a6 = a2 then (σ 1 (ix ((71 : Int32) + a6))) else (0 : Int32))).toInt := by
  intro hlt
  have h := mt ti_le.mpr c
  obtain ⟨-, -, -, i3, -⟩ := id hI
  have hg := IB_g hI h6 (by omega)
  have e1 : (1 : Int32).toInt = 1 := rfl
  have e0 : (0 : Int32).toInt = 0 := rfl
  have q := ti_add (a := a6) (b := 1) (by omega) (by omega)
  split
  · have q2 := ti_add (a := a4) (b := σ 1 (ix ((71 : Int32) + a6))) (by omega) (by omega)
    omega
  · rename_i hne
    have : a6.toInt ≠ a1.toInt := fun e => hne (by rw [hw, ti_eq.mpr e])
    have q2 := ti_add (a := a4) (b := 0) (by omega) (by omega)
    omega
theorem ge0 (x : Int32) : 0 ≤ (f_X12_greater 0 x).toInt := by
  unfold f_X12_greater
  split
  · rename_i h
    have := ti_le.mp h
    have e0 : (0 : Int32).toInt = 0 := rfl
    omega
  · decide
theorem mean_h2 {a2 : Int64} {x y n : Int32} (h2 : 0 ≤ a2.toInt ∧ a2.toInt ≤ 1998 * n.toInt) (hn : 0 ≤ n.toInt ∧ n.toInt ≤ 6) (hx : 0 ≤ x.toInt ∧ x.toInt ≤ 999) (hy : 0 ≤ y.toInt ∧ y.toInt ≤ 999) : 0 ≤ (a2 + (x + y).toInt64).toInt ∧ (a2 + (x + y).toInt64).toInt ≤ 1998 * (n + 1).toInt := by
  have e1 : (1 : Int32).toInt = 1 := rfl
  have q := ti_add (a := n) (b := 1) (by omega) (by omega)
  have q2 := ti_add (a := x) (b := y) (by omega) (by omega)
  rw [Int64.toInt_add, i2l_toInt, q2, q, e1, Int.bmod_eq_of_le (by omega) (by omega)]
  omega
theorem mul2 {n : Int32} (h1 : 1 ≤ n.toInt) (h6 : n.toInt ≤ 6) : 0 < ((2 : Int64) * n.toInt64).toInt := by
  rw [Int64.toInt_mul, i2l_toInt, show (2 : Int64).toInt = 2 from rfl, Int.bmod_eq_of_le (by omega) (by omega)]
  omega
/-! ThreeMeasuresModel.offAlong -/
theorem dX12_offAlong_0 : decode cX12_offAlong 0 = .ok (.iconst 0, 1) := by decide +kernel
theorem dX12_offAlong_1 : decode cX12_offAlong 1 = .ok (.istore_n 2, 1) := by decide +kernel
theorem dX12_offAlong_2 : decode cX12_offAlong 2 = .ok (.iconst 0, 1) := by decide +kernel
theorem dX12_offAlong_3 : decode cX12_offAlong 3 = .ok (.istore_n 3, 1) := by decide +kernel
theorem dX12_offAlong_4 : decode cX12_offAlong 4 = .ok (.iload_n 3, 1) := by decide +kernel
theorem dX12_offAlong_5 : decode cX12_offAlong 5 = .ok (.aload_n 0, 1) := by decide +kernel
theorem dX12_offAlong_6 : decode cX12_offAlong 6 = .ok (.getfield 9, 3) := by decide +kernel
theorem dX12_offAlong_9 : decode cX12_offAlong 9 = .ok (.iconst 3, 1) := by decide +kernel
theorem dX12_offAlong_10 : decode cX12_offAlong 10 = .ok (.iaload, 1) := by decide +kernel
theorem dX12_offAlong_11 : decode cX12_offAlong 11 = .ok (.if_icmp .ge 66, 3) := by decide +kernel
theorem dX12_offAlong_14 : decode cX12_offAlong 14 = .ok (.iload_n 2, 1) := by decide +kernel
theorem dX12_offAlong_15 : decode cX12_offAlong 15 = .ok (.aload_n 0, 1) := by decide +kernel
theorem dX12_offAlong_16 : decode cX12_offAlong 16 = .ok (.getfield 9, 3) := by decide +kernel
theorem dX12_offAlong_19 : decode cX12_offAlong 19 = .ok (.bipush 63, 2) := by decide +kernel
theorem dX12_offAlong_21 : decode cX12_offAlong 21 = .ok (.iload_n 3, 1) := by decide +kernel
theorem dX12_offAlong_22 : decode cX12_offAlong 22 = .ok (.iadd, 1) := by decide +kernel
theorem dX12_offAlong_23 : decode cX12_offAlong 23 = .ok (.iaload, 1) := by decide +kernel
theorem dX12_offAlong_24 : decode cX12_offAlong 24 = .ok (.iload_n 1, 1) := by decide +kernel
theorem dX12_offAlong_25 : decode cX12_offAlong 25 = .ok (.if_icmp .ne 15, 3) := by decide +kernel
theorem dX12_offAlong_28 : decode cX12_offAlong 28 = .ok (.aload_n 0, 1) := by decide +kernel
theorem dX12_offAlong_29 : decode cX12_offAlong 29 = .ok (.getfield 9, 3) := by decide +kernel
theorem dX12_offAlong_32 : decode cX12_offAlong 32 = .ok (.bipush 71, 2) := by decide +kernel
theorem dX12_offAlong_34 : decode cX12_offAlong 34 = .ok (.iload_n 3, 1) := by decide +kernel
theorem dX12_offAlong_35 : decode cX12_offAlong 35 = .ok (.iadd, 1) := by decide +kernel
theorem dX12_offAlong_36 : decode cX12_offAlong 36 = .ok (.iaload, 1) := by decide +kernel
theorem dX12_offAlong_37 : decode cX12_offAlong 37 = .ok (.goto 32, 3) := by decide +kernel
theorem dX12_offAlong_40 : decode cX12_offAlong 40 = .ok (.aload_n 0, 1) := by decide +kernel
theorem dX12_offAlong_41 : decode cX12_offAlong 41 = .ok (.getfield 9, 3) := by decide +kernel
theorem dX12_offAlong_44 : decode cX12_offAlong 44 = .ok (.bipush 63, 2) := by decide +kernel
theorem dX12_offAlong_46 : decode cX12_offAlong 46 = .ok (.iload_n 3, 1) := by decide +kernel
theorem dX12_offAlong_47 : decode cX12_offAlong 47 = .ok (.iadd, 1) := by decide +kernel
theorem dX12_offAlong_48 : decode cX12_offAlong 48 = .ok (.iaload, 1) := by decide +kernel
theorem dX12_offAlong_49 : decode cX12_offAlong 49 = .ok (.iload_n 1, 1) := by decide +kernel
theorem dX12_offAlong_50 : decode cX12_offAlong 50 = .ok (.iconst 2, 1) := by decide +kernel
theorem dX12_offAlong_51 : decode cX12_offAlong 51 = .ok (.iadd, 1) := by decide +kernel
theorem dX12_offAlong_52 : decode cX12_offAlong 52 = .ok (.if_icmp .ne 16, 3) := by decide +kernel
theorem dX12_offAlong_55 : decode cX12_offAlong 55 = .ok (.aload_n 0, 1) := by decide +kernel
theorem dX12_offAlong_56 : decode cX12_offAlong 56 = .ok (.getfield 9, 3) := by decide +kernel
theorem dX12_offAlong_59 : decode cX12_offAlong 59 = .ok (.bipush 71, 2) := by decide +kernel
theorem dX12_offAlong_61 : decode cX12_offAlong 61 = .ok (.iload_n 3, 1) := by decide +kernel
theorem dX12_offAlong_62 : decode cX12_offAlong 62 = .ok (.iadd, 1) := by decide +kernel
theorem dX12_offAlong_63 : decode cX12_offAlong 63 = .ok (.iaload, 1) := by decide +kernel
theorem dX12_offAlong_64 : decode cX12_offAlong 64 = .ok (.ineg, 1) := by decide +kernel
theorem dX12_offAlong_65 : decode cX12_offAlong 65 = .ok (.goto 4, 3) := by decide +kernel
theorem dX12_offAlong_68 : decode cX12_offAlong 68 = .ok (.iconst 0, 1) := by decide +kernel
theorem dX12_offAlong_69 : decode cX12_offAlong 69 = .ok (.iadd, 1) := by decide +kernel
theorem dX12_offAlong_70 : decode cX12_offAlong 70 = .ok (.istore_n 2, 1) := by decide +kernel
theorem dX12_offAlong_71 : decode cX12_offAlong 71 = .ok (.iinc 3 1, 3) := by decide +kernel
theorem dX12_offAlong_74 : decode cX12_offAlong 74 = .ok (.goto (-70), 3) := by decide +kernel
theorem dX12_offAlong_77 : decode cX12_offAlong 77 = .ok (.iload_n 2, 1) := by decide +kernel
theorem dX12_offAlong_78 : decode cX12_offAlong 78 = .ok (.ireturn, 1) := by decide +kernel
def f_X12_offAlong_4 (K4 : St → Int32 → Int32 → Int32 → Int32) (σ : St) (a1 : Int32) (a2 : Int32) (a3 : Int32) : Int32 := (if (σ 1 3) ≤ a3 then a2 else (K4 σ a1 (a2 + (if (σ 1 (ix ((63 : Int32) + a3))) = a1 then (σ 1 (ix ((71 : Int32) + a3))) else (if (σ 1 (ix ((63 : Int32) + a3))) = (a1 + (2 : Int32)) then (-(σ 1 (ix ((71 : Int32) + a3)))) else (0 : Int32)))) (a3 + (1 : Int32))))
set_option maxHeartbeats 600000 in
set_option maxRecDepth 100000 in
theorem b_X12_offAlong_4 {g : GG} {p : Program} {l : Launch} {e : Env} {s : State} {m : MethodId} {args : Array Value} {below : List Frame} {meth : Method} {c : Code}  {tgt : Int32} {K4 : St → Int32 → Int32 → Int32 → Int32} {N4 : Nat} (C0 : BC p s m args meth c cX12_offAlong RX12 4 (some .int)) (hK4 : ∀ (σ : St) (a1 : Int32) (a2 : Int32) (a3 : Int32), (IB (σ 1)) → (0 ≤ a3.toInt) → ((σ 1 3).toInt - a3.toInt).toNat < N4 → KK g s → va_P g.1 vwCl ((mW g) σ) s.heap → va_D (fun _ => True) ((mW g) σ) → ∀ {ls : Array Slot}, lv_has ls 4 [(0, .ref (g.2.2 100)), (1, .int (a1)), (2, .int (a2)), (3, .int (a3))] → K4 σ a1 a2 a3 = tgt → W p l e { frames := 0, cells := 0, slots := 0, locals := 0 } s m args below meth c s.heap [] 0 0 (QPI below args s tgt) (F0 m 4 ls [])) {σ : St} {a1 : Int32} {a2 : Int32} {a3 : Int32}  (hI : IB (σ 1)) (h3 : 0 ≤ a3.toInt) (hm : ((σ 1 3).toInt - a3.toInt).toNat < N4 + 1) (hK : KK g s) (hP : va_P g.1 vwCl ((mW g) σ) s.heap) (hDD : va_D (fun _ => True) ((mW g) σ)) {ls : Array Slot} (hl : lv_has ls 4 [(0, .ref (g.2.2 100)), (1, .int (a1)), (2, .int (a2)), (3, .int (a3))]) (hT : f_X12_offAlong_4 K4 σ a1 a2 a3 = tgt) : W p l e { frames := 0, cells := 0, slots := 0, locals := 0 } s m args below meth c s.heap [] 0 0 (QPI below args s tgt) (F0 m 4 ls []) := by
  obtain ⟨hx, hb, hr, hml, hown, hts, hlocks⟩ := id C0
  unfold f_X12_offAlong_4 at hT
  obtain ⟨⟨i0, i0'⟩, ⟨i1, i1'⟩, ⟨i2, i2'⟩, ⟨i3, i3'⟩, ⟨i4, i4'⟩, ⟨i5, i5'⟩, ⟨i6, i6'⟩, ⟨i7, i7'⟩, ⟨i8, i8'⟩, iK, iV, iL, iR, iW, iY, iG, iM, iB, iQ, iP, iT, iU⟩ := id hI
  refine lv_iload_n hx hb dX12_offAlong_4 rfl (lv_at hl 3 rfl) ?_
  refine lv_aload_n hx hb dX12_offAlong_5 rfl (lv_at hl 0 rfl) ?_
  refine m_get (σ := σ) (v := .ref (g.2.2 1)) C0 hK hP 1 (by decide) rfl w_968 dX12_offAlong_6 ?_
  refine lv_iconst (v := (3 : Int32)) hx hb dX12_offAlong_9 (by decide) ?_
  refine m_ald (σ := σ) C0 hK hP 1 1 916 rfl (vin_l (by decide)) 3 (by decide) dX12_offAlong_10 ?_
  refine lv_icmp_ge (tgt := 77) hx hb dX12_offAlong_11 (by decide) (fun c_11 => ?_) (fun c_11 => ?_)
  · have hT := hT_pos c_11 hT
    refine lv_iload_n hx hb dX12_offAlong_77 rfl (lv_at hl 2 rfl) ?_
    exact ret_PI C0 hT dX12_offAlong_78
  · have hT := hT_neg c_11 hT
    refine lv_iload_n hx hb dX12_offAlong_14 rfl (lv_at hl 2 rfl) ?_
    refine lv_aload_n hx hb dX12_offAlong_15 rfl (lv_at hl 0 rfl) ?_
    refine m_get (σ := σ) (v := .ref (g.2.2 1)) C0 hK hP 1 (by decide) rfl w_968 dX12_offAlong_16 ?_
    refine lv_bipush (v := (63 : Int32)) hx hb dX12_offAlong_19 (by decide) ?_
    refine lv_iload_n hx hb dX12_offAlong_21 rfl (lv_at hl 3 rfl) ?_
    refine lv_iadd hx hb dX12_offAlong_22 ?_
    have o_23 : vp_in ((63 : Int32) + a3) 916 := by
      have : ((63 : Int32)).toInt = 63 := by decide
      have := mt ti_le.mpr c_11
      try have := ti_add (a := (63 : Int32)) (b := a3) (by omega) (by omega)
      exact vin (by omega) (by omega)
    refine m_ald (σ := σ) C0 hK hP 1 1 916 rfl o_23 (ix ((63 : Int32) + a3)) rfl dX12_offAlong_23 ?_
    refine lv_iload_n hx hb dX12_offAlong_24 rfl (lv_at hl 1 rfl) ?_
    have J25 : ∀ v : Int32, v = (if (σ 1 (ix ((63 : Int32) + a3))) = a1 then (σ 1 (ix ((71 : Int32) + a3))) else (if (σ 1 (ix ((63 : Int32) + a3))) = (a1 + (2 : Int32)) then (-(σ 1 (ix ((71 : Int32) + a3)))) else (0 : Int32))) → W p l e { frames := 0, cells := 0, slots := 0, locals := 0 } s m args below meth c s.heap [] 0 0 (QPI below args s tgt) (F0 m 69 ls [.int (v), .int (a2)]) := by
      intro v ev
      subst ev
      refine lv_iadd hx hb dX12_offAlong_69 ?_
      refine lv_istore_n (lv' := [(2, .int ((a2 + (if (σ 1 (ix ((63 : Int32) + a3))) = a1 then (σ 1 (ix ((71 : Int32) + a3))) else (if (σ 1 (ix ((63 : Int32) + a3))) = (a1 + (2 : Int32)) then (-(σ 1 (ix ((71 : Int32) + a3)))) else (0 : Int32)))))), (0, .ref (g.2.2 100)), (1, .int (a1)), (3, .int (a3))]) hx hb dX12_offAlong_70 rfl hl (by decide) rfl (fun ls hl => ?_)
      refine lv_iinc (v := (a3 + (1 : Int32))) (lv' := [(3, .int ((a3 + (1 : Int32)))), (2, .int ((a2 + (if (σ 1 (ix ((63 : Int32) + a3))) = a1 then (σ 1 (ix ((71 : Int32) + a3))) else (if (σ 1 (ix ((63 : Int32) + a3))) = (a1 + (2 : Int32)) then (-(σ 1 (ix ((71 : Int32) + a3)))) else (0 : Int32)))))), (0, .ref (g.2.2 100)), (1, .int (a1))]) hx hb dX12_offAlong_71 hl (k := 3) rfl rfl (by decide) rfl (fun ls hl => ?_)
      refine lv_goto (tgt := 4) hx hb dX12_offAlong_74 (by decide) ?_
      have j74_h3 : 0 ≤ (a3 + (1 : Int32)).toInt := by
        have : ((1 : Int32)).toInt = 1 := by decide
        have := mt ti_le.mpr c_11
        try have := ti_add (a := a3) (b := (1 : Int32)) (by omega) (by omega)
        try have := ti_add (a := a2) (b := (if (σ 1 (ix ((63 : Int32) + a3))) = a1 then (σ 1 (ix ((71 : Int32) + a3))) else (if (σ 1 (ix ((63 : Int32) + a3))) = (a1 + (2 : Int32)) then (-(σ 1 (ix ((71 : Int32) + a3)))) else (0 : Int32)))) (by omega) (by omega)
        omega
      have j74_m : ((σ 1 3).toInt - (a3 + (1 : Int32)).toInt).toNat < N4 := by
        have : ((1 : Int32)).toInt = 1 := by decide
        have := mt ti_le.mpr c_11
        try have := ti_add (a := a3) (b := (1 : Int32)) (by omega) (by omega)
        try have := ti_add (a := a2) (b := (if (σ 1 (ix ((63 : Int32) + a3))) = a1 then (σ 1 (ix ((71 : Int32) + a3))) else (if (σ 1 (ix ((63 : Int32) + a3))) = (a1 + (2 : Int32)) then (-(σ 1 (ix ((71 : Int32) + a3)))) else (0 : Int32)))) (by omega) (by omega)
        omega
      exact hK4 σ a1 (a2 + (if (σ 1 (ix ((63 : Int32) + a3))) = a1 then (σ 1 (ix ((71 : Int32) + a3))) else (if (σ 1 (ix ((63 : Int32) + a3))) = (a1 + (2 : Int32)) then (-(σ 1 (ix ((71 : Int32) + a3)))) else (0 : Int32)))) (a3 + (1 : Int32)) hI j74_h3 j74_m hK hP hDD (lv_sub hl [2, 3, 1, 0] rfl) hT
    refine lv_icmp_ne (tgt := 40) hx hb dX12_offAlong_25 (by decide) (fun c_25 => ?_) (fun c_25 => ?_)
    · refine lv_aload_n hx hb dX12_offAlong_40 rfl (lv_at hl 0 rfl) ?_
      refine m_get (σ := σ) (v := .ref (g.2.2 1)) C0 hK hP 1 (by decide) rfl w_968 dX12_offAlong_41 ?_
      refine lv_bipush (v := (63 : Int32)) hx hb dX12_offAlong_44 (by decide) ?_
      refine lv_iload_n hx hb dX12_offAlong_46 rfl (lv_at hl 3 rfl) ?_
      refine lv_iadd hx hb dX12_offAlong_47 ?_
      have o_48 : vp_in ((63 : Int32) + a3) 916 := by
        have : ((63 : Int32)).toInt = 63 := by decide
        have := mt ti_le.mpr c_11
        have := mt ti_eq.mpr c_25
        try have := ti_add (a := (63 : Int32)) (b := a3) (by omega) (by omega)
        exact vin (by omega) (by omega)
      refine m_ald (σ := σ) C0 hK hP 1 1 916 rfl o_48 (ix ((63 : Int32) + a3)) rfl dX12_offAlong_48 ?_
      refine lv_iload_n hx hb dX12_offAlong_49 rfl (lv_at hl 1 rfl) ?_
      refine lv_iconst (v := (2 : Int32)) hx hb dX12_offAlong_50 (by decide) ?_
      refine lv_iadd hx hb dX12_offAlong_51 ?_
      refine lv_icmp_ne (tgt := 68) hx hb dX12_offAlong_52 (by decide) (fun c_52 => ?_) (fun c_52 => ?_)
      · refine lv_iconst (v := (0 : Int32)) hx hb dX12_offAlong_68 (by decide) ?_
        exact J25 _ (iv_neg c_25 (iv_neg c_52 rfl))
      · refine lv_aload_n hx hb dX12_offAlong_55 rfl (lv_at hl 0 rfl) ?_
        refine m_get (σ := σ) (v := .ref (g.2.2 1)) C0 hK hP 1 (by decide) rfl w_968 dX12_offAlong_56 ?_
        refine lv_bipush (v := (71 : Int32)) hx hb dX12_offAlong_59 (by decide) ?_
        refine lv_iload_n hx hb dX12_offAlong_61 rfl (lv_at hl 3 rfl) ?_
        refine lv_iadd hx hb dX12_offAlong_62 ?_
        have o_63 : vp_in ((71 : Int32) + a3) 916 := by
          have : ((2 : Int32)).toInt = 2 := by decide
          have : ((71 : Int32)).toInt = 71 := by decide
          have := mt ti_le.mpr c_11
          have := mt ti_eq.mpr c_25
          have := ti_eq.mp c_52
          try have := ti_add (a := a1) (b := (2 : Int32)) (by omega) (by omega)
          try have := ti_add (a := (71 : Int32)) (b := a3) (by omega) (by omega)
          exact vin (by omega) (by omega)
        refine m_ald (σ := σ) C0 hK hP 1 1 916 rfl o_63 (ix ((71 : Int32) + a3)) rfl dX12_offAlong_63 ?_
        refine lv_ineg hx hb dX12_offAlong_64 ?_
        refine lv_goto (tgt := 69) hx hb dX12_offAlong_65 (by decide) ?_
        exact J25 _ (iv_neg c_25 (iv_pos c_52 rfl))
    · refine lv_aload_n hx hb dX12_offAlong_28 rfl (lv_at hl 0 rfl) ?_
      refine m_get (σ := σ) (v := .ref (g.2.2 1)) C0 hK hP 1 (by decide) rfl w_968 dX12_offAlong_29 ?_
      refine lv_bipush (v := (71 : Int32)) hx hb dX12_offAlong_32 (by decide) ?_
      refine lv_iload_n hx hb dX12_offAlong_34 rfl (lv_at hl 3 rfl) ?_
      refine lv_iadd hx hb dX12_offAlong_35 ?_
      have o_36 : vp_in ((71 : Int32) + a3) 916 := by
        have : ((71 : Int32)).toInt = 71 := by decide
        have := mt ti_le.mpr c_11
        have := ti_eq.mp c_25
        try have := ti_add (a := (71 : Int32)) (b := a3) (by omega) (by omega)
        exact vin (by omega) (by omega)
      refine m_ald (σ := σ) C0 hK hP 1 1 916 rfl o_36 (ix ((71 : Int32) + a3)) rfl dX12_offAlong_36 ?_
      refine lv_goto (tgt := 69) hx hb dX12_offAlong_37 (by decide) ?_
      exact J25 _ (iv_pos c_25 rfl)
def g_X12_offAlong_4  : Nat → St → Int32 → Int32 → Int32 → Int32
  | 0 => fun σ a1 a2 a3 => 0
  | n + 1 => fun σ a1 a2 a3 => f_X12_offAlong_4  (g_X12_offAlong_4  n) σ a1 a2 a3
theorem l_X12_offAlong_4 {g : GG} {p : Program} {l : Launch} {e : Env} {s : State} {m : MethodId} {args : Array Value} {below : List Frame} {meth : Method} {c : Code}  {tgt : Int32}  (C0 : BC p s m args meth c cX12_offAlong RX12 4 (some .int))  : ∀ (n : Nat) (σ : St) (a1 : Int32) (a2 : Int32) (a3 : Int32), (IB (σ 1)) → (0 ≤ a3.toInt) → ((σ 1 3).toInt - a3.toInt).toNat < n → KK g s → va_P g.1 vwCl ((mW g) σ) s.heap → va_D (fun _ => True) ((mW g) σ) → ∀ {ls : Array Slot}, lv_has ls 4 [(0, .ref (g.2.2 100)), (1, .int (a1)), (2, .int (a2)), (3, .int (a3))] → g_X12_offAlong_4  n σ a1 a2 a3 = tgt → W p l e { frames := 0, cells := 0, slots := 0, locals := 0 } s m args below meth c s.heap [] 0 0 (QPI below args s tgt) (F0 m 4 ls []) := by
  intro n
  induction n with
  | zero => intro σ a1 a2 a3 hI h3 hm; exact absurd hm (Nat.not_lt_zero _)
  | succ n ih =>
    intro σ a1 a2 a3 hI h3 hm  hK hP hDD ls hl hT
    exact b_X12_offAlong_4  (K4 := g_X12_offAlong_4  n) (N4 := n) C0  (fun σ a1 a2 a3 hI h3 hm2 => ih σ a1 a2 a3 hI h3 hm2) hI h3 hm hK hP hDD hl hT
def f_X12_offAlong (σ : St) (a1 : Int32) : Int32 := (g_X12_offAlong_4  (9) σ a1 (0 : Int32) (0 : Int32))
set_option maxHeartbeats 600000 in
set_option maxRecDepth 100000 in
theorem k_X12_offAlong (l : Launch) (g : GG) (σ : St) (a1 : Int32) (hI : IB (σ 1)) : PI l yX12_offAlong (wsF yX12_offAlong cX12_offAlong 4 (some .int)) { frames := 0, cells := 0, slots := 0, locals := 0 } [.ref (g.2.2 100), .int (a1)] (GB g (mW g) (fun _ => True) σ) (f_X12_offAlong σ a1) := by
  refine start_PI (by decide) (Nat.le_of_ble_eq_true rfl) ?_
  intro p e s m args below meth c C0 hG ls hl
  obtain ⟨hK, hP, hDD, hBg⟩ := hG
  obtain ⟨hx, hb, hr, hml, hown, hts, hlocks⟩ := id C0
  have hl : lv_has ls 4 [(0, .ref (g.2.2 100)), (1, .int (a1))] := hl
  generalize hT : (f_X12_offAlong σ a1) = tgt
  unfold f_X12_offAlong at hT
  obtain ⟨⟨i0, i0'⟩, ⟨i1, i1'⟩, ⟨i2, i2'⟩, ⟨i3, i3'⟩, ⟨i4, i4'⟩, ⟨i5, i5'⟩, ⟨i6, i6'⟩, ⟨i7, i7'⟩, ⟨i8, i8'⟩, iK, iV, iL, iR, iW, iY, iG, iM, iB, iQ, iP, iT, iU⟩ := id hI
  refine lv_iconst (v := (0 : Int32)) hx hb dX12_offAlong_0 (by decide) ?_
  refine lv_istore_n (lv' := [(2, .int ((0 : Int32))), (0, .ref (g.2.2 100)), (1, .int (a1))]) hx hb dX12_offAlong_1 rfl hl (by decide) rfl (fun ls hl => ?_)
  refine lv_iconst (v := (0 : Int32)) hx hb dX12_offAlong_2 (by decide) ?_
  refine lv_istore_n (lv' := [(3, .int ((0 : Int32))), (2, .int ((0 : Int32))), (0, .ref (g.2.2 100)), (1, .int (a1))]) hx hb dX12_offAlong_3 rfl hl (by decide) rfl (fun ls hl => ?_)
  have j3_h3 : 0 ≤ (0 : Int32).toInt := by
    have : ((0 : Int32)).toInt = 0 := by decide
    omega
  have j3_m : ((σ 1 3).toInt - (0 : Int32).toInt).toNat < 9 := by
    have : ((0 : Int32)).toInt = 0 := by decide
    omega
  exact l_X12_offAlong_4  C0   (9) σ a1 (0 : Int32) (0 : Int32) hI j3_h3 j3_m hK hP hDD (lv_sub hl [2, 3, 1, 0] rfl) hT
set_option maxRecDepth 20000 in
theorem w_1226 : (Cond.methodLink RX12 186 yX12_offAlong) ∈ TB := inTB (List.mem_of_getElem? (i := 1226) (by decide +kernel)) (by decide +kernel)
set_option maxRecDepth 20000 in
theorem w_1229 : (Cond.code yX12_offAlong cX12_offAlong 4 (some .int)) ∈ TB := inTB (List.mem_of_getElem? (i := 1229) (by decide +kernel)) (by decide +kernel)
set_option maxRecDepth 20000 in
theorem w_1228 : (Cond.instanceMethod yX12_offAlong) ∈ TB := inTB (List.mem_of_getElem? (i := 1228) (by decide +kernel)) (by decide +kernel)
set_option maxRecDepth 20000 in
theorem w_58 : (Cond.selects RX12 yX12_offAlong yX12_offAlong) ∈ TB := inTB (List.mem_of_getElem? (i := 58) (by decide +kernel)) (by decide +kernel)
theorem cf_X12_offAlong : CF yX12_offAlong cX12_offAlong 4 (some .int) 1 := ⟨w_1228, w_58, w_75, w_1229, by decide +kernel, by decide +kernel, by decide +kernel⟩
/-! ThreeMeasuresModel.off -/
theorem dX12_off_0 : decode cX12_off 0 = .ok (.iload_n 1, 1) := by decide +kernel
theorem dX12_off_1 : decode cX12_off 1 = .ok (.iconst 0, 1) := by decide +kernel
theorem dX12_off_2 : decode cX12_off 2 = .ok (.iconst 1, 1) := by decide +kernel
theorem dX12_off_3 : decode cX12_off 3 = .ok (.invokestatic 47, 3) := by decide +kernel
theorem dX12_off_6 : decode cX12_off 6 = .ok (.ifCond .eq 11, 3) := by decide +kernel
theorem dX12_off_9 : decode cX12_off 9 = .ok (.aload_n 0, 1) := by decide +kernel
theorem dX12_off_10 : decode cX12_off 10 = .ok (.iload_n 1, 1) := by decide +kernel
theorem dX12_off_11 : decode cX12_off 11 = .ok (.invokevirtual 186, 3) := by decide +kernel
theorem dX12_off_14 : decode cX12_off 14 = .ok (.goto 6, 3) := by decide +kernel
theorem dX12_off_17 : decode cX12_off 17 = .ok (.sipush (-1001), 3) := by decide +kernel
theorem dX12_off_20 : decode cX12_off 20 = .ok (.ireturn, 1) := by decide +kernel
def f_X12_off (σ : St) (a1 : Int32) : Int32 := (if (f_X12_in a1 (0 : Int32) (1 : Int32)) = 0 then (-1001 : Int32) else (f_X12_offAlong σ a1))
set_option maxHeartbeats 600000 in
set_option maxRecDepth 100000 in
theorem k_X12_off (l : Launch) (g : GG) (σ : St) (a1 : Int32) (hI : IB (σ 1)) : PI l yX12_off (wsF yX12_off cX12_off 2 (some .int)) { frames := 1, cells := 0, slots := 0, locals := 23 } [.ref (g.2.2 100), .int (a1)] (GB g (mW g) (fun _ => True) σ) (f_X12_off σ a1) := by
  refine start_PI (by decide) (Nat.le_of_ble_eq_true rfl) ?_
  intro p e s m args below meth c C0 hG ls hl
  obtain ⟨hK, hP, hDD, hBg⟩ := hG
  obtain ⟨hx, hb, hr, hml, hown, hts, hlocks⟩ := id C0
  have hl : lv_has ls 2 [(0, .ref (g.2.2 100)), (1, .int (a1))] := hl
  generalize hT : (f_X12_off σ a1) = tgt
  unfold f_X12_off at hT
  obtain ⟨⟨i0, i0'⟩, ⟨i1, i1'⟩, ⟨i2, i2'⟩, ⟨i3, i3'⟩, ⟨i4, i4'⟩, ⟨i5, i5'⟩, ⟨i6, i6'⟩, ⟨i7, i7'⟩, ⟨i8, i8'⟩, iK, iV, iL, iR, iW, iY, iG, iM, iB, iQ, iP, iT, iU⟩ := id hI
  refine lv_iload_n hx hb dX12_off_0 rfl (lv_at hl 1 rfl) ?_
  refine lv_iconst (v := (0 : Int32)) hx hb dX12_off_1 (by decide) ?_
  refine lv_iconst (v := (1 : Int32)) hx hb dX12_off_2 (by decide) ?_
  refine s_ci (rest := []) (As := [.int (a1), .int ((0 : Int32)), .int ((1 : Int32))]) C0 cf_X12_in w_1060 (k_X12_in l a1 (0 : Int32) (1 : Int32) ) ⟨by decide, by decide⟩ hl.1 rfl rfl (Nat.le_of_ble_eq_true rfl) dX12_off_3 ⟨Nat.zero_le _, Nat.zero_le _⟩ ?_
  have J6 : ∀ v : Int32, v = (if (f_X12_in a1 (0 : Int32) (1 : Int32)) = 0 then (-1001 : Int32) else (f_X12_offAlong σ a1)) → W p l e { frames := 1, cells := 0, slots := 0, locals := 23 } s m args below meth c s.heap [] 0 0 (QPI below args s tgt) (F0 m 20 ls [.int (v)]) := by
    intro v ev
    subst ev
    exact ret_PI C0 hT dX12_off_20
  refine lv_if_eq (tgt := 17) hx hb dX12_off_6 (by decide) (fun c_6 => ?_) (fun c_6 => ?_)
  · refine lv_sipush (v := (-1001 : Int32)) hx hb dX12_off_17 (by decide) ?_
    exact J6 _ (iv_pos c_6 rfl)
  · refine lv_aload_n hx hb dX12_off_9 rfl (lv_at hl 0 rfl) ?_
    refine lv_iload_n hx hb dX12_off_10 rfl (lv_at hl 1 rfl) ?_
    refine m_ci (rest := []) (As := [.int (a1)]) (σ := σ) C0 hK hP hDD SV.tt (fun _ _ _ => trivial) cf_X12_offAlong w_1226 rfl (k_X12_offAlong l g σ a1 hI) ⟨by decide, by decide⟩ hl.1 rfl rfl (Nat.le_of_ble_eq_true rfl) dX12_off_11 ⟨Nat.zero_le _, Nat.zero_le _⟩ ?_
    refine lv_goto (tgt := 20) hx hb dX12_off_14 (by decide) ?_
    exact J6 _ (iv_neg c_6 rfl)
/-! ThreeMeasuresModel.closed -/
theorem dX12_closed_0 : decode cX12_closed 0 = .ok (.iload_n 1, 1) := by decide +kernel
theorem dX12_closed_1 : decode cX12_closed 1 = .ok (.iconst 0, 1) := by decide +kernel
theorem dX12_closed_2 : decode cX12_closed 2 = .ok (.aload_n 0, 1) := by decide +kernel
theorem dX12_closed_3 : decode cX12_closed 3 = .ok (.getfield 9, 3) := by decide +kernel
theorem dX12_closed_6 : decode cX12_closed 6 = .ok (.iconst 3, 1) := by decide +kernel
theorem dX12_closed_7 : decode cX12_closed 7 = .ok (.iaload, 1) := by decide +kernel
theorem dX12_closed_8 : decode cX12_closed 8 = .ok (.iconst 1, 1) := by decide +kernel
theorem dX12_closed_9 : decode cX12_closed 9 = .ok (.isub, 1) := by decide +kernel
theorem dX12_closed_10 : decode cX12_closed 10 = .ok (.invokestatic 47, 3) := by decide +kernel
theorem dX12_closed_13 : decode cX12_closed 13 = .ok (.ifCond .ne 7, 3) := by decide +kernel
theorem dX12_closed_16 : decode cX12_closed 16 = .ok (.sipush (-1001), 3) := by decide +kernel
theorem dX12_closed_19 : decode cX12_closed 19 = .ok (.ireturn, 1) := by decide +kernel
theorem dX12_closed_20 : decode cX12_closed 20 = .ok (.aload_n 0, 1) := by decide +kernel
theorem dX12_closed_21 : decode cX12_closed 21 = .ok (.getfield 9, 3) := by decide +kernel
theorem dX12_closed_24 : decode cX12_closed 24 = .ok (.bipush 63, 2) := by decide +kernel
theorem dX12_closed_26 : decode cX12_closed 26 = .ok (.iload_n 1, 1) := by decide +kernel
theorem dX12_closed_27 : decode cX12_closed 27 = .ok (.iadd, 1) := by decide +kernel
theorem dX12_closed_28 : decode cX12_closed 28 = .ok (.iaload, 1) := by decide +kernel
theorem dX12_closed_29 : decode cX12_closed 29 = .ok (.iconst 2, 1) := by decide +kernel
theorem dX12_closed_30 : decode cX12_closed 30 = .ok (.irem, 1) := by decide +kernel
theorem dX12_closed_31 : decode cX12_closed 31 = .ok (.istore_n 2, 1) := by decide +kernel
theorem dX12_closed_32 : decode cX12_closed 32 = .ok (.aload_n 0, 1) := by decide +kernel
theorem dX12_closed_33 : decode cX12_closed 33 = .ok (.iload_n 2, 1) := by decide +kernel
theorem dX12_closed_34 : decode cX12_closed 34 = .ok (.invokevirtual 186, 3) := by decide +kernel
theorem dX12_closed_37 : decode cX12_closed 37 = .ok (.istore_n 3, 1) := by decide +kernel
theorem dX12_closed_38 : decode cX12_closed 38 = .ok (.iconst 0, 1) := by decide +kernel
theorem dX12_closed_39 : decode cX12_closed 39 = .ok (.istore 4, 2) := by decide +kernel
theorem dX12_closed_41 : decode cX12_closed 41 = .ok (.iload_n 1, 1) := by decide +kernel
theorem dX12_closed_42 : decode cX12_closed 42 = .ok (.istore 5, 2) := by decide +kernel
theorem dX12_closed_44 : decode cX12_closed 44 = .ok (.iconst 0, 1) := by decide +kernel
theorem dX12_closed_45 : decode cX12_closed 45 = .ok (.istore 6, 2) := by decide +kernel
theorem dX12_closed_47 : decode cX12_closed 47 = .ok (.iload 6, 2) := by decide +kernel
theorem dX12_closed_49 : decode cX12_closed 49 = .ok (.aload_n 0, 1) := by decide +kernel
theorem dX12_closed_50 : decode cX12_closed 50 = .ok (.getfield 9, 3) := by decide +kernel
theorem dX12_closed_53 : decode cX12_closed 53 = .ok (.iconst 3, 1) := by decide +kernel
theorem dX12_closed_54 : decode cX12_closed 54 = .ok (.iaload, 1) := by decide +kernel
theorem dX12_closed_55 : decode cX12_closed 55 = .ok (.if_icmp .ge 69, 3) := by decide +kernel
theorem dX12_closed_58 : decode cX12_closed 58 = .ok (.iload 4, 2) := by decide +kernel
theorem dX12_closed_60 : decode cX12_closed 60 = .ok (.aload_n 0, 1) := by decide +kernel
theorem dX12_closed_61 : decode cX12_closed 61 = .ok (.getfield 9, 3) := by decide +kernel
theorem dX12_closed_64 : decode cX12_closed 64 = .ok (.bipush 63, 2) := by decide +kernel
theorem dX12_closed_66 : decode cX12_closed 66 = .ok (.iload 6, 2) := by decide +kernel
theorem dX12_closed_68 : decode cX12_closed 68 = .ok (.iadd, 1) := by decide +kernel
theorem dX12_closed_69 : decode cX12_closed 69 = .ok (.iaload, 1) := by decide +kernel
theorem dX12_closed_70 : decode cX12_closed 70 = .ok (.iconst 2, 1) := by decide +kernel
theorem dX12_closed_71 : decode cX12_closed 71 = .ok (.irem, 1) := by decide +kernel
theorem dX12_closed_72 : decode cX12_closed 72 = .ok (.iload_n 2, 1) := by decide +kernel
theorem dX12_closed_73 : decode cX12_closed 73 = .ok (.if_icmp .ne 16, 3) := by decide +kernel
theorem dX12_closed_76 : decode cX12_closed 76 = .ok (.aload_n 0, 1) := by decide +kernel
theorem dX12_closed_77 : decode cX12_closed 77 = .ok (.getfield 9, 3) := by decide +kernel
theorem dX12_closed_80 : decode cX12_closed 80 = .ok (.bipush 71, 2) := by decide +kernel
theorem dX12_closed_82 : decode cX12_closed 82 = .ok (.iload 6, 2) := by decide +kernel
theorem dX12_closed_84 : decode cX12_closed 84 = .ok (.iadd, 1) := by decide +kernel
theorem dX12_closed_85 : decode cX12_closed 85 = .ok (.iaload, 1) := by decide +kernel
theorem dX12_closed_86 : decode cX12_closed 86 = .ok (.goto 4, 3) := by decide +kernel
theorem dX12_closed_89 : decode cX12_closed 89 = .ok (.iconst 0, 1) := by decide +kernel
theorem dX12_closed_90 : decode cX12_closed 90 = .ok (.iadd, 1) := by decide +kernel
theorem dX12_closed_91 : decode cX12_closed 91 = .ok (.istore 4, 2) := by decide +kernel
theorem dX12_closed_93 : decode cX12_closed 93 = .ok (.aload_n 0, 1) := by decide +kernel
theorem dX12_closed_94 : decode cX12_closed 94 = .ok (.getfield 9, 3) := by decide +kernel
theorem dX12_closed_97 : decode cX12_closed 97 = .ok (.bipush 63, 2) := by decide +kernel
theorem dX12_closed_99 : decode cX12_closed 99 = .ok (.iload 6, 2) := by decide +kernel
theorem dX12_closed_101 : decode cX12_closed 101 = .ok (.iadd, 1) := by decide +kernel
theorem dX12_closed_102 : decode cX12_closed 102 = .ok (.iaload, 1) := by decide +kernel
theorem dX12_closed_103 : decode cX12_closed 103 = .ok (.iconst 2, 1) := by decide +kernel
theorem dX12_closed_104 : decode cX12_closed 104 = .ok (.irem, 1) := by decide +kernel
theorem dX12_closed_105 : decode cX12_closed 105 = .ok (.iload_n 2, 1) := by decide +kernel
theorem dX12_closed_106 : decode cX12_closed 106 = .ok (.if_icmp .ne 8, 3) := by decide +kernel
theorem dX12_closed_109 : decode cX12_closed 109 = .ok (.iload 6, 2) := by decide +kernel
theorem dX12_closed_111 : decode cX12_closed 111 = .ok (.goto 5, 3) := by decide +kernel
theorem dX12_closed_114 : decode cX12_closed 114 = .ok (.iload 5, 2) := by decide +kernel
theorem dX12_closed_116 : decode cX12_closed 116 = .ok (.istore 5, 2) := by decide +kernel
theorem dX12_closed_118 : decode cX12_closed 118 = .ok (.iinc 6 1, 3) := by decide +kernel
theorem dX12_closed_121 : decode cX12_closed 121 = .ok (.goto (-74), 3) := by decide +kernel
theorem dX12_closed_124 : decode cX12_closed 124 = .ok (.iload_n 3, 1) := by decide +kernel
theorem dX12_closed_125 : decode cX12_closed 125 = .ok (.istore 6, 2) := by decide +kernel
theorem dX12_closed_127 : decode cX12_closed 127 = .ok (.iconst 0, 1) := by decide +kernel
theorem dX12_closed_128 : decode cX12_closed 128 = .ok (.istore 7, 2) := by decide +kernel
theorem dX12_closed_130 : decode cX12_closed 130 = .ok (.iload 7, 2) := by decide +kernel
theorem dX12_closed_132 : decode cX12_closed 132 = .ok (.aload_n 0, 1) := by decide +kernel
theorem dX12_closed_133 : decode cX12_closed 133 = .ok (.getfield 9, 3) := by decide +kernel
theorem dX12_closed_136 : decode cX12_closed 136 = .ok (.iconst 3, 1) := by decide +kernel
theorem dX12_closed_137 : decode cX12_closed 137 = .ok (.iaload, 1) := by decide +kernel
theorem dX12_closed_138 : decode cX12_closed 138 = .ok (.if_icmp .ge 62, 3) := by decide +kernel
theorem dX12_closed_141 : decode cX12_closed 141 = .ok (.iload_n 1, 1) := by decide +kernel
theorem dX12_closed_142 : decode cX12_closed 142 = .ok (.iload 5, 2) := by decide +kernel
theorem dX12_closed_144 : decode cX12_closed 144 = .ok (.if_icmp .ne 56, 3) := by decide +kernel
theorem dX12_closed_147 : decode cX12_closed 147 = .ok (.iload 6, 2) := by decide +kernel
theorem dX12_closed_149 : decode cX12_closed 149 = .ok (.aload_n 0, 1) := by decide +kernel
theorem dX12_closed_150 : decode cX12_closed 150 = .ok (.getfield 9, 3) := by decide +kernel
theorem dX12_closed_153 : decode cX12_closed 153 = .ok (.bipush 63, 2) := by decide +kernel
theorem dX12_closed_155 : decode cX12_closed 155 = .ok (.iload 7, 2) := by decide +kernel
theorem dX12_closed_157 : decode cX12_closed 157 = .ok (.iadd, 1) := by decide +kernel
theorem dX12_closed_158 : decode cX12_closed 158 = .ok (.iaload, 1) := by decide +kernel
theorem dX12_closed_159 : decode cX12_closed 159 = .ok (.iconst 2, 1) := by decide +kernel
theorem dX12_closed_160 : decode cX12_closed 160 = .ok (.irem, 1) := by decide +kernel
theorem dX12_closed_161 : decode cX12_closed 161 = .ok (.iload_n 2, 1) := by decide +kernel
theorem dX12_closed_162 : decode cX12_closed 162 = .ok (.if_icmp .ne 28, 3) := by decide +kernel
theorem dX12_closed_165 : decode cX12_closed 165 = .ok (.iload 7, 2) := by decide +kernel
theorem dX12_closed_167 : decode cX12_closed 167 = .ok (.iload 5, 2) := by decide +kernel
theorem dX12_closed_169 : decode cX12_closed 169 = .ok (.if_icmp .eq 21, 3) := by decide +kernel
theorem dX12_closed_172 : decode cX12_closed 172 = .ok (.iload_n 3, 1) := by decide +kernel
theorem dX12_closed_173 : decode cX12_closed 173 = .ok (.aload_n 0, 1) := by decide +kernel
theorem dX12_closed_174 : decode cX12_closed 174 = .ok (.getfield 9, 3) := by decide +kernel
theorem dX12_closed_177 : decode cX12_closed 177 = .ok (.bipush 71, 2) := by decide +kernel
theorem dX12_closed_179 : decode cX12_closed 179 = .ok (.iload 7, 2) := by decide +kernel
theorem dX12_closed_181 : decode cX12_closed 181 = .ok (.iadd, 1) := by decide +kernel
theorem dX12_closed_182 : decode cX12_closed 182 = .ok (.iaload, 1) := by decide +kernel
theorem dX12_closed_183 : decode cX12_closed 183 = .ok (.imul, 1) := by decide +kernel
theorem dX12_closed_184 : decode cX12_closed 184 = .ok (.iload 4, 2) := by decide +kernel
theorem dX12_closed_186 : decode cX12_closed 186 = .ok (.idiv, 1) := by decide +kernel
theorem dX12_closed_187 : decode cX12_closed 187 = .ok (.goto 4, 3) := by decide +kernel
theorem dX12_closed_190 : decode cX12_closed 190 = .ok (.iconst 0, 1) := by decide +kernel
theorem dX12_closed_191 : decode cX12_closed 191 = .ok (.isub, 1) := by decide +kernel
theorem dX12_closed_192 : decode cX12_closed 192 = .ok (.istore 6, 2) := by decide +kernel
theorem dX12_closed_194 : decode cX12_closed 194 = .ok (.iinc 7 1, 3) := by decide +kernel
theorem dX12_closed_197 : decode cX12_closed 197 = .ok (.goto (-67), 3) := by decide +kernel
theorem dX12_closed_200 : decode cX12_closed 200 = .ok (.iload_n 1, 1) := by decide +kernel
theorem dX12_closed_201 : decode cX12_closed 201 = .ok (.iload 5, 2) := by decide +kernel
theorem dX12_closed_203 : decode cX12_closed 203 = .ok (.if_icmp .ne 8, 3) := by decide +kernel
theorem dX12_closed_206 : decode cX12_closed 206 = .ok (.iload 6, 2) := by decide +kernel
theorem dX12_closed_208 : decode cX12_closed 208 = .ok (.goto 17, 3) := by decide +kernel
theorem dX12_closed_211 : decode cX12_closed 211 = .ok (.iload_n 3, 1) := by decide +kernel
theorem dX12_closed_212 : decode cX12_closed 212 = .ok (.aload_n 0, 1) := by decide +kernel
theorem dX12_closed_213 : decode cX12_closed 213 = .ok (.getfield 9, 3) := by decide +kernel
theorem dX12_closed_216 : decode cX12_closed 216 = .ok (.bipush 71, 2) := by decide +kernel
theorem dX12_closed_218 : decode cX12_closed 218 = .ok (.iload_n 1, 1) := by decide +kernel
theorem dX12_closed_219 : decode cX12_closed 219 = .ok (.iadd, 1) := by decide +kernel
theorem dX12_closed_220 : decode cX12_closed 220 = .ok (.iaload, 1) := by decide +kernel
theorem dX12_closed_221 : decode cX12_closed 221 = .ok (.imul, 1) := by decide +kernel
theorem dX12_closed_222 : decode cX12_closed 222 = .ok (.iload 4, 2) := by decide +kernel
theorem dX12_closed_224 : decode cX12_closed 224 = .ok (.idiv, 1) := by decide +kernel
theorem dX12_closed_225 : decode cX12_closed 225 = .ok (.istore 6, 2) := by decide +kernel
theorem dX12_closed_227 : decode cX12_closed 227 = .ok (.aload_n 0, 1) := by decide +kernel
theorem dX12_closed_228 : decode cX12_closed 228 = .ok (.getfield 9, 3) := by decide +kernel
theorem dX12_closed_231 : decode cX12_closed 231 = .ok (.bipush 71, 2) := by decide +kernel
theorem dX12_closed_233 : decode cX12_closed 233 = .ok (.iload_n 1, 1) := by decide +kernel
theorem dX12_closed_234 : decode cX12_closed 234 = .ok (.iadd, 1) := by decide +kernel
theorem dX12_closed_235 : decode cX12_closed 235 = .ok (.iaload, 1) := by decide +kernel
theorem dX12_closed_236 : decode cX12_closed 236 = .ok (.aload_n 0, 1) := by decide +kernel
theorem dX12_closed_237 : decode cX12_closed 237 = .ok (.getfield 9, 3) := by decide +kernel
theorem dX12_closed_240 : decode cX12_closed 240 = .ok (.bipush 63, 2) := by decide +kernel
theorem dX12_closed_242 : decode cX12_closed 242 = .ok (.iload_n 1, 1) := by decide +kernel
theorem dX12_closed_243 : decode cX12_closed 243 = .ok (.iadd, 1) := by decide +kernel
theorem dX12_closed_244 : decode cX12_closed 244 = .ok (.iaload, 1) := by decide +kernel
theorem dX12_closed_245 : decode cX12_closed 245 = .ok (.iconst 2, 1) := by decide +kernel
theorem dX12_closed_246 : decode cX12_closed 246 = .ok (.if_icmp .ge 9, 3) := by decide +kernel
theorem dX12_closed_249 : decode cX12_closed 249 = .ok (.iload 6, 2) := by decide +kernel
theorem dX12_closed_251 : decode cX12_closed 251 = .ok (.ineg, 1) := by decide +kernel
theorem dX12_closed_252 : decode cX12_closed 252 = .ok (.goto 5, 3) := by decide +kernel
theorem dX12_closed_255 : decode cX12_closed 255 = .ok (.iload 6, 2) := by decide +kernel
theorem dX12_closed_257 : decode cX12_closed 257 = .ok (.iadd, 1) := by decide +kernel
theorem dX12_closed_258 : decode cX12_closed 258 = .ok (.ireturn, 1) := by decide +kernel
def f_X12_closed_200  (σ : St) (a1 : Int32) (a3 : Int32) (a4 : Int32) (a5 : Int32) (a6 : Int32) : Int32 := ((σ 1 (ix ((71 : Int32) + a1))) + (if (2 : Int32) ≤ (σ 1 (ix ((63 : Int32) + a1))) then (if a1 = a5 then a6 else ((a3 * (σ 1 (ix ((71 : Int32) + a1)))) / a4)) else (-(if a1 = a5 then a6 else ((a3 * (σ 1 (ix ((71 : Int32) + a1)))) / a4)))))
set_option maxHeartbeats 600000 in
set_option maxRecDepth 100000 in
theorem b_X12_closed_200 {g : GG} {p : Program} {l : Launch} {e : Env} {s : State} {m : MethodId} {args : Array Value} {below : List Frame} {meth : Method} {c : Code}  {tgt : Int32}  (C0 : BC p s m args meth c cX12_closed RX12 8 (some .int))  {σ : St} {a1 : Int32} {a3 : Int32} {a4 : Int32} {a5 : Int32} {a6 : Int32}  (hI : IB (σ 1)) (h1 : 0 ≤ a1.toInt) (h1b : a1.toInt < (σ 1 3).toInt) (h4 : 1 ≤ a4.toInt ∧ a4.toInt ≤ 792)  (hK : KK g s) (hP : va_P g.1 vwCl ((mW g) σ) s.heap) (hDD : va_D (fun _ => True) ((mW g) σ)) {ls : Array Slot} (hl : lv_has ls 8 [(0, .ref (g.2.2 100)), (1, .int (a1)), (3, .int (a3)), (4, .int (a4)), (5, .int (a5)), (6, .int (a6))]) (hT : f_X12_closed_200  σ a1 a3 a4 a5 a6 = tgt) : W p l e { frames := 1, cells := 0, slots := 0, locals := 23 } s m args below meth c s.heap [] 0 0 (QPI below args s tgt) (F0 m 200 ls []) := by
  obtain ⟨hx, hb, hr, hml, hown, hts, hlocks⟩ := id C0
  unfold f_X12_closed_200 at hT
  obtain ⟨⟨i0, i0'⟩, ⟨i1, i1'⟩, ⟨i2, i2'⟩, ⟨i3, i3'⟩, ⟨i4, i4'⟩, ⟨i5, i5'⟩, ⟨i6, i6'⟩, ⟨i7, i7'⟩, ⟨i8, i8'⟩, iK, iV, iL, iR, iW, iY, iG, iM, iB, iQ, iP, iT, iU⟩ := id hI
  refine lv_iload_n hx hb dX12_closed_200 rfl (lv_at hl 1 rfl) ?_
  refine lv_iload hx hb dX12_closed_201 (lv_at hl 4 rfl) ?_
  have J203 : ∀ v : Int32, v = (if a1 = a5 then a6 else ((a3 * (σ 1 (ix ((71 : Int32) + a1)))) / a4)) → W p l e { frames := 1, cells := 0, slots := 0, locals := 23 } s m args below meth c s.heap [] 0 0 (QPI below args s tgt) (F0 m 225 ls [.int (v)]) := by
    intro v ev
    subst ev
    refine lv_istore (lv' := [(6, .int ((if a1 = a5 then a6 else ((a3 * (σ 1 (ix ((71 : Int32) + a1)))) / a4)))), (0, .ref (g.2.2 100)), (1, .int (a1)), (3, .int (a3)), (4, .int (a4)), (5, .int (a5))]) hx hb dX12_closed_225 hl (by decide) rfl (fun ls hl => ?_)
    refine lv_aload_n hx hb dX12_closed_227 rfl (lv_at hl 1 rfl) ?_
    refine m_get (σ := σ) (v := .ref (g.2.2 1)) C0 hK hP 1 (by decide) rfl w_968 dX12_closed_228 ?_
    refine lv_bipush (v := (71 : Int32)) hx hb dX12_closed_231 (by decide) ?_
    refine lv_iload_n hx hb dX12_closed_233 rfl (lv_at hl 2 rfl) ?_
    refine lv_iadd hx hb dX12_closed_234 ?_
    have o_235 : vp_in ((71 : Int32) + a1) 916 := by
      have : ((71 : Int32)).toInt = 71 := by decide
      try have := ti_add (a := (71 : Int32)) (b := a1) (by omega) (by omega)
      exact vin (by omega) (by omega)
    refine m_ald (σ := σ) C0 hK hP 1 1 916 rfl o_235 (ix ((71 : Int32) + a1)) rfl dX12_closed_235 ?_
    refine lv_aload_n hx hb dX12_closed_236 rfl (lv_at hl 1 rfl) ?_
    refine m_get (σ := σ) (v := .ref (g.2.2 1)) C0 hK hP 1 (by decide) rfl w_968 dX12_closed_237 ?_
    refine lv_bipush (v := (63 : Int32)) hx hb dX12_closed_240 (by decide) ?_
    refine lv_iload_n hx hb dX12_closed_242 rfl (lv_at hl 2 rfl) ?_
    refine lv_iadd hx hb dX12_closed_243 ?_
    have o_244 : vp_in ((63 : Int32) + a1) 916 := by
      have : ((63 : Int32)).toInt = 63 := by decide
      try have := ti_add (a := (63 : Int32)) (b := a1) (by omega) (by omega)
      exact vin (by omega) (by omega)
    refine m_ald (σ := σ) C0 hK hP 1 1 916 rfl o_244 (ix ((63 : Int32) + a1)) rfl dX12_closed_244 ?_
    refine lv_iconst (v := (2 : Int32)) hx hb dX12_closed_245 (by decide) ?_
    have J246 : ∀ v : Int32, v = (if (2 : Int32) ≤ (σ 1 (ix ((63 : Int32) + a1))) then (if a1 = a5 then a6 else ((a3 * (σ 1 (ix ((71 : Int32) + a1)))) / a4)) else (-(if a1 = a5 then a6 else ((a3 * (σ 1 (ix ((71 : Int32) + a1)))) / a4)))) → W p l e { frames := 1, cells := 0, slots := 0, locals := 23 } s m args below meth c s.heap [] 0 0 (QPI below args s tgt) (F0 m 257 ls [.int (v), .int ((σ 1 (ix ((71 : Int32) + a1))))]) := by
      intro v ev
      subst ev
      refine lv_iadd hx hb dX12_closed_257 ?_
      exact ret_PI C0 hT dX12_closed_258
    refine lv_icmp_ge (tgt := 255) hx hb dX12_closed_246 (by decide) (fun c_246 => ?_) (fun c_246 => ?_)
    · refine lv_iload hx hb dX12_closed_255 (lv_at hl 0 rfl) ?_
      exact J246 _ (iv_pos c_246 rfl)
    · refine lv_iload hx hb dX12_closed_249 (lv_at hl 0 rfl) ?_
      refine lv_ineg hx hb dX12_closed_251 ?_
      refine lv_goto (tgt := 257) hx hb dX12_closed_252 (by decide) ?_
      exact J246 _ (iv_neg c_246 rfl)
  refine lv_icmp_ne (tgt := 211) hx hb dX12_closed_203 (by decide) (fun c_203 => ?_) (fun c_203 => ?_)
  · refine lv_iload_n hx hb dX12_closed_211 rfl (lv_at hl 2 rfl) ?_
    refine lv_aload_n hx hb dX12_closed_212 rfl (lv_at hl 0 rfl) ?_
    refine m_get (σ := σ) (v := .ref (g.2.2 1)) C0 hK hP 1 (by decide) rfl w_968 dX12_closed_213 ?_
    refine lv_bipush (v := (71 : Int32)) hx hb dX12_closed_216 (by decide) ?_
    refine lv_iload_n hx hb dX12_closed_218 rfl (lv_at hl 1 rfl) ?_
    refine lv_iadd hx hb dX12_closed_219 ?_
    have o_220 : vp_in ((71 : Int32) + a1) 916 := by
      have : ((71 : Int32)).toInt = 71 := by decide
      have := mt ti_eq.mpr c_203
      try have := ti_add (a := (71 : Int32)) (b := a1) (by omega) (by omega)
      exact vin (by omega) (by omega)
    refine m_ald (σ := σ) C0 hK hP 1 1 916 rfl o_220 (ix ((71 : Int32) + a1)) rfl dX12_closed_220 ?_
    refine lv_imul hx hb dX12_closed_221 ?_
    refine lv_iload hx hb dX12_closed_222 (lv_at hl 3 rfl) ?_
    have o_224 : ¬ a4 = 0 := by
      have : ((0 : Int32)).toInt = 0 := by decide
      have := mt ti_eq.mpr c_203
      rw [ti_eq]; omega
    refine lv_idiv hx hb dX12_closed_224 o_224 ?_
    exact J203 _ (iv_neg c_203 rfl)
  · refine lv_iload hx hb dX12_closed_206 (lv_at hl 5 rfl) ?_
    refine lv_goto (tgt := 225) hx hb dX12_closed_208 (by decide) ?_
    exact J203 _ (iv_pos c_203 rfl)
def f_X12_closed_130 (K130 : St → Int32 → Int32 → Int32 → Int32 → Int32 → Int32 → Int32 → Int32) (σ : St) (a1 : Int32) (a2 : Int32) (a3 : Int32) (a4 : Int32) (a5 : Int32) (a6 : Int32) (a7 : Int32) : Int32 := (if (σ 1 3) ≤ a7 then (f_X12_closed_200  σ a1 a3 a4 a5 a6) else (if a1 = a5 then (K130 σ a1 a2 a3 a4 a5 (a6 - (if ((σ 1 (ix ((63 : Int32) + a7))) - (σ 1 (ix ((63 : Int32) + a7))) / (2 : Int32) * (2 : Int32)) = a2 then (if a7 = a5 then (0 : Int32) else ((a3 * (σ 1 (ix ((71 : Int32) + a7)))) / a4)) else (0 : Int32))) (a7 + (1 : Int32))) else (f_X12_closed_200  σ a1 a3 a4 a5 a6)))
set_option maxHeartbeats 600000 in
set_option maxRecDepth 100000 in
theorem b_X12_closed_130 {g : GG} {p : Program} {l : Launch} {e : Env} {s : State} {m : MethodId} {args : Array Value} {below : List Frame} {meth : Method} {c : Code}  {tgt : Int32} {K130 : St → Int32 → Int32 → Int32 → Int32 → Int32 → Int32 → Int32 → Int32} {N130 : Nat} (C0 : BC p s m args meth c cX12_closed RX12 8 (some .int)) (hK130 : ∀ (σ : St) (a1 : Int32) (a2 : Int32) (a3 : Int32) (a4 : Int32) (a5 : Int32) (a6 : Int32) (a7 : Int32), (IB (σ 1)) → (0 ≤ a1.toInt) → (a1.toInt < (σ 1 3).toInt) → (1 ≤ a4.toInt ∧ a4.toInt ≤ 792) → (0 ≤ a7.toInt) → ((σ 1 3).toInt - a7.toInt).toNat < N130 → KK g s → va_P g.1 vwCl ((mW g) σ) s.heap → va_D (fun _ => True) ((mW g) σ) → ∀ {ls : Array Slot}, lv_has ls 8 [(0, .ref (g.2.2 100)), (1, .int (a1)), (2, .int (a2)), (3, .int (a3)), (4, .int (a4)), (5, .int (a5)), (6, .int (a6)), (7, .int (a7))] → K130 σ a1 a2 a3 a4 a5 a6 a7 = tgt → W p l e { frames := 1, cells := 0, slots := 0, locals := 23 } s m args below meth c s.heap [] 0 0 (QPI below args s tgt) (F0 m 130 ls [])) {σ : St} {a1 : Int32} {a2 : Int32} {a3 : Int32} {a4 : Int32} {a5 : Int32} {a6 : Int32} {a7 : Int32}  (hI : IB (σ 1)) (h1 : 0 ≤ a1.toInt) (h1b : a1.toInt < (σ 1 3).toInt) (h4 : 1 ≤ a4.toInt ∧ a4.toInt ≤ 792) (h7 : 0 ≤ a7.toInt) (hm : ((σ 1 3).toInt - a7.toInt).toNat < N130 + 1) (hK : KK g s) (hP : va_P g.1 vwCl ((mW g) σ) s.heap) (hDD : va_D (fun _ => True) ((mW g) σ)) {ls : Array Slot} (hl : lv_has ls 8 [(0, .ref (g.2.2 100)), (1, .int (a1)), (2, .int (a2)), (3, .int (a3)), (4, .int (a4)), (5, .int (a5)), (6, .int (a6)), (7, .int (a7))]) (hT : f_X12_closed_130 K130 σ a1 a2 a3 a4 a5 a6 a7 = tgt) : W p l e { frames := 1, cells := 0, slots := 0, locals := 23 } s m args below meth c s.heap [] 0 0 (QPI below args s tgt) (F0 m 130 ls []) := by
  obtain ⟨hx, hb, hr, hml, hown, hts, hlocks⟩ := id C0
  unfold f_X12_closed_130 at hT
  obtain ⟨⟨i0, i0'⟩, ⟨i1, i1'⟩, ⟨i2, i2'⟩, ⟨i3, i3'⟩, ⟨i4, i4'⟩, ⟨i5, i5'⟩, ⟨i6, i6'⟩, ⟨i7, i7'⟩, ⟨i8, i8'⟩, iK, iV, iL, iR, iW, iY, iG, iM, iB, iQ, iP, iT, iU⟩ := id hI
  refine lv_iload hx hb dX12_closed_130 (lv_at hl 7 rfl) ?_
  refine lv_aload_n hx hb dX12_closed_132 rfl (lv_at hl 0 rfl) ?_
  refine m_get (σ := σ) (v := .ref (g.2.2 1)) C0 hK hP 1 (by decide) rfl w_968 dX12_closed_133 ?_
  refine lv_iconst (v := (3 : Int32)) hx hb dX12_closed_136 (by decide) ?_
  refine m_ald (σ := σ) C0 hK hP 1 1 916 rfl (vin_l (by decide)) 3 (by decide) dX12_closed_137 ?_
  refine lv_icmp_ge (tgt := 200) hx hb dX12_closed_138 (by decide) (fun c_138 => ?_) (fun c_138 => ?_)
  · have hT := hT_pos c_138 hT
    exact b_X12_closed_200  (σ := σ) (a1 := a1) (a3 := a3) (a4 := a4) (a5 := a5) (a6 := a6) C0  hI h1 h1b h4 hK hP hDD (lv_sub hl [0, 1, 3, 4, 5, 6] rfl) hT
  · have hT := hT_neg c_138 hT
    refine lv_iload_n hx hb dX12_closed_141 rfl (lv_at hl 1 rfl) ?_
    refine lv_iload hx hb dX12_closed_142 (lv_at hl 5 rfl) ?_
    refine lv_icmp_ne (tgt := 200) hx hb dX12_closed_144 (by decide) (fun c_144 => ?_) (fun c_144 => ?_)
    · have hT := hT_neg c_144 hT
      exact b_X12_closed_200  (σ := σ) (a1 := a1) (a3 := a3) (a4 := a4) (a5 := a5) (a6 := a6) C0  hI h1 h1b h4 hK hP hDD (lv_sub hl [0, 1, 3, 4, 5, 6] rfl) hT
    · have hT := hT_pos c_144 hT
      refine lv_iload hx hb dX12_closed_147 (lv_at hl 6 rfl) ?_
      refine lv_aload_n hx hb dX12_closed_149 rfl (lv_at hl 0 rfl) ?_
      refine m_get (σ := σ) (v := .ref (g.2.2 1)) C0 hK hP 1 (by decide) rfl w_968 dX12_closed_150 ?_
      refine lv_bipush (v := (63 : Int32)) hx hb dX12_closed_153 (by decide) ?_
      refine lv_iload hx hb dX12_closed_155 (lv_at hl 7 rfl) ?_
      refine lv_iadd hx hb dX12_closed_157 ?_
      have o_158 : vp_in ((63 : Int32) + a7) 916 := by
        have : ((63 : Int32)).toInt = 63 := by decide
        have := mt ti_le.mpr c_138
        have := ti_eq.mp c_144
        try have := ti_add (a := (63 : Int32)) (b := a7) (by omega) (by omega)
        exact vin (by omega) (by omega)
      refine m_ald (σ := σ) C0 hK hP 1 1 916 rfl o_158 (ix ((63 : Int32) + a7)) rfl dX12_closed_158 ?_
      refine lv_iconst (v := (2 : Int32)) hx hb dX12_closed_159 (by decide) ?_
      refine lv_irem hx hb dX12_closed_160 (by decide) ?_
      refine lv_iload_n hx hb dX12_closed_161 rfl (lv_at hl 2 rfl) ?_
      have J162 : ∀ v : Int32, v = (if ((σ 1 (ix ((63 : Int32) + a7))) - (σ 1 (ix ((63 : Int32) + a7))) / (2 : Int32) * (2 : Int32)) = a2 then (if a7 = a5 then (0 : Int32) else ((a3 * (σ 1 (ix ((71 : Int32) + a7)))) / a4)) else (0 : Int32)) → W p l e { frames := 1, cells := 0, slots := 0, locals := 23 } s m args below meth c s.heap [] 0 0 (QPI below args s tgt) (F0 m 191 ls [.int (v), .int (a6)]) := by
        intro v ev
        subst ev
        refine lv_isub hx hb dX12_closed_191 ?_
        refine lv_istore (lv' := [(6, .int ((a6 - (if ((σ 1 (ix ((63 : Int32) + a7))) - (σ 1 (ix ((63 : Int32) + a7))) / (2 : Int32) * (2 : Int32)) = a2 then (if a7 = a5 then (0 : Int32) else ((a3 * (σ 1 (ix ((71 : Int32) + a7)))) / a4)) else (0 : Int32))))), (0, .ref (g.2.2 100)), (1, .int (a1)), (2, .int (a2)), (3, .int (a3)), (4, .int (a4)), (5, .int (a5)), (7, .int (a7))]) hx hb dX12_closed_192 hl (by decide) rfl (fun ls hl => ?_)
        refine lv_iinc (v := (a7 + (1 : Int32))) (lv' := [(7, .int ((a7 + (1 : Int32)))), (6, .int ((a6 - (if ((σ 1 (ix ((63 : Int32) + a7))) - (σ 1 (ix ((63 : Int32) + a7))) / (2 : Int32) * (2 : Int32)) = a2 then (if a7 = a5 then (0 : Int32) else ((a3 * (σ 1 (ix ((71 : Int32) + a7)))) / a4)) else (0 : Int32))))), (0, .ref (g.2.2 100)), (1, .int (a1)), (2, .int (a2)), (3, .int (a3)), (4, .int (a4)), (5, .int (a5))]) hx hb dX12_closed_194 hl (k := 7) rfl rfl (by decide) rfl (fun ls hl => ?_)
        refine lv_goto (tgt := 130) hx hb dX12_closed_197 (by decide) ?_
        have j197_h7 : 0 ≤ (a7 + (1 : Int32)).toInt := by
          have : ((1 : Int32)).toInt = 1 := by decide
          have := mt ti_le.mpr c_138
          have := ti_eq.mp c_144
          try have := ti_add (a := a7) (b := (1 : Int32)) (by omega) (by omega)
          try have := ti_sub (a := a6) (b := (if ((σ 1 (ix ((63 : Int32) + a7))) - (σ 1 (ix ((63 : Int32) + a7))) / (2 : Int32) * (2 : Int32)) = a2 then (if a7 = a5 then (0 : Int32) else ((a3 * (σ 1 (ix ((71 : Int32) + a7)))) / a4)) else (0 : Int32))) (by omega) (by omega)
          omega
        have j197_m : ((σ 1 3).toInt - (a7 + (1 : Int32)).toInt).toNat < N130 := by
          have : ((1 : Int32)).toInt = 1 := by decide
          have := mt ti_le.mpr c_138
          have := ti_eq.mp c_144
          try have := ti_add (a := a7) (b := (1 : Int32)) (by omega) (by omega)
          try have := ti_sub (a := a6) (b := (if ((σ 1 (ix ((63 : Int32) + a7))) - (σ 1 (ix ((63 : Int32) + a7))) / (2 : Int32) * (2 : Int32)) = a2 then (if a7 = a5 then (0 : Int32) else ((a3 * (σ 1 (ix ((71 : Int32) + a7)))) / a4)) else (0 : Int32))) (by omega) (by omega)
          omega
        exact hK130 σ a1 a2 a3 a4 a5 (a6 - (if ((σ 1 (ix ((63 : Int32) + a7))) - (σ 1 (ix ((63 : Int32) + a7))) / (2 : Int32) * (2 : Int32)) = a2 then (if a7 = a5 then (0 : Int32) else ((a3 * (σ 1 (ix ((71 : Int32) + a7)))) / a4)) else (0 : Int32))) (a7 + (1 : Int32)) hI h1 h1b h4 j197_h7 j197_m hK hP hDD (lv_sub hl [2, 3, 4, 5, 6, 7, 1, 0] rfl) hT
      refine lv_icmp_ne (tgt := 190) hx hb dX12_closed_162 (by decide) (fun c_162 => ?_) (fun c_162 => ?_)
      · refine lv_iconst (v := (0 : Int32)) hx hb dX12_closed_190 (by decide) ?_
        exact J162 _ (iv_neg c_162 rfl)
      · refine lv_iload hx hb dX12_closed_165 (lv_at hl 7 rfl) ?_
        refine lv_iload hx hb dX12_closed_167 (lv_at hl 5 rfl) ?_
        refine lv_icmp_eq (tgt := 190) hx hb dX12_closed_169 (by decide) (fun c_169 => ?_) (fun c_169 => ?_)
        · refine lv_iconst (v := (0 : Int32)) hx hb dX12_closed_190 (by decide) ?_
          exact J162 _ (iv_pos c_162 (iv_pos c_169 rfl))
        · refine lv_iload_n hx hb dX12_closed_172 rfl (lv_at hl 3 rfl) ?_
          refine lv_aload_n hx hb dX12_closed_173 rfl (lv_at hl 0 rfl) ?_
          refine m_get (σ := σ) (v := .ref (g.2.2 1)) C0 hK hP 1 (by decide) rfl w_968 dX12_closed_174 ?_
          refine lv_bipush (v := (71 : Int32)) hx hb dX12_closed_177 (by decide) ?_
          refine lv_iload hx hb dX12_closed_179 (lv_at hl 7 rfl) ?_
          refine lv_iadd hx hb dX12_closed_181 ?_
          have o_182 : vp_in ((71 : Int32) + a7) 916 := by
            have : ((71 : Int32)).toInt = 71 := by decide
            have := mt ti_le.mpr c_138
            have := ti_eq.mp c_144
            have := ti_eq.mp c_162
            have := mt ti_eq.mpr c_169
            try have := rem_b (a := (σ 1 (ix ((63 : Int32) + a7)))) (b := (2 : Int32)) (n := 2) (by decide) (by omega) (by omega)
            try have := ti_add (a := (71 : Int32)) (b := a7) (by omega) (by omega)
            exact vin (by omega) (by omega)
          refine m_ald (σ := σ) C0 hK hP 1 1 916 rfl o_182 (ix ((71 : Int32) + a7)) rfl dX12_closed_182 ?_
          refine lv_imul hx hb dX12_closed_183 ?_
          refine lv_iload hx hb dX12_closed_184 (lv_at hl 4 rfl) ?_
          have o_186 : ¬ a4 = 0 := by
            have : ((0 : Int32)).toInt = 0 := by decide
            have := mt ti_le.mpr c_138
            have := ti_eq.mp c_144
            have := ti_eq.mp c_162
            have := mt ti_eq.mpr c_169
            try have := rem_b (a := (σ 1 (ix ((63 : Int32) + a7)))) (b := (2 : Int32)) (n := 2) (by decide) (by omega) (by omega)
            rw [ti_eq]; omega
          refine lv_idiv hx hb dX12_closed_186 o_186 ?_
          refine lv_goto (tgt := 191) hx hb dX12_closed_187 (by decide) ?_
          exact J162 _ (iv_pos c_162 (iv_neg c_169 rfl))
def g_X12_closed_130  : Nat → St → Int32 → Int32 → Int32 → Int32 → Int32 → Int32 → Int32 → Int32
  | 0 => fun σ a1 a2 a3 a4 a5 a6 a7 => 0
  | n + 1 => fun σ a1 a2 a3 a4 a5 a6 a7 => f_X12_closed_130  (g_X12_closed_130  n) σ a1 a2 a3 a4 a5 a6 a7
theorem l_X12_closed_130 {g : GG} {p : Program} {l : Launch} {e : Env} {s : State} {m : MethodId} {args : Array Value} {below : List Frame} {meth : Method} {c : Code}  {tgt : Int32}  (C0 : BC p s m args meth c cX12_closed RX12 8 (some .int))  : ∀ (n : Nat) (σ : St) (a1 : Int32) (a2 : Int32) (a3 : Int32) (a4 : Int32) (a5 : Int32) (a6 : Int32) (a7 : Int32), (IB (σ 1)) → (0 ≤ a1.toInt) → (a1.toInt < (σ 1 3).toInt) → (1 ≤ a4.toInt ∧ a4.toInt ≤ 792) → (0 ≤ a7.toInt) → ((σ 1 3).toInt - a7.toInt).toNat < n → KK g s → va_P g.1 vwCl ((mW g) σ) s.heap → va_D (fun _ => True) ((mW g) σ) → ∀ {ls : Array Slot}, lv_has ls 8 [(0, .ref (g.2.2 100)), (1, .int (a1)), (2, .int (a2)), (3, .int (a3)), (4, .int (a4)), (5, .int (a5)), (6, .int (a6)), (7, .int (a7))] → g_X12_closed_130  n σ a1 a2 a3 a4 a5 a6 a7 = tgt → W p l e { frames := 1, cells := 0, slots := 0, locals := 23 } s m args below meth c s.heap [] 0 0 (QPI below args s tgt) (F0 m 130 ls []) := by
  intro n
  induction n with
  | zero => intro σ a1 a2 a3 a4 a5 a6 a7 hI h1 h1b h4 h7 hm; exact absurd hm (Nat.not_lt_zero _)
  | succ n ih =>
    intro σ a1 a2 a3 a4 a5 a6 a7 hI h1 h1b h4 h7 hm  hK hP hDD ls hl hT
    exact b_X12_closed_130  (K130 := g_X12_closed_130  n) (N130 := n) C0  (fun σ a1 a2 a3 a4 a5 a6 a7 hI h1 h1b h4 h7 hm2 => ih σ a1 a2 a3 a4 a5 a6 a7 hI h1 h1b h4 h7 hm2) hI h1 h1b h4 h7 hm hK hP hDD hl hT
def f_X12_closed_47 (K47 : St → Int32 → Int32 → Int32 → Int32 → Int32 → Int32 → Int32) (σ : St) (a1 : Int32) (a2 : Int32) (a3 : Int32) (a4 : Int32) (a5 : Int32) (a6 : Int32) : Int32 := (if (σ 1 3) ≤ a6 then (g_X12_closed_130  (9) σ a1 a2 a3 a4 a5 a3 (0 : Int32)) else (K47 σ a1 a2 a3 (a4 + (if ((σ 1 (ix ((63 : Int32) + a6))) - (σ 1 (ix ((63 : Int32) + a6))) / (2 : Int32) * (2 : Int32)) = a2 then (σ 1 (ix ((71 : Int32) + a6))) else (0 : Int32))) (if ((σ 1 (ix ((63 : Int32) + a6))) - (σ 1 (ix ((63 : Int32) + a6))) / (2 : Int32) * (2 : Int32)) = a2 then a6 else a5) (a6 + (1 : Int32))))
set_option maxHeartbeats 600000 in
set_option maxRecDepth 100000 in
theorem b_X12_closed_47 {g : GG} {p : Program} {l : Launch} {e : Env} {s : State} {m : MethodId} {args : Array Value} {below : List Frame} {meth : Method} {c : Code}  {tgt : Int32} {K47 : St → Int32 → Int32 → Int32 → Int32 → Int32 → Int32 → Int32} {N47 : Nat} (C0 : BC p s m args meth c cX12_closed RX12 8 (some .int)) (hK47 : ∀ (σ : St) (a1 : Int32) (a2 : Int32) (a3 : Int32) (a4 : Int32) (a5 : Int32) (a6 : Int32), (IB (σ 1)) → (0 ≤ a1.toInt) → (a1.toInt < (σ 1 3).toInt) → (a2 = wr σ a1) → (0 ≤ a6.toInt) → (a6.toInt ≤ (σ 1 3).toInt) → (0 ≤ a4.toInt ∧ a4.toInt ≤ 99 * a6.toInt) → (a1.toInt < a6.toInt → 1 ≤ a4.toInt) → ((σ 1 3).toInt - a6.toInt).toNat < N47 → KK g s → va_P g.1 vwCl ((mW g) σ) s.heap → va_D (fun _ => True) ((mW g) σ) → ∀ {ls : Array Slot}, lv_has ls 8 [(0, .ref (g.2.2 100)), (1, .int (a1)), (2, .int (a2)), (3, .int (a3)), (4, .int (a4)), (5, .int (a5)), (6, .int (a6))] → K47 σ a1 a2 a3 a4 a5 a6 = tgt → W p l e { frames := 1, cells := 0, slots := 0, locals := 23 } s m args below meth c s.heap [] 0 0 (QPI below args s tgt) (F0 m 47 ls [])) {σ : St} {a1 : Int32} {a2 : Int32} {a3 : Int32} {a4 : Int32} {a5 : Int32} {a6 : Int32}  (hI : IB (σ 1)) (h1 : 0 ≤ a1.toInt) (h1b : a1.toInt < (σ 1 3).toInt) (hw : a2 = wr σ a1) (h6 : 0 ≤ a6.toInt) (h6b : a6.toInt ≤ (σ 1 3).toInt) (h4 : 0 ≤ a4.toInt ∧ a4.toInt ≤ 99 * a6.toInt) (h46 : a1.toInt < a6.toInt → 1 ≤ a4.toInt) (hm : ((σ 1 3).toInt - a6.toInt).toNat < N47 + 1) (hK : KK g s) (hP : va_P g.1 vwCl ((mW g) σ) s.heap) (hDD : va_D (fun _ => True) ((mW g) σ)) {ls : Array Slot} (hl : lv_has ls 8 [(0, .ref (g.2.2 100)), (1, .int (a1)), (2, .int (a2)), (3, .int (a3)), (4, .int (a4)), (5, .int (a5)), (6, .int (a6))]) (hT : f_X12_closed_47 K47 σ a1 a2 a3 a4 a5 a6 = tgt) : W p l e { frames := 1, cells := 0, slots := 0, locals := 23 } s m args below meth c s.heap [] 0 0 (QPI below args s tgt) (F0 m 47 ls []) := by
  obtain ⟨hx, hb, hr, hml, hown, hts, hlocks⟩ := id C0
  unfold f_X12_closed_47 at hT
  obtain ⟨⟨i0, i0'⟩, ⟨i1, i1'⟩, ⟨i2, i2'⟩, ⟨i3, i3'⟩, ⟨i4, i4'⟩, ⟨i5, i5'⟩, ⟨i6, i6'⟩, ⟨i7, i7'⟩, ⟨i8, i8'⟩, iK, iV, iL, iR, iW, iY, iG, iM, iB, iQ, iP, iT, iU⟩ := id hI
  refine lv_iload hx hb dX12_closed_47 (lv_at hl 6 rfl) ?_
  refine lv_aload_n hx hb dX12_closed_49 rfl (lv_at hl 0 rfl) ?_
  refine m_get (σ := σ) (v := .ref (g.2.2 1)) C0 hK hP 1 (by decide) rfl w_968 dX12_closed_50 ?_
  refine lv_iconst (v := (3 : Int32)) hx hb dX12_closed_53 (by decide) ?_
  refine m_ald (σ := σ) C0 hK hP 1 1 916 rfl (vin_l (by decide)) 3 (by decide) dX12_closed_54 ?_
  refine lv_icmp_ge (tgt := 124) hx hb dX12_closed_55 (by decide) (fun c_55 => ?_) (fun c_55 => ?_)
  · have hT := hT_pos c_55 hT
    refine lv_iload_n hx hb dX12_closed_124 rfl (lv_at hl 3 rfl) ?_
    refine lv_istore (lv' := [(6, .int (a3)), (0, .ref (g.2.2 100)), (1, .int (a1)), (2, .int (a2)), (3, .int (a3)), (4, .int (a4)), (5, .int (a5))]) hx hb dX12_closed_125 hl (by decide) rfl (fun ls hl => ?_)
    refine lv_iconst (v := (0 : Int32)) hx hb dX12_closed_127 (by decide) ?_
    refine lv_istore (lv' := [(7, .int ((0 : Int32))), (6, .int (a3)), (0, .ref (g.2.2 100)), (1, .int (a1)), (2, .int (a2)), (3, .int (a3)), (4, .int (a4)), (5, .int (a5))]) hx hb dX12_closed_128 hl (by decide) rfl (fun ls hl => ?_)
    have j128_h4 : 1 ≤ a4.toInt ∧ a4.toInt ≤ 792 := by
      have : ((0 : Int32)).toInt = 0 := by decide
      have := ti_le.mp c_55
      omega
    have j128_h7 : 0 ≤ (0 : Int32).toInt := by
      have : ((0 : Int32)).toInt = 0 := by decide
      have := ti_le.mp c_55
      omega
    have j128_m : ((σ 1 3).toInt - (0 : Int32).toInt).toNat < 9 := by
      have : ((0 : Int32)).toInt = 0 := by decide
      have := ti_le.mp c_55
      omega
    exact l_X12_closed_130  C0   (9) σ a1 a2 a3 a4 a5 a3 (0 : Int32) hI h1 h1b j128_h4 j128_h7 j128_m hK hP hDD (lv_sub hl [2, 3, 4, 5, 6, 7, 1, 0] rfl) hT
  · have hT := hT_neg c_55 hT
    refine lv_iload hx hb dX12_closed_58 (lv_at hl 4 rfl) ?_
    refine lv_aload_n hx hb dX12_closed_60 rfl (lv_at hl 0 rfl) ?_
    refine m_get (σ := σ) (v := .ref (g.2.2 1)) C0 hK hP 1 (by decide) rfl w_968 dX12_closed_61 ?_
    refine lv_bipush (v := (63 : Int32)) hx hb dX12_closed_64 (by decide) ?_
    refine lv_iload hx hb dX12_closed_66 (lv_at hl 6 rfl) ?_
    refine lv_iadd hx hb dX12_closed_68 ?_
    have o_69 : vp_in ((63 : Int32) + a6) 916 := by
      have : ((63 : Int32)).toInt = 63 := by decide
      have := mt ti_le.mpr c_55
      try have := ti_add (a := (63 : Int32)) (b := a6) (by omega) (by omega)
      exact vin (by omega) (by omega)
    refine m_ald (σ := σ) C0 hK hP 1 1 916 rfl o_69 (ix ((63 : Int32) + a6)) rfl dX12_closed_69 ?_
    refine lv_iconst (v := (2 : Int32)) hx hb dX12_closed_70 (by decide) ?_
    refine lv_irem hx hb dX12_closed_71 (by decide) ?_
    refine lv_iload_n hx hb dX12_closed_72 rfl (lv_at hl 2 rfl) ?_
    have J73 : ∀ v : Int32, v = (if ((σ 1 (ix ((63 : Int32) + a6))) - (σ 1 (ix ((63 : Int32) + a6))) / (2 : Int32) * (2 : Int32)) = a2 then (σ 1 (ix ((71 : Int32) + a6))) else (0 : Int32)) → W p l e { frames := 1, cells := 0, slots := 0, locals := 23 } s m args below meth c s.heap [] 0 0 (QPI below args s tgt) (F0 m 90 ls [.int (v), .int (a4)]) := by
      intro v ev
      subst ev
      refine lv_iadd hx hb dX12_closed_90 ?_
      refine lv_istore (lv' := [(4, .int ((a4 + (if ((σ 1 (ix ((63 : Int32) + a6))) - (σ 1 (ix ((63 : Int32) + a6))) / (2 : Int32) * (2 : Int32)) = a2 then (σ 1 (ix ((71 : Int32) + a6))) else (0 : Int32))))), (0, .ref (g.2.2 100)), (1, .int (a1)), (2, .int (a2)), (3, .int (a3)), (5, .int (a5)), (6, .int (a6))]) hx hb dX12_closed_91 hl (by decide) rfl (fun ls hl => ?_)
      refine lv_aload_n hx hb dX12_closed_93 rfl (lv_at hl 1 rfl) ?_
      refine m_get (σ := σ) (v := .ref (g.2.2 1)) C0 hK hP 1 (by decide) rfl w_968 dX12_closed_94 ?_
      refine lv_bipush (v := (63 : Int32)) hx hb dX12_closed_97 (by decide) ?_
      refine lv_iload hx hb dX12_closed_99 (lv_at hl 6 rfl) ?_
      refine lv_iadd hx hb dX12_closed_101 ?_
      have o_102 : vp_in ((63 : Int32) + a6) 916 := by
        have : ((63 : Int32)).toInt = 63 := by decide
        have := mt ti_le.mpr c_55
        try have := ti_add (a := (63 : Int32)) (b := a6) (by omega) (by omega)
        exact vin (by omega) (by omega)
      refine m_ald (σ := σ) C0 hK hP 1 1 916 rfl o_102 (ix ((63 : Int32) + a6)) rfl dX12_closed_102 ?_
      refine lv_iconst (v := (2 : Int32)) hx hb dX12_closed_103 (by decide) ?_
      refine lv_irem hx hb dX12_closed_104 (by decide) ?_
      refine lv_iload_n hx hb dX12_closed_105 rfl (lv_at hl 3 rfl) ?_
      have J106 : ∀ v : Int32, v = (if ((σ 1 (ix ((63 : Int32) + a6))) - (σ 1 (ix ((63 : Int32) + a6))) / (2 : Int32) * (2 : Int32)) = a2 then a6 else a5) → W p l e { frames := 1, cells := 0, slots := 0, locals := 23 } s m args below meth c s.heap [] 0 0 (QPI below args s tgt) (F0 m 116 ls [.int (v)]) := by
        intro v ev
        subst ev
        refine lv_istore (lv' := [(5, .int ((if ((σ 1 (ix ((63 : Int32) + a6))) - (σ 1 (ix ((63 : Int32) + a6))) / (2 : Int32) * (2 : Int32)) = a2 then a6 else a5))), (4, .int ((a4 + (if ((σ 1 (ix ((63 : Int32) + a6))) - (σ 1 (ix ((63 : Int32) + a6))) / (2 : Int32) * (2 : Int32)) = a2 then (σ 1 (ix ((71 : Int32) + a6))) else (0 : Int32))))), (0, .ref (g.2.2 100)), (1, .int (a1)), (2, .int (a2)), (3, .int (a3)), (6, .int (a6))]) hx hb dX12_closed_116 hl (by decide) rfl (fun ls hl => ?_)
        refine lv_iinc (v := (a6 + (1 : Int32))) (lv' := [(6, .int ((a6 + (1 : Int32)))), (5, .int ((if ((σ 1 (ix ((63 : Int32) + a6))) - (σ 1 (ix ((63 : Int32) + a6))) / (2 : Int32) * (2 : Int32)) = a2 then a6 else a5))), (4, .int ((a4 + (if ((σ 1 (ix ((63 : Int32) + a6))) - (σ 1 (ix ((63 : Int32) + a6))) / (2 : Int32) * (2 : Int32)) = a2 then (σ 1 (ix ((71 : Int32) + a6))) else (0 : Int32))))), (0, .ref (g.2.2 100)), (1, .int (a1)), (2, .int (a2)), (3, .int (a3))]) hx hb dX12_closed_118 hl (k := 6) rfl rfl (by decide) rfl (fun ls hl => ?_)
        refine lv_goto (tgt := 47) hx hb dX12_closed_121 (by decide) ?_
        have j121_h6 : 0 ≤ (a6 + (1 : Int32)).toInt := by
          have : ((1 : Int32)).toInt = 1 := by decide
          have := mt ti_le.mpr c_55
          try have := ti_add (a := a6) (b := (1 : Int32)) (by omega) (by omega)
          try have := ti_add (a := a4) (b := (if ((σ 1 (ix ((63 : Int32) + a6))) - (σ 1 (ix ((63 : Int32) + a6))) / (2 : Int32) * (2 : Int32)) = a2 then (σ 1 (ix ((71 : Int32) + a6))) else (0 : Int32))) (by omega) (by omega)
          omega
        have j121_h6b : (a6 + (1 : Int32)).toInt ≤ (σ 1 3).toInt := by
          have : ((1 : Int32)).toInt = 1 := by decide
          have := mt ti_le.mpr c_55
          try have := ti_add (a := a6) (b := (1 : Int32)) (by omega) (by omega)
          try have := ti_add (a := a4) (b := (if ((σ 1 (ix ((63 : Int32) + a6))) - (σ 1 (ix ((63 : Int32) + a6))) / (2 : Int32) * (2 : Int32)) = a2 then (σ 1 (ix ((71 : Int32) + a6))) else (0 : Int32))) (by omega) (by omega)
          omega
        have j121_h4 : 0 ≤ (a4 + (if ((σ 1 (ix ((63 : Int32) + a6))) - (σ 1 (ix ((63 : Int32) + a6))) / (2 : Int32) * (2 : Int32)) = a2 then (σ 1 (ix ((71 : Int32) + a6))) else (0 : Int32))).toInt ∧ (a4 + (if ((σ 1 (ix ((63 : Int32) + a6))) - (σ 1 (ix ((63 : Int32) + a6))) / (2 : Int32) * (2 : Int32)) = a2 then (σ 1 (ix ((71 : Int32) + a6))) else (0 : Int32))).toInt ≤ 99 * (a6 + (1 : Int32)).toInt := cl_h4 hI h6 c_55 h4
        have j121_h46 : a1.toInt < (a6 + (1 : Int32)).toInt → 1 ≤ (a4 + (if ((σ 1 (ix ((63 : Int32) + a6))) - (σ 1 (ix ((63 : Int32) + a6))) / (2 : Int32) * (2 : Int32)) = a2 then (σ 1 (ix ((71 : Int32) + a6))) else (0 : Int32))).toInt := cl_h46 hI hw h6 c_55 h4 h46
        have j121_m : ((σ 1 3).toInt - (a6 + (1 : Int32)).toInt).toNat < N47 := by
          have : ((1 : Int32)).toInt = 1 := by decide
          have := mt ti_le.mpr c_55
          try have := ti_add (a := a6) (b := (1 : Int32)) (by omega) (by omega)
          try have := ti_add (a := a4) (b := (if ((σ 1 (ix ((63 : Int32) + a6))) - (σ 1 (ix ((63 : Int32) + a6))) / (2 : Int32) * (2 : Int32)) = a2 then (σ 1 (ix ((71 : Int32) + a6))) else (0 : Int32))) (by omega) (by omega)
          omega
        exact hK47 σ a1 a2 a3 (a4 + (if ((σ 1 (ix ((63 : Int32) + a6))) - (σ 1 (ix ((63 : Int32) + a6))) / (2 : Int32) * (2 : Int32)) = a2 then (σ 1 (ix ((71 : Int32) + a6))) else (0 : Int32))) (if ((σ 1 (ix ((63 : Int32) + a6))) - (σ 1 (ix ((63 : Int32) + a6))) / (2 : Int32) * (2 : Int32)) = a2 then a6 else a5) (a6 + (1 : Int32)) hI h1 h1b hw j121_h6 j121_h6b j121_h4 j121_h46 j121_m hK hP hDD (lv_sub hl [3, 4, 5, 6, 2, 1, 0] rfl) hT
      refine lv_icmp_ne (tgt := 114) hx hb dX12_closed_106 (by decide) (fun c_106 => ?_) (fun c_106 => ?_)
      · refine lv_iload hx hb dX12_closed_114 (lv_at hl 5 rfl) ?_
        exact J106 _ (iv_neg c_106 rfl)
      · refine lv_iload hx hb dX12_closed_109 (lv_at hl 6 rfl) ?_
        refine lv_goto (tgt := 116) hx hb dX12_closed_111 (by decide) ?_
        exact J106 _ (iv_pos c_106 rfl)
    refine lv_icmp_ne (tgt := 89) hx hb dX12_closed_73 (by decide) (fun c_73 => ?_) (fun c_73 => ?_)
    · refine lv_iconst (v := (0 : Int32)) hx hb dX12_closed_89 (by decide) ?_
      exact J73 _ (iv_neg c_73 rfl)
    · refine lv_aload_n hx hb dX12_closed_76 rfl (lv_at hl 0 rfl) ?_
      refine m_get (σ := σ) (v := .ref (g.2.2 1)) C0 hK hP 1 (by decide) rfl w_968 dX12_closed_77 ?_
      refine lv_bipush (v := (71 : Int32)) hx hb dX12_closed_80 (by decide) ?_
      refine lv_iload hx hb dX12_closed_82 (lv_at hl 6 rfl) ?_
      refine lv_iadd hx hb dX12_closed_84 ?_
      have o_85 : vp_in ((71 : Int32) + a6) 916 := by
        have : ((71 : Int32)).toInt = 71 := by decide
        have := mt ti_le.mpr c_55
        have := ti_eq.mp c_73
        try have := rem_b (a := (σ 1 (ix ((63 : Int32) + a6)))) (b := (2 : Int32)) (n := 2) (by decide) (by omega) (by omega)
        try have := ti_add (a := (71 : Int32)) (b := a6) (by omega) (by omega)
        exact vin (by omega) (by omega)
      refine m_ald (σ := σ) C0 hK hP 1 1 916 rfl o_85 (ix ((71 : Int32) + a6)) rfl dX12_closed_85 ?_
      refine lv_goto (tgt := 90) hx hb dX12_closed_86 (by decide) ?_
      exact J73 _ (iv_pos c_73 rfl)
def g_X12_closed_47  : Nat → St → Int32 → Int32 → Int32 → Int32 → Int32 → Int32 → Int32
  | 0 => fun σ a1 a2 a3 a4 a5 a6 => 0
  | n + 1 => fun σ a1 a2 a3 a4 a5 a6 => f_X12_closed_47  (g_X12_closed_47  n) σ a1 a2 a3 a4 a5 a6
theorem l_X12_closed_47 {g : GG} {p : Program} {l : Launch} {e : Env} {s : State} {m : MethodId} {args : Array Value} {below : List Frame} {meth : Method} {c : Code}  {tgt : Int32}  (C0 : BC p s m args meth c cX12_closed RX12 8 (some .int))  : ∀ (n : Nat) (σ : St) (a1 : Int32) (a2 : Int32) (a3 : Int32) (a4 : Int32) (a5 : Int32) (a6 : Int32), (IB (σ 1)) → (0 ≤ a1.toInt) → (a1.toInt < (σ 1 3).toInt) → (a2 = wr σ a1) → (0 ≤ a6.toInt) → (a6.toInt ≤ (σ 1 3).toInt) → (0 ≤ a4.toInt ∧ a4.toInt ≤ 99 * a6.toInt) → (a1.toInt < a6.toInt → 1 ≤ a4.toInt) → ((σ 1 3).toInt - a6.toInt).toNat < n → KK g s → va_P g.1 vwCl ((mW g) σ) s.heap → va_D (fun _ => True) ((mW g) σ) → ∀ {ls : Array Slot}, lv_has ls 8 [(0, .ref (g.2.2 100)), (1, .int (a1)), (2, .int (a2)), (3, .int (a3)), (4, .int (a4)), (5, .int (a5)), (6, .int (a6))] → g_X12_closed_47  n σ a1 a2 a3 a4 a5 a6 = tgt → W p l e { frames := 1, cells := 0, slots := 0, locals := 23 } s m args below meth c s.heap [] 0 0 (QPI below args s tgt) (F0 m 47 ls []) := by
  intro n
  induction n with
  | zero => intro σ a1 a2 a3 a4 a5 a6 hI h1 h1b hw h6 h6b h4 h46 hm; exact absurd hm (Nat.not_lt_zero _)
  | succ n ih =>
    intro σ a1 a2 a3 a4 a5 a6 hI h1 h1b hw h6 h6b h4 h46 hm  hK hP hDD ls hl hT
    exact b_X12_closed_47  (K47 := g_X12_closed_47  n) (N47 := n) C0  (fun σ a1 a2 a3 a4 a5 a6 hI h1 h1b hw h6 h6b h4 h46 hm2 => ih σ a1 a2 a3 a4 a5 a6 hI h1 h1b hw h6 h6b h4 h46 hm2) hI h1 h1b hw h6 h6b h4 h46 hm hK hP hDD hl hT
def f_X12_closed (σ : St) (a1 : Int32) : Int32 := (if (f_X12_in a1 (0 : Int32) ((σ 1 3) - (1 : Int32))) = 0 then (-1001 : Int32) else (g_X12_closed_47  (9) σ a1 ((σ 1 (ix ((63 : Int32) + a1))) - (σ 1 (ix ((63 : Int32) + a1))) / (2 : Int32) * (2 : Int32)) (f_X12_offAlong σ ((σ 1 (ix ((63 : Int32) + a1))) - (σ 1 (ix ((63 : Int32) + a1))) / (2 : Int32) * (2 : Int32))) (0 : Int32) a1 (0 : Int32)))
set_option maxHeartbeats 600000 in
set_option maxRecDepth 100000 in
theorem k_X12_closed (l : Launch) (g : GG) (σ : St) (a1 : Int32) (hI : IB (σ 1)) : PI l yX12_closed (wsF yX12_closed cX12_closed 8 (some .int)) { frames := 1, cells := 0, slots := 0, locals := 23 } [.ref (g.2.2 100), .int (a1)] (GB g (mW g) (fun _ => True) σ) (f_X12_closed σ a1) := by
  refine start_PI (by decide) (Nat.le_of_ble_eq_true rfl) ?_
  intro p e s m args below meth c C0 hG ls hl
  obtain ⟨hK, hP, hDD, hBg⟩ := hG
  obtain ⟨hx, hb, hr, hml, hown, hts, hlocks⟩ := id C0
  have hl : lv_has ls 8 [(0, .ref (g.2.2 100)), (1, .int (a1))] := hl
  generalize hT : (f_X12_closed σ a1) = tgt
  unfold f_X12_closed at hT
  obtain ⟨⟨i0, i0'⟩, ⟨i1, i1'⟩, ⟨i2, i2'⟩, ⟨i3, i3'⟩, ⟨i4, i4'⟩, ⟨i5, i5'⟩, ⟨i6, i6'⟩, ⟨i7, i7'⟩, ⟨i8, i8'⟩, iK, iV, iL, iR, iW, iY, iG, iM, iB, iQ, iP, iT, iU⟩ := id hI
  refine lv_iload_n hx hb dX12_closed_0 rfl (lv_at hl 1 rfl) ?_
  refine lv_iconst (v := (0 : Int32)) hx hb dX12_closed_1 (by decide) ?_
  refine lv_aload_n hx hb dX12_closed_2 rfl (lv_at hl 0 rfl) ?_
  refine m_get (σ := σ) (v := .ref (g.2.2 1)) C0 hK hP 1 (by decide) rfl w_968 dX12_closed_3 ?_
  refine lv_iconst (v := (3 : Int32)) hx hb dX12_closed_6 (by decide) ?_
  refine m_ald (σ := σ) C0 hK hP 1 1 916 rfl (vin_l (by decide)) 3 (by decide) dX12_closed_7 ?_
  refine lv_iconst (v := (1 : Int32)) hx hb dX12_closed_8 (by decide) ?_
  refine lv_isub hx hb dX12_closed_9 ?_
  refine s_ci (rest := []) (As := [.int (a1), .int ((0 : Int32)), .int (((σ 1 3) - (1 : Int32)))]) C0 cf_X12_in w_1060 (k_X12_in l a1 (0 : Int32) ((σ 1 3) - (1 : Int32)) ) ⟨by decide, by decide⟩ hl.1 rfl rfl (Nat.le_of_ble_eq_true rfl) dX12_closed_10 ⟨Nat.zero_le _, Nat.zero_le _⟩ ?_
  refine lv_if_ne (tgt := 20) hx hb dX12_closed_13 (by decide) (fun c_13 => ?_) (fun c_13 => ?_)
  · have hT := hT_neg c_13 hT
    refine lv_aload_n hx hb dX12_closed_20 rfl (lv_at hl 0 rfl) ?_
    refine m_get (σ := σ) (v := .ref (g.2.2 1)) C0 hK hP 1 (by decide) rfl w_968 dX12_closed_21 ?_
    refine lv_bipush (v := (63 : Int32)) hx hb dX12_closed_24 (by decide) ?_
    refine lv_iload_n hx hb dX12_closed_26 rfl (lv_at hl 1 rfl) ?_
    refine lv_iadd hx hb dX12_closed_27 ?_
    have o_28 : vp_in ((63 : Int32) + a1) 916 := by
      have : ((0 : Int32)).toInt = 0 := by decide
      have : ((1 : Int32)).toInt = 1 := by decide
      have : ((63 : Int32)).toInt = 63 := by decide
      have := in_ne c_13
      try have := ti_sub (a := (σ 1 3)) (b := (1 : Int32)) (by omega) (by omega)
      try have := ti_add (a := (63 : Int32)) (b := a1) (by omega) (by omega)
      exact vin (by omega) (by omega)
    refine m_ald (σ := σ) C0 hK hP 1 1 916 rfl o_28 (ix ((63 : Int32) + a1)) rfl dX12_closed_28 ?_
    refine lv_iconst (v := (2 : Int32)) hx hb dX12_closed_29 (by decide) ?_
    refine lv_irem hx hb dX12_closed_30 (by decide) ?_
    refine lv_istore_n (lv' := [(2, .int (((σ 1 (ix ((63 : Int32) + a1))) - (σ 1 (ix ((63 : Int32) + a1))) / (2 : Int32) * (2 : Int32)))), (0, .ref (g.2.2 100)), (1, .int (a1))]) hx hb dX12_closed_31 rfl hl (by decide) rfl (fun ls hl => ?_)
    refine lv_aload_n hx hb dX12_closed_32 rfl (lv_at hl 1 rfl) ?_
    refine lv_iload_n hx hb dX12_closed_33 rfl (lv_at hl 0 rfl) ?_
    refine m_ci (rest := []) (As := [.int (((σ 1 (ix ((63 : Int32) + a1))) - (σ 1 (ix ((63 : Int32) + a1))) / (2 : Int32) * (2 : Int32)))]) (σ := σ) C0 hK hP hDD SV.tt (fun _ _ _ => trivial) cf_X12_offAlong w_1226 rfl (k_X12_offAlong l g σ ((σ 1 (ix ((63 : Int32) + a1))) - (σ 1 (ix ((63 : Int32) + a1))) / (2 : Int32) * (2 : Int32)) hI) ⟨by decide, by decide⟩ hl.1 rfl rfl (Nat.le_of_ble_eq_true rfl) dX12_closed_34 ⟨Nat.zero_le _, Nat.zero_le _⟩ ?_
    refine lv_istore_n (lv' := [(3, .int ((f_X12_offAlong σ ((σ 1 (ix ((63 : Int32) + a1))) - (σ 1 (ix ((63 : Int32) + a1))) / (2 : Int32) * (2 : Int32))))), (2, .int (((σ 1 (ix ((63 : Int32) + a1))) - (σ 1 (ix ((63 : Int32) + a1))) / (2 : Int32) * (2 : Int32)))), (0, .ref (g.2.2 100)), (1, .int (a1))]) hx hb dX12_closed_37 rfl hl (by decide) rfl (fun ls hl => ?_)
    refine lv_iconst (v := (0 : Int32)) hx hb dX12_closed_38 (by decide) ?_
    refine lv_istore (lv' := [(4, .int ((0 : Int32))), (3, .int ((f_X12_offAlong σ ((σ 1 (ix ((63 : Int32) + a1))) - (σ 1 (ix ((63 : Int32) + a1))) / (2 : Int32) * (2 : Int32))))), (2, .int (((σ 1 (ix ((63 : Int32) + a1))) - (σ 1 (ix ((63 : Int32) + a1))) / (2 : Int32) * (2 : Int32)))), (0, .ref (g.2.2 100)), (1, .int (a1))]) hx hb dX12_closed_39 hl (by decide) rfl (fun ls hl => ?_)
    refine lv_iload_n hx hb dX12_closed_41 rfl (lv_at hl 4 rfl) ?_
    refine lv_istore (lv' := [(5, .int (a1)), (4, .int ((0 : Int32))), (3, .int ((f_X12_offAlong σ ((σ 1 (ix ((63 : Int32) + a1))) - (σ 1 (ix ((63 : Int32) + a1))) / (2 : Int32) * (2 : Int32))))), (2, .int (((σ 1 (ix ((63 : Int32) + a1))) - (σ 1 (ix ((63 : Int32) + a1))) / (2 : Int32) * (2 : Int32)))), (0, .ref (g.2.2 100)), (1, .int (a1))]) hx hb dX12_closed_42 hl (by decide) rfl (fun ls hl => ?_)
    refine lv_iconst (v := (0 : Int32)) hx hb dX12_closed_44 (by decide) ?_
    refine lv_istore (lv' := [(6, .int ((0 : Int32))), (5, .int (a1)), (4, .int ((0 : Int32))), (3, .int ((f_X12_offAlong σ ((σ 1 (ix ((63 : Int32) + a1))) - (σ 1 (ix ((63 : Int32) + a1))) / (2 : Int32) * (2 : Int32))))), (2, .int (((σ 1 (ix ((63 : Int32) + a1))) - (σ 1 (ix ((63 : Int32) + a1))) / (2 : Int32) * (2 : Int32)))), (0, .ref (g.2.2 100)), (1, .int (a1))]) hx hb dX12_closed_45 hl (by decide) rfl (fun ls hl => ?_)
    have j45_h1 : 0 ≤ a1.toInt := by
      have : ((0 : Int32)).toInt = 0 := by decide
      have : ((1 : Int32)).toInt = 1 := by decide
      have := in_ne c_13
      try have := ti_sub (a := (σ 1 3)) (b := (1 : Int32)) (by omega) (by omega)
      try have := rem_b (a := (σ 1 (ix ((63 : Int32) + a1)))) (b := (2 : Int32)) (n := 2) (by decide) (by omega) (by omega)
      omega
    have j45_h1b : a1.toInt < (σ 1 3).toInt := by
      have : ((0 : Int32)).toInt = 0 := by decide
      have : ((1 : Int32)).toInt = 1 := by decide
      have := in_ne c_13
      try have := ti_sub (a := (σ 1 3)) (b := (1 : Int32)) (by omega) (by omega)
      try have := rem_b (a := (σ 1 (ix ((63 : Int32) + a1)))) (b := (2 : Int32)) (n := 2) (by decide) (by omega) (by omega)
      omega
    have j45_hw : ((σ 1 (ix ((63 : Int32) + a1))) - (σ 1 (ix ((63 : Int32) + a1))) / (2 : Int32) * (2 : Int32)) = wr σ a1 := rfl
    have j45_h6 : 0 ≤ (0 : Int32).toInt := by
      have : ((0 : Int32)).toInt = 0 := by decide
      have : ((1 : Int32)).toInt = 1 := by decide
      have := in_ne c_13
      try have := ti_sub (a := (σ 1 3)) (b := (1 : Int32)) (by omega) (by omega)
      try have := rem_b (a := (σ 1 (ix ((63 : Int32) + a1)))) (b := (2 : Int32)) (n := 2) (by decide) (by omega) (by omega)
      omega
    have j45_h6b : (0 : Int32).toInt ≤ (σ 1 3).toInt := by
      have : ((0 : Int32)).toInt = 0 := by decide
      have : ((1 : Int32)).toInt = 1 := by decide
      have := in_ne c_13
      try have := ti_sub (a := (σ 1 3)) (b := (1 : Int32)) (by omega) (by omega)
      try have := rem_b (a := (σ 1 (ix ((63 : Int32) + a1)))) (b := (2 : Int32)) (n := 2) (by decide) (by omega) (by omega)
      omega
    have j45_h4 : 0 ≤ (0 : Int32).toInt ∧ (0 : Int32).toInt ≤ 99 * (0 : Int32).toInt := by
      have : ((0 : Int32)).toInt = 0 := by decide
      have : ((1 : Int32)).toInt = 1 := by decide
      have := in_ne c_13
      try have := ti_sub (a := (σ 1 3)) (b := (1 : Int32)) (by omega) (by omega)
      try have := rem_b (a := (σ 1 (ix ((63 : Int32) + a1)))) (b := (2 : Int32)) (n := 2) (by decide) (by omega) (by omega)
      omega
    have j45_h46 : a1.toInt < (0 : Int32).toInt → 1 ≤ (0 : Int32).toInt := by
      have : ((0 : Int32)).toInt = 0 := by decide
      have : ((1 : Int32)).toInt = 1 := by decide
      have := in_ne c_13
      try have := ti_sub (a := (σ 1 3)) (b := (1 : Int32)) (by omega) (by omega)
      try have := rem_b (a := (σ 1 (ix ((63 : Int32) + a1)))) (b := (2 : Int32)) (n := 2) (by decide) (by omega) (by omega)
      omega
    have j45_m : ((σ 1 3).toInt - (0 : Int32).toInt).toNat < 9 := by
      have : ((0 : Int32)).toInt = 0 := by decide
      have : ((1 : Int32)).toInt = 1 := by decide
      have := in_ne c_13
      try have := ti_sub (a := (σ 1 3)) (b := (1 : Int32)) (by omega) (by omega)
      try have := rem_b (a := (σ 1 (ix ((63 : Int32) + a1)))) (b := (2 : Int32)) (n := 2) (by decide) (by omega) (by omega)
      omega
    exact l_X12_closed_47  C0   (9) σ a1 ((σ 1 (ix ((63 : Int32) + a1))) - (σ 1 (ix ((63 : Int32) + a1))) / (2 : Int32) * (2 : Int32)) (f_X12_offAlong σ ((σ 1 (ix ((63 : Int32) + a1))) - (σ 1 (ix ((63 : Int32) + a1))) / (2 : Int32) * (2 : Int32))) (0 : Int32) a1 (0 : Int32) hI j45_h1 j45_h1b j45_hw j45_h6 j45_h6b j45_h4 j45_h46 j45_m hK hP hDD (lv_sub hl [5, 6, 4, 3, 2, 1, 0] rfl) hT
  · have hT := hT_pos c_13 hT
    refine lv_sipush (v := (-1001 : Int32)) hx hb dX12_closed_16 (by decide) ?_
    exact ret_PI C0 hT dX12_closed_19
/-! ThreeMeasuresModel.costOf -/
theorem dX12_costOf_0 : decode cX12_costOf 0 = .ok (.iconst 0, 1) := by decide +kernel
theorem dX12_costOf_1 : decode cX12_costOf 1 = .ok (.istore_n 3, 1) := by decide +kernel
theorem dX12_costOf_2 : decode cX12_costOf 2 = .ok (.aload_n 0, 1) := by decide +kernel
theorem dX12_costOf_3 : decode cX12_costOf 3 = .ok (.getfield 9, 3) := by decide +kernel
theorem dX12_costOf_6 : decode cX12_costOf 6 = .ok (.bipush 51, 2) := by decide +kernel
theorem dX12_costOf_8 : decode cX12_costOf 8 = .ok (.iload_n 1, 1) := by decide +kernel
theorem dX12_costOf_9 : decode cX12_costOf 9 = .ok (.iadd, 1) := by decide +kernel
theorem dX12_costOf_10 : decode cX12_costOf 10 = .ok (.iaload, 1) := by decide +kernel
theorem dX12_costOf_11 : decode cX12_costOf 11 = .ok (.istore 4, 2) := by decide +kernel
theorem dX12_costOf_13 : decode cX12_costOf 13 = .ok (.iload 4, 2) := by decide +kernel
theorem dX12_costOf_15 : decode cX12_costOf 15 = .ok (.aload_n 0, 1) := by decide +kernel
theorem dX12_costOf_16 : decode cX12_costOf 16 = .ok (.getfield 9, 3) := by decide +kernel
theorem dX12_costOf_19 : decode cX12_costOf 19 = .ok (.bipush 57, 2) := by decide +kernel
theorem dX12_costOf_21 : decode cX12_costOf 21 = .ok (.iload_n 1, 1) := by decide +kernel
theorem dX12_costOf_22 : decode cX12_costOf 22 = .ok (.iadd, 1) := by decide +kernel
theorem dX12_costOf_23 : decode cX12_costOf 23 = .ok (.iaload, 1) := by decide +kernel
theorem dX12_costOf_24 : decode cX12_costOf 24 = .ok (.if_icmp .gt 43, 3) := by decide +kernel
theorem dX12_costOf_27 : decode cX12_costOf 27 = .ok (.iload_n 3, 1) := by decide +kernel
theorem dX12_costOf_28 : decode cX12_costOf 28 = .ok (.iload_n 2, 1) := by decide +kernel
theorem dX12_costOf_29 : decode cX12_costOf 29 = .ok (.iload 4, 2) := by decide +kernel
theorem dX12_costOf_31 : decode cX12_costOf 31 = .ok (.if_icmp .ge 15, 3) := by decide +kernel
theorem dX12_costOf_34 : decode cX12_costOf 34 = .ok (.aload_n 0, 1) := by decide +kernel
theorem dX12_costOf_35 : decode cX12_costOf 35 = .ok (.sipush 201, 3) := by decide +kernel
theorem dX12_costOf_38 : decode cX12_costOf 38 = .ok (.bipush 40, 2) := by decide +kernel
theorem dX12_costOf_40 : decode cX12_costOf 40 = .ok (.invokevirtual 135, 3) := by decide +kernel
theorem dX12_costOf_43 : decode cX12_costOf 43 = .ok (.goto 16, 3) := by decide +kernel
theorem dX12_costOf_46 : decode cX12_costOf 46 = .ok (.aload_n 0, 1) := by decide +kernel
theorem dX12_costOf_47 : decode cX12_costOf 47 = .ok (.sipush 206, 3) := by decide +kernel
theorem dX12_costOf_50 : decode cX12_costOf 50 = .ok (.iconst 1, 1) := by decide +kernel
theorem dX12_costOf_51 : decode cX12_costOf 51 = .ok (.invokevirtual 135, 3) := by decide +kernel
theorem dX12_costOf_54 : decode cX12_costOf 54 = .ok (.iload_n 2, 1) := by decide +kernel
theorem dX12_costOf_55 : decode cX12_costOf 55 = .ok (.iload 4, 2) := by decide +kernel
theorem dX12_costOf_57 : decode cX12_costOf 57 = .ok (.isub, 1) := by decide +kernel
theorem dX12_costOf_58 : decode cX12_costOf 58 = .ok (.imul, 1) := by decide +kernel
theorem dX12_costOf_59 : decode cX12_costOf 59 = .ok (.iadd, 1) := by decide +kernel
theorem dX12_costOf_60 : decode cX12_costOf 60 = .ok (.istore_n 3, 1) := by decide +kernel
theorem dX12_costOf_61 : decode cX12_costOf 61 = .ok (.iinc 4 1, 3) := by decide +kernel
theorem dX12_costOf_64 : decode cX12_costOf 64 = .ok (.goto (-51), 3) := by decide +kernel
theorem dX12_costOf_67 : decode cX12_costOf 67 = .ok (.iload_n 3, 1) := by decide +kernel
theorem dX12_costOf_68 : decode cX12_costOf 68 = .ok (.ireturn, 1) := by decide +kernel
def f_X12_costOf_13 (K13 : St → Int32 → Int32 → Int32 → Int32 → Int32) (σ : St) (a1 : Int32) (a2 : Int32) (a3 : Int32) (a4 : Int32) : Int32 := (if (σ 1 (ix ((57 : Int32) + a1))) < a4 then a3 else (K13 σ a1 a2 (a3 + (if a4 ≤ a2 then ((f_X12_tellsOf σ (206 : Int32) (1 : Int32)) * (a2 - a4)) else (f_X12_tellsOf σ (201 : Int32) (40 : Int32)))) (a4 + (1 : Int32))))
set_option maxHeartbeats 600000 in
set_option maxRecDepth 100000 in
theorem b_X12_costOf_13 {g : GG} {p : Program} {l : Launch} {e : Env} {s : State} {m : MethodId} {args : Array Value} {below : List Frame} {meth : Method} {c : Code}  {tgt : Int32} {K13 : St → Int32 → Int32 → Int32 → Int32 → Int32} {N13 : Nat} (C0 : BC p s m args meth c cX12_costOf RX12 5 (some .int)) (hK13 : ∀ (σ : St) (a1 : Int32) (a2 : Int32) (a3 : Int32) (a4 : Int32), (IB (σ 1)) → (0 ≤ a1.toInt) → (a1.toInt < 6) → (0 ≤ a4.toInt) → ((σ 1 (ix (57 + a1))).toInt - a4.toInt + 1).toNat < N13 → KK g s → va_P g.1 vwCl ((mW g) σ) s.heap → va_D (fun _ => True) ((mW g) σ) → ∀ {ls : Array Slot}, lv_has ls 5 [(0, .ref (g.2.2 100)), (1, .int (a1)), (2, .int (a2)), (3, .int (a3)), (4, .int (a4))] → K13 σ a1 a2 a3 a4 = tgt → W p l e { frames := 1, cells := 0, slots := 0, locals := 22 } s m args below meth c s.heap [] 0 0 (QPI below args s tgt) (F0 m 13 ls [])) {σ : St} {a1 : Int32} {a2 : Int32} {a3 : Int32} {a4 : Int32}  (hI : IB (σ 1)) (h1 : 0 ≤ a1.toInt) (h1b : a1.toInt < 6) (h4 : 0 ≤ a4.toInt) (hm : ((σ 1 (ix (57 + a1))).toInt - a4.toInt + 1).toNat < N13 + 1) (hK : KK g s) (hP : va_P g.1 vwCl ((mW g) σ) s.heap) (hDD : va_D (fun _ => True) ((mW g) σ)) {ls : Array Slot} (hl : lv_has ls 5 [(0, .ref (g.2.2 100)), (1, .int (a1)), (2, .int (a2)), (3, .int (a3)), (4, .int (a4))]) (hT : f_X12_costOf_13 K13 σ a1 a2 a3 a4 = tgt) : W p l e { frames := 1, cells := 0, slots := 0, locals := 22 } s m args below meth c s.heap [] 0 0 (QPI below args s tgt) (F0 m 13 ls []) := by
  obtain ⟨hx, hb, hr, hml, hown, hts, hlocks⟩ := id C0
  unfold f_X12_costOf_13 at hT
  obtain ⟨⟨i0, i0'⟩, ⟨i1, i1'⟩, ⟨i2, i2'⟩, ⟨i3, i3'⟩, ⟨i4, i4'⟩, ⟨i5, i5'⟩, ⟨i6, i6'⟩, ⟨i7, i7'⟩, ⟨i8, i8'⟩, iK, iV, iL, iR, iW, iY, iG, iM, iB, iQ, iP, iT, iU⟩ := id hI
  obtain ⟨w1, w2, w3⟩ := IB_w hI h1 h1b
  refine lv_iload hx hb dX12_costOf_13 (lv_at hl 4 rfl) ?_
  refine lv_aload_n hx hb dX12_costOf_15 rfl (lv_at hl 0 rfl) ?_
  refine m_get (σ := σ) (v := .ref (g.2.2 1)) C0 hK hP 1 (by decide) rfl w_968 dX12_costOf_16 ?_
  refine lv_bipush (v := (57 : Int32)) hx hb dX12_costOf_19 (by decide) ?_
  refine lv_iload_n hx hb dX12_costOf_21 rfl (lv_at hl 1 rfl) ?_
  refine lv_iadd hx hb dX12_costOf_22 ?_
  have o_23 : vp_in ((57 : Int32) + a1) 916 := by
    have : ((57 : Int32)).toInt = 57 := by decide
    try have := ti_add (a := (57 : Int32)) (b := a1) (by omega) (by omega)
    exact vin (by omega) (by omega)
  refine m_ald (σ := σ) C0 hK hP 1 1 916 rfl o_23 (ix ((57 : Int32) + a1)) rfl dX12_costOf_23 ?_
  refine lv_icmp_gt (tgt := 67) hx hb dX12_costOf_24 (by decide) (fun c_24 => ?_) (fun c_24 => ?_)
  · have hT := hT_pos c_24 hT
    refine lv_iload_n hx hb dX12_costOf_67 rfl (lv_at hl 3 rfl) ?_
    exact ret_PI C0 hT dX12_costOf_68
  · have hT := hT_neg c_24 hT
    refine lv_iload_n hx hb dX12_costOf_27 rfl (lv_at hl 3 rfl) ?_
    refine lv_iload_n hx hb dX12_costOf_28 rfl (lv_at hl 2 rfl) ?_
    refine lv_iload hx hb dX12_costOf_29 (lv_at hl 4 rfl) ?_
    have J31 : ∀ v : Int32, v = (if a4 ≤ a2 then ((f_X12_tellsOf σ (206 : Int32) (1 : Int32)) * (a2 - a4)) else (f_X12_tellsOf σ (201 : Int32) (40 : Int32))) → W p l e { frames := 1, cells := 0, slots := 0, locals := 22 } s m args below meth c s.heap [] 0 0 (QPI below args s tgt) (F0 m 59 ls [.int (v), .int (a3)]) := by
      intro v ev
      subst ev
      refine lv_iadd hx hb dX12_costOf_59 ?_
      refine lv_istore_n (lv' := [(3, .int ((a3 + (if a4 ≤ a2 then ((f_X12_tellsOf σ (206 : Int32) (1 : Int32)) * (a2 - a4)) else (f_X12_tellsOf σ (201 : Int32) (40 : Int32)))))), (0, .ref (g.2.2 100)), (1, .int (a1)), (2, .int (a2)), (4, .int (a4))]) hx hb dX12_costOf_60 rfl hl (by decide) rfl (fun ls hl => ?_)
      refine lv_iinc (v := (a4 + (1 : Int32))) (lv' := [(4, .int ((a4 + (1 : Int32)))), (3, .int ((a3 + (if a4 ≤ a2 then ((f_X12_tellsOf σ (206 : Int32) (1 : Int32)) * (a2 - a4)) else (f_X12_tellsOf σ (201 : Int32) (40 : Int32)))))), (0, .ref (g.2.2 100)), (1, .int (a1)), (2, .int (a2))]) hx hb dX12_costOf_61 hl (k := 4) rfl rfl (by decide) rfl (fun ls hl => ?_)
      refine lv_goto (tgt := 13) hx hb dX12_costOf_64 (by decide) ?_
      have j64_h4 : 0 ≤ (a4 + (1 : Int32)).toInt := by
        have : ((1 : Int32)).toInt = 1 := by decide
        have := mt ti_lt.mpr c_24
        try have := ti_add (a := a4) (b := (1 : Int32)) (by omega) (by omega)
        try have := ti_add (a := a3) (b := (if a4 ≤ a2 then ((f_X12_tellsOf σ (206 : Int32) (1 : Int32)) * (a2 - a4)) else (f_X12_tellsOf σ (201 : Int32) (40 : Int32)))) (by omega) (by omega)
        omega
      have j64_m : ((σ 1 (ix (57 + a1))).toInt - (a4 + (1 : Int32)).toInt + 1).toNat < N13 := by
        have : ((1 : Int32)).toInt = 1 := by decide
        have := mt ti_lt.mpr c_24
        try have := ti_add (a := a4) (b := (1 : Int32)) (by omega) (by omega)
        try have := ti_add (a := a3) (b := (if a4 ≤ a2 then ((f_X12_tellsOf σ (206 : Int32) (1 : Int32)) * (a2 - a4)) else (f_X12_tellsOf σ (201 : Int32) (40 : Int32)))) (by omega) (by omega)
        omega
      exact hK13 σ a1 a2 (a3 + (if a4 ≤ a2 then ((f_X12_tellsOf σ (206 : Int32) (1 : Int32)) * (a2 - a4)) else (f_X12_tellsOf σ (201 : Int32) (40 : Int32)))) (a4 + (1 : Int32)) hI h1 h1b j64_h4 j64_m hK hP hDD (lv_sub hl [2, 3, 4, 1, 0] rfl) hT
    refine lv_icmp_ge (tgt := 46) hx hb dX12_costOf_31 (by decide) (fun c_31 => ?_) (fun c_31 => ?_)
    · refine lv_aload_n hx hb dX12_costOf_46 rfl (lv_at hl 0 rfl) ?_
      refine lv_sipush (v := (206 : Int32)) hx hb dX12_costOf_47 (by decide) ?_
      refine lv_iconst (v := (1 : Int32)) hx hb dX12_costOf_50 (by decide) ?_
      have q51_h1 : 0 ≤ (206 : Int32).toInt := by
        have : ((206 : Int32)).toInt = 206 := by decide
        have : ((1 : Int32)).toInt = 1 := by decide
        have := mt ti_lt.mpr c_24
        have := ti_le.mp c_31
        omega
      have q51_h2 : (206 : Int32).toInt ≤ 900 := by
        have : ((206 : Int32)).toInt = 206 := by decide
        have : ((1 : Int32)).toInt = 1 := by decide
        have := mt ti_lt.mpr c_24
        have := ti_le.mp c_31
        omega
      refine m_ci (rest := [.int (a3)]) (As := [.int ((206 : Int32)), .int ((1 : Int32))]) (σ := σ) C0 hK hP hDD SV.tt (fun _ _ _ => trivial) cf_X12_tellsOf w_1163 rfl (k_X12_tellsOf l g σ (206 : Int32) (1 : Int32) hI q51_h1 q51_h2) ⟨by decide, by decide⟩ hl.1 rfl rfl (Nat.le_of_ble_eq_true rfl) dX12_costOf_51 ⟨Nat.zero_le _, Nat.zero_le _⟩ ?_
      refine lv_iload_n hx hb dX12_costOf_54 rfl (lv_at hl 2 rfl) ?_
      refine lv_iload hx hb dX12_costOf_55 (lv_at hl 4 rfl) ?_
      refine lv_isub hx hb dX12_costOf_57 ?_
      refine lv_imul hx hb dX12_costOf_58 ?_
      exact J31 _ (iv_pos c_31 rfl)
    · refine lv_aload_n hx hb dX12_costOf_34 rfl (lv_at hl 0 rfl) ?_
      refine lv_sipush (v := (201 : Int32)) hx hb dX12_costOf_35 (by decide) ?_
      refine lv_bipush (v := (40 : Int32)) hx hb dX12_costOf_38 (by decide) ?_
      have q40_h1 : 0 ≤ (201 : Int32).toInt := by
        have : ((201 : Int32)).toInt = 201 := by decide
        have : ((40 : Int32)).toInt = 40 := by decide
        have := mt ti_lt.mpr c_24
        have := mt ti_le.mpr c_31
        omega
      have q40_h2 : (201 : Int32).toInt ≤ 900 := by
        have : ((201 : Int32)).toInt = 201 := by decide
        have : ((40 : Int32)).toInt = 40 := by decide
        have := mt ti_lt.mpr c_24
        have := mt ti_le.mpr c_31
        omega
      refine m_ci (rest := [.int (a3)]) (As := [.int ((201 : Int32)), .int ((40 : Int32))]) (σ := σ) C0 hK hP hDD SV.tt (fun _ _ _ => trivial) cf_X12_tellsOf w_1163 rfl (k_X12_tellsOf l g σ (201 : Int32) (40 : Int32) hI q40_h1 q40_h2) ⟨by decide, by decide⟩ hl.1 rfl rfl (Nat.le_of_ble_eq_true rfl) dX12_costOf_40 ⟨Nat.zero_le _, Nat.zero_le _⟩ ?_
      refine lv_goto (tgt := 59) hx hb dX12_costOf_43 (by decide) ?_
      exact J31 _ (iv_neg c_31 rfl)
def g_X12_costOf_13  : Nat → St → Int32 → Int32 → Int32 → Int32 → Int32
  | 0 => fun σ a1 a2 a3 a4 => 0
  | n + 1 => fun σ a1 a2 a3 a4 => f_X12_costOf_13  (g_X12_costOf_13  n) σ a1 a2 a3 a4
theorem l_X12_costOf_13 {g : GG} {p : Program} {l : Launch} {e : Env} {s : State} {m : MethodId} {args : Array Value} {below : List Frame} {meth : Method} {c : Code}  {tgt : Int32}  (C0 : BC p s m args meth c cX12_costOf RX12 5 (some .int))  : ∀ (n : Nat) (σ : St) (a1 : Int32) (a2 : Int32) (a3 : Int32) (a4 : Int32), (IB (σ 1)) → (0 ≤ a1.toInt) → (a1.toInt < 6) → (0 ≤ a4.toInt) → ((σ 1 (ix (57 + a1))).toInt - a4.toInt + 1).toNat < n → KK g s → va_P g.1 vwCl ((mW g) σ) s.heap → va_D (fun _ => True) ((mW g) σ) → ∀ {ls : Array Slot}, lv_has ls 5 [(0, .ref (g.2.2 100)), (1, .int (a1)), (2, .int (a2)), (3, .int (a3)), (4, .int (a4))] → g_X12_costOf_13  n σ a1 a2 a3 a4 = tgt → W p l e { frames := 1, cells := 0, slots := 0, locals := 22 } s m args below meth c s.heap [] 0 0 (QPI below args s tgt) (F0 m 13 ls []) := by
  intro n
  induction n with
  | zero => intro σ a1 a2 a3 a4 hI h1 h1b h4 hm; exact absurd hm (Nat.not_lt_zero _)
  | succ n ih =>
    intro σ a1 a2 a3 a4 hI h1 h1b h4 hm  hK hP hDD ls hl hT
    exact b_X12_costOf_13  (K13 := g_X12_costOf_13  n) (N13 := n) C0  (fun σ a1 a2 a3 a4 hI h1 h1b h4 hm2 => ih σ a1 a2 a3 a4 hI h1 h1b h4 hm2) hI h1 h1b h4 hm hK hP hDD hl hT
def f_X12_costOf (σ : St) (a1 : Int32) (a2 : Int32) : Int32 := (g_X12_costOf_13  (1001) σ a1 a2 (0 : Int32) (σ 1 (ix ((51 : Int32) + a1))))
set_option maxHeartbeats 600000 in
set_option maxRecDepth 100000 in
theorem k_X12_costOf (l : Launch) (g : GG) (σ : St) (a1 : Int32) (a2 : Int32) (hI : IB (σ 1)) (h1 : 0 ≤ a1.toInt) (h1b : a1.toInt < 6) : PI l yX12_costOf (wsF yX12_costOf cX12_costOf 5 (some .int)) { frames := 1, cells := 0, slots := 0, locals := 22 } [.ref (g.2.2 100), .int (a1), .int (a2)] (GB g (mW g) (fun _ => True) σ) (f_X12_costOf σ a1 a2) := by
  refine start_PI (by decide) (Nat.le_of_ble_eq_true rfl) ?_
  intro p e s m args below meth c C0 hG ls hl
  obtain ⟨hK, hP, hDD, hBg⟩ := hG
  obtain ⟨hx, hb, hr, hml, hown, hts, hlocks⟩ := id C0
  have hl : lv_has ls 5 [(0, .ref (g.2.2 100)), (1, .int (a1)), (2, .int (a2))] := hl
  generalize hT : (f_X12_costOf σ a1 a2) = tgt
  unfold f_X12_costOf at hT
  obtain ⟨⟨i0, i0'⟩, ⟨i1, i1'⟩, ⟨i2, i2'⟩, ⟨i3, i3'⟩, ⟨i4, i4'⟩, ⟨i5, i5'⟩, ⟨i6, i6'⟩, ⟨i7, i7'⟩, ⟨i8, i8'⟩, iK, iV, iL, iR, iW, iY, iG, iM, iB, iQ, iP, iT, iU⟩ := id hI
  obtain ⟨w1, w2, w3⟩ := IB_w hI h1 h1b
  refine lv_iconst (v := (0 : Int32)) hx hb dX12_costOf_0 (by decide) ?_
  refine lv_istore_n (lv' := [(3, .int ((0 : Int32))), (0, .ref (g.2.2 100)), (1, .int (a1)), (2, .int (a2))]) hx hb dX12_costOf_1 rfl hl (by decide) rfl (fun ls hl => ?_)
  refine lv_aload_n hx hb dX12_costOf_2 rfl (lv_at hl 1 rfl) ?_
  refine m_get (σ := σ) (v := .ref (g.2.2 1)) C0 hK hP 1 (by decide) rfl w_968 dX12_costOf_3 ?_
  refine lv_bipush (v := (51 : Int32)) hx hb dX12_costOf_6 (by decide) ?_
  refine lv_iload_n hx hb dX12_costOf_8 rfl (lv_at hl 2 rfl) ?_
  refine lv_iadd hx hb dX12_costOf_9 ?_
  have o_10 : vp_in ((51 : Int32) + a1) 916 := by
    have : ((51 : Int32)).toInt = 51 := by decide
    try have := ti_add (a := (51 : Int32)) (b := a1) (by omega) (by omega)
    exact vin (by omega) (by omega)
  refine m_ald (σ := σ) C0 hK hP 1 1 916 rfl o_10 (ix ((51 : Int32) + a1)) rfl dX12_costOf_10 ?_
  refine lv_istore (lv' := [(4, .int ((σ 1 (ix ((51 : Int32) + a1))))), (3, .int ((0 : Int32))), (0, .ref (g.2.2 100)), (1, .int (a1)), (2, .int (a2))]) hx hb dX12_costOf_11 hl (by decide) rfl (fun ls hl => ?_)
  have j11_h4 : 0 ≤ (σ 1 (ix ((51 : Int32) + a1))).toInt := by
    have : ((0 : Int32)).toInt = 0 := by decide
    omega
  have j11_m : ((σ 1 (ix (57 + a1))).toInt - (σ 1 (ix ((51 : Int32) + a1))).toInt + 1).toNat < 1001 := by
    have : ((0 : Int32)).toInt = 0 := by decide
    omega
  exact l_X12_costOf_13  C0   (1001) σ a1 a2 (0 : Int32) (σ 1 (ix ((51 : Int32) + a1))) hI h1 h1b j11_h4 j11_m hK hP hDD (lv_sub hl [2, 3, 4, 1, 0] rfl) hT
set_option maxRecDepth 20000 in
theorem w_1243 : (Cond.methodLink RX12 193 yX12_costOf) ∈ TB := inTB (List.mem_of_getElem? (i := 1243) (by decide +kernel)) (by decide +kernel)
set_option maxRecDepth 20000 in
theorem w_1246 : (Cond.code yX12_costOf cX12_costOf 5 (some .int)) ∈ TB := inTB (List.mem_of_getElem? (i := 1246) (by decide +kernel)) (by decide +kernel)
set_option maxRecDepth 20000 in
theorem w_1245 : (Cond.instanceMethod yX12_costOf) ∈ TB := inTB (List.mem_of_getElem? (i := 1245) (by decide +kernel)) (by decide +kernel)
set_option maxRecDepth 20000 in
theorem w_60 : (Cond.selects RX12 yX12_costOf yX12_costOf) ∈ TB := inTB (List.mem_of_getElem? (i := 60) (by decide +kernel)) (by decide +kernel)
theorem cf_X12_costOf : CF yX12_costOf cX12_costOf 5 (some .int) 2 := ⟨w_1245, w_60, w_75, w_1246, by decide +kernel, by decide +kernel, by decide +kernel⟩
set_option maxRecDepth 20000 in
theorem w_987 : (Cond.fieldLink RX12 190 RX12 "bestCost" "I") ∈ TB := inTB (List.mem_of_getElem? (i := 987) (by decide +kernel)) (by decide +kernel)
set_option maxRecDepth 20000 in
theorem w_1242 : (Cond.constant RX12 189 (100000000 : Int32)) ∈ TB := inTB (List.mem_of_getElem? (i := 1242) (by decide +kernel)) (by decide +kernel)
/-! ThreeMeasuresModel.bestCut -/
theorem dX12_bestCut_0 : decode cX12_bestCut 0 = .ok (.aload_n 0, 1) := by decide +kernel
theorem dX12_bestCut_1 : decode cX12_bestCut 1 = .ok (.getfield 9, 3) := by decide +kernel
theorem dX12_bestCut_4 : decode cX12_bestCut 4 = .ok (.bipush 51, 2) := by decide +kernel
theorem dX12_bestCut_6 : decode cX12_bestCut 6 = .ok (.iload_n 1, 1) := by decide +kernel
theorem dX12_bestCut_7 : decode cX12_bestCut 7 = .ok (.iadd, 1) := by decide +kernel
theorem dX12_bestCut_8 : decode cX12_bestCut 8 = .ok (.iaload, 1) := by decide +kernel
theorem dX12_bestCut_9 : decode cX12_bestCut 9 = .ok (.istore_n 2, 1) := by decide +kernel
theorem dX12_bestCut_10 : decode cX12_bestCut 10 = .ok (.aload_n 0, 1) := by decide +kernel
theorem dX12_bestCut_11 : decode cX12_bestCut 11 = .ok (.ldc 189, 2) := by decide +kernel
theorem dX12_bestCut_13 : decode cX12_bestCut 13 = .ok (.putfield 190, 3) := by decide +kernel
theorem dX12_bestCut_16 : decode cX12_bestCut 16 = .ok (.aload_n 0, 1) := by decide +kernel
theorem dX12_bestCut_17 : decode cX12_bestCut 17 = .ok (.getfield 9, 3) := by decide +kernel
theorem dX12_bestCut_20 : decode cX12_bestCut 20 = .ok (.bipush 51, 2) := by decide +kernel
theorem dX12_bestCut_22 : decode cX12_bestCut 22 = .ok (.iload_n 1, 1) := by decide +kernel
theorem dX12_bestCut_23 : decode cX12_bestCut 23 = .ok (.iadd, 1) := by decide +kernel
theorem dX12_bestCut_24 : decode cX12_bestCut 24 = .ok (.iaload, 1) := by decide +kernel
theorem dX12_bestCut_25 : decode cX12_bestCut 25 = .ok (.istore_n 3, 1) := by decide +kernel
theorem dX12_bestCut_26 : decode cX12_bestCut 26 = .ok (.iload_n 3, 1) := by decide +kernel
theorem dX12_bestCut_27 : decode cX12_bestCut 27 = .ok (.aload_n 0, 1) := by decide +kernel
theorem dX12_bestCut_28 : decode cX12_bestCut 28 = .ok (.getfield 9, 3) := by decide +kernel
theorem dX12_bestCut_31 : decode cX12_bestCut 31 = .ok (.bipush 57, 2) := by decide +kernel
theorem dX12_bestCut_33 : decode cX12_bestCut 33 = .ok (.iload_n 1, 1) := by decide +kernel
theorem dX12_bestCut_34 : decode cX12_bestCut 34 = .ok (.iadd, 1) := by decide +kernel
theorem dX12_bestCut_35 : decode cX12_bestCut 35 = .ok (.iaload, 1) := by decide +kernel
theorem dX12_bestCut_36 : decode cX12_bestCut 36 = .ok (.if_icmp .gt 70, 3) := by decide +kernel
theorem dX12_bestCut_39 : decode cX12_bestCut 39 = .ok (.iload_n 3, 1) := by decide +kernel
theorem dX12_bestCut_40 : decode cX12_bestCut 40 = .ok (.aload_n 0, 1) := by decide +kernel
theorem dX12_bestCut_41 : decode cX12_bestCut 41 = .ok (.getfield 9, 3) := by decide +kernel
theorem dX12_bestCut_44 : decode cX12_bestCut 44 = .ok (.bipush 51, 2) := by decide +kernel
theorem dX12_bestCut_46 : decode cX12_bestCut 46 = .ok (.iload_n 1, 1) := by decide +kernel
theorem dX12_bestCut_47 : decode cX12_bestCut 47 = .ok (.iadd, 1) := by decide +kernel
theorem dX12_bestCut_48 : decode cX12_bestCut 48 = .ok (.iaload, 1) := by decide +kernel
theorem dX12_bestCut_49 : decode cX12_bestCut 49 = .ok (.bipush 60, 2) := by decide +kernel
theorem dX12_bestCut_51 : decode cX12_bestCut 51 = .ok (.iadd, 1) := by decide +kernel
theorem dX12_bestCut_52 : decode cX12_bestCut 52 = .ok (.if_icmp .gt 54, 3) := by decide +kernel
theorem dX12_bestCut_55 : decode cX12_bestCut 55 = .ok (.aload_n 0, 1) := by decide +kernel
theorem dX12_bestCut_56 : decode cX12_bestCut 56 = .ok (.iload_n 1, 1) := by decide +kernel
theorem dX12_bestCut_57 : decode cX12_bestCut 57 = .ok (.iload_n 3, 1) := by decide +kernel
theorem dX12_bestCut_58 : decode cX12_bestCut 58 = .ok (.invokevirtual 193, 3) := by decide +kernel
theorem dX12_bestCut_61 : decode cX12_bestCut 61 = .ok (.istore 4, 2) := by decide +kernel
theorem dX12_bestCut_63 : decode cX12_bestCut 63 = .ok (.iload 4, 2) := by decide +kernel
theorem dX12_bestCut_65 : decode cX12_bestCut 65 = .ok (.aload_n 0, 1) := by decide +kernel
theorem dX12_bestCut_66 : decode cX12_bestCut 66 = .ok (.getfield 190, 3) := by decide +kernel
theorem dX12_bestCut_69 : decode cX12_bestCut 69 = .ok (.if_icmp .ge 7, 3) := by decide +kernel
theorem dX12_bestCut_72 : decode cX12_bestCut 72 = .ok (.iload_n 3, 1) := by decide +kernel
theorem dX12_bestCut_73 : decode cX12_bestCut 73 = .ok (.goto 4, 3) := by decide +kernel
theorem dX12_bestCut_76 : decode cX12_bestCut 76 = .ok (.iload_n 2, 1) := by decide +kernel
theorem dX12_bestCut_77 : decode cX12_bestCut 77 = .ok (.istore_n 2, 1) := by decide +kernel
theorem dX12_bestCut_78 : decode cX12_bestCut 78 = .ok (.aload_n 0, 1) := by decide +kernel
theorem dX12_bestCut_79 : decode cX12_bestCut 79 = .ok (.iload 4, 2) := by decide +kernel
theorem dX12_bestCut_81 : decode cX12_bestCut 81 = .ok (.aload_n 0, 1) := by decide +kernel
theorem dX12_bestCut_82 : decode cX12_bestCut 82 = .ok (.getfield 190, 3) := by decide +kernel
theorem dX12_bestCut_85 : decode cX12_bestCut 85 = .ok (.if_icmp .ge 8, 3) := by decide +kernel
theorem dX12_bestCut_88 : decode cX12_bestCut 88 = .ok (.iload 4, 2) := by decide +kernel
theorem dX12_bestCut_90 : decode cX12_bestCut 90 = .ok (.goto 7, 3) := by decide +kernel
theorem dX12_bestCut_93 : decode cX12_bestCut 93 = .ok (.aload_n 0, 1) := by decide +kernel
theorem dX12_bestCut_94 : decode cX12_bestCut 94 = .ok (.getfield 190, 3) := by decide +kernel
theorem dX12_bestCut_97 : decode cX12_bestCut 97 = .ok (.putfield 190, 3) := by decide +kernel
theorem dX12_bestCut_100 : decode cX12_bestCut 100 = .ok (.iinc 3 1, 3) := by decide +kernel
theorem dX12_bestCut_103 : decode cX12_bestCut 103 = .ok (.goto (-77), 3) := by decide +kernel
theorem dX12_bestCut_106 : decode cX12_bestCut 106 = .ok (.iload_n 2, 1) := by decide +kernel
theorem dX12_bestCut_107 : decode cX12_bestCut 107 = .ok (.ireturn, 1) := by decide +kernel
def f_X12_bestCut_26 (K26 : St → Int32 → Int32 → Int32 → Int32 × St) (σ : St) (a1 : Int32) (a2 : Int32) (a3 : Int32) : Int32 × St := (if (σ 1 (ix ((57 : Int32) + a1))) < a3 then (a2, σ) else (if ((σ 1 (ix ((51 : Int32) + a1))) + (60 : Int32)) < a3 then (a2, σ) else (K26 (up2 σ 20 0 (if (σ 20 0) ≤ (f_X12_costOf σ a1 a3) then (σ 20 0) else (f_X12_costOf σ a1 a3))) a1 (if (σ 20 0) ≤ (f_X12_costOf σ a1 a3) then a2 else a3) (a3 + (1 : Int32)))))
set_option maxHeartbeats 600000 in
set_option maxRecDepth 100000 in
theorem b_X12_bestCut_26 {g : GG} {p : Program} {l : Launch} {e : Env} {s : State} {m : MethodId} {args : Array Value} {below : List Frame} {meth : Method} {c : Code} {A : Nat → Prop} {tgt : Int32 × St} {K26 : St → Int32 → Int32 → Int32 → Int32 × St} {N26 : Nat} (C0 : BC p s m args meth c cX12_bestCut RX12 5 (some .int)) (hK26 : ∀ (σ : St) (a1 : Int32) (a2 : Int32) (a3 : Int32), (IB (σ 1)) → (0 ≤ a1.toInt) → (a1.toInt < 6) → (0 ≤ a3.toInt) → ((σ 1 (ix (57 + a1))).toInt - a3.toInt + 1).toNat < N26 → ∀ {H : Heap} {locs : List Loc}, KK g s → WC g (mW g) A s.heap σ H locs → ∀ {ls : Array Slot}, lv_has ls 5 [(0, .ref (g.2.2 100)), (1, .int (a1)), (2, .int (a2)), (3, .int (a3))] → K26 σ a1 a2 a3 = tgt → W p l e { frames := 2, cells := 0, slots := 0, locals := 46 } s m args below meth c H locs 0 0 (QMI below args s g (mW g) A tgt) (F0 m 26 ls [])) {σ : St} {a1 : Int32} {a2 : Int32} {a3 : Int32} {H : Heap} {locs : List Loc} (hI : IB (σ 1)) (h1 : 0 ≤ a1.toInt) (h1b : a1.toInt < 6) (h3 : 0 ≤ a3.toInt) (hm : ((σ 1 (ix (57 + a1))).toInt - a3.toInt + 1).toNat < N26 + 1) (hK : KK g s) (hC : WC g (mW g) A s.heap σ H locs) {ls : Array Slot} (hl : lv_has ls 5 [(0, .ref (g.2.2 100)), (1, .int (a1)), (2, .int (a2)), (3, .int (a3))]) (hT : f_X12_bestCut_26 K26 σ a1 a2 a3 = tgt) : W p l e { frames := 2, cells := 0, slots := 0, locals := 46 } s m args below meth c H locs 0 0 (QMI below args s g (mW g) A tgt) (F0 m 26 ls []) := by
  obtain ⟨hx, hb, hr, hml, hown, hts, hlocks⟩ := id C0
  unfold f_X12_bestCut_26 at hT
  obtain ⟨⟨i0, i0'⟩, ⟨i1, i1'⟩, ⟨i2, i2'⟩, ⟨i3, i3'⟩, ⟨i4, i4'⟩, ⟨i5, i5'⟩, ⟨i6, i6'⟩, ⟨i7, i7'⟩, ⟨i8, i8'⟩, iK, iV, iL, iR, iW, iY, iG, iM, iB, iQ, iP, iT, iU⟩ := id hI
  obtain ⟨w1, w2, w3⟩ := IB_w hI h1 h1b
  refine lv_iload_n hx hb dX12_bestCut_26 rfl (lv_at hl 3 rfl) ?_
  refine lv_aload_n hx hb dX12_bestCut_27 rfl (lv_at hl 0 rfl) ?_
  refine m_get (σ := σ) (v := .ref (g.2.2 1)) C0 hK hC.1 1 (by decide) rfl w_968 dX12_bestCut_28 ?_
  refine lv_bipush (v := (57 : Int32)) hx hb dX12_bestCut_31 (by decide) ?_
  refine lv_iload_n hx hb dX12_bestCut_33 rfl (lv_at hl 1 rfl) ?_
  refine lv_iadd hx hb dX12_bestCut_34 ?_
  have o_35 : vp_in ((57 : Int32) + a1) 916 := by
    have : ((57 : Int32)).toInt = 57 := by decide
    try have := ti_add (a := (57 : Int32)) (b := a1) (by omega) (by omega)
    exact vin (by omega) (by omega)
  refine m_ald (σ := σ) C0 hK hC.1 1 1 916 rfl o_35 (ix ((57 : Int32) + a1)) rfl dX12_bestCut_35 ?_
  refine lv_icmp_gt (tgt := 106) hx hb dX12_bestCut_36 (by decide) (fun c_36 => ?_) (fun c_36 => ?_)
  · have hT := hT_pos c_36 hT
    refine lv_iload_n hx hb dX12_bestCut_106 rfl (lv_at hl 2 rfl) ?_
    exact ret_MI C0 hC hT dX12_bestCut_107
  · have hT := hT_neg c_36 hT
    refine lv_iload_n hx hb dX12_bestCut_39 rfl (lv_at hl 3 rfl) ?_
    refine lv_aload_n hx hb dX12_bestCut_40 rfl (lv_at hl 0 rfl) ?_
    refine m_get (σ := σ) (v := .ref (g.2.2 1)) C0 hK hC.1 1 (by decide) rfl w_968 dX12_bestCut_41 ?_
    refine lv_bipush (v := (51 : Int32)) hx hb dX12_bestCut_44 (by decide) ?_
    refine lv_iload_n hx hb dX12_bestCut_46 rfl (lv_at hl 1 rfl) ?_
    refine lv_iadd hx hb dX12_bestCut_47 ?_
    have o_48 : vp_in ((51 : Int32) + a1) 916 := by
      have : ((51 : Int32)).toInt = 51 := by decide
      have := mt ti_lt.mpr c_36
      try have := ti_add (a := (51 : Int32)) (b := a1) (by omega) (by omega)
      exact vin (by omega) (by omega)
    refine m_ald (σ := σ) C0 hK hC.1 1 1 916 rfl o_48 (ix ((51 : Int32) + a1)) rfl dX12_bestCut_48 ?_
    refine lv_bipush (v := (60 : Int32)) hx hb dX12_bestCut_49 (by decide) ?_
    refine lv_iadd hx hb dX12_bestCut_51 ?_
    refine lv_icmp_gt (tgt := 106) hx hb dX12_bestCut_52 (by decide) (fun c_52 => ?_) (fun c_52 => ?_)
    · have hT := hT_pos c_52 hT
      refine lv_iload_n hx hb dX12_bestCut_106 rfl (lv_at hl 2 rfl) ?_
      exact ret_MI C0 hC hT dX12_bestCut_107
    · have hT := hT_neg c_52 hT
      refine lv_aload_n hx hb dX12_bestCut_55 rfl (lv_at hl 0 rfl) ?_
      refine lv_iload_n hx hb dX12_bestCut_56 rfl (lv_at hl 1 rfl) ?_
      refine lv_iload_n hx hb dX12_bestCut_57 rfl (lv_at hl 3 rfl) ?_
      refine m_ci (rest := []) (As := [.int (a1), .int (a3)]) (σ := σ) C0 hK hC.1 (hC.2.1.weaken (fun _ _ _ _ => trivial)) SV.tt (fun _ _ _ => trivial) cf_X12_costOf w_1243 rfl (k_X12_costOf l g σ a1 a3 hI h1 h1b) ⟨by decide, by decide⟩ hl.1 rfl rfl (Nat.le_of_ble_eq_true rfl) dX12_bestCut_58 ⟨Nat.zero_le _, Nat.zero_le _⟩ ?_
      refine lv_istore (lv' := [(4, .int ((f_X12_costOf σ a1 a3))), (0, .ref (g.2.2 100)), (1, .int (a1)), (2, .int (a2)), (3, .int (a3))]) hx hb dX12_bestCut_61 hl (by decide) rfl (fun ls hl => ?_)
      refine lv_iload hx hb dX12_bestCut_63 (lv_at hl 0 rfl) ?_
      refine lv_aload_n hx hb dX12_bestCut_65 rfl (lv_at hl 1 rfl) ?_
      refine m_get (σ := σ) (v := .int ((σ 20 0))) C0 hK hC.1 20 (by decide) rfl w_987 dX12_bestCut_66 ?_
      have J69 : ∀ v : Int32, v = (if (σ 20 0) ≤ (f_X12_costOf σ a1 a3) then a2 else a3) → W p l e { frames := 2, cells := 0, slots := 0, locals := 46 } s m args below meth c H locs 0 0 (QMI below args s g (mW g) A tgt) (F0 m 77 ls [.int (v)]) := by
        intro v ev
        subst ev
        refine lv_istore_n (lv' := [(2, .int ((if (σ 20 0) ≤ (f_X12_costOf σ a1 a3) then a2 else a3))), (4, .int ((f_X12_costOf σ a1 a3))), (0, .ref (g.2.2 100)), (1, .int (a1)), (3, .int (a3))]) hx hb dX12_bestCut_77 rfl hl (by decide) rfl (fun ls hl => ?_)
        refine lv_aload_n hx hb dX12_bestCut_78 rfl (lv_at hl 2 rfl) ?_
        refine lv_iload hx hb dX12_bestCut_79 (lv_at hl 1 rfl) ?_
        refine lv_aload_n hx hb dX12_bestCut_81 rfl (lv_at hl 2 rfl) ?_
        refine m_get (σ := σ) (v := .int ((σ 20 0))) C0 hK hC.1 20 (by decide) rfl w_987 dX12_bestCut_82 ?_
        have J85 : ∀ v : Int32, v = (if (σ 20 0) ≤ (f_X12_costOf σ a1 a3) then (σ 20 0) else (f_X12_costOf σ a1 a3)) → W p l e { frames := 2, cells := 0, slots := 0, locals := 46 } s m args below meth c H locs 0 0 (QMI below args s g (mW g) A tgt) (F0 m 97 ls [.int (v), .ref (g.2.2 100)]) := by
          intro v ev
          subst ev
          refine m_put (σ := σ) (ty := .int) C0 hK hC 20 (by decide) rfl rfl rfl rfl (ms_20 g _ _) w_987 dX12_bestCut_97 (fun H locs hC => ?_)
          refine lv_iinc (v := (a3 + (1 : Int32))) (lv' := [(3, .int ((a3 + (1 : Int32)))), (2, .int ((if (σ 20 0) ≤ (f_X12_costOf σ a1 a3) then a2 else a3))), (4, .int ((f_X12_costOf σ a1 a3))), (0, .ref (g.2.2 100)), (1, .int (a1))]) hx hb dX12_bestCut_100 hl (k := 4) rfl rfl (by decide) rfl (fun ls hl => ?_)
          refine lv_goto (tgt := 26) hx hb dX12_bestCut_103 (by decide) ?_
          have j103_h3 : 0 ≤ (a3 + (1 : Int32)).toInt := by
            have : ((60 : Int32)).toInt = 60 := by decide
            have : ((1 : Int32)).toInt = 1 := by decide
            have := mt ti_lt.mpr c_36
            have := mt ti_lt.mpr c_52
            try have := ti_add (a := (σ 1 (ix ((51 : Int32) + a1)))) (b := (60 : Int32)) (by omega) (by omega)
            try have := ti_add (a := a3) (b := (1 : Int32)) (by omega) (by omega)
            omega
          have j103_m : ((σ 1 (ix (57 + a1))).toInt - (a3 + (1 : Int32)).toInt + 1).toNat < N26 := by
            have : ((60 : Int32)).toInt = 60 := by decide
            have : ((1 : Int32)).toInt = 1 := by decide
            have := mt ti_lt.mpr c_36
            have := mt ti_lt.mpr c_52
            try have := ti_add (a := (σ 1 (ix ((51 : Int32) + a1)))) (b := (60 : Int32)) (by omega) (by omega)
            try have := ti_add (a := a3) (b := (1 : Int32)) (by omega) (by omega)
            omega
          exact hK26 (up2 σ 20 0 (if (σ 20 0) ≤ (f_X12_costOf σ a1 a3) then (σ 20 0) else (f_X12_costOf σ a1 a3))) a1 (if (σ 20 0) ≤ (f_X12_costOf σ a1 a3) then a2 else a3) (a3 + (1 : Int32)) hI h1 h1b j103_h3 j103_m hK hC (lv_sub hl [3, 4, 1, 0] rfl) hT
        refine lv_icmp_ge (tgt := 93) hx hb dX12_bestCut_85 (by decide) (fun c_85 => ?_) (fun c_85 => ?_)
        · refine lv_aload_n hx hb dX12_bestCut_93 rfl (lv_at hl 2 rfl) ?_
          refine m_get (σ := σ) (v := .int ((σ 20 0))) C0 hK hC.1 20 (by decide) rfl w_987 dX12_bestCut_94 ?_
          exact J85 _ (iv_pos c_85 rfl)
        · refine lv_iload hx hb dX12_bestCut_88 (lv_at hl 1 rfl) ?_
          refine lv_goto (tgt := 97) hx hb dX12_bestCut_90 (by decide) ?_
          exact J85 _ (iv_neg c_85 rfl)
      refine lv_icmp_ge (tgt := 76) hx hb dX12_bestCut_69 (by decide) (fun c_69 => ?_) (fun c_69 => ?_)
      · refine lv_iload_n hx hb dX12_bestCut_76 rfl (lv_at hl 3 rfl) ?_
        exact J69 _ (iv_pos c_69 rfl)
      · refine lv_iload_n hx hb dX12_bestCut_72 rfl (lv_at hl 4 rfl) ?_
        refine lv_goto (tgt := 77) hx hb dX12_bestCut_73 (by decide) ?_
        exact J69 _ (iv_neg c_69 rfl)
def g_X12_bestCut_26  : Nat → St → Int32 → Int32 → Int32 → Int32 × St
  | 0 => fun σ a1 a2 a3 => (0, σ)
  | n + 1 => fun σ a1 a2 a3 => f_X12_bestCut_26  (g_X12_bestCut_26  n) σ a1 a2 a3
theorem l_X12_bestCut_26 {g : GG} {p : Program} {l : Launch} {e : Env} {s : State} {m : MethodId} {args : Array Value} {below : List Frame} {meth : Method} {c : Code} {A : Nat → Prop} {tgt : Int32 × St}  (C0 : BC p s m args meth c cX12_bestCut RX12 5 (some .int))  : ∀ (n : Nat) (σ : St) (a1 : Int32) (a2 : Int32) (a3 : Int32), (IB (σ 1)) → (0 ≤ a1.toInt) → (a1.toInt < 6) → (0 ≤ a3.toInt) → ((σ 1 (ix (57 + a1))).toInt - a3.toInt + 1).toNat < n → ∀ {H : Heap} {locs : List Loc}, KK g s → WC g (mW g) A s.heap σ H locs → ∀ {ls : Array Slot}, lv_has ls 5 [(0, .ref (g.2.2 100)), (1, .int (a1)), (2, .int (a2)), (3, .int (a3))] → g_X12_bestCut_26  n σ a1 a2 a3 = tgt → W p l e { frames := 2, cells := 0, slots := 0, locals := 46 } s m args below meth c H locs 0 0 (QMI below args s g (mW g) A tgt) (F0 m 26 ls []) := by
  intro n
  induction n with
  | zero => intro σ a1 a2 a3 hI h1 h1b h3 hm; exact absurd hm (Nat.not_lt_zero _)
  | succ n ih =>
    intro σ a1 a2 a3 hI h1 h1b h3 hm H locs hK hC ls hl hT
    exact b_X12_bestCut_26  (K26 := g_X12_bestCut_26  n) (N26 := n) C0  (fun σ a1 a2 a3 hI h1 h1b h3 hm2 => ih σ a1 a2 a3 hI h1 h1b h3 hm2) hI h1 h1b h3 hm hK hC hl hT
def f_X12_bestCut (σ : St) (a1 : Int32) : Int32 × St := (g_X12_bestCut_26  (1001) (up2 σ 20 0 (100000000 : Int32)) a1 (σ 1 (ix ((51 : Int32) + a1))) (σ 1 (ix ((51 : Int32) + a1))))
set_option maxHeartbeats 600000 in
set_option maxRecDepth 100000 in
theorem k_X12_bestCut (l : Launch) (g : GG) (σ : St) (a1 : Int32) (hI : IB (σ 1)) (h1 : 0 ≤ a1.toInt) (h1b : a1.toInt < 6) : MI l yX12_bestCut (wsF yX12_bestCut cX12_bestCut 5 (some .int)) { frames := 2, cells := 0, slots := 0, locals := 46 } [.ref (g.2.2 100), .int (a1)] g (mW g) (fun _ => True) σ (f_X12_bestCut σ a1) := by
  refine start_MI (by decide) (Nat.le_of_ble_eq_true rfl) ?_
  intro p e s m args below meth c C0 hK hBg hC ls hl
  generalize hAe : aA ((mW g) σ) = A at hC ⊢
  obtain ⟨hx, hb, hr, hml, hown, hts, hlocks⟩ := id C0
  have hl : lv_has ls 5 [(0, .ref (g.2.2 100)), (1, .int (a1))] := hl
  generalize hT : (f_X12_bestCut σ a1) = tgt
  suffices key : ∀ (H : Heap) (locs : List Loc), WC g (mW g) A s.heap σ H locs → W p l e { frames := 2, cells := 0, slots := 0, locals := 46 } s m args below meth c H locs 0 0 (QMI below args s g (mW g) A tgt) (F0 m 0 ls []) from key _ _ hC
  intro H locs hC
  unfold f_X12_bestCut at hT
  obtain ⟨⟨i0, i0'⟩, ⟨i1, i1'⟩, ⟨i2, i2'⟩, ⟨i3, i3'⟩, ⟨i4, i4'⟩, ⟨i5, i5'⟩, ⟨i6, i6'⟩, ⟨i7, i7'⟩, ⟨i8, i8'⟩, iK, iV, iL, iR, iW, iY, iG, iM, iB, iQ, iP, iT, iU⟩ := id hI
  obtain ⟨w1, w2, w3⟩ := IB_w hI h1 h1b
  refine lv_aload_n hx hb dX12_bestCut_0 rfl (lv_at hl 0 rfl) ?_
  refine m_get (σ := σ) (v := .ref (g.2.2 1)) C0 hK hC.1 1 (by decide) rfl w_968 dX12_bestCut_1 ?_
  refine lv_bipush (v := (51 : Int32)) hx hb dX12_bestCut_4 (by decide) ?_
  refine lv_iload_n hx hb dX12_bestCut_6 rfl (lv_at hl 1 rfl) ?_
  refine lv_iadd hx hb dX12_bestCut_7 ?_
  have o_8 : vp_in ((51 : Int32) + a1) 916 := by
    have : ((51 : Int32)).toInt = 51 := by decide
    try have := ti_add (a := (51 : Int32)) (b := a1) (by omega) (by omega)
    exact vin (by omega) (by omega)
  refine m_ald (σ := σ) C0 hK hC.1 1 1 916 rfl o_8 (ix ((51 : Int32) + a1)) rfl dX12_bestCut_8 ?_
  refine lv_istore_n (lv' := [(2, .int ((σ 1 (ix ((51 : Int32) + a1))))), (0, .ref (g.2.2 100)), (1, .int (a1))]) hx hb dX12_bestCut_9 rfl hl (by decide) rfl (fun ls hl => ?_)
  refine lv_aload_n hx hb dX12_bestCut_10 rfl (lv_at hl 1 rfl) ?_
  refine lv_ldc (v := (100000000 : Int32)) hx hb C0.2.2.2.2.1 (C0.2.2.2.2.2.1 _ w_1242) dX12_bestCut_11 ?_
  refine m_put (σ := σ) (ty := .int) C0 hK hC 20 (by decide) rfl rfl rfl rfl (ms_20 g _ _) w_987 dX12_bestCut_13 (fun H locs hC => ?_)
  refine lv_aload_n hx hb dX12_bestCut_16 rfl (lv_at hl 1 rfl) ?_
  refine m_get (σ := (up2 σ 20 0 (100000000 : Int32))) (v := .ref (g.2.2 1)) C0 hK hC.1 1 (by decide) rfl w_968 dX12_bestCut_17 ?_
  refine lv_bipush (v := (51 : Int32)) hx hb dX12_bestCut_20 (by decide) ?_
  refine lv_iload_n hx hb dX12_bestCut_22 rfl (lv_at hl 2 rfl) ?_
  refine lv_iadd hx hb dX12_bestCut_23 ?_
  have o_24 : vp_in ((51 : Int32) + a1) 916 := by
    have : ((51 : Int32)).toInt = 51 := by decide
    try have := ti_add (a := (51 : Int32)) (b := a1) (by omega) (by omega)
    exact vin (by omega) (by omega)
  refine m_ald (σ := (up2 σ 20 0 (100000000 : Int32))) C0 hK hC.1 1 1 916 rfl o_24 (ix ((51 : Int32) + a1)) rfl dX12_bestCut_24 ?_
  refine lv_istore_n (lv' := [(3, .int ((σ 1 (ix ((51 : Int32) + a1))))), (2, .int ((σ 1 (ix ((51 : Int32) + a1))))), (0, .ref (g.2.2 100)), (1, .int (a1))]) hx hb dX12_bestCut_25 rfl hl (by decide) rfl (fun ls hl => ?_)
  have j25_h3 : 0 ≤ (σ 1 (ix ((51 : Int32) + a1))).toInt := by
    omega
  have j25_m : ((σ 1 (ix (57 + a1))).toInt - (σ 1 (ix ((51 : Int32) + a1))).toInt + 1).toNat < 1001 := by
    omega
  exact l_X12_bestCut_26  C0   (1001) (up2 σ 20 0 (100000000 : Int32)) a1 (σ 1 (ix ((51 : Int32) + a1))) (σ 1 (ix ((51 : Int32) + a1))) hI h1 h1b j25_h3 j25_m hK hC (lv_sub hl [2, 3, 1, 0] rfl) hT
set_option maxRecDepth 20000 in
theorem w_1238 : (Cond.methodLink RX12 196 yX12_bestCut) ∈ TB := inTB (List.mem_of_getElem? (i := 1238) (by decide +kernel)) (by decide +kernel)
set_option maxRecDepth 20000 in
theorem w_1241 : (Cond.code yX12_bestCut cX12_bestCut 5 (some .int)) ∈ TB := inTB (List.mem_of_getElem? (i := 1241) (by decide +kernel)) (by decide +kernel)
set_option maxRecDepth 20000 in
theorem w_1240 : (Cond.instanceMethod yX12_bestCut) ∈ TB := inTB (List.mem_of_getElem? (i := 1240) (by decide +kernel)) (by decide +kernel)
set_option maxRecDepth 20000 in
theorem w_59 : (Cond.selects RX12 yX12_bestCut yX12_bestCut) ∈ TB := inTB (List.mem_of_getElem? (i := 59) (by decide +kernel)) (by decide +kernel)
theorem cf_X12_bestCut : CF yX12_bestCut cX12_bestCut 5 (some .int) 1 := ⟨w_1240, w_59, w_75, w_1241, by decide +kernel, by decide +kernel, by decide +kernel⟩
/-! ThreeMeasuresModel.cut -/
theorem dX12_cut_0 : decode cX12_cut 0 = .ok (.aload_n 0, 1) := by decide +kernel
theorem dX12_cut_1 : decode cX12_cut 1 = .ok (.iload_n 1, 1) := by decide +kernel
theorem dX12_cut_2 : decode cX12_cut 2 = .ok (.invokevirtual 165, 3) := by decide +kernel
theorem dX12_cut_5 : decode cX12_cut 5 = .ok (.ifCond .eq 11, 3) := by decide +kernel
theorem dX12_cut_8 : decode cX12_cut 8 = .ok (.aload_n 0, 1) := by decide +kernel
theorem dX12_cut_9 : decode cX12_cut 9 = .ok (.iload_n 1, 1) := by decide +kernel
theorem dX12_cut_10 : decode cX12_cut 10 = .ok (.invokevirtual 196, 3) := by decide +kernel
theorem dX12_cut_13 : decode cX12_cut 13 = .ok (.goto 4, 3) := by decide +kernel
theorem dX12_cut_16 : decode cX12_cut 16 = .ok (.iconst (-1), 1) := by decide +kernel
theorem dX12_cut_17 : decode cX12_cut 17 = .ok (.ireturn, 1) := by decide +kernel
def f_X12_cut (σ : St) (a1 : Int32) : Int32 × St := (if (f_X12_isWall σ a1) = 0 then ((-1 : Int32), σ) else (bd (f_X12_bestCut σ a1) (fun r10 u10 => (r10, u10))))
set_option maxHeartbeats 600000 in
set_option maxRecDepth 100000 in
theorem k_X12_cut (l : Launch) (g : GG) (σ : St) (a1 : Int32) (hI : IB (σ 1)) : MI l yX12_cut (wsF yX12_cut cX12_cut 2 (some .int)) { frames := 3, cells := 0, slots := 0, locals := 70 } [.ref (g.2.2 100), .int (a1)] g (mW g) (fun _ => True) σ (f_X12_cut σ a1) := by
  refine start_MI (by decide) (Nat.le_of_ble_eq_true rfl) ?_
  intro p e s m args below meth c C0 hK hBg hC ls hl
  generalize hAe : aA ((mW g) σ) = A at hC ⊢
  obtain ⟨hx, hb, hr, hml, hown, hts, hlocks⟩ := id C0
  have hl : lv_has ls 2 [(0, .ref (g.2.2 100)), (1, .int (a1))] := hl
  generalize hT : (f_X12_cut σ a1) = tgt
  suffices key : ∀ (H : Heap) (locs : List Loc), WC g (mW g) A s.heap σ H locs → W p l e { frames := 3, cells := 0, slots := 0, locals := 70 } s m args below meth c H locs 0 0 (QMI below args s g (mW g) A tgt) (F0 m 0 ls []) from key _ _ hC
  intro H locs hC
  unfold f_X12_cut at hT
  obtain ⟨⟨i0, i0'⟩, ⟨i1, i1'⟩, ⟨i2, i2'⟩, ⟨i3, i3'⟩, ⟨i4, i4'⟩, ⟨i5, i5'⟩, ⟨i6, i6'⟩, ⟨i7, i7'⟩, ⟨i8, i8'⟩, iK, iV, iL, iR, iW, iY, iG, iM, iB, iQ, iP, iT, iU⟩ := id hI
  refine lv_aload_n hx hb dX12_cut_0 rfl (lv_at hl 0 rfl) ?_
  refine lv_iload_n hx hb dX12_cut_1 rfl (lv_at hl 1 rfl) ?_
  refine m_ci (rest := []) (As := [.int (a1)]) (σ := σ) C0 hK hC.1 (hC.2.1.weaken (fun _ _ _ _ => trivial)) SV.tt (fun _ _ _ => trivial) cf_X12_isWall w_1147 rfl (k_X12_isWall l g σ a1 ) ⟨by decide, by decide⟩ hl.1 rfl rfl (Nat.le_of_ble_eq_true rfl) dX12_cut_2 ⟨Nat.zero_le _, Nat.zero_le _⟩ ?_
  refine lv_if_eq (tgt := 16) hx hb dX12_cut_5 (by decide) (fun c_5 => ?_) (fun c_5 => ?_)
  · have hT := hT_pos c_5 hT
    refine lv_iconst (v := (-1 : Int32)) hx hb dX12_cut_16 (by decide) ?_
    exact ret_MI C0 hC hT dX12_cut_17
  · have hT := hT_neg c_5 hT
    refine lv_aload_n hx hb dX12_cut_8 rfl (lv_at hl 0 rfl) ?_
    refine lv_iload_n hx hb dX12_cut_9 rfl (lv_at hl 1 rfl) ?_
    have q10_h1 : 0 ≤ a1.toInt := by
      have := isWall_ne hI.2.1.1 c_5
      omega
    have q10_h1b : a1.toInt < 6 := by
      have := isWall_ne hI.2.1.1 c_5
      omega
    refine m_mi (rest := []) (As := [.int (a1)]) (σ := σ) C0 hK hC SV.tt (fun _ _ _ => trivial) cf_X12_bestCut w_1238 rfl (k_X12_bestCut l g σ a1 hI q10_h1 q10_h1b) ⟨by decide, by decide⟩ hl.1 rfl rfl (Nat.le_of_ble_eq_true rfl) dX12_cut_10 ⟨Nat.zero_le _, Nat.zero_le _⟩ (fun r10 u10 H locs e10 hC => ?_)
    have hT := bd_e e10 hT
    refine lv_goto (tgt := 17) hx hb dX12_cut_13 (by decide) ?_
    exact ret_MI C0 hC hT dX12_cut_17
/-! ThreeMeasuresModel.lowest -/
theorem dX12_lowest_0 : decode cX12_lowest 0 = .ok (.lload_n 0, 1) := by decide +kernel
theorem dX12_lowest_1 : decode cX12_lowest 1 = .ok (.lstore 5, 2) := by decide +kernel
theorem dX12_lowest_3 : decode cX12_lowest 3 = .ok (.lload_n 2, 1) := by decide +kernel
theorem dX12_lowest_4 : decode cX12_lowest 4 = .ok (.lstore 7, 2) := by decide +kernel
theorem dX12_lowest_6 : decode cX12_lowest 6 = .ok (.lload 7, 2) := by decide +kernel
theorem dX12_lowest_8 : decode cX12_lowest 8 = .ok (.lconst 0, 1) := by decide +kernel
theorem dX12_lowest_9 : decode cX12_lowest 9 = .ok (.lcmp, 1) := by decide +kernel
theorem dX12_lowest_10 : decode cX12_lowest 10 = .ok (.ifCond .eq 21, 3) := by decide +kernel
theorem dX12_lowest_13 : decode cX12_lowest 13 = .ok (.lload 5, 2) := by decide +kernel
theorem dX12_lowest_15 : decode cX12_lowest 15 = .ok (.lload 7, 2) := by decide +kernel
theorem dX12_lowest_17 : decode cX12_lowest 17 = .ok (.lrem, 1) := by decide +kernel
theorem dX12_lowest_18 : decode cX12_lowest 18 = .ok (.lstore 9, 2) := by decide +kernel
theorem dX12_lowest_20 : decode cX12_lowest 20 = .ok (.lload 7, 2) := by decide +kernel
theorem dX12_lowest_22 : decode cX12_lowest 22 = .ok (.lstore 5, 2) := by decide +kernel
theorem dX12_lowest_24 : decode cX12_lowest 24 = .ok (.lload 9, 2) := by decide +kernel
theorem dX12_lowest_26 : decode cX12_lowest 26 = .ok (.lstore 7, 2) := by decide +kernel
theorem dX12_lowest_28 : decode cX12_lowest 28 = .ok (.goto (-22), 3) := by decide +kernel
theorem dX12_lowest_31 : decode cX12_lowest 31 = .ok (.iload 4, 2) := by decide +kernel
theorem dX12_lowest_33 : decode cX12_lowest 33 = .ok (.ifCond .ne 7, 3) := by decide +kernel
theorem dX12_lowest_36 : decode cX12_lowest 36 = .ok (.lload_n 0, 1) := by decide +kernel
theorem dX12_lowest_37 : decode cX12_lowest 37 = .ok (.goto 4, 3) := by decide +kernel
theorem dX12_lowest_40 : decode cX12_lowest 40 = .ok (.lload_n 2, 1) := by decide +kernel
theorem dX12_lowest_41 : decode cX12_lowest 41 = .ok (.lload 5, 2) := by decide +kernel
theorem dX12_lowest_43 : decode cX12_lowest 43 = .ok (.ldiv, 1) := by decide +kernel
theorem dX12_lowest_44 : decode cX12_lowest 44 = .ok (.lreturn, 1) := by decide +kernel
def f_X12_lowest_6 (K6 : Int64 → Int64 → Int32 → Int64 → Int64 → Int64) (a0 : Int64) (a2 : Int64) (a4 : Int32) (a5 : Int64) (a7 : Int64) : Int64 := (if (lg_cmp a7 (0 : Int64)) = 0 then (if a4 = 0 then (a0 / a5) else (a2 / a5)) else (K6 a0 a2 a4 a7 (a5 - a5 / a7 * a7)))
set_option maxHeartbeats 600000 in
set_option maxRecDepth 100000 in
theorem b_X12_lowest_6  {p : Program} {l : Launch} {e : Env} {s : State} {m : MethodId} {args : Array Value} {below : List Frame} {meth : Method} {c : Code}  {tgt : Int64} {K6 : Int64 → Int64 → Int32 → Int64 → Int64 → Int64} {N6 : Nat} (C0 : BC p s m args meth c cX12_lowest RX12 11 (some .long)) (hK6 : ∀ (a0 : Int64) (a2 : Int64) (a4 : Int32) (a5 : Int64) (a7 : Int64), (0 ≤ a5.toInt) → (0 ≤ a7.toInt) → (0 < a5.toInt ∨ 0 < a7.toInt) → a7.toInt.toNat < N6 →  ∀ {ls : Array Slot}, lv_has ls 11 [(0, .long (a0)), (2, .long (a2)), (4, .int (a4)), (5, .long (a5)), (7, .long (a7))] → K6 a0 a2 a4 a5 a7 = tgt → W p l e { frames := 0, cells := 0, slots := 0, locals := 0 } s m args below meth c s.heap [] 0 0 (QPL below args s tgt) (F0 m 6 ls [])) {a0 : Int64} {a2 : Int64} {a4 : Int32} {a5 : Int64} {a7 : Int64}  (h5 : 0 ≤ a5.toInt) (h7 : 0 ≤ a7.toInt) (h57 : 0 < a5.toInt ∨ 0 < a7.toInt) (hm : a7.toInt.toNat < N6 + 1)  {ls : Array Slot} (hl : lv_has ls 11 [(0, .long (a0)), (2, .long (a2)), (4, .int (a4)), (5, .long (a5)), (7, .long (a7))]) (hT : f_X12_lowest_6 K6 a0 a2 a4 a5 a7 = tgt) : W p l e { frames := 0, cells := 0, slots := 0, locals := 0 } s m args below meth c s.heap [] 0 0 (QPL below args s tgt) (F0 m 6 ls []) := by
  obtain ⟨hx, hb, hr, hml, hown, hts, hlocks⟩ := id C0
  unfold f_X12_lowest_6 at hT
  refine lv_lload hx hb dX12_lowest_6 (lv_at hl 4 rfl) ?_
  refine lv_lconst (v := (0 : Int64)) hx hb dX12_lowest_8 (by decide) ?_
  refine W.lcmp hx hb dX12_lowest_9 ?_
  refine lv_if_eq (tgt := 31) hx hb dX12_lowest_10 (by decide) (fun c_10 => ?_) (fun c_10 => ?_)
  · have hT := hT_pos c_10 hT
    refine lv_iload hx hb dX12_lowest_31 (lv_at hl 2 rfl) ?_
    refine lv_if_ne (tgt := 40) hx hb dX12_lowest_33 (by decide) (fun c_33 => ?_) (fun c_33 => ?_)
    · have hT := hT_neg c_33 hT
      refine lv_lload_n hx hb dX12_lowest_40 rfl (lv_at hl 1 rfl) ?_
      refine lv_lload hx hb dX12_lowest_41 (lv_at hl 3 rfl) ?_
      have o_43 : ¬ a5 = 0 := (by
      have q := lcmp0.mp c_10
      rw [q] at h57
      exact l_ne.mpr (by have z0 : (0 : Int64).toInt = 0 := rfl; omega))
      refine lv_ldiv hx hb dX12_lowest_43 o_43 ?_
      exact ret_PL C0 hT dX12_lowest_44
    · have hT := hT_pos c_33 hT
      refine lv_lload_n hx hb dX12_lowest_36 rfl (lv_at hl 0 rfl) ?_
      refine lv_goto (tgt := 41) hx hb dX12_lowest_37 (by decide) ?_
      refine lv_lload hx hb dX12_lowest_41 (lv_at hl 3 rfl) ?_
      have o_43 : ¬ a5 = 0 := (by
      have q := lcmp0.mp c_10
      rw [q] at h57
      exact l_ne.mpr (by have z0 : (0 : Int64).toInt = 0 := rfl; omega))
      refine lv_ldiv hx hb dX12_lowest_43 o_43 ?_
      exact ret_PL C0 hT dX12_lowest_44
  · have hT := hT_neg c_10 hT
    refine lv_lload hx hb dX12_lowest_13 (lv_at hl 3 rfl) ?_
    refine lv_lload hx hb dX12_lowest_15 (lv_at hl 4 rfl) ?_
    have z7 : a7.toInt ≠ 0 := l_ne.mp (mt lcmp0.mpr c_10)
    have zr := lrem_toInt (x := a5) (y := a7) h5 (by omega)
    have zm := Int.emod_nonneg a5.toInt z7
    have zl := Int.emod_lt_of_pos a5.toInt (show 0 < a7.toInt by omega)
    have o_17 : ¬ a7 = 0 := fun q => c_10 (lcmp0.mpr q)
    refine lv_lrem hx hb dX12_lowest_17 o_17 ?_
    refine lv_lstore (lv' := [(9, .long ((a5 - a5 / a7 * a7))), (0, .long (a0)), (2, .long (a2)), (4, .int (a4)), (5, .long (a5)), (7, .long (a7))]) hx hb dX12_lowest_18 hl (by decide) rfl (fun ls hl => ?_)
    refine lv_lload hx hb dX12_lowest_20 (lv_at hl 5 rfl) ?_
    refine lv_lstore (lv' := [(5, .long (a7)), (9, .long ((a5 - a5 / a7 * a7))), (0, .long (a0)), (2, .long (a2)), (4, .int (a4)), (7, .long (a7))]) hx hb dX12_lowest_22 hl (by decide) rfl (fun ls hl => ?_)
    refine lv_lload hx hb dX12_lowest_24 (lv_at hl 1 rfl) ?_
    refine lv_lstore (lv' := [(7, .long ((a5 - a5 / a7 * a7))), (5, .long (a7)), (9, .long ((a5 - a5 / a7 * a7))), (0, .long (a0)), (2, .long (a2)), (4, .int (a4))]) hx hb dX12_lowest_26 hl (by decide) rfl (fun ls hl => ?_)
    refine lv_goto (tgt := 6) hx hb dX12_lowest_28 (by decide) ?_
    have j28_h5 : 0 ≤ a7.toInt := h7
    have j28_h7 : 0 ≤ (a5 - a5 / a7 * a7).toInt := (by rw [zr]; exact zm)
    have j28_h57 : 0 < a7.toInt ∨ 0 < (a5 - a5 / a7 * a7).toInt := Or.inl (by omega)
    have j28_m : (a5 - a5 / a7 * a7).toInt.toNat < N6 := by
      rw [zr]; omega
    exact hK6 a0 a2 a4 a7 (a5 - a5 / a7 * a7) j28_h5 j28_h7 j28_h57 j28_m  (lv_sub hl [3, 4, 5, 1, 0] rfl) hT
def g_X12_lowest_6  : Nat → Int64 → Int64 → Int32 → Int64 → Int64 → Int64
  | 0 => fun a0 a2 a4 a5 a7 => 0
  | n + 1 => fun a0 a2 a4 a5 a7 => f_X12_lowest_6  (g_X12_lowest_6  n) a0 a2 a4 a5 a7
theorem l_X12_lowest_6  {p : Program} {l : Launch} {e : Env} {s : State} {m : MethodId} {args : Array Value} {below : List Frame} {meth : Method} {c : Code}  {tgt : Int64}  (C0 : BC p s m args meth c cX12_lowest RX12 11 (some .long))  : ∀ (n : Nat) (a0 : Int64) (a2 : Int64) (a4 : Int32) (a5 : Int64) (a7 : Int64), (0 ≤ a5.toInt) → (0 ≤ a7.toInt) → (0 < a5.toInt ∨ 0 < a7.toInt) → a7.toInt.toNat < n →  ∀ {ls : Array Slot}, lv_has ls 11 [(0, .long (a0)), (2, .long (a2)), (4, .int (a4)), (5, .long (a5)), (7, .long (a7))] → g_X12_lowest_6  n a0 a2 a4 a5 a7 = tgt → W p l e { frames := 0, cells := 0, slots := 0, locals := 0 } s m args below meth c s.heap [] 0 0 (QPL below args s tgt) (F0 m 6 ls []) := by
  intro n
  induction n with
  | zero => intro a0 a2 a4 a5 a7 h5 h7 h57 hm; exact absurd hm (Nat.not_lt_zero _)
  | succ n ih =>
    intro a0 a2 a4 a5 a7 h5 h7 h57 hm   ls hl hT
    exact b_X12_lowest_6  (K6 := g_X12_lowest_6  n) (N6 := n) C0  (fun a0 a2 a4 a5 a7 h5 h7 h57 hm2 => ih a0 a2 a4 a5 a7 h5 h7 h57 hm2) h5 h7 h57 hm  hl hT
def f_X12_lowest (a0 : Int64) (a2 : Int64) (a4 : Int32) : Int64 := (g_X12_lowest_6  (a2.toInt.toNat + 1) a0 a2 a4 a0 a2)
set_option maxHeartbeats 600000 in
set_option maxRecDepth 100000 in
theorem k_X12_lowest (l : Launch)  (a0 : Int64) (a2 : Int64) (a4 : Int32) (h0 : 0 ≤ a0.toInt) (h2 : 0 < a2.toInt) : PL l yX12_lowest (wsF yX12_lowest cX12_lowest 11 (some .long)) { frames := 0, cells := 0, slots := 0, locals := 0 } [.long (a0), .long (a2), .int (a4)] (fun _ => True) (f_X12_lowest a0 a2 a4) := by
  refine start_PL (by decide) (Nat.le_of_ble_eq_true rfl) ?_
  intro p e s m args below meth c C0 hG ls hl
  obtain ⟨hx, hb, hr, hml, hown, hts, hlocks⟩ := id C0
  have hl : lv_has ls 11 [(0, .long (a0)), (2, .long (a2)), (4, .int (a4))] := hl
  generalize hT : (f_X12_lowest a0 a2 a4) = tgt
  unfold f_X12_lowest at hT
  refine lv_lload_n hx hb dX12_lowest_0 rfl (lv_at hl 0 rfl) ?_
  refine lv_lstore (lv' := [(5, .long (a0)), (0, .long (a0)), (2, .long (a2)), (4, .int (a4))]) hx hb dX12_lowest_1 hl (by decide) rfl (fun ls hl => ?_)
  refine lv_lload_n hx hb dX12_lowest_3 rfl (lv_at hl 2 rfl) ?_
  refine lv_lstore (lv' := [(7, .long (a2)), (5, .long (a0)), (0, .long (a0)), (2, .long (a2)), (4, .int (a4))]) hx hb dX12_lowest_4 hl (by decide) rfl (fun ls hl => ?_)
  have j4_h5 : 0 ≤ a0.toInt := h0
  have j4_h7 : 0 ≤ a2.toInt := (by omega)
  have j4_h57 : 0 < a0.toInt ∨ 0 < a2.toInt := Or.inr h2
  have j4_m : a2.toInt.toNat < a2.toInt.toNat + 1 := by
    omega
  exact l_X12_lowest_6  C0   (a2.toInt.toNat + 1) a0 a2 a4 a0 a2 j4_h5 j4_h7 j4_h57 j4_m  (lv_sub hl [2, 3, 4, 1, 0] rfl) hT
