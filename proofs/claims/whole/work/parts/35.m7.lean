
theorem to_rng {σ : St} (hI : IB (σ 1)) {k d : Int32} {K : Nat} (hk : k.toInt = K) (hK : K ≤ 900) (hd : 0 ≤ d.toInt ∧ d.toInt ≤ 99) (hr : ∀ i, i < 5 → 0 ≤ (σ 1 (K + i)).toInt ∧ (σ 1 (K + i)).toInt ≤ 99) : 0 ≤ (f_X12_tellsOf σ k d).toInt ∧ (f_X12_tellsOf σ k d).toInt ≤ 99 := by
  unfold f_X12_tellsOf
  obtain ⟨-, -, i2, -, -, -, -, i7, -⟩ := id hI
  split
  · exact hd
  · rename_i c
    have e1 : (-1 : Int32).toInt = -1 := rfl
    have c2 : ¬ (σ 1 7).toInt = -1 := fun h => c (ti_eq.mpr (by rw [h, e1]))
    have q := ti_add (a := k) (b := σ 1 7) (by omega) (by omega)
    have e : ix (k + σ 1 7) = K + (σ 1 7).toInt.toNat := by
      show (k + σ 1 7).toInt.toNat = _
      omega
    rw [e]
    exact hr _ (by omega)
theorem co_ge {σ : St} (hI : IB (σ 1)) {a1 a2 : Int32} (h1 : 0 ≤ a1.toInt) (h1b : a1.toInt < 6) (h2 : a2.toInt ≤ 999) : ∀ (n : Nat) (a3 a4 : Int32), 0 ≤ a4.toInt → a4.toInt ≤ 1000 → 0 ≤ a3.toInt → a3.toInt ≤ 98901 * a4.toInt → 0 ≤ (g_X12_costOf_13 n σ a1 a2 a3 a4).toInt := by
  intro n
  induction n with
  | zero => intro a3 a4 _ _ _ _; exact Int.le_refl 0
  | succ n ih =>
    intro a3 a4 h4 h4b h3 h3b
    show 0 ≤ (f_X12_costOf_13 (g_X12_costOf_13 n) σ a1 a2 a3 a4).toInt
    unfold f_X12_costOf_13
    obtain ⟨w1, w2, w3⟩ := IB_w hI h1 h1b
    obtain ⟨-, -, -, -, -, -, -, -, -, -, -, -, -, -, -, -, -, -, -, iA, iB, -⟩ := id hI
    split
    · exact h3
    · rename_i c
      have c := mt ti_lt.mpr c
      have e1 : (1 : Int32).toInt = 1 := rfl
      have q := ti_add (a := a4) (b := 1) (by omega) (by omega)
      have t6 := to_rng (d := 1) hI (k := 206) (K := 206) rfl (by decide) ⟨by decide, by decide⟩ iB
      have t1 := to_rng (d := 40) hI (k := 201) (K := 201) rfl (by decide) ⟨by decide, by decide⟩ iA
      have key : 0 ≤ (if a4 ≤ a2 then ((f_X12_tellsOf σ (206 : Int32) (1 : Int32)) * (a2 - a4)) else (f_X12_tellsOf σ (201 : Int32) (40 : Int32))).toInt ∧ (if a4 ≤ a2 then ((f_X12_tellsOf σ (206 : Int32) (1 : Int32)) * (a2 - a4)) else (f_X12_tellsOf σ (201 : Int32) (40 : Int32))).toInt ≤ 98901 := by
        split
        · rename_i c4
          have c4 := ti_le.mp c4
          have qs := ti_sub (a := a2) (b := a4) (by omega) (by omega)
          have m0 : 0 ≤ (f_X12_tellsOf σ 206 1).toInt * (a2 - a4).toInt := Int.mul_nonneg t6.1 (by omega)
          have m1 : (f_X12_tellsOf σ 206 1).toInt * (a2 - a4).toInt ≤ 99 * 999 := Int.mul_le_mul t6.2 (by omega) (by omega) (by decide)
          have qm := ti_mul (a := f_X12_tellsOf σ 206 1) (b := a2 - a4) (by omega) (by omega)
          omega
        · omega
      generalize (if a4 ≤ a2 then ((f_X12_tellsOf σ (206 : Int32) (1 : Int32)) * (a2 - a4)) else (f_X12_tellsOf σ (201 : Int32) (40 : Int32))) = z at key ⊢
      have q3 := ti_add (a := a3) (b := z) (by omega) (by omega)
      exact ih _ _ (by omega) (by omega) (by omega) (by omega)
theorem bc_ge {a1 : Int32} (h1 : 0 ≤ a1.toInt) (h1b : a1.toInt < 6) : ∀ (n : Nat) (σ : St) (a2 a3 : Int32), IB (σ 1) → 0 ≤ (σ 20 0).toInt → 0 ≤ ((g_X12_bestCut_26 n σ a1 a2 a3).2 20 0).toInt ∧ (g_X12_bestCut_26 n σ a1 a2 a3).2 1 = σ 1 := by
  intro n
  induction n with
  | zero => intro σ a2 a3 _ h; exact ⟨h, rfl⟩
  | succ n ih =>
    intro σ a2 a3 hI h
    show 0 ≤ ((f_X12_bestCut_26 (g_X12_bestCut_26 n) σ a1 a2 a3).2 20 0).toInt ∧ (f_X12_bestCut_26 (g_X12_bestCut_26 n) σ a1 a2 a3).2 1 = σ 1
    unfold f_X12_bestCut_26
    split
    · exact ⟨h, rfl⟩
    · rename_i c
      have c := mt ti_lt.mpr c
      split
      · exact ⟨h, rfl⟩
      · obtain ⟨w1, w2, w3⟩ := IB_w hI h1 h1b
        have hc : 0 ≤ (f_X12_costOf σ a1 a3).toInt := co_ge hI h1 h1b (by omega) _ _ _ w1 (by omega) (by decide) (by have e0 : (0 : Int32).toInt = 0 := rfl; omega)
        refine ih _ _ _ hI ?_
        show 0 ≤ (if σ 20 0 ≤ f_X12_costOf σ a1 a3 then σ 20 0 else f_X12_costOf σ a1 a3).toInt
        split
        · exact h
        · exact hc
theorem bc_ok {σ : St} (hI : IB (σ 1)) {a1 : Int32} (h1 : 0 ≤ a1.toInt) (h1b : a1.toInt < 6) : 0 ≤ ((f_X12_bestCut σ a1).2 20 0).toInt ∧ (f_X12_bestCut σ a1).2 1 = σ 1 :=
  bc_ge h1 h1b _ _ _ _ hI (by show 0 ≤ (100000000 : Int32).toInt; decide)
theorem bc_1g : ∀ (n : Nat) (σ : St) (a1 a2 a3 : Int32), (g_X12_bestCut_26 n σ a1 a2 a3).2 1 = σ 1 := by
  intro n
  induction n with
  | zero => intro σ a1 a2 a3; rfl
  | succ n ih =>
    intro σ a1 a2 a3
    show (f_X12_bestCut_26 (g_X12_bestCut_26 n) σ a1 a2 a3).2 1 = σ 1
    unfold f_X12_bestCut_26
    split
    · rfl
    · split
      · rfl
      · exact ih _ _ _ _
theorem bc_1 (σ : St) (a1 : Int32) : (f_X12_bestCut σ a1).2 1 = σ 1 := bc_1g _ _ _ _ _
/-! ThreeMeasuresModel.cost -/
theorem dX12_cost_0 : decode cX12_cost 0 = .ok (.aload_n 0, 1) := by decide +kernel
theorem dX12_cost_1 : decode cX12_cost 1 = .ok (.iload_n 1, 1) := by decide +kernel
theorem dX12_cost_2 : decode cX12_cost 2 = .ok (.invokevirtual 165, 3) := by decide +kernel
theorem dX12_cost_5 : decode cX12_cost 5 = .ok (.ifCond .eq 12, 3) := by decide +kernel
theorem dX12_cost_8 : decode cX12_cost 8 = .ok (.iload_n 2, 1) := by decide +kernel
theorem dX12_cost_9 : decode cX12_cost 9 = .ok (.iconst 0, 1) := by decide +kernel
theorem dX12_cost_10 : decode cX12_cost 10 = .ok (.iconst 1, 1) := by decide +kernel
theorem dX12_cost_11 : decode cX12_cost 11 = .ok (.invokestatic 47, 3) := by decide +kernel
theorem dX12_cost_14 : decode cX12_cost 14 = .ok (.ifCond .ne 7, 3) := by decide +kernel
theorem dX12_cost_17 : decode cX12_cost 17 = .ok (.ldc2_w 199, 3) := by decide +kernel
theorem dX12_cost_20 : decode cX12_cost 20 = .ok (.lreturn, 1) := by decide +kernel
theorem dX12_cost_21 : decode cX12_cost 21 = .ok (.aload_n 0, 1) := by decide +kernel
theorem dX12_cost_22 : decode cX12_cost 22 = .ok (.iload_n 1, 1) := by decide +kernel
theorem dX12_cost_23 : decode cX12_cost 23 = .ok (.invokevirtual 196, 3) := by decide +kernel
theorem dX12_cost_26 : decode cX12_cost 26 = .ok (.pop, 1) := by decide +kernel
theorem dX12_cost_27 : decode cX12_cost 27 = .ok (.aload_n 0, 1) := by decide +kernel
theorem dX12_cost_28 : decode cX12_cost 28 = .ok (.getfield 190, 3) := by decide +kernel
theorem dX12_cost_31 : decode cX12_cost 31 = .ok (.i2l, 1) := by decide +kernel
theorem dX12_cost_32 : decode cX12_cost 32 = .ok (.aload_n 0, 1) := by decide +kernel
theorem dX12_cost_33 : decode cX12_cost 33 = .ok (.iload_n 1, 1) := by decide +kernel
theorem dX12_cost_34 : decode cX12_cost 34 = .ok (.invokevirtual 168, 3) := by decide +kernel
theorem dX12_cost_37 : decode cX12_cost 37 = .ok (.iconst 1, 1) := by decide +kernel
theorem dX12_cost_38 : decode cX12_cost 38 = .ok (.iadd, 1) := by decide +kernel
theorem dX12_cost_39 : decode cX12_cost 39 = .ok (.i2l, 1) := by decide +kernel
theorem dX12_cost_40 : decode cX12_cost 40 = .ok (.iload_n 2, 1) := by decide +kernel
theorem dX12_cost_41 : decode cX12_cost 41 = .ok (.invokestatic 201, 3) := by decide +kernel
theorem dX12_cost_44 : decode cX12_cost 44 = .ok (.lreturn, 1) := by decide +kernel
def f_X12_cost (σ : St) (a1 : Int32) (a2 : Int32) : Int64 × St := (if (f_X12_isWall σ a1) = 0 then ((-9223372036854775808 : Int64), σ) else (if (f_X12_in a2 (0 : Int32) (1 : Int32)) = 0 then ((-9223372036854775808 : Int64), σ) else (bd (f_X12_bestCut σ a1) (fun r23 u23 => ((f_X12_lowest ((u23 20 0).toInt64) (((f_X12_gapOf u23 a1) + (1 : Int32)).toInt64) a2), u23)))))
set_option maxHeartbeats 600000 in
set_option maxRecDepth 100000 in
theorem k_X12_cost (l : Launch) (g : GG) (σ : St) (a1 : Int32) (a2 : Int32) (hI : IB (σ 1)) : ML l yX12_cost (wsF yX12_cost cX12_cost 3 (some .long)) { frames := 3, cells := 0, slots := 0, locals := 70 } [.ref (g.2.2 100), .int (a1), .int (a2)] g (mW g) (fun _ => True) σ (f_X12_cost σ a1 a2) := by
  refine start_ML (by decide) (Nat.le_of_ble_eq_true rfl) ?_
  intro p e s m args below meth c C0 hK hB hC ls hl
  generalize hAe : aA ((mW g) σ) = A at hC ⊢
  obtain ⟨hx, hb, hr, hml, hown, hts, hlocks⟩ := id C0
  have hl : lv_has ls 3 [(0, .ref (g.2.2 100)), (1, .int (a1)), (2, .int (a2))] := hl
  generalize hT : (f_X12_cost σ a1 a2) = tgt
  suffices key : ∀ (H : Heap) (locs : List Loc), WC g (mW g) A s.heap σ H locs → W p l e { frames := 3, cells := 0, slots := 0, locals := 70 } s m args below meth c H locs 0 0 (QML below args s g (mW g) A tgt) (F0 m 0 ls []) from key _ _ hC
  intro H locs hC
  unfold f_X12_cost at hT
  obtain ⟨⟨i0, i0'⟩, ⟨i1, i1'⟩, ⟨i2, i2'⟩, ⟨i3, i3'⟩, ⟨i4, i4'⟩, ⟨i5, i5'⟩, ⟨i6, i6'⟩, ⟨i7, i7'⟩, ⟨i8, i8'⟩, iK, iV, iL, iR, iW, iY, iG, iM, iB, iQ, iP, iT, iU⟩ := id hI
  refine lv_aload_n hx hb dX12_cost_0 rfl (lv_at hl 0 rfl) ?_
  refine lv_iload_n hx hb dX12_cost_1 rfl (lv_at hl 1 rfl) ?_
  refine m_ci (rest := []) (As := [.int (a1)]) (σ := σ) C0 hK hC.1 (hC.2.1.weaken (fun _ _ _ _ => trivial)) SV.tt (fun _ _ _ => trivial) cf_X12_isWall w_1147 rfl (k_X12_isWall l g σ a1 ) ⟨by decide, by decide⟩ hl.1 rfl rfl (Nat.le_of_ble_eq_true rfl) dX12_cost_2 ⟨Nat.zero_le _, Nat.zero_le _⟩ ?_
  refine lv_if_eq (tgt := 17) hx hb dX12_cost_5 (by decide) (fun c_5 => ?_) (fun c_5 => ?_)
  · have hT := hT_pos c_5 hT
    refine lv_ldc2 (v := (-9223372036854775808 : Int64)) hx hb C0.2.2.2.2.1 (C0.2.2.2.2.2.1 _ w_1251) dX12_cost_17 ?_
    exact ret_ML C0 hC hT dX12_cost_20
  · have hT := hT_neg c_5 hT
    refine lv_iload_n hx hb dX12_cost_8 rfl (lv_at hl 2 rfl) ?_
    refine lv_iconst (v := (0 : Int32)) hx hb dX12_cost_9 (by decide) ?_
    refine lv_iconst (v := (1 : Int32)) hx hb dX12_cost_10 (by decide) ?_
    refine s_ci (rest := []) (As := [.int (a2), .int ((0 : Int32)), .int ((1 : Int32))]) C0 cf_X12_in w_1060 (k_X12_in l a2 (0 : Int32) (1 : Int32) ) ⟨by decide, by decide⟩ hl.1 rfl rfl (Nat.le_of_ble_eq_true rfl) dX12_cost_11 ⟨Nat.zero_le _, Nat.zero_le _⟩ ?_
    refine lv_if_ne (tgt := 21) hx hb dX12_cost_14 (by decide) (fun c_14 => ?_) (fun c_14 => ?_)
    · have hT := hT_neg c_14 hT
      refine lv_aload_n hx hb dX12_cost_21 rfl (lv_at hl 0 rfl) ?_
      refine lv_iload_n hx hb dX12_cost_22 rfl (lv_at hl 1 rfl) ?_
      have q23_h1 : 0 ≤ a1.toInt := by
        have : ((0 : Int32)).toInt = 0 := by decide
        have : ((1 : Int32)).toInt = 1 := by decide
        have := isWall_ne hI.2.1.1 c_5
        have := in_ne c_14
        omega
      have q23_h1b : a1.toInt < 6 := by
        have : ((0 : Int32)).toInt = 0 := by decide
        have : ((1 : Int32)).toInt = 1 := by decide
        have := isWall_ne hI.2.1.1 c_5
        have := in_ne c_14
        omega
      refine m_mi (rest := []) (As := [.int (a1)]) (σ := σ) C0 hK hC SV.tt (fun _ _ _ => trivial) cf_X12_bestCut w_1238 rfl (k_X12_bestCut l g σ a1 hI q23_h1 q23_h1b) ⟨by decide, by decide⟩ hl.1 rfl rfl (Nat.le_of_ble_eq_true rfl) dX12_cost_23 ⟨Nat.zero_le _, Nat.zero_le _⟩ (fun r23 u23 H locs e23 hC => ?_)
      have hT := bd_e e23 hT
      have z23 : u23 1 = σ 1 := by
        rw [show u23 = _ from congrArg Prod.snd e23]
        exact bc_1 _ _
      have hbc : 0 ≤ (u23 20 0).toInt := by rw [show u23 = _ from congrArg Prod.snd e23]; exact (bc_ok hI q23_h1 q23_h1b).1
      obtain ⟨z1, z2⟩ := isWall_ne hI.2.1.1 c_5
      refine lv_pop hx hb dX12_cost_26 rfl ?_
      refine lv_aload_n hx hb dX12_cost_27 rfl (lv_at hl 0 rfl) ?_
      refine m_get (σ := u23) (v := .int ((u23 20 0))) C0 hK hC.1 20 (by decide) rfl w_987 dX12_cost_28 ?_
      refine lv_i2l (v := ((u23 20 0).toInt64)) hx hb dX12_cost_31 rfl ?_
      refine lv_aload_n hx hb dX12_cost_32 rfl (lv_at hl 0 rfl) ?_
      refine lv_iload_n hx hb dX12_cost_33 rfl (lv_at hl 1 rfl) ?_
      have q34_h1 : 0 ≤ a1.toInt := by
        have : ((0 : Int32)).toInt = 0 := by decide
        have : ((1 : Int32)).toInt = 1 := by decide
        have := isWall_ne hI.2.1.1 c_5
        have := in_ne c_14
        omega
      have q34_h2 : a1.toInt ≤ 6 := by
        have : ((0 : Int32)).toInt = 0 := by decide
        have : ((1 : Int32)).toInt = 1 := by decide
        have := isWall_ne hI.2.1.1 c_5
        have := in_ne c_14
        omega
      refine m_ci (rest := [.long (((u23 20 0).toInt64))]) (As := [.int (a1)]) (σ := u23) C0 hK hC.1 (hC.2.1.weaken (fun _ _ _ _ => trivial)) SV.tt (fun _ _ _ => trivial) cf_X12_gapOf w_1151 rfl (k_X12_gapOf l g u23 a1 q34_h1 q34_h2) ⟨by decide, by decide⟩ hl.1 rfl rfl (Nat.le_of_ble_eq_true rfl) dX12_cost_34 ⟨Nat.zero_le _, Nat.zero_le _⟩ ?_
      refine lv_iconst (v := (1 : Int32)) hx hb dX12_cost_37 (by decide) ?_
      refine lv_iadd hx hb dX12_cost_38 ?_
      refine lv_i2l (v := (((f_X12_gapOf u23 a1) + (1 : Int32)).toInt64)) hx hb dX12_cost_39 rfl ?_
      refine lv_iload_n hx hb dX12_cost_40 rfl (lv_at hl 2 rfl) ?_
      have q41_h0 : 0 ≤ ((u23 20 0).toInt64).toInt := (by rw [i2l_toInt]; exact hbc)
      have q41_h2 : 0 < (((f_X12_gapOf u23 a1) + (1 : Int32)).toInt64).toInt := (by rw [i2l_toInt]; exact (gap_pos (σ := u23) (by rw [z23]; exact hI) q23_h1 q23_h1b).2.2.1)
      refine s_cl (rest := []) (As := [.long (((u23 20 0).toInt64)), .long ((((f_X12_gapOf u23 a1) + (1 : Int32)).toInt64)), .int (a2)]) C0 cf_X12_lowest w_1252 (k_X12_lowest l ((u23 20 0).toInt64) (((f_X12_gapOf u23 a1) + (1 : Int32)).toInt64) a2 q41_h0 q41_h2) ⟨by decide, by decide⟩ hl.1 rfl rfl (Nat.le_of_ble_eq_true rfl) dX12_cost_41 ⟨Nat.zero_le _, Nat.zero_le _⟩ ?_
      exact ret_ML C0 hC hT dX12_cost_44
    · have hT := hT_pos c_14 hT
      refine lv_ldc2 (v := (-9223372036854775808 : Int64)) hx hb C0.2.2.2.2.1 (C0.2.2.2.2.2.1 _ w_1251) dX12_cost_17 ?_
      exact ret_ML C0 hC hT dX12_cost_20
