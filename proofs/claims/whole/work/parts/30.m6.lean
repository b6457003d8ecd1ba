
theorem nf_of {x : Int32} (h : x = 0 ∨ x = 1) : fits .boolean (.int x) = true := by rcases h with rfl | rfl <;> rfl
set_option maxRecDepth 20000 in
theorem w_972 : (Cond.fieldLink RX12 51 RX12 "spot" "I") ∈ TB := inTB (List.mem_of_getElem? (i := 972) (by decide +kernel)) (by decide +kernel)
set_option maxRecDepth 20000 in
theorem w_973 : (Cond.fieldLink RX12 54 RX12 "end" "I") ∈ TB := inTB (List.mem_of_getElem? (i := 973) (by decide +kernel)) (by decide +kernel)
/-! ThreeMeasuresModel.here -/
theorem dX12_here_0 : decode cX12_here 0 = .ok (.aload_n 0, 1) := by decide +kernel
theorem dX12_here_1 : decode cX12_here 1 = .ok (.getfield 51, 3) := by decide +kernel
theorem dX12_here_4 : decode cX12_here 4 = .ok (.aload_n 0, 1) := by decide +kernel
theorem dX12_here_5 : decode cX12_here 5 = .ok (.getfield 54, 3) := by decide +kernel
theorem dX12_here_8 : decode cX12_here 8 = .ok (.if_icmp .ge 18, 3) := by decide +kernel
theorem dX12_here_11 : decode cX12_here 11 = .ok (.aload_n 0, 1) := by decide +kernel
theorem dX12_here_12 : decode cX12_here 12 = .ok (.getfield 9, 3) := by decide +kernel
theorem dX12_here_15 : decode cX12_here 15 = .ok (.bipush 101, 2) := by decide +kernel
theorem dX12_here_17 : decode cX12_here 17 = .ok (.aload_n 0, 1) := by decide +kernel
theorem dX12_here_18 : decode cX12_here 18 = .ok (.getfield 51, 3) := by decide +kernel
theorem dX12_here_21 : decode cX12_here 21 = .ok (.iadd, 1) := by decide +kernel
theorem dX12_here_22 : decode cX12_here 22 = .ok (.iaload, 1) := by decide +kernel
theorem dX12_here_23 : decode cX12_here 23 = .ok (.goto 4, 3) := by decide +kernel
theorem dX12_here_26 : decode cX12_here 26 = .ok (.iconst (-1), 1) := by decide +kernel
theorem dX12_here_27 : decode cX12_here 27 = .ok (.ireturn, 1) := by decide +kernel
def f_X12_here (σ : St) : Int32 := (if (σ 6 0) ≤ (σ 5 0) then (-1 : Int32) else (σ 1 (ix ((101 : Int32) + (σ 5 0)))))
set_option maxHeartbeats 600000 in
set_option maxRecDepth 100000 in
theorem k_X12_here (l : Launch) (g : GG) (σ : St) (p5 : 0 ≤ (σ 5 0).toInt) (p56 : (σ 5 0).toInt ≤ (σ 6 0).toInt) (p6 : (σ 6 0).toInt ≤ 100) : PI l yX12_here (wsF yX12_here cX12_here 1 (some .int)) { frames := 0, cells := 0, slots := 0, locals := 0 } [.ref (g.2.2 100)] (GB g (mW g) (fun _ => True) σ) (f_X12_here σ) := by
  refine start_PI (by decide) (Nat.le_of_ble_eq_true rfl) ?_
  intro p e s m args below meth c C0 hG ls hl
  obtain ⟨hK, hP, hDD, hB⟩ := hG
  obtain ⟨hx, hb, hr, hml, hown, hts, hlocks⟩ := id C0
  have hl : lv_has ls 1 [(0, .ref (g.2.2 100))] := hl
  generalize hT : (f_X12_here σ) = tgt
  unfold f_X12_here at hT
  refine lv_aload_n hx hb dX12_here_0 rfl (lv_at hl 0 rfl) ?_
  refine m_get (σ := σ) (v := .int ((σ 5 0))) C0 hK hP 5 (by decide) rfl w_972 dX12_here_1 ?_
  refine lv_aload_n hx hb dX12_here_4 rfl (lv_at hl 0 rfl) ?_
  refine m_get (σ := σ) (v := .int ((σ 6 0))) C0 hK hP 6 (by decide) rfl w_973 dX12_here_5 ?_
  have J8 : ∀ v : Int32, v = (if (σ 6 0) ≤ (σ 5 0) then (-1 : Int32) else (σ 1 (ix ((101 : Int32) + (σ 5 0))))) → W p l e { frames := 0, cells := 0, slots := 0, locals := 0 } s m args below meth c s.heap [] 0 0 (QPI below args s tgt) (F0 m 27 ls [.int (v)]) := by
    intro v ev
    subst ev
    exact ret_PI C0 hT dX12_here_27
  refine lv_icmp_ge (tgt := 26) hx hb dX12_here_8 (by decide) (fun c_8 => ?_) (fun c_8 => ?_)
  · refine lv_iconst (v := (-1 : Int32)) hx hb dX12_here_26 (by decide) ?_
    exact J8 _ (iv_pos c_8 rfl)
  · refine lv_aload_n hx hb dX12_here_11 rfl (lv_at hl 0 rfl) ?_
    refine m_get (σ := σ) (v := .ref (g.2.2 1)) C0 hK hP 1 (by decide) rfl w_968 dX12_here_12 ?_
    refine lv_bipush (v := (101 : Int32)) hx hb dX12_here_15 (by decide) ?_
    refine lv_aload_n hx hb dX12_here_17 rfl (lv_at hl 0 rfl) ?_
    refine m_get (σ := σ) (v := .int ((σ 5 0))) C0 hK hP 5 (by decide) rfl w_972 dX12_here_18 ?_
    refine lv_iadd hx hb dX12_here_21 ?_
    have o_22 : vp_in ((101 : Int32) + (σ 5 0)) 916 := by
      have : ((101 : Int32)).toInt = 101 := by decide
      have := mt ti_le.mpr c_8
      try have := ti_add (a := (101 : Int32)) (b := (σ 5 0)) (by omega) (by omega)
      exact vin (by omega) (by omega)
    refine m_ald (σ := σ) C0 hK hP 1 1 916 rfl o_22 (ix ((101 : Int32) + (σ 5 0))) rfl dX12_here_22 ?_
    refine lv_goto (tgt := 27) hx hb dX12_here_23 (by decide) ?_
    exact J8 _ (iv_neg c_8 rfl)
theorem he_lt {σ : St} (h : 0 ≤ (f_X12_here σ).toInt) : (σ 5 0).toInt < (σ 6 0).toInt := by
  unfold f_X12_here at h
  split at h
  · exact absurd h (by decide)
  · rename_i c
    have c := mt ti_le.mpr c
    omega
set_option maxRecDepth 20000 in
theorem w_974 : (Cond.fieldLink RX12 57 RX12 "isWrong" "Z") ∈ TB := inTB (List.mem_of_getElem? (i := 974) (by decide +kernel)) (by decide +kernel)
set_option maxRecDepth 20000 in
theorem w_1071 : (Cond.methodLink RX12 61 yX12_here) ∈ TB := inTB (List.mem_of_getElem? (i := 1071) (by decide +kernel)) (by decide +kernel)
set_option maxRecDepth 20000 in
theorem w_1074 : (Cond.code yX12_here cX12_here 1 (some .int)) ∈ TB := inTB (List.mem_of_getElem? (i := 1074) (by decide +kernel)) (by decide +kernel)
set_option maxRecDepth 20000 in
theorem w_1073 : (Cond.instanceMethod yX12_here) ∈ TB := inTB (List.mem_of_getElem? (i := 1073) (by decide +kernel)) (by decide +kernel)
set_option maxRecDepth 20000 in
theorem w_38 : (Cond.selects RX12 yX12_here yX12_here) ∈ TB := inTB (List.mem_of_getElem? (i := 38) (by decide +kernel)) (by decide +kernel)
theorem cf_X12_here : CF yX12_here cX12_here 1 (some .int) 0 := ⟨w_1073, w_38, w_75, w_1074, by decide +kernel, by decide +kernel, by decide +kernel⟩
/-! ThreeMeasuresModel.must -/
theorem dX12_must_0 : decode cX12_must 0 = .ok (.aload_n 0, 1) := by decide +kernel
theorem dX12_must_1 : decode cX12_must 1 = .ok (.aload_n 0, 1) := by decide +kernel
theorem dX12_must_2 : decode cX12_must 2 = .ok (.getfield 57, 3) := by decide +kernel
theorem dX12_must_5 : decode cX12_must 5 = .ok (.ifCond .ne 11, 3) := by decide +kernel
theorem dX12_must_8 : decode cX12_must 8 = .ok (.aload_n 0, 1) := by decide +kernel
theorem dX12_must_9 : decode cX12_must 9 = .ok (.invokevirtual 61, 3) := by decide +kernel
theorem dX12_must_12 : decode cX12_must 12 = .ok (.iload_n 1, 1) := by decide +kernel
theorem dX12_must_13 : decode cX12_must 13 = .ok (.if_icmp .eq 7, 3) := by decide +kernel
theorem dX12_must_16 : decode cX12_must 16 = .ok (.iconst 1, 1) := by decide +kernel
theorem dX12_must_17 : decode cX12_must 17 = .ok (.goto 4, 3) := by decide +kernel
theorem dX12_must_20 : decode cX12_must 20 = .ok (.iconst 0, 1) := by decide +kernel
theorem dX12_must_21 : decode cX12_must 21 = .ok (.putfield 57, 3) := by decide +kernel
theorem dX12_must_24 : decode cX12_must 24 = .ok (.aload_n 0, 1) := by decide +kernel
theorem dX12_must_25 : decode cX12_must 25 = .ok (.dup, 1) := by decide +kernel
theorem dX12_must_26 : decode cX12_must 26 = .ok (.getfield 51, 3) := by decide +kernel
theorem dX12_must_29 : decode cX12_must 29 = .ok (.aload_n 0, 1) := by decide +kernel
theorem dX12_must_30 : decode cX12_must 30 = .ok (.getfield 57, 3) := by decide +kernel
theorem dX12_must_33 : decode cX12_must 33 = .ok (.ifCond .eq 7, 3) := by decide +kernel
theorem dX12_must_36 : decode cX12_must 36 = .ok (.iconst 0, 1) := by decide +kernel
theorem dX12_must_37 : decode cX12_must 37 = .ok (.goto 4, 3) := by decide +kernel
theorem dX12_must_40 : decode cX12_must 40 = .ok (.iconst 1, 1) := by decide +kernel
theorem dX12_must_41 : decode cX12_must 41 = .ok (.iadd, 1) := by decide +kernel
theorem dX12_must_42 : decode cX12_must 42 = .ok (.putfield 51, 3) := by decide +kernel
theorem dX12_must_45 : decode cX12_must 45 = .ok (.return_, 1) := by decide +kernel
def f_X12_must (σ : St) (a1 : Int32) : St := (up2 (up2 σ 7 0 (if (σ 7 0) = 0 then (if (f_X12_here σ ) = a1 then (0 : Int32) else (1 : Int32)) else (1 : Int32))) 5 0 ((σ 5 0) + (if (if (σ 7 0) = 0 then (if (f_X12_here σ ) = a1 then (0 : Int32) else (1 : Int32)) else (1 : Int32)) = 0 then (1 : Int32) else (0 : Int32))))
set_option maxHeartbeats 600000 in
set_option maxRecDepth 100000 in
theorem k_X12_must (l : Launch) (g : GG) (σ : St) (a1 : Int32) (p5 : 0 ≤ (σ 5 0).toInt) (p56 : (σ 5 0).toInt ≤ (σ 6 0).toInt) (p6 : (σ 6 0).toInt ≤ 100) : MV l yX12_must (wsF yX12_must cX12_must 2 none) { frames := 1, cells := 0, slots := 0, locals := 20 } [.ref (g.2.2 100), .int (a1)] g (mW g) (fun _ => True) σ (f_X12_must σ a1) := by
  refine start_MV (by decide) (Nat.le_of_ble_eq_true rfl) ?_
  intro p e s m args below meth c C0 hK hB hC ls hl
  generalize hAe : aA ((mW g) σ) = A at hC ⊢
  obtain ⟨hx, hb, hr, hml, hown, hts, hlocks⟩ := id C0
  have hl : lv_has ls 2 [(0, .ref (g.2.2 100)), (1, .int (a1))] := hl
  generalize hT : (f_X12_must σ a1) = tgt
  suffices key : ∀ (H : Heap) (locs : List Loc), WC g (mW g) A s.heap σ H locs → W p l e { frames := 1, cells := 0, slots := 0, locals := 20 } s m args below meth c H locs 0 0 (QMV below args s g (mW g) A tgt) (F0 m 0 ls []) from key _ _ hC
  intro H locs hC
  unfold f_X12_must at hT
  refine lv_aload_n hx hb dX12_must_0 rfl (lv_at hl 0 rfl) ?_
  refine lv_aload_n hx hb dX12_must_1 rfl (lv_at hl 0 rfl) ?_
  refine m_get (σ := σ) (v := .int ((σ 7 0))) C0 hK hC.1 7 (by decide) rfl w_974 dX12_must_2 ?_
  have J5 : ∀ v : Int32, v = (if (σ 7 0) = 0 then (if (f_X12_here σ ) = a1 then (0 : Int32) else (1 : Int32)) else (1 : Int32)) → W p l e { frames := 1, cells := 0, slots := 0, locals := 20 } s m args below meth c H locs 0 0 (QMV below args s g (mW g) A tgt) (F0 m 21 ls [.int (v), .ref (g.2.2 100)]) := by
    intro v ev
    subst ev
    refine m_put (σ := σ) (ty := .boolean) C0 hK hC 7 (by decide) rfl rfl (nz_of (by (repeat' split) <;> simp)) (nf_of (by (repeat' split) <;> simp)) (ms_7 g _ _) w_974 dX12_must_21 (fun H locs hC => ?_)
    refine lv_aload_n hx hb dX12_must_24 rfl (lv_at hl 0 rfl) ?_
    refine lv_dup hx hb dX12_must_25 rfl ?_
    refine m_get (σ := (up2 σ 7 0 (if (σ 7 0) = 0 then (if (f_X12_here σ ) = a1 then (0 : Int32) else (1 : Int32)) else (1 : Int32)))) (v := .int ((σ 5 0))) C0 hK hC.1 5 (by decide) rfl w_972 dX12_must_26 ?_
    refine lv_aload_n hx hb dX12_must_29 rfl (lv_at hl 0 rfl) ?_
    refine m_get (σ := (up2 σ 7 0 (if (σ 7 0) = 0 then (if (f_X12_here σ ) = a1 then (0 : Int32) else (1 : Int32)) else (1 : Int32)))) (v := .int ((if (σ 7 0) = 0 then (if (f_X12_here σ ) = a1 then (0 : Int32) else (1 : Int32)) else (1 : Int32)))) C0 hK hC.1 7 (by decide) rfl w_974 dX12_must_30 ?_
    have J33 : ∀ v : Int32, v = (if (if (σ 7 0) = 0 then (if (f_X12_here σ ) = a1 then (0 : Int32) else (1 : Int32)) else (1 : Int32)) = 0 then (1 : Int32) else (0 : Int32)) → W p l e { frames := 1, cells := 0, slots := 0, locals := 20 } s m args below meth c H locs 0 0 (QMV below args s g (mW g) A tgt) (F0 m 41 ls [.int (v), .int ((σ 5 0)), .ref (g.2.2 100)]) := by
      intro v ev
      subst ev
      refine lv_iadd hx hb dX12_must_41 ?_
      refine m_put (σ := (up2 σ 7 0 (if (σ 7 0) = 0 then (if (f_X12_here σ ) = a1 then (0 : Int32) else (1 : Int32)) else (1 : Int32)))) (ty := .int) C0 hK hC 5 (by decide) rfl rfl rfl rfl (ms_5 g _ _) w_972 dX12_must_42 (fun H locs hC => ?_)
      exact ret_MV C0 hC hT dX12_must_45
    refine lv_if_eq (tgt := 40) hx hb dX12_must_33 (by decide) (fun c_33 => ?_) (fun c_33 => ?_)
    · refine lv_iconst (v := (1 : Int32)) hx hb dX12_must_40 (by decide) ?_
      exact J33 _ (iv_pos c_33 rfl)
    · refine lv_iconst (v := (0 : Int32)) hx hb dX12_must_36 (by decide) ?_
      refine lv_goto (tgt := 41) hx hb dX12_must_37 (by decide) ?_
      exact J33 _ (iv_neg c_33 rfl)
  refine lv_if_ne (tgt := 16) hx hb dX12_must_5 (by decide) (fun c_5 => ?_) (fun c_5 => ?_)
  · refine lv_iconst (v := (1 : Int32)) hx hb dX12_must_16 (by decide) ?_
    refine lv_goto (tgt := 21) hx hb dX12_must_17 (by decide) ?_
    exact J5 _ (iv_neg c_5 rfl)
  · refine lv_aload_n hx hb dX12_must_8 rfl (lv_at hl 0 rfl) ?_
    refine m_ci (rest := [.ref (g.2.2 100)]) (As := []) (σ := σ) C0 hK hC.1 (hC.2.1.weaken (fun _ _ _ _ => trivial)) SV.tt (fun _ _ _ => trivial) cf_X12_here w_1071 rfl (k_X12_here l g σ  p5 p56 p6) ⟨by decide, by decide⟩ hl.1 rfl rfl (Nat.le_of_ble_eq_true rfl) dX12_must_9 ⟨Nat.zero_le _, Nat.zero_le _⟩ ?_
    refine lv_iload_n hx hb dX12_must_12 rfl (lv_at hl 1 rfl) ?_
    refine lv_icmp_eq (tgt := 20) hx hb dX12_must_13 (by decide) (fun c_13 => ?_) (fun c_13 => ?_)
    · refine lv_iconst (v := (0 : Int32)) hx hb dX12_must_20 (by decide) ?_
      exact J5 _ (iv_pos c_5 (iv_pos c_13 rfl))
    · refine lv_iconst (v := (1 : Int32)) hx hb dX12_must_16 (by decide) ?_
      refine lv_goto (tgt := 21) hx hb dX12_must_17 (by decide) ?_
      exact J5 _ (iv_pos c_5 (iv_neg c_13 rfl))
/-! ThreeMeasuresModel.figures -/
theorem dX12_figures_0 : decode cX12_figures 0 = .ok (.aload_n 0, 1) := by decide +kernel
theorem dX12_figures_1 : decode cX12_figures 1 = .ok (.aload_n 0, 1) := by decide +kernel
theorem dX12_figures_2 : decode cX12_figures 2 = .ok (.getfield 57, 3) := by decide +kernel
theorem dX12_figures_5 : decode cX12_figures 5 = .ok (.ifCond .ne 17, 3) := by decide +kernel
theorem dX12_figures_8 : decode cX12_figures 8 = .ok (.aload_n 0, 1) := by decide +kernel
theorem dX12_figures_9 : decode cX12_figures 9 = .ok (.invokevirtual 61, 3) := by decide +kernel
theorem dX12_figures_12 : decode cX12_figures 12 = .ok (.bipush 48, 2) := by decide +kernel
theorem dX12_figures_14 : decode cX12_figures 14 = .ok (.bipush 57, 2) := by decide +kernel
theorem dX12_figures_16 : decode cX12_figures 16 = .ok (.invokestatic 47, 3) := by decide +kernel
theorem dX12_figures_19 : decode cX12_figures 19 = .ok (.ifCond .ne 7, 3) := by decide +kernel
theorem dX12_figures_22 : decode cX12_figures 22 = .ok (.iconst 1, 1) := by decide +kernel
theorem dX12_figures_23 : decode cX12_figures 23 = .ok (.goto 4, 3) := by decide +kernel
theorem dX12_figures_26 : decode cX12_figures 26 = .ok (.iconst 0, 1) := by decide +kernel
theorem dX12_figures_27 : decode cX12_figures 27 = .ok (.putfield 57, 3) := by decide +kernel
theorem dX12_figures_30 : decode cX12_figures 30 = .ok (.iconst 0, 1) := by decide +kernel
theorem dX12_figures_31 : decode cX12_figures 31 = .ok (.istore_n 1, 1) := by decide +kernel
theorem dX12_figures_32 : decode cX12_figures 32 = .ok (.iconst 0, 1) := by decide +kernel
theorem dX12_figures_33 : decode cX12_figures 33 = .ok (.istore_n 2, 1) := by decide +kernel
theorem dX12_figures_34 : decode cX12_figures 34 = .ok (.iload_n 2, 1) := by decide +kernel
theorem dX12_figures_35 : decode cX12_figures 35 = .ok (.iconst 2, 1) := by decide +kernel
theorem dX12_figures_36 : decode cX12_figures 36 = .ok (.if_icmp .ge 61, 3) := by decide +kernel
theorem dX12_figures_39 : decode cX12_figures 39 = .ok (.aload_n 0, 1) := by decide +kernel
theorem dX12_figures_40 : decode cX12_figures 40 = .ok (.getfield 57, 3) := by decide +kernel
theorem dX12_figures_43 : decode cX12_figures 43 = .ok (.ifCond .ne 54, 3) := by decide +kernel
theorem dX12_figures_46 : decode cX12_figures 46 = .ok (.aload_n 0, 1) := by decide +kernel
theorem dX12_figures_47 : decode cX12_figures 47 = .ok (.invokevirtual 61, 3) := by decide +kernel
theorem dX12_figures_50 : decode cX12_figures 50 = .ok (.bipush 48, 2) := by decide +kernel
theorem dX12_figures_52 : decode cX12_figures 52 = .ok (.bipush 57, 2) := by decide +kernel
theorem dX12_figures_54 : decode cX12_figures 54 = .ok (.invokestatic 47, 3) := by decide +kernel
theorem dX12_figures_57 : decode cX12_figures 57 = .ok (.ifCond .eq 40, 3) := by decide +kernel
theorem dX12_figures_60 : decode cX12_figures 60 = .ok (.iload_n 2, 1) := by decide +kernel
theorem dX12_figures_61 : decode cX12_figures 61 = .ok (.ifCond .eq 7, 3) := by decide +kernel
theorem dX12_figures_64 : decode cX12_figures 64 = .ok (.iload_n 1, 1) := by decide +kernel
theorem dX12_figures_65 : decode cX12_figures 65 = .ok (.ifCond .le 32, 3) := by decide +kernel
theorem dX12_figures_68 : decode cX12_figures 68 = .ok (.bipush 10, 2) := by decide +kernel
theorem dX12_figures_70 : decode cX12_figures 70 = .ok (.iload_n 1, 1) := by decide +kernel
theorem dX12_figures_71 : decode cX12_figures 71 = .ok (.imul, 1) := by decide +kernel
theorem dX12_figures_72 : decode cX12_figures 72 = .ok (.aload_n 0, 1) := by decide +kernel
theorem dX12_figures_73 : decode cX12_figures 73 = .ok (.invokevirtual 61, 3) := by decide +kernel
theorem dX12_figures_76 : decode cX12_figures 76 = .ok (.iadd, 1) := by decide +kernel
theorem dX12_figures_77 : decode cX12_figures 77 = .ok (.bipush 48, 2) := by decide +kernel
theorem dX12_figures_79 : decode cX12_figures 79 = .ok (.isub, 1) := by decide +kernel
theorem dX12_figures_80 : decode cX12_figures 80 = .ok (.istore_n 1, 1) := by decide +kernel
theorem dX12_figures_81 : decode cX12_figures 81 = .ok (.aload_n 0, 1) := by decide +kernel
theorem dX12_figures_82 : decode cX12_figures 82 = .ok (.dup, 1) := by decide +kernel
theorem dX12_figures_83 : decode cX12_figures 83 = .ok (.getfield 51, 3) := by decide +kernel
theorem dX12_figures_86 : decode cX12_figures 86 = .ok (.iconst 1, 1) := by decide +kernel
theorem dX12_figures_87 : decode cX12_figures 87 = .ok (.iadd, 1) := by decide +kernel
theorem dX12_figures_88 : decode cX12_figures 88 = .ok (.putfield 51, 3) := by decide +kernel
theorem dX12_figures_91 : decode cX12_figures 91 = .ok (.iinc 2 1, 3) := by decide +kernel
theorem dX12_figures_94 : decode cX12_figures 94 = .ok (.goto (-60), 3) := by decide +kernel
theorem dX12_figures_97 : decode cX12_figures 97 = .ok (.iload_n 1, 1) := by decide +kernel
theorem dX12_figures_98 : decode cX12_figures 98 = .ok (.ireturn, 1) := by decide +kernel
def f_X12_figures_68 (K34 : St → Int32 → Int32 → Int32 × St) (σ : St) (a1 : Int32) (a2 : Int32) : Int32 × St := (K34 (up2 σ 5 0 ((σ 5 0) + (1 : Int32))) ((((10 : Int32) * a1) + (f_X12_here σ )) - (48 : Int32)) (a2 + (1 : Int32)))
set_option maxHeartbeats 600000 in
set_option maxRecDepth 100000 in
theorem b_X12_figures_68 {g : GG} {p : Program} {l : Launch} {e : Env} {s : State} {m : MethodId} {args : Array Value} {below : List Frame} {meth : Method} {c : Code} {A : Nat → Prop} {tgt : Int32 × St} {K34 : St → Int32 → Int32 → Int32 × St} {N34 : Nat} (C0 : BC p s m args meth c cX12_figures RX12 3 (some .int)) (hK34 : ∀ (σ : St) (a1 : Int32) (a2 : Int32), (0 ≤ (σ 5 0).toInt) → ((σ 5 0).toInt ≤ (σ 6 0).toInt) → ((σ 6 0).toInt ≤ 100) → (0 ≤ a2.toInt) → (2 - a2.toInt).toNat < N34 → ∀ {H : Heap} {locs : List Loc}, KK g s → WC g (mW g) A s.heap σ H locs →  ∀ {ls : Array Slot}, lv_has ls 3 [(0, .ref (g.2.2 100)), (1, .int (a1)), (2, .int (a2))] → K34 σ a1 a2 = tgt → W p l e { frames := 1, cells := 0, slots := 0, locals := 22 } s m args below meth c H locs 0 0 (QMI below args s g (mW g) A tgt) (F0 m 34 ls [])) {σ : St} {a1 : Int32} {a2 : Int32} {H : Heap} {locs : List Loc} (p5 : 0 ≤ (σ 5 0).toInt) (p56 : (σ 5 0).toInt ≤ (σ 6 0).toInt) (p6 : (σ 6 0).toInt ≤ 100) (h2 : 0 ≤ a2.toInt) (h2b : a2.toInt < 2) (hl5 : (σ 5 0).toInt < (σ 6 0).toInt) (hm34 : (2 - a2.toInt).toNat < N34 + 1)  (hK : KK g s) (hC : WC g (mW g) A s.heap σ H locs) {ls : Array Slot} (hl : lv_has ls 3 [(0, .ref (g.2.2 100)), (1, .int (a1)), (2, .int (a2))]) (hT : f_X12_figures_68 K34 σ a1 a2 = tgt) : W p l e { frames := 1, cells := 0, slots := 0, locals := 22 } s m args below meth c H locs 0 0 (QMI below args s g (mW g) A tgt) (F0 m 68 ls []) := by
  obtain ⟨hx, hb, hr, hml, hown, hts, hlocks⟩ := id C0
  unfold f_X12_figures_68 at hT
  refine lv_bipush (v := (10 : Int32)) hx hb dX12_figures_68 (by decide) ?_
  refine lv_iload_n hx hb dX12_figures_70 rfl (lv_at hl 1 rfl) ?_
  refine lv_imul hx hb dX12_figures_71 ?_
  refine lv_aload_n hx hb dX12_figures_72 rfl (lv_at hl 0 rfl) ?_
  refine m_ci (rest := [.int (((10 : Int32) * a1))]) (As := []) (σ := σ) C0 hK hC.1 (hC.2.1.weaken (fun _ _ _ _ => trivial)) SV.tt (fun _ _ _ => trivial) cf_X12_here w_1071 rfl (k_X12_here l g σ  p5 p56 p6) ⟨by decide, by decide⟩ hl.1 rfl rfl (Nat.le_of_ble_eq_true rfl) dX12_figures_73 ⟨Nat.zero_le _, Nat.zero_le _⟩ ?_
  refine lv_iadd hx hb dX12_figures_76 ?_
  refine lv_bipush (v := (48 : Int32)) hx hb dX12_figures_77 (by decide) ?_
  refine lv_isub hx hb dX12_figures_79 ?_
  refine lv_istore_n (lv' := [(1, .int (((((10 : Int32) * a1) + (f_X12_here σ )) - (48 : Int32)))), (0, .ref (g.2.2 100)), (2, .int (a2))]) hx hb dX12_figures_80 rfl hl (by decide) rfl (fun ls hl => ?_)
  refine lv_aload_n hx hb dX12_figures_81 rfl (lv_at hl 1 rfl) ?_
  refine lv_dup hx hb dX12_figures_82 rfl ?_
  refine m_get (σ := σ) (v := .int ((σ 5 0))) C0 hK hC.1 5 (by decide) rfl w_972 dX12_figures_83 ?_
  refine lv_iconst (v := (1 : Int32)) hx hb dX12_figures_86 (by decide) ?_
  refine lv_iadd hx hb dX12_figures_87 ?_
  refine m_put (σ := σ) (ty := .int) C0 hK hC 5 (by decide) rfl rfl rfl rfl (ms_5 g _ _) w_972 dX12_figures_88 (fun H locs hC => ?_)
  refine lv_iinc (v := (a2 + (1 : Int32))) (lv' := [(2, .int ((a2 + (1 : Int32)))), (1, .int (((((10 : Int32) * a1) + (f_X12_here σ )) - (48 : Int32)))), (0, .ref (g.2.2 100))]) hx hb dX12_figures_91 hl (k := 2) rfl rfl (by decide) rfl (fun ls hl => ?_)
  refine lv_goto (tgt := 34) hx hb dX12_figures_94 (by decide) ?_
  have j94_p5 : 0 ≤ (((σ 5 0) + (1 : Int32))).toInt := by
    have : ((1 : Int32)).toInt = 1 := by decide
    have : ((10 : Int32)).toInt = 10 := by decide
    have : ((48 : Int32)).toInt = 48 := by decide
    try have := ti_add (a := a2) (b := (1 : Int32)) (by omega) (by omega)
    try have := ti_mulR (a := (10 : Int32)) (b := a1) (n := 10) (by decide) (by omega) (by omega)
    try have := ti_add (a := ((10 : Int32) * a1)) (b := (f_X12_here σ )) (by omega) (by omega)
    try have := ti_sub (a := (((10 : Int32) * a1) + (f_X12_here σ ))) (b := (48 : Int32)) (by omega) (by omega)
    try have := ti_add (a := (σ 5 0)) (b := (1 : Int32)) (by omega) (by omega)
    omega
  have j94_p56 : (((σ 5 0) + (1 : Int32))).toInt ≤ (σ 6 0).toInt := by
    have : ((1 : Int32)).toInt = 1 := by decide
    have : ((10 : Int32)).toInt = 10 := by decide
    have : ((48 : Int32)).toInt = 48 := by decide
    try have := ti_add (a := a2) (b := (1 : Int32)) (by omega) (by omega)
    try have := ti_mulR (a := (10 : Int32)) (b := a1) (n := 10) (by decide) (by omega) (by omega)
    try have := ti_add (a := ((10 : Int32) * a1)) (b := (f_X12_here σ )) (by omega) (by omega)
    try have := ti_sub (a := (((10 : Int32) * a1) + (f_X12_here σ ))) (b := (48 : Int32)) (by omega) (by omega)
    try have := ti_add (a := (σ 5 0)) (b := (1 : Int32)) (by omega) (by omega)
    omega
  have j94_h2 : 0 ≤ (a2 + (1 : Int32)).toInt := by
    have : ((1 : Int32)).toInt = 1 := by decide
    have : ((10 : Int32)).toInt = 10 := by decide
    have : ((48 : Int32)).toInt = 48 := by decide
    try have := ti_add (a := a2) (b := (1 : Int32)) (by omega) (by omega)
    try have := ti_mulR (a := (10 : Int32)) (b := a1) (n := 10) (by decide) (by omega) (by omega)
    try have := ti_add (a := ((10 : Int32) * a1)) (b := (f_X12_here σ )) (by omega) (by omega)
    try have := ti_sub (a := (((10 : Int32) * a1) + (f_X12_here σ ))) (b := (48 : Int32)) (by omega) (by omega)
    omega
  have j94_m : (2 - (a2 + (1 : Int32)).toInt).toNat < N34 := by
    have : ((1 : Int32)).toInt = 1 := by decide
    have : ((10 : Int32)).toInt = 10 := by decide
    have : ((48 : Int32)).toInt = 48 := by decide
    try have := ti_add (a := a2) (b := (1 : Int32)) (by omega) (by omega)
    try have := ti_mulR (a := (10 : Int32)) (b := a1) (n := 10) (by decide) (by omega) (by omega)
    try have := ti_add (a := ((10 : Int32) * a1)) (b := (f_X12_here σ )) (by omega) (by omega)
    try have := ti_sub (a := (((10 : Int32) * a1) + (f_X12_here σ ))) (b := (48 : Int32)) (by omega) (by omega)
    omega
  exact hK34 (up2 σ 5 0 ((σ 5 0) + (1 : Int32))) ((((10 : Int32) * a1) + (f_X12_here σ )) - (48 : Int32)) (a2 + (1 : Int32)) j94_p5 j94_p56 p6 j94_h2 j94_m hK hC (lv_sub hl [2, 1, 0] rfl) hT
def f_X12_figures_34 (K34 : St → Int32 → Int32 → Int32 × St) (σ : St) (a1 : Int32) (a2 : Int32) : Int32 × St := (if (2 : Int32) ≤ a2 then (a1, σ) else (if (σ 7 0) = 0 then (if (f_X12_in (f_X12_here σ ) (48 : Int32) (57 : Int32)) = 0 then (a1, σ) else (if a2 = 0 then (f_X12_figures_68 K34 σ a1 a2) else (if a1 ≤ 0 then (a1, σ) else (f_X12_figures_68 K34 σ a1 a2)))) else (a1, σ)))
set_option maxHeartbeats 600000 in
set_option maxRecDepth 100000 in
theorem b_X12_figures_34 {g : GG} {p : Program} {l : Launch} {e : Env} {s : State} {m : MethodId} {args : Array Value} {below : List Frame} {meth : Method} {c : Code} {A : Nat → Prop} {tgt : Int32 × St} {K34 : St → Int32 → Int32 → Int32 × St} {N34 : Nat} (C0 : BC p s m args meth c cX12_figures RX12 3 (some .int)) (hK34 : ∀ (σ : St) (a1 : Int32) (a2 : Int32), (0 ≤ (σ 5 0).toInt) → ((σ 5 0).toInt ≤ (σ 6 0).toInt) → ((σ 6 0).toInt ≤ 100) → (0 ≤ a2.toInt) → (2 - a2.toInt).toNat < N34 → ∀ {H : Heap} {locs : List Loc}, KK g s → WC g (mW g) A s.heap σ H locs →  ∀ {ls : Array Slot}, lv_has ls 3 [(0, .ref (g.2.2 100)), (1, .int (a1)), (2, .int (a2))] → K34 σ a1 a2 = tgt → W p l e { frames := 1, cells := 0, slots := 0, locals := 22 } s m args below meth c H locs 0 0 (QMI below args s g (mW g) A tgt) (F0 m 34 ls [])) {σ : St} {a1 : Int32} {a2 : Int32} {H : Heap} {locs : List Loc} (p5 : 0 ≤ (σ 5 0).toInt) (p56 : (σ 5 0).toInt ≤ (σ 6 0).toInt) (p6 : (σ 6 0).toInt ≤ 100) (h2 : 0 ≤ a2.toInt) (hm : (2 - a2.toInt).toNat < N34 + 1) (hK : KK g s) (hC : WC g (mW g) A s.heap σ H locs) {ls : Array Slot} (hl : lv_has ls 3 [(0, .ref (g.2.2 100)), (1, .int (a1)), (2, .int (a2))]) (hT : f_X12_figures_34 K34 σ a1 a2 = tgt) : W p l e { frames := 1, cells := 0, slots := 0, locals := 22 } s m args below meth c H locs 0 0 (QMI below args s g (mW g) A tgt) (F0 m 34 ls []) := by
  obtain ⟨hx, hb, hr, hml, hown, hts, hlocks⟩ := id C0
  unfold f_X12_figures_34 at hT
  refine lv_iload_n hx hb dX12_figures_34 rfl (lv_at hl 2 rfl) ?_
  refine lv_iconst (v := (2 : Int32)) hx hb dX12_figures_35 (by decide) ?_
  refine lv_icmp_ge (tgt := 97) hx hb dX12_figures_36 (by decide) (fun c_36 => ?_) (fun c_36 => ?_)
  · have hT := hT_pos c_36 hT
    refine lv_iload_n hx hb dX12_figures_97 rfl (lv_at hl 1 rfl) ?_
    exact ret_MI C0 hC hT dX12_figures_98
  · have hT := hT_neg c_36 hT
    refine lv_aload_n hx hb dX12_figures_39 rfl (lv_at hl 0 rfl) ?_
    refine m_get (σ := σ) (v := .int ((σ 7 0))) C0 hK hC.1 7 (by decide) rfl w_974 dX12_figures_40 ?_
    refine lv_if_ne (tgt := 97) hx hb dX12_figures_43 (by decide) (fun c_43 => ?_) (fun c_43 => ?_)
    · have hT := hT_neg c_43 hT
      refine lv_iload_n hx hb dX12_figures_97 rfl (lv_at hl 1 rfl) ?_
      exact ret_MI C0 hC hT dX12_figures_98
    · have hT := hT_pos c_43 hT
      refine lv_aload_n hx hb dX12_figures_46 rfl (lv_at hl 0 rfl) ?_
      refine m_ci (rest := []) (As := []) (σ := σ) C0 hK hC.1 (hC.2.1.weaken (fun _ _ _ _ => trivial)) SV.tt (fun _ _ _ => trivial) cf_X12_here w_1071 rfl (k_X12_here l g σ  p5 p56 p6) ⟨by decide, by decide⟩ hl.1 rfl rfl (Nat.le_of_ble_eq_true rfl) dX12_figures_47 ⟨Nat.zero_le _, Nat.zero_le _⟩ ?_
      refine lv_bipush (v := (48 : Int32)) hx hb dX12_figures_50 (by decide) ?_
      refine lv_bipush (v := (57 : Int32)) hx hb dX12_figures_52 (by decide) ?_
      refine s_ci (rest := []) (As := [.int ((f_X12_here σ )), .int ((48 : Int32)), .int ((57 : Int32))]) C0 cf_X12_in w_1060 (k_X12_in l (f_X12_here σ ) (48 : Int32) (57 : Int32) ) ⟨by decide, by decide⟩ hl.1 rfl rfl (Nat.le_of_ble_eq_true rfl) dX12_figures_54 ⟨Nat.zero_le _, Nat.zero_le _⟩ ?_
      refine lv_if_eq (tgt := 97) hx hb dX12_figures_57 (by decide) (fun c_57 => ?_) (fun c_57 => ?_)
      · have hT := hT_pos c_57 hT
        refine lv_iload_n hx hb dX12_figures_97 rfl (lv_at hl 1 rfl) ?_
        exact ret_MI C0 hC hT dX12_figures_98
      · have hT := hT_neg c_57 hT
        refine lv_iload_n hx hb dX12_figures_60 rfl (lv_at hl 2 rfl) ?_
        refine lv_if_eq (tgt := 68) hx hb dX12_figures_61 (by decide) (fun c_61 => ?_) (fun c_61 => ?_)
        · have hT := hT_pos c_61 hT
          have j61_h2b : a2.toInt < 2 := by
            have : ((2 : Int32)).toInt = 2 := by decide
            have : ((0 : Int32)).toInt = 0 := by decide
            have : ((48 : Int32)).toInt = 48 := by decide
            have : ((57 : Int32)).toInt = 57 := by decide
            have := mt ti_le.mpr c_36
            have := ti_eq.mp c_43
            have := in_ne c_57
            have := ti_eq.mp c_61
            omega
          have j61_hl5 : (σ 5 0).toInt < (σ 6 0).toInt := he_lt (by obtain ⟨q1, q2⟩ := in_ne c_57; have e : (48 : Int32).toInt = 48 := rfl; omega)
          have j61_hm34 : (2 - a2.toInt).toNat < N34 + 1 := by
            have : ((2 : Int32)).toInt = 2 := by decide
            have : ((0 : Int32)).toInt = 0 := by decide
            have : ((48 : Int32)).toInt = 48 := by decide
            have : ((57 : Int32)).toInt = 57 := by decide
            have := mt ti_le.mpr c_36
            have := ti_eq.mp c_43
            have := in_ne c_57
            have := ti_eq.mp c_61
            omega
          exact b_X12_figures_68  (σ := σ) (a1 := a1) (a2 := a2) C0 hK34 p5 p56 p6 h2 j61_h2b j61_hl5 j61_hm34 hK hC hl hT
        · have hT := hT_neg c_61 hT
          refine lv_iload_n hx hb dX12_figures_64 rfl (lv_at hl 1 rfl) ?_
          refine lv_if_le (tgt := 97) hx hb dX12_figures_65 (by decide) (fun c_65 => ?_) (fun c_65 => ?_)
          · have hT := hT_pos c_65 hT
            refine lv_iload_n hx hb dX12_figures_97 rfl (lv_at hl 1 rfl) ?_
            exact ret_MI C0 hC hT dX12_figures_98
          · have hT := hT_neg c_65 hT
            have j65_h2b : a2.toInt < 2 := by
              have : ((2 : Int32)).toInt = 2 := by decide
              have : ((0 : Int32)).toInt = 0 := by decide
              have : ((48 : Int32)).toInt = 48 := by decide
              have : ((57 : Int32)).toInt = 57 := by decide
              have := mt ti_le.mpr c_36
              have := ti_eq.mp c_43
              have := in_ne c_57
              have := mt ti_eq.mpr c_61
              have := mt ti_le.mpr c_65
              omega
            have j65_hl5 : (σ 5 0).toInt < (σ 6 0).toInt := he_lt (by obtain ⟨q1, q2⟩ := in_ne c_57; have e : (48 : Int32).toInt = 48 := rfl; omega)
            have j65_hm34 : (2 - a2.toInt).toNat < N34 + 1 := by
              have : ((2 : Int32)).toInt = 2 := by decide
              have : ((0 : Int32)).toInt = 0 := by decide
              have : ((48 : Int32)).toInt = 48 := by decide
              have : ((57 : Int32)).toInt = 57 := by decide
              have := mt ti_le.mpr c_36
              have := ti_eq.mp c_43
              have := in_ne c_57
              have := mt ti_eq.mpr c_61
              have := mt ti_le.mpr c_65
              omega
            exact b_X12_figures_68  (σ := σ) (a1 := a1) (a2 := a2) C0 hK34 p5 p56 p6 h2 j65_h2b j65_hl5 j65_hm34 hK hC hl hT
def g_X12_figures_34  : Nat → St → Int32 → Int32 → Int32 × St
  | 0 => fun σ a1 a2 => (0, σ)
  | n + 1 => fun σ a1 a2 => f_X12_figures_34  (g_X12_figures_34  n) σ a1 a2
theorem l_X12_figures_34 {g : GG} {p : Program} {l : Launch} {e : Env} {s : State} {m : MethodId} {args : Array Value} {below : List Frame} {meth : Method} {c : Code} {A : Nat → Prop} {tgt : Int32 × St}  (C0 : BC p s m args meth c cX12_figures RX12 3 (some .int))  : ∀ (n : Nat) (σ : St) (a1 : Int32) (a2 : Int32), (0 ≤ (σ 5 0).toInt) → ((σ 5 0).toInt ≤ (σ 6 0).toInt) → ((σ 6 0).toInt ≤ 100) → (0 ≤ a2.toInt) → (2 - a2.toInt).toNat < n → ∀ {H : Heap} {locs : List Loc}, KK g s → WC g (mW g) A s.heap σ H locs →  ∀ {ls : Array Slot}, lv_has ls 3 [(0, .ref (g.2.2 100)), (1, .int (a1)), (2, .int (a2))] → g_X12_figures_34  n σ a1 a2 = tgt → W p l e { frames := 1, cells := 0, slots := 0, locals := 22 } s m args below meth c H locs 0 0 (QMI below args s g (mW g) A tgt) (F0 m 34 ls []) := by
  intro n
  induction n with
  | zero => intro σ a1 a2 p5 p56 p6 h2 hm; exact absurd hm (Nat.not_lt_zero _)
  | succ n ih =>
    intro σ a1 a2 p5 p56 p6 h2 hm H locs hK hC ls hl hT
    exact b_X12_figures_34  (K34 := g_X12_figures_34  n) (N34 := n) C0  (fun σ a1 a2 p5 p56 p6 h2 hmq => ih σ a1 a2 p5 p56 p6 h2 hmq) p5 p56 p6 h2 hm hK hC hl hT
def f_X12_figures (σ : St) : Int32 × St := (g_X12_figures_34  (3) (up2 σ 7 0 (if (σ 7 0) = 0 then (if (f_X12_in (f_X12_here σ ) (48 : Int32) (57 : Int32)) = 0 then (1 : Int32) else (0 : Int32)) else (1 : Int32))) (0 : Int32) (0 : Int32))
set_option maxHeartbeats 600000 in
set_option maxRecDepth 100000 in
theorem k_X12_figures (l : Launch) (g : GG) (σ : St) (p5 : 0 ≤ (σ 5 0).toInt) (p56 : (σ 5 0).toInt ≤ (σ 6 0).toInt) (p6 : (σ 6 0).toInt ≤ 100) : MI l yX12_figures (wsF yX12_figures cX12_figures 3 (some .int)) { frames := 1, cells := 0, slots := 0, locals := 22 } [.ref (g.2.2 100)] g (mW g) (fun _ => True) σ (f_X12_figures σ) := by
  refine start_MI (by decide) (Nat.le_of_ble_eq_true rfl) ?_
  intro p e s m args below meth c C0 hK hB hC ls hl
  generalize hAe : aA ((mW g) σ) = A at hC ⊢
  obtain ⟨hx, hb, hr, hml, hown, hts, hlocks⟩ := id C0
  have hl : lv_has ls 3 [(0, .ref (g.2.2 100))] := hl
  generalize hT : (f_X12_figures σ) = tgt
  suffices key : ∀ (H : Heap) (locs : List Loc), WC g (mW g) A s.heap σ H locs → W p l e { frames := 1, cells := 0, slots := 0, locals := 22 } s m args below meth c H locs 0 0 (QMI below args s g (mW g) A tgt) (F0 m 0 ls []) from key _ _ hC
  intro H locs hC
  unfold f_X12_figures at hT
  refine lv_aload_n hx hb dX12_figures_0 rfl (lv_at hl 0 rfl) ?_
  refine lv_aload_n hx hb dX12_figures_1 rfl (lv_at hl 0 rfl) ?_
  refine m_get (σ := σ) (v := .int ((σ 7 0))) C0 hK hC.1 7 (by decide) rfl w_974 dX12_figures_2 ?_
  have J5 : ∀ v : Int32, v = (if (σ 7 0) = 0 then (if (f_X12_in (f_X12_here σ ) (48 : Int32) (57 : Int32)) = 0 then (1 : Int32) else (0 : Int32)) else (1 : Int32)) → W p l e { frames := 1, cells := 0, slots := 0, locals := 22 } s m args below meth c H locs 0 0 (QMI below args s g (mW g) A tgt) (F0 m 27 ls [.int (v), .ref (g.2.2 100)]) := by
    intro v ev
    subst ev
    refine m_put (σ := σ) (ty := .boolean) C0 hK hC 7 (by decide) rfl rfl (nz_of (by (repeat' split) <;> simp)) (nf_of (by (repeat' split) <;> simp)) (ms_7 g _ _) w_974 dX12_figures_27 (fun H locs hC => ?_)
    refine lv_iconst (v := (0 : Int32)) hx hb dX12_figures_30 (by decide) ?_
    refine lv_istore_n (lv' := [(1, .int ((0 : Int32))), (0, .ref (g.2.2 100))]) hx hb dX12_figures_31 rfl hl (by decide) rfl (fun ls hl => ?_)
    refine lv_iconst (v := (0 : Int32)) hx hb dX12_figures_32 (by decide) ?_
    refine lv_istore_n (lv' := [(2, .int ((0 : Int32))), (1, .int ((0 : Int32))), (0, .ref (g.2.2 100))]) hx hb dX12_figures_33 rfl hl (by decide) rfl (fun ls hl => ?_)
    have j33_h2 : 0 ≤ (0 : Int32).toInt := by
      have : ((0 : Int32)).toInt = 0 := by decide
      omega
    have j33_m : (2 - (0 : Int32).toInt).toNat < 3 := by
      have : ((0 : Int32)).toInt = 0 := by decide
      omega
    exact l_X12_figures_34  C0   (3) (up2 σ 7 0 (if (σ 7 0) = 0 then (if (f_X12_in (f_X12_here σ ) (48 : Int32) (57 : Int32)) = 0 then (1 : Int32) else (0 : Int32)) else (1 : Int32))) (0 : Int32) (0 : Int32) p5 p56 p6 j33_h2 j33_m hK hC (lv_sub hl [2, 1, 0] rfl) hT
  refine lv_if_ne (tgt := 22) hx hb dX12_figures_5 (by decide) (fun c_5 => ?_) (fun c_5 => ?_)
  · refine lv_iconst (v := (1 : Int32)) hx hb dX12_figures_22 (by decide) ?_
    refine lv_goto (tgt := 27) hx hb dX12_figures_23 (by decide) ?_
    exact J5 _ (iv_neg c_5 rfl)
  · refine lv_aload_n hx hb dX12_figures_8 rfl (lv_at hl 0 rfl) ?_
    refine m_ci (rest := [.ref (g.2.2 100)]) (As := []) (σ := σ) C0 hK hC.1 (hC.2.1.weaken (fun _ _ _ _ => trivial)) SV.tt (fun _ _ _ => trivial) cf_X12_here w_1071 rfl (k_X12_here l g σ  p5 p56 p6) ⟨by decide, by decide⟩ hl.1 rfl rfl (Nat.le_of_ble_eq_true rfl) dX12_figures_9 ⟨Nat.zero_le _, Nat.zero_le _⟩ ?_
    refine lv_bipush (v := (48 : Int32)) hx hb dX12_figures_12 (by decide) ?_
    refine lv_bipush (v := (57 : Int32)) hx hb dX12_figures_14 (by decide) ?_
    refine s_ci (rest := [.ref (g.2.2 100)]) (As := [.int ((f_X12_here σ )), .int ((48 : Int32)), .int ((57 : Int32))]) C0 cf_X12_in w_1060 (k_X12_in l (f_X12_here σ ) (48 : Int32) (57 : Int32) ) ⟨by decide, by decide⟩ hl.1 rfl rfl (Nat.le_of_ble_eq_true rfl) dX12_figures_16 ⟨Nat.zero_le _, Nat.zero_le _⟩ ?_
    refine lv_if_ne (tgt := 26) hx hb dX12_figures_19 (by decide) (fun c_19 => ?_) (fun c_19 => ?_)
    · refine lv_iconst (v := (0 : Int32)) hx hb dX12_figures_26 (by decide) ?_
      exact J5 _ (iv_pos c_5 (iv_neg c_19 rfl))
    · refine lv_iconst (v := (1 : Int32)) hx hb dX12_figures_22 (by decide) ?_
      refine lv_goto (tgt := 27) hx hb dX12_figures_23 (by decide) ?_
      exact J5 _ (iv_pos c_5 (iv_pos c_19 rfl))
set_option maxRecDepth 20000 in
theorem w_971 : (Cond.fieldLink RX12 78 RX12 "act" "I") ∈ TB := inTB (List.mem_of_getElem? (i := 971) (by decide +kernel)) (by decide +kernel)
/-! ThreeMeasuresModel.emits -/
theorem dX12_emits_0 : decode cX12_emits 0 = .ok (.aload_n 0, 1) := by decide +kernel
theorem dX12_emits_1 : decode cX12_emits 1 = .ok (.getfield 57, 3) := by decide +kernel
theorem dX12_emits_4 : decode cX12_emits 4 = .ok (.ifCond .ne 52, 3) := by decide +kernel
theorem dX12_emits_7 : decode cX12_emits 7 = .ok (.aload_n 0, 1) := by decide +kernel
theorem dX12_emits_8 : decode cX12_emits 8 = .ok (.getfield 9, 3) := by decide +kernel
theorem dX12_emits_11 : decode cX12_emits 11 = .ok (.sipush 216, 3) := by decide +kernel
theorem dX12_emits_14 : decode cX12_emits 14 = .ok (.sipush 140, 3) := by decide +kernel
theorem dX12_emits_17 : decode cX12_emits 17 = .ok (.aload_n 0, 1) := by decide +kernel
theorem dX12_emits_18 : decode cX12_emits 18 = .ok (.getfield 78, 3) := by decide +kernel
theorem dX12_emits_21 : decode cX12_emits 21 = .ok (.imul, 1) := by decide +kernel
theorem dX12_emits_22 : decode cX12_emits 22 = .ok (.iadd, 1) := by decide +kernel
theorem dX12_emits_23 : decode cX12_emits 23 = .ok (.aload_n 0, 1) := by decide +kernel
theorem dX12_emits_24 : decode cX12_emits 24 = .ok (.getfield 9, 3) := by decide +kernel
theorem dX12_emits_27 : decode cX12_emits 27 = .ok (.sipush 211, 3) := by decide +kernel
theorem dX12_emits_30 : decode cX12_emits 30 = .ok (.aload_n 0, 1) := by decide +kernel
theorem dX12_emits_31 : decode cX12_emits 31 = .ok (.getfield 78, 3) := by decide +kernel
theorem dX12_emits_34 : decode cX12_emits 34 = .ok (.iadd, 1) := by decide +kernel
theorem dX12_emits_35 : decode cX12_emits 35 = .ok (.iaload, 1) := by decide +kernel
theorem dX12_emits_36 : decode cX12_emits 36 = .ok (.iadd, 1) := by decide +kernel
theorem dX12_emits_37 : decode cX12_emits 37 = .ok (.iload_n 1, 1) := by decide +kernel
theorem dX12_emits_38 : decode cX12_emits 38 = .ok (.iastore, 1) := by decide +kernel
theorem dX12_emits_39 : decode cX12_emits 39 = .ok (.aload_n 0, 1) := by decide +kernel
theorem dX12_emits_40 : decode cX12_emits 40 = .ok (.getfield 9, 3) := by decide +kernel
theorem dX12_emits_43 : decode cX12_emits 43 = .ok (.sipush 211, 3) := by decide +kernel
theorem dX12_emits_46 : decode cX12_emits 46 = .ok (.aload_n 0, 1) := by decide +kernel
theorem dX12_emits_47 : decode cX12_emits 47 = .ok (.getfield 78, 3) := by decide +kernel
theorem dX12_emits_50 : decode cX12_emits 50 = .ok (.iadd, 1) := by decide +kernel
theorem dX12_emits_51 : decode cX12_emits 51 = .ok (.dup2, 1) := by decide +kernel
theorem dX12_emits_52 : decode cX12_emits 52 = .ok (.iaload, 1) := by decide +kernel
theorem dX12_emits_53 : decode cX12_emits 53 = .ok (.iconst 1, 1) := by decide +kernel
theorem dX12_emits_54 : decode cX12_emits 54 = .ok (.iadd, 1) := by decide +kernel
theorem dX12_emits_55 : decode cX12_emits 55 = .ok (.iastore, 1) := by decide +kernel
theorem dX12_emits_56 : decode cX12_emits 56 = .ok (.return_, 1) := by decide +kernel
def f_X12_emits (σ : St) (a1 : Int32) : St := (if (σ 7 0) = 0 then (up2 (up2 σ 1 (ix (((216 : Int32) + ((140 : Int32) * (σ 4 0))) + (σ 1 (ix ((211 : Int32) + (σ 4 0)))))) a1) 1 (ix ((211 : Int32) + (σ 4 0))) (((up2 σ 1 (ix (((216 : Int32) + ((140 : Int32) * (σ 4 0))) + (σ 1 (ix ((211 : Int32) + (σ 4 0)))))) a1) 1 (ix ((211 : Int32) + (σ 4 0)))) + (1 : Int32))) else σ)
set_option maxHeartbeats 600000 in
set_option maxRecDepth 100000 in
theorem k_X12_emits (l : Launch) (g : GG) (σ : St) (a1 : Int32) (e4 : 0 ≤ (σ 4 0).toInt) (e4b : (σ 4 0).toInt < 5) (em : 0 ≤ (σ 1 (ix (211 + σ 4 0))).toInt) (emb : (σ 1 (ix (211 + σ 4 0))).toInt < 140) : MV l yX12_emits (wsF yX12_emits cX12_emits 2 none) { frames := 0, cells := 0, slots := 0, locals := 0 } [.ref (g.2.2 100), .int (a1)] g (mW g) (fun _ => True) σ (f_X12_emits σ a1) := by
  refine start_MV (by decide) (Nat.le_of_ble_eq_true rfl) ?_
  intro p e s m args below meth c C0 hK hB hC ls hl
  generalize hAe : aA ((mW g) σ) = A at hC ⊢
  obtain ⟨hx, hb, hr, hml, hown, hts, hlocks⟩ := id C0
  have hl : lv_has ls 2 [(0, .ref (g.2.2 100)), (1, .int (a1))] := hl
  generalize hT : (f_X12_emits σ a1) = tgt
  suffices key : ∀ (H : Heap) (locs : List Loc), WC g (mW g) A s.heap σ H locs → W p l e { frames := 0, cells := 0, slots := 0, locals := 0 } s m args below meth c H locs 0 0 (QMV below args s g (mW g) A tgt) (F0 m 0 ls []) from key _ _ hC
  intro H locs hC
  unfold f_X12_emits at hT
  refine lv_aload_n hx hb dX12_emits_0 rfl (lv_at hl 0 rfl) ?_
  refine m_get (σ := σ) (v := .int ((σ 7 0))) C0 hK hC.1 7 (by decide) rfl w_974 dX12_emits_1 ?_
  refine lv_if_ne (tgt := 56) hx hb dX12_emits_4 (by decide) (fun c_4 => ?_) (fun c_4 => ?_)
  · have hT := hT_neg c_4 hT
    exact ret_MV C0 hC hT dX12_emits_56
  · have hT := hT_pos c_4 hT
    refine lv_aload_n hx hb dX12_emits_7 rfl (lv_at hl 0 rfl) ?_
    refine m_get (σ := σ) (v := .ref (g.2.2 1)) C0 hK hC.1 1 (by decide) rfl w_968 dX12_emits_8 ?_
    refine lv_sipush (v := (216 : Int32)) hx hb dX12_emits_11 (by decide) ?_
    refine lv_sipush (v := (140 : Int32)) hx hb dX12_emits_14 (by decide) ?_
    refine lv_aload_n hx hb dX12_emits_17 rfl (lv_at hl 0 rfl) ?_
    refine m_get (σ := σ) (v := .int ((σ 4 0))) C0 hK hC.1 4 (by decide) rfl w_971 dX12_emits_18 ?_
    refine lv_imul hx hb dX12_emits_21 ?_
    refine lv_iadd hx hb dX12_emits_22 ?_
    refine lv_aload_n hx hb dX12_emits_23 rfl (lv_at hl 0 rfl) ?_
    refine m_get (σ := σ) (v := .ref (g.2.2 1)) C0 hK hC.1 1 (by decide) rfl w_968 dX12_emits_24 ?_
    refine lv_sipush (v := (211 : Int32)) hx hb dX12_emits_27 (by decide) ?_
    refine lv_aload_n hx hb dX12_emits_30 rfl (lv_at hl 0 rfl) ?_
    refine m_get (σ := σ) (v := .int ((σ 4 0))) C0 hK hC.1 4 (by decide) rfl w_971 dX12_emits_31 ?_
    refine lv_iadd hx hb dX12_emits_34 ?_
    have o_35 : vp_in ((211 : Int32) + (σ 4 0)) 916 := by
      have : ((0 : Int32)).toInt = 0 := by decide
      have : ((211 : Int32)).toInt = 211 := by decide
      have := ti_eq.mp c_4
      try have := ti_add (a := (211 : Int32)) (b := (σ 4 0)) (by omega) (by omega)
      exact vin (by omega) (by omega)
    refine m_ald (σ := σ) C0 hK hC.1 1 1 916 rfl o_35 (ix ((211 : Int32) + (σ 4 0))) rfl dX12_emits_35 ?_
    refine lv_iadd hx hb dX12_emits_36 ?_
    refine lv_iload_n hx hb dX12_emits_37 rfl (lv_at hl 1 rfl) ?_
    have o_38 : vp_in (((216 : Int32) + ((140 : Int32) * (σ 4 0))) + (σ 1 (ix ((211 : Int32) + (σ 4 0))))) 916 := by
      have : ((0 : Int32)).toInt = 0 := by decide
      have : ((216 : Int32)).toInt = 216 := by decide
      have : ((140 : Int32)).toInt = 140 := by decide
      have := ti_eq.mp c_4
      try have := ti_mulR (a := (140 : Int32)) (b := (σ 4 0)) (n := 140) (by decide) (by omega) (by omega)
      try have := ti_add (a := (216 : Int32)) (b := ((140 : Int32) * (σ 4 0))) (by omega) (by omega)
      try have := ti_add (a := ((216 : Int32) + ((140 : Int32) * (σ 4 0)))) (b := (σ 1 (ix ((211 : Int32) + (σ 4 0))))) (by omega) (by omega)
      exact vin (by omega) (by omega)
    refine m_ast (σ := σ) C0 hK hC 1 1 916 rfl (ms_1 g _) o_38 (ix (((216 : Int32) + ((140 : Int32) * (σ 4 0))) + (σ 1 (ix ((211 : Int32) + (σ 4 0)))))) rfl dX12_emits_38 (fun H locs hC => ?_)
    refine lv_aload_n hx hb dX12_emits_39 rfl (lv_at hl 0 rfl) ?_
    refine m_get (σ := (up2 σ 1 (ix (((216 : Int32) + ((140 : Int32) * (σ 4 0))) + (σ 1 (ix ((211 : Int32) + (σ 4 0)))))) a1)) (v := .ref (g.2.2 1)) C0 hK hC.1 1 (by decide) rfl w_968 dX12_emits_40 ?_
    refine lv_sipush (v := (211 : Int32)) hx hb dX12_emits_43 (by decide) ?_
    refine lv_aload_n hx hb dX12_emits_46 rfl (lv_at hl 0 rfl) ?_
    refine m_get (σ := (up2 σ 1 (ix (((216 : Int32) + ((140 : Int32) * (σ 4 0))) + (σ 1 (ix ((211 : Int32) + (σ 4 0)))))) a1)) (v := .int ((σ 4 0))) C0 hK hC.1 4 (by decide) rfl w_971 dX12_emits_47 ?_
    refine lv_iadd hx hb dX12_emits_50 ?_
    refine lv_dup2_11 hx hb dX12_emits_51 rfl rfl ?_
    have o_52 : vp_in ((211 : Int32) + (σ 4 0)) 916 := by
      have : ((0 : Int32)).toInt = 0 := by decide
      have : ((211 : Int32)).toInt = 211 := by decide
      have := ti_eq.mp c_4
      try have := ti_add (a := (211 : Int32)) (b := (σ 4 0)) (by omega) (by omega)
      exact vin (by omega) (by omega)
    refine m_ald (σ := (up2 σ 1 (ix (((216 : Int32) + ((140 : Int32) * (σ 4 0))) + (σ 1 (ix ((211 : Int32) + (σ 4 0)))))) a1)) C0 hK hC.1 1 1 916 rfl o_52 (ix ((211 : Int32) + (σ 4 0))) rfl dX12_emits_52 ?_
    refine lv_iconst (v := (1 : Int32)) hx hb dX12_emits_53 (by decide) ?_
    refine lv_iadd hx hb dX12_emits_54 ?_
    have o_55 : vp_in ((211 : Int32) + (σ 4 0)) 916 := by
      have : ((0 : Int32)).toInt = 0 := by decide
      have : ((211 : Int32)).toInt = 211 := by decide
      have := ti_eq.mp c_4
      try have := ti_add (a := (211 : Int32)) (b := (σ 4 0)) (by omega) (by omega)
      exact vin (by omega) (by omega)
    refine m_ast (σ := (up2 σ 1 (ix (((216 : Int32) + ((140 : Int32) * (σ 4 0))) + (σ 1 (ix ((211 : Int32) + (σ 4 0)))))) a1)) C0 hK hC 1 1 916 rfl (ms_1 g _) o_55 (ix ((211 : Int32) + (σ 4 0))) rfl dX12_emits_55 (fun H locs hC => ?_)
    exact ret_MV C0 hC hT dX12_emits_56
/-! ThreeMeasuresModel.stick -/
theorem dX12_stick_0 : decode cX12_stick 0 = .ok (.iload_n 1, 1) := by decide +kernel
theorem dX12_stick_1 : decode cX12_stick 1 = .ok (.iconst 0, 1) := by decide +kernel
theorem dX12_stick_2 : decode cX12_stick 2 = .ok (.bipush 6, 2) := by decide +kernel
theorem dX12_stick_4 : decode cX12_stick 4 = .ok (.invokestatic 47, 3) := by decide +kernel
theorem dX12_stick_7 : decode cX12_stick 7 = .ok (.ifCond .ne 5, 3) := by decide +kernel
theorem dX12_stick_10 : decode cX12_stick 10 = .ok (.iconst (-1), 1) := by decide +kernel
theorem dX12_stick_11 : decode cX12_stick 11 = .ok (.ireturn, 1) := by decide +kernel
theorem dX12_stick_12 : decode cX12_stick 12 = .ok (.iload_n 2, 1) := by decide +kernel
theorem dX12_stick_13 : decode cX12_stick 13 = .ok (.iconst 0, 1) := by decide +kernel
theorem dX12_stick_14 : decode cX12_stick 14 = .ok (.bipush 9, 2) := by decide +kernel
theorem dX12_stick_16 : decode cX12_stick 16 = .ok (.invokestatic 47, 3) := by decide +kernel
theorem dX12_stick_19 : decode cX12_stick 19 = .ok (.ifCond .eq 13, 3) := by decide +kernel
theorem dX12_stick_22 : decode cX12_stick 22 = .ok (.iload_n 3, 1) := by decide +kernel
theorem dX12_stick_23 : decode cX12_stick 23 = .ok (.iconst 2, 1) := by decide +kernel
theorem dX12_stick_24 : decode cX12_stick 24 = .ok (.bipush 60, 2) := by decide +kernel
theorem dX12_stick_26 : decode cX12_stick 26 = .ok (.invokestatic 47, 3) := by decide +kernel
theorem dX12_stick_29 : decode cX12_stick 29 = .ok (.ifCond .ne 6, 3) := by decide +kernel
theorem dX12_stick_32 : decode cX12_stick 32 = .ok (.bipush (-2), 2) := by decide +kernel
theorem dX12_stick_34 : decode cX12_stick 34 = .ok (.ireturn, 1) := by decide +kernel
theorem dX12_stick_35 : decode cX12_stick 35 = .ok (.aload_n 0, 1) := by decide +kernel
theorem dX12_stick_36 : decode cX12_stick 36 = .ok (.getfield 9, 3) := by decide +kernel
theorem dX12_stick_39 : decode cX12_stick 39 = .ok (.iconst 0, 1) := by decide +kernel
theorem dX12_stick_40 : decode cX12_stick 40 = .ok (.iaload, 1) := by decide +kernel
theorem dX12_stick_41 : decode cX12_stick 41 = .ok (.bipush 6, 2) := by decide +kernel
theorem dX12_stick_43 : decode cX12_stick 43 = .ok (.if_icmp .ne 6, 3) := by decide +kernel
theorem dX12_stick_46 : decode cX12_stick 46 = .ok (.bipush (-4), 2) := by decide +kernel
theorem dX12_stick_48 : decode cX12_stick 48 = .ok (.ireturn, 1) := by decide +kernel
theorem dX12_stick_49 : decode cX12_stick 49 = .ok (.aload_n 0, 1) := by decide +kernel
theorem dX12_stick_50 : decode cX12_stick 50 = .ok (.getfield 9, 3) := by decide +kernel
theorem dX12_stick_53 : decode cX12_stick 53 = .ok (.iconst 0, 1) := by decide +kernel
theorem dX12_stick_54 : decode cX12_stick 54 = .ok (.iaload, 1) := by decide +kernel
theorem dX12_stick_55 : decode cX12_stick 55 = .ok (.istore 4, 2) := by decide +kernel
theorem dX12_stick_57 : decode cX12_stick 57 = .ok (.aload_n 0, 1) := by decide +kernel
theorem dX12_stick_58 : decode cX12_stick 58 = .ok (.getfield 9, 3) := by decide +kernel
theorem dX12_stick_61 : decode cX12_stick 61 = .ok (.bipush 9, 2) := by decide +kernel
theorem dX12_stick_63 : decode cX12_stick 63 = .ok (.iload 4, 2) := by decide +kernel
theorem dX12_stick_65 : decode cX12_stick 65 = .ok (.iadd, 1) := by decide +kernel
theorem dX12_stick_66 : decode cX12_stick 66 = .ok (.iload_n 1, 1) := by decide +kernel
theorem dX12_stick_67 : decode cX12_stick 67 = .ok (.iastore, 1) := by decide +kernel
theorem dX12_stick_68 : decode cX12_stick 68 = .ok (.aload_n 0, 1) := by decide +kernel
theorem dX12_stick_69 : decode cX12_stick 69 = .ok (.getfield 9, 3) := by decide +kernel
theorem dX12_stick_72 : decode cX12_stick 72 = .ok (.bipush 15, 2) := by decide +kernel
theorem dX12_stick_74 : decode cX12_stick 74 = .ok (.iload 4, 2) := by decide +kernel
theorem dX12_stick_76 : decode cX12_stick 76 = .ok (.iadd, 1) := by decide +kernel
theorem dX12_stick_77 : decode cX12_stick 77 = .ok (.iload_n 2, 1) := by decide +kernel
theorem dX12_stick_78 : decode cX12_stick 78 = .ok (.iastore, 1) := by decide +kernel
theorem dX12_stick_79 : decode cX12_stick 79 = .ok (.aload_n 0, 1) := by decide +kernel
theorem dX12_stick_80 : decode cX12_stick 80 = .ok (.getfield 9, 3) := by decide +kernel
theorem dX12_stick_83 : decode cX12_stick 83 = .ok (.bipush 21, 2) := by decide +kernel
theorem dX12_stick_85 : decode cX12_stick 85 = .ok (.iload 4, 2) := by decide +kernel
theorem dX12_stick_87 : decode cX12_stick 87 = .ok (.iadd, 1) := by decide +kernel
theorem dX12_stick_88 : decode cX12_stick 88 = .ok (.iload_n 3, 1) := by decide +kernel
theorem dX12_stick_89 : decode cX12_stick 89 = .ok (.iastore, 1) := by decide +kernel
theorem dX12_stick_90 : decode cX12_stick 90 = .ok (.iconst 0, 1) := by decide +kernel
theorem dX12_stick_91 : decode cX12_stick 91 = .ok (.istore 5, 2) := by decide +kernel
theorem dX12_stick_93 : decode cX12_stick 93 = .ok (.iload 5, 2) := by decide +kernel
theorem dX12_stick_95 : decode cX12_stick 95 = .ok (.iconst 4, 1) := by decide +kernel
theorem dX12_stick_96 : decode cX12_stick 96 = .ok (.if_icmp .ge 25, 3) := by decide +kernel
theorem dX12_stick_99 : decode cX12_stick 99 = .ok (.aload_n 0, 1) := by decide +kernel
theorem dX12_stick_100 : decode cX12_stick 100 = .ok (.getfield 9, 3) := by decide +kernel
theorem dX12_stick_103 : decode cX12_stick 103 = .ok (.bipush 27, 2) := by decide +kernel
theorem dX12_stick_105 : decode cX12_stick 105 = .ok (.iconst 4, 1) := by decide +kernel
theorem dX12_stick_106 : decode cX12_stick 106 = .ok (.iload 4, 2) := by decide +kernel
theorem dX12_stick_108 : decode cX12_stick 108 = .ok (.imul, 1) := by decide +kernel
theorem dX12_stick_109 : decode cX12_stick 109 = .ok (.iadd, 1) := by decide +kernel
theorem dX12_stick_110 : decode cX12_stick 110 = .ok (.iload 5, 2) := by decide +kernel
theorem dX12_stick_112 : decode cX12_stick 112 = .ok (.iadd, 1) := by decide +kernel
theorem dX12_stick_113 : decode cX12_stick 113 = .ok (.iconst 0, 1) := by decide +kernel
theorem dX12_stick_114 : decode cX12_stick 114 = .ok (.iastore, 1) := by decide +kernel
theorem dX12_stick_115 : decode cX12_stick 115 = .ok (.iinc 5 1, 3) := by decide +kernel
theorem dX12_stick_118 : decode cX12_stick 118 = .ok (.goto (-25), 3) := by decide +kernel
theorem dX12_stick_121 : decode cX12_stick 121 = .ok (.aload_n 0, 1) := by decide +kernel
theorem dX12_stick_122 : decode cX12_stick 122 = .ok (.getfield 9, 3) := by decide +kernel
theorem dX12_stick_125 : decode cX12_stick 125 = .ok (.iconst 0, 1) := by decide +kernel
theorem dX12_stick_126 : decode cX12_stick 126 = .ok (.dup2, 1) := by decide +kernel
theorem dX12_stick_127 : decode cX12_stick 127 = .ok (.iaload, 1) := by decide +kernel
theorem dX12_stick_128 : decode cX12_stick 128 = .ok (.iconst 1, 1) := by decide +kernel
theorem dX12_stick_129 : decode cX12_stick 129 = .ok (.iadd, 1) := by decide +kernel
theorem dX12_stick_130 : decode cX12_stick 130 = .ok (.iastore, 1) := by decide +kernel
theorem dX12_stick_131 : decode cX12_stick 131 = .ok (.iload 4, 2) := by decide +kernel
theorem dX12_stick_133 : decode cX12_stick 133 = .ok (.ireturn, 1) := by decide +kernel
def f_X12_stick_93 (K93 : St → Int32 → Int32 → Int32 × St) (σ : St) (a4 : Int32) (a5 : Int32) : Int32 × St := (if (4 : Int32) ≤ a5 then (a4, (up2 σ 1 0 ((σ 1 0) + (1 : Int32)))) else (K93 (up2 σ 1 (ix (((27 : Int32) + ((4 : Int32) * a4)) + a5)) (0 : Int32)) a4 (a5 + (1 : Int32))))
set_option maxHeartbeats 600000 in
set_option maxRecDepth 100000 in
theorem b_X12_stick_93 {g : GG} {p : Program} {l : Launch} {e : Env} {s : State} {m : MethodId} {args : Array Value} {below : List Frame} {meth : Method} {c : Code} {A : Nat → Prop} {tgt : Int32 × St} {K93 : St → Int32 → Int32 → Int32 × St} {N93 : Nat} (C0 : BC p s m args meth c cX12_stick RX12 6 (some .int)) (hK93 : ∀ (σ : St) (a4 : Int32) (a5 : Int32), (0 ≤ a4.toInt) → (a4.toInt < 6) → (0 ≤ a5.toInt) → (4 - a5.toInt).toNat < N93 → ∀ {H : Heap} {locs : List Loc}, KK g s → WC g (mW g) A s.heap σ H locs →  ∀ {ls : Array Slot}, lv_has ls 6 [(0, .ref (g.2.2 100)), (4, .int (a4)), (5, .int (a5))] → K93 σ a4 a5 = tgt → W p l e { frames := 1, cells := 0, slots := 0, locals := 22 } s m args below meth c H locs 0 0 (QMI below args s g (mW g) A tgt) (F0 m 93 ls [])) {σ : St} {a4 : Int32} {a5 : Int32} {H : Heap} {locs : List Loc} (h4 : 0 ≤ a4.toInt) (h4b : a4.toInt < 6) (h5 : 0 ≤ a5.toInt) (hm : (4 - a5.toInt).toNat < N93 + 1) (hK : KK g s) (hC : WC g (mW g) A s.heap σ H locs) {ls : Array Slot} (hl : lv_has ls 6 [(0, .ref (g.2.2 100)), (4, .int (a4)), (5, .int (a5))]) (hT : f_X12_stick_93 K93 σ a4 a5 = tgt) : W p l e { frames := 1, cells := 0, slots := 0, locals := 22 } s m args below meth c H locs 0 0 (QMI below args s g (mW g) A tgt) (F0 m 93 ls []) := by
  obtain ⟨hx, hb, hr, hml, hown, hts, hlocks⟩ := id C0
  unfold f_X12_stick_93 at hT
  refine lv_iload hx hb dX12_stick_93 (lv_at hl 2 rfl) ?_
  refine lv_iconst (v := (4 : Int32)) hx hb dX12_stick_95 (by decide) ?_
  refine lv_icmp_ge (tgt := 121) hx hb dX12_stick_96 (by decide) (fun c_96 => ?_) (fun c_96 => ?_)
  · have hT := hT_pos c_96 hT
    refine lv_aload_n hx hb dX12_stick_121 rfl (lv_at hl 0 rfl) ?_
    refine m_get (σ := σ) (v := .ref (g.2.2 1)) C0 hK hC.1 1 (by decide) rfl w_968 dX12_stick_122 ?_
    refine lv_iconst (v := (0 : Int32)) hx hb dX12_stick_125 (by decide) ?_
    refine lv_dup2_11 hx hb dX12_stick_126 rfl rfl ?_
    refine m_ald (σ := σ) C0 hK hC.1 1 1 916 rfl (vin_l (by decide)) 0 (by decide) dX12_stick_127 ?_
    refine lv_iconst (v := (1 : Int32)) hx hb dX12_stick_128 (by decide) ?_
    refine lv_iadd hx hb dX12_stick_129 ?_
    refine m_ast (σ := σ) C0 hK hC 1 1 916 rfl (ms_1 g _) (vin_l (by decide)) 0 (by decide) dX12_stick_130 (fun H locs hC => ?_)
    refine lv_iload hx hb dX12_stick_131 (lv_at hl 1 rfl) ?_
    exact ret_MI C0 hC hT dX12_stick_133
  · have hT := hT_neg c_96 hT
    refine lv_aload_n hx hb dX12_stick_99 rfl (lv_at hl 0 rfl) ?_
    refine m_get (σ := σ) (v := .ref (g.2.2 1)) C0 hK hC.1 1 (by decide) rfl w_968 dX12_stick_100 ?_
    refine lv_bipush (v := (27 : Int32)) hx hb dX12_stick_103 (by decide) ?_
    refine lv_iconst (v := (4 : Int32)) hx hb dX12_stick_105 (by decide) ?_
    refine lv_iload hx hb dX12_stick_106 (lv_at hl 1 rfl) ?_
    refine lv_imul hx hb dX12_stick_108 ?_
    refine lv_iadd hx hb dX12_stick_109 ?_
    refine lv_iload hx hb dX12_stick_110 (lv_at hl 2 rfl) ?_
    refine lv_iadd hx hb dX12_stick_112 ?_
    refine lv_iconst (v := (0 : Int32)) hx hb dX12_stick_113 (by decide) ?_
    have o_114 : vp_in (((27 : Int32) + ((4 : Int32) * a4)) + a5) 916 := by
      have : ((4 : Int32)).toInt = 4 := by decide
      have : ((27 : Int32)).toInt = 27 := by decide
      have := mt ti_le.mpr c_96
      try have := ti_mulR (a := (4 : Int32)) (b := a4) (n := 4) (by decide) (by omega) (by omega)
      try have := ti_add (a := (27 : Int32)) (b := ((4 : Int32) * a4)) (by omega) (by omega)
      try have := ti_add (a := ((27 : Int32) + ((4 : Int32) * a4))) (b := a5) (by omega) (by omega)
      exact vin (by omega) (by omega)
    refine m_ast (σ := σ) C0 hK hC 1 1 916 rfl (ms_1 g _) o_114 (ix (((27 : Int32) + ((4 : Int32) * a4)) + a5)) rfl dX12_stick_114 (fun H locs hC => ?_)
    refine lv_iinc (v := (a5 + (1 : Int32))) (lv' := [(5, .int ((a5 + (1 : Int32)))), (0, .ref (g.2.2 100)), (4, .int (a4))]) hx hb dX12_stick_115 hl (k := 2) rfl rfl (by decide) rfl (fun ls hl => ?_)
    refine lv_goto (tgt := 93) hx hb dX12_stick_118 (by decide) ?_
    have j118_h5 : 0 ≤ (a5 + (1 : Int32)).toInt := by
      have : ((4 : Int32)).toInt = 4 := by decide
      have : ((1 : Int32)).toInt = 1 := by decide
      have := mt ti_le.mpr c_96
      try have := ti_add (a := a5) (b := (1 : Int32)) (by omega) (by omega)
      omega
    have j118_m : (4 - (a5 + (1 : Int32)).toInt).toNat < N93 := by
      have : ((4 : Int32)).toInt = 4 := by decide
      have : ((1 : Int32)).toInt = 1 := by decide
      have := mt ti_le.mpr c_96
      try have := ti_add (a := a5) (b := (1 : Int32)) (by omega) (by omega)
      omega
    exact hK93 (up2 σ 1 (ix (((27 : Int32) + ((4 : Int32) * a4)) + a5)) (0 : Int32)) a4 (a5 + (1 : Int32)) h4 h4b j118_h5 j118_m hK hC (lv_sub hl [1, 2, 0] rfl) hT
def g_X12_stick_93  : Nat → St → Int32 → Int32 → Int32 × St
  | 0 => fun σ a4 a5 => (0, σ)
  | n + 1 => fun σ a4 a5 => f_X12_stick_93  (g_X12_stick_93  n) σ a4 a5
theorem l_X12_stick_93 {g : GG} {p : Program} {l : Launch} {e : Env} {s : State} {m : MethodId} {args : Array Value} {below : List Frame} {meth : Method} {c : Code} {A : Nat → Prop} {tgt : Int32 × St}  (C0 : BC p s m args meth c cX12_stick RX12 6 (some .int))  : ∀ (n : Nat) (σ : St) (a4 : Int32) (a5 : Int32), (0 ≤ a4.toInt) → (a4.toInt < 6) → (0 ≤ a5.toInt) → (4 - a5.toInt).toNat < n → ∀ {H : Heap} {locs : List Loc}, KK g s → WC g (mW g) A s.heap σ H locs →  ∀ {ls : Array Slot}, lv_has ls 6 [(0, .ref (g.2.2 100)), (4, .int (a4)), (5, .int (a5))] → g_X12_stick_93  n σ a4 a5 = tgt → W p l e { frames := 1, cells := 0, slots := 0, locals := 22 } s m args below meth c H locs 0 0 (QMI below args s g (mW g) A tgt) (F0 m 93 ls []) := by
  intro n
  induction n with
  | zero => intro σ a4 a5 h4 h4b h5 hm; exact absurd hm (Nat.not_lt_zero _)
  | succ n ih =>
    intro σ a4 a5 h4 h4b h5 hm H locs hK hC ls hl hT
    exact b_X12_stick_93  (K93 := g_X12_stick_93  n) (N93 := n) C0  (fun σ a4 a5 h4 h4b h5 hmq => ih σ a4 a5 h4 h4b h5 hmq) h4 h4b h5 hm hK hC hl hT
def f_X12_stick (σ : St) (a1 : Int32) (a2 : Int32) (a3 : Int32) : Int32 × St := (if (f_X12_in a1 (0 : Int32) (6 : Int32)) = 0 then ((-1 : Int32), σ) else (if (f_X12_in a2 (0 : Int32) (9 : Int32)) = 0 then ((-2 : Int32), σ) else (if (f_X12_in a3 (2 : Int32) (60 : Int32)) = 0 then ((-2 : Int32), σ) else (if (σ 1 0) = (6 : Int32) then ((-4 : Int32), σ) else (g_X12_stick_93  (5) (up2 (up2 (up2 σ 1 (ix ((9 : Int32) + (σ 1 0))) a1) 1 (ix ((15 : Int32) + (σ 1 0))) a2) 1 (ix ((21 : Int32) + (σ 1 0))) a3) (σ 1 0) (0 : Int32))))))
set_option maxHeartbeats 600000 in
set_option maxRecDepth 100000 in
theorem k_X12_stick (l : Launch) (g : GG) (σ : St) (a1 : Int32) (a2 : Int32) (a3 : Int32) (hI : IB (σ 1)) : MI l yX12_stick (wsF yX12_stick cX12_stick 6 (some .int)) { frames := 1, cells := 0, slots := 0, locals := 22 } [.ref (g.2.2 100), .int (a1), .int (a2), .int (a3)] g (mW g) (fun _ => True) σ (f_X12_stick σ a1 a2 a3) := by
  refine start_MI (by decide) (Nat.le_of_ble_eq_true rfl) ?_
  intro p e s m args below meth c C0 hK hB hC ls hl
  generalize hAe : aA ((mW g) σ) = A at hC ⊢
  obtain ⟨hx, hb, hr, hml, hown, hts, hlocks⟩ := id C0
  have hl : lv_has ls 6 [(0, .ref (g.2.2 100)), (1, .int (a1)), (2, .int (a2)), (3, .int (a3))] := hl
  generalize hT : (f_X12_stick σ a1 a2 a3) = tgt
  suffices key : ∀ (H : Heap) (locs : List Loc), WC g (mW g) A s.heap σ H locs → W p l e { frames := 1, cells := 0, slots := 0, locals := 22 } s m args below meth c H locs 0 0 (QMI below args s g (mW g) A tgt) (F0 m 0 ls []) from key _ _ hC
  intro H locs hC
  unfold f_X12_stick at hT
  obtain ⟨⟨i0, i0'⟩, ⟨i1, i1'⟩, ⟨i2, i2'⟩, ⟨i3, i3'⟩, ⟨i4, i4'⟩, ⟨i5, i5'⟩, ⟨i6, i6'⟩, ⟨i7, i7'⟩, ⟨i8, i8'⟩, iK, iV, iL, iR, iW, iY, iG, iM, iB, iQ, iP, iT, iU⟩ := id hI
  refine lv_iload_n hx hb dX12_stick_0 rfl (lv_at hl 1 rfl) ?_
  refine lv_iconst (v := (0 : Int32)) hx hb dX12_stick_1 (by decide) ?_
  refine lv_bipush (v := (6 : Int32)) hx hb dX12_stick_2 (by decide) ?_
  refine s_ci (rest := []) (As := [.int (a1), .int ((0 : Int32)), .int ((6 : Int32))]) C0 cf_X12_in w_1060 (k_X12_in l a1 (0 : Int32) (6 : Int32) ) ⟨by decide, by decide⟩ hl.1 rfl rfl (Nat.le_of_ble_eq_true rfl) dX12_stick_4 ⟨Nat.zero_le _, Nat.zero_le _⟩ ?_
  refine lv_if_ne (tgt := 12) hx hb dX12_stick_7 (by decide) (fun c_7 => ?_) (fun c_7 => ?_)
  · have hT := hT_neg c_7 hT
    refine lv_iload_n hx hb dX12_stick_12 rfl (lv_at hl 2 rfl) ?_
    refine lv_iconst (v := (0 : Int32)) hx hb dX12_stick_13 (by decide) ?_
    refine lv_bipush (v := (9 : Int32)) hx hb dX12_stick_14 (by decide) ?_
    refine s_ci (rest := []) (As := [.int (a2), .int ((0 : Int32)), .int ((9 : Int32))]) C0 cf_X12_in w_1060 (k_X12_in l a2 (0 : Int32) (9 : Int32) ) ⟨by decide, by decide⟩ hl.1 rfl rfl (Nat.le_of_ble_eq_true rfl) dX12_stick_16 ⟨Nat.zero_le _, Nat.zero_le _⟩ ?_
    refine lv_if_eq (tgt := 32) hx hb dX12_stick_19 (by decide) (fun c_19 => ?_) (fun c_19 => ?_)
    · have hT := hT_pos c_19 hT
      refine lv_bipush (v := (-2 : Int32)) hx hb dX12_stick_32 (by decide) ?_
      exact ret_MI C0 hC hT dX12_stick_34
    · have hT := hT_neg c_19 hT
      refine lv_iload_n hx hb dX12_stick_22 rfl (lv_at hl 3 rfl) ?_
      refine lv_iconst (v := (2 : Int32)) hx hb dX12_stick_23 (by decide) ?_
      refine lv_bipush (v := (60 : Int32)) hx hb dX12_stick_24 (by decide) ?_
      refine s_ci (rest := []) (As := [.int (a3), .int ((2 : Int32)), .int ((60 : Int32))]) C0 cf_X12_in w_1060 (k_X12_in l a3 (2 : Int32) (60 : Int32) ) ⟨by decide, by decide⟩ hl.1 rfl rfl (Nat.le_of_ble_eq_true rfl) dX12_stick_26 ⟨Nat.zero_le _, Nat.zero_le _⟩ ?_
      refine lv_if_ne (tgt := 35) hx hb dX12_stick_29 (by decide) (fun c_29 => ?_) (fun c_29 => ?_)
      · have hT := hT_neg c_29 hT
        refine lv_aload_n hx hb dX12_stick_35 rfl (lv_at hl 0 rfl) ?_
        refine m_get (σ := σ) (v := .ref (g.2.2 1)) C0 hK hC.1 1 (by decide) rfl w_968 dX12_stick_36 ?_
        refine lv_iconst (v := (0 : Int32)) hx hb dX12_stick_39 (by decide) ?_
        refine m_ald (σ := σ) C0 hK hC.1 1 1 916 rfl (vin_l (by decide)) 0 (by decide) dX12_stick_40 ?_
        refine lv_bipush (v := (6 : Int32)) hx hb dX12_stick_41 (by decide) ?_
        refine lv_icmp_ne (tgt := 49) hx hb dX12_stick_43 (by decide) (fun c_43 => ?_) (fun c_43 => ?_)
        · have hT := hT_neg c_43 hT
          refine lv_aload_n hx hb dX12_stick_49 rfl (lv_at hl 0 rfl) ?_
          refine m_get (σ := σ) (v := .ref (g.2.2 1)) C0 hK hC.1 1 (by decide) rfl w_968 dX12_stick_50 ?_
          refine lv_iconst (v := (0 : Int32)) hx hb dX12_stick_53 (by decide) ?_
          refine m_ald (σ := σ) C0 hK hC.1 1 1 916 rfl (vin_l (by decide)) 0 (by decide) dX12_stick_54 ?_
          refine lv_istore (lv' := [(4, .int ((σ 1 0))), (0, .ref (g.2.2 100)), (1, .int (a1)), (2, .int (a2)), (3, .int (a3))]) hx hb dX12_stick_55 hl (by decide) rfl (fun ls hl => ?_)
          refine lv_aload_n hx hb dX12_stick_57 rfl (lv_at hl 1 rfl) ?_
          refine m_get (σ := σ) (v := .ref (g.2.2 1)) C0 hK hC.1 1 (by decide) rfl w_968 dX12_stick_58 ?_
          refine lv_bipush (v := (9 : Int32)) hx hb dX12_stick_61 (by decide) ?_
          refine lv_iload hx hb dX12_stick_63 (lv_at hl 0 rfl) ?_
          refine lv_iadd hx hb dX12_stick_65 ?_
          refine lv_iload_n hx hb dX12_stick_66 rfl (lv_at hl 2 rfl) ?_
          have o_67 : vp_in ((9 : Int32) + (σ 1 0)) 916 := by
            have : ((0 : Int32)).toInt = 0 := by decide
            have : ((6 : Int32)).toInt = 6 := by decide
            have : ((9 : Int32)).toInt = 9 := by decide
            have : ((2 : Int32)).toInt = 2 := by decide
            have : ((60 : Int32)).toInt = 60 := by decide
            have := in_ne c_7
            have := in_ne c_19
            have := in_ne c_29
            have := mt ti_eq.mpr c_43
            try have := ti_add (a := (9 : Int32)) (b := (σ 1 0)) (by omega) (by omega)
            exact vin (by omega) (by omega)
          refine m_ast (σ := σ) C0 hK hC 1 1 916 rfl (ms_1 g _) o_67 (ix ((9 : Int32) + (σ 1 0))) rfl dX12_stick_67 (fun H locs hC => ?_)
          refine lv_aload_n hx hb dX12_stick_68 rfl (lv_at hl 1 rfl) ?_
          refine m_get (σ := (up2 σ 1 (ix ((9 : Int32) + (σ 1 0))) a1)) (v := .ref (g.2.2 1)) C0 hK hC.1 1 (by decide) rfl w_968 dX12_stick_69 ?_
          refine lv_bipush (v := (15 : Int32)) hx hb dX12_stick_72 (by decide) ?_
          refine lv_iload hx hb dX12_stick_74 (lv_at hl 0 rfl) ?_
          refine lv_iadd hx hb dX12_stick_76 ?_
          refine lv_iload_n hx hb dX12_stick_77 rfl (lv_at hl 3 rfl) ?_
          have o_78 : vp_in ((15 : Int32) + (σ 1 0)) 916 := by
            have : ((0 : Int32)).toInt = 0 := by decide
            have : ((6 : Int32)).toInt = 6 := by decide
            have : ((9 : Int32)).toInt = 9 := by decide
            have : ((2 : Int32)).toInt = 2 := by decide
            have : ((60 : Int32)).toInt = 60 := by decide
            have : ((15 : Int32)).toInt = 15 := by decide
            have := in_ne c_7
            have := in_ne c_19
            have := in_ne c_29
            have := mt ti_eq.mpr c_43
            try have := ti_add (a := (15 : Int32)) (b := (σ 1 0)) (by omega) (by omega)
            exact vin (by omega) (by omega)
          refine m_ast (σ := (up2 σ 1 (ix ((9 : Int32) + (σ 1 0))) a1)) C0 hK hC 1 1 916 rfl (ms_1 g _) o_78 (ix ((15 : Int32) + (σ 1 0))) rfl dX12_stick_78 (fun H locs hC => ?_)
          refine lv_aload_n hx hb dX12_stick_79 rfl (lv_at hl 1 rfl) ?_
          refine m_get (σ := (up2 (up2 σ 1 (ix ((9 : Int32) + (σ 1 0))) a1) 1 (ix ((15 : Int32) + (σ 1 0))) a2)) (v := .ref (g.2.2 1)) C0 hK hC.1 1 (by decide) rfl w_968 dX12_stick_80 ?_
          refine lv_bipush (v := (21 : Int32)) hx hb dX12_stick_83 (by decide) ?_
          refine lv_iload hx hb dX12_stick_85 (lv_at hl 0 rfl) ?_
          refine lv_iadd hx hb dX12_stick_87 ?_
          refine lv_iload_n hx hb dX12_stick_88 rfl (lv_at hl 4 rfl) ?_
          have o_89 : vp_in ((21 : Int32) + (σ 1 0)) 916 := by
            have : ((0 : Int32)).toInt = 0 := by decide
            have : ((6 : Int32)).toInt = 6 := by decide
            have : ((9 : Int32)).toInt = 9 := by decide
            have : ((2 : Int32)).toInt = 2 := by decide
            have : ((60 : Int32)).toInt = 60 := by decide
            have : ((21 : Int32)).toInt = 21 := by decide
            have := in_ne c_7
            have := in_ne c_19
            have := in_ne c_29
            have := mt ti_eq.mpr c_43
            try have := ti_add (a := (21 : Int32)) (b := (σ 1 0)) (by omega) (by omega)
            exact vin (by omega) (by omega)
          refine m_ast (σ := (up2 (up2 σ 1 (ix ((9 : Int32) + (σ 1 0))) a1) 1 (ix ((15 : Int32) + (σ 1 0))) a2)) C0 hK hC 1 1 916 rfl (ms_1 g _) o_89 (ix ((21 : Int32) + (σ 1 0))) rfl dX12_stick_89 (fun H locs hC => ?_)
          refine lv_iconst (v := (0 : Int32)) hx hb dX12_stick_90 (by decide) ?_
          refine lv_istore (lv' := [(5, .int ((0 : Int32))), (4, .int ((σ 1 0))), (0, .ref (g.2.2 100)), (1, .int (a1)), (2, .int (a2)), (3, .int (a3))]) hx hb dX12_stick_91 hl (by decide) rfl (fun ls hl => ?_)
          have j91_h4 : 0 ≤ (σ 1 0).toInt := by
            have : ((0 : Int32)).toInt = 0 := by decide
            have : ((6 : Int32)).toInt = 6 := by decide
            have : ((9 : Int32)).toInt = 9 := by decide
            have : ((2 : Int32)).toInt = 2 := by decide
            have : ((60 : Int32)).toInt = 60 := by decide
            have := in_ne c_7
            have := in_ne c_19
            have := in_ne c_29
            have := mt ti_eq.mpr c_43
            omega
          have j91_h4b : (σ 1 0).toInt < 6 := by
            have : ((0 : Int32)).toInt = 0 := by decide
            have : ((6 : Int32)).toInt = 6 := by decide
            have : ((9 : Int32)).toInt = 9 := by decide
            have : ((2 : Int32)).toInt = 2 := by decide
            have : ((60 : Int32)).toInt = 60 := by decide
            have := in_ne c_7
            have := in_ne c_19
            have := in_ne c_29
            have := mt ti_eq.mpr c_43
            omega
          have j91_h5 : 0 ≤ (0 : Int32).toInt := by
            have : ((0 : Int32)).toInt = 0 := by decide
            have : ((6 : Int32)).toInt = 6 := by decide
            have : ((9 : Int32)).toInt = 9 := by decide
            have : ((2 : Int32)).toInt = 2 := by decide
            have : ((60 : Int32)).toInt = 60 := by decide
            have := in_ne c_7
            have := in_ne c_19
            have := in_ne c_29
            have := mt ti_eq.mpr c_43
            omega
          have j91_m : (4 - (0 : Int32).toInt).toNat < 5 := by
            have : ((0 : Int32)).toInt = 0 := by decide
            have : ((6 : Int32)).toInt = 6 := by decide
            have : ((9 : Int32)).toInt = 9 := by decide
            have : ((2 : Int32)).toInt = 2 := by decide
            have : ((60 : Int32)).toInt = 60 := by decide
            have := in_ne c_7
            have := in_ne c_19
            have := in_ne c_29
            have := mt ti_eq.mpr c_43
            omega
          exact l_X12_stick_93  C0   (5) (up2 (up2 (up2 σ 1 (ix ((9 : Int32) + (σ 1 0))) a1) 1 (ix ((15 : Int32) + (σ 1 0))) a2) 1 (ix ((21 : Int32) + (σ 1 0))) a3) (σ 1 0) (0 : Int32) j91_h4 j91_h4b j91_h5 j91_m hK hC (lv_sub hl [2, 1, 0] rfl) hT
        · have hT := hT_pos c_43 hT
          refine lv_bipush (v := (-4 : Int32)) hx hb dX12_stick_46 (by decide) ?_
          exact ret_MI C0 hC hT dX12_stick_48
      · have hT := hT_pos c_29 hT
        refine lv_bipush (v := (-2 : Int32)) hx hb dX12_stick_32 (by decide) ?_
        exact ret_MI C0 hC hT dX12_stick_34
  · have hT := hT_pos c_7 hT
    refine lv_iconst (v := (-1 : Int32)) hx hb dX12_stick_10 (by decide) ?_
    exact ret_MI C0 hC hT dX12_stick_11
