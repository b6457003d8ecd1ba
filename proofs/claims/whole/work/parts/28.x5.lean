
theorem tellMiddles_in {ρ : RR} {dt : Nat → Nat → Int32} {k : Nat} (h6 : k ≠ 6) (h7 : k ≠ 7) (K : St → Int32 → Int32 → St) (hK : ∀ σ a1 a2, (K σ a1 a2) k = σ k) (n : Nat) : ∀ (σ : St) (a1 a2 : Int32) (a3 : Nat) (a4 : Int32), (g_X11_tellMiddles_25 ρ dt K n σ a1 a2 a3 a4) k = σ k := by
  induction n with
  | zero => intro σ a1 a2 a3 a4; rfl
  | succ n ih =>
    intro σ a1 a2 a3 a4
    show (f_X11_tellMiddles_25 ρ dt K (g_X11_tellMiddles_25 ρ dt K n) σ a1 a2 a3 a4) k = σ k
    unfold f_X11_tellMiddles_25
    simp only [f_X11_tellMiddles_91]
    split
    · rw [hK]
    · rw [ih]
      simp [up2, upC, h6, h7]
theorem tellMiddles_out {ρ : RR} {dt : Nat → Nat → Int32} {k : Nat} (h6 : k ≠ 6) (h7 : k ≠ 7) (n : Nat) : ∀ (σ : St) (a1 a2 : Int32), (g_X11_tellMiddles_2 ρ dt n σ a1 a2) k = σ k := by
  induction n with
  | zero => intro σ a1 a2; rfl
  | succ n ih =>
    intro σ a1 a2
    show (f_X11_tellMiddles_2 ρ dt (g_X11_tellMiddles_2 ρ dt n) σ a1 a2) k = σ k
    unfold f_X11_tellMiddles_2
    split
    · rfl
    · rw [tellMiddles_in h6 h7 _ ih]
theorem tellMiddles_k {ρ : RR} {dt : Nat → Nat → Int32} {k : Nat} (h6 : k ≠ 6) (h7 : k ≠ 7) (σ : St) (a : Int32) : (f_X11_tellMiddles ρ dt σ a) k = σ k := tellMiddles_out h6 h7 _ _ _ _
theorem tellMiddles_IX {ρ : RR} {dt : Nat → Nat → Int32} {σ : St} {a : Int32} (hX : IX σ) : IX (f_X11_tellMiddles ρ dt σ a) := IX_of (fun k hk => tellMiddles_k (by rintro rfl; exact absurd hk (by decide)) (by rintro rfl; exact absurd hk (by decide)) σ a) hX
set_option maxRecDepth 20000 in
theorem w_720 : (Cond.methodLink RX11 184 yX11_findSurest) ∈ TB := inTB (List.mem_of_getElem? (i := 720) (by decide +kernel)) (by decide +kernel)
set_option maxRecDepth 20000 in
theorem w_723 : (Cond.code yX11_findSurest cX11_findSurest 9 (some .boolean)) ∈ TB := inTB (List.mem_of_getElem? (i := 723) (by decide +kernel)) (by decide +kernel)
set_option maxRecDepth 20000 in
theorem w_722 : (Cond.instanceMethod yX11_findSurest) ∈ TB := inTB (List.mem_of_getElem? (i := 722) (by decide +kernel)) (by decide +kernel)
set_option maxRecDepth 20000 in
theorem w_22 : (Cond.selects RX11 yX11_findSurest yX11_findSurest) ∈ TB := inTB (List.mem_of_getElem? (i := 22) (by decide +kernel)) (by decide +kernel)
theorem cf_X11_findSurest : CF yX11_findSurest cX11_findSurest 9 (some .boolean) 2 := ⟨w_722, w_22, w_71, w_723, by decide +kernel, by decide +kernel, by decide +kernel⟩
/-! ThreeMeasures.surest -/
theorem dX11_surest_0 : decode cX11_surest 0 = .ok (.aload_n 0, 1) := by decide +kernel
theorem dX11_surest_1 : decode cX11_surest 1 = .ok (.getfield 12, 3) := by decide +kernel
theorem dX11_surest_4 : decode cX11_surest 4 = .ok (.iload_n 1, 1) := by decide +kernel
theorem dX11_surest_5 : decode cX11_surest 5 = .ok (.invokevirtual 121, 3) := by decide +kernel
theorem dX11_surest_8 : decode cX11_surest 8 = .ok (.ifCond .eq 12, 3) := by decide +kernel
theorem dX11_surest_11 : decode cX11_surest 11 = .ok (.iload_n 3, 1) := by decide +kernel
theorem dX11_surest_12 : decode cX11_surest 12 = .ok (.ifCond .lt 8, 3) := by decide +kernel
theorem dX11_surest_15 : decode cX11_surest 15 = .ok (.iload_n 3, 1) := by decide +kernel
theorem dX11_surest_16 : decode cX11_surest 16 = .ok (.iconst 2, 1) := by decide +kernel
theorem dX11_surest_17 : decode cX11_surest 17 = .ok (.if_icmp .le 5, 3) := by decide +kernel
theorem dX11_surest_20 : decode cX11_surest 20 = .ok (.iconst (-1), 1) := by decide +kernel
theorem dX11_surest_21 : decode cX11_surest 21 = .ok (.ireturn, 1) := by decide +kernel
theorem dX11_surest_22 : decode cX11_surest 22 = .ok (.iload_n 2, 1) := by decide +kernel
theorem dX11_surest_23 : decode cX11_surest 23 = .ok (.iconst 1, 1) := by decide +kernel
theorem dX11_surest_24 : decode cX11_surest 24 = .ok (.if_icmp .lt 10, 3) := by decide +kernel
theorem dX11_surest_27 : decode cX11_surest 27 = .ok (.iload_n 2, 1) := by decide +kernel
theorem dX11_surest_28 : decode cX11_surest 28 = .ok (.sipush 999, 3) := by decide +kernel
theorem dX11_surest_31 : decode cX11_surest 31 = .ok (.if_icmp .le 6, 3) := by decide +kernel
theorem dX11_surest_34 : decode cX11_surest 34 = .ok (.bipush (-2), 2) := by decide +kernel
theorem dX11_surest_36 : decode cX11_surest 36 = .ok (.ireturn, 1) := by decide +kernel
theorem dX11_surest_37 : decode cX11_surest 37 = .ok (.aload_n 0, 1) := by decide +kernel
theorem dX11_surest_38 : decode cX11_surest 38 = .ok (.iload_n 1, 1) := by decide +kernel
theorem dX11_surest_39 : decode cX11_surest 39 = .ok (.iload_n 2, 1) := by decide +kernel
theorem dX11_surest_40 : decode cX11_surest 40 = .ok (.invokevirtual 184, 3) := by decide +kernel
theorem dX11_surest_43 : decode cX11_surest 43 = .ok (.ifCond .eq 12, 3) := by decide +kernel
theorem dX11_surest_46 : decode cX11_surest 46 = .ok (.aload_n 0, 1) := by decide +kernel
theorem dX11_surest_47 : decode cX11_surest 47 = .ok (.getfield 39, 3) := by decide +kernel
theorem dX11_surest_50 : decode cX11_surest 50 = .ok (.iload_n 3, 1) := by decide +kernel
theorem dX11_surest_51 : decode cX11_surest 51 = .ok (.iaload, 1) := by decide +kernel
theorem dX11_surest_52 : decode cX11_surest 52 = .ok (.goto 5, 3) := by decide +kernel
theorem dX11_surest_55 : decode cX11_surest 55 = .ok (.bipush (-5), 2) := by decide +kernel
theorem dX11_surest_57 : decode cX11_surest 57 = .ok (.ireturn, 1) := by decide +kernel
def f_X11_surest (ρ : RR) (dt : Nat → Nat → Int32) (σ : St) (a1 : Int32) (a2 : Int32) (a3 : Int32) : Int32 × St := (if (f_X5_isWall σ a1) = 0 then ((-1 : Int32), σ) else (if a3 < 0 then ((-1 : Int32), σ) else (if a3 ≤ (2 : Int32) then (if a2 < (1 : Int32) then ((-2 : Int32), σ) else (if a2 ≤ (999 : Int32) then (bd (f_X11_findSurest ρ dt σ a1 a2) (fun r40 u40 => ((if r40 = 0 then (-5 : Int32) else (u40 5 (ix a3))), u40))) else ((-2 : Int32), σ))) else ((-1 : Int32), σ))))
set_option maxHeartbeats 600000 in
set_option maxRecDepth 100000 in
theorem k_X11_surest (l : Launch) (g : GG) (ρ : RR) (dt : Nat → Nat → Int32) (σ : St) (a1 : Int32) (a2 : Int32) (a3 : Int32) (hX : IX σ) (hN : NN ρ (σ 25)) : MI l yX11_surest (wsF yX11_surest cX11_surest 4 (some .int)) { frames := 5, cells := 0, slots := 0, locals := 130 } [.ref (g.2.2 100), .int (a1), .int (a2), .int (a3)] g (xW g ρ) (XB g ρ dt) σ (f_X11_surest ρ dt σ a1 a2 a3) := by
  refine start_MI (by decide) (Nat.le_of_ble_eq_true rfl) ?_
  intro p e s m args below meth c C0 hK hB hC ls hl
  generalize hAe : aA ((xW g ρ) σ) = A at hC ⊢
  have hA : ∀ q, A q → q ∈ adrs (xW g (fun _ _ => none) (fun _ _ => 0)) := fun q h => by rw [← hAe] at h; exact h
  obtain ⟨hx, hb, hr, hml, hown, hts, hlocks⟩ := id C0
  have hl : lv_has ls 4 [(0, .ref (g.2.2 100)), (1, .int (a1)), (2, .int (a2)), (3, .int (a3))] := hl
  generalize hT : (f_X11_surest ρ dt σ a1 a2 a3) = tgt
  suffices key : ∀ (H : Heap) (locs : List Loc), WC g (xW g ρ) A s.heap σ H locs → W p l e { frames := 5, cells := 0, slots := 0, locals := 130 } s m args below meth c H locs 0 0 (QMI below args s g (xW g ρ) A tgt) (F0 m 0 ls []) from key _ _ hC
  intro H locs hC
  unfold f_X11_surest at hT
  obtain ⟨⟨j1, j1'⟩, ⟨j3, j3'⟩, ⟨j5, j5'⟩, ⟨j8, j8'⟩, ⟨j9, j9'⟩, ⟨j12, j12'⟩, ⟨j14, j14'⟩, ⟨j17, j17'⟩, j81, jW⟩ := id hX
  refine lv_aload_n hx hb dX11_surest_0 rfl (lv_at hl 0 rfl) ?_
  refine x_get (σ := σ) (v := .ref (g.2.2 101)) (fs := xF0 g ρ σ) 11 0 C0 uw_11 dc_11 hK hC.1 rfl rfl 0 (by decide) rfl w_229 dX11_surest_1 ?_
  refine lv_iload_n hx hb dX11_surest_4 rfl (lv_at hl 1 rfl) ?_
  refine x_cn (rest := []) (As := [.int (a1)]) (σ := σ) (ρ := ρ) (dt := dt) (T := TX5) (N := 18) (fs := xF1 g ρ σ) 5 1 rfl rfl C0 hK hC.1 (hC.2.1.weaken (fun _ _ _ _ => trivial)) (XH.wa hB hA hC) cf_X5_isWall w_615 (k_X5_isWall l g ρ dt σ a1 ) ⟨by decide, by decide⟩ hl.1 rfl rfl (Nat.le_of_ble_eq_true rfl) dX11_surest_5 ⟨Nat.zero_le _, Nat.zero_le _⟩ ?_
  refine lv_if_eq (tgt := 20) hx hb dX11_surest_8 (by decide) (fun c_8 => ?_) (fun c_8 => ?_)
  · have hT := hT_pos c_8 hT
    refine lv_iconst (v := (-1 : Int32)) hx hb dX11_surest_20 (by decide) ?_
    exact ret_MI C0 hC hT dX11_surest_21
  · have hT := hT_neg c_8 hT
    refine lv_iload_n hx hb dX11_surest_11 rfl (lv_at hl 3 rfl) ?_
    refine lv_if_lt (tgt := 20) hx hb dX11_surest_12 (by decide) (fun c_12 => ?_) (fun c_12 => ?_)
    · have hT := hT_pos c_12 hT
      refine lv_iconst (v := (-1 : Int32)) hx hb dX11_surest_20 (by decide) ?_
      exact ret_MI C0 hC hT dX11_surest_21
    · have hT := hT_neg c_12 hT
      refine lv_iload_n hx hb dX11_surest_15 rfl (lv_at hl 3 rfl) ?_
      refine lv_iconst (v := (2 : Int32)) hx hb dX11_surest_16 (by decide) ?_
      refine lv_icmp_le (tgt := 22) hx hb dX11_surest_17 (by decide) (fun c_17 => ?_) (fun c_17 => ?_)
      · have hT := hT_pos c_17 hT
        refine lv_iload_n hx hb dX11_surest_22 rfl (lv_at hl 2 rfl) ?_
        refine lv_iconst (v := (1 : Int32)) hx hb dX11_surest_23 (by decide) ?_
        refine lv_icmp_lt (tgt := 34) hx hb dX11_surest_24 (by decide) (fun c_24 => ?_) (fun c_24 => ?_)
        · have hT := hT_pos c_24 hT
          refine lv_bipush (v := (-2 : Int32)) hx hb dX11_surest_34 (by decide) ?_
          exact ret_MI C0 hC hT dX11_surest_36
        · have hT := hT_neg c_24 hT
          refine lv_iload_n hx hb dX11_surest_27 rfl (lv_at hl 2 rfl) ?_
          refine lv_sipush (v := (999 : Int32)) hx hb dX11_surest_28 (by decide) ?_
          refine lv_icmp_le (tgt := 37) hx hb dX11_surest_31 (by decide) (fun c_31 => ?_) (fun c_31 => ?_)
          · have hT := hT_pos c_31 hT
            refine lv_aload_n hx hb dX11_surest_37 rfl (lv_at hl 0 rfl) ?_
            refine lv_iload_n hx hb dX11_surest_38 rfl (lv_at hl 1 rfl) ?_
            refine lv_iload_n hx hb dX11_surest_39 rfl (lv_at hl 2 rfl) ?_
            refine x_mi (rest := []) (As := [.int (a1), .int (a2)]) (σ := σ) (ρ := ρ) (dt := dt) (T := TX11) (N := 10) (fs := xF0 g ρ σ) 11 0 rfl rfl C0 hK hC (XH.wa hB hA hC) cf_X11_findSurest w_720 (k_X11_findSurest l g ρ dt σ a1 a2 hX hN) ⟨by decide, by decide⟩ hl.1 rfl rfl (Nat.le_of_ble_eq_true rfl) dX11_surest_40 ⟨Nat.zero_le _, Nat.zero_le _⟩ (fun r40 u40 H locs e40 hC => ?_)
            have hT := bd_e e40 hT
            have J43 : ∀ v : Int32, v = (if r40 = 0 then (-5 : Int32) else (u40 5 (ix a3))) → W p l e { frames := 5, cells := 0, slots := 0, locals := 130 } s m args below meth c H locs 0 0 (QMI below args s g (xW g ρ) A tgt) (F0 m 57 ls [.int (v)]) := by
              intro v ev
              subst ev
              exact ret_MI C0 hC hT dX11_surest_57
            refine lv_if_eq (tgt := 55) hx hb dX11_surest_43 (by decide) (fun c_43 => ?_) (fun c_43 => ?_)
            · refine lv_bipush (v := (-5 : Int32)) hx hb dX11_surest_55 (by decide) ?_
              exact J43 _ (iv_pos c_43 rfl)
            · refine lv_aload_n hx hb dX11_surest_46 rfl (lv_at hl 0 rfl) ?_
              refine x_get (σ := u40) (v := .ref (g.2.2 5)) (fs := xF0 g ρ u40) 11 0 C0 uw_11 dc_11 hK hC.1 rfl rfl 5 (by decide) rfl w_234 dX11_surest_47 ?_
              refine lv_iload_n hx hb dX11_surest_50 rfl (lv_at hl 3 rfl) ?_
              have o_51 : vp_in a3 6 := by
                have : ((0 : Int32)).toInt = 0 := by decide
                have : ((2 : Int32)).toInt = 2 := by decide
                have : ((1 : Int32)).toInt = 1 := by decide
                have : ((999 : Int32)).toInt = 999 := by decide
                have := xw_ne c_8
                have := mt ti_lt.mpr c_12
                have := ti_le.mp c_17
                have := mt ti_lt.mpr c_24
                have := ti_le.mp c_31
                have := mt ti_eq.mpr c_43
                exact vin (by omega) (by omega)
              refine x_ald (σ := u40) C0 hK hC.1 5 5 6 rfl o_51 (ix a3) rfl dX11_surest_51 ?_
              refine lv_goto (tgt := 57) hx hb dX11_surest_52 (by decide) ?_
              exact J43 _ (iv_neg c_43 rfl)
          · have hT := hT_neg c_31 hT
            refine lv_bipush (v := (-2 : Int32)) hx hb dX11_surest_34 (by decide) ?_
            exact ret_MI C0 hC hT dX11_surest_36
      · have hT := hT_neg c_17 hT
        refine lv_iconst (v := (-1 : Int32)) hx hb dX11_surest_20 (by decide) ?_
        exact ret_MI C0 hC hT dX11_surest_21
set_option maxRecDepth 20000 in
theorem w_728 : (Cond.methodLink RX11 188 yX11_tellMiddles) ∈ TB := inTB (List.mem_of_getElem? (i := 728) (by decide +kernel)) (by decide +kernel)
set_option maxRecDepth 20000 in
theorem w_731 : (Cond.code yX11_tellMiddles cX11_tellMiddles 5 none) ∈ TB := inTB (List.mem_of_getElem? (i := 731) (by decide +kernel)) (by decide +kernel)
set_option maxRecDepth 20000 in
theorem w_730 : (Cond.instanceMethod yX11_tellMiddles) ∈ TB := inTB (List.mem_of_getElem? (i := 730) (by decide +kernel)) (by decide +kernel)
set_option maxRecDepth 20000 in
theorem w_23 : (Cond.selects RX11 yX11_tellMiddles yX11_tellMiddles) ∈ TB := inTB (List.mem_of_getElem? (i := 23) (by decide +kernel)) (by decide +kernel)
theorem cf_X11_tellMiddles : CF yX11_tellMiddles cX11_tellMiddles 5 none 1 := ⟨w_730, w_23, w_71, w_731, by decide +kernel, by decide +kernel, by decide +kernel⟩
set_option maxRecDepth 20000 in
theorem w_732 : (Cond.methodLink RX11 192 yX11_findTwice) ∈ TB := inTB (List.mem_of_getElem? (i := 732) (by decide +kernel)) (by decide +kernel)
set_option maxRecDepth 20000 in
theorem w_735 : (Cond.code yX11_findTwice cX11_findTwice 9 (some .boolean)) ∈ TB := inTB (List.mem_of_getElem? (i := 735) (by decide +kernel)) (by decide +kernel)
set_option maxRecDepth 20000 in
theorem w_734 : (Cond.instanceMethod yX11_findTwice) ∈ TB := inTB (List.mem_of_getElem? (i := 734) (by decide +kernel)) (by decide +kernel)
set_option maxRecDepth 20000 in
theorem w_24 : (Cond.selects RX11 yX11_findTwice yX11_findTwice) ∈ TB := inTB (List.mem_of_getElem? (i := 24) (by decide +kernel)) (by decide +kernel)
theorem cf_X11_findTwice : CF yX11_findTwice cX11_findTwice 9 (some .boolean) 1 := ⟨w_734, w_24, w_71, w_735, by decide +kernel, by decide +kernel, by decide +kernel⟩
/-! ThreeMeasures.twice -/
theorem dX11_twice_0 : decode cX11_twice 0 = .ok (.aload_n 0, 1) := by decide +kernel
theorem dX11_twice_1 : decode cX11_twice 1 = .ok (.getfield 12, 3) := by decide +kernel
theorem dX11_twice_4 : decode cX11_twice 4 = .ok (.iload_n 1, 1) := by decide +kernel
theorem dX11_twice_5 : decode cX11_twice 5 = .ok (.invokevirtual 121, 3) := by decide +kernel
theorem dX11_twice_8 : decode cX11_twice 8 = .ok (.ifCond .eq 12, 3) := by decide +kernel
theorem dX11_twice_11 : decode cX11_twice 11 = .ok (.iload_n 3, 1) := by decide +kernel
theorem dX11_twice_12 : decode cX11_twice 12 = .ok (.ifCond .lt 8, 3) := by decide +kernel
theorem dX11_twice_15 : decode cX11_twice 15 = .ok (.iload_n 3, 1) := by decide +kernel
theorem dX11_twice_16 : decode cX11_twice 16 = .ok (.iconst 5, 1) := by decide +kernel
theorem dX11_twice_17 : decode cX11_twice 17 = .ok (.if_icmp .le 5, 3) := by decide +kernel
theorem dX11_twice_20 : decode cX11_twice 20 = .ok (.iconst (-1), 1) := by decide +kernel
theorem dX11_twice_21 : decode cX11_twice 21 = .ok (.ireturn, 1) := by decide +kernel
theorem dX11_twice_22 : decode cX11_twice 22 = .ok (.iload_n 2, 1) := by decide +kernel
theorem dX11_twice_23 : decode cX11_twice 23 = .ok (.iconst 1, 1) := by decide +kernel
theorem dX11_twice_24 : decode cX11_twice 24 = .ok (.if_icmp .lt 10, 3) := by decide +kernel
theorem dX11_twice_27 : decode cX11_twice 27 = .ok (.iload_n 2, 1) := by decide +kernel
theorem dX11_twice_28 : decode cX11_twice 28 = .ok (.sipush 999, 3) := by decide +kernel
theorem dX11_twice_31 : decode cX11_twice 31 = .ok (.if_icmp .le 6, 3) := by decide +kernel
theorem dX11_twice_34 : decode cX11_twice 34 = .ok (.bipush (-2), 2) := by decide +kernel
theorem dX11_twice_36 : decode cX11_twice 36 = .ok (.ireturn, 1) := by decide +kernel
theorem dX11_twice_37 : decode cX11_twice 37 = .ok (.aload_n 0, 1) := by decide +kernel
theorem dX11_twice_38 : decode cX11_twice 38 = .ok (.iload_n 1, 1) := by decide +kernel
theorem dX11_twice_39 : decode cX11_twice 39 = .ok (.invokevirtual 188, 3) := by decide +kernel
theorem dX11_twice_42 : decode cX11_twice 42 = .ok (.aload_n 0, 1) := by decide +kernel
theorem dX11_twice_43 : decode cX11_twice 43 = .ok (.iload_n 2, 1) := by decide +kernel
theorem dX11_twice_44 : decode cX11_twice 44 = .ok (.invokevirtual 192, 3) := by decide +kernel
theorem dX11_twice_47 : decode cX11_twice 47 = .ok (.ifCond .eq 12, 3) := by decide +kernel
theorem dX11_twice_50 : decode cX11_twice 50 = .ok (.aload_n 0, 1) := by decide +kernel
theorem dX11_twice_51 : decode cX11_twice 51 = .ok (.getfield 39, 3) := by decide +kernel
theorem dX11_twice_54 : decode cX11_twice 54 = .ok (.iload_n 3, 1) := by decide +kernel
theorem dX11_twice_55 : decode cX11_twice 55 = .ok (.iaload, 1) := by decide +kernel
theorem dX11_twice_56 : decode cX11_twice 56 = .ok (.goto 5, 3) := by decide +kernel
theorem dX11_twice_59 : decode cX11_twice 59 = .ok (.bipush (-5), 2) := by decide +kernel
theorem dX11_twice_61 : decode cX11_twice 61 = .ok (.ireturn, 1) := by decide +kernel
def f_X11_twice (ρ : RR) (dt : Nat → Nat → Int32) (σ : St) (a1 : Int32) (a2 : Int32) (a3 : Int32) : Int32 × St := (if (f_X5_isWall σ a1) = 0 then ((-1 : Int32), σ) else (if a3 < 0 then ((-1 : Int32), σ) else (if a3 ≤ (5 : Int32) then (if a2 < (1 : Int32) then ((-2 : Int32), σ) else (if a2 ≤ (999 : Int32) then (bd1 (f_X11_tellMiddles ρ dt σ a1) (fun u39 => (bd (f_X11_findTwice u39 a2) (fun r44 u44 => ((if r44 = 0 then (-5 : Int32) else (u44 5 (ix a3))), u44))))) else ((-2 : Int32), σ))) else ((-1 : Int32), σ))))
set_option maxHeartbeats 600000 in
set_option maxRecDepth 100000 in
theorem k_X11_twice (l : Launch) (g : GG) (ρ : RR) (dt : Nat → Nat → Int32) (σ : St) (a1 : Int32) (a2 : Int32) (a3 : Int32) (hX : IX σ) (hN : NN ρ (σ 25)) : MI l yX11_twice (wsF yX11_twice cX11_twice 4 (some .int)) { frames := 4, cells := 0, slots := 0, locals := 103 } [.ref (g.2.2 100), .int (a1), .int (a2), .int (a3)] g (xW g ρ) (XB g ρ dt) σ (f_X11_twice ρ dt σ a1 a2 a3) := by
  refine start_MI (by decide) (Nat.le_of_ble_eq_true rfl) ?_
  intro p e s m args below meth c C0 hK hB hC ls hl
  generalize hAe : aA ((xW g ρ) σ) = A at hC ⊢
  have hA : ∀ q, A q → q ∈ adrs (xW g (fun _ _ => none) (fun _ _ => 0)) := fun q h => by rw [← hAe] at h; exact h
  obtain ⟨hx, hb, hr, hml, hown, hts, hlocks⟩ := id C0
  have hl : lv_has ls 4 [(0, .ref (g.2.2 100)), (1, .int (a1)), (2, .int (a2)), (3, .int (a3))] := hl
  generalize hT : (f_X11_twice ρ dt σ a1 a2 a3) = tgt
  suffices key : ∀ (H : Heap) (locs : List Loc), WC g (xW g ρ) A s.heap σ H locs → W p l e { frames := 4, cells := 0, slots := 0, locals := 103 } s m args below meth c H locs 0 0 (QMI below args s g (xW g ρ) A tgt) (F0 m 0 ls []) from key _ _ hC
  intro H locs hC
  unfold f_X11_twice at hT
  obtain ⟨⟨j1, j1'⟩, ⟨j3, j3'⟩, ⟨j5, j5'⟩, ⟨j8, j8'⟩, ⟨j9, j9'⟩, ⟨j12, j12'⟩, ⟨j14, j14'⟩, ⟨j17, j17'⟩, j81, jW⟩ := id hX
  refine lv_aload_n hx hb dX11_twice_0 rfl (lv_at hl 0 rfl) ?_
  refine x_get (σ := σ) (v := .ref (g.2.2 101)) (fs := xF0 g ρ σ) 11 0 C0 uw_11 dc_11 hK hC.1 rfl rfl 0 (by decide) rfl w_229 dX11_twice_1 ?_
  refine lv_iload_n hx hb dX11_twice_4 rfl (lv_at hl 1 rfl) ?_
  refine x_cn (rest := []) (As := [.int (a1)]) (σ := σ) (ρ := ρ) (dt := dt) (T := TX5) (N := 18) (fs := xF1 g ρ σ) 5 1 rfl rfl C0 hK hC.1 (hC.2.1.weaken (fun _ _ _ _ => trivial)) (XH.wa hB hA hC) cf_X5_isWall w_615 (k_X5_isWall l g ρ dt σ a1 ) ⟨by decide, by decide⟩ hl.1 rfl rfl (Nat.le_of_ble_eq_true rfl) dX11_twice_5 ⟨Nat.zero_le _, Nat.zero_le _⟩ ?_
  refine lv_if_eq (tgt := 20) hx hb dX11_twice_8 (by decide) (fun c_8 => ?_) (fun c_8 => ?_)
  · have hT := hT_pos c_8 hT
    refine lv_iconst (v := (-1 : Int32)) hx hb dX11_twice_20 (by decide) ?_
    exact ret_MI C0 hC hT dX11_twice_21
  · have hT := hT_neg c_8 hT
    refine lv_iload_n hx hb dX11_twice_11 rfl (lv_at hl 3 rfl) ?_
    refine lv_if_lt (tgt := 20) hx hb dX11_twice_12 (by decide) (fun c_12 => ?_) (fun c_12 => ?_)
    · have hT := hT_pos c_12 hT
      refine lv_iconst (v := (-1 : Int32)) hx hb dX11_twice_20 (by decide) ?_
      exact ret_MI C0 hC hT dX11_twice_21
    · have hT := hT_neg c_12 hT
      refine lv_iload_n hx hb dX11_twice_15 rfl (lv_at hl 3 rfl) ?_
      refine lv_iconst (v := (5 : Int32)) hx hb dX11_twice_16 (by decide) ?_
      refine lv_icmp_le (tgt := 22) hx hb dX11_twice_17 (by decide) (fun c_17 => ?_) (fun c_17 => ?_)
      · have hT := hT_pos c_17 hT
        refine lv_iload_n hx hb dX11_twice_22 rfl (lv_at hl 2 rfl) ?_
        refine lv_iconst (v := (1 : Int32)) hx hb dX11_twice_23 (by decide) ?_
        refine lv_icmp_lt (tgt := 34) hx hb dX11_twice_24 (by decide) (fun c_24 => ?_) (fun c_24 => ?_)
        · have hT := hT_pos c_24 hT
          refine lv_bipush (v := (-2 : Int32)) hx hb dX11_twice_34 (by decide) ?_
          exact ret_MI C0 hC hT dX11_twice_36
        · have hT := hT_neg c_24 hT
          refine lv_iload_n hx hb dX11_twice_27 rfl (lv_at hl 2 rfl) ?_
          refine lv_sipush (v := (999 : Int32)) hx hb dX11_twice_28 (by decide) ?_
          refine lv_icmp_le (tgt := 37) hx hb dX11_twice_31 (by decide) (fun c_31 => ?_) (fun c_31 => ?_)
          · have hT := hT_pos c_31 hT
            refine lv_aload_n hx hb dX11_twice_37 rfl (lv_at hl 0 rfl) ?_
            refine lv_iload_n hx hb dX11_twice_38 rfl (lv_at hl 1 rfl) ?_
            refine x_mv (rest := []) (As := [.int (a1)]) (σ := σ) (ρ := ρ) (dt := dt) (T := TX11) (N := 10) (fs := xF0 g ρ σ) 11 0 rfl rfl C0 hK hC (XH.wa hB hA hC) cf_X11_tellMiddles w_728 (k_X11_tellMiddles l g ρ dt σ a1 hX hN) ⟨by decide, by decide⟩ hl.1 rfl rfl (Nat.le_of_ble_eq_true rfl) dX11_twice_39 ⟨Nat.zero_le _, Nat.zero_le _⟩ (fun u39 H locs e39 hC => ?_)
            have hT := bd1_e e39 hT
            refine lv_aload_n hx hb dX11_twice_42 rfl (lv_at hl 0 rfl) ?_
            refine lv_iload_n hx hb dX11_twice_43 rfl (lv_at hl 2 rfl) ?_
            have q44_hX : IX u39 := (by rw [e39]; exact tellMiddles_IX hX)
            refine x_mi (rest := []) (As := [.int (a2)]) (σ := u39) (ρ := ρ) (dt := dt) (T := TX11) (N := 10) (fs := xF0 g ρ u39) 11 0 rfl rfl C0 hK hC (XH.wa hB hA hC) cf_X11_findTwice w_732 (k_X11_findTwice l g ρ dt u39 a2 q44_hX) ⟨by decide, by decide⟩ hl.1 rfl rfl (Nat.le_of_ble_eq_true rfl) dX11_twice_44 ⟨Nat.zero_le _, Nat.zero_le _⟩ (fun r44 u44 H locs e44 hC => ?_)
            have hT := bd_e e44 hT
            have J47 : ∀ v : Int32, v = (if r44 = 0 then (-5 : Int32) else (u44 5 (ix a3))) → W p l e { frames := 4, cells := 0, slots := 0, locals := 103 } s m args below meth c H locs 0 0 (QMI below args s g (xW g ρ) A tgt) (F0 m 61 ls [.int (v)]) := by
              intro v ev
              subst ev
              exact ret_MI C0 hC hT dX11_twice_61
            refine lv_if_eq (tgt := 59) hx hb dX11_twice_47 (by decide) (fun c_47 => ?_) (fun c_47 => ?_)
            · refine lv_bipush (v := (-5 : Int32)) hx hb dX11_twice_59 (by decide) ?_
              exact J47 _ (iv_pos c_47 rfl)
            · refine lv_aload_n hx hb dX11_twice_50 rfl (lv_at hl 0 rfl) ?_
              refine x_get (σ := u44) (v := .ref (g.2.2 5)) (fs := xF0 g ρ u44) 11 0 C0 uw_11 dc_11 hK hC.1 rfl rfl 5 (by decide) rfl w_234 dX11_twice_51 ?_
              refine lv_iload_n hx hb dX11_twice_54 rfl (lv_at hl 3 rfl) ?_
              have o_55 : vp_in a3 6 := by
                have : ((0 : Int32)).toInt = 0 := by decide
                have : ((5 : Int32)).toInt = 5 := by decide
                have : ((1 : Int32)).toInt = 1 := by decide
                have : ((999 : Int32)).toInt = 999 := by decide
                have := xw_ne c_8
                have := mt ti_lt.mpr c_12
                have := ti_le.mp c_17
                have := mt ti_lt.mpr c_24
                have := ti_le.mp c_31
                have := mt ti_eq.mpr c_47
                exact vin (by omega) (by omega)
              refine x_ald (σ := u44) C0 hK hC.1 5 5 6 rfl o_55 (ix a3) rfl dX11_twice_55 ?_
              refine lv_goto (tgt := 61) hx hb dX11_twice_56 (by decide) ?_
              exact J47 _ (iv_neg c_47 rfl)
          · have hT := hT_neg c_31 hT
            refine lv_bipush (v := (-2 : Int32)) hx hb dX11_twice_34 (by decide) ?_
            exact ret_MI C0 hC hT dX11_twice_36
      · have hT := hT_neg c_17 hT
        refine lv_iconst (v := (-1 : Int32)) hx hb dX11_twice_20 (by decide) ?_
        exact ret_MI C0 hC hT dX11_twice_21
