
theorem XH.wa {g : GG} {ρ : RR} {dt : Nat → Nat → Int32} {A : Nat → Prop} {σ : St} {H0 H : Heap} {locs : List Loc} (h : XH g ρ dt H0) (hA : ∀ q, A q → q ∈ adrs (xW g (fun _ _ => none) (fun _ _ => 0))) (hC : WC g (xW g ρ) A H0 σ H locs) : XH g ρ dt H := h.kept (fun q h1 h2 => hC.2.2.2.1 q h1 (fun h => h2 (hA q h)))
/-- what the class's numbers are, always -/
def IX (σ : St) : Prop :=
  (0 ≤ (σ 21 0).toInt ∧ (σ 21 0).toInt ≤ 100) ∧ (0 ≤ (σ 23 0).toInt ∧ (σ 23 0).toInt ≤ 5) ∧ (0 ≤ (σ 25 0).toInt ∧ (σ 25 0).toInt ≤ 6) ∧ (0 ≤ (σ 28 0).toInt ∧ (σ 28 0).toInt ≤ 6) ∧ (0 ≤ (σ 29 0).toInt ∧ (σ 29 0).toInt ≤ 9930) ∧ (0 ≤ (σ 32 0).toInt ∧ (σ 32 0).toInt ≤ 8) ∧ (0 ≤ (σ 34 0).toInt ∧ (σ 34 0).toInt ≤ 6) ∧ (0 ≤ (σ 37 0).toInt ∧ (σ 37 0).toInt ≤ 8) ∧ 0 ≤ (σ 81 0).toInt ∧ (∀ i, i < 6 → 0 ≤ (σ 26 i).toInt ∧ (σ 26 i).toInt ≤ (σ 27 i).toInt ∧ (σ 27 i).toInt ≤ 999)
set_option maxRecDepth 20000 in
theorem w_124 : (Cond.fieldLink RX5 62 RX5 "wallCount" "I") ∈ TB := inTB (List.mem_of_getElem? (i := 124) (by decide +kernel)) (by decide +kernel)
/-! ThreeMeasures$State.isWall -/
theorem dX5_isWall_0 : decode cX5_isWall 0 = .ok (.iload_n 1, 1) := by decide +kernel
theorem dX5_isWall_1 : decode cX5_isWall 1 = .ok (.ifCond .lt 15, 3) := by decide +kernel
theorem dX5_isWall_4 : decode cX5_isWall 4 = .ok (.iload_n 1, 1) := by decide +kernel
theorem dX5_isWall_5 : decode cX5_isWall 5 = .ok (.aload_n 0, 1) := by decide +kernel
theorem dX5_isWall_6 : decode cX5_isWall 6 = .ok (.getfield 62, 3) := by decide +kernel
theorem dX5_isWall_9 : decode cX5_isWall 9 = .ok (.if_icmp .ge 7, 3) := by decide +kernel
theorem dX5_isWall_12 : decode cX5_isWall 12 = .ok (.iconst 1, 1) := by decide +kernel
theorem dX5_isWall_13 : decode cX5_isWall 13 = .ok (.goto 4, 3) := by decide +kernel
theorem dX5_isWall_16 : decode cX5_isWall 16 = .ok (.iconst 0, 1) := by decide +kernel
theorem dX5_isWall_17 : decode cX5_isWall 17 = .ok (.ireturn, 1) := by decide +kernel
def f_X5_isWall (σ : St) (a1 : Int32) : Int32 := (if a1 < 0 then (0 : Int32) else (if (σ 28 0) ≤ a1 then (0 : Int32) else (1 : Int32)))
set_option maxHeartbeats 600000 in
set_option maxRecDepth 100000 in
theorem k_X5_isWall (l : Launch) (g : GG) (ρ : RR) (dt : Nat → Nat → Int32) (σ : St) (a1 : Int32)  : PI l yX5_isWall (wsF yX5_isWall cX5_isWall 2 (some .boolean)) { frames := 0, cells := 0, slots := 0, locals := 0 } [.ref (g.2.2 101), .int (a1)] (GB g (xW g ρ) (XB g ρ dt) σ) (f_X5_isWall σ a1) := by
  refine start_PI (by decide) (Nat.le_of_ble_eq_true rfl) ?_
  intro p e s m args below meth c C0 hG ls hl
  obtain ⟨hK, hP, hDD, hB⟩ := hG
  obtain ⟨hx, hb, hr, hml, hown, hts, hlocks⟩ := id C0
  have hl : lv_has ls 2 [(0, .ref (g.2.2 101)), (1, .int (a1))] := hl
  generalize hT : (f_X5_isWall σ a1) = tgt
  unfold f_X5_isWall at hT
  refine lv_iload_n hx hb dX5_isWall_0 rfl (lv_at hl 1 rfl) ?_
  have J1 : ∀ v : Int32, v = (if a1 < 0 then (0 : Int32) else (if (σ 28 0) ≤ a1 then (0 : Int32) else (1 : Int32))) → W p l e { frames := 0, cells := 0, slots := 0, locals := 0 } s m args below meth c s.heap [] 0 0 (QPI below args s tgt) (F0 m 17 ls [.int (v)]) := by
    intro v ev
    subst ev
    exact ret_PZ C0 (nz_of (by (repeat' split) <;> simp)) hT dX5_isWall_17
  refine lv_if_lt (tgt := 16) hx hb dX5_isWall_1 (by decide) (fun c_1 => ?_) (fun c_1 => ?_)
  · refine lv_iconst (v := (0 : Int32)) hx hb dX5_isWall_16 (by decide) ?_
    exact J1 _ (iv_pos c_1 rfl)
  · refine lv_iload_n hx hb dX5_isWall_4 rfl (lv_at hl 1 rfl) ?_
    refine lv_aload_n hx hb dX5_isWall_5 rfl (lv_at hl 0 rfl) ?_
    refine x_get (σ := σ) (v := .int ((σ 28 0))) (fs := xF1 g ρ σ) 5 1 C0 uw_5 dc_5 hK hP rfl rfl 8 (by decide) rfl w_124 dX5_isWall_6 ?_
    refine lv_icmp_ge (tgt := 16) hx hb dX5_isWall_9 (by decide) (fun c_9 => ?_) (fun c_9 => ?_)
    · refine lv_iconst (v := (0 : Int32)) hx hb dX5_isWall_16 (by decide) ?_
      exact J1 _ (iv_neg c_1 (iv_pos c_9 rfl))
    · refine lv_iconst (v := (1 : Int32)) hx hb dX5_isWall_12 (by decide) ?_
      refine lv_goto (tgt := 17) hx hb dX5_isWall_13 (by decide) ?_
      exact J1 _ (iv_neg c_1 (iv_neg c_9 rfl))
theorem zx_isWall (σ : St) (a : Int32) : f_X5_isWall σ a = 0 ∨ f_X5_isWall σ a = 1 := by
  unfold f_X5_isWall
  (repeat' split) <;> simp
theorem xw_ne {σ : St} {a : Int32} (h : ¬ f_X5_isWall σ a = 0) : 0 ≤ a.toInt ∧ a.toInt < (σ 28 0).toInt := by
  unfold f_X5_isWall at h
  have e0 : (0 : Int32).toInt = 0 := rfl
  split at h
  · exact absurd rfl h
  · split at h
    · exact absurd rfl h
    · rename_i h1 h2
      rw [ti_lt] at h1
      rw [ti_le] at h2
      omega
theorem xw_eq {σ : St} {a : Int32} (h : f_X5_isWall σ a = 0) : ¬ (0 ≤ a.toInt ∧ a.toInt < (σ 28 0).toInt) := by
  unfold f_X5_isWall at h
  have e0 : (0 : Int32).toInt = 0 := rfl
  split at h
  · rename_i h1
    rw [ti_lt] at h1
    omega
  · split at h
    · rename_i h1
      rw [ti_le] at h1
      omega
    · exact absurd h (by decide)
set_option maxRecDepth 20000 in
theorem w_122 : (Cond.fieldLink RX5 24 RX5 "highs" "[I") ∈ TB := inTB (List.mem_of_getElem? (i := 122) (by decide +kernel)) (by decide +kernel)
set_option maxRecDepth 20000 in
theorem w_120 : (Cond.fieldLink RX5 21 RX5 "lows" "[I") ∈ TB := inTB (List.mem_of_getElem? (i := 120) (by decide +kernel)) (by decide +kernel)
/-! ThreeMeasures$State.gap -/
theorem dX5_gap_0 : decode cX5_gap 0 = .ok (.aload_n 0, 1) := by decide +kernel
theorem dX5_gap_1 : decode cX5_gap 1 = .ok (.getfield 24, 3) := by decide +kernel
theorem dX5_gap_4 : decode cX5_gap 4 = .ok (.iload_n 1, 1) := by decide +kernel
theorem dX5_gap_5 : decode cX5_gap 5 = .ok (.iaload, 1) := by decide +kernel
theorem dX5_gap_6 : decode cX5_gap 6 = .ok (.aload_n 0, 1) := by decide +kernel
theorem dX5_gap_7 : decode cX5_gap 7 = .ok (.getfield 21, 3) := by decide +kernel
theorem dX5_gap_10 : decode cX5_gap 10 = .ok (.iload_n 1, 1) := by decide +kernel
theorem dX5_gap_11 : decode cX5_gap 11 = .ok (.iaload, 1) := by decide +kernel
theorem dX5_gap_12 : decode cX5_gap 12 = .ok (.isub, 1) := by decide +kernel
theorem dX5_gap_13 : decode cX5_gap 13 = .ok (.ireturn, 1) := by decide +kernel
def f_X5_gap (σ : St) (a1 : Int32) : Int32 := ((σ 27 (ix a1)) - (σ 26 (ix a1)))
set_option maxHeartbeats 600000 in
set_option maxRecDepth 100000 in
theorem k_X5_gap (l : Launch) (g : GG) (ρ : RR) (dt : Nat → Nat → Int32) (σ : St) (a1 : Int32) (h1 : 0 ≤ a1.toInt) (h2 : a1.toInt < 6) : PI l yX5_gap (wsF yX5_gap cX5_gap 2 (some .int)) { frames := 0, cells := 0, slots := 0, locals := 0 } [.ref (g.2.2 101), .int (a1)] (GB g (xW g ρ) (XB g ρ dt) σ) (f_X5_gap σ a1) := by
  refine start_PI (by decide) (Nat.le_of_ble_eq_true rfl) ?_
  intro p e s m args below meth c C0 hG ls hl
  obtain ⟨hK, hP, hDD, hB⟩ := hG
  obtain ⟨hx, hb, hr, hml, hown, hts, hlocks⟩ := id C0
  have hl : lv_has ls 2 [(0, .ref (g.2.2 101)), (1, .int (a1))] := hl
  generalize hT : (f_X5_gap σ a1) = tgt
  unfold f_X5_gap at hT
  refine lv_aload_n hx hb dX5_gap_0 rfl (lv_at hl 0 rfl) ?_
  refine x_get (σ := σ) (v := .ref (g.2.2 27)) (fs := xF1 g ρ σ) 5 1 C0 uw_5 dc_5 hK hP rfl rfl 7 (by decide) rfl w_122 dX5_gap_1 ?_
  refine lv_iload_n hx hb dX5_gap_4 rfl (lv_at hl 1 rfl) ?_
  have o_5 : vp_in a1 6 := by
    exact vin (by omega) (by omega)
  refine x_ald (σ := σ) C0 hK hP 12 27 6 rfl o_5 (ix a1) rfl dX5_gap_5 ?_
  refine lv_aload_n hx hb dX5_gap_6 rfl (lv_at hl 0 rfl) ?_
  refine x_get (σ := σ) (v := .ref (g.2.2 26)) (fs := xF1 g ρ σ) 5 1 C0 uw_5 dc_5 hK hP rfl rfl 6 (by decide) rfl w_120 dX5_gap_7 ?_
  refine lv_iload_n hx hb dX5_gap_10 rfl (lv_at hl 1 rfl) ?_
  have o_11 : vp_in a1 6 := by
    exact vin (by omega) (by omega)
  refine x_ald (σ := σ) C0 hK hP 11 26 6 rfl o_11 (ix a1) rfl dX5_gap_11 ?_
  refine lv_isub hx hb dX5_gap_12 ?_
  exact ret_PI C0 hT dX5_gap_13
set_option maxRecDepth 20000 in
theorem w_229 : (Cond.fieldLink RX11 12 RX11 "now" "LThreeMeasures$State;") ∈ TB := inTB (List.mem_of_getElem? (i := 229) (by decide +kernel)) (by decide +kernel)
set_option maxRecDepth 20000 in
theorem w_110 : (Cond.fieldLinkNest RX11 55 RX5 "signCount" "I" RX11) ∈ NB := inNB (List.mem_of_getElem? (i := 110) (by decide +kernel)) (by decide +kernel)
set_option maxRecDepth 20000 in
theorem w_109 : (Cond.fieldLinkNest RX11 59 RX5 "signs" "[I" RX11) ∈ NB := inNB (List.mem_of_getElem? (i := 109) (by decide +kernel)) (by decide +kernel)
/-! ThreeMeasures.feed -/
theorem dX11_feed_0 : decode cX11_feed 0 = .ok (.iload_n 1, 1) := by decide +kernel
theorem dX11_feed_1 : decode cX11_feed 1 = .ok (.ifCond .lt 9, 3) := by decide +kernel
theorem dX11_feed_4 : decode cX11_feed 4 = .ok (.iload_n 1, 1) := by decide +kernel
theorem dX11_feed_5 : decode cX11_feed 5 = .ok (.bipush 127, 2) := by decide +kernel
theorem dX11_feed_7 : decode cX11_feed 7 = .ok (.if_icmp .le 6, 3) := by decide +kernel
theorem dX11_feed_10 : decode cX11_feed 10 = .ok (.bipush (-2), 2) := by decide +kernel
theorem dX11_feed_12 : decode cX11_feed 12 = .ok (.ireturn, 1) := by decide +kernel
theorem dX11_feed_13 : decode cX11_feed 13 = .ok (.aload_n 0, 1) := by decide +kernel
theorem dX11_feed_14 : decode cX11_feed 14 = .ok (.getfield 12, 3) := by decide +kernel
theorem dX11_feed_17 : decode cX11_feed 17 = .ok (.getfield 55, 3) := by decide +kernel
theorem dX11_feed_20 : decode cX11_feed 20 = .ok (.bipush 100, 2) := by decide +kernel
theorem dX11_feed_22 : decode cX11_feed 22 = .ok (.if_icmp .lt 6, 3) := by decide +kernel
theorem dX11_feed_25 : decode cX11_feed 25 = .ok (.bipush (-4), 2) := by decide +kernel
theorem dX11_feed_27 : decode cX11_feed 27 = .ok (.ireturn, 1) := by decide +kernel
theorem dX11_feed_28 : decode cX11_feed 28 = .ok (.aload_n 0, 1) := by decide +kernel
theorem dX11_feed_29 : decode cX11_feed 29 = .ok (.getfield 12, 3) := by decide +kernel
theorem dX11_feed_32 : decode cX11_feed 32 = .ok (.getfield 59, 3) := by decide +kernel
theorem dX11_feed_35 : decode cX11_feed 35 = .ok (.aload_n 0, 1) := by decide +kernel
theorem dX11_feed_36 : decode cX11_feed 36 = .ok (.getfield 12, 3) := by decide +kernel
theorem dX11_feed_39 : decode cX11_feed 39 = .ok (.getfield 55, 3) := by decide +kernel
theorem dX11_feed_42 : decode cX11_feed 42 = .ok (.iload_n 1, 1) := by decide +kernel
theorem dX11_feed_43 : decode cX11_feed 43 = .ok (.iastore, 1) := by decide +kernel
theorem dX11_feed_44 : decode cX11_feed 44 = .ok (.aload_n 0, 1) := by decide +kernel
theorem dX11_feed_45 : decode cX11_feed 45 = .ok (.getfield 12, 3) := by decide +kernel
theorem dX11_feed_48 : decode cX11_feed 48 = .ok (.dup, 1) := by decide +kernel
theorem dX11_feed_49 : decode cX11_feed 49 = .ok (.getfield 55, 3) := by decide +kernel
theorem dX11_feed_52 : decode cX11_feed 52 = .ok (.iconst 1, 1) := by decide +kernel
theorem dX11_feed_53 : decode cX11_feed 53 = .ok (.iadd, 1) := by decide +kernel
theorem dX11_feed_54 : decode cX11_feed 54 = .ok (.putfield 55, 3) := by decide +kernel
theorem dX11_feed_57 : decode cX11_feed 57 = .ok (.aload_n 0, 1) := by decide +kernel
theorem dX11_feed_58 : decode cX11_feed 58 = .ok (.getfield 12, 3) := by decide +kernel
theorem dX11_feed_61 : decode cX11_feed 61 = .ok (.getfield 55, 3) := by decide +kernel
theorem dX11_feed_64 : decode cX11_feed 64 = .ok (.ireturn, 1) := by decide +kernel
def f_X11_feed (σ : St) (a1 : Int32) : Int32 × St := (if a1 < 0 then ((-2 : Int32), σ) else (if a1 ≤ (127 : Int32) then (if (σ 21 0) < (100 : Int32) then (((σ 21 0) + (1 : Int32)), (up2 (up2 σ 20 (ix (σ 21 0)) a1) 21 0 ((σ 21 0) + (1 : Int32)))) else ((-4 : Int32), σ)) else ((-2 : Int32), σ)))
set_option maxHeartbeats 600000 in
set_option maxRecDepth 100000 in
theorem k_X11_feed (l : Launch) (g : GG) (ρ : RR) (dt : Nat → Nat → Int32) (σ : St) (a1 : Int32) (hX : IX σ) : MI l yX11_feed (wsF yX11_feed cX11_feed 2 (some .int)) { frames := 0, cells := 0, slots := 0, locals := 0 } [.ref (g.2.2 100), .int (a1)] g (xW g ρ) (XB g ρ dt) σ (f_X11_feed σ a1) := by
  refine start_MI (by decide) (Nat.le_of_ble_eq_true rfl) ?_
  intro p e s m args below meth c C0 hK hB hC ls hl
  generalize hAe : aA ((xW g ρ) σ) = A at hC ⊢
  have hA : ∀ q, A q → q ∈ adrs (xW g (fun _ _ => none) (fun _ _ => 0)) := fun q h => by rw [← hAe] at h; exact h
  obtain ⟨hx, hb, hr, hml, hown, hts, hlocks⟩ := id C0
  have hl : lv_has ls 2 [(0, .ref (g.2.2 100)), (1, .int (a1))] := hl
  generalize hT : (f_X11_feed σ a1) = tgt
  suffices key : ∀ (H : Heap) (locs : List Loc), WC g (xW g ρ) A s.heap σ H locs → W p l e { frames := 0, cells := 0, slots := 0, locals := 0 } s m args below meth c H locs 0 0 (QMI below args s g (xW g ρ) A tgt) (F0 m 0 ls []) from key _ _ hC
  intro H locs hC
  unfold f_X11_feed at hT
  obtain ⟨⟨j1, j1'⟩, ⟨j3, j3'⟩, ⟨j5, j5'⟩, ⟨j8, j8'⟩, ⟨j9, j9'⟩, ⟨j12, j12'⟩, ⟨j14, j14'⟩, ⟨j17, j17'⟩, j81, jW⟩ := id hX
  refine lv_iload_n hx hb dX11_feed_0 rfl (lv_at hl 1 rfl) ?_
  refine lv_if_lt (tgt := 10) hx hb dX11_feed_1 (by decide) (fun c_1 => ?_) (fun c_1 => ?_)
  · have hT := hT_pos c_1 hT
    refine lv_bipush (v := (-2 : Int32)) hx hb dX11_feed_10 (by decide) ?_
    exact ret_MI C0 hC hT dX11_feed_12
  · have hT := hT_neg c_1 hT
    refine lv_iload_n hx hb dX11_feed_4 rfl (lv_at hl 1 rfl) ?_
    refine lv_bipush (v := (127 : Int32)) hx hb dX11_feed_5 (by decide) ?_
    refine lv_icmp_le (tgt := 13) hx hb dX11_feed_7 (by decide) (fun c_7 => ?_) (fun c_7 => ?_)
    · have hT := hT_pos c_7 hT
      refine lv_aload_n hx hb dX11_feed_13 rfl (lv_at hl 0 rfl) ?_
      refine x_get (σ := σ) (v := .ref (g.2.2 101)) (fs := xF0 g ρ σ) 11 0 C0 uw_11 dc_11 hK hC.1 rfl rfl 0 (by decide) rfl w_229 dX11_feed_14 ?_
      refine x_getN (σ := σ) (v := .int ((σ 21 0))) (fs := xF1 g ρ σ) 5 1 C0 uw_5 dc_5 hK hC.1 rfl rfl 1 (by decide) rfl w_110 dX11_feed_17 ?_
      refine lv_bipush (v := (100 : Int32)) hx hb dX11_feed_20 (by decide) ?_
      refine lv_icmp_lt (tgt := 28) hx hb dX11_feed_22 (by decide) (fun c_22 => ?_) (fun c_22 => ?_)
      · have hT := hT_pos c_22 hT
        refine lv_aload_n hx hb dX11_feed_28 rfl (lv_at hl 0 rfl) ?_
        refine x_get (σ := σ) (v := .ref (g.2.2 101)) (fs := xF0 g ρ σ) 11 0 C0 uw_11 dc_11 hK hC.1 rfl rfl 0 (by decide) rfl w_229 dX11_feed_29 ?_
        refine x_getN (σ := σ) (v := .ref (g.2.2 20)) (fs := xF1 g ρ σ) 5 1 C0 uw_5 dc_5 hK hC.1 rfl rfl 0 (by decide) rfl w_109 dX11_feed_32 ?_
        refine lv_aload_n hx hb dX11_feed_35 rfl (lv_at hl 0 rfl) ?_
        refine x_get (σ := σ) (v := .ref (g.2.2 101)) (fs := xF0 g ρ σ) 11 0 C0 uw_11 dc_11 hK hC.1 rfl rfl 0 (by decide) rfl w_229 dX11_feed_36 ?_
        refine x_getN (σ := σ) (v := .int ((σ 21 0))) (fs := xF1 g ρ σ) 5 1 C0 uw_5 dc_5 hK hC.1 rfl rfl 1 (by decide) rfl w_110 dX11_feed_39 ?_
        refine lv_iload_n hx hb dX11_feed_42 rfl (lv_at hl 1 rfl) ?_
        have o_43 : vp_in (σ 21 0) 100 := by
          have : ((0 : Int32)).toInt = 0 := by decide
          have : ((127 : Int32)).toInt = 127 := by decide
          have : ((100 : Int32)).toInt = 100 := by decide
          have := mt ti_lt.mpr c_1
          have := ti_le.mp c_7
          have := ti_lt.mp c_22
          exact vin (by omega) (by omega)
        refine x_ast (σ := σ) C0 hK hC 10 20 100 rfl (xs_20 g ρ _) o_43 (ix (σ 21 0)) rfl dX11_feed_43 (fun H locs hC => ?_)
        refine lv_aload_n hx hb dX11_feed_44 rfl (lv_at hl 0 rfl) ?_
        refine x_get (σ := (up2 σ 20 (ix (σ 21 0)) a1)) (v := .ref (g.2.2 101)) (fs := xF0 g ρ (up2 σ 20 (ix (σ 21 0)) a1)) 11 0 C0 uw_11 dc_11 hK hC.1 rfl rfl 0 (by decide) rfl w_229 dX11_feed_45 ?_
        refine lv_dup hx hb dX11_feed_48 rfl ?_
        refine x_getN (σ := (up2 σ 20 (ix (σ 21 0)) a1)) (v := .int ((σ 21 0))) (fs := xF1 g ρ (up2 σ 20 (ix (σ 21 0)) a1)) 5 1 C0 uw_5 dc_5 hK hC.1 rfl rfl 1 (by decide) rfl w_110 dX11_feed_49 ?_
        refine lv_iconst (v := (1 : Int32)) hx hb dX11_feed_52 (by decide) ?_
        refine lv_iadd hx hb dX11_feed_53 ?_
        refine x_putN (σ := (up2 σ 20 (ix (σ 21 0)) a1)) (ty := .int) (fs := xF1 g ρ (up2 σ 20 (ix (σ 21 0)) a1)) 5 1 C0 uw_5 dc_5 tyX5 tyX5_ok nmX5 hK hC rfl rfl 1 (by decide) rfl rfl rfl rfl (Nat.le_of_ble_eq_true rfl) (xs_21 g ρ _ _) w_110 dX11_feed_54 (fun H locs hC => ?_)
        refine lv_aload_n hx hb dX11_feed_57 rfl (lv_at hl 0 rfl) ?_
        refine x_get (σ := (up2 (up2 σ 20 (ix (σ 21 0)) a1) 21 0 ((σ 21 0) + (1 : Int32)))) (v := .ref (g.2.2 101)) (fs := xF0 g ρ (up2 (up2 σ 20 (ix (σ 21 0)) a1) 21 0 ((σ 21 0) + (1 : Int32)))) 11 0 C0 uw_11 dc_11 hK hC.1 rfl rfl 0 (by decide) rfl w_229 dX11_feed_58 ?_
        refine x_getN (σ := (up2 (up2 σ 20 (ix (σ 21 0)) a1) 21 0 ((σ 21 0) + (1 : Int32)))) (v := .int (((σ 21 0) + (1 : Int32)))) (fs := xF1 g ρ (up2 (up2 σ 20 (ix (σ 21 0)) a1) 21 0 ((σ 21 0) + (1 : Int32)))) 5 1 C0 uw_5 dc_5 hK hC.1 rfl rfl 1 (by decide) rfl w_110 dX11_feed_61 ?_
        exact ret_MI C0 hC hT dX11_feed_64
      · have hT := hT_neg c_22 hT
        refine lv_bipush (v := (-4 : Int32)) hx hb dX11_feed_25 (by decide) ?_
        exact ret_MI C0 hC hT dX11_feed_27
    · have hT := hT_neg c_7 hT
      refine lv_bipush (v := (-2 : Int32)) hx hb dX11_feed_10 (by decide) ?_
      exact ret_MI C0 hC hT dX11_feed_12
set_option maxRecDepth 20000 in
theorem w_125 : (Cond.fieldLinkNest RX11 112 RX5 "wallCount" "I" RX11) ∈ NB := inNB (List.mem_of_getElem? (i := 125) (by decide +kernel)) (by decide +kernel)
set_option maxRecDepth 20000 in
theorem w_121 : (Cond.fieldLinkNest RX11 115 RX5 "lows" "[I" RX11) ∈ NB := inNB (List.mem_of_getElem? (i := 121) (by decide +kernel)) (by decide +kernel)
set_option maxRecDepth 20000 in
theorem w_123 : (Cond.fieldLinkNest RX11 118 RX5 "highs" "[I" RX11) ∈ NB := inNB (List.mem_of_getElem? (i := 123) (by decide +kernel)) (by decide +kernel)
/-! ThreeMeasures.wall -/
theorem dX11_wall_0 : decode cX11_wall 0 = .ok (.aload_n 0, 1) := by decide +kernel
theorem dX11_wall_1 : decode cX11_wall 1 = .ok (.getfield 12, 3) := by decide +kernel
theorem dX11_wall_4 : decode cX11_wall 4 = .ok (.getfield 112, 3) := by decide +kernel
theorem dX11_wall_7 : decode cX11_wall 7 = .ok (.bipush 6, 2) := by decide +kernel
theorem dX11_wall_9 : decode cX11_wall 9 = .ok (.if_icmp .lt 6, 3) := by decide +kernel
theorem dX11_wall_12 : decode cX11_wall 12 = .ok (.bipush (-4), 2) := by decide +kernel
theorem dX11_wall_14 : decode cX11_wall 14 = .ok (.ireturn, 1) := by decide +kernel
theorem dX11_wall_15 : decode cX11_wall 15 = .ok (.aload_n 0, 1) := by decide +kernel
theorem dX11_wall_16 : decode cX11_wall 16 = .ok (.getfield 12, 3) := by decide +kernel
theorem dX11_wall_19 : decode cX11_wall 19 = .ok (.getfield 115, 3) := by decide +kernel
theorem dX11_wall_22 : decode cX11_wall 22 = .ok (.aload_n 0, 1) := by decide +kernel
theorem dX11_wall_23 : decode cX11_wall 23 = .ok (.getfield 12, 3) := by decide +kernel
theorem dX11_wall_26 : decode cX11_wall 26 = .ok (.getfield 112, 3) := by decide +kernel
theorem dX11_wall_29 : decode cX11_wall 29 = .ok (.iconst 0, 1) := by decide +kernel
theorem dX11_wall_30 : decode cX11_wall 30 = .ok (.iastore, 1) := by decide +kernel
theorem dX11_wall_31 : decode cX11_wall 31 = .ok (.aload_n 0, 1) := by decide +kernel
theorem dX11_wall_32 : decode cX11_wall 32 = .ok (.getfield 12, 3) := by decide +kernel
theorem dX11_wall_35 : decode cX11_wall 35 = .ok (.getfield 118, 3) := by decide +kernel
theorem dX11_wall_38 : decode cX11_wall 38 = .ok (.aload_n 0, 1) := by decide +kernel
theorem dX11_wall_39 : decode cX11_wall 39 = .ok (.getfield 12, 3) := by decide +kernel
theorem dX11_wall_42 : decode cX11_wall 42 = .ok (.getfield 112, 3) := by decide +kernel
theorem dX11_wall_45 : decode cX11_wall 45 = .ok (.sipush 999, 3) := by decide +kernel
theorem dX11_wall_48 : decode cX11_wall 48 = .ok (.iastore, 1) := by decide +kernel
theorem dX11_wall_49 : decode cX11_wall 49 = .ok (.aload_n 0, 1) := by decide +kernel
theorem dX11_wall_50 : decode cX11_wall 50 = .ok (.getfield 12, 3) := by decide +kernel
theorem dX11_wall_53 : decode cX11_wall 53 = .ok (.dup, 1) := by decide +kernel
theorem dX11_wall_54 : decode cX11_wall 54 = .ok (.getfield 112, 3) := by decide +kernel
theorem dX11_wall_57 : decode cX11_wall 57 = .ok (.iconst 1, 1) := by decide +kernel
theorem dX11_wall_58 : decode cX11_wall 58 = .ok (.iadd, 1) := by decide +kernel
theorem dX11_wall_59 : decode cX11_wall 59 = .ok (.putfield 112, 3) := by decide +kernel
theorem dX11_wall_62 : decode cX11_wall 62 = .ok (.aload_n 0, 1) := by decide +kernel
theorem dX11_wall_63 : decode cX11_wall 63 = .ok (.getfield 12, 3) := by decide +kernel
theorem dX11_wall_66 : decode cX11_wall 66 = .ok (.getfield 112, 3) := by decide +kernel
theorem dX11_wall_69 : decode cX11_wall 69 = .ok (.iconst 1, 1) := by decide +kernel
theorem dX11_wall_70 : decode cX11_wall 70 = .ok (.isub, 1) := by decide +kernel
theorem dX11_wall_71 : decode cX11_wall 71 = .ok (.ireturn, 1) := by decide +kernel
def f_X11_wall (σ : St) : Int32 × St := (if (σ 28 0) < (6 : Int32) then ((((σ 28 0) + (1 : Int32)) - (1 : Int32)), (up2 (up2 (up2 σ 26 (ix (σ 28 0)) (0 : Int32)) 27 (ix (σ 28 0)) (999 : Int32)) 28 0 ((σ 28 0) + (1 : Int32)))) else ((-4 : Int32), σ))
set_option maxHeartbeats 600000 in
set_option maxRecDepth 100000 in
theorem k_X11_wall (l : Launch) (g : GG) (ρ : RR) (dt : Nat → Nat → Int32) (σ : St) (hX : IX σ) : MI l yX11_wall (wsF yX11_wall cX11_wall 1 (some .int)) { frames := 0, cells := 0, slots := 0, locals := 0 } [.ref (g.2.2 100)] g (xW g ρ) (XB g ρ dt) σ (f_X11_wall σ) := by
  refine start_MI (by decide) (Nat.le_of_ble_eq_true rfl) ?_
  intro p e s m args below meth c C0 hK hB hC ls hl
  generalize hAe : aA ((xW g ρ) σ) = A at hC ⊢
  have hA : ∀ q, A q → q ∈ adrs (xW g (fun _ _ => none) (fun _ _ => 0)) := fun q h => by rw [← hAe] at h; exact h
  obtain ⟨hx, hb, hr, hml, hown, hts, hlocks⟩ := id C0
  have hl : lv_has ls 1 [(0, .ref (g.2.2 100))] := hl
  generalize hT : (f_X11_wall σ) = tgt
  suffices key : ∀ (H : Heap) (locs : List Loc), WC g (xW g ρ) A s.heap σ H locs → W p l e { frames := 0, cells := 0, slots := 0, locals := 0 } s m args below meth c H locs 0 0 (QMI below args s g (xW g ρ) A tgt) (F0 m 0 ls []) from key _ _ hC
  intro H locs hC
  unfold f_X11_wall at hT
  obtain ⟨⟨j1, j1'⟩, ⟨j3, j3'⟩, ⟨j5, j5'⟩, ⟨j8, j8'⟩, ⟨j9, j9'⟩, ⟨j12, j12'⟩, ⟨j14, j14'⟩, ⟨j17, j17'⟩, j81, jW⟩ := id hX
  refine lv_aload_n hx hb dX11_wall_0 rfl (lv_at hl 0 rfl) ?_
  refine x_get (σ := σ) (v := .ref (g.2.2 101)) (fs := xF0 g ρ σ) 11 0 C0 uw_11 dc_11 hK hC.1 rfl rfl 0 (by decide) rfl w_229 dX11_wall_1 ?_
  refine x_getN (σ := σ) (v := .int ((σ 28 0))) (fs := xF1 g ρ σ) 5 1 C0 uw_5 dc_5 hK hC.1 rfl rfl 8 (by decide) rfl w_125 dX11_wall_4 ?_
  refine lv_bipush (v := (6 : Int32)) hx hb dX11_wall_7 (by decide) ?_
  refine lv_icmp_lt (tgt := 15) hx hb dX11_wall_9 (by decide) (fun c_9 => ?_) (fun c_9 => ?_)
  · have hT := hT_pos c_9 hT
    refine lv_aload_n hx hb dX11_wall_15 rfl (lv_at hl 0 rfl) ?_
    refine x_get (σ := σ) (v := .ref (g.2.2 101)) (fs := xF0 g ρ σ) 11 0 C0 uw_11 dc_11 hK hC.1 rfl rfl 0 (by decide) rfl w_229 dX11_wall_16 ?_
    refine x_getN (σ := σ) (v := .ref (g.2.2 26)) (fs := xF1 g ρ σ) 5 1 C0 uw_5 dc_5 hK hC.1 rfl rfl 6 (by decide) rfl w_121 dX11_wall_19 ?_
    refine lv_aload_n hx hb dX11_wall_22 rfl (lv_at hl 0 rfl) ?_
    refine x_get (σ := σ) (v := .ref (g.2.2 101)) (fs := xF0 g ρ σ) 11 0 C0 uw_11 dc_11 hK hC.1 rfl rfl 0 (by decide) rfl w_229 dX11_wall_23 ?_
    refine x_getN (σ := σ) (v := .int ((σ 28 0))) (fs := xF1 g ρ σ) 5 1 C0 uw_5 dc_5 hK hC.1 rfl rfl 8 (by decide) rfl w_125 dX11_wall_26 ?_
    refine lv_iconst (v := (0 : Int32)) hx hb dX11_wall_29 (by decide) ?_
    have o_30 : vp_in (σ 28 0) 6 := by
      have : ((6 : Int32)).toInt = 6 := by decide
      have := ti_lt.mp c_9
      exact vin (by omega) (by omega)
    refine x_ast (σ := σ) C0 hK hC 11 26 6 rfl (xs_26 g ρ _) o_30 (ix (σ 28 0)) rfl dX11_wall_30 (fun H locs hC => ?_)
    refine lv_aload_n hx hb dX11_wall_31 rfl (lv_at hl 0 rfl) ?_
    refine x_get (σ := (up2 σ 26 (ix (σ 28 0)) (0 : Int32))) (v := .ref (g.2.2 101)) (fs := xF0 g ρ (up2 σ 26 (ix (σ 28 0)) (0 : Int32))) 11 0 C0 uw_11 dc_11 hK hC.1 rfl rfl 0 (by decide) rfl w_229 dX11_wall_32 ?_
    refine x_getN (σ := (up2 σ 26 (ix (σ 28 0)) (0 : Int32))) (v := .ref (g.2.2 27)) (fs := xF1 g ρ (up2 σ 26 (ix (σ 28 0)) (0 : Int32))) 5 1 C0 uw_5 dc_5 hK hC.1 rfl rfl 7 (by decide) rfl w_123 dX11_wall_35 ?_
    refine lv_aload_n hx hb dX11_wall_38 rfl (lv_at hl 0 rfl) ?_
    refine x_get (σ := (up2 σ 26 (ix (σ 28 0)) (0 : Int32))) (v := .ref (g.2.2 101)) (fs := xF0 g ρ (up2 σ 26 (ix (σ 28 0)) (0 : Int32))) 11 0 C0 uw_11 dc_11 hK hC.1 rfl rfl 0 (by decide) rfl w_229 dX11_wall_39 ?_
    refine x_getN (σ := (up2 σ 26 (ix (σ 28 0)) (0 : Int32))) (v := .int ((σ 28 0))) (fs := xF1 g ρ (up2 σ 26 (ix (σ 28 0)) (0 : Int32))) 5 1 C0 uw_5 dc_5 hK hC.1 rfl rfl 8 (by decide) rfl w_125 dX11_wall_42 ?_
    refine lv_sipush (v := (999 : Int32)) hx hb dX11_wall_45 (by decide) ?_
    have o_48 : vp_in (σ 28 0) 6 := by
      have : ((6 : Int32)).toInt = 6 := by decide
      have := ti_lt.mp c_9
      exact vin (by omega) (by omega)
    refine x_ast (σ := (up2 σ 26 (ix (σ 28 0)) (0 : Int32))) C0 hK hC 12 27 6 rfl (xs_27 g ρ _) o_48 (ix (σ 28 0)) rfl dX11_wall_48 (fun H locs hC => ?_)
    refine lv_aload_n hx hb dX11_wall_49 rfl (lv_at hl 0 rfl) ?_
    refine x_get (σ := (up2 (up2 σ 26 (ix (σ 28 0)) (0 : Int32)) 27 (ix (σ 28 0)) (999 : Int32))) (v := .ref (g.2.2 101)) (fs := xF0 g ρ (up2 (up2 σ 26 (ix (σ 28 0)) (0 : Int32)) 27 (ix (σ 28 0)) (999 : Int32))) 11 0 C0 uw_11 dc_11 hK hC.1 rfl rfl 0 (by decide) rfl w_229 dX11_wall_50 ?_
    refine lv_dup hx hb dX11_wall_53 rfl ?_
    refine x_getN (σ := (up2 (up2 σ 26 (ix (σ 28 0)) (0 : Int32)) 27 (ix (σ 28 0)) (999 : Int32))) (v := .int ((σ 28 0))) (fs := xF1 g ρ (up2 (up2 σ 26 (ix (σ 28 0)) (0 : Int32)) 27 (ix (σ 28 0)) (999 : Int32))) 5 1 C0 uw_5 dc_5 hK hC.1 rfl rfl 8 (by decide) rfl w_125 dX11_wall_54 ?_
    refine lv_iconst (v := (1 : Int32)) hx hb dX11_wall_57 (by decide) ?_
    refine lv_iadd hx hb dX11_wall_58 ?_
    refine x_putN (σ := (up2 (up2 σ 26 (ix (σ 28 0)) (0 : Int32)) 27 (ix (σ 28 0)) (999 : Int32))) (ty := .int) (fs := xF1 g ρ (up2 (up2 σ 26 (ix (σ 28 0)) (0 : Int32)) 27 (ix (σ 28 0)) (999 : Int32))) 5 1 C0 uw_5 dc_5 tyX5 tyX5_ok nmX5 hK hC rfl rfl 8 (by decide) rfl rfl rfl rfl (Nat.le_of_ble_eq_true rfl) (xs_28 g ρ _ _) w_125 dX11_wall_59 (fun H locs hC => ?_)
    refine lv_aload_n hx hb dX11_wall_62 rfl (lv_at hl 0 rfl) ?_
    refine x_get (σ := (up2 (up2 (up2 σ 26 (ix (σ 28 0)) (0 : Int32)) 27 (ix (σ 28 0)) (999 : Int32)) 28 0 ((σ 28 0) + (1 : Int32)))) (v := .ref (g.2.2 101)) (fs := xF0 g ρ (up2 (up2 (up2 σ 26 (ix (σ 28 0)) (0 : Int32)) 27 (ix (σ 28 0)) (999 : Int32)) 28 0 ((σ 28 0) + (1 : Int32)))) 11 0 C0 uw_11 dc_11 hK hC.1 rfl rfl 0 (by decide) rfl w_229 dX11_wall_63 ?_
    refine x_getN (σ := (up2 (up2 (up2 σ 26 (ix (σ 28 0)) (0 : Int32)) 27 (ix (σ 28 0)) (999 : Int32)) 28 0 ((σ 28 0) + (1 : Int32)))) (v := .int (((σ 28 0) + (1 : Int32)))) (fs := xF1 g ρ (up2 (up2 (up2 σ 26 (ix (σ 28 0)) (0 : Int32)) 27 (ix (σ 28 0)) (999 : Int32)) 28 0 ((σ 28 0) + (1 : Int32)))) 5 1 C0 uw_5 dc_5 hK hC.1 rfl rfl 8 (by decide) rfl w_125 dX11_wall_66 ?_
    refine lv_iconst (v := (1 : Int32)) hx hb dX11_wall_69 (by decide) ?_
    refine lv_isub hx hb dX11_wall_70 ?_
    exact ret_MI C0 hC hT dX11_wall_71
  · have hT := hT_neg c_9 hT
    refine lv_bipush (v := (-4 : Int32)) hx hb dX11_wall_12 (by decide) ?_
    exact ret_MI C0 hC hT dX11_wall_14
set_option maxRecDepth 20000 in
theorem w_615 : (Cond.methodLinkNest RX11 121 yX5_isWall RX11) ∈ NB := inNB (List.mem_of_getElem? (i := 615) (by decide +kernel)) (by decide +kernel)
set_option maxRecDepth 20000 in
theorem w_618 : (Cond.code yX5_isWall cX5_isWall 2 (some .boolean)) ∈ TB := inTB (List.mem_of_getElem? (i := 618) (by decide +kernel)) (by decide +kernel)
set_option maxRecDepth 20000 in
theorem w_617 : (Cond.instanceMethod yX5_isWall) ∈ TB := inTB (List.mem_of_getElem? (i := 617) (by decide +kernel)) (by decide +kernel)
set_option maxRecDepth 20000 in
theorem w_13 : (Cond.selects RX5 yX5_isWall yX5_isWall) ∈ TB := inTB (List.mem_of_getElem? (i := 13) (by decide +kernel)) (by decide +kernel)
set_option maxRecDepth 20000 in
theorem w_72 : (Cond.initialized RX5) ∈ TB := inTB (List.mem_of_getElem? (i := 72) (by decide +kernel)) (by decide +kernel)
theorem cf_X5_isWall : CF yX5_isWall cX5_isWall 2 (some .boolean) 1 := ⟨w_617, w_13, w_72, w_618, by decide +kernel, by decide +kernel, by decide +kernel⟩
set_option maxRecDepth 20000 in
theorem w_619 : (Cond.methodLinkNest RX11 125 yX5_gap RX11) ∈ NB := inNB (List.mem_of_getElem? (i := 619) (by decide +kernel)) (by decide +kernel)
set_option maxRecDepth 20000 in
theorem w_622 : (Cond.code yX5_gap cX5_gap 2 (some .int)) ∈ TB := inTB (List.mem_of_getElem? (i := 622) (by decide +kernel)) (by decide +kernel)
set_option maxRecDepth 20000 in
theorem w_621 : (Cond.instanceMethod yX5_gap) ∈ TB := inTB (List.mem_of_getElem? (i := 621) (by decide +kernel)) (by decide +kernel)
set_option maxRecDepth 20000 in
theorem w_14 : (Cond.selects RX5 yX5_gap yX5_gap) ∈ TB := inTB (List.mem_of_getElem? (i := 14) (by decide +kernel)) (by decide +kernel)
theorem cf_X5_gap : CF yX5_gap cX5_gap 2 (some .int) 1 := ⟨w_621, w_14, w_72, w_622, by decide +kernel, by decide +kernel, by decide +kernel⟩
/-! ThreeMeasures.at -/
theorem dX11_at_0 : decode cX11_at 0 = .ok (.aload_n 0, 1) := by decide +kernel
theorem dX11_at_1 : decode cX11_at 1 = .ok (.getfield 12, 3) := by decide +kernel
theorem dX11_at_4 : decode cX11_at 4 = .ok (.iload_n 1, 1) := by decide +kernel
theorem dX11_at_5 : decode cX11_at 5 = .ok (.invokevirtual 121, 3) := by decide +kernel
theorem dX11_at_8 : decode cX11_at 8 = .ok (.ifCond .ne 5, 3) := by decide +kernel
theorem dX11_at_11 : decode cX11_at 11 = .ok (.iconst (-1), 1) := by decide +kernel
theorem dX11_at_12 : decode cX11_at 12 = .ok (.ireturn, 1) := by decide +kernel
theorem dX11_at_13 : decode cX11_at 13 = .ok (.iload_n 2, 1) := by decide +kernel
theorem dX11_at_14 : decode cX11_at 14 = .ok (.tableswitch 55 0 2 #[26, 36, 46], 26) := by decide +kernel
theorem dX11_at_40 : decode cX11_at 40 = .ok (.aload_n 0, 1) := by decide +kernel
theorem dX11_at_41 : decode cX11_at 41 = .ok (.getfield 12, 3) := by decide +kernel
theorem dX11_at_44 : decode cX11_at 44 = .ok (.getfield 115, 3) := by decide +kernel
theorem dX11_at_47 : decode cX11_at 47 = .ok (.iload_n 1, 1) := by decide +kernel
theorem dX11_at_48 : decode cX11_at 48 = .ok (.iaload, 1) := by decide +kernel
theorem dX11_at_49 : decode cX11_at 49 = .ok (.ireturn, 1) := by decide +kernel
theorem dX11_at_50 : decode cX11_at 50 = .ok (.aload_n 0, 1) := by decide +kernel
theorem dX11_at_51 : decode cX11_at 51 = .ok (.getfield 12, 3) := by decide +kernel
theorem dX11_at_54 : decode cX11_at 54 = .ok (.getfield 118, 3) := by decide +kernel
theorem dX11_at_57 : decode cX11_at 57 = .ok (.iload_n 1, 1) := by decide +kernel
theorem dX11_at_58 : decode cX11_at 58 = .ok (.iaload, 1) := by decide +kernel
theorem dX11_at_59 : decode cX11_at 59 = .ok (.ireturn, 1) := by decide +kernel
theorem dX11_at_60 : decode cX11_at 60 = .ok (.aload_n 0, 1) := by decide +kernel
theorem dX11_at_61 : decode cX11_at 61 = .ok (.getfield 12, 3) := by decide +kernel
theorem dX11_at_64 : decode cX11_at 64 = .ok (.iload_n 1, 1) := by decide +kernel
theorem dX11_at_65 : decode cX11_at 65 = .ok (.invokevirtual 125, 3) := by decide +kernel
theorem dX11_at_68 : decode cX11_at 68 = .ok (.ireturn, 1) := by decide +kernel
theorem dX11_at_69 : decode cX11_at 69 = .ok (.iconst (-1), 1) := by decide +kernel
theorem dX11_at_70 : decode cX11_at 70 = .ok (.ireturn, 1) := by decide +kernel
def f_X11_at (σ : St) (a1 : Int32) (a2 : Int32) : Int32 := (if (f_X5_isWall σ a1) = 0 then (-1 : Int32) else (if a2 = (0 : Int32) then (σ 26 (ix a1)) else (if a2 = (1 : Int32) then (σ 27 (ix a1)) else (if a2 = (2 : Int32) then (f_X5_gap σ a1) else (-1 : Int32)))))
set_option maxHeartbeats 600000 in
set_option maxRecDepth 100000 in
theorem k_X11_at (l : Launch) (g : GG) (ρ : RR) (dt : Nat → Nat → Int32) (σ : St) (a1 : Int32) (a2 : Int32) (hX : IX σ) : PI l yX11_at (wsF yX11_at cX11_at 3 (some .int)) { frames := 1, cells := 0, slots := 0, locals := 21 } [.ref (g.2.2 100), .int (a1), .int (a2)] (GB g (xW g ρ) (XB g ρ dt) σ) (f_X11_at σ a1 a2) := by
  refine start_PI (by decide) (Nat.le_of_ble_eq_true rfl) ?_
  intro p e s m args below meth c C0 hG ls hl
  obtain ⟨hK, hP, hDD, hB⟩ := hG
  obtain ⟨hx, hb, hr, hml, hown, hts, hlocks⟩ := id C0
  have hl : lv_has ls 3 [(0, .ref (g.2.2 100)), (1, .int (a1)), (2, .int (a2))] := hl
  generalize hT : (f_X11_at σ a1 a2) = tgt
  unfold f_X11_at at hT
  obtain ⟨⟨j1, j1'⟩, ⟨j3, j3'⟩, ⟨j5, j5'⟩, ⟨j8, j8'⟩, ⟨j9, j9'⟩, ⟨j12, j12'⟩, ⟨j14, j14'⟩, ⟨j17, j17'⟩, j81, jW⟩ := id hX
  refine lv_aload_n hx hb dX11_at_0 rfl (lv_at hl 0 rfl) ?_
  refine x_get (σ := σ) (v := .ref (g.2.2 101)) (fs := xF0 g ρ σ) 11 0 C0 uw_11 dc_11 hK hP rfl rfl 0 (by decide) rfl w_229 dX11_at_1 ?_
  refine lv_iload_n hx hb dX11_at_4 rfl (lv_at hl 1 rfl) ?_
  refine x_cn (rest := []) (As := [.int (a1)]) (σ := σ) (ρ := ρ) (dt := dt) (T := TX5) (N := 18) (fs := xF1 g ρ σ) 5 1 rfl rfl C0 hK hP hDD hB cf_X5_isWall w_615 (k_X5_isWall l g ρ dt σ a1 ) ⟨by decide, by decide⟩ hl.1 rfl rfl (Nat.le_of_ble_eq_true rfl) dX11_at_5 ⟨Nat.zero_le _, Nat.zero_le _⟩ ?_
  refine lv_if_ne (tgt := 13) hx hb dX11_at_8 (by decide) (fun c_8 => ?_) (fun c_8 => ?_)
  · have hT := hT_neg c_8 hT
    refine lv_iload_n hx hb dX11_at_13 rfl (lv_at hl 2 rfl) ?_
    by_cases c_14_0 : a2 = (0 : Int32)
    · have hT := hT_pos c_14_0 hT
      refine lv_tableIn (tgt := 40) hx hb dX11_at_14 (by rw [c_14_0]; decide) (by rw [c_14_0]; decide) (by rw [c_14_0]; rfl) (by decide) ?_
      refine lv_aload_n hx hb dX11_at_40 rfl (lv_at hl 0 rfl) ?_
      refine x_get (σ := σ) (v := .ref (g.2.2 101)) (fs := xF0 g ρ σ) 11 0 C0 uw_11 dc_11 hK hP rfl rfl 0 (by decide) rfl w_229 dX11_at_41 ?_
      refine x_getN (σ := σ) (v := .ref (g.2.2 26)) (fs := xF1 g ρ σ) 5 1 C0 uw_5 dc_5 hK hP rfl rfl 6 (by decide) rfl w_121 dX11_at_44 ?_
      refine lv_iload_n hx hb dX11_at_47 rfl (lv_at hl 1 rfl) ?_
      have o_48 : vp_in a1 6 := by
        have : ((0 : Int32)).toInt = 0 := by decide
        have := xw_ne c_8
        have := ti_eq.mp c_14_0
        exact vin (by omega) (by omega)
      refine x_ald (σ := σ) C0 hK hP 11 26 6 rfl o_48 (ix a1) rfl dX11_at_48 ?_
      exact ret_PI C0 hT dX11_at_49
    have hT := hT_neg c_14_0 hT
    by_cases c_14_1 : a2 = (1 : Int32)
    · have hT := hT_pos c_14_1 hT
      refine lv_tableIn (tgt := 50) hx hb dX11_at_14 (by rw [c_14_1]; decide) (by rw [c_14_1]; decide) (by rw [c_14_1]; rfl) (by decide) ?_
      refine lv_aload_n hx hb dX11_at_50 rfl (lv_at hl 0 rfl) ?_
      refine x_get (σ := σ) (v := .ref (g.2.2 101)) (fs := xF0 g ρ σ) 11 0 C0 uw_11 dc_11 hK hP rfl rfl 0 (by decide) rfl w_229 dX11_at_51 ?_
      refine x_getN (σ := σ) (v := .ref (g.2.2 27)) (fs := xF1 g ρ σ) 5 1 C0 uw_5 dc_5 hK hP rfl rfl 7 (by decide) rfl w_123 dX11_at_54 ?_
      refine lv_iload_n hx hb dX11_at_57 rfl (lv_at hl 1 rfl) ?_
      have o_58 : vp_in a1 6 := by
        have : ((1 : Int32)).toInt = 1 := by decide
        have := xw_ne c_8
        have := ti_eq.mp c_14_1
        exact vin (by omega) (by omega)
      refine x_ald (σ := σ) C0 hK hP 12 27 6 rfl o_58 (ix a1) rfl dX11_at_58 ?_
      exact ret_PI C0 hT dX11_at_59
    have hT := hT_neg c_14_1 hT
    by_cases c_14_2 : a2 = (2 : Int32)
    · have hT := hT_pos c_14_2 hT
      refine lv_tableIn (tgt := 60) hx hb dX11_at_14 (by rw [c_14_2]; decide) (by rw [c_14_2]; decide) (by rw [c_14_2]; rfl) (by decide) ?_
      refine lv_aload_n hx hb dX11_at_60 rfl (lv_at hl 0 rfl) ?_
      refine x_get (σ := σ) (v := .ref (g.2.2 101)) (fs := xF0 g ρ σ) 11 0 C0 uw_11 dc_11 hK hP rfl rfl 0 (by decide) rfl w_229 dX11_at_61 ?_
      refine lv_iload_n hx hb dX11_at_64 rfl (lv_at hl 1 rfl) ?_
      have q65_h1 : 0 ≤ a1.toInt := by
        have : ((2 : Int32)).toInt = 2 := by decide
        have := xw_ne c_8
        have := ti_eq.mp c_14_2
        omega
      have q65_h2 : a1.toInt < 6 := by
        have : ((2 : Int32)).toInt = 2 := by decide
        have := xw_ne c_8
        have := ti_eq.mp c_14_2
        omega
      refine x_cn (rest := []) (As := [.int (a1)]) (σ := σ) (ρ := ρ) (dt := dt) (T := TX5) (N := 18) (fs := xF1 g ρ σ) 5 1 rfl rfl C0 hK hP hDD hB cf_X5_gap w_619 (k_X5_gap l g ρ dt σ a1 q65_h1 q65_h2) ⟨by decide, by decide⟩ hl.1 rfl rfl (Nat.le_of_ble_eq_true rfl) dX11_at_65 ⟨Nat.zero_le _, Nat.zero_le _⟩ ?_
      exact ret_PI C0 hT dX11_at_68
    have hT := hT_neg c_14_2 hT
    refine lv_tableOut (tgt := 69) hx hb dX11_at_14 (sw_out (fun k h1 h2 => by
        rcases (show k = 0 ∨ k = 1 ∨ k = 2 by omega) with rfl | rfl | rfl <;> first | exact c_14_0 | exact c_14_1 | exact c_14_2)) (by decide) ?_
    refine lv_iconst (v := (-1 : Int32)) hx hb dX11_at_69 (by decide) ?_
    exact ret_PI C0 hT dX11_at_70
  · have hT := hT_pos c_8 hT
    refine lv_iconst (v := (-1 : Int32)) hx hb dX11_at_11 (by decide) ?_
    exact ret_PI C0 hT dX11_at_12
/-! ThreeMeasures.known -/
theorem dX11_known_0 : decode cX11_known 0 = .ok (.aload_n 0, 1) := by decide +kernel
theorem dX11_known_1 : decode cX11_known 1 = .ok (.getfield 12, 3) := by decide +kernel
theorem dX11_known_4 : decode cX11_known 4 = .ok (.iload_n 1, 1) := by decide +kernel
theorem dX11_known_5 : decode cX11_known 5 = .ok (.invokevirtual 121, 3) := by decide +kernel
theorem dX11_known_8 : decode cX11_known 8 = .ok (.ifCond .ne 5, 3) := by decide +kernel
theorem dX11_known_11 : decode cX11_known 11 = .ok (.iconst (-1), 1) := by decide +kernel
theorem dX11_known_12 : decode cX11_known 12 = .ok (.ireturn, 1) := by decide +kernel
theorem dX11_known_13 : decode cX11_known 13 = .ok (.iload_n 2, 1) := by decide +kernel
theorem dX11_known_14 : decode cX11_known 14 = .ok (.ifCond .lt 15, 3) := by decide +kernel
theorem dX11_known_17 : decode cX11_known 17 = .ok (.iload_n 3, 1) := by decide +kernel
theorem dX11_known_18 : decode cX11_known 18 = .ok (.sipush 999, 3) := by decide +kernel
theorem dX11_known_21 : decode cX11_known 21 = .ok (.if_icmp .gt 8, 3) := by decide +kernel
theorem dX11_known_24 : decode cX11_known 24 = .ok (.iload_n 2, 1) := by decide +kernel
theorem dX11_known_25 : decode cX11_known 25 = .ok (.iload_n 3, 1) := by decide +kernel
theorem dX11_known_26 : decode cX11_known 26 = .ok (.if_icmp .le 6, 3) := by decide +kernel
theorem dX11_known_29 : decode cX11_known 29 = .ok (.bipush (-2), 2) := by decide +kernel
theorem dX11_known_31 : decode cX11_known 31 = .ok (.ireturn, 1) := by decide +kernel
theorem dX11_known_32 : decode cX11_known 32 = .ok (.aload_n 0, 1) := by decide +kernel
theorem dX11_known_33 : decode cX11_known 33 = .ok (.getfield 12, 3) := by decide +kernel
theorem dX11_known_36 : decode cX11_known 36 = .ok (.iload_n 1, 1) := by decide +kernel
theorem dX11_known_37 : decode cX11_known 37 = .ok (.invokevirtual 125, 3) := by decide +kernel
theorem dX11_known_40 : decode cX11_known 40 = .ok (.istore 4, 2) := by decide +kernel
theorem dX11_known_42 : decode cX11_known 42 = .ok (.aload_n 0, 1) := by decide +kernel
theorem dX11_known_43 : decode cX11_known 43 = .ok (.getfield 12, 3) := by decide +kernel
theorem dX11_known_46 : decode cX11_known 46 = .ok (.getfield 115, 3) := by decide +kernel
theorem dX11_known_49 : decode cX11_known 49 = .ok (.iload_n 1, 1) := by decide +kernel
theorem dX11_known_50 : decode cX11_known 50 = .ok (.iload_n 2, 1) := by decide +kernel
theorem dX11_known_51 : decode cX11_known 51 = .ok (.iastore, 1) := by decide +kernel
theorem dX11_known_52 : decode cX11_known 52 = .ok (.aload_n 0, 1) := by decide +kernel
theorem dX11_known_53 : decode cX11_known 53 = .ok (.getfield 12, 3) := by decide +kernel
theorem dX11_known_56 : decode cX11_known 56 = .ok (.getfield 118, 3) := by decide +kernel
theorem dX11_known_59 : decode cX11_known 59 = .ok (.iload_n 1, 1) := by decide +kernel
theorem dX11_known_60 : decode cX11_known 60 = .ok (.iload_n 3, 1) := by decide +kernel
theorem dX11_known_61 : decode cX11_known 61 = .ok (.iastore, 1) := by decide +kernel
theorem dX11_known_62 : decode cX11_known 62 = .ok (.iload 4, 2) := by decide +kernel
theorem dX11_known_64 : decode cX11_known 64 = .ok (.ireturn, 1) := by decide +kernel
def f_X11_known (σ : St) (a1 : Int32) (a2 : Int32) (a3 : Int32) : Int32 × St := (if (f_X5_isWall σ a1) = 0 then ((-1 : Int32), σ) else (if a2 < 0 then ((-2 : Int32), σ) else (if (999 : Int32) < a3 then ((-2 : Int32), σ) else (if a2 ≤ a3 then ((f_X5_gap σ a1), (up2 (up2 σ 26 (ix a1) a2) 27 (ix a1) a3)) else ((-2 : Int32), σ)))))
set_option maxHeartbeats 600000 in
set_option maxRecDepth 100000 in
theorem k_X11_known (l : Launch) (g : GG) (ρ : RR) (dt : Nat → Nat → Int32) (σ : St) (a1 : Int32) (a2 : Int32) (a3 : Int32) (hX : IX σ) : MI l yX11_known (wsF yX11_known cX11_known 5 (some .int)) { frames := 1, cells := 0, slots := 0, locals := 21 } [.ref (g.2.2 100), .int (a1), .int (a2), .int (a3)] g (xW g ρ) (XB g ρ dt) σ (f_X11_known σ a1 a2 a3) := by
  refine start_MI (by decide) (Nat.le_of_ble_eq_true rfl) ?_
  intro p e s m args below meth c C0 hK hB hC ls hl
  generalize hAe : aA ((xW g ρ) σ) = A at hC ⊢
  have hA : ∀ q, A q → q ∈ adrs (xW g (fun _ _ => none) (fun _ _ => 0)) := fun q h => by rw [← hAe] at h; exact h
  obtain ⟨hx, hb, hr, hml, hown, hts, hlocks⟩ := id C0
  have hl : lv_has ls 5 [(0, .ref (g.2.2 100)), (1, .int (a1)), (2, .int (a2)), (3, .int (a3))] := hl
  generalize hT : (f_X11_known σ a1 a2 a3) = tgt
  suffices key : ∀ (H : Heap) (locs : List Loc), WC g (xW g ρ) A s.heap σ H locs → W p l e { frames := 1, cells := 0, slots := 0, locals := 21 } s m args below meth c H locs 0 0 (QMI below args s g (xW g ρ) A tgt) (F0 m 0 ls []) from key _ _ hC
  intro H locs hC
  unfold f_X11_known at hT
  obtain ⟨⟨j1, j1'⟩, ⟨j3, j3'⟩, ⟨j5, j5'⟩, ⟨j8, j8'⟩, ⟨j9, j9'⟩, ⟨j12, j12'⟩, ⟨j14, j14'⟩, ⟨j17, j17'⟩, j81, jW⟩ := id hX
  refine lv_aload_n hx hb dX11_known_0 rfl (lv_at hl 0 rfl) ?_
  refine x_get (σ := σ) (v := .ref (g.2.2 101)) (fs := xF0 g ρ σ) 11 0 C0 uw_11 dc_11 hK hC.1 rfl rfl 0 (by decide) rfl w_229 dX11_known_1 ?_
  refine lv_iload_n hx hb dX11_known_4 rfl (lv_at hl 1 rfl) ?_
  refine x_cn (rest := []) (As := [.int (a1)]) (σ := σ) (ρ := ρ) (dt := dt) (T := TX5) (N := 18) (fs := xF1 g ρ σ) 5 1 rfl rfl C0 hK hC.1 (hC.2.1.weaken (fun _ _ _ _ => trivial)) (XH.wa hB hA hC) cf_X5_isWall w_615 (k_X5_isWall l g ρ dt σ a1 ) ⟨by decide, by decide⟩ hl.1 rfl rfl (Nat.le_of_ble_eq_true rfl) dX11_known_5 ⟨Nat.zero_le _, Nat.zero_le _⟩ ?_
  refine lv_if_ne (tgt := 13) hx hb dX11_known_8 (by decide) (fun c_8 => ?_) (fun c_8 => ?_)
  · have hT := hT_neg c_8 hT
    refine lv_iload_n hx hb dX11_known_13 rfl (lv_at hl 2 rfl) ?_
    refine lv_if_lt (tgt := 29) hx hb dX11_known_14 (by decide) (fun c_14 => ?_) (fun c_14 => ?_)
    · have hT := hT_pos c_14 hT
      refine lv_bipush (v := (-2 : Int32)) hx hb dX11_known_29 (by decide) ?_
      exact ret_MI C0 hC hT dX11_known_31
    · have hT := hT_neg c_14 hT
      refine lv_iload_n hx hb dX11_known_17 rfl (lv_at hl 3 rfl) ?_
      refine lv_sipush (v := (999 : Int32)) hx hb dX11_known_18 (by decide) ?_
      refine lv_icmp_gt (tgt := 29) hx hb dX11_known_21 (by decide) (fun c_21 => ?_) (fun c_21 => ?_)
      · have hT := hT_pos c_21 hT
        refine lv_bipush (v := (-2 : Int32)) hx hb dX11_known_29 (by decide) ?_
        exact ret_MI C0 hC hT dX11_known_31
      · have hT := hT_neg c_21 hT
        refine lv_iload_n hx hb dX11_known_24 rfl (lv_at hl 2 rfl) ?_
        refine lv_iload_n hx hb dX11_known_25 rfl (lv_at hl 3 rfl) ?_
        refine lv_icmp_le (tgt := 32) hx hb dX11_known_26 (by decide) (fun c_26 => ?_) (fun c_26 => ?_)
        · have hT := hT_pos c_26 hT
          refine lv_aload_n hx hb dX11_known_32 rfl (lv_at hl 0 rfl) ?_
          refine x_get (σ := σ) (v := .ref (g.2.2 101)) (fs := xF0 g ρ σ) 11 0 C0 uw_11 dc_11 hK hC.1 rfl rfl 0 (by decide) rfl w_229 dX11_known_33 ?_
          refine lv_iload_n hx hb dX11_known_36 rfl (lv_at hl 1 rfl) ?_
          have q37_h1 : 0 ≤ a1.toInt := by
            have : ((0 : Int32)).toInt = 0 := by decide
            have : ((999 : Int32)).toInt = 999 := by decide
            have := xw_ne c_8
            have := mt ti_lt.mpr c_14
            have := mt ti_lt.mpr c_21
            have := ti_le.mp c_26
            omega
          have q37_h2 : a1.toInt < 6 := by
            have : ((0 : Int32)).toInt = 0 := by decide
            have : ((999 : Int32)).toInt = 999 := by decide
            have := xw_ne c_8
            have := mt ti_lt.mpr c_14
            have := mt ti_lt.mpr c_21
            have := ti_le.mp c_26
            omega
          refine x_cn (rest := []) (As := [.int (a1)]) (σ := σ) (ρ := ρ) (dt := dt) (T := TX5) (N := 18) (fs := xF1 g ρ σ) 5 1 rfl rfl C0 hK hC.1 (hC.2.1.weaken (fun _ _ _ _ => trivial)) (XH.wa hB hA hC) cf_X5_gap w_619 (k_X5_gap l g ρ dt σ a1 q37_h1 q37_h2) ⟨by decide, by decide⟩ hl.1 rfl rfl (Nat.le_of_ble_eq_true rfl) dX11_known_37 ⟨Nat.zero_le _, Nat.zero_le _⟩ ?_
          refine lv_istore (lv' := [(4, .int ((f_X5_gap σ a1))), (0, .ref (g.2.2 100)), (1, .int (a1)), (2, .int (a2)), (3, .int (a3))]) hx hb dX11_known_40 hl (by decide) rfl (fun ls hl => ?_)
          refine lv_aload_n hx hb dX11_known_42 rfl (lv_at hl 1 rfl) ?_
          refine x_get (σ := σ) (v := .ref (g.2.2 101)) (fs := xF0 g ρ σ) 11 0 C0 uw_11 dc_11 hK hC.1 rfl rfl 0 (by decide) rfl w_229 dX11_known_43 ?_
          refine x_getN (σ := σ) (v := .ref (g.2.2 26)) (fs := xF1 g ρ σ) 5 1 C0 uw_5 dc_5 hK hC.1 rfl rfl 6 (by decide) rfl w_121 dX11_known_46 ?_
          refine lv_iload_n hx hb dX11_known_49 rfl (lv_at hl 2 rfl) ?_
          refine lv_iload_n hx hb dX11_known_50 rfl (lv_at hl 3 rfl) ?_
          have o_51 : vp_in a1 6 := by
            have : ((0 : Int32)).toInt = 0 := by decide
            have : ((999 : Int32)).toInt = 999 := by decide
            have := xw_ne c_8
            have := mt ti_lt.mpr c_14
            have := mt ti_lt.mpr c_21
            have := ti_le.mp c_26
            exact vin (by omega) (by omega)
          refine x_ast (σ := σ) C0 hK hC 11 26 6 rfl (xs_26 g ρ _) o_51 (ix a1) rfl dX11_known_51 (fun H locs hC => ?_)
          refine lv_aload_n hx hb dX11_known_52 rfl (lv_at hl 1 rfl) ?_
          refine x_get (σ := (up2 σ 26 (ix a1) a2)) (v := .ref (g.2.2 101)) (fs := xF0 g ρ (up2 σ 26 (ix a1) a2)) 11 0 C0 uw_11 dc_11 hK hC.1 rfl rfl 0 (by decide) rfl w_229 dX11_known_53 ?_
          refine x_getN (σ := (up2 σ 26 (ix a1) a2)) (v := .ref (g.2.2 27)) (fs := xF1 g ρ (up2 σ 26 (ix a1) a2)) 5 1 C0 uw_5 dc_5 hK hC.1 rfl rfl 7 (by decide) rfl w_123 dX11_known_56 ?_
          refine lv_iload_n hx hb dX11_known_59 rfl (lv_at hl 2 rfl) ?_
          refine lv_iload_n hx hb dX11_known_60 rfl (lv_at hl 4 rfl) ?_
          have o_61 : vp_in a1 6 := by
            have : ((0 : Int32)).toInt = 0 := by decide
            have : ((999 : Int32)).toInt = 999 := by decide
            have := xw_ne c_8
            have := mt ti_lt.mpr c_14
            have := mt ti_lt.mpr c_21
            have := ti_le.mp c_26
            exact vin (by omega) (by omega)
          refine x_ast (σ := (up2 σ 26 (ix a1) a2)) C0 hK hC 12 27 6 rfl (xs_27 g ρ _) o_61 (ix a1) rfl dX11_known_61 (fun H locs hC => ?_)
          refine lv_iload hx hb dX11_known_62 (lv_at hl 0 rfl) ?_
          exact ret_MI C0 hC hT dX11_known_64
        · have hT := hT_neg c_26 hT
          refine lv_bipush (v := (-2 : Int32)) hx hb dX11_known_29 (by decide) ?_
          exact ret_MI C0 hC hT dX11_known_31
  · have hT := hT_pos c_8 hT
    refine lv_iconst (v := (-1 : Int32)) hx hb dX11_known_11 (by decide) ?_
    exact ret_MI C0 hC hT dX11_known_12
set_option maxRecDepth 20000 in
theorem w_133 : (Cond.fieldLinkNest RX11 209 RX5 "stepCount" "I" RX11) ∈ NB := inNB (List.mem_of_getElem? (i := 133) (by decide +kernel)) (by decide +kernel)
set_option maxRecDepth 20000 in
theorem w_129 : (Cond.fieldLinkNest RX11 212 RX5 "stepWays" "[I" RX11) ∈ NB := inNB (List.mem_of_getElem? (i := 129) (by decide +kernel)) (by decide +kernel)
set_option maxRecDepth 20000 in
theorem w_131 : (Cond.fieldLinkNest RX11 215 RX5 "stepLengths" "[I" RX11) ∈ NB := inNB (List.mem_of_getElem? (i := 131) (by decide +kernel)) (by decide +kernel)
/-! ThreeMeasures.step -/
theorem dX11_step_0 : decode cX11_step 0 = .ok (.iload_n 1, 1) := by decide +kernel
theorem dX11_step_1 : decode cX11_step 1 = .ok (.iconst (-1), 1) := by decide +kernel
theorem dX11_step_2 : decode cX11_step 2 = .ok (.if_icmp .ne 13, 3) := by decide +kernel
theorem dX11_step_5 : decode cX11_step 5 = .ok (.aload_n 0, 1) := by decide +kernel
theorem dX11_step_6 : decode cX11_step 6 = .ok (.getfield 12, 3) := by decide +kernel
theorem dX11_step_9 : decode cX11_step 9 = .ok (.iconst 0, 1) := by decide +kernel
theorem dX11_step_10 : decode cX11_step 10 = .ok (.putfield 209, 3) := by decide +kernel
theorem dX11_step_13 : decode cX11_step 13 = .ok (.iconst 0, 1) := by decide +kernel
theorem dX11_step_14 : decode cX11_step 14 = .ok (.ireturn, 1) := by decide +kernel
theorem dX11_step_15 : decode cX11_step 15 = .ok (.iload_n 1, 1) := by decide +kernel
theorem dX11_step_16 : decode cX11_step 16 = .ok (.ifCond .lt 8, 3) := by decide +kernel
theorem dX11_step_19 : decode cX11_step 19 = .ok (.iload_n 1, 1) := by decide +kernel
theorem dX11_step_20 : decode cX11_step 20 = .ok (.iconst 3, 1) := by decide +kernel
theorem dX11_step_21 : decode cX11_step 21 = .ok (.if_icmp .le 5, 3) := by decide +kernel
theorem dX11_step_24 : decode cX11_step 24 = .ok (.iconst (-1), 1) := by decide +kernel
theorem dX11_step_25 : decode cX11_step 25 = .ok (.ireturn, 1) := by decide +kernel
theorem dX11_step_26 : decode cX11_step 26 = .ok (.iload_n 2, 1) := by decide +kernel
theorem dX11_step_27 : decode cX11_step 27 = .ok (.iconst 1, 1) := by decide +kernel
theorem dX11_step_28 : decode cX11_step 28 = .ok (.if_icmp .lt 9, 3) := by decide +kernel
theorem dX11_step_31 : decode cX11_step 31 = .ok (.iload_n 2, 1) := by decide +kernel
theorem dX11_step_32 : decode cX11_step 32 = .ok (.bipush 99, 2) := by decide +kernel
theorem dX11_step_34 : decode cX11_step 34 = .ok (.if_icmp .le 6, 3) := by decide +kernel
theorem dX11_step_37 : decode cX11_step 37 = .ok (.bipush (-2), 2) := by decide +kernel
theorem dX11_step_39 : decode cX11_step 39 = .ok (.ireturn, 1) := by decide +kernel
theorem dX11_step_40 : decode cX11_step 40 = .ok (.aload_n 0, 1) := by decide +kernel
theorem dX11_step_41 : decode cX11_step 41 = .ok (.getfield 12, 3) := by decide +kernel
theorem dX11_step_44 : decode cX11_step 44 = .ok (.getfield 209, 3) := by decide +kernel
theorem dX11_step_47 : decode cX11_step 47 = .ok (.bipush 8, 2) := by decide +kernel
theorem dX11_step_49 : decode cX11_step 49 = .ok (.if_icmp .lt 6, 3) := by decide +kernel
theorem dX11_step_52 : decode cX11_step 52 = .ok (.bipush (-4), 2) := by decide +kernel
theorem dX11_step_54 : decode cX11_step 54 = .ok (.ireturn, 1) := by decide +kernel
theorem dX11_step_55 : decode cX11_step 55 = .ok (.aload_n 0, 1) := by decide +kernel
theorem dX11_step_56 : decode cX11_step 56 = .ok (.getfield 12, 3) := by decide +kernel
theorem dX11_step_59 : decode cX11_step 59 = .ok (.getfield 212, 3) := by decide +kernel
theorem dX11_step_62 : decode cX11_step 62 = .ok (.aload_n 0, 1) := by decide +kernel
theorem dX11_step_63 : decode cX11_step 63 = .ok (.getfield 12, 3) := by decide +kernel
theorem dX11_step_66 : decode cX11_step 66 = .ok (.getfield 209, 3) := by decide +kernel
theorem dX11_step_69 : decode cX11_step 69 = .ok (.iload_n 1, 1) := by decide +kernel
theorem dX11_step_70 : decode cX11_step 70 = .ok (.iastore, 1) := by decide +kernel
theorem dX11_step_71 : decode cX11_step 71 = .ok (.aload_n 0, 1) := by decide +kernel
theorem dX11_step_72 : decode cX11_step 72 = .ok (.getfield 12, 3) := by decide +kernel
theorem dX11_step_75 : decode cX11_step 75 = .ok (.getfield 215, 3) := by decide +kernel
theorem dX11_step_78 : decode cX11_step 78 = .ok (.aload_n 0, 1) := by decide +kernel
theorem dX11_step_79 : decode cX11_step 79 = .ok (.getfield 12, 3) := by decide +kernel
theorem dX11_step_82 : decode cX11_step 82 = .ok (.getfield 209, 3) := by decide +kernel
theorem dX11_step_85 : decode cX11_step 85 = .ok (.iload_n 2, 1) := by decide +kernel
theorem dX11_step_86 : decode cX11_step 86 = .ok (.iastore, 1) := by decide +kernel
theorem dX11_step_87 : decode cX11_step 87 = .ok (.aload_n 0, 1) := by decide +kernel
theorem dX11_step_88 : decode cX11_step 88 = .ok (.getfield 12, 3) := by decide +kernel
theorem dX11_step_91 : decode cX11_step 91 = .ok (.dup, 1) := by decide +kernel
theorem dX11_step_92 : decode cX11_step 92 = .ok (.getfield 209, 3) := by decide +kernel
theorem dX11_step_95 : decode cX11_step 95 = .ok (.iconst 1, 1) := by decide +kernel
theorem dX11_step_96 : decode cX11_step 96 = .ok (.iadd, 1) := by decide +kernel
theorem dX11_step_97 : decode cX11_step 97 = .ok (.putfield 209, 3) := by decide +kernel
theorem dX11_step_100 : decode cX11_step 100 = .ok (.aload_n 0, 1) := by decide +kernel
theorem dX11_step_101 : decode cX11_step 101 = .ok (.getfield 12, 3) := by decide +kernel
theorem dX11_step_104 : decode cX11_step 104 = .ok (.getfield 209, 3) := by decide +kernel
theorem dX11_step_107 : decode cX11_step 107 = .ok (.ireturn, 1) := by decide +kernel
def f_X11_step (σ : St) (a1 : Int32) (a2 : Int32) : Int32 × St := (if a1 = (-1 : Int32) then ((0 : Int32), (up2 σ 32 0 (0 : Int32))) else (if a1 < 0 then ((-1 : Int32), σ) else (if a1 ≤ (3 : Int32) then (if a2 < (1 : Int32) then ((-2 : Int32), σ) else (if a2 ≤ (99 : Int32) then (if (σ 32 0) < (8 : Int32) then (((σ 32 0) + (1 : Int32)), (up2 (up2 (up2 σ 30 (ix (σ 32 0)) a1) 31 (ix (σ 32 0)) a2) 32 0 ((σ 32 0) + (1 : Int32)))) else ((-4 : Int32), σ)) else ((-2 : Int32), σ))) else ((-1 : Int32), σ))))
set_option maxHeartbeats 600000 in
set_option maxRecDepth 100000 in
theorem k_X11_step (l : Launch) (g : GG) (ρ : RR) (dt : Nat → Nat → Int32) (σ : St) (a1 : Int32) (a2 : Int32) (hX : IX σ) : MI l yX11_step (wsF yX11_step cX11_step 3 (some .int)) { frames := 0, cells := 0, slots := 0, locals := 0 } [.ref (g.2.2 100), .int (a1), .int (a2)] g (xW g ρ) (XB g ρ dt) σ (f_X11_step σ a1 a2) := by
  refine start_MI (by decide) (Nat.le_of_ble_eq_true rfl) ?_
  intro p e s m args below meth c C0 hK hB hC ls hl
  generalize hAe : aA ((xW g ρ) σ) = A at hC ⊢
  have hA : ∀ q, A q → q ∈ adrs (xW g (fun _ _ => none) (fun _ _ => 0)) := fun q h => by rw [← hAe] at h; exact h
  obtain ⟨hx, hb, hr, hml, hown, hts, hlocks⟩ := id C0
  have hl : lv_has ls 3 [(0, .ref (g.2.2 100)), (1, .int (a1)), (2, .int (a2))] := hl
  generalize hT : (f_X11_step σ a1 a2) = tgt
  suffices key : ∀ (H : Heap) (locs : List Loc), WC g (xW g ρ) A s.heap σ H locs → W p l e { frames := 0, cells := 0, slots := 0, locals := 0 } s m args below meth c H locs 0 0 (QMI below args s g (xW g ρ) A tgt) (F0 m 0 ls []) from key _ _ hC
  intro H locs hC
  unfold f_X11_step at hT
  obtain ⟨⟨j1, j1'⟩, ⟨j3, j3'⟩, ⟨j5, j5'⟩, ⟨j8, j8'⟩, ⟨j9, j9'⟩, ⟨j12, j12'⟩, ⟨j14, j14'⟩, ⟨j17, j17'⟩, j81, jW⟩ := id hX
  refine lv_iload_n hx hb dX11_step_0 rfl (lv_at hl 1 rfl) ?_
  refine lv_iconst (v := (-1 : Int32)) hx hb dX11_step_1 (by decide) ?_
  refine lv_icmp_ne (tgt := 15) hx hb dX11_step_2 (by decide) (fun c_2 => ?_) (fun c_2 => ?_)
  · have hT := hT_neg c_2 hT
    refine lv_iload_n hx hb dX11_step_15 rfl (lv_at hl 1 rfl) ?_
    refine lv_if_lt (tgt := 24) hx hb dX11_step_16 (by decide) (fun c_16 => ?_) (fun c_16 => ?_)
    · have hT := hT_pos c_16 hT
      refine lv_iconst (v := (-1 : Int32)) hx hb dX11_step_24 (by decide) ?_
      exact ret_MI C0 hC hT dX11_step_25
    · have hT := hT_neg c_16 hT
      refine lv_iload_n hx hb dX11_step_19 rfl (lv_at hl 1 rfl) ?_
      refine lv_iconst (v := (3 : Int32)) hx hb dX11_step_20 (by decide) ?_
      refine lv_icmp_le (tgt := 26) hx hb dX11_step_21 (by decide) (fun c_21 => ?_) (fun c_21 => ?_)
      · have hT := hT_pos c_21 hT
        refine lv_iload_n hx hb dX11_step_26 rfl (lv_at hl 2 rfl) ?_
        refine lv_iconst (v := (1 : Int32)) hx hb dX11_step_27 (by decide) ?_
        refine lv_icmp_lt (tgt := 37) hx hb dX11_step_28 (by decide) (fun c_28 => ?_) (fun c_28 => ?_)
        · have hT := hT_pos c_28 hT
          refine lv_bipush (v := (-2 : Int32)) hx hb dX11_step_37 (by decide) ?_
          exact ret_MI C0 hC hT dX11_step_39
        · have hT := hT_neg c_28 hT
          refine lv_iload_n hx hb dX11_step_31 rfl (lv_at hl 2 rfl) ?_
          refine lv_bipush (v := (99 : Int32)) hx hb dX11_step_32 (by decide) ?_
          refine lv_icmp_le (tgt := 40) hx hb dX11_step_34 (by decide) (fun c_34 => ?_) (fun c_34 => ?_)
          · have hT := hT_pos c_34 hT
            refine lv_aload_n hx hb dX11_step_40 rfl (lv_at hl 0 rfl) ?_
            refine x_get (σ := σ) (v := .ref (g.2.2 101)) (fs := xF0 g ρ σ) 11 0 C0 uw_11 dc_11 hK hC.1 rfl rfl 0 (by decide) rfl w_229 dX11_step_41 ?_
            refine x_getN (σ := σ) (v := .int ((σ 32 0))) (fs := xF1 g ρ σ) 5 1 C0 uw_5 dc_5 hK hC.1 rfl rfl 12 (by decide) rfl w_133 dX11_step_44 ?_
            refine lv_bipush (v := (8 : Int32)) hx hb dX11_step_47 (by decide) ?_
            refine lv_icmp_lt (tgt := 55) hx hb dX11_step_49 (by decide) (fun c_49 => ?_) (fun c_49 => ?_)
            · have hT := hT_pos c_49 hT
              refine lv_aload_n hx hb dX11_step_55 rfl (lv_at hl 0 rfl) ?_
              refine x_get (σ := σ) (v := .ref (g.2.2 101)) (fs := xF0 g ρ σ) 11 0 C0 uw_11 dc_11 hK hC.1 rfl rfl 0 (by decide) rfl w_229 dX11_step_56 ?_
              refine x_getN (σ := σ) (v := .ref (g.2.2 30)) (fs := xF1 g ρ σ) 5 1 C0 uw_5 dc_5 hK hC.1 rfl rfl 10 (by decide) rfl w_129 dX11_step_59 ?_
              refine lv_aload_n hx hb dX11_step_62 rfl (lv_at hl 0 rfl) ?_
              refine x_get (σ := σ) (v := .ref (g.2.2 101)) (fs := xF0 g ρ σ) 11 0 C0 uw_11 dc_11 hK hC.1 rfl rfl 0 (by decide) rfl w_229 dX11_step_63 ?_
              refine x_getN (σ := σ) (v := .int ((σ 32 0))) (fs := xF1 g ρ σ) 5 1 C0 uw_5 dc_5 hK hC.1 rfl rfl 12 (by decide) rfl w_133 dX11_step_66 ?_
              refine lv_iload_n hx hb dX11_step_69 rfl (lv_at hl 1 rfl) ?_
              have o_70 : vp_in (σ 32 0) 8 := by
                have : ((-1 : Int32)).toInt = -1 := by decide
                have : ((0 : Int32)).toInt = 0 := by decide
                have : ((3 : Int32)).toInt = 3 := by decide
                have : ((1 : Int32)).toInt = 1 := by decide
                have : ((99 : Int32)).toInt = 99 := by decide
                have : ((8 : Int32)).toInt = 8 := by decide
                have := mt ti_eq.mpr c_2
                have := mt ti_lt.mpr c_16
                have := ti_le.mp c_21
                have := mt ti_lt.mpr c_28
                have := ti_le.mp c_34
                have := ti_lt.mp c_49
                exact vin (by omega) (by omega)
              refine x_ast (σ := σ) C0 hK hC 13 30 8 rfl (xs_30 g ρ _) o_70 (ix (σ 32 0)) rfl dX11_step_70 (fun H locs hC => ?_)
              refine lv_aload_n hx hb dX11_step_71 rfl (lv_at hl 0 rfl) ?_
              refine x_get (σ := (up2 σ 30 (ix (σ 32 0)) a1)) (v := .ref (g.2.2 101)) (fs := xF0 g ρ (up2 σ 30 (ix (σ 32 0)) a1)) 11 0 C0 uw_11 dc_11 hK hC.1 rfl rfl 0 (by decide) rfl w_229 dX11_step_72 ?_
              refine x_getN (σ := (up2 σ 30 (ix (σ 32 0)) a1)) (v := .ref (g.2.2 31)) (fs := xF1 g ρ (up2 σ 30 (ix (σ 32 0)) a1)) 5 1 C0 uw_5 dc_5 hK hC.1 rfl rfl 11 (by decide) rfl w_131 dX11_step_75 ?_
              refine lv_aload_n hx hb dX11_step_78 rfl (lv_at hl 0 rfl) ?_
              refine x_get (σ := (up2 σ 30 (ix (σ 32 0)) a1)) (v := .ref (g.2.2 101)) (fs := xF0 g ρ (up2 σ 30 (ix (σ 32 0)) a1)) 11 0 C0 uw_11 dc_11 hK hC.1 rfl rfl 0 (by decide) rfl w_229 dX11_step_79 ?_
              refine x_getN (σ := (up2 σ 30 (ix (σ 32 0)) a1)) (v := .int ((σ 32 0))) (fs := xF1 g ρ (up2 σ 30 (ix (σ 32 0)) a1)) 5 1 C0 uw_5 dc_5 hK hC.1 rfl rfl 12 (by decide) rfl w_133 dX11_step_82 ?_
              refine lv_iload_n hx hb dX11_step_85 rfl (lv_at hl 2 rfl) ?_
              have o_86 : vp_in (σ 32 0) 8 := by
                have : ((-1 : Int32)).toInt = -1 := by decide
                have : ((0 : Int32)).toInt = 0 := by decide
                have : ((3 : Int32)).toInt = 3 := by decide
                have : ((1 : Int32)).toInt = 1 := by decide
                have : ((99 : Int32)).toInt = 99 := by decide
                have : ((8 : Int32)).toInt = 8 := by decide
                have := mt ti_eq.mpr c_2
                have := mt ti_lt.mpr c_16
                have := ti_le.mp c_21
                have := mt ti_lt.mpr c_28
                have := ti_le.mp c_34
                have := ti_lt.mp c_49
                exact vin (by omega) (by omega)
              refine x_ast (σ := (up2 σ 30 (ix (σ 32 0)) a1)) C0 hK hC 14 31 8 rfl (xs_31 g ρ _) o_86 (ix (σ 32 0)) rfl dX11_step_86 (fun H locs hC => ?_)
              refine lv_aload_n hx hb dX11_step_87 rfl (lv_at hl 0 rfl) ?_
              refine x_get (σ := (up2 (up2 σ 30 (ix (σ 32 0)) a1) 31 (ix (σ 32 0)) a2)) (v := .ref (g.2.2 101)) (fs := xF0 g ρ (up2 (up2 σ 30 (ix (σ 32 0)) a1) 31 (ix (σ 32 0)) a2)) 11 0 C0 uw_11 dc_11 hK hC.1 rfl rfl 0 (by decide) rfl w_229 dX11_step_88 ?_
              refine lv_dup hx hb dX11_step_91 rfl ?_
              refine x_getN (σ := (up2 (up2 σ 30 (ix (σ 32 0)) a1) 31 (ix (σ 32 0)) a2)) (v := .int ((σ 32 0))) (fs := xF1 g ρ (up2 (up2 σ 30 (ix (σ 32 0)) a1) 31 (ix (σ 32 0)) a2)) 5 1 C0 uw_5 dc_5 hK hC.1 rfl rfl 12 (by decide) rfl w_133 dX11_step_92 ?_
              refine lv_iconst (v := (1 : Int32)) hx hb dX11_step_95 (by decide) ?_
              refine lv_iadd hx hb dX11_step_96 ?_
              refine x_putN (σ := (up2 (up2 σ 30 (ix (σ 32 0)) a1) 31 (ix (σ 32 0)) a2)) (ty := .int) (fs := xF1 g ρ (up2 (up2 σ 30 (ix (σ 32 0)) a1) 31 (ix (σ 32 0)) a2)) 5 1 C0 uw_5 dc_5 tyX5 tyX5_ok nmX5 hK hC rfl rfl 12 (by decide) rfl rfl rfl rfl (Nat.le_of_ble_eq_true rfl) (xs_32 g ρ _ _) w_133 dX11_step_97 (fun H locs hC => ?_)
              refine lv_aload_n hx hb dX11_step_100 rfl (lv_at hl 0 rfl) ?_
              refine x_get (σ := (up2 (up2 (up2 σ 30 (ix (σ 32 0)) a1) 31 (ix (σ 32 0)) a2) 32 0 ((σ 32 0) + (1 : Int32)))) (v := .ref (g.2.2 101)) (fs := xF0 g ρ (up2 (up2 (up2 σ 30 (ix (σ 32 0)) a1) 31 (ix (σ 32 0)) a2) 32 0 ((σ 32 0) + (1 : Int32)))) 11 0 C0 uw_11 dc_11 hK hC.1 rfl rfl 0 (by decide) rfl w_229 dX11_step_101 ?_
              refine x_getN (σ := (up2 (up2 (up2 σ 30 (ix (σ 32 0)) a1) 31 (ix (σ 32 0)) a2) 32 0 ((σ 32 0) + (1 : Int32)))) (v := .int (((σ 32 0) + (1 : Int32)))) (fs := xF1 g ρ (up2 (up2 (up2 σ 30 (ix (σ 32 0)) a1) 31 (ix (σ 32 0)) a2) 32 0 ((σ 32 0) + (1 : Int32)))) 5 1 C0 uw_5 dc_5 hK hC.1 rfl rfl 12 (by decide) rfl w_133 dX11_step_104 ?_
              exact ret_MI C0 hC hT dX11_step_107
            · have hT := hT_neg c_49 hT
              refine lv_bipush (v := (-4 : Int32)) hx hb dX11_step_52 (by decide) ?_
              exact ret_MI C0 hC hT dX11_step_54
          · have hT := hT_neg c_34 hT
            refine lv_bipush (v := (-2 : Int32)) hx hb dX11_step_37 (by decide) ?_
            exact ret_MI C0 hC hT dX11_step_39
      · have hT := hT_neg c_21 hT
        refine lv_iconst (v := (-1 : Int32)) hx hb dX11_step_24 (by decide) ?_
        exact ret_MI C0 hC hT dX11_step_25
  · have hT := hT_pos c_2 hT
    refine lv_aload_n hx hb dX11_step_5 rfl (lv_at hl 0 rfl) ?_
    refine x_get (σ := σ) (v := .ref (g.2.2 101)) (fs := xF0 g ρ σ) 11 0 C0 uw_11 dc_11 hK hC.1 rfl rfl 0 (by decide) rfl w_229 dX11_step_6 ?_
    refine lv_iconst (v := (0 : Int32)) hx hb dX11_step_9 (by decide) ?_
    refine x_putN (σ := σ) (ty := .int) (fs := xF1 g ρ σ) 5 1 C0 uw_5 dc_5 tyX5 tyX5_ok nmX5 hK hC rfl rfl 12 (by decide) rfl rfl rfl rfl (Nat.le_of_ble_eq_true rfl) (xs_32 g ρ _ _) w_133 dX11_step_10 (fun H locs hC => ?_)
    refine lv_iconst (v := (0 : Int32)) hx hb dX11_step_13 (by decide) ?_
    exact ret_MI C0 hC hT dX11_step_14
set_option maxRecDepth 20000 in
theorem w_137 : (Cond.fieldLinkNest RX11 257 RX5 "markCount" "I" RX11) ∈ NB := inNB (List.mem_of_getElem? (i := 137) (by decide +kernel)) (by decide +kernel)
set_option maxRecDepth 20000 in
theorem w_135 : (Cond.fieldLinkNest RX11 260 RX5 "marks" "[I" RX11) ∈ NB := inNB (List.mem_of_getElem? (i := 135) (by decide +kernel)) (by decide +kernel)
/-! ThreeMeasures.mark -/
theorem dX11_mark_0 : decode cX11_mark 0 = .ok (.iload_n 1, 1) := by decide +kernel
theorem dX11_mark_1 : decode cX11_mark 1 = .ok (.iconst (-1), 1) := by decide +kernel
theorem dX11_mark_2 : decode cX11_mark 2 = .ok (.if_icmp .ne 13, 3) := by decide +kernel
theorem dX11_mark_5 : decode cX11_mark 5 = .ok (.aload_n 0, 1) := by decide +kernel
theorem dX11_mark_6 : decode cX11_mark 6 = .ok (.getfield 12, 3) := by decide +kernel
theorem dX11_mark_9 : decode cX11_mark 9 = .ok (.iconst 0, 1) := by decide +kernel
theorem dX11_mark_10 : decode cX11_mark 10 = .ok (.putfield 257, 3) := by decide +kernel
theorem dX11_mark_13 : decode cX11_mark 13 = .ok (.iconst 0, 1) := by decide +kernel
theorem dX11_mark_14 : decode cX11_mark 14 = .ok (.ireturn, 1) := by decide +kernel
theorem dX11_mark_15 : decode cX11_mark 15 = .ok (.aload_n 0, 1) := by decide +kernel
theorem dX11_mark_16 : decode cX11_mark 16 = .ok (.getfield 12, 3) := by decide +kernel
theorem dX11_mark_19 : decode cX11_mark 19 = .ok (.getfield 257, 3) := by decide +kernel
theorem dX11_mark_22 : decode cX11_mark 22 = .ok (.ifCond .le 23, 3) := by decide +kernel
theorem dX11_mark_25 : decode cX11_mark 25 = .ok (.aload_n 0, 1) := by decide +kernel
theorem dX11_mark_26 : decode cX11_mark 26 = .ok (.getfield 12, 3) := by decide +kernel
theorem dX11_mark_29 : decode cX11_mark 29 = .ok (.getfield 260, 3) := by decide +kernel
theorem dX11_mark_32 : decode cX11_mark 32 = .ok (.aload_n 0, 1) := by decide +kernel
theorem dX11_mark_33 : decode cX11_mark 33 = .ok (.getfield 12, 3) := by decide +kernel
theorem dX11_mark_36 : decode cX11_mark 36 = .ok (.getfield 257, 3) := by decide +kernel
theorem dX11_mark_39 : decode cX11_mark 39 = .ok (.iconst 1, 1) := by decide +kernel
theorem dX11_mark_40 : decode cX11_mark 40 = .ok (.isub, 1) := by decide +kernel
theorem dX11_mark_41 : decode cX11_mark 41 = .ok (.iaload, 1) := by decide +kernel
theorem dX11_mark_42 : decode cX11_mark 42 = .ok (.goto 4, 3) := by decide +kernel
theorem dX11_mark_45 : decode cX11_mark 45 = .ok (.iconst 0, 1) := by decide +kernel
theorem dX11_mark_46 : decode cX11_mark 46 = .ok (.istore_n 2, 1) := by decide +kernel
theorem dX11_mark_47 : decode cX11_mark 47 = .ok (.iload_n 1, 1) := by decide +kernel
theorem dX11_mark_48 : decode cX11_mark 48 = .ok (.iload_n 2, 1) := by decide +kernel
theorem dX11_mark_49 : decode cX11_mark 49 = .ok (.if_icmp .le 10, 3) := by decide +kernel
theorem dX11_mark_52 : decode cX11_mark 52 = .ok (.iload_n 1, 1) := by decide +kernel
theorem dX11_mark_53 : decode cX11_mark 53 = .ok (.sipush 999, 3) := by decide +kernel
theorem dX11_mark_56 : decode cX11_mark 56 = .ok (.if_icmp .le 6, 3) := by decide +kernel
theorem dX11_mark_59 : decode cX11_mark 59 = .ok (.bipush (-2), 2) := by decide +kernel
theorem dX11_mark_61 : decode cX11_mark 61 = .ok (.ireturn, 1) := by decide +kernel
theorem dX11_mark_62 : decode cX11_mark 62 = .ok (.aload_n 0, 1) := by decide +kernel
theorem dX11_mark_63 : decode cX11_mark 63 = .ok (.getfield 12, 3) := by decide +kernel
theorem dX11_mark_66 : decode cX11_mark 66 = .ok (.getfield 257, 3) := by decide +kernel
theorem dX11_mark_69 : decode cX11_mark 69 = .ok (.bipush 6, 2) := by decide +kernel
theorem dX11_mark_71 : decode cX11_mark 71 = .ok (.if_icmp .lt 6, 3) := by decide +kernel
theorem dX11_mark_74 : decode cX11_mark 74 = .ok (.bipush (-4), 2) := by decide +kernel
theorem dX11_mark_76 : decode cX11_mark 76 = .ok (.ireturn, 1) := by decide +kernel
theorem dX11_mark_77 : decode cX11_mark 77 = .ok (.aload_n 0, 1) := by decide +kernel
theorem dX11_mark_78 : decode cX11_mark 78 = .ok (.getfield 12, 3) := by decide +kernel
theorem dX11_mark_81 : decode cX11_mark 81 = .ok (.getfield 260, 3) := by decide +kernel
theorem dX11_mark_84 : decode cX11_mark 84 = .ok (.aload_n 0, 1) := by decide +kernel
theorem dX11_mark_85 : decode cX11_mark 85 = .ok (.getfield 12, 3) := by decide +kernel
theorem dX11_mark_88 : decode cX11_mark 88 = .ok (.getfield 257, 3) := by decide +kernel
theorem dX11_mark_91 : decode cX11_mark 91 = .ok (.iload_n 1, 1) := by decide +kernel
theorem dX11_mark_92 : decode cX11_mark 92 = .ok (.iastore, 1) := by decide +kernel
theorem dX11_mark_93 : decode cX11_mark 93 = .ok (.aload_n 0, 1) := by decide +kernel
theorem dX11_mark_94 : decode cX11_mark 94 = .ok (.getfield 12, 3) := by decide +kernel
theorem dX11_mark_97 : decode cX11_mark 97 = .ok (.dup, 1) := by decide +kernel
theorem dX11_mark_98 : decode cX11_mark 98 = .ok (.getfield 257, 3) := by decide +kernel
theorem dX11_mark_101 : decode cX11_mark 101 = .ok (.iconst 1, 1) := by decide +kernel
theorem dX11_mark_102 : decode cX11_mark 102 = .ok (.iadd, 1) := by decide +kernel
theorem dX11_mark_103 : decode cX11_mark 103 = .ok (.putfield 257, 3) := by decide +kernel
theorem dX11_mark_106 : decode cX11_mark 106 = .ok (.aload_n 0, 1) := by decide +kernel
theorem dX11_mark_107 : decode cX11_mark 107 = .ok (.getfield 12, 3) := by decide +kernel
theorem dX11_mark_110 : decode cX11_mark 110 = .ok (.getfield 257, 3) := by decide +kernel
theorem dX11_mark_113 : decode cX11_mark 113 = .ok (.ireturn, 1) := by decide +kernel
def f_X11_mark (σ : St) (a1 : Int32) : Int32 × St := (if a1 = (-1 : Int32) then ((0 : Int32), (up2 σ 34 0 (0 : Int32))) else (if a1 ≤ (if (σ 34 0) ≤ 0 then (0 : Int32) else (σ 33 (ix ((σ 34 0) - (1 : Int32))))) then ((-2 : Int32), σ) else (if a1 ≤ (999 : Int32) then (if (σ 34 0) < (6 : Int32) then (((σ 34 0) + (1 : Int32)), (up2 (up2 σ 33 (ix (σ 34 0)) a1) 34 0 ((σ 34 0) + (1 : Int32)))) else ((-4 : Int32), σ)) else ((-2 : Int32), σ))))
set_option maxHeartbeats 600000 in
set_option maxRecDepth 100000 in
theorem k_X11_mark (l : Launch) (g : GG) (ρ : RR) (dt : Nat → Nat → Int32) (σ : St) (a1 : Int32) (hX : IX σ) : MI l yX11_mark (wsF yX11_mark cX11_mark 3 (some .int)) { frames := 0, cells := 0, slots := 0, locals := 0 } [.ref (g.2.2 100), .int (a1)] g (xW g ρ) (XB g ρ dt) σ (f_X11_mark σ a1) := by
  refine start_MI (by decide) (Nat.le_of_ble_eq_true rfl) ?_
  intro p e s m args below meth c C0 hK hB hC ls hl
  generalize hAe : aA ((xW g ρ) σ) = A at hC ⊢
  have hA : ∀ q, A q → q ∈ adrs (xW g (fun _ _ => none) (fun _ _ => 0)) := fun q h => by rw [← hAe] at h; exact h
  obtain ⟨hx, hb, hr, hml, hown, hts, hlocks⟩ := id C0
  have hl : lv_has ls 3 [(0, .ref (g.2.2 100)), (1, .int (a1))] := hl
  generalize hT : (f_X11_mark σ a1) = tgt
  suffices key : ∀ (H : Heap) (locs : List Loc), WC g (xW g ρ) A s.heap σ H locs → W p l e { frames := 0, cells := 0, slots := 0, locals := 0 } s m args below meth c H locs 0 0 (QMI below args s g (xW g ρ) A tgt) (F0 m 0 ls []) from key _ _ hC
  intro H locs hC
  unfold f_X11_mark at hT
  obtain ⟨⟨j1, j1'⟩, ⟨j3, j3'⟩, ⟨j5, j5'⟩, ⟨j8, j8'⟩, ⟨j9, j9'⟩, ⟨j12, j12'⟩, ⟨j14, j14'⟩, ⟨j17, j17'⟩, j81, jW⟩ := id hX
  refine lv_iload_n hx hb dX11_mark_0 rfl (lv_at hl 1 rfl) ?_
  refine lv_iconst (v := (-1 : Int32)) hx hb dX11_mark_1 (by decide) ?_
  refine lv_icmp_ne (tgt := 15) hx hb dX11_mark_2 (by decide) (fun c_2 => ?_) (fun c_2 => ?_)
  · have hT := hT_neg c_2 hT
    refine lv_aload_n hx hb dX11_mark_15 rfl (lv_at hl 0 rfl) ?_
    refine x_get (σ := σ) (v := .ref (g.2.2 101)) (fs := xF0 g ρ σ) 11 0 C0 uw_11 dc_11 hK hC.1 rfl rfl 0 (by decide) rfl w_229 dX11_mark_16 ?_
    refine x_getN (σ := σ) (v := .int ((σ 34 0))) (fs := xF1 g ρ σ) 5 1 C0 uw_5 dc_5 hK hC.1 rfl rfl 14 (by decide) rfl w_137 dX11_mark_19 ?_
    have J22 : ∀ v : Int32, v = (if (σ 34 0) ≤ 0 then (0 : Int32) else (σ 33 (ix ((σ 34 0) - (1 : Int32))))) → W p l e { frames := 0, cells := 0, slots := 0, locals := 0 } s m args below meth c H locs 0 0 (QMI below args s g (xW g ρ) A tgt) (F0 m 46 ls [.int (v)]) := by
      intro v ev
      subst ev
      refine lv_istore_n (lv' := [(2, .int ((if (σ 34 0) ≤ 0 then (0 : Int32) else (σ 33 (ix ((σ 34 0) - (1 : Int32))))))), (0, .ref (g.2.2 100)), (1, .int (a1))]) hx hb dX11_mark_46 rfl hl (by decide) rfl (fun ls hl => ?_)
      refine lv_iload_n hx hb dX11_mark_47 rfl (lv_at hl 2 rfl) ?_
      refine lv_iload_n hx hb dX11_mark_48 rfl (lv_at hl 0 rfl) ?_
      refine lv_icmp_le (tgt := 59) hx hb dX11_mark_49 (by decide) (fun c_49 => ?_) (fun c_49 => ?_)
      · have hT := hT_pos c_49 hT
        refine lv_bipush (v := (-2 : Int32)) hx hb dX11_mark_59 (by decide) ?_
        exact ret_MI C0 hC hT dX11_mark_61
      · have hT := hT_neg c_49 hT
        refine lv_iload_n hx hb dX11_mark_52 rfl (lv_at hl 2 rfl) ?_
        refine lv_sipush (v := (999 : Int32)) hx hb dX11_mark_53 (by decide) ?_
        refine lv_icmp_le (tgt := 62) hx hb dX11_mark_56 (by decide) (fun c_56 => ?_) (fun c_56 => ?_)
        · have hT := hT_pos c_56 hT
          refine lv_aload_n hx hb dX11_mark_62 rfl (lv_at hl 1 rfl) ?_
          refine x_get (σ := σ) (v := .ref (g.2.2 101)) (fs := xF0 g ρ σ) 11 0 C0 uw_11 dc_11 hK hC.1 rfl rfl 0 (by decide) rfl w_229 dX11_mark_63 ?_
          refine x_getN (σ := σ) (v := .int ((σ 34 0))) (fs := xF1 g ρ σ) 5 1 C0 uw_5 dc_5 hK hC.1 rfl rfl 14 (by decide) rfl w_137 dX11_mark_66 ?_
          refine lv_bipush (v := (6 : Int32)) hx hb dX11_mark_69 (by decide) ?_
          refine lv_icmp_lt (tgt := 77) hx hb dX11_mark_71 (by decide) (fun c_71 => ?_) (fun c_71 => ?_)
          · have hT := hT_pos c_71 hT
            refine lv_aload_n hx hb dX11_mark_77 rfl (lv_at hl 1 rfl) ?_
            refine x_get (σ := σ) (v := .ref (g.2.2 101)) (fs := xF0 g ρ σ) 11 0 C0 uw_11 dc_11 hK hC.1 rfl rfl 0 (by decide) rfl w_229 dX11_mark_78 ?_
            refine x_getN (σ := σ) (v := .ref (g.2.2 33)) (fs := xF1 g ρ σ) 5 1 C0 uw_5 dc_5 hK hC.1 rfl rfl 13 (by decide) rfl w_135 dX11_mark_81 ?_
            refine lv_aload_n hx hb dX11_mark_84 rfl (lv_at hl 1 rfl) ?_
            refine x_get (σ := σ) (v := .ref (g.2.2 101)) (fs := xF0 g ρ σ) 11 0 C0 uw_11 dc_11 hK hC.1 rfl rfl 0 (by decide) rfl w_229 dX11_mark_85 ?_
            refine x_getN (σ := σ) (v := .int ((σ 34 0))) (fs := xF1 g ρ σ) 5 1 C0 uw_5 dc_5 hK hC.1 rfl rfl 14 (by decide) rfl w_137 dX11_mark_88 ?_
            refine lv_iload_n hx hb dX11_mark_91 rfl (lv_at hl 2 rfl) ?_
            have o_92 : vp_in (σ 34 0) 6 := by
              have : ((-1 : Int32)).toInt = -1 := by decide
              have : ((999 : Int32)).toInt = 999 := by decide
              have : ((6 : Int32)).toInt = 6 := by decide
              have := mt ti_eq.mpr c_2
              have := mt ti_le.mpr c_49
              have := ti_le.mp c_56
              have := ti_lt.mp c_71
              exact vin (by omega) (by omega)
            refine x_ast (σ := σ) C0 hK hC 15 33 6 rfl (xs_33 g ρ _) o_92 (ix (σ 34 0)) rfl dX11_mark_92 (fun H locs hC => ?_)
            refine lv_aload_n hx hb dX11_mark_93 rfl (lv_at hl 1 rfl) ?_
            refine x_get (σ := (up2 σ 33 (ix (σ 34 0)) a1)) (v := .ref (g.2.2 101)) (fs := xF0 g ρ (up2 σ 33 (ix (σ 34 0)) a1)) 11 0 C0 uw_11 dc_11 hK hC.1 rfl rfl 0 (by decide) rfl w_229 dX11_mark_94 ?_
            refine lv_dup hx hb dX11_mark_97 rfl ?_
            refine x_getN (σ := (up2 σ 33 (ix (σ 34 0)) a1)) (v := .int ((σ 34 0))) (fs := xF1 g ρ (up2 σ 33 (ix (σ 34 0)) a1)) 5 1 C0 uw_5 dc_5 hK hC.1 rfl rfl 14 (by decide) rfl w_137 dX11_mark_98 ?_
            refine lv_iconst (v := (1 : Int32)) hx hb dX11_mark_101 (by decide) ?_
            refine lv_iadd hx hb dX11_mark_102 ?_
            refine x_putN (σ := (up2 σ 33 (ix (σ 34 0)) a1)) (ty := .int) (fs := xF1 g ρ (up2 σ 33 (ix (σ 34 0)) a1)) 5 1 C0 uw_5 dc_5 tyX5 tyX5_ok nmX5 hK hC rfl rfl 14 (by decide) rfl rfl rfl rfl (Nat.le_of_ble_eq_true rfl) (xs_34 g ρ _ _) w_137 dX11_mark_103 (fun H locs hC => ?_)
            refine lv_aload_n hx hb dX11_mark_106 rfl (lv_at hl 1 rfl) ?_
            refine x_get (σ := (up2 (up2 σ 33 (ix (σ 34 0)) a1) 34 0 ((σ 34 0) + (1 : Int32)))) (v := .ref (g.2.2 101)) (fs := xF0 g ρ (up2 (up2 σ 33 (ix (σ 34 0)) a1) 34 0 ((σ 34 0) + (1 : Int32)))) 11 0 C0 uw_11 dc_11 hK hC.1 rfl rfl 0 (by decide) rfl w_229 dX11_mark_107 ?_
            refine x_getN (σ := (up2 (up2 σ 33 (ix (σ 34 0)) a1) 34 0 ((σ 34 0) + (1 : Int32)))) (v := .int (((σ 34 0) + (1 : Int32)))) (fs := xF1 g ρ (up2 (up2 σ 33 (ix (σ 34 0)) a1) 34 0 ((σ 34 0) + (1 : Int32)))) 5 1 C0 uw_5 dc_5 hK hC.1 rfl rfl 14 (by decide) rfl w_137 dX11_mark_110 ?_
            exact ret_MI C0 hC hT dX11_mark_113
          · have hT := hT_neg c_71 hT
            refine lv_bipush (v := (-4 : Int32)) hx hb dX11_mark_74 (by decide) ?_
            exact ret_MI C0 hC hT dX11_mark_76
        · have hT := hT_neg c_56 hT
          refine lv_bipush (v := (-2 : Int32)) hx hb dX11_mark_59 (by decide) ?_
          exact ret_MI C0 hC hT dX11_mark_61
    refine lv_if_le (tgt := 45) hx hb dX11_mark_22 (by decide) (fun c_22 => ?_) (fun c_22 => ?_)
    · refine lv_iconst (v := (0 : Int32)) hx hb dX11_mark_45 (by decide) ?_
      exact J22 _ (iv_pos c_22 rfl)
    · refine lv_aload_n hx hb dX11_mark_25 rfl (lv_at hl 0 rfl) ?_
      refine x_get (σ := σ) (v := .ref (g.2.2 101)) (fs := xF0 g ρ σ) 11 0 C0 uw_11 dc_11 hK hC.1 rfl rfl 0 (by decide) rfl w_229 dX11_mark_26 ?_
      refine x_getN (σ := σ) (v := .ref (g.2.2 33)) (fs := xF1 g ρ σ) 5 1 C0 uw_5 dc_5 hK hC.1 rfl rfl 13 (by decide) rfl w_135 dX11_mark_29 ?_
      refine lv_aload_n hx hb dX11_mark_32 rfl (lv_at hl 0 rfl) ?_
      refine x_get (σ := σ) (v := .ref (g.2.2 101)) (fs := xF0 g ρ σ) 11 0 C0 uw_11 dc_11 hK hC.1 rfl rfl 0 (by decide) rfl w_229 dX11_mark_33 ?_
      refine x_getN (σ := σ) (v := .int ((σ 34 0))) (fs := xF1 g ρ σ) 5 1 C0 uw_5 dc_5 hK hC.1 rfl rfl 14 (by decide) rfl w_137 dX11_mark_36 ?_
      refine lv_iconst (v := (1 : Int32)) hx hb dX11_mark_39 (by decide) ?_
      refine lv_isub hx hb dX11_mark_40 ?_
      have o_41 : vp_in ((σ 34 0) - (1 : Int32)) 6 := by
        have : ((-1 : Int32)).toInt = -1 := by decide
        have : ((0 : Int32)).toInt = 0 := by decide
        have : ((1 : Int32)).toInt = 1 := by decide
        have := mt ti_eq.mpr c_2
        have := mt ti_le.mpr c_22
        try have := ti_sub (a := (σ 34 0)) (b := (1 : Int32)) (by omega) (by omega)
        exact vin (by omega) (by omega)
      refine x_ald (σ := σ) C0 hK hC.1 15 33 6 rfl o_41 (ix ((σ 34 0) - (1 : Int32))) rfl dX11_mark_41 ?_
      refine lv_goto (tgt := 46) hx hb dX11_mark_42 (by decide) ?_
      exact J22 _ (iv_neg c_22 rfl)
  · have hT := hT_pos c_2 hT
    refine lv_aload_n hx hb dX11_mark_5 rfl (lv_at hl 0 rfl) ?_
    refine x_get (σ := σ) (v := .ref (g.2.2 101)) (fs := xF0 g ρ σ) 11 0 C0 uw_11 dc_11 hK hC.1 rfl rfl 0 (by decide) rfl w_229 dX11_mark_6 ?_
    refine lv_iconst (v := (0 : Int32)) hx hb dX11_mark_9 (by decide) ?_
    refine x_putN (σ := σ) (ty := .int) (fs := xF1 g ρ σ) 5 1 C0 uw_5 dc_5 tyX5 tyX5_ok nmX5 hK hC rfl rfl 14 (by decide) rfl rfl rfl rfl (Nat.le_of_ble_eq_true rfl) (xs_34 g ρ _ _) w_137 dX11_mark_10 (fun H locs hC => ?_)
    refine lv_iconst (v := (0 : Int32)) hx hb dX11_mark_13 (by decide) ?_
    exact ret_MI C0 hC hT dX11_mark_14
set_option maxRecDepth 20000 in
theorem w_143 : (Cond.fieldLinkNest RX11 266 RX5 "rowCount" "I" RX11) ∈ NB := inNB (List.mem_of_getElem? (i := 143) (by decide +kernel)) (by decide +kernel)
set_option maxRecDepth 20000 in
theorem w_139 : (Cond.fieldLinkNest RX11 269 RX5 "rowWalls" "[I" RX11) ∈ NB := inNB (List.mem_of_getElem? (i := 139) (by decide +kernel)) (by decide +kernel)
set_option maxRecDepth 20000 in
theorem w_141 : (Cond.fieldLinkNest RX11 272 RX5 "rowLengths" "[I" RX11) ∈ NB := inNB (List.mem_of_getElem? (i := 141) (by decide +kernel)) (by decide +kernel)
/-! ThreeMeasures.book -/
theorem dX11_book_0 : decode cX11_book 0 = .ok (.iload_n 1, 1) := by decide +kernel
theorem dX11_book_1 : decode cX11_book 1 = .ok (.iconst (-1), 1) := by decide +kernel
theorem dX11_book_2 : decode cX11_book 2 = .ok (.if_icmp .ne 13, 3) := by decide +kernel
theorem dX11_book_5 : decode cX11_book 5 = .ok (.aload_n 0, 1) := by decide +kernel
theorem dX11_book_6 : decode cX11_book 6 = .ok (.getfield 12, 3) := by decide +kernel
theorem dX11_book_9 : decode cX11_book 9 = .ok (.iconst 0, 1) := by decide +kernel
theorem dX11_book_10 : decode cX11_book 10 = .ok (.putfield 266, 3) := by decide +kernel
theorem dX11_book_13 : decode cX11_book 13 = .ok (.iconst 0, 1) := by decide +kernel
theorem dX11_book_14 : decode cX11_book 14 = .ok (.ireturn, 1) := by decide +kernel
theorem dX11_book_15 : decode cX11_book 15 = .ok (.aload_n 0, 1) := by decide +kernel
theorem dX11_book_16 : decode cX11_book 16 = .ok (.getfield 12, 3) := by decide +kernel
theorem dX11_book_19 : decode cX11_book 19 = .ok (.iload_n 1, 1) := by decide +kernel
theorem dX11_book_20 : decode cX11_book 20 = .ok (.invokevirtual 121, 3) := by decide +kernel
theorem dX11_book_23 : decode cX11_book 23 = .ok (.ifCond .ne 5, 3) := by decide +kernel
theorem dX11_book_26 : decode cX11_book 26 = .ok (.iconst (-1), 1) := by decide +kernel
theorem dX11_book_27 : decode cX11_book 27 = .ok (.ireturn, 1) := by decide +kernel
theorem dX11_book_28 : decode cX11_book 28 = .ok (.iload_n 2, 1) := by decide +kernel
theorem dX11_book_29 : decode cX11_book 29 = .ok (.ifCond .lt 10, 3) := by decide +kernel
theorem dX11_book_32 : decode cX11_book 32 = .ok (.iload_n 2, 1) := by decide +kernel
theorem dX11_book_33 : decode cX11_book 33 = .ok (.sipush 999, 3) := by decide +kernel
theorem dX11_book_36 : decode cX11_book 36 = .ok (.if_icmp .le 6, 3) := by decide +kernel
theorem dX11_book_39 : decode cX11_book 39 = .ok (.bipush (-2), 2) := by decide +kernel
theorem dX11_book_41 : decode cX11_book 41 = .ok (.ireturn, 1) := by decide +kernel
theorem dX11_book_42 : decode cX11_book 42 = .ok (.aload_n 0, 1) := by decide +kernel
theorem dX11_book_43 : decode cX11_book 43 = .ok (.getfield 12, 3) := by decide +kernel
theorem dX11_book_46 : decode cX11_book 46 = .ok (.getfield 266, 3) := by decide +kernel
theorem dX11_book_49 : decode cX11_book 49 = .ok (.bipush 8, 2) := by decide +kernel
theorem dX11_book_51 : decode cX11_book 51 = .ok (.if_icmp .lt 6, 3) := by decide +kernel
theorem dX11_book_54 : decode cX11_book 54 = .ok (.bipush (-4), 2) := by decide +kernel
theorem dX11_book_56 : decode cX11_book 56 = .ok (.ireturn, 1) := by decide +kernel
theorem dX11_book_57 : decode cX11_book 57 = .ok (.aload_n 0, 1) := by decide +kernel
theorem dX11_book_58 : decode cX11_book 58 = .ok (.getfield 12, 3) := by decide +kernel
theorem dX11_book_61 : decode cX11_book 61 = .ok (.getfield 269, 3) := by decide +kernel
theorem dX11_book_64 : decode cX11_book 64 = .ok (.aload_n 0, 1) := by decide +kernel
theorem dX11_book_65 : decode cX11_book 65 = .ok (.getfield 12, 3) := by decide +kernel
theorem dX11_book_68 : decode cX11_book 68 = .ok (.getfield 266, 3) := by decide +kernel
theorem dX11_book_71 : decode cX11_book 71 = .ok (.iload_n 1, 1) := by decide +kernel
theorem dX11_book_72 : decode cX11_book 72 = .ok (.iastore, 1) := by decide +kernel
theorem dX11_book_73 : decode cX11_book 73 = .ok (.aload_n 0, 1) := by decide +kernel
theorem dX11_book_74 : decode cX11_book 74 = .ok (.getfield 12, 3) := by decide +kernel
theorem dX11_book_77 : decode cX11_book 77 = .ok (.getfield 272, 3) := by decide +kernel
theorem dX11_book_80 : decode cX11_book 80 = .ok (.aload_n 0, 1) := by decide +kernel
theorem dX11_book_81 : decode cX11_book 81 = .ok (.getfield 12, 3) := by decide +kernel
theorem dX11_book_84 : decode cX11_book 84 = .ok (.getfield 266, 3) := by decide +kernel
theorem dX11_book_87 : decode cX11_book 87 = .ok (.iload_n 2, 1) := by decide +kernel
theorem dX11_book_88 : decode cX11_book 88 = .ok (.iastore, 1) := by decide +kernel
theorem dX11_book_89 : decode cX11_book 89 = .ok (.aload_n 0, 1) := by decide +kernel
theorem dX11_book_90 : decode cX11_book 90 = .ok (.getfield 12, 3) := by decide +kernel
theorem dX11_book_93 : decode cX11_book 93 = .ok (.dup, 1) := by decide +kernel
theorem dX11_book_94 : decode cX11_book 94 = .ok (.getfield 266, 3) := by decide +kernel
theorem dX11_book_97 : decode cX11_book 97 = .ok (.iconst 1, 1) := by decide +kernel
theorem dX11_book_98 : decode cX11_book 98 = .ok (.iadd, 1) := by decide +kernel
theorem dX11_book_99 : decode cX11_book 99 = .ok (.putfield 266, 3) := by decide +kernel
theorem dX11_book_102 : decode cX11_book 102 = .ok (.aload_n 0, 1) := by decide +kernel
theorem dX11_book_103 : decode cX11_book 103 = .ok (.getfield 12, 3) := by decide +kernel
theorem dX11_book_106 : decode cX11_book 106 = .ok (.getfield 266, 3) := by decide +kernel
theorem dX11_book_109 : decode cX11_book 109 = .ok (.ireturn, 1) := by decide +kernel
def f_X11_book (σ : St) (a1 : Int32) (a2 : Int32) : Int32 × St := (if a1 = (-1 : Int32) then ((0 : Int32), (up2 σ 37 0 (0 : Int32))) else (if (f_X5_isWall σ a1) = 0 then ((-1 : Int32), σ) else (if a2 < 0 then ((-2 : Int32), σ) else (if a2 ≤ (999 : Int32) then (if (σ 37 0) < (8 : Int32) then (((σ 37 0) + (1 : Int32)), (up2 (up2 (up2 σ 35 (ix (σ 37 0)) a1) 36 (ix (σ 37 0)) a2) 37 0 ((σ 37 0) + (1 : Int32)))) else ((-4 : Int32), σ)) else ((-2 : Int32), σ)))))
set_option maxHeartbeats 600000 in
set_option maxRecDepth 100000 in
theorem k_X11_book (l : Launch) (g : GG) (ρ : RR) (dt : Nat → Nat → Int32) (σ : St) (a1 : Int32) (a2 : Int32) (hX : IX σ) : MI l yX11_book (wsF yX11_book cX11_book 3 (some .int)) { frames := 1, cells := 0, slots := 0, locals := 21 } [.ref (g.2.2 100), .int (a1), .int (a2)] g (xW g ρ) (XB g ρ dt) σ (f_X11_book σ a1 a2) := by
  refine start_MI (by decide) (Nat.le_of_ble_eq_true rfl) ?_
  intro p e s m args below meth c C0 hK hB hC ls hl
  generalize hAe : aA ((xW g ρ) σ) = A at hC ⊢
  have hA : ∀ q, A q → q ∈ adrs (xW g (fun _ _ => none) (fun _ _ => 0)) := fun q h => by rw [← hAe] at h; exact h
  obtain ⟨hx, hb, hr, hml, hown, hts, hlocks⟩ := id C0
  have hl : lv_has ls 3 [(0, .ref (g.2.2 100)), (1, .int (a1)), (2, .int (a2))] := hl
  generalize hT : (f_X11_book σ a1 a2) = tgt
  suffices key : ∀ (H : Heap) (locs : List Loc), WC g (xW g ρ) A s.heap σ H locs → W p l e { frames := 1, cells := 0, slots := 0, locals := 21 } s m args below meth c H locs 0 0 (QMI below args s g (xW g ρ) A tgt) (F0 m 0 ls []) from key _ _ hC
  intro H locs hC
  unfold f_X11_book at hT
  obtain ⟨⟨j1, j1'⟩, ⟨j3, j3'⟩, ⟨j5, j5'⟩, ⟨j8, j8'⟩, ⟨j9, j9'⟩, ⟨j12, j12'⟩, ⟨j14, j14'⟩, ⟨j17, j17'⟩, j81, jW⟩ := id hX
  refine lv_iload_n hx hb dX11_book_0 rfl (lv_at hl 1 rfl) ?_
  refine lv_iconst (v := (-1 : Int32)) hx hb dX11_book_1 (by decide) ?_
  refine lv_icmp_ne (tgt := 15) hx hb dX11_book_2 (by decide) (fun c_2 => ?_) (fun c_2 => ?_)
  · have hT := hT_neg c_2 hT
    refine lv_aload_n hx hb dX11_book_15 rfl (lv_at hl 0 rfl) ?_
    refine x_get (σ := σ) (v := .ref (g.2.2 101)) (fs := xF0 g ρ σ) 11 0 C0 uw_11 dc_11 hK hC.1 rfl rfl 0 (by decide) rfl w_229 dX11_book_16 ?_
    refine lv_iload_n hx hb dX11_book_19 rfl (lv_at hl 1 rfl) ?_
    refine x_cn (rest := []) (As := [.int (a1)]) (σ := σ) (ρ := ρ) (dt := dt) (T := TX5) (N := 18) (fs := xF1 g ρ σ) 5 1 rfl rfl C0 hK hC.1 (hC.2.1.weaken (fun _ _ _ _ => trivial)) (XH.wa hB hA hC) cf_X5_isWall w_615 (k_X5_isWall l g ρ dt σ a1 ) ⟨by decide, by decide⟩ hl.1 rfl rfl (Nat.le_of_ble_eq_true rfl) dX11_book_20 ⟨Nat.zero_le _, Nat.zero_le _⟩ ?_
    refine lv_if_ne (tgt := 28) hx hb dX11_book_23 (by decide) (fun c_23 => ?_) (fun c_23 => ?_)
    · have hT := hT_neg c_23 hT
      refine lv_iload_n hx hb dX11_book_28 rfl (lv_at hl 2 rfl) ?_
      refine lv_if_lt (tgt := 39) hx hb dX11_book_29 (by decide) (fun c_29 => ?_) (fun c_29 => ?_)
      · have hT := hT_pos c_29 hT
        refine lv_bipush (v := (-2 : Int32)) hx hb dX11_book_39 (by decide) ?_
        exact ret_MI C0 hC hT dX11_book_41
      · have hT := hT_neg c_29 hT
        refine lv_iload_n hx hb dX11_book_32 rfl (lv_at hl 2 rfl) ?_
        refine lv_sipush (v := (999 : Int32)) hx hb dX11_book_33 (by decide) ?_
        refine lv_icmp_le (tgt := 42) hx hb dX11_book_36 (by decide) (fun c_36 => ?_) (fun c_36 => ?_)
        · have hT := hT_pos c_36 hT
          refine lv_aload_n hx hb dX11_book_42 rfl (lv_at hl 0 rfl) ?_
          refine x_get (σ := σ) (v := .ref (g.2.2 101)) (fs := xF0 g ρ σ) 11 0 C0 uw_11 dc_11 hK hC.1 rfl rfl 0 (by decide) rfl w_229 dX11_book_43 ?_
          refine x_getN (σ := σ) (v := .int ((σ 37 0))) (fs := xF1 g ρ σ) 5 1 C0 uw_5 dc_5 hK hC.1 rfl rfl 17 (by decide) rfl w_143 dX11_book_46 ?_
          refine lv_bipush (v := (8 : Int32)) hx hb dX11_book_49 (by decide) ?_
          refine lv_icmp_lt (tgt := 57) hx hb dX11_book_51 (by decide) (fun c_51 => ?_) (fun c_51 => ?_)
          · have hT := hT_pos c_51 hT
            refine lv_aload_n hx hb dX11_book_57 rfl (lv_at hl 0 rfl) ?_
            refine x_get (σ := σ) (v := .ref (g.2.2 101)) (fs := xF0 g ρ σ) 11 0 C0 uw_11 dc_11 hK hC.1 rfl rfl 0 (by decide) rfl w_229 dX11_book_58 ?_
            refine x_getN (σ := σ) (v := .ref (g.2.2 35)) (fs := xF1 g ρ σ) 5 1 C0 uw_5 dc_5 hK hC.1 rfl rfl 15 (by decide) rfl w_139 dX11_book_61 ?_
            refine lv_aload_n hx hb dX11_book_64 rfl (lv_at hl 0 rfl) ?_
            refine x_get (σ := σ) (v := .ref (g.2.2 101)) (fs := xF0 g ρ σ) 11 0 C0 uw_11 dc_11 hK hC.1 rfl rfl 0 (by decide) rfl w_229 dX11_book_65 ?_
            refine x_getN (σ := σ) (v := .int ((σ 37 0))) (fs := xF1 g ρ σ) 5 1 C0 uw_5 dc_5 hK hC.1 rfl rfl 17 (by decide) rfl w_143 dX11_book_68 ?_
            refine lv_iload_n hx hb dX11_book_71 rfl (lv_at hl 1 rfl) ?_
            have o_72 : vp_in (σ 37 0) 8 := by
              have : ((-1 : Int32)).toInt = -1 := by decide
              have : ((0 : Int32)).toInt = 0 := by decide
              have : ((999 : Int32)).toInt = 999 := by decide
              have : ((8 : Int32)).toInt = 8 := by decide
              have := mt ti_eq.mpr c_2
              have := xw_ne c_23
              have := mt ti_lt.mpr c_29
              have := ti_le.mp c_36
              have := ti_lt.mp c_51
              exact vin (by omega) (by omega)
            refine x_ast (σ := σ) C0 hK hC 16 35 8 rfl (xs_35 g ρ _) o_72 (ix (σ 37 0)) rfl dX11_book_72 (fun H locs hC => ?_)
            refine lv_aload_n hx hb dX11_book_73 rfl (lv_at hl 0 rfl) ?_
            refine x_get (σ := (up2 σ 35 (ix (σ 37 0)) a1)) (v := .ref (g.2.2 101)) (fs := xF0 g ρ (up2 σ 35 (ix (σ 37 0)) a1)) 11 0 C0 uw_11 dc_11 hK hC.1 rfl rfl 0 (by decide) rfl w_229 dX11_book_74 ?_
            refine x_getN (σ := (up2 σ 35 (ix (σ 37 0)) a1)) (v := .ref (g.2.2 36)) (fs := xF1 g ρ (up2 σ 35 (ix (σ 37 0)) a1)) 5 1 C0 uw_5 dc_5 hK hC.1 rfl rfl 16 (by decide) rfl w_141 dX11_book_77 ?_
            refine lv_aload_n hx hb dX11_book_80 rfl (lv_at hl 0 rfl) ?_
            refine x_get (σ := (up2 σ 35 (ix (σ 37 0)) a1)) (v := .ref (g.2.2 101)) (fs := xF0 g ρ (up2 σ 35 (ix (σ 37 0)) a1)) 11 0 C0 uw_11 dc_11 hK hC.1 rfl rfl 0 (by decide) rfl w_229 dX11_book_81 ?_
            refine x_getN (σ := (up2 σ 35 (ix (σ 37 0)) a1)) (v := .int ((σ 37 0))) (fs := xF1 g ρ (up2 σ 35 (ix (σ 37 0)) a1)) 5 1 C0 uw_5 dc_5 hK hC.1 rfl rfl 17 (by decide) rfl w_143 dX11_book_84 ?_
            refine lv_iload_n hx hb dX11_book_87 rfl (lv_at hl 2 rfl) ?_
            have o_88 : vp_in (σ 37 0) 8 := by
              have : ((-1 : Int32)).toInt = -1 := by decide
              have : ((0 : Int32)).toInt = 0 := by decide
              have : ((999 : Int32)).toInt = 999 := by decide
              have : ((8 : Int32)).toInt = 8 := by decide
              have := mt ti_eq.mpr c_2
              have := xw_ne c_23
              have := mt ti_lt.mpr c_29
              have := ti_le.mp c_36
              have := ti_lt.mp c_51
              exact vin (by omega) (by omega)
            refine x_ast (σ := (up2 σ 35 (ix (σ 37 0)) a1)) C0 hK hC 17 36 8 rfl (xs_36 g ρ _) o_88 (ix (σ 37 0)) rfl dX11_book_88 (fun H locs hC => ?_)
            refine lv_aload_n hx hb dX11_book_89 rfl (lv_at hl 0 rfl) ?_
            refine x_get (σ := (up2 (up2 σ 35 (ix (σ 37 0)) a1) 36 (ix (σ 37 0)) a2)) (v := .ref (g.2.2 101)) (fs := xF0 g ρ (up2 (up2 σ 35 (ix (σ 37 0)) a1) 36 (ix (σ 37 0)) a2)) 11 0 C0 uw_11 dc_11 hK hC.1 rfl rfl 0 (by decide) rfl w_229 dX11_book_90 ?_
            refine lv_dup hx hb dX11_book_93 rfl ?_
            refine x_getN (σ := (up2 (up2 σ 35 (ix (σ 37 0)) a1) 36 (ix (σ 37 0)) a2)) (v := .int ((σ 37 0))) (fs := xF1 g ρ (up2 (up2 σ 35 (ix (σ 37 0)) a1) 36 (ix (σ 37 0)) a2)) 5 1 C0 uw_5 dc_5 hK hC.1 rfl rfl 17 (by decide) rfl w_143 dX11_book_94 ?_
            refine lv_iconst (v := (1 : Int32)) hx hb dX11_book_97 (by decide) ?_
            refine lv_iadd hx hb dX11_book_98 ?_
            refine x_putN (σ := (up2 (up2 σ 35 (ix (σ 37 0)) a1) 36 (ix (σ 37 0)) a2)) (ty := .int) (fs := xF1 g ρ (up2 (up2 σ 35 (ix (σ 37 0)) a1) 36 (ix (σ 37 0)) a2)) 5 1 C0 uw_5 dc_5 tyX5 tyX5_ok nmX5 hK hC rfl rfl 17 (by decide) rfl rfl rfl rfl (Nat.le_of_ble_eq_true rfl) (xs_37 g ρ _ _) w_143 dX11_book_99 (fun H locs hC => ?_)
            refine lv_aload_n hx hb dX11_book_102 rfl (lv_at hl 0 rfl) ?_
            refine x_get (σ := (up2 (up2 (up2 σ 35 (ix (σ 37 0)) a1) 36 (ix (σ 37 0)) a2) 37 0 ((σ 37 0) + (1 : Int32)))) (v := .ref (g.2.2 101)) (fs := xF0 g ρ (up2 (up2 (up2 σ 35 (ix (σ 37 0)) a1) 36 (ix (σ 37 0)) a2) 37 0 ((σ 37 0) + (1 : Int32)))) 11 0 C0 uw_11 dc_11 hK hC.1 rfl rfl 0 (by decide) rfl w_229 dX11_book_103 ?_
            refine x_getN (σ := (up2 (up2 (up2 σ 35 (ix (σ 37 0)) a1) 36 (ix (σ 37 0)) a2) 37 0 ((σ 37 0) + (1 : Int32)))) (v := .int (((σ 37 0) + (1 : Int32)))) (fs := xF1 g ρ (up2 (up2 (up2 σ 35 (ix (σ 37 0)) a1) 36 (ix (σ 37 0)) a2) 37 0 ((σ 37 0) + (1 : Int32)))) 5 1 C0 uw_5 dc_5 hK hC.1 rfl rfl 17 (by decide) rfl w_143 dX11_book_106 ?_
            exact ret_MI C0 hC hT dX11_book_109
          · have hT := hT_neg c_51 hT
            refine lv_bipush (v := (-4 : Int32)) hx hb dX11_book_54 (by decide) ?_
            exact ret_MI C0 hC hT dX11_book_56
        · have hT := hT_neg c_36 hT
          refine lv_bipush (v := (-2 : Int32)) hx hb dX11_book_39 (by decide) ?_
          exact ret_MI C0 hC hT dX11_book_41
    · have hT := hT_pos c_23 hT
      refine lv_iconst (v := (-1 : Int32)) hx hb dX11_book_26 (by decide) ?_
      exact ret_MI C0 hC hT dX11_book_27
  · have hT := hT_pos c_2 hT
    refine lv_aload_n hx hb dX11_book_5 rfl (lv_at hl 0 rfl) ?_
    refine x_get (σ := σ) (v := .ref (g.2.2 101)) (fs := xF0 g ρ σ) 11 0 C0 uw_11 dc_11 hK hC.1 rfl rfl 0 (by decide) rfl w_229 dX11_book_6 ?_
    refine lv_iconst (v := (0 : Int32)) hx hb dX11_book_9 (by decide) ?_
    refine x_putN (σ := σ) (ty := .int) (fs := xF1 g ρ σ) 5 1 C0 uw_5 dc_5 tyX5 tyX5_ok nmX5 hK hC rfl rfl 17 (by decide) rfl rfl rfl rfl (Nat.le_of_ble_eq_true rfl) (xs_37 g ρ _ _) w_143 dX11_book_10 (fun H locs hC => ?_)
    refine lv_iconst (v := (0 : Int32)) hx hb dX11_book_13 (by decide) ?_
    exact ret_MI C0 hC hT dX11_book_14
set_option maxRecDepth 20000 in
theorem w_233 : (Cond.fieldLink RX11 35 RX11 "bodies" "LThreeMeasures$Trace;") ∈ TB := inTB (List.mem_of_getElem? (i := 233) (by decide +kernel)) (by decide +kernel)
set_option maxRecDepth 20000 in
theorem w_223 : (Cond.fieldLinkNest RX11 279 RX9 "ran" "I" RX11) ∈ NB := inNB (List.mem_of_getElem? (i := 223) (by decide +kernel)) (by decide +kernel)
set_option maxRecDepth 20000 in
theorem w_221 : (Cond.fieldLinkNest RX11 292 RX9 "numbers" "[I" RX11) ∈ NB := inNB (List.mem_of_getElem? (i := 221) (by decide +kernel)) (by decide +kernel)
/-! ThreeMeasures.trace -/
theorem dX11_trace_0 : decode cX11_trace 0 = .ok (.iload_n 1, 1) := by decide +kernel
theorem dX11_trace_1 : decode cX11_trace 1 = .ok (.ifCond .lt 20, 3) := by decide +kernel
theorem dX11_trace_4 : decode cX11_trace 4 = .ok (.iload_n 1, 1) := by decide +kernel
theorem dX11_trace_5 : decode cX11_trace 5 = .ok (.aload_n 0, 1) := by decide +kernel
theorem dX11_trace_6 : decode cX11_trace 6 = .ok (.getfield 35, 3) := by decide +kernel
theorem dX11_trace_9 : decode cX11_trace 9 = .ok (.getfield 279, 3) := by decide +kernel
theorem dX11_trace_12 : decode cX11_trace 12 = .ok (.if_icmp .ge 9, 3) := by decide +kernel
theorem dX11_trace_15 : decode cX11_trace 15 = .ok (.iload_n 1, 1) := by decide +kernel
theorem dX11_trace_16 : decode cX11_trace 16 = .ok (.bipush 20, 2) := by decide +kernel
theorem dX11_trace_18 : decode cX11_trace 18 = .ok (.if_icmp .lt 5, 3) := by decide +kernel
theorem dX11_trace_21 : decode cX11_trace 21 = .ok (.iconst (-1), 1) := by decide +kernel
theorem dX11_trace_22 : decode cX11_trace 22 = .ok (.ireturn, 1) := by decide +kernel
theorem dX11_trace_23 : decode cX11_trace 23 = .ok (.aload_n 0, 1) := by decide +kernel
theorem dX11_trace_24 : decode cX11_trace 24 = .ok (.getfield 35, 3) := by decide +kernel
theorem dX11_trace_27 : decode cX11_trace 27 = .ok (.getfield 292, 3) := by decide +kernel
theorem dX11_trace_30 : decode cX11_trace 30 = .ok (.iload_n 1, 1) := by decide +kernel
theorem dX11_trace_31 : decode cX11_trace 31 = .ok (.iaload, 1) := by decide +kernel
theorem dX11_trace_32 : decode cX11_trace 32 = .ok (.ireturn, 1) := by decide +kernel
def f_X11_trace (σ : St) (a1 : Int32) : Int32 := (if a1 < 0 then (-1 : Int32) else (if (σ 81 0) ≤ a1 then (-1 : Int32) else (if a1 < (20 : Int32) then (σ 80 (ix a1)) else (-1 : Int32))))
set_option maxHeartbeats 600000 in
set_option maxRecDepth 100000 in
theorem k_X11_trace (l : Launch) (g : GG) (ρ : RR) (dt : Nat → Nat → Int32) (σ : St) (a1 : Int32) (hX : IX σ) : PI l yX11_trace (wsF yX11_trace cX11_trace 2 (some .int)) { frames := 0, cells := 0, slots := 0, locals := 0 } [.ref (g.2.2 100), .int (a1)] (GB g (xW g ρ) (XB g ρ dt) σ) (f_X11_trace σ a1) := by
  refine start_PI (by decide) (Nat.le_of_ble_eq_true rfl) ?_
  intro p e s m args below meth c C0 hG ls hl
  obtain ⟨hK, hP, hDD, hB⟩ := hG
  obtain ⟨hx, hb, hr, hml, hown, hts, hlocks⟩ := id C0
  have hl : lv_has ls 2 [(0, .ref (g.2.2 100)), (1, .int (a1))] := hl
  generalize hT : (f_X11_trace σ a1) = tgt
  unfold f_X11_trace at hT
  obtain ⟨⟨j1, j1'⟩, ⟨j3, j3'⟩, ⟨j5, j5'⟩, ⟨j8, j8'⟩, ⟨j9, j9'⟩, ⟨j12, j12'⟩, ⟨j14, j14'⟩, ⟨j17, j17'⟩, j81, jW⟩ := id hX
  refine lv_iload_n hx hb dX11_trace_0 rfl (lv_at hl 1 rfl) ?_
  refine lv_if_lt (tgt := 21) hx hb dX11_trace_1 (by decide) (fun c_1 => ?_) (fun c_1 => ?_)
  · have hT := hT_pos c_1 hT
    refine lv_iconst (v := (-1 : Int32)) hx hb dX11_trace_21 (by decide) ?_
    exact ret_PI C0 hT dX11_trace_22
  · have hT := hT_neg c_1 hT
    refine lv_iload_n hx hb dX11_trace_4 rfl (lv_at hl 1 rfl) ?_
    refine lv_aload_n hx hb dX11_trace_5 rfl (lv_at hl 0 rfl) ?_
    refine x_get (σ := σ) (v := .ref (g.2.2 104)) (fs := xF0 g ρ σ) 11 0 C0 uw_11 dc_11 hK hP rfl rfl 4 (by decide) rfl w_233 dX11_trace_6 ?_
    refine x_getN (σ := σ) (v := .int ((σ 81 0))) (fs := xF4 g ρ σ) 9 4 C0 uw_9 dc_9 hK hP rfl rfl 1 (by decide) rfl w_223 dX11_trace_9 ?_
    refine lv_icmp_ge (tgt := 21) hx hb dX11_trace_12 (by decide) (fun c_12 => ?_) (fun c_12 => ?_)
    · have hT := hT_pos c_12 hT
      refine lv_iconst (v := (-1 : Int32)) hx hb dX11_trace_21 (by decide) ?_
      exact ret_PI C0 hT dX11_trace_22
    · have hT := hT_neg c_12 hT
      refine lv_iload_n hx hb dX11_trace_15 rfl (lv_at hl 1 rfl) ?_
      refine lv_bipush (v := (20 : Int32)) hx hb dX11_trace_16 (by decide) ?_
      refine lv_icmp_lt (tgt := 23) hx hb dX11_trace_18 (by decide) (fun c_18 => ?_) (fun c_18 => ?_)
      · have hT := hT_pos c_18 hT
        refine lv_aload_n hx hb dX11_trace_23 rfl (lv_at hl 0 rfl) ?_
        refine x_get (σ := σ) (v := .ref (g.2.2 104)) (fs := xF0 g ρ σ) 11 0 C0 uw_11 dc_11 hK hP rfl rfl 4 (by decide) rfl w_233 dX11_trace_24 ?_
        refine x_getN (σ := σ) (v := .ref (g.2.2 80)) (fs := xF4 g ρ σ) 9 4 C0 uw_9 dc_9 hK hP rfl rfl 0 (by decide) rfl w_221 dX11_trace_27 ?_
        refine lv_iload_n hx hb dX11_trace_30 rfl (lv_at hl 1 rfl) ?_
        have o_31 : vp_in a1 20 := by
          have : ((0 : Int32)).toInt = 0 := by decide
          have : ((20 : Int32)).toInt = 20 := by decide
          have := mt ti_lt.mpr c_1
          have := mt ti_le.mpr c_12
          have := ti_lt.mp c_18
          exact vin (by omega) (by omega)
        refine x_ald (σ := σ) C0 hK hP 27 80 20 rfl o_31 (ix a1) rfl dX11_trace_31 ?_
        exact ret_PI C0 hT dX11_trace_32
      · have hT := hT_neg c_18 hT
        refine lv_iconst (v := (-1 : Int32)) hx hb dX11_trace_21 (by decide) ?_
        exact ret_PI C0 hT dX11_trace_22
set_option maxRecDepth 20000 in
theorem w_119 : (Cond.fieldLinkNest RX11 76 RX5 "stickCount" "I" RX11) ∈ NB := inNB (List.mem_of_getElem? (i := 119) (by decide +kernel)) (by decide +kernel)
set_option maxRecDepth 20000 in
theorem w_115 : (Cond.fieldLinkNest RX11 62 RX5 "roomCount" "I" RX11) ∈ NB := inNB (List.mem_of_getElem? (i := 115) (by decide +kernel)) (by decide +kernel)
/-! ThreeMeasures.count -/
theorem dX11_count_0 : decode cX11_count 0 = .ok (.iload_n 1, 1) := by decide +kernel
theorem dX11_count_1 : decode cX11_count 1 = .ok (.tableswitch 111 0 7 #[47, 55, 63, 71, 79, 87, 95, 103], 47) := by decide +kernel
theorem dX11_count_48 : decode cX11_count 48 = .ok (.aload_n 0, 1) := by decide +kernel
theorem dX11_count_49 : decode cX11_count 49 = .ok (.getfield 12, 3) := by decide +kernel
theorem dX11_count_52 : decode cX11_count 52 = .ok (.getfield 76, 3) := by decide +kernel
theorem dX11_count_55 : decode cX11_count 55 = .ok (.ireturn, 1) := by decide +kernel
theorem dX11_count_56 : decode cX11_count 56 = .ok (.aload_n 0, 1) := by decide +kernel
theorem dX11_count_57 : decode cX11_count 57 = .ok (.getfield 12, 3) := by decide +kernel
theorem dX11_count_60 : decode cX11_count 60 = .ok (.getfield 112, 3) := by decide +kernel
theorem dX11_count_63 : decode cX11_count 63 = .ok (.ireturn, 1) := by decide +kernel
theorem dX11_count_64 : decode cX11_count 64 = .ok (.aload_n 0, 1) := by decide +kernel
theorem dX11_count_65 : decode cX11_count 65 = .ok (.getfield 12, 3) := by decide +kernel
theorem dX11_count_68 : decode cX11_count 68 = .ok (.getfield 62, 3) := by decide +kernel
theorem dX11_count_71 : decode cX11_count 71 = .ok (.ireturn, 1) := by decide +kernel
theorem dX11_count_72 : decode cX11_count 72 = .ok (.aload_n 0, 1) := by decide +kernel
theorem dX11_count_73 : decode cX11_count 73 = .ok (.getfield 12, 3) := by decide +kernel
theorem dX11_count_76 : decode cX11_count 76 = .ok (.getfield 209, 3) := by decide +kernel
theorem dX11_count_79 : decode cX11_count 79 = .ok (.ireturn, 1) := by decide +kernel
theorem dX11_count_80 : decode cX11_count 80 = .ok (.aload_n 0, 1) := by decide +kernel
theorem dX11_count_81 : decode cX11_count 81 = .ok (.getfield 12, 3) := by decide +kernel
theorem dX11_count_84 : decode cX11_count 84 = .ok (.getfield 257, 3) := by decide +kernel
theorem dX11_count_87 : decode cX11_count 87 = .ok (.ireturn, 1) := by decide +kernel
theorem dX11_count_88 : decode cX11_count 88 = .ok (.aload_n 0, 1) := by decide +kernel
theorem dX11_count_89 : decode cX11_count 89 = .ok (.getfield 12, 3) := by decide +kernel
theorem dX11_count_92 : decode cX11_count 92 = .ok (.getfield 266, 3) := by decide +kernel
theorem dX11_count_95 : decode cX11_count 95 = .ok (.ireturn, 1) := by decide +kernel
theorem dX11_count_96 : decode cX11_count 96 = .ok (.aload_n 0, 1) := by decide +kernel
theorem dX11_count_97 : decode cX11_count 97 = .ok (.getfield 12, 3) := by decide +kernel
theorem dX11_count_100 : decode cX11_count 100 = .ok (.getfield 55, 3) := by decide +kernel
theorem dX11_count_103 : decode cX11_count 103 = .ok (.ireturn, 1) := by decide +kernel
theorem dX11_count_104 : decode cX11_count 104 = .ok (.aload_n 0, 1) := by decide +kernel
theorem dX11_count_105 : decode cX11_count 105 = .ok (.getfield 35, 3) := by decide +kernel
theorem dX11_count_108 : decode cX11_count 108 = .ok (.getfield 279, 3) := by decide +kernel
theorem dX11_count_111 : decode cX11_count 111 = .ok (.ireturn, 1) := by decide +kernel
theorem dX11_count_112 : decode cX11_count 112 = .ok (.iconst (-1), 1) := by decide +kernel
theorem dX11_count_113 : decode cX11_count 113 = .ok (.ireturn, 1) := by decide +kernel
def f_X11_count (σ : St) (a1 : Int32) : Int32 := (if a1 = (0 : Int32) then (σ 25 0) else (if a1 = (1 : Int32) then (σ 28 0) else (if a1 = (2 : Int32) then (σ 23 0) else (if a1 = (3 : Int32) then (σ 32 0) else (if a1 = (4 : Int32) then (σ 34 0) else (if a1 = (5 : Int32) then (σ 37 0) else (if a1 = (6 : Int32) then (σ 21 0) else (if a1 = (7 : Int32) then (σ 81 0) else (-1 : Int32)))))))))
set_option maxHeartbeats 600000 in
set_option maxRecDepth 100000 in
theorem k_X11_count (l : Launch) (g : GG) (ρ : RR) (dt : Nat → Nat → Int32) (σ : St) (a1 : Int32) (hX : IX σ) : PI l yX11_count (wsF yX11_count cX11_count 2 (some .int)) { frames := 0, cells := 0, slots := 0, locals := 0 } [.ref (g.2.2 100), .int (a1)] (GB g (xW g ρ) (XB g ρ dt) σ) (f_X11_count σ a1) := by
  refine start_PI (by decide) (Nat.le_of_ble_eq_true rfl) ?_
  intro p e s m args below meth c C0 hG ls hl
  obtain ⟨hK, hP, hDD, hB⟩ := hG
  obtain ⟨hx, hb, hr, hml, hown, hts, hlocks⟩ := id C0
  have hl : lv_has ls 2 [(0, .ref (g.2.2 100)), (1, .int (a1))] := hl
  generalize hT : (f_X11_count σ a1) = tgt
  unfold f_X11_count at hT
  obtain ⟨⟨j1, j1'⟩, ⟨j3, j3'⟩, ⟨j5, j5'⟩, ⟨j8, j8'⟩, ⟨j9, j9'⟩, ⟨j12, j12'⟩, ⟨j14, j14'⟩, ⟨j17, j17'⟩, j81, jW⟩ := id hX
  refine lv_iload_n hx hb dX11_count_0 rfl (lv_at hl 1 rfl) ?_
  by_cases c_1_0 : a1 = (0 : Int32)
  · have hT := hT_pos c_1_0 hT
    refine lv_tableIn (tgt := 48) hx hb dX11_count_1 (by rw [c_1_0]; decide) (by rw [c_1_0]; decide) (by rw [c_1_0]; rfl) (by decide) ?_
    refine lv_aload_n hx hb dX11_count_48 rfl (lv_at hl 0 rfl) ?_
    refine x_get (σ := σ) (v := .ref (g.2.2 101)) (fs := xF0 g ρ σ) 11 0 C0 uw_11 dc_11 hK hP rfl rfl 0 (by decide) rfl w_229 dX11_count_49 ?_
    refine x_getN (σ := σ) (v := .int ((σ 25 0))) (fs := xF1 g ρ σ) 5 1 C0 uw_5 dc_5 hK hP rfl rfl 5 (by decide) rfl w_119 dX11_count_52 ?_
    exact ret_PI C0 hT dX11_count_55
  have hT := hT_neg c_1_0 hT
  by_cases c_1_1 : a1 = (1 : Int32)
  · have hT := hT_pos c_1_1 hT
    refine lv_tableIn (tgt := 56) hx hb dX11_count_1 (by rw [c_1_1]; decide) (by rw [c_1_1]; decide) (by rw [c_1_1]; rfl) (by decide) ?_
    refine lv_aload_n hx hb dX11_count_56 rfl (lv_at hl 0 rfl) ?_
    refine x_get (σ := σ) (v := .ref (g.2.2 101)) (fs := xF0 g ρ σ) 11 0 C0 uw_11 dc_11 hK hP rfl rfl 0 (by decide) rfl w_229 dX11_count_57 ?_
    refine x_getN (σ := σ) (v := .int ((σ 28 0))) (fs := xF1 g ρ σ) 5 1 C0 uw_5 dc_5 hK hP rfl rfl 8 (by decide) rfl w_125 dX11_count_60 ?_
    exact ret_PI C0 hT dX11_count_63
  have hT := hT_neg c_1_1 hT
  by_cases c_1_2 : a1 = (2 : Int32)
  · have hT := hT_pos c_1_2 hT
    refine lv_tableIn (tgt := 64) hx hb dX11_count_1 (by rw [c_1_2]; decide) (by rw [c_1_2]; decide) (by rw [c_1_2]; rfl) (by decide) ?_
    refine lv_aload_n hx hb dX11_count_64 rfl (lv_at hl 0 rfl) ?_
    refine x_get (σ := σ) (v := .ref (g.2.2 101)) (fs := xF0 g ρ σ) 11 0 C0 uw_11 dc_11 hK hP rfl rfl 0 (by decide) rfl w_229 dX11_count_65 ?_
    refine x_getN (σ := σ) (v := .int ((σ 23 0))) (fs := xF1 g ρ σ) 5 1 C0 uw_5 dc_5 hK hP rfl rfl 3 (by decide) rfl w_115 dX11_count_68 ?_
    exact ret_PI C0 hT dX11_count_71
  have hT := hT_neg c_1_2 hT
  by_cases c_1_3 : a1 = (3 : Int32)
  · have hT := hT_pos c_1_3 hT
    refine lv_tableIn (tgt := 72) hx hb dX11_count_1 (by rw [c_1_3]; decide) (by rw [c_1_3]; decide) (by rw [c_1_3]; rfl) (by decide) ?_
    refine lv_aload_n hx hb dX11_count_72 rfl (lv_at hl 0 rfl) ?_
    refine x_get (σ := σ) (v := .ref (g.2.2 101)) (fs := xF0 g ρ σ) 11 0 C0 uw_11 dc_11 hK hP rfl rfl 0 (by decide) rfl w_229 dX11_count_73 ?_
    refine x_getN (σ := σ) (v := .int ((σ 32 0))) (fs := xF1 g ρ σ) 5 1 C0 uw_5 dc_5 hK hP rfl rfl 12 (by decide) rfl w_133 dX11_count_76 ?_
    exact ret_PI C0 hT dX11_count_79
  have hT := hT_neg c_1_3 hT
  by_cases c_1_4 : a1 = (4 : Int32)
  · have hT := hT_pos c_1_4 hT
    refine lv_tableIn (tgt := 80) hx hb dX11_count_1 (by rw [c_1_4]; decide) (by rw [c_1_4]; decide) (by rw [c_1_4]; rfl) (by decide) ?_
    refine lv_aload_n hx hb dX11_count_80 rfl (lv_at hl 0 rfl) ?_
    refine x_get (σ := σ) (v := .ref (g.2.2 101)) (fs := xF0 g ρ σ) 11 0 C0 uw_11 dc_11 hK hP rfl rfl 0 (by decide) rfl w_229 dX11_count_81 ?_
    refine x_getN (σ := σ) (v := .int ((σ 34 0))) (fs := xF1 g ρ σ) 5 1 C0 uw_5 dc_5 hK hP rfl rfl 14 (by decide) rfl w_137 dX11_count_84 ?_
    exact ret_PI C0 hT dX11_count_87
  have hT := hT_neg c_1_4 hT
  by_cases c_1_5 : a1 = (5 : Int32)
  · have hT := hT_pos c_1_5 hT
    refine lv_tableIn (tgt := 88) hx hb dX11_count_1 (by rw [c_1_5]; decide) (by rw [c_1_5]; decide) (by rw [c_1_5]; rfl) (by decide) ?_
    refine lv_aload_n hx hb dX11_count_88 rfl (lv_at hl 0 rfl) ?_
    refine x_get (σ := σ) (v := .ref (g.2.2 101)) (fs := xF0 g ρ σ) 11 0 C0 uw_11 dc_11 hK hP rfl rfl 0 (by decide) rfl w_229 dX11_count_89 ?_
    refine x_getN (σ := σ) (v := .int ((σ 37 0))) (fs := xF1 g ρ σ) 5 1 C0 uw_5 dc_5 hK hP rfl rfl 17 (by decide) rfl w_143 dX11_count_92 ?_
    exact ret_PI C0 hT dX11_count_95
  have hT := hT_neg c_1_5 hT
  by_cases c_1_6 : a1 = (6 : Int32)
  · have hT := hT_pos c_1_6 hT
    refine lv_tableIn (tgt := 96) hx hb dX11_count_1 (by rw [c_1_6]; decide) (by rw [c_1_6]; decide) (by rw [c_1_6]; rfl) (by decide) ?_
    refine lv_aload_n hx hb dX11_count_96 rfl (lv_at hl 0 rfl) ?_
    refine x_get (σ := σ) (v := .ref (g.2.2 101)) (fs := xF0 g ρ σ) 11 0 C0 uw_11 dc_11 hK hP rfl rfl 0 (by decide) rfl w_229 dX11_count_97 ?_
    refine x_getN (σ := σ) (v := .int ((σ 21 0))) (fs := xF1 g ρ σ) 5 1 C0 uw_5 dc_5 hK hP rfl rfl 1 (by decide) rfl w_110 dX11_count_100 ?_
    exact ret_PI C0 hT dX11_count_103
  have hT := hT_neg c_1_6 hT
  by_cases c_1_7 : a1 = (7 : Int32)
  · have hT := hT_pos c_1_7 hT
    refine lv_tableIn (tgt := 104) hx hb dX11_count_1 (by rw [c_1_7]; decide) (by rw [c_1_7]; decide) (by rw [c_1_7]; rfl) (by decide) ?_
    refine lv_aload_n hx hb dX11_count_104 rfl (lv_at hl 0 rfl) ?_
    refine x_get (σ := σ) (v := .ref (g.2.2 104)) (fs := xF0 g ρ σ) 11 0 C0 uw_11 dc_11 hK hP rfl rfl 4 (by decide) rfl w_233 dX11_count_105 ?_
    refine x_getN (σ := σ) (v := .int ((σ 81 0))) (fs := xF4 g ρ σ) 9 4 C0 uw_9 dc_9 hK hP rfl rfl 1 (by decide) rfl w_223 dX11_count_108 ?_
    exact ret_PI C0 hT dX11_count_111
  have hT := hT_neg c_1_7 hT
  refine lv_tableOut (tgt := 112) hx hb dX11_count_1 (sw_out (fun k h1 h2 => by
      rcases (show k = 0 ∨ k = 1 ∨ k = 2 ∨ k = 3 ∨ k = 4 ∨ k = 5 ∨ k = 6 ∨ k = 7 by omega) with rfl | rfl | rfl | rfl | rfl | rfl | rfl | rfl <;> first | exact c_1_0 | exact c_1_1 | exact c_1_2 | exact c_1_3 | exact c_1_4 | exact c_1_5 | exact c_1_6 | exact c_1_7)) (by decide) ?_
  refine lv_iconst (v := (-1 : Int32)) hx hb dX11_count_112 (by decide) ?_
  exact ret_PI C0 hT dX11_count_113
/-! ThreeMeasures.isTimes -/
theorem dX11_isTimes_0 : decode cX11_isTimes 0 = .ok (.iload_n 0, 1) := by decide +kernel
theorem dX11_isTimes_1 : decode cX11_isTimes 1 = .ok (.ifCond .lt 13, 3) := by decide +kernel
theorem dX11_isTimes_4 : decode cX11_isTimes 4 = .ok (.iload_n 0, 1) := by decide +kernel
theorem dX11_isTimes_5 : decode cX11_isTimes 5 = .ok (.bipush 30, 2) := by decide +kernel
theorem dX11_isTimes_7 : decode cX11_isTimes 7 = .ok (.if_icmp .gt 7, 3) := by decide +kernel
theorem dX11_isTimes_10 : decode cX11_isTimes 10 = .ok (.iconst 1, 1) := by decide +kernel
theorem dX11_isTimes_11 : decode cX11_isTimes 11 = .ok (.goto 4, 3) := by decide +kernel
theorem dX11_isTimes_14 : decode cX11_isTimes 14 = .ok (.iconst 0, 1) := by decide +kernel
theorem dX11_isTimes_15 : decode cX11_isTimes 15 = .ok (.ireturn, 1) := by decide +kernel
def f_X11_isTimes (a0 : Int32) : Int32 := (if a0 < 0 then (0 : Int32) else (if (30 : Int32) < a0 then (0 : Int32) else (1 : Int32)))
set_option maxHeartbeats 600000 in
set_option maxRecDepth 100000 in
theorem k_X11_isTimes (l : Launch)  (a0 : Int32)  : PI l yX11_isTimes (wsF yX11_isTimes cX11_isTimes 1 (some .boolean)) { frames := 0, cells := 0, slots := 0, locals := 0 } [.int (a0)] (fun _ => True) (f_X11_isTimes a0) := by
  refine start_PI (by decide) (Nat.le_of_ble_eq_true rfl) ?_
  intro p e s m args below meth c C0 hG ls hl
  obtain ⟨hx, hb, hr, hml, hown, hts, hlocks⟩ := id C0
  have hl : lv_has ls 1 [(0, .int (a0))] := hl
  generalize hT : (f_X11_isTimes a0) = tgt
  unfold f_X11_isTimes at hT
  refine lv_iload_n hx hb dX11_isTimes_0 rfl (lv_at hl 0 rfl) ?_
  have J1 : ∀ v : Int32, v = (if a0 < 0 then (0 : Int32) else (if (30 : Int32) < a0 then (0 : Int32) else (1 : Int32))) → W p l e { frames := 0, cells := 0, slots := 0, locals := 0 } s m args below meth c s.heap [] 0 0 (QPI below args s tgt) (F0 m 15 ls [.int (v)]) := by
    intro v ev
    subst ev
    exact ret_PZ C0 (nz_of (by (repeat' split) <;> simp)) hT dX11_isTimes_15
  refine lv_if_lt (tgt := 14) hx hb dX11_isTimes_1 (by decide) (fun c_1 => ?_) (fun c_1 => ?_)
  · refine lv_iconst (v := (0 : Int32)) hx hb dX11_isTimes_14 (by decide) ?_
    exact J1 _ (iv_pos c_1 rfl)
  · refine lv_iload_n hx hb dX11_isTimes_4 rfl (lv_at hl 0 rfl) ?_
    refine lv_bipush (v := (30 : Int32)) hx hb dX11_isTimes_5 (by decide) ?_
    refine lv_icmp_gt (tgt := 14) hx hb dX11_isTimes_7 (by decide) (fun c_7 => ?_) (fun c_7 => ?_)
    · refine lv_iconst (v := (0 : Int32)) hx hb dX11_isTimes_14 (by decide) ?_
      exact J1 _ (iv_neg c_1 (iv_pos c_7 rfl))
    · refine lv_iconst (v := (1 : Int32)) hx hb dX11_isTimes_10 (by decide) ?_
      refine lv_goto (tgt := 15) hx hb dX11_isTimes_11 (by decide) ?_
      exact J1 _ (iv_neg c_1 (iv_neg c_7 rfl))
set_option maxRecDepth 20000 in
theorem w_709 : (Cond.methodLink RX11 154 Lib.Math.min.name) ∈ TB := inTB (List.mem_of_getElem? (i := 709) (by decide +kernel)) (by decide +kernel)
set_option maxRecDepth 20000 in
theorem w_379 : (Cond.static Lib.Math.min.name) ∈ TB := inTB (List.mem_of_getElem? (i := 379) (by decide +kernel)) (by decide +kernel)
set_option maxRecDepth 20000 in
theorem w_80 : (Cond.initialized "java/lang/Math") ∈ TB := inTB (List.mem_of_getElem? (i := 80) (by decide +kernel)) (by decide +kernel)
set_option maxRecDepth 20000 in
theorem w_380 : (Cond.code Lib.Math.min.name Lib.Math.min.code 2 (some .int)) ∈ TB := inTB (List.mem_of_getElem? (i := 380) (by decide +kernel)) (by decide +kernel)
/-! ThreeMeasures.afterMove -/
theorem dX11_afterMove_0 : decode cX11_afterMove 0 = .ok (.iload_n 0, 1) := by decide +kernel
theorem dX11_afterMove_1 : decode cX11_afterMove 1 = .ok (.iload_n 3, 1) := by decide +kernel
theorem dX11_afterMove_2 : decode cX11_afterMove 2 = .ok (.iload_n 1, 1) := by decide +kernel
theorem dX11_afterMove_3 : decode cX11_afterMove 3 = .ok (.isub, 1) := by decide +kernel
theorem dX11_afterMove_4 : decode cX11_afterMove 4 = .ok (.invokestatic 154, 3) := by decide +kernel
theorem dX11_afterMove_7 : decode cX11_afterMove 7 = .ok (.istore 5, 2) := by decide +kernel
theorem dX11_afterMove_9 : decode cX11_afterMove 9 = .ok (.iload_n 1, 1) := by decide +kernel
theorem dX11_afterMove_10 : decode cX11_afterMove 10 = .ok (.iload_n 2, 1) := by decide +kernel
theorem dX11_afterMove_11 : decode cX11_afterMove 11 = .ok (.iload_n 0, 1) := by decide +kernel
theorem dX11_afterMove_12 : decode cX11_afterMove 12 = .ok (.isub, 1) := by decide +kernel
theorem dX11_afterMove_13 : decode cX11_afterMove 13 = .ok (.invokestatic 154, 3) := by decide +kernel
theorem dX11_afterMove_16 : decode cX11_afterMove 16 = .ok (.istore 6, 2) := by decide +kernel
theorem dX11_afterMove_18 : decode cX11_afterMove 18 = .ok (.iload 4, 2) := by decide +kernel
theorem dX11_afterMove_20 : decode cX11_afterMove 20 = .ok (.tableswitch 70 0 4 #[36, 43, 50, 52, 57], 36) := by decide +kernel
theorem dX11_afterMove_56 : decode cX11_afterMove 56 = .ok (.iload_n 2, 1) := by decide +kernel
theorem dX11_afterMove_57 : decode cX11_afterMove 57 = .ok (.bipush 41, 2) := by decide +kernel
theorem dX11_afterMove_59 : decode cX11_afterMove 59 = .ok (.imul, 1) := by decide +kernel
theorem dX11_afterMove_60 : decode cX11_afterMove 60 = .ok (.iload_n 1, 1) := by decide +kernel
theorem dX11_afterMove_61 : decode cX11_afterMove 61 = .ok (.iadd, 1) := by decide +kernel
theorem dX11_afterMove_62 : decode cX11_afterMove 62 = .ok (.ireturn, 1) := by decide +kernel
theorem dX11_afterMove_63 : decode cX11_afterMove 63 = .ok (.iload_n 0, 1) := by decide +kernel
theorem dX11_afterMove_64 : decode cX11_afterMove 64 = .ok (.bipush 41, 2) := by decide +kernel
theorem dX11_afterMove_66 : decode cX11_afterMove 66 = .ok (.imul, 1) := by decide +kernel
theorem dX11_afterMove_67 : decode cX11_afterMove 67 = .ok (.iload_n 3, 1) := by decide +kernel
theorem dX11_afterMove_68 : decode cX11_afterMove 68 = .ok (.iadd, 1) := by decide +kernel
theorem dX11_afterMove_69 : decode cX11_afterMove 69 = .ok (.ireturn, 1) := by decide +kernel
theorem dX11_afterMove_70 : decode cX11_afterMove 70 = .ok (.iload_n 1, 1) := by decide +kernel
theorem dX11_afterMove_71 : decode cX11_afterMove 71 = .ok (.ireturn, 1) := by decide +kernel
theorem dX11_afterMove_72 : decode cX11_afterMove 72 = .ok (.iload_n 0, 1) := by decide +kernel
theorem dX11_afterMove_73 : decode cX11_afterMove 73 = .ok (.bipush 41, 2) := by decide +kernel
theorem dX11_afterMove_75 : decode cX11_afterMove 75 = .ok (.imul, 1) := by decide +kernel
theorem dX11_afterMove_76 : decode cX11_afterMove 76 = .ok (.ireturn, 1) := by decide +kernel
theorem dX11_afterMove_77 : decode cX11_afterMove 77 = .ok (.iload_n 0, 1) := by decide +kernel
theorem dX11_afterMove_78 : decode cX11_afterMove 78 = .ok (.iload 5, 2) := by decide +kernel
theorem dX11_afterMove_80 : decode cX11_afterMove 80 = .ok (.isub, 1) := by decide +kernel
theorem dX11_afterMove_81 : decode cX11_afterMove 81 = .ok (.bipush 41, 2) := by decide +kernel
theorem dX11_afterMove_83 : decode cX11_afterMove 83 = .ok (.imul, 1) := by decide +kernel
theorem dX11_afterMove_84 : decode cX11_afterMove 84 = .ok (.iload_n 1, 1) := by decide +kernel
theorem dX11_afterMove_85 : decode cX11_afterMove 85 = .ok (.iadd, 1) := by decide +kernel
theorem dX11_afterMove_86 : decode cX11_afterMove 86 = .ok (.iload 5, 2) := by decide +kernel
theorem dX11_afterMove_88 : decode cX11_afterMove 88 = .ok (.iadd, 1) := by decide +kernel
theorem dX11_afterMove_89 : decode cX11_afterMove 89 = .ok (.ireturn, 1) := by decide +kernel
theorem dX11_afterMove_90 : decode cX11_afterMove 90 = .ok (.iload_n 0, 1) := by decide +kernel
theorem dX11_afterMove_91 : decode cX11_afterMove 91 = .ok (.iload 6, 2) := by decide +kernel
theorem dX11_afterMove_93 : decode cX11_afterMove 93 = .ok (.iadd, 1) := by decide +kernel
theorem dX11_afterMove_94 : decode cX11_afterMove 94 = .ok (.bipush 41, 2) := by decide +kernel
theorem dX11_afterMove_96 : decode cX11_afterMove 96 = .ok (.imul, 1) := by decide +kernel
theorem dX11_afterMove_97 : decode cX11_afterMove 97 = .ok (.iload_n 1, 1) := by decide +kernel
theorem dX11_afterMove_98 : decode cX11_afterMove 98 = .ok (.iadd, 1) := by decide +kernel
theorem dX11_afterMove_99 : decode cX11_afterMove 99 = .ok (.iload 6, 2) := by decide +kernel
theorem dX11_afterMove_101 : decode cX11_afterMove 101 = .ok (.isub, 1) := by decide +kernel
theorem dX11_afterMove_102 : decode cX11_afterMove 102 = .ok (.ireturn, 1) := by decide +kernel
def f_X11_afterMove (a0 : Int32) (a1 : Int32) (a2 : Int32) (a3 : Int32) (a4 : Int32) : Int32 := (if a4 = (0 : Int32) then ((a2 * (41 : Int32)) + a1) else (if a4 = (1 : Int32) then ((a0 * (41 : Int32)) + a3) else (if a4 = (2 : Int32) then a1 else (if a4 = (3 : Int32) then (a0 * (41 : Int32)) else (if a4 = (4 : Int32) then ((((a0 - (if (a3 - a1) < a0 then (a3 - a1) else a0)) * (41 : Int32)) + a1) + (if (a3 - a1) < a0 then (a3 - a1) else a0)) else ((((a0 + (if (a2 - a0) < a1 then (a2 - a0) else a1)) * (41 : Int32)) + a1) - (if (a2 - a0) < a1 then (a2 - a0) else a1)))))))
set_option maxHeartbeats 600000 in
set_option maxRecDepth 100000 in
theorem k_X11_afterMove (l : Launch)  (a0 : Int32) (a1 : Int32) (a2 : Int32) (a3 : Int32) (a4 : Int32)  : PI l yX11_afterMove (wsF yX11_afterMove cX11_afterMove 7 (some .int)) { frames := 1, cells := 0, slots := 0, locals := 21 } [.int (a0), .int (a1), .int (a2), .int (a3), .int (a4)] (fun _ => True) (f_X11_afterMove a0 a1 a2 a3 a4) := by
  refine start_PI (by decide) (Nat.le_of_ble_eq_true rfl) ?_
  intro p e s m args below meth c C0 hG ls hl
  obtain ⟨hx, hb, hr, hml, hown, hts, hlocks⟩ := id C0
  have hl : lv_has ls 7 [(0, .int (a0)), (1, .int (a1)), (2, .int (a2)), (3, .int (a3)), (4, .int (a4))] := hl
  generalize hT : (f_X11_afterMove a0 a1 a2 a3 a4) = tgt
  unfold f_X11_afterMove at hT
  refine lv_iload_n hx hb dX11_afterMove_0 rfl (lv_at hl 0 rfl) ?_
  refine lv_iload_n hx hb dX11_afterMove_1 rfl (lv_at hl 3 rfl) ?_
  refine lv_iload_n hx hb dX11_afterMove_2 rfl (lv_at hl 1 rfl) ?_
  refine lv_isub hx hb dX11_afterMove_3 ?_
  refine va_mmin hx hb (hml.trans hl.1.symm) C0.2.2.2.2.1 (C0.2.2.2.2.2.1 _ w_709) (C0.2.2.2.2.2.1 _ w_379) (C0.2.2.2.2.2.1 _ w_80) (C0.2.2.2.2.2.1 _ w_380) (by decide) (by decide) (Nat.zero_le _) (Nat.zero_le _) dX11_afterMove_4 ?_
  refine lv_istore (lv' := [(5, .int ((if (a3 - a1) < a0 then (a3 - a1) else a0))), (0, .int (a0)), (1, .int (a1)), (2, .int (a2)), (3, .int (a3)), (4, .int (a4))]) hx hb dX11_afterMove_7 hl (by decide) rfl (fun ls hl => ?_)
  refine lv_iload_n hx hb dX11_afterMove_9 rfl (lv_at hl 2 rfl) ?_
  refine lv_iload_n hx hb dX11_afterMove_10 rfl (lv_at hl 3 rfl) ?_
  refine lv_iload_n hx hb dX11_afterMove_11 rfl (lv_at hl 1 rfl) ?_
  refine lv_isub hx hb dX11_afterMove_12 ?_
  refine va_mmin hx hb (hml.trans hl.1.symm) C0.2.2.2.2.1 (C0.2.2.2.2.2.1 _ w_709) (C0.2.2.2.2.2.1 _ w_379) (C0.2.2.2.2.2.1 _ w_80) (C0.2.2.2.2.2.1 _ w_380) (by decide) (by decide) (Nat.zero_le _) (Nat.zero_le _) dX11_afterMove_13 ?_
  refine lv_istore (lv' := [(6, .int ((if (a2 - a0) < a1 then (a2 - a0) else a1))), (5, .int ((if (a3 - a1) < a0 then (a3 - a1) else a0))), (0, .int (a0)), (1, .int (a1)), (2, .int (a2)), (3, .int (a3)), (4, .int (a4))]) hx hb dX11_afterMove_16 hl (by decide) rfl (fun ls hl => ?_)
  refine lv_iload hx hb dX11_afterMove_18 (lv_at hl 6 rfl) ?_
  by_cases c_20_0 : a4 = (0 : Int32)
  · have hT := hT_pos c_20_0 hT
    refine lv_tableIn (tgt := 56) hx hb dX11_afterMove_20 (by rw [c_20_0]; decide) (by rw [c_20_0]; decide) (by rw [c_20_0]; rfl) (by decide) ?_
    refine lv_iload_n hx hb dX11_afterMove_56 rfl (lv_at hl 4 rfl) ?_
    refine lv_bipush (v := (41 : Int32)) hx hb dX11_afterMove_57 (by decide) ?_
    refine lv_imul hx hb dX11_afterMove_59 ?_
    refine lv_iload_n hx hb dX11_afterMove_60 rfl (lv_at hl 3 rfl) ?_
    refine lv_iadd hx hb dX11_afterMove_61 ?_
    exact ret_PI C0 hT dX11_afterMove_62
  have hT := hT_neg c_20_0 hT
  by_cases c_20_1 : a4 = (1 : Int32)
  · have hT := hT_pos c_20_1 hT
    refine lv_tableIn (tgt := 63) hx hb dX11_afterMove_20 (by rw [c_20_1]; decide) (by rw [c_20_1]; decide) (by rw [c_20_1]; rfl) (by decide) ?_
    refine lv_iload_n hx hb dX11_afterMove_63 rfl (lv_at hl 2 rfl) ?_
    refine lv_bipush (v := (41 : Int32)) hx hb dX11_afterMove_64 (by decide) ?_
    refine lv_imul hx hb dX11_afterMove_66 ?_
    refine lv_iload_n hx hb dX11_afterMove_67 rfl (lv_at hl 5 rfl) ?_
    refine lv_iadd hx hb dX11_afterMove_68 ?_
    exact ret_PI C0 hT dX11_afterMove_69
  have hT := hT_neg c_20_1 hT
  by_cases c_20_2 : a4 = (2 : Int32)
  · have hT := hT_pos c_20_2 hT
    refine lv_tableIn (tgt := 70) hx hb dX11_afterMove_20 (by rw [c_20_2]; decide) (by rw [c_20_2]; decide) (by rw [c_20_2]; rfl) (by decide) ?_
    refine lv_iload_n hx hb dX11_afterMove_70 rfl (lv_at hl 3 rfl) ?_
    exact ret_PI C0 hT dX11_afterMove_71
  have hT := hT_neg c_20_2 hT
  by_cases c_20_3 : a4 = (3 : Int32)
  · have hT := hT_pos c_20_3 hT
    refine lv_tableIn (tgt := 72) hx hb dX11_afterMove_20 (by rw [c_20_3]; decide) (by rw [c_20_3]; decide) (by rw [c_20_3]; rfl) (by decide) ?_
    refine lv_iload_n hx hb dX11_afterMove_72 rfl (lv_at hl 2 rfl) ?_
    refine lv_bipush (v := (41 : Int32)) hx hb dX11_afterMove_73 (by decide) ?_
    refine lv_imul hx hb dX11_afterMove_75 ?_
    exact ret_PI C0 hT dX11_afterMove_76
  have hT := hT_neg c_20_3 hT
  by_cases c_20_4 : a4 = (4 : Int32)
  · have hT := hT_pos c_20_4 hT
    refine lv_tableIn (tgt := 77) hx hb dX11_afterMove_20 (by rw [c_20_4]; decide) (by rw [c_20_4]; decide) (by rw [c_20_4]; rfl) (by decide) ?_
    refine lv_iload_n hx hb dX11_afterMove_77 rfl (lv_at hl 2 rfl) ?_
    refine lv_iload hx hb dX11_afterMove_78 (lv_at hl 1 rfl) ?_
    refine lv_isub hx hb dX11_afterMove_80 ?_
    refine lv_bipush (v := (41 : Int32)) hx hb dX11_afterMove_81 (by decide) ?_
    refine lv_imul hx hb dX11_afterMove_83 ?_
    refine lv_iload_n hx hb dX11_afterMove_84 rfl (lv_at hl 3 rfl) ?_
    refine lv_iadd hx hb dX11_afterMove_85 ?_
    refine lv_iload hx hb dX11_afterMove_86 (lv_at hl 1 rfl) ?_
    refine lv_iadd hx hb dX11_afterMove_88 ?_
    exact ret_PI C0 hT dX11_afterMove_89
  have hT := hT_neg c_20_4 hT
  refine lv_tableOut (tgt := 90) hx hb dX11_afterMove_20 (sw_out (fun k h1 h2 => by
      rcases (show k = 0 ∨ k = 1 ∨ k = 2 ∨ k = 3 ∨ k = 4 by omega) with rfl | rfl | rfl | rfl | rfl <;> first | exact c_20_0 | exact c_20_1 | exact c_20_2 | exact c_20_3 | exact c_20_4)) (by decide) ?_
  refine lv_iload_n hx hb dX11_afterMove_90 rfl (lv_at hl 2 rfl) ?_
  refine lv_iload hx hb dX11_afterMove_91 (lv_at hl 0 rfl) ?_
  refine lv_iadd hx hb dX11_afterMove_93 ?_
  refine lv_bipush (v := (41 : Int32)) hx hb dX11_afterMove_94 (by decide) ?_
  refine lv_imul hx hb dX11_afterMove_96 ?_
  refine lv_iload_n hx hb dX11_afterMove_97 rfl (lv_at hl 3 rfl) ?_
  refine lv_iadd hx hb dX11_afterMove_98 ?_
  refine lv_iload hx hb dX11_afterMove_99 (lv_at hl 0 rfl) ?_
  refine lv_isub hx hb dX11_afterMove_101 ?_
  exact ret_PI C0 hT dX11_afterMove_102
