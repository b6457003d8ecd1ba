/-! ThreeMeasuresModel.in -/
theorem dX12_in_0 : decode cX12_in 0 = .ok (.iload_n 0, 1) := by decide +kernel
theorem dX12_in_1 : decode cX12_in 1 = .ok (.iload_n 1, 1) := by decide +kernel
theorem dX12_in_2 : decode cX12_in 2 = .ok (.if_icmp .lt 12, 3) := by decide +kernel
theorem dX12_in_5 : decode cX12_in 5 = .ok (.iload_n 0, 1) := by decide +kernel
theorem dX12_in_6 : decode cX12_in 6 = .ok (.iload_n 2, 1) := by decide +kernel
theorem dX12_in_7 : decode cX12_in 7 = .ok (.if_icmp .gt 7, 3) := by decide +kernel
theorem dX12_in_10 : decode cX12_in 10 = .ok (.iconst 1, 1) := by decide +kernel
theorem dX12_in_11 : decode cX12_in 11 = .ok (.goto 4, 3) := by decide +kernel
theorem dX12_in_14 : decode cX12_in 14 = .ok (.iconst 0, 1) := by decide +kernel
theorem dX12_in_15 : decode cX12_in 15 = .ok (.ireturn, 1) := by decide +kernel
def f_X12_in (a0 : Int32) (a1 : Int32) (a2 : Int32) : Int32 := (if a0 < a1 then (0 : Int32) else (if a2 < a0 then (0 : Int32) else (1 : Int32)))
set_option maxHeartbeats 4000000 in
set_option maxRecDepth 100000 in
theorem k_X12_in (l : Launch)  (a0 : Int32) (a1 : Int32) (a2 : Int32)  : PI l yX12_in (wsF yX12_in cX12_in 3 (some .boolean)) { frames := 0, cells := 0, slots := 0, locals := 0 } [.int (a0), .int (a1), .int (a2)] (fun _ => True) (f_X12_in a0 a1 a2) := by
  refine start_PI (by decide) (Nat.le_of_ble_eq_true rfl) ?_
  intro p e s m args below meth c C0 hG ls hl
  obtain ⟨hx, hb, hr, hml, hown, hts, hlocks⟩ := id C0
  have hl : lv_has ls 3 [(0, .int (a0)), (1, .int (a1)), (2, .int (a2))] := hl
  generalize hT : (f_X12_in a0 a1 a2) = tgt
  unfold f_X12_in at hT
  refine lv_iload_n hx hb dX12_in_0 rfl (lv_at hl 0 rfl) ?_
  refine lv_iload_n hx hb dX12_in_1 rfl (lv_at hl 1 rfl) ?_
  have J2 : ∀ v : Int32, v = (if a0 < a1 then (0 : Int32) else (if a2 < a0 then (0 : Int32) else (1 : Int32))) → W p l e { frames := 0, cells := 0, slots := 0, locals := 0 } s m args below meth c s.heap [] 0 0 (QPI below args s tgt) (F0 m 15 ls [.int (v)]) := by
    intro v ev
    subst ev
    exact ret_PZ C0 (by first | rfl | exact nz_ite | exact nz_ite2 | (apply nz_of; ((repeat' split) <;> simp))) hT dX12_in_15
  refine lv_icmp_lt (tgt := 14) hx hb dX12_in_2 (by decide) (fun c_2 => ?_) (fun c_2 => ?_)
  · refine lv_iconst (v := (0 : Int32)) hx hb dX12_in_14 (by decide) ?_
    exact J2 _ (iv_pos c_2 rfl)
  · refine lv_iload_n hx hb dX12_in_5 rfl (lv_at hl 0 rfl) ?_
    refine lv_iload_n hx hb dX12_in_6 rfl (lv_at hl 2 rfl) ?_
    refine lv_icmp_gt (tgt := 14) hx hb dX12_in_7 (by decide) (fun c_7 => ?_) (fun c_7 => ?_)
    · refine lv_iconst (v := (0 : Int32)) hx hb dX12_in_14 (by decide) ?_
      exact J2 _ (iv_neg c_2 (iv_pos c_7 rfl))
    · refine lv_iconst (v := (1 : Int32)) hx hb dX12_in_10 (by decide) ?_
      refine lv_goto (tgt := 15) hx hb dX12_in_11 (by decide) ?_
      exact J2 _ (iv_neg c_2 (iv_neg c_7 rfl))
theorem zb_in (a b c : Int32) : f_X12_in a b c = 0 ∨ f_X12_in a b c = 1 := by
  unfold f_X12_in
  (repeat' split) <;> simp
/-! ThreeMeasuresModel.greater -/
theorem dX12_greater_0 : decode cX12_greater 0 = .ok (.iload_n 0, 1) := by decide +kernel
theorem dX12_greater_1 : decode cX12_greater 1 = .ok (.iload_n 1, 1) := by decide +kernel
theorem dX12_greater_2 : decode cX12_greater 2 = .ok (.if_icmp .le 7, 3) := by decide +kernel
theorem dX12_greater_5 : decode cX12_greater 5 = .ok (.iload_n 0, 1) := by decide +kernel
theorem dX12_greater_6 : decode cX12_greater 6 = .ok (.goto 4, 3) := by decide +kernel
theorem dX12_greater_9 : decode cX12_greater 9 = .ok (.iload_n 1, 1) := by decide +kernel
theorem dX12_greater_10 : decode cX12_greater 10 = .ok (.ireturn, 1) := by decide +kernel
def f_X12_greater (a0 : Int32) (a1 : Int32) : Int32 := (if a0 ≤ a1 then a1 else a0)
set_option maxHeartbeats 4000000 in
set_option maxRecDepth 100000 in
theorem k_X12_greater (l : Launch)  (a0 : Int32) (a1 : Int32)  : PI l yX12_greater (wsF yX12_greater cX12_greater 2 (some .int)) { frames := 0, cells := 0, slots := 0, locals := 0 } [.int (a0), .int (a1)] (fun _ => True) (f_X12_greater a0 a1) := by
  refine start_PI (by decide) (Nat.le_of_ble_eq_true rfl) ?_
  intro p e s m args below meth c C0 hG ls hl
  obtain ⟨hx, hb, hr, hml, hown, hts, hlocks⟩ := id C0
  have hl : lv_has ls 2 [(0, .int (a0)), (1, .int (a1))] := hl
  generalize hT : (f_X12_greater a0 a1) = tgt
  unfold f_X12_greater at hT
  refine lv_iload_n hx hb dX12_greater_0 rfl (lv_at hl 0 rfl) ?_
  refine lv_iload_n hx hb dX12_greater_1 rfl (lv_at hl 1 rfl) ?_
  have J2 : ∀ v : Int32, v = (if a0 ≤ a1 then a1 else a0) → W p l e { frames := 0, cells := 0, slots := 0, locals := 0 } s m args below meth c s.heap [] 0 0 (QPI below args s tgt) (F0 m 10 ls [.int (v)]) := by
    intro v ev
    subst ev
    exact ret_PI C0 hT dX12_greater_10
  refine lv_icmp_le (tgt := 9) hx hb dX12_greater_2 (by decide) (fun c_2 => ?_) (fun c_2 => ?_)
  · refine lv_iload_n hx hb dX12_greater_9 rfl (lv_at hl 1 rfl) ?_
    exact J2 _ (iv_pos c_2 rfl)
  · refine lv_iload_n hx hb dX12_greater_5 rfl (lv_at hl 0 rfl) ?_
    refine lv_goto (tgt := 10) hx hb dX12_greater_6 (by decide) ?_
    exact J2 _ (iv_neg c_2 rfl)
/-! ThreeMeasuresModel.lesser -/
theorem dX12_lesser_0 : decode cX12_lesser 0 = .ok (.iload_n 0, 1) := by decide +kernel
theorem dX12_lesser_1 : decode cX12_lesser 1 = .ok (.iload_n 1, 1) := by decide +kernel
theorem dX12_lesser_2 : decode cX12_lesser 2 = .ok (.if_icmp .ge 7, 3) := by decide +kernel
theorem dX12_lesser_5 : decode cX12_lesser 5 = .ok (.iload_n 0, 1) := by decide +kernel
theorem dX12_lesser_6 : decode cX12_lesser 6 = .ok (.goto 4, 3) := by decide +kernel
theorem dX12_lesser_9 : decode cX12_lesser 9 = .ok (.iload_n 1, 1) := by decide +kernel
theorem dX12_lesser_10 : decode cX12_lesser 10 = .ok (.ireturn, 1) := by decide +kernel
def f_X12_lesser (a0 : Int32) (a1 : Int32) : Int32 := (if a1 ≤ a0 then a1 else a0)
set_option maxHeartbeats 4000000 in
set_option maxRecDepth 100000 in
theorem k_X12_lesser (l : Launch)  (a0 : Int32) (a1 : Int32)  : PI l yX12_lesser (wsF yX12_lesser cX12_lesser 2 (some .int)) { frames := 0, cells := 0, slots := 0, locals := 0 } [.int (a0), .int (a1)] (fun _ => True) (f_X12_lesser a0 a1) := by
  refine start_PI (by decide) (Nat.le_of_ble_eq_true rfl) ?_
  intro p e s m args below meth c C0 hG ls hl
  obtain ⟨hx, hb, hr, hml, hown, hts, hlocks⟩ := id C0
  have hl : lv_has ls 2 [(0, .int (a0)), (1, .int (a1))] := hl
  generalize hT : (f_X12_lesser a0 a1) = tgt
  unfold f_X12_lesser at hT
  refine lv_iload_n hx hb dX12_lesser_0 rfl (lv_at hl 0 rfl) ?_
  refine lv_iload_n hx hb dX12_lesser_1 rfl (lv_at hl 1 rfl) ?_
  have J2 : ∀ v : Int32, v = (if a1 ≤ a0 then a1 else a0) → W p l e { frames := 0, cells := 0, slots := 0, locals := 0 } s m args below meth c s.heap [] 0 0 (QPI below args s tgt) (F0 m 10 ls [.int (v)]) := by
    intro v ev
    subst ev
    exact ret_PI C0 hT dX12_lesser_10
  refine lv_icmp_ge (tgt := 9) hx hb dX12_lesser_2 (by decide) (fun c_2 => ?_) (fun c_2 => ?_)
  · refine lv_iload_n hx hb dX12_lesser_9 rfl (lv_at hl 1 rfl) ?_
    exact J2 _ (iv_pos c_2 rfl)
  · refine lv_iload_n hx hb dX12_lesser_5 rfl (lv_at hl 0 rfl) ?_
    refine lv_goto (tgt := 10) hx hb dX12_lesser_6 (by decide) ?_
    exact J2 _ (iv_neg c_2 rfl)
set_option maxRecDepth 20000 in
theorem w_968 : (Cond.fieldLink RX12 9 RX12 "s" "[I") ∈ TB := inTB (List.mem_of_getElem? (i := 968) (by decide +kernel)) (by decide +kernel)
set_option maxRecDepth 20000 in
theorem w_1060 : (Cond.methodLink RX12 47 yX12_in) ∈ TB := inTB (List.mem_of_getElem? (i := 1060) (by decide +kernel)) (by decide +kernel)
set_option maxRecDepth 20000 in
theorem w_1062 : (Cond.code yX12_in cX12_in 3 (some .boolean)) ∈ TB := inTB (List.mem_of_getElem? (i := 1062) (by decide +kernel)) (by decide +kernel)
set_option maxRecDepth 20000 in
theorem w_1061 : (Cond.static yX12_in) ∈ TB := inTB (List.mem_of_getElem? (i := 1061) (by decide +kernel)) (by decide +kernel)
set_option maxRecDepth 20000 in
theorem w_75 : (Cond.initialized RX12) ∈ TB := inTB (List.mem_of_getElem? (i := 75) (by decide +kernel)) (by decide +kernel)
theorem cf_X12_in : CG yX12_in cX12_in 3 (some .boolean) 3 := ⟨w_1061, w_75, w_1062, by decide +kernel, by decide +kernel, by decide +kernel⟩
/-! ThreeMeasuresModel.isStick -/
theorem dX12_isStick_0 : decode cX12_isStick 0 = .ok (.iload_n 1, 1) := by decide +kernel
theorem dX12_isStick_1 : decode cX12_isStick 1 = .ok (.iconst 0, 1) := by decide +kernel
theorem dX12_isStick_2 : decode cX12_isStick 2 = .ok (.aload_n 0, 1) := by decide +kernel
theorem dX12_isStick_3 : decode cX12_isStick 3 = .ok (.getfield 9, 3) := by decide +kernel
theorem dX12_isStick_6 : decode cX12_isStick 6 = .ok (.iconst 0, 1) := by decide +kernel
theorem dX12_isStick_7 : decode cX12_isStick 7 = .ok (.iaload, 1) := by decide +kernel
theorem dX12_isStick_8 : decode cX12_isStick 8 = .ok (.iconst 1, 1) := by decide +kernel
theorem dX12_isStick_9 : decode cX12_isStick 9 = .ok (.isub, 1) := by decide +kernel
theorem dX12_isStick_10 : decode cX12_isStick 10 = .ok (.invokestatic 47, 3) := by decide +kernel
theorem dX12_isStick_13 : decode cX12_isStick 13 = .ok (.ireturn, 1) := by decide +kernel
def f_X12_isStick (σ : St) (a1 : Int32) : Int32 := (f_X12_in a1 (0 : Int32) ((σ 1 0) - (1 : Int32)))
set_option maxHeartbeats 4000000 in
set_option maxRecDepth 100000 in
theorem k_X12_isStick (l : Launch) (g : GG) (σ : St) (a1 : Int32)  : PI l yX12_isStick (wsF yX12_isStick cX12_isStick 2 (some .boolean)) { frames := 1, cells := 0, slots := 0, locals := 22 } [.ref (g.2.2 100), .int (a1)] (GB g (mW g) (fun _ => True) σ) (f_X12_isStick σ a1) := by
  refine start_PI (by decide) (Nat.le_of_ble_eq_true rfl) ?_
  intro p e s m args below meth c C0 hG ls hl
  obtain ⟨hK, hP, hDD, hBg⟩ := hG
  obtain ⟨hx, hb, hr, hml, hown, hts, hlocks⟩ := id C0
  have hl : lv_has ls 2 [(0, .ref (g.2.2 100)), (1, .int (a1))] := hl
  generalize hT : (f_X12_isStick σ a1) = tgt
  unfold f_X12_isStick at hT
  refine lv_iload_n hx hb dX12_isStick_0 rfl (lv_at hl 1 rfl) ?_
  refine lv_iconst (v := (0 : Int32)) hx hb dX12_isStick_1 (by decide) ?_
  refine lv_aload_n hx hb dX12_isStick_2 rfl (lv_at hl 0 rfl) ?_
  refine m_get (σ := σ) (v := .ref (g.2.2 1)) C0 hK hP 1 (by decide) rfl w_968 dX12_isStick_3 ?_
  refine lv_iconst (v := (0 : Int32)) hx hb dX12_isStick_6 (by decide) ?_
  refine m_ald (σ := σ) C0 hK hP 1 1 916 rfl (vin_l (by decide)) 0 (by decide) dX12_isStick_7 ?_
  refine lv_iconst (v := (1 : Int32)) hx hb dX12_isStick_8 (by decide) ?_
  refine lv_isub hx hb dX12_isStick_9 ?_
  refine s_ci (rest := []) (As := [.int (a1), .int ((0 : Int32)), .int (((σ 1 0) - (1 : Int32)))]) C0 cf_X12_in w_1060 (k_X12_in l a1 (0 : Int32) ((σ 1 0) - (1 : Int32)) ) ⟨by decide, by decide⟩ hl.1 rfl rfl (by decide) dX12_isStick_10 ⟨Nat.zero_le _, Nat.zero_le _⟩ ?_
  exact ret_PZ C0 (by first | rfl | exact nz_ite | exact nz_ite2 | (apply nz_of; exact zb_in _ _ _)) hT dX12_isStick_13
/-! ThreeMeasuresModel.isWall -/
theorem dX12_isWall_0 : decode cX12_isWall 0 = .ok (.iload_n 1, 1) := by decide +kernel
theorem dX12_isWall_1 : decode cX12_isWall 1 = .ok (.iconst 0, 1) := by decide +kernel
theorem dX12_isWall_2 : decode cX12_isWall 2 = .ok (.aload_n 0, 1) := by decide +kernel
theorem dX12_isWall_3 : decode cX12_isWall 3 = .ok (.getfield 9, 3) := by decide +kernel
theorem dX12_isWall_6 : decode cX12_isWall 6 = .ok (.iconst 1, 1) := by decide +kernel
theorem dX12_isWall_7 : decode cX12_isWall 7 = .ok (.iaload, 1) := by decide +kernel
theorem dX12_isWall_8 : decode cX12_isWall 8 = .ok (.iconst 1, 1) := by decide +kernel
theorem dX12_isWall_9 : decode cX12_isWall 9 = .ok (.isub, 1) := by decide +kernel
theorem dX12_isWall_10 : decode cX12_isWall 10 = .ok (.invokestatic 47, 3) := by decide +kernel
theorem dX12_isWall_13 : decode cX12_isWall 13 = .ok (.ireturn, 1) := by decide +kernel
def f_X12_isWall (σ : St) (a1 : Int32) : Int32 := (f_X12_in a1 (0 : Int32) ((σ 1 1) - (1 : Int32)))
set_option maxHeartbeats 4000000 in
set_option maxRecDepth 100000 in
theorem k_X12_isWall (l : Launch) (g : GG) (σ : St) (a1 : Int32)  : PI l yX12_isWall (wsF yX12_isWall cX12_isWall 2 (some .boolean)) { frames := 1, cells := 0, slots := 0, locals := 22 } [.ref (g.2.2 100), .int (a1)] (GB g (mW g) (fun _ => True) σ) (f_X12_isWall σ a1) := by
  refine start_PI (by decide) (Nat.le_of_ble_eq_true rfl) ?_
  intro p e s m args below meth c C0 hG ls hl
  obtain ⟨hK, hP, hDD, hBg⟩ := hG
  obtain ⟨hx, hb, hr, hml, hown, hts, hlocks⟩ := id C0
  have hl : lv_has ls 2 [(0, .ref (g.2.2 100)), (1, .int (a1))] := hl
  generalize hT : (f_X12_isWall σ a1) = tgt
  unfold f_X12_isWall at hT
  refine lv_iload_n hx hb dX12_isWall_0 rfl (lv_at hl 1 rfl) ?_
  refine lv_iconst (v := (0 : Int32)) hx hb dX12_isWall_1 (by decide) ?_
  refine lv_aload_n hx hb dX12_isWall_2 rfl (lv_at hl 0 rfl) ?_
  refine m_get (σ := σ) (v := .ref (g.2.2 1)) C0 hK hP 1 (by decide) rfl w_968 dX12_isWall_3 ?_
  refine lv_iconst (v := (1 : Int32)) hx hb dX12_isWall_6 (by decide) ?_
  refine m_ald (σ := σ) C0 hK hP 1 1 916 rfl (vin_l (by decide)) 1 (by decide) dX12_isWall_7 ?_
  refine lv_iconst (v := (1 : Int32)) hx hb dX12_isWall_8 (by decide) ?_
  refine lv_isub hx hb dX12_isWall_9 ?_
  refine s_ci (rest := []) (As := [.int (a1), .int ((0 : Int32)), .int (((σ 1 1) - (1 : Int32)))]) C0 cf_X12_in w_1060 (k_X12_in l a1 (0 : Int32) ((σ 1 1) - (1 : Int32)) ) ⟨by decide, by decide⟩ hl.1 rfl rfl (by decide) dX12_isWall_10 ⟨Nat.zero_le _, Nat.zero_le _⟩ ?_
  exact ret_PZ C0 (by first | rfl | exact nz_ite | exact nz_ite2 | (apply nz_of; exact zb_in _ _ _)) hT dX12_isWall_13
/-! ThreeMeasuresModel.gapOf -/
theorem dX12_gapOf_0 : decode cX12_gapOf 0 = .ok (.aload_n 0, 1) := by decide +kernel
theorem dX12_gapOf_1 : decode cX12_gapOf 1 = .ok (.getfield 9, 3) := by decide +kernel
theorem dX12_gapOf_4 : decode cX12_gapOf 4 = .ok (.bipush 57, 2) := by decide +kernel
theorem dX12_gapOf_6 : decode cX12_gapOf 6 = .ok (.iload_n 1, 1) := by decide +kernel
theorem dX12_gapOf_7 : decode cX12_gapOf 7 = .ok (.iadd, 1) := by decide +kernel
theorem dX12_gapOf_8 : decode cX12_gapOf 8 = .ok (.iaload, 1) := by decide +kernel
theorem dX12_gapOf_9 : decode cX12_gapOf 9 = .ok (.aload_n 0, 1) := by decide +kernel
theorem dX12_gapOf_10 : decode cX12_gapOf 10 = .ok (.getfield 9, 3) := by decide +kernel
theorem dX12_gapOf_13 : decode cX12_gapOf 13 = .ok (.bipush 51, 2) := by decide +kernel
theorem dX12_gapOf_15 : decode cX12_gapOf 15 = .ok (.iload_n 1, 1) := by decide +kernel
theorem dX12_gapOf_16 : decode cX12_gapOf 16 = .ok (.iadd, 1) := by decide +kernel
theorem dX12_gapOf_17 : decode cX12_gapOf 17 = .ok (.iaload, 1) := by decide +kernel
theorem dX12_gapOf_18 : decode cX12_gapOf 18 = .ok (.isub, 1) := by decide +kernel
theorem dX12_gapOf_19 : decode cX12_gapOf 19 = .ok (.ireturn, 1) := by decide +kernel
def f_X12_gapOf (σ : St) (a1 : Int32) : Int32 := ((σ 1 (ix ((57 : Int32) + a1))) - (σ 1 (ix ((51 : Int32) + a1))))
set_option maxHeartbeats 4000000 in
set_option maxRecDepth 100000 in
theorem k_X12_gapOf (l : Launch) (g : GG) (σ : St) (a1 : Int32) (h1 : 0 ≤ a1.toInt) (h2 : a1.toInt ≤ 6) : PI l yX12_gapOf (wsF yX12_gapOf cX12_gapOf 2 (some .int)) { frames := 0, cells := 0, slots := 0, locals := 0 } [.ref (g.2.2 100), .int (a1)] (GB g (mW g) (fun _ => True) σ) (f_X12_gapOf σ a1) := by
  refine start_PI (by decide) (Nat.le_of_ble_eq_true rfl) ?_
  intro p e s m args below meth c C0 hG ls hl
  obtain ⟨hK, hP, hDD, hBg⟩ := hG
  obtain ⟨hx, hb, hr, hml, hown, hts, hlocks⟩ := id C0
  have hl : lv_has ls 2 [(0, .ref (g.2.2 100)), (1, .int (a1))] := hl
  generalize hT : (f_X12_gapOf σ a1) = tgt
  unfold f_X12_gapOf at hT
  refine lv_aload_n hx hb dX12_gapOf_0 rfl (lv_at hl 0 rfl) ?_
  refine m_get (σ := σ) (v := .ref (g.2.2 1)) C0 hK hP 1 (by decide) rfl w_968 dX12_gapOf_1 ?_
  refine lv_bipush (v := (57 : Int32)) hx hb dX12_gapOf_4 (by decide) ?_
  refine lv_iload_n hx hb dX12_gapOf_6 rfl (lv_at hl 1 rfl) ?_
  refine lv_iadd hx hb dX12_gapOf_7 ?_
  have o_8 : vp_in ((57 : Int32) + a1) 916 := by
    have : ((57 : Int32)).toInt = 57 := by decide
    try have := ti_add (a := (57 : Int32)) (b := a1) (by omega) (by omega)
    exact vin (by omega) (by omega)
  refine m_ald (σ := σ) C0 hK hP 1 1 916 rfl o_8 (ix ((57 : Int32) + a1)) rfl dX12_gapOf_8 ?_
  refine lv_aload_n hx hb dX12_gapOf_9 rfl (lv_at hl 0 rfl) ?_
  refine m_get (σ := σ) (v := .ref (g.2.2 1)) C0 hK hP 1 (by decide) rfl w_968 dX12_gapOf_10 ?_
  refine lv_bipush (v := (51 : Int32)) hx hb dX12_gapOf_13 (by decide) ?_
  refine lv_iload_n hx hb dX12_gapOf_15 rfl (lv_at hl 1 rfl) ?_
  refine lv_iadd hx hb dX12_gapOf_16 ?_
  have o_17 : vp_in ((51 : Int32) + a1) 916 := by
    have : ((51 : Int32)).toInt = 51 := by decide
    try have := ti_add (a := (51 : Int32)) (b := a1) (by omega) (by omega)
    exact vin (by omega) (by omega)
  refine m_ald (σ := σ) C0 hK hP 1 1 916 rfl o_17 (ix ((51 : Int32) + a1)) rfl dX12_gapOf_17 ?_
  refine lv_isub hx hb dX12_gapOf_18 ?_
  exact ret_PI C0 hT dX12_gapOf_19
/-! ThreeMeasuresModel.feed -/
theorem dX12_feed_0 : decode cX12_feed 0 = .ok (.iload_n 1, 1) := by decide +kernel
theorem dX12_feed_1 : decode cX12_feed 1 = .ok (.iconst 0, 1) := by decide +kernel
theorem dX12_feed_2 : decode cX12_feed 2 = .ok (.bipush 127, 2) := by decide +kernel
theorem dX12_feed_4 : decode cX12_feed 4 = .ok (.invokestatic 47, 3) := by decide +kernel
theorem dX12_feed_7 : decode cX12_feed 7 = .ok (.ifCond .ne 6, 3) := by decide +kernel
theorem dX12_feed_10 : decode cX12_feed 10 = .ok (.bipush (-2), 2) := by decide +kernel
theorem dX12_feed_12 : decode cX12_feed 12 = .ok (.ireturn, 1) := by decide +kernel
theorem dX12_feed_13 : decode cX12_feed 13 = .ok (.aload_n 0, 1) := by decide +kernel
theorem dX12_feed_14 : decode cX12_feed 14 = .ok (.getfield 9, 3) := by decide +kernel
theorem dX12_feed_17 : decode cX12_feed 17 = .ok (.bipush 6, 2) := by decide +kernel
theorem dX12_feed_19 : decode cX12_feed 19 = .ok (.iaload, 1) := by decide +kernel
theorem dX12_feed_20 : decode cX12_feed 20 = .ok (.bipush 100, 2) := by decide +kernel
theorem dX12_feed_22 : decode cX12_feed 22 = .ok (.if_icmp .ne 6, 3) := by decide +kernel
theorem dX12_feed_25 : decode cX12_feed 25 = .ok (.bipush (-4), 2) := by decide +kernel
theorem dX12_feed_27 : decode cX12_feed 27 = .ok (.ireturn, 1) := by decide +kernel
theorem dX12_feed_28 : decode cX12_feed 28 = .ok (.aload_n 0, 1) := by decide +kernel
theorem dX12_feed_29 : decode cX12_feed 29 = .ok (.getfield 9, 3) := by decide +kernel
theorem dX12_feed_32 : decode cX12_feed 32 = .ok (.bipush 101, 2) := by decide +kernel
theorem dX12_feed_34 : decode cX12_feed 34 = .ok (.aload_n 0, 1) := by decide +kernel
theorem dX12_feed_35 : decode cX12_feed 35 = .ok (.getfield 9, 3) := by decide +kernel
theorem dX12_feed_38 : decode cX12_feed 38 = .ok (.bipush 6, 2) := by decide +kernel
theorem dX12_feed_40 : decode cX12_feed 40 = .ok (.iaload, 1) := by decide +kernel
theorem dX12_feed_41 : decode cX12_feed 41 = .ok (.iadd, 1) := by decide +kernel
theorem dX12_feed_42 : decode cX12_feed 42 = .ok (.iload_n 1, 1) := by decide +kernel
theorem dX12_feed_43 : decode cX12_feed 43 = .ok (.iastore, 1) := by decide +kernel
theorem dX12_feed_44 : decode cX12_feed 44 = .ok (.aload_n 0, 1) := by decide +kernel
theorem dX12_feed_45 : decode cX12_feed 45 = .ok (.getfield 9, 3) := by decide +kernel
theorem dX12_feed_48 : decode cX12_feed 48 = .ok (.bipush 6, 2) := by decide +kernel
theorem dX12_feed_50 : decode cX12_feed 50 = .ok (.dup2, 1) := by decide +kernel
theorem dX12_feed_51 : decode cX12_feed 51 = .ok (.iaload, 1) := by decide +kernel
theorem dX12_feed_52 : decode cX12_feed 52 = .ok (.iconst 1, 1) := by decide +kernel
theorem dX12_feed_53 : decode cX12_feed 53 = .ok (.iadd, 1) := by decide +kernel
theorem dX12_feed_54 : decode cX12_feed 54 = .ok (.iastore, 1) := by decide +kernel
theorem dX12_feed_55 : decode cX12_feed 55 = .ok (.aload_n 0, 1) := by decide +kernel
theorem dX12_feed_56 : decode cX12_feed 56 = .ok (.getfield 9, 3) := by decide +kernel
theorem dX12_feed_59 : decode cX12_feed 59 = .ok (.bipush 6, 2) := by decide +kernel
theorem dX12_feed_61 : decode cX12_feed 61 = .ok (.iaload, 1) := by decide +kernel
theorem dX12_feed_62 : decode cX12_feed 62 = .ok (.ireturn, 1) := by decide +kernel
def f_X12_feed (σ : St) (a1 : Int32) : Int32 × St := (if (f_X12_in a1 (0 : Int32) (127 : Int32)) = 0 then ((-2 : Int32), σ) else (if (σ 1 6) = (100 : Int32) then ((-4 : Int32), σ) else ((((up2 σ 1 (ix ((101 : Int32) + (σ 1 6))) a1) 1 6) + (1 : Int32)), (up2 (up2 σ 1 (ix ((101 : Int32) + (σ 1 6))) a1) 1 6 (((up2 σ 1 (ix ((101 : Int32) + (σ 1 6))) a1) 1 6) + (1 : Int32))))))
set_option maxHeartbeats 4000000 in
set_option maxRecDepth 100000 in
theorem k_X12_feed (l : Launch) (g : GG) (σ : St) (a1 : Int32) (h1 : 0 ≤ (σ 1 6).toInt) (h2 : (σ 1 6).toInt ≤ 100) : MI l yX12_feed (wsF yX12_feed cX12_feed 2 (some .int)) { frames := 1, cells := 0, slots := 0, locals := 22 } [.ref (g.2.2 100), .int (a1)] g (mW g) (fun _ => True) σ (f_X12_feed σ a1) := by
  refine start_MI (by decide) (Nat.le_of_ble_eq_true rfl) ?_
  intro p e s m args below meth c C0 hK hBg hC ls hl
  generalize hAe : aA ((mW g) σ) = A at hC ⊢
  obtain ⟨hx, hb, hr, hml, hown, hts, hlocks⟩ := id C0
  have hl : lv_has ls 2 [(0, .ref (g.2.2 100)), (1, .int (a1))] := hl
  generalize hT : (f_X12_feed σ a1) = tgt
  suffices key : ∀ (H : Heap) (locs : List Loc), WC g (mW g) A s.heap σ H locs → W p l e { frames := 1, cells := 0, slots := 0, locals := 22 } s m args below meth c H locs 0 0 (QMI below args s g (mW g) A tgt) (F0 m 0 ls []) from key _ _ hC
  intro H locs hC
  unfold f_X12_feed at hT
  refine lv_iload_n hx hb dX12_feed_0 rfl (lv_at hl 1 rfl) ?_
  refine lv_iconst (v := (0 : Int32)) hx hb dX12_feed_1 (by decide) ?_
  refine lv_bipush (v := (127 : Int32)) hx hb dX12_feed_2 (by decide) ?_
  refine s_ci (rest := []) (As := [.int (a1), .int ((0 : Int32)), .int ((127 : Int32))]) C0 cf_X12_in w_1060 (k_X12_in l a1 (0 : Int32) (127 : Int32) ) ⟨by decide, by decide⟩ hl.1 rfl rfl (by decide) dX12_feed_4 ⟨Nat.zero_le _, Nat.zero_le _⟩ ?_
  refine lv_if_ne (tgt := 13) hx hb dX12_feed_7 (by decide) (fun c_7 => ?_) (fun c_7 => ?_)
  · have hT := hT_neg c_7 hT
    refine lv_aload_n hx hb dX12_feed_13 rfl (lv_at hl 0 rfl) ?_
    refine m_get (σ := σ) (v := .ref (g.2.2 1)) C0 hK hC.1 1 (by decide) rfl w_968 dX12_feed_14 ?_
    refine lv_bipush (v := (6 : Int32)) hx hb dX12_feed_17 (by decide) ?_
    refine m_ald (σ := σ) C0 hK hC.1 1 1 916 rfl (vin_l (by decide)) 6 (by decide) dX12_feed_19 ?_
    refine lv_bipush (v := (100 : Int32)) hx hb dX12_feed_20 (by decide) ?_
    refine lv_icmp_ne (tgt := 28) hx hb dX12_feed_22 (by decide) (fun c_22 => ?_) (fun c_22 => ?_)
    · have hT := hT_neg c_22 hT
      refine lv_aload_n hx hb dX12_feed_28 rfl (lv_at hl 0 rfl) ?_
      refine m_get (σ := σ) (v := .ref (g.2.2 1)) C0 hK hC.1 1 (by decide) rfl w_968 dX12_feed_29 ?_
      refine lv_bipush (v := (101 : Int32)) hx hb dX12_feed_32 (by decide) ?_
      refine lv_aload_n hx hb dX12_feed_34 rfl (lv_at hl 0 rfl) ?_
      refine m_get (σ := σ) (v := .ref (g.2.2 1)) C0 hK hC.1 1 (by decide) rfl w_968 dX12_feed_35 ?_
      refine lv_bipush (v := (6 : Int32)) hx hb dX12_feed_38 (by decide) ?_
      refine m_ald (σ := σ) C0 hK hC.1 1 1 916 rfl (vin_l (by decide)) 6 (by decide) dX12_feed_40 ?_
      refine lv_iadd hx hb dX12_feed_41 ?_
      refine lv_iload_n hx hb dX12_feed_42 rfl (lv_at hl 1 rfl) ?_
      have o_43 : vp_in ((101 : Int32) + (σ 1 6)) 916 := by
        have : ((101 : Int32)).toInt = 101 := by decide
        try have := ti_add (a := (101 : Int32)) (b := (σ 1 6)) (by omega) (by omega)
        have : ((0 : Int32)).toInt = 0 := by decide
        have := mt ti_eq.mpr c_7
        have : ((100 : Int32)).toInt = 100 := by decide
        have := mt ti_eq.mpr c_22
        exact vin (by omega) (by omega)
      refine m_ast (σ := σ) C0 hK hC 1 1 916 rfl (ms_1 g _) o_43 (ix ((101 : Int32) + (σ 1 6))) rfl dX12_feed_43 (fun H locs hC => ?_)
      refine lv_aload_n hx hb dX12_feed_44 rfl (lv_at hl 0 rfl) ?_
      refine m_get (σ := (up2 σ 1 (ix ((101 : Int32) + (σ 1 6))) a1)) (v := .ref (g.2.2 1)) C0 hK hC.1 1 (by decide) rfl w_968 dX12_feed_45 ?_
      refine lv_bipush (v := (6 : Int32)) hx hb dX12_feed_48 (by decide) ?_
      refine lv_dup2_11 hx hb dX12_feed_50 rfl rfl ?_
      refine m_ald (σ := (up2 σ 1 (ix ((101 : Int32) + (σ 1 6))) a1)) C0 hK hC.1 1 1 916 rfl (vin_l (by decide)) 6 (by decide) dX12_feed_51 ?_
      refine lv_iconst (v := (1 : Int32)) hx hb dX12_feed_52 (by decide) ?_
      refine lv_iadd hx hb dX12_feed_53 ?_
      refine m_ast (σ := (up2 σ 1 (ix ((101 : Int32) + (σ 1 6))) a1)) C0 hK hC 1 1 916 rfl (ms_1 g _) (vin_l (by decide)) 6 (by decide) dX12_feed_54 (fun H locs hC => ?_)
      refine lv_aload_n hx hb dX12_feed_55 rfl (lv_at hl 0 rfl) ?_
      refine m_get (σ := (up2 (up2 σ 1 (ix ((101 : Int32) + (σ 1 6))) a1) 1 6 (((up2 σ 1 (ix ((101 : Int32) + (σ 1 6))) a1) 1 6) + (1 : Int32)))) (v := .ref (g.2.2 1)) C0 hK hC.1 1 (by decide) rfl w_968 dX12_feed_56 ?_
      refine lv_bipush (v := (6 : Int32)) hx hb dX12_feed_59 (by decide) ?_
      refine m_ald (σ := (up2 (up2 σ 1 (ix ((101 : Int32) + (σ 1 6))) a1) 1 6 (((up2 σ 1 (ix ((101 : Int32) + (σ 1 6))) a1) 1 6) + (1 : Int32)))) C0 hK hC.1 1 1 916 rfl (vin_l (by decide)) 6 (by decide) dX12_feed_61 ?_
      exact ret_MI C0 hC hT dX12_feed_62
    · have hT := hT_pos c_22 hT
      refine lv_bipush (v := (-4 : Int32)) hx hb dX12_feed_25 (by decide) ?_
      exact ret_MI C0 hC hT dX12_feed_27
  · have hT := hT_pos c_7 hT
    refine lv_bipush (v := (-2 : Int32)) hx hb dX12_feed_10 (by decide) ?_
    exact ret_MI C0 hC hT dX12_feed_12
