/-! ThreeMeasuresModel.in -/
theorem dX12_in_0 : decode cX12_in 0 = .ok (.iload_n 0, 1) := by decide +kernel
theorem dX12_in_1 : decode cX12_in 1 = .ok (.iload_n 1, 1) := by decide +kernel
theorem dX12_in_2 : decode cX12_in 2 = .ok (.if_icmp .lt 12, 3) := by decide +kernel
theorem dX12_in_5 : decode cX12_in 5 = .ok (.iload_n 0, 1) := by decide +kernel
theorem dX12_in_6 : decode cX12_in 6 = .ok (.iload_n 2, 1) := by decide +kernel
theorem dX12_in_7 : decode cX12_in 7 = .ok (.if_icmp .gt 7, 3) := by decide +kernel
theorem dX12_in_10 : decode cX12_in 10 = .ok (.iconst 1, 1) := by decide +kernel
theorem dX12_in_11 : decode cX12_in 11 = .ok (.goto 4, 3) := by decide +kernel
theorem dX12_in_14 : decode cX12_in 14 = .ok (.iconst 0, 1) := by decide +kernel
theorem dX12_in_15 : decode cX12_in 15 = .ok (.ireturn, 1) := by decide +kernel
def f_X12_in (a0 : Int32) (a1 : Int32) (a2 : Int32) : Int32 := (if a0 < a1 then (0 : Int32) else (if a2 < a0 then (0 : Int32) else (1 : Int32)))
set_option maxHeartbeats 600000 in
set_option maxRecDepth 100000 in
theorem k_X12_in (l : Launch)  (a0 : Int32) (a1 : Int32) (a2 : Int32)  : PI l yX12_in (wsF yX12_in cX12_in 3 (some .boolean)) { frames := 0, cells := 0, slots := 0, locals := 0 } [.int (a0), .int (a1), .int (a2)] (fun _ => True) (f_X12_in a0 a1 a2) := by
  refine start_PI (by decide) (Nat.le_of_ble_eq_true rfl) ?_
  intro p e s m args below meth c C0 hG ls hl
  obtain ⟨hx, hb, hr, hml, hown, hts, hlocks⟩ := id C0
  have hl : lv_has ls 3 [(0, .int (a0)), (1, .int (a1)), (2, .int (a2))] := hl
  generalize hT : (f_X12_in a0 a1 a2) = tgt
  unfold f_X12_in at hT
  refine lv_iload_n hx hb dX12_in_0 rfl (lv_at hl 0 rfl) ?_
  refine lv_iload_n hx hb dX12_in_1 rfl (lv_at hl 1 rfl) ?_
  have J2 : ∀ v : Int32, v = (if a0 < a1 then (0 : Int32) else (if a2 < a0 then (0 : Int32) else (1 : Int32))) → W p l e { frames := 0, cells := 0, slots := 0, locals := 0 } s m args below meth c s.heap [] 0 0 (QPI below args s tgt) (F0 m 15 ls [.int (v)]) := by
    intro v ev
    subst ev
    exact ret_PZ C0 (nz_of (by (repeat' split) <;> simp)) hT dX12_in_15
  refine lv_icmp_lt (tgt := 14) hx hb dX12_in_2 (by decide) (fun c_2 => ?_) (fun c_2 => ?_)
  · refine lv_iconst (v := (0 : Int32)) hx hb dX12_in_14 (by decide) ?_
    exact J2 _ (iv_pos c_2 rfl)
  · refine lv_iload_n hx hb dX12_in_5 rfl (lv_at hl 0 rfl) ?_
    refine lv_iload_n hx hb dX12_in_6 rfl (lv_at hl 2 rfl) ?_
    refine lv_icmp_gt (tgt := 14) hx hb dX12_in_7 (by decide) (fun c_7 => ?_) (fun c_7 => ?_)
    · refine lv_iconst (v := (0 : Int32)) hx hb dX12_in_14 (by decide) ?_
      exact J2 _ (iv_neg c_2 (iv_pos c_7 rfl))
    · refine lv_iconst (v := (1 : Int32)) hx hb dX12_in_10 (by decide) ?_
      refine lv_goto (tgt := 15) hx hb dX12_in_11 (by decide) ?_
      exact J2 _ (iv_neg c_2 (iv_neg c_7 rfl))
theorem zb_in (a b c : Int32) : f_X12_in a b c = 0 ∨ f_X12_in a b c = 1 := by
  unfold f_X12_in
  (repeat' split) <;> simp
theorem in_ne {a b c : Int32} (h : ¬ f_X12_in a b c = 0) : b.toInt ≤ a.toInt ∧ a.toInt ≤ c.toInt := by
  unfold f_X12_in at h
  split at h
  · exact absurd rfl h
  · split at h
    · exact absurd rfl h
    · rename_i h1 h2
      rw [ti_lt] at h1 h2
      omega
theorem in_eq {a b c : Int32} (h : f_X12_in a b c = 0) : ¬ (b.toInt ≤ a.toInt ∧ a.toInt ≤ c.toInt) := by
  unfold f_X12_in at h
  split at h
  · rename_i h1
    rw [ti_lt] at h1
    omega
  · split at h
    · rename_i h1
      rw [ti_lt] at h1
      omega
    · exact absurd h (by decide)
/-- what the model's row holds, always -/
def IB (f : Nat → Int32) : Prop :=
  (0 ≤ (f 0).toInt ∧ (f 0).toInt ≤ 6) ∧ (0 ≤ (f 1).toInt ∧ (f 1).toInt ≤ 6) ∧ (0 ≤ (f 2).toInt ∧ (f 2).toInt ≤ 5) ∧ (0 ≤ (f 3).toInt ∧ (f 3).toInt ≤ 8) ∧ (0 ≤ (f 4).toInt ∧ (f 4).toInt ≤ 6) ∧ (0 ≤ (f 5).toInt ∧ (f 5).toInt ≤ 8) ∧ (0 ≤ (f 6).toInt ∧ (f 6).toInt ≤ 100) ∧ (-1 ≤ (f 7).toInt ∧ (f 7).toInt < (f 2).toInt) ∧ (0 ≤ (f 8).toInt ∧ (f 8).toInt ≤ 9930) ∧
  (∀ i, i < 6 → 0 ≤ (f (9 + i)).toInt ∧ (f (9 + i)).toInt ≤ 6) ∧ (∀ i, i < 6 → 0 ≤ (f (15 + i)).toInt ∧ (f (15 + i)).toInt ≤ 9) ∧ (∀ i, i < 6 → 0 ≤ (f (21 + i)).toInt ∧ (f (21 + i)).toInt ≤ 60) ∧ (∀ i, i < 24 → 0 ≤ (f (27 + i)).toInt ∧ (f (27 + i)).toInt ≤ 9) ∧
  (∀ i, i < 6 → 0 ≤ (f (51 + i)).toInt ∧ (f (51 + i)).toInt ≤ (f (57 + i)).toInt ∧ (f (57 + i)).toInt ≤ 999) ∧ (∀ i, i < 8 → 0 ≤ (f (63 + i)).toInt ∧ (f (63 + i)).toInt ≤ 3) ∧ (∀ i : Nat, (i : Int) < (f 3).toInt → 1 ≤ (f (71 + i)).toInt ∧ (f (71 + i)).toInt ≤ 99) ∧
  (∀ i : Nat, (i : Int) < (f 4).toInt → 1 ≤ (f (79 + i)).toInt ∧ (f (79 + i)).toInt ≤ 999) ∧ (∀ i : Nat, (i : Int) < (f 5).toInt → 0 ≤ (f (85 + i)).toInt ∧ (f (85 + i)).toInt < (f 1).toInt) ∧ (∀ i : Nat, (i : Int) < (f 5).toInt → 0 ≤ (f (93 + i)).toInt ∧ (f (93 + i)).toInt ≤ 999) ∧
  (∀ i, i < 5 → 0 ≤ (f (201 + i)).toInt ∧ (f (201 + i)).toInt ≤ 99) ∧ (∀ i, i < 5 → 0 ≤ (f (206 + i)).toInt ∧ (f (206 + i)).toInt ≤ 99) ∧ (∀ i, i < 5 → 0 ≤ (f (211 + i)).toInt ∧ (f (211 + i)).toInt ≤ 140)

/-! ThreeMeasuresModel.greater -/
theorem dX12_greater_0 : decode cX12_greater 0 = .ok (.iload_n 0, 1) := by decide +kernel
theorem dX12_greater_1 : decode cX12_greater 1 = .ok (.iload_n 1, 1) := by decide +kernel
theorem dX12_greater_2 : decode cX12_greater 2 = .ok (.if_icmp .le 7, 3) := by decide +kernel
theorem dX12_greater_5 : decode cX12_greater 5 = .ok (.iload_n 0, 1) := by decide +kernel
theorem dX12_greater_6 : decode cX12_greater 6 = .ok (.goto 4, 3) := by decide +kernel
theorem dX12_greater_9 : decode cX12_greater 9 = .ok (.iload_n 1, 1) := by decide +kernel
theorem dX12_greater_10 : decode cX12_greater 10 = .ok (.ireturn, 1) := by decide +kernel
def f_X12_greater (a0 : Int32) (a1 : Int32) : Int32 := (if a0 ≤ a1 then a1 else a0)
set_option maxHeartbeats 600000 in
set_option maxRecDepth 100000 in
theorem k_X12_greater (l : Launch)  (a0 : Int32) (a1 : Int32)  : PI l yX12_greater (wsF yX12_greater cX12_greater 2 (some .int)) { frames := 0, cells := 0, slots := 0, locals := 0 } [.int (a0), .int (a1)] (fun _ => True) (f_X12_greater a0 a1) := by
  refine start_PI (by decide) (Nat.le_of_ble_eq_true rfl) ?_
  intro p e s m args below meth c C0 hG ls hl
  obtain ⟨hx, hb, hr, hml, hown, hts, hlocks⟩ := id C0
  have hl : lv_has ls 2 [(0, .int (a0)), (1, .int (a1))] := hl
  generalize hT : (f_X12_greater a0 a1) = tgt
  unfold f_X12_greater at hT
  refine lv_iload_n hx hb dX12_greater_0 rfl (lv_at hl 0 rfl) ?_
  refine lv_iload_n hx hb dX12_greater_1 rfl (lv_at hl 1 rfl) ?_
  have J2 : ∀ v : Int32, v = (if a0 ≤ a1 then a1 else a0) → W p l e { frames := 0, cells := 0, slots := 0, locals := 0 } s m args below meth c s.heap [] 0 0 (QPI below args s tgt) (F0 m 10 ls [.int (v)]) := by
    intro v ev
    subst ev
    exact ret_PI C0 hT dX12_greater_10
  refine lv_icmp_le (tgt := 9) hx hb dX12_greater_2 (by decide) (fun c_2 => ?_) (fun c_2 => ?_)
  · refine lv_iload_n hx hb dX12_greater_9 rfl (lv_at hl 1 rfl) ?_
    exact J2 _ (iv_pos c_2 rfl)
  · refine lv_iload_n hx hb dX12_greater_5 rfl (lv_at hl 0 rfl) ?_
    refine lv_goto (tgt := 10) hx hb dX12_greater_6 (by decide) ?_
    exact J2 _ (iv_neg c_2 rfl)
/-! ThreeMeasuresModel.lesser -/
theorem dX12_lesser_0 : decode cX12_lesser 0 = .ok (.iload_n 0, 1) := by decide +kernel
theorem dX12_lesser_1 : decode cX12_lesser 1 = .ok (.iload_n 1, 1) := by decide +kernel
theorem dX12_lesser_2 : decode cX12_lesser 2 = .ok (.if_icmp .ge 7, 3) := by decide +kernel
theorem dX12_lesser_5 : decode cX12_lesser 5 = .ok (.iload_n 0, 1) := by decide +kernel
theorem dX12_lesser_6 : decode cX12_lesser 6 = .ok (.goto 4, 3) := by decide +kernel
theorem dX12_lesser_9 : decode cX12_lesser 9 = .ok (.iload_n 1, 1) := by decide +kernel
theorem dX12_lesser_10 : decode cX12_lesser 10 = .ok (.ireturn, 1) := by decide +kernel
def f_X12_lesser (a0 : Int32) (a1 : Int32) : Int32 := (if a1 ≤ a0 then a1 else a0)
set_option maxHeartbeats 600000 in
set_option maxRecDepth 100000 in
theorem k_X12_lesser (l : Launch)  (a0 : Int32) (a1 : Int32)  : PI l yX12_lesser (wsF yX12_lesser cX12_lesser 2 (some .int)) { frames := 0, cells := 0, slots := 0, locals := 0 } [.int (a0), .int (a1)] (fun _ => True) (f_X12_lesser a0 a1) := by
  refine start_PI (by decide) (Nat.le_of_ble_eq_true rfl) ?_
  intro p e s m args below meth c C0 hG ls hl
  obtain ⟨hx, hb, hr, hml, hown, hts, hlocks⟩ := id C0
  have hl : lv_has ls 2 [(0, .int (a0)), (1, .int (a1))] := hl
  generalize hT : (f_X12_lesser a0 a1) = tgt
  unfold f_X12_lesser at hT
  refine lv_iload_n hx hb dX12_lesser_0 rfl (lv_at hl 0 rfl) ?_
  refine lv_iload_n hx hb dX12_lesser_1 rfl (lv_at hl 1 rfl) ?_
  have J2 : ∀ v : Int32, v = (if a1 ≤ a0 then a1 else a0) → W p l e { frames := 0, cells := 0, slots := 0, locals := 0 } s m args below meth c s.heap [] 0 0 (QPI below args s tgt) (F0 m 10 ls [.int (v)]) := by
    intro v ev
    subst ev
    exact ret_PI C0 hT dX12_lesser_10
  refine lv_icmp_ge (tgt := 9) hx hb dX12_lesser_2 (by decide) (fun c_2 => ?_) (fun c_2 => ?_)
  · refine lv_iload_n hx hb dX12_lesser_9 rfl (lv_at hl 1 rfl) ?_
    exact J2 _ (iv_pos c_2 rfl)
  · refine lv_iload_n hx hb dX12_lesser_5 rfl (lv_at hl 0 rfl) ?_
    refine lv_goto (tgt := 10) hx hb dX12_lesser_6 (by decide) ?_
    exact J2 _ (iv_neg c_2 rfl)
set_option maxRecDepth 20000 in
theorem w_968 : (Cond.fieldLink RX12 9 RX12 "s" "[I") ∈ TB := inTB (List.mem_of_getElem? (i := 968) (by decide +kernel)) (by decide +kernel)
set_option maxRecDepth 20000 in
theorem w_1060 : (Cond.methodLink RX12 47 yX12_in) ∈ TB := inTB (List.mem_of_getElem? (i := 1060) (by decide +kernel)) (by decide +kernel)
set_option maxRecDepth 20000 in
theorem w_1062 : (Cond.code yX12_in cX12_in 3 (some .boolean)) ∈ TB := inTB (List.mem_of_getElem? (i := 1062) (by decide +kernel)) (by decide +kernel)
set_option maxRecDepth 20000 in
theorem w_1061 : (Cond.static yX12_in) ∈ TB := inTB (List.mem_of_getElem? (i := 1061) (by decide +kernel)) (by decide +kernel)
set_option maxRecDepth 20000 in
theorem w_75 : (Cond.initialized RX12) ∈ TB := inTB (List.mem_of_getElem? (i := 75) (by decide +kernel)) (by decide +kernel)
theorem cf_X12_in : CG yX12_in cX12_in 3 (some .boolean) 3 := ⟨w_1061, w_75, w_1062, by decide +kernel, by decide +kernel, by decide +kernel⟩
/-! ThreeMeasuresModel.isStick -/
theorem dX12_isStick_0 : decode cX12_isStick 0 = .ok (.iload_n 1, 1) := by decide +kernel
theorem dX12_isStick_1 : decode cX12_isStick 1 = .ok (.iconst 0, 1) := by decide +kernel
theorem dX12_isStick_2 : decode cX12_isStick 2 = .ok (.aload_n 0, 1) := by decide +kernel
theorem dX12_isStick_3 : decode cX12_isStick 3 = .ok (.getfield 9, 3) := by decide +kernel
theorem dX12_isStick_6 : decode cX12_isStick 6 = .ok (.iconst 0, 1) := by decide +kernel
theorem dX12_isStick_7 : decode cX12_isStick 7 = .ok (.iaload, 1) := by decide +kernel
theorem dX12_isStick_8 : decode cX12_isStick 8 = .ok (.iconst 1, 1) := by decide +kernel
theorem dX12_isStick_9 : decode cX12_isStick 9 = .ok (.isub, 1) := by decide +kernel
theorem dX12_isStick_10 : decode cX12_isStick 10 = .ok (.invokestatic 47, 3) := by decide +kernel
theorem dX12_isStick_13 : decode cX12_isStick 13 = .ok (.ireturn, 1) := by decide +kernel
def f_X12_isStick (σ : St) (a1 : Int32) : Int32 := (f_X12_in a1 (0 : Int32) ((σ 1 0) - (1 : Int32)))
set_option maxHeartbeats 600000 in
set_option maxRecDepth 100000 in
theorem k_X12_isStick (l : Launch) (g : GG) (σ : St) (a1 : Int32)  : PI l yX12_isStick (wsF yX12_isStick cX12_isStick 2 (some .boolean)) { frames := 1, cells := 0, slots := 0, locals := 22 } [.ref (g.2.2 100), .int (a1)] (GB g (mW g) (fun _ => True) σ) (f_X12_isStick σ a1) := by
  refine start_PI (by decide) (Nat.le_of_ble_eq_true rfl) ?_
  intro p e s m args below meth c C0 hG ls hl
  obtain ⟨hK, hP, hDD, hBg⟩ := hG
  obtain ⟨hx, hb, hr, hml, hown, hts, hlocks⟩ := id C0
  have hl : lv_has ls 2 [(0, .ref (g.2.2 100)), (1, .int (a1))] := hl
  generalize hT : (f_X12_isStick σ a1) = tgt
  unfold f_X12_isStick at hT
  refine lv_iload_n hx hb dX12_isStick_0 rfl (lv_at hl 1 rfl) ?_
  refine lv_iconst (v := (0 : Int32)) hx hb dX12_isStick_1 (by decide) ?_
  refine lv_aload_n hx hb dX12_isStick_2 rfl (lv_at hl 0 rfl) ?_
  refine m_get (σ := σ) (v := .ref (g.2.2 1)) C0 hK hP 1 (by decide) rfl w_968 dX12_isStick_3 ?_
  refine lv_iconst (v := (0 : Int32)) hx hb dX12_isStick_6 (by decide) ?_
  refine m_ald (σ := σ) C0 hK hP 1 1 916 rfl (vin_l (by decide)) 0 (by decide) dX12_isStick_7 ?_
  refine lv_iconst (v := (1 : Int32)) hx hb dX12_isStick_8 (by decide) ?_
  refine lv_isub hx hb dX12_isStick_9 ?_
  refine s_ci (rest := []) (As := [.int (a1), .int ((0 : Int32)), .int (((σ 1 0) - (1 : Int32)))]) C0 cf_X12_in w_1060 (k_X12_in l a1 (0 : Int32) ((σ 1 0) - (1 : Int32)) ) ⟨by decide, by decide⟩ hl.1 rfl rfl (Nat.le_of_ble_eq_true rfl) dX12_isStick_10 ⟨Nat.zero_le _, Nat.zero_le _⟩ ?_
  exact ret_PZ C0 (nz_of (by exact zb_in _ _ _)) hT dX12_isStick_13
theorem isStick_ne {σ : St} {a : Int32} (h0 : 0 ≤ (σ 1 0).toInt) (h : ¬ f_X12_isStick σ a = 0) : 0 ≤ a.toInt ∧ a.toInt < (σ 1 0).toInt := by
  have h := in_ne (show ¬ f_X12_in a 0 (σ 1 0 - 1) = 0 from h)
  have := ti_rng (σ 1 0)
  have := ti_sub (a := σ 1 0) (b := 1) (by rw [show (1 : Int32).toInt = 1 from rfl]; omega) (by rw [show (1 : Int32).toInt = 1 from rfl]; omega)
  rw [this, show (1 : Int32).toInt = 1 from rfl, show (0 : Int32).toInt = 0 from rfl] at h
  omega
theorem isStick_eq {σ : St} {a : Int32} (h0 : 0 ≤ (σ 1 0).toInt) (h : f_X12_isStick σ a = 0) : ¬ (0 ≤ a.toInt ∧ a.toInt < (σ 1 0).toInt) := by
  have h := in_eq (show f_X12_in a 0 (σ 1 0 - 1) = 0 from h)
  have := ti_rng (σ 1 0)
  have := ti_sub (a := σ 1 0) (b := 1) (by rw [show (1 : Int32).toInt = 1 from rfl]; omega) (by rw [show (1 : Int32).toInt = 1 from rfl]; omega)
  rw [this, show (1 : Int32).toInt = 1 from rfl, show (0 : Int32).toInt = 0 from rfl] at h
  omega
/-! ThreeMeasuresModel.isWall -/
theorem dX12_isWall_0 : decode cX12_isWall 0 = .ok (.iload_n 1, 1) := by decide +kernel
theorem dX12_isWall_1 : decode cX12_isWall 1 = .ok (.iconst 0, 1) := by decide +kernel
theorem dX12_isWall_2 : decode cX12_isWall 2 = .ok (.aload_n 0, 1) := by decide +kernel
theorem dX12_isWall_3 : decode cX12_isWall 3 = .ok (.getfield 9, 3) := by decide +kernel
theorem dX12_isWall_6 : decode cX12_isWall 6 = .ok (.iconst 1, 1) := by decide +kernel
theorem dX12_isWall_7 : decode cX12_isWall 7 = .ok (.iaload, 1) := by decide +kernel
theorem dX12_isWall_8 : decode cX12_isWall 8 = .ok (.iconst 1, 1) := by decide +kernel
theorem dX12_isWall_9 : decode cX12_isWall 9 = .ok (.isub, 1) := by decide +kernel
theorem dX12_isWall_10 : decode cX12_isWall 10 = .ok (.invokestatic 47, 3) := by decide +kernel
theorem dX12_isWall_13 : decode cX12_isWall 13 = .ok (.ireturn, 1) := by decide +kernel
def f_X12_isWall (σ : St) (a1 : Int32) : Int32 := (f_X12_in a1 (0 : Int32) ((σ 1 1) - (1 : Int32)))
set_option maxHeartbeats 600000 in
set_option maxRecDepth 100000 in
theorem k_X12_isWall (l : Launch) (g : GG) (σ : St) (a1 : Int32)  : PI l yX12_isWall (wsF yX12_isWall cX12_isWall 2 (some .boolean)) { frames := 1, cells := 0, slots := 0, locals := 22 } [.ref (g.2.2 100), .int (a1)] (GB g (mW g) (fun _ => True) σ) (f_X12_isWall σ a1) := by
  refine start_PI (by decide) (Nat.le_of_ble_eq_true rfl) ?_
  intro p e s m args below meth c C0 hG ls hl
  obtain ⟨hK, hP, hDD, hBg⟩ := hG
  obtain ⟨hx, hb, hr, hml, hown, hts, hlocks⟩ := id C0
  have hl : lv_has ls 2 [(0, .ref (g.2.2 100)), (1, .int (a1))] := hl
  generalize hT : (f_X12_isWall σ a1) = tgt
  unfold f_X12_isWall at hT
  refine lv_iload_n hx hb dX12_isWall_0 rfl (lv_at hl 1 rfl) ?_
  refine lv_iconst (v := (0 : Int32)) hx hb dX12_isWall_1 (by decide) ?_
  refine lv_aload_n hx hb dX12_isWall_2 rfl (lv_at hl 0 rfl) ?_
  refine m_get (σ := σ) (v := .ref (g.2.2 1)) C0 hK hP 1 (by decide) rfl w_968 dX12_isWall_3 ?_
  refine lv_iconst (v := (1 : Int32)) hx hb dX12_isWall_6 (by decide) ?_
  refine m_ald (σ := σ) C0 hK hP 1 1 916 rfl (vin_l (by decide)) 1 (by decide) dX12_isWall_7 ?_
  refine lv_iconst (v := (1 : Int32)) hx hb dX12_isWall_8 (by decide) ?_
  refine lv_isub hx hb dX12_isWall_9 ?_
  refine s_ci (rest := []) (As := [.int (a1), .int ((0 : Int32)), .int (((σ 1 1) - (1 : Int32)))]) C0 cf_X12_in w_1060 (k_X12_in l a1 (0 : Int32) ((σ 1 1) - (1 : Int32)) ) ⟨by decide, by decide⟩ hl.1 rfl rfl (Nat.le_of_ble_eq_true rfl) dX12_isWall_10 ⟨Nat.zero_le _, Nat.zero_le _⟩ ?_
  exact ret_PZ C0 (nz_of (by exact zb_in _ _ _)) hT dX12_isWall_13
theorem isWall_ne {σ : St} {a : Int32} (h0 : 0 ≤ (σ 1 1).toInt) (h : ¬ f_X12_isWall σ a = 0) : 0 ≤ a.toInt ∧ a.toInt < (σ 1 1).toInt := by
  have h := in_ne (show ¬ f_X12_in a 0 (σ 1 1 - 1) = 0 from h)
  have := ti_rng (σ 1 1)
  have := ti_sub (a := σ 1 1) (b := 1) (by rw [show (1 : Int32).toInt = 1 from rfl]; omega) (by rw [show (1 : Int32).toInt = 1 from rfl]; omega)
  rw [this, show (1 : Int32).toInt = 1 from rfl, show (0 : Int32).toInt = 0 from rfl] at h
  omega
theorem isWall_eq {σ : St} {a : Int32} (h0 : 0 ≤ (σ 1 1).toInt) (h : f_X12_isWall σ a = 0) : ¬ (0 ≤ a.toInt ∧ a.toInt < (σ 1 1).toInt) := by
  have h := in_eq (show f_X12_in a 0 (σ 1 1 - 1) = 0 from h)
  have := ti_rng (σ 1 1)
  have := ti_sub (a := σ 1 1) (b := 1) (by rw [show (1 : Int32).toInt = 1 from rfl]; omega) (by rw [show (1 : Int32).toInt = 1 from rfl]; omega)
  rw [this, show (1 : Int32).toInt = 1 from rfl, show (0 : Int32).toInt = 0 from rfl] at h
  omega
/-! ThreeMeasuresModel.gapOf -/
theorem dX12_gapOf_0 : decode cX12_gapOf 0 = .ok (.aload_n 0, 1) := by decide +kernel
theorem dX12_gapOf_1 : decode cX12_gapOf 1 = .ok (.getfield 9, 3) := by decide +kernel
theorem dX12_gapOf_4 : decode cX12_gapOf 4 = .ok (.bipush 57, 2) := by decide +kernel
theorem dX12_gapOf_6 : decode cX12_gapOf 6 = .ok (.iload_n 1, 1) := by decide +kernel
theorem dX12_gapOf_7 : decode cX12_gapOf 7 = .ok (.iadd, 1) := by decide +kernel
theorem dX12_gapOf_8 : decode cX12_gapOf 8 = .ok (.iaload, 1) := by decide +kernel
theorem dX12_gapOf_9 : decode cX12_gapOf 9 = .ok (.aload_n 0, 1) := by decide +kernel
theorem dX12_gapOf_10 : decode cX12_gapOf 10 = .ok (.getfield 9, 3) := by decide +kernel
theorem dX12_gapOf_13 : decode cX12_gapOf 13 = .ok (.bipush 51, 2) := by decide +kernel
theorem dX12_gapOf_15 : decode cX12_gapOf 15 = .ok (.iload_n 1, 1) := by decide +kernel
theorem dX12_gapOf_16 : decode cX12_gapOf 16 = .ok (.iadd, 1) := by decide +kernel
theorem dX12_gapOf_17 : decode cX12_gapOf 17 = .ok (.iaload, 1) := by decide +kernel
theorem dX12_gapOf_18 : decode cX12_gapOf 18 = .ok (.isub, 1) := by decide +kernel
theorem dX12_gapOf_19 : decode cX12_gapOf 19 = .ok (.ireturn, 1) := by decide +kernel
def f_X12_gapOf (σ : St) (a1 : Int32) : Int32 := ((σ 1 (ix ((57 : Int32) + a1))) - (σ 1 (ix ((51 : Int32) + a1))))
set_option maxHeartbeats 600000 in
set_option maxRecDepth 100000 in
theorem k_X12_gapOf (l : Launch) (g : GG) (σ : St) (a1 : Int32) (h1 : 0 ≤ a1.toInt) (h2 : a1.toInt ≤ 6) : PI l yX12_gapOf (wsF yX12_gapOf cX12_gapOf 2 (some .int)) { frames := 0, cells := 0, slots := 0, locals := 0 } [.ref (g.2.2 100), .int (a1)] (GB g (mW g) (fun _ => True) σ) (f_X12_gapOf σ a1) := by
  refine start_PI (by decide) (Nat.le_of_ble_eq_true rfl) ?_
  intro p e s m args below meth c C0 hG ls hl
  obtain ⟨hK, hP, hDD, hBg⟩ := hG
  obtain ⟨hx, hb, hr, hml, hown, hts, hlocks⟩ := id C0
  have hl : lv_has ls 2 [(0, .ref (g.2.2 100)), (1, .int (a1))] := hl
  generalize hT : (f_X12_gapOf σ a1) = tgt
  unfold f_X12_gapOf at hT
  refine lv_aload_n hx hb dX12_gapOf_0 rfl (lv_at hl 0 rfl) ?_
  refine m_get (σ := σ) (v := .ref (g.2.2 1)) C0 hK hP 1 (by decide) rfl w_968 dX12_gapOf_1 ?_
  refine lv_bipush (v := (57 : Int32)) hx hb dX12_gapOf_4 (by decide) ?_
  refine lv_iload_n hx hb dX12_gapOf_6 rfl (lv_at hl 1 rfl) ?_
  refine lv_iadd hx hb dX12_gapOf_7 ?_
  have o_8 : vp_in ((57 : Int32) + a1) 916 := by
    have : ((57 : Int32)).toInt = 57 := by decide
    try have := ti_add (a := (57 : Int32)) (b := a1) (by omega) (by omega)
    exact vin (by omega) (by omega)
  refine m_ald (σ := σ) C0 hK hP 1 1 916 rfl o_8 (ix ((57 : Int32) + a1)) rfl dX12_gapOf_8 ?_
  refine lv_aload_n hx hb dX12_gapOf_9 rfl (lv_at hl 0 rfl) ?_
  refine m_get (σ := σ) (v := .ref (g.2.2 1)) C0 hK hP 1 (by decide) rfl w_968 dX12_gapOf_10 ?_
  refine lv_bipush (v := (51 : Int32)) hx hb dX12_gapOf_13 (by decide) ?_
  refine lv_iload_n hx hb dX12_gapOf_15 rfl (lv_at hl 1 rfl) ?_
  refine lv_iadd hx hb dX12_gapOf_16 ?_
  have o_17 : vp_in ((51 : Int32) + a1) 916 := by
    have : ((51 : Int32)).toInt = 51 := by decide
    try have := ti_add (a := (51 : Int32)) (b := a1) (by omega) (by omega)
    exact vin (by omega) (by omega)
  refine m_ald (σ := σ) C0 hK hP 1 1 916 rfl o_17 (ix ((51 : Int32) + a1)) rfl dX12_gapOf_17 ?_
  refine lv_isub hx hb dX12_gapOf_18 ?_
  exact ret_PI C0 hT dX12_gapOf_19
/-! ThreeMeasuresModel.feed -/
theorem dX12_feed_0 : decode cX12_feed 0 = .ok (.iload_n 1, 1) := by decide +kernel
theorem dX12_feed_1 : decode cX12_feed 1 = .ok (.iconst 0, 1) := by decide +kernel
theorem dX12_feed_2 : decode cX12_feed 2 = .ok (.bipush 127, 2) := by decide +kernel
theorem dX12_feed_4 : decode cX12_feed 4 = .ok (.invokestatic 47, 3) := by decide +kernel
theorem dX12_feed_7 : decode cX12_feed 7 = .ok (.ifCond .ne 6, 3) := by decide +kernel
theorem dX12_feed_10 : decode cX12_feed 10 = .ok (.bipush (-2), 2) := by decide +kernel
theorem dX12_feed_12 : decode cX12_feed 12 = .ok (.ireturn, 1) := by decide +kernel
theorem dX12_feed_13 : decode cX12_feed 13 = .ok (.aload_n 0, 1) := by decide +kernel
theorem dX12_feed_14 : decode cX12_feed 14 = .ok (.getfield 9, 3) := by decide +kernel
theorem dX12_feed_17 : decode cX12_feed 17 = .ok (.bipush 6, 2) := by decide +kernel
theorem dX12_feed_19 : decode cX12_feed 19 = .ok (.iaload, 1) := by decide +kernel
theorem dX12_feed_20 : decode cX12_feed 20 = .ok (.bipush 100, 2) := by decide +kernel
theorem dX12_feed_22 : decode cX12_feed 22 = .ok (.if_icmp .ne 6, 3) := by decide +kernel
theorem dX12_feed_25 : decode cX12_feed 25 = .ok (.bipush (-4), 2) := by decide +kernel
theorem dX12_feed_27 : decode cX12_feed 27 = .ok (.ireturn, 1) := by decide +kernel
theorem dX12_feed_28 : decode cX12_feed 28 = .ok (.aload_n 0, 1) := by decide +kernel
theorem dX12_feed_29 : decode cX12_feed 29 = .ok (.getfield 9, 3) := by decide +kernel
theorem dX12_feed_32 : decode cX12_feed 32 = .ok (.bipush 101, 2) := by decide +kernel
theorem dX12_feed_34 : decode cX12_feed 34 = .ok (.aload_n 0, 1) := by decide +kernel
theorem dX12_feed_35 : decode cX12_feed 35 = .ok (.getfield 9, 3) := by decide +kernel
theorem dX12_feed_38 : decode cX12_feed 38 = .ok (.bipush 6, 2) := by decide +kernel
theorem dX12_feed_40 : decode cX12_feed 40 = .ok (.iaload, 1) := by decide +kernel
theorem dX12_feed_41 : decode cX12_feed 41 = .ok (.iadd, 1) := by decide +kernel
theorem dX12_feed_42 : decode cX12_feed 42 = .ok (.iload_n 1, 1) := by decide +kernel
theorem dX12_feed_43 : decode cX12_feed 43 = .ok (.iastore, 1) := by decide +kernel
theorem dX12_feed_44 : decode cX12_feed 44 = .ok (.aload_n 0, 1) := by decide +kernel
theorem dX12_feed_45 : decode cX12_feed 45 = .ok (.getfield 9, 3) := by decide +kernel
theorem dX12_feed_48 : decode cX12_feed 48 = .ok (.bipush 6, 2) := by decide +kernel
theorem dX12_feed_50 : decode cX12_feed 50 = .ok (.dup2, 1) := by decide +kernel
theorem dX12_feed_51 : decode cX12_feed 51 = .ok (.iaload, 1) := by decide +kernel
theorem dX12_feed_52 : decode cX12_feed 52 = .ok (.iconst 1, 1) := by decide +kernel
theorem dX12_feed_53 : decode cX12_feed 53 = .ok (.iadd, 1) := by decide +kernel
theorem dX12_feed_54 : decode cX12_feed 54 = .ok (.iastore, 1) := by decide +kernel
theorem dX12_feed_55 : decode cX12_feed 55 = .ok (.aload_n 0, 1) := by decide +kernel
theorem dX12_feed_56 : decode cX12_feed 56 = .ok (.getfield 9, 3) := by decide +kernel
theorem dX12_feed_59 : decode cX12_feed 59 = .ok (.bipush 6, 2) := by decide +kernel
theorem dX12_feed_61 : decode cX12_feed 61 = .ok (.iaload, 1) := by decide +kernel
theorem dX12_feed_62 : decode cX12_feed 62 = .ok (.ireturn, 1) := by decide +kernel
def f_X12_feed (σ : St) (a1 : Int32) : Int32 × St := (if (f_X12_in a1 (0 : Int32) (127 : Int32)) = 0 then ((-2 : Int32), σ) else (if (σ 1 6) = (100 : Int32) then ((-4 : Int32), σ) else ((((up2 σ 1 (ix ((101 : Int32) + (σ 1 6))) a1) 1 6) + (1 : Int32)), (up2 (up2 σ 1 (ix ((101 : Int32) + (σ 1 6))) a1) 1 6 (((up2 σ 1 (ix ((101 : Int32) + (σ 1 6))) a1) 1 6) + (1 : Int32))))))
set_option maxHeartbeats 600000 in
set_option maxRecDepth 100000 in
theorem k_X12_feed (l : Launch) (g : GG) (σ : St) (a1 : Int32) (hI : IB (σ 1)) : MI l yX12_feed (wsF yX12_feed cX12_feed 2 (some .int)) { frames := 1, cells := 0, slots := 0, locals := 22 } [.ref (g.2.2 100), .int (a1)] g (mW g) (fun _ => True) σ (f_X12_feed σ a1) := by
  refine start_MI (by decide) (Nat.le_of_ble_eq_true rfl) ?_
  intro p e s m args below meth c C0 hK hBg hC ls hl
  generalize hAe : aA ((mW g) σ) = A at hC ⊢
  obtain ⟨hx, hb, hr, hml, hown, hts, hlocks⟩ := id C0
  have hl : lv_has ls 2 [(0, .ref (g.2.2 100)), (1, .int (a1))] := hl
  generalize hT : (f_X12_feed σ a1) = tgt
  suffices key : ∀ (H : Heap) (locs : List Loc), WC g (mW g) A s.heap σ H locs → W p l e { frames := 1, cells := 0, slots := 0, locals := 22 } s m args below meth c H locs 0 0 (QMI below args s g (mW g) A tgt) (F0 m 0 ls []) from key _ _ hC
  intro H locs hC
  unfold f_X12_feed at hT
  obtain ⟨⟨i0, i0'⟩, ⟨i1, i1'⟩, ⟨i2, i2'⟩, ⟨i3, i3'⟩, ⟨i4, i4'⟩, ⟨i5, i5'⟩, ⟨i6, i6'⟩, ⟨i7, i7'⟩, ⟨i8, i8'⟩, iK, iV, iL, iR, iW, iY, iG, iM, iB, iQ, iP, iT, iU⟩ := id hI
  refine lv_iload_n hx hb dX12_feed_0 rfl (lv_at hl 1 rfl) ?_
  refine lv_iconst (v := (0 : Int32)) hx hb dX12_feed_1 (by decide) ?_
  refine lv_bipush (v := (127 : Int32)) hx hb dX12_feed_2 (by decide) ?_
  refine s_ci (rest := []) (As := [.int (a1), .int ((0 : Int32)), .int ((127 : Int32))]) C0 cf_X12_in w_1060 (k_X12_in l a1 (0 : Int32) (127 : Int32) ) ⟨by decide, by decide⟩ hl.1 rfl rfl (Nat.le_of_ble_eq_true rfl) dX12_feed_4 ⟨Nat.zero_le _, Nat.zero_le _⟩ ?_
  refine lv_if_ne (tgt := 13) hx hb dX12_feed_7 (by decide) (fun c_7 => ?_) (fun c_7 => ?_)
  · have hT := hT_neg c_7 hT
    refine lv_aload_n hx hb dX12_feed_13 rfl (lv_at hl 0 rfl) ?_
    refine m_get (σ := σ) (v := .ref (g.2.2 1)) C0 hK hC.1 1 (by decide) rfl w_968 dX12_feed_14 ?_
    refine lv_bipush (v := (6 : Int32)) hx hb dX12_feed_17 (by decide) ?_
    refine m_ald (σ := σ) C0 hK hC.1 1 1 916 rfl (vin_l (by decide)) 6 (by decide) dX12_feed_19 ?_
    refine lv_bipush (v := (100 : Int32)) hx hb dX12_feed_20 (by decide) ?_
    refine lv_icmp_ne (tgt := 28) hx hb dX12_feed_22 (by decide) (fun c_22 => ?_) (fun c_22 => ?_)
    · have hT := hT_neg c_22 hT
      refine lv_aload_n hx hb dX12_feed_28 rfl (lv_at hl 0 rfl) ?_
      refine m_get (σ := σ) (v := .ref (g.2.2 1)) C0 hK hC.1 1 (by decide) rfl w_968 dX12_feed_29 ?_
      refine lv_bipush (v := (101 : Int32)) hx hb dX12_feed_32 (by decide) ?_
      refine lv_aload_n hx hb dX12_feed_34 rfl (lv_at hl 0 rfl) ?_
      refine m_get (σ := σ) (v := .ref (g.2.2 1)) C0 hK hC.1 1 (by decide) rfl w_968 dX12_feed_35 ?_
      refine lv_bipush (v := (6 : Int32)) hx hb dX12_feed_38 (by decide) ?_
      refine m_ald (σ := σ) C0 hK hC.1 1 1 916 rfl (vin_l (by decide)) 6 (by decide) dX12_feed_40 ?_
      refine lv_iadd hx hb dX12_feed_41 ?_
      refine lv_iload_n hx hb dX12_feed_42 rfl (lv_at hl 1 rfl) ?_
      have o_43 : vp_in ((101 : Int32) + (σ 1 6)) 916 := by
        have : ((0 : Int32)).toInt = 0 := by decide
        have : ((127 : Int32)).toInt = 127 := by decide
        have : ((100 : Int32)).toInt = 100 := by decide
        have : ((101 : Int32)).toInt = 101 := by decide
        have := in_ne c_7
        have := mt ti_eq.mpr c_22
        try have := ti_add (a := (101 : Int32)) (b := (σ 1 6)) (by omega) (by omega)
        exact vin (by omega) (by omega)
      refine m_ast (σ := σ) C0 hK hC 1 1 916 rfl (ms_1 g _) o_43 (ix ((101 : Int32) + (σ 1 6))) rfl dX12_feed_43 (fun H locs hC => ?_)
      refine lv_aload_n hx hb dX12_feed_44 rfl (lv_at hl 0 rfl) ?_
      refine m_get (σ := (up2 σ 1 (ix ((101 : Int32) + (σ 1 6))) a1)) (v := .ref (g.2.2 1)) C0 hK hC.1 1 (by decide) rfl w_968 dX12_feed_45 ?_
      refine lv_bipush (v := (6 : Int32)) hx hb dX12_feed_48 (by decide) ?_
      refine lv_dup2_11 hx hb dX12_feed_50 rfl rfl ?_
      refine m_ald (σ := (up2 σ 1 (ix ((101 : Int32) + (σ 1 6))) a1)) C0 hK hC.1 1 1 916 rfl (vin_l (by decide)) 6 (by decide) dX12_feed_51 ?_
      refine lv_iconst (v := (1 : Int32)) hx hb dX12_feed_52 (by decide) ?_
      refine lv_iadd hx hb dX12_feed_53 ?_
      refine m_ast (σ := (up2 σ 1 (ix ((101 : Int32) + (σ 1 6))) a1)) C0 hK hC 1 1 916 rfl (ms_1 g _) (vin_l (by decide)) 6 (by decide) dX12_feed_54 (fun H locs hC => ?_)
      refine lv_aload_n hx hb dX12_feed_55 rfl (lv_at hl 0 rfl) ?_
      refine m_get (σ := (up2 (up2 σ 1 (ix ((101 : Int32) + (σ 1 6))) a1) 1 6 (((up2 σ 1 (ix ((101 : Int32) + (σ 1 6))) a1) 1 6) + (1 : Int32)))) (v := .ref (g.2.2 1)) C0 hK hC.1 1 (by decide) rfl w_968 dX12_feed_56 ?_
      refine lv_bipush (v := (6 : Int32)) hx hb dX12_feed_59 (by decide) ?_
      refine m_ald (σ := (up2 (up2 σ 1 (ix ((101 : Int32) + (σ 1 6))) a1) 1 6 (((up2 σ 1 (ix ((101 : Int32) + (σ 1 6))) a1) 1 6) + (1 : Int32)))) C0 hK hC.1 1 1 916 rfl (vin_l (by decide)) 6 (by decide) dX12_feed_61 ?_
      exact ret_MI C0 hC hT dX12_feed_62
    · have hT := hT_pos c_22 hT
      refine lv_bipush (v := (-4 : Int32)) hx hb dX12_feed_25 (by decide) ?_
      exact ret_MI C0 hC hT dX12_feed_27
  · have hT := hT_pos c_7 hT
    refine lv_bipush (v := (-2 : Int32)) hx hb dX12_feed_10 (by decide) ?_
    exact ret_MI C0 hC hT dX12_feed_12
/-! ThreeMeasuresModel.tellsOf -/
theorem dX12_tellsOf_0 : decode cX12_tellsOf 0 = .ok (.aload_n 0, 1) := by decide +kernel
theorem dX12_tellsOf_1 : decode cX12_tellsOf 1 = .ok (.getfield 9, 3) := by decide +kernel
theorem dX12_tellsOf_4 : decode cX12_tellsOf 4 = .ok (.bipush 7, 2) := by decide +kernel
theorem dX12_tellsOf_6 : decode cX12_tellsOf 6 = .ok (.iaload, 1) := by decide +kernel
theorem dX12_tellsOf_7 : decode cX12_tellsOf 7 = .ok (.iconst (-1), 1) := by decide +kernel
theorem dX12_tellsOf_8 : decode cX12_tellsOf 8 = .ok (.if_icmp .ne 7, 3) := by decide +kernel
theorem dX12_tellsOf_11 : decode cX12_tellsOf 11 = .ok (.iload_n 2, 1) := by decide +kernel
theorem dX12_tellsOf_12 : decode cX12_tellsOf 12 = .ok (.goto 17, 3) := by decide +kernel
theorem dX12_tellsOf_15 : decode cX12_tellsOf 15 = .ok (.aload_n 0, 1) := by decide +kernel
theorem dX12_tellsOf_16 : decode cX12_tellsOf 16 = .ok (.getfield 9, 3) := by decide +kernel
theorem dX12_tellsOf_19 : decode cX12_tellsOf 19 = .ok (.iload_n 1, 1) := by decide +kernel
theorem dX12_tellsOf_20 : decode cX12_tellsOf 20 = .ok (.aload_n 0, 1) := by decide +kernel
theorem dX12_tellsOf_21 : decode cX12_tellsOf 21 = .ok (.getfield 9, 3) := by decide +kernel
theorem dX12_tellsOf_24 : decode cX12_tellsOf 24 = .ok (.bipush 7, 2) := by decide +kernel
theorem dX12_tellsOf_26 : decode cX12_tellsOf 26 = .ok (.iaload, 1) := by decide +kernel
theorem dX12_tellsOf_27 : decode cX12_tellsOf 27 = .ok (.iadd, 1) := by decide +kernel
theorem dX12_tellsOf_28 : decode cX12_tellsOf 28 = .ok (.iaload, 1) := by decide +kernel
theorem dX12_tellsOf_29 : decode cX12_tellsOf 29 = .ok (.ireturn, 1) := by decide +kernel
def f_X12_tellsOf (σ : St) (a1 : Int32) (a2 : Int32) : Int32 := (if (σ 1 7) = (-1 : Int32) then a2 else (σ 1 (ix (a1 + (σ 1 7)))))
set_option maxHeartbeats 600000 in
set_option maxRecDepth 100000 in
theorem k_X12_tellsOf (l : Launch) (g : GG) (σ : St) (a1 : Int32) (a2 : Int32) (hI : IB (σ 1)) (h1 : 0 ≤ a1.toInt) (h2 : a1.toInt ≤ 900) : PI l yX12_tellsOf (wsF yX12_tellsOf cX12_tellsOf 3 (some .int)) { frames := 0, cells := 0, slots := 0, locals := 0 } [.ref (g.2.2 100), .int (a1), .int (a2)] (GB g (mW g) (fun _ => True) σ) (f_X12_tellsOf σ a1 a2) := by
  refine start_PI (by decide) (Nat.le_of_ble_eq_true rfl) ?_
  intro p e s m args below meth c C0 hG ls hl
  obtain ⟨hK, hP, hDD, hBg⟩ := hG
  obtain ⟨hx, hb, hr, hml, hown, hts, hlocks⟩ := id C0
  have hl : lv_has ls 3 [(0, .ref (g.2.2 100)), (1, .int (a1)), (2, .int (a2))] := hl
  generalize hT : (f_X12_tellsOf σ a1 a2) = tgt
  unfold f_X12_tellsOf at hT
  obtain ⟨⟨i0, i0'⟩, ⟨i1, i1'⟩, ⟨i2, i2'⟩, ⟨i3, i3'⟩, ⟨i4, i4'⟩, ⟨i5, i5'⟩, ⟨i6, i6'⟩, ⟨i7, i7'⟩, ⟨i8, i8'⟩, iK, iV, iL, iR, iW, iY, iG, iM, iB, iQ, iP, iT, iU⟩ := id hI
  refine lv_aload_n hx hb dX12_tellsOf_0 rfl (lv_at hl 0 rfl) ?_
  refine m_get (σ := σ) (v := .ref (g.2.2 1)) C0 hK hP 1 (by decide) rfl w_968 dX12_tellsOf_1 ?_
  refine lv_bipush (v := (7 : Int32)) hx hb dX12_tellsOf_4 (by decide) ?_
  refine m_ald (σ := σ) C0 hK hP 1 1 916 rfl (vin_l (by decide)) 7 (by decide) dX12_tellsOf_6 ?_
  refine lv_iconst (v := (-1 : Int32)) hx hb dX12_tellsOf_7 (by decide) ?_
  have J8 : ∀ v : Int32, v = (if (σ 1 7) = (-1 : Int32) then a2 else (σ 1 (ix (a1 + (σ 1 7))))) → W p l e { frames := 0, cells := 0, slots := 0, locals := 0 } s m args below meth c s.heap [] 0 0 (QPI below args s tgt) (F0 m 29 ls [.int (v)]) := by
    intro v ev
    subst ev
    exact ret_PI C0 hT dX12_tellsOf_29
  refine lv_icmp_ne (tgt := 15) hx hb dX12_tellsOf_8 (by decide) (fun c_8 => ?_) (fun c_8 => ?_)
  · refine lv_aload_n hx hb dX12_tellsOf_15 rfl (lv_at hl 0 rfl) ?_
    refine m_get (σ := σ) (v := .ref (g.2.2 1)) C0 hK hP 1 (by decide) rfl w_968 dX12_tellsOf_16 ?_
    refine lv_iload_n hx hb dX12_tellsOf_19 rfl (lv_at hl 1 rfl) ?_
    refine lv_aload_n hx hb dX12_tellsOf_20 rfl (lv_at hl 0 rfl) ?_
    refine m_get (σ := σ) (v := .ref (g.2.2 1)) C0 hK hP 1 (by decide) rfl w_968 dX12_tellsOf_21 ?_
    refine lv_bipush (v := (7 : Int32)) hx hb dX12_tellsOf_24 (by decide) ?_
    refine m_ald (σ := σ) C0 hK hP 1 1 916 rfl (vin_l (by decide)) 7 (by decide) dX12_tellsOf_26 ?_
    refine lv_iadd hx hb dX12_tellsOf_27 ?_
    have o_28 : vp_in (a1 + (σ 1 7)) 916 := by
      have : ((-1 : Int32)).toInt = -1 := by decide
      have := mt ti_eq.mpr c_8
      try have := ti_add (a := a1) (b := (σ 1 7)) (by omega) (by omega)
      exact vin (by omega) (by omega)
    refine m_ald (σ := σ) C0 hK hP 1 1 916 rfl o_28 (ix (a1 + (σ 1 7))) rfl dX12_tellsOf_28 ?_
    exact J8 _ (iv_neg c_8 rfl)
  · refine lv_iload_n hx hb dX12_tellsOf_11 rfl (lv_at hl 2 rfl) ?_
    refine lv_goto (tgt := 29) hx hb dX12_tellsOf_12 (by decide) ?_
    exact J8 _ (iv_pos c_8 rfl)
set_option maxRecDepth 20000 in
theorem w_1131 : (Cond.methodLink RX12 161 yX12_isStick) ∈ TB := inTB (List.mem_of_getElem? (i := 1131) (by decide +kernel)) (by decide +kernel)
set_option maxRecDepth 20000 in
theorem w_1134 : (Cond.code yX12_isStick cX12_isStick 2 (some .boolean)) ∈ TB := inTB (List.mem_of_getElem? (i := 1134) (by decide +kernel)) (by decide +kernel)
set_option maxRecDepth 20000 in
theorem w_1133 : (Cond.instanceMethod yX12_isStick) ∈ TB := inTB (List.mem_of_getElem? (i := 1133) (by decide +kernel)) (by decide +kernel)
set_option maxRecDepth 20000 in
theorem w_49 : (Cond.selects RX12 yX12_isStick yX12_isStick) ∈ TB := inTB (List.mem_of_getElem? (i := 49) (by decide +kernel)) (by decide +kernel)
theorem cf_X12_isStick : CF yX12_isStick cX12_isStick 2 (some .boolean) 1 := ⟨w_1133, w_49, w_75, w_1134, by decide +kernel, by decide +kernel, by decide +kernel⟩
/-! ThreeMeasuresModel.of -/
theorem dX12_of_0 : decode cX12_of 0 = .ok (.aload_n 0, 1) := by decide +kernel
theorem dX12_of_1 : decode cX12_of 1 = .ok (.iload_n 1, 1) := by decide +kernel
theorem dX12_of_2 : decode cX12_of 2 = .ok (.invokevirtual 161, 3) := by decide +kernel
theorem dX12_of_5 : decode cX12_of 5 = .ok (.ifCond .eq 29, 3) := by decide +kernel
theorem dX12_of_8 : decode cX12_of 8 = .ok (.iload_n 2, 1) := by decide +kernel
theorem dX12_of_9 : decode cX12_of 9 = .ok (.iconst 0, 1) := by decide +kernel
theorem dX12_of_10 : decode cX12_of 10 = .ok (.iconst 2, 1) := by decide +kernel
theorem dX12_of_11 : decode cX12_of 11 = .ok (.invokestatic 47, 3) := by decide +kernel
theorem dX12_of_14 : decode cX12_of 14 = .ok (.ifCond .eq 20, 3) := by decide +kernel
theorem dX12_of_17 : decode cX12_of 17 = .ok (.aload_n 0, 1) := by decide +kernel
theorem dX12_of_18 : decode cX12_of 18 = .ok (.getfield 9, 3) := by decide +kernel
theorem dX12_of_21 : decode cX12_of 21 = .ok (.bipush 9, 2) := by decide +kernel
theorem dX12_of_23 : decode cX12_of 23 = .ok (.bipush 6, 2) := by decide +kernel
theorem dX12_of_25 : decode cX12_of 25 = .ok (.iload_n 2, 1) := by decide +kernel
theorem dX12_of_26 : decode cX12_of 26 = .ok (.imul, 1) := by decide +kernel
theorem dX12_of_27 : decode cX12_of 27 = .ok (.iadd, 1) := by decide +kernel
theorem dX12_of_28 : decode cX12_of 28 = .ok (.iload_n 1, 1) := by decide +kernel
theorem dX12_of_29 : decode cX12_of 29 = .ok (.iadd, 1) := by decide +kernel
theorem dX12_of_30 : decode cX12_of 30 = .ok (.iaload, 1) := by decide +kernel
theorem dX12_of_31 : decode cX12_of 31 = .ok (.goto 4, 3) := by decide +kernel
theorem dX12_of_34 : decode cX12_of 34 = .ok (.iconst (-1), 1) := by decide +kernel
theorem dX12_of_35 : decode cX12_of 35 = .ok (.ireturn, 1) := by decide +kernel
def f_X12_of (σ : St) (a1 : Int32) (a2 : Int32) : Int32 := (if (f_X12_isStick σ a1) = 0 then (-1 : Int32) else (if (f_X12_in a2 (0 : Int32) (2 : Int32)) = 0 then (-1 : Int32) else (σ 1 (ix (((9 : Int32) + ((6 : Int32) * a2)) + a1)))))
set_option maxHeartbeats 600000 in
set_option maxRecDepth 100000 in
theorem k_X12_of (l : Launch) (g : GG) (σ : St) (a1 : Int32) (a2 : Int32) (hI : IB (σ 1)) : PI l yX12_of (wsF yX12_of cX12_of 3 (some .int)) { frames := 2, cells := 0, slots := 0, locals := 43 } [.ref (g.2.2 100), .int (a1), .int (a2)] (GB g (mW g) (fun _ => True) σ) (f_X12_of σ a1 a2) := by
  refine start_PI (by decide) (Nat.le_of_ble_eq_true rfl) ?_
  intro p e s m args below meth c C0 hG ls hl
  obtain ⟨hK, hP, hDD, hBg⟩ := hG
  obtain ⟨hx, hb, hr, hml, hown, hts, hlocks⟩ := id C0
  have hl : lv_has ls 3 [(0, .ref (g.2.2 100)), (1, .int (a1)), (2, .int (a2))] := hl
  generalize hT : (f_X12_of σ a1 a2) = tgt
  unfold f_X12_of at hT
  obtain ⟨⟨i0, i0'⟩, ⟨i1, i1'⟩, ⟨i2, i2'⟩, ⟨i3, i3'⟩, ⟨i4, i4'⟩, ⟨i5, i5'⟩, ⟨i6, i6'⟩, ⟨i7, i7'⟩, ⟨i8, i8'⟩, iK, iV, iL, iR, iW, iY, iG, iM, iB, iQ, iP, iT, iU⟩ := id hI
  refine lv_aload_n hx hb dX12_of_0 rfl (lv_at hl 0 rfl) ?_
  refine lv_iload_n hx hb dX12_of_1 rfl (lv_at hl 1 rfl) ?_
  refine m_ci (rest := []) (As := [.int (a1)]) (σ := σ) C0 hK hP hDD SV.tt (fun _ _ _ => trivial) cf_X12_isStick w_1131 rfl (k_X12_isStick l g σ a1 ) ⟨by decide, by decide⟩ hl.1 rfl rfl (Nat.le_of_ble_eq_true rfl) dX12_of_2 ⟨Nat.zero_le _, Nat.zero_le _⟩ ?_
  have J5 : ∀ v : Int32, v = (if (f_X12_isStick σ a1) = 0 then (-1 : Int32) else (if (f_X12_in a2 (0 : Int32) (2 : Int32)) = 0 then (-1 : Int32) else (σ 1 (ix (((9 : Int32) + ((6 : Int32) * a2)) + a1))))) → W p l e { frames := 2, cells := 0, slots := 0, locals := 43 } s m args below meth c s.heap [] 0 0 (QPI below args s tgt) (F0 m 35 ls [.int (v)]) := by
    intro v ev
    subst ev
    exact ret_PI C0 hT dX12_of_35
  refine lv_if_eq (tgt := 34) hx hb dX12_of_5 (by decide) (fun c_5 => ?_) (fun c_5 => ?_)
  · refine lv_iconst (v := (-1 : Int32)) hx hb dX12_of_34 (by decide) ?_
    exact J5 _ (iv_pos c_5 rfl)
  · refine lv_iload_n hx hb dX12_of_8 rfl (lv_at hl 2 rfl) ?_
    refine lv_iconst (v := (0 : Int32)) hx hb dX12_of_9 (by decide) ?_
    refine lv_iconst (v := (2 : Int32)) hx hb dX12_of_10 (by decide) ?_
    refine s_ci (rest := []) (As := [.int (a2), .int ((0 : Int32)), .int ((2 : Int32))]) C0 cf_X12_in w_1060 (k_X12_in l a2 (0 : Int32) (2 : Int32) ) ⟨by decide, by decide⟩ hl.1 rfl rfl (Nat.le_of_ble_eq_true rfl) dX12_of_11 ⟨Nat.zero_le _, Nat.zero_le _⟩ ?_
    refine lv_if_eq (tgt := 34) hx hb dX12_of_14 (by decide) (fun c_14 => ?_) (fun c_14 => ?_)
    · refine lv_iconst (v := (-1 : Int32)) hx hb dX12_of_34 (by decide) ?_
      exact J5 _ (iv_neg c_5 (iv_pos c_14 rfl))
    · refine lv_aload_n hx hb dX12_of_17 rfl (lv_at hl 0 rfl) ?_
      refine m_get (σ := σ) (v := .ref (g.2.2 1)) C0 hK hP 1 (by decide) rfl w_968 dX12_of_18 ?_
      refine lv_bipush (v := (9 : Int32)) hx hb dX12_of_21 (by decide) ?_
      refine lv_bipush (v := (6 : Int32)) hx hb dX12_of_23 (by decide) ?_
      refine lv_iload_n hx hb dX12_of_25 rfl (lv_at hl 2 rfl) ?_
      refine lv_imul hx hb dX12_of_26 ?_
      refine lv_iadd hx hb dX12_of_27 ?_
      refine lv_iload_n hx hb dX12_of_28 rfl (lv_at hl 1 rfl) ?_
      refine lv_iadd hx hb dX12_of_29 ?_
      have o_30 : vp_in (((9 : Int32) + ((6 : Int32) * a2)) + a1) 916 := by
        have : ((0 : Int32)).toInt = 0 := by decide
        have : ((2 : Int32)).toInt = 2 := by decide
        have : ((9 : Int32)).toInt = 9 := by decide
        have : ((6 : Int32)).toInt = 6 := by decide
        have := isStick_ne hI.1.1 c_5
        have := in_ne c_14
        try have := ti_mulR (a := (6 : Int32)) (b := a2) (n := 6) (by decide) (by omega) (by omega)
        try have := ti_add (a := (9 : Int32)) (b := ((6 : Int32) * a2)) (by omega) (by omega)
        try have := ti_add (a := ((9 : Int32) + ((6 : Int32) * a2))) (b := a1) (by omega) (by omega)
        exact vin (by omega) (by omega)
      refine m_ald (σ := σ) C0 hK hP 1 1 916 rfl o_30 (ix (((9 : Int32) + ((6 : Int32) * a2)) + a1)) rfl dX12_of_30 ?_
      refine lv_goto (tgt := 35) hx hb dX12_of_31 (by decide) ?_
      exact J5 _ (iv_neg c_5 (iv_neg c_14 rfl))
/-! ThreeMeasuresModel.row -/
theorem dX12_row_0 : decode cX12_row 0 = .ok (.aload_n 0, 1) := by decide +kernel
theorem dX12_row_1 : decode cX12_row 1 = .ok (.iload_n 1, 1) := by decide +kernel
theorem dX12_row_2 : decode cX12_row 2 = .ok (.invokevirtual 161, 3) := by decide +kernel
theorem dX12_row_5 : decode cX12_row 5 = .ok (.ifCond .eq 12, 3) := by decide +kernel
theorem dX12_row_8 : decode cX12_row 8 = .ok (.iload_n 2, 1) := by decide +kernel
theorem dX12_row_9 : decode cX12_row 9 = .ok (.iconst 0, 1) := by decide +kernel
theorem dX12_row_10 : decode cX12_row 10 = .ok (.iconst 3, 1) := by decide +kernel
theorem dX12_row_11 : decode cX12_row 11 = .ok (.invokestatic 47, 3) := by decide +kernel
theorem dX12_row_14 : decode cX12_row 14 = .ok (.ifCond .ne 5, 3) := by decide +kernel
theorem dX12_row_17 : decode cX12_row 17 = .ok (.iconst (-1), 1) := by decide +kernel
theorem dX12_row_18 : decode cX12_row 18 = .ok (.ireturn, 1) := by decide +kernel
theorem dX12_row_19 : decode cX12_row 19 = .ok (.iload_n 3, 1) := by decide +kernel
theorem dX12_row_20 : decode cX12_row 20 = .ok (.iconst 0, 1) := by decide +kernel
theorem dX12_row_21 : decode cX12_row 21 = .ok (.bipush 9, 2) := by decide +kernel
theorem dX12_row_23 : decode cX12_row 23 = .ok (.invokestatic 47, 3) := by decide +kernel
theorem dX12_row_26 : decode cX12_row 26 = .ok (.ifCond .ne 6, 3) := by decide +kernel
theorem dX12_row_29 : decode cX12_row 29 = .ok (.bipush (-2), 2) := by decide +kernel
theorem dX12_row_31 : decode cX12_row 31 = .ok (.ireturn, 1) := by decide +kernel
theorem dX12_row_32 : decode cX12_row 32 = .ok (.aload_n 0, 1) := by decide +kernel
theorem dX12_row_33 : decode cX12_row 33 = .ok (.getfield 9, 3) := by decide +kernel
theorem dX12_row_36 : decode cX12_row 36 = .ok (.bipush 9, 2) := by decide +kernel
theorem dX12_row_38 : decode cX12_row 38 = .ok (.iload_n 1, 1) := by decide +kernel
theorem dX12_row_39 : decode cX12_row 39 = .ok (.iadd, 1) := by decide +kernel
theorem dX12_row_40 : decode cX12_row 40 = .ok (.iaload, 1) := by decide +kernel
theorem dX12_row_41 : decode cX12_row 41 = .ok (.bipush 6, 2) := by decide +kernel
theorem dX12_row_43 : decode cX12_row 43 = .ok (.if_icmp .eq 6, 3) := by decide +kernel
theorem dX12_row_46 : decode cX12_row 46 = .ok (.bipush (-3), 2) := by decide +kernel
theorem dX12_row_48 : decode cX12_row 48 = .ok (.ireturn, 1) := by decide +kernel
theorem dX12_row_49 : decode cX12_row 49 = .ok (.aload_n 0, 1) := by decide +kernel
theorem dX12_row_50 : decode cX12_row 50 = .ok (.getfield 9, 3) := by decide +kernel
theorem dX12_row_53 : decode cX12_row 53 = .ok (.bipush 27, 2) := by decide +kernel
theorem dX12_row_55 : decode cX12_row 55 = .ok (.iconst 4, 1) := by decide +kernel
theorem dX12_row_56 : decode cX12_row 56 = .ok (.iload_n 1, 1) := by decide +kernel
theorem dX12_row_57 : decode cX12_row 57 = .ok (.imul, 1) := by decide +kernel
theorem dX12_row_58 : decode cX12_row 58 = .ok (.iadd, 1) := by decide +kernel
theorem dX12_row_59 : decode cX12_row 59 = .ok (.iload_n 2, 1) := by decide +kernel
theorem dX12_row_60 : decode cX12_row 60 = .ok (.iadd, 1) := by decide +kernel
theorem dX12_row_61 : decode cX12_row 61 = .ok (.iaload, 1) := by decide +kernel
theorem dX12_row_62 : decode cX12_row 62 = .ok (.istore 4, 2) := by decide +kernel
theorem dX12_row_64 : decode cX12_row 64 = .ok (.aload_n 0, 1) := by decide +kernel
theorem dX12_row_65 : decode cX12_row 65 = .ok (.getfield 9, 3) := by decide +kernel
theorem dX12_row_68 : decode cX12_row 68 = .ok (.bipush 27, 2) := by decide +kernel
theorem dX12_row_70 : decode cX12_row 70 = .ok (.iconst 4, 1) := by decide +kernel
theorem dX12_row_71 : decode cX12_row 71 = .ok (.iload_n 1, 1) := by decide +kernel
theorem dX12_row_72 : decode cX12_row 72 = .ok (.imul, 1) := by decide +kernel
theorem dX12_row_73 : decode cX12_row 73 = .ok (.iadd, 1) := by decide +kernel
theorem dX12_row_74 : decode cX12_row 74 = .ok (.iload_n 2, 1) := by decide +kernel
theorem dX12_row_75 : decode cX12_row 75 = .ok (.iadd, 1) := by decide +kernel
theorem dX12_row_76 : decode cX12_row 76 = .ok (.iload_n 3, 1) := by decide +kernel
theorem dX12_row_77 : decode cX12_row 77 = .ok (.iastore, 1) := by decide +kernel
theorem dX12_row_78 : decode cX12_row 78 = .ok (.iload 4, 2) := by decide +kernel
theorem dX12_row_80 : decode cX12_row 80 = .ok (.ireturn, 1) := by decide +kernel
def f_X12_row (σ : St) (a1 : Int32) (a2 : Int32) (a3 : Int32) : Int32 × St := (if (f_X12_isStick σ a1) = 0 then ((-1 : Int32), σ) else (if (f_X12_in a2 (0 : Int32) (3 : Int32)) = 0 then ((-1 : Int32), σ) else (if (f_X12_in a3 (0 : Int32) (9 : Int32)) = 0 then ((-2 : Int32), σ) else (if (σ 1 (ix ((9 : Int32) + a1))) = (6 : Int32) then ((σ 1 (ix (((27 : Int32) + ((4 : Int32) * a1)) + a2))), (up2 σ 1 (ix (((27 : Int32) + ((4 : Int32) * a1)) + a2)) a3)) else ((-3 : Int32), σ)))))
set_option maxHeartbeats 600000 in
set_option maxRecDepth 100000 in
theorem k_X12_row (l : Launch) (g : GG) (σ : St) (a1 : Int32) (a2 : Int32) (a3 : Int32) (hI : IB (σ 1)) : MI l yX12_row (wsF yX12_row cX12_row 5 (some .int)) { frames := 2, cells := 0, slots := 0, locals := 43 } [.ref (g.2.2 100), .int (a1), .int (a2), .int (a3)] g (mW g) (fun _ => True) σ (f_X12_row σ a1 a2 a3) := by
  refine start_MI (by decide) (Nat.le_of_ble_eq_true rfl) ?_
  intro p e s m args below meth c C0 hK hBg hC ls hl
  generalize hAe : aA ((mW g) σ) = A at hC ⊢
  obtain ⟨hx, hb, hr, hml, hown, hts, hlocks⟩ := id C0
  have hl : lv_has ls 5 [(0, .ref (g.2.2 100)), (1, .int (a1)), (2, .int (a2)), (3, .int (a3))] := hl
  generalize hT : (f_X12_row σ a1 a2 a3) = tgt
  suffices key : ∀ (H : Heap) (locs : List Loc), WC g (mW g) A s.heap σ H locs → W p l e { frames := 2, cells := 0, slots := 0, locals := 43 } s m args below meth c H locs 0 0 (QMI below args s g (mW g) A tgt) (F0 m 0 ls []) from key _ _ hC
  intro H locs hC
  unfold f_X12_row at hT
  obtain ⟨⟨i0, i0'⟩, ⟨i1, i1'⟩, ⟨i2, i2'⟩, ⟨i3, i3'⟩, ⟨i4, i4'⟩, ⟨i5, i5'⟩, ⟨i6, i6'⟩, ⟨i7, i7'⟩, ⟨i8, i8'⟩, iK, iV, iL, iR, iW, iY, iG, iM, iB, iQ, iP, iT, iU⟩ := id hI
  refine lv_aload_n hx hb dX12_row_0 rfl (lv_at hl 0 rfl) ?_
  refine lv_iload_n hx hb dX12_row_1 rfl (lv_at hl 1 rfl) ?_
  refine m_ci (rest := []) (As := [.int (a1)]) (σ := σ) C0 hK hC.1 (hC.2.1.weaken (fun _ _ _ _ => trivial)) SV.tt (fun _ _ _ => trivial) cf_X12_isStick w_1131 rfl (k_X12_isStick l g σ a1 ) ⟨by decide, by decide⟩ hl.1 rfl rfl (Nat.le_of_ble_eq_true rfl) dX12_row_2 ⟨Nat.zero_le _, Nat.zero_le _⟩ ?_
  refine lv_if_eq (tgt := 17) hx hb dX12_row_5 (by decide) (fun c_5 => ?_) (fun c_5 => ?_)
  · have hT := hT_pos c_5 hT
    refine lv_iconst (v := (-1 : Int32)) hx hb dX12_row_17 (by decide) ?_
    exact ret_MI C0 hC hT dX12_row_18
  · have hT := hT_neg c_5 hT
    refine lv_iload_n hx hb dX12_row_8 rfl (lv_at hl 2 rfl) ?_
    refine lv_iconst (v := (0 : Int32)) hx hb dX12_row_9 (by decide) ?_
    refine lv_iconst (v := (3 : Int32)) hx hb dX12_row_10 (by decide) ?_
    refine s_ci (rest := []) (As := [.int (a2), .int ((0 : Int32)), .int ((3 : Int32))]) C0 cf_X12_in w_1060 (k_X12_in l a2 (0 : Int32) (3 : Int32) ) ⟨by decide, by decide⟩ hl.1 rfl rfl (Nat.le_of_ble_eq_true rfl) dX12_row_11 ⟨Nat.zero_le _, Nat.zero_le _⟩ ?_
    refine lv_if_ne (tgt := 19) hx hb dX12_row_14 (by decide) (fun c_14 => ?_) (fun c_14 => ?_)
    · have hT := hT_neg c_14 hT
      refine lv_iload_n hx hb dX12_row_19 rfl (lv_at hl 3 rfl) ?_
      refine lv_iconst (v := (0 : Int32)) hx hb dX12_row_20 (by decide) ?_
      refine lv_bipush (v := (9 : Int32)) hx hb dX12_row_21 (by decide) ?_
      refine s_ci (rest := []) (As := [.int (a3), .int ((0 : Int32)), .int ((9 : Int32))]) C0 cf_X12_in w_1060 (k_X12_in l a3 (0 : Int32) (9 : Int32) ) ⟨by decide, by decide⟩ hl.1 rfl rfl (Nat.le_of_ble_eq_true rfl) dX12_row_23 ⟨Nat.zero_le _, Nat.zero_le _⟩ ?_
      refine lv_if_ne (tgt := 32) hx hb dX12_row_26 (by decide) (fun c_26 => ?_) (fun c_26 => ?_)
      · have hT := hT_neg c_26 hT
        refine lv_aload_n hx hb dX12_row_32 rfl (lv_at hl 0 rfl) ?_
        refine m_get (σ := σ) (v := .ref (g.2.2 1)) C0 hK hC.1 1 (by decide) rfl w_968 dX12_row_33 ?_
        refine lv_bipush (v := (9 : Int32)) hx hb dX12_row_36 (by decide) ?_
        refine lv_iload_n hx hb dX12_row_38 rfl (lv_at hl 1 rfl) ?_
        refine lv_iadd hx hb dX12_row_39 ?_
        have o_40 : vp_in ((9 : Int32) + a1) 916 := by
          have : ((0 : Int32)).toInt = 0 := by decide
          have : ((3 : Int32)).toInt = 3 := by decide
          have : ((9 : Int32)).toInt = 9 := by decide
          have := isStick_ne hI.1.1 c_5
          have := in_ne c_14
          have := in_ne c_26
          try have := ti_add (a := (9 : Int32)) (b := a1) (by omega) (by omega)
          exact vin (by omega) (by omega)
        refine m_ald (σ := σ) C0 hK hC.1 1 1 916 rfl o_40 (ix ((9 : Int32) + a1)) rfl dX12_row_40 ?_
        refine lv_bipush (v := (6 : Int32)) hx hb dX12_row_41 (by decide) ?_
        refine lv_icmp_eq (tgt := 49) hx hb dX12_row_43 (by decide) (fun c_43 => ?_) (fun c_43 => ?_)
        · have hT := hT_pos c_43 hT
          refine lv_aload_n hx hb dX12_row_49 rfl (lv_at hl 0 rfl) ?_
          refine m_get (σ := σ) (v := .ref (g.2.2 1)) C0 hK hC.1 1 (by decide) rfl w_968 dX12_row_50 ?_
          refine lv_bipush (v := (27 : Int32)) hx hb dX12_row_53 (by decide) ?_
          refine lv_iconst (v := (4 : Int32)) hx hb dX12_row_55 (by decide) ?_
          refine lv_iload_n hx hb dX12_row_56 rfl (lv_at hl 1 rfl) ?_
          refine lv_imul hx hb dX12_row_57 ?_
          refine lv_iadd hx hb dX12_row_58 ?_
          refine lv_iload_n hx hb dX12_row_59 rfl (lv_at hl 2 rfl) ?_
          refine lv_iadd hx hb dX12_row_60 ?_
          have o_61 : vp_in (((27 : Int32) + ((4 : Int32) * a1)) + a2) 916 := by
            have : ((0 : Int32)).toInt = 0 := by decide
            have : ((3 : Int32)).toInt = 3 := by decide
            have : ((9 : Int32)).toInt = 9 := by decide
            have : ((6 : Int32)).toInt = 6 := by decide
            have : ((27 : Int32)).toInt = 27 := by decide
            have : ((4 : Int32)).toInt = 4 := by decide
            have := isStick_ne hI.1.1 c_5
            have := in_ne c_14
            have := in_ne c_26
            have := ti_eq.mp c_43
            try have := ti_mulR (a := (4 : Int32)) (b := a1) (n := 4) (by decide) (by omega) (by omega)
            try have := ti_add (a := (27 : Int32)) (b := ((4 : Int32) * a1)) (by omega) (by omega)
            try have := ti_add (a := ((27 : Int32) + ((4 : Int32) * a1))) (b := a2) (by omega) (by omega)
            exact vin (by omega) (by omega)
          refine m_ald (σ := σ) C0 hK hC.1 1 1 916 rfl o_61 (ix (((27 : Int32) + ((4 : Int32) * a1)) + a2)) rfl dX12_row_61 ?_
          refine lv_istore (lv' := [(4, .int ((σ 1 (ix (((27 : Int32) + ((4 : Int32) * a1)) + a2))))), (0, .ref (g.2.2 100)), (1, .int (a1)), (2, .int (a2)), (3, .int (a3))]) hx hb dX12_row_62 hl (by decide) rfl (fun ls hl => ?_)
          refine lv_aload_n hx hb dX12_row_64 rfl (lv_at hl 1 rfl) ?_
          refine m_get (σ := σ) (v := .ref (g.2.2 1)) C0 hK hC.1 1 (by decide) rfl w_968 dX12_row_65 ?_
          refine lv_bipush (v := (27 : Int32)) hx hb dX12_row_68 (by decide) ?_
          refine lv_iconst (v := (4 : Int32)) hx hb dX12_row_70 (by decide) ?_
          refine lv_iload_n hx hb dX12_row_71 rfl (lv_at hl 2 rfl) ?_
          refine lv_imul hx hb dX12_row_72 ?_
          refine lv_iadd hx hb dX12_row_73 ?_
          refine lv_iload_n hx hb dX12_row_74 rfl (lv_at hl 3 rfl) ?_
          refine lv_iadd hx hb dX12_row_75 ?_
          refine lv_iload_n hx hb dX12_row_76 rfl (lv_at hl 4 rfl) ?_
          have o_77 : vp_in (((27 : Int32) + ((4 : Int32) * a1)) + a2) 916 := by
            have : ((0 : Int32)).toInt = 0 := by decide
            have : ((3 : Int32)).toInt = 3 := by decide
            have : ((9 : Int32)).toInt = 9 := by decide
            have : ((6 : Int32)).toInt = 6 := by decide
            have : ((27 : Int32)).toInt = 27 := by decide
            have : ((4 : Int32)).toInt = 4 := by decide
            have := isStick_ne hI.1.1 c_5
            have := in_ne c_14
            have := in_ne c_26
            have := ti_eq.mp c_43
            try have := ti_mulR (a := (4 : Int32)) (b := a1) (n := 4) (by decide) (by omega) (by omega)
            try have := ti_add (a := (27 : Int32)) (b := ((4 : Int32) * a1)) (by omega) (by omega)
            try have := ti_add (a := ((27 : Int32) + ((4 : Int32) * a1))) (b := a2) (by omega) (by omega)
            exact vin (by omega) (by omega)
          refine m_ast (σ := σ) C0 hK hC 1 1 916 rfl (ms_1 g _) o_77 (ix (((27 : Int32) + ((4 : Int32) * a1)) + a2)) rfl dX12_row_77 (fun H locs hC => ?_)
          refine lv_iload hx hb dX12_row_78 (lv_at hl 0 rfl) ?_
          exact ret_MI C0 hC hT dX12_row_80
        · have hT := hT_neg c_43 hT
          refine lv_bipush (v := (-3 : Int32)) hx hb dX12_row_46 (by decide) ?_
          exact ret_MI C0 hC hT dX12_row_48
      · have hT := hT_pos c_26 hT
        refine lv_bipush (v := (-2 : Int32)) hx hb dX12_row_29 (by decide) ?_
        exact ret_MI C0 hC hT dX12_row_31
    · have hT := hT_pos c_14 hT
      refine lv_iconst (v := (-1 : Int32)) hx hb dX12_row_17 (by decide) ?_
      exact ret_MI C0 hC hT dX12_row_18
/-! ThreeMeasuresModel.wall -/
theorem dX12_wall_0 : decode cX12_wall 0 = .ok (.aload_n 0, 1) := by decide +kernel
theorem dX12_wall_1 : decode cX12_wall 1 = .ok (.getfield 9, 3) := by decide +kernel
theorem dX12_wall_4 : decode cX12_wall 4 = .ok (.iconst 1, 1) := by decide +kernel
theorem dX12_wall_5 : decode cX12_wall 5 = .ok (.iaload, 1) := by decide +kernel
theorem dX12_wall_6 : decode cX12_wall 6 = .ok (.bipush 6, 2) := by decide +kernel
theorem dX12_wall_8 : decode cX12_wall 8 = .ok (.if_icmp .ne 6, 3) := by decide +kernel
theorem dX12_wall_11 : decode cX12_wall 11 = .ok (.bipush (-4), 2) := by decide +kernel
theorem dX12_wall_13 : decode cX12_wall 13 = .ok (.ireturn, 1) := by decide +kernel
theorem dX12_wall_14 : decode cX12_wall 14 = .ok (.aload_n 0, 1) := by decide +kernel
theorem dX12_wall_15 : decode cX12_wall 15 = .ok (.getfield 9, 3) := by decide +kernel
theorem dX12_wall_18 : decode cX12_wall 18 = .ok (.iconst 1, 1) := by decide +kernel
theorem dX12_wall_19 : decode cX12_wall 19 = .ok (.iaload, 1) := by decide +kernel
theorem dX12_wall_20 : decode cX12_wall 20 = .ok (.istore_n 1, 1) := by decide +kernel
theorem dX12_wall_21 : decode cX12_wall 21 = .ok (.aload_n 0, 1) := by decide +kernel
theorem dX12_wall_22 : decode cX12_wall 22 = .ok (.getfield 9, 3) := by decide +kernel
theorem dX12_wall_25 : decode cX12_wall 25 = .ok (.bipush 51, 2) := by decide +kernel
theorem dX12_wall_27 : decode cX12_wall 27 = .ok (.iload_n 1, 1) := by decide +kernel
theorem dX12_wall_28 : decode cX12_wall 28 = .ok (.iadd, 1) := by decide +kernel
theorem dX12_wall_29 : decode cX12_wall 29 = .ok (.iconst 0, 1) := by decide +kernel
theorem dX12_wall_30 : decode cX12_wall 30 = .ok (.iastore, 1) := by decide +kernel
theorem dX12_wall_31 : decode cX12_wall 31 = .ok (.aload_n 0, 1) := by decide +kernel
theorem dX12_wall_32 : decode cX12_wall 32 = .ok (.getfield 9, 3) := by decide +kernel
theorem dX12_wall_35 : decode cX12_wall 35 = .ok (.bipush 57, 2) := by decide +kernel
theorem dX12_wall_37 : decode cX12_wall 37 = .ok (.iload_n 1, 1) := by decide +kernel
theorem dX12_wall_38 : decode cX12_wall 38 = .ok (.iadd, 1) := by decide +kernel
theorem dX12_wall_39 : decode cX12_wall 39 = .ok (.sipush 999, 3) := by decide +kernel
theorem dX12_wall_42 : decode cX12_wall 42 = .ok (.iastore, 1) := by decide +kernel
theorem dX12_wall_43 : decode cX12_wall 43 = .ok (.aload_n 0, 1) := by decide +kernel
theorem dX12_wall_44 : decode cX12_wall 44 = .ok (.getfield 9, 3) := by decide +kernel
theorem dX12_wall_47 : decode cX12_wall 47 = .ok (.iconst 1, 1) := by decide +kernel
theorem dX12_wall_48 : decode cX12_wall 48 = .ok (.dup2, 1) := by decide +kernel
theorem dX12_wall_49 : decode cX12_wall 49 = .ok (.iaload, 1) := by decide +kernel
theorem dX12_wall_50 : decode cX12_wall 50 = .ok (.iconst 1, 1) := by decide +kernel
theorem dX12_wall_51 : decode cX12_wall 51 = .ok (.iadd, 1) := by decide +kernel
theorem dX12_wall_52 : decode cX12_wall 52 = .ok (.iastore, 1) := by decide +kernel
theorem dX12_wall_53 : decode cX12_wall 53 = .ok (.iload_n 1, 1) := by decide +kernel
theorem dX12_wall_54 : decode cX12_wall 54 = .ok (.ireturn, 1) := by decide +kernel
def f_X12_wall (σ : St) : Int32 × St := (if (σ 1 1) = (6 : Int32) then ((-4 : Int32), σ) else ((σ 1 1), (up2 (up2 (up2 σ 1 (ix ((51 : Int32) + (σ 1 1))) (0 : Int32)) 1 (ix ((57 : Int32) + (σ 1 1))) (999 : Int32)) 1 1 (((up2 (up2 σ 1 (ix ((51 : Int32) + (σ 1 1))) (0 : Int32)) 1 (ix ((57 : Int32) + (σ 1 1))) (999 : Int32)) 1 1) + (1 : Int32)))))
set_option maxHeartbeats 600000 in
set_option maxRecDepth 100000 in
theorem k_X12_wall (l : Launch) (g : GG) (σ : St) (hI : IB (σ 1)) : MI l yX12_wall (wsF yX12_wall cX12_wall 2 (some .int)) { frames := 0, cells := 0, slots := 0, locals := 0 } [.ref (g.2.2 100)] g (mW g) (fun _ => True) σ (f_X12_wall σ) := by
  refine start_MI (by decide) (Nat.le_of_ble_eq_true rfl) ?_
  intro p e s m args below meth c C0 hK hBg hC ls hl
  generalize hAe : aA ((mW g) σ) = A at hC ⊢
  obtain ⟨hx, hb, hr, hml, hown, hts, hlocks⟩ := id C0
  have hl : lv_has ls 2 [(0, .ref (g.2.2 100))] := hl
  generalize hT : (f_X12_wall σ) = tgt
  suffices key : ∀ (H : Heap) (locs : List Loc), WC g (mW g) A s.heap σ H locs → W p l e { frames := 0, cells := 0, slots := 0, locals := 0 } s m args below meth c H locs 0 0 (QMI below args s g (mW g) A tgt) (F0 m 0 ls []) from key _ _ hC
  intro H locs hC
  unfold f_X12_wall at hT
  obtain ⟨⟨i0, i0'⟩, ⟨i1, i1'⟩, ⟨i2, i2'⟩, ⟨i3, i3'⟩, ⟨i4, i4'⟩, ⟨i5, i5'⟩, ⟨i6, i6'⟩, ⟨i7, i7'⟩, ⟨i8, i8'⟩, iK, iV, iL, iR, iW, iY, iG, iM, iB, iQ, iP, iT, iU⟩ := id hI
  refine lv_aload_n hx hb dX12_wall_0 rfl (lv_at hl 0 rfl) ?_
  refine m_get (σ := σ) (v := .ref (g.2.2 1)) C0 hK hC.1 1 (by decide) rfl w_968 dX12_wall_1 ?_
  refine lv_iconst (v := (1 : Int32)) hx hb dX12_wall_4 (by decide) ?_
  refine m_ald (σ := σ) C0 hK hC.1 1 1 916 rfl (vin_l (by decide)) 1 (by decide) dX12_wall_5 ?_
  refine lv_bipush (v := (6 : Int32)) hx hb dX12_wall_6 (by decide) ?_
  refine lv_icmp_ne (tgt := 14) hx hb dX12_wall_8 (by decide) (fun c_8 => ?_) (fun c_8 => ?_)
  · have hT := hT_neg c_8 hT
    refine lv_aload_n hx hb dX12_wall_14 rfl (lv_at hl 0 rfl) ?_
    refine m_get (σ := σ) (v := .ref (g.2.2 1)) C0 hK hC.1 1 (by decide) rfl w_968 dX12_wall_15 ?_
    refine lv_iconst (v := (1 : Int32)) hx hb dX12_wall_18 (by decide) ?_
    refine m_ald (σ := σ) C0 hK hC.1 1 1 916 rfl (vin_l (by decide)) 1 (by decide) dX12_wall_19 ?_
    refine lv_istore_n (lv' := [(1, .int ((σ 1 1))), (0, .ref (g.2.2 100))]) hx hb dX12_wall_20 rfl hl (by decide) rfl (fun ls hl => ?_)
    refine lv_aload_n hx hb dX12_wall_21 rfl (lv_at hl 1 rfl) ?_
    refine m_get (σ := σ) (v := .ref (g.2.2 1)) C0 hK hC.1 1 (by decide) rfl w_968 dX12_wall_22 ?_
    refine lv_bipush (v := (51 : Int32)) hx hb dX12_wall_25 (by decide) ?_
    refine lv_iload_n hx hb dX12_wall_27 rfl (lv_at hl 0 rfl) ?_
    refine lv_iadd hx hb dX12_wall_28 ?_
    refine lv_iconst (v := (0 : Int32)) hx hb dX12_wall_29 (by decide) ?_
    have o_30 : vp_in ((51 : Int32) + (σ 1 1)) 916 := by
      have : ((6 : Int32)).toInt = 6 := by decide
      have : ((51 : Int32)).toInt = 51 := by decide
      have := mt ti_eq.mpr c_8
      try have := ti_add (a := (51 : Int32)) (b := (σ 1 1)) (by omega) (by omega)
      exact vin (by omega) (by omega)
    refine m_ast (σ := σ) C0 hK hC 1 1 916 rfl (ms_1 g _) o_30 (ix ((51 : Int32) + (σ 1 1))) rfl dX12_wall_30 (fun H locs hC => ?_)
    refine lv_aload_n hx hb dX12_wall_31 rfl (lv_at hl 1 rfl) ?_
    refine m_get (σ := (up2 σ 1 (ix ((51 : Int32) + (σ 1 1))) (0 : Int32))) (v := .ref (g.2.2 1)) C0 hK hC.1 1 (by decide) rfl w_968 dX12_wall_32 ?_
    refine lv_bipush (v := (57 : Int32)) hx hb dX12_wall_35 (by decide) ?_
    refine lv_iload_n hx hb dX12_wall_37 rfl (lv_at hl 0 rfl) ?_
    refine lv_iadd hx hb dX12_wall_38 ?_
    refine lv_sipush (v := (999 : Int32)) hx hb dX12_wall_39 (by decide) ?_
    have o_42 : vp_in ((57 : Int32) + (σ 1 1)) 916 := by
      have : ((6 : Int32)).toInt = 6 := by decide
      have : ((57 : Int32)).toInt = 57 := by decide
      have := mt ti_eq.mpr c_8
      try have := ti_add (a := (57 : Int32)) (b := (σ 1 1)) (by omega) (by omega)
      exact vin (by omega) (by omega)
    refine m_ast (σ := (up2 σ 1 (ix ((51 : Int32) + (σ 1 1))) (0 : Int32))) C0 hK hC 1 1 916 rfl (ms_1 g _) o_42 (ix ((57 : Int32) + (σ 1 1))) rfl dX12_wall_42 (fun H locs hC => ?_)
    refine lv_aload_n hx hb dX12_wall_43 rfl (lv_at hl 1 rfl) ?_
    refine m_get (σ := (up2 (up2 σ 1 (ix ((51 : Int32) + (σ 1 1))) (0 : Int32)) 1 (ix ((57 : Int32) + (σ 1 1))) (999 : Int32))) (v := .ref (g.2.2 1)) C0 hK hC.1 1 (by decide) rfl w_968 dX12_wall_44 ?_
    refine lv_iconst (v := (1 : Int32)) hx hb dX12_wall_47 (by decide) ?_
    refine lv_dup2_11 hx hb dX12_wall_48 rfl rfl ?_
    refine m_ald (σ := (up2 (up2 σ 1 (ix ((51 : Int32) + (σ 1 1))) (0 : Int32)) 1 (ix ((57 : Int32) + (σ 1 1))) (999 : Int32))) C0 hK hC.1 1 1 916 rfl (vin_l (by decide)) 1 (by decide) dX12_wall_49 ?_
    refine lv_iconst (v := (1 : Int32)) hx hb dX12_wall_50 (by decide) ?_
    refine lv_iadd hx hb dX12_wall_51 ?_
    refine m_ast (σ := (up2 (up2 σ 1 (ix ((51 : Int32) + (σ 1 1))) (0 : Int32)) 1 (ix ((57 : Int32) + (σ 1 1))) (999 : Int32))) C0 hK hC 1 1 916 rfl (ms_1 g _) (vin_l (by decide)) 1 (by decide) dX12_wall_52 (fun H locs hC => ?_)
    refine lv_iload_n hx hb dX12_wall_53 rfl (lv_at hl 0 rfl) ?_
    exact ret_MI C0 hC hT dX12_wall_54
  · have hT := hT_pos c_8 hT
    refine lv_bipush (v := (-4 : Int32)) hx hb dX12_wall_11 (by decide) ?_
    exact ret_MI C0 hC hT dX12_wall_13
set_option maxRecDepth 20000 in
theorem w_1147 : (Cond.methodLink RX12 165 yX12_isWall) ∈ TB := inTB (List.mem_of_getElem? (i := 1147) (by decide +kernel)) (by decide +kernel)
set_option maxRecDepth 20000 in
theorem w_1150 : (Cond.code yX12_isWall cX12_isWall 2 (some .boolean)) ∈ TB := inTB (List.mem_of_getElem? (i := 1150) (by decide +kernel)) (by decide +kernel)
set_option maxRecDepth 20000 in
theorem w_1149 : (Cond.instanceMethod yX12_isWall) ∈ TB := inTB (List.mem_of_getElem? (i := 1149) (by decide +kernel)) (by decide +kernel)
set_option maxRecDepth 20000 in
theorem w_50 : (Cond.selects RX12 yX12_isWall yX12_isWall) ∈ TB := inTB (List.mem_of_getElem? (i := 50) (by decide +kernel)) (by decide +kernel)
theorem cf_X12_isWall : CF yX12_isWall cX12_isWall 2 (some .boolean) 1 := ⟨w_1149, w_50, w_75, w_1150, by decide +kernel, by decide +kernel, by decide +kernel⟩
set_option maxRecDepth 20000 in
theorem w_1151 : (Cond.methodLink RX12 168 yX12_gapOf) ∈ TB := inTB (List.mem_of_getElem? (i := 1151) (by decide +kernel)) (by decide +kernel)
set_option maxRecDepth 20000 in
theorem w_1154 : (Cond.code yX12_gapOf cX12_gapOf 2 (some .int)) ∈ TB := inTB (List.mem_of_getElem? (i := 1154) (by decide +kernel)) (by decide +kernel)
set_option maxRecDepth 20000 in
theorem w_1153 : (Cond.instanceMethod yX12_gapOf) ∈ TB := inTB (List.mem_of_getElem? (i := 1153) (by decide +kernel)) (by decide +kernel)
set_option maxRecDepth 20000 in
theorem w_51 : (Cond.selects RX12 yX12_gapOf yX12_gapOf) ∈ TB := inTB (List.mem_of_getElem? (i := 51) (by decide +kernel)) (by decide +kernel)
theorem cf_X12_gapOf : CF yX12_gapOf cX12_gapOf 2 (some .int) 1 := ⟨w_1153, w_51, w_75, w_1154, by decide +kernel, by decide +kernel, by decide +kernel⟩
/-! ThreeMeasuresModel.at -/
theorem dX12_at_0 : decode cX12_at 0 = .ok (.aload_n 0, 1) := by decide +kernel
theorem dX12_at_1 : decode cX12_at 1 = .ok (.iload_n 1, 1) := by decide +kernel
theorem dX12_at_2 : decode cX12_at 2 = .ok (.invokevirtual 165, 3) := by decide +kernel
theorem dX12_at_5 : decode cX12_at 5 = .ok (.ifCond .ne 5, 3) := by decide +kernel
theorem dX12_at_8 : decode cX12_at 8 = .ok (.iconst (-1), 1) := by decide +kernel
theorem dX12_at_9 : decode cX12_at 9 = .ok (.ireturn, 1) := by decide +kernel
theorem dX12_at_10 : decode cX12_at 10 = .ok (.iload_n 2, 1) := by decide +kernel
theorem dX12_at_11 : decode cX12_at 11 = .ok (.ifCond .ne 15, 3) := by decide +kernel
theorem dX12_at_14 : decode cX12_at 14 = .ok (.aload_n 0, 1) := by decide +kernel
theorem dX12_at_15 : decode cX12_at 15 = .ok (.getfield 9, 3) := by decide +kernel
theorem dX12_at_18 : decode cX12_at 18 = .ok (.bipush 51, 2) := by decide +kernel
theorem dX12_at_20 : decode cX12_at 20 = .ok (.iload_n 1, 1) := by decide +kernel
theorem dX12_at_21 : decode cX12_at 21 = .ok (.iadd, 1) := by decide +kernel
theorem dX12_at_22 : decode cX12_at 22 = .ok (.iaload, 1) := by decide +kernel
theorem dX12_at_23 : decode cX12_at 23 = .ok (.goto 34, 3) := by decide +kernel
theorem dX12_at_26 : decode cX12_at 26 = .ok (.iload_n 2, 1) := by decide +kernel
theorem dX12_at_27 : decode cX12_at 27 = .ok (.iconst 1, 1) := by decide +kernel
theorem dX12_at_28 : decode cX12_at 28 = .ok (.if_icmp .ne 15, 3) := by decide +kernel
theorem dX12_at_31 : decode cX12_at 31 = .ok (.aload_n 0, 1) := by decide +kernel
theorem dX12_at_32 : decode cX12_at 32 = .ok (.getfield 9, 3) := by decide +kernel
theorem dX12_at_35 : decode cX12_at 35 = .ok (.bipush 57, 2) := by decide +kernel
theorem dX12_at_37 : decode cX12_at 37 = .ok (.iload_n 1, 1) := by decide +kernel
theorem dX12_at_38 : decode cX12_at 38 = .ok (.iadd, 1) := by decide +kernel
theorem dX12_at_39 : decode cX12_at 39 = .ok (.iaload, 1) := by decide +kernel
theorem dX12_at_40 : decode cX12_at 40 = .ok (.goto 17, 3) := by decide +kernel
theorem dX12_at_43 : decode cX12_at 43 = .ok (.iload_n 2, 1) := by decide +kernel
theorem dX12_at_44 : decode cX12_at 44 = .ok (.iconst 2, 1) := by decide +kernel
theorem dX12_at_45 : decode cX12_at 45 = .ok (.if_icmp .ne 11, 3) := by decide +kernel
theorem dX12_at_48 : decode cX12_at 48 = .ok (.aload_n 0, 1) := by decide +kernel
theorem dX12_at_49 : decode cX12_at 49 = .ok (.iload_n 1, 1) := by decide +kernel
theorem dX12_at_50 : decode cX12_at 50 = .ok (.invokevirtual 168, 3) := by decide +kernel
theorem dX12_at_53 : decode cX12_at 53 = .ok (.goto 4, 3) := by decide +kernel
theorem dX12_at_56 : decode cX12_at 56 = .ok (.iconst (-1), 1) := by decide +kernel
theorem dX12_at_57 : decode cX12_at 57 = .ok (.ireturn, 1) := by decide +kernel
def f_X12_at (σ : St) (a1 : Int32) (a2 : Int32) : Int32 := (if (f_X12_isWall σ a1) = 0 then (-1 : Int32) else (if a2 = 0 then (σ 1 (ix ((51 : Int32) + a1))) else (if a2 = (1 : Int32) then (σ 1 (ix ((57 : Int32) + a1))) else (if a2 = (2 : Int32) then (f_X12_gapOf σ a1) else (-1 : Int32)))))
set_option maxHeartbeats 600000 in
set_option maxRecDepth 100000 in
theorem k_X12_at (l : Launch) (g : GG) (σ : St) (a1 : Int32) (a2 : Int32) (hI : IB (σ 1)) : PI l yX12_at (wsF yX12_at cX12_at 3 (some .int)) { frames := 2, cells := 0, slots := 0, locals := 43 } [.ref (g.2.2 100), .int (a1), .int (a2)] (GB g (mW g) (fun _ => True) σ) (f_X12_at σ a1 a2) := by
  refine start_PI (by decide) (Nat.le_of_ble_eq_true rfl) ?_
  intro p e s m args below meth c C0 hG ls hl
  obtain ⟨hK, hP, hDD, hBg⟩ := hG
  obtain ⟨hx, hb, hr, hml, hown, hts, hlocks⟩ := id C0
  have hl : lv_has ls 3 [(0, .ref (g.2.2 100)), (1, .int (a1)), (2, .int (a2))] := hl
  generalize hT : (f_X12_at σ a1 a2) = tgt
  unfold f_X12_at at hT
  obtain ⟨⟨i0, i0'⟩, ⟨i1, i1'⟩, ⟨i2, i2'⟩, ⟨i3, i3'⟩, ⟨i4, i4'⟩, ⟨i5, i5'⟩, ⟨i6, i6'⟩, ⟨i7, i7'⟩, ⟨i8, i8'⟩, iK, iV, iL, iR, iW, iY, iG, iM, iB, iQ, iP, iT, iU⟩ := id hI
  refine lv_aload_n hx hb dX12_at_0 rfl (lv_at hl 0 rfl) ?_
  refine lv_iload_n hx hb dX12_at_1 rfl (lv_at hl 1 rfl) ?_
  refine m_ci (rest := []) (As := [.int (a1)]) (σ := σ) C0 hK hP hDD SV.tt (fun _ _ _ => trivial) cf_X12_isWall w_1147 rfl (k_X12_isWall l g σ a1 ) ⟨by decide, by decide⟩ hl.1 rfl rfl (Nat.le_of_ble_eq_true rfl) dX12_at_2 ⟨Nat.zero_le _, Nat.zero_le _⟩ ?_
  refine lv_if_ne (tgt := 10) hx hb dX12_at_5 (by decide) (fun c_5 => ?_) (fun c_5 => ?_)
  · have hT := hT_neg c_5 hT
    refine lv_iload_n hx hb dX12_at_10 rfl (lv_at hl 2 rfl) ?_
    have J11 : ∀ v : Int32, v = (if a2 = 0 then (σ 1 (ix ((51 : Int32) + a1))) else (if a2 = (1 : Int32) then (σ 1 (ix ((57 : Int32) + a1))) else (if a2 = (2 : Int32) then (f_X12_gapOf σ a1) else (-1 : Int32)))) → W p l e { frames := 2, cells := 0, slots := 0, locals := 43 } s m args below meth c s.heap [] 0 0 (QPI below args s tgt) (F0 m 57 ls [.int (v)]) := by
      intro v ev
      subst ev
      exact ret_PI C0 hT dX12_at_57
    refine lv_if_ne (tgt := 26) hx hb dX12_at_11 (by decide) (fun c_11 => ?_) (fun c_11 => ?_)
    · refine lv_iload_n hx hb dX12_at_26 rfl (lv_at hl 2 rfl) ?_
      refine lv_iconst (v := (1 : Int32)) hx hb dX12_at_27 (by decide) ?_
      refine lv_icmp_ne (tgt := 43) hx hb dX12_at_28 (by decide) (fun c_28 => ?_) (fun c_28 => ?_)
      · refine lv_iload_n hx hb dX12_at_43 rfl (lv_at hl 2 rfl) ?_
        refine lv_iconst (v := (2 : Int32)) hx hb dX12_at_44 (by decide) ?_
        refine lv_icmp_ne (tgt := 56) hx hb dX12_at_45 (by decide) (fun c_45 => ?_) (fun c_45 => ?_)
        · refine lv_iconst (v := (-1 : Int32)) hx hb dX12_at_56 (by decide) ?_
          exact J11 _ (iv_neg c_11 (iv_neg c_28 (iv_neg c_45 rfl)))
        · refine lv_aload_n hx hb dX12_at_48 rfl (lv_at hl 0 rfl) ?_
          refine lv_iload_n hx hb dX12_at_49 rfl (lv_at hl 1 rfl) ?_
          have q50_h1 : 0 ≤ a1.toInt := by
            have : ((0 : Int32)).toInt = 0 := by decide
            have : ((1 : Int32)).toInt = 1 := by decide
            have : ((2 : Int32)).toInt = 2 := by decide
            have := isWall_ne hI.2.1.1 c_5
            have := mt ti_eq.mpr c_11
            have := mt ti_eq.mpr c_28
            have := ti_eq.mp c_45
            omega
          have q50_h2 : a1.toInt ≤ 6 := by
            have : ((0 : Int32)).toInt = 0 := by decide
            have : ((1 : Int32)).toInt = 1 := by decide
            have : ((2 : Int32)).toInt = 2 := by decide
            have := isWall_ne hI.2.1.1 c_5
            have := mt ti_eq.mpr c_11
            have := mt ti_eq.mpr c_28
            have := ti_eq.mp c_45
            omega
          refine m_ci (rest := []) (As := [.int (a1)]) (σ := σ) C0 hK hP hDD SV.tt (fun _ _ _ => trivial) cf_X12_gapOf w_1151 rfl (k_X12_gapOf l g σ a1 q50_h1 q50_h2) ⟨by decide, by decide⟩ hl.1 rfl rfl (Nat.le_of_ble_eq_true rfl) dX12_at_50 ⟨Nat.zero_le _, Nat.zero_le _⟩ ?_
          refine lv_goto (tgt := 57) hx hb dX12_at_53 (by decide) ?_
          exact J11 _ (iv_neg c_11 (iv_neg c_28 (iv_pos c_45 rfl)))
      · refine lv_aload_n hx hb dX12_at_31 rfl (lv_at hl 0 rfl) ?_
        refine m_get (σ := σ) (v := .ref (g.2.2 1)) C0 hK hP 1 (by decide) rfl w_968 dX12_at_32 ?_
        refine lv_bipush (v := (57 : Int32)) hx hb dX12_at_35 (by decide) ?_
        refine lv_iload_n hx hb dX12_at_37 rfl (lv_at hl 1 rfl) ?_
        refine lv_iadd hx hb dX12_at_38 ?_
        have o_39 : vp_in ((57 : Int32) + a1) 916 := by
          have : ((0 : Int32)).toInt = 0 := by decide
          have : ((1 : Int32)).toInt = 1 := by decide
          have : ((57 : Int32)).toInt = 57 := by decide
          have := isWall_ne hI.2.1.1 c_5
          have := mt ti_eq.mpr c_11
          have := ti_eq.mp c_28
          try have := ti_add (a := (57 : Int32)) (b := a1) (by omega) (by omega)
          exact vin (by omega) (by omega)
        refine m_ald (σ := σ) C0 hK hP 1 1 916 rfl o_39 (ix ((57 : Int32) + a1)) rfl dX12_at_39 ?_
        refine lv_goto (tgt := 57) hx hb dX12_at_40 (by decide) ?_
        exact J11 _ (iv_neg c_11 (iv_pos c_28 rfl))
    · refine lv_aload_n hx hb dX12_at_14 rfl (lv_at hl 0 rfl) ?_
      refine m_get (σ := σ) (v := .ref (g.2.2 1)) C0 hK hP 1 (by decide) rfl w_968 dX12_at_15 ?_
      refine lv_bipush (v := (51 : Int32)) hx hb dX12_at_18 (by decide) ?_
      refine lv_iload_n hx hb dX12_at_20 rfl (lv_at hl 1 rfl) ?_
      refine lv_iadd hx hb dX12_at_21 ?_
      have o_22 : vp_in ((51 : Int32) + a1) 916 := by
        have : ((0 : Int32)).toInt = 0 := by decide
        have : ((51 : Int32)).toInt = 51 := by decide
        have := isWall_ne hI.2.1.1 c_5
        have := ti_eq.mp c_11
        try have := ti_add (a := (51 : Int32)) (b := a1) (by omega) (by omega)
        exact vin (by omega) (by omega)
      refine m_ald (σ := σ) C0 hK hP 1 1 916 rfl o_22 (ix ((51 : Int32) + a1)) rfl dX12_at_22 ?_
      refine lv_goto (tgt := 57) hx hb dX12_at_23 (by decide) ?_
      exact J11 _ (iv_pos c_11 rfl)
  · have hT := hT_pos c_5 hT
    refine lv_iconst (v := (-1 : Int32)) hx hb dX12_at_8 (by decide) ?_
    exact ret_PI C0 hT dX12_at_9
/-! ThreeMeasuresModel.known -/
theorem dX12_known_0 : decode cX12_known 0 = .ok (.aload_n 0, 1) := by decide +kernel
theorem dX12_known_1 : decode cX12_known 1 = .ok (.iload_n 1, 1) := by decide +kernel
theorem dX12_known_2 : decode cX12_known 2 = .ok (.invokevirtual 165, 3) := by decide +kernel
theorem dX12_known_5 : decode cX12_known 5 = .ok (.ifCond .ne 5, 3) := by decide +kernel
theorem dX12_known_8 : decode cX12_known 8 = .ok (.iconst (-1), 1) := by decide +kernel
theorem dX12_known_9 : decode cX12_known 9 = .ok (.ireturn, 1) := by decide +kernel
theorem dX12_known_10 : decode cX12_known 10 = .ok (.iload_n 2, 1) := by decide +kernel
theorem dX12_known_11 : decode cX12_known 11 = .ok (.iconst 0, 1) := by decide +kernel
theorem dX12_known_12 : decode cX12_known 12 = .ok (.sipush 999, 3) := by decide +kernel
theorem dX12_known_15 : decode cX12_known 15 = .ok (.invokestatic 47, 3) := by decide +kernel
theorem dX12_known_18 : decode cX12_known 18 = .ok (.ifCond .eq 19, 3) := by decide +kernel
theorem dX12_known_21 : decode cX12_known 21 = .ok (.iload_n 3, 1) := by decide +kernel
theorem dX12_known_22 : decode cX12_known 22 = .ok (.iconst 0, 1) := by decide +kernel
theorem dX12_known_23 : decode cX12_known 23 = .ok (.sipush 999, 3) := by decide +kernel
theorem dX12_known_26 : decode cX12_known 26 = .ok (.invokestatic 47, 3) := by decide +kernel
theorem dX12_known_29 : decode cX12_known 29 = .ok (.ifCond .eq 8, 3) := by decide +kernel
theorem dX12_known_32 : decode cX12_known 32 = .ok (.iload_n 2, 1) := by decide +kernel
theorem dX12_known_33 : decode cX12_known 33 = .ok (.iload_n 3, 1) := by decide +kernel
theorem dX12_known_34 : decode cX12_known 34 = .ok (.if_icmp .le 6, 3) := by decide +kernel
theorem dX12_known_37 : decode cX12_known 37 = .ok (.bipush (-2), 2) := by decide +kernel
theorem dX12_known_39 : decode cX12_known 39 = .ok (.ireturn, 1) := by decide +kernel
theorem dX12_known_40 : decode cX12_known 40 = .ok (.aload_n 0, 1) := by decide +kernel
theorem dX12_known_41 : decode cX12_known 41 = .ok (.iload_n 1, 1) := by decide +kernel
theorem dX12_known_42 : decode cX12_known 42 = .ok (.invokevirtual 168, 3) := by decide +kernel
theorem dX12_known_45 : decode cX12_known 45 = .ok (.istore 4, 2) := by decide +kernel
theorem dX12_known_47 : decode cX12_known 47 = .ok (.aload_n 0, 1) := by decide +kernel
theorem dX12_known_48 : decode cX12_known 48 = .ok (.getfield 9, 3) := by decide +kernel
theorem dX12_known_51 : decode cX12_known 51 = .ok (.bipush 51, 2) := by decide +kernel
theorem dX12_known_53 : decode cX12_known 53 = .ok (.iload_n 1, 1) := by decide +kernel
theorem dX12_known_54 : decode cX12_known 54 = .ok (.iadd, 1) := by decide +kernel
theorem dX12_known_55 : decode cX12_known 55 = .ok (.iload_n 2, 1) := by decide +kernel
theorem dX12_known_56 : decode cX12_known 56 = .ok (.iastore, 1) := by decide +kernel
theorem dX12_known_57 : decode cX12_known 57 = .ok (.aload_n 0, 1) := by decide +kernel
theorem dX12_known_58 : decode cX12_known 58 = .ok (.getfield 9, 3) := by decide +kernel
theorem dX12_known_61 : decode cX12_known 61 = .ok (.bipush 57, 2) := by decide +kernel
theorem dX12_known_63 : decode cX12_known 63 = .ok (.iload_n 1, 1) := by decide +kernel
theorem dX12_known_64 : decode cX12_known 64 = .ok (.iadd, 1) := by decide +kernel
theorem dX12_known_65 : decode cX12_known 65 = .ok (.iload_n 3, 1) := by decide +kernel
theorem dX12_known_66 : decode cX12_known 66 = .ok (.iastore, 1) := by decide +kernel
theorem dX12_known_67 : decode cX12_known 67 = .ok (.iload 4, 2) := by decide +kernel
theorem dX12_known_69 : decode cX12_known 69 = .ok (.ireturn, 1) := by decide +kernel
def f_X12_known (σ : St) (a1 : Int32) (a2 : Int32) (a3 : Int32) : Int32 × St := (if (f_X12_isWall σ a1) = 0 then ((-1 : Int32), σ) else (if (f_X12_in a2 (0 : Int32) (999 : Int32)) = 0 then ((-2 : Int32), σ) else (if (f_X12_in a3 (0 : Int32) (999 : Int32)) = 0 then ((-2 : Int32), σ) else (if a2 ≤ a3 then ((f_X12_gapOf σ a1), (up2 (up2 σ 1 (ix ((51 : Int32) + a1)) a2) 1 (ix ((57 : Int32) + a1)) a3)) else ((-2 : Int32), σ)))))
set_option maxHeartbeats 600000 in
set_option maxRecDepth 100000 in
theorem k_X12_known (l : Launch) (g : GG) (σ : St) (a1 : Int32) (a2 : Int32) (a3 : Int32) (hI : IB (σ 1)) : MI l yX12_known (wsF yX12_known cX12_known 5 (some .int)) { frames := 2, cells := 0, slots := 0, locals := 43 } [.ref (g.2.2 100), .int (a1), .int (a2), .int (a3)] g (mW g) (fun _ => True) σ (f_X12_known σ a1 a2 a3) := by
  refine start_MI (by decide) (Nat.le_of_ble_eq_true rfl) ?_
  intro p e s m args below meth c C0 hK hBg hC ls hl
  generalize hAe : aA ((mW g) σ) = A at hC ⊢
  obtain ⟨hx, hb, hr, hml, hown, hts, hlocks⟩ := id C0
  have hl : lv_has ls 5 [(0, .ref (g.2.2 100)), (1, .int (a1)), (2, .int (a2)), (3, .int (a3))] := hl
  generalize hT : (f_X12_known σ a1 a2 a3) = tgt
  suffices key : ∀ (H : Heap) (locs : List Loc), WC g (mW g) A s.heap σ H locs → W p l e { frames := 2, cells := 0, slots := 0, locals := 43 } s m args below meth c H locs 0 0 (QMI below args s g (mW g) A tgt) (F0 m 0 ls []) from key _ _ hC
  intro H locs hC
  unfold f_X12_known at hT
  obtain ⟨⟨i0, i0'⟩, ⟨i1, i1'⟩, ⟨i2, i2'⟩, ⟨i3, i3'⟩, ⟨i4, i4'⟩, ⟨i5, i5'⟩, ⟨i6, i6'⟩, ⟨i7, i7'⟩, ⟨i8, i8'⟩, iK, iV, iL, iR, iW, iY, iG, iM, iB, iQ, iP, iT, iU⟩ := id hI
  refine lv_aload_n hx hb dX12_known_0 rfl (lv_at hl 0 rfl) ?_
  refine lv_iload_n hx hb dX12_known_1 rfl (lv_at hl 1 rfl) ?_
  refine m_ci (rest := []) (As := [.int (a1)]) (σ := σ) C0 hK hC.1 (hC.2.1.weaken (fun _ _ _ _ => trivial)) SV.tt (fun _ _ _ => trivial) cf_X12_isWall w_1147 rfl (k_X12_isWall l g σ a1 ) ⟨by decide, by decide⟩ hl.1 rfl rfl (Nat.le_of_ble_eq_true rfl) dX12_known_2 ⟨Nat.zero_le _, Nat.zero_le _⟩ ?_
  refine lv_if_ne (tgt := 10) hx hb dX12_known_5 (by decide) (fun c_5 => ?_) (fun c_5 => ?_)
  · have hT := hT_neg c_5 hT
    refine lv_iload_n hx hb dX12_known_10 rfl (lv_at hl 2 rfl) ?_
    refine lv_iconst (v := (0 : Int32)) hx hb dX12_known_11 (by decide) ?_
    refine lv_sipush (v := (999 : Int32)) hx hb dX12_known_12 (by decide) ?_
    refine s_ci (rest := []) (As := [.int (a2), .int ((0 : Int32)), .int ((999 : Int32))]) C0 cf_X12_in w_1060 (k_X12_in l a2 (0 : Int32) (999 : Int32) ) ⟨by decide, by decide⟩ hl.1 rfl rfl (Nat.le_of_ble_eq_true rfl) dX12_known_15 ⟨Nat.zero_le _, Nat.zero_le _⟩ ?_
    refine lv_if_eq (tgt := 37) hx hb dX12_known_18 (by decide) (fun c_18 => ?_) (fun c_18 => ?_)
    · have hT := hT_pos c_18 hT
      refine lv_bipush (v := (-2 : Int32)) hx hb dX12_known_37 (by decide) ?_
      exact ret_MI C0 hC hT dX12_known_39
    · have hT := hT_neg c_18 hT
      refine lv_iload_n hx hb dX12_known_21 rfl (lv_at hl 3 rfl) ?_
      refine lv_iconst (v := (0 : Int32)) hx hb dX12_known_22 (by decide) ?_
      refine lv_sipush (v := (999 : Int32)) hx hb dX12_known_23 (by decide) ?_
      refine s_ci (rest := []) (As := [.int (a3), .int ((0 : Int32)), .int ((999 : Int32))]) C0 cf_X12_in w_1060 (k_X12_in l a3 (0 : Int32) (999 : Int32) ) ⟨by decide, by decide⟩ hl.1 rfl rfl (Nat.le_of_ble_eq_true rfl) dX12_known_26 ⟨Nat.zero_le _, Nat.zero_le _⟩ ?_
      refine lv_if_eq (tgt := 37) hx hb dX12_known_29 (by decide) (fun c_29 => ?_) (fun c_29 => ?_)
      · have hT := hT_pos c_29 hT
        refine lv_bipush (v := (-2 : Int32)) hx hb dX12_known_37 (by decide) ?_
        exact ret_MI C0 hC hT dX12_known_39
      · have hT := hT_neg c_29 hT
        refine lv_iload_n hx hb dX12_known_32 rfl (lv_at hl 2 rfl) ?_
        refine lv_iload_n hx hb dX12_known_33 rfl (lv_at hl 3 rfl) ?_
        refine lv_icmp_le (tgt := 40) hx hb dX12_known_34 (by decide) (fun c_34 => ?_) (fun c_34 => ?_)
        · have hT := hT_pos c_34 hT
          refine lv_aload_n hx hb dX12_known_40 rfl (lv_at hl 0 rfl) ?_
          refine lv_iload_n hx hb dX12_known_41 rfl (lv_at hl 1 rfl) ?_
          have q42_h1 : 0 ≤ a1.toInt := by
            have : ((0 : Int32)).toInt = 0 := by decide
            have : ((999 : Int32)).toInt = 999 := by decide
            have := isWall_ne hI.2.1.1 c_5
            have := in_ne c_18
            have := in_ne c_29
            have := ti_le.mp c_34
            omega
          have q42_h2 : a1.toInt ≤ 6 := by
            have : ((0 : Int32)).toInt = 0 := by decide
            have : ((999 : Int32)).toInt = 999 := by decide
            have := isWall_ne hI.2.1.1 c_5
            have := in_ne c_18
            have := in_ne c_29
            have := ti_le.mp c_34
            omega
          refine m_ci (rest := []) (As := [.int (a1)]) (σ := σ) C0 hK hC.1 (hC.2.1.weaken (fun _ _ _ _ => trivial)) SV.tt (fun _ _ _ => trivial) cf_X12_gapOf w_1151 rfl (k_X12_gapOf l g σ a1 q42_h1 q42_h2) ⟨by decide, by decide⟩ hl.1 rfl rfl (Nat.le_of_ble_eq_true rfl) dX12_known_42 ⟨Nat.zero_le _, Nat.zero_le _⟩ ?_
          refine lv_istore (lv' := [(4, .int ((f_X12_gapOf σ a1))), (0, .ref (g.2.2 100)), (1, .int (a1)), (2, .int (a2)), (3, .int (a3))]) hx hb dX12_known_45 hl (by decide) rfl (fun ls hl => ?_)
          refine lv_aload_n hx hb dX12_known_47 rfl (lv_at hl 1 rfl) ?_
          refine m_get (σ := σ) (v := .ref (g.2.2 1)) C0 hK hC.1 1 (by decide) rfl w_968 dX12_known_48 ?_
          refine lv_bipush (v := (51 : Int32)) hx hb dX12_known_51 (by decide) ?_
          refine lv_iload_n hx hb dX12_known_53 rfl (lv_at hl 2 rfl) ?_
          refine lv_iadd hx hb dX12_known_54 ?_
          refine lv_iload_n hx hb dX12_known_55 rfl (lv_at hl 3 rfl) ?_
          have o_56 : vp_in ((51 : Int32) + a1) 916 := by
            have : ((0 : Int32)).toInt = 0 := by decide
            have : ((999 : Int32)).toInt = 999 := by decide
            have : ((51 : Int32)).toInt = 51 := by decide
            have := isWall_ne hI.2.1.1 c_5
            have := in_ne c_18
            have := in_ne c_29
            have := ti_le.mp c_34
            try have := ti_add (a := (51 : Int32)) (b := a1) (by omega) (by omega)
            exact vin (by omega) (by omega)
          refine m_ast (σ := σ) C0 hK hC 1 1 916 rfl (ms_1 g _) o_56 (ix ((51 : Int32) + a1)) rfl dX12_known_56 (fun H locs hC => ?_)
          refine lv_aload_n hx hb dX12_known_57 rfl (lv_at hl 1 rfl) ?_
          refine m_get (σ := (up2 σ 1 (ix ((51 : Int32) + a1)) a2)) (v := .ref (g.2.2 1)) C0 hK hC.1 1 (by decide) rfl w_968 dX12_known_58 ?_
          refine lv_bipush (v := (57 : Int32)) hx hb dX12_known_61 (by decide) ?_
          refine lv_iload_n hx hb dX12_known_63 rfl (lv_at hl 2 rfl) ?_
          refine lv_iadd hx hb dX12_known_64 ?_
          refine lv_iload_n hx hb dX12_known_65 rfl (lv_at hl 4 rfl) ?_
          have o_66 : vp_in ((57 : Int32) + a1) 916 := by
            have : ((0 : Int32)).toInt = 0 := by decide
            have : ((999 : Int32)).toInt = 999 := by decide
            have : ((57 : Int32)).toInt = 57 := by decide
            have := isWall_ne hI.2.1.1 c_5
            have := in_ne c_18
            have := in_ne c_29
            have := ti_le.mp c_34
            try have := ti_add (a := (57 : Int32)) (b := a1) (by omega) (by omega)
            exact vin (by omega) (by omega)
          refine m_ast (σ := (up2 σ 1 (ix ((51 : Int32) + a1)) a2)) C0 hK hC 1 1 916 rfl (ms_1 g _) o_66 (ix ((57 : Int32) + a1)) rfl dX12_known_66 (fun H locs hC => ?_)
          refine lv_iload hx hb dX12_known_67 (lv_at hl 0 rfl) ?_
          exact ret_MI C0 hC hT dX12_known_69
        · have hT := hT_neg c_34 hT
          refine lv_bipush (v := (-2 : Int32)) hx hb dX12_known_37 (by decide) ?_
          exact ret_MI C0 hC hT dX12_known_39
  · have hT := hT_pos c_5 hT
    refine lv_iconst (v := (-1 : Int32)) hx hb dX12_known_8 (by decide) ?_
    exact ret_MI C0 hC hT dX12_known_9
set_option maxRecDepth 20000 in
theorem w_1163 : (Cond.methodLink RX12 135 yX12_tellsOf) ∈ TB := inTB (List.mem_of_getElem? (i := 1163) (by decide +kernel)) (by decide +kernel)
set_option maxRecDepth 20000 in
theorem w_1166 : (Cond.code yX12_tellsOf cX12_tellsOf 3 (some .int)) ∈ TB := inTB (List.mem_of_getElem? (i := 1166) (by decide +kernel)) (by decide +kernel)
set_option maxRecDepth 20000 in
theorem w_1165 : (Cond.instanceMethod yX12_tellsOf) ∈ TB := inTB (List.mem_of_getElem? (i := 1165) (by decide +kernel)) (by decide +kernel)
set_option maxRecDepth 20000 in
theorem w_52 : (Cond.selects RX12 yX12_tellsOf yX12_tellsOf) ∈ TB := inTB (List.mem_of_getElem? (i := 52) (by decide +kernel)) (by decide +kernel)
theorem cf_X12_tellsOf : CF yX12_tellsOf cX12_tellsOf 3 (some .int) 2 := ⟨w_1165, w_52, w_75, w_1166, by decide +kernel, by decide +kernel, by decide +kernel⟩
/-! ThreeMeasuresModel.told -/
theorem dX12_told_0 : decode cX12_told 0 = .ok (.iload_n 1, 1) := by decide +kernel
theorem dX12_told_1 : decode cX12_told 1 = .ok (.ifCond .ne 13, 3) := by decide +kernel
theorem dX12_told_4 : decode cX12_told 4 = .ok (.aload_n 0, 1) := by decide +kernel
theorem dX12_told_5 : decode cX12_told 5 = .ok (.getfield 9, 3) := by decide +kernel
theorem dX12_told_8 : decode cX12_told 8 = .ok (.bipush 8, 2) := by decide +kernel
theorem dX12_told_10 : decode cX12_told 10 = .ok (.iaload, 1) := by decide +kernel
theorem dX12_told_11 : decode cX12_told 11 = .ok (.goto 37, 3) := by decide +kernel
theorem dX12_told_14 : decode cX12_told 14 = .ok (.iload_n 1, 1) := by decide +kernel
theorem dX12_told_15 : decode cX12_told 15 = .ok (.iconst 1, 1) := by decide +kernel
theorem dX12_told_16 : decode cX12_told 16 = .ok (.if_icmp .ne 15, 3) := by decide +kernel
theorem dX12_told_19 : decode cX12_told 19 = .ok (.aload_n 0, 1) := by decide +kernel
theorem dX12_told_20 : decode cX12_told 20 = .ok (.sipush 201, 3) := by decide +kernel
theorem dX12_told_23 : decode cX12_told 23 = .ok (.bipush 40, 2) := by decide +kernel
theorem dX12_told_25 : decode cX12_told 25 = .ok (.invokevirtual 135, 3) := by decide +kernel
theorem dX12_told_28 : decode cX12_told 28 = .ok (.goto 20, 3) := by decide +kernel
theorem dX12_told_31 : decode cX12_told 31 = .ok (.iload_n 1, 1) := by decide +kernel
theorem dX12_told_32 : decode cX12_told 32 = .ok (.iconst 2, 1) := by decide +kernel
theorem dX12_told_33 : decode cX12_told 33 = .ok (.if_icmp .ne 14, 3) := by decide +kernel
theorem dX12_told_36 : decode cX12_told 36 = .ok (.aload_n 0, 1) := by decide +kernel
theorem dX12_told_37 : decode cX12_told 37 = .ok (.sipush 206, 3) := by decide +kernel
theorem dX12_told_40 : decode cX12_told 40 = .ok (.iconst 1, 1) := by decide +kernel
theorem dX12_told_41 : decode cX12_told 41 = .ok (.invokevirtual 135, 3) := by decide +kernel
theorem dX12_told_44 : decode cX12_told 44 = .ok (.goto 4, 3) := by decide +kernel
theorem dX12_told_47 : decode cX12_told 47 = .ok (.iconst (-1), 1) := by decide +kernel
theorem dX12_told_48 : decode cX12_told 48 = .ok (.ireturn, 1) := by decide +kernel
def f_X12_told (σ : St) (a1 : Int32) : Int32 := (if a1 = 0 then (σ 1 8) else (if a1 = (1 : Int32) then (f_X12_tellsOf σ (201 : Int32) (40 : Int32)) else (if a1 = (2 : Int32) then (f_X12_tellsOf σ (206 : Int32) (1 : Int32)) else (-1 : Int32))))
set_option maxHeartbeats 600000 in
set_option maxRecDepth 100000 in
theorem k_X12_told (l : Launch) (g : GG) (σ : St) (a1 : Int32) (hI : IB (σ 1)) : PI l yX12_told (wsF yX12_told cX12_told 2 (some .int)) { frames := 1, cells := 0, slots := 0, locals := 22 } [.ref (g.2.2 100), .int (a1)] (GB g (mW g) (fun _ => True) σ) (f_X12_told σ a1) := by
  refine start_PI (by decide) (Nat.le_of_ble_eq_true rfl) ?_
  intro p e s m args below meth c C0 hG ls hl
  obtain ⟨hK, hP, hDD, hBg⟩ := hG
  obtain ⟨hx, hb, hr, hml, hown, hts, hlocks⟩ := id C0
  have hl : lv_has ls 2 [(0, .ref (g.2.2 100)), (1, .int (a1))] := hl
  generalize hT : (f_X12_told σ a1) = tgt
  unfold f_X12_told at hT
  obtain ⟨⟨i0, i0'⟩, ⟨i1, i1'⟩, ⟨i2, i2'⟩, ⟨i3, i3'⟩, ⟨i4, i4'⟩, ⟨i5, i5'⟩, ⟨i6, i6'⟩, ⟨i7, i7'⟩, ⟨i8, i8'⟩, iK, iV, iL, iR, iW, iY, iG, iM, iB, iQ, iP, iT, iU⟩ := id hI
  refine lv_iload_n hx hb dX12_told_0 rfl (lv_at hl 1 rfl) ?_
  have J1 : ∀ v : Int32, v = (if a1 = 0 then (σ 1 8) else (if a1 = (1 : Int32) then (f_X12_tellsOf σ (201 : Int32) (40 : Int32)) else (if a1 = (2 : Int32) then (f_X12_tellsOf σ (206 : Int32) (1 : Int32)) else (-1 : Int32)))) → W p l e { frames := 1, cells := 0, slots := 0, locals := 22 } s m args below meth c s.heap [] 0 0 (QPI below args s tgt) (F0 m 48 ls [.int (v)]) := by
    intro v ev
    subst ev
    exact ret_PI C0 hT dX12_told_48
  refine lv_if_ne (tgt := 14) hx hb dX12_told_1 (by decide) (fun c_1 => ?_) (fun c_1 => ?_)
  · refine lv_iload_n hx hb dX12_told_14 rfl (lv_at hl 1 rfl) ?_
    refine lv_iconst (v := (1 : Int32)) hx hb dX12_told_15 (by decide) ?_
    refine lv_icmp_ne (tgt := 31) hx hb dX12_told_16 (by decide) (fun c_16 => ?_) (fun c_16 => ?_)
    · refine lv_iload_n hx hb dX12_told_31 rfl (lv_at hl 1 rfl) ?_
      refine lv_iconst (v := (2 : Int32)) hx hb dX12_told_32 (by decide) ?_
      refine lv_icmp_ne (tgt := 47) hx hb dX12_told_33 (by decide) (fun c_33 => ?_) (fun c_33 => ?_)
      · refine lv_iconst (v := (-1 : Int32)) hx hb dX12_told_47 (by decide) ?_
        exact J1 _ (iv_neg c_1 (iv_neg c_16 (iv_neg c_33 rfl)))
      · refine lv_aload_n hx hb dX12_told_36 rfl (lv_at hl 0 rfl) ?_
        refine lv_sipush (v := (206 : Int32)) hx hb dX12_told_37 (by decide) ?_
        refine lv_iconst (v := (1 : Int32)) hx hb dX12_told_40 (by decide) ?_
        have q41_h1 : 0 ≤ (206 : Int32).toInt := by
          have : ((0 : Int32)).toInt = 0 := by decide
          have : ((1 : Int32)).toInt = 1 := by decide
          have : ((2 : Int32)).toInt = 2 := by decide
          have : ((206 : Int32)).toInt = 206 := by decide
          have := mt ti_eq.mpr c_1
          have := mt ti_eq.mpr c_16
          have := ti_eq.mp c_33
          omega
        have q41_h2 : (206 : Int32).toInt ≤ 900 := by
          have : ((0 : Int32)).toInt = 0 := by decide
          have : ((1 : Int32)).toInt = 1 := by decide
          have : ((2 : Int32)).toInt = 2 := by decide
          have : ((206 : Int32)).toInt = 206 := by decide
          have := mt ti_eq.mpr c_1
          have := mt ti_eq.mpr c_16
          have := ti_eq.mp c_33
          omega
        refine m_ci (rest := []) (As := [.int ((206 : Int32)), .int ((1 : Int32))]) (σ := σ) C0 hK hP hDD SV.tt (fun _ _ _ => trivial) cf_X12_tellsOf w_1163 rfl (k_X12_tellsOf l g σ (206 : Int32) (1 : Int32) hI q41_h1 q41_h2) ⟨by decide, by decide⟩ hl.1 rfl rfl (Nat.le_of_ble_eq_true rfl) dX12_told_41 ⟨Nat.zero_le _, Nat.zero_le _⟩ ?_
        refine lv_goto (tgt := 48) hx hb dX12_told_44 (by decide) ?_
        exact J1 _ (iv_neg c_1 (iv_neg c_16 (iv_pos c_33 rfl)))
    · refine lv_aload_n hx hb dX12_told_19 rfl (lv_at hl 0 rfl) ?_
      refine lv_sipush (v := (201 : Int32)) hx hb dX12_told_20 (by decide) ?_
      refine lv_bipush (v := (40 : Int32)) hx hb dX12_told_23 (by decide) ?_
      have q25_h1 : 0 ≤ (201 : Int32).toInt := by
        have : ((0 : Int32)).toInt = 0 := by decide
        have : ((1 : Int32)).toInt = 1 := by decide
        have : ((201 : Int32)).toInt = 201 := by decide
        have : ((40 : Int32)).toInt = 40 := by decide
        have := mt ti_eq.mpr c_1
        have := ti_eq.mp c_16
        omega
      have q25_h2 : (201 : Int32).toInt ≤ 900 := by
        have : ((0 : Int32)).toInt = 0 := by decide
        have : ((1 : Int32)).toInt = 1 := by decide
        have : ((201 : Int32)).toInt = 201 := by decide
        have : ((40 : Int32)).toInt = 40 := by decide
        have := mt ti_eq.mpr c_1
        have := ti_eq.mp c_16
        omega
      refine m_ci (rest := []) (As := [.int ((201 : Int32)), .int ((40 : Int32))]) (σ := σ) C0 hK hP hDD SV.tt (fun _ _ _ => trivial) cf_X12_tellsOf w_1163 rfl (k_X12_tellsOf l g σ (201 : Int32) (40 : Int32) hI q25_h1 q25_h2) ⟨by decide, by decide⟩ hl.1 rfl rfl (Nat.le_of_ble_eq_true rfl) dX12_told_25 ⟨Nat.zero_le _, Nat.zero_le _⟩ ?_
      refine lv_goto (tgt := 48) hx hb dX12_told_28 (by decide) ?_
      exact J1 _ (iv_neg c_1 (iv_pos c_16 rfl))
  · refine lv_aload_n hx hb dX12_told_4 rfl (lv_at hl 0 rfl) ?_
    refine m_get (σ := σ) (v := .ref (g.2.2 1)) C0 hK hP 1 (by decide) rfl w_968 dX12_told_5 ?_
    refine lv_bipush (v := (8 : Int32)) hx hb dX12_told_8 (by decide) ?_
    refine m_ald (σ := σ) C0 hK hP 1 1 916 rfl (vin_l (by decide)) 8 (by decide) dX12_told_10 ?_
    refine lv_goto (tgt := 48) hx hb dX12_told_11 (by decide) ?_
    exact J1 _ (iv_pos c_1 rfl)
/-! ThreeMeasuresModel.step -/
theorem dX12_step_0 : decode cX12_step 0 = .ok (.iload_n 1, 1) := by decide +kernel
theorem dX12_step_1 : decode cX12_step 1 = .ok (.iconst (-1), 1) := by decide +kernel
theorem dX12_step_2 : decode cX12_step 2 = .ok (.if_icmp .ne 12, 3) := by decide +kernel
theorem dX12_step_5 : decode cX12_step 5 = .ok (.aload_n 0, 1) := by decide +kernel
theorem dX12_step_6 : decode cX12_step 6 = .ok (.getfield 9, 3) := by decide +kernel
theorem dX12_step_9 : decode cX12_step 9 = .ok (.iconst 3, 1) := by decide +kernel
theorem dX12_step_10 : decode cX12_step 10 = .ok (.iconst 0, 1) := by decide +kernel
theorem dX12_step_11 : decode cX12_step 11 = .ok (.iastore, 1) := by decide +kernel
theorem dX12_step_12 : decode cX12_step 12 = .ok (.iconst 0, 1) := by decide +kernel
theorem dX12_step_13 : decode cX12_step 13 = .ok (.ireturn, 1) := by decide +kernel
theorem dX12_step_14 : decode cX12_step 14 = .ok (.iload_n 1, 1) := by decide +kernel
theorem dX12_step_15 : decode cX12_step 15 = .ok (.iconst 0, 1) := by decide +kernel
theorem dX12_step_16 : decode cX12_step 16 = .ok (.iconst 3, 1) := by decide +kernel
theorem dX12_step_17 : decode cX12_step 17 = .ok (.invokestatic 47, 3) := by decide +kernel
theorem dX12_step_20 : decode cX12_step 20 = .ok (.ifCond .ne 5, 3) := by decide +kernel
theorem dX12_step_23 : decode cX12_step 23 = .ok (.iconst (-1), 1) := by decide +kernel
theorem dX12_step_24 : decode cX12_step 24 = .ok (.ireturn, 1) := by decide +kernel
theorem dX12_step_25 : decode cX12_step 25 = .ok (.iload_n 2, 1) := by decide +kernel
theorem dX12_step_26 : decode cX12_step 26 = .ok (.iconst 1, 1) := by decide +kernel
theorem dX12_step_27 : decode cX12_step 27 = .ok (.bipush 99, 2) := by decide +kernel
theorem dX12_step_29 : decode cX12_step 29 = .ok (.invokestatic 47, 3) := by decide +kernel
theorem dX12_step_32 : decode cX12_step 32 = .ok (.ifCond .ne 6, 3) := by decide +kernel
theorem dX12_step_35 : decode cX12_step 35 = .ok (.bipush (-2), 2) := by decide +kernel
theorem dX12_step_37 : decode cX12_step 37 = .ok (.ireturn, 1) := by decide +kernel
theorem dX12_step_38 : decode cX12_step 38 = .ok (.aload_n 0, 1) := by decide +kernel
theorem dX12_step_39 : decode cX12_step 39 = .ok (.getfield 9, 3) := by decide +kernel
theorem dX12_step_42 : decode cX12_step 42 = .ok (.iconst 3, 1) := by decide +kernel
theorem dX12_step_43 : decode cX12_step 43 = .ok (.iaload, 1) := by decide +kernel
theorem dX12_step_44 : decode cX12_step 44 = .ok (.bipush 8, 2) := by decide +kernel
theorem dX12_step_46 : decode cX12_step 46 = .ok (.if_icmp .ne 6, 3) := by decide +kernel
theorem dX12_step_49 : decode cX12_step 49 = .ok (.bipush (-4), 2) := by decide +kernel
theorem dX12_step_51 : decode cX12_step 51 = .ok (.ireturn, 1) := by decide +kernel
theorem dX12_step_52 : decode cX12_step 52 = .ok (.aload_n 0, 1) := by decide +kernel
theorem dX12_step_53 : decode cX12_step 53 = .ok (.getfield 9, 3) := by decide +kernel
theorem dX12_step_56 : decode cX12_step 56 = .ok (.bipush 63, 2) := by decide +kernel
theorem dX12_step_58 : decode cX12_step 58 = .ok (.aload_n 0, 1) := by decide +kernel
theorem dX12_step_59 : decode cX12_step 59 = .ok (.getfield 9, 3) := by decide +kernel
theorem dX12_step_62 : decode cX12_step 62 = .ok (.iconst 3, 1) := by decide +kernel
theorem dX12_step_63 : decode cX12_step 63 = .ok (.iaload, 1) := by decide +kernel
theorem dX12_step_64 : decode cX12_step 64 = .ok (.iadd, 1) := by decide +kernel
theorem dX12_step_65 : decode cX12_step 65 = .ok (.iload_n 1, 1) := by decide +kernel
theorem dX12_step_66 : decode cX12_step 66 = .ok (.iastore, 1) := by decide +kernel
theorem dX12_step_67 : decode cX12_step 67 = .ok (.aload_n 0, 1) := by decide +kernel
theorem dX12_step_68 : decode cX12_step 68 = .ok (.getfield 9, 3) := by decide +kernel
theorem dX12_step_71 : decode cX12_step 71 = .ok (.bipush 71, 2) := by decide +kernel
theorem dX12_step_73 : decode cX12_step 73 = .ok (.aload_n 0, 1) := by decide +kernel
theorem dX12_step_74 : decode cX12_step 74 = .ok (.getfield 9, 3) := by decide +kernel
theorem dX12_step_77 : decode cX12_step 77 = .ok (.iconst 3, 1) := by decide +kernel
theorem dX12_step_78 : decode cX12_step 78 = .ok (.iaload, 1) := by decide +kernel
theorem dX12_step_79 : decode cX12_step 79 = .ok (.iadd, 1) := by decide +kernel
theorem dX12_step_80 : decode cX12_step 80 = .ok (.iload_n 2, 1) := by decide +kernel
theorem dX12_step_81 : decode cX12_step 81 = .ok (.iastore, 1) := by decide +kernel
theorem dX12_step_82 : decode cX12_step 82 = .ok (.aload_n 0, 1) := by decide +kernel
theorem dX12_step_83 : decode cX12_step 83 = .ok (.getfield 9, 3) := by decide +kernel
theorem dX12_step_86 : decode cX12_step 86 = .ok (.iconst 3, 1) := by decide +kernel
theorem dX12_step_87 : decode cX12_step 87 = .ok (.dup2, 1) := by decide +kernel
theorem dX12_step_88 : decode cX12_step 88 = .ok (.iaload, 1) := by decide +kernel
theorem dX12_step_89 : decode cX12_step 89 = .ok (.iconst 1, 1) := by decide +kernel
theorem dX12_step_90 : decode cX12_step 90 = .ok (.iadd, 1) := by decide +kernel
theorem dX12_step_91 : decode cX12_step 91 = .ok (.iastore, 1) := by decide +kernel
theorem dX12_step_92 : decode cX12_step 92 = .ok (.aload_n 0, 1) := by decide +kernel
theorem dX12_step_93 : decode cX12_step 93 = .ok (.getfield 9, 3) := by decide +kernel
theorem dX12_step_96 : decode cX12_step 96 = .ok (.iconst 3, 1) := by decide +kernel
theorem dX12_step_97 : decode cX12_step 97 = .ok (.iaload, 1) := by decide +kernel
theorem dX12_step_98 : decode cX12_step 98 = .ok (.ireturn, 1) := by decide +kernel
def f_X12_step (σ : St) (a1 : Int32) (a2 : Int32) : Int32 × St := (if a1 = (-1 : Int32) then ((0 : Int32), (up2 σ 1 3 (0 : Int32))) else (if (f_X12_in a1 (0 : Int32) (3 : Int32)) = 0 then ((-1 : Int32), σ) else (if (f_X12_in a2 (1 : Int32) (99 : Int32)) = 0 then ((-2 : Int32), σ) else (if (σ 1 3) = (8 : Int32) then ((-4 : Int32), σ) else ((((up2 (up2 σ 1 (ix ((63 : Int32) + (σ 1 3))) a1) 1 (ix ((71 : Int32) + ((up2 σ 1 (ix ((63 : Int32) + (σ 1 3))) a1) 1 3))) a2) 1 3) + (1 : Int32)), (up2 (up2 (up2 σ 1 (ix ((63 : Int32) + (σ 1 3))) a1) 1 (ix ((71 : Int32) + ((up2 σ 1 (ix ((63 : Int32) + (σ 1 3))) a1) 1 3))) a2) 1 3 (((up2 (up2 σ 1 (ix ((63 : Int32) + (σ 1 3))) a1) 1 (ix ((71 : Int32) + ((up2 σ 1 (ix ((63 : Int32) + (σ 1 3))) a1) 1 3))) a2) 1 3) + (1 : Int32))))))))
set_option maxHeartbeats 600000 in
set_option maxRecDepth 100000 in
theorem k_X12_step (l : Launch) (g : GG) (σ : St) (a1 : Int32) (a2 : Int32) (hI : IB (σ 1)) : MI l yX12_step (wsF yX12_step cX12_step 3 (some .int)) { frames := 1, cells := 0, slots := 0, locals := 22 } [.ref (g.2.2 100), .int (a1), .int (a2)] g (mW g) (fun _ => True) σ (f_X12_step σ a1 a2) := by
  refine start_MI (by decide) (Nat.le_of_ble_eq_true rfl) ?_
  intro p e s m args below meth c C0 hK hBg hC ls hl
  generalize hAe : aA ((mW g) σ) = A at hC ⊢
  obtain ⟨hx, hb, hr, hml, hown, hts, hlocks⟩ := id C0
  have hl : lv_has ls 3 [(0, .ref (g.2.2 100)), (1, .int (a1)), (2, .int (a2))] := hl
  generalize hT : (f_X12_step σ a1 a2) = tgt
  suffices key : ∀ (H : Heap) (locs : List Loc), WC g (mW g) A s.heap σ H locs → W p l e { frames := 1, cells := 0, slots := 0, locals := 22 } s m args below meth c H locs 0 0 (QMI below args s g (mW g) A tgt) (F0 m 0 ls []) from key _ _ hC
  intro H locs hC
  unfold f_X12_step at hT
  obtain ⟨⟨i0, i0'⟩, ⟨i1, i1'⟩, ⟨i2, i2'⟩, ⟨i3, i3'⟩, ⟨i4, i4'⟩, ⟨i5, i5'⟩, ⟨i6, i6'⟩, ⟨i7, i7'⟩, ⟨i8, i8'⟩, iK, iV, iL, iR, iW, iY, iG, iM, iB, iQ, iP, iT, iU⟩ := id hI
  refine lv_iload_n hx hb dX12_step_0 rfl (lv_at hl 1 rfl) ?_
  refine lv_iconst (v := (-1 : Int32)) hx hb dX12_step_1 (by decide) ?_
  refine lv_icmp_ne (tgt := 14) hx hb dX12_step_2 (by decide) (fun c_2 => ?_) (fun c_2 => ?_)
  · have hT := hT_neg c_2 hT
    refine lv_iload_n hx hb dX12_step_14 rfl (lv_at hl 1 rfl) ?_
    refine lv_iconst (v := (0 : Int32)) hx hb dX12_step_15 (by decide) ?_
    refine lv_iconst (v := (3 : Int32)) hx hb dX12_step_16 (by decide) ?_
    refine s_ci (rest := []) (As := [.int (a1), .int ((0 : Int32)), .int ((3 : Int32))]) C0 cf_X12_in w_1060 (k_X12_in l a1 (0 : Int32) (3 : Int32) ) ⟨by decide, by decide⟩ hl.1 rfl rfl (Nat.le_of_ble_eq_true rfl) dX12_step_17 ⟨Nat.zero_le _, Nat.zero_le _⟩ ?_
    refine lv_if_ne (tgt := 25) hx hb dX12_step_20 (by decide) (fun c_20 => ?_) (fun c_20 => ?_)
    · have hT := hT_neg c_20 hT
      refine lv_iload_n hx hb dX12_step_25 rfl (lv_at hl 2 rfl) ?_
      refine lv_iconst (v := (1 : Int32)) hx hb dX12_step_26 (by decide) ?_
      refine lv_bipush (v := (99 : Int32)) hx hb dX12_step_27 (by decide) ?_
      refine s_ci (rest := []) (As := [.int (a2), .int ((1 : Int32)), .int ((99 : Int32))]) C0 cf_X12_in w_1060 (k_X12_in l a2 (1 : Int32) (99 : Int32) ) ⟨by decide, by decide⟩ hl.1 rfl rfl (Nat.le_of_ble_eq_true rfl) dX12_step_29 ⟨Nat.zero_le _, Nat.zero_le _⟩ ?_
      refine lv_if_ne (tgt := 38) hx hb dX12_step_32 (by decide) (fun c_32 => ?_) (fun c_32 => ?_)
      · have hT := hT_neg c_32 hT
        refine lv_aload_n hx hb dX12_step_38 rfl (lv_at hl 0 rfl) ?_
        refine m_get (σ := σ) (v := .ref (g.2.2 1)) C0 hK hC.1 1 (by decide) rfl w_968 dX12_step_39 ?_
        refine lv_iconst (v := (3 : Int32)) hx hb dX12_step_42 (by decide) ?_
        refine m_ald (σ := σ) C0 hK hC.1 1 1 916 rfl (vin_l (by decide)) 3 (by decide) dX12_step_43 ?_
        refine lv_bipush (v := (8 : Int32)) hx hb dX12_step_44 (by decide) ?_
        refine lv_icmp_ne (tgt := 52) hx hb dX12_step_46 (by decide) (fun c_46 => ?_) (fun c_46 => ?_)
        · have hT := hT_neg c_46 hT
          refine lv_aload_n hx hb dX12_step_52 rfl (lv_at hl 0 rfl) ?_
          refine m_get (σ := σ) (v := .ref (g.2.2 1)) C0 hK hC.1 1 (by decide) rfl w_968 dX12_step_53 ?_
          refine lv_bipush (v := (63 : Int32)) hx hb dX12_step_56 (by decide) ?_
          refine lv_aload_n hx hb dX12_step_58 rfl (lv_at hl 0 rfl) ?_
          refine m_get (σ := σ) (v := .ref (g.2.2 1)) C0 hK hC.1 1 (by decide) rfl w_968 dX12_step_59 ?_
          refine lv_iconst (v := (3 : Int32)) hx hb dX12_step_62 (by decide) ?_
          refine m_ald (σ := σ) C0 hK hC.1 1 1 916 rfl (vin_l (by decide)) 3 (by decide) dX12_step_63 ?_
          refine lv_iadd hx hb dX12_step_64 ?_
          refine lv_iload_n hx hb dX12_step_65 rfl (lv_at hl 1 rfl) ?_
          have o_66 : vp_in ((63 : Int32) + (σ 1 3)) 916 := by
            have : ((-1 : Int32)).toInt = -1 := by decide
            have : ((0 : Int32)).toInt = 0 := by decide
            have : ((3 : Int32)).toInt = 3 := by decide
            have : ((1 : Int32)).toInt = 1 := by decide
            have : ((99 : Int32)).toInt = 99 := by decide
            have : ((8 : Int32)).toInt = 8 := by decide
            have : ((63 : Int32)).toInt = 63 := by decide
            have := mt ti_eq.mpr c_2
            have := in_ne c_20
            have := in_ne c_32
            have := mt ti_eq.mpr c_46
            try have := ti_add (a := (63 : Int32)) (b := (σ 1 3)) (by omega) (by omega)
            exact vin (by omega) (by omega)
          refine m_ast (σ := σ) C0 hK hC 1 1 916 rfl (ms_1 g _) o_66 (ix ((63 : Int32) + (σ 1 3))) rfl dX12_step_66 (fun H locs hC => ?_)
          refine lv_aload_n hx hb dX12_step_67 rfl (lv_at hl 0 rfl) ?_
          refine m_get (σ := (up2 σ 1 (ix ((63 : Int32) + (σ 1 3))) a1)) (v := .ref (g.2.2 1)) C0 hK hC.1 1 (by decide) rfl w_968 dX12_step_68 ?_
          refine lv_bipush (v := (71 : Int32)) hx hb dX12_step_71 (by decide) ?_
          refine lv_aload_n hx hb dX12_step_73 rfl (lv_at hl 0 rfl) ?_
          refine m_get (σ := (up2 σ 1 (ix ((63 : Int32) + (σ 1 3))) a1)) (v := .ref (g.2.2 1)) C0 hK hC.1 1 (by decide) rfl w_968 dX12_step_74 ?_
          refine lv_iconst (v := (3 : Int32)) hx hb dX12_step_77 (by decide) ?_
          refine m_ald (σ := (up2 σ 1 (ix ((63 : Int32) + (σ 1 3))) a1)) C0 hK hC.1 1 1 916 rfl (vin_l (by decide)) 3 (by decide) dX12_step_78 ?_
          refine lv_iadd hx hb dX12_step_79 ?_
          refine lv_iload_n hx hb dX12_step_80 rfl (lv_at hl 2 rfl) ?_
          have o_81 : vp_in ((71 : Int32) + ((up2 σ 1 (ix ((63 : Int32) + (σ 1 3))) a1) 1 3)) 916 := by
            have : ((-1 : Int32)).toInt = -1 := by decide
            have : ((0 : Int32)).toInt = 0 := by decide
            have : ((3 : Int32)).toInt = 3 := by decide
            have : ((1 : Int32)).toInt = 1 := by decide
            have : ((99 : Int32)).toInt = 99 := by decide
            have : ((8 : Int32)).toInt = 8 := by decide
            have : ((71 : Int32)).toInt = 71 := by decide
            have : ((63 : Int32)).toInt = 63 := by decide
            have := mt ti_eq.mpr c_2
            have := in_ne c_20
            have := in_ne c_32
            have := mt ti_eq.mpr c_46
            try have := ti_add (a := (63 : Int32)) (b := (σ 1 3)) (by omega) (by omega)
            try have := up2_geI (σ := σ) (k := 1) (j := 3) (E := ((63 : Int32) + (σ 1 3))) (v := a1) (by omega)
            try have := ti_add (a := (71 : Int32)) (b := ((up2 σ 1 (ix ((63 : Int32) + (σ 1 3))) a1) 1 3)) (by omega) (by omega)
            exact vin (by omega) (by omega)
          refine m_ast (σ := (up2 σ 1 (ix ((63 : Int32) + (σ 1 3))) a1)) C0 hK hC 1 1 916 rfl (ms_1 g _) o_81 (ix ((71 : Int32) + ((up2 σ 1 (ix ((63 : Int32) + (σ 1 3))) a1) 1 3))) rfl dX12_step_81 (fun H locs hC => ?_)
          refine lv_aload_n hx hb dX12_step_82 rfl (lv_at hl 0 rfl) ?_
          refine m_get (σ := (up2 (up2 σ 1 (ix ((63 : Int32) + (σ 1 3))) a1) 1 (ix ((71 : Int32) + ((up2 σ 1 (ix ((63 : Int32) + (σ 1 3))) a1) 1 3))) a2)) (v := .ref (g.2.2 1)) C0 hK hC.1 1 (by decide) rfl w_968 dX12_step_83 ?_
          refine lv_iconst (v := (3 : Int32)) hx hb dX12_step_86 (by decide) ?_
          refine lv_dup2_11 hx hb dX12_step_87 rfl rfl ?_
          refine m_ald (σ := (up2 (up2 σ 1 (ix ((63 : Int32) + (σ 1 3))) a1) 1 (ix ((71 : Int32) + ((up2 σ 1 (ix ((63 : Int32) + (σ 1 3))) a1) 1 3))) a2)) C0 hK hC.1 1 1 916 rfl (vin_l (by decide)) 3 (by decide) dX12_step_88 ?_
          refine lv_iconst (v := (1 : Int32)) hx hb dX12_step_89 (by decide) ?_
          refine lv_iadd hx hb dX12_step_90 ?_
          refine m_ast (σ := (up2 (up2 σ 1 (ix ((63 : Int32) + (σ 1 3))) a1) 1 (ix ((71 : Int32) + ((up2 σ 1 (ix ((63 : Int32) + (σ 1 3))) a1) 1 3))) a2)) C0 hK hC 1 1 916 rfl (ms_1 g _) (vin_l (by decide)) 3 (by decide) dX12_step_91 (fun H locs hC => ?_)
          refine lv_aload_n hx hb dX12_step_92 rfl (lv_at hl 0 rfl) ?_
          refine m_get (σ := (up2 (up2 (up2 σ 1 (ix ((63 : Int32) + (σ 1 3))) a1) 1 (ix ((71 : Int32) + ((up2 σ 1 (ix ((63 : Int32) + (σ 1 3))) a1) 1 3))) a2) 1 3 (((up2 (up2 σ 1 (ix ((63 : Int32) + (σ 1 3))) a1) 1 (ix ((71 : Int32) + ((up2 σ 1 (ix ((63 : Int32) + (σ 1 3))) a1) 1 3))) a2) 1 3) + (1 : Int32)))) (v := .ref (g.2.2 1)) C0 hK hC.1 1 (by decide) rfl w_968 dX12_step_93 ?_
          refine lv_iconst (v := (3 : Int32)) hx hb dX12_step_96 (by decide) ?_
          refine m_ald (σ := (up2 (up2 (up2 σ 1 (ix ((63 : Int32) + (σ 1 3))) a1) 1 (ix ((71 : Int32) + ((up2 σ 1 (ix ((63 : Int32) + (σ 1 3))) a1) 1 3))) a2) 1 3 (((up2 (up2 σ 1 (ix ((63 : Int32) + (σ 1 3))) a1) 1 (ix ((71 : Int32) + ((up2 σ 1 (ix ((63 : Int32) + (σ 1 3))) a1) 1 3))) a2) 1 3) + (1 : Int32)))) C0 hK hC.1 1 1 916 rfl (vin_l (by decide)) 3 (by decide) dX12_step_97 ?_
          exact ret_MI C0 hC hT dX12_step_98
        · have hT := hT_pos c_46 hT
          refine lv_bipush (v := (-4 : Int32)) hx hb dX12_step_49 (by decide) ?_
          exact ret_MI C0 hC hT dX12_step_51
      · have hT := hT_pos c_32 hT
        refine lv_bipush (v := (-2 : Int32)) hx hb dX12_step_35 (by decide) ?_
        exact ret_MI C0 hC hT dX12_step_37
    · have hT := hT_pos c_20 hT
      refine lv_iconst (v := (-1 : Int32)) hx hb dX12_step_23 (by decide) ?_
      exact ret_MI C0 hC hT dX12_step_24
  · have hT := hT_pos c_2 hT
    refine lv_aload_n hx hb dX12_step_5 rfl (lv_at hl 0 rfl) ?_
    refine m_get (σ := σ) (v := .ref (g.2.2 1)) C0 hK hC.1 1 (by decide) rfl w_968 dX12_step_6 ?_
    refine lv_iconst (v := (3 : Int32)) hx hb dX12_step_9 (by decide) ?_
    refine lv_iconst (v := (0 : Int32)) hx hb dX12_step_10 (by decide) ?_
    refine m_ast (σ := σ) C0 hK hC 1 1 916 rfl (ms_1 g _) (vin_l (by decide)) 3 (by decide) dX12_step_11 (fun H locs hC => ?_)
    refine lv_iconst (v := (0 : Int32)) hx hb dX12_step_12 (by decide) ?_
    exact ret_MI C0 hC hT dX12_step_13
/-! ThreeMeasuresModel.mark -/
theorem dX12_mark_0 : decode cX12_mark 0 = .ok (.iload_n 1, 1) := by decide +kernel
theorem dX12_mark_1 : decode cX12_mark 1 = .ok (.iconst (-1), 1) := by decide +kernel
theorem dX12_mark_2 : decode cX12_mark 2 = .ok (.if_icmp .ne 12, 3) := by decide +kernel
theorem dX12_mark_5 : decode cX12_mark 5 = .ok (.aload_n 0, 1) := by decide +kernel
theorem dX12_mark_6 : decode cX12_mark 6 = .ok (.getfield 9, 3) := by decide +kernel
theorem dX12_mark_9 : decode cX12_mark 9 = .ok (.iconst 4, 1) := by decide +kernel
theorem dX12_mark_10 : decode cX12_mark 10 = .ok (.iconst 0, 1) := by decide +kernel
theorem dX12_mark_11 : decode cX12_mark 11 = .ok (.iastore, 1) := by decide +kernel
theorem dX12_mark_12 : decode cX12_mark 12 = .ok (.iconst 0, 1) := by decide +kernel
theorem dX12_mark_13 : decode cX12_mark 13 = .ok (.ireturn, 1) := by decide +kernel
theorem dX12_mark_14 : decode cX12_mark 14 = .ok (.iload_n 1, 1) := by decide +kernel
theorem dX12_mark_15 : decode cX12_mark 15 = .ok (.iconst 1, 1) := by decide +kernel
theorem dX12_mark_16 : decode cX12_mark 16 = .ok (.sipush 999, 3) := by decide +kernel
theorem dX12_mark_19 : decode cX12_mark 19 = .ok (.invokestatic 47, 3) := by decide +kernel
theorem dX12_mark_22 : decode cX12_mark 22 = .ok (.ifCond .eq 32, 3) := by decide +kernel
theorem dX12_mark_25 : decode cX12_mark 25 = .ok (.aload_n 0, 1) := by decide +kernel
theorem dX12_mark_26 : decode cX12_mark 26 = .ok (.getfield 9, 3) := by decide +kernel
theorem dX12_mark_29 : decode cX12_mark 29 = .ok (.iconst 4, 1) := by decide +kernel
theorem dX12_mark_30 : decode cX12_mark 30 = .ok (.iaload, 1) := by decide +kernel
theorem dX12_mark_31 : decode cX12_mark 31 = .ok (.ifCond .le 26, 3) := by decide +kernel
theorem dX12_mark_34 : decode cX12_mark 34 = .ok (.iload_n 1, 1) := by decide +kernel
theorem dX12_mark_35 : decode cX12_mark 35 = .ok (.aload_n 0, 1) := by decide +kernel
theorem dX12_mark_36 : decode cX12_mark 36 = .ok (.getfield 9, 3) := by decide +kernel
theorem dX12_mark_39 : decode cX12_mark 39 = .ok (.bipush 79, 2) := by decide +kernel
theorem dX12_mark_41 : decode cX12_mark 41 = .ok (.aload_n 0, 1) := by decide +kernel
theorem dX12_mark_42 : decode cX12_mark 42 = .ok (.getfield 9, 3) := by decide +kernel
theorem dX12_mark_45 : decode cX12_mark 45 = .ok (.iconst 4, 1) := by decide +kernel
theorem dX12_mark_46 : decode cX12_mark 46 = .ok (.iaload, 1) := by decide +kernel
theorem dX12_mark_47 : decode cX12_mark 47 = .ok (.iadd, 1) := by decide +kernel
theorem dX12_mark_48 : decode cX12_mark 48 = .ok (.iconst 1, 1) := by decide +kernel
theorem dX12_mark_49 : decode cX12_mark 49 = .ok (.isub, 1) := by decide +kernel
theorem dX12_mark_50 : decode cX12_mark 50 = .ok (.iaload, 1) := by decide +kernel
theorem dX12_mark_51 : decode cX12_mark 51 = .ok (.if_icmp .gt 6, 3) := by decide +kernel
theorem dX12_mark_54 : decode cX12_mark 54 = .ok (.bipush (-2), 2) := by decide +kernel
theorem dX12_mark_56 : decode cX12_mark 56 = .ok (.ireturn, 1) := by decide +kernel
theorem dX12_mark_57 : decode cX12_mark 57 = .ok (.aload_n 0, 1) := by decide +kernel
theorem dX12_mark_58 : decode cX12_mark 58 = .ok (.getfield 9, 3) := by decide +kernel
theorem dX12_mark_61 : decode cX12_mark 61 = .ok (.iconst 4, 1) := by decide +kernel
theorem dX12_mark_62 : decode cX12_mark 62 = .ok (.iaload, 1) := by decide +kernel
theorem dX12_mark_63 : decode cX12_mark 63 = .ok (.bipush 6, 2) := by decide +kernel
theorem dX12_mark_65 : decode cX12_mark 65 = .ok (.if_icmp .ne 6, 3) := by decide +kernel
theorem dX12_mark_68 : decode cX12_mark 68 = .ok (.bipush (-4), 2) := by decide +kernel
theorem dX12_mark_70 : decode cX12_mark 70 = .ok (.ireturn, 1) := by decide +kernel
theorem dX12_mark_71 : decode cX12_mark 71 = .ok (.aload_n 0, 1) := by decide +kernel
theorem dX12_mark_72 : decode cX12_mark 72 = .ok (.getfield 9, 3) := by decide +kernel
theorem dX12_mark_75 : decode cX12_mark 75 = .ok (.bipush 79, 2) := by decide +kernel
theorem dX12_mark_77 : decode cX12_mark 77 = .ok (.aload_n 0, 1) := by decide +kernel
theorem dX12_mark_78 : decode cX12_mark 78 = .ok (.getfield 9, 3) := by decide +kernel
theorem dX12_mark_81 : decode cX12_mark 81 = .ok (.iconst 4, 1) := by decide +kernel
theorem dX12_mark_82 : decode cX12_mark 82 = .ok (.iaload, 1) := by decide +kernel
theorem dX12_mark_83 : decode cX12_mark 83 = .ok (.iadd, 1) := by decide +kernel
theorem dX12_mark_84 : decode cX12_mark 84 = .ok (.iload_n 1, 1) := by decide +kernel
theorem dX12_mark_85 : decode cX12_mark 85 = .ok (.iastore, 1) := by decide +kernel
theorem dX12_mark_86 : decode cX12_mark 86 = .ok (.aload_n 0, 1) := by decide +kernel
theorem dX12_mark_87 : decode cX12_mark 87 = .ok (.getfield 9, 3) := by decide +kernel
theorem dX12_mark_90 : decode cX12_mark 90 = .ok (.iconst 4, 1) := by decide +kernel
theorem dX12_mark_91 : decode cX12_mark 91 = .ok (.dup2, 1) := by decide +kernel
theorem dX12_mark_92 : decode cX12_mark 92 = .ok (.iaload, 1) := by decide +kernel
theorem dX12_mark_93 : decode cX12_mark 93 = .ok (.iconst 1, 1) := by decide +kernel
theorem dX12_mark_94 : decode cX12_mark 94 = .ok (.iadd, 1) := by decide +kernel
theorem dX12_mark_95 : decode cX12_mark 95 = .ok (.iastore, 1) := by decide +kernel
theorem dX12_mark_96 : decode cX12_mark 96 = .ok (.aload_n 0, 1) := by decide +kernel
theorem dX12_mark_97 : decode cX12_mark 97 = .ok (.getfield 9, 3) := by decide +kernel
theorem dX12_mark_100 : decode cX12_mark 100 = .ok (.iconst 4, 1) := by decide +kernel
theorem dX12_mark_101 : decode cX12_mark 101 = .ok (.iaload, 1) := by decide +kernel
theorem dX12_mark_102 : decode cX12_mark 102 = .ok (.ireturn, 1) := by decide +kernel
def f_X12_mark_57  (σ : St) (a1 : Int32) : Int32 × St := (if (σ 1 4) = (6 : Int32) then ((-4 : Int32), σ) else ((((up2 σ 1 (ix ((79 : Int32) + (σ 1 4))) a1) 1 4) + (1 : Int32)), (up2 (up2 σ 1 (ix ((79 : Int32) + (σ 1 4))) a1) 1 4 (((up2 σ 1 (ix ((79 : Int32) + (σ 1 4))) a1) 1 4) + (1 : Int32)))))
set_option maxHeartbeats 600000 in
set_option maxRecDepth 100000 in
theorem b_X12_mark_57 {g : GG} {p : Program} {l : Launch} {e : Env} {s : State} {m : MethodId} {args : Array Value} {below : List Frame} {meth : Method} {c : Code} {A : Nat → Prop} {tgt : Int32 × St}  (C0 : BC p s m args meth c cX12_mark RX12 2 (some .int))  {σ : St} {a1 : Int32} {H : Heap} {locs : List Loc} (hI : IB (σ 1))  (hK : KK g s) (hC : WC g (mW g) A s.heap σ H locs) {ls : Array Slot} (hl : lv_has ls 2 [(0, .ref (g.2.2 100)), (1, .int (a1))]) (hT : f_X12_mark_57  σ a1 = tgt) : W p l e { frames := 1, cells := 0, slots := 0, locals := 22 } s m args below meth c H locs 0 0 (QMI below args s g (mW g) A tgt) (F0 m 57 ls []) := by
  obtain ⟨hx, hb, hr, hml, hown, hts, hlocks⟩ := id C0
  unfold f_X12_mark_57 at hT
  obtain ⟨⟨i0, i0'⟩, ⟨i1, i1'⟩, ⟨i2, i2'⟩, ⟨i3, i3'⟩, ⟨i4, i4'⟩, ⟨i5, i5'⟩, ⟨i6, i6'⟩, ⟨i7, i7'⟩, ⟨i8, i8'⟩, iK, iV, iL, iR, iW, iY, iG, iM, iB, iQ, iP, iT, iU⟩ := id hI
  refine lv_aload_n hx hb dX12_mark_57 rfl (lv_at hl 0 rfl) ?_
  refine m_get (σ := σ) (v := .ref (g.2.2 1)) C0 hK hC.1 1 (by decide) rfl w_968 dX12_mark_58 ?_
  refine lv_iconst (v := (4 : Int32)) hx hb dX12_mark_61 (by decide) ?_
  refine m_ald (σ := σ) C0 hK hC.1 1 1 916 rfl (vin_l (by decide)) 4 (by decide) dX12_mark_62 ?_
  refine lv_bipush (v := (6 : Int32)) hx hb dX12_mark_63 (by decide) ?_
  refine lv_icmp_ne (tgt := 71) hx hb dX12_mark_65 (by decide) (fun c_65 => ?_) (fun c_65 => ?_)
  · have hT := hT_neg c_65 hT
    refine lv_aload_n hx hb dX12_mark_71 rfl (lv_at hl 0 rfl) ?_
    refine m_get (σ := σ) (v := .ref (g.2.2 1)) C0 hK hC.1 1 (by decide) rfl w_968 dX12_mark_72 ?_
    refine lv_bipush (v := (79 : Int32)) hx hb dX12_mark_75 (by decide) ?_
    refine lv_aload_n hx hb dX12_mark_77 rfl (lv_at hl 0 rfl) ?_
    refine m_get (σ := σ) (v := .ref (g.2.2 1)) C0 hK hC.1 1 (by decide) rfl w_968 dX12_mark_78 ?_
    refine lv_iconst (v := (4 : Int32)) hx hb dX12_mark_81 (by decide) ?_
    refine m_ald (σ := σ) C0 hK hC.1 1 1 916 rfl (vin_l (by decide)) 4 (by decide) dX12_mark_82 ?_
    refine lv_iadd hx hb dX12_mark_83 ?_
    refine lv_iload_n hx hb dX12_mark_84 rfl (lv_at hl 1 rfl) ?_
    have o_85 : vp_in ((79 : Int32) + (σ 1 4)) 916 := by
      have : ((6 : Int32)).toInt = 6 := by decide
      have : ((79 : Int32)).toInt = 79 := by decide
      have := mt ti_eq.mpr c_65
      try have := ti_add (a := (79 : Int32)) (b := (σ 1 4)) (by omega) (by omega)
      exact vin (by omega) (by omega)
    refine m_ast (σ := σ) C0 hK hC 1 1 916 rfl (ms_1 g _) o_85 (ix ((79 : Int32) + (σ 1 4))) rfl dX12_mark_85 (fun H locs hC => ?_)
    refine lv_aload_n hx hb dX12_mark_86 rfl (lv_at hl 0 rfl) ?_
    refine m_get (σ := (up2 σ 1 (ix ((79 : Int32) + (σ 1 4))) a1)) (v := .ref (g.2.2 1)) C0 hK hC.1 1 (by decide) rfl w_968 dX12_mark_87 ?_
    refine lv_iconst (v := (4 : Int32)) hx hb dX12_mark_90 (by decide) ?_
    refine lv_dup2_11 hx hb dX12_mark_91 rfl rfl ?_
    refine m_ald (σ := (up2 σ 1 (ix ((79 : Int32) + (σ 1 4))) a1)) C0 hK hC.1 1 1 916 rfl (vin_l (by decide)) 4 (by decide) dX12_mark_92 ?_
    refine lv_iconst (v := (1 : Int32)) hx hb dX12_mark_93 (by decide) ?_
    refine lv_iadd hx hb dX12_mark_94 ?_
    refine m_ast (σ := (up2 σ 1 (ix ((79 : Int32) + (σ 1 4))) a1)) C0 hK hC 1 1 916 rfl (ms_1 g _) (vin_l (by decide)) 4 (by decide) dX12_mark_95 (fun H locs hC => ?_)
    refine lv_aload_n hx hb dX12_mark_96 rfl (lv_at hl 0 rfl) ?_
    refine m_get (σ := (up2 (up2 σ 1 (ix ((79 : Int32) + (σ 1 4))) a1) 1 4 (((up2 σ 1 (ix ((79 : Int32) + (σ 1 4))) a1) 1 4) + (1 : Int32)))) (v := .ref (g.2.2 1)) C0 hK hC.1 1 (by decide) rfl w_968 dX12_mark_97 ?_
    refine lv_iconst (v := (4 : Int32)) hx hb dX12_mark_100 (by decide) ?_
    refine m_ald (σ := (up2 (up2 σ 1 (ix ((79 : Int32) + (σ 1 4))) a1) 1 4 (((up2 σ 1 (ix ((79 : Int32) + (σ 1 4))) a1) 1 4) + (1 : Int32)))) C0 hK hC.1 1 1 916 rfl (vin_l (by decide)) 4 (by decide) dX12_mark_101 ?_
    exact ret_MI C0 hC hT dX12_mark_102
  · have hT := hT_pos c_65 hT
    refine lv_bipush (v := (-4 : Int32)) hx hb dX12_mark_68 (by decide) ?_
    exact ret_MI C0 hC hT dX12_mark_70
def f_X12_mark (σ : St) (a1 : Int32) : Int32 × St := (if a1 = (-1 : Int32) then ((0 : Int32), (up2 σ 1 4 (0 : Int32))) else (if (f_X12_in a1 (1 : Int32) (999 : Int32)) = 0 then ((-2 : Int32), σ) else (if (σ 1 4) ≤ 0 then (f_X12_mark_57  σ a1) else (if (σ 1 (ix (((79 : Int32) + (σ 1 4)) - (1 : Int32)))) < a1 then (f_X12_mark_57  σ a1) else ((-2 : Int32), σ)))))
set_option maxHeartbeats 600000 in
set_option maxRecDepth 100000 in
theorem k_X12_mark (l : Launch) (g : GG) (σ : St) (a1 : Int32) (hI : IB (σ 1)) : MI l yX12_mark (wsF yX12_mark cX12_mark 2 (some .int)) { frames := 1, cells := 0, slots := 0, locals := 22 } [.ref (g.2.2 100), .int (a1)] g (mW g) (fun _ => True) σ (f_X12_mark σ a1) := by
  refine start_MI (by decide) (Nat.le_of_ble_eq_true rfl) ?_
  intro p e s m args below meth c C0 hK hBg hC ls hl
  generalize hAe : aA ((mW g) σ) = A at hC ⊢
  obtain ⟨hx, hb, hr, hml, hown, hts, hlocks⟩ := id C0
  have hl : lv_has ls 2 [(0, .ref (g.2.2 100)), (1, .int (a1))] := hl
  generalize hT : (f_X12_mark σ a1) = tgt
  suffices key : ∀ (H : Heap) (locs : List Loc), WC g (mW g) A s.heap σ H locs → W p l e { frames := 1, cells := 0, slots := 0, locals := 22 } s m args below meth c H locs 0 0 (QMI below args s g (mW g) A tgt) (F0 m 0 ls []) from key _ _ hC
  intro H locs hC
  unfold f_X12_mark at hT
  obtain ⟨⟨i0, i0'⟩, ⟨i1, i1'⟩, ⟨i2, i2'⟩, ⟨i3, i3'⟩, ⟨i4, i4'⟩, ⟨i5, i5'⟩, ⟨i6, i6'⟩, ⟨i7, i7'⟩, ⟨i8, i8'⟩, iK, iV, iL, iR, iW, iY, iG, iM, iB, iQ, iP, iT, iU⟩ := id hI
  refine lv_iload_n hx hb dX12_mark_0 rfl (lv_at hl 1 rfl) ?_
  refine lv_iconst (v := (-1 : Int32)) hx hb dX12_mark_1 (by decide) ?_
  refine lv_icmp_ne (tgt := 14) hx hb dX12_mark_2 (by decide) (fun c_2 => ?_) (fun c_2 => ?_)
  · have hT := hT_neg c_2 hT
    refine lv_iload_n hx hb dX12_mark_14 rfl (lv_at hl 1 rfl) ?_
    refine lv_iconst (v := (1 : Int32)) hx hb dX12_mark_15 (by decide) ?_
    refine lv_sipush (v := (999 : Int32)) hx hb dX12_mark_16 (by decide) ?_
    refine s_ci (rest := []) (As := [.int (a1), .int ((1 : Int32)), .int ((999 : Int32))]) C0 cf_X12_in w_1060 (k_X12_in l a1 (1 : Int32) (999 : Int32) ) ⟨by decide, by decide⟩ hl.1 rfl rfl (Nat.le_of_ble_eq_true rfl) dX12_mark_19 ⟨Nat.zero_le _, Nat.zero_le _⟩ ?_
    refine lv_if_eq (tgt := 54) hx hb dX12_mark_22 (by decide) (fun c_22 => ?_) (fun c_22 => ?_)
    · have hT := hT_pos c_22 hT
      refine lv_bipush (v := (-2 : Int32)) hx hb dX12_mark_54 (by decide) ?_
      exact ret_MI C0 hC hT dX12_mark_56
    · have hT := hT_neg c_22 hT
      refine lv_aload_n hx hb dX12_mark_25 rfl (lv_at hl 0 rfl) ?_
      refine m_get (σ := σ) (v := .ref (g.2.2 1)) C0 hK hC.1 1 (by decide) rfl w_968 dX12_mark_26 ?_
      refine lv_iconst (v := (4 : Int32)) hx hb dX12_mark_29 (by decide) ?_
      refine m_ald (σ := σ) C0 hK hC.1 1 1 916 rfl (vin_l (by decide)) 4 (by decide) dX12_mark_30 ?_
      refine lv_if_le (tgt := 57) hx hb dX12_mark_31 (by decide) (fun c_31 => ?_) (fun c_31 => ?_)
      · have hT := hT_pos c_31 hT
        exact b_X12_mark_57  (σ := σ) (a1 := a1) C0  hI hK hC hl hT
      · have hT := hT_neg c_31 hT
        refine lv_iload_n hx hb dX12_mark_34 rfl (lv_at hl 1 rfl) ?_
        refine lv_aload_n hx hb dX12_mark_35 rfl (lv_at hl 0 rfl) ?_
        refine m_get (σ := σ) (v := .ref (g.2.2 1)) C0 hK hC.1 1 (by decide) rfl w_968 dX12_mark_36 ?_
        refine lv_bipush (v := (79 : Int32)) hx hb dX12_mark_39 (by decide) ?_
        refine lv_aload_n hx hb dX12_mark_41 rfl (lv_at hl 0 rfl) ?_
        refine m_get (σ := σ) (v := .ref (g.2.2 1)) C0 hK hC.1 1 (by decide) rfl w_968 dX12_mark_42 ?_
        refine lv_iconst (v := (4 : Int32)) hx hb dX12_mark_45 (by decide) ?_
        refine m_ald (σ := σ) C0 hK hC.1 1 1 916 rfl (vin_l (by decide)) 4 (by decide) dX12_mark_46 ?_
        refine lv_iadd hx hb dX12_mark_47 ?_
        refine lv_iconst (v := (1 : Int32)) hx hb dX12_mark_48 (by decide) ?_
        refine lv_isub hx hb dX12_mark_49 ?_
        have o_50 : vp_in (((79 : Int32) + (σ 1 4)) - (1 : Int32)) 916 := by
          have : ((-1 : Int32)).toInt = -1 := by decide
          have : ((1 : Int32)).toInt = 1 := by decide
          have : ((999 : Int32)).toInt = 999 := by decide
          have : ((0 : Int32)).toInt = 0 := by decide
          have : ((79 : Int32)).toInt = 79 := by decide
          have := mt ti_eq.mpr c_2
          have := in_ne c_22
          have := mt ti_le.mpr c_31
          try have := ti_add (a := (79 : Int32)) (b := (σ 1 4)) (by omega) (by omega)
          try have := ti_sub (a := ((79 : Int32) + (σ 1 4))) (b := (1 : Int32)) (by omega) (by omega)
          exact vin (by omega) (by omega)
        refine m_ald (σ := σ) C0 hK hC.1 1 1 916 rfl o_50 (ix (((79 : Int32) + (σ 1 4)) - (1 : Int32))) rfl dX12_mark_50 ?_
        refine lv_icmp_gt (tgt := 57) hx hb dX12_mark_51 (by decide) (fun c_51 => ?_) (fun c_51 => ?_)
        · have hT := hT_pos c_51 hT
          exact b_X12_mark_57  (σ := σ) (a1 := a1) C0  hI hK hC hl hT
        · have hT := hT_neg c_51 hT
          refine lv_bipush (v := (-2 : Int32)) hx hb dX12_mark_54 (by decide) ?_
          exact ret_MI C0 hC hT dX12_mark_56
  · have hT := hT_pos c_2 hT
    refine lv_aload_n hx hb dX12_mark_5 rfl (lv_at hl 0 rfl) ?_
    refine m_get (σ := σ) (v := .ref (g.2.2 1)) C0 hK hC.1 1 (by decide) rfl w_968 dX12_mark_6 ?_
    refine lv_iconst (v := (4 : Int32)) hx hb dX12_mark_9 (by decide) ?_
    refine lv_iconst (v := (0 : Int32)) hx hb dX12_mark_10 (by decide) ?_
    refine m_ast (σ := σ) C0 hK hC 1 1 916 rfl (ms_1 g _) (vin_l (by decide)) 4 (by decide) dX12_mark_11 (fun H locs hC => ?_)
    refine lv_iconst (v := (0 : Int32)) hx hb dX12_mark_12 (by decide) ?_
    exact ret_MI C0 hC hT dX12_mark_13
/-! ThreeMeasuresModel.book -/
theorem dX12_book_0 : decode cX12_book 0 = .ok (.iload_n 1, 1) := by decide +kernel
theorem dX12_book_1 : decode cX12_book 1 = .ok (.iconst (-1), 1) := by decide +kernel
theorem dX12_book_2 : decode cX12_book 2 = .ok (.if_icmp .ne 12, 3) := by decide +kernel
theorem dX12_book_5 : decode cX12_book 5 = .ok (.aload_n 0, 1) := by decide +kernel
theorem dX12_book_6 : decode cX12_book 6 = .ok (.getfield 9, 3) := by decide +kernel
theorem dX12_book_9 : decode cX12_book 9 = .ok (.iconst 5, 1) := by decide +kernel
theorem dX12_book_10 : decode cX12_book 10 = .ok (.iconst 0, 1) := by decide +kernel
theorem dX12_book_11 : decode cX12_book 11 = .ok (.iastore, 1) := by decide +kernel
theorem dX12_book_12 : decode cX12_book 12 = .ok (.iconst 0, 1) := by decide +kernel
theorem dX12_book_13 : decode cX12_book 13 = .ok (.ireturn, 1) := by decide +kernel
theorem dX12_book_14 : decode cX12_book 14 = .ok (.aload_n 0, 1) := by decide +kernel
theorem dX12_book_15 : decode cX12_book 15 = .ok (.iload_n 1, 1) := by decide +kernel
theorem dX12_book_16 : decode cX12_book 16 = .ok (.invokevirtual 165, 3) := by decide +kernel
theorem dX12_book_19 : decode cX12_book 19 = .ok (.ifCond .ne 5, 3) := by decide +kernel
theorem dX12_book_22 : decode cX12_book 22 = .ok (.iconst (-1), 1) := by decide +kernel
theorem dX12_book_23 : decode cX12_book 23 = .ok (.ireturn, 1) := by decide +kernel
theorem dX12_book_24 : decode cX12_book 24 = .ok (.iload_n 2, 1) := by decide +kernel
theorem dX12_book_25 : decode cX12_book 25 = .ok (.iconst 0, 1) := by decide +kernel
theorem dX12_book_26 : decode cX12_book 26 = .ok (.sipush 999, 3) := by decide +kernel
theorem dX12_book_29 : decode cX12_book 29 = .ok (.invokestatic 47, 3) := by decide +kernel
theorem dX12_book_32 : decode cX12_book 32 = .ok (.ifCond .ne 6, 3) := by decide +kernel
theorem dX12_book_35 : decode cX12_book 35 = .ok (.bipush (-2), 2) := by decide +kernel
theorem dX12_book_37 : decode cX12_book 37 = .ok (.ireturn, 1) := by decide +kernel
theorem dX12_book_38 : decode cX12_book 38 = .ok (.aload_n 0, 1) := by decide +kernel
theorem dX12_book_39 : decode cX12_book 39 = .ok (.getfield 9, 3) := by decide +kernel
theorem dX12_book_42 : decode cX12_book 42 = .ok (.iconst 5, 1) := by decide +kernel
theorem dX12_book_43 : decode cX12_book 43 = .ok (.iaload, 1) := by decide +kernel
theorem dX12_book_44 : decode cX12_book 44 = .ok (.bipush 8, 2) := by decide +kernel
theorem dX12_book_46 : decode cX12_book 46 = .ok (.if_icmp .ne 6, 3) := by decide +kernel
theorem dX12_book_49 : decode cX12_book 49 = .ok (.bipush (-4), 2) := by decide +kernel
theorem dX12_book_51 : decode cX12_book 51 = .ok (.ireturn, 1) := by decide +kernel
theorem dX12_book_52 : decode cX12_book 52 = .ok (.aload_n 0, 1) := by decide +kernel
theorem dX12_book_53 : decode cX12_book 53 = .ok (.getfield 9, 3) := by decide +kernel
theorem dX12_book_56 : decode cX12_book 56 = .ok (.bipush 85, 2) := by decide +kernel
theorem dX12_book_58 : decode cX12_book 58 = .ok (.aload_n 0, 1) := by decide +kernel
theorem dX12_book_59 : decode cX12_book 59 = .ok (.getfield 9, 3) := by decide +kernel
theorem dX12_book_62 : decode cX12_book 62 = .ok (.iconst 5, 1) := by decide +kernel
theorem dX12_book_63 : decode cX12_book 63 = .ok (.iaload, 1) := by decide +kernel
theorem dX12_book_64 : decode cX12_book 64 = .ok (.iadd, 1) := by decide +kernel
theorem dX12_book_65 : decode cX12_book 65 = .ok (.iload_n 1, 1) := by decide +kernel
theorem dX12_book_66 : decode cX12_book 66 = .ok (.iastore, 1) := by decide +kernel
theorem dX12_book_67 : decode cX12_book 67 = .ok (.aload_n 0, 1) := by decide +kernel
theorem dX12_book_68 : decode cX12_book 68 = .ok (.getfield 9, 3) := by decide +kernel
theorem dX12_book_71 : decode cX12_book 71 = .ok (.bipush 93, 2) := by decide +kernel
theorem dX12_book_73 : decode cX12_book 73 = .ok (.aload_n 0, 1) := by decide +kernel
theorem dX12_book_74 : decode cX12_book 74 = .ok (.getfield 9, 3) := by decide +kernel
theorem dX12_book_77 : decode cX12_book 77 = .ok (.iconst 5, 1) := by decide +kernel
theorem dX12_book_78 : decode cX12_book 78 = .ok (.iaload, 1) := by decide +kernel
theorem dX12_book_79 : decode cX12_book 79 = .ok (.iadd, 1) := by decide +kernel
theorem dX12_book_80 : decode cX12_book 80 = .ok (.iload_n 2, 1) := by decide +kernel
theorem dX12_book_81 : decode cX12_book 81 = .ok (.iastore, 1) := by decide +kernel
theorem dX12_book_82 : decode cX12_book 82 = .ok (.aload_n 0, 1) := by decide +kernel
theorem dX12_book_83 : decode cX12_book 83 = .ok (.getfield 9, 3) := by decide +kernel
theorem dX12_book_86 : decode cX12_book 86 = .ok (.iconst 5, 1) := by decide +kernel
theorem dX12_book_87 : decode cX12_book 87 = .ok (.dup2, 1) := by decide +kernel
theorem dX12_book_88 : decode cX12_book 88 = .ok (.iaload, 1) := by decide +kernel
theorem dX12_book_89 : decode cX12_book 89 = .ok (.iconst 1, 1) := by decide +kernel
theorem dX12_book_90 : decode cX12_book 90 = .ok (.iadd, 1) := by decide +kernel
theorem dX12_book_91 : decode cX12_book 91 = .ok (.iastore, 1) := by decide +kernel
theorem dX12_book_92 : decode cX12_book 92 = .ok (.aload_n 0, 1) := by decide +kernel
theorem dX12_book_93 : decode cX12_book 93 = .ok (.getfield 9, 3) := by decide +kernel
theorem dX12_book_96 : decode cX12_book 96 = .ok (.iconst 5, 1) := by decide +kernel
theorem dX12_book_97 : decode cX12_book 97 = .ok (.iaload, 1) := by decide +kernel
theorem dX12_book_98 : decode cX12_book 98 = .ok (.ireturn, 1) := by decide +kernel
def f_X12_book (σ : St) (a1 : Int32) (a2 : Int32) : Int32 × St := (if a1 = (-1 : Int32) then ((0 : Int32), (up2 σ 1 5 (0 : Int32))) else (if (f_X12_isWall σ a1) = 0 then ((-1 : Int32), σ) else (if (f_X12_in a2 (0 : Int32) (999 : Int32)) = 0 then ((-2 : Int32), σ) else (if (σ 1 5) = (8 : Int32) then ((-4 : Int32), σ) else ((((up2 (up2 σ 1 (ix ((85 : Int32) + (σ 1 5))) a1) 1 (ix ((93 : Int32) + ((up2 σ 1 (ix ((85 : Int32) + (σ 1 5))) a1) 1 5))) a2) 1 5) + (1 : Int32)), (up2 (up2 (up2 σ 1 (ix ((85 : Int32) + (σ 1 5))) a1) 1 (ix ((93 : Int32) + ((up2 σ 1 (ix ((85 : Int32) + (σ 1 5))) a1) 1 5))) a2) 1 5 (((up2 (up2 σ 1 (ix ((85 : Int32) + (σ 1 5))) a1) 1 (ix ((93 : Int32) + ((up2 σ 1 (ix ((85 : Int32) + (σ 1 5))) a1) 1 5))) a2) 1 5) + (1 : Int32))))))))
set_option maxHeartbeats 600000 in
set_option maxRecDepth 100000 in
theorem k_X12_book (l : Launch) (g : GG) (σ : St) (a1 : Int32) (a2 : Int32) (hI : IB (σ 1)) : MI l yX12_book (wsF yX12_book cX12_book 3 (some .int)) { frames := 2, cells := 0, slots := 0, locals := 43 } [.ref (g.2.2 100), .int (a1), .int (a2)] g (mW g) (fun _ => True) σ (f_X12_book σ a1 a2) := by
  refine start_MI (by decide) (Nat.le_of_ble_eq_true rfl) ?_
  intro p e s m args below meth c C0 hK hBg hC ls hl
  generalize hAe : aA ((mW g) σ) = A at hC ⊢
  obtain ⟨hx, hb, hr, hml, hown, hts, hlocks⟩ := id C0
  have hl : lv_has ls 3 [(0, .ref (g.2.2 100)), (1, .int (a1)), (2, .int (a2))] := hl
  generalize hT : (f_X12_book σ a1 a2) = tgt
  suffices key : ∀ (H : Heap) (locs : List Loc), WC g (mW g) A s.heap σ H locs → W p l e { frames := 2, cells := 0, slots := 0, locals := 43 } s m args below meth c H locs 0 0 (QMI below args s g (mW g) A tgt) (F0 m 0 ls []) from key _ _ hC
  intro H locs hC
  unfold f_X12_book at hT
  obtain ⟨⟨i0, i0'⟩, ⟨i1, i1'⟩, ⟨i2, i2'⟩, ⟨i3, i3'⟩, ⟨i4, i4'⟩, ⟨i5, i5'⟩, ⟨i6, i6'⟩, ⟨i7, i7'⟩, ⟨i8, i8'⟩, iK, iV, iL, iR, iW, iY, iG, iM, iB, iQ, iP, iT, iU⟩ := id hI
  refine lv_iload_n hx hb dX12_book_0 rfl (lv_at hl 1 rfl) ?_
  refine lv_iconst (v := (-1 : Int32)) hx hb dX12_book_1 (by decide) ?_
  refine lv_icmp_ne (tgt := 14) hx hb dX12_book_2 (by decide) (fun c_2 => ?_) (fun c_2 => ?_)
  · have hT := hT_neg c_2 hT
    refine lv_aload_n hx hb dX12_book_14 rfl (lv_at hl 0 rfl) ?_
    refine lv_iload_n hx hb dX12_book_15 rfl (lv_at hl 1 rfl) ?_
    refine m_ci (rest := []) (As := [.int (a1)]) (σ := σ) C0 hK hC.1 (hC.2.1.weaken (fun _ _ _ _ => trivial)) SV.tt (fun _ _ _ => trivial) cf_X12_isWall w_1147 rfl (k_X12_isWall l g σ a1 ) ⟨by decide, by decide⟩ hl.1 rfl rfl (Nat.le_of_ble_eq_true rfl) dX12_book_16 ⟨Nat.zero_le _, Nat.zero_le _⟩ ?_
    refine lv_if_ne (tgt := 24) hx hb dX12_book_19 (by decide) (fun c_19 => ?_) (fun c_19 => ?_)
    · have hT := hT_neg c_19 hT
      refine lv_iload_n hx hb dX12_book_24 rfl (lv_at hl 2 rfl) ?_
      refine lv_iconst (v := (0 : Int32)) hx hb dX12_book_25 (by decide) ?_
      refine lv_sipush (v := (999 : Int32)) hx hb dX12_book_26 (by decide) ?_
      refine s_ci (rest := []) (As := [.int (a2), .int ((0 : Int32)), .int ((999 : Int32))]) C0 cf_X12_in w_1060 (k_X12_in l a2 (0 : Int32) (999 : Int32) ) ⟨by decide, by decide⟩ hl.1 rfl rfl (Nat.le_of_ble_eq_true rfl) dX12_book_29 ⟨Nat.zero_le _, Nat.zero_le _⟩ ?_
      refine lv_if_ne (tgt := 38) hx hb dX12_book_32 (by decide) (fun c_32 => ?_) (fun c_32 => ?_)
      · have hT := hT_neg c_32 hT
        refine lv_aload_n hx hb dX12_book_38 rfl (lv_at hl 0 rfl) ?_
        refine m_get (σ := σ) (v := .ref (g.2.2 1)) C0 hK hC.1 1 (by decide) rfl w_968 dX12_book_39 ?_
        refine lv_iconst (v := (5 : Int32)) hx hb dX12_book_42 (by decide) ?_
        refine m_ald (σ := σ) C0 hK hC.1 1 1 916 rfl (vin_l (by decide)) 5 (by decide) dX12_book_43 ?_
        refine lv_bipush (v := (8 : Int32)) hx hb dX12_book_44 (by decide) ?_
        refine lv_icmp_ne (tgt := 52) hx hb dX12_book_46 (by decide) (fun c_46 => ?_) (fun c_46 => ?_)
        · have hT := hT_neg c_46 hT
          refine lv_aload_n hx hb dX12_book_52 rfl (lv_at hl 0 rfl) ?_
          refine m_get (σ := σ) (v := .ref (g.2.2 1)) C0 hK hC.1 1 (by decide) rfl w_968 dX12_book_53 ?_
          refine lv_bipush (v := (85 : Int32)) hx hb dX12_book_56 (by decide) ?_
          refine lv_aload_n hx hb dX12_book_58 rfl (lv_at hl 0 rfl) ?_
          refine m_get (σ := σ) (v := .ref (g.2.2 1)) C0 hK hC.1 1 (by decide) rfl w_968 dX12_book_59 ?_
          refine lv_iconst (v := (5 : Int32)) hx hb dX12_book_62 (by decide) ?_
          refine m_ald (σ := σ) C0 hK hC.1 1 1 916 rfl (vin_l (by decide)) 5 (by decide) dX12_book_63 ?_
          refine lv_iadd hx hb dX12_book_64 ?_
          refine lv_iload_n hx hb dX12_book_65 rfl (lv_at hl 1 rfl) ?_
          have o_66 : vp_in ((85 : Int32) + (σ 1 5)) 916 := by
            have : ((-1 : Int32)).toInt = -1 := by decide
            have : ((0 : Int32)).toInt = 0 := by decide
            have : ((999 : Int32)).toInt = 999 := by decide
            have : ((8 : Int32)).toInt = 8 := by decide
            have : ((85 : Int32)).toInt = 85 := by decide
            have := mt ti_eq.mpr c_2
            have := isWall_ne hI.2.1.1 c_19
            have := in_ne c_32
            have := mt ti_eq.mpr c_46
            try have := ti_add (a := (85 : Int32)) (b := (σ 1 5)) (by omega) (by omega)
            exact vin (by omega) (by omega)
          refine m_ast (σ := σ) C0 hK hC 1 1 916 rfl (ms_1 g _) o_66 (ix ((85 : Int32) + (σ 1 5))) rfl dX12_book_66 (fun H locs hC => ?_)
          refine lv_aload_n hx hb dX12_book_67 rfl (lv_at hl 0 rfl) ?_
          refine m_get (σ := (up2 σ 1 (ix ((85 : Int32) + (σ 1 5))) a1)) (v := .ref (g.2.2 1)) C0 hK hC.1 1 (by decide) rfl w_968 dX12_book_68 ?_
          refine lv_bipush (v := (93 : Int32)) hx hb dX12_book_71 (by decide) ?_
          refine lv_aload_n hx hb dX12_book_73 rfl (lv_at hl 0 rfl) ?_
          refine m_get (σ := (up2 σ 1 (ix ((85 : Int32) + (σ 1 5))) a1)) (v := .ref (g.2.2 1)) C0 hK hC.1 1 (by decide) rfl w_968 dX12_book_74 ?_
          refine lv_iconst (v := (5 : Int32)) hx hb dX12_book_77 (by decide) ?_
          refine m_ald (σ := (up2 σ 1 (ix ((85 : Int32) + (σ 1 5))) a1)) C0 hK hC.1 1 1 916 rfl (vin_l (by decide)) 5 (by decide) dX12_book_78 ?_
          refine lv_iadd hx hb dX12_book_79 ?_
          refine lv_iload_n hx hb dX12_book_80 rfl (lv_at hl 2 rfl) ?_
          have o_81 : vp_in ((93 : Int32) + ((up2 σ 1 (ix ((85 : Int32) + (σ 1 5))) a1) 1 5)) 916 := by
            have : ((-1 : Int32)).toInt = -1 := by decide
            have : ((0 : Int32)).toInt = 0 := by decide
            have : ((999 : Int32)).toInt = 999 := by decide
            have : ((8 : Int32)).toInt = 8 := by decide
            have : ((93 : Int32)).toInt = 93 := by decide
            have : ((85 : Int32)).toInt = 85 := by decide
            have := mt ti_eq.mpr c_2
            have := isWall_ne hI.2.1.1 c_19
            have := in_ne c_32
            have := mt ti_eq.mpr c_46
            try have := ti_add (a := (85 : Int32)) (b := (σ 1 5)) (by omega) (by omega)
            try have := up2_geI (σ := σ) (k := 1) (j := 5) (E := ((85 : Int32) + (σ 1 5))) (v := a1) (by omega)
            try have := ti_add (a := (93 : Int32)) (b := ((up2 σ 1 (ix ((85 : Int32) + (σ 1 5))) a1) 1 5)) (by omega) (by omega)
            exact vin (by omega) (by omega)
          refine m_ast (σ := (up2 σ 1 (ix ((85 : Int32) + (σ 1 5))) a1)) C0 hK hC 1 1 916 rfl (ms_1 g _) o_81 (ix ((93 : Int32) + ((up2 σ 1 (ix ((85 : Int32) + (σ 1 5))) a1) 1 5))) rfl dX12_book_81 (fun H locs hC => ?_)
          refine lv_aload_n hx hb dX12_book_82 rfl (lv_at hl 0 rfl) ?_
          refine m_get (σ := (up2 (up2 σ 1 (ix ((85 : Int32) + (σ 1 5))) a1) 1 (ix ((93 : Int32) + ((up2 σ 1 (ix ((85 : Int32) + (σ 1 5))) a1) 1 5))) a2)) (v := .ref (g.2.2 1)) C0 hK hC.1 1 (by decide) rfl w_968 dX12_book_83 ?_
          refine lv_iconst (v := (5 : Int32)) hx hb dX12_book_86 (by decide) ?_
          refine lv_dup2_11 hx hb dX12_book_87 rfl rfl ?_
          refine m_ald (σ := (up2 (up2 σ 1 (ix ((85 : Int32) + (σ 1 5))) a1) 1 (ix ((93 : Int32) + ((up2 σ 1 (ix ((85 : Int32) + (σ 1 5))) a1) 1 5))) a2)) C0 hK hC.1 1 1 916 rfl (vin_l (by decide)) 5 (by decide) dX12_book_88 ?_
          refine lv_iconst (v := (1 : Int32)) hx hb dX12_book_89 (by decide) ?_
          refine lv_iadd hx hb dX12_book_90 ?_
          refine m_ast (σ := (up2 (up2 σ 1 (ix ((85 : Int32) + (σ 1 5))) a1) 1 (ix ((93 : Int32) + ((up2 σ 1 (ix ((85 : Int32) + (σ 1 5))) a1) 1 5))) a2)) C0 hK hC 1 1 916 rfl (ms_1 g _) (vin_l (by decide)) 5 (by decide) dX12_book_91 (fun H locs hC => ?_)
          refine lv_aload_n hx hb dX12_book_92 rfl (lv_at hl 0 rfl) ?_
          refine m_get (σ := (up2 (up2 (up2 σ 1 (ix ((85 : Int32) + (σ 1 5))) a1) 1 (ix ((93 : Int32) + ((up2 σ 1 (ix ((85 : Int32) + (σ 1 5))) a1) 1 5))) a2) 1 5 (((up2 (up2 σ 1 (ix ((85 : Int32) + (σ 1 5))) a1) 1 (ix ((93 : Int32) + ((up2 σ 1 (ix ((85 : Int32) + (σ 1 5))) a1) 1 5))) a2) 1 5) + (1 : Int32)))) (v := .ref (g.2.2 1)) C0 hK hC.1 1 (by decide) rfl w_968 dX12_book_93 ?_
          refine lv_iconst (v := (5 : Int32)) hx hb dX12_book_96 (by decide) ?_
          refine m_ald (σ := (up2 (up2 (up2 σ 1 (ix ((85 : Int32) + (σ 1 5))) a1) 1 (ix ((93 : Int32) + ((up2 σ 1 (ix ((85 : Int32) + (σ 1 5))) a1) 1 5))) a2) 1 5 (((up2 (up2 σ 1 (ix ((85 : Int32) + (σ 1 5))) a1) 1 (ix ((93 : Int32) + ((up2 σ 1 (ix ((85 : Int32) + (σ 1 5))) a1) 1 5))) a2) 1 5) + (1 : Int32)))) C0 hK hC.1 1 1 916 rfl (vin_l (by decide)) 5 (by decide) dX12_book_97 ?_
          exact ret_MI C0 hC hT dX12_book_98
        · have hT := hT_pos c_46 hT
          refine lv_bipush (v := (-4 : Int32)) hx hb dX12_book_49 (by decide) ?_
          exact ret_MI C0 hC hT dX12_book_51
      · have hT := hT_pos c_32 hT
        refine lv_bipush (v := (-2 : Int32)) hx hb dX12_book_35 (by decide) ?_
        exact ret_MI C0 hC hT dX12_book_37
    · have hT := hT_pos c_19 hT
      refine lv_iconst (v := (-1 : Int32)) hx hb dX12_book_22 (by decide) ?_
      exact ret_MI C0 hC hT dX12_book_23
  · have hT := hT_pos c_2 hT
    refine lv_aload_n hx hb dX12_book_5 rfl (lv_at hl 0 rfl) ?_
    refine m_get (σ := σ) (v := .ref (g.2.2 1)) C0 hK hC.1 1 (by decide) rfl w_968 dX12_book_6 ?_
    refine lv_iconst (v := (5 : Int32)) hx hb dX12_book_9 (by decide) ?_
    refine lv_iconst (v := (0 : Int32)) hx hb dX12_book_10 (by decide) ?_
    refine m_ast (σ := σ) C0 hK hC 1 1 916 rfl (ms_1 g _) (vin_l (by decide)) 5 (by decide) dX12_book_11 (fun H locs hC => ?_)
    refine lv_iconst (v := (0 : Int32)) hx hb dX12_book_12 (by decide) ?_
    exact ret_MI C0 hC hT dX12_book_13
/-! ThreeMeasuresModel.isOne -/
theorem dX12_isOne_0 : decode cX12_isOne 0 = .ok (.aload_n 0, 1) := by decide +kernel
theorem dX12_isOne_1 : decode cX12_isOne 1 = .ok (.getfield 9, 3) := by decide +kernel
theorem dX12_isOne_4 : decode cX12_isOne 4 = .ok (.bipush 51, 2) := by decide +kernel
theorem dX12_isOne_6 : decode cX12_isOne 6 = .ok (.iload_n 1, 1) := by decide +kernel
theorem dX12_isOne_7 : decode cX12_isOne 7 = .ok (.iadd, 1) := by decide +kernel
theorem dX12_isOne_8 : decode cX12_isOne 8 = .ok (.iaload, 1) := by decide +kernel
theorem dX12_isOne_9 : decode cX12_isOne 9 = .ok (.aload_n 0, 1) := by decide +kernel
theorem dX12_isOne_10 : decode cX12_isOne 10 = .ok (.getfield 9, 3) := by decide +kernel
theorem dX12_isOne_13 : decode cX12_isOne 13 = .ok (.bipush 57, 2) := by decide +kernel
theorem dX12_isOne_15 : decode cX12_isOne 15 = .ok (.iload_n 1, 1) := by decide +kernel
theorem dX12_isOne_16 : decode cX12_isOne 16 = .ok (.iadd, 1) := by decide +kernel
theorem dX12_isOne_17 : decode cX12_isOne 17 = .ok (.iaload, 1) := by decide +kernel
theorem dX12_isOne_18 : decode cX12_isOne 18 = .ok (.if_icmp .ne 7, 3) := by decide +kernel
theorem dX12_isOne_21 : decode cX12_isOne 21 = .ok (.iconst 1, 1) := by decide +kernel
theorem dX12_isOne_22 : decode cX12_isOne 22 = .ok (.goto 4, 3) := by decide +kernel
theorem dX12_isOne_25 : decode cX12_isOne 25 = .ok (.iconst 0, 1) := by decide +kernel
theorem dX12_isOne_26 : decode cX12_isOne 26 = .ok (.ireturn, 1) := by decide +kernel
def f_X12_isOne (σ : St) (a1 : Int32) : Int32 := (if (σ 1 (ix ((51 : Int32) + a1))) = (σ 1 (ix ((57 : Int32) + a1))) then (1 : Int32) else (0 : Int32))
set_option maxHeartbeats 600000 in
set_option maxRecDepth 100000 in
theorem k_X12_isOne (l : Launch) (g : GG) (σ : St) (a1 : Int32) (h1 : 0 ≤ a1.toInt) (h2 : a1.toInt ≤ 6) : PI l yX12_isOne (wsF yX12_isOne cX12_isOne 2 (some .boolean)) { frames := 0, cells := 0, slots := 0, locals := 0 } [.ref (g.2.2 100), .int (a1)] (GB g (mW g) (fun _ => True) σ) (f_X12_isOne σ a1) := by
  refine start_PI (by decide) (Nat.le_of_ble_eq_true rfl) ?_
  intro p e s m args below meth c C0 hG ls hl
  obtain ⟨hK, hP, hDD, hBg⟩ := hG
  obtain ⟨hx, hb, hr, hml, hown, hts, hlocks⟩ := id C0
  have hl : lv_has ls 2 [(0, .ref (g.2.2 100)), (1, .int (a1))] := hl
  generalize hT : (f_X12_isOne σ a1) = tgt
  unfold f_X12_isOne at hT
  refine lv_aload_n hx hb dX12_isOne_0 rfl (lv_at hl 0 rfl) ?_
  refine m_get (σ := σ) (v := .ref (g.2.2 1)) C0 hK hP 1 (by decide) rfl w_968 dX12_isOne_1 ?_
  refine lv_bipush (v := (51 : Int32)) hx hb dX12_isOne_4 (by decide) ?_
  refine lv_iload_n hx hb dX12_isOne_6 rfl (lv_at hl 1 rfl) ?_
  refine lv_iadd hx hb dX12_isOne_7 ?_
  have o_8 : vp_in ((51 : Int32) + a1) 916 := by
    have : ((51 : Int32)).toInt = 51 := by decide
    try have := ti_add (a := (51 : Int32)) (b := a1) (by omega) (by omega)
    exact vin (by omega) (by omega)
  refine m_ald (σ := σ) C0 hK hP 1 1 916 rfl o_8 (ix ((51 : Int32) + a1)) rfl dX12_isOne_8 ?_
  refine lv_aload_n hx hb dX12_isOne_9 rfl (lv_at hl 0 rfl) ?_
  refine m_get (σ := σ) (v := .ref (g.2.2 1)) C0 hK hP 1 (by decide) rfl w_968 dX12_isOne_10 ?_
  refine lv_bipush (v := (57 : Int32)) hx hb dX12_isOne_13 (by decide) ?_
  refine lv_iload_n hx hb dX12_isOne_15 rfl (lv_at hl 1 rfl) ?_
  refine lv_iadd hx hb dX12_isOne_16 ?_
  have o_17 : vp_in ((57 : Int32) + a1) 916 := by
    have : ((57 : Int32)).toInt = 57 := by decide
    try have := ti_add (a := (57 : Int32)) (b := a1) (by omega) (by omega)
    exact vin (by omega) (by omega)
  refine m_ald (σ := σ) C0 hK hP 1 1 916 rfl o_17 (ix ((57 : Int32) + a1)) rfl dX12_isOne_17 ?_
  have J18 : ∀ v : Int32, v = (if (σ 1 (ix ((51 : Int32) + a1))) = (σ 1 (ix ((57 : Int32) + a1))) then (1 : Int32) else (0 : Int32)) → W p l e { frames := 0, cells := 0, slots := 0, locals := 0 } s m args below meth c s.heap [] 0 0 (QPI below args s tgt) (F0 m 26 ls [.int (v)]) := by
    intro v ev
    subst ev
    exact ret_PZ C0 (nz_of (by (repeat' split) <;> simp)) hT dX12_isOne_26
  refine lv_icmp_ne (tgt := 25) hx hb dX12_isOne_18 (by decide) (fun c_18 => ?_) (fun c_18 => ?_)
  · refine lv_iconst (v := (0 : Int32)) hx hb dX12_isOne_25 (by decide) ?_
    exact J18 _ (iv_neg c_18 rfl)
  · refine lv_iconst (v := (1 : Int32)) hx hb dX12_isOne_21 (by decide) ?_
    refine lv_goto (tgt := 26) hx hb dX12_isOne_22 (by decide) ?_
    exact J18 _ (iv_pos c_18 rfl)
/-! ThreeMeasuresModel.isUnder -/
theorem dX12_isUnder_0 : decode cX12_isUnder 0 = .ok (.iload_n 1, 1) := by decide +kernel
theorem dX12_isUnder_1 : decode cX12_isUnder 1 = .ok (.ifCond .eq 24, 3) := by decide +kernel
theorem dX12_isUnder_4 : decode cX12_isUnder 4 = .ok (.iload_n 1, 1) := by decide +kernel
theorem dX12_isUnder_5 : decode cX12_isUnder 5 = .ok (.iload_n 0, 1) := by decide +kernel
theorem dX12_isUnder_6 : decode cX12_isUnder 6 = .ok (.if_icmp .eq 19, 3) := by decide +kernel
theorem dX12_isUnder_9 : decode cX12_isUnder 9 = .ok (.iload_n 1, 1) := by decide +kernel
theorem dX12_isUnder_10 : decode cX12_isUnder 10 = .ok (.ifCond .le 19, 3) := by decide +kernel
theorem dX12_isUnder_13 : decode cX12_isUnder 13 = .ok (.iload_n 1, 1) := by decide +kernel
theorem dX12_isUnder_14 : decode cX12_isUnder 14 = .ok (.iconst 4, 1) := by decide +kernel
theorem dX12_isUnder_15 : decode cX12_isUnder 15 = .ok (.if_icmp .ge 14, 3) := by decide +kernel
theorem dX12_isUnder_18 : decode cX12_isUnder 18 = .ok (.iload_n 0, 1) := by decide +kernel
theorem dX12_isUnder_19 : decode cX12_isUnder 19 = .ok (.iload_n 1, 1) := by decide +kernel
theorem dX12_isUnder_20 : decode cX12_isUnder 20 = .ok (.iconst 3, 1) := by decide +kernel
theorem dX12_isUnder_21 : decode cX12_isUnder 21 = .ok (.iadd, 1) := by decide +kernel
theorem dX12_isUnder_22 : decode cX12_isUnder 22 = .ok (.if_icmp .ne 7, 3) := by decide +kernel
theorem dX12_isUnder_25 : decode cX12_isUnder 25 = .ok (.iconst 1, 1) := by decide +kernel
theorem dX12_isUnder_26 : decode cX12_isUnder 26 = .ok (.goto 4, 3) := by decide +kernel
theorem dX12_isUnder_29 : decode cX12_isUnder 29 = .ok (.iconst 0, 1) := by decide +kernel
theorem dX12_isUnder_30 : decode cX12_isUnder 30 = .ok (.ireturn, 1) := by decide +kernel
def f_X12_isUnder (a0 : Int32) (a1 : Int32) : Int32 := (if a1 = 0 then (1 : Int32) else (if a1 = a0 then (1 : Int32) else (if a1 ≤ 0 then (0 : Int32) else (if (4 : Int32) ≤ a1 then (0 : Int32) else (if a0 = (a1 + (3 : Int32)) then (1 : Int32) else (0 : Int32))))))
set_option maxHeartbeats 600000 in
set_option maxRecDepth 100000 in
theorem k_X12_isUnder (l : Launch)  (a0 : Int32) (a1 : Int32)  : PI l yX12_isUnder (wsF yX12_isUnder cX12_isUnder 2 (some .boolean)) { frames := 0, cells := 0, slots := 0, locals := 0 } [.int (a0), .int (a1)] (fun _ => True) (f_X12_isUnder a0 a1) := by
  refine start_PI (by decide) (Nat.le_of_ble_eq_true rfl) ?_
  intro p e s m args below meth c C0 hG ls hl
  obtain ⟨hx, hb, hr, hml, hown, hts, hlocks⟩ := id C0
  have hl : lv_has ls 2 [(0, .int (a0)), (1, .int (a1))] := hl
  generalize hT : (f_X12_isUnder a0 a1) = tgt
  unfold f_X12_isUnder at hT
  refine lv_iload_n hx hb dX12_isUnder_0 rfl (lv_at hl 1 rfl) ?_
  have J1 : ∀ v : Int32, v = (if a1 = 0 then (1 : Int32) else (if a1 = a0 then (1 : Int32) else (if a1 ≤ 0 then (0 : Int32) else (if (4 : Int32) ≤ a1 then (0 : Int32) else (if a0 = (a1 + (3 : Int32)) then (1 : Int32) else (0 : Int32)))))) → W p l e { frames := 0, cells := 0, slots := 0, locals := 0 } s m args below meth c s.heap [] 0 0 (QPI below args s tgt) (F0 m 30 ls [.int (v)]) := by
    intro v ev
    subst ev
    exact ret_PZ C0 (nz_of (by (repeat' split) <;> simp)) hT dX12_isUnder_30
  refine lv_if_eq (tgt := 25) hx hb dX12_isUnder_1 (by decide) (fun c_1 => ?_) (fun c_1 => ?_)
  · refine lv_iconst (v := (1 : Int32)) hx hb dX12_isUnder_25 (by decide) ?_
    refine lv_goto (tgt := 30) hx hb dX12_isUnder_26 (by decide) ?_
    exact J1 _ (iv_pos c_1 rfl)
  · refine lv_iload_n hx hb dX12_isUnder_4 rfl (lv_at hl 1 rfl) ?_
    refine lv_iload_n hx hb dX12_isUnder_5 rfl (lv_at hl 0 rfl) ?_
    refine lv_icmp_eq (tgt := 25) hx hb dX12_isUnder_6 (by decide) (fun c_6 => ?_) (fun c_6 => ?_)
    · refine lv_iconst (v := (1 : Int32)) hx hb dX12_isUnder_25 (by decide) ?_
      refine lv_goto (tgt := 30) hx hb dX12_isUnder_26 (by decide) ?_
      exact J1 _ (iv_neg c_1 (iv_pos c_6 rfl))
    · refine lv_iload_n hx hb dX12_isUnder_9 rfl (lv_at hl 1 rfl) ?_
      refine lv_if_le (tgt := 29) hx hb dX12_isUnder_10 (by decide) (fun c_10 => ?_) (fun c_10 => ?_)
      · refine lv_iconst (v := (0 : Int32)) hx hb dX12_isUnder_29 (by decide) ?_
        exact J1 _ (iv_neg c_1 (iv_neg c_6 (iv_pos c_10 rfl)))
      · refine lv_iload_n hx hb dX12_isUnder_13 rfl (lv_at hl 1 rfl) ?_
        refine lv_iconst (v := (4 : Int32)) hx hb dX12_isUnder_14 (by decide) ?_
        refine lv_icmp_ge (tgt := 29) hx hb dX12_isUnder_15 (by decide) (fun c_15 => ?_) (fun c_15 => ?_)
        · refine lv_iconst (v := (0 : Int32)) hx hb dX12_isUnder_29 (by decide) ?_
          exact J1 _ (iv_neg c_1 (iv_neg c_6 (iv_neg c_10 (iv_pos c_15 rfl))))
        · refine lv_iload_n hx hb dX12_isUnder_18 rfl (lv_at hl 0 rfl) ?_
          refine lv_iload_n hx hb dX12_isUnder_19 rfl (lv_at hl 1 rfl) ?_
          refine lv_iconst (v := (3 : Int32)) hx hb dX12_isUnder_20 (by decide) ?_
          refine lv_iadd hx hb dX12_isUnder_21 ?_
          refine lv_icmp_ne (tgt := 29) hx hb dX12_isUnder_22 (by decide) (fun c_22 => ?_) (fun c_22 => ?_)
          · refine lv_iconst (v := (0 : Int32)) hx hb dX12_isUnder_29 (by decide) ?_
            exact J1 _ (iv_neg c_1 (iv_neg c_6 (iv_neg c_10 (iv_neg c_15 (iv_neg c_22 rfl)))))
          · refine lv_iconst (v := (1 : Int32)) hx hb dX12_isUnder_25 (by decide) ?_
            refine lv_goto (tgt := 30) hx hb dX12_isUnder_26 (by decide) ?_
            exact J1 _ (iv_neg c_1 (iv_neg c_6 (iv_neg c_10 (iv_neg c_15 (iv_pos c_22 rfl)))))
set_option maxRecDepth 20000 in
theorem w_1308 : (Cond.methodLink RX12 229 yX12_isUnder) ∈ TB := inTB (List.mem_of_getElem? (i := 1308) (by decide +kernel)) (by decide +kernel)
set_option maxRecDepth 20000 in
theorem w_1310 : (Cond.code yX12_isUnder cX12_isUnder 2 (some .boolean)) ∈ TB := inTB (List.mem_of_getElem? (i := 1310) (by decide +kernel)) (by decide +kernel)
set_option maxRecDepth 20000 in
theorem w_1309 : (Cond.static yX12_isUnder) ∈ TB := inTB (List.mem_of_getElem? (i := 1309) (by decide +kernel)) (by decide +kernel)
theorem cf_X12_isUnder : CG yX12_isUnder cX12_isUnder 2 (some .boolean) 2 := ⟨w_1309, w_75, w_1310, by decide +kernel, by decide +kernel, by decide +kernel⟩
/-! ThreeMeasuresModel.as -/
theorem dX12_as_0 : decode cX12_as 0 = .ok (.aload_n 0, 1) := by decide +kernel
theorem dX12_as_1 : decode cX12_as 1 = .ok (.iload_n 1, 1) := by decide +kernel
theorem dX12_as_2 : decode cX12_as 2 = .ok (.invokevirtual 161, 3) := by decide +kernel
theorem dX12_as_5 : decode cX12_as 5 = .ok (.ifCond .eq 13, 3) := by decide +kernel
theorem dX12_as_8 : decode cX12_as 8 = .ok (.iload_n 2, 1) := by decide +kernel
theorem dX12_as_9 : decode cX12_as 9 = .ok (.iconst 0, 1) := by decide +kernel
theorem dX12_as_10 : decode cX12_as 10 = .ok (.bipush 6, 2) := by decide +kernel
theorem dX12_as_12 : decode cX12_as 12 = .ok (.invokestatic 47, 3) := by decide +kernel
theorem dX12_as_15 : decode cX12_as 15 = .ok (.ifCond .ne 5, 3) := by decide +kernel
theorem dX12_as_18 : decode cX12_as 18 = .ok (.iconst (-1), 1) := by decide +kernel
theorem dX12_as_19 : decode cX12_as 19 = .ok (.ireturn, 1) := by decide +kernel
theorem dX12_as_20 : decode cX12_as 20 = .ok (.aload_n 0, 1) := by decide +kernel
theorem dX12_as_21 : decode cX12_as 21 = .ok (.getfield 9, 3) := by decide +kernel
theorem dX12_as_24 : decode cX12_as 24 = .ok (.bipush 9, 2) := by decide +kernel
theorem dX12_as_26 : decode cX12_as 26 = .ok (.iload_n 1, 1) := by decide +kernel
theorem dX12_as_27 : decode cX12_as 27 = .ok (.iadd, 1) := by decide +kernel
theorem dX12_as_28 : decode cX12_as 28 = .ok (.iaload, 1) := by decide +kernel
theorem dX12_as_29 : decode cX12_as 29 = .ok (.iload_n 2, 1) := by decide +kernel
theorem dX12_as_30 : decode cX12_as 30 = .ok (.invokestatic 229, 3) := by decide +kernel
theorem dX12_as_33 : decode cX12_as 33 = .ok (.ifCond .eq 15, 3) := by decide +kernel
theorem dX12_as_36 : decode cX12_as 36 = .ok (.aload_n 0, 1) := by decide +kernel
theorem dX12_as_37 : decode cX12_as 37 = .ok (.getfield 9, 3) := by decide +kernel
theorem dX12_as_40 : decode cX12_as 40 = .ok (.bipush 15, 2) := by decide +kernel
theorem dX12_as_42 : decode cX12_as 42 = .ok (.iload_n 1, 1) := by decide +kernel
theorem dX12_as_43 : decode cX12_as 43 = .ok (.iadd, 1) := by decide +kernel
theorem dX12_as_44 : decode cX12_as 44 = .ok (.iaload, 1) := by decide +kernel
theorem dX12_as_45 : decode cX12_as 45 = .ok (.goto 5, 3) := by decide +kernel
theorem dX12_as_48 : decode cX12_as 48 = .ok (.bipush (-6), 2) := by decide +kernel
theorem dX12_as_50 : decode cX12_as 50 = .ok (.ireturn, 1) := by decide +kernel
def f_X12_as (σ : St) (a1 : Int32) (a2 : Int32) : Int32 := (if (f_X12_isStick σ a1) = 0 then (-1 : Int32) else (if (f_X12_in a2 (0 : Int32) (6 : Int32)) = 0 then (-1 : Int32) else (if (f_X12_isUnder (σ 1 (ix ((9 : Int32) + a1))) a2) = 0 then (-6 : Int32) else (σ 1 (ix ((15 : Int32) + a1))))))
set_option maxHeartbeats 600000 in
set_option maxRecDepth 100000 in
theorem k_X12_as (l : Launch) (g : GG) (σ : St) (a1 : Int32) (a2 : Int32) (hI : IB (σ 1)) : PI l yX12_as (wsF yX12_as cX12_as 3 (some .int)) { frames := 2, cells := 0, slots := 0, locals := 43 } [.ref (g.2.2 100), .int (a1), .int (a2)] (GB g (mW g) (fun _ => True) σ) (f_X12_as σ a1 a2) := by
  refine start_PI (by decide) (Nat.le_of_ble_eq_true rfl) ?_
  intro p e s m args below meth c C0 hG ls hl
  obtain ⟨hK, hP, hDD, hBg⟩ := hG
  obtain ⟨hx, hb, hr, hml, hown, hts, hlocks⟩ := id C0
  have hl : lv_has ls 3 [(0, .ref (g.2.2 100)), (1, .int (a1)), (2, .int (a2))] := hl
  generalize hT : (f_X12_as σ a1 a2) = tgt
  unfold f_X12_as at hT
  obtain ⟨⟨i0, i0'⟩, ⟨i1, i1'⟩, ⟨i2, i2'⟩, ⟨i3, i3'⟩, ⟨i4, i4'⟩, ⟨i5, i5'⟩, ⟨i6, i6'⟩, ⟨i7, i7'⟩, ⟨i8, i8'⟩, iK, iV, iL, iR, iW, iY, iG, iM, iB, iQ, iP, iT, iU⟩ := id hI
  refine lv_aload_n hx hb dX12_as_0 rfl (lv_at hl 0 rfl) ?_
  refine lv_iload_n hx hb dX12_as_1 rfl (lv_at hl 1 rfl) ?_
  refine m_ci (rest := []) (As := [.int (a1)]) (σ := σ) C0 hK hP hDD SV.tt (fun _ _ _ => trivial) cf_X12_isStick w_1131 rfl (k_X12_isStick l g σ a1 ) ⟨by decide, by decide⟩ hl.1 rfl rfl (Nat.le_of_ble_eq_true rfl) dX12_as_2 ⟨Nat.zero_le _, Nat.zero_le _⟩ ?_
  refine lv_if_eq (tgt := 18) hx hb dX12_as_5 (by decide) (fun c_5 => ?_) (fun c_5 => ?_)
  · have hT := hT_pos c_5 hT
    refine lv_iconst (v := (-1 : Int32)) hx hb dX12_as_18 (by decide) ?_
    exact ret_PI C0 hT dX12_as_19
  · have hT := hT_neg c_5 hT
    refine lv_iload_n hx hb dX12_as_8 rfl (lv_at hl 2 rfl) ?_
    refine lv_iconst (v := (0 : Int32)) hx hb dX12_as_9 (by decide) ?_
    refine lv_bipush (v := (6 : Int32)) hx hb dX12_as_10 (by decide) ?_
    refine s_ci (rest := []) (As := [.int (a2), .int ((0 : Int32)), .int ((6 : Int32))]) C0 cf_X12_in w_1060 (k_X12_in l a2 (0 : Int32) (6 : Int32) ) ⟨by decide, by decide⟩ hl.1 rfl rfl (Nat.le_of_ble_eq_true rfl) dX12_as_12 ⟨Nat.zero_le _, Nat.zero_le _⟩ ?_
    refine lv_if_ne (tgt := 20) hx hb dX12_as_15 (by decide) (fun c_15 => ?_) (fun c_15 => ?_)
    · have hT := hT_neg c_15 hT
      refine lv_aload_n hx hb dX12_as_20 rfl (lv_at hl 0 rfl) ?_
      refine m_get (σ := σ) (v := .ref (g.2.2 1)) C0 hK hP 1 (by decide) rfl w_968 dX12_as_21 ?_
      refine lv_bipush (v := (9 : Int32)) hx hb dX12_as_24 (by decide) ?_
      refine lv_iload_n hx hb dX12_as_26 rfl (lv_at hl 1 rfl) ?_
      refine lv_iadd hx hb dX12_as_27 ?_
      have o_28 : vp_in ((9 : Int32) + a1) 916 := by
        have : ((0 : Int32)).toInt = 0 := by decide
        have : ((6 : Int32)).toInt = 6 := by decide
        have : ((9 : Int32)).toInt = 9 := by decide
        have := isStick_ne hI.1.1 c_5
        have := in_ne c_15
        try have := ti_add (a := (9 : Int32)) (b := a1) (by omega) (by omega)
        exact vin (by omega) (by omega)
      refine m_ald (σ := σ) C0 hK hP 1 1 916 rfl o_28 (ix ((9 : Int32) + a1)) rfl dX12_as_28 ?_
      refine lv_iload_n hx hb dX12_as_29 rfl (lv_at hl 2 rfl) ?_
      refine s_ci (rest := []) (As := [.int ((σ 1 (ix ((9 : Int32) + a1)))), .int (a2)]) C0 cf_X12_isUnder w_1308 (k_X12_isUnder l (σ 1 (ix ((9 : Int32) + a1))) a2 ) ⟨by decide, by decide⟩ hl.1 rfl rfl (Nat.le_of_ble_eq_true rfl) dX12_as_30 ⟨Nat.zero_le _, Nat.zero_le _⟩ ?_
      have J33 : ∀ v : Int32, v = (if (f_X12_isUnder (σ 1 (ix ((9 : Int32) + a1))) a2) = 0 then (-6 : Int32) else (σ 1 (ix ((15 : Int32) + a1)))) → W p l e { frames := 2, cells := 0, slots := 0, locals := 43 } s m args below meth c s.heap [] 0 0 (QPI below args s tgt) (F0 m 50 ls [.int (v)]) := by
        intro v ev
        subst ev
        exact ret_PI C0 hT dX12_as_50
      refine lv_if_eq (tgt := 48) hx hb dX12_as_33 (by decide) (fun c_33 => ?_) (fun c_33 => ?_)
      · refine lv_bipush (v := (-6 : Int32)) hx hb dX12_as_48 (by decide) ?_
        exact J33 _ (iv_pos c_33 rfl)
      · refine lv_aload_n hx hb dX12_as_36 rfl (lv_at hl 0 rfl) ?_
        refine m_get (σ := σ) (v := .ref (g.2.2 1)) C0 hK hP 1 (by decide) rfl w_968 dX12_as_37 ?_
        refine lv_bipush (v := (15 : Int32)) hx hb dX12_as_40 (by decide) ?_
        refine lv_iload_n hx hb dX12_as_42 rfl (lv_at hl 1 rfl) ?_
        refine lv_iadd hx hb dX12_as_43 ?_
        have o_44 : vp_in ((15 : Int32) + a1) 916 := by
          have : ((0 : Int32)).toInt = 0 := by decide
          have : ((6 : Int32)).toInt = 6 := by decide
          have : ((15 : Int32)).toInt = 15 := by decide
          have := isStick_ne hI.1.1 c_5
          have := in_ne c_15
          have := mt ti_eq.mpr c_33
          try have := ti_add (a := (15 : Int32)) (b := a1) (by omega) (by omega)
          exact vin (by omega) (by omega)
        refine m_ald (σ := σ) C0 hK hP 1 1 916 rfl o_44 (ix ((15 : Int32) + a1)) rfl dX12_as_44 ?_
        refine lv_goto (tgt := 50) hx hb dX12_as_45 (by decide) ?_
        exact J33 _ (iv_neg c_33 rfl)
    · have hT := hT_pos c_15 hT
      refine lv_iconst (v := (-1 : Int32)) hx hb dX12_as_18 (by decide) ?_
      exact ret_PI C0 hT dX12_as_19
set_option maxRecDepth 20000 in
theorem w_992 : (Cond.fieldLink RX12 217 RX12 "ran" "I") ∈ TB := inTB (List.mem_of_getElem? (i := 992) (by decide +kernel)) (by decide +kernel)
/-! ThreeMeasuresModel.count -/
theorem dX12_count_0 : decode cX12_count 0 = .ok (.iload_n 1, 1) := by decide +kernel
theorem dX12_count_1 : decode cX12_count 1 = .ok (.bipush 7, 2) := by decide +kernel
theorem dX12_count_3 : decode cX12_count 3 = .ok (.if_icmp .ne 10, 3) := by decide +kernel
theorem dX12_count_6 : decode cX12_count 6 = .ok (.aload_n 0, 1) := by decide +kernel
theorem dX12_count_7 : decode cX12_count 7 = .ok (.getfield 217, 3) := by decide +kernel
theorem dX12_count_10 : decode cX12_count 10 = .ok (.goto 23, 3) := by decide +kernel
theorem dX12_count_13 : decode cX12_count 13 = .ok (.iload_n 1, 1) := by decide +kernel
theorem dX12_count_14 : decode cX12_count 14 = .ok (.iconst 0, 1) := by decide +kernel
theorem dX12_count_15 : decode cX12_count 15 = .ok (.bipush 6, 2) := by decide +kernel
theorem dX12_count_17 : decode cX12_count 17 = .ok (.invokestatic 47, 3) := by decide +kernel
theorem dX12_count_20 : decode cX12_count 20 = .ok (.ifCond .eq 12, 3) := by decide +kernel
theorem dX12_count_23 : decode cX12_count 23 = .ok (.aload_n 0, 1) := by decide +kernel
theorem dX12_count_24 : decode cX12_count 24 = .ok (.getfield 9, 3) := by decide +kernel
theorem dX12_count_27 : decode cX12_count 27 = .ok (.iload_n 1, 1) := by decide +kernel
theorem dX12_count_28 : decode cX12_count 28 = .ok (.iaload, 1) := by decide +kernel
theorem dX12_count_29 : decode cX12_count 29 = .ok (.goto 4, 3) := by decide +kernel
theorem dX12_count_32 : decode cX12_count 32 = .ok (.iconst (-1), 1) := by decide +kernel
theorem dX12_count_33 : decode cX12_count 33 = .ok (.ireturn, 1) := by decide +kernel
def f_X12_count (σ : St) (a1 : Int32) : Int32 := (if a1 = (7 : Int32) then (σ 25 0) else (if (f_X12_in a1 (0 : Int32) (6 : Int32)) = 0 then (-1 : Int32) else (σ 1 (ix a1))))
set_option maxHeartbeats 600000 in
set_option maxRecDepth 100000 in
theorem k_X12_count (l : Launch) (g : GG) (σ : St) (a1 : Int32) (hI : IB (σ 1)) : PI l yX12_count (wsF yX12_count cX12_count 2 (some .int)) { frames := 1, cells := 0, slots := 0, locals := 22 } [.ref (g.2.2 100), .int (a1)] (GB g (mW g) (fun _ => True) σ) (f_X12_count σ a1) := by
  refine start_PI (by decide) (Nat.le_of_ble_eq_true rfl) ?_
  intro p e s m args below meth c C0 hG ls hl
  obtain ⟨hK, hP, hDD, hBg⟩ := hG
  obtain ⟨hx, hb, hr, hml, hown, hts, hlocks⟩ := id C0
  have hl : lv_has ls 2 [(0, .ref (g.2.2 100)), (1, .int (a1))] := hl
  generalize hT : (f_X12_count σ a1) = tgt
  unfold f_X12_count at hT
  obtain ⟨⟨i0, i0'⟩, ⟨i1, i1'⟩, ⟨i2, i2'⟩, ⟨i3, i3'⟩, ⟨i4, i4'⟩, ⟨i5, i5'⟩, ⟨i6, i6'⟩, ⟨i7, i7'⟩, ⟨i8, i8'⟩, iK, iV, iL, iR, iW, iY, iG, iM, iB, iQ, iP, iT, iU⟩ := id hI
  refine lv_iload_n hx hb dX12_count_0 rfl (lv_at hl 1 rfl) ?_
  refine lv_bipush (v := (7 : Int32)) hx hb dX12_count_1 (by decide) ?_
  have J3 : ∀ v : Int32, v = (if a1 = (7 : Int32) then (σ 25 0) else (if (f_X12_in a1 (0 : Int32) (6 : Int32)) = 0 then (-1 : Int32) else (σ 1 (ix a1)))) → W p l e { frames := 1, cells := 0, slots := 0, locals := 22 } s m args below meth c s.heap [] 0 0 (QPI below args s tgt) (F0 m 33 ls [.int (v)]) := by
    intro v ev
    subst ev
    exact ret_PI C0 hT dX12_count_33
  refine lv_icmp_ne (tgt := 13) hx hb dX12_count_3 (by decide) (fun c_3 => ?_) (fun c_3 => ?_)
  · refine lv_iload_n hx hb dX12_count_13 rfl (lv_at hl 1 rfl) ?_
    refine lv_iconst (v := (0 : Int32)) hx hb dX12_count_14 (by decide) ?_
    refine lv_bipush (v := (6 : Int32)) hx hb dX12_count_15 (by decide) ?_
    refine s_ci (rest := []) (As := [.int (a1), .int ((0 : Int32)), .int ((6 : Int32))]) C0 cf_X12_in w_1060 (k_X12_in l a1 (0 : Int32) (6 : Int32) ) ⟨by decide, by decide⟩ hl.1 rfl rfl (Nat.le_of_ble_eq_true rfl) dX12_count_17 ⟨Nat.zero_le _, Nat.zero_le _⟩ ?_
    refine lv_if_eq (tgt := 32) hx hb dX12_count_20 (by decide) (fun c_20 => ?_) (fun c_20 => ?_)
    · refine lv_iconst (v := (-1 : Int32)) hx hb dX12_count_32 (by decide) ?_
      exact J3 _ (iv_neg c_3 (iv_pos c_20 rfl))
    · refine lv_aload_n hx hb dX12_count_23 rfl (lv_at hl 0 rfl) ?_
      refine m_get (σ := σ) (v := .ref (g.2.2 1)) C0 hK hP 1 (by decide) rfl w_968 dX12_count_24 ?_
      refine lv_iload_n hx hb dX12_count_27 rfl (lv_at hl 1 rfl) ?_
      have o_28 : vp_in a1 916 := by
        have : ((7 : Int32)).toInt = 7 := by decide
        have : ((0 : Int32)).toInt = 0 := by decide
        have : ((6 : Int32)).toInt = 6 := by decide
        have := mt ti_eq.mpr c_3
        have := in_ne c_20
        exact vin (by omega) (by omega)
      refine m_ald (σ := σ) C0 hK hP 1 1 916 rfl o_28 (ix a1) rfl dX12_count_28 ?_
      refine lv_goto (tgt := 33) hx hb dX12_count_29 (by decide) ?_
      exact J3 _ (iv_neg c_3 (iv_neg c_20 rfl))
  · refine lv_aload_n hx hb dX12_count_6 rfl (lv_at hl 0 rfl) ?_
    refine m_get (σ := σ) (v := .int ((σ 25 0))) C0 hK hP 25 (by decide) rfl w_992 dX12_count_7 ?_
    refine lv_goto (tgt := 33) hx hb dX12_count_10 (by decide) ?_
    exact J3 _ (iv_pos c_3 rfl)
