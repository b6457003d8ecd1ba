
def rf (o : Option Nat) : Nat := o.getD 0
theorem rf_some {o : Option Nat} (h : ¬ o = none) : o = some (rf o) := by
  cases o with
  | none => exact absurd rfl h
  | some a => rfl
theorem va_rf_some {o : Option Nat} (h : ¬ o = none) : va_rf o = .ref (rf o) := by
  cases o with
  | none => exact absurd rfl h
  | some a => rfl
theorem va_rf_none {o : Option Nat} (h : o = none) : va_rf o = .null := by rw [h]; rfl
theorem XH.sk {g : GG} {ρ : RR} {dt : Nat → Nat → Int32} {H : Heap} {a : Nat} (h : XH g ρ dt H) {i : Nat} (hi : ρ 24 i = some a ∨ ρ 44 i = some a) : SKH g H a (dt a) := h.1 i a hi
theorem XH.rm {g : GG} {ρ : RR} {dt : Nat → Nat → Int32} {H : Heap} {a : Nat} (h : XH g ρ dt H) (hi : ρ 22 0 = some a ∨ ρ 42 0 = some a) : RMH g H a (dt a) := h.2 a hi
theorem rm_getN {p : Program} {l : Launch} {e : Env} {R : Room} {s : State} {m : MethodId} {args : Array Value} {below : List Frame} {meth : Method} {c : Code} {H : Heap} {locs : List Loc} {cells slots : Nat} {Q : State → Prop} {cc : ByteArray} {own : String} {nL pc idx : Nat} {ret0 : Option FieldType} {ls : Array Slot} {rest : List Value} {g : GG} {r : Nat} {dr : Nat → Int32} {host : String} (k : Nat) (C0 : BC p s m args meth c cc own nL ret0) (hK : KK g s) (hRM : RMH g H r dr) (hk : k < 2) (hw : Cond.fieldLinkNest own idx RX2 (TX2 k).2.1 (TX2 k).2.2.1 host ∈ NB) (hdg : decode cc pc = .ok (.getfield idx, 3)) (kk : W p l e R s m args below meth c H locs cells slots Q (F0 m (pc + 3) ls (.int (dr k) :: rest))) : W p l e R s m args below meth c H locs cells slots Q (F0 m pc ls (.ref r :: rest)) := by
  obtain ⟨h0, rb, rn, hb, hba, hn, hd2, h1, h2⟩ := hRM
  exact va_getN (D := g.1) (ci := 2) (C := RX2) (T := TX2) (N := 3) C0.1 C0.2.1 C0.2.2.2.2.2.1 uw_2 C0.2.2.2.2.1 hK.1 (one_P h1) 0 rfl rfl k (by omega) (va_Nw.use rfl (hK.2 _ hw)) (fun x h => by
    have e1 : ∀ j, (TX2 j).1 = RX2 := fun j => by unfold TX2; split <;> rfl
    rw [← e1 k]; exact h) (by rcases (show k = 0 ∨ k = 1 by omega) with rfl | rfl <;> rfl) hdg kk
set_option maxRecDepth 20000 in
theorem w_112 : (Cond.fieldLink RX5 52 RX5 "holding" "LThreeMeasures$Room;") ∈ TB := inTB (List.mem_of_getElem? (i := 112) (by decide +kernel)) (by decide +kernel)
set_option maxRecDepth 20000 in
theorem w_448 : (Cond.fieldLinkNest RX5 79 RX2 "board" "I" RX11) ∈ NB := inNB (List.mem_of_getElem? (i := 448) (by decide +kernel)) (by decide +kernel)
/-! ThreeMeasures$State.board -/
theorem dX5_board_0 : decode cX5_board 0 = .ok (.aload_n 0, 1) := by decide +kernel
theorem dX5_board_1 : decode cX5_board 1 = .ok (.getfield 52, 3) := by decide +kernel
theorem dX5_board_4 : decode cX5_board 4 = .ok (.ifnonnull 8, 3) := by decide +kernel
theorem dX5_board_7 : decode cX5_board 7 = .ok (.bipush 40, 2) := by decide +kernel
theorem dX5_board_9 : decode cX5_board 9 = .ok (.goto 10, 3) := by decide +kernel
theorem dX5_board_12 : decode cX5_board 12 = .ok (.aload_n 0, 1) := by decide +kernel
theorem dX5_board_13 : decode cX5_board 13 = .ok (.getfield 52, 3) := by decide +kernel
theorem dX5_board_16 : decode cX5_board 16 = .ok (.getfield 79, 3) := by decide +kernel
theorem dX5_board_19 : decode cX5_board 19 = .ok (.ireturn, 1) := by decide +kernel
def f_X5_board (ρ : RR) (dt : Nat → Nat → Int32) (σ : St) : Int32 := (if (ρ 22 0) = none then (40 : Int32) else (dt (rf (ρ 22 0)) 0))
set_option maxHeartbeats 600000 in
set_option maxRecDepth 100000 in
theorem k_X5_board (l : Launch) (g : GG) (ρ : RR) (dt : Nat → Nat → Int32) (σ : St)  : PI l yX5_board (wsF yX5_board cX5_board 1 (some .int)) { frames := 0, cells := 0, slots := 0, locals := 0 } [.ref (g.2.2 101)] (GB g (xW g ρ) (XB g ρ dt) σ) (f_X5_board ρ dt σ) := by
  refine start_PI (by decide) (Nat.le_of_ble_eq_true rfl) ?_
  intro p e s m args below meth c C0 hG ls hl
  obtain ⟨hK, hP, hDD, hB⟩ := hG
  obtain ⟨hx, hb, hr, hml, hown, hts, hlocks⟩ := id C0
  have hl : lv_has ls 1 [(0, .ref (g.2.2 101))] := hl
  generalize hT : (f_X5_board ρ dt σ) = tgt
  unfold f_X5_board at hT
  refine lv_aload_n hx hb dX5_board_0 rfl (lv_at hl 0 rfl) ?_
  refine x_get (σ := σ) (v := va_rf ((ρ 22 0))) (fs := xF1 g ρ σ) 5 1 C0 uw_5 dc_5 hK hP rfl rfl 2 (by decide) rfl w_112 dX5_board_1 ?_
  by_cases c_4 : (ρ 22 0) = none
  · have hT := hT_pos c_4 hT
    rw [va_rf_none c_4]
    refine lv_ifnonnullN hx hb dX5_board_4 ?_
    refine lv_bipush (v := (40 : Int32)) hx hb dX5_board_7 (by decide) ?_
    refine lv_goto (tgt := 19) hx hb dX5_board_9 (by decide) ?_
    exact ret_PI C0 hT dX5_board_19
  · have hT := hT_neg c_4 hT
    rw [va_rf_some c_4]
    refine lv_ifnonnull (tgt := 12) hx hb dX5_board_4 (by decide) ?_
    refine lv_aload_n hx hb dX5_board_12 rfl (lv_at hl 0 rfl) ?_
    refine x_get (σ := σ) (v := va_rf ((ρ 22 0))) (fs := xF1 g ρ σ) 5 1 C0 uw_5 dc_5 hK hP rfl rfl 2 (by decide) rfl w_112 dX5_board_13 ?_
    rw [va_rf_some c_4]
    refine rm_getN 0 C0 hK (XH.rm hB (Or.inl (rf_some c_4))) (by decide) w_448 dX5_board_16 ?_
    exact ret_PI C0 hT dX5_board_19
set_option maxRecDepth 20000 in
theorem w_450 : (Cond.fieldLinkNest RX5 82 RX2 "perStep" "I" RX11) ∈ NB := inNB (List.mem_of_getElem? (i := 450) (by decide +kernel)) (by decide +kernel)
/-! ThreeMeasures$State.perStep -/
theorem dX5_perStep_0 : decode cX5_perStep 0 = .ok (.aload_n 0, 1) := by decide +kernel
theorem dX5_perStep_1 : decode cX5_perStep 1 = .ok (.getfield 52, 3) := by decide +kernel
theorem dX5_perStep_4 : decode cX5_perStep 4 = .ok (.ifnonnull 7, 3) := by decide +kernel
theorem dX5_perStep_7 : decode cX5_perStep 7 = .ok (.iconst 1, 1) := by decide +kernel
theorem dX5_perStep_8 : decode cX5_perStep 8 = .ok (.goto 10, 3) := by decide +kernel
theorem dX5_perStep_11 : decode cX5_perStep 11 = .ok (.aload_n 0, 1) := by decide +kernel
theorem dX5_perStep_12 : decode cX5_perStep 12 = .ok (.getfield 52, 3) := by decide +kernel
theorem dX5_perStep_15 : decode cX5_perStep 15 = .ok (.getfield 82, 3) := by decide +kernel
theorem dX5_perStep_18 : decode cX5_perStep 18 = .ok (.ireturn, 1) := by decide +kernel
def f_X5_perStep (ρ : RR) (dt : Nat → Nat → Int32) (σ : St) : Int32 := (if (ρ 22 0) = none then (1 : Int32) else (dt (rf (ρ 22 0)) 1))
set_option maxHeartbeats 600000 in
set_option maxRecDepth 100000 in
theorem k_X5_perStep (l : Launch) (g : GG) (ρ : RR) (dt : Nat → Nat → Int32) (σ : St)  : PI l yX5_perStep (wsF yX5_perStep cX5_perStep 1 (some .int)) { frames := 0, cells := 0, slots := 0, locals := 0 } [.ref (g.2.2 101)] (GB g (xW g ρ) (XB g ρ dt) σ) (f_X5_perStep ρ dt σ) := by
  refine start_PI (by decide) (Nat.le_of_ble_eq_true rfl) ?_
  intro p e s m args below meth c C0 hG ls hl
  obtain ⟨hK, hP, hDD, hB⟩ := hG
  obtain ⟨hx, hb, hr, hml, hown, hts, hlocks⟩ := id C0
  have hl : lv_has ls 1 [(0, .ref (g.2.2 101))] := hl
  generalize hT : (f_X5_perStep ρ dt σ) = tgt
  unfold f_X5_perStep at hT
  refine lv_aload_n hx hb dX5_perStep_0 rfl (lv_at hl 0 rfl) ?_
  refine x_get (σ := σ) (v := va_rf ((ρ 22 0))) (fs := xF1 g ρ σ) 5 1 C0 uw_5 dc_5 hK hP rfl rfl 2 (by decide) rfl w_112 dX5_perStep_1 ?_
  by_cases c_4 : (ρ 22 0) = none
  · have hT := hT_pos c_4 hT
    rw [va_rf_none c_4]
    refine lv_ifnonnullN hx hb dX5_perStep_4 ?_
    refine lv_iconst (v := (1 : Int32)) hx hb dX5_perStep_7 (by decide) ?_
    refine lv_goto (tgt := 18) hx hb dX5_perStep_8 (by decide) ?_
    exact ret_PI C0 hT dX5_perStep_18
  · have hT := hT_neg c_4 hT
    rw [va_rf_some c_4]
    refine lv_ifnonnull (tgt := 11) hx hb dX5_perStep_4 (by decide) ?_
    refine lv_aload_n hx hb dX5_perStep_11 rfl (lv_at hl 0 rfl) ?_
    refine x_get (σ := σ) (v := va_rf ((ρ 22 0))) (fs := xF1 g ρ σ) 5 1 C0 uw_5 dc_5 hK hP rfl rfl 2 (by decide) rfl w_112 dX5_perStep_12 ?_
    rw [va_rf_some c_4]
    refine rm_getN 1 C0 hK (XH.rm hB (Or.inl (rf_some c_4))) (by decide) w_450 dX5_perStep_15 ?_
    exact ret_PI C0 hT dX5_perStep_18
set_option maxRecDepth 20000 in
theorem w_662 : (Cond.methodLink RX5 89 yX6_middle) ∈ TB := inTB (List.mem_of_getElem? (i := 662) (by decide +kernel)) (by decide +kernel)
theorem cf_X6_middle : CF yX6_middle cX6_middle 3 (some .int) 2 := ⟨w_663, w_664, w_85, w_683, by decide +kernel, by decide +kernel, by decide +kernel⟩
set_option maxRecDepth 20000 in
theorem w_684 : (Cond.methodLink RX5 93 Lib.Math.max.name) ∈ TB := inTB (List.mem_of_getElem? (i := 684) (by decide +kernel)) (by decide +kernel)
set_option maxRecDepth 20000 in
theorem w_654 : (Cond.methodLinkNest RX5 85 yX2_total RX11) ∈ NB := inNB (List.mem_of_getElem? (i := 654) (by decide +kernel)) (by decide +kernel)
set_option maxRecDepth 20000 in
theorem w_657 : (Cond.code yX2_total cX2_total 11 (some .int)) ∈ TB := inTB (List.mem_of_getElem? (i := 657) (by decide +kernel)) (by decide +kernel)
set_option maxRecDepth 20000 in
theorem w_656 : (Cond.instanceMethod yX2_total) ∈ TB := inTB (List.mem_of_getElem? (i := 656) (by decide +kernel)) (by decide +kernel)
set_option maxRecDepth 20000 in
theorem w_19 : (Cond.selects RX2 yX2_total yX2_total) ∈ TB := inTB (List.mem_of_getElem? (i := 19) (by decide +kernel)) (by decide +kernel)
theorem cf_X2_total : CF yX2_total cX2_total 11 (some .int) 4 := ⟨w_656, w_19, w_82, w_657, by decide +kernel, by decide +kernel, by decide +kernel⟩
/-! ThreeMeasures$State.middle -/
theorem dX5_middle_0 : decode cX5_middle 0 = .ok (.aload_n 0, 1) := by decide +kernel
theorem dX5_middle_1 : decode cX5_middle 1 = .ok (.getfield 52, 3) := by decide +kernel
theorem dX5_middle_4 : decode cX5_middle 4 = .ok (.ifnonnull 7, 3) := by decide +kernel
theorem dX5_middle_7 : decode cX5_middle 7 = .ok (.iconst 0, 1) := by decide +kernel
theorem dX5_middle_8 : decode cX5_middle 8 = .ok (.goto 14, 3) := by decide +kernel
theorem dX5_middle_11 : decode cX5_middle 11 = .ok (.aload_n 0, 1) := by decide +kernel
theorem dX5_middle_12 : decode cX5_middle 12 = .ok (.getfield 52, 3) := by decide +kernel
theorem dX5_middle_15 : decode cX5_middle 15 = .ok (.iconst 5, 1) := by decide +kernel
theorem dX5_middle_16 : decode cX5_middle 16 = .ok (.aload_n 1, 1) := by decide +kernel
theorem dX5_middle_17 : decode cX5_middle 17 = .ok (.iload_n 2, 1) := by decide +kernel
theorem dX5_middle_18 : decode cX5_middle 18 = .ok (.iload_n 3, 1) := by decide +kernel
theorem dX5_middle_19 : decode cX5_middle 19 = .ok (.invokevirtual 85, 3) := by decide +kernel
theorem dX5_middle_22 : decode cX5_middle 22 = .ok (.istore 4, 2) := by decide +kernel
theorem dX5_middle_24 : decode cX5_middle 24 = .ok (.iconst 0, 1) := by decide +kernel
theorem dX5_middle_25 : decode cX5_middle 25 = .ok (.aload_n 1, 1) := by decide +kernel
theorem dX5_middle_26 : decode cX5_middle 26 = .ok (.iload_n 3, 1) := by decide +kernel
theorem dX5_middle_27 : decode cX5_middle 27 = .ok (.iload 4, 2) := by decide +kernel
theorem dX5_middle_29 : decode cX5_middle 29 = .ok (.invokevirtual 89, 3) := by decide +kernel
theorem dX5_middle_32 : decode cX5_middle 32 = .ok (.invokestatic 93, 3) := by decide +kernel
theorem dX5_middle_35 : decode cX5_middle 35 = .ok (.ireturn, 1) := by decide +kernel
def f_X5_middle (ρ : RR) (dt : Nat → Nat → Int32) (σ : St) (a1 : Nat) (a2 : Int32) (a3 : Int32) : Int32 := (if (ρ 22 0) = none then (if (0 : Int32) < (vmid (dt a1) a3 (0 : Int32)) then (vmid (dt a1) a3 (0 : Int32)) else (0 : Int32)) else (if (0 : Int32) < (vmid (dt a1) a3 (f_X2_total (dt (rf (ρ 22 0))) (dt a1) (5 : Int32) a2 a3)) then (vmid (dt a1) a3 (f_X2_total (dt (rf (ρ 22 0))) (dt a1) (5 : Int32) a2 a3)) else (0 : Int32)))
set_option maxHeartbeats 600000 in
set_option maxRecDepth 100000 in
theorem k_X5_middle (l : Launch) (g : GG) (ρ : RR) (dt : Nat → Nat → Int32) (σ : St) (a1 : Nat) (a2 : Int32) (a3 : Int32) (hs : ∃ i, ρ 24 i = some a1) : PI l yX5_middle (wsF yX5_middle cX5_middle 5 (some .int)) { frames := 2, cells := 0, slots := 0, locals := 55 } [.ref (g.2.2 101), .ref (a1), .int (a2), .int (a3)] (GB g (xW g ρ) (XB g ρ dt) σ) (f_X5_middle ρ dt σ a1 a2 a3) := by
  refine start_PI (by decide) (Nat.le_of_ble_eq_true rfl) ?_
  intro p e s m args below meth c C0 hG ls hl
  obtain ⟨hK, hP, hDD, hB⟩ := hG
  obtain ⟨hx, hb, hr, hml, hown, hts, hlocks⟩ := id C0
  have hl : lv_has ls 5 [(0, .ref (g.2.2 101)), (1, .ref (a1)), (2, .int (a2)), (3, .int (a3))] := hl
  generalize hT : (f_X5_middle ρ dt σ a1 a2 a3) = tgt
  unfold f_X5_middle at hT
  refine lv_aload_n hx hb dX5_middle_0 rfl (lv_at hl 0 rfl) ?_
  refine x_get (σ := σ) (v := va_rf ((ρ 22 0))) (fs := xF1 g ρ σ) 5 1 C0 uw_5 dc_5 hK hP rfl rfl 2 (by decide) rfl w_112 dX5_middle_1 ?_
  by_cases c_4 : (ρ 22 0) = none
  · have hT := hT_pos c_4 hT
    rw [va_rf_none c_4]
    refine lv_ifnonnullN hx hb dX5_middle_4 ?_
    refine lv_iconst (v := (0 : Int32)) hx hb dX5_middle_7 (by decide) ?_
    refine lv_goto (tgt := 22) hx hb dX5_middle_8 (by decide) ?_
    refine lv_istore (lv' := [(4, .int ((0 : Int32))), (0, .ref (g.2.2 101)), (1, .ref (a1)), (2, .int (a2)), (3, .int (a3))]) hx hb dX5_middle_22 hl (by decide) rfl (fun ls hl => ?_)
    refine lv_iconst (v := (0 : Int32)) hx hb dX5_middle_24 (by decide) ?_
    refine lv_aload_n hx hb dX5_middle_25 rfl (lv_at hl 2 rfl) ?_
    refine lv_iload_n hx hb dX5_middle_26 rfl (lv_at hl 4 rfl) ?_
    refine lv_iload hx hb dX5_middle_27 (lv_at hl 0 rfl) ?_
    refine sk_middle (l := l) (d := dt a1) C0 hK (XH.sk hB (Or.inl hs.choose_spec)) w_662 ⟨by decide, by decide⟩ hl.1 (Nat.le_of_ble_eq_true rfl) dX5_middle_29 ?_
    refine va_mmax hx hb (hml.trans hl.1.symm) C0.2.2.2.2.1 (C0.2.2.2.2.2.1 _ w_684) (C0.2.2.2.2.2.1 _ w_376) (C0.2.2.2.2.2.1 _ w_80) (C0.2.2.2.2.2.1 _ w_377) (by decide) (Nat.le_of_ble_eq_true rfl) (Nat.zero_le _) (Nat.zero_le _) dX5_middle_32 ?_
    exact ret_PI C0 hT dX5_middle_35
  · have hT := hT_neg c_4 hT
    rw [va_rf_some c_4]
    refine lv_ifnonnull (tgt := 11) hx hb dX5_middle_4 (by decide) ?_
    refine lv_aload_n hx hb dX5_middle_11 rfl (lv_at hl 0 rfl) ?_
    refine x_get (σ := σ) (v := va_rf ((ρ 22 0))) (fs := xF1 g ρ σ) 5 1 C0 uw_5 dc_5 hK hP rfl rfl 2 (by decide) rfl w_112 dX5_middle_12 ?_
    rw [va_rf_some c_4]
    refine lv_iconst (v := (5 : Int32)) hx hb dX5_middle_15 (by decide) ?_
    refine lv_aload_n hx hb dX5_middle_16 rfl (lv_at hl 1 rfl) ?_
    refine lv_iload_n hx hb dX5_middle_17 rfl (lv_at hl 2 rfl) ?_
    refine lv_iload_n hx hb dX5_middle_18 rfl (lv_at hl 3 rfl) ?_
    refine rm_total (rest := []) (d := dt a1) (dr := dt (rf (ρ 22 0))) C0 hK (XH.rm hB (Or.inl (rf_some c_4))) (XH.sk hB (Or.inl hs.choose_spec)) cf_X2_total w_654 rfl (fun rb rn => k_X2_total l g _ rb rn _ _ _ (5 : Int32) a2 a3) ⟨by decide, by decide⟩ hl.1 (Nat.le_of_ble_eq_true rfl) dX5_middle_19 ?_
    refine lv_istore (lv' := [(4, .int ((f_X2_total (dt (rf (ρ 22 0))) (dt a1) (5 : Int32) a2 a3))), (0, .ref (g.2.2 101)), (1, .ref (a1)), (2, .int (a2)), (3, .int (a3))]) hx hb dX5_middle_22 hl (by decide) rfl (fun ls hl => ?_)
    refine lv_iconst (v := (0 : Int32)) hx hb dX5_middle_24 (by decide) ?_
    refine lv_aload_n hx hb dX5_middle_25 rfl (lv_at hl 2 rfl) ?_
    refine lv_iload_n hx hb dX5_middle_26 rfl (lv_at hl 4 rfl) ?_
    refine lv_iload hx hb dX5_middle_27 (lv_at hl 0 rfl) ?_
    refine sk_middle (l := l) (d := dt a1) C0 hK (XH.sk hB (Or.inl hs.choose_spec)) w_662 ⟨by decide, by decide⟩ hl.1 (Nat.le_of_ble_eq_true rfl) dX5_middle_29 ?_
    refine va_mmax hx hb (hml.trans hl.1.symm) C0.2.2.2.2.1 (C0.2.2.2.2.2.1 _ w_684) (C0.2.2.2.2.2.1 _ w_376) (C0.2.2.2.2.2.1 _ w_80) (C0.2.2.2.2.2.1 _ w_377) (by decide) (Nat.le_of_ble_eq_true rfl) (Nat.zero_le _) (Nat.zero_le _) dX5_middle_32 ?_
    exact ret_PI C0 hT dX5_middle_35
set_option maxRecDepth 20000 in
theorem w_689 : (Cond.methodLink RX5 98 yX6_slack) ∈ TB := inTB (List.mem_of_getElem? (i := 689) (by decide +kernel)) (by decide +kernel)
theorem cf_X6_slack : CF yX6_slack cX6_slack 2 (some .int) 1 := ⟨w_690, w_691, w_85, w_703, by decide +kernel, by decide +kernel, by decide +kernel⟩
/-! ThreeMeasures$State.slack -/
theorem dX5_slack_0 : decode cX5_slack 0 = .ok (.aload_n 0, 1) := by decide +kernel
theorem dX5_slack_1 : decode cX5_slack 1 = .ok (.getfield 52, 3) := by decide +kernel
theorem dX5_slack_4 : decode cX5_slack 4 = .ok (.ifnonnull 7, 3) := by decide +kernel
theorem dX5_slack_7 : decode cX5_slack 7 = .ok (.iconst 0, 1) := by decide +kernel
theorem dX5_slack_8 : decode cX5_slack 8 = .ok (.goto 14, 3) := by decide +kernel
theorem dX5_slack_11 : decode cX5_slack 11 = .ok (.aload_n 0, 1) := by decide +kernel
theorem dX5_slack_12 : decode cX5_slack 12 = .ok (.getfield 52, 3) := by decide +kernel
theorem dX5_slack_15 : decode cX5_slack 15 = .ok (.iconst 4, 1) := by decide +kernel
theorem dX5_slack_16 : decode cX5_slack 16 = .ok (.aload_n 1, 1) := by decide +kernel
theorem dX5_slack_17 : decode cX5_slack 17 = .ok (.iload_n 2, 1) := by decide +kernel
theorem dX5_slack_18 : decode cX5_slack 18 = .ok (.iload_n 3, 1) := by decide +kernel
theorem dX5_slack_19 : decode cX5_slack 19 = .ok (.invokevirtual 85, 3) := by decide +kernel
theorem dX5_slack_22 : decode cX5_slack 22 = .ok (.istore 4, 2) := by decide +kernel
theorem dX5_slack_24 : decode cX5_slack 24 = .ok (.aload_n 1, 1) := by decide +kernel
theorem dX5_slack_25 : decode cX5_slack 25 = .ok (.iconst 1, 1) := by decide +kernel
theorem dX5_slack_26 : decode cX5_slack 26 = .ok (.iload 4, 2) := by decide +kernel
theorem dX5_slack_28 : decode cX5_slack 28 = .ok (.iadd, 1) := by decide +kernel
theorem dX5_slack_29 : decode cX5_slack 29 = .ok (.invokevirtual 98, 3) := by decide +kernel
theorem dX5_slack_32 : decode cX5_slack 32 = .ok (.ireturn, 1) := by decide +kernel
def f_X5_slack (ρ : RR) (dt : Nat → Nat → Int32) (σ : St) (a1 : Nat) (a2 : Int32) (a3 : Int32) : Int32 := (if (ρ 22 0) = none then (vslk (dt a1) ((1 : Int32) + (0 : Int32))) else (vslk (dt a1) ((1 : Int32) + (f_X2_total (dt (rf (ρ 22 0))) (dt a1) (4 : Int32) a2 a3))))
set_option maxHeartbeats 600000 in
set_option maxRecDepth 100000 in
theorem k_X5_slack (l : Launch) (g : GG) (ρ : RR) (dt : Nat → Nat → Int32) (σ : St) (a1 : Nat) (a2 : Int32) (a3 : Int32) (hs : ∃ i, ρ 24 i = some a1) : PI l yX5_slack (wsF yX5_slack cX5_slack 5 (some .int)) { frames := 2, cells := 0, slots := 0, locals := 55 } [.ref (g.2.2 101), .ref (a1), .int (a2), .int (a3)] (GB g (xW g ρ) (XB g ρ dt) σ) (f_X5_slack ρ dt σ a1 a2 a3) := by
  refine start_PI (by decide) (Nat.le_of_ble_eq_true rfl) ?_
  intro p e s m args below meth c C0 hG ls hl
  obtain ⟨hK, hP, hDD, hB⟩ := hG
  obtain ⟨hx, hb, hr, hml, hown, hts, hlocks⟩ := id C0
  have hl : lv_has ls 5 [(0, .ref (g.2.2 101)), (1, .ref (a1)), (2, .int (a2)), (3, .int (a3))] := hl
  generalize hT : (f_X5_slack ρ dt σ a1 a2 a3) = tgt
  unfold f_X5_slack at hT
  refine lv_aload_n hx hb dX5_slack_0 rfl (lv_at hl 0 rfl) ?_
  refine x_get (σ := σ) (v := va_rf ((ρ 22 0))) (fs := xF1 g ρ σ) 5 1 C0 uw_5 dc_5 hK hP rfl rfl 2 (by decide) rfl w_112 dX5_slack_1 ?_
  by_cases c_4 : (ρ 22 0) = none
  · have hT := hT_pos c_4 hT
    rw [va_rf_none c_4]
    refine lv_ifnonnullN hx hb dX5_slack_4 ?_
    refine lv_iconst (v := (0 : Int32)) hx hb dX5_slack_7 (by decide) ?_
    refine lv_goto (tgt := 22) hx hb dX5_slack_8 (by decide) ?_
    refine lv_istore (lv' := [(4, .int ((0 : Int32))), (0, .ref (g.2.2 101)), (1, .ref (a1)), (2, .int (a2)), (3, .int (a3))]) hx hb dX5_slack_22 hl (by decide) rfl (fun ls hl => ?_)
    refine lv_aload_n hx hb dX5_slack_24 rfl (lv_at hl 2 rfl) ?_
    refine lv_iconst (v := (1 : Int32)) hx hb dX5_slack_25 (by decide) ?_
    refine lv_iload hx hb dX5_slack_26 (lv_at hl 0 rfl) ?_
    refine lv_iadd hx hb dX5_slack_28 ?_
    refine sk_slack (l := l) (d := dt a1) C0 hK (XH.sk hB (Or.inl hs.choose_spec)) w_689 ⟨by decide, by decide⟩ hl.1 (Nat.le_of_ble_eq_true rfl) dX5_slack_29 ?_
    exact ret_PI C0 hT dX5_slack_32
  · have hT := hT_neg c_4 hT
    rw [va_rf_some c_4]
    refine lv_ifnonnull (tgt := 11) hx hb dX5_slack_4 (by decide) ?_
    refine lv_aload_n hx hb dX5_slack_11 rfl (lv_at hl 0 rfl) ?_
    refine x_get (σ := σ) (v := va_rf ((ρ 22 0))) (fs := xF1 g ρ σ) 5 1 C0 uw_5 dc_5 hK hP rfl rfl 2 (by decide) rfl w_112 dX5_slack_12 ?_
    rw [va_rf_some c_4]
    refine lv_iconst (v := (4 : Int32)) hx hb dX5_slack_15 (by decide) ?_
    refine lv_aload_n hx hb dX5_slack_16 rfl (lv_at hl 1 rfl) ?_
    refine lv_iload_n hx hb dX5_slack_17 rfl (lv_at hl 2 rfl) ?_
    refine lv_iload_n hx hb dX5_slack_18 rfl (lv_at hl 3 rfl) ?_
    refine rm_total (rest := []) (d := dt a1) (dr := dt (rf (ρ 22 0))) C0 hK (XH.rm hB (Or.inl (rf_some c_4))) (XH.sk hB (Or.inl hs.choose_spec)) cf_X2_total w_654 rfl (fun rb rn => k_X2_total l g _ rb rn _ _ _ (4 : Int32) a2 a3) ⟨by decide, by decide⟩ hl.1 (Nat.le_of_ble_eq_true rfl) dX5_slack_19 ?_
    refine lv_istore (lv' := [(4, .int ((f_X2_total (dt (rf (ρ 22 0))) (dt a1) (4 : Int32) a2 a3))), (0, .ref (g.2.2 101)), (1, .ref (a1)), (2, .int (a2)), (3, .int (a3))]) hx hb dX5_slack_22 hl (by decide) rfl (fun ls hl => ?_)
    refine lv_aload_n hx hb dX5_slack_24 rfl (lv_at hl 2 rfl) ?_
    refine lv_iconst (v := (1 : Int32)) hx hb dX5_slack_25 (by decide) ?_
    refine lv_iload hx hb dX5_slack_26 (lv_at hl 0 rfl) ?_
    refine lv_iadd hx hb dX5_slack_28 ?_
    refine sk_slack (l := l) (d := dt a1) C0 hK (XH.sk hB (Or.inl hs.choose_spec)) w_689 ⟨by decide, by decide⟩ hl.1 (Nat.le_of_ble_eq_true rfl) dX5_slack_29 ?_
    exact ret_PI C0 hT dX5_slack_32
set_option maxRecDepth 20000 in
theorem w_650 : (Cond.methodLink RX5 102 yX5_middle) ∈ TB := inTB (List.mem_of_getElem? (i := 650) (by decide +kernel)) (by decide +kernel)
set_option maxRecDepth 20000 in
theorem w_653 : (Cond.code yX5_middle cX5_middle 5 (some .int)) ∈ TB := inTB (List.mem_of_getElem? (i := 653) (by decide +kernel)) (by decide +kernel)
set_option maxRecDepth 20000 in
theorem w_652 : (Cond.instanceMethod yX5_middle) ∈ TB := inTB (List.mem_of_getElem? (i := 652) (by decide +kernel)) (by decide +kernel)
set_option maxRecDepth 20000 in
theorem w_18 : (Cond.selects RX5 yX5_middle yX5_middle) ∈ TB := inTB (List.mem_of_getElem? (i := 18) (by decide +kernel)) (by decide +kernel)
theorem cf_X5_middle : CF yX5_middle cX5_middle 5 (some .int) 3 := ⟨w_652, w_18, w_72, w_653, by decide +kernel, by decide +kernel, by decide +kernel⟩
set_option maxRecDepth 20000 in
theorem w_685 : (Cond.methodLink RX5 105 yX5_slack) ∈ TB := inTB (List.mem_of_getElem? (i := 685) (by decide +kernel)) (by decide +kernel)
set_option maxRecDepth 20000 in
theorem w_688 : (Cond.code yX5_slack cX5_slack 5 (some .int)) ∈ TB := inTB (List.mem_of_getElem? (i := 688) (by decide +kernel)) (by decide +kernel)
set_option maxRecDepth 20000 in
theorem w_687 : (Cond.instanceMethod yX5_slack) ∈ TB := inTB (List.mem_of_getElem? (i := 687) (by decide +kernel)) (by decide +kernel)
set_option maxRecDepth 20000 in
theorem w_20 : (Cond.selects RX5 yX5_slack yX5_slack) ∈ TB := inTB (List.mem_of_getElem? (i := 20) (by decide +kernel)) (by decide +kernel)
theorem cf_X5_slack : CF yX5_slack cX5_slack 5 (some .int) 3 := ⟨w_687, w_20, w_72, w_688, by decide +kernel, by decide +kernel, by decide +kernel⟩
/-! ThreeMeasures$State.least -/
theorem dX5_least_0 : decode cX5_least 0 = .ok (.iconst 0, 1) := by decide +kernel
theorem dX5_least_1 : decode cX5_least 1 = .ok (.aload_n 0, 1) := by decide +kernel
theorem dX5_least_2 : decode cX5_least 2 = .ok (.aload_n 1, 1) := by decide +kernel
theorem dX5_least_3 : decode cX5_least 3 = .ok (.iload_n 2, 1) := by decide +kernel
theorem dX5_least_4 : decode cX5_least 4 = .ok (.iload_n 3, 1) := by decide +kernel
theorem dX5_least_5 : decode cX5_least 5 = .ok (.invokevirtual 102, 3) := by decide +kernel
theorem dX5_least_8 : decode cX5_least 8 = .ok (.iload_n 3, 1) := by decide +kernel
theorem dX5_least_9 : decode cX5_least 9 = .ok (.aload_n 0, 1) := by decide +kernel
theorem dX5_least_10 : decode cX5_least 10 = .ok (.aload_n 1, 1) := by decide +kernel
theorem dX5_least_11 : decode cX5_least 11 = .ok (.iload_n 2, 1) := by decide +kernel
theorem dX5_least_12 : decode cX5_least 12 = .ok (.iload_n 3, 1) := by decide +kernel
theorem dX5_least_13 : decode cX5_least 13 = .ok (.invokevirtual 105, 3) := by decide +kernel
theorem dX5_least_16 : decode cX5_least 16 = .ok (.imul, 1) := by decide +kernel
theorem dX5_least_17 : decode cX5_least 17 = .ok (.isub, 1) := by decide +kernel
theorem dX5_least_18 : decode cX5_least 18 = .ok (.invokestatic 93, 3) := by decide +kernel
theorem dX5_least_21 : decode cX5_least 21 = .ok (.ireturn, 1) := by decide +kernel
def f_X5_least (ρ : RR) (dt : Nat → Nat → Int32) (σ : St) (a1 : Nat) (a2 : Int32) (a3 : Int32) : Int32 := (if (0 : Int32) < ((f_X5_middle ρ dt σ a1 a2 a3) - (a3 * (f_X5_slack ρ dt σ a1 a2 a3))) then ((f_X5_middle ρ dt σ a1 a2 a3) - (a3 * (f_X5_slack ρ dt σ a1 a2 a3))) else (0 : Int32))
set_option maxHeartbeats 600000 in
set_option maxRecDepth 100000 in
theorem k_X5_least (l : Launch) (g : GG) (ρ : RR) (dt : Nat → Nat → Int32) (σ : St) (a1 : Nat) (a2 : Int32) (a3 : Int32) (hs : ∃ i, ρ 24 i = some a1) : PI l yX5_least (wsF yX5_least cX5_least 4 (some .int)) { frames := 3, cells := 0, slots := 0, locals := 79 } [.ref (g.2.2 101), .ref (a1), .int (a2), .int (a3)] (GB g (xW g ρ) (XB g ρ dt) σ) (f_X5_least ρ dt σ a1 a2 a3) := by
  refine start_PI (by decide) (Nat.le_of_ble_eq_true rfl) ?_
  intro p e s m args below meth c C0 hG ls hl
  obtain ⟨hK, hP, hDD, hB⟩ := hG
  obtain ⟨hx, hb, hr, hml, hown, hts, hlocks⟩ := id C0
  have hl : lv_has ls 4 [(0, .ref (g.2.2 101)), (1, .ref (a1)), (2, .int (a2)), (3, .int (a3))] := hl
  generalize hT : (f_X5_least ρ dt σ a1 a2 a3) = tgt
  unfold f_X5_least at hT
  refine lv_iconst (v := (0 : Int32)) hx hb dX5_least_0 (by decide) ?_
  refine lv_aload_n hx hb dX5_least_1 rfl (lv_at hl 0 rfl) ?_
  refine lv_aload_n hx hb dX5_least_2 rfl (lv_at hl 1 rfl) ?_
  refine lv_iload_n hx hb dX5_least_3 rfl (lv_at hl 2 rfl) ?_
  refine lv_iload_n hx hb dX5_least_4 rfl (lv_at hl 3 rfl) ?_
  refine x_ci (rest := [.int ((0 : Int32))]) (As := [.ref (a1), .int (a2), .int (a3)]) (σ := σ) (ρ := ρ) (dt := dt) (T := TX5) (N := 18) (fs := xF1 g ρ σ) 5 1 rfl rfl C0 hK hP hDD hB cf_X5_middle w_650 (k_X5_middle l g ρ dt σ a1 a2 a3 hs) ⟨by decide, by decide⟩ hl.1 rfl rfl (Nat.le_of_ble_eq_true rfl) dX5_least_5 ⟨Nat.zero_le _, Nat.zero_le _⟩ ?_
  refine lv_iload_n hx hb dX5_least_8 rfl (lv_at hl 3 rfl) ?_
  refine lv_aload_n hx hb dX5_least_9 rfl (lv_at hl 0 rfl) ?_
  refine lv_aload_n hx hb dX5_least_10 rfl (lv_at hl 1 rfl) ?_
  refine lv_iload_n hx hb dX5_least_11 rfl (lv_at hl 2 rfl) ?_
  refine lv_iload_n hx hb dX5_least_12 rfl (lv_at hl 3 rfl) ?_
  refine x_ci (rest := [.int (a3), .int ((f_X5_middle ρ dt σ a1 a2 a3)), .int ((0 : Int32))]) (As := [.ref (a1), .int (a2), .int (a3)]) (σ := σ) (ρ := ρ) (dt := dt) (T := TX5) (N := 18) (fs := xF1 g ρ σ) 5 1 rfl rfl C0 hK hP hDD hB cf_X5_slack w_685 (k_X5_slack l g ρ dt σ a1 a2 a3 hs) ⟨by decide, by decide⟩ hl.1 rfl rfl (Nat.le_of_ble_eq_true rfl) dX5_least_13 ⟨Nat.zero_le _, Nat.zero_le _⟩ ?_
  refine lv_imul hx hb dX5_least_16 ?_
  refine lv_isub hx hb dX5_least_17 ?_
  refine va_mmax hx hb (hml.trans hl.1.symm) C0.2.2.2.2.1 (C0.2.2.2.2.2.1 _ w_684) (C0.2.2.2.2.2.1 _ w_376) (C0.2.2.2.2.2.1 _ w_80) (C0.2.2.2.2.2.1 _ w_377) (by decide) (Nat.le_of_ble_eq_true rfl) (Nat.zero_le _) (Nat.zero_le _) dX5_least_18 ?_
  exact ret_PI C0 hT dX5_least_21
/-! ThreeMeasures$State.most -/
theorem dX5_most_0 : decode cX5_most 0 = .ok (.aload_n 0, 1) := by decide +kernel
theorem dX5_most_1 : decode cX5_most 1 = .ok (.aload_n 1, 1) := by decide +kernel
theorem dX5_most_2 : decode cX5_most 2 = .ok (.iload_n 2, 1) := by decide +kernel
theorem dX5_most_3 : decode cX5_most 3 = .ok (.iload_n 3, 1) := by decide +kernel
theorem dX5_most_4 : decode cX5_most 4 = .ok (.invokevirtual 102, 3) := by decide +kernel
theorem dX5_most_7 : decode cX5_most 7 = .ok (.iload_n 3, 1) := by decide +kernel
theorem dX5_most_8 : decode cX5_most 8 = .ok (.aload_n 0, 1) := by decide +kernel
theorem dX5_most_9 : decode cX5_most 9 = .ok (.aload_n 1, 1) := by decide +kernel
theorem dX5_most_10 : decode cX5_most 10 = .ok (.iload_n 2, 1) := by decide +kernel
theorem dX5_most_11 : decode cX5_most 11 = .ok (.iload_n 3, 1) := by decide +kernel
theorem dX5_most_12 : decode cX5_most 12 = .ok (.invokevirtual 105, 3) := by decide +kernel
theorem dX5_most_15 : decode cX5_most 15 = .ok (.imul, 1) := by decide +kernel
theorem dX5_most_16 : decode cX5_most 16 = .ok (.iadd, 1) := by decide +kernel
theorem dX5_most_17 : decode cX5_most 17 = .ok (.ireturn, 1) := by decide +kernel
def f_X5_most (ρ : RR) (dt : Nat → Nat → Int32) (σ : St) (a1 : Nat) (a2 : Int32) (a3 : Int32) : Int32 := ((f_X5_middle ρ dt σ a1 a2 a3) + (a3 * (f_X5_slack ρ dt σ a1 a2 a3)))
set_option maxHeartbeats 600000 in
set_option maxRecDepth 100000 in
theorem k_X5_most (l : Launch) (g : GG) (ρ : RR) (dt : Nat → Nat → Int32) (σ : St) (a1 : Nat) (a2 : Int32) (a3 : Int32) (hs : ∃ i, ρ 24 i = some a1) : PI l yX5_most (wsF yX5_most cX5_most 4 (some .int)) { frames := 3, cells := 0, slots := 0, locals := 79 } [.ref (g.2.2 101), .ref (a1), .int (a2), .int (a3)] (GB g (xW g ρ) (XB g ρ dt) σ) (f_X5_most ρ dt σ a1 a2 a3) := by
  refine start_PI (by decide) (Nat.le_of_ble_eq_true rfl) ?_
  intro p e s m args below meth c C0 hG ls hl
  obtain ⟨hK, hP, hDD, hB⟩ := hG
  obtain ⟨hx, hb, hr, hml, hown, hts, hlocks⟩ := id C0
  have hl : lv_has ls 4 [(0, .ref (g.2.2 101)), (1, .ref (a1)), (2, .int (a2)), (3, .int (a3))] := hl
  generalize hT : (f_X5_most ρ dt σ a1 a2 a3) = tgt
  unfold f_X5_most at hT
  refine lv_aload_n hx hb dX5_most_0 rfl (lv_at hl 0 rfl) ?_
  refine lv_aload_n hx hb dX5_most_1 rfl (lv_at hl 1 rfl) ?_
  refine lv_iload_n hx hb dX5_most_2 rfl (lv_at hl 2 rfl) ?_
  refine lv_iload_n hx hb dX5_most_3 rfl (lv_at hl 3 rfl) ?_
  refine x_ci (rest := []) (As := [.ref (a1), .int (a2), .int (a3)]) (σ := σ) (ρ := ρ) (dt := dt) (T := TX5) (N := 18) (fs := xF1 g ρ σ) 5 1 rfl rfl C0 hK hP hDD hB cf_X5_middle w_650 (k_X5_middle l g ρ dt σ a1 a2 a3 hs) ⟨by decide, by decide⟩ hl.1 rfl rfl (Nat.le_of_ble_eq_true rfl) dX5_most_4 ⟨Nat.zero_le _, Nat.zero_le _⟩ ?_
  refine lv_iload_n hx hb dX5_most_7 rfl (lv_at hl 3 rfl) ?_
  refine lv_aload_n hx hb dX5_most_8 rfl (lv_at hl 0 rfl) ?_
  refine lv_aload_n hx hb dX5_most_9 rfl (lv_at hl 1 rfl) ?_
  refine lv_iload_n hx hb dX5_most_10 rfl (lv_at hl 2 rfl) ?_
  refine lv_iload_n hx hb dX5_most_11 rfl (lv_at hl 3 rfl) ?_
  refine x_ci (rest := [.int (a3), .int ((f_X5_middle ρ dt σ a1 a2 a3))]) (As := [.ref (a1), .int (a2), .int (a3)]) (σ := σ) (ρ := ρ) (dt := dt) (T := TX5) (N := 18) (fs := xF1 g ρ σ) 5 1 rfl rfl C0 hK hP hDD hB cf_X5_slack w_685 (k_X5_slack l g ρ dt σ a1 a2 a3 hs) ⟨by decide, by decide⟩ hl.1 rfl rfl (Nat.le_of_ble_eq_true rfl) dX5_most_12 ⟨Nat.zero_le _, Nat.zero_le _⟩ ?_
  refine lv_imul hx hb dX5_most_15 ?_
  refine lv_iadd hx hb dX5_most_16 ?_
  exact ret_PI C0 hT dX5_most_17
