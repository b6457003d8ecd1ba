
theorem XH.bc40 {g : GG} {ρ : RR} {dt : Nat → Nat → Int32} {H : Heap} (h : XH g ρ dt H) : XH g (r_bc40 ρ) dt H := by
  refine ⟨fun i a e => ?_, fun a e => ?_⟩
  · have e : ρ 24 i = some a ∨ (if i < 6 then ρ 24 i else ρ 44 i) = some a := e
    rcases e with e | e
    · exact h.1 i a (Or.inl e)
    · split at e
      · exact h.1 i a (Or.inl e)
      · exact h.1 i a (Or.inr e)
  · have e : ρ 22 0 = some a ∨ ρ 22 0 = some a := e
    rcases e with e | e <;> exact h.2 a (Or.inl e)
theorem XH.bc20 {g : GG} {ρ : RR} {dt : Nat → Nat → Int32} {H : Heap} (h : XH g ρ dt H) : XH g (r_bc20 ρ) dt H := by
  refine ⟨fun i a e => ?_, fun a e => ?_⟩
  · have e : (if i < 6 then ρ 44 i else ρ 24 i) = some a ∨ ρ 44 i = some a := e
    rcases e with e | e
    · split at e
      · exact h.1 i a (Or.inr e)
      · exact h.1 i a (Or.inl e)
    · exact h.1 i a (Or.inr e)
  · have e : ρ 42 0 = some a ∨ ρ 42 0 = some a := e
    rcases e with e | e <;> exact h.2 a (Or.inr e)

set_option maxRecDepth 20000 in
theorem w_949 : (Cond.methodLinkNest RX11 298 yX5_become RX11) ∈ NB := inNB (List.mem_of_getElem? (i := 949) (by decide +kernel)) (by decide +kernel)
set_option maxRecDepth 20000 in
theorem w_952 : (Cond.code yX5_become cX5_become 3 none) ∈ TB := inTB (List.mem_of_getElem? (i := 952) (by decide +kernel)) (by decide +kernel)
set_option maxRecDepth 20000 in
theorem w_951 : (Cond.instanceMethod yX5_become) ∈ TB := inTB (List.mem_of_getElem? (i := 951) (by decide +kernel)) (by decide +kernel)
set_option maxRecDepth 20000 in
theorem w_36 : (Cond.selects RX5 yX5_become yX5_become) ∈ TB := inTB (List.mem_of_getElem? (i := 36) (by decide +kernel)) (by decide +kernel)
theorem cf_X5_become : CF yX5_become cX5_become 3 none 1 := ⟨w_951, w_36, w_72, w_952, by decide +kernel, by decide +kernel, by decide +kernel⟩
set_option maxRecDepth 20000 in
theorem w_231 : (Cond.fieldLink RX11 21 RX11 "isKept" "Z") ∈ TB := inTB (List.mem_of_getElem? (i := 231) (by decide +kernel)) (by decide +kernel)
set_option maxRecDepth 20000 in
theorem w_230 : (Cond.fieldLink RX11 18 RX11 "kept" "LThreeMeasures$State;") ∈ TB := inTB (List.mem_of_getElem? (i := 230) (by decide +kernel)) (by decide +kernel)
theorem dX11_image_0 : decode cX11_image 0 = .ok (.aload_n 0, 1) := by decide +kernel
theorem dX11_image_1 : decode cX11_image 1 = .ok (.getfield 18, 3) := by decide +kernel
theorem dX11_image_4 : decode cX11_image 4 = .ok (.aload_n 0, 1) := by decide +kernel
theorem dX11_image_5 : decode cX11_image 5 = .ok (.getfield 12, 3) := by decide +kernel
theorem dX11_image_8 : decode cX11_image 8 = .ok (.invokevirtual 298, 3) := by decide +kernel
theorem dX11_image_11 : decode cX11_image 11 = .ok (.aload_n 0, 1) := by decide +kernel
theorem dX11_image_12 : decode cX11_image 12 = .ok (.iconst 1, 1) := by decide +kernel
theorem dX11_image_13 : decode cX11_image 13 = .ok (.putfield 21, 3) := by decide +kernel
theorem dX11_image_16 : decode cX11_image 16 = .ok (.aload_n 0, 1) := by decide +kernel
theorem dX11_image_17 : decode cX11_image 17 = .ok (.getfield 12, 3) := by decide +kernel
theorem dX11_image_20 : decode cX11_image 20 = .ok (.getfield 76, 3) := by decide +kernel
theorem dX11_image_23 : decode cX11_image 23 = .ok (.ireturn, 1) := by decide +kernel
/-- what a call of image comes to -/
def f_X11_image (x : X3) (v : Int32) (u : X3) : Prop := v = (f_bc40 x.2.2) 25 0 ∧ u = (r_bc40 x.1, x.2.1, up2 (f_bc40 x.2.2) 2 0 1)
set_option maxHeartbeats 1000000 in
theorem k_X11_image (l : Launch) (g : GG) (aK aV : Nat → Nat) (x : X3) (h0 : Nat) : XI l yX11_image (wsF yX11_image cX11_image 1 (some .int)) { frames := 2, cells := 0, slots := 0, locals := 52 } [.ref (g.2.2 100)] g aK aV x h0 (f_X11_image x) := by
  obtain ⟨ρ, dt, σ⟩ := x
  refine start_X (by decide) (Nat.le_of_ble_eq_true rfl) ?_
  intro p e s m args below meth c C0 hin hB0 ls hl
  obtain ⟨hx, hb, hr, hml, hown, hts, hlocks⟩ := id C0
  obtain ⟨⟨hK, hP, hDD, hB⟩, hsz⟩ := hB0
  have hP : va_P g.1 vwCl (xW g ρ σ) s.heap := hP
  have hDD : va_D (fun _ => True) (xW g ρ σ) := hDD
  have hB : YB g ρ dt aK aV s := hB
  have hS : va_S (fun z => AX g z ∨ h0 ≤ z) s.heap s.heap [] := va_S.rf
  have hFF : ∀ {t : State} {H : Heap} {locs : List Loc}, va_S (fun z => AX g z ∨ h0 ≤ z) s.heap H locs → t.heap = H → va_F (AX g) s t := fun hS ht => ⟨by rw [ht]; exact hS.1, fun z h1 h2 => by rw [ht]; exact hS.2.1 z h1 (fun w => by rcases w with w | w; exact h2 w; omega)⟩
  have hKX : ∀ {H : Heap} {locs : List Loc}, va_S (fun z => AX g z ∨ h0 ≤ z) s.heap H locs → XH g ρ dt H := fun hS => hB.1.kept (fun q h1 h2 => hS.2.1 q h1 (fun w => by rcases w with w | w; exact h2 w; omega))
  have hl : lv_has ls 1 [(0, .ref (g.2.2 100))] := hl
  refine lv_aload_n hx hb dX11_image_0 rfl (lv_at hl 0 rfl) ?_
  refine x_get (σ := σ) (v := .ref (g.2.2 102)) (fs := xF0 g ρ σ) 11 0 C0 uw_11 dc_11 hK hP rfl rfl 1 (by decide) rfl w_230 dX11_image_1 ?_
  refine lv_aload_n hx hb dX11_image_4 rfl (lv_at hl 0 rfl) ?_
  refine x_get (σ := σ) (v := .ref (g.2.2 101)) (fs := xF0 g ρ σ) 11 0 C0 uw_11 dc_11 hK hP rfl rfl 0 (by decide) rfl w_229 dX11_image_5 ?_
  refine va_callv (run_VN (rm := { frames := 1, cells := 0, slots := 0, locals := 30 }) (As := [.ref (g.2.2 101)]) (rest := []) C0 cf_X5_become hK.2 w_949 ⟨by decide, by decide⟩ (k_X5_become_40 l g ρ dt σ) ⟨(GB.sv XB.sv).blind, va_recv hK.1 hP (ci := 5) (q0 := 2) rfl rfl, fun U hU hW => ⟨rfl, hK.warm hW, by rw [hU]; exact hP, hDD, by show XH g ρ dt U.heap; rw [hU]; exact hB.1⟩⟩ rfl hl.1 rfl (Nat.le_of_ble_eq_true rfl) dX11_image_8 ⟨by decide, by decide⟩) hS (fun z hz h => Or.inl h) (fun z h => Or.inl h) (fun _ t1 H locs ht _ _ hP1 _ _ hS => ?_)
  have hP : va_P g.1 vwCl (xW g (r_bc40 ρ) (f_bc40 σ)) H := by rw [← ht]; exact hP1
  have hD : va_D (fun z => AX g z ∨ h0 ≤ z) (xW g (r_bc40 ρ) (f_bc40 σ)) := AX_D (va_D_adrs (xW_adr g ρ _ σ _) hDD) (fun _ h => Or.inl h)
  have hC : WC g (xW g (r_bc40 ρ)) (fun z => AX g z ∨ h0 ≤ z) s.heap (f_bc40 σ) H locs := ⟨hP, hD, hS⟩
  refine lv_aload_n hx hb dX11_image_11 rfl (lv_at hl 0 rfl) ?_
  refine lv_iconst (v := 1) hx hb dX11_image_12 (by decide) ?_
  refine x_put (σ := (f_bc40 σ)) (ty := .boolean) (fs := xF0 g (r_bc40 ρ) (f_bc40 σ)) 11 0 C0 uw_11 dc_11 tyX11 tyX11_ok nmX11 hK hC rfl rfl 2 (by decide) rfl rfl rfl rfl (Nat.le_of_ble_eq_true rfl) (xs_2 g (r_bc40 ρ) _ _) w_231 dX11_image_13 (fun H locs hC => ?_)
  refine lv_aload_n hx hb dX11_image_16 rfl (lv_at hl 0 rfl) ?_
  refine x_get (σ := (up2 (f_bc40 σ) 2 0 1)) (v := .ref (g.2.2 101)) (fs := xF0 g (r_bc40 ρ) (up2 (f_bc40 σ) 2 0 1)) 11 0 C0 uw_11 dc_11 hK hC.1 rfl rfl 0 (by decide) rfl w_229 dX11_image_17 ?_
  refine x_getN (σ := (up2 (f_bc40 σ) 2 0 1)) (v := .int ((f_bc40 σ) 25 0)) (fs := xF1 g (r_bc40 ρ) (up2 (f_bc40 σ) 2 0 1)) 5 1 C0 uw_5 dc_5 hK hC.1 rfl rfl 5 (by decide) rfl w_119 dX11_image_20 ?_
  exact W.iret hx hb hr (fun t ht _ => ⟨⟨_, ((r_bc40 ρ), dt, (up2 (f_bc40 σ) 2 0 1)), rfl, ⟨rfl, rfl⟩, by show va_P g.1 vwCl (xW g (r_bc40 ρ) (up2 (f_bc40 σ) 2 0 1)) t.heap ∧ XH g (r_bc40 ρ) dt t.heap; rw [ht]; exact ⟨hC.1, (hKX hC.2.2).bc40⟩⟩, hFF hC.2.2 ht⟩) hC.2.2.2.2 dX11_image_23 hlocks

theorem dX11_undo_0 : decode cX11_undo 0 = .ok (.aload_n 0, 1) := by decide +kernel
theorem dX11_undo_1 : decode cX11_undo 1 = .ok (.getfield 21, 3) := by decide +kernel
theorem dX11_undo_4 : decode cX11_undo 4 = .ok (.ifCond .ne 6, 3) := by decide +kernel
theorem dX11_undo_7 : decode cX11_undo 7 = .ok (.bipush (-3), 2) := by decide +kernel
theorem dX11_undo_9 : decode cX11_undo 9 = .ok (.ireturn, 1) := by decide +kernel
theorem dX11_undo_10 : decode cX11_undo 10 = .ok (.aload_n 0, 1) := by decide +kernel
theorem dX11_undo_11 : decode cX11_undo 11 = .ok (.getfield 12, 3) := by decide +kernel
theorem dX11_undo_14 : decode cX11_undo 14 = .ok (.aload_n 0, 1) := by decide +kernel
theorem dX11_undo_15 : decode cX11_undo 15 = .ok (.getfield 18, 3) := by decide +kernel
theorem dX11_undo_18 : decode cX11_undo 18 = .ok (.invokevirtual 298, 3) := by decide +kernel
theorem dX11_undo_21 : decode cX11_undo 21 = .ok (.aload_n 0, 1) := by decide +kernel
theorem dX11_undo_22 : decode cX11_undo 22 = .ok (.getfield 12, 3) := by decide +kernel
theorem dX11_undo_25 : decode cX11_undo 25 = .ok (.getfield 76, 3) := by decide +kernel
theorem dX11_undo_28 : decode cX11_undo 28 = .ok (.ireturn, 1) := by decide +kernel
/-- what a call of undo comes to -/
def f_X11_undo (x : X3) (v : Int32) (u : X3) : Prop := (x.2.2 2 0 = 0 ∧ v = -3 ∧ u = x) ∨ (¬ x.2.2 2 0 = 0 ∧ v = (f_bc20 x.2.2) 25 0 ∧ u = (r_bc20 x.1, x.2.1, f_bc20 x.2.2))
set_option maxHeartbeats 1000000 in
theorem k_X11_undo (l : Launch) (g : GG) (aK aV : Nat → Nat) (x : X3) (h0 : Nat) : XI l yX11_undo (wsF yX11_undo cX11_undo 1 (some .int)) { frames := 2, cells := 0, slots := 0, locals := 52 } [.ref (g.2.2 100)] g aK aV x h0 (f_X11_undo x) := by
  obtain ⟨ρ, dt, σ⟩ := x
  refine start_X (by decide) (Nat.le_of_ble_eq_true rfl) ?_
  intro p e s m args below meth c C0 hin hB0 ls hl
  obtain ⟨hx, hb, hr, hml, hown, hts, hlocks⟩ := id C0
  obtain ⟨⟨hK, hP, hDD, hB⟩, hsz⟩ := hB0
  have hP : va_P g.1 vwCl (xW g ρ σ) s.heap := hP
  have hDD : va_D (fun _ => True) (xW g ρ σ) := hDD
  have hB : YB g ρ dt aK aV s := hB
  have hS : va_S (fun z => AX g z ∨ h0 ≤ z) s.heap s.heap [] := va_S.rf
  have hFF : ∀ {t : State} {H : Heap} {locs : List Loc}, va_S (fun z => AX g z ∨ h0 ≤ z) s.heap H locs → t.heap = H → va_F (AX g) s t := fun hS ht => ⟨by rw [ht]; exact hS.1, fun z h1 h2 => by rw [ht]; exact hS.2.1 z h1 (fun w => by rcases w with w | w; exact h2 w; omega)⟩
  have hKX : ∀ {H : Heap} {locs : List Loc}, va_S (fun z => AX g z ∨ h0 ≤ z) s.heap H locs → XH g ρ dt H := fun hS => hB.1.kept (fun q h1 h2 => hS.2.1 q h1 (fun w => by rcases w with w | w; exact h2 w; omega))
  have hl : lv_has ls 1 [(0, .ref (g.2.2 100))] := hl
  refine lv_aload_n hx hb dX11_undo_0 rfl (lv_at hl 0 rfl) ?_
  refine x_get (σ := σ) (v := .int (σ 2 0)) (fs := xF0 g ρ σ) 11 0 C0 uw_11 dc_11 hK hP rfl rfl 2 (by decide) rfl w_231 dX11_undo_1 ?_
  refine lv_if_ne (tgt := 10) hx hb dX11_undo_4 (by decide) (fun c1 => ?_) (fun c1 => ?_)
  rotate_left
  · refine lv_bipush (v := -3) hx hb dX11_undo_7 (by decide) ?_
    exact W.iret hx hb hr (fun t ht _ => ⟨⟨-3, (ρ, dt, σ), rfl, Or.inl ⟨c1, rfl, rfl⟩, by show va_P g.1 vwCl (xW g ρ σ) t.heap ∧ XH g ρ dt t.heap; rw [ht]; exact ⟨hP, hB.1⟩⟩, hFF hS ht⟩) hS.2.2 dX11_undo_9 hlocks
  refine lv_aload_n hx hb dX11_undo_10 rfl (lv_at hl 0 rfl) ?_
  refine x_get (σ := σ) (v := .ref (g.2.2 101)) (fs := xF0 g ρ σ) 11 0 C0 uw_11 dc_11 hK hP rfl rfl 0 (by decide) rfl w_229 dX11_undo_11 ?_
  refine lv_aload_n hx hb dX11_undo_14 rfl (lv_at hl 0 rfl) ?_
  refine x_get (σ := σ) (v := .ref (g.2.2 102)) (fs := xF0 g ρ σ) 11 0 C0 uw_11 dc_11 hK hP rfl rfl 1 (by decide) rfl w_230 dX11_undo_15 ?_
  refine va_callv (run_VN (rm := { frames := 1, cells := 0, slots := 0, locals := 30 }) (As := [.ref (g.2.2 102)]) (rest := []) C0 cf_X5_become hK.2 w_949 ⟨by decide, by decide⟩ (k_X5_become_20 l g ρ dt σ) ⟨(GB.sv XB.sv).blind, va_recv hK.1 hP (ci := 5) (q0 := 1) rfl rfl, fun U hU hW => ⟨rfl, hK.warm hW, by rw [hU]; exact hP, hDD, by show XH g ρ dt U.heap; rw [hU]; exact hB.1⟩⟩ rfl hl.1 rfl (Nat.le_of_ble_eq_true rfl) dX11_undo_18 ⟨by decide, by decide⟩) hS (fun z hz h => Or.inl h) (fun z h => Or.inl h) (fun _ t1 H locs ht _ _ hP1 _ _ hS => ?_)
  have hP : va_P g.1 vwCl (xW g (r_bc20 ρ) (f_bc20 σ)) H := by rw [← ht]; exact hP1
  have hD : va_D (fun z => AX g z ∨ h0 ≤ z) (xW g (r_bc20 ρ) (f_bc20 σ)) := AX_D (va_D_adrs (xW_adr g ρ _ σ _) hDD) (fun _ h => Or.inl h)
  refine lv_aload_n hx hb dX11_undo_21 rfl (lv_at hl 0 rfl) ?_
  refine x_get (σ := (f_bc20 σ)) (v := .ref (g.2.2 101)) (fs := xF0 g (r_bc20 ρ) (f_bc20 σ)) 11 0 C0 uw_11 dc_11 hK hP rfl rfl 0 (by decide) rfl w_229 dX11_undo_22 ?_
  refine x_getN (σ := (f_bc20 σ)) (v := .int ((f_bc20 σ) 25 0)) (fs := xF1 g (r_bc20 ρ) (f_bc20 σ)) 5 1 C0 uw_5 dc_5 hK hP rfl rfl 5 (by decide) rfl w_119 dX11_undo_25 ?_
  exact W.iret hx hb hr (fun t ht _ => ⟨⟨_, ((r_bc20 ρ), dt, (f_bc20 σ)), rfl, Or.inr ⟨c1, rfl, rfl⟩, by show va_P g.1 vwCl (xW g (r_bc20 ρ) (f_bc20 σ)) t.heap ∧ XH g (r_bc20 ρ) dt t.heap; rw [ht]; exact ⟨hP, (hKX hS).bc20⟩⟩, hFF hS ht⟩) hS.2.2 dX11_undo_28 hlocks

