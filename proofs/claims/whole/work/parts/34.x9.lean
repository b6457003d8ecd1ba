
theorem IX_ran {σ : St} {v : Int32} (hX : IX σ) (hv : 0 ≤ v.toInt ∧ v.toInt ≤ 20) : IX (up2 σ 81 0 v) := by
  obtain ⟨h1, h2, h3, h4, h5, h6, h7, h8, -, h10⟩ := hX
  exact ⟨h1, h2, h3, h4, h5, h6, h7, h8, hv.1, h10⟩
set_option maxRecDepth 20000 in
theorem w_862 : (Cond.methodLink RX11 282 yX6_sets) ∈ TB := inTB (List.mem_of_getElem? (i := 862) (by decide +kernel)) (by decide +kernel)
set_option maxRecDepth 20000 in
theorem w_887 : (Cond.methodLink RX11 286 yX6_reads) ∈ TB := inTB (List.mem_of_getElem? (i := 887) (by decide +kernel)) (by decide +kernel)
set_option maxRecDepth 20000 in
theorem w_909 : (Cond.methodLink RX11 289 yX6_tells) ∈ TB := inTB (List.mem_of_getElem? (i := 909) (by decide +kernel)) (by decide +kernel)
/-! ThreeMeasures.act -/
theorem dX11_act_0 : decode cX11_act 0 = .ok (.aload_n 0, 1) := by decide +kernel
theorem dX11_act_1 : decode cX11_act 1 = .ok (.getfield 35, 3) := by decide +kernel
theorem dX11_act_4 : decode cX11_act 4 = .ok (.iconst 0, 1) := by decide +kernel
theorem dX11_act_5 : decode cX11_act 5 = .ok (.putfield 279, 3) := by decide +kernel
theorem dX11_act_8 : decode cX11_act 8 = .ok (.aload_n 0, 1) := by decide +kernel
theorem dX11_act_9 : decode cX11_act 9 = .ok (.getfield 12, 3) := by decide +kernel
theorem dX11_act_12 : decode cX11_act 12 = .ok (.iload_n 1, 1) := by decide +kernel
theorem dX11_act_13 : decode cX11_act 13 = .ok (.invokevirtual 87, 3) := by decide +kernel
theorem dX11_act_16 : decode cX11_act 16 = .ok (.astore 4, 2) := by decide +kernel
theorem dX11_act_18 : decode cX11_act 18 = .ok (.aload 4, 2) := by decide +kernel
theorem dX11_act_20 : decode cX11_act 20 = .ok (.ifnonnull 5, 3) := by decide +kernel
theorem dX11_act_23 : decode cX11_act 23 = .ok (.iconst 0, 1) := by decide +kernel
theorem dX11_act_24 : decode cX11_act 24 = .ok (.ireturn, 1) := by decide +kernel
theorem dX11_act_25 : decode cX11_act 25 = .ok (.iload_n 2, 1) := by decide +kernel
theorem dX11_act_26 : decode cX11_act 26 = .ok (.tableswitch 59 0 2 #[26, 37, 48], 26) := by decide +kernel
theorem dX11_act_52 : decode cX11_act 52 = .ok (.aload 4, 2) := by decide +kernel
theorem dX11_act_54 : decode cX11_act 54 = .ok (.iload_n 3, 1) := by decide +kernel
theorem dX11_act_55 : decode cX11_act 55 = .ok (.aload_n 0, 1) := by decide +kernel
theorem dX11_act_56 : decode cX11_act 56 = .ok (.getfield 35, 3) := by decide +kernel
theorem dX11_act_59 : decode cX11_act 59 = .ok (.invokevirtual 282, 3) := by decide +kernel
theorem dX11_act_62 : decode cX11_act 62 = .ok (.ireturn, 1) := by decide +kernel
theorem dX11_act_63 : decode cX11_act 63 = .ok (.aload 4, 2) := by decide +kernel
theorem dX11_act_65 : decode cX11_act 65 = .ok (.iload_n 3, 1) := by decide +kernel
theorem dX11_act_66 : decode cX11_act 66 = .ok (.aload_n 0, 1) := by decide +kernel
theorem dX11_act_67 : decode cX11_act 67 = .ok (.getfield 35, 3) := by decide +kernel
theorem dX11_act_70 : decode cX11_act 70 = .ok (.invokevirtual 286, 3) := by decide +kernel
theorem dX11_act_73 : decode cX11_act 73 = .ok (.ireturn, 1) := by decide +kernel
theorem dX11_act_74 : decode cX11_act 74 = .ok (.aload 4, 2) := by decide +kernel
theorem dX11_act_76 : decode cX11_act 76 = .ok (.iload_n 3, 1) := by decide +kernel
theorem dX11_act_77 : decode cX11_act 77 = .ok (.aload_n 0, 1) := by decide +kernel
theorem dX11_act_78 : decode cX11_act 78 = .ok (.getfield 35, 3) := by decide +kernel
theorem dX11_act_81 : decode cX11_act 81 = .ok (.invokevirtual 289, 3) := by decide +kernel
theorem dX11_act_84 : decode cX11_act 84 = .ok (.ireturn, 1) := by decide +kernel
theorem dX11_act_85 : decode cX11_act 85 = .ok (.iconst 0, 1) := by decide +kernel
theorem dX11_act_86 : decode cX11_act 86 = .ok (.ireturn, 1) := by decide +kernel
def f_X11_act (ρ : RR) (dt : Nat → Nat → Int32) (σ : St) (a1 : Int32) (a2 : Int32) (a3 : Int32) : Int32 × St := (if (f_X5_stickAt ρ σ a1) = none then ((0 : Int32), (up2 σ 81 0 (0 : Int32))) else (if a2 = (0 : Int32) then (bd (vset dt (rf (f_X5_stickAt ρ σ a1)) (up2 σ 81 0 (0 : Int32)) a3) (fun r59 u59 => (r59, u59))) else (if a2 = (1 : Int32) then (bd (vread dt (rf (f_X5_stickAt ρ σ a1)) (up2 σ 81 0 (0 : Int32)) a3) (fun r70 u70 => (r70, u70))) else (if a2 = (2 : Int32) then (bd (vtell dt (rf (f_X5_stickAt ρ σ a1)) (up2 σ 81 0 (0 : Int32)) a3) (fun r81 u81 => (r81, u81))) else ((0 : Int32), (up2 σ 81 0 (0 : Int32)))))))
set_option maxHeartbeats 600000 in
set_option maxRecDepth 100000 in
theorem k_X11_act (l : Launch) (g : GG) (ρ : RR) (dt : Nat → Nat → Int32) (σ : St) (a1 : Int32) (a2 : Int32) (a3 : Int32) (hX : IX σ) : MI l yX11_act (wsF yX11_act cX11_act 5 (some .int)) { frames := 7, cells := 0, slots := 0, locals := 153 } [.ref (g.2.2 100), .int (a1), .int (a2), .int (a3)] g (xW g ρ) (XB g ρ dt) σ (f_X11_act ρ dt σ a1 a2 a3) := by
  refine start_MI (by decide) (Nat.le_of_ble_eq_true rfl) ?_
  intro p e s m args below meth c C0 hK hB hC ls hl
  generalize hAe : aA ((xW g ρ) σ) = A at hC ⊢
  have hA : ∀ q, A q → q ∈ adrs (xW g (fun _ _ => none) (fun _ _ => 0)) := fun q h => by rw [← hAe] at h; exact h
  obtain ⟨hx, hb, hr, hml, hown, hts, hlocks⟩ := id C0
  have hl : lv_has ls 5 [(0, .ref (g.2.2 100)), (1, .int (a1)), (2, .int (a2)), (3, .int (a3))] := hl
  generalize hT : (f_X11_act ρ dt σ a1 a2 a3) = tgt
  suffices key : ∀ (H : Heap) (locs : List Loc), WC g (xW g ρ) A s.heap σ H locs → W p l e { frames := 7, cells := 0, slots := 0, locals := 153 } s m args below meth c H locs 0 0 (QMI below args s g (xW g ρ) A tgt) (F0 m 0 ls []) from key _ _ hC
  intro H locs hC
  unfold f_X11_act at hT
  obtain ⟨⟨j1, j1'⟩, ⟨j3, j3'⟩, ⟨j5, j5'⟩, ⟨j8, j8'⟩, ⟨j9, j9'⟩, ⟨j12, j12'⟩, ⟨j14, j14'⟩, ⟨j17, j17'⟩, j81, jW⟩ := id hX
  refine lv_aload_n hx hb dX11_act_0 rfl (lv_at hl 0 rfl) ?_
  refine x_get (σ := σ) (v := .ref (g.2.2 104)) (fs := xF0 g ρ σ) 11 0 C0 uw_11 dc_11 hK hC.1 rfl rfl 4 (by decide) rfl w_233 dX11_act_1 ?_
  refine lv_iconst (v := (0 : Int32)) hx hb dX11_act_4 (by decide) ?_
  refine x_putN (σ := σ) (ty := .int) (fs := xF4 g ρ σ) 9 4 C0 uw_9 dc_9 tyX9 tyX9_ok nmX9 hK hC rfl rfl 1 (by decide) rfl rfl rfl rfl (Nat.le_of_ble_eq_true rfl) (xs_81 g ρ _ _) w_223 dX11_act_5 (fun H locs hC => ?_)
  refine lv_aload_n hx hb dX11_act_8 rfl (lv_at hl 0 rfl) ?_
  refine x_get (σ := (up2 σ 81 0 (0 : Int32))) (v := .ref (g.2.2 101)) (fs := xF0 g ρ (up2 σ 81 0 (0 : Int32))) 11 0 C0 uw_11 dc_11 hK hC.1 rfl rfl 0 (by decide) rfl w_229 dX11_act_9 ?_
  refine lv_iload_n hx hb dX11_act_12 rfl (lv_at hl 1 rfl) ?_
  refine x_sa (σ := (up2 σ 81 0 (0 : Int32))) (ρ := ρ) (dt := dt) (rest := []) C0 hK hC.1 (hC.2.1.weaken (fun _ _ _ _ => trivial)) (XH.wa hB hA hC) cf_X5_stickAt w_586 (k_X5_stickAt l g ρ dt (up2 σ 81 0 (0 : Int32)) a1 (IX_ran hX (by decide))) (F := (f_X5_stickAt ρ σ a1)) ⟨by decide, by decide⟩ hl.1 (Nat.le_of_ble_eq_true rfl) dX11_act_13 ?_
  by_cases c_13 : (f_X5_stickAt ρ σ a1) = none
  · have hT := hT_pos c_13 hT
    rw [va_rf_none c_13]
    refine lv_astoreN (lv' := [(4, .null), (0, .ref (g.2.2 100)), (1, .int (a1)), (2, .int (a2)), (3, .int (a3))]) hx hb dX11_act_16 hl (by decide) rfl (fun ls hl => ?_)
    refine lv_aloadN hx hb dX11_act_18 (lv_at hl 0 rfl) ?_
    refine lv_ifnonnullN hx hb dX11_act_20 ?_
    refine lv_iconst (v := (0 : Int32)) hx hb dX11_act_23 (by decide) ?_
    exact ret_MI C0 hC hT dX11_act_24
  · have hT := hT_neg c_13 hT
    rw [va_rf_some c_13]
    have s_13 := sa_in c_13
    refine lv_astore (lv' := [(4, .ref ((rf (f_X5_stickAt ρ σ a1)))), (0, .ref (g.2.2 100)), (1, .int (a1)), (2, .int (a2)), (3, .int (a3))]) hx hb dX11_act_16 hl (by decide) rfl (fun ls hl => ?_)
    refine lv_aload hx hb dX11_act_18 (lv_at hl 0 rfl) ?_
    refine lv_ifnonnull (tgt := 25) hx hb dX11_act_20 (by decide) ?_
    refine lv_iload_n hx hb dX11_act_25 rfl (lv_at hl 3 rfl) ?_
    by_cases c_26_0 : a2 = (0 : Int32)
    · have hT := hT_pos c_26_0 hT
      refine lv_tableIn (tgt := 52) hx hb dX11_act_26 (by rw [c_26_0]; decide) (by rw [c_26_0]; decide) (by rw [c_26_0]; rfl) (by decide) ?_
      refine lv_aload hx hb dX11_act_52 (lv_at hl 0 rfl) ?_
      refine lv_iload_n hx hb dX11_act_54 rfl (lv_at hl 4 rfl) ?_
      refine lv_aload_n hx hb dX11_act_55 rfl (lv_at hl 1 rfl) ?_
      refine x_get (σ := (up2 σ 81 0 (0 : Int32))) (v := .ref (g.2.2 104)) (fs := xF0 g ρ (up2 σ 81 0 (0 : Int32))) 11 0 C0 uw_11 dc_11 hK hC.1 rfl rfl 4 (by decide) rfl w_233 dX11_act_56 ?_
      refine t_sets (σ := (up2 σ 81 0 (0 : Int32))) (rest := []) C0 hK hC (XH.wa hB hA hC) ⟨_, (sa_some c_13)⟩ (by show 0 ≤ (0 : Int32).toInt ∧ (0 : Int32).toInt ≤ 80; decide) w_862 ⟨by decide, by decide⟩ hl.1 (Nat.le_of_ble_eq_true rfl) dX11_act_59 (fun r59 u59 H locs e59 hC => ?_)
      have hT := bd_e e59 hT
      exact ret_MI C0 hC hT dX11_act_62
    have hT := hT_neg c_26_0 hT
    by_cases c_26_1 : a2 = (1 : Int32)
    · have hT := hT_pos c_26_1 hT
      refine lv_tableIn (tgt := 63) hx hb dX11_act_26 (by rw [c_26_1]; decide) (by rw [c_26_1]; decide) (by rw [c_26_1]; rfl) (by decide) ?_
      refine lv_aload hx hb dX11_act_63 (lv_at hl 0 rfl) ?_
      refine lv_iload_n hx hb dX11_act_65 rfl (lv_at hl 4 rfl) ?_
      refine lv_aload_n hx hb dX11_act_66 rfl (lv_at hl 1 rfl) ?_
      refine x_get (σ := (up2 σ 81 0 (0 : Int32))) (v := .ref (g.2.2 104)) (fs := xF0 g ρ (up2 σ 81 0 (0 : Int32))) 11 0 C0 uw_11 dc_11 hK hC.1 rfl rfl 4 (by decide) rfl w_233 dX11_act_67 ?_
      refine t_reads (σ := (up2 σ 81 0 (0 : Int32))) (rest := []) C0 hK hC (XH.wa hB hA hC) ⟨_, (sa_some c_13)⟩ (by show 0 ≤ (0 : Int32).toInt ∧ (0 : Int32).toInt ≤ 60; decide) w_887 ⟨by decide, by decide⟩ hl.1 (Nat.le_of_ble_eq_true rfl) dX11_act_70 (fun r70 u70 H locs e70 hC => ?_)
      have hT := bd_e e70 hT
      exact ret_MI C0 hC hT dX11_act_73
    have hT := hT_neg c_26_1 hT
    by_cases c_26_2 : a2 = (2 : Int32)
    · have hT := hT_pos c_26_2 hT
      refine lv_tableIn (tgt := 74) hx hb dX11_act_26 (by rw [c_26_2]; decide) (by rw [c_26_2]; decide) (by rw [c_26_2]; rfl) (by decide) ?_
      refine lv_aload hx hb dX11_act_74 (lv_at hl 0 rfl) ?_
      refine lv_iload_n hx hb dX11_act_76 rfl (lv_at hl 4 rfl) ?_
      refine lv_aload_n hx hb dX11_act_77 rfl (lv_at hl 1 rfl) ?_
      refine x_get (σ := (up2 σ 81 0 (0 : Int32))) (v := .ref (g.2.2 104)) (fs := xF0 g ρ (up2 σ 81 0 (0 : Int32))) 11 0 C0 uw_11 dc_11 hK hC.1 rfl rfl 4 (by decide) rfl w_233 dX11_act_78 ?_
      refine t_tells (σ := (up2 σ 81 0 (0 : Int32))) (rest := []) C0 hK hC (XH.wa hB hA hC) ⟨_, (sa_some c_13)⟩ (by show 0 ≤ (0 : Int32).toInt ∧ (0 : Int32).toInt ≤ 40; decide) w_909 ⟨by decide, by decide⟩ hl.1 (Nat.le_of_ble_eq_true rfl) dX11_act_81 (fun r81 u81 H locs e81 hC => ?_)
      have hT := bd_e e81 hT
      exact ret_MI C0 hC hT dX11_act_84
    have hT := hT_neg c_26_2 hT
    refine lv_tableOut (tgt := 85) hx hb dX11_act_26 (sw_out (fun k h1 h2 => by
        rcases (show k = 0 ∨ k = 1 ∨ k = 2 by omega) with rfl | rfl | rfl <;> first | exact c_26_0 | exact c_26_1 | exact c_26_2)) (by decide) ?_
    refine lv_iconst (v := (0 : Int32)) hx hb dX11_act_85 (by decide) ?_
    exact ret_MI C0 hC hT dX11_act_86
