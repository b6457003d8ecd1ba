set_option maxRecDepth 20000 in
theorem w_118 : (Cond.fieldLink RX5 59 RX5 "stickCount" "I") ∈ TB := inTB (List.mem_of_getElem? (i := 118) (by decide +kernel)) (by decide +kernel)
set_option maxRecDepth 20000 in
theorem w_116 : (Cond.fieldLink RX5 17 RX5 "sticks" "[LThreeMeasures$Stick;") ∈ TB := inTB (List.mem_of_getElem? (i := 116) (by decide +kernel)) (by decide +kernel)
theorem dX5_stickAt_0 : decode cX5_stickAt 0 = .ok (.iload_n 1, 1) := by decide +kernel
theorem dX5_stickAt_1 : decode cX5_stickAt 1 = .ok (.ifCond .lt 20, 3) := by decide +kernel
theorem dX5_stickAt_4 : decode cX5_stickAt 4 = .ok (.iload_n 1, 1) := by decide +kernel
theorem dX5_stickAt_5 : decode cX5_stickAt 5 = .ok (.aload_n 0, 1) := by decide +kernel
theorem dX5_stickAt_6 : decode cX5_stickAt 6 = .ok (.getfield 59, 3) := by decide +kernel
theorem dX5_stickAt_9 : decode cX5_stickAt 9 = .ok (.if_icmp .ge 12, 3) := by decide +kernel
theorem dX5_stickAt_12 : decode cX5_stickAt 12 = .ok (.aload_n 0, 1) := by decide +kernel
theorem dX5_stickAt_13 : decode cX5_stickAt 13 = .ok (.getfield 17, 3) := by decide +kernel
theorem dX5_stickAt_16 : decode cX5_stickAt 16 = .ok (.iload_n 1, 1) := by decide +kernel
theorem dX5_stickAt_17 : decode cX5_stickAt 17 = .ok (.aaload, 1) := by decide +kernel
theorem dX5_stickAt_18 : decode cX5_stickAt 18 = .ok (.goto 4, 3) := by decide +kernel
theorem dX5_stickAt_21 : decode cX5_stickAt 21 = .ok (.aconst_null, 1) := by decide +kernel
theorem dX5_stickAt_22 : decode cX5_stickAt 22 = .ok (.areturn, 1) := by decide +kernel
def f_X5_stickAt (ρ : RR) (σ : St) (a1 : Int32) : Option Nat := if a1 < 0 then none else if σ 25 0 ≤ a1 then none else ρ 24 (ix a1)
theorem sa_some {ρ : RR} {σ : St} {a : Int32} (h : ¬ f_X5_stickAt ρ σ a = none) : ρ 24 (ix a) = some (rf (f_X5_stickAt ρ σ a)) := by
  have h1 := rf_some h
  unfold f_X5_stickAt at h1 h ⊢
  split at h
  · exact absurd rfl h
  · split at h
    · exact absurd rfl h
    · rename_i c1 c2
      rw [if_neg c1, if_neg c2] at h1
      rw [if_neg c1, if_neg c2]
      exact h1
theorem sa_in {ρ : RR} {σ : St} {a : Int32} (h : ¬ f_X5_stickAt ρ σ a = none) : 0 ≤ a.toInt ∧ a.toInt < (σ 25 0).toInt := by
  unfold f_X5_stickAt at h
  have e0 : (0 : Int32).toInt = 0 := rfl
  split at h
  · exact absurd rfl h
  · split at h
    · exact absurd rfl h
    · rename_i c1 c2
      have c1 := mt ti_lt.mpr c1
      have c2 := mt ti_le.mpr c2
      omega
theorem sa_ok {ρ : RR} {σ : St} {a : Int32} (h0 : 0 ≤ a.toInt) (h1 : a.toInt < (σ 25 0).toInt) (hr : ¬ ρ 24 (ix a) = none) : ¬ f_X5_stickAt ρ σ a = none := by
  unfold f_X5_stickAt
  have e0 : (0 : Int32).toInt = 0 := rfl
  rw [if_neg (by rw [ti_lt]; omega), if_neg (by rw [ti_le]; omega)]
  exact hr
theorem start_PO {l : Launch} {y : MethodName} {cy : ByteArray} {maxL : Nat} {ret : Option FieldType} {rm : Room} {av : List Value} {B : State → Prop} {F : Option Nat} (hy : plainName y.cls = true) (hlen : (lg_sl av).length ≤ maxL)
    (body : ∀ (p : Program) (e : Env) (s : State) (m : MethodId) (args : Array Value) (below : List Frame) (meth : Method) (c : Code), BC p s m args meth c cy y.cls maxL ret → B s → ∀ ls : Array Slot, lv_has ls maxL (lv_args 0 av) →
      W p l e rm s m args below meth c s.heap [] 0 0 (MQ below (va_Sq (fun r => r = F)) args s 0 0 (fun _ => False)) (F0 m 0 ls [])) : Met l y (wsF y cy maxL ret) rm (va_Pc av B) (va_Sq (fun r => r = F)) 0 0 (fun _ => False) := by
  refine Met.ofW (cc := cy) (maxL := maxL) (ret := ret) hy rfl ?_
  intro p e s m args below meth c s₁ Bd hml hv
  obtain ⟨rfl, hB⟩ := hv
  have hts := atoms_spec (ws := wsF y cy maxL ret) Bd.pre
  rw [lg_entry_eq]
  exact body p e s m _ below meth c ⟨Bd.exec, Bd.bytes, Bd.returns, hml, findClass_of_methodNamed Bd.named, fun w hw => hts w (List.mem_cons_of_mem _ hw), Bd.notSynchronized⟩ hB _ (lv_entry av hlen)
theorem ret_PO {p : Program} {l : Launch} {e : Env} {R : Room} {s : State} {m : MethodId} {args : Array Value} {below : List Frame} {meth : Method} {c : Code} {cc : ByteArray} {own C : String} {nL pc : Nat} {ls : Array Slot} {F r : Option Nat} (C0 : BC p s m args meth c cc own nL (some (.object C))) (hT : r = F) (hdg : decode cc pc = .ok (.areturn, 1)) : W p l e R s m args below meth c s.heap [] 0 0 (MQ below (va_Sq (fun r => r = F)) args s 0 0 (fun _ => False)) (F0 m pc ls [va_rf r]) :=
  W.aret C0.1 C0.2.1 C0.2.2.1 (Or.inl ⟨_, rfl⟩) (by cases r with
    | none => exact Or.inl rfl
    | some a => exact Or.inr ⟨a, rfl⟩) (fun t ht _ => ⟨r, rfl, hT, ht⟩) (fun q h => by cases h) hdg C0.2.2.2.2.2.2
set_option maxHeartbeats 600000 in
set_option maxRecDepth 100000 in
theorem k_X5_stickAt (l : Launch) (g : GG) (ρ : RR) (dt : Nat → Nat → Int32) (σ : St) (a1 : Int32) (hX : IX σ) : Met l yX5_stickAt (wsF yX5_stickAt cX5_stickAt 2 (some (.object "ThreeMeasures$Stick"))) { frames := 0, cells := 0, slots := 0, locals := 0 } (va_Pc [.ref (g.2.2 101), .int a1] (GB g (xW g ρ) (XB g ρ dt) σ)) (va_Sq (fun r => r = f_X5_stickAt ρ σ a1)) 0 0 (fun _ => False) := by
  refine start_PO (by decide) (Nat.le_of_ble_eq_true rfl) ?_
  intro p e s m args below meth c C0 hG ls hl
  obtain ⟨hK, hP, hDD, hB⟩ := hG
  obtain ⟨hx, hb, hr, hml, hown, hts, hlocks⟩ := id C0
  have hl : lv_has ls 2 [(0, .ref (g.2.2 101)), (1, .int a1)] := hl
  obtain ⟨-, -, ⟨j5, j5'⟩, -⟩ := id hX
  generalize hT : f_X5_stickAt ρ σ a1 = tgt
  unfold f_X5_stickAt at hT
  refine lv_iload_n hx hb dX5_stickAt_0 rfl (lv_at hl 1 rfl) ?_
  refine lv_if_lt (tgt := 21) hx hb dX5_stickAt_1 (by decide) (fun c_1 => ?_) (fun c_1 => ?_)
  · have hT := hT_pos c_1 hT
    refine lv_null hx hb dX5_stickAt_21 ?_
    exact ret_PO (r := none) C0 hT dX5_stickAt_22
  · have hT := hT_neg c_1 hT
    refine lv_iload_n hx hb dX5_stickAt_4 rfl (lv_at hl 1 rfl) ?_
    refine lv_aload_n hx hb dX5_stickAt_5 rfl (lv_at hl 0 rfl) ?_
    refine x_get (σ := σ) (v := .int (σ 25 0)) (fs := xF1 g ρ σ) 5 1 C0 uw_5 dc_5 hK hP rfl rfl 5 (by decide) rfl w_118 dX5_stickAt_6 ?_
    refine lv_icmp_ge (tgt := 21) hx hb dX5_stickAt_9 (by decide) (fun c_9 => ?_) (fun c_9 => ?_)
    · have hT := hT_pos c_9 hT
      refine lv_null hx hb dX5_stickAt_21 ?_
      exact ret_PO (r := none) C0 hT dX5_stickAt_22
    · have hT := hT_neg c_9 hT
      refine lv_aload_n hx hb dX5_stickAt_12 rfl (lv_at hl 0 rfl) ?_
      refine x_get (σ := σ) (v := .ref (g.2.2 24)) (fs := xF1 g ρ σ) 5 1 C0 uw_5 dc_5 hK hP rfl rfl 4 (by decide) rfl w_116 dX5_stickAt_13 ?_
      refine lv_iload_n hx hb dX5_stickAt_16 rfl (lv_at hl 1 rfl) ?_
      have hin : vp_in a1 6 := by
        have e0 : (0 : Int32).toInt = 0 := rfl
        have q1 := mt ti_lt.mpr c_1
        have q9 := mt ti_le.mpr c_9
        exact vin (by omega) (by omega)
      refine va_aldq hx hb hK.1 hP 28 2 (n := 6) (f := ρ 24) rfl rfl hin dX5_stickAt_17 ?_
      refine lv_goto (tgt := 22) hx hb dX5_stickAt_18 (by decide) ?_
      exact ret_PO (r := ρ 24 (ix a1)) C0 hT dX5_stickAt_22
theorem x_sa {p : Program} {l : Launch} {e : Env} {R : Room} {s : State} {m : MethodId} {args : Array Value} {below : List Frame} {meth : Method} {c : Code} {H : Heap} {locs : List Loc} {Q : State → Prop} {cc : ByteArray} {own : String} {nL pc idx : Nat} {ret0 : Option FieldType} {ls : Array Slot} {rest : List Value} {g : GG} {ρ : RR} {dt : Nat → Nat → Int32} {σ : St} {i : Int32} {host : String} {F : Option Nat} (C0 : BC p s m args meth c cc own nL ret0) (hK : KK g s) (hP : va_P g.1 vwCl (xW g ρ σ) H) (hDD : va_D (fun _ => True) (xW g ρ σ)) (hB : XH g ρ dt H) (hF : CF yX5_stickAt cX5_stickAt 2 (some (.object "ThreeMeasures$Stick")) 1) (hl : Cond.methodLinkNest own idx yX5_stickAt host ∈ NB) (hM : Met l yX5_stickAt (wsF yX5_stickAt cX5_stickAt 2 (some (.object "ThreeMeasures$Stick"))) { frames := 0, cells := 0, slots := 0, locals := 0 } (va_Pc [.ref (g.2.2 101), .int i] (GB g (xW g ρ) (XB g ρ dt) σ)) (va_Sq (fun r => r = F)) 0 0 (fun _ => False)) (hR : 1 ≤ R.frames ∧ 21 ≤ R.locals) (hsz : ls.size = nL) (hW : (rest.map fun v => v.category).sum ≤ 8) (hdg : decode cc pc = .ok (.invokevirtual idx, 3)) (kk : W p l e R s m args below meth c H locs 0 0 Q (F0 m (pc + 3) ls (va_rf F :: rest))) : W p l e R s m args below meth c H locs 0 0 Q (F0 m pc ls (.int i :: .ref (g.2.2 101) :: rest)) :=
  va_csq (run_of_va (run_VN (As := [.int i]) (rest := rest) C0 hF hK.2 hl ⟨hR.1, by show 8 + (2 + 11) + 0 ≤ R.locals; omega⟩ hM (x_pre (y := yX5_stickAt) (fs := xF1 g ρ σ) 5 1 rfl rfl hK hP hDD hB) rfl hsz rfl hW hdg ⟨Nat.zero_le _, Nat.zero_le _⟩)) (fun r er => by subst er; exact kk)
set_option maxRecDepth 20000 in
theorem w_586 : (Cond.methodLinkNest RX11 87 yX5_stickAt RX11) ∈ NB := inNB (List.mem_of_getElem? (i := 586) (by decide +kernel)) (by decide +kernel)
set_option maxRecDepth 20000 in
theorem w_589 : (Cond.code yX5_stickAt cX5_stickAt 2 (some (.object "ThreeMeasures$Stick"))) ∈ TB := inTB (List.mem_of_getElem? (i := 589) (by decide +kernel)) (by decide +kernel)
set_option maxRecDepth 20000 in
theorem w_588 : (Cond.instanceMethod yX5_stickAt) ∈ TB := inTB (List.mem_of_getElem? (i := 588) (by decide +kernel)) (by decide +kernel)
set_option maxRecDepth 20000 in
theorem w_10 : (Cond.selects RX5 yX5_stickAt yX5_stickAt) ∈ TB := inTB (List.mem_of_getElem? (i := 10) (by decide +kernel)) (by decide +kernel)
theorem cf_X5_stickAt : CF yX5_stickAt cX5_stickAt 2 (some (.object "ThreeMeasures$Stick")) 1 := ⟨w_588, w_10, w_72, w_589, by decide +kernel, by decide +kernel, by decide +kernel⟩
set_option maxRecDepth 20000 in
theorem w_484 : (Cond.fieldLink RX11 91 RX6 "kind" "I") ∈ TB := inTB (List.mem_of_getElem? (i := 484) (by decide +kernel)) (by decide +kernel)
set_option maxRecDepth 20000 in
theorem w_495 : (Cond.fieldLink RX11 96 RX6 "v" "I") ∈ TB := inTB (List.mem_of_getElem? (i := 495) (by decide +kernel)) (by decide +kernel)
set_option maxRecDepth 20000 in
theorem w_506 : (Cond.fieldLink RX11 99 RX6 "length" "I") ∈ TB := inTB (List.mem_of_getElem? (i := 506) (by decide +kernel)) (by decide +kernel)
theorem dX11_of_0 : decode cX11_of 0 = .ok (.aload_n 0, 1) := by decide +kernel
theorem dX11_of_1 : decode cX11_of 1 = .ok (.getfield 12, 3) := by decide +kernel
theorem dX11_of_4 : decode cX11_of 4 = .ok (.iload_n 1, 1) := by decide +kernel
theorem dX11_of_5 : decode cX11_of 5 = .ok (.invokevirtual 87, 3) := by decide +kernel
theorem dX11_of_8 : decode cX11_of 8 = .ok (.astore_n 3, 1) := by decide +kernel
theorem dX11_of_9 : decode cX11_of 9 = .ok (.aload_n 3, 1) := by decide +kernel
theorem dX11_of_10 : decode cX11_of 10 = .ok (.ifnonnull 5, 3) := by decide +kernel
theorem dX11_of_13 : decode cX11_of 13 = .ok (.iconst (-1), 1) := by decide +kernel
theorem dX11_of_14 : decode cX11_of 14 = .ok (.ireturn, 1) := by decide +kernel
theorem dX11_of_15 : decode cX11_of 15 = .ok (.iload_n 2, 1) := by decide +kernel
theorem dX11_of_16 : decode cX11_of 16 = .ok (.tableswitch 43 0 2 #[28, 33, 38], 28) := by decide +kernel
theorem dX11_of_44 : decode cX11_of 44 = .ok (.aload_n 3, 1) := by decide +kernel
theorem dX11_of_45 : decode cX11_of 45 = .ok (.getfield 91, 3) := by decide +kernel
theorem dX11_of_48 : decode cX11_of 48 = .ok (.ireturn, 1) := by decide +kernel
theorem dX11_of_49 : decode cX11_of 49 = .ok (.aload_n 3, 1) := by decide +kernel
theorem dX11_of_50 : decode cX11_of 50 = .ok (.getfield 96, 3) := by decide +kernel
theorem dX11_of_53 : decode cX11_of 53 = .ok (.ireturn, 1) := by decide +kernel
theorem dX11_of_54 : decode cX11_of 54 = .ok (.aload_n 3, 1) := by decide +kernel
theorem dX11_of_55 : decode cX11_of 55 = .ok (.getfield 99, 3) := by decide +kernel
theorem dX11_of_58 : decode cX11_of 58 = .ok (.ireturn, 1) := by decide +kernel
theorem dX11_of_59 : decode cX11_of 59 = .ok (.iconst (-1), 1) := by decide +kernel
theorem dX11_of_60 : decode cX11_of 60 = .ok (.ireturn, 1) := by decide +kernel
def f_X11_of (ρ : RR) (dt : Nat → Nat → Int32) (σ : St) (a1 : Int32) (a2 : Int32) : Int32 := (if (f_X5_stickAt ρ σ a1) = none then (-1 : Int32) else (if a2 = (0 : Int32) then (dt (rf (f_X5_stickAt ρ σ a1)) 1) else (if a2 = (1 : Int32) then (dt (rf (f_X5_stickAt ρ σ a1)) 2) else (if a2 = (2 : Int32) then (dt (rf (f_X5_stickAt ρ σ a1)) 3) else (-1 : Int32)))))
set_option maxHeartbeats 600000 in
set_option maxRecDepth 100000 in
theorem k_X11_of (l : Launch) (g : GG) (ρ : RR) (dt : Nat → Nat → Int32) (σ : St) (a1 : Int32) (a2 : Int32) (hX : IX σ) : PI l yX11_of (wsF yX11_of cX11_of 4 (some .int)) { frames := 1, cells := 0, slots := 0, locals := 21 } [.ref (g.2.2 100), .int (a1), .int (a2)] (GB g (xW g ρ) (XB g ρ dt) σ) (f_X11_of ρ dt σ a1 a2) := by
  refine start_PI (by decide) (Nat.le_of_ble_eq_true rfl) ?_
  intro p e s m args below meth c C0 hG ls hl
  obtain ⟨hK, hP, hDD, hB⟩ := hG
  obtain ⟨hx, hb, hr, hml, hown, hts, hlocks⟩ := id C0
  have hl : lv_has ls 4 [(0, .ref (g.2.2 100)), (1, .int (a1)), (2, .int (a2))] := hl
  generalize hT : (f_X11_of ρ dt σ a1 a2) = tgt
  unfold f_X11_of at hT
  obtain ⟨⟨j1, j1'⟩, ⟨j3, j3'⟩, ⟨j5, j5'⟩, ⟨j8, j8'⟩, ⟨j9, j9'⟩, ⟨j12, j12'⟩, ⟨j14, j14'⟩, ⟨j17, j17'⟩, j81, jW⟩ := id hX
  refine lv_aload_n hx hb dX11_of_0 rfl (lv_at hl 0 rfl) ?_
  refine x_get (σ := σ) (v := .ref (g.2.2 101)) (fs := xF0 g ρ σ) 11 0 C0 uw_11 dc_11 hK hP rfl rfl 0 (by decide) rfl w_229 dX11_of_1 ?_
  refine lv_iload_n hx hb dX11_of_4 rfl (lv_at hl 1 rfl) ?_
  refine x_sa (σ := σ) (ρ := ρ) (dt := dt) (rest := []) C0 hK hP hDD hB cf_X5_stickAt w_586 (k_X5_stickAt l g ρ dt σ a1 hX) (F := (f_X5_stickAt ρ σ a1)) ⟨by decide, by decide⟩ hl.1 (Nat.le_of_ble_eq_true rfl) dX11_of_5 ?_
  by_cases c_5 : (f_X5_stickAt ρ σ a1) = none
  · have hT := hT_pos c_5 hT
    rw [va_rf_none c_5]
    refine lv_astore_nN (lv' := [(3, .null), (0, .ref (g.2.2 100)), (1, .int (a1)), (2, .int (a2))]) hx hb dX11_of_8 rfl hl (by decide) rfl (fun ls hl => ?_)
    refine lv_aload_nN hx hb dX11_of_9 rfl (lv_at hl 0 rfl) ?_
    refine lv_ifnonnullN hx hb dX11_of_10 ?_
    refine lv_iconst (v := (-1 : Int32)) hx hb dX11_of_13 (by decide) ?_
    exact ret_PI C0 hT dX11_of_14
  · have hT := hT_neg c_5 hT
    rw [va_rf_some c_5]
    have s_5 := sa_in c_5
    refine lv_astore_n (lv' := [(3, .ref ((rf (f_X5_stickAt ρ σ a1)))), (0, .ref (g.2.2 100)), (1, .int (a1)), (2, .int (a2))]) hx hb dX11_of_8 rfl hl (by decide) rfl (fun ls hl => ?_)
    refine lv_aload_n hx hb dX11_of_9 rfl (lv_at hl 0 rfl) ?_
    refine lv_ifnonnull (tgt := 15) hx hb dX11_of_10 (by decide) ?_
    refine lv_iload_n hx hb dX11_of_15 rfl (lv_at hl 3 rfl) ?_
    by_cases c_16_0 : a2 = (0 : Int32)
    · have hT := hT_pos c_16_0 hT
      refine lv_tableIn (tgt := 44) hx hb dX11_of_16 (by rw [c_16_0]; decide) (by rw [c_16_0]; decide) (by rw [c_16_0]; rfl) (by decide) ?_
      refine lv_aload_n hx hb dX11_of_44 rfl (lv_at hl 0 rfl) ?_
      refine sk_get (d := dt (rf (f_X5_stickAt ρ σ a1))) 1 C0 hK (XH.sk hB (Or.inl (sa_some c_5))) (by decide) w_484 (fun _ h => h) dX11_of_45 ?_
      exact ret_PI C0 hT dX11_of_48
    have hT := hT_neg c_16_0 hT
    by_cases c_16_1 : a2 = (1 : Int32)
    · have hT := hT_pos c_16_1 hT
      refine lv_tableIn (tgt := 49) hx hb dX11_of_16 (by rw [c_16_1]; decide) (by rw [c_16_1]; decide) (by rw [c_16_1]; rfl) (by decide) ?_
      refine lv_aload_n hx hb dX11_of_49 rfl (lv_at hl 0 rfl) ?_
      refine sk_get (d := dt (rf (f_X5_stickAt ρ σ a1))) 2 C0 hK (XH.sk hB (Or.inl (sa_some c_5))) (by decide) w_495 (fun _ h => h) dX11_of_50 ?_
      exact ret_PI C0 hT dX11_of_53
    have hT := hT_neg c_16_1 hT
    by_cases c_16_2 : a2 = (2 : Int32)
    · have hT := hT_pos c_16_2 hT
      refine lv_tableIn (tgt := 54) hx hb dX11_of_16 (by rw [c_16_2]; decide) (by rw [c_16_2]; decide) (by rw [c_16_2]; rfl) (by decide) ?_
      refine lv_aload_n hx hb dX11_of_54 rfl (lv_at hl 0 rfl) ?_
      refine sk_get (d := dt (rf (f_X5_stickAt ρ σ a1))) 3 C0 hK (XH.sk hB (Or.inl (sa_some c_5))) (by decide) w_506 (fun _ h => h) dX11_of_55 ?_
      exact ret_PI C0 hT dX11_of_58
    have hT := hT_neg c_16_2 hT
    refine lv_tableOut (tgt := 59) hx hb dX11_of_16 (sw_out (fun k h1 h2 => by
        rcases (show k = 0 ∨ k = 1 ∨ k = 2 by omega) with rfl | rfl | rfl <;> first | exact c_16_0 | exact c_16_1 | exact c_16_2)) (by decide) ?_
    refine lv_iconst (v := (-1 : Int32)) hx hb dX11_of_59 (by decide) ?_
    exact ret_PI C0 hT dX11_of_60
set_option maxRecDepth 20000 in
theorem w_127 : (Cond.fieldLinkNest RX11 128 RX5 "goes" "I" RX11) ∈ NB := inNB (List.mem_of_getElem? (i := 127) (by decide +kernel)) (by decide +kernel)
set_option maxRecDepth 20000 in
theorem w_631 : (Cond.methodLinkNest RX11 131 yX5_board RX11) ∈ NB := inNB (List.mem_of_getElem? (i := 631) (by decide +kernel)) (by decide +kernel)
set_option maxRecDepth 20000 in
theorem w_634 : (Cond.code yX5_board cX5_board 1 (some .int)) ∈ TB := inTB (List.mem_of_getElem? (i := 634) (by decide +kernel)) (by decide +kernel)
set_option maxRecDepth 20000 in
theorem w_633 : (Cond.instanceMethod yX5_board) ∈ TB := inTB (List.mem_of_getElem? (i := 633) (by decide +kernel)) (by decide +kernel)
set_option maxRecDepth 20000 in
theorem w_15 : (Cond.selects RX5 yX5_board yX5_board) ∈ TB := inTB (List.mem_of_getElem? (i := 15) (by decide +kernel)) (by decide +kernel)
theorem cf_X5_board : CF yX5_board cX5_board 1 (some .int) 0 := ⟨w_633, w_15, w_72, w_634, by decide +kernel, by decide +kernel, by decide +kernel⟩
set_option maxRecDepth 20000 in
theorem w_635 : (Cond.methodLinkNest RX11 135 yX5_perStep RX11) ∈ NB := inNB (List.mem_of_getElem? (i := 635) (by decide +kernel)) (by decide +kernel)
set_option maxRecDepth 20000 in
theorem w_638 : (Cond.code yX5_perStep cX5_perStep 1 (some .int)) ∈ TB := inTB (List.mem_of_getElem? (i := 638) (by decide +kernel)) (by decide +kernel)
set_option maxRecDepth 20000 in
theorem w_637 : (Cond.instanceMethod yX5_perStep) ∈ TB := inTB (List.mem_of_getElem? (i := 637) (by decide +kernel)) (by decide +kernel)
set_option maxRecDepth 20000 in
theorem w_16 : (Cond.selects RX5 yX5_perStep yX5_perStep) ∈ TB := inTB (List.mem_of_getElem? (i := 16) (by decide +kernel)) (by decide +kernel)
theorem cf_X5_perStep : CF yX5_perStep cX5_perStep 1 (some .int) 0 := ⟨w_637, w_16, w_72, w_638, by decide +kernel, by decide +kernel, by decide +kernel⟩
theorem dX11_told_0 : decode cX11_told 0 = .ok (.iload_n 1, 1) := by decide +kernel
theorem dX11_told_1 : decode cX11_told 1 = .ok (.tableswitch 51 0 2 #[27, 35, 43], 27) := by decide +kernel
theorem dX11_told_28 : decode cX11_told 28 = .ok (.aload_n 0, 1) := by decide +kernel
theorem dX11_told_29 : decode cX11_told 29 = .ok (.getfield 12, 3) := by decide +kernel
theorem dX11_told_32 : decode cX11_told 32 = .ok (.getfield 128, 3) := by decide +kernel
theorem dX11_told_35 : decode cX11_told 35 = .ok (.ireturn, 1) := by decide +kernel
theorem dX11_told_36 : decode cX11_told 36 = .ok (.aload_n 0, 1) := by decide +kernel
theorem dX11_told_37 : decode cX11_told 37 = .ok (.getfield 12, 3) := by decide +kernel
theorem dX11_told_40 : decode cX11_told 40 = .ok (.invokevirtual 131, 3) := by decide +kernel
theorem dX11_told_43 : decode cX11_told 43 = .ok (.ireturn, 1) := by decide +kernel
theorem dX11_told_44 : decode cX11_told 44 = .ok (.aload_n 0, 1) := by decide +kernel
theorem dX11_told_45 : decode cX11_told 45 = .ok (.getfield 12, 3) := by decide +kernel
theorem dX11_told_48 : decode cX11_told 48 = .ok (.invokevirtual 135, 3) := by decide +kernel
theorem dX11_told_51 : decode cX11_told 51 = .ok (.ireturn, 1) := by decide +kernel
theorem dX11_told_52 : decode cX11_told 52 = .ok (.iconst (-1), 1) := by decide +kernel
theorem dX11_told_53 : decode cX11_told 53 = .ok (.ireturn, 1) := by decide +kernel
def f_X11_told (ρ : RR) (dt : Nat → Nat → Int32) (σ : St) (a1 : Int32) : Int32 := (if a1 = (0 : Int32) then (σ 29 0) else (if a1 = (1 : Int32) then (f_X5_board ρ dt σ ) else (if a1 = (2 : Int32) then (f_X5_perStep ρ dt σ ) else (-1 : Int32))))
set_option maxHeartbeats 600000 in
set_option maxRecDepth 100000 in
theorem k_X11_told (l : Launch) (g : GG) (ρ : RR) (dt : Nat → Nat → Int32) (σ : St) (a1 : Int32)  : PI l yX11_told (wsF yX11_told cX11_told 2 (some .int)) { frames := 1, cells := 0, slots := 0, locals := 20 } [.ref (g.2.2 100), .int (a1)] (GB g (xW g ρ) (XB g ρ dt) σ) (f_X11_told ρ dt σ a1) := by
  refine start_PI (by decide) (Nat.le_of_ble_eq_true rfl) ?_
  intro p e s m args below meth c C0 hG ls hl
  obtain ⟨hK, hP, hDD, hB⟩ := hG
  obtain ⟨hx, hb, hr, hml, hown, hts, hlocks⟩ := id C0
  have hl : lv_has ls 2 [(0, .ref (g.2.2 100)), (1, .int (a1))] := hl
  generalize hT : (f_X11_told ρ dt σ a1) = tgt
  unfold f_X11_told at hT
  refine lv_iload_n hx hb dX11_told_0 rfl (lv_at hl 1 rfl) ?_
  by_cases c_1_0 : a1 = (0 : Int32)
  · have hT := hT_pos c_1_0 hT
    refine lv_tableIn (tgt := 28) hx hb dX11_told_1 (by rw [c_1_0]; decide) (by rw [c_1_0]; decide) (by rw [c_1_0]; rfl) (by decide) ?_
    refine lv_aload_n hx hb dX11_told_28 rfl (lv_at hl 0 rfl) ?_
    refine x_get (σ := σ) (v := .ref (g.2.2 101)) (fs := xF0 g ρ σ) 11 0 C0 uw_11 dc_11 hK hP rfl rfl 0 (by decide) rfl w_229 dX11_told_29 ?_
    refine x_getN (σ := σ) (v := .int ((σ 29 0))) (fs := xF1 g ρ σ) 5 1 C0 uw_5 dc_5 hK hP rfl rfl 9 (by decide) rfl w_127 dX11_told_32 ?_
    exact ret_PI C0 hT dX11_told_35
  have hT := hT_neg c_1_0 hT
  by_cases c_1_1 : a1 = (1 : Int32)
  · have hT := hT_pos c_1_1 hT
    refine lv_tableIn (tgt := 36) hx hb dX11_told_1 (by rw [c_1_1]; decide) (by rw [c_1_1]; decide) (by rw [c_1_1]; rfl) (by decide) ?_
    refine lv_aload_n hx hb dX11_told_36 rfl (lv_at hl 0 rfl) ?_
    refine x_get (σ := σ) (v := .ref (g.2.2 101)) (fs := xF0 g ρ σ) 11 0 C0 uw_11 dc_11 hK hP rfl rfl 0 (by decide) rfl w_229 dX11_told_37 ?_
    refine x_cn (rest := []) (As := []) (σ := σ) (ρ := ρ) (dt := dt) (T := TX5) (N := 18) (fs := xF1 g ρ σ) 5 1 rfl rfl C0 hK hP hDD hB cf_X5_board w_631 (k_X5_board l g ρ dt σ  ) ⟨by decide, by decide⟩ hl.1 rfl rfl (Nat.le_of_ble_eq_true rfl) dX11_told_40 ⟨Nat.zero_le _, Nat.zero_le _⟩ ?_
    exact ret_PI C0 hT dX11_told_43
  have hT := hT_neg c_1_1 hT
  by_cases c_1_2 : a1 = (2 : Int32)
  · have hT := hT_pos c_1_2 hT
    refine lv_tableIn (tgt := 44) hx hb dX11_told_1 (by rw [c_1_2]; decide) (by rw [c_1_2]; decide) (by rw [c_1_2]; rfl) (by decide) ?_
    refine lv_aload_n hx hb dX11_told_44 rfl (lv_at hl 0 rfl) ?_
    refine x_get (σ := σ) (v := .ref (g.2.2 101)) (fs := xF0 g ρ σ) 11 0 C0 uw_11 dc_11 hK hP rfl rfl 0 (by decide) rfl w_229 dX11_told_45 ?_
    refine x_cn (rest := []) (As := []) (σ := σ) (ρ := ρ) (dt := dt) (T := TX5) (N := 18) (fs := xF1 g ρ σ) 5 1 rfl rfl C0 hK hP hDD hB cf_X5_perStep w_635 (k_X5_perStep l g ρ dt σ  ) ⟨by decide, by decide⟩ hl.1 rfl rfl (Nat.le_of_ble_eq_true rfl) dX11_told_48 ⟨Nat.zero_le _, Nat.zero_le _⟩ ?_
    exact ret_PI C0 hT dX11_told_51
  have hT := hT_neg c_1_2 hT
  refine lv_tableOut (tgt := 52) hx hb dX11_told_1 (sw_out (fun k h1 h2 => by
      rcases (show k = 0 ∨ k = 1 ∨ k = 2 by omega) with rfl | rfl | rfl <;> first | exact c_1_0 | exact c_1_1 | exact c_1_2)) (by decide) ?_
  refine lv_iconst (v := (-1 : Int32)) hx hb dX11_told_52 (by decide) ?_
  exact ret_PI C0 hT dX11_told_53
set_option maxRecDepth 20000 in
theorem w_643 : (Cond.methodLink RX11 138 yX11_isTimes) ∈ TB := inTB (List.mem_of_getElem? (i := 643) (by decide +kernel)) (by decide +kernel)
set_option maxRecDepth 20000 in
theorem w_645 : (Cond.code yX11_isTimes cX11_isTimes 1 (some .boolean)) ∈ TB := inTB (List.mem_of_getElem? (i := 645) (by decide +kernel)) (by decide +kernel)
set_option maxRecDepth 20000 in
theorem w_644 : (Cond.static yX11_isTimes) ∈ TB := inTB (List.mem_of_getElem? (i := 644) (by decide +kernel)) (by decide +kernel)
theorem cf_X11_isTimes : CG yX11_isTimes cX11_isTimes 1 (some .boolean) 1 := ⟨w_644, w_71, w_645, by decide +kernel, by decide +kernel, by decide +kernel⟩
set_option maxRecDepth 20000 in
theorem w_646 : (Cond.methodLinkNest RX11 141 yX5_least RX11) ∈ NB := inNB (List.mem_of_getElem? (i := 646) (by decide +kernel)) (by decide +kernel)
set_option maxRecDepth 20000 in
theorem w_649 : (Cond.code yX5_least cX5_least 4 (some .int)) ∈ TB := inTB (List.mem_of_getElem? (i := 649) (by decide +kernel)) (by decide +kernel)
set_option maxRecDepth 20000 in
theorem w_648 : (Cond.instanceMethod yX5_least) ∈ TB := inTB (List.mem_of_getElem? (i := 648) (by decide +kernel)) (by decide +kernel)
set_option maxRecDepth 20000 in
theorem w_17 : (Cond.selects RX5 yX5_least yX5_least) ∈ TB := inTB (List.mem_of_getElem? (i := 17) (by decide +kernel)) (by decide +kernel)
theorem cf_X5_least : CF yX5_least cX5_least 4 (some .int) 3 := ⟨w_648, w_17, w_72, w_649, by decide +kernel, by decide +kernel, by decide +kernel⟩
set_option maxRecDepth 20000 in
theorem w_705 : (Cond.methodLinkNest RX11 151 yX5_most RX11) ∈ NB := inNB (List.mem_of_getElem? (i := 705) (by decide +kernel)) (by decide +kernel)
set_option maxRecDepth 20000 in
theorem w_708 : (Cond.code yX5_most cX5_most 4 (some .int)) ∈ TB := inTB (List.mem_of_getElem? (i := 708) (by decide +kernel)) (by decide +kernel)
set_option maxRecDepth 20000 in
theorem w_707 : (Cond.instanceMethod yX5_most) ∈ TB := inTB (List.mem_of_getElem? (i := 707) (by decide +kernel)) (by decide +kernel)
set_option maxRecDepth 20000 in
theorem w_21 : (Cond.selects RX5 yX5_most yX5_most) ∈ TB := inTB (List.mem_of_getElem? (i := 21) (by decide +kernel)) (by decide +kernel)
theorem cf_X5_most : CF yX5_most cX5_most 4 (some .int) 3 := ⟨w_707, w_21, w_72, w_708, by decide +kernel, by decide +kernel, by decide +kernel⟩
set_option maxRecDepth 20000 in
theorem w_714 : (Cond.methodLinkNest RX11 157 yX5_middle RX11) ∈ NB := inNB (List.mem_of_getElem? (i := 714) (by decide +kernel)) (by decide +kernel)
set_option maxRecDepth 20000 in
theorem w_715 : (Cond.methodLinkNest RX11 160 yX5_slack RX11) ∈ NB := inNB (List.mem_of_getElem? (i := 715) (by decide +kernel)) (by decide +kernel)
theorem dX11_between_0 : decode cX11_between 0 = .ok (.aload_n 0, 1) := by decide +kernel
theorem dX11_between_1 : decode cX11_between 1 = .ok (.getfield 12, 3) := by decide +kernel
theorem dX11_between_4 : decode cX11_between 4 = .ok (.iload_n 1, 1) := by decide +kernel
theorem dX11_between_5 : decode cX11_between 5 = .ok (.invokevirtual 87, 3) := by decide +kernel
theorem dX11_between_8 : decode cX11_between 8 = .ok (.astore 5, 2) := by decide +kernel
theorem dX11_between_10 : decode cX11_between 10 = .ok (.aload 5, 2) := by decide +kernel
theorem dX11_between_12 : decode cX11_between 12 = .ok (.ifnull 25, 3) := by decide +kernel
theorem dX11_between_15 : decode cX11_between 15 = .ok (.aload_n 0, 1) := by decide +kernel
theorem dX11_between_16 : decode cX11_between 16 = .ok (.getfield 12, 3) := by decide +kernel
theorem dX11_between_19 : decode cX11_between 19 = .ok (.iload_n 2, 1) := by decide +kernel
theorem dX11_between_20 : decode cX11_between 20 = .ok (.invokevirtual 121, 3) := by decide +kernel
theorem dX11_between_23 : decode cX11_between 23 = .ok (.ifCond .eq 14, 3) := by decide +kernel
theorem dX11_between_26 : decode cX11_between 26 = .ok (.iload 4, 2) := by decide +kernel
theorem dX11_between_28 : decode cX11_between 28 = .ok (.ifCond .lt 9, 3) := by decide +kernel
theorem dX11_between_31 : decode cX11_between 31 = .ok (.iload 4, 2) := by decide +kernel
theorem dX11_between_33 : decode cX11_between 33 = .ok (.iconst 3, 1) := by decide +kernel
theorem dX11_between_34 : decode cX11_between 34 = .ok (.if_icmp .le 5, 3) := by decide +kernel
theorem dX11_between_37 : decode cX11_between 37 = .ok (.iconst (-1), 1) := by decide +kernel
theorem dX11_between_38 : decode cX11_between 38 = .ok (.ireturn, 1) := by decide +kernel
theorem dX11_between_39 : decode cX11_between 39 = .ok (.iload_n 3, 1) := by decide +kernel
theorem dX11_between_40 : decode cX11_between 40 = .ok (.invokestatic 138, 3) := by decide +kernel
theorem dX11_between_43 : decode cX11_between 43 = .ok (.ifCond .ne 6, 3) := by decide +kernel
theorem dX11_between_46 : decode cX11_between 46 = .ok (.bipush (-2), 2) := by decide +kernel
theorem dX11_between_48 : decode cX11_between 48 = .ok (.ireturn, 1) := by decide +kernel
theorem dX11_between_49 : decode cX11_between 49 = .ok (.iload 4, 2) := by decide +kernel
theorem dX11_between_51 : decode cX11_between 51 = .ok (.tableswitch 61 0 2 #[25, 37, 49], 25) := by decide +kernel
theorem dX11_between_76 : decode cX11_between 76 = .ok (.aload_n 0, 1) := by decide +kernel
theorem dX11_between_77 : decode cX11_between 77 = .ok (.getfield 12, 3) := by decide +kernel
theorem dX11_between_80 : decode cX11_between 80 = .ok (.aload 5, 2) := by decide +kernel
theorem dX11_between_82 : decode cX11_between 82 = .ok (.iload_n 2, 1) := by decide +kernel
theorem dX11_between_83 : decode cX11_between 83 = .ok (.iload_n 3, 1) := by decide +kernel
theorem dX11_between_84 : decode cX11_between 84 = .ok (.invokevirtual 141, 3) := by decide +kernel
theorem dX11_between_87 : decode cX11_between 87 = .ok (.ireturn, 1) := by decide +kernel
theorem dX11_between_88 : decode cX11_between 88 = .ok (.aload_n 0, 1) := by decide +kernel
theorem dX11_between_89 : decode cX11_between 89 = .ok (.getfield 12, 3) := by decide +kernel
theorem dX11_between_92 : decode cX11_between 92 = .ok (.aload 5, 2) := by decide +kernel
theorem dX11_between_94 : decode cX11_between 94 = .ok (.iload_n 2, 1) := by decide +kernel
theorem dX11_between_95 : decode cX11_between 95 = .ok (.iload_n 3, 1) := by decide +kernel
theorem dX11_between_96 : decode cX11_between 96 = .ok (.invokevirtual 151, 3) := by decide +kernel
theorem dX11_between_99 : decode cX11_between 99 = .ok (.ireturn, 1) := by decide +kernel
theorem dX11_between_100 : decode cX11_between 100 = .ok (.aload_n 0, 1) := by decide +kernel
theorem dX11_between_101 : decode cX11_between 101 = .ok (.getfield 12, 3) := by decide +kernel
theorem dX11_between_104 : decode cX11_between 104 = .ok (.aload 5, 2) := by decide +kernel
theorem dX11_between_106 : decode cX11_between 106 = .ok (.iload_n 2, 1) := by decide +kernel
theorem dX11_between_107 : decode cX11_between 107 = .ok (.iload_n 3, 1) := by decide +kernel
theorem dX11_between_108 : decode cX11_between 108 = .ok (.invokevirtual 157, 3) := by decide +kernel
theorem dX11_between_111 : decode cX11_between 111 = .ok (.ireturn, 1) := by decide +kernel
theorem dX11_between_112 : decode cX11_between 112 = .ok (.aload_n 0, 1) := by decide +kernel
theorem dX11_between_113 : decode cX11_between 113 = .ok (.getfield 12, 3) := by decide +kernel
theorem dX11_between_116 : decode cX11_between 116 = .ok (.aload 5, 2) := by decide +kernel
theorem dX11_between_118 : decode cX11_between 118 = .ok (.iload_n 2, 1) := by decide +kernel
theorem dX11_between_119 : decode cX11_between 119 = .ok (.iload_n 3, 1) := by decide +kernel
theorem dX11_between_120 : decode cX11_between 120 = .ok (.invokevirtual 160, 3) := by decide +kernel
theorem dX11_between_123 : decode cX11_between 123 = .ok (.ireturn, 1) := by decide +kernel
def f_X11_between (ρ : RR) (dt : Nat → Nat → Int32) (σ : St) (a1 : Int32) (a2 : Int32) (a3 : Int32) (a4 : Int32) : Int32 := (if (f_X5_stickAt ρ σ a1) = none then (-1 : Int32) else (if (f_X5_isWall σ a2) = 0 then (-1 : Int32) else (if a4 < 0 then (-1 : Int32) else (if a4 ≤ (3 : Int32) then (if (f_X11_isTimes a3) = 0 then (-2 : Int32) else (if a4 = (0 : Int32) then (f_X5_least ρ dt σ (rf (f_X5_stickAt ρ σ a1)) a2 a3) else (if a4 = (1 : Int32) then (f_X5_most ρ dt σ (rf (f_X5_stickAt ρ σ a1)) a2 a3) else (if a4 = (2 : Int32) then (f_X5_middle ρ dt σ (rf (f_X5_stickAt ρ σ a1)) a2 a3) else (f_X5_slack ρ dt σ (rf (f_X5_stickAt ρ σ a1)) a2 a3))))) else (-1 : Int32)))))
set_option maxHeartbeats 600000 in
set_option maxRecDepth 100000 in
theorem k_X11_between (l : Launch) (g : GG) (ρ : RR) (dt : Nat → Nat → Int32) (σ : St) (a1 : Int32) (a2 : Int32) (a3 : Int32) (a4 : Int32) (hX : IX σ) : PI l yX11_between (wsF yX11_between cX11_between 6 (some .int)) { frames := 4, cells := 0, slots := 0, locals := 102 } [.ref (g.2.2 100), .int (a1), .int (a2), .int (a3), .int (a4)] (GB g (xW g ρ) (XB g ρ dt) σ) (f_X11_between ρ dt σ a1 a2 a3 a4) := by
  refine start_PI (by decide) (Nat.le_of_ble_eq_true rfl) ?_
  intro p e s m args below meth c C0 hG ls hl
  obtain ⟨hK, hP, hDD, hB⟩ := hG
  obtain ⟨hx, hb, hr, hml, hown, hts, hlocks⟩ := id C0
  have hl : lv_has ls 6 [(0, .ref (g.2.2 100)), (1, .int (a1)), (2, .int (a2)), (3, .int (a3)), (4, .int (a4))] := hl
  generalize hT : (f_X11_between ρ dt σ a1 a2 a3 a4) = tgt
  unfold f_X11_between at hT
  obtain ⟨⟨j1, j1'⟩, ⟨j3, j3'⟩, ⟨j5, j5'⟩, ⟨j8, j8'⟩, ⟨j9, j9'⟩, ⟨j12, j12'⟩, ⟨j14, j14'⟩, ⟨j17, j17'⟩, j81, jW⟩ := id hX
  refine lv_aload_n hx hb dX11_between_0 rfl (lv_at hl 0 rfl) ?_
  refine x_get (σ := σ) (v := .ref (g.2.2 101)) (fs := xF0 g ρ σ) 11 0 C0 uw_11 dc_11 hK hP rfl rfl 0 (by decide) rfl w_229 dX11_between_1 ?_
  refine lv_iload_n hx hb dX11_between_4 rfl (lv_at hl 1 rfl) ?_
  refine x_sa (σ := σ) (ρ := ρ) (dt := dt) (rest := []) C0 hK hP hDD hB cf_X5_stickAt w_586 (k_X5_stickAt l g ρ dt σ a1 hX) (F := (f_X5_stickAt ρ σ a1)) ⟨by decide, by decide⟩ hl.1 (Nat.le_of_ble_eq_true rfl) dX11_between_5 ?_
  by_cases c_5 : (f_X5_stickAt ρ σ a1) = none
  · have hT := hT_pos c_5 hT
    rw [va_rf_none c_5]
    refine lv_astoreN (lv' := [(5, .null), (0, .ref (g.2.2 100)), (1, .int (a1)), (2, .int (a2)), (3, .int (a3)), (4, .int (a4))]) hx hb dX11_between_8 hl (by decide) rfl (fun ls hl => ?_)
    refine lv_aloadN hx hb dX11_between_10 (lv_at hl 0 rfl) ?_
    refine lv_ifnullN (tgt := 37) hx hb dX11_between_12 (by decide) ?_
    refine lv_iconst (v := (-1 : Int32)) hx hb dX11_between_37 (by decide) ?_
    exact ret_PI C0 hT dX11_between_38
  · have hT := hT_neg c_5 hT
    rw [va_rf_some c_5]
    have s_5 := sa_in c_5
    refine lv_astore (lv' := [(5, .ref ((rf (f_X5_stickAt ρ σ a1)))), (0, .ref (g.2.2 100)), (1, .int (a1)), (2, .int (a2)), (3, .int (a3)), (4, .int (a4))]) hx hb dX11_between_8 hl (by decide) rfl (fun ls hl => ?_)
    refine lv_aload hx hb dX11_between_10 (lv_at hl 0 rfl) ?_
    refine lv_ifnull hx hb dX11_between_12 ?_
    refine lv_aload_n hx hb dX11_between_15 rfl (lv_at hl 1 rfl) ?_
    refine x_get (σ := σ) (v := .ref (g.2.2 101)) (fs := xF0 g ρ σ) 11 0 C0 uw_11 dc_11 hK hP rfl rfl 0 (by decide) rfl w_229 dX11_between_16 ?_
    refine lv_iload_n hx hb dX11_between_19 rfl (lv_at hl 3 rfl) ?_
    refine x_cn (rest := []) (As := [.int (a2)]) (σ := σ) (ρ := ρ) (dt := dt) (T := TX5) (N := 18) (fs := xF1 g ρ σ) 5 1 rfl rfl C0 hK hP hDD hB cf_X5_isWall w_615 (k_X5_isWall l g ρ dt σ a2 ) ⟨by decide, by decide⟩ hl.1 rfl rfl (Nat.le_of_ble_eq_true rfl) dX11_between_20 ⟨Nat.zero_le _, Nat.zero_le _⟩ ?_
    refine lv_if_eq (tgt := 37) hx hb dX11_between_23 (by decide) (fun c_23 => ?_) (fun c_23 => ?_)
    · have hT := hT_pos c_23 hT
      refine lv_iconst (v := (-1 : Int32)) hx hb dX11_between_37 (by decide) ?_
      exact ret_PI C0 hT dX11_between_38
    · have hT := hT_neg c_23 hT
      refine lv_iload hx hb dX11_between_26 (lv_at hl 5 rfl) ?_
      refine lv_if_lt (tgt := 37) hx hb dX11_between_28 (by decide) (fun c_28 => ?_) (fun c_28 => ?_)
      · have hT := hT_pos c_28 hT
        refine lv_iconst (v := (-1 : Int32)) hx hb dX11_between_37 (by decide) ?_
        exact ret_PI C0 hT dX11_between_38
      · have hT := hT_neg c_28 hT
        refine lv_iload hx hb dX11_between_31 (lv_at hl 5 rfl) ?_
        refine lv_iconst (v := (3 : Int32)) hx hb dX11_between_33 (by decide) ?_
        refine lv_icmp_le (tgt := 39) hx hb dX11_between_34 (by decide) (fun c_34 => ?_) (fun c_34 => ?_)
        · have hT := hT_pos c_34 hT
          refine lv_iload_n hx hb dX11_between_39 rfl (lv_at hl 4 rfl) ?_
          refine s_ci (rest := []) (As := [.int (a3)]) C0 cf_X11_isTimes w_643 (k_X11_isTimes l a3 ) ⟨by decide, by decide⟩ hl.1 rfl rfl (Nat.le_of_ble_eq_true rfl) dX11_between_40 ⟨Nat.zero_le _, Nat.zero_le _⟩ ?_
          refine lv_if_ne (tgt := 49) hx hb dX11_between_43 (by decide) (fun c_43 => ?_) (fun c_43 => ?_)
          · have hT := hT_neg c_43 hT
            refine lv_iload hx hb dX11_between_49 (lv_at hl 5 rfl) ?_
            by_cases c_51_0 : a4 = (0 : Int32)
            · have hT := hT_pos c_51_0 hT
              refine lv_tableIn (tgt := 76) hx hb dX11_between_51 (by rw [c_51_0]; decide) (by rw [c_51_0]; decide) (by rw [c_51_0]; rfl) (by decide) ?_
              refine lv_aload_n hx hb dX11_between_76 rfl (lv_at hl 1 rfl) ?_
              refine x_get (σ := σ) (v := .ref (g.2.2 101)) (fs := xF0 g ρ σ) 11 0 C0 uw_11 dc_11 hK hP rfl rfl 0 (by decide) rfl w_229 dX11_between_77 ?_
              refine lv_aload hx hb dX11_between_80 (lv_at hl 0 rfl) ?_
              refine lv_iload_n hx hb dX11_between_82 rfl (lv_at hl 3 rfl) ?_
              refine lv_iload_n hx hb dX11_between_83 rfl (lv_at hl 4 rfl) ?_
              refine x_cn (rest := []) (As := [.ref ((rf (f_X5_stickAt ρ σ a1))), .int (a2), .int (a3)]) (σ := σ) (ρ := ρ) (dt := dt) (T := TX5) (N := 18) (fs := xF1 g ρ σ) 5 1 rfl rfl C0 hK hP hDD hB cf_X5_least w_646 (k_X5_least l g ρ dt σ (rf (f_X5_stickAt ρ σ a1)) a2 a3 ⟨_, (sa_some c_5)⟩) ⟨by decide, by decide⟩ hl.1 rfl rfl (Nat.le_of_ble_eq_true rfl) dX11_between_84 ⟨Nat.zero_le _, Nat.zero_le _⟩ ?_
              exact ret_PI C0 hT dX11_between_87
            have hT := hT_neg c_51_0 hT
            by_cases c_51_1 : a4 = (1 : Int32)
            · have hT := hT_pos c_51_1 hT
              refine lv_tableIn (tgt := 88) hx hb dX11_between_51 (by rw [c_51_1]; decide) (by rw [c_51_1]; decide) (by rw [c_51_1]; rfl) (by decide) ?_
              refine lv_aload_n hx hb dX11_between_88 rfl (lv_at hl 1 rfl) ?_
              refine x_get (σ := σ) (v := .ref (g.2.2 101)) (fs := xF0 g ρ σ) 11 0 C0 uw_11 dc_11 hK hP rfl rfl 0 (by decide) rfl w_229 dX11_between_89 ?_
              refine lv_aload hx hb dX11_between_92 (lv_at hl 0 rfl) ?_
              refine lv_iload_n hx hb dX11_between_94 rfl (lv_at hl 3 rfl) ?_
              refine lv_iload_n hx hb dX11_between_95 rfl (lv_at hl 4 rfl) ?_
              refine x_cn (rest := []) (As := [.ref ((rf (f_X5_stickAt ρ σ a1))), .int (a2), .int (a3)]) (σ := σ) (ρ := ρ) (dt := dt) (T := TX5) (N := 18) (fs := xF1 g ρ σ) 5 1 rfl rfl C0 hK hP hDD hB cf_X5_most w_705 (k_X5_most l g ρ dt σ (rf (f_X5_stickAt ρ σ a1)) a2 a3 ⟨_, (sa_some c_5)⟩) ⟨by decide, by decide⟩ hl.1 rfl rfl (Nat.le_of_ble_eq_true rfl) dX11_between_96 ⟨Nat.zero_le _, Nat.zero_le _⟩ ?_
              exact ret_PI C0 hT dX11_between_99
            have hT := hT_neg c_51_1 hT
            by_cases c_51_2 : a4 = (2 : Int32)
            · have hT := hT_pos c_51_2 hT
              refine lv_tableIn (tgt := 100) hx hb dX11_between_51 (by rw [c_51_2]; decide) (by rw [c_51_2]; decide) (by rw [c_51_2]; rfl) (by decide) ?_
              refine lv_aload_n hx hb dX11_between_100 rfl (lv_at hl 1 rfl) ?_
              refine x_get (σ := σ) (v := .ref (g.2.2 101)) (fs := xF0 g ρ σ) 11 0 C0 uw_11 dc_11 hK hP rfl rfl 0 (by decide) rfl w_229 dX11_between_101 ?_
              refine lv_aload hx hb dX11_between_104 (lv_at hl 0 rfl) ?_
              refine lv_iload_n hx hb dX11_between_106 rfl (lv_at hl 3 rfl) ?_
              refine lv_iload_n hx hb dX11_between_107 rfl (lv_at hl 4 rfl) ?_
              refine x_cn (rest := []) (As := [.ref ((rf (f_X5_stickAt ρ σ a1))), .int (a2), .int (a3)]) (σ := σ) (ρ := ρ) (dt := dt) (T := TX5) (N := 18) (fs := xF1 g ρ σ) 5 1 rfl rfl C0 hK hP hDD hB cf_X5_middle w_714 (k_X5_middle l g ρ dt σ (rf (f_X5_stickAt ρ σ a1)) a2 a3 ⟨_, (sa_some c_5)⟩) ⟨by decide, by decide⟩ hl.1 rfl rfl (Nat.le_of_ble_eq_true rfl) dX11_between_108 ⟨Nat.zero_le _, Nat.zero_le _⟩ ?_
              exact ret_PI C0 hT dX11_between_111
            have hT := hT_neg c_51_2 hT
            refine lv_tableOut (tgt := 112) hx hb dX11_between_51 (sw_out (fun k h1 h2 => by
                rcases (show k = 0 ∨ k = 1 ∨ k = 2 by omega) with rfl | rfl | rfl <;> first | exact c_51_0 | exact c_51_1 | exact c_51_2)) (by decide) ?_
            refine lv_aload_n hx hb dX11_between_112 rfl (lv_at hl 1 rfl) ?_
            refine x_get (σ := σ) (v := .ref (g.2.2 101)) (fs := xF0 g ρ σ) 11 0 C0 uw_11 dc_11 hK hP rfl rfl 0 (by decide) rfl w_229 dX11_between_113 ?_
            refine lv_aload hx hb dX11_between_116 (lv_at hl 0 rfl) ?_
            refine lv_iload_n hx hb dX11_between_118 rfl (lv_at hl 3 rfl) ?_
            refine lv_iload_n hx hb dX11_between_119 rfl (lv_at hl 4 rfl) ?_
            refine x_cn (rest := []) (As := [.ref ((rf (f_X5_stickAt ρ σ a1))), .int (a2), .int (a3)]) (σ := σ) (ρ := ρ) (dt := dt) (T := TX5) (N := 18) (fs := xF1 g ρ σ) 5 1 rfl rfl C0 hK hP hDD hB cf_X5_slack w_715 (k_X5_slack l g ρ dt σ (rf (f_X5_stickAt ρ σ a1)) a2 a3 ⟨_, (sa_some c_5)⟩) ⟨by decide, by decide⟩ hl.1 rfl rfl (Nat.le_of_ble_eq_true rfl) dX11_between_120 ⟨Nat.zero_le _, Nat.zero_le _⟩ ?_
            exact ret_PI C0 hT dX11_between_123
          · have hT := hT_pos c_43 hT
            refine lv_bipush (v := (-2 : Int32)) hx hb dX11_between_46 (by decide) ?_
            exact ret_PI C0 hT dX11_between_48
        · have hT := hT_neg c_34 hT
          refine lv_iconst (v := (-1 : Int32)) hx hb dX11_between_37 (by decide) ?_
          exact ret_PI C0 hT dX11_between_38
theorem dX11_measure_0 : decode cX11_measure 0 = .ok (.aload_n 0, 1) := by decide +kernel
theorem dX11_measure_1 : decode cX11_measure 1 = .ok (.getfield 12, 3) := by decide +kernel
theorem dX11_measure_4 : decode cX11_measure 4 = .ok (.iload_n 2, 1) := by decide +kernel
theorem dX11_measure_5 : decode cX11_measure 5 = .ok (.invokevirtual 87, 3) := by decide +kernel
theorem dX11_measure_8 : decode cX11_measure 8 = .ok (.astore 6, 2) := by decide +kernel
theorem dX11_measure_10 : decode cX11_measure 10 = .ok (.aload_n 0, 1) := by decide +kernel
theorem dX11_measure_11 : decode cX11_measure 11 = .ok (.getfield 12, 3) := by decide +kernel
theorem dX11_measure_14 : decode cX11_measure 14 = .ok (.iload_n 1, 1) := by decide +kernel
theorem dX11_measure_15 : decode cX11_measure 15 = .ok (.invokevirtual 121, 3) := by decide +kernel
theorem dX11_measure_18 : decode cX11_measure 18 = .ok (.ifCond .eq 8, 3) := by decide +kernel
theorem dX11_measure_21 : decode cX11_measure 21 = .ok (.aload 6, 2) := by decide +kernel
theorem dX11_measure_23 : decode cX11_measure 23 = .ok (.ifnonnull 5, 3) := by decide +kernel
theorem dX11_measure_26 : decode cX11_measure 26 = .ok (.iconst (-1), 1) := by decide +kernel
theorem dX11_measure_27 : decode cX11_measure 27 = .ok (.ireturn, 1) := by decide +kernel
theorem dX11_measure_28 : decode cX11_measure 28 = .ok (.iload_n 3, 1) := by decide +kernel
theorem dX11_measure_29 : decode cX11_measure 29 = .ok (.invokestatic 138, 3) := by decide +kernel
theorem dX11_measure_32 : decode cX11_measure 32 = .ok (.ifCond .eq 15, 3) := by decide +kernel
theorem dX11_measure_35 : decode cX11_measure 35 = .ok (.iload 4, 2) := by decide +kernel
theorem dX11_measure_37 : decode cX11_measure 37 = .ok (.ifCond .lt 10, 3) := by decide +kernel
theorem dX11_measure_40 : decode cX11_measure 40 = .ok (.iload 4, 2) := by decide +kernel
theorem dX11_measure_42 : decode cX11_measure 42 = .ok (.bipush 59, 2) := by decide +kernel
theorem dX11_measure_44 : decode cX11_measure 44 = .ok (.if_icmp .le 6, 3) := by decide +kernel
theorem dX11_measure_47 : decode cX11_measure 47 = .ok (.bipush (-2), 2) := by decide +kernel
theorem dX11_measure_49 : decode cX11_measure 49 = .ok (.ireturn, 1) := by decide +kernel
theorem dX11_measure_50 : decode cX11_measure 50 = .ok (.aload_n 0, 1) := by decide +kernel
theorem dX11_measure_51 : decode cX11_measure 51 = .ok (.getfield 12, 3) := by decide +kernel
theorem dX11_measure_54 : decode cX11_measure 54 = .ok (.getfield 128, 3) := by decide +kernel
theorem dX11_measure_57 : decode cX11_measure 57 = .ok (.sipush 9900, 3) := by decide +kernel
theorem dX11_measure_60 : decode cX11_measure 60 = .ok (.if_icmp .le 6, 3) := by decide +kernel
theorem dX11_measure_63 : decode cX11_measure 63 = .ok (.bipush (-3), 2) := by decide +kernel
theorem dX11_measure_65 : decode cX11_measure 65 = .ok (.ireturn, 1) := by decide +kernel
theorem dX11_measure_66 : decode cX11_measure 66 = .ok (.aload_n 0, 1) := by decide +kernel
theorem dX11_measure_67 : decode cX11_measure 67 = .ok (.getfield 12, 3) := by decide +kernel
theorem dX11_measure_70 : decode cX11_measure 70 = .ok (.dup, 1) := by decide +kernel
theorem dX11_measure_71 : decode cX11_measure 71 = .ok (.getfield 128, 3) := by decide +kernel
theorem dX11_measure_74 : decode cX11_measure 74 = .ok (.iload_n 3, 1) := by decide +kernel
theorem dX11_measure_75 : decode cX11_measure 75 = .ok (.iadd, 1) := by decide +kernel
theorem dX11_measure_76 : decode cX11_measure 76 = .ok (.putfield 128, 3) := by decide +kernel
theorem dX11_measure_79 : decode cX11_measure 79 = .ok (.iload 5, 2) := by decide +kernel
theorem dX11_measure_81 : decode cX11_measure 81 = .ok (.ifCond .eq 8, 3) := by decide +kernel
theorem dX11_measure_84 : decode cX11_measure 84 = .ok (.iload 4, 2) := by decide +kernel
theorem dX11_measure_86 : decode cX11_measure 86 = .ok (.goto 6, 3) := by decide +kernel
theorem dX11_measure_89 : decode cX11_measure 89 = .ok (.iload 4, 2) := by decide +kernel
theorem dX11_measure_91 : decode cX11_measure 91 = .ok (.ineg, 1) := by decide +kernel
theorem dX11_measure_92 : decode cX11_measure 92 = .ok (.istore 7, 2) := by decide +kernel
theorem dX11_measure_94 : decode cX11_measure 94 = .ok (.aload_n 0, 1) := by decide +kernel
theorem dX11_measure_95 : decode cX11_measure 95 = .ok (.getfield 12, 3) := by decide +kernel
theorem dX11_measure_98 : decode cX11_measure 98 = .ok (.getfield 115, 3) := by decide +kernel
theorem dX11_measure_101 : decode cX11_measure 101 = .ok (.iload_n 1, 1) := by decide +kernel
theorem dX11_measure_102 : decode cX11_measure 102 = .ok (.iaload, 1) := by decide +kernel
theorem dX11_measure_103 : decode cX11_measure 103 = .ok (.iconst 0, 1) := by decide +kernel
theorem dX11_measure_104 : decode cX11_measure 104 = .ok (.aload_n 0, 1) := by decide +kernel
theorem dX11_measure_105 : decode cX11_measure 105 = .ok (.getfield 12, 3) := by decide +kernel
theorem dX11_measure_108 : decode cX11_measure 108 = .ok (.aload 6, 2) := by decide +kernel
theorem dX11_measure_110 : decode cX11_measure 110 = .ok (.iload_n 1, 1) := by decide +kernel
theorem dX11_measure_111 : decode cX11_measure 111 = .ok (.iload_n 3, 1) := by decide +kernel
theorem dX11_measure_112 : decode cX11_measure 112 = .ok (.invokevirtual 141, 3) := by decide +kernel
theorem dX11_measure_115 : decode cX11_measure 115 = .ok (.iload 7, 2) := by decide +kernel
theorem dX11_measure_117 : decode cX11_measure 117 = .ok (.iadd, 1) := by decide +kernel
theorem dX11_measure_118 : decode cX11_measure 118 = .ok (.invokestatic 145, 3) := by decide +kernel
theorem dX11_measure_121 : decode cX11_measure 121 = .ok (.invokestatic 145, 3) := by decide +kernel
theorem dX11_measure_124 : decode cX11_measure 124 = .ok (.istore 8, 2) := by decide +kernel
theorem dX11_measure_126 : decode cX11_measure 126 = .ok (.aload_n 0, 1) := by decide +kernel
theorem dX11_measure_127 : decode cX11_measure 127 = .ok (.getfield 12, 3) := by decide +kernel
theorem dX11_measure_130 : decode cX11_measure 130 = .ok (.getfield 118, 3) := by decide +kernel
theorem dX11_measure_133 : decode cX11_measure 133 = .ok (.iload_n 1, 1) := by decide +kernel
theorem dX11_measure_134 : decode cX11_measure 134 = .ok (.iaload, 1) := by decide +kernel
theorem dX11_measure_135 : decode cX11_measure 135 = .ok (.iconst 0, 1) := by decide +kernel
theorem dX11_measure_136 : decode cX11_measure 136 = .ok (.aload_n 0, 1) := by decide +kernel
theorem dX11_measure_137 : decode cX11_measure 137 = .ok (.getfield 12, 3) := by decide +kernel
theorem dX11_measure_140 : decode cX11_measure 140 = .ok (.aload 6, 2) := by decide +kernel
theorem dX11_measure_142 : decode cX11_measure 142 = .ok (.iload_n 1, 1) := by decide +kernel
theorem dX11_measure_143 : decode cX11_measure 143 = .ok (.iload_n 3, 1) := by decide +kernel
theorem dX11_measure_144 : decode cX11_measure 144 = .ok (.invokevirtual 151, 3) := by decide +kernel
theorem dX11_measure_147 : decode cX11_measure 147 = .ok (.iload 7, 2) := by decide +kernel
theorem dX11_measure_149 : decode cX11_measure 149 = .ok (.iadd, 1) := by decide +kernel
theorem dX11_measure_150 : decode cX11_measure 150 = .ok (.invokestatic 145, 3) := by decide +kernel
theorem dX11_measure_153 : decode cX11_measure 153 = .ok (.invokestatic 154, 3) := by decide +kernel
theorem dX11_measure_156 : decode cX11_measure 156 = .ok (.istore 9, 2) := by decide +kernel
theorem dX11_measure_158 : decode cX11_measure 158 = .ok (.iload 8, 2) := by decide +kernel
theorem dX11_measure_160 : decode cX11_measure 160 = .ok (.iload 9, 2) := by decide +kernel
theorem dX11_measure_162 : decode cX11_measure 162 = .ok (.if_icmp .le 6, 3) := by decide +kernel
theorem dX11_measure_165 : decode cX11_measure 165 = .ok (.bipush (-3), 2) := by decide +kernel
theorem dX11_measure_167 : decode cX11_measure 167 = .ok (.ireturn, 1) := by decide +kernel
theorem dX11_measure_168 : decode cX11_measure 168 = .ok (.aload_n 0, 1) := by decide +kernel
theorem dX11_measure_169 : decode cX11_measure 169 = .ok (.getfield 12, 3) := by decide +kernel
theorem dX11_measure_172 : decode cX11_measure 172 = .ok (.getfield 115, 3) := by decide +kernel
theorem dX11_measure_175 : decode cX11_measure 175 = .ok (.iload_n 1, 1) := by decide +kernel
theorem dX11_measure_176 : decode cX11_measure 176 = .ok (.iload 8, 2) := by decide +kernel
theorem dX11_measure_178 : decode cX11_measure 178 = .ok (.iastore, 1) := by decide +kernel
theorem dX11_measure_179 : decode cX11_measure 179 = .ok (.aload_n 0, 1) := by decide +kernel
theorem dX11_measure_180 : decode cX11_measure 180 = .ok (.getfield 12, 3) := by decide +kernel
theorem dX11_measure_183 : decode cX11_measure 183 = .ok (.getfield 118, 3) := by decide +kernel
theorem dX11_measure_186 : decode cX11_measure 186 = .ok (.iload_n 1, 1) := by decide +kernel
theorem dX11_measure_187 : decode cX11_measure 187 = .ok (.iload 9, 2) := by decide +kernel
theorem dX11_measure_189 : decode cX11_measure 189 = .ok (.iastore, 1) := by decide +kernel
theorem dX11_measure_190 : decode cX11_measure 190 = .ok (.aload_n 0, 1) := by decide +kernel
theorem dX11_measure_191 : decode cX11_measure 191 = .ok (.getfield 12, 3) := by decide +kernel
theorem dX11_measure_194 : decode cX11_measure 194 = .ok (.iload_n 1, 1) := by decide +kernel
theorem dX11_measure_195 : decode cX11_measure 195 = .ok (.invokevirtual 125, 3) := by decide +kernel
theorem dX11_measure_198 : decode cX11_measure 198 = .ok (.ireturn, 1) := by decide +kernel
def f_X11_measure (ρ : RR) (dt : Nat → Nat → Int32) (σ : St) (a1 : Int32) (a2 : Int32) (a3 : Int32) (a4 : Int32) (a5 : Int32) : Int32 × St := (if (f_X5_stickAt ρ σ a2) = none then (if (f_X5_isWall σ a1) = 0 then ((-1 : Int32), σ) else ((-1 : Int32), σ)) else (if (f_X5_isWall σ a1) = 0 then ((-1 : Int32), σ) else (if (f_X11_isTimes a3) = 0 then ((-2 : Int32), σ) else (if a4 < 0 then ((-2 : Int32), σ) else (if a4 ≤ (59 : Int32) then (if (σ 29 0) ≤ (9900 : Int32) then (if (if (σ 26 (ix a1)) < (if (0 : Int32) < ((f_X5_least ρ dt (up2 σ 29 0 ((σ 29 0) + a3)) (rf (f_X5_stickAt ρ σ a2)) a1 a3) + (if a5 = 0 then (-a4) else a4)) then ((f_X5_least ρ dt (up2 σ 29 0 ((σ 29 0) + a3)) (rf (f_X5_stickAt ρ σ a2)) a1 a3) + (if a5 = 0 then (-a4) else a4)) else (0 : Int32)) then (if (0 : Int32) < ((f_X5_least ρ dt (up2 σ 29 0 ((σ 29 0) + a3)) (rf (f_X5_stickAt ρ σ a2)) a1 a3) + (if a5 = 0 then (-a4) else a4)) then ((f_X5_least ρ dt (up2 σ 29 0 ((σ 29 0) + a3)) (rf (f_X5_stickAt ρ σ a2)) a1 a3) + (if a5 = 0 then (-a4) else a4)) else (0 : Int32)) else (σ 26 (ix a1))) ≤ (if (if (0 : Int32) < ((f_X5_most ρ dt (up2 σ 29 0 ((σ 29 0) + a3)) (rf (f_X5_stickAt ρ σ a2)) a1 a3) + (if a5 = 0 then (-a4) else a4)) then ((f_X5_most ρ dt (up2 σ 29 0 ((σ 29 0) + a3)) (rf (f_X5_stickAt ρ σ a2)) a1 a3) + (if a5 = 0 then (-a4) else a4)) else (0 : Int32)) < (σ 27 (ix a1)) then (if (0 : Int32) < ((f_X5_most ρ dt (up2 σ 29 0 ((σ 29 0) + a3)) (rf (f_X5_stickAt ρ σ a2)) a1 a3) + (if a5 = 0 then (-a4) else a4)) then ((f_X5_most ρ dt (up2 σ 29 0 ((σ 29 0) + a3)) (rf (f_X5_stickAt ρ σ a2)) a1 a3) + (if a5 = 0 then (-a4) else a4)) else (0 : Int32)) else (σ 27 (ix a1))) then ((f_X5_gap (up2 (up2 σ 26 (ix a1) (if (σ 26 (ix a1)) < (if (0 : Int32) < ((f_X5_least ρ dt (up2 σ 29 0 ((σ 29 0) + a3)) (rf (f_X5_stickAt ρ σ a2)) a1 a3) + (if a5 = 0 then (-a4) else a4)) then ((f_X5_least ρ dt (up2 σ 29 0 ((σ 29 0) + a3)) (rf (f_X5_stickAt ρ σ a2)) a1 a3) + (if a5 = 0 then (-a4) else a4)) else (0 : Int32)) then (if (0 : Int32) < ((f_X5_least ρ dt (up2 σ 29 0 ((σ 29 0) + a3)) (rf (f_X5_stickAt ρ σ a2)) a1 a3) + (if a5 = 0 then (-a4) else a4)) then ((f_X5_least ρ dt (up2 σ 29 0 ((σ 29 0) + a3)) (rf (f_X5_stickAt ρ σ a2)) a1 a3) + (if a5 = 0 then (-a4) else a4)) else (0 : Int32)) else (σ 26 (ix a1)))) 27 (ix a1) (if (if (0 : Int32) < ((f_X5_most ρ dt (up2 σ 29 0 ((σ 29 0) + a3)) (rf (f_X5_stickAt ρ σ a2)) a1 a3) + (if a5 = 0 then (-a4) else a4)) then ((f_X5_most ρ dt (up2 σ 29 0 ((σ 29 0) + a3)) (rf (f_X5_stickAt ρ σ a2)) a1 a3) + (if a5 = 0 then (-a4) else a4)) else (0 : Int32)) < (σ 27 (ix a1)) then (if (0 : Int32) < ((f_X5_most ρ dt (up2 σ 29 0 ((σ 29 0) + a3)) (rf (f_X5_stickAt ρ σ a2)) a1 a3) + (if a5 = 0 then (-a4) else a4)) then ((f_X5_most ρ dt (up2 σ 29 0 ((σ 29 0) + a3)) (rf (f_X5_stickAt ρ σ a2)) a1 a3) + (if a5 = 0 then (-a4) else a4)) else (0 : Int32)) else (σ 27 (ix a1)))) a1), (up2 (up2 (up2 σ 29 0 ((σ 29 0) + a3)) 26 (ix a1) (if (σ 26 (ix a1)) < (if (0 : Int32) < ((f_X5_least ρ dt (up2 σ 29 0 ((σ 29 0) + a3)) (rf (f_X5_stickAt ρ σ a2)) a1 a3) + (if a5 = 0 then (-a4) else a4)) then ((f_X5_least ρ dt (up2 σ 29 0 ((σ 29 0) + a3)) (rf (f_X5_stickAt ρ σ a2)) a1 a3) + (if a5 = 0 then (-a4) else a4)) else (0 : Int32)) then (if (0 : Int32) < ((f_X5_least ρ dt (up2 σ 29 0 ((σ 29 0) + a3)) (rf (f_X5_stickAt ρ σ a2)) a1 a3) + (if a5 = 0 then (-a4) else a4)) then ((f_X5_least ρ dt (up2 σ 29 0 ((σ 29 0) + a3)) (rf (f_X5_stickAt ρ σ a2)) a1 a3) + (if a5 = 0 then (-a4) else a4)) else (0 : Int32)) else (σ 26 (ix a1)))) 27 (ix a1) (if (if (0 : Int32) < ((f_X5_most ρ dt (up2 σ 29 0 ((σ 29 0) + a3)) (rf (f_X5_stickAt ρ σ a2)) a1 a3) + (if a5 = 0 then (-a4) else a4)) then ((f_X5_most ρ dt (up2 σ 29 0 ((σ 29 0) + a3)) (rf (f_X5_stickAt ρ σ a2)) a1 a3) + (if a5 = 0 then (-a4) else a4)) else (0 : Int32)) < (σ 27 (ix a1)) then (if (0 : Int32) < ((f_X5_most ρ dt (up2 σ 29 0 ((σ 29 0) + a3)) (rf (f_X5_stickAt ρ σ a2)) a1 a3) + (if a5 = 0 then (-a4) else a4)) then ((f_X5_most ρ dt (up2 σ 29 0 ((σ 29 0) + a3)) (rf (f_X5_stickAt ρ σ a2)) a1 a3) + (if a5 = 0 then (-a4) else a4)) else (0 : Int32)) else (σ 27 (ix a1))))) else ((-3 : Int32), (up2 σ 29 0 ((σ 29 0) + a3)))) else ((-3 : Int32), σ)) else ((-2 : Int32), σ))))))
set_option maxHeartbeats 600000 in
set_option maxRecDepth 100000 in
theorem k_X11_measure (l : Launch) (g : GG) (ρ : RR) (dt : Nat → Nat → Int32) (σ : St) (a1 : Int32) (a2 : Int32) (a3 : Int32) (a4 : Int32) (a5 : Int32) (hX : IX σ) : MI l yX11_measure (wsF yX11_measure cX11_measure 10 (some .int)) { frames := 4, cells := 0, slots := 0, locals := 102 } [.ref (g.2.2 100), .int (a1), .int (a2), .int (a3), .int (a4), .int (a5)] g (xW g ρ) (XB g ρ dt) σ (f_X11_measure ρ dt σ a1 a2 a3 a4 a5) := by
  refine start_MI (by decide) (Nat.le_of_ble_eq_true rfl) ?_
  intro p e s m args below meth c C0 hK hB hC ls hl
  generalize hAe : aA ((xW g ρ) σ) = A at hC ⊢
  have hA : ∀ q, A q → q ∈ adrs (xW g (fun _ _ => none) (fun _ _ => 0)) := fun q h => by rw [← hAe] at h; exact h
  obtain ⟨hx, hb, hr, hml, hown, hts, hlocks⟩ := id C0
  have hl : lv_has ls 10 [(0, .ref (g.2.2 100)), (1, .int (a1)), (2, .int (a2)), (3, .int (a3)), (4, .int (a4)), (5, .int (a5))] := hl
  generalize hT : (f_X11_measure ρ dt σ a1 a2 a3 a4 a5) = tgt
  suffices key : ∀ (H : Heap) (locs : List Loc), WC g (xW g ρ) A s.heap σ H locs → W p l e { frames := 4, cells := 0, slots := 0, locals := 102 } s m args below meth c H locs 0 0 (QMI below args s g (xW g ρ) A tgt) (F0 m 0 ls []) from key _ _ hC
  intro H locs hC
  unfold f_X11_measure at hT
  obtain ⟨⟨j1, j1'⟩, ⟨j3, j3'⟩, ⟨j5, j5'⟩, ⟨j8, j8'⟩, ⟨j9, j9'⟩, ⟨j12, j12'⟩, ⟨j14, j14'⟩, ⟨j17, j17'⟩, j81, jW⟩ := id hX
  refine lv_aload_n hx hb dX11_measure_0 rfl (lv_at hl 0 rfl) ?_
  refine x_get (σ := σ) (v := .ref (g.2.2 101)) (fs := xF0 g ρ σ) 11 0 C0 uw_11 dc_11 hK hC.1 rfl rfl 0 (by decide) rfl w_229 dX11_measure_1 ?_
  refine lv_iload_n hx hb dX11_measure_4 rfl (lv_at hl 2 rfl) ?_
  refine x_sa (σ := σ) (ρ := ρ) (dt := dt) (rest := []) C0 hK hC.1 (hC.2.1.weaken (fun _ _ _ _ => trivial)) (XH.wa hB hA hC) cf_X5_stickAt w_586 (k_X5_stickAt l g ρ dt σ a2 hX) (F := (f_X5_stickAt ρ σ a2)) ⟨by decide, by decide⟩ hl.1 (Nat.le_of_ble_eq_true rfl) dX11_measure_5 ?_
  by_cases c_5 : (f_X5_stickAt ρ σ a2) = none
  · have hT := hT_pos c_5 hT
    rw [va_rf_none c_5]
    refine lv_astoreN (lv' := [(6, .null), (0, .ref (g.2.2 100)), (1, .int (a1)), (2, .int (a2)), (3, .int (a3)), (4, .int (a4)), (5, .int (a5))]) hx hb dX11_measure_8 hl (by decide) rfl (fun ls hl => ?_)
    refine lv_aload_n hx hb dX11_measure_10 rfl (lv_at hl 1 rfl) ?_
    refine x_get (σ := σ) (v := .ref (g.2.2 101)) (fs := xF0 g ρ σ) 11 0 C0 uw_11 dc_11 hK hC.1 rfl rfl 0 (by decide) rfl w_229 dX11_measure_11 ?_
    refine lv_iload_n hx hb dX11_measure_14 rfl (lv_at hl 2 rfl) ?_
    refine x_cn (rest := []) (As := [.int (a1)]) (σ := σ) (ρ := ρ) (dt := dt) (T := TX5) (N := 18) (fs := xF1 g ρ σ) 5 1 rfl rfl C0 hK hC.1 (hC.2.1.weaken (fun _ _ _ _ => trivial)) (XH.wa hB hA hC) cf_X5_isWall w_615 (k_X5_isWall l g ρ dt σ a1 ) ⟨by decide, by decide⟩ hl.1 rfl rfl (Nat.le_of_ble_eq_true rfl) dX11_measure_15 ⟨Nat.zero_le _, Nat.zero_le _⟩ ?_
    refine lv_if_eq (tgt := 26) hx hb dX11_measure_18 (by decide) (fun c_18 => ?_) (fun c_18 => ?_)
    · have hT := hT_pos c_18 hT
      refine lv_iconst (v := (-1 : Int32)) hx hb dX11_measure_26 (by decide) ?_
      exact ret_MI C0 hC hT dX11_measure_27
    · have hT := hT_neg c_18 hT
      refine lv_aloadN hx hb dX11_measure_21 (lv_at hl 0 rfl) ?_
      refine lv_ifnonnullN hx hb dX11_measure_23 ?_
      refine lv_iconst (v := (-1 : Int32)) hx hb dX11_measure_26 (by decide) ?_
      exact ret_MI C0 hC hT dX11_measure_27
  · have hT := hT_neg c_5 hT
    rw [va_rf_some c_5]
    have s_5 := sa_in c_5
    refine lv_astore (lv' := [(6, .ref ((rf (f_X5_stickAt ρ σ a2)))), (0, .ref (g.2.2 100)), (1, .int (a1)), (2, .int (a2)), (3, .int (a3)), (4, .int (a4)), (5, .int (a5))]) hx hb dX11_measure_8 hl (by decide) rfl (fun ls hl => ?_)
    refine lv_aload_n hx hb dX11_measure_10 rfl (lv_at hl 1 rfl) ?_
    refine x_get (σ := σ) (v := .ref (g.2.2 101)) (fs := xF0 g ρ σ) 11 0 C0 uw_11 dc_11 hK hC.1 rfl rfl 0 (by decide) rfl w_229 dX11_measure_11 ?_
    refine lv_iload_n hx hb dX11_measure_14 rfl (lv_at hl 2 rfl) ?_
    refine x_cn (rest := []) (As := [.int (a1)]) (σ := σ) (ρ := ρ) (dt := dt) (T := TX5) (N := 18) (fs := xF1 g ρ σ) 5 1 rfl rfl C0 hK hC.1 (hC.2.1.weaken (fun _ _ _ _ => trivial)) (XH.wa hB hA hC) cf_X5_isWall w_615 (k_X5_isWall l g ρ dt σ a1 ) ⟨by decide, by decide⟩ hl.1 rfl rfl (Nat.le_of_ble_eq_true rfl) dX11_measure_15 ⟨Nat.zero_le _, Nat.zero_le _⟩ ?_
    refine lv_if_eq (tgt := 26) hx hb dX11_measure_18 (by decide) (fun c_18 => ?_) (fun c_18 => ?_)
    · have hT := hT_pos c_18 hT
      refine lv_iconst (v := (-1 : Int32)) hx hb dX11_measure_26 (by decide) ?_
      exact ret_MI C0 hC hT dX11_measure_27
    · have hT := hT_neg c_18 hT
      refine lv_aload hx hb dX11_measure_21 (lv_at hl 0 rfl) ?_
      refine lv_ifnonnull (tgt := 28) hx hb dX11_measure_23 (by decide) ?_
      refine lv_iload_n hx hb dX11_measure_28 rfl (lv_at hl 4 rfl) ?_
      refine s_ci (rest := []) (As := [.int (a3)]) C0 cf_X11_isTimes w_643 (k_X11_isTimes l a3 ) ⟨by decide, by decide⟩ hl.1 rfl rfl (Nat.le_of_ble_eq_true rfl) dX11_measure_29 ⟨Nat.zero_le _, Nat.zero_le _⟩ ?_
      refine lv_if_eq (tgt := 47) hx hb dX11_measure_32 (by decide) (fun c_32 => ?_) (fun c_32 => ?_)
      · have hT := hT_pos c_32 hT
        refine lv_bipush (v := (-2 : Int32)) hx hb dX11_measure_47 (by decide) ?_
        exact ret_MI C0 hC hT dX11_measure_49
      · have hT := hT_neg c_32 hT
        refine lv_iload hx hb dX11_measure_35 (lv_at hl 5 rfl) ?_
        refine lv_if_lt (tgt := 47) hx hb dX11_measure_37 (by decide) (fun c_37 => ?_) (fun c_37 => ?_)
        · have hT := hT_pos c_37 hT
          refine lv_bipush (v := (-2 : Int32)) hx hb dX11_measure_47 (by decide) ?_
          exact ret_MI C0 hC hT dX11_measure_49
        · have hT := hT_neg c_37 hT
          refine lv_iload hx hb dX11_measure_40 (lv_at hl 5 rfl) ?_
          refine lv_bipush (v := (59 : Int32)) hx hb dX11_measure_42 (by decide) ?_
          refine lv_icmp_le (tgt := 50) hx hb dX11_measure_44 (by decide) (fun c_44 => ?_) (fun c_44 => ?_)
          · have hT := hT_pos c_44 hT
            refine lv_aload_n hx hb dX11_measure_50 rfl (lv_at hl 1 rfl) ?_
            refine x_get (σ := σ) (v := .ref (g.2.2 101)) (fs := xF0 g ρ σ) 11 0 C0 uw_11 dc_11 hK hC.1 rfl rfl 0 (by decide) rfl w_229 dX11_measure_51 ?_
            refine x_getN (σ := σ) (v := .int ((σ 29 0))) (fs := xF1 g ρ σ) 5 1 C0 uw_5 dc_5 hK hC.1 rfl rfl 9 (by decide) rfl w_127 dX11_measure_54 ?_
            refine lv_sipush (v := (9900 : Int32)) hx hb dX11_measure_57 (by decide) ?_
            refine lv_icmp_le (tgt := 66) hx hb dX11_measure_60 (by decide) (fun c_60 => ?_) (fun c_60 => ?_)
            · have hT := hT_pos c_60 hT
              refine lv_aload_n hx hb dX11_measure_66 rfl (lv_at hl 1 rfl) ?_
              refine x_get (σ := σ) (v := .ref (g.2.2 101)) (fs := xF0 g ρ σ) 11 0 C0 uw_11 dc_11 hK hC.1 rfl rfl 0 (by decide) rfl w_229 dX11_measure_67 ?_
              refine lv_dup hx hb dX11_measure_70 rfl ?_
              refine x_getN (σ := σ) (v := .int ((σ 29 0))) (fs := xF1 g ρ σ) 5 1 C0 uw_5 dc_5 hK hC.1 rfl rfl 9 (by decide) rfl w_127 dX11_measure_71 ?_
              refine lv_iload_n hx hb dX11_measure_74 rfl (lv_at hl 4 rfl) ?_
              refine lv_iadd hx hb dX11_measure_75 ?_
              refine x_putN (σ := σ) (ty := .int) (fs := xF1 g ρ σ) 5 1 C0 uw_5 dc_5 tyX5 tyX5_ok nmX5 hK hC rfl rfl 9 (by decide) rfl rfl rfl rfl (Nat.le_of_ble_eq_true rfl) (xs_29 g ρ _ _) w_127 dX11_measure_76 (fun H locs hC => ?_)
              refine lv_iload hx hb dX11_measure_79 (lv_at hl 6 rfl) ?_
              have J81 : ∀ v : Int32, v = (if a5 = 0 then (-a4) else a4) → W p l e { frames := 4, cells := 0, slots := 0, locals := 102 } s m args below meth c H locs 0 0 (QMI below args s g (xW g ρ) A tgt) (F0 m 92 ls [.int (v)]) := by
                intro v ev
                subst ev
                refine lv_istore (lv' := [(7, .int ((if a5 = 0 then (-a4) else a4))), (6, .ref ((rf (f_X5_stickAt ρ σ a2)))), (0, .ref (g.2.2 100)), (1, .int (a1)), (2, .int (a2)), (3, .int (a3)), (4, .int (a4)), (5, .int (a5))]) hx hb dX11_measure_92 hl (by decide) rfl (fun ls hl => ?_)
                refine lv_aload_n hx hb dX11_measure_94 rfl (lv_at hl 2 rfl) ?_
                refine x_get (σ := (up2 σ 29 0 ((σ 29 0) + a3))) (v := .ref (g.2.2 101)) (fs := xF0 g ρ (up2 σ 29 0 ((σ 29 0) + a3))) 11 0 C0 uw_11 dc_11 hK hC.1 rfl rfl 0 (by decide) rfl w_229 dX11_measure_95 ?_
                refine x_getN (σ := (up2 σ 29 0 ((σ 29 0) + a3))) (v := .ref (g.2.2 26)) (fs := xF1 g ρ (up2 σ 29 0 ((σ 29 0) + a3))) 5 1 C0 uw_5 dc_5 hK hC.1 rfl rfl 6 (by decide) rfl w_121 dX11_measure_98 ?_
                refine lv_iload_n hx hb dX11_measure_101 rfl (lv_at hl 3 rfl) ?_
                have o_102 : vp_in a1 6 := by
                  have : ((0 : Int32)).toInt = 0 := by decide
                  have : ((59 : Int32)).toInt = 59 := by decide
                  have : ((9900 : Int32)).toInt = 9900 := by decide
                  have := xw_ne c_18
                  have := mt ti_eq.mpr c_32
                  have := mt ti_lt.mpr c_37
                  have := ti_le.mp c_44
                  have := ti_le.mp c_60
                  exact vin (by omega) (by omega)
                refine x_ald (σ := (up2 σ 29 0 ((σ 29 0) + a3))) C0 hK hC.1 11 26 6 rfl o_102 (ix a1) rfl dX11_measure_102 ?_
                refine lv_iconst (v := (0 : Int32)) hx hb dX11_measure_103 (by decide) ?_
                refine lv_aload_n hx hb dX11_measure_104 rfl (lv_at hl 2 rfl) ?_
                refine x_get (σ := (up2 σ 29 0 ((σ 29 0) + a3))) (v := .ref (g.2.2 101)) (fs := xF0 g ρ (up2 σ 29 0 ((σ 29 0) + a3))) 11 0 C0 uw_11 dc_11 hK hC.1 rfl rfl 0 (by decide) rfl w_229 dX11_measure_105 ?_
                refine lv_aload hx hb dX11_measure_108 (lv_at hl 1 rfl) ?_
                refine lv_iload_n hx hb dX11_measure_110 rfl (lv_at hl 3 rfl) ?_
                refine lv_iload_n hx hb dX11_measure_111 rfl (lv_at hl 5 rfl) ?_
                refine x_cn (rest := [.int ((0 : Int32)), .int ((σ 26 (ix a1)))]) (As := [.ref ((rf (f_X5_stickAt ρ σ a2))), .int (a1), .int (a3)]) (σ := (up2 σ 29 0 ((σ 29 0) + a3))) (ρ := ρ) (dt := dt) (T := TX5) (N := 18) (fs := xF1 g ρ (up2 σ 29 0 ((σ 29 0) + a3))) 5 1 rfl rfl C0 hK hC.1 (hC.2.1.weaken (fun _ _ _ _ => trivial)) (XH.wa hB hA hC) cf_X5_least w_646 (k_X5_least l g ρ dt (up2 σ 29 0 ((σ 29 0) + a3)) (rf (f_X5_stickAt ρ σ a2)) a1 a3 ⟨_, (sa_some c_5)⟩) ⟨by decide, by decide⟩ hl.1 rfl rfl (Nat.le_of_ble_eq_true rfl) dX11_measure_112 ⟨Nat.zero_le _, Nat.zero_le _⟩ ?_
                refine lv_iload hx hb dX11_measure_115 (lv_at hl 0 rfl) ?_
                refine lv_iadd hx hb dX11_measure_117 ?_
                refine va_mmax hx hb (hml.trans hl.1.symm) C0.2.2.2.2.1 (C0.2.2.2.2.2.1 _ w_704) (C0.2.2.2.2.2.1 _ w_376) (C0.2.2.2.2.2.1 _ w_80) (C0.2.2.2.2.2.1 _ w_377) (by decide) (Nat.le_of_ble_eq_true rfl) (Nat.zero_le _) (Nat.zero_le _) dX11_measure_118 ?_
                refine va_mmax hx hb (hml.trans hl.1.symm) C0.2.2.2.2.1 (C0.2.2.2.2.2.1 _ w_704) (C0.2.2.2.2.2.1 _ w_376) (C0.2.2.2.2.2.1 _ w_80) (C0.2.2.2.2.2.1 _ w_377) (by decide) (Nat.le_of_ble_eq_true rfl) (Nat.zero_le _) (Nat.zero_le _) dX11_measure_121 ?_
                refine lv_istore (lv' := [(8, .int ((if (σ 26 (ix a1)) < (if (0 : Int32) < ((f_X5_least ρ dt (up2 σ 29 0 ((σ 29 0) + a3)) (rf (f_X5_stickAt ρ σ a2)) a1 a3) + (if a5 = 0 then (-a4) else a4)) then ((f_X5_least ρ dt (up2 σ 29 0 ((σ 29 0) + a3)) (rf (f_X5_stickAt ρ σ a2)) a1 a3) + (if a5 = 0 then (-a4) else a4)) else (0 : Int32)) then (if (0 : Int32) < ((f_X5_least ρ dt (up2 σ 29 0 ((σ 29 0) + a3)) (rf (f_X5_stickAt ρ σ a2)) a1 a3) + (if a5 = 0 then (-a4) else a4)) then ((f_X5_least ρ dt (up2 σ 29 0 ((σ 29 0) + a3)) (rf (f_X5_stickAt ρ σ a2)) a1 a3) + (if a5 = 0 then (-a4) else a4)) else (0 : Int32)) else (σ 26 (ix a1))))), (7, .int ((if a5 = 0 then (-a4) else a4))), (6, .ref ((rf (f_X5_stickAt ρ σ a2)))), (0, .ref (g.2.2 100)), (1, .int (a1)), (2, .int (a2)), (3, .int (a3)), (4, .int (a4)), (5, .int (a5))]) hx hb dX11_measure_124 hl (by decide) rfl (fun ls hl => ?_)
                refine lv_aload_n hx hb dX11_measure_126 rfl (lv_at hl 3 rfl) ?_
                refine x_get (σ := (up2 σ 29 0 ((σ 29 0) + a3))) (v := .ref (g.2.2 101)) (fs := xF0 g ρ (up2 σ 29 0 ((σ 29 0) + a3))) 11 0 C0 uw_11 dc_11 hK hC.1 rfl rfl 0 (by decide) rfl w_229 dX11_measure_127 ?_
                refine x_getN (σ := (up2 σ 29 0 ((σ 29 0) + a3))) (v := .ref (g.2.2 27)) (fs := xF1 g ρ (up2 σ 29 0 ((σ 29 0) + a3))) 5 1 C0 uw_5 dc_5 hK hC.1 rfl rfl 7 (by decide) rfl w_123 dX11_measure_130 ?_
                refine lv_iload_n hx hb dX11_measure_133 rfl (lv_at hl 4 rfl) ?_
                have o_134 : vp_in a1 6 := by
                  have : ((0 : Int32)).toInt = 0 := by decide
                  have : ((59 : Int32)).toInt = 59 := by decide
                  have : ((9900 : Int32)).toInt = 9900 := by decide
                  have := xw_ne c_18
                  have := mt ti_eq.mpr c_32
                  have := mt ti_lt.mpr c_37
                  have := ti_le.mp c_44
                  have := ti_le.mp c_60
                  exact vin (by omega) (by omega)
                refine x_ald (σ := (up2 σ 29 0 ((σ 29 0) + a3))) C0 hK hC.1 12 27 6 rfl o_134 (ix a1) rfl dX11_measure_134 ?_
                refine lv_iconst (v := (0 : Int32)) hx hb dX11_measure_135 (by decide) ?_
                refine lv_aload_n hx hb dX11_measure_136 rfl (lv_at hl 3 rfl) ?_
                refine x_get (σ := (up2 σ 29 0 ((σ 29 0) + a3))) (v := .ref (g.2.2 101)) (fs := xF0 g ρ (up2 σ 29 0 ((σ 29 0) + a3))) 11 0 C0 uw_11 dc_11 hK hC.1 rfl rfl 0 (by decide) rfl w_229 dX11_measure_137 ?_
                refine lv_aload hx hb dX11_measure_140 (lv_at hl 2 rfl) ?_
                refine lv_iload_n hx hb dX11_measure_142 rfl (lv_at hl 4 rfl) ?_
                refine lv_iload_n hx hb dX11_measure_143 rfl (lv_at hl 6 rfl) ?_
                refine x_cn (rest := [.int ((0 : Int32)), .int ((σ 27 (ix a1)))]) (As := [.ref ((rf (f_X5_stickAt ρ σ a2))), .int (a1), .int (a3)]) (σ := (up2 σ 29 0 ((σ 29 0) + a3))) (ρ := ρ) (dt := dt) (T := TX5) (N := 18) (fs := xF1 g ρ (up2 σ 29 0 ((σ 29 0) + a3))) 5 1 rfl rfl C0 hK hC.1 (hC.2.1.weaken (fun _ _ _ _ => trivial)) (XH.wa hB hA hC) cf_X5_most w_705 (k_X5_most l g ρ dt (up2 σ 29 0 ((σ 29 0) + a3)) (rf (f_X5_stickAt ρ σ a2)) a1 a3 ⟨_, (sa_some c_5)⟩) ⟨by decide, by decide⟩ hl.1 rfl rfl (Nat.le_of_ble_eq_true rfl) dX11_measure_144 ⟨Nat.zero_le _, Nat.zero_le _⟩ ?_
                refine lv_iload hx hb dX11_measure_147 (lv_at hl 1 rfl) ?_
                refine lv_iadd hx hb dX11_measure_149 ?_
                refine va_mmax hx hb (hml.trans hl.1.symm) C0.2.2.2.2.1 (C0.2.2.2.2.2.1 _ w_704) (C0.2.2.2.2.2.1 _ w_376) (C0.2.2.2.2.2.1 _ w_80) (C0.2.2.2.2.2.1 _ w_377) (by decide) (Nat.le_of_ble_eq_true rfl) (Nat.zero_le _) (Nat.zero_le _) dX11_measure_150 ?_
                refine va_mmin hx hb (hml.trans hl.1.symm) C0.2.2.2.2.1 (C0.2.2.2.2.2.1 _ w_709) (C0.2.2.2.2.2.1 _ w_379) (C0.2.2.2.2.2.1 _ w_80) (C0.2.2.2.2.2.1 _ w_380) (by decide) (Nat.le_of_ble_eq_true rfl) (Nat.zero_le _) (Nat.zero_le _) dX11_measure_153 ?_
                refine lv_istore (lv' := [(9, .int ((if (if (0 : Int32) < ((f_X5_most ρ dt (up2 σ 29 0 ((σ 29 0) + a3)) (rf (f_X5_stickAt ρ σ a2)) a1 a3) + (if a5 = 0 then (-a4) else a4)) then ((f_X5_most ρ dt (up2 σ 29 0 ((σ 29 0) + a3)) (rf (f_X5_stickAt ρ σ a2)) a1 a3) + (if a5 = 0 then (-a4) else a4)) else (0 : Int32)) < (σ 27 (ix a1)) then (if (0 : Int32) < ((f_X5_most ρ dt (up2 σ 29 0 ((σ 29 0) + a3)) (rf (f_X5_stickAt ρ σ a2)) a1 a3) + (if a5 = 0 then (-a4) else a4)) then ((f_X5_most ρ dt (up2 σ 29 0 ((σ 29 0) + a3)) (rf (f_X5_stickAt ρ σ a2)) a1 a3) + (if a5 = 0 then (-a4) else a4)) else (0 : Int32)) else (σ 27 (ix a1))))), (8, .int ((if (σ 26 (ix a1)) < (if (0 : Int32) < ((f_X5_least ρ dt (up2 σ 29 0 ((σ 29 0) + a3)) (rf (f_X5_stickAt ρ σ a2)) a1 a3) + (if a5 = 0 then (-a4) else a4)) then ((f_X5_least ρ dt (up2 σ 29 0 ((σ 29 0) + a3)) (rf (f_X5_stickAt ρ σ a2)) a1 a3) + (if a5 = 0 then (-a4) else a4)) else (0 : Int32)) then (if (0 : Int32) < ((f_X5_least ρ dt (up2 σ 29 0 ((σ 29 0) + a3)) (rf (f_X5_stickAt ρ σ a2)) a1 a3) + (if a5 = 0 then (-a4) else a4)) then ((f_X5_least ρ dt (up2 σ 29 0 ((σ 29 0) + a3)) (rf (f_X5_stickAt ρ σ a2)) a1 a3) + (if a5 = 0 then (-a4) else a4)) else (0 : Int32)) else (σ 26 (ix a1))))), (7, .int ((if a5 = 0 then (-a4) else a4))), (6, .ref ((rf (f_X5_stickAt ρ σ a2)))), (0, .ref (g.2.2 100)), (1, .int (a1)), (2, .int (a2)), (3, .int (a3)), (4, .int (a4)), (5, .int (a5))]) hx hb dX11_measure_156 hl (by decide) rfl (fun ls hl => ?_)
                refine lv_iload hx hb dX11_measure_158 (lv_at hl 1 rfl) ?_
                refine lv_iload hx hb dX11_measure_160 (lv_at hl 0 rfl) ?_
                refine lv_icmp_le (tgt := 168) hx hb dX11_measure_162 (by decide) (fun c_162 => ?_) (fun c_162 => ?_)
                · have hT := hT_pos c_162 hT
                  refine lv_aload_n hx hb dX11_measure_168 rfl (lv_at hl 4 rfl) ?_
                  refine x_get (σ := (up2 σ 29 0 ((σ 29 0) + a3))) (v := .ref (g.2.2 101)) (fs := xF0 g ρ (up2 σ 29 0 ((σ 29 0) + a3))) 11 0 C0 uw_11 dc_11 hK hC.1 rfl rfl 0 (by decide) rfl w_229 dX11_measure_169 ?_
                  refine x_getN (σ := (up2 σ 29 0 ((σ 29 0) + a3))) (v := .ref (g.2.2 26)) (fs := xF1 g ρ (up2 σ 29 0 ((σ 29 0) + a3))) 5 1 C0 uw_5 dc_5 hK hC.1 rfl rfl 6 (by decide) rfl w_121 dX11_measure_172 ?_
                  refine lv_iload_n hx hb dX11_measure_175 rfl (lv_at hl 5 rfl) ?_
                  refine lv_iload hx hb dX11_measure_176 (lv_at hl 1 rfl) ?_
                  have o_178 : vp_in a1 6 := by
                    have : ((0 : Int32)).toInt = 0 := by decide
                    have : ((59 : Int32)).toInt = 59 := by decide
                    have : ((9900 : Int32)).toInt = 9900 := by decide
                    have := xw_ne c_18
                    have := mt ti_eq.mpr c_32
                    have := mt ti_lt.mpr c_37
                    have := ti_le.mp c_44
                    have := ti_le.mp c_60
                    have := ti_le.mp c_162
                    exact vin (by omega) (by omega)
                  refine x_ast (σ := (up2 σ 29 0 ((σ 29 0) + a3))) C0 hK hC 11 26 6 rfl (xs_26 g ρ _) o_178 (ix a1) rfl dX11_measure_178 (fun H locs hC => ?_)
                  refine lv_aload_n hx hb dX11_measure_179 rfl (lv_at hl 4 rfl) ?_
                  refine x_get (σ := (up2 (up2 σ 29 0 ((σ 29 0) + a3)) 26 (ix a1) (if (σ 26 (ix a1)) < (if (0 : Int32) < ((f_X5_least ρ dt (up2 σ 29 0 ((σ 29 0) + a3)) (rf (f_X5_stickAt ρ σ a2)) a1 a3) + (if a5 = 0 then (-a4) else a4)) then ((f_X5_least ρ dt (up2 σ 29 0 ((σ 29 0) + a3)) (rf (f_X5_stickAt ρ σ a2)) a1 a3) + (if a5 = 0 then (-a4) else a4)) else (0 : Int32)) then (if (0 : Int32) < ((f_X5_least ρ dt (up2 σ 29 0 ((σ 29 0) + a3)) (rf (f_X5_stickAt ρ σ a2)) a1 a3) + (if a5 = 0 then (-a4) else a4)) then ((f_X5_least ρ dt (up2 σ 29 0 ((σ 29 0) + a3)) (rf (f_X5_stickAt ρ σ a2)) a1 a3) + (if a5 = 0 then (-a4) else a4)) else (0 : Int32)) else (σ 26 (ix a1))))) (v := .ref (g.2.2 101)) (fs := xF0 g ρ (up2 (up2 σ 29 0 ((σ 29 0) + a3)) 26 (ix a1) (if (σ 26 (ix a1)) < (if (0 : Int32) < ((f_X5_least ρ dt (up2 σ 29 0 ((σ 29 0) + a3)) (rf (f_X5_stickAt ρ σ a2)) a1 a3) + (if a5 = 0 then (-a4) else a4)) then ((f_X5_least ρ dt (up2 σ 29 0 ((σ 29 0) + a3)) (rf (f_X5_stickAt ρ σ a2)) a1 a3) + (if a5 = 0 then (-a4) else a4)) else (0 : Int32)) then (if (0 : Int32) < ((f_X5_least ρ dt (up2 σ 29 0 ((σ 29 0) + a3)) (rf (f_X5_stickAt ρ σ a2)) a1 a3) + (if a5 = 0 then (-a4) else a4)) then ((f_X5_least ρ dt (up2 σ 29 0 ((σ 29 0) + a3)) (rf (f_X5_stickAt ρ σ a2)) a1 a3) + (if a5 = 0 then (-a4) else a4)) else (0 : Int32)) else (σ 26 (ix a1))))) 11 0 C0 uw_11 dc_11 hK hC.1 rfl rfl 0 (by decide) rfl w_229 dX11_measure_180 ?_
                  refine x_getN (σ := (up2 (up2 σ 29 0 ((σ 29 0) + a3)) 26 (ix a1) (if (σ 26 (ix a1)) < (if (0 : Int32) < ((f_X5_least ρ dt (up2 σ 29 0 ((σ 29 0) + a3)) (rf (f_X5_stickAt ρ σ a2)) a1 a3) + (if a5 = 0 then (-a4) else a4)) then ((f_X5_least ρ dt (up2 σ 29 0 ((σ 29 0) + a3)) (rf (f_X5_stickAt ρ σ a2)) a1 a3) + (if a5 = 0 then (-a4) else a4)) else (0 : Int32)) then (if (0 : Int32) < ((f_X5_least ρ dt (up2 σ 29 0 ((σ 29 0) + a3)) (rf (f_X5_stickAt ρ σ a2)) a1 a3) + (if a5 = 0 then (-a4) else a4)) then ((f_X5_least ρ dt (up2 σ 29 0 ((σ 29 0) + a3)) (rf (f_X5_stickAt ρ σ a2)) a1 a3) + (if a5 = 0 then (-a4) else a4)) else (0 : Int32)) else (σ 26 (ix a1))))) (v := .ref (g.2.2 27)) (fs := xF1 g ρ (up2 (up2 σ 29 0 ((σ 29 0) + a3)) 26 (ix a1) (if (σ 26 (ix a1)) < (if (0 : Int32) < ((f_X5_least ρ dt (up2 σ 29 0 ((σ 29 0) + a3)) (rf (f_X5_stickAt ρ σ a2)) a1 a3) + (if a5 = 0 then (-a4) else a4)) then ((f_X5_least ρ dt (up2 σ 29 0 ((σ 29 0) + a3)) (rf (f_X5_stickAt ρ σ a2)) a1 a3) + (if a5 = 0 then (-a4) else a4)) else (0 : Int32)) then (if (0 : Int32) < ((f_X5_least ρ dt (up2 σ 29 0 ((σ 29 0) + a3)) (rf (f_X5_stickAt ρ σ a2)) a1 a3) + (if a5 = 0 then (-a4) else a4)) then ((f_X5_least ρ dt (up2 σ 29 0 ((σ 29 0) + a3)) (rf (f_X5_stickAt ρ σ a2)) a1 a3) + (if a5 = 0 then (-a4) else a4)) else (0 : Int32)) else (σ 26 (ix a1))))) 5 1 C0 uw_5 dc_5 hK hC.1 rfl rfl 7 (by decide) rfl w_123 dX11_measure_183 ?_
                  refine lv_iload_n hx hb dX11_measure_186 rfl (lv_at hl 5 rfl) ?_
                  refine lv_iload hx hb dX11_measure_187 (lv_at hl 0 rfl) ?_
                  have o_189 : vp_in a1 6 := by
                    have : ((0 : Int32)).toInt = 0 := by decide
                    have : ((59 : Int32)).toInt = 59 := by decide
                    have : ((9900 : Int32)).toInt = 9900 := by decide
                    have := xw_ne c_18
                    have := mt ti_eq.mpr c_32
                    have := mt ti_lt.mpr c_37
                    have := ti_le.mp c_44
                    have := ti_le.mp c_60
                    have := ti_le.mp c_162
                    exact vin (by omega) (by omega)
                  refine x_ast (σ := (up2 (up2 σ 29 0 ((σ 29 0) + a3)) 26 (ix a1) (if (σ 26 (ix a1)) < (if (0 : Int32) < ((f_X5_least ρ dt (up2 σ 29 0 ((σ 29 0) + a3)) (rf (f_X5_stickAt ρ σ a2)) a1 a3) + (if a5 = 0 then (-a4) else a4)) then ((f_X5_least ρ dt (up2 σ 29 0 ((σ 29 0) + a3)) (rf (f_X5_stickAt ρ σ a2)) a1 a3) + (if a5 = 0 then (-a4) else a4)) else (0 : Int32)) then (if (0 : Int32) < ((f_X5_least ρ dt (up2 σ 29 0 ((σ 29 0) + a3)) (rf (f_X5_stickAt ρ σ a2)) a1 a3) + (if a5 = 0 then (-a4) else a4)) then ((f_X5_least ρ dt (up2 σ 29 0 ((σ 29 0) + a3)) (rf (f_X5_stickAt ρ σ a2)) a1 a3) + (if a5 = 0 then (-a4) else a4)) else (0 : Int32)) else (σ 26 (ix a1))))) C0 hK hC 12 27 6 rfl (xs_27 g ρ _) o_189 (ix a1) rfl dX11_measure_189 (fun H locs hC => ?_)
                  refine lv_aload_n hx hb dX11_measure_190 rfl (lv_at hl 4 rfl) ?_
                  refine x_get (σ := (up2 (up2 (up2 σ 29 0 ((σ 29 0) + a3)) 26 (ix a1) (if (σ 26 (ix a1)) < (if (0 : Int32) < ((f_X5_least ρ dt (up2 σ 29 0 ((σ 29 0) + a3)) (rf (f_X5_stickAt ρ σ a2)) a1 a3) + (if a5 = 0 then (-a4) else a4)) then ((f_X5_least ρ dt (up2 σ 29 0 ((σ 29 0) + a3)) (rf (f_X5_stickAt ρ σ a2)) a1 a3) + (if a5 = 0 then (-a4) else a4)) else (0 : Int32)) then (if (0 : Int32) < ((f_X5_least ρ dt (up2 σ 29 0 ((σ 29 0) + a3)) (rf (f_X5_stickAt ρ σ a2)) a1 a3) + (if a5 = 0 then (-a4) else a4)) then ((f_X5_least ρ dt (up2 σ 29 0 ((σ 29 0) + a3)) (rf (f_X5_stickAt ρ σ a2)) a1 a3) + (if a5 = 0 then (-a4) else a4)) else (0 : Int32)) else (σ 26 (ix a1)))) 27 (ix a1) (if (if (0 : Int32) < ((f_X5_most ρ dt (up2 σ 29 0 ((σ 29 0) + a3)) (rf (f_X5_stickAt ρ σ a2)) a1 a3) + (if a5 = 0 then (-a4) else a4)) then ((f_X5_most ρ dt (up2 σ 29 0 ((σ 29 0) + a3)) (rf (f_X5_stickAt ρ σ a2)) a1 a3) + (if a5 = 0 then (-a4) else a4)) else (0 : Int32)) < (σ 27 (ix a1)) then (if (0 : Int32) < ((f_X5_most ρ dt (up2 σ 29 0 ((σ 29 0) + a3)) (rf (f_X5_stickAt ρ σ a2)) a1 a3) + (if a5 = 0 then (-a4) else a4)) then ((f_X5_most ρ dt (up2 σ 29 0 ((σ 29 0) + a3)) (rf (f_X5_stickAt ρ σ a2)) a1 a3) + (if a5 = 0 then (-a4) else a4)) else (0 : Int32)) else (σ 27 (ix a1))))) (v := .ref (g.2.2 101)) (fs := xF0 g ρ (up2 (up2 (up2 σ 29 0 ((σ 29 0) + a3)) 26 (ix a1) (if (σ 26 (ix a1)) < (if (0 : Int32) < ((f_X5_least ρ dt (up2 σ 29 0 ((σ 29 0) + a3)) (rf (f_X5_stickAt ρ σ a2)) a1 a3) + (if a5 = 0 then (-a4) else a4)) then ((f_X5_least ρ dt (up2 σ 29 0 ((σ 29 0) + a3)) (rf (f_X5_stickAt ρ σ a2)) a1 a3) + (if a5 = 0 then (-a4) else a4)) else (0 : Int32)) then (if (0 : Int32) < ((f_X5_least ρ dt (up2 σ 29 0 ((σ 29 0) + a3)) (rf (f_X5_stickAt ρ σ a2)) a1 a3) + (if a5 = 0 then (-a4) else a4)) then ((f_X5_least ρ dt (up2 σ 29 0 ((σ 29 0) + a3)) (rf (f_X5_stickAt ρ σ a2)) a1 a3) + (if a5 = 0 then (-a4) else a4)) else (0 : Int32)) else (σ 26 (ix a1)))) 27 (ix a1) (if (if (0 : Int32) < ((f_X5_most ρ dt (up2 σ 29 0 ((σ 29 0) + a3)) (rf (f_X5_stickAt ρ σ a2)) a1 a3) + (if a5 = 0 then (-a4) else a4)) then ((f_X5_most ρ dt (up2 σ 29 0 ((σ 29 0) + a3)) (rf (f_X5_stickAt ρ σ a2)) a1 a3) + (if a5 = 0 then (-a4) else a4)) else (0 : Int32)) < (σ 27 (ix a1)) then (if (0 : Int32) < ((f_X5_most ρ dt (up2 σ 29 0 ((σ 29 0) + a3)) (rf (f_X5_stickAt ρ σ a2)) a1 a3) + (if a5 = 0 then (-a4) else a4)) then ((f_X5_most ρ dt (up2 σ 29 0 ((σ 29 0) + a3)) (rf (f_X5_stickAt ρ σ a2)) a1 a3) + (if a5 = 0 then (-a4) else a4)) else (0 : Int32)) else (σ 27 (ix a1))))) 11 0 C0 uw_11 dc_11 hK hC.1 rfl rfl 0 (by decide) rfl w_229 dX11_measure_191 ?_
                  refine lv_iload_n hx hb dX11_measure_194 rfl (lv_at hl 5 rfl) ?_
                  have q195_h1 : 0 ≤ a1.toInt := by
                    have : ((0 : Int32)).toInt = 0 := by decide
                    have : ((59 : Int32)).toInt = 59 := by decide
                    have : ((9900 : Int32)).toInt = 9900 := by decide
                    have := xw_ne c_18
                    have := mt ti_eq.mpr c_32
                    have := mt ti_lt.mpr c_37
                    have := ti_le.mp c_44
                    have := ti_le.mp c_60
                    have := ti_le.mp c_162
                    omega
                  have q195_h2 : a1.toInt < 6 := by
                    have : ((0 : Int32)).toInt = 0 := by decide
                    have : ((59 : Int32)).toInt = 59 := by decide
                    have : ((9900 : Int32)).toInt = 9900 := by decide
                    have := xw_ne c_18
                    have := mt ti_eq.mpr c_32
                    have := mt ti_lt.mpr c_37
                    have := ti_le.mp c_44
                    have := ti_le.mp c_60
                    have := ti_le.mp c_162
                    omega
                  refine x_cn (rest := []) (As := [.int (a1)]) (σ := (up2 (up2 (up2 σ 29 0 ((σ 29 0) + a3)) 26 (ix a1) (if (σ 26 (ix a1)) < (if (0 : Int32) < ((f_X5_least ρ dt (up2 σ 29 0 ((σ 29 0) + a3)) (rf (f_X5_stickAt ρ σ a2)) a1 a3) + (if a5 = 0 then (-a4) else a4)) then ((f_X5_least ρ dt (up2 σ 29 0 ((σ 29 0) + a3)) (rf (f_X5_stickAt ρ σ a2)) a1 a3) + (if a5 = 0 then (-a4) else a4)) else (0 : Int32)) then (if (0 : Int32) < ((f_X5_least ρ dt (up2 σ 29 0 ((σ 29 0) + a3)) (rf (f_X5_stickAt ρ σ a2)) a1 a3) + (if a5 = 0 then (-a4) else a4)) then ((f_X5_least ρ dt (up2 σ 29 0 ((σ 29 0) + a3)) (rf (f_X5_stickAt ρ σ a2)) a1 a3) + (if a5 = 0 then (-a4) else a4)) else (0 : Int32)) else (σ 26 (ix a1)))) 27 (ix a1) (if (if (0 : Int32) < ((f_X5_most ρ dt (up2 σ 29 0 ((σ 29 0) + a3)) (rf (f_X5_stickAt ρ σ a2)) a1 a3) + (if a5 = 0 then (-a4) else a4)) then ((f_X5_most ρ dt (up2 σ 29 0 ((σ 29 0) + a3)) (rf (f_X5_stickAt ρ σ a2)) a1 a3) + (if a5 = 0 then (-a4) else a4)) else (0 : Int32)) < (σ 27 (ix a1)) then (if (0 : Int32) < ((f_X5_most ρ dt (up2 σ 29 0 ((σ 29 0) + a3)) (rf (f_X5_stickAt ρ σ a2)) a1 a3) + (if a5 = 0 then (-a4) else a4)) then ((f_X5_most ρ dt (up2 σ 29 0 ((σ 29 0) + a3)) (rf (f_X5_stickAt ρ σ a2)) a1 a3) + (if a5 = 0 then (-a4) else a4)) else (0 : Int32)) else (σ 27 (ix a1))))) (ρ := ρ) (dt := dt) (T := TX5) (N := 18) (fs := xF1 g ρ (up2 (up2 (up2 σ 29 0 ((σ 29 0) + a3)) 26 (ix a1) (if (σ 26 (ix a1)) < (if (0 : Int32) < ((f_X5_least ρ dt (up2 σ 29 0 ((σ 29 0) + a3)) (rf (f_X5_stickAt ρ σ a2)) a1 a3) + (if a5 = 0 then (-a4) else a4)) then ((f_X5_least ρ dt (up2 σ 29 0 ((σ 29 0) + a3)) (rf (f_X5_stickAt ρ σ a2)) a1 a3) + (if a5 = 0 then (-a4) else a4)) else (0 : Int32)) then (if (0 : Int32) < ((f_X5_least ρ dt (up2 σ 29 0 ((σ 29 0) + a3)) (rf (f_X5_stickAt ρ σ a2)) a1 a3) + (if a5 = 0 then (-a4) else a4)) then ((f_X5_least ρ dt (up2 σ 29 0 ((σ 29 0) + a3)) (rf (f_X5_stickAt ρ σ a2)) a1 a3) + (if a5 = 0 then (-a4) else a4)) else (0 : Int32)) else (σ 26 (ix a1)))) 27 (ix a1) (if (if (0 : Int32) < ((f_X5_most ρ dt (up2 σ 29 0 ((σ 29 0) + a3)) (rf (f_X5_stickAt ρ σ a2)) a1 a3) + (if a5 = 0 then (-a4) else a4)) then ((f_X5_most ρ dt (up2 σ 29 0 ((σ 29 0) + a3)) (rf (f_X5_stickAt ρ σ a2)) a1 a3) + (if a5 = 0 then (-a4) else a4)) else (0 : Int32)) < (σ 27 (ix a1)) then (if (0 : Int32) < ((f_X5_most ρ dt (up2 σ 29 0 ((σ 29 0) + a3)) (rf (f_X5_stickAt ρ σ a2)) a1 a3) + (if a5 = 0 then (-a4) else a4)) then ((f_X5_most ρ dt (up2 σ 29 0 ((σ 29 0) + a3)) (rf (f_X5_stickAt ρ σ a2)) a1 a3) + (if a5 = 0 then (-a4) else a4)) else (0 : Int32)) else (σ 27 (ix a1))))) (F := (f_X5_gap (up2 (up2 σ 26 (ix a1) (if (σ 26 (ix a1)) < (if (0 : Int32) < ((f_X5_least ρ dt (up2 σ 29 0 ((σ 29 0) + a3)) (rf (f_X5_stickAt ρ σ a2)) a1 a3) + (if a5 = 0 then (-a4) else a4)) then ((f_X5_least ρ dt (up2 σ 29 0 ((σ 29 0) + a3)) (rf (f_X5_stickAt ρ σ a2)) a1 a3) + (if a5 = 0 then (-a4) else a4)) else (0 : Int32)) then (if (0 : Int32) < ((f_X5_least ρ dt (up2 σ 29 0 ((σ 29 0) + a3)) (rf (f_X5_stickAt ρ σ a2)) a1 a3) + (if a5 = 0 then (-a4) else a4)) then ((f_X5_least ρ dt (up2 σ 29 0 ((σ 29 0) + a3)) (rf (f_X5_stickAt ρ σ a2)) a1 a3) + (if a5 = 0 then (-a4) else a4)) else (0 : Int32)) else (σ 26 (ix a1)))) 27 (ix a1) (if (if (0 : Int32) < ((f_X5_most ρ dt (up2 σ 29 0 ((σ 29 0) + a3)) (rf (f_X5_stickAt ρ σ a2)) a1 a3) + (if a5 = 0 then (-a4) else a4)) then ((f_X5_most ρ dt (up2 σ 29 0 ((σ 29 0) + a3)) (rf (f_X5_stickAt ρ σ a2)) a1 a3) + (if a5 = 0 then (-a4) else a4)) else (0 : Int32)) < (σ 27 (ix a1)) then (if (0 : Int32) < ((f_X5_most ρ dt (up2 σ 29 0 ((σ 29 0) + a3)) (rf (f_X5_stickAt ρ σ a2)) a1 a3) + (if a5 = 0 then (-a4) else a4)) then ((f_X5_most ρ dt (up2 σ 29 0 ((σ 29 0) + a3)) (rf (f_X5_stickAt ρ σ a2)) a1 a3) + (if a5 = 0 then (-a4) else a4)) else (0 : Int32)) else (σ 27 (ix a1)))) a1)) 5 1 rfl rfl C0 hK hC.1 (hC.2.1.weaken (fun _ _ _ _ => trivial)) (XH.wa hB hA hC) cf_X5_gap w_619 (k_X5_gap l g ρ dt (up2 (up2 (up2 σ 29 0 ((σ 29 0) + a3)) 26 (ix a1) (if (σ 26 (ix a1)) < (if (0 : Int32) < ((f_X5_least ρ dt (up2 σ 29 0 ((σ 29 0) + a3)) (rf (f_X5_stickAt ρ σ a2)) a1 a3) + (if a5 = 0 then (-a4) else a4)) then ((f_X5_least ρ dt (up2 σ 29 0 ((σ 29 0) + a3)) (rf (f_X5_stickAt ρ σ a2)) a1 a3) + (if a5 = 0 then (-a4) else a4)) else (0 : Int32)) then (if (0 : Int32) < ((f_X5_least ρ dt (up2 σ 29 0 ((σ 29 0) + a3)) (rf (f_X5_stickAt ρ σ a2)) a1 a3) + (if a5 = 0 then (-a4) else a4)) then ((f_X5_least ρ dt (up2 σ 29 0 ((σ 29 0) + a3)) (rf (f_X5_stickAt ρ σ a2)) a1 a3) + (if a5 = 0 then (-a4) else a4)) else (0 : Int32)) else (σ 26 (ix a1)))) 27 (ix a1) (if (if (0 : Int32) < ((f_X5_most ρ dt (up2 σ 29 0 ((σ 29 0) + a3)) (rf (f_X5_stickAt ρ σ a2)) a1 a3) + (if a5 = 0 then (-a4) else a4)) then ((f_X5_most ρ dt (up2 σ 29 0 ((σ 29 0) + a3)) (rf (f_X5_stickAt ρ σ a2)) a1 a3) + (if a5 = 0 then (-a4) else a4)) else (0 : Int32)) < (σ 27 (ix a1)) then (if (0 : Int32) < ((f_X5_most ρ dt (up2 σ 29 0 ((σ 29 0) + a3)) (rf (f_X5_stickAt ρ σ a2)) a1 a3) + (if a5 = 0 then (-a4) else a4)) then ((f_X5_most ρ dt (up2 σ 29 0 ((σ 29 0) + a3)) (rf (f_X5_stickAt ρ σ a2)) a1 a3) + (if a5 = 0 then (-a4) else a4)) else (0 : Int32)) else (σ 27 (ix a1)))) a1 q195_h1 q195_h2) ⟨by decide, by decide⟩ hl.1 rfl rfl (Nat.le_of_ble_eq_true rfl) dX11_measure_195 ⟨Nat.zero_le _, Nat.zero_le _⟩ ?_
                  exact ret_MI C0 hC hT dX11_measure_198
                · have hT := hT_neg c_162 hT
                  refine lv_bipush (v := (-3 : Int32)) hx hb dX11_measure_165 (by decide) ?_
                  exact ret_MI C0 hC hT dX11_measure_167
              refine lv_if_eq (tgt := 89) hx hb dX11_measure_81 (by decide) (fun c_81 => ?_) (fun c_81 => ?_)
              · refine lv_iload hx hb dX11_measure_89 (lv_at hl 5 rfl) ?_
                refine lv_ineg hx hb dX11_measure_91 ?_
                exact J81 _ (iv_pos c_81 rfl)
              · refine lv_iload hx hb dX11_measure_84 (lv_at hl 5 rfl) ?_
                refine lv_goto (tgt := 92) hx hb dX11_measure_86 (by decide) ?_
                exact J81 _ (iv_neg c_81 rfl)
            · have hT := hT_neg c_60 hT
              refine lv_bipush (v := (-3 : Int32)) hx hb dX11_measure_63 (by decide) ?_
              exact ret_MI C0 hC hT dX11_measure_65
          · have hT := hT_neg c_44 hT
            refine lv_bipush (v := (-2 : Int32)) hx hb dX11_measure_47 (by decide) ?_
            exact ret_MI C0 hC hT dX11_measure_49
