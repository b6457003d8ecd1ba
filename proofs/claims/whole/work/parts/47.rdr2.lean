
theorem s_cn {p : Program} {l : Launch} {e : Env} {R : Room} {s : State} {m : MethodId} {args : Array Value} {below : List Frame} {meth : Method} {c : Code} {H : Heap} {locs : List Loc} {cells slots : Nat} {Q : State → Prop} {cc : ByteArray} {own host : String} {nL pc idx : Nat} {ret0 : Option FieldType} {ls : Array Slot} {rest st0 : List Value} {y : MethodName} {cy : ByteArray} {maxL n : Nat} {ret : Option FieldType} {fr lo : Nat} {As : List Value} {F : Int32} (C0 : BC p s m args meth c cc own nL ret0) (hF : CG y cy maxL ret n) (hN : NW s) (hl : Cond.methodLinkNest own idx y host ∈ NB) (hM : PI l y (wsF y cy maxL ret) { frames := fr, cells := 0, slots := 0, locals := lo } As (fun _ => True) F) (hR : fr + 1 ≤ R.frames ∧ 8 + (maxL + 11) + lo ≤ R.locals) (hsz : ls.size = nL) (hst : st0 = As.reverse ++ rest) (hn : As.length = n) (hW : (rest.map fun v => v.category).sum ≤ 8) (hdg : decode cc pc = .ok (.invokestatic idx, 3)) (hf : cells ≤ R.cells ∧ slots ≤ R.slots) (kk : W p l e R s m args below meth c H locs cells slots Q (F0 m (pc + 3) ls (.int F :: rest))) : W p l e R s m args below meth c H locs cells slots Q (F0 m pc ls st0) :=
  aft_i (run_SN C0 hF hN hl hR hM ⟨SV.tt.blind, fun _ _ _ => ⟨rfl, trivial⟩⟩ hn hsz hst hW hdg hf) kk
/-- which word a clause begins with -/
def f_X1_wordOf (a0 : Int32) : Nat := if a0 = 98 then 2 else if a0 = 111 then 4 else if a0 = 115 then 3 else 5
theorem wo_lt (a0 : Int32) : f_X1_wordOf a0 < 6 := by
  unfold f_X1_wordOf
  (repeat' split) <;> decide
theorem dX1_wordOf_0 : decode cX1_wordOf 0 = .ok (.iload_n 0, 1) := by decide +kernel
theorem dX1_wordOf_1 : decode cX1_wordOf 1 = .ok (.lookupswitch 44 #[(98, 35), (111, 41), (115, 38)], 35) := by decide +kernel
theorem dX1_wordOf_36 : decode cX1_wordOf 36 = .ok (.ldc 76, 2) := by decide +kernel
theorem dX1_wordOf_38 : decode cX1_wordOf 38 = .ok (.areturn, 1) := by decide +kernel
theorem dX1_wordOf_39 : decode cX1_wordOf 39 = .ok (.ldc 78, 2) := by decide +kernel
theorem dX1_wordOf_41 : decode cX1_wordOf 41 = .ok (.areturn, 1) := by decide +kernel
theorem dX1_wordOf_42 : decode cX1_wordOf 42 = .ok (.ldc 80, 2) := by decide +kernel
theorem dX1_wordOf_44 : decode cX1_wordOf 44 = .ok (.areturn, 1) := by decide +kernel
theorem dX1_wordOf_45 : decode cX1_wordOf 45 = .ok (.ldc 82, 2) := by decide +kernel
theorem dX1_wordOf_47 : decode cX1_wordOf 47 = .ok (.areturn, 1) := by decide +kernel
theorem k_X1_wordOf (l : Launch) (g : GG) (ρ : RR) (dt : Nat → Nat → Int32) (aK aV : Nat → Nat) (a0 : Int32) : Met l yX1_wordOf (wsF yX1_wordOf cX1_wordOf 1 (some (.object "java/lang/String"))) { frames := 0, cells := 0, slots := 0, locals := 0 } (va_Pc [.int a0] (YB g ρ dt aK aV)) (va_Sq (fun r => r = some (aK (f_X1_wordOf a0)))) 0 0 (fun _ => False) := by
  refine start_PO (by decide) (Nat.le_of_ble_eq_true rfl) ?_
  intro p e s m args below meth c C0 hB ls hl
  obtain ⟨hx, hb, hr, hml, hown, hts, hlocks⟩ := id C0
  have hl : lv_has ls 1 [(0, .int a0)] := hl
  refine lv_iload_n hx hb dX1_wordOf_0 rfl (lv_at hl 0 rfl) ?_
  by_cases c1 : a0 = 98
  · refine lv_lookup (tgt := 36) (off := 35) hx hb dX1_wordOf_1 (by decide) (by rw [c1]; decide) (by decide) ?_
    refine va_ldcS hx hb hown hB.2.2.2.2.1 dX1_wordOf_36 ?_
    exact ret_PO (r := some (aK 2)) C0 (by rw [c1]; rfl) dX1_wordOf_38
  · by_cases c2 : a0 = 111
    · refine lv_lookup (tgt := 42) (off := 41) hx hb dX1_wordOf_1 (by decide) (by rw [c2]; decide) (by decide) ?_
      refine va_ldcS hx hb hown hB.2.2.2.2.2.2.1 dX1_wordOf_42 ?_
      exact ret_PO (r := some (aK 4)) C0 (by rw [c2]; rfl) dX1_wordOf_44
    · by_cases c3 : a0 = 115
      · refine lv_lookup (tgt := 39) (off := 38) hx hb dX1_wordOf_1 (by decide) (by rw [c3]; decide) (by decide) ?_
        refine va_ldcS hx hb hown hB.2.2.2.2.2.1 dX1_wordOf_39 ?_
        exact ret_PO (r := some (aK 3)) C0 (by rw [c3]; rfl) dX1_wordOf_41
      · refine lv_lookup (tgt := 45) (off := 44) hx hb dX1_wordOf_1 (by decide) ((lv_osw c1 (by decide)).trans ((lv_osw c2 (by decide)).trans ((lv_osw c3 (by decide)).trans rfl))) (by decide) ?_
        refine va_ldcS hx hb hown hB.2.2.2.2.2.2.2 dX1_wordOf_45 ?_
        exact ret_PO (r := some (aK 5)) C0 (by unfold f_X1_wordOf; rw [if_neg c1, if_neg c2, if_neg c3]) dX1_wordOf_47
theorem y_wo {p : Program} {l : Launch} {e : Env} {R : Room} {s : State} {m : MethodId} {args : Array Value} {below : List Frame} {meth : Method} {c : Code} {H : Heap} {locs : List Loc} {Q : State → Prop} {cc : ByteArray} {own : String} {nL pc idx : Nat} {ret0 : Option FieldType} {ls : Array Slot} {rest : List Value} {g : GG} {ρ : RR} {dt : Nat → Nat → Int32} {aK aV : Nat → Nat} {σ : St} {i : Int32} {A : Nat → Prop} (C0 : BC p s m args meth c cc own nL ret0) (hC : WC g (xW g ρ) A s.heap σ H locs) (hB : YB g ρ dt aK aV s) (hA : ∀ q, A q → AX g q) (hF : CG yX1_wordOf cX1_wordOf 1 (some (.object "java/lang/String")) 1) (hl : Cond.methodLink own idx yX1_wordOf ∈ TB) (hR : 1 ≤ R.frames ∧ 20 ≤ R.locals) (hsz : ls.size = nL) (hW : (rest.map fun v => v.category).sum ≤ 8) (hdg : decode cc pc = .ok (.invokestatic idx, 3)) (kk : W p l e R s m args below meth c H locs 0 0 Q (F0 m (pc + 3) ls (.ref (aK (f_X1_wordOf i)) :: rest))) : W p l e R s m args below meth c H locs 0 0 Q (F0 m pc ls (.int i :: rest)) :=
  va_csq (run_of_va (run_S (As := [.int i]) (rest := rest) (rm := { frames := 0, cells := 0, slots := 0, locals := 0 }) C0 hF hl ⟨hR.1, by show 8 + (1 + 11) + 0 ≤ R.locals; omega⟩ (k_X1_wordOf l g ρ dt aK aV i) ⟨YB.sv.blind, fun U hU hW => ⟨rfl, hB.to (hC.2.2.mono hA) hU hW⟩⟩ rfl hsz rfl hW hdg ⟨Nat.zero_le _, Nat.zero_le _⟩)) (fun r er => by subst er; exact kk)
theorem tnum_z (σ : St) : (f_X1_takesNumber σ).1 = 0 ∨ (f_X1_takesNumber σ).1 = 1 := by
  unfold f_X1_takesNumber
  (repeat' split) <;> simp
theorem jch_ne {i : Nat} (hi : i < 6) {k : Int32} (h0 : 0 ≤ k.toInt) (h1 : k.toInt < lenS.getD i 0) : ¬ f_J0_charAt_5068e i k = 0 := by
  rw [jch_e]
  have key : ∀ i, i < 6 → ∀ j, j < lenS.getD i 0 → ¬ ((bytS.getD i []).getD j 0 &&& 255 = 0) := by decide +kernel
  exact key i hi (ix k) (by have := ti_ix h0; omega)
theorem jidx_0 {i : Nat} (hi : i < 6) : f_J0_indexOf_0f7a4 i 0 = -1 := by
  have key : ∀ i, i < 6 → f_J0_indexOf_0f7a4 i 0 = -1 := by decide +kernel
  exact key i hi
theorem jidx_ne {i : Nat} (hi : i < 6) {c : Int32} (h : 0 ≤ f_J0_indexOf_0f7a4 i c) : ¬ c = 0 := fun e => by
  rw [e, jidx_0 hi] at h
  exact absurd h (by decide)
/-! ThreeMeasures$Room.packed -/
theorem dX2_packed_0 : decode cX2_packed 0 = .ok (.iload_n 0, 1) := by decide +kernel
theorem dX2_packed_1 : decode cX2_packed 1 = .ok (.iconst 3, 1) := by decide +kernel
theorem dX2_packed_2 : decode cX2_packed 2 = .ok (.imul, 1) := by decide +kernel
theorem dX2_packed_3 : decode cX2_packed 3 = .ok (.iload_n 1, 1) := by decide +kernel
theorem dX2_packed_4 : decode cX2_packed 4 = .ok (.iadd, 1) := by decide +kernel
theorem dX2_packed_5 : decode cX2_packed 5 = .ok (.bipush 100, 2) := by decide +kernel
theorem dX2_packed_7 : decode cX2_packed 7 = .ok (.imul, 1) := by decide +kernel
theorem dX2_packed_8 : decode cX2_packed 8 = .ok (.iload_n 2, 1) := by decide +kernel
theorem dX2_packed_9 : decode cX2_packed 9 = .ok (.iadd, 1) := by decide +kernel
theorem dX2_packed_10 : decode cX2_packed 10 = .ok (.ireturn, 1) := by decide +kernel
def f_X2_packed (a0 : Int32) (a1 : Int32) (a2 : Int32) : Int32 := ((((a0 * (3 : Int32)) + a1) * (100 : Int32)) + a2)
set_option maxHeartbeats 600000 in
set_option maxRecDepth 100000 in
theorem k_X2_packed (l : Launch)   (a0 : Int32) (a1 : Int32) (a2 : Int32)  : PI l yX2_packed (wsF yX2_packed cX2_packed 3 (some .int)) { frames := 0, cells := 0, slots := 0, locals := 0 } [.int (a0), .int (a1), .int (a2)] (fun _ => True) (f_X2_packed a0 a1 a2) := by
  refine start_PI (by decide) (Nat.le_of_ble_eq_true rfl) ?_
  intro p e s m args below meth c C0 hG ls hl
  obtain ⟨hx, hb, hr, hml, hown, hts, hlocks⟩ := id C0
  have hl : lv_has ls 3 [(0, .int (a0)), (1, .int (a1)), (2, .int (a2))] := hl
  generalize hT : (f_X2_packed a0 a1 a2) = tgt
  unfold f_X2_packed at hT
  refine lv_iload_n hx hb dX2_packed_0 rfl (lv_at hl 0 rfl) ?_
  refine lv_iconst (v := (3 : Int32)) hx hb dX2_packed_1 (by decide) ?_
  refine lv_imul hx hb dX2_packed_2 ?_
  refine lv_iload_n hx hb dX2_packed_3 rfl (lv_at hl 1 rfl) ?_
  refine lv_iadd hx hb dX2_packed_4 ?_
  refine lv_bipush (v := (100 : Int32)) hx hb dX2_packed_5 (by decide) ?_
  refine lv_imul hx hb dX2_packed_7 ?_
  refine lv_iload_n hx hb dX2_packed_8 rfl (lv_at hl 2 rfl) ?_
  refine lv_iadd hx hb dX2_packed_9 ?_
  exact ret_PI C0 hT dX2_packed_10
set_option maxRecDepth 20000 in
theorem w_291 : (Cond.methodLink RX1 84 yJ0_length_8abf5) ∈ TB := inTB (List.mem_of_getElem? (i := 291) (by decide +kernel)) (by decide +kernel)
set_option maxRecDepth 20000 in
theorem w_343 : (Cond.methodLink RX1 94 yX1_takesNumber) ∈ TB := inTB (List.mem_of_getElem? (i := 343) (by decide +kernel)) (by decide +kernel)
set_option maxRecDepth 20000 in
theorem w_346 : (Cond.code yX1_takesNumber cX1_takesNumber 2 (some .boolean)) ∈ TB := inTB (List.mem_of_getElem? (i := 346) (by decide +kernel)) (by decide +kernel)
set_option maxRecDepth 20000 in
theorem w_345 : (Cond.instanceMethod yX1_takesNumber) ∈ TB := inTB (List.mem_of_getElem? (i := 345) (by decide +kernel)) (by decide +kernel)
set_option maxRecDepth 20000 in
theorem w_5 : (Cond.selects RX1 yX1_takesNumber yX1_takesNumber) ∈ TB := inTB (List.mem_of_getElem? (i := 5) (by decide +kernel)) (by decide +kernel)
theorem cf_X1_takesNumber : CF yX1_takesNumber cX1_takesNumber 2 (some .boolean) 0 := ⟨w_345, w_5, w_73, w_346, by decide +kernel, by decide +kernel, by decide +kernel⟩
set_option maxRecDepth 20000 in
theorem w_301 : (Cond.methodLink RX1 90 yJ0_charAt_5068e) ∈ TB := inTB (List.mem_of_getElem? (i := 301) (by decide +kernel)) (by decide +kernel)
set_option maxRecDepth 20000 in
theorem w_339 : (Cond.methodLink RX1 40 yX1_takes) ∈ TB := inTB (List.mem_of_getElem? (i := 339) (by decide +kernel)) (by decide +kernel)
set_option maxRecDepth 20000 in
theorem w_342 : (Cond.code yX1_takes cX1_takes 2 (some .boolean)) ∈ TB := inTB (List.mem_of_getElem? (i := 342) (by decide +kernel)) (by decide +kernel)
set_option maxRecDepth 20000 in
theorem w_341 : (Cond.instanceMethod yX1_takes) ∈ TB := inTB (List.mem_of_getElem? (i := 341) (by decide +kernel)) (by decide +kernel)
set_option maxRecDepth 20000 in
theorem w_4 : (Cond.selects RX1 yX1_takes yX1_takes) ∈ TB := inTB (List.mem_of_getElem? (i := 4) (by decide +kernel)) (by decide +kernel)
theorem cf_X1_takes : CF yX1_takes cX1_takes 2 (some .boolean) 1 := ⟨w_341, w_4, w_73, w_342, by decide +kernel, by decide +kernel, by decide +kernel⟩
/-! ThreeMeasures$Reader.takesWordAndNumber -/
theorem dX1_takesWordAndNumber_0 : decode cX1_takesWordAndNumber 0 = .ok (.iconst 0, 1) := by decide +kernel
theorem dX1_takesWordAndNumber_1 : decode cX1_takesWordAndNumber 1 = .ok (.istore_n 2, 1) := by decide +kernel
theorem dX1_takesWordAndNumber_2 : decode cX1_takesWordAndNumber 2 = .ok (.iload_n 2, 1) := by decide +kernel
theorem dX1_takesWordAndNumber_3 : decode cX1_takesWordAndNumber 3 = .ok (.aload_n 1, 1) := by decide +kernel
theorem dX1_takesWordAndNumber_4 : decode cX1_takesWordAndNumber 4 = .ok (.invokevirtual 84, 3) := by decide +kernel
theorem dX1_takesWordAndNumber_7 : decode cX1_takesWordAndNumber 7 = .ok (.if_icmp .ge 23, 3) := by decide +kernel
theorem dX1_takesWordAndNumber_10 : decode cX1_takesWordAndNumber 10 = .ok (.aload_n 0, 1) := by decide +kernel
theorem dX1_takesWordAndNumber_11 : decode cX1_takesWordAndNumber 11 = .ok (.aload_n 1, 1) := by decide +kernel
theorem dX1_takesWordAndNumber_12 : decode cX1_takesWordAndNumber 12 = .ok (.iload_n 2, 1) := by decide +kernel
theorem dX1_takesWordAndNumber_13 : decode cX1_takesWordAndNumber 13 = .ok (.invokevirtual 90, 3) := by decide +kernel
theorem dX1_takesWordAndNumber_16 : decode cX1_takesWordAndNumber 16 = .ok (.invokevirtual 40, 3) := by decide +kernel
theorem dX1_takesWordAndNumber_19 : decode cX1_takesWordAndNumber 19 = .ok (.ifCond .ne 5, 3) := by decide +kernel
theorem dX1_takesWordAndNumber_22 : decode cX1_takesWordAndNumber 22 = .ok (.iconst 0, 1) := by decide +kernel
theorem dX1_takesWordAndNumber_23 : decode cX1_takesWordAndNumber 23 = .ok (.ireturn, 1) := by decide +kernel
theorem dX1_takesWordAndNumber_24 : decode cX1_takesWordAndNumber 24 = .ok (.iinc 2 1, 3) := by decide +kernel
theorem dX1_takesWordAndNumber_27 : decode cX1_takesWordAndNumber 27 = .ok (.goto (-25), 3) := by decide +kernel
theorem dX1_takesWordAndNumber_30 : decode cX1_takesWordAndNumber 30 = .ok (.aload_n 0, 1) := by decide +kernel
theorem dX1_takesWordAndNumber_31 : decode cX1_takesWordAndNumber 31 = .ok (.invokevirtual 94, 3) := by decide +kernel
theorem dX1_takesWordAndNumber_34 : decode cX1_takesWordAndNumber 34 = .ok (.ireturn, 1) := by decide +kernel
def f_X1_takesWordAndNumber_2 (K2 : St → Nat → Int32 → Int32 × St) (σ : St) (a1 : Nat) (a2 : Int32) : Int32 × St := (if (f_J0_length_8abf5 a1) ≤ a2 then (bd (f_X1_takesNumber σ ) (fun r31 u31 => (r31, u31))) else (bd (f_X1_takes σ (f_J0_charAt_5068e a1 a2)) (fun r16 u16 => (if r16 = 0 then ((0 : Int32), u16) else (K2 u16 a1 (a2 + (1 : Int32)))))))
set_option maxHeartbeats 600000 in
set_option maxRecDepth 100000 in
theorem b_X1_takesWordAndNumber_2 {g : GG} {ρ : RR} {dt : Nat → Nat → Int32} {aK aV : Nat → Nat} {p : Program} {l : Launch} {e : Env} {s : State} {m : MethodId} {args : Array Value} {below : List Frame} {meth : Method} {c : Code} {A : Nat → Prop} {tgt : Int32 × St} {K2 : St → Nat → Int32 → Int32 × St} {N2 : Nat}  (C0 : BC p s m args meth c cX1_takesWordAndNumber RX1 3 (some .boolean)) (hK2 : ∀ (σ : St) (a1 : Nat) (a2 : Int32), (ρ 62 0 = some (g.2.2 20)) → (a1 < 6) → (RC σ) → (0 ≤ a2.toInt) → ((lenS.getD a1 0 : Int) - a2.toInt).toNat < N2 → ∀ {H : Heap} {locs : List Loc}, KK g s → WC g (xW g ρ) A s.heap σ H locs → YB g ρ dt aK aV s → (∀ q, A q → AX g q) →  ∀ {ls : Array Slot}, lv_has ls 3 [(0, .ref (g.2.2 103)), (1, .ref (aK a1)), (2, .int (a2))] → K2 σ a1 a2 = tgt → W p l e { frames := 4, cells := 0, slots := 0, locals := 85 } s m args below meth c H locs 0 0 (QMI below args s g (xW g ρ) A tgt) (F0 m 2 ls [])) {σ : St} {a1 : Nat} {a2 : Int32} {H : Heap} {locs : List Loc} (hTx : ρ 62 0 = some (g.2.2 20)) (hi : a1 < 6) (hR : RC σ) (h2 : 0 ≤ a2.toInt) (hm : ((lenS.getD a1 0 : Int) - a2.toInt).toNat < N2 + 1) (hK : KK g s) (hC : WC g (xW g ρ) A s.heap σ H locs) (hB : YB g ρ dt aK aV s) (hA : ∀ q, A q → AX g q) {ls : Array Slot} (hl : lv_has ls 3 [(0, .ref (g.2.2 103)), (1, .ref (aK a1)), (2, .int (a2))]) (hT : f_X1_takesWordAndNumber_2 K2 σ a1 a2 = tgt) : W p l e { frames := 4, cells := 0, slots := 0, locals := 85 } s m args below meth c H locs 0 0 (QMI below args s g (xW g ρ) A tgt) (F0 m 2 ls []) := by
  obtain ⟨hx, hb, hr, hml, hown, hts, hlocks⟩ := id C0
  unfold f_X1_takesWordAndNumber_2 at hT
  obtain ⟨p1, p2, p3, p4, p5, p6, p7⟩ := id hR
  refine lv_iload_n hx hb dX1_takesWordAndNumber_2 rfl (lv_at hl 2 rfl) ?_
  refine lv_aload_n hx hb dX1_takesWordAndNumber_3 rfl (lv_at hl 1 rfl) ?_
  refine j_ciV (rest := [.int (a2)]) (As := []) (i := a1) C0 hB.2.1 (hC.2.2.mono hA) hi rfl cf_J0_length_8abf5 w_291 (k_J0_length_8abf5 l _ _ _ a1 hi) ⟨by decide, by decide⟩ hl.1 rfl rfl (Nat.le_of_ble_eq_true rfl) dX1_takesWordAndNumber_4 ⟨Nat.zero_le _, Nat.zero_le _⟩ ?_
  refine lv_icmp_ge (tgt := 30) hx hb dX1_takesWordAndNumber_7 (by decide) (fun c_7 => ?_) (fun c_7 => ?_)
  · have hT := hT_pos c_7 hT
    refine lv_aload_n hx hb dX1_takesWordAndNumber_30 rfl (lv_at hl 0 rfl) ?_
    refine x_mi (rest := []) (As := []) (σ := σ) (ρ := ρ) (dt := dt) (T := TX1) (N := 8) (fs := xF3 g ρ σ) 1 3 rfl rfl C0 hK hC (XH.wa hB.1 hA hC) cf_X1_takesNumber w_343 (k_X1_takesNumber l g ρ dt σ  hTx hR) ⟨by decide, by decide⟩ hl.1 rfl rfl (Nat.le_of_ble_eq_true rfl) dX1_takesWordAndNumber_31 ⟨Nat.zero_le _, Nat.zero_le _⟩ (fun r31 u31 H locs e31 hC => ?_)
    have hT := bd_e e31 hT
    exact ret_MZ C0 (nz_of (by rw [show r31 = _ from congrArg Prod.fst e31]; exact tnum_z σ)) hC hT dX1_takesWordAndNumber_34
  · have hT := hT_neg c_7 hT
    have w1 := mt ti_le.mpr c_7
    rw [jlen_e, jlen_t hi] at w1
    have z1 : (1 : Int32).toInt = 1 := rfl
    have w3 := jlen_b hi
    have w2 := ti_add (a := a2) (b := 1) (by omega) (by omega)
    refine lv_aload_n hx hb dX1_takesWordAndNumber_10 rfl (lv_at hl 0 rfl) ?_
    refine lv_aload_n hx hb dX1_takesWordAndNumber_11 rfl (lv_at hl 1 rfl) ?_
    refine lv_iload_n hx hb dX1_takesWordAndNumber_12 rfl (lv_at hl 2 rfl) ?_
    have q13_h1 : 0 ≤ a2.toInt := h2
    have q13_h1b : a2.toInt < lenS.getD a1 0 := by omega
    refine j_ciV (rest := [.ref (g.2.2 103)]) (As := [.int (a2)]) (i := a1) C0 hB.2.1 (hC.2.2.mono hA) hi rfl cf_J0_charAt_5068e w_301 (k_J0_charAt_5068e l _ _ _ a1 a2 hi q13_h1 q13_h1b) ⟨by decide, by decide⟩ hl.1 rfl rfl (Nat.le_of_ble_eq_true rfl) dX1_takesWordAndNumber_13 ⟨Nat.zero_le _, Nat.zero_le _⟩ ?_
    have q16_hp : 0 ≤ (σ 64 0).toInt := by
      have := mt ti_le.mpr c_7
      omega
    refine x_mi (rest := []) (As := [.int ((f_J0_charAt_5068e a1 a2))]) (σ := σ) (ρ := ρ) (dt := dt) (T := TX1) (N := 8) (fs := xF3 g ρ σ) 1 3 rfl rfl C0 hK hC (XH.wa hB.1 hA hC) cf_X1_takes w_339 (k_X1_takes l g ρ dt σ (f_J0_charAt_5068e a1 a2) hTx q16_hp) ⟨by decide, by decide⟩ hl.1 rfl rfl (Nat.le_of_ble_eq_true rfl) dX1_takesWordAndNumber_16 ⟨Nat.zero_le _, Nat.zero_le _⟩ (fun r16 u16 H locs e16 hC => ?_)
    have hT := bd_e e16 hT
    have S16 : RQ 0 σ u16 := by rw [show u16 = _ from congrArg Prod.snd e16]; exact (takes_q hR (jch_ne hi h2 (by omega))).1
    refine lv_if_ne (tgt := 24) hx hb dX1_takesWordAndNumber_19 (by decide) (fun c_19 => ?_) (fun c_19 => ?_)
    · have hT := hT_neg c_19 hT
      refine lv_iinc (v := (a2 + (1 : Int32))) (lv' := [(2, .int ((a2 + (1 : Int32)))), (0, .ref (g.2.2 103)), (1, .ref (aK a1))]) hx hb dX1_takesWordAndNumber_24 hl (k := 2) rfl rfl (by decide) rfl (fun ls hl => ?_)
      refine lv_goto (tgt := 2) hx hb dX1_takesWordAndNumber_27 (by decide) ?_
      have j27_hR : RC u16 := S16.2.1
      have j27_h2 : 0 ≤ (a2 + (1 : Int32)).toInt := by omega
      have j27_m : ((lenS.getD a1 0 : Int) - (a2 + (1 : Int32)).toInt).toNat < N2 := by
        omega
      exact hK2 u16 a1 (a2 + (1 : Int32)) hTx hi j27_hR j27_h2 j27_m hK hC hB hA (lv_sub hl [1, 2, 0] rfl) hT
    · have hT := hT_pos c_19 hT
      refine lv_iconst (v := (0 : Int32)) hx hb dX1_takesWordAndNumber_22 (by decide) ?_
      exact ret_MZ C0 (nz_of (Or.inl rfl)) hC hT dX1_takesWordAndNumber_23
def g_X1_takesWordAndNumber_2  : Nat → St → Nat → Int32 → Int32 × St
  | 0 => fun σ a1 a2 => (0, σ)
  | n + 1 => fun σ a1 a2 => f_X1_takesWordAndNumber_2  (g_X1_takesWordAndNumber_2  n) σ a1 a2
theorem l_X1_takesWordAndNumber_2 {g : GG} {ρ : RR} {dt : Nat → Nat → Int32} {aK aV : Nat → Nat} {p : Program} {l : Launch} {e : Env} {s : State} {m : MethodId} {args : Array Value} {below : List Frame} {meth : Method} {c : Code} {A : Nat → Prop} {tgt : Int32 × St}   (C0 : BC p s m args meth c cX1_takesWordAndNumber RX1 3 (some .boolean))  : ∀ (n : Nat) (σ : St) (a1 : Nat) (a2 : Int32), (ρ 62 0 = some (g.2.2 20)) → (a1 < 6) → (RC σ) → (0 ≤ a2.toInt) → ((lenS.getD a1 0 : Int) - a2.toInt).toNat < n → ∀ {H : Heap} {locs : List Loc}, KK g s → WC g (xW g ρ) A s.heap σ H locs → YB g ρ dt aK aV s → (∀ q, A q → AX g q) →  ∀ {ls : Array Slot}, lv_has ls 3 [(0, .ref (g.2.2 103)), (1, .ref (aK a1)), (2, .int (a2))] → g_X1_takesWordAndNumber_2  n σ a1 a2 = tgt → W p l e { frames := 4, cells := 0, slots := 0, locals := 85 } s m args below meth c H locs 0 0 (QMI below args s g (xW g ρ) A tgt) (F0 m 2 ls []) := by
  intro n
  induction n with
  | zero => intro σ a1 a2 hTx hi hR h2 hm; exact absurd hm (Nat.not_lt_zero _)
  | succ n ih =>
    intro σ a1 a2 hTx hi hR h2 hm H locs hK hC hB hA ls hl hT
    exact b_X1_takesWordAndNumber_2 (g := g) (ρ := ρ) (dt := dt) (aK := aK) (aV := aV)  (K2 := g_X1_takesWordAndNumber_2  n) (N2 := n) C0  (fun σ a1 a2 hTx hi hR h2 hmq => ih σ a1 a2 hTx hi hR h2 hmq) hTx hi hR h2 hm hK hC hB hA hl hT
def f_X1_takesWordAndNumber (σ : St) (a1 : Nat) : Int32 × St := (g_X1_takesWordAndNumber_2  (7) σ a1 (0 : Int32))
set_option maxHeartbeats 600000 in
set_option maxRecDepth 100000 in
theorem k_X1_takesWordAndNumber (l : Launch) (g : GG) (ρ : RR) (dt : Nat → Nat → Int32) (aK aV : Nat → Nat)  (σ : St) (a1 : Nat) (hTx : ρ 62 0 = some (g.2.2 20)) (hi : a1 < 6) (hR : RC σ) : MI l yX1_takesWordAndNumber (wsF yX1_takesWordAndNumber cX1_takesWordAndNumber 3 (some .boolean)) { frames := 4, cells := 0, slots := 0, locals := 85 } [.ref (g.2.2 103), .ref (aK a1)] g (xW g ρ) (YB g ρ dt aK aV) σ (f_X1_takesWordAndNumber σ a1) := by
  refine start_MI (by decide) (Nat.le_of_ble_eq_true rfl) ?_
  intro p e s m args below meth c C0 hK hB hC ls hl
  generalize hAe : aA ((xW g ρ) σ) = A at hC ⊢
  have hA : ∀ q, A q → AX g q := fun q h => by rw [← hAe] at h; exact h
  obtain ⟨hx, hb, hr, hml, hown, hts, hlocks⟩ := id C0
  have hl : lv_has ls 3 [(0, .ref (g.2.2 103)), (1, .ref (aK a1))] := hl
  generalize hT : (f_X1_takesWordAndNumber σ a1) = tgt
  suffices key : ∀ (H : Heap) (locs : List Loc), WC g (xW g ρ) A s.heap σ H locs → W p l e { frames := 4, cells := 0, slots := 0, locals := 85 } s m args below meth c H locs 0 0 (QMI below args s g (xW g ρ) A tgt) (F0 m 0 ls []) from key _ _ hC
  intro H locs hC
  unfold f_X1_takesWordAndNumber at hT
  refine lv_iconst (v := (0 : Int32)) hx hb dX1_takesWordAndNumber_0 (by decide) ?_
  refine lv_istore_n (lv' := [(2, .int ((0 : Int32))), (0, .ref (g.2.2 103)), (1, .ref (aK a1))]) hx hb dX1_takesWordAndNumber_1 rfl hl (by decide) rfl (fun ls hl => ?_)
  have j1_h2 : 0 ≤ (0 : Int32).toInt := by
    have : ((0 : Int32)).toInt = 0 := by decide
    omega
  have j1_m : ((lenS.getD a1 0 : Int) - (0 : Int32).toInt).toNat < 7 := by
    have := jlen_b hi; have e0 : (0 : Int32).toInt = 0 := rfl; omega
  exact l_X1_takesWordAndNumber_2 (g := g) (ρ := ρ) (dt := dt) (aK := aK) (aV := aV)  C0   (7) σ a1 (0 : Int32) hTx hi hR j1_h2 j1_m hK hC hB hA (lv_sub hl [1, 2, 0] rfl) hT
theorem word_l {i : Nat} (hi : i < 6) : ∀ (n : Nat) {σ : St} (a : Int32), 0 ≤ a.toInt → RC σ → RQ 0 σ (g_X1_takesWordAndNumber_2 n σ i a).2 ∧ ((g_X1_takesWordAndNumber_2 n σ i a).1 = 0 ∨ RQ 1 σ (g_X1_takesWordAndNumber_2 n σ i a).2)
  | 0, σ, a, ha, h => ⟨RQ.rfl h, Or.inl (Eq.refl _)⟩
  | n + 1, σ, a, ha, h => by
    rw [show g_X1_takesWordAndNumber_2 (n + 1) σ i a = f_X1_takesWordAndNumber_2 (g_X1_takesWordAndNumber_2 n) σ i a from Eq.refl _]
    unfold f_X1_takesWordAndNumber_2
    by_cases c : f_J0_length_8abf5 i ≤ a
    · rw [if_pos c]
      exact tnum_q h
    · rw [if_neg c]
      have w1 := mt ti_le.mpr c
      rw [jlen_e, jlen_t hi] at w1
      have w3 := jlen_b hi
      have z1 : (1 : Int32).toInt = 1 := Eq.refl _
      have w2 := ti_add (a := a) (b := 1) (by omega) (by omega)
      have S := (takes_q h (jch_ne hi (k := a) ha (by omega))).1
      dsimp only [bd]
      by_cases c2 : (f_X1_takes σ (f_J0_charAt_5068e i a)).1 = 0
      · rw [if_pos c2]
        exact ⟨S, Or.inl (Eq.refl _)⟩
      · rw [if_neg c2]
        obtain ⟨T1, T2⟩ := word_l hi n (a + 1) (by omega) S.2.1
        refine ⟨(S.tr T1).le (by decide), ?_⟩
        rcases T2 with T2 | T2
        · exact Or.inl T2
        · exact Or.inr ((S.tr T2).le (by decide))
theorem word_q {i : Nat} (hi : i < 6) {σ : St} (h : RC σ) : RQ 0 σ (f_X1_takesWordAndNumber σ i).2 ∧ ((f_X1_takesWordAndNumber σ i).1 = 0 ∨ RQ 1 σ (f_X1_takesWordAndNumber σ i).2) := word_l hi 7 0 (by decide) h
set_option maxRecDepth 20000 in
theorem w_360 : (Cond.methodLink RX1 105 yJ0_indexOf_0f7a4) ∈ TB := inTB (List.mem_of_getElem? (i := 360) (by decide +kernel)) (by decide +kernel)
set_option maxRecDepth 20000 in
theorem w_363 : (Cond.code yJ0_indexOf_0f7a4 cJ0_indexOf_0f7a4 2 (some .int)) ∈ TB := inTB (List.mem_of_getElem? (i := 363) (by decide +kernel)) (by decide +kernel)
set_option maxRecDepth 20000 in
theorem w_361 : (Cond.instanceMethod yJ0_indexOf_0f7a4) ∈ TB := inTB (List.mem_of_getElem? (i := 361) (by decide +kernel)) (by decide +kernel)
set_option maxRecDepth 20000 in
theorem w_362 : (Cond.selects RJ0 yJ0_indexOf_0f7a4 yJ0_indexOf_0f7a4) ∈ TB := inTB (List.mem_of_getElem? (i := 362) (by decide +kernel)) (by decide +kernel)
theorem cf_J0_indexOf_0f7a4 : CF yJ0_indexOf_0f7a4 cJ0_indexOf_0f7a4 2 (some .int) 1 := ⟨w_361, w_362, w_76, w_363, by decide +kernel, by decide +kernel, by decide +kernel⟩
set_option maxRecDepth 20000 in
theorem w_420 : (Cond.methodLinkNest RX1 111 yX2_packed RX11) ∈ NB := inNB (List.mem_of_getElem? (i := 420) (by decide +kernel)) (by decide +kernel)
set_option maxRecDepth 20000 in
theorem w_422 : (Cond.code yX2_packed cX2_packed 3 (some .int)) ∈ TB := inTB (List.mem_of_getElem? (i := 422) (by decide +kernel)) (by decide +kernel)
set_option maxRecDepth 20000 in
theorem w_421 : (Cond.static yX2_packed) ∈ TB := inTB (List.mem_of_getElem? (i := 421) (by decide +kernel)) (by decide +kernel)
theorem cf_X2_packed : CG yX2_packed cX2_packed 3 (some .int) 3 := ⟨w_421, w_82, w_422, by decide +kernel, by decide +kernel, by decide +kernel⟩
set_option maxRecDepth 20000 in
theorem w_423 : (Cond.methodLink RX1 72 yX1_emit) ∈ TB := inTB (List.mem_of_getElem? (i := 423) (by decide +kernel)) (by decide +kernel)
set_option maxRecDepth 20000 in
theorem w_426 : (Cond.code yX1_emit cX1_emit 3 none) ∈ TB := inTB (List.mem_of_getElem? (i := 426) (by decide +kernel)) (by decide +kernel)
set_option maxRecDepth 20000 in
theorem w_425 : (Cond.instanceMethod yX1_emit) ∈ TB := inTB (List.mem_of_getElem? (i := 425) (by decide +kernel)) (by decide +kernel)
set_option maxRecDepth 20000 in
theorem w_9 : (Cond.selects RX1 yX1_emit yX1_emit) ∈ TB := inTB (List.mem_of_getElem? (i := 9) (by decide +kernel)) (by decide +kernel)
theorem cf_X1_emit : CF yX1_emit cX1_emit 3 none 2 := ⟨w_425, w_9, w_73, w_426, by decide +kernel, by decide +kernel, by decide +kernel⟩
/-! ThreeMeasures$Reader.takesTest -/
theorem dX1_takesTest_0 : decode cX1_takesTest 0 = .ok (.ldc 103, 2) := by decide +kernel
theorem dX1_takesTest_2 : decode cX1_takesTest 2 = .ok (.aload_n 0, 1) := by decide +kernel
theorem dX1_takesTest_3 : decode cX1_takesTest 3 = .ok (.invokevirtual 53, 3) := by decide +kernel
theorem dX1_takesTest_6 : decode cX1_takesTest 6 = .ok (.invokevirtual 105, 3) := by decide +kernel
theorem dX1_takesTest_9 : decode cX1_takesTest 9 = .ok (.istore_n 1, 1) := by decide +kernel
theorem dX1_takesTest_10 : decode cX1_takesTest 10 = .ok (.iload_n 1, 1) := by decide +kernel
theorem dX1_takesTest_11 : decode cX1_takesTest 11 = .ok (.ifCond .ge 5, 3) := by decide +kernel
theorem dX1_takesTest_14 : decode cX1_takesTest 14 = .ok (.iconst 0, 1) := by decide +kernel
theorem dX1_takesTest_15 : decode cX1_takesTest 15 = .ok (.ireturn, 1) := by decide +kernel
theorem dX1_takesTest_16 : decode cX1_takesTest 16 = .ok (.aload_n 0, 1) := by decide +kernel
theorem dX1_takesTest_17 : decode cX1_takesTest 17 = .ok (.dup, 1) := by decide +kernel
theorem dX1_takesTest_18 : decode cX1_takesTest 18 = .ok (.getfield 22, 3) := by decide +kernel
theorem dX1_takesTest_21 : decode cX1_takesTest 21 = .ok (.iconst 1, 1) := by decide +kernel
theorem dX1_takesTest_22 : decode cX1_takesTest 22 = .ok (.iadd, 1) := by decide +kernel
theorem dX1_takesTest_23 : decode cX1_takesTest 23 = .ok (.putfield 22, 3) := by decide +kernel
theorem dX1_takesTest_26 : decode cX1_takesTest 26 = .ok (.ldc 109, 2) := by decide +kernel
theorem dX1_takesTest_28 : decode cX1_takesTest 28 = .ok (.aload_n 0, 1) := by decide +kernel
theorem dX1_takesTest_29 : decode cX1_takesTest 29 = .ok (.invokevirtual 53, 3) := by decide +kernel
theorem dX1_takesTest_32 : decode cX1_takesTest 32 = .ok (.invokevirtual 105, 3) := by decide +kernel
theorem dX1_takesTest_35 : decode cX1_takesTest 35 = .ok (.istore_n 2, 1) := by decide +kernel
theorem dX1_takesTest_36 : decode cX1_takesTest 36 = .ok (.iload_n 2, 1) := by decide +kernel
theorem dX1_takesTest_37 : decode cX1_takesTest 37 = .ok (.ifCond .ge 5, 3) := by decide +kernel
theorem dX1_takesTest_40 : decode cX1_takesTest 40 = .ok (.iconst 0, 1) := by decide +kernel
theorem dX1_takesTest_41 : decode cX1_takesTest 41 = .ok (.ireturn, 1) := by decide +kernel
theorem dX1_takesTest_42 : decode cX1_takesTest 42 = .ok (.aload_n 0, 1) := by decide +kernel
theorem dX1_takesTest_43 : decode cX1_takesTest 43 = .ok (.dup, 1) := by decide +kernel
theorem dX1_takesTest_44 : decode cX1_takesTest 44 = .ok (.getfield 22, 3) := by decide +kernel
theorem dX1_takesTest_47 : decode cX1_takesTest 47 = .ok (.iconst 1, 1) := by decide +kernel
theorem dX1_takesTest_48 : decode cX1_takesTest 48 = .ok (.iadd, 1) := by decide +kernel
theorem dX1_takesTest_49 : decode cX1_takesTest 49 = .ok (.putfield 22, 3) := by decide +kernel
theorem dX1_takesTest_52 : decode cX1_takesTest 52 = .ok (.aload_n 0, 1) := by decide +kernel
theorem dX1_takesTest_53 : decode cX1_takesTest 53 = .ok (.invokevirtual 94, 3) := by decide +kernel
theorem dX1_takesTest_56 : decode cX1_takesTest 56 = .ok (.ifCond .ne 5, 3) := by decide +kernel
theorem dX1_takesTest_59 : decode cX1_takesTest 59 = .ok (.iconst 0, 1) := by decide +kernel
theorem dX1_takesTest_60 : decode cX1_takesTest 60 = .ok (.ireturn, 1) := by decide +kernel
theorem dX1_takesTest_61 : decode cX1_takesTest 61 = .ok (.aload_n 0, 1) := by decide +kernel
theorem dX1_takesTest_62 : decode cX1_takesTest 62 = .ok (.iconst 0, 1) := by decide +kernel
theorem dX1_takesTest_63 : decode cX1_takesTest 63 = .ok (.iload_n 1, 1) := by decide +kernel
theorem dX1_takesTest_64 : decode cX1_takesTest 64 = .ok (.iload_n 2, 1) := by decide +kernel
theorem dX1_takesTest_65 : decode cX1_takesTest 65 = .ok (.aload_n 0, 1) := by decide +kernel
theorem dX1_takesTest_66 : decode cX1_takesTest 66 = .ok (.getfield 65, 3) := by decide +kernel
theorem dX1_takesTest_69 : decode cX1_takesTest 69 = .ok (.invokestatic 111, 3) := by decide +kernel
theorem dX1_takesTest_72 : decode cX1_takesTest 72 = .ok (.invokevirtual 72, 3) := by decide +kernel
theorem dX1_takesTest_75 : decode cX1_takesTest 75 = .ok (.iconst 1, 1) := by decide +kernel
theorem dX1_takesTest_76 : decode cX1_takesTest 76 = .ok (.ireturn, 1) := by decide +kernel
def f_X1_takesTest (σ : St) : Int32 × St := (if 0 ≤ (f_J0_indexOf_0f7a4 0 (f_X1_next σ )) then (if 0 ≤ (f_J0_indexOf_0f7a4 1 (f_X1_next (up2 σ 64 0 ((σ 64 0) + (1 : Int32))) )) then (bd (f_X1_takesNumber (up2 (up2 σ 64 0 ((σ 64 0) + (1 : Int32))) 64 0 (((σ 64 0) + (1 : Int32)) + (1 : Int32))) ) (fun r53 u53 => (if r53 = 0 then ((0 : Int32), u53) else (bd1 (f_X1_emit u53 (0 : Int32) (f_X2_packed (f_J0_indexOf_0f7a4 0 (f_X1_next σ )) (f_J0_indexOf_0f7a4 1 (f_X1_next (up2 σ 64 0 ((σ 64 0) + (1 : Int32))) )) (u53 65 0))) (fun u72 => ((1 : Int32), u72)))))) else ((0 : Int32), (up2 σ 64 0 ((σ 64 0) + (1 : Int32))))) else ((0 : Int32), σ))
set_option maxHeartbeats 600000 in
set_option maxRecDepth 100000 in
theorem k_X1_takesTest (l : Launch) (g : GG) (ρ : RR) (dt : Nat → Nat → Int32) (aK aV : Nat → Nat)  (σ : St) (hTx : ρ 62 0 = some (g.2.2 20)) (hR : RC σ) : MI l yX1_takesTest (wsF yX1_takesTest cX1_takesTest 3 (some .boolean)) { frames := 4, cells := 0, slots := 0, locals := 91 } [.ref (g.2.2 103)] g (xW g ρ) (YB g ρ dt aK aV) σ (f_X1_takesTest σ) := by
  refine start_MI (by decide) (Nat.le_of_ble_eq_true rfl) ?_
  intro p e s m args below meth c C0 hK hB hC ls hl
  generalize hAe : aA ((xW g ρ) σ) = A at hC ⊢
  have hA : ∀ q, A q → AX g q := fun q h => by rw [← hAe] at h; exact h
  obtain ⟨hx, hb, hr, hml, hown, hts, hlocks⟩ := id C0
  have hl : lv_has ls 3 [(0, .ref (g.2.2 103))] := hl
  generalize hT : (f_X1_takesTest σ) = tgt
  suffices key : ∀ (H : Heap) (locs : List Loc), WC g (xW g ρ) A s.heap σ H locs → W p l e { frames := 4, cells := 0, slots := 0, locals := 91 } s m args below meth c H locs 0 0 (QMI below args s g (xW g ρ) A tgt) (F0 m 0 ls []) from key _ _ hC
  intro H locs hC
  unfold f_X1_takesTest at hT
  obtain ⟨p1, p2, p3, p4, p5, p6, p7⟩ := id hR
  refine va_ldcS hx hb hown hB.2.2.1 dX1_takesTest_0 ?_
  refine lv_aload_n hx hb dX1_takesTest_2 rfl (lv_at hl 0 rfl) ?_
  have q3_hp : 0 ≤ (σ 64 0).toInt := by
    omega
  refine x_ci (rest := [.ref (aK 0)]) (As := []) (σ := σ) (ρ := ρ) (dt := dt) (T := TX1) (N := 8) (fs := xF3 g ρ σ) 1 3 rfl rfl C0 hK hC.1 (hC.2.1.weaken (fun _ _ _ _ => trivial)) (XH.wa hB.1 hA hC) cf_X1_next w_276 (k_X1_next l g ρ dt σ  hTx q3_hp) ⟨by decide, by decide⟩ hl.1 rfl rfl (Nat.le_of_ble_eq_true rfl) dX1_takesTest_3 ⟨Nat.zero_le _, Nat.zero_le _⟩ ?_
  have q6_hi : 0 < 6 := by
    omega
  refine j_ciV (rest := []) (As := [.int ((f_X1_next σ ))]) (i := 0) C0 hB.2.1 (hC.2.2.mono hA) (by decide) rfl cf_J0_indexOf_0f7a4 w_360 (k_J0_indexOf_0f7a4 l _ _ _ 0 (f_X1_next σ ) q6_hi) ⟨by decide, by decide⟩ hl.1 rfl rfl (Nat.le_of_ble_eq_true rfl) dX1_takesTest_6 ⟨Nat.zero_le _, Nat.zero_le _⟩ ?_
  refine lv_istore_n (lv' := [(1, .int ((f_J0_indexOf_0f7a4 0 (f_X1_next σ )))), (0, .ref (g.2.2 103))]) hx hb dX1_takesTest_9 rfl hl (by decide) rfl (fun ls hl => ?_)
  refine lv_iload_n hx hb dX1_takesTest_10 rfl (lv_at hl 0 rfl) ?_
  refine lv_if_ge (tgt := 16) hx hb dX1_takesTest_11 (by decide) (fun c_11 => ?_) (fun c_11 => ?_)
  · have hT := hT_pos c_11 hT
    obtain ⟨S1, -⟩ := rc_64 hR (nx_lt (jidx_ne (by decide) c_11))
    refine lv_aload_n hx hb dX1_takesTest_16 rfl (lv_at hl 1 rfl) ?_
    refine lv_dup hx hb dX1_takesTest_17 rfl ?_
    refine x_get (σ := σ) (v := .int ((σ 64 0))) (fs := xF3 g ρ σ) 1 3 C0 uw_1 dc_1 hK hC.1 rfl rfl 4 (by decide) rfl w_192 dX1_takesTest_18 ?_
    refine lv_iconst (v := (1 : Int32)) hx hb dX1_takesTest_21 (by decide) ?_
    refine lv_iadd hx hb dX1_takesTest_22 ?_
    refine x_put (σ := σ) (ty := .int) (fs := xF3 g ρ σ) 1 3 C0 uw_1 dc_1 tyX1 tyX1_ok nmX1 hK hC rfl rfl 4 (by decide) rfl rfl rfl rfl (Nat.le_of_ble_eq_true rfl) (xs_64 g ρ _ _) w_192 dX1_takesTest_23 (fun H locs hC => ?_)
    refine va_ldcS hx hb hown hB.2.2.2.1 dX1_takesTest_26 ?_
    refine lv_aload_n hx hb dX1_takesTest_28 rfl (lv_at hl 1 rfl) ?_
    have q29_hp : 0 ≤ (((σ 64 0) + (1 : Int32))).toInt := S1.2.1.1
    refine x_ci (rest := [.ref (aK 1)]) (As := []) (σ := (up2 σ 64 0 ((σ 64 0) + (1 : Int32)))) (ρ := ρ) (dt := dt) (T := TX1) (N := 8) (fs := xF3 g ρ (up2 σ 64 0 ((σ 64 0) + (1 : Int32)))) 1 3 rfl rfl C0 hK hC.1 (hC.2.1.weaken (fun _ _ _ _ => trivial)) (XH.wa hB.1 hA hC) cf_X1_next w_276 (k_X1_next l g ρ dt (up2 σ 64 0 ((σ 64 0) + (1 : Int32)))  hTx q29_hp) ⟨by decide, by decide⟩ hl.1 rfl rfl (Nat.le_of_ble_eq_true rfl) dX1_takesTest_29 ⟨Nat.zero_le _, Nat.zero_le _⟩ ?_
    have q32_hi : 1 < 6 := by
      have : ((0 : Int32)).toInt = 0 := by decide
      have := ti_le.mp c_11
      omega
    refine j_ciV (rest := []) (As := [.int ((f_X1_next (up2 σ 64 0 ((σ 64 0) + (1 : Int32))) ))]) (i := 1) C0 hB.2.1 (hC.2.2.mono hA) (by decide) rfl cf_J0_indexOf_0f7a4 w_360 (k_J0_indexOf_0f7a4 l _ _ _ 1 (f_X1_next (up2 σ 64 0 ((σ 64 0) + (1 : Int32))) ) q32_hi) ⟨by decide, by decide⟩ hl.1 rfl rfl (Nat.le_of_ble_eq_true rfl) dX1_takesTest_32 ⟨Nat.zero_le _, Nat.zero_le _⟩ ?_
    refine lv_istore_n (lv' := [(2, .int ((f_J0_indexOf_0f7a4 1 (f_X1_next (up2 σ 64 0 ((σ 64 0) + (1 : Int32))) )))), (1, .int ((f_J0_indexOf_0f7a4 0 (f_X1_next σ )))), (0, .ref (g.2.2 103))]) hx hb dX1_takesTest_35 rfl hl (by decide) rfl (fun ls hl => ?_)
    refine lv_iload_n hx hb dX1_takesTest_36 rfl (lv_at hl 0 rfl) ?_
    refine lv_if_ge (tgt := 42) hx hb dX1_takesTest_37 (by decide) (fun c_37 => ?_) (fun c_37 => ?_)
    · have hT := hT_pos c_37 hT
      obtain ⟨S2, -⟩ := rc_64 S1.2.1 (nx_lt (jidx_ne (by decide) c_37))
      refine lv_aload_n hx hb dX1_takesTest_42 rfl (lv_at hl 2 rfl) ?_
      refine lv_dup hx hb dX1_takesTest_43 rfl ?_
      refine x_get (σ := (up2 σ 64 0 ((σ 64 0) + (1 : Int32)))) (v := .int (((σ 64 0) + (1 : Int32)))) (fs := xF3 g ρ (up2 σ 64 0 ((σ 64 0) + (1 : Int32)))) 1 3 C0 uw_1 dc_1 hK hC.1 rfl rfl 4 (by decide) rfl w_192 dX1_takesTest_44 ?_
      refine lv_iconst (v := (1 : Int32)) hx hb dX1_takesTest_47 (by decide) ?_
      refine lv_iadd hx hb dX1_takesTest_48 ?_
      refine x_put (σ := (up2 σ 64 0 ((σ 64 0) + (1 : Int32)))) (ty := .int) (fs := xF3 g ρ (up2 σ 64 0 ((σ 64 0) + (1 : Int32)))) 1 3 C0 uw_1 dc_1 tyX1 tyX1_ok nmX1 hK hC rfl rfl 4 (by decide) rfl rfl rfl rfl (Nat.le_of_ble_eq_true rfl) (xs_64 g ρ _ _) w_192 dX1_takesTest_49 (fun H locs hC => ?_)
      refine lv_aload_n hx hb dX1_takesTest_52 rfl (lv_at hl 2 rfl) ?_
      have q53_hR : RC (up2 (up2 σ 64 0 ((σ 64 0) + (1 : Int32))) 64 0 (((σ 64 0) + (1 : Int32)) + (1 : Int32))) := S2.2.1
      refine x_mi (rest := []) (As := []) (σ := (up2 (up2 σ 64 0 ((σ 64 0) + (1 : Int32))) 64 0 (((σ 64 0) + (1 : Int32)) + (1 : Int32)))) (ρ := ρ) (dt := dt) (T := TX1) (N := 8) (fs := xF3 g ρ (up2 (up2 σ 64 0 ((σ 64 0) + (1 : Int32))) 64 0 (((σ 64 0) + (1 : Int32)) + (1 : Int32)))) 1 3 rfl rfl C0 hK hC (XH.wa hB.1 hA hC) cf_X1_takesNumber w_343 (k_X1_takesNumber l g ρ dt (up2 (up2 σ 64 0 ((σ 64 0) + (1 : Int32))) 64 0 (((σ 64 0) + (1 : Int32)) + (1 : Int32)))  hTx q53_hR) ⟨by decide, by decide⟩ hl.1 rfl rfl (Nat.le_of_ble_eq_true rfl) dX1_takesTest_53 ⟨Nat.zero_le _, Nat.zero_le _⟩ (fun r53 u53 H locs e53 hC => ?_)
      have hT := bd_e e53 hT
      have S53 : RQ 0 (up2 (up2 σ 64 0 ((σ 64 0) + (1 : Int32))) 64 0 (((σ 64 0) + (1 : Int32)) + (1 : Int32))) u53 := by rw [show u53 = _ from congrArg Prod.snd e53]; exact (tnum_q S2.2.1).1
      refine lv_if_ne (tgt := 61) hx hb dX1_takesTest_56 (by decide) (fun c_56 => ?_) (fun c_56 => ?_)
      · have hT := hT_neg c_56 hT
        refine lv_aload_n hx hb dX1_takesTest_61 rfl (lv_at hl 2 rfl) ?_
        refine lv_iconst (v := (0 : Int32)) hx hb dX1_takesTest_62 (by decide) ?_
        refine lv_iload_n hx hb dX1_takesTest_63 rfl (lv_at hl 1 rfl) ?_
        refine lv_iload_n hx hb dX1_takesTest_64 rfl (lv_at hl 0 rfl) ?_
        refine lv_aload_n hx hb dX1_takesTest_65 rfl (lv_at hl 2 rfl) ?_
        refine x_get (σ := u53) (v := .int ((u53 65 0))) (fs := xF3 g ρ u53) 1 3 C0 uw_1 dc_1 hK hC.1 rfl rfl 5 (by decide) rfl w_194 dX1_takesTest_66 ?_
        refine s_cn (rest := [.int ((0 : Int32)), .ref (g.2.2 103)]) (As := [.int ((f_J0_indexOf_0f7a4 0 (f_X1_next σ ))), .int ((f_J0_indexOf_0f7a4 1 (f_X1_next (up2 σ 64 0 ((σ 64 0) + (1 : Int32))) ))), .int ((u53 65 0))]) C0 cf_X2_packed hK.2 w_420 (k_X2_packed l (f_J0_indexOf_0f7a4 0 (f_X1_next σ )) (f_J0_indexOf_0f7a4 1 (f_X1_next (up2 σ 64 0 ((σ 64 0) + (1 : Int32))) )) (u53 65 0) ) ⟨by decide, by decide⟩ hl.1 rfl rfl (Nat.le_of_ble_eq_true rfl) dX1_takesTest_69 ⟨Nat.zero_le _, Nat.zero_le _⟩ ?_
        have q72_h61 : 0 ≤ (u53 61 0).toInt := S53.2.1.2.2.2.1
        refine x_mv (rest := []) (As := [.int ((0 : Int32)), .int ((f_X2_packed (f_J0_indexOf_0f7a4 0 (f_X1_next σ )) (f_J0_indexOf_0f7a4 1 (f_X1_next (up2 σ 64 0 ((σ 64 0) + (1 : Int32))) )) (u53 65 0)))]) (σ := u53) (ρ := ρ) (dt := dt) (T := TX1) (N := 8) (fs := xF3 g ρ u53) 1 3 rfl rfl C0 hK hC (XH.wa hB.1 hA hC) cf_X1_emit w_423 (k_X1_emit l g ρ dt u53 (0 : Int32) (f_X2_packed (f_J0_indexOf_0f7a4 0 (f_X1_next σ )) (f_J0_indexOf_0f7a4 1 (f_X1_next (up2 σ 64 0 ((σ 64 0) + (1 : Int32))) )) (u53 65 0)) q72_h61) ⟨by decide, by decide⟩ hl.1 rfl rfl (Nat.le_of_ble_eq_true rfl) dX1_takesTest_72 ⟨Nat.zero_le _, Nat.zero_le _⟩ (fun u72 H locs e72 hC => ?_)
        have hT := bd1_e e72 hT
        refine lv_iconst (v := (1 : Int32)) hx hb dX1_takesTest_75 (by decide) ?_
        exact ret_MZ C0 (nz_of (Or.inr rfl)) hC hT dX1_takesTest_76
      · have hT := hT_pos c_56 hT
        refine lv_iconst (v := (0 : Int32)) hx hb dX1_takesTest_59 (by decide) ?_
        exact ret_MZ C0 (nz_of (Or.inl rfl)) hC hT dX1_takesTest_60
    · have hT := hT_neg c_37 hT
      refine lv_iconst (v := (0 : Int32)) hx hb dX1_takesTest_40 (by decide) ?_
      exact ret_MZ C0 (nz_of (Or.inl rfl)) hC hT dX1_takesTest_41
  · have hT := hT_neg c_11 hT
    refine lv_iconst (v := (0 : Int32)) hx hb dX1_takesTest_14 (by decide) ?_
    exact ret_MZ C0 (nz_of (Or.inl rfl)) hC hT dX1_takesTest_15
theorem test_q {σ : St} (h : RC σ) : RQ 0 σ (f_X1_takesTest σ).2 := by
  unfold f_X1_takesTest
  by_cases c1 : 0 ≤ f_J0_indexOf_0f7a4 0 (f_X1_next σ)
  · rw [if_pos c1]
    obtain ⟨S1, -⟩ := rc_64 h (nx_lt (jidx_ne (by decide) c1))
    by_cases c2 : 0 ≤ f_J0_indexOf_0f7a4 1 (f_X1_next (up2 σ 64 0 (σ 64 0 + 1)))
    · rw [if_pos c2]
      obtain ⟨S2, -⟩ := rc_64 S1.2.1 (nx_lt (jidx_ne (by decide) c2))
      have S3 := (tnum_q S2.2.1).1
      have S := (S1.tr S2).tr S3
      dsimp only [bd, bd1]
      split
      · exact S.le (by decide)
      · exact (S.tr (emit_q S3.2.1 _ _)).le (by decide)
    · rw [if_neg c2]
      exact S1.le (by decide)
  · rw [if_neg c1]
    exact RQ.rfl h
