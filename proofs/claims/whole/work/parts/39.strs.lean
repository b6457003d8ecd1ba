
/-! STRINGS: the six literals, and what the JDK's own methods answer over them -/
def lenS : List Nat := [6, 3, 6, 5, 4, 5]
def bytS : List (List Int32) := [[115, 107, 118, 108, 110, 119], [60, 61, 62], [98, 111, 97, 114, 100, 32], [115, 116, 101, 112, 32], [111, 102, 102, 32], [119, 101, 97, 114, 32]]
abbrev SIO : String := "Ljava/util/function/BiFunction;"
def ZB (aK aV : Nat → Nat) (A : Nat → Prop) (U : State) : Prop := vk_S 6 lenS bytS aK aV A U U.heap ∧ va_Z RJ0 "COMPACT_STRINGS" "Z" (.int 1) A U U.heap ∧ va_Zq RJ3 "SIOOBE_FORMATTER" SIO A U U.heap
theorem ZB.sv {aK aV : Nat → Nat} {A : Nat → Prop} : SV (ZB aK aV A) := fun U U' hh hv h => by
  have ha : U.vm.Alike U'.vm := by rw [hv]; exact Vm.Alike.refl _
  obtain ⟨h1, h2, h3⟩ := h
  rw [hh] at h1 h2 h3
  exact ⟨h1.moved ha, h2.moved ha, h3.moved ha⟩
theorem ZB.to {aK aV : Nat → Nat} {A : Nat → Prop} {s U : State} {H : Heap} {locs : List Loc} (h : ZB aK aV A s) (hS : va_S A s.heap H locs) (hU : U.heap = H) (hW : s.WarmedH U.vm) : ZB aK aV A U := by
  obtain ⟨h1, h2, h3⟩ := h
  subst hU
  exact ⟨(h1.moved hW.alike).kept hS.2.1, (h2.moved hW.alike).kept hS.2.1, (h3.moved hW.alike).kept hS.2.1⟩
theorem ZB.narrow {aK aV : Nat → Nat} {A B : Nat → Prop} {U : State} (h : ZB aK aV A U) (hAB : ∀ q, B q → A q) : ZB aK aV B U := ⟨h.1.narrow hAB, h.2.1.narrow hAB, h.2.2.narrow hAB⟩
theorem va_S.mono {A B : Nat → Prop} {H0 H : Heap} {locs : List Loc} (h : va_S A H0 H locs) (hAB : ∀ q, A q → B q) : va_S B H0 H locs := ⟨h.1, fun q h1 h2 => h.2.1 q h1 (fun z => h2 (hAB q z)), fun z hz => hAB _ (h.2.2 z hz)⟩
/-- a method that only returns, writes nothing and makes nothing -/
def vp_Sv : Array Value → State → Outcome → State → Prop := fun _ st o t => o = .returned none ∧ t.heap = st.heap
def PV (l : Launch) (y : MethodName) (ws : List Cond) (rm : Room) (av : List Value) (B : State → Prop) : Prop := Met l y ws rm (va_Pc av B) vp_Sv 0 0 (fun _ => False)
section SROWS
variable {p : Program} {l : Launch} {e : Env} {R : Room} {s : State} {m : MethodId} {args : Array Value} {below : List Frame} {meth : Method} {c : Code} {H : Heap} {locs : List Loc} {cells slots : Nat} {Q : State → Prop}
variable {cc : ByteArray} {nL pc : Nat} {ret0 : Option FieldType} {ls : Array Slot} {rest st0 : List Value} {idx : Nat} {A : Nat → Prop} {own : String} {aK aV : Nat → Nat} {i : Nat}
variable {y : MethodName} {cy : ByteArray} {maxL n : Nat} {ret : Option FieldType} {fr lo : Nat} {As : List Value}
theorem vp_callSv {a : Array Value} (hr : CallRun p l e R s m args below meth c H locs cells slots 0 0 (F0 m pc ls st0) rest (vp_Sv a) (fun _ => False))
    (kk : W p l e R s m args below meth c H locs cells slots Q (F0 m (pc + 3) ls rest)) : W p l e R s m args below meth c H locs cells slots Q (F0 m pc ls st0) := by
  intro T hT X
  obtain ⟨v, st₀, t, T', L, h0, X', hL, e1, ⟨hv, hh⟩, st⟩ := hr T hT X
  cases hv
  obtain ⟨t2, a1, b1⟩ := kk T' (by rw [e1, hh, h0]) (Stand.forget X' (fun q h => (hL q h).elim))
  exact ⟨t2, st t2 a1, b1⟩
theorem ret_PV (C0 : BC p s m args meth c cc own nL none) (hdg : decode cc pc = .ok (.return_, 1)) : W p l e R s m args below meth c s.heap [] 0 0 (MQ below vp_Sv args s 0 0 (fun _ => False)) (F0 m pc ls []) :=
  W.vret C0.1 C0.2.1 C0.2.2.1 (fun t ht _ => ⟨rfl, ht⟩) (fun q h => by cases h) hdg C0.2.2.2.2.2.2
theorem j_ciV {F : Int32} (C0 : BC p s m args meth c cc own nL ret0) (hZB : ZB aK aV A s) (hS : va_S A s.heap H locs) (hi : i < 6) (hy : y.cls = RJ0) (hF : CF y cy maxL ret n) (hl : Cond.methodLink own idx y ∈ TB) (hM : PI l y (wsF y cy maxL ret) { frames := fr, cells := 0, slots := 0, locals := lo } (.ref (aK i) :: As) (ZB aK aV A) F) (hR : fr + 1 ≤ R.frames ∧ 8 + (maxL + 11) + lo ≤ R.locals) (hsz : ls.size = nL) (hst : st0 = As.reverse ++ .ref (aK i) :: rest) (hn : As.length = n) (hW : (rest.map fun v => v.category).sum ≤ 8) (hdg : decode cc pc = .ok (.invokevirtual idx, 3)) (hf : cells ≤ R.cells ∧ slots ≤ R.slots) (kk : W p l e R s m args below meth c H locs cells slots Q (F0 m (pc + 3) ls (.int F :: rest))) : W p l e R s m args below meth c H locs cells slots Q (F0 m pc ls st0) :=
  aft_i (run_V C0 hF hl hR hM ⟨ZB.sv.blind, by rw [hy]; exact vk_recv hZB.1 hi hS, fun U hU hW => ⟨rfl, hZB.to hS hU hW⟩⟩ hn hsz hst hW hdg hf) kk
theorem j_ciS {F : Int32} (C0 : BC p s m args meth c cc own nL ret0) (hZB : ZB aK aV A s) (hS : va_S A s.heap H locs) (hF : CG y cy maxL ret n) (hl : Cond.methodLink own idx y ∈ TB) (hM : PI l y (wsF y cy maxL ret) { frames := fr, cells := 0, slots := 0, locals := lo } As (ZB aK aV A) F) (hR : fr + 1 ≤ R.frames ∧ 8 + (maxL + 11) + lo ≤ R.locals) (hsz : ls.size = nL) (hst : st0 = As.reverse ++ rest) (hn : As.length = n) (hW : (rest.map fun v => v.category).sum ≤ 8) (hdg : decode cc pc = .ok (.invokestatic idx, 3)) (hf : cells ≤ R.cells ∧ slots ≤ R.slots) (kk : W p l e R s m args below meth c H locs cells slots Q (F0 m (pc + 3) ls (.int F :: rest))) : W p l e R s m args below meth c H locs cells slots Q (F0 m pc ls st0) :=
  aft_i (run_S C0 hF hl hR hM ⟨ZB.sv.blind, fun U hU hW => ⟨rfl, hZB.to hS hU hW⟩⟩ hn hsz hst hW hdg hf) kk
theorem j_cvS (C0 : BC p s m args meth c cc own nL ret0) (hZB : ZB aK aV A s) (hS : va_S A s.heap H locs) (hF : CG y cy maxL ret n) (hl : Cond.methodLink own idx y ∈ TB) (hM : PV l y (wsF y cy maxL ret) { frames := fr, cells := 0, slots := 0, locals := lo } As (ZB aK aV A)) (hR : fr + 1 ≤ R.frames ∧ 8 + (maxL + 11) + lo ≤ R.locals) (hsz : ls.size = nL) (hst : st0 = As.reverse ++ rest) (hn : As.length = n) (hW : (rest.map fun v => v.category).sum ≤ 8) (hdg : decode cc pc = .ok (.invokestatic idx, 3)) (hf : cells ≤ R.cells ∧ slots ≤ R.slots) (kk : W p l e R s m args below meth c H locs cells slots Q (F0 m (pc + 3) ls rest)) : W p l e R s m args below meth c H locs cells slots Q (F0 m pc ls st0) :=
  vp_callSv (run_of_va (run_S C0 hF hl hR hM ⟨ZB.sv.blind, fun U hU hW => ⟨rfl, hZB.to hS hU hW⟩⟩ hn hsz hst hW hdg hf)) kk
end SROWS
theorem start_PV {l : Launch} {y : MethodName} {cy : ByteArray} {maxL : Nat} {ret : Option FieldType} {rm : Room} {av : List Value} {B : State → Prop} (hy : plainName y.cls = true) (hlen : (lg_sl av).length ≤ maxL)
    (body : ∀ (p : Program) (e : Env) (s : State) (m : MethodId) (args : Array Value) (below : List Frame) (meth : Method) (c : Code), BC p s m args meth c cy y.cls maxL ret → B s → ∀ ls : Array Slot, lv_has ls maxL (lv_args 0 av) →
      W p l e rm s m args below meth c s.heap [] 0 0 (MQ below vp_Sv args s 0 0 (fun _ => False)) (F0 m 0 ls [])) : PV l y (wsF y cy maxL ret) rm av B := by
  refine Met.ofW (cc := cy) (maxL := maxL) (ret := ret) hy rfl ?_
  intro p e s m args below meth c s₁ Bd hml hv
  obtain ⟨rfl, hB⟩ := hv
  have hts := atoms_spec (ws := wsF y cy maxL ret) Bd.pre
  rw [lg_entry_eq]
  exact body p e s m _ below meth c ⟨Bd.exec, Bd.bytes, Bd.returns, hml, findClass_of_methodNamed Bd.named, fun w hw => hts w (List.mem_cons_of_mem _ hw), Bd.notSynchronized⟩ hB _ (lv_entry av hlen)

theorem dJ3_checkIndex_8e157_0 : decode cJ3_checkIndex_8e157 0 = .ok (.iload_n 0, 1) := by decide +kernel
theorem dJ3_checkIndex_8e157_1 : decode cJ3_checkIndex_8e157 1 = .ok (.ifCond .lt 8, 3) := by decide +kernel
theorem dJ3_checkIndex_8e157_4 : decode cJ3_checkIndex_8e157 4 = .ok (.iload_n 0, 1) := by decide +kernel
theorem dJ3_checkIndex_8e157_5 : decode cJ3_checkIndex_8e157 5 = .ok (.iload_n 1, 1) := by decide +kernel
theorem dJ3_checkIndex_8e157_6 : decode cJ3_checkIndex_8e157 6 = .ok (.if_icmp .lt 10, 3) := by decide +kernel
theorem dJ3_checkIndex_8e157_9 : decode cJ3_checkIndex_8e157 9 = .ok (.aload_n 2, 1) := by decide +kernel
theorem dJ3_checkIndex_8e157_10 : decode cJ3_checkIndex_8e157 10 = .ok (.iload_n 0, 1) := by decide +kernel
theorem dJ3_checkIndex_8e157_11 : decode cJ3_checkIndex_8e157 11 = .ok (.iload_n 1, 1) := by decide +kernel
theorem dJ3_checkIndex_8e157_12 : decode cJ3_checkIndex_8e157 12 = .ok (.invokestatic 95, 3) := by decide +kernel
theorem dJ3_checkIndex_8e157_15 : decode cJ3_checkIndex_8e157 15 = .ok (.athrow, 1) := by decide +kernel
theorem dJ3_checkIndex_8e157_16 : decode cJ3_checkIndex_8e157 16 = .ok (.iload_n 0, 1) := by decide +kernel
theorem dJ3_checkIndex_8e157_17 : decode cJ3_checkIndex_8e157 17 = .ok (.ireturn, 1) := by decide +kernel
theorem dJ0_checkIndex_df160_0 : decode cJ0_checkIndex_df160 0 = .ok (.iload_n 0, 1) := by decide +kernel
theorem dJ0_checkIndex_df160_1 : decode cJ0_checkIndex_df160 1 = .ok (.iload_n 1, 1) := by decide +kernel
theorem dJ0_checkIndex_df160_2 : decode cJ0_checkIndex_df160 2 = .ok (.getstatic 1053, 3) := by decide +kernel
theorem dJ0_checkIndex_df160_5 : decode cJ0_checkIndex_df160 5 = .ok (.invokestatic 1059, 3) := by decide +kernel
theorem dJ0_checkIndex_df160_8 : decode cJ0_checkIndex_df160 8 = .ok (.pop, 1) := by decide +kernel
theorem dJ0_checkIndex_df160_9 : decode cJ0_checkIndex_df160 9 = .ok (.return_, 1) := by decide +kernel
set_option maxRecDepth 20000 in
theorem w_315 : (Cond.fieldLink RJ0 1053 RJ3 "SIOOBE_FORMATTER" "Ljava/util/function/BiFunction;") ∈ TB := inTB (List.mem_of_getElem? (i := 315) (by decide +kernel)) (by decide +kernel)
set_option maxRecDepth 20000 in
theorem w_317 : (Cond.methodLink RJ0 1059 yJ3_checkIndex_8e157) ∈ TB := inTB (List.mem_of_getElem? (i := 317) (by decide +kernel)) (by decide +kernel)
set_option maxRecDepth 20000 in
theorem w_319 : (Cond.code yJ3_checkIndex_8e157 cJ3_checkIndex_8e157 3 (some .int)) ∈ TB := inTB (List.mem_of_getElem? (i := 319) (by decide +kernel)) (by decide +kernel)
set_option maxRecDepth 20000 in
theorem w_318 : (Cond.static yJ3_checkIndex_8e157) ∈ TB := inTB (List.mem_of_getElem? (i := 318) (by decide +kernel)) (by decide +kernel)
set_option maxRecDepth 20000 in
theorem w_78 : (Cond.initialized RJ3) ∈ TB := inTB (List.mem_of_getElem? (i := 78) (by decide +kernel)) (by decide +kernel)
theorem cf_J3_checkIndex_8e157 : CG yJ3_checkIndex_8e157 cJ3_checkIndex_8e157 3 (some .int) 3 := ⟨w_318, w_78, w_319, by decide +kernel, by decide +kernel, by decide +kernel⟩
theorem k_J3_checkIndex (l : Launch) (aK aV : Nat → Nat) (A : Nat → Prop) (sv : Value) (hv : sv = .null ∨ ∃ t, sv = .ref t) (a0 a1 : Int32) (h0 : 0 ≤ a0.toInt) (h1 : a0.toInt < a1.toInt) : PI l yJ3_checkIndex_8e157 (wsF yJ3_checkIndex_8e157 cJ3_checkIndex_8e157 3 (some .int)) { frames := 0, cells := 0, slots := 0, locals := 0 } [.int a0, .int a1, sv] (ZB aK aV A) a0 := by
  refine start_PI (by decide) (by rcases hv with rfl | ⟨t, rfl⟩ <;> exact Nat.le_of_ble_eq_true rfl) ?_
  intro p e s m args below meth c C0 hZB ls hl
  obtain ⟨hx, hb, hr, hml, hown, hts, hlocks⟩ := id C0
  have hl : lv_has ls 3 [(0, .int a0), (1, .int a1), (2, sv)] := hl
  refine lv_iload_n hx hb dJ3_checkIndex_8e157_0 rfl (lv_at hl 0 rfl) ?_
  refine lv_if_lt (tgt := 9) hx hb dJ3_checkIndex_8e157_1 (by decide) (fun c => ?_) (fun c => ?_)
  · exact absurd (ti_lt.mp c) (by have e0 : (0 : Int32).toInt = 0 := rfl; omega)
  · refine lv_iload_n hx hb dJ3_checkIndex_8e157_4 rfl (lv_at hl 0 rfl) ?_
    refine lv_iload_n hx hb dJ3_checkIndex_8e157_5 rfl (lv_at hl 1 rfl) ?_
    refine lv_icmp_lt (tgt := 16) hx hb dJ3_checkIndex_8e157_6 (by decide) (fun c => ?_) (fun c => ?_)
    · refine lv_iload_n hx hb dJ3_checkIndex_8e157_16 rfl (lv_at hl 0 rfl) ?_
      exact ret_PI C0 rfl dJ3_checkIndex_8e157_17
    · exact absurd (ti_lt.mpr h1) c
theorem k_J0_checkIndex (l : Launch) (aK aV : Nat → Nat) (A : Nat → Prop) (a0 a1 : Int32) (hin : 0 ≤ a0.toInt ∧ a0.toInt < a1.toInt) : PV l yJ0_checkIndex_df160 (wsF yJ0_checkIndex_df160 cJ0_checkIndex_df160 2 none) { frames := 1, cells := 0, slots := 0, locals := 22 } [.int a0, .int a1] (ZB aK aV A) := by
  refine start_PV (by decide) (Nat.le_of_ble_eq_true rfl) ?_
  intro p e s m args below meth c C0 hZB ls hl
  obtain ⟨hx, hb, hr, hml, hown, hts, hlocks⟩ := id C0
  have hl : lv_has ls 2 [(0, .int a0), (1, .int a1)] := hl
  have hZ : ∃ sv : Value, (sv = .null ∨ ∃ t, sv = .ref t) ∧ va_Z RJ3 "SIOOBE_FORMATTER" SIO sv A s s.heap := by
    rcases hZB.2.2 with h | ⟨t, h⟩
    · exact ⟨_, Or.inl rfl, h⟩
    · exact ⟨_, Or.inr ⟨t, rfl⟩, h⟩
  obtain ⟨sv, hv, hZ⟩ := hZ
  refine lv_iload_n hx hb dJ0_checkIndex_df160_0 rfl (lv_at hl 0 rfl) ?_
  refine lv_iload_n hx hb dJ0_checkIndex_df160_1 rfl (lv_at hl 1 rfl) ?_
  refine va_gets hx hb hZ va_S.rf hown (hts _ w_315) (fun _ h => h) dJ0_checkIndex_df160_2 ?_
  refine j_ciS (rest := []) (As := [.int a0, .int a1, sv]) C0 hZB va_S.rf cf_J3_checkIndex_8e157 w_317 (k_J3_checkIndex l aK aV A sv hv a0 a1 hin.1 hin.2) ⟨by decide, by decide⟩ hl.1 rfl rfl (Nat.le_of_ble_eq_true rfl) dJ0_checkIndex_df160_5 ⟨Nat.zero_le _, Nat.zero_le _⟩ ?_
  refine lv_pop hx hb dJ0_checkIndex_df160_8 rfl ?_
  exact ret_PV C0 dJ0_checkIndex_df160_9
theorem jlen_b {i : Nat} (h : i < 6) : lenS.getD i 0 < 7 := by
  rcases (show i = 0 ∨ i = 1 ∨ i = 2 ∨ i = 3 ∨ i = 4 ∨ i = 5 by omega) with rfl | rfl | rfl | rfl | rfl | rfl <;> decide
theorem jlen_t {i : Nat} (h : i < 6) : (Int32.ofNat (lenS.getD i 0)).toInt = lenS.getD i 0 := nI_toInt (by have := jlen_b h; omega)
set_option maxRecDepth 20000 in
theorem w_299 : (Cond.fieldLink RJ0 38 RJ0 "COMPACT_STRINGS" "Z") ∈ TB := inTB (List.mem_of_getElem? (i := 299) (by decide +kernel)) (by decide +kernel)
set_option maxRecDepth 20000 in
theorem w_1362 : (Cond.fieldLink RJ0 15 RJ0 "coder" "B") ∈ TB := inTB (List.mem_of_getElem? (i := 1362) (by decide +kernel)) (by decide +kernel)
/-! java/lang/String.coder -/
theorem dJ0_coder_7d493_0 : decode cJ0_coder_7d493 0 = .ok (.getstatic 38, 3) := by decide +kernel
theorem dJ0_coder_7d493_3 : decode cJ0_coder_7d493 3 = .ok (.ifCond .eq 10, 3) := by decide +kernel
theorem dJ0_coder_7d493_6 : decode cJ0_coder_7d493 6 = .ok (.aload_n 0, 1) := by decide +kernel
theorem dJ0_coder_7d493_7 : decode cJ0_coder_7d493 7 = .ok (.getfield 15, 3) := by decide +kernel
theorem dJ0_coder_7d493_10 : decode cJ0_coder_7d493 10 = .ok (.goto 4, 3) := by decide +kernel
theorem dJ0_coder_7d493_13 : decode cJ0_coder_7d493 13 = .ok (.iconst 1, 1) := by decide +kernel
theorem dJ0_coder_7d493_14 : decode cJ0_coder_7d493 14 = .ok (.ireturn, 1) := by decide +kernel
def f_J0_coder_7d493 (a0 : Nat) : Int32 := (0 : Int32)
set_option maxHeartbeats 600000 in
set_option maxRecDepth 100000 in
theorem k_J0_coder_7d493 (l : Launch) (aK aV : Nat → Nat) (A : Nat → Prop) (a0 : Nat) (hi : a0 < 6) : PI l yJ0_coder_7d493 (wsF yJ0_coder_7d493 cJ0_coder_7d493 1 (some .byte)) { frames := 0, cells := 0, slots := 0, locals := 0 } [.ref (aK a0)] (ZB aK aV A) (f_J0_coder_7d493 a0) := by
  refine start_PI (by decide) (Nat.le_of_ble_eq_true rfl) ?_
  intro p e s m args below meth c C0 hG ls hl
  have hZB := hG
  obtain ⟨hx, hb, hr, hml, hown, hts, hlocks⟩ := id C0
  have hl : lv_has ls 1 [(0, .ref (aK a0))] := hl
  generalize hT : (f_J0_coder_7d493 a0) = tgt
  unfold f_J0_coder_7d493 at hT
  refine va_gets hx hb hZB.2.1 va_S.rf hown (hts _ w_299) (fun _ h => h) dJ0_coder_7d493_0 ?_
  refine lv_if_eq (tgt := 13) hx hb dJ0_coder_7d493_3 (by decide) (fun c_3 => ?_) (fun c_3 => ?_)
  · exact absurd c_3 (by decide)
  · have hT := hT
    refine lv_aload_n hx hb dJ0_coder_7d493_6 rfl (lv_at hl 0 rfl) ?_
    refine vk_getf hx hb (hZB.1.1 _ hi).2.1 va_S.rf hown (hts _ w_1362) (fun _ h => h) dJ0_coder_7d493_7 ?_
    refine lv_goto (tgt := 14) hx hb dJ0_coder_7d493_10 (by decide) ?_
    exact ret_PZ C0 rfl hT dJ0_coder_7d493_14
set_option maxRecDepth 20000 in
theorem w_1361 : (Cond.fieldLink RJ0 9 RJ0 "value" "[B") ∈ TB := inTB (List.mem_of_getElem? (i := 1361) (by decide +kernel)) (by decide +kernel)
set_option maxRecDepth 20000 in
theorem w_295 : (Cond.methodLink RJ0 335 yJ0_coder_7d493) ∈ TB := inTB (List.mem_of_getElem? (i := 295) (by decide +kernel)) (by decide +kernel)
set_option maxRecDepth 20000 in
theorem w_298 : (Cond.code yJ0_coder_7d493 cJ0_coder_7d493 1 (some .byte)) ∈ TB := inTB (List.mem_of_getElem? (i := 298) (by decide +kernel)) (by decide +kernel)
set_option maxRecDepth 20000 in
theorem w_296 : (Cond.instanceMethod yJ0_coder_7d493) ∈ TB := inTB (List.mem_of_getElem? (i := 296) (by decide +kernel)) (by decide +kernel)
set_option maxRecDepth 20000 in
theorem w_297 : (Cond.selects RJ0 yJ0_coder_7d493 yJ0_coder_7d493) ∈ TB := inTB (List.mem_of_getElem? (i := 297) (by decide +kernel)) (by decide +kernel)
set_option maxRecDepth 20000 in
theorem w_76 : (Cond.initialized RJ0) ∈ TB := inTB (List.mem_of_getElem? (i := 76) (by decide +kernel)) (by decide +kernel)
theorem cf_J0_coder_7d493 : CF yJ0_coder_7d493 cJ0_coder_7d493 1 (some .byte) 0 := ⟨w_296, w_297, w_76, w_298, by decide +kernel, by decide +kernel, by decide +kernel⟩
/-! java/lang/String.length -/
theorem dJ0_length_8abf5_0 : decode cJ0_length_8abf5 0 = .ok (.aload_n 0, 1) := by decide +kernel
theorem dJ0_length_8abf5_1 : decode cJ0_length_8abf5 1 = .ok (.getfield 9, 3) := by decide +kernel
theorem dJ0_length_8abf5_4 : decode cJ0_length_8abf5 4 = .ok (.arraylength, 1) := by decide +kernel
theorem dJ0_length_8abf5_5 : decode cJ0_length_8abf5 5 = .ok (.aload_n 0, 1) := by decide +kernel
theorem dJ0_length_8abf5_6 : decode cJ0_length_8abf5 6 = .ok (.invokevirtual 335, 3) := by decide +kernel
theorem dJ0_length_8abf5_9 : decode cJ0_length_8abf5 9 = .ok (.ishr, 1) := by decide +kernel
theorem dJ0_length_8abf5_10 : decode cJ0_length_8abf5 10 = .ok (.ireturn, 1) := by decide +kernel
def f_J0_length_8abf5 (a0 : Nat) : Int32 := ((Int32.ofNat (lenS.getD a0 0)) >>> ((f_J0_coder_7d493 a0) &&& 31))
set_option maxHeartbeats 600000 in
set_option maxRecDepth 100000 in
theorem k_J0_length_8abf5 (l : Launch) (aK aV : Nat → Nat) (A : Nat → Prop) (a0 : Nat) (hi : a0 < 6) : PI l yJ0_length_8abf5 (wsF yJ0_length_8abf5 cJ0_length_8abf5 1 (some .int)) { frames := 1, cells := 0, slots := 0, locals := 20 } [.ref (aK a0)] (ZB aK aV A) (f_J0_length_8abf5 a0) := by
  refine start_PI (by decide) (Nat.le_of_ble_eq_true rfl) ?_
  intro p e s m args below meth c C0 hG ls hl
  have hZB := hG
  obtain ⟨hx, hb, hr, hml, hown, hts, hlocks⟩ := id C0
  have hl : lv_has ls 1 [(0, .ref (aK a0))] := hl
  generalize hT : (f_J0_length_8abf5 a0) = tgt
  unfold f_J0_length_8abf5 at hT
  refine lv_aload_n hx hb dJ0_length_8abf5_0 rfl (lv_at hl 0 rfl) ?_
  refine vk_getf hx hb (hZB.1.1 _ hi).2.2.1 va_S.rf hown (hts _ w_1361) (fun _ h => h) dJ0_length_8abf5_1 ?_
  refine va_tlen hx hb (hZB.1.1 _ hi).2.2.2 va_S.rf rfl dJ0_length_8abf5_4 ?_
  refine lv_aload_n hx hb dJ0_length_8abf5_5 rfl (lv_at hl 0 rfl) ?_
  refine j_ciV (rest := [.int ((Int32.ofNat (lenS.getD a0 0)))]) (As := []) (i := a0) C0 hZB va_S.rf hi rfl cf_J0_coder_7d493 w_295 (k_J0_coder_7d493 l _ _ _ a0 hi) ⟨by decide, by decide⟩ hl.1 rfl rfl (Nat.le_of_ble_eq_true rfl) dJ0_length_8abf5_6 ⟨Nat.zero_le _, Nat.zero_le _⟩ ?_
  refine lv_ishr hx hb dJ0_length_8abf5_9 ?_
  exact ret_PI C0 hT dJ0_length_8abf5_10
theorem jlen_e (i : Nat) : f_J0_length_8abf5 i = Int32.ofNat (lenS.getD i 0) := sb_shr0 _
/-! java/lang/String.isLatin1 -/
theorem dJ0_isLatin1_aae02_0 : decode cJ0_isLatin1_aae02 0 = .ok (.getstatic 38, 3) := by decide +kernel
theorem dJ0_isLatin1_aae02_3 : decode cJ0_isLatin1_aae02 3 = .ok (.ifCond .eq 14, 3) := by decide +kernel
theorem dJ0_isLatin1_aae02_6 : decode cJ0_isLatin1_aae02 6 = .ok (.aload_n 0, 1) := by decide +kernel
theorem dJ0_isLatin1_aae02_7 : decode cJ0_isLatin1_aae02 7 = .ok (.getfield 15, 3) := by decide +kernel
theorem dJ0_isLatin1_aae02_10 : decode cJ0_isLatin1_aae02 10 = .ok (.ifCond .ne 7, 3) := by decide +kernel
theorem dJ0_isLatin1_aae02_13 : decode cJ0_isLatin1_aae02 13 = .ok (.iconst 1, 1) := by decide +kernel
theorem dJ0_isLatin1_aae02_14 : decode cJ0_isLatin1_aae02 14 = .ok (.goto 4, 3) := by decide +kernel
theorem dJ0_isLatin1_aae02_17 : decode cJ0_isLatin1_aae02 17 = .ok (.iconst 0, 1) := by decide +kernel
theorem dJ0_isLatin1_aae02_18 : decode cJ0_isLatin1_aae02 18 = .ok (.ireturn, 1) := by decide +kernel
def f_J0_isLatin1_aae02 (a0 : Nat) : Int32 := (1 : Int32)
set_option maxHeartbeats 600000 in
set_option maxRecDepth 100000 in
theorem k_J0_isLatin1_aae02 (l : Launch) (aK aV : Nat → Nat) (A : Nat → Prop) (a0 : Nat) (hi : a0 < 6) : PI l yJ0_isLatin1_aae02 (wsF yJ0_isLatin1_aae02 cJ0_isLatin1_aae02 1 (some .boolean)) { frames := 0, cells := 0, slots := 0, locals := 0 } [.ref (aK a0)] (ZB aK aV A) (f_J0_isLatin1_aae02 a0) := by
  refine start_PI (by decide) (Nat.le_of_ble_eq_true rfl) ?_
  intro p e s m args below meth c C0 hG ls hl
  have hZB := hG
  obtain ⟨hx, hb, hr, hml, hown, hts, hlocks⟩ := id C0
  have hl : lv_has ls 1 [(0, .ref (aK a0))] := hl
  generalize hT : (f_J0_isLatin1_aae02 a0) = tgt
  unfold f_J0_isLatin1_aae02 at hT
  refine va_gets hx hb hZB.2.1 va_S.rf hown (hts _ w_299) (fun _ h => h) dJ0_isLatin1_aae02_0 ?_
  refine lv_if_eq (tgt := 17) hx hb dJ0_isLatin1_aae02_3 (by decide) (fun c_3 => ?_) (fun c_3 => ?_)
  · exact absurd c_3 (by decide)
  · have hT := hT
    refine lv_aload_n hx hb dJ0_isLatin1_aae02_6 rfl (lv_at hl 0 rfl) ?_
    refine vk_getf hx hb (hZB.1.1 _ hi).2.1 va_S.rf hown (hts _ w_1362) (fun _ h => h) dJ0_isLatin1_aae02_7 ?_
    refine lv_if_ne (tgt := 17) hx hb dJ0_isLatin1_aae02_10 (by decide) (fun c_10 => ?_) (fun c_10 => ?_)
    · exact absurd rfl c_10
    · have hT := hT
      refine lv_iconst (v := (1 : Int32)) hx hb dJ0_isLatin1_aae02_13 (by decide) ?_
      refine lv_goto (tgt := 18) hx hb dJ0_isLatin1_aae02_14 (by decide) ?_
      exact ret_PZ C0 (nz_of (Or.inr rfl)) hT dJ0_isLatin1_aae02_18
set_option maxRecDepth 20000 in
theorem w_312 : (Cond.methodLink RJ1 9 yJ0_checkIndex_df160) ∈ TB := inTB (List.mem_of_getElem? (i := 312) (by decide +kernel)) (by decide +kernel)
set_option maxRecDepth 20000 in
theorem w_314 : (Cond.code yJ0_checkIndex_df160 cJ0_checkIndex_df160 2 none) ∈ TB := inTB (List.mem_of_getElem? (i := 314) (by decide +kernel)) (by decide +kernel)
set_option maxRecDepth 20000 in
theorem w_313 : (Cond.static yJ0_checkIndex_df160) ∈ TB := inTB (List.mem_of_getElem? (i := 313) (by decide +kernel)) (by decide +kernel)
theorem cf_J0_checkIndex_df160 : CG yJ0_checkIndex_df160 cJ0_checkIndex_df160 2 none 2 := ⟨w_313, w_76, w_314, by decide +kernel, by decide +kernel, by decide +kernel⟩
/-! java/lang/StringLatin1.charAt -/
theorem dJ1_charAt_3b067_0 : decode cJ1_charAt_3b067 0 = .ok (.iload_n 1, 1) := by decide +kernel
theorem dJ1_charAt_3b067_1 : decode cJ1_charAt_3b067 1 = .ok (.aload_n 0, 1) := by decide +kernel
theorem dJ1_charAt_3b067_2 : decode cJ1_charAt_3b067 2 = .ok (.arraylength, 1) := by decide +kernel
theorem dJ1_charAt_3b067_3 : decode cJ1_charAt_3b067 3 = .ok (.invokestatic 9, 3) := by decide +kernel
theorem dJ1_charAt_3b067_6 : decode cJ1_charAt_3b067 6 = .ok (.aload_n 0, 1) := by decide +kernel
theorem dJ1_charAt_3b067_7 : decode cJ1_charAt_3b067 7 = .ok (.iload_n 1, 1) := by decide +kernel
theorem dJ1_charAt_3b067_8 : decode cJ1_charAt_3b067 8 = .ok (.baload, 1) := by decide +kernel
theorem dJ1_charAt_3b067_9 : decode cJ1_charAt_3b067 9 = .ok (.sipush 255, 3) := by decide +kernel
theorem dJ1_charAt_3b067_12 : decode cJ1_charAt_3b067 12 = .ok (.iand, 1) := by decide +kernel
theorem dJ1_charAt_3b067_13 : decode cJ1_charAt_3b067 13 = .ok (.i2c, 1) := by decide +kernel
theorem dJ1_charAt_3b067_14 : decode cJ1_charAt_3b067 14 = .ok (.ireturn, 1) := by decide +kernel
def f_J1_charAt_3b067 (a0 : Nat) (a1 : Int32) : Int32 := (((((bytS.getD a0 []).getD (ix a1) 0) &&& (255 : Int32)).toUInt32 % 65536).toInt32)
set_option maxHeartbeats 600000 in
set_option maxRecDepth 100000 in
theorem k_J1_charAt_3b067 (l : Launch) (aK aV : Nat → Nat) (A : Nat → Prop) (a0 : Nat) (a1 : Int32) (hi : a0 < 6) (h1 : 0 ≤ a1.toInt) (h1b : a1.toInt < lenS.getD a0 0) : PI l yJ1_charAt_3b067 (wsF yJ1_charAt_3b067 cJ1_charAt_3b067 2 (some .char)) { frames := 2, cells := 0, slots := 0, locals := 43 } [.ref (aV a0), .int (a1)] (ZB aK aV A) (f_J1_charAt_3b067 a0 a1) := by
  refine start_PI (by decide) (Nat.le_of_ble_eq_true rfl) ?_
  intro p e s m args below meth c C0 hG ls hl
  have hZB := hG
  obtain ⟨hx, hb, hr, hml, hown, hts, hlocks⟩ := id C0
  have hl : lv_has ls 2 [(0, .ref (aV a0)), (1, .int (a1))] := hl
  generalize hT : (f_J1_charAt_3b067 a0 a1) = tgt
  unfold f_J1_charAt_3b067 at hT
  refine lv_iload_n hx hb dJ1_charAt_3b067_0 rfl (lv_at hl 1 rfl) ?_
  refine lv_aload_n hx hb dJ1_charAt_3b067_1 rfl (lv_at hl 0 rfl) ?_
  refine va_tlen hx hb (hZB.1.1 _ hi).2.2.2 va_S.rf rfl dJ1_charAt_3b067_2 ?_
  refine j_cvS (rest := []) (As := [.int (a1), .int ((Int32.ofNat (lenS.getD a0 0)))]) C0 hZB va_S.rf cf_J0_checkIndex_df160 w_312 (k_J0_checkIndex l aK aV A a1 (Int32.ofNat (lenS.getD a0 0)) ⟨h1, by rw [jlen_t hi]; exact h1b⟩) ⟨by decide, by decide⟩ hl.1 rfl rfl (Nat.le_of_ble_eq_true rfl) dJ1_charAt_3b067_3 ⟨Nat.zero_le _, Nat.zero_le _⟩ ?_
  refine lv_aload_n hx hb dJ1_charAt_3b067_6 rfl (lv_at hl 0 rfl) ?_
  refine lv_iload_n hx hb dJ1_charAt_3b067_7 rfl (lv_at hl 1 rfl) ?_
  have o_8 : vp_in a1 (lenS.getD a0 0) := (vp_in_iff.mpr ⟨h1, h1b⟩)
  refine va_tb hx hb (hZB.1.1 _ hi).2.2.2 va_S.rf o_8 rfl dJ1_charAt_3b067_8 ?_
  refine lv_sipush (v := (255 : Int32)) hx hb dJ1_charAt_3b067_9 (by decide) ?_
  refine lv_iand hx hb dJ1_charAt_3b067_12 ?_
  refine lv_i2c (v := ((((bytS.getD a0 []).getD (ix a1) 0) &&& (255 : Int32)).toUInt32 % 65536).toInt32) hx hb dJ1_charAt_3b067_13 rfl ?_
  exact ret_PZ C0 (pk_nc _) hT dJ1_charAt_3b067_14
set_option maxRecDepth 20000 in
theorem w_305 : (Cond.methodLink RJ0 492 yJ0_isLatin1_aae02) ∈ TB := inTB (List.mem_of_getElem? (i := 305) (by decide +kernel)) (by decide +kernel)
set_option maxRecDepth 20000 in
theorem w_308 : (Cond.code yJ0_isLatin1_aae02 cJ0_isLatin1_aae02 1 (some .boolean)) ∈ TB := inTB (List.mem_of_getElem? (i := 308) (by decide +kernel)) (by decide +kernel)
set_option maxRecDepth 20000 in
theorem w_306 : (Cond.instanceMethod yJ0_isLatin1_aae02) ∈ TB := inTB (List.mem_of_getElem? (i := 306) (by decide +kernel)) (by decide +kernel)
set_option maxRecDepth 20000 in
theorem w_307 : (Cond.selects RJ0 yJ0_isLatin1_aae02 yJ0_isLatin1_aae02) ∈ TB := inTB (List.mem_of_getElem? (i := 307) (by decide +kernel)) (by decide +kernel)
theorem cf_J0_isLatin1_aae02 : CF yJ0_isLatin1_aae02 cJ0_isLatin1_aae02 1 (some .boolean) 0 := ⟨w_306, w_307, w_76, w_308, by decide +kernel, by decide +kernel, by decide +kernel⟩
set_option maxRecDepth 20000 in
theorem w_309 : (Cond.methodLink RJ0 495 yJ1_charAt_3b067) ∈ TB := inTB (List.mem_of_getElem? (i := 309) (by decide +kernel)) (by decide +kernel)
set_option maxRecDepth 20000 in
theorem w_311 : (Cond.code yJ1_charAt_3b067 cJ1_charAt_3b067 2 (some .char)) ∈ TB := inTB (List.mem_of_getElem? (i := 311) (by decide +kernel)) (by decide +kernel)
set_option maxRecDepth 20000 in
theorem w_310 : (Cond.static yJ1_charAt_3b067) ∈ TB := inTB (List.mem_of_getElem? (i := 310) (by decide +kernel)) (by decide +kernel)
set_option maxRecDepth 20000 in
theorem w_77 : (Cond.initialized RJ1) ∈ TB := inTB (List.mem_of_getElem? (i := 77) (by decide +kernel)) (by decide +kernel)
theorem cf_J1_charAt_3b067 : CG yJ1_charAt_3b067 cJ1_charAt_3b067 2 (some .char) 2 := ⟨w_310, w_77, w_311, by decide +kernel, by decide +kernel, by decide +kernel⟩
/-! java/lang/String.charAt -/
theorem dJ0_charAt_5068e_0 : decode cJ0_charAt_5068e 0 = .ok (.aload_n 0, 1) := by decide +kernel
theorem dJ0_charAt_5068e_1 : decode cJ0_charAt_5068e 1 = .ok (.invokevirtual 492, 3) := by decide +kernel
theorem dJ0_charAt_5068e_4 : decode cJ0_charAt_5068e 4 = .ok (.ifCond .eq 12, 3) := by decide +kernel
theorem dJ0_charAt_5068e_7 : decode cJ0_charAt_5068e 7 = .ok (.aload_n 0, 1) := by decide +kernel
theorem dJ0_charAt_5068e_8 : decode cJ0_charAt_5068e 8 = .ok (.getfield 9, 3) := by decide +kernel
theorem dJ0_charAt_5068e_11 : decode cJ0_charAt_5068e 11 = .ok (.iload_n 1, 1) := by decide +kernel
theorem dJ0_charAt_5068e_12 : decode cJ0_charAt_5068e 12 = .ok (.invokestatic 495, 3) := by decide +kernel
theorem dJ0_charAt_5068e_15 : decode cJ0_charAt_5068e 15 = .ok (.ireturn, 1) := by decide +kernel
theorem dJ0_charAt_5068e_16 : decode cJ0_charAt_5068e 16 = .ok (.aload_n 0, 1) := by decide +kernel
theorem dJ0_charAt_5068e_17 : decode cJ0_charAt_5068e 17 = .ok (.getfield 9, 3) := by decide +kernel
theorem dJ0_charAt_5068e_20 : decode cJ0_charAt_5068e 20 = .ok (.iload_n 1, 1) := by decide +kernel
theorem dJ0_charAt_5068e_21 : decode cJ0_charAt_5068e 21 = .ok (.invokestatic 498, 3) := by decide +kernel
theorem dJ0_charAt_5068e_24 : decode cJ0_charAt_5068e 24 = .ok (.ireturn, 1) := by decide +kernel
def f_J0_charAt_5068e (a0 : Nat) (a1 : Int32) : Int32 := (f_J1_charAt_3b067 a0 a1)
set_option maxHeartbeats 600000 in
set_option maxRecDepth 100000 in
theorem k_J0_charAt_5068e (l : Launch) (aK aV : Nat → Nat) (A : Nat → Prop) (a0 : Nat) (a1 : Int32) (hi : a0 < 6) (h1 : 0 ≤ a1.toInt) (h1b : a1.toInt < lenS.getD a0 0) : PI l yJ0_charAt_5068e (wsF yJ0_charAt_5068e cJ0_charAt_5068e 2 (some .char)) { frames := 3, cells := 0, slots := 0, locals := 64 } [.ref (aK a0), .int (a1)] (ZB aK aV A) (f_J0_charAt_5068e a0 a1) := by
  refine start_PI (by decide) (Nat.le_of_ble_eq_true rfl) ?_
  intro p e s m args below meth c C0 hG ls hl
  have hZB := hG
  obtain ⟨hx, hb, hr, hml, hown, hts, hlocks⟩ := id C0
  have hl : lv_has ls 2 [(0, .ref (aK a0)), (1, .int (a1))] := hl
  generalize hT : (f_J0_charAt_5068e a0 a1) = tgt
  unfold f_J0_charAt_5068e at hT
  refine lv_aload_n hx hb dJ0_charAt_5068e_0 rfl (lv_at hl 0 rfl) ?_
  refine j_ciV (rest := []) (As := []) (i := a0) C0 hZB va_S.rf hi rfl cf_J0_isLatin1_aae02 w_305 (k_J0_isLatin1_aae02 l _ _ _ a0 hi) ⟨by decide, by decide⟩ hl.1 rfl rfl (Nat.le_of_ble_eq_true rfl) dJ0_charAt_5068e_1 ⟨Nat.zero_le _, Nat.zero_le _⟩ ?_
  refine lv_if_eq (tgt := 16) hx hb dJ0_charAt_5068e_4 (by decide) (fun c_4 => ?_) (fun c_4 => ?_)
  · exact absurd (show (1 : Int32) = 0 from c_4) (by decide)
  · have hT := hT
    refine lv_aload_n hx hb dJ0_charAt_5068e_7 rfl (lv_at hl 0 rfl) ?_
    refine vk_getf hx hb (hZB.1.1 _ hi).2.2.1 va_S.rf hown (hts _ w_1361) (fun _ h => h) dJ0_charAt_5068e_8 ?_
    refine lv_iload_n hx hb dJ0_charAt_5068e_11 rfl (lv_at hl 1 rfl) ?_
    refine j_ciS (rest := []) (As := [.ref (aV a0), .int (a1)]) C0 hZB va_S.rf cf_J1_charAt_3b067 w_309 (k_J1_charAt_3b067 l _ _ _ a0 a1 hi h1 h1b) ⟨by decide, by decide⟩ hl.1 rfl rfl (Nat.le_of_ble_eq_true rfl) dJ0_charAt_5068e_12 ⟨Nat.zero_le _, Nat.zero_le _⟩ ?_
    exact ret_PZ C0 (pk_nc _) hT dJ0_charAt_5068e_15
theorem jch_e (i : Nat) (k : Int32) : f_J0_charAt_5068e i k = (bytS.getD i []).getD (ix k) 0 &&& 255 := sc_c2 _
