set_option maxRecDepth 20000 in
theorem w_98 : (Cond.instanceMethod objectInit) ∈ TB := inTB (List.mem_of_getElem? (i := 98) (by decide +kernel)) (by decide +kernel)
set_option maxRecDepth 20000 in
theorem w_99 : (Cond.code objectInit ⟨#[0xb1]⟩ 1 none) ∈ TB := inTB (List.mem_of_getElem? (i := 99) (by decide +kernel)) (by decide +kernel)

/-! THINGS ARE MADE: sticks -/
def CI (y : MethodName) (cy : ByteArray) (maxL n : Nat) : Prop :=
  Cond.instanceMethod y ∈ TB ∧ Cond.initialized y.cls ∈ TB ∧ Cond.code y cy maxL none ∈ TB ∧ y.name = "<init>" ∧ y.cls ≠ "java/lang/invoke/MethodHandle" ∧ y.cls ≠ "java/lang/invoke/VarHandle" ∧ (parseMethodDescriptor y.desc).map (fun d => d.parameters.length) = some n
theorem start_X {l : Launch} {y : MethodName} {cy : ByteArray} {maxL : Nat} {ret : Option FieldType} {rm : Room} {av : List Value} {B : State → Prop} {Qc : Array Value → State → Outcome → State → Prop} {mc ms : Nat} {free : Addr → Prop} (hy : plainName y.cls = true) (hlen : (lg_sl av).length ≤ maxL)
    (body : ∀ (p : Program) (e : Env) (s : State) (m : MethodId) (args : Array Value) (below : List Frame) (meth : Method) (c : Code), BC p s m args meth c cy y.cls maxL ret → meth.name = y.name → B s → ∀ ls : Array Slot, lv_has ls maxL (lv_args 0 av) →
      W p l e rm s m args below meth c s.heap [] 0 0 (MQ below Qc args s mc ms free) (F0 m 0 ls [])) : Met l y (wsF y cy maxL ret) rm (va_Pc av B) Qc mc ms free := by
  refine Met.ofW (cc := cy) (maxL := maxL) (ret := ret) hy rfl ?_
  intro p e s m args below meth c s₁ Bd hml hv
  obtain ⟨rfl, hB⟩ := hv
  have hts := atoms_spec (ws := wsF y cy maxL ret) Bd.pre
  rw [lg_entry_eq]
  exact body p e s m _ below meth c ⟨Bd.exec, Bd.bytes, Bd.returns, hml, findClass_of_methodNamed Bd.named, fun w hw => hts w (List.mem_cons_of_mem _ hw), Bd.notSynchronized⟩ (name_of_methodNamed Bd.named Bd.method).1 hB _ (lv_entry av hlen)
section IROWS
variable {p : Program} {l : Launch} {e : Env} {R : Room} {s : State} {m : MethodId} {args : Array Value} {below : List Frame} {meth : Method} {c : Code} {H : Heap} {locs : List Loc} {cells slots : Nat} {Q : State → Prop}
variable {cc : ByteArray} {nL pc : Nat} {ret0 : Option FieldType} {ls : Array Slot} {rest st0 : List Value} {idx : Nat} {A : Nat → Prop} {own : String}
variable {y : MethodName} {cy : ByteArray} {maxL n : Nat} {ret : Option FieldType} {rm : Room} {Pc : Array Value → State → Prop} {Qc : Array Value → State → Outcome → State → Prop} {free : Addr → Prop} {b : Addr} {As : List Value}
theorem run_I (C0 : BC p s m args meth c cc own nL ret0) (hF : CI y cy maxL n) (hl : Cond.methodLink own idx y ∈ TB) (hR : rm.frames + 1 ≤ R.frames ∧ 8 + (maxL + 11) + rm.locals ≤ R.locals) (hM : Met l y (wsF y cy maxL none) rm Pc Qc rm.cells rm.slots free) (hp : PreS s H Pc (.ref b :: As)) (hn : As.length = n) (hsz : ls.size = nL) (hst : st0 = As.reverse ++ .ref b :: rest) (hW : (rest.map fun v => v.category).sum ≤ 8) (hdg : decode cc pc = .ok (.invokespecial idx, 3)) (hf : cells + rm.cells ≤ R.cells ∧ slots + rm.slots ≤ R.slots) : va_Run p l e R s m args below meth c H locs cells slots rm.cells rm.slots (F0 m pc ls st0) rest (Qc (Value.ref b :: As).toArray) free := by
  obtain ⟨h1, h3, h4, hy, h5, h6, h7⟩ := hF
  have hts := C0.2.2.2.2.2.1
  exact va_runI (g := F0 m pc ls st0) ⟨C0.1, C0.2.1, C0.2.2.2.1, C0.2.2.2.2.1, C0.2.2.2.2.2.1⟩ hM ⟨callB_of n hts (good_wsF h4) rfl rfl rfl (hts _ h3) (hts _ hl) ⟨h5, h6, h7⟩ hR, hy, hts _ h1⟩ hp rfl hn hsz hst (lv_room hW) hdg hf
theorem run_IN (C0 : BC p s m args meth c cc own nL ret0) (hF : CI y cy maxL n) {host : String} (hN : NW s) (hl : Cond.methodLinkNest own idx y host ∈ NB) (hR : rm.frames + 1 ≤ R.frames ∧ 8 + (maxL + 11) + rm.locals ≤ R.locals) (hM : Met l y (wsF y cy maxL none) rm Pc Qc rm.cells rm.slots free) (hp : PreS s H Pc (.ref b :: As)) (hn : As.length = n) (hsz : ls.size = nL) (hst : st0 = As.reverse ++ .ref b :: rest) (hW : (rest.map fun v => v.category).sum ≤ 8) (hdg : decode cc pc = .ok (.invokespecial idx, 3)) (hf : cells + rm.cells ≤ R.cells ∧ slots + rm.slots ≤ R.slots) : va_Run p l e R s m args below meth c H locs cells slots rm.cells rm.slots (F0 m pc ls st0) rest (Qc (Value.ref b :: As).toArray) free := by
  obtain ⟨h1, h3, h4, hy, h5, h6, h7⟩ := hF
  have hts := C0.2.2.2.2.2.1
  exact va_runIN (g := F0 m pc ls st0) ⟨C0.1, C0.2.1, C0.2.2.2.1, C0.2.2.2.2.1, C0.2.2.2.2.2.1⟩ hM ⟨cw_N C0 h4 h3 ⟨h5, h6, h7⟩ hN hl rfl rfl hR, hy, hts _ h1⟩ hp rfl hn hsz hst (lv_room hW) hdg hf
theorem obj_init (C0 : BC p s m args meth c cc own nL ret0) (hl : Cond.methodLink own idx objectInit ∈ TB) (hsz : ls.size = nL) {a : Nat} (hdg : decode cc pc = .ok (.invokespecial idx, 3)) (hR : 1 ≤ R.frames ∧ 20 ≤ R.locals) (hW : (rest.map fun v => v.category).sum ≤ 8) (kk : W p l e R s m args below meth c H locs cells slots Q (F0 m (pc + 3) ls rest)) : W p l e R s m args below meth c H locs cells slots Q (F0 m pc ls (.ref a :: rest)) :=
  W.objInit C0.1 C0.2.1 C0.2.2.2.2.1 (C0.2.2.2.2.2.1 _ hl) (C0.2.2.2.2.2.1 _ w_98) (C0.2.2.2.2.2.1 _ w_99) rfl (hsz.trans C0.2.2.2.1.symm) rfl hdg hR.1 (by show 2 * 0 + _ + 12 ≤ R.locals; have := hR.2; omega) (W.eq (g2 := F0 m (pc + 3) ls rest) rfl kk)
end IROWS
/-- one cell's world -/
theorem va_D1 {q : Nat} {e : va_E} {A : Nat → Prop} (h : A q) : va_D A [(q, e)] := by
  refine ⟨fun i j p' q' h1 h2 _ => ?_, fun k p' h1 => ?_⟩
  · have := (List.getElem?_eq_some_iff.mp h1).1
    have := (List.getElem?_eq_some_iff.mp h2).1
    simp at *
    omega
  · have hk := (List.getElem?_eq_some_iff.mp h1).1
    simp at hk
    subst hk
    cases h1
    exact h
/-- a thing of a class: its number there, its table -/
def OBK (ci : Nat) (C : String) (T : u_T) (N : Nat) : Prop := vwCl[ci]? = some (C, T, N) ∧ 4 ≤ N ∧ (∀ w ∈ u_ws C T N, w ∈ TB) ∧ (∃ ty0 : Nat → FieldType, ∀ k, k < N → parseFieldDescriptor (T k).2.2.1 = some (ty0 k)) ∧ (∀ a, a < N → ∀ b, b < N → a ≠ b → (T a).2.1 ≠ (T b).2.1) ∧ ∀ k, k < 4 → T k = TX6 k
theorem obk_6 : OBK 6 RX6 TX6 4 := ⟨rfl, by decide, uw_6, ⟨tyX6, tyX6_ok⟩, nmX6, fun _ _ => rfl⟩
theorem obk_10 : OBK 10 RX10 TX10 4 := ⟨rfl, by decide, uw_10, ⟨tyX10, tyX10_ok⟩, nmX10, by decide +kernel⟩
theorem obk_7 : OBK 7 RX7 TX7 4 := ⟨rfl, by decide, uw_7, ⟨tyX7, tyX7_ok⟩, nmX7, by decide +kernel⟩
theorem obk_0 : OBK 0 RX0 TX0 4 := ⟨rfl, by decide, uw_0, ⟨tyX0, tyX0_ok⟩, nmX0, by decide +kernel⟩
theorem obk_4 : OBK 4 RX4 TX4 4 := ⟨rfl, by decide, uw_4, ⟨tyX4, tyX4_ok⟩, nmX4, by decide +kernel⟩
theorem obk_3 : OBK 3 RX3 TX3 4 := ⟨rfl, by decide, uw_3, ⟨tyX3, tyX3_ok⟩, nmX3, by decide +kernel⟩
theorem obk_8 : OBK 8 RX8 TX8 5 := ⟨rfl, by decide, uw_8, ⟨tyX8, tyX8_ok⟩, nmX8, by decide +kernel⟩
def st4 (fs : List Value) (a b c d : Int32) : List Value := (((fs.set 0 (.int a)).set 1 (.int b)).set 2 (.int c)).set 3 (.int d)
/-- a constructor's start and end: one thing -/
abbrev OB (g : GG) (q ci : Nat) (fs : List Value) : State → Prop := fun U => KK g U ∧ va_P g.1 vwCl [(q, .inr (ci, fs))] U.heap
theorem OB.sv {g : GG} {q ci : Nat} {fs : List Value} : SV (OB g q ci fs) := fun U U' hh hv h => ⟨h.1.same hv, by rw [← hh]; exact h.2⟩
abbrev OQ (g : GG) (q ci : Nat) (fs : List Value) : Array Value → State → Outcome → State → Prop := va_Qv (fun _ : Unit => True) (fun _ t => va_P g.1 vwCl [(q, .inr (ci, fs))] t.heap) (fun z => z = q)
section KROWS
variable {p : Program} {l : Launch} {e : Env} {R : Room} {s : State} {m : MethodId} {args : Array Value} {below : List Frame} {meth : Method} {c : Code} {H : Heap} {locs : List Loc} {cells slots : Nat} {Q : State → Prop}
variable {nL pc : Nat} {ret0 : Option FieldType} {ls : Array Slot} {rest st0 : List Value} {idx : Nat} {A : Nat → Prop} {own : String} {g : GG} {q ci N : Nat} {C : String} {T : u_T} {fs : List Value} {cc : ByteArray}
theorem sk_putF (C0 : BC p s m args meth c cc RX6 nL ret0) (hinit : meth.name = "<init>") (hO : OBK ci C T N) (hfs : fs.length = N) (hK : KK g s) (hP : va_P g.1 vwCl [(q, .inr (ci, fs))] H) (hS : va_S A s.heap H locs) (hq : A q) (k : Nat) (hk : k < 4) {x : Int32} (hw : Cond.fieldLink RX6 idx RX6 (TX6 k).2.1 (TX6 k).2.2.1 ∈ TB) (hd : parseFieldDescriptor (TX6 k).2.2.1 = some .int) (hdg : decode cc pc = .ok (.putfield idx, 3))
    (kk : ∀ (H1 : Heap) (locs1 : List Loc), va_P g.1 vwCl [(q, .inr (ci, fs.set k (.int x)))] H1 → va_S A s.heap H1 locs1 → W p l e R s m args below meth c H1 locs1 cells slots Q (F0 m (pc + 3) ls rest)) : W p l e R s m args below meth c H locs cells slots Q (F0 m pc ls (.int x :: .ref q :: rest)) := by
  obtain ⟨hc, hN, hu, ⟨ty0, hty⟩, hnm, h4⟩ := hO
  have e := h4 k hk
  have e1 : (TX6 k).1 = RX6 := by unfold TX6; split <;> rfl
  exact va_putF (D := g.1) (ci := ci) (v := .int x) (ty := .int) (C := C) (T := T) (N := N) (ref := RX6) C0.1 C0.2.1 C0.2.2.2.2.2.1 hu ty0 hty hnm C0.2.2.2.2.1 hK.1 hP (va_D1 hq) hS 0 rfl hc k (by omega) (by rw [e]; exact C0.2.2.2.2.2.1 _ hw) (fun x h => by rw [e, e1] at h; rw [e]; exact h) (by rw [e]; unfold TX6; split <;> rfl) hinit (by rw [e]; exact e1) (by rw [e]; exact hd) rfl rfl (by omega) hdg (fun H1 locs1 hP hD hS => kk H1 locs1 hP hS)
variable {y : MethodName} {cy : ByteArray} {maxL n fr lo : Nat} {As : List Value} {fs2 : List Value}
/-- a constructor is called on the thing -/
theorem ob_call (C0 : BC p s m args meth c cc own nL ret0) (hF : CI y cy maxL n) (hl : Cond.methodLink own idx y ∈ TB) (hM : Met l y (wsF y cy maxL none) { frames := fr, cells := 0, slots := 0, locals := lo } (va_Pc (.ref q :: As) (OB g q ci fs)) (OQ g q ci fs2) 0 0 (fun z => z = q)) (hR : fr + 1 ≤ R.frames ∧ 8 + (maxL + 11) + lo ≤ R.locals) (hK : KK g s) (hP : va_P g.1 vwCl [(q, .inr (ci, fs))] H) (hS : va_S A s.heap H locs) (hq : A q) (hn : As.length = n) (hsz : ls.size = nL) (hst : st0 = As.reverse ++ .ref q :: rest) (hW : (rest.map fun v => v.category).sum ≤ 8) (hdg : decode cc pc = .ok (.invokespecial idx, 3)) (hf : cells ≤ R.cells ∧ slots ≤ R.slots)
    (kk : ∀ (H1 : Heap) (locs1 : List Loc), va_P g.1 vwCl [(q, .inr (ci, fs2))] H1 → va_S A s.heap H1 locs1 → W p l e R s m args below meth c H1 locs1 cells slots Q (F0 m (pc + 3) ls rest)) : W p l e R s m args below meth c H locs cells slots Q (F0 m pc ls st0) :=
  va_callv (run_I (rm := { frames := fr, cells := 0, slots := 0, locals := lo }) C0 hF hl hR hM ⟨OB.sv.blind, fun U hU hW => ⟨rfl, hK.warm hW, by rw [hU]; exact hP⟩⟩ hn hsz hst hW hdg hf) hS (fun z _ h => by rw [h]; exact hq) (fun z h => by rw [h]; exact hq) (fun _ t H1 locs1 ht _ _ hB _ _ hS1 => kk H1 locs1 (by rw [← ht]; exact hB) hS1)
end KROWS

set_option maxRecDepth 20000 in
theorem w_475 : (Cond.methodLink RX6 1 objectInit) ∈ TB := inTB (List.mem_of_getElem? (i := 475) (by decide +kernel)) (by decide +kernel)
set_option maxRecDepth 20000 in
theorem w_482 : (Cond.fieldLink RX6 13 RX6 "kind" "I") ∈ TB := inTB (List.mem_of_getElem? (i := 482) (by decide +kernel)) (by decide +kernel)
theorem dX6_init_0 : decode cX6_init 0 = .ok (.aload_n 0, 1) := by decide +kernel
theorem dX6_init_1 : decode cX6_init 1 = .ok (.invokespecial 1, 3) := by decide +kernel
theorem dX6_init_4 : decode cX6_init 4 = .ok (.aload_n 0, 1) := by decide +kernel
theorem dX6_init_5 : decode cX6_init 5 = .ok (.iload_n 1, 1) := by decide +kernel
theorem dX6_init_6 : decode cX6_init 6 = .ok (.putfield 7, 3) := by decide +kernel
theorem dX6_init_9 : decode cX6_init 9 = .ok (.aload_n 0, 1) := by decide +kernel
theorem dX6_init_10 : decode cX6_init 10 = .ok (.iload_n 2, 1) := by decide +kernel
theorem dX6_init_11 : decode cX6_init 11 = .ok (.putfield 13, 3) := by decide +kernel
theorem dX6_init_14 : decode cX6_init 14 = .ok (.aload_n 0, 1) := by decide +kernel
theorem dX6_init_15 : decode cX6_init 15 = .ok (.iload_n 3, 1) := by decide +kernel
theorem dX6_init_16 : decode cX6_init 16 = .ok (.putfield 16, 3) := by decide +kernel
theorem dX6_init_19 : decode cX6_init 19 = .ok (.aload_n 0, 1) := by decide +kernel
theorem dX6_init_20 : decode cX6_init 20 = .ok (.iload 4, 2) := by decide +kernel
theorem dX6_init_22 : decode cX6_init 22 = .ok (.putfield 19, 3) := by decide +kernel
theorem dX6_init_25 : decode cX6_init 25 = .ok (.return_, 1) := by decide +kernel
theorem k_X6_init (l : Launch) (g : GG) (q : Nat) {ci N : Nat} {C : String} {T : u_T} (hO : OBK ci C T N) (fs : List Value) (hfs : fs.length = N) (a1 a2 a3 a4 : Int32) : Met l yX6_init (wsF yX6_init cX6_init 5 none) { frames := 1, cells := 0, slots := 0, locals := 20 } (va_Pc [.ref q, .int a1, .int a2, .int a3, .int a4] (OB g q ci fs)) (OQ g q ci (st4 fs a1 a2 a3 a4)) 0 0 (fun z => z = q) := by
  refine start_X (by decide) (Nat.le_of_ble_eq_true rfl) ?_
  intro p e s m args below meth c C0 hin hB ls hl
  obtain ⟨hx, hb, hr, hml, hown, hts, hlocks⟩ := id C0
  obtain ⟨hK, hP⟩ := hB
  have hl : lv_has ls 5 [(0, .ref q), (1, .int a1), (2, .int a2), (3, .int a3), (4, .int a4)] := hl
  have hS : va_S (fun z => z = q) s.heap s.heap [] := va_S.rf
  refine lv_aload_n hx hb dX6_init_0 rfl (lv_at hl 0 rfl) ?_
  refine obj_init C0 w_475 hl.1 dX6_init_1 ⟨by decide, by decide⟩ (Nat.le_of_ble_eq_true rfl) ?_
  refine lv_aload_n hx hb dX6_init_4 rfl (lv_at hl 0 rfl) ?_
  refine lv_iload_n hx hb dX6_init_5 rfl (lv_at hl 1 rfl) ?_
  refine sk_putF (fs := fs) C0 hin hO (by simp [hfs]) hK hP hS rfl 0 (by decide) w_476 rfl dX6_init_6 (fun H locs hP hS => ?_)
  refine lv_aload_n hx hb dX6_init_9 rfl (lv_at hl 0 rfl) ?_
  refine lv_iload_n hx hb dX6_init_10 rfl (lv_at hl 2 rfl) ?_
  refine sk_putF (fs := (fs.set 0 (.int a1))) C0 hin hO (by simp [hfs]) hK hP hS rfl 1 (by decide) w_482 rfl dX6_init_11 (fun H locs hP hS => ?_)
  refine lv_aload_n hx hb dX6_init_14 rfl (lv_at hl 0 rfl) ?_
  refine lv_iload_n hx hb dX6_init_15 rfl (lv_at hl 3 rfl) ?_
  refine sk_putF (fs := ((fs.set 0 (.int a1)).set 1 (.int a2))) C0 hin hO (by simp [hfs]) hK hP hS rfl 2 (by decide) w_485 rfl dX6_init_16 (fun H locs hP hS => ?_)
  refine lv_aload_n hx hb dX6_init_19 rfl (lv_at hl 0 rfl) ?_
  refine lv_iload hx hb dX6_init_20 (lv_at hl 4 rfl) ?_
  refine sk_putF (fs := (((fs.set 0 (.int a1)).set 1 (.int a2)).set 2 (.int a3))) C0 hin hO (by simp [hfs]) hK hP hS rfl 3 (by decide) w_496 rfl dX6_init_22 (fun H locs hP hS => ?_)
  exact W.vret hx hb hr (fun t ht _ => ⟨⟨(), rfl, trivial, by show va_P g.1 vwCl _ t.heap; rw [ht]; exact hP⟩, hS.F ht⟩) hS.2.2 dX6_init_25 hlocks
set_option maxRecDepth 20000 in
theorem w_474 : (Cond.code yX6_init cX6_init 5 none) ∈ TB := inTB (List.mem_of_getElem? (i := 474) (by decide +kernel)) (by decide +kernel)
set_option maxRecDepth 20000 in
theorem w_473 : (Cond.instanceMethod yX6_init) ∈ TB := inTB (List.mem_of_getElem? (i := 473) (by decide +kernel)) (by decide +kernel)
theorem ci_X6_init : CI yX6_init cX6_init 5 4 := ⟨w_473, w_85, w_474, rfl, by decide +kernel, by decide +kernel, by decide +kernel⟩
set_option maxRecDepth 20000 in
theorem w_472 : (Cond.methodLink RX10 1 yX6_init) ∈ TB := inTB (List.mem_of_getElem? (i := 472) (by decide +kernel)) (by decide +kernel)
theorem dX10_init_0 : decode cX10_init 0 = .ok (.aload_n 0, 1) := by decide +kernel
theorem dX10_init_1 : decode cX10_init 1 = .ok (.iload_n 1, 1) := by decide +kernel
theorem dX10_init_2 : decode cX10_init 2 = .ok (.iload_n 2, 1) := by decide +kernel
theorem dX10_init_3 : decode cX10_init 3 = .ok (.iload_n 3, 1) := by decide +kernel
theorem dX10_init_4 : decode cX10_init 4 = .ok (.iload 4, 2) := by decide +kernel
theorem dX10_init_6 : decode cX10_init 6 = .ok (.invokespecial 1, 3) := by decide +kernel
theorem dX10_init_9 : decode cX10_init 9 = .ok (.return_, 1) := by decide +kernel
theorem k_X10_init (l : Launch) (g : GG) (q : Nat) {ci N : Nat} {C : String} {T : u_T} (hO : OBK ci C T N) (fs : List Value) (hfs : fs.length = N) (a1 a2 a3 a4 : Int32) : Met l yX10_init (wsF yX10_init cX10_init 5 none) { frames := 2, cells := 0, slots := 0, locals := 44 } (va_Pc [.ref q, .int a1, .int a2, .int a3, .int a4] (OB g q ci fs)) (OQ g q ci (st4 fs a1 a2 a3 a4)) 0 0 (fun z => z = q) := by
  refine start_X (by decide) (Nat.le_of_ble_eq_true rfl) ?_
  intro p e s m args below meth c C0 hin hB ls hl
  obtain ⟨hx, hb, hr, hml, hown, hts, hlocks⟩ := id C0
  obtain ⟨hK, hP⟩ := hB
  have hl : lv_has ls 5 [(0, .ref q), (1, .int a1), (2, .int a2), (3, .int a3), (4, .int a4)] := hl
  have hS : va_S (fun z => z = q) s.heap s.heap [] := va_S.rf
  refine lv_aload_n hx hb dX10_init_0 rfl (lv_at hl 0 rfl) ?_
  refine lv_iload_n hx hb dX10_init_1 rfl (lv_at hl 1 rfl) ?_
  refine lv_iload_n hx hb dX10_init_2 rfl (lv_at hl 2 rfl) ?_
  refine lv_iload_n hx hb dX10_init_3 rfl (lv_at hl 3 rfl) ?_
  refine lv_iload hx hb dX10_init_4 (lv_at hl 4 rfl) ?_
  refine ob_call (As := [.int a1, .int a2, .int a3, .int a4]) (rest := []) C0 ci_X6_init w_472 (k_X6_init l g q hO fs hfs a1 a2 a3 a4) ⟨by decide, by decide⟩ hK hP hS rfl rfl hl.1 rfl (Nat.le_of_ble_eq_true rfl) dX10_init_6 ⟨Nat.zero_le _, Nat.zero_le _⟩ (fun H locs hP hS => ?_)
  exact W.vret hx hb hr (fun t ht _ => ⟨⟨(), rfl, trivial, by show va_P g.1 vwCl _ t.heap; rw [ht]; exact hP⟩, hS.F ht⟩) hS.2.2 dX10_init_9 hlocks
set_option maxRecDepth 20000 in
theorem w_521 : (Cond.methodLink RX7 1 yX6_init) ∈ TB := inTB (List.mem_of_getElem? (i := 521) (by decide +kernel)) (by decide +kernel)
theorem dX7_init_0 : decode cX7_init 0 = .ok (.aload_n 0, 1) := by decide +kernel
theorem dX7_init_1 : decode cX7_init 1 = .ok (.iload_n 1, 1) := by decide +kernel
theorem dX7_init_2 : decode cX7_init 2 = .ok (.iload_n 2, 1) := by decide +kernel
theorem dX7_init_3 : decode cX7_init 3 = .ok (.iload_n 3, 1) := by decide +kernel
theorem dX7_init_4 : decode cX7_init 4 = .ok (.iload 4, 2) := by decide +kernel
theorem dX7_init_6 : decode cX7_init 6 = .ok (.invokespecial 1, 3) := by decide +kernel
theorem dX7_init_9 : decode cX7_init 9 = .ok (.return_, 1) := by decide +kernel
theorem k_X7_init (l : Launch) (g : GG) (q : Nat) {ci N : Nat} {C : String} {T : u_T} (hO : OBK ci C T N) (fs : List Value) (hfs : fs.length = N) (a1 a2 a3 a4 : Int32) : Met l yX7_init (wsF yX7_init cX7_init 5 none) { frames := 2, cells := 0, slots := 0, locals := 44 } (va_Pc [.ref q, .int a1, .int a2, .int a3, .int a4] (OB g q ci fs)) (OQ g q ci (st4 fs a1 a2 a3 a4)) 0 0 (fun z => z = q) := by
  refine start_X (by decide) (Nat.le_of_ble_eq_true rfl) ?_
  intro p e s m args below meth c C0 hin hB ls hl
  obtain ⟨hx, hb, hr, hml, hown, hts, hlocks⟩ := id C0
  obtain ⟨hK, hP⟩ := hB
  have hl : lv_has ls 5 [(0, .ref q), (1, .int a1), (2, .int a2), (3, .int a3), (4, .int a4)] := hl
  have hS : va_S (fun z => z = q) s.heap s.heap [] := va_S.rf
  refine lv_aload_n hx hb dX7_init_0 rfl (lv_at hl 0 rfl) ?_
  refine lv_iload_n hx hb dX7_init_1 rfl (lv_at hl 1 rfl) ?_
  refine lv_iload_n hx hb dX7_init_2 rfl (lv_at hl 2 rfl) ?_
  refine lv_iload_n hx hb dX7_init_3 rfl (lv_at hl 3 rfl) ?_
  refine lv_iload hx hb dX7_init_4 (lv_at hl 4 rfl) ?_
  refine ob_call (As := [.int a1, .int a2, .int a3, .int a4]) (rest := []) C0 ci_X6_init w_521 (k_X6_init l g q hO fs hfs a1 a2 a3 a4) ⟨by decide, by decide⟩ hK hP hS rfl rfl hl.1 rfl (Nat.le_of_ble_eq_true rfl) dX7_init_6 ⟨Nat.zero_le _, Nat.zero_le _⟩ (fun H locs hP hS => ?_)
  exact W.vret hx hb hr (fun t ht _ => ⟨⟨(), rfl, trivial, by show va_P g.1 vwCl _ t.heap; rw [ht]; exact hP⟩, hS.F ht⟩) hS.2.2 dX7_init_9 hlocks
set_option maxRecDepth 20000 in
theorem w_532 : (Cond.methodLink RX0 1 yX6_init) ∈ TB := inTB (List.mem_of_getElem? (i := 532) (by decide +kernel)) (by decide +kernel)
theorem dX0_init_0 : decode cX0_init 0 = .ok (.aload_n 0, 1) := by decide +kernel
theorem dX0_init_1 : decode cX0_init 1 = .ok (.iload_n 1, 1) := by decide +kernel
theorem dX0_init_2 : decode cX0_init 2 = .ok (.iload_n 2, 1) := by decide +kernel
theorem dX0_init_3 : decode cX0_init 3 = .ok (.iload_n 3, 1) := by decide +kernel
theorem dX0_init_4 : decode cX0_init 4 = .ok (.iload 4, 2) := by decide +kernel
theorem dX0_init_6 : decode cX0_init 6 = .ok (.invokespecial 1, 3) := by decide +kernel
theorem dX0_init_9 : decode cX0_init 9 = .ok (.return_, 1) := by decide +kernel
theorem k_X0_init (l : Launch) (g : GG) (q : Nat) {ci N : Nat} {C : String} {T : u_T} (hO : OBK ci C T N) (fs : List Value) (hfs : fs.length = N) (a1 a2 a3 a4 : Int32) : Met l yX0_init (wsF yX0_init cX0_init 5 none) { frames := 2, cells := 0, slots := 0, locals := 44 } (va_Pc [.ref q, .int a1, .int a2, .int a3, .int a4] (OB g q ci fs)) (OQ g q ci (st4 fs a1 a2 a3 a4)) 0 0 (fun z => z = q) := by
  refine start_X (by decide) (Nat.le_of_ble_eq_true rfl) ?_
  intro p e s m args below meth c C0 hin hB ls hl
  obtain ⟨hx, hb, hr, hml, hown, hts, hlocks⟩ := id C0
  obtain ⟨hK, hP⟩ := hB
  have hl : lv_has ls 5 [(0, .ref q), (1, .int a1), (2, .int a2), (3, .int a3), (4, .int a4)] := hl
  have hS : va_S (fun z => z = q) s.heap s.heap [] := va_S.rf
  refine lv_aload_n hx hb dX0_init_0 rfl (lv_at hl 0 rfl) ?_
  refine lv_iload_n hx hb dX0_init_1 rfl (lv_at hl 1 rfl) ?_
  refine lv_iload_n hx hb dX0_init_2 rfl (lv_at hl 2 rfl) ?_
  refine lv_iload_n hx hb dX0_init_3 rfl (lv_at hl 3 rfl) ?_
  refine lv_iload hx hb dX0_init_4 (lv_at hl 4 rfl) ?_
  refine ob_call (As := [.int a1, .int a2, .int a3, .int a4]) (rest := []) C0 ci_X6_init w_532 (k_X6_init l g q hO fs hfs a1 a2 a3 a4) ⟨by decide, by decide⟩ hK hP hS rfl rfl hl.1 rfl (Nat.le_of_ble_eq_true rfl) dX0_init_6 ⟨Nat.zero_le _, Nat.zero_le _⟩ (fun H locs hP hS => ?_)
  exact W.vret hx hb hr (fun t ht _ => ⟨⟨(), rfl, trivial, by show va_P g.1 vwCl _ t.heap; rw [ht]; exact hP⟩, hS.F ht⟩) hS.2.2 dX0_init_9 hlocks
set_option maxRecDepth 20000 in
theorem w_471 : (Cond.code yX10_init cX10_init 5 none) ∈ TB := inTB (List.mem_of_getElem? (i := 471) (by decide +kernel)) (by decide +kernel)
set_option maxRecDepth 20000 in
theorem w_470 : (Cond.instanceMethod yX10_init) ∈ TB := inTB (List.mem_of_getElem? (i := 470) (by decide +kernel)) (by decide +kernel)
theorem ci_X10_init : CI yX10_init cX10_init 5 4 := ⟨w_470, w_86, w_471, rfl, by decide +kernel, by decide +kernel, by decide +kernel⟩
set_option maxRecDepth 20000 in
theorem w_543 : (Cond.methodLink RX4 3 yX10_init) ∈ TB := inTB (List.mem_of_getElem? (i := 543) (by decide +kernel)) (by decide +kernel)
theorem dX4_init_0 : decode cX4_init 0 = .ok (.aload_n 0, 1) := by decide +kernel
theorem dX4_init_1 : decode cX4_init 1 = .ok (.iload_n 1, 1) := by decide +kernel
theorem dX4_init_2 : decode cX4_init 2 = .ok (.iconst 4, 1) := by decide +kernel
theorem dX4_init_3 : decode cX4_init 3 = .ok (.iload_n 2, 1) := by decide +kernel
theorem dX4_init_4 : decode cX4_init 4 = .ok (.iload_n 3, 1) := by decide +kernel
theorem dX4_init_5 : decode cX4_init 5 = .ok (.invokespecial 3, 3) := by decide +kernel
theorem dX4_init_8 : decode cX4_init 8 = .ok (.return_, 1) := by decide +kernel
theorem k_X4_init (l : Launch) (g : GG) (q : Nat) {ci N : Nat} {C : String} {T : u_T} (hO : OBK ci C T N) (fs : List Value) (hfs : fs.length = N) (a1 a2 a3 : Int32) : Met l yX4_init (wsF yX4_init cX4_init 4 none) { frames := 3, cells := 0, slots := 0, locals := 68 } (va_Pc [.ref q, .int a1, .int a2, .int a3] (OB g q ci fs)) (OQ g q ci (st4 fs a1 (4 : Int32) a2 a3)) 0 0 (fun z => z = q) := by
  refine start_X (by decide) (Nat.le_of_ble_eq_true rfl) ?_
  intro p e s m args below meth c C0 hin hB ls hl
  obtain ⟨hx, hb, hr, hml, hown, hts, hlocks⟩ := id C0
  obtain ⟨hK, hP⟩ := hB
  have hl : lv_has ls 4 [(0, .ref q), (1, .int a1), (2, .int a2), (3, .int a3)] := hl
  have hS : va_S (fun z => z = q) s.heap s.heap [] := va_S.rf
  refine lv_aload_n hx hb dX4_init_0 rfl (lv_at hl 0 rfl) ?_
  refine lv_iload_n hx hb dX4_init_1 rfl (lv_at hl 1 rfl) ?_
  refine lv_iconst (v := (4 : Int32)) hx hb dX4_init_2 (by decide) ?_
  refine lv_iload_n hx hb dX4_init_3 rfl (lv_at hl 2 rfl) ?_
  refine lv_iload_n hx hb dX4_init_4 rfl (lv_at hl 3 rfl) ?_
  refine ob_call (As := [.int a1, .int (4 : Int32), .int a2, .int a3]) (rest := []) C0 ci_X10_init w_543 (k_X10_init l g q hO fs hfs a1 (4 : Int32) a2 a3) ⟨by decide, by decide⟩ hK hP hS rfl rfl hl.1 rfl (Nat.le_of_ble_eq_true rfl) dX4_init_5 ⟨Nat.zero_le _, Nat.zero_le _⟩ (fun H locs hP hS => ?_)
  exact W.vret hx hb hr (fun t ht _ => ⟨⟨(), rfl, trivial, by show va_P g.1 vwCl _ t.heap; rw [ht]; exact hP⟩, hS.F ht⟩) hS.2.2 dX4_init_8 hlocks
set_option maxRecDepth 20000 in
theorem w_520 : (Cond.code yX7_init cX7_init 5 none) ∈ TB := inTB (List.mem_of_getElem? (i := 520) (by decide +kernel)) (by decide +kernel)
set_option maxRecDepth 20000 in
theorem w_519 : (Cond.instanceMethod yX7_init) ∈ TB := inTB (List.mem_of_getElem? (i := 519) (by decide +kernel)) (by decide +kernel)
theorem ci_X7_init : CI yX7_init cX7_init 5 4 := ⟨w_519, w_87, w_520, rfl, by decide +kernel, by decide +kernel, by decide +kernel⟩
set_option maxRecDepth 20000 in
theorem w_554 : (Cond.methodLink RX3 3 yX7_init) ∈ TB := inTB (List.mem_of_getElem? (i := 554) (by decide +kernel)) (by decide +kernel)
theorem dX3_init_0 : decode cX3_init 0 = .ok (.aload_n 0, 1) := by decide +kernel
theorem dX3_init_1 : decode cX3_init 1 = .ok (.iload_n 1, 1) := by decide +kernel
theorem dX3_init_2 : decode cX3_init 2 = .ok (.iconst 5, 1) := by decide +kernel
theorem dX3_init_3 : decode cX3_init 3 = .ok (.iload_n 2, 1) := by decide +kernel
theorem dX3_init_4 : decode cX3_init 4 = .ok (.iload_n 3, 1) := by decide +kernel
theorem dX3_init_5 : decode cX3_init 5 = .ok (.invokespecial 3, 3) := by decide +kernel
theorem dX3_init_8 : decode cX3_init 8 = .ok (.return_, 1) := by decide +kernel
theorem k_X3_init (l : Launch) (g : GG) (q : Nat) {ci N : Nat} {C : String} {T : u_T} (hO : OBK ci C T N) (fs : List Value) (hfs : fs.length = N) (a1 a2 a3 : Int32) : Met l yX3_init (wsF yX3_init cX3_init 4 none) { frames := 3, cells := 0, slots := 0, locals := 68 } (va_Pc [.ref q, .int a1, .int a2, .int a3] (OB g q ci fs)) (OQ g q ci (st4 fs a1 (5 : Int32) a2 a3)) 0 0 (fun z => z = q) := by
  refine start_X (by decide) (Nat.le_of_ble_eq_true rfl) ?_
  intro p e s m args below meth c C0 hin hB ls hl
  obtain ⟨hx, hb, hr, hml, hown, hts, hlocks⟩ := id C0
  obtain ⟨hK, hP⟩ := hB
  have hl : lv_has ls 4 [(0, .ref q), (1, .int a1), (2, .int a2), (3, .int a3)] := hl
  have hS : va_S (fun z => z = q) s.heap s.heap [] := va_S.rf
  refine lv_aload_n hx hb dX3_init_0 rfl (lv_at hl 0 rfl) ?_
  refine lv_iload_n hx hb dX3_init_1 rfl (lv_at hl 1 rfl) ?_
  refine lv_iconst (v := (5 : Int32)) hx hb dX3_init_2 (by decide) ?_
  refine lv_iload_n hx hb dX3_init_3 rfl (lv_at hl 2 rfl) ?_
  refine lv_iload_n hx hb dX3_init_4 rfl (lv_at hl 3 rfl) ?_
  refine ob_call (As := [.int a1, .int (5 : Int32), .int a2, .int a3]) (rest := []) C0 ci_X7_init w_554 (k_X7_init l g q hO fs hfs a1 (5 : Int32) a2 a3) ⟨by decide, by decide⟩ hK hP hS rfl rfl hl.1 rfl (Nat.le_of_ble_eq_true rfl) dX3_init_5 ⟨Nat.zero_le _, Nat.zero_le _⟩ (fun H locs hP hS => ?_)
  exact W.vret hx hb hr (fun t ht _ => ⟨⟨(), rfl, trivial, by show va_P g.1 vwCl _ t.heap; rw [ht]; exact hP⟩, hS.F ht⟩) hS.2.2 dX3_init_8 hlocks
