
section SU3
variable {p : Program} {l : Launch} {e : Env} {R : Room} {s : State} {m : MethodId} {args : Array Value} {below : List Frame} {meth : Method} {c : Code} {H : Heap} {locs : List Loc} {cells slots : Nat} {Q : State → Prop}
variable {cc : ByteArray} {own C P0 : String} {nL pc idx N ci : Nat} {ret0 : Option FieldType} {ls : Array Slot} {rest st0 : List Value} {g : GG} {ρ : RR} {dt : Nat → Nat → Int32} {σ : St} {T : u_T} {A : Nat → Prop} {H0 : Heap} {a : Nat}
variable {x y : MethodName} {cy : ByteArray} {maxL n : Nat} {ret : Option FieldType} {fr lo : Nat} {As : List Value} {fs : List Value}
theorem runSU2 {rm : Room} {Pc : Array Value → State → Prop} {Qc : Array Value → State → Outcome → State → Prop} {free : Addr → Prop} {b : Addr} (hkB : Cond.superclass C P0 ∈ TB) (C0 : BC p s m args meth c cc own nL ret0) (hl : Cond.methodLink own idx x ∈ TB) (hsm : Cond.sameMethod x.cls y.cls x.name x.desc ∈ TB) (hsup : Cond.superclass own x.cls ∈ TB) (hup : x.cls = y.cls ∨ Cond.superclass x.cls y.cls ∈ TB) (hyn : y = ⟨y.cls, x.name, x.desc⟩) (hiy : Cond.instanceMethod y ∈ TB) (hini : Cond.initialized y.cls ∈ TB) (hcy : Cond.code y cy maxL ret ∈ TB) (hno : x.name ≠ "<init>") (hd : (parseMethodDescriptor y.desc).map (fun d => d.parameters.length) = some n) (hM : Met l y (wsF y cy maxL ret) rm Pc Qc rm.cells rm.slots free) (hR : rm.frames + 1 ≤ R.frames ∧ 8 + (maxL + 11) + rm.locals ≤ R.locals) (hp : PreV s H C b Pc As) (hsz : ls.size = nL) (hst : st0 = As.reverse ++ .ref b :: rest) (hn : As.length = n) (hW : (rest.map fun v => v.category).sum ≤ 8) (hdg : decode cc pc = .ok (.invokespecial idx, 3)) (hf : cells + rm.cells ≤ R.cells ∧ slots + rm.slots ≤ R.slots) : va_Run p l e R s m args below meth c H locs cells slots rm.cells rm.slots (F0 m pc ls st0) rest (Qc (Value.ref b :: As).toArray) free := by
  obtain ⟨hx, hb, hr, hml, ho, hts, -⟩ := C0
  have hini' := hts _ hini
  have hK : Back l R p e below s args y 3 8 (PreOf R rm.cells rm.slots Pc) (PostOf Qc rm.cells rm.slots free) := back_of (bytes := cy) (maxL := maxL) (ret := ret) hM hp.1 rfl rfl hR.1 hR.2 (pay_in hts (good_wsF hcy)) List.mem_cons_self (fun a' U hW => word_at hW (Or.inl (by first | rfl | simp [Cond.onTables, Cond.keeps, Cond.steady])) hini')
  obtain ⟨-, ⟨cellB, hcB, hoB, hclB⟩, hPc⟩ := hp
  obtain ⟨-, kB, -, -, hkk, -⟩ := Cond.superclass_spec hclB (hts _ hkB)
  intro T hT X
  obtain ⟨v, vm₁, ⟨U', l2, c2, s2⟩, hW₁, X', ⟨g', mk, t, L, e1, e2, hq, h1, hL, h2, h3⟩, st⟩ := callSU2 X hx (bytes := cy) (maxL := maxL) (ret := ret) ho (hts _ hl) (hts _ hsm) (hts _ hsup) (hup.imp id (fun h => hts _ h)) hyn (hts _ hiy) (hts _ hcy) hno hK (by rw [hT]; exact hcB) hoB hkk (g := F0 m pc ls st0) rfl (hsz.trans hml.symm) (argsL := As) (rest := rest) (fun sig h => by
      rw [h] at hd
      exact hn.trans (Option.some.inj hd).symm) hst (lv_room hW) (by rw [hb]; exact hdg)
    (fun vm₁ hW₁ => ⟨hf.1, hf.2, hPc (T.setVm vm₁) hT hW₁⟩)
  dsimp only [Pt.U, Pt.locs, Pt.cells, Pt.slots] at X' e1 e2 h1 h2 h3 st
  subst h1; subst h2; subst h3
  exact ⟨v, (T.setVm vm₁).calling g' mk (Value.ref b :: As).toArray, t, U', L, hT, X', hL, e1, e2, hq, st⟩
theorem t_pre (hK : KK g s) (hC : WC g (xW g ρ) A H0 σ H locs) (hB : XH g ρ dt H) (hva : va_at g.1 vwCl (a, .inr (ci, fs)) H) (hc : vwCl[ci]? = some (C, T, N)) : PreV s H C a (va_Pc (.ref a :: As) (GB g (xW g ρ) (XB g ρ dt) σ)) As :=
  ⟨(GB.sv XB.sv).blind, sk_recv hK hva hc, fun U hU hW => ⟨rfl, hK.warm hW, by rw [hU]; exact hC.1, hC.2.1.weaken (fun _ _ _ _ => trivial), by show XH g ρ dt U.heap; rw [hU]; exact hB⟩⟩
theorem t_sup {F : Int32 × St} (hva : va_at g.1 vwCl (a, .inr (ci, fs)) H) (hc : vwCl[ci]? = some (C, T, N)) (hkB : Cond.superclass C P0 ∈ TB) (C0 : BC p s m args meth c cc own nL ret0) (hK : KK g s) (hC : WC g (xW g ρ) A H0 σ H locs) (hB : XH g ρ dt H) (hl : Cond.methodLink own idx x ∈ TB) (hsm : Cond.sameMethod x.cls y.cls x.name x.desc ∈ TB) (hsup : Cond.superclass own x.cls ∈ TB) (hup : x.cls = y.cls ∨ Cond.superclass x.cls y.cls ∈ TB) (hyn : y = ⟨y.cls, x.name, x.desc⟩) (hiy : Cond.instanceMethod y ∈ TB) (hini : Cond.initialized y.cls ∈ TB) (hcy : Cond.code y cy maxL ret ∈ TB) (hno : x.name ≠ "<init>") (hd : (parseMethodDescriptor y.desc).map (fun d => d.parameters.length) = some n) (hM : MI l y (wsF y cy maxL ret) { frames := fr, cells := 0, slots := 0, locals := lo } (.ref a :: As) g (xW g ρ) (XB g ρ dt) σ F) (hR : fr + 1 ≤ R.frames ∧ 8 + (maxL + 11) + lo ≤ R.locals) (hsz : ls.size = nL) (hst : st0 = As.reverse ++ .ref a :: rest) (hn : As.length = n) (hW : (rest.map fun v => v.category).sum ≤ 8) (hdg : decode cc pc = .ok (.invokespecial idx, 3)) (hf : cells ≤ R.cells ∧ slots ≤ R.slots) (kk : ∀ (r : Int32) (u : St) (H1 : Heap) (locs1 : List Loc), (r, u) = F → WC g (xW g ρ) A H0 u H1 locs1 → W p l e R s m args below meth c H1 locs1 cells slots Q (F0 m (pc + 3) ls (.int r :: rest))) : W p l e R s m args below meth c H locs cells slots Q (F0 m pc ls st0) :=
  aft_mi hC (fun u => xW_adr g ρ ρ σ u) (runSU2 hkB C0 hl hsm hsup hup hyn hiy hini hcy hno hd hM hR (t_pre hK hC hB hva hc) hsz hst hn hW hdg hf) kk
theorem t_run {F : Int32 × St} {o : String} {b0 : ByteArray} {m0 : Nat} {r0 : Option FieldType} (hva : va_at g.1 vwCl (a, .inr (ci, fs)) H) (hc : vwCl[ci]? = some (C, T, N)) (C0 : BC p s m args meth c cc own nL ret0) (hK : KK g s) (hC : WC g (xW g ρ) A H0 σ H locs) (hB : XH g ρ dt H) (hl : Cond.methodLink own idx x ∈ TB) (hsm : Cond.sameMethod x.cls o x.name x.desc ∈ TB) (hix : Cond.instanceMethod ⟨o, x.name, x.desc⟩ ∈ TB) (h0 : Cond.code ⟨o, x.name, x.desc⟩ b0 m0 r0 ∈ TB) (hsel : Cond.selects C x y ∈ TB) (hiy : Cond.instanceMethod y ∈ TB) (hini : Cond.initialized y.cls ∈ TB) (hcy : Cond.code y cy maxL ret ∈ TB) (hd : o ≠ "java/lang/invoke/MethodHandle" ∧ o ≠ "java/lang/invoke/VarHandle" ∧ (parseMethodDescriptor x.desc).map (fun d => d.parameters.length) = some n) (hM : MI l y (wsF y cy maxL ret) { frames := fr, cells := 0, slots := 0, locals := lo } (.ref a :: As) g (xW g ρ) (XB g ρ dt) σ F) (hR : fr + 1 ≤ R.frames ∧ 8 + (maxL + 11) + lo ≤ R.locals) (hsz : ls.size = nL) (hst : st0 = As.reverse ++ .ref a :: rest) (hn : As.length = n) (hW : (rest.map fun v => v.category).sum ≤ 8) (hdg : decode cc pc = .ok (.invokevirtual idx, 3)) (hf : cells ≤ R.cells ∧ slots ≤ R.slots) (kk : ∀ (r : Int32) (u : St) (H1 : Heap) (locs1 : List Loc), (r, u) = F → WC g (xW g ρ) A H0 u H1 locs1 → W p l e R s m args below meth c H1 locs1 cells slots Q (F0 m (pc + 3) ls (.int r :: rest))) : W p l e R s m args below meth c H locs cells slots Q (F0 m pc ls st0) :=
  aft_mi hC (fun u => xW_adr g ρ ρ σ u) (va_runU (g := F0 m pc ls st0) (C := C) (owner := o) (x := x) (y := y) ⟨C0.1, C0.2.1, C0.2.2.2.1, C0.2.2.2.2.1, C0.2.2.2.2.2.1⟩ hM (va_cwO (C := C) (owner := o) n C0.2.2.2.2.2.1 (fun w hw => by
    have key : w ∈ TB := by
      rcases List.mem_append.mp hw with h | h
      · simp only [List.mem_cons, List.not_mem_nil, or_false] at h
        rcases h with rfl | rfl | rfl | rfl | rfl | rfl
        · exact hl
        · exact hsm
        · exact hix
        · exact hsel
        · exact hiy
        · exact hini
      · rcases List.mem_cons.mp h with rfl | h
        · exact hcy
        · exact h
    exact ⟨key, goodTB key⟩) rfl rfl rfl (b0 := b0) (m0 := m0) (r0 := r0) h0 hd hR) (t_pre hK hC hB hva hc) rfl hn hsz hst (lv_room hW) hdg hf) kk
end SU3
theorem rx_to {u : St} {j k : Int} (h : 0 ≤ (u 81 0).toInt ∧ (u 81 0).toInt ≤ j) (hjk : j ≤ k) : 0 ≤ (u 81 0).toInt ∧ (u 81 0).toInt ≤ k := ⟨h.1, by omega⟩
theorem rx_f_X6_sets {dt : Nat → Nat → Int32} {a : Nat} {σ : St} {x : Int32} {n : Int} (hn : n ≤ 1900) (h : 0 ≤ (σ 81 0).toInt ∧ (σ 81 0).toInt ≤ n) : 0 ≤ ((f_X6_sets dt a σ x).2 81 0).toInt ∧ ((f_X6_sets dt a σ x).2 81 0).toInt ≤ n + 1 := by
  exact rx_begin (x := 1) (by omega) h
set_option maxRecDepth 20000 in
theorem w_581 : (Cond.superclass RX6 "java/lang/Object") ∈ TB := inTB (List.mem_of_getElem? (i := 581) (by decide +kernel)) (by decide +kernel)
set_option maxRecDepth 20000 in
theorem w_515 : (Cond.superclass RX10 RX6) ∈ TB := inTB (List.mem_of_getElem? (i := 515) (by decide +kernel)) (by decide +kernel)
set_option maxRecDepth 20000 in
theorem w_526 : (Cond.superclass RX7 RX6) ∈ TB := inTB (List.mem_of_getElem? (i := 526) (by decide +kernel)) (by decide +kernel)
set_option maxRecDepth 20000 in
theorem w_537 : (Cond.superclass RX0 RX6) ∈ TB := inTB (List.mem_of_getElem? (i := 537) (by decide +kernel)) (by decide +kernel)
set_option maxRecDepth 20000 in
theorem w_548 : (Cond.superclass RX4 RX10) ∈ TB := inTB (List.mem_of_getElem? (i := 548) (by decide +kernel)) (by decide +kernel)
set_option maxRecDepth 20000 in
theorem w_559 : (Cond.superclass RX3 RX7) ∈ TB := inTB (List.mem_of_getElem? (i := 559) (by decide +kernel)) (by decide +kernel)
set_option maxRecDepth 20000 in
theorem w_573 : (Cond.superclass RX8 RX0) ∈ TB := inTB (List.mem_of_getElem? (i := 573) (by decide +kernel)) (by decide +kernel)
section SU4
variable {p : Program} {l : Launch} {e : Env} {R : Room} {s : State} {m : MethodId} {args : Array Value} {below : List Frame} {meth : Method} {c : Code} {H : Heap} {locs : List Loc} {cells slots : Nat} {Q : State → Prop}
variable {cc : ByteArray} {own C P0 : String} {nL pc idx N ci : Nat} {ret0 : Option FieldType} {ls : Array Slot} {rest st0 : List Value} {g : GG} {ρ : RR} {dt : Nat → Nat → Int32} {σ : St} {T : u_T} {A : Nat → Prop} {H0 : Heap} {a : Nat}
variable {x y : MethodName} {cy : ByteArray} {maxL n : Nat} {ret : Option FieldType} {fr lo : Nat} {As : List Value} {fs : List Value}
theorem t_super {F : Int32 × St} (C0 : BC p s m args meth c cc own nL ret0) (hK : KK g s) (hC : WC g (xW g ρ) A H0 σ H locs) (hB : XH g ρ dt H) (hSk : SKH g H a (dt a)) (hl : Cond.methodLink own idx x ∈ TB) (hsm : Cond.sameMethod x.cls y.cls x.name x.desc ∈ TB) (hsup : Cond.superclass own x.cls ∈ TB) (hup : x.cls = y.cls ∨ Cond.superclass x.cls y.cls ∈ TB) (hyn : y = ⟨y.cls, x.name, x.desc⟩) (hiy : Cond.instanceMethod y ∈ TB) (hini : Cond.initialized y.cls ∈ TB) (hcy : Cond.code y cy maxL ret ∈ TB) (hno : x.name ≠ "<init>") (hd : (parseMethodDescriptor y.desc).map (fun d => d.parameters.length) = some n) (hM : MI l y (wsF y cy maxL ret) { frames := fr, cells := 0, slots := 0, locals := lo } (.ref a :: As) g (xW g ρ) (XB g ρ dt) σ F) (hR : fr + 1 ≤ R.frames ∧ 8 + (maxL + 11) + lo ≤ R.locals) (hsz : ls.size = nL) (hst : st0 = As.reverse ++ .ref a :: rest) (hn : As.length = n) (hW : (rest.map fun v => v.category).sum ≤ 8) (hdg : decode cc pc = .ok (.invokespecial idx, 3)) (hf : cells ≤ R.cells ∧ slots ≤ R.slots) (kk : ∀ (r : Int32) (u : St) (H1 : Heap) (locs1 : List Loc), (r, u) = F → WC g (xW g ρ) A H0 u H1 locs1 → W p l e R s m args below meth c H1 locs1 cells slots Q (F0 m (pc + 3) ls (.int r :: rest))) : W p l e R s m args below meth c H locs cells slots Q (F0 m pc ls st0) := by
  obtain ⟨hS0, hS⟩ := hSk
  rcases hS with ⟨e1, h⟩ | ⟨e1, h⟩ | ⟨e1, h⟩ | ⟨e1, h⟩ | ⟨e1, h⟩ | ⟨e1, h⟩ | ⟨e1, b, hb, hba, h, h'⟩
  · exact t_sup h rfl w_581 C0 hK hC hB hl hsm hsup hup hyn hiy hini hcy hno hd hM hR hsz hst hn hW hdg hf kk
  · exact t_sup h rfl w_515 C0 hK hC hB hl hsm hsup hup hyn hiy hini hcy hno hd hM hR hsz hst hn hW hdg hf kk
  · exact t_sup h rfl w_526 C0 hK hC hB hl hsm hsup hup hyn hiy hini hcy hno hd hM hR hsz hst hn hW hdg hf kk
  · exact t_sup h rfl w_537 C0 hK hC hB hl hsm hsup hup hyn hiy hini hcy hno hd hM hR hsz hst hn hW hdg hf kk
  · exact t_sup h rfl w_548 C0 hK hC hB hl hsm hsup hup hyn hiy hini hcy hno hd hM hR hsz hst hn hW hdg hf kk
  · exact t_sup h rfl w_559 C0 hK hC hB hl hsm hsup hup hyn hiy hini hcy hno hd hM hR hsz hst hn hW hdg hf kk
  · exact t_sup h rfl w_573 C0 hK hC hB hl hsm hsup hup hyn hiy hini hcy hno hd hM hR hsz hst hn hW hdg hf kk
theorem t_run4 {F : Int32 × St} {o : String} {b0 : ByteArray} {m0 : Nat} {r0 : Option FieldType} (C0 : BC p s m args meth c cc own nL ret0) (hK : KK g s) (hC : WC g (xW g ρ) A H0 σ H locs) (hB : XH g ρ dt H) (hSk : SKH g H a (dt a)) (h4 : dt a 1 = 4) (hl : Cond.methodLink own idx x ∈ TB) (hsm : Cond.sameMethod x.cls o x.name x.desc ∈ TB) (hix : Cond.instanceMethod ⟨o, x.name, x.desc⟩ ∈ TB) (h0 : Cond.code ⟨o, x.name, x.desc⟩ b0 m0 r0 ∈ TB) (hsel : Cond.selects RX4 x y ∈ TB) (hiy : Cond.instanceMethod y ∈ TB) (hini : Cond.initialized y.cls ∈ TB) (hcy : Cond.code y cy maxL ret ∈ TB) (hd : o ≠ "java/lang/invoke/MethodHandle" ∧ o ≠ "java/lang/invoke/VarHandle" ∧ (parseMethodDescriptor x.desc).map (fun d => d.parameters.length) = some n) (hM : MI l y (wsF y cy maxL ret) { frames := fr, cells := 0, slots := 0, locals := lo } (.ref a :: As) g (xW g ρ) (XB g ρ dt) σ F) (hR : fr + 1 ≤ R.frames ∧ 8 + (maxL + 11) + lo ≤ R.locals) (hsz : ls.size = nL) (hst : st0 = As.reverse ++ .ref a :: rest) (hn : As.length = n) (hW : (rest.map fun v => v.category).sum ≤ 8) (hdg : decode cc pc = .ok (.invokevirtual idx, 3)) (hf : cells ≤ R.cells ∧ slots ≤ R.slots) (kk : ∀ (r : Int32) (u : St) (H1 : Heap) (locs1 : List Loc), (r, u) = F → WC g (xW g ρ) A H0 u H1 locs1 → W p l e R s m args below meth c H1 locs1 cells slots Q (F0 m (pc + 3) ls (.int r :: rest))) : W p l e R s m args below meth c H locs cells slots Q (F0 m pc ls st0) := by
  obtain ⟨hS0, hS⟩ := hSk
  rcases hS with ⟨e1, h⟩ | ⟨e1, h⟩ | ⟨e1, h⟩ | ⟨e1, h⟩ | ⟨e1, h⟩ | ⟨e1, h⟩ | ⟨e1, b, hb, hba, h, h'⟩
  · rw [h4] at e1; exact absurd e1 (by decide)
  · rw [h4] at e1; exact absurd e1 (by decide)
  · rw [h4] at e1; exact absurd e1 (by decide)
  · rw [h4] at e1; exact absurd e1 (by decide)
  · exact t_run h rfl C0 hK hC hB hl hsm hix h0 hsel hiy hini hcy hd hM hR hsz hst hn hW hdg hf kk
  · rw [h4] at e1; exact absurd e1 (by decide)
  · rw [h4] at e1; exact absurd e1 (by decide)
end SU4
set_option maxRecDepth 20000 in
theorem w_880 : (Cond.methodLinkNest RX10 19 yX9_begin RX11) ∈ NB := inNB (List.mem_of_getElem? (i := 880) (by decide +kernel)) (by decide +kernel)
set_option maxRecDepth 20000 in
theorem w_881 : (Cond.methodLink RX10 25 yX6_sets) ∈ TB := inTB (List.mem_of_getElem? (i := 881) (by decide +kernel)) (by decide +kernel)
set_option maxRecDepth 20000 in
theorem w_885 : (Cond.code yX6_sets cX6_sets 3 (some .int)) ∈ TB := inTB (List.mem_of_getElem? (i := 885) (by decide +kernel)) (by decide +kernel)
set_option maxRecDepth 20000 in
theorem w_863 : (Cond.instanceMethod yX6_sets) ∈ TB := inTB (List.mem_of_getElem? (i := 863) (by decide +kernel)) (by decide +kernel)
set_option maxRecDepth 20000 in
theorem w_864 : (Cond.selects RX6 yX6_sets yX6_sets) ∈ TB := inTB (List.mem_of_getElem? (i := 864) (by decide +kernel)) (by decide +kernel)
theorem cf_X6_sets : CF yX6_sets cX6_sets 3 (some .int) 2 := ⟨w_863, w_864, w_85, w_885, by decide +kernel, by decide +kernel, by decide +kernel⟩
set_option maxRecDepth 20000 in
theorem w_865 : (Cond.sameMethod RX6 RX6 "sets" "(ILThreeMeasures$Trace;)I") ∈ TB := inTB (List.mem_of_getElem? (i := 865) (by decide +kernel)) (by decide +kernel)
theorem dX10_sets_0 : decode cX10_sets 0 = .ok (.aload_n 2, 1) := by decide +kernel
theorem dX10_sets_1 : decode cX10_sets 1 = .ok (.bipush 11, 2) := by decide +kernel
theorem dX10_sets_3 : decode cX10_sets 3 = .ok (.invokevirtual 19, 3) := by decide +kernel
theorem dX10_sets_6 : decode cX10_sets 6 = .ok (.aload_n 0, 1) := by decide +kernel
theorem dX10_sets_7 : decode cX10_sets 7 = .ok (.iload_n 1, 1) := by decide +kernel
theorem dX10_sets_8 : decode cX10_sets 8 = .ok (.iconst 3, 1) := by decide +kernel
theorem dX10_sets_9 : decode cX10_sets 9 = .ok (.imul, 1) := by decide +kernel
theorem dX10_sets_10 : decode cX10_sets 10 = .ok (.aload_n 2, 1) := by decide +kernel
theorem dX10_sets_11 : decode cX10_sets 11 = .ok (.invokespecial 25, 3) := by decide +kernel
theorem dX10_sets_14 : decode cX10_sets 14 = .ok (.ireturn, 1) := by decide +kernel
def f_X10_sets (dt : Nat → Nat → Int32) (a : Nat) (σ : St) (a1 : Int32) : Int32 × St := (bd1 (f_X9_begin σ (11 : Int32)) (fun u3 => (bd (f_X6_sets dt a u3 (a1 * (3 : Int32))) (fun r11 u11 => (r11, u11)))))
set_option maxHeartbeats 600000 in
set_option maxRecDepth 100000 in
theorem k_X10_sets (l : Launch) (g : GG) (ρ : RR) (dt : Nat → Nat → Int32) (a : Nat) (σ : St) (a1 : Int32) (hs : ∃ i, ρ 24 i = some a) (hrn : 0 ≤ (σ 81 0).toInt ∧ (σ 81 0).toInt ≤ 80) : MI l yX10_sets (wsF yX10_sets cX10_sets 3 (some .int)) { frames := 2, cells := 0, slots := 0, locals := 43 } [.ref (a), .int (a1), .ref (g.2.2 104)] g (xW g ρ) (XB g ρ dt) σ (f_X10_sets dt a σ a1) := by
  refine start_MI (by decide) (Nat.le_of_ble_eq_true rfl) ?_
  intro p e s m args below meth c C0 hK hB hC ls hl
  generalize hAe : aA ((xW g ρ) σ) = A at hC ⊢
  have hA : ∀ q, A q → q ∈ adrs (xW g (fun _ _ => none) (fun _ _ => 0)) := fun q h => by rw [← hAe] at h; exact h
  obtain ⟨hx, hb, hr, hml, hown, hts, hlocks⟩ := id C0
  have hl : lv_has ls 3 [(0, .ref (a)), (1, .int (a1)), (2, .ref (g.2.2 104))] := hl
  generalize hT : (f_X10_sets dt a σ a1) = tgt
  suffices key : ∀ (H : Heap) (locs : List Loc), WC g (xW g ρ) A s.heap σ H locs → W p l e { frames := 2, cells := 0, slots := 0, locals := 43 } s m args below meth c H locs 0 0 (QMI below args s g (xW g ρ) A tgt) (F0 m 0 ls []) from key _ _ hC
  intro H locs hC
  unfold f_X10_sets at hT
  refine lv_aload_n hx hb dX10_sets_0 rfl (lv_at hl 2 rfl) ?_
  refine lv_bipush (v := (11 : Int32)) hx hb dX10_sets_1 (by decide) ?_
  have q3_hrn : 0 ≤ (σ 81 0).toInt ∧ (σ 81 0).toInt ≤ 100 := ⟨hrn.1, by omega⟩
  refine x_mvn (rest := []) (As := [.int ((11 : Int32))]) (σ := σ) (ρ := ρ) (dt := dt) (T := TX9) (N := 2) (fs := xF4 g ρ σ) 9 4 rfl rfl C0 hK hC (XH.wa hB hA hC) cf_X9_begin w_880 (k_X9_begin l g ρ dt σ (11 : Int32) q3_hrn) ⟨by decide, by decide⟩ hl.1 rfl rfl (Nat.le_of_ble_eq_true rfl) dX10_sets_3 ⟨Nat.zero_le _, Nat.zero_le _⟩ (fun u3 H locs e3 hC => ?_)
  have hT := bd1_e e3 hT
  refine lv_aload_n hx hb dX10_sets_6 rfl (lv_at hl 0 rfl) ?_
  refine lv_iload_n hx hb dX10_sets_7 rfl (lv_at hl 1 rfl) ?_
  refine lv_iconst (v := (3 : Int32)) hx hb dX10_sets_8 (by decide) ?_
  refine lv_imul hx hb dX10_sets_9 ?_
  refine lv_aload_n hx hb dX10_sets_10 rfl (lv_at hl 2 rfl) ?_
  have q11_hrn : 0 ≤ (u3 81 0).toInt ∧ (u3 81 0).toInt ≤ 90 := (by rw [e3]; exact rx_to (rx_begin (n := 80) (by omega) hrn) (by omega))
  refine t_super (x := yX6_sets) (y := yX6_sets) (rest := []) (As := [.int ((a1 * (3 : Int32))), .ref (g.2.2 104)]) (n := 2) (F := (f_X6_sets dt a u3 (a1 * (3 : Int32)))) C0 hK hC (XH.wa hB hA hC) (XH.sk (XH.wa hB hA hC) (Or.inl hs.choose_spec)) w_881 w_865 w_515 (Or.inl rfl) rfl w_863 w_85 w_885 (by decide) (by decide +kernel) (k_X6_sets l g ρ dt a u3 (a1 * (3 : Int32)) hs q11_hrn) ⟨by decide, by decide⟩ hl.1 rfl rfl (Nat.le_of_ble_eq_true rfl) dX10_sets_11 ⟨Nat.zero_le _, Nat.zero_le _⟩ (fun r11 u11 H locs e11 hC => ?_)
  have hT := bd_e e11 hT
  exact ret_MI C0 hC hT dX10_sets_14
theorem rx_f_X10_sets {dt : Nat → Nat → Int32} {a : Nat} {σ : St} {x : Int32} {n : Int} (hn : n ≤ 1800) (h : 0 ≤ (σ 81 0).toInt ∧ (σ 81 0).toInt ≤ n) : 0 ≤ ((f_X10_sets dt a σ x).2 81 0).toInt ∧ ((f_X10_sets dt a σ x).2 81 0).toInt ≤ n + 2 := by
  exact rx_to (rx_f_X6_sets (dt := dt) (a := a) (x := x * 3) (by omega) (rx_begin (x := 11) (by omega) h)) (by omega)
set_option maxRecDepth 20000 in
theorem w_870 : (Cond.methodLinkNest RX3 24 yX9_begin RX11) ∈ NB := inNB (List.mem_of_getElem? (i := 870) (by decide +kernel)) (by decide +kernel)
set_option maxRecDepth 20000 in
theorem w_874 : (Cond.methodLink RX3 30 (⟨RX7, "sets", "(ILThreeMeasures$Trace;)I"⟩ : MethodName)) ∈ TB := inTB (List.mem_of_getElem? (i := 874) (by decide +kernel)) (by decide +kernel)
set_option maxRecDepth 20000 in
theorem w_875 : (Cond.sameMethod RX7 RX6 "sets" "(ILThreeMeasures$Trace;)I") ∈ TB := inTB (List.mem_of_getElem? (i := 875) (by decide +kernel)) (by decide +kernel)
set_option maxRecDepth 20000 in
theorem w_479 : (Cond.fieldLink RX3 34 RX3 "number" "I") ∈ TB := inTB (List.mem_of_getElem? (i := 479) (by decide +kernel)) (by decide +kernel)
set_option maxRecDepth 20000 in
theorem w_480 : (Cond.sameField RX3 RX6 "number" "I") ∈ TB := inTB (List.mem_of_getElem? (i := 480) (by decide +kernel)) (by decide +kernel)
theorem dX3_sets_0 : decode cX3_sets 0 = .ok (.aload_n 2, 1) := by decide +kernel
theorem dX3_sets_1 : decode cX3_sets 1 = .ok (.bipush 51, 2) := by decide +kernel
theorem dX3_sets_3 : decode cX3_sets 3 = .ok (.invokevirtual 24, 3) := by decide +kernel
theorem dX3_sets_6 : decode cX3_sets 6 = .ok (.aload_n 0, 1) := by decide +kernel
theorem dX3_sets_7 : decode cX3_sets 7 = .ok (.iload_n 1, 1) := by decide +kernel
theorem dX3_sets_8 : decode cX3_sets 8 = .ok (.aload_n 2, 1) := by decide +kernel
theorem dX3_sets_9 : decode cX3_sets 9 = .ok (.invokespecial 30, 3) := by decide +kernel
theorem dX3_sets_12 : decode cX3_sets 12 = .ok (.aload_n 0, 1) := by decide +kernel
theorem dX3_sets_13 : decode cX3_sets 13 = .ok (.getfield 34, 3) := by decide +kernel
theorem dX3_sets_16 : decode cX3_sets 16 = .ok (.ixor, 1) := by decide +kernel
theorem dX3_sets_17 : decode cX3_sets 17 = .ok (.ireturn, 1) := by decide +kernel
def f_X3_sets (dt : Nat → Nat → Int32) (a : Nat) (σ : St) (a1 : Int32) : Int32 × St := (bd1 (f_X9_begin σ (51 : Int32)) (fun u3 => (bd (f_X6_sets dt a u3 a1) (fun r9 u9 => ((r9 ^^^ (dt a 0)), u9)))))
set_option maxHeartbeats 600000 in
set_option maxRecDepth 100000 in
theorem k_X3_sets (l : Launch) (g : GG) (ρ : RR) (dt : Nat → Nat → Int32) (a : Nat) (σ : St) (a1 : Int32) (hs : ∃ i, ρ 24 i = some a) (hrn : 0 ≤ (σ 81 0).toInt ∧ (σ 81 0).toInt ≤ 80) : MI l yX3_sets (wsF yX3_sets cX3_sets 3 (some .int)) { frames := 2, cells := 0, slots := 0, locals := 43 } [.ref (a), .int (a1), .ref (g.2.2 104)] g (xW g ρ) (XB g ρ dt) σ (f_X3_sets dt a σ a1) := by
  refine start_MI (by decide) (Nat.le_of_ble_eq_true rfl) ?_
  intro p e s m args below meth c C0 hK hB hC ls hl
  generalize hAe : aA ((xW g ρ) σ) = A at hC ⊢
  have hA : ∀ q, A q → q ∈ adrs (xW g (fun _ _ => none) (fun _ _ => 0)) := fun q h => by rw [← hAe] at h; exact h
  obtain ⟨hx, hb, hr, hml, hown, hts, hlocks⟩ := id C0
  have hl : lv_has ls 3 [(0, .ref (a)), (1, .int (a1)), (2, .ref (g.2.2 104))] := hl
  generalize hT : (f_X3_sets dt a σ a1) = tgt
  suffices key : ∀ (H : Heap) (locs : List Loc), WC g (xW g ρ) A s.heap σ H locs → W p l e { frames := 2, cells := 0, slots := 0, locals := 43 } s m args below meth c H locs 0 0 (QMI below args s g (xW g ρ) A tgt) (F0 m 0 ls []) from key _ _ hC
  intro H locs hC
  unfold f_X3_sets at hT
  refine lv_aload_n hx hb dX3_sets_0 rfl (lv_at hl 2 rfl) ?_
  refine lv_bipush (v := (51 : Int32)) hx hb dX3_sets_1 (by decide) ?_
  have q3_hrn : 0 ≤ (σ 81 0).toInt ∧ (σ 81 0).toInt ≤ 100 := ⟨hrn.1, by omega⟩
  refine x_mvn (rest := []) (As := [.int ((51 : Int32))]) (σ := σ) (ρ := ρ) (dt := dt) (T := TX9) (N := 2) (fs := xF4 g ρ σ) 9 4 rfl rfl C0 hK hC (XH.wa hB hA hC) cf_X9_begin w_870 (k_X9_begin l g ρ dt σ (51 : Int32) q3_hrn) ⟨by decide, by decide⟩ hl.1 rfl rfl (Nat.le_of_ble_eq_true rfl) dX3_sets_3 ⟨Nat.zero_le _, Nat.zero_le _⟩ (fun u3 H locs e3 hC => ?_)
  have hT := bd1_e e3 hT
  refine lv_aload_n hx hb dX3_sets_6 rfl (lv_at hl 0 rfl) ?_
  refine lv_iload_n hx hb dX3_sets_7 rfl (lv_at hl 1 rfl) ?_
  refine lv_aload_n hx hb dX3_sets_8 rfl (lv_at hl 2 rfl) ?_
  have q9_hrn : 0 ≤ (u3 81 0).toInt ∧ (u3 81 0).toInt ≤ 90 := (by rw [e3]; exact rx_to (rx_begin (n := 80) (by omega) hrn) (by omega))
  refine t_super (x := (⟨RX7, "sets", "(ILThreeMeasures$Trace;)I"⟩ : MethodName)) (y := yX6_sets) (rest := []) (As := [.int (a1), .ref (g.2.2 104)]) (n := 2) (F := (f_X6_sets dt a u3 a1)) C0 hK hC (XH.wa hB hA hC) (XH.sk (XH.wa hB hA hC) (Or.inl hs.choose_spec)) w_874 w_875 w_559 (Or.inr w_526) rfl w_863 w_85 w_885 (by decide) (by decide +kernel) (k_X6_sets l g ρ dt a u3 a1 hs q9_hrn) ⟨by decide, by decide⟩ hl.1 rfl rfl (Nat.le_of_ble_eq_true rfl) dX3_sets_9 ⟨Nat.zero_le _, Nat.zero_le _⟩ (fun r9 u9 H locs e9 hC => ?_)
  have hT := bd_e e9 hT
  refine lv_aload_n hx hb dX3_sets_12 rfl (lv_at hl 0 rfl) ?_
  refine sk_get (d := dt a) 0 C0 hK (XH.sk (XH.wa hB hA hC) (Or.inl hs.choose_spec)) (by decide) w_479 (fun x h => u_same (C0.2.2.2.2.2.1 _ w_480) x h) dX3_sets_13 ?_
  refine lv_ixor hx hb dX3_sets_16 ?_
  exact ret_MI C0 hC hT dX3_sets_17
theorem rx_f_X3_sets {dt : Nat → Nat → Int32} {a : Nat} {σ : St} {x : Int32} {n : Int} (hn : n ≤ 1800) (h : 0 ≤ (σ 81 0).toInt ∧ (σ 81 0).toInt ≤ n) : 0 ≤ ((f_X3_sets dt a σ x).2 81 0).toInt ∧ ((f_X3_sets dt a σ x).2 81 0).toInt ≤ n + 2 := by
  exact rx_to (rx_f_X6_sets (dt := dt) (a := a) (x := x) (by omega) (rx_begin (x := 51) (by omega) h)) (by omega)
set_option maxRecDepth 20000 in
theorem w_884 : (Cond.selects RX10 yX6_sets yX10_sets) ∈ TB := inTB (List.mem_of_getElem? (i := 884) (by decide +kernel)) (by decide +kernel)
set_option maxRecDepth 20000 in
theorem w_879 : (Cond.code yX10_sets cX10_sets 3 (some .int)) ∈ TB := inTB (List.mem_of_getElem? (i := 879) (by decide +kernel)) (by decide +kernel)
set_option maxRecDepth 20000 in
theorem w_878 : (Cond.instanceMethod yX10_sets) ∈ TB := inTB (List.mem_of_getElem? (i := 878) (by decide +kernel)) (by decide +kernel)
set_option maxRecDepth 20000 in
theorem w_882 : (Cond.selects RX7 yX6_sets yX6_sets) ∈ TB := inTB (List.mem_of_getElem? (i := 882) (by decide +kernel)) (by decide +kernel)
set_option maxRecDepth 20000 in
theorem w_866 : (Cond.selects RX0 yX6_sets yX6_sets) ∈ TB := inTB (List.mem_of_getElem? (i := 866) (by decide +kernel)) (by decide +kernel)
set_option maxRecDepth 20000 in
theorem w_877 : (Cond.selects RX4 yX6_sets yX10_sets) ∈ TB := inTB (List.mem_of_getElem? (i := 877) (by decide +kernel)) (by decide +kernel)
set_option maxRecDepth 20000 in
theorem w_867 : (Cond.selects RX3 yX6_sets yX3_sets) ∈ TB := inTB (List.mem_of_getElem? (i := 867) (by decide +kernel)) (by decide +kernel)
set_option maxRecDepth 20000 in
theorem w_869 : (Cond.code yX3_sets cX3_sets 3 (some .int)) ∈ TB := inTB (List.mem_of_getElem? (i := 869) (by decide +kernel)) (by decide +kernel)
set_option maxRecDepth 20000 in
theorem w_868 : (Cond.instanceMethod yX3_sets) ∈ TB := inTB (List.mem_of_getElem? (i := 868) (by decide +kernel)) (by decide +kernel)
set_option maxRecDepth 20000 in
theorem w_883 : (Cond.selects RX8 yX6_sets yX6_sets) ∈ TB := inTB (List.mem_of_getElem? (i := 883) (by decide +kernel)) (by decide +kernel)
def vset (dt : Nat → Nat → Int32) (a : Nat) (σ : St) (x : Int32) : Int32 × St := if dt a 1 = 1 then f_X10_sets dt a σ x else if dt a 1 = 2 then f_X6_sets dt a σ x else if dt a 1 = 3 then f_X6_sets dt a σ x else if dt a 1 = 4 then f_X10_sets dt a σ x else if dt a 1 = 5 then f_X3_sets dt a σ x else if dt a 1 = 6 then f_X6_sets dt a σ x else f_X6_sets dt a σ x
section VV
variable {p : Program} {l : Launch} {e : Env} {R : Room} {s : State} {m : MethodId} {args : Array Value} {below : List Frame} {meth : Method} {c : Code} {H : Heap} {locs : List Loc} {cells slots : Nat} {Q : State → Prop}
variable {cc : ByteArray} {own C P0 : String} {nL pc idx N ci : Nat} {ret0 : Option FieldType} {ls : Array Slot} {rest st0 : List Value} {g : GG} {ρ : RR} {dt : Nat → Nat → Int32} {σ : St} {T : u_T} {A : Nat → Prop} {H0 : Heap} {a : Nat}
variable {x y : MethodName} {cy : ByteArray} {maxL n : Nat} {ret : Option FieldType} {fr lo : Nat} {As : List Value} {fs : List Value}
set_option maxHeartbeats 600000 in
theorem t_sets {x : Int32} (C0 : BC p s m args meth c cc own nL ret0) (hK : KK g s) (hC : WC g (xW g ρ) A H0 σ H locs) (hB : XH g ρ dt H) (hs : ∃ i, ρ 24 i = some a) (hrn : 0 ≤ (σ 81 0).toInt ∧ (σ 81 0).toInt ≤ 80) (hl : Cond.methodLink own idx yX6_sets ∈ TB) (hR : 3 ≤ R.frames ∧ 65 ≤ R.locals) (hsz : ls.size = nL) (hW : (rest.map fun v => v.category).sum ≤ 8) (hdg : decode cc pc = .ok (.invokevirtual idx, 3)) (kk : ∀ (r : Int32) (u : St) (H1 : Heap) (locs1 : List Loc), (r, u) = vset dt a σ x → WC g (xW g ρ) A H0 u H1 locs1 → W p l e R s m args below meth c H1 locs1 0 0 Q (F0 m (pc + 3) ls (.int r :: rest))) : W p l e R s m args below meth c H locs 0 0 Q (F0 m pc ls (.ref (g.2.2 104) :: .int x :: .ref a :: rest)) := by
  obtain ⟨hS0, hS⟩ := hB.1 _ a (Or.inl hs.choose_spec)
  rcases hS with ⟨e1, h⟩ | ⟨e1, h⟩ | ⟨e1, h⟩ | ⟨e1, h⟩ | ⟨e1, h⟩ | ⟨e1, h⟩ | ⟨e1, b, hb, hba, h, h'⟩
  · have ev : vset dt a σ x = f_X6_sets dt a σ x := by simp [vset, e1]
    rw [ev] at kk
    exact t_run (n := 2) (o := RX6) (x := yX6_sets) (y := yX6_sets) (As := [.int x, .ref (g.2.2 104)]) (rest := rest) h rfl C0 hK hC hB hl w_865 w_863 w_885 w_864 w_863 w_85 w_885 ⟨by decide +kernel, by decide +kernel, by decide +kernel⟩ (k_X6_sets l g ρ dt a σ x hs (rx_to hrn (by omega))) ⟨by show 2 ≤ R.frames; omega, by show 43 ≤ R.locals; omega⟩ hsz rfl rfl hW hdg ⟨Nat.zero_le _, Nat.zero_le _⟩ kk
  · have ev : vset dt a σ x = f_X10_sets dt a σ x := by simp [vset, e1]
    rw [ev] at kk
    exact t_run (n := 2) (o := RX6) (x := yX6_sets) (y := yX10_sets) (As := [.int x, .ref (g.2.2 104)]) (rest := rest) h rfl C0 hK hC hB hl w_865 w_863 w_885 w_884 w_878 w_86 w_879 ⟨by decide +kernel, by decide +kernel, by decide +kernel⟩ (k_X10_sets l g ρ dt a σ x hs (rx_to hrn (by omega))) ⟨by show 3 ≤ R.frames; omega, by show 65 ≤ R.locals; omega⟩ hsz rfl rfl hW hdg ⟨Nat.zero_le _, Nat.zero_le _⟩ kk
  · have ev : vset dt a σ x = f_X6_sets dt a σ x := by simp [vset, e1]
    rw [ev] at kk
    exact t_run (n := 2) (o := RX6) (x := yX6_sets) (y := yX6_sets) (As := [.int x, .ref (g.2.2 104)]) (rest := rest) h rfl C0 hK hC hB hl w_865 w_863 w_885 w_882 w_863 w_85 w_885 ⟨by decide +kernel, by decide +kernel, by decide +kernel⟩ (k_X6_sets l g ρ dt a σ x hs (rx_to hrn (by omega))) ⟨by show 2 ≤ R.frames; omega, by show 43 ≤ R.locals; omega⟩ hsz rfl rfl hW hdg ⟨Nat.zero_le _, Nat.zero_le _⟩ kk
  · have ev : vset dt a σ x = f_X6_sets dt a σ x := by simp [vset, e1]
    rw [ev] at kk
    exact t_run (n := 2) (o := RX6) (x := yX6_sets) (y := yX6_sets) (As := [.int x, .ref (g.2.2 104)]) (rest := rest) h rfl C0 hK hC hB hl w_865 w_863 w_885 w_866 w_863 w_85 w_885 ⟨by decide +kernel, by decide +kernel, by decide +kernel⟩ (k_X6_sets l g ρ dt a σ x hs (rx_to hrn (by omega))) ⟨by show 2 ≤ R.frames; omega, by show 43 ≤ R.locals; omega⟩ hsz rfl rfl hW hdg ⟨Nat.zero_le _, Nat.zero_le _⟩ kk
  · have ev : vset dt a σ x = f_X10_sets dt a σ x := by simp [vset, e1]
    rw [ev] at kk
    exact t_run (n := 2) (o := RX6) (x := yX6_sets) (y := yX10_sets) (As := [.int x, .ref (g.2.2 104)]) (rest := rest) h rfl C0 hK hC hB hl w_865 w_863 w_885 w_877 w_878 w_86 w_879 ⟨by decide +kernel, by decide +kernel, by decide +kernel⟩ (k_X10_sets l g ρ dt a σ x hs (rx_to hrn (by omega))) ⟨by show 3 ≤ R.frames; omega, by show 65 ≤ R.locals; omega⟩ hsz rfl rfl hW hdg ⟨Nat.zero_le _, Nat.zero_le _⟩ kk
  · have ev : vset dt a σ x = f_X3_sets dt a σ x := by simp [vset, e1]
    rw [ev] at kk
    exact t_run (n := 2) (o := RX6) (x := yX6_sets) (y := yX3_sets) (As := [.int x, .ref (g.2.2 104)]) (rest := rest) h rfl C0 hK hC hB hl w_865 w_863 w_885 w_867 w_868 w_90 w_869 ⟨by decide +kernel, by decide +kernel, by decide +kernel⟩ (k_X3_sets l g ρ dt a σ x hs (rx_to hrn (by omega))) ⟨by show 3 ≤ R.frames; omega, by show 65 ≤ R.locals; omega⟩ hsz rfl rfl hW hdg ⟨Nat.zero_le _, Nat.zero_le _⟩ kk
  · have ev : vset dt a σ x = f_X6_sets dt a σ x := by simp [vset, e1]
    rw [ev] at kk
    exact t_run (n := 2) (o := RX6) (x := yX6_sets) (y := yX6_sets) (As := [.int x, .ref (g.2.2 104)]) (rest := rest) h rfl C0 hK hC hB hl w_865 w_863 w_885 w_883 w_863 w_85 w_885 ⟨by decide +kernel, by decide +kernel, by decide +kernel⟩ (k_X6_sets l g ρ dt a σ x hs (rx_to hrn (by omega))) ⟨by show 2 ≤ R.frames; omega, by show 43 ≤ R.locals; omega⟩ hsz rfl rfl hW hdg ⟨Nat.zero_le _, Nat.zero_le _⟩ kk
end VV
theorem rx_vset {dt : Nat → Nat → Int32} {a : Nat} {σ : St} {x : Int32} {n : Int} (hn : n ≤ 1800) (h : 0 ≤ (σ 81 0).toInt ∧ (σ 81 0).toInt ≤ n) : 0 ≤ ((vset dt a σ x).2 81 0).toInt ∧ ((vset dt a σ x).2 81 0).toInt ≤ n + 2 := by
  unfold vset
  split
  · exact rx_to (rx_f_X10_sets (dt := dt) (a := a) (x := x) (by omega) h) (by omega)
  split
  · exact rx_to (rx_f_X6_sets (dt := dt) (a := a) (x := x) (by omega) h) (by omega)
  split
  · exact rx_to (rx_f_X6_sets (dt := dt) (a := a) (x := x) (by omega) h) (by omega)
  split
  · exact rx_to (rx_f_X10_sets (dt := dt) (a := a) (x := x) (by omega) h) (by omega)
  split
  · exact rx_to (rx_f_X3_sets (dt := dt) (a := a) (x := x) (by omega) h) (by omega)
  split
  · exact rx_to (rx_f_X6_sets (dt := dt) (a := a) (x := x) (by omega) h) (by omega)
  exact rx_to (rx_f_X6_sets (dt := dt) (a := a) (x := x) (by omega) h) (by omega)
set_option maxRecDepth 20000 in
theorem w_908 : (Cond.methodLink RX6 28 yX6_sets) ∈ TB := inTB (List.mem_of_getElem? (i := 908) (by decide +kernel)) (by decide +kernel)
set_option maxRecDepth 20000 in
theorem w_485 : (Cond.fieldLink RX6 16 RX6 "v" "I") ∈ TB := inTB (List.mem_of_getElem? (i := 485) (by decide +kernel)) (by decide +kernel)
theorem dX6_reads_0 : decode cX6_reads 0 = .ok (.aload_n 2, 1) := by decide +kernel
theorem dX6_reads_1 : decode cX6_reads 1 = .ok (.iconst 2, 1) := by decide +kernel
theorem dX6_reads_2 : decode cX6_reads 2 = .ok (.invokevirtual 22, 3) := by decide +kernel
theorem dX6_reads_5 : decode cX6_reads 5 = .ok (.aload_n 0, 1) := by decide +kernel
theorem dX6_reads_6 : decode cX6_reads 6 = .ok (.iload_n 1, 1) := by decide +kernel
theorem dX6_reads_7 : decode cX6_reads 7 = .ok (.aload_n 2, 1) := by decide +kernel
theorem dX6_reads_8 : decode cX6_reads 8 = .ok (.invokevirtual 28, 3) := by decide +kernel
theorem dX6_reads_11 : decode cX6_reads 11 = .ok (.aload_n 0, 1) := by decide +kernel
theorem dX6_reads_12 : decode cX6_reads 12 = .ok (.getfield 16, 3) := by decide +kernel
theorem dX6_reads_15 : decode cX6_reads 15 = .ok (.isub, 1) := by decide +kernel
theorem dX6_reads_16 : decode cX6_reads 16 = .ok (.ireturn, 1) := by decide +kernel
def f_X6_reads (dt : Nat → Nat → Int32) (a : Nat) (σ : St) (a1 : Int32) : Int32 × St := (bd1 (f_X9_begin σ (2 : Int32)) (fun u2 => (bd (vset dt a u2 a1) (fun r8 u8 => ((r8 - (dt a 2)), u8)))))
set_option maxHeartbeats 600000 in
set_option maxRecDepth 100000 in
theorem k_X6_reads (l : Launch) (g : GG) (ρ : RR) (dt : Nat → Nat → Int32) (a : Nat) (σ : St) (a1 : Int32) (hs : ∃ i, ρ 24 i = some a) (hrn : 0 ≤ (σ 81 0).toInt ∧ (σ 81 0).toInt ≤ 70) : MI l yX6_reads (wsF yX6_reads cX6_reads 3 (some .int)) { frames := 3, cells := 0, slots := 0, locals := 65 } [.ref (a), .int (a1), .ref (g.2.2 104)] g (xW g ρ) (XB g ρ dt) σ (f_X6_reads dt a σ a1) := by
  refine start_MI (by decide) (Nat.le_of_ble_eq_true rfl) ?_
  intro p e s m args below meth c C0 hK hB hC ls hl
  generalize hAe : aA ((xW g ρ) σ) = A at hC ⊢
  have hA : ∀ q, A q → q ∈ adrs (xW g (fun _ _ => none) (fun _ _ => 0)) := fun q h => by rw [← hAe] at h; exact h
  obtain ⟨hx, hb, hr, hml, hown, hts, hlocks⟩ := id C0
  have hl : lv_has ls 3 [(0, .ref (a)), (1, .int (a1)), (2, .ref (g.2.2 104))] := hl
  generalize hT : (f_X6_reads dt a σ a1) = tgt
  suffices key : ∀ (H : Heap) (locs : List Loc), WC g (xW g ρ) A s.heap σ H locs → W p l e { frames := 3, cells := 0, slots := 0, locals := 65 } s m args below meth c H locs 0 0 (QMI below args s g (xW g ρ) A tgt) (F0 m 0 ls []) from key _ _ hC
  intro H locs hC
  unfold f_X6_reads at hT
  refine lv_aload_n hx hb dX6_reads_0 rfl (lv_at hl 2 rfl) ?_
  refine lv_iconst (v := (2 : Int32)) hx hb dX6_reads_1 (by decide) ?_
  have q2_hrn : 0 ≤ (σ 81 0).toInt ∧ (σ 81 0).toInt ≤ 100 := ⟨hrn.1, by omega⟩
  refine x_mvn (rest := []) (As := [.int ((2 : Int32))]) (σ := σ) (ρ := ρ) (dt := dt) (T := TX9) (N := 2) (fs := xF4 g ρ σ) 9 4 rfl rfl C0 hK hC (XH.wa hB hA hC) cf_X9_begin w_886 (k_X9_begin l g ρ dt σ (2 : Int32) q2_hrn) ⟨by decide, by decide⟩ hl.1 rfl rfl (Nat.le_of_ble_eq_true rfl) dX6_reads_2 ⟨Nat.zero_le _, Nat.zero_le _⟩ (fun u2 H locs e2 hC => ?_)
  have hT := bd1_e e2 hT
  refine lv_aload_n hx hb dX6_reads_5 rfl (lv_at hl 0 rfl) ?_
  refine lv_iload_n hx hb dX6_reads_6 rfl (lv_at hl 1 rfl) ?_
  refine lv_aload_n hx hb dX6_reads_7 rfl (lv_at hl 2 rfl) ?_
  refine t_sets (rest := []) C0 hK hC (XH.wa hB hA hC) hs (by rw [e2]; exact rx_to (rx_begin (n := 70) (by omega) hrn) (by omega)) w_908 ⟨by decide, by decide⟩ hl.1 (Nat.le_of_ble_eq_true rfl) dX6_reads_8 (fun r8 u8 H locs e8 hC => ?_)
  have hT := bd_e e8 hT
  refine lv_aload_n hx hb dX6_reads_11 rfl (lv_at hl 0 rfl) ?_
  refine sk_get (d := dt a) 2 C0 hK (XH.sk (XH.wa hB hA hC) (Or.inl hs.choose_spec)) (by decide) w_485 (fun _ h => h) dX6_reads_12 ?_
  refine lv_isub hx hb dX6_reads_15 ?_
  exact ret_MI C0 hC hT dX6_reads_16
theorem rx_f_X6_reads {dt : Nat → Nat → Int32} {a : Nat} {σ : St} {x : Int32} {n : Int} (hn : n ≤ 1700) (h : 0 ≤ (σ 81 0).toInt ∧ (σ 81 0).toInt ≤ n) : 0 ≤ ((f_X6_reads dt a σ x).2 81 0).toInt ∧ ((f_X6_reads dt a σ x).2 81 0).toInt ≤ n + 3 := by
  exact rx_to (rx_vset (dt := dt) (a := a) (x := x) (by omega) (rx_begin (x := 2) (by omega) h)) (by omega)
set_option maxRecDepth 20000 in
theorem w_895 : (Cond.methodLinkNest RX7 16 yX9_begin RX11) ∈ NB := inNB (List.mem_of_getElem? (i := 895) (by decide +kernel)) (by decide +kernel)
set_option maxRecDepth 20000 in
theorem w_896 : (Cond.methodLink RX7 22 yX6_reads) ∈ TB := inTB (List.mem_of_getElem? (i := 896) (by decide +kernel)) (by decide +kernel)
set_option maxRecDepth 20000 in
theorem w_907 : (Cond.code yX6_reads cX6_reads 3 (some .int)) ∈ TB := inTB (List.mem_of_getElem? (i := 907) (by decide +kernel)) (by decide +kernel)
set_option maxRecDepth 20000 in
theorem w_888 : (Cond.instanceMethod yX6_reads) ∈ TB := inTB (List.mem_of_getElem? (i := 888) (by decide +kernel)) (by decide +kernel)
set_option maxRecDepth 20000 in
theorem w_889 : (Cond.selects RX6 yX6_reads yX6_reads) ∈ TB := inTB (List.mem_of_getElem? (i := 889) (by decide +kernel)) (by decide +kernel)
theorem cf_X6_reads : CF yX6_reads cX6_reads 3 (some .int) 2 := ⟨w_888, w_889, w_85, w_907, by decide +kernel, by decide +kernel, by decide +kernel⟩
set_option maxRecDepth 20000 in
theorem w_890 : (Cond.sameMethod RX6 RX6 "reads" "(ILThreeMeasures$Trace;)I") ∈ TB := inTB (List.mem_of_getElem? (i := 890) (by decide +kernel)) (by decide +kernel)
theorem dX7_reads_0 : decode cX7_reads 0 = .ok (.aload_n 2, 1) := by decide +kernel
theorem dX7_reads_1 : decode cX7_reads 1 = .ok (.bipush 21, 2) := by decide +kernel
theorem dX7_reads_3 : decode cX7_reads 3 = .ok (.invokevirtual 16, 3) := by decide +kernel
theorem dX7_reads_6 : decode cX7_reads 6 = .ok (.aload_n 0, 1) := by decide +kernel
theorem dX7_reads_7 : decode cX7_reads 7 = .ok (.iload_n 1, 1) := by decide +kernel
theorem dX7_reads_8 : decode cX7_reads 8 = .ok (.aload_n 2, 1) := by decide +kernel
theorem dX7_reads_9 : decode cX7_reads 9 = .ok (.invokespecial 22, 3) := by decide +kernel
theorem dX7_reads_12 : decode cX7_reads 12 = .ok (.ineg, 1) := by decide +kernel
theorem dX7_reads_13 : decode cX7_reads 13 = .ok (.ireturn, 1) := by decide +kernel
def f_X7_reads (dt : Nat → Nat → Int32) (a : Nat) (σ : St) (a1 : Int32) : Int32 × St := (bd1 (f_X9_begin σ (21 : Int32)) (fun u3 => (bd (f_X6_reads dt a u3 a1) (fun r9 u9 => ((-r9), u9)))))
set_option maxHeartbeats 600000 in
set_option maxRecDepth 100000 in
theorem k_X7_reads (l : Launch) (g : GG) (ρ : RR) (dt : Nat → Nat → Int32) (a : Nat) (σ : St) (a1 : Int32) (hs : ∃ i, ρ 24 i = some a) (hrn : 0 ≤ (σ 81 0).toInt ∧ (σ 81 0).toInt ≤ 60) : MI l yX7_reads (wsF yX7_reads cX7_reads 3 (some .int)) { frames := 4, cells := 0, slots := 0, locals := 87 } [.ref (a), .int (a1), .ref (g.2.2 104)] g (xW g ρ) (XB g ρ dt) σ (f_X7_reads dt a σ a1) := by
  refine start_MI (by decide) (Nat.le_of_ble_eq_true rfl) ?_
  intro p e s m args below meth c C0 hK hB hC ls hl
  generalize hAe : aA ((xW g ρ) σ) = A at hC ⊢
  have hA : ∀ q, A q → q ∈ adrs (xW g (fun _ _ => none) (fun _ _ => 0)) := fun q h => by rw [← hAe] at h; exact h
  obtain ⟨hx, hb, hr, hml, hown, hts, hlocks⟩ := id C0
  have hl : lv_has ls 3 [(0, .ref (a)), (1, .int (a1)), (2, .ref (g.2.2 104))] := hl
  generalize hT : (f_X7_reads dt a σ a1) = tgt
  suffices key : ∀ (H : Heap) (locs : List Loc), WC g (xW g ρ) A s.heap σ H locs → W p l e { frames := 4, cells := 0, slots := 0, locals := 87 } s m args below meth c H locs 0 0 (QMI below args s g (xW g ρ) A tgt) (F0 m 0 ls []) from key _ _ hC
  intro H locs hC
  unfold f_X7_reads at hT
  refine lv_aload_n hx hb dX7_reads_0 rfl (lv_at hl 2 rfl) ?_
  refine lv_bipush (v := (21 : Int32)) hx hb dX7_reads_1 (by decide) ?_
  have q3_hrn : 0 ≤ (σ 81 0).toInt ∧ (σ 81 0).toInt ≤ 100 := ⟨hrn.1, by omega⟩
  refine x_mvn (rest := []) (As := [.int ((21 : Int32))]) (σ := σ) (ρ := ρ) (dt := dt) (T := TX9) (N := 2) (fs := xF4 g ρ σ) 9 4 rfl rfl C0 hK hC (XH.wa hB hA hC) cf_X9_begin w_895 (k_X9_begin l g ρ dt σ (21 : Int32) q3_hrn) ⟨by decide, by decide⟩ hl.1 rfl rfl (Nat.le_of_ble_eq_true rfl) dX7_reads_3 ⟨Nat.zero_le _, Nat.zero_le _⟩ (fun u3 H locs e3 hC => ?_)
  have hT := bd1_e e3 hT
  refine lv_aload_n hx hb dX7_reads_6 rfl (lv_at hl 0 rfl) ?_
  refine lv_iload_n hx hb dX7_reads_7 rfl (lv_at hl 1 rfl) ?_
  refine lv_aload_n hx hb dX7_reads_8 rfl (lv_at hl 2 rfl) ?_
  have q9_hrn : 0 ≤ (u3 81 0).toInt ∧ (u3 81 0).toInt ≤ 70 := (by rw [e3]; exact rx_to (rx_begin (n := 60) (by omega) hrn) (by omega))
  refine t_super (x := yX6_reads) (y := yX6_reads) (rest := []) (As := [.int (a1), .ref (g.2.2 104)]) (n := 2) (F := (f_X6_reads dt a u3 a1)) C0 hK hC (XH.wa hB hA hC) (XH.sk (XH.wa hB hA hC) (Or.inl hs.choose_spec)) w_896 w_890 w_526 (Or.inl rfl) rfl w_888 w_85 w_907 (by decide) (by decide +kernel) (k_X6_reads l g ρ dt a u3 a1 hs q9_hrn) ⟨by decide, by decide⟩ hl.1 rfl rfl (Nat.le_of_ble_eq_true rfl) dX7_reads_9 ⟨Nat.zero_le _, Nat.zero_le _⟩ (fun r9 u9 H locs e9 hC => ?_)
  have hT := bd_e e9 hT
  refine lv_ineg hx hb dX7_reads_12 ?_
  exact ret_MI C0 hC hT dX7_reads_13
theorem rx_f_X7_reads {dt : Nat → Nat → Int32} {a : Nat} {σ : St} {x : Int32} {n : Int} (hn : n ≤ 1600) (h : 0 ≤ (σ 81 0).toInt ∧ (σ 81 0).toInt ≤ n) : 0 ≤ ((f_X7_reads dt a σ x).2 81 0).toInt ∧ ((f_X7_reads dt a σ x).2 81 0).toInt ≤ n + 4 := by
  exact rx_to (rx_f_X6_reads (dt := dt) (a := a) (x := x) (by omega) (rx_begin (x := 21) (by omega) h)) (by omega)
set_option maxRecDepth 20000 in
theorem w_902 : (Cond.methodLinkNest RX8 38 yX9_begin RX11) ∈ NB := inNB (List.mem_of_getElem? (i := 902) (by decide +kernel)) (by decide +kernel)
set_option maxRecDepth 20000 in
theorem w_903 : (Cond.methodLink RX8 44 (⟨RX0, "reads", "(ILThreeMeasures$Trace;)I"⟩ : MethodName)) ∈ TB := inTB (List.mem_of_getElem? (i := 903) (by decide +kernel)) (by decide +kernel)
set_option maxRecDepth 20000 in
theorem w_904 : (Cond.sameMethod RX0 RX6 "reads" "(ILThreeMeasures$Trace;)I") ∈ TB := inTB (List.mem_of_getElem? (i := 904) (by decide +kernel)) (by decide +kernel)
set_option maxRecDepth 20000 in
theorem w_488 : (Cond.fieldLink RX8 19 RX8 "v" "I") ∈ TB := inTB (List.mem_of_getElem? (i := 488) (by decide +kernel)) (by decide +kernel)
set_option maxRecDepth 20000 in
theorem w_489 : (Cond.sameField RX8 RX6 "v" "I") ∈ TB := inTB (List.mem_of_getElem? (i := 489) (by decide +kernel)) (by decide +kernel)
theorem dX8_reads_0 : decode cX8_reads 0 = .ok (.aload_n 2, 1) := by decide +kernel
theorem dX8_reads_1 : decode cX8_reads 1 = .ok (.bipush 61, 2) := by decide +kernel
theorem dX8_reads_3 : decode cX8_reads 3 = .ok (.invokevirtual 38, 3) := by decide +kernel
theorem dX8_reads_6 : decode cX8_reads 6 = .ok (.aload_n 0, 1) := by decide +kernel
theorem dX8_reads_7 : decode cX8_reads 7 = .ok (.iload_n 1, 1) := by decide +kernel
theorem dX8_reads_8 : decode cX8_reads 8 = .ok (.aload_n 2, 1) := by decide +kernel
theorem dX8_reads_9 : decode cX8_reads 9 = .ok (.invokespecial 44, 3) := by decide +kernel
theorem dX8_reads_12 : decode cX8_reads 12 = .ok (.aload_n 0, 1) := by decide +kernel
theorem dX8_reads_13 : decode cX8_reads 13 = .ok (.getfield 19, 3) := by decide +kernel
theorem dX8_reads_16 : decode cX8_reads 16 = .ok (.iadd, 1) := by decide +kernel
theorem dX8_reads_17 : decode cX8_reads 17 = .ok (.ireturn, 1) := by decide +kernel
def f_X8_reads (dt : Nat → Nat → Int32) (a : Nat) (σ : St) (a1 : Int32) : Int32 × St := (bd1 (f_X9_begin σ (61 : Int32)) (fun u3 => (bd (f_X6_reads dt a u3 a1) (fun r9 u9 => ((r9 + (dt a 2)), u9)))))
set_option maxHeartbeats 600000 in
set_option maxRecDepth 100000 in
theorem k_X8_reads (l : Launch) (g : GG) (ρ : RR) (dt : Nat → Nat → Int32) (a : Nat) (σ : St) (a1 : Int32) (hs : ∃ i, ρ 24 i = some a) (hrn : 0 ≤ (σ 81 0).toInt ∧ (σ 81 0).toInt ≤ 60) : MI l yX8_reads (wsF yX8_reads cX8_reads 3 (some .int)) { frames := 4, cells := 0, slots := 0, locals := 87 } [.ref (a), .int (a1), .ref (g.2.2 104)] g (xW g ρ) (XB g ρ dt) σ (f_X8_reads dt a σ a1) := by
  refine start_MI (by decide) (Nat.le_of_ble_eq_true rfl) ?_
  intro p e s m args below meth c C0 hK hB hC ls hl
  generalize hAe : aA ((xW g ρ) σ) = A at hC ⊢
  have hA : ∀ q, A q → q ∈ adrs (xW g (fun _ _ => none) (fun _ _ => 0)) := fun q h => by rw [← hAe] at h; exact h
  obtain ⟨hx, hb, hr, hml, hown, hts, hlocks⟩ := id C0
  have hl : lv_has ls 3 [(0, .ref (a)), (1, .int (a1)), (2, .ref (g.2.2 104))] := hl
  generalize hT : (f_X8_reads dt a σ a1) = tgt
  suffices key : ∀ (H : Heap) (locs : List Loc), WC g (xW g ρ) A s.heap σ H locs → W p l e { frames := 4, cells := 0, slots := 0, locals := 87 } s m args below meth c H locs 0 0 (QMI below args s g (xW g ρ) A tgt) (F0 m 0 ls []) from key _ _ hC
  intro H locs hC
  unfold f_X8_reads at hT
  refine lv_aload_n hx hb dX8_reads_0 rfl (lv_at hl 2 rfl) ?_
  refine lv_bipush (v := (61 : Int32)) hx hb dX8_reads_1 (by decide) ?_
  have q3_hrn : 0 ≤ (σ 81 0).toInt ∧ (σ 81 0).toInt ≤ 100 := ⟨hrn.1, by omega⟩
  refine x_mvn (rest := []) (As := [.int ((61 : Int32))]) (σ := σ) (ρ := ρ) (dt := dt) (T := TX9) (N := 2) (fs := xF4 g ρ σ) 9 4 rfl rfl C0 hK hC (XH.wa hB hA hC) cf_X9_begin w_902 (k_X9_begin l g ρ dt σ (61 : Int32) q3_hrn) ⟨by decide, by decide⟩ hl.1 rfl rfl (Nat.le_of_ble_eq_true rfl) dX8_reads_3 ⟨Nat.zero_le _, Nat.zero_le _⟩ (fun u3 H locs e3 hC => ?_)
  have hT := bd1_e e3 hT
  refine lv_aload_n hx hb dX8_reads_6 rfl (lv_at hl 0 rfl) ?_
  refine lv_iload_n hx hb dX8_reads_7 rfl (lv_at hl 1 rfl) ?_
  refine lv_aload_n hx hb dX8_reads_8 rfl (lv_at hl 2 rfl) ?_
  have q9_hrn : 0 ≤ (u3 81 0).toInt ∧ (u3 81 0).toInt ≤ 70 := (by rw [e3]; exact rx_to (rx_begin (n := 60) (by omega) hrn) (by omega))
  refine t_super (x := (⟨RX0, "reads", "(ILThreeMeasures$Trace;)I"⟩ : MethodName)) (y := yX6_reads) (rest := []) (As := [.int (a1), .ref (g.2.2 104)]) (n := 2) (F := (f_X6_reads dt a u3 a1)) C0 hK hC (XH.wa hB hA hC) (XH.sk (XH.wa hB hA hC) (Or.inl hs.choose_spec)) w_903 w_904 w_573 (Or.inr w_537) rfl w_888 w_85 w_907 (by decide) (by decide +kernel) (k_X6_reads l g ρ dt a u3 a1 hs q9_hrn) ⟨by decide, by decide⟩ hl.1 rfl rfl (Nat.le_of_ble_eq_true rfl) dX8_reads_9 ⟨Nat.zero_le _, Nat.zero_le _⟩ (fun r9 u9 H locs e9 hC => ?_)
  have hT := bd_e e9 hT
  refine lv_aload_n hx hb dX8_reads_12 rfl (lv_at hl 0 rfl) ?_
  refine sk_get (d := dt a) 2 C0 hK (XH.sk (XH.wa hB hA hC) (Or.inl hs.choose_spec)) (by decide) w_488 (fun x h => u_same (C0.2.2.2.2.2.1 _ w_489) x h) dX8_reads_13 ?_
  refine lv_iadd hx hb dX8_reads_16 ?_
  exact ret_MI C0 hC hT dX8_reads_17
theorem rx_f_X8_reads {dt : Nat → Nat → Int32} {a : Nat} {σ : St} {x : Int32} {n : Int} (hn : n ≤ 1600) (h : 0 ≤ (σ 81 0).toInt ∧ (σ 81 0).toInt ≤ n) : 0 ≤ ((f_X8_reads dt a σ x).2 81 0).toInt ∧ ((f_X8_reads dt a σ x).2 81 0).toInt ≤ n + 4 := by
  exact rx_to (rx_f_X6_reads (dt := dt) (a := a) (x := x) (by omega) (rx_begin (x := 61) (by omega) h)) (by omega)
set_option maxRecDepth 20000 in
theorem w_906 : (Cond.selects RX10 yX6_reads yX6_reads) ∈ TB := inTB (List.mem_of_getElem? (i := 906) (by decide +kernel)) (by decide +kernel)
set_option maxRecDepth 20000 in
theorem w_898 : (Cond.selects RX7 yX6_reads yX7_reads) ∈ TB := inTB (List.mem_of_getElem? (i := 898) (by decide +kernel)) (by decide +kernel)
set_option maxRecDepth 20000 in
theorem w_894 : (Cond.code yX7_reads cX7_reads 3 (some .int)) ∈ TB := inTB (List.mem_of_getElem? (i := 894) (by decide +kernel)) (by decide +kernel)
set_option maxRecDepth 20000 in
theorem w_893 : (Cond.instanceMethod yX7_reads) ∈ TB := inTB (List.mem_of_getElem? (i := 893) (by decide +kernel)) (by decide +kernel)
set_option maxRecDepth 20000 in
theorem w_891 : (Cond.selects RX0 yX6_reads yX6_reads) ∈ TB := inTB (List.mem_of_getElem? (i := 891) (by decide +kernel)) (by decide +kernel)
set_option maxRecDepth 20000 in
theorem w_897 : (Cond.selects RX4 yX6_reads yX6_reads) ∈ TB := inTB (List.mem_of_getElem? (i := 897) (by decide +kernel)) (by decide +kernel)
set_option maxRecDepth 20000 in
theorem w_892 : (Cond.selects RX3 yX6_reads yX7_reads) ∈ TB := inTB (List.mem_of_getElem? (i := 892) (by decide +kernel)) (by decide +kernel)
set_option maxRecDepth 20000 in
theorem w_899 : (Cond.selects RX8 yX6_reads yX8_reads) ∈ TB := inTB (List.mem_of_getElem? (i := 899) (by decide +kernel)) (by decide +kernel)
set_option maxRecDepth 20000 in
theorem w_901 : (Cond.code yX8_reads cX8_reads 3 (some .int)) ∈ TB := inTB (List.mem_of_getElem? (i := 901) (by decide +kernel)) (by decide +kernel)
set_option maxRecDepth 20000 in
theorem w_900 : (Cond.instanceMethod yX8_reads) ∈ TB := inTB (List.mem_of_getElem? (i := 900) (by decide +kernel)) (by decide +kernel)
def vread (dt : Nat → Nat → Int32) (a : Nat) (σ : St) (x : Int32) : Int32 × St := if dt a 1 = 1 then f_X6_reads dt a σ x else if dt a 1 = 2 then f_X7_reads dt a σ x else if dt a 1 = 3 then f_X6_reads dt a σ x else if dt a 1 = 4 then f_X6_reads dt a σ x else if dt a 1 = 5 then f_X7_reads dt a σ x else if dt a 1 = 6 then f_X8_reads dt a σ x else f_X6_reads dt a σ x
section VV
variable {p : Program} {l : Launch} {e : Env} {R : Room} {s : State} {m : MethodId} {args : Array Value} {below : List Frame} {meth : Method} {c : Code} {H : Heap} {locs : List Loc} {cells slots : Nat} {Q : State → Prop}
variable {cc : ByteArray} {own C P0 : String} {nL pc idx N ci : Nat} {ret0 : Option FieldType} {ls : Array Slot} {rest st0 : List Value} {g : GG} {ρ : RR} {dt : Nat → Nat → Int32} {σ : St} {T : u_T} {A : Nat → Prop} {H0 : Heap} {a : Nat}
variable {x y : MethodName} {cy : ByteArray} {maxL n : Nat} {ret : Option FieldType} {fr lo : Nat} {As : List Value} {fs : List Value}
set_option maxHeartbeats 600000 in
theorem t_reads {x : Int32} (C0 : BC p s m args meth c cc own nL ret0) (hK : KK g s) (hC : WC g (xW g ρ) A H0 σ H locs) (hB : XH g ρ dt H) (hs : ∃ i, ρ 24 i = some a) (hrn : 0 ≤ (σ 81 0).toInt ∧ (σ 81 0).toInt ≤ 60) (hl : Cond.methodLink own idx yX6_reads ∈ TB) (hR : 5 ≤ R.frames ∧ 109 ≤ R.locals) (hsz : ls.size = nL) (hW : (rest.map fun v => v.category).sum ≤ 8) (hdg : decode cc pc = .ok (.invokevirtual idx, 3)) (kk : ∀ (r : Int32) (u : St) (H1 : Heap) (locs1 : List Loc), (r, u) = vread dt a σ x → WC g (xW g ρ) A H0 u H1 locs1 → W p l e R s m args below meth c H1 locs1 0 0 Q (F0 m (pc + 3) ls (.int r :: rest))) : W p l e R s m args below meth c H locs 0 0 Q (F0 m pc ls (.ref (g.2.2 104) :: .int x :: .ref a :: rest)) := by
  obtain ⟨hS0, hS⟩ := hB.1 _ a (Or.inl hs.choose_spec)
  rcases hS with ⟨e1, h⟩ | ⟨e1, h⟩ | ⟨e1, h⟩ | ⟨e1, h⟩ | ⟨e1, h⟩ | ⟨e1, h⟩ | ⟨e1, b, hb, hba, h, h'⟩
  · have ev : vread dt a σ x = f_X6_reads dt a σ x := by simp [vread, e1]
    rw [ev] at kk
    exact t_run (n := 2) (o := RX6) (x := yX6_reads) (y := yX6_reads) (As := [.int x, .ref (g.2.2 104)]) (rest := rest) h rfl C0 hK hC hB hl w_890 w_888 w_907 w_889 w_888 w_85 w_907 ⟨by decide +kernel, by decide +kernel, by decide +kernel⟩ (k_X6_reads l g ρ dt a σ x hs (rx_to hrn (by omega))) ⟨by show 4 ≤ R.frames; omega, by show 87 ≤ R.locals; omega⟩ hsz rfl rfl hW hdg ⟨Nat.zero_le _, Nat.zero_le _⟩ kk
  · have ev : vread dt a σ x = f_X6_reads dt a σ x := by simp [vread, e1]
    rw [ev] at kk
    exact t_run (n := 2) (o := RX6) (x := yX6_reads) (y := yX6_reads) (As := [.int x, .ref (g.2.2 104)]) (rest := rest) h rfl C0 hK hC hB hl w_890 w_888 w_907 w_906 w_888 w_85 w_907 ⟨by decide +kernel, by decide +kernel, by decide +kernel⟩ (k_X6_reads l g ρ dt a σ x hs (rx_to hrn (by omega))) ⟨by show 4 ≤ R.frames; omega, by show 87 ≤ R.locals; omega⟩ hsz rfl rfl hW hdg ⟨Nat.zero_le _, Nat.zero_le _⟩ kk
  · have ev : vread dt a σ x = f_X7_reads dt a σ x := by simp [vread, e1]
    rw [ev] at kk
    exact t_run (n := 2) (o := RX6) (x := yX6_reads) (y := yX7_reads) (As := [.int x, .ref (g.2.2 104)]) (rest := rest) h rfl C0 hK hC hB hl w_890 w_888 w_907 w_898 w_893 w_87 w_894 ⟨by decide +kernel, by decide +kernel, by decide +kernel⟩ (k_X7_reads l g ρ dt a σ x hs (rx_to hrn (by omega))) ⟨by show 5 ≤ R.frames; omega, by show 109 ≤ R.locals; omega⟩ hsz rfl rfl hW hdg ⟨Nat.zero_le _, Nat.zero_le _⟩ kk
  · have ev : vread dt a σ x = f_X6_reads dt a σ x := by simp [vread, e1]
    rw [ev] at kk
    exact t_run (n := 2) (o := RX6) (x := yX6_reads) (y := yX6_reads) (As := [.int x, .ref (g.2.2 104)]) (rest := rest) h rfl C0 hK hC hB hl w_890 w_888 w_907 w_891 w_888 w_85 w_907 ⟨by decide +kernel, by decide +kernel, by decide +kernel⟩ (k_X6_reads l g ρ dt a σ x hs (rx_to hrn (by omega))) ⟨by show 4 ≤ R.frames; omega, by show 87 ≤ R.locals; omega⟩ hsz rfl rfl hW hdg ⟨Nat.zero_le _, Nat.zero_le _⟩ kk
  · have ev : vread dt a σ x = f_X6_reads dt a σ x := by simp [vread, e1]
    rw [ev] at kk
    exact t_run (n := 2) (o := RX6) (x := yX6_reads) (y := yX6_reads) (As := [.int x, .ref (g.2.2 104)]) (rest := rest) h rfl C0 hK hC hB hl w_890 w_888 w_907 w_897 w_888 w_85 w_907 ⟨by decide +kernel, by decide +kernel, by decide +kernel⟩ (k_X6_reads l g ρ dt a σ x hs (rx_to hrn (by omega))) ⟨by show 4 ≤ R.frames; omega, by show 87 ≤ R.locals; omega⟩ hsz rfl rfl hW hdg ⟨Nat.zero_le _, Nat.zero_le _⟩ kk
  · have ev : vread dt a σ x = f_X7_reads dt a σ x := by simp [vread, e1]
    rw [ev] at kk
    exact t_run (n := 2) (o := RX6) (x := yX6_reads) (y := yX7_reads) (As := [.int x, .ref (g.2.2 104)]) (rest := rest) h rfl C0 hK hC hB hl w_890 w_888 w_907 w_892 w_893 w_87 w_894 ⟨by decide +kernel, by decide +kernel, by decide +kernel⟩ (k_X7_reads l g ρ dt a σ x hs (rx_to hrn (by omega))) ⟨by show 5 ≤ R.frames; omega, by show 109 ≤ R.locals; omega⟩ hsz rfl rfl hW hdg ⟨Nat.zero_le _, Nat.zero_le _⟩ kk
  · have ev : vread dt a σ x = f_X8_reads dt a σ x := by simp [vread, e1]
    rw [ev] at kk
    exact t_run (n := 2) (o := RX6) (x := yX6_reads) (y := yX8_reads) (As := [.int x, .ref (g.2.2 104)]) (rest := rest) h rfl C0 hK hC hB hl w_890 w_888 w_907 w_899 w_900 w_91 w_901 ⟨by decide +kernel, by decide +kernel, by decide +kernel⟩ (k_X8_reads l g ρ dt a σ x hs (rx_to hrn (by omega))) ⟨by show 5 ≤ R.frames; omega, by show 109 ≤ R.locals; omega⟩ hsz rfl rfl hW hdg ⟨Nat.zero_le _, Nat.zero_le _⟩ kk
end VV
theorem rx_vread {dt : Nat → Nat → Int32} {a : Nat} {σ : St} {x : Int32} {n : Int} (hn : n ≤ 1600) (h : 0 ≤ (σ 81 0).toInt ∧ (σ 81 0).toInt ≤ n) : 0 ≤ ((vread dt a σ x).2 81 0).toInt ∧ ((vread dt a σ x).2 81 0).toInt ≤ n + 4 := by
  unfold vread
  split
  · exact rx_to (rx_f_X6_reads (dt := dt) (a := a) (x := x) (by omega) h) (by omega)
  split
  · exact rx_to (rx_f_X7_reads (dt := dt) (a := a) (x := x) (by omega) h) (by omega)
  split
  · exact rx_to (rx_f_X6_reads (dt := dt) (a := a) (x := x) (by omega) h) (by omega)
  split
  · exact rx_to (rx_f_X6_reads (dt := dt) (a := a) (x := x) (by omega) h) (by omega)
  split
  · exact rx_to (rx_f_X7_reads (dt := dt) (a := a) (x := x) (by omega) h) (by omega)
  split
  · exact rx_to (rx_f_X8_reads (dt := dt) (a := a) (x := x) (by omega) h) (by omega)
  exact rx_to (rx_f_X6_reads (dt := dt) (a := a) (x := x) (by omega) h) (by omega)
set_option maxRecDepth 20000 in
theorem w_934 : (Cond.methodLink RX6 32 yX6_reads) ∈ TB := inTB (List.mem_of_getElem? (i := 934) (by decide +kernel)) (by decide +kernel)
theorem dX6_tells_0 : decode cX6_tells 0 = .ok (.aload_n 2, 1) := by decide +kernel
theorem dX6_tells_1 : decode cX6_tells 1 = .ok (.iconst 3, 1) := by decide +kernel
theorem dX6_tells_2 : decode cX6_tells 2 = .ok (.invokevirtual 22, 3) := by decide +kernel
theorem dX6_tells_5 : decode cX6_tells 5 = .ok (.aload_n 0, 1) := by decide +kernel
theorem dX6_tells_6 : decode cX6_tells 6 = .ok (.iload_n 1, 1) := by decide +kernel
theorem dX6_tells_7 : decode cX6_tells 7 = .ok (.aload_n 2, 1) := by decide +kernel
theorem dX6_tells_8 : decode cX6_tells 8 = .ok (.invokevirtual 32, 3) := by decide +kernel
theorem dX6_tells_11 : decode cX6_tells 11 = .ok (.iconst 2, 1) := by decide +kernel
theorem dX6_tells_12 : decode cX6_tells 12 = .ok (.imul, 1) := by decide +kernel
theorem dX6_tells_13 : decode cX6_tells 13 = .ok (.ireturn, 1) := by decide +kernel
def f_X6_tells (dt : Nat → Nat → Int32) (a : Nat) (σ : St) (a1 : Int32) : Int32 × St := (bd1 (f_X9_begin σ (3 : Int32)) (fun u2 => (bd (vread dt a u2 a1) (fun r8 u8 => ((r8 * (2 : Int32)), u8)))))
set_option maxHeartbeats 600000 in
set_option maxRecDepth 100000 in
theorem k_X6_tells (l : Launch) (g : GG) (ρ : RR) (dt : Nat → Nat → Int32) (a : Nat) (σ : St) (a1 : Int32) (hs : ∃ i, ρ 24 i = some a) (hrn : 0 ≤ (σ 81 0).toInt ∧ (σ 81 0).toInt ≤ 50) : MI l yX6_tells (wsF yX6_tells cX6_tells 3 (some .int)) { frames := 5, cells := 0, slots := 0, locals := 109 } [.ref (a), .int (a1), .ref (g.2.2 104)] g (xW g ρ) (XB g ρ dt) σ (f_X6_tells dt a σ a1) := by
  refine start_MI (by decide) (Nat.le_of_ble_eq_true rfl) ?_
  intro p e s m args below meth c C0 hK hB hC ls hl
  generalize hAe : aA ((xW g ρ) σ) = A at hC ⊢
  have hA : ∀ q, A q → q ∈ adrs (xW g (fun _ _ => none) (fun _ _ => 0)) := fun q h => by rw [← hAe] at h; exact h
  obtain ⟨hx, hb, hr, hml, hown, hts, hlocks⟩ := id C0
  have hl : lv_has ls 3 [(0, .ref (a)), (1, .int (a1)), (2, .ref (g.2.2 104))] := hl
  generalize hT : (f_X6_tells dt a σ a1) = tgt
  suffices key : ∀ (H : Heap) (locs : List Loc), WC g (xW g ρ) A s.heap σ H locs → W p l e { frames := 5, cells := 0, slots := 0, locals := 109 } s m args below meth c H locs 0 0 (QMI below args s g (xW g ρ) A tgt) (F0 m 0 ls []) from key _ _ hC
  intro H locs hC
  unfold f_X6_tells at hT
  refine lv_aload_n hx hb dX6_tells_0 rfl (lv_at hl 2 rfl) ?_
  refine lv_iconst (v := (3 : Int32)) hx hb dX6_tells_1 (by decide) ?_
  have q2_hrn : 0 ≤ (σ 81 0).toInt ∧ (σ 81 0).toInt ≤ 100 := ⟨hrn.1, by omega⟩
  refine x_mvn (rest := []) (As := [.int ((3 : Int32))]) (σ := σ) (ρ := ρ) (dt := dt) (T := TX9) (N := 2) (fs := xF4 g ρ σ) 9 4 rfl rfl C0 hK hC (XH.wa hB hA hC) cf_X9_begin w_886 (k_X9_begin l g ρ dt σ (3 : Int32) q2_hrn) ⟨by decide, by decide⟩ hl.1 rfl rfl (Nat.le_of_ble_eq_true rfl) dX6_tells_2 ⟨Nat.zero_le _, Nat.zero_le _⟩ (fun u2 H locs e2 hC => ?_)
  have hT := bd1_e e2 hT
  refine lv_aload_n hx hb dX6_tells_5 rfl (lv_at hl 0 rfl) ?_
  refine lv_iload_n hx hb dX6_tells_6 rfl (lv_at hl 1 rfl) ?_
  refine lv_aload_n hx hb dX6_tells_7 rfl (lv_at hl 2 rfl) ?_
  refine t_reads (rest := []) C0 hK hC (XH.wa hB hA hC) hs (by rw [e2]; exact rx_to (rx_begin (n := 50) (by omega) hrn) (by omega)) w_934 ⟨by decide, by decide⟩ hl.1 (Nat.le_of_ble_eq_true rfl) dX6_tells_8 (fun r8 u8 H locs e8 hC => ?_)
  have hT := bd_e e8 hT
  refine lv_iconst (v := (2 : Int32)) hx hb dX6_tells_11 (by decide) ?_
  refine lv_imul hx hb dX6_tells_12 ?_
  exact ret_MI C0 hC hT dX6_tells_13
theorem rx_f_X6_tells {dt : Nat → Nat → Int32} {a : Nat} {σ : St} {x : Int32} {n : Int} (hn : n ≤ 1500) (h : 0 ≤ (σ 81 0).toInt ∧ (σ 81 0).toInt ≤ n) : 0 ≤ ((f_X6_tells dt a σ x).2 81 0).toInt ∧ ((f_X6_tells dt a σ x).2 81 0).toInt ≤ n + 5 := by
  exact rx_to (rx_vread (dt := dt) (a := a) (x := x) (by omega) (rx_begin (x := 3) (by omega) h)) (by omega)
set_option maxRecDepth 20000 in
theorem w_916 : (Cond.methodLinkNest RX0 13 yX9_begin RX11) ∈ NB := inNB (List.mem_of_getElem? (i := 916) (by decide +kernel)) (by decide +kernel)
set_option maxRecDepth 20000 in
theorem w_917 : (Cond.methodLink RX0 19 yX6_tells) ∈ TB := inTB (List.mem_of_getElem? (i := 917) (by decide +kernel)) (by decide +kernel)
set_option maxRecDepth 20000 in
theorem w_933 : (Cond.code yX6_tells cX6_tells 3 (some .int)) ∈ TB := inTB (List.mem_of_getElem? (i := 933) (by decide +kernel)) (by decide +kernel)
set_option maxRecDepth 20000 in
theorem w_910 : (Cond.instanceMethod yX6_tells) ∈ TB := inTB (List.mem_of_getElem? (i := 910) (by decide +kernel)) (by decide +kernel)
set_option maxRecDepth 20000 in
theorem w_911 : (Cond.selects RX6 yX6_tells yX6_tells) ∈ TB := inTB (List.mem_of_getElem? (i := 911) (by decide +kernel)) (by decide +kernel)
theorem cf_X6_tells : CF yX6_tells cX6_tells 3 (some .int) 2 := ⟨w_910, w_911, w_85, w_933, by decide +kernel, by decide +kernel, by decide +kernel⟩
set_option maxRecDepth 20000 in
theorem w_912 : (Cond.sameMethod RX6 RX6 "tells" "(ILThreeMeasures$Trace;)I") ∈ TB := inTB (List.mem_of_getElem? (i := 912) (by decide +kernel)) (by decide +kernel)
theorem dX0_tells_0 : decode cX0_tells 0 = .ok (.aload_n 2, 1) := by decide +kernel
theorem dX0_tells_1 : decode cX0_tells 1 = .ok (.bipush 31, 2) := by decide +kernel
theorem dX0_tells_3 : decode cX0_tells 3 = .ok (.invokevirtual 13, 3) := by decide +kernel
theorem dX0_tells_6 : decode cX0_tells 6 = .ok (.aload_n 0, 1) := by decide +kernel
theorem dX0_tells_7 : decode cX0_tells 7 = .ok (.iload_n 1, 1) := by decide +kernel
theorem dX0_tells_8 : decode cX0_tells 8 = .ok (.aload_n 2, 1) := by decide +kernel
theorem dX0_tells_9 : decode cX0_tells 9 = .ok (.invokespecial 19, 3) := by decide +kernel
theorem dX0_tells_12 : decode cX0_tells 12 = .ok (.bipush 7, 2) := by decide +kernel
theorem dX0_tells_14 : decode cX0_tells 14 = .ok (.ixor, 1) := by decide +kernel
theorem dX0_tells_15 : decode cX0_tells 15 = .ok (.ireturn, 1) := by decide +kernel
def f_X0_tells (dt : Nat → Nat → Int32) (a : Nat) (σ : St) (a1 : Int32) : Int32 × St := (bd1 (f_X9_begin σ (31 : Int32)) (fun u3 => (bd (f_X6_tells dt a u3 a1) (fun r9 u9 => ((r9 ^^^ (7 : Int32)), u9)))))
set_option maxHeartbeats 600000 in
set_option maxRecDepth 100000 in
theorem k_X0_tells (l : Launch) (g : GG) (ρ : RR) (dt : Nat → Nat → Int32) (a : Nat) (σ : St) (a1 : Int32) (hs : ∃ i, ρ 24 i = some a) (hrn : 0 ≤ (σ 81 0).toInt ∧ (σ 81 0).toInt ≤ 40) : MI l yX0_tells (wsF yX0_tells cX0_tells 3 (some .int)) { frames := 6, cells := 0, slots := 0, locals := 131 } [.ref (a), .int (a1), .ref (g.2.2 104)] g (xW g ρ) (XB g ρ dt) σ (f_X0_tells dt a σ a1) := by
  refine start_MI (by decide) (Nat.le_of_ble_eq_true rfl) ?_
  intro p e s m args below meth c C0 hK hB hC ls hl
  generalize hAe : aA ((xW g ρ) σ) = A at hC ⊢
  have hA : ∀ q, A q → q ∈ adrs (xW g (fun _ _ => none) (fun _ _ => 0)) := fun q h => by rw [← hAe] at h; exact h
  obtain ⟨hx, hb, hr, hml, hown, hts, hlocks⟩ := id C0
  have hl : lv_has ls 3 [(0, .ref (a)), (1, .int (a1)), (2, .ref (g.2.2 104))] := hl
  generalize hT : (f_X0_tells dt a σ a1) = tgt
  suffices key : ∀ (H : Heap) (locs : List Loc), WC g (xW g ρ) A s.heap σ H locs → W p l e { frames := 6, cells := 0, slots := 0, locals := 131 } s m args below meth c H locs 0 0 (QMI below args s g (xW g ρ) A tgt) (F0 m 0 ls []) from key _ _ hC
  intro H locs hC
  unfold f_X0_tells at hT
  refine lv_aload_n hx hb dX0_tells_0 rfl (lv_at hl 2 rfl) ?_
  refine lv_bipush (v := (31 : Int32)) hx hb dX0_tells_1 (by decide) ?_
  have q3_hrn : 0 ≤ (σ 81 0).toInt ∧ (σ 81 0).toInt ≤ 100 := ⟨hrn.1, by omega⟩
  refine x_mvn (rest := []) (As := [.int ((31 : Int32))]) (σ := σ) (ρ := ρ) (dt := dt) (T := TX9) (N := 2) (fs := xF4 g ρ σ) 9 4 rfl rfl C0 hK hC (XH.wa hB hA hC) cf_X9_begin w_916 (k_X9_begin l g ρ dt σ (31 : Int32) q3_hrn) ⟨by decide, by decide⟩ hl.1 rfl rfl (Nat.le_of_ble_eq_true rfl) dX0_tells_3 ⟨Nat.zero_le _, Nat.zero_le _⟩ (fun u3 H locs e3 hC => ?_)
  have hT := bd1_e e3 hT
  refine lv_aload_n hx hb dX0_tells_6 rfl (lv_at hl 0 rfl) ?_
  refine lv_iload_n hx hb dX0_tells_7 rfl (lv_at hl 1 rfl) ?_
  refine lv_aload_n hx hb dX0_tells_8 rfl (lv_at hl 2 rfl) ?_
  have q9_hrn : 0 ≤ (u3 81 0).toInt ∧ (u3 81 0).toInt ≤ 50 := (by rw [e3]; exact rx_to (rx_begin (n := 40) (by omega) hrn) (by omega))
  refine t_super (x := yX6_tells) (y := yX6_tells) (rest := []) (As := [.int (a1), .ref (g.2.2 104)]) (n := 2) (F := (f_X6_tells dt a u3 a1)) C0 hK hC (XH.wa hB hA hC) (XH.sk (XH.wa hB hA hC) (Or.inl hs.choose_spec)) w_917 w_912 w_537 (Or.inl rfl) rfl w_910 w_85 w_933 (by decide) (by decide +kernel) (k_X6_tells l g ρ dt a u3 a1 hs q9_hrn) ⟨by decide, by decide⟩ hl.1 rfl rfl (Nat.le_of_ble_eq_true rfl) dX0_tells_9 ⟨Nat.zero_le _, Nat.zero_le _⟩ (fun r9 u9 H locs e9 hC => ?_)
  have hT := bd_e e9 hT
  refine lv_bipush (v := (7 : Int32)) hx hb dX0_tells_12 (by decide) ?_
  refine lv_ixor hx hb dX0_tells_14 ?_
  exact ret_MI C0 hC hT dX0_tells_15
set_option maxRecDepth 20000 in
theorem w_922 : (Cond.methodLinkNest RX4 9 yX9_begin RX11) ∈ NB := inNB (List.mem_of_getElem? (i := 922) (by decide +kernel)) (by decide +kernel)
set_option maxRecDepth 20000 in
theorem w_923 : (Cond.methodLink RX4 15 (⟨RX10, "tells", "(ILThreeMeasures$Trace;)I"⟩ : MethodName)) ∈ TB := inTB (List.mem_of_getElem? (i := 923) (by decide +kernel)) (by decide +kernel)
set_option maxRecDepth 20000 in
theorem w_924 : (Cond.sameMethod RX10 RX6 "tells" "(ILThreeMeasures$Trace;)I") ∈ TB := inTB (List.mem_of_getElem? (i := 924) (by decide +kernel)) (by decide +kernel)
set_option maxRecDepth 20000 in
theorem w_926 : (Cond.methodLink RX4 19 (⟨RX4, "sets", "(ILThreeMeasures$Trace;)I"⟩ : MethodName)) ∈ TB := inTB (List.mem_of_getElem? (i := 926) (by decide +kernel)) (by decide +kernel)
set_option maxRecDepth 20000 in
theorem w_927 : (Cond.sameMethod RX4 RX10 "sets" "(ILThreeMeasures$Trace;)I") ∈ TB := inTB (List.mem_of_getElem? (i := 927) (by decide +kernel)) (by decide +kernel)
set_option maxRecDepth 20000 in
theorem w_929 : (Cond.selects RX4 (⟨RX4, "sets", "(ILThreeMeasures$Trace;)I"⟩ : MethodName) yX10_sets) ∈ TB := inTB (List.mem_of_getElem? (i := 929) (by decide +kernel)) (by decide +kernel)
theorem dX4_tells_0 : decode cX4_tells 0 = .ok (.aload_n 2, 1) := by decide +kernel
theorem dX4_tells_1 : decode cX4_tells 1 = .ok (.bipush 41, 2) := by decide +kernel
theorem dX4_tells_3 : decode cX4_tells 3 = .ok (.invokevirtual 9, 3) := by decide +kernel
theorem dX4_tells_6 : decode cX4_tells 6 = .ok (.aload_n 0, 1) := by decide +kernel
theorem dX4_tells_7 : decode cX4_tells 7 = .ok (.iload_n 1, 1) := by decide +kernel
theorem dX4_tells_8 : decode cX4_tells 8 = .ok (.iconst 1, 1) := by decide +kernel
theorem dX4_tells_9 : decode cX4_tells 9 = .ok (.isub, 1) := by decide +kernel
theorem dX4_tells_10 : decode cX4_tells 10 = .ok (.aload_n 2, 1) := by decide +kernel
theorem dX4_tells_11 : decode cX4_tells 11 = .ok (.invokespecial 15, 3) := by decide +kernel
theorem dX4_tells_14 : decode cX4_tells 14 = .ok (.aload_n 0, 1) := by decide +kernel
theorem dX4_tells_15 : decode cX4_tells 15 = .ok (.iconst 2, 1) := by decide +kernel
theorem dX4_tells_16 : decode cX4_tells 16 = .ok (.aload_n 2, 1) := by decide +kernel
theorem dX4_tells_17 : decode cX4_tells 17 = .ok (.invokevirtual 19, 3) := by decide +kernel
theorem dX4_tells_20 : decode cX4_tells 20 = .ok (.iadd, 1) := by decide +kernel
theorem dX4_tells_21 : decode cX4_tells 21 = .ok (.ireturn, 1) := by decide +kernel
def f_X4_tells (dt : Nat → Nat → Int32) (a : Nat) (σ : St) (a1 : Int32) : Int32 × St := (bd1 (f_X9_begin σ (41 : Int32)) (fun u3 => (bd (f_X6_tells dt a u3 (a1 - (1 : Int32))) (fun r11 u11 => (bd (f_X10_sets dt a u11 (2 : Int32)) (fun r17 u17 => ((r11 + r17), u17)))))))
set_option maxHeartbeats 600000 in
set_option maxRecDepth 100000 in
theorem k_X4_tells (l : Launch) (g : GG) (ρ : RR) (dt : Nat → Nat → Int32) (a : Nat) (σ : St) (a1 : Int32) (hs : ∃ i, ρ 24 i = some a) (hrn : 0 ≤ (σ 81 0).toInt ∧ (σ 81 0).toInt ≤ 40) (h4 : dt a 1 = 4) : MI l yX4_tells (wsF yX4_tells cX4_tells 3 (some .int)) { frames := 6, cells := 0, slots := 0, locals := 131 } [.ref (a), .int (a1), .ref (g.2.2 104)] g (xW g ρ) (XB g ρ dt) σ (f_X4_tells dt a σ a1) := by
  refine start_MI (by decide) (Nat.le_of_ble_eq_true rfl) ?_
  intro p e s m args below meth c C0 hK hB hC ls hl
  generalize hAe : aA ((xW g ρ) σ) = A at hC ⊢
  have hA : ∀ q, A q → q ∈ adrs (xW g (fun _ _ => none) (fun _ _ => 0)) := fun q h => by rw [← hAe] at h; exact h
  obtain ⟨hx, hb, hr, hml, hown, hts, hlocks⟩ := id C0
  have hl : lv_has ls 3 [(0, .ref (a)), (1, .int (a1)), (2, .ref (g.2.2 104))] := hl
  generalize hT : (f_X4_tells dt a σ a1) = tgt
  suffices key : ∀ (H : Heap) (locs : List Loc), WC g (xW g ρ) A s.heap σ H locs → W p l e { frames := 6, cells := 0, slots := 0, locals := 131 } s m args below meth c H locs 0 0 (QMI below args s g (xW g ρ) A tgt) (F0 m 0 ls []) from key _ _ hC
  intro H locs hC
  unfold f_X4_tells at hT
  refine lv_aload_n hx hb dX4_tells_0 rfl (lv_at hl 2 rfl) ?_
  refine lv_bipush (v := (41 : Int32)) hx hb dX4_tells_1 (by decide) ?_
  have q3_hrn : 0 ≤ (σ 81 0).toInt ∧ (σ 81 0).toInt ≤ 100 := ⟨hrn.1, by omega⟩
  refine x_mvn (rest := []) (As := [.int ((41 : Int32))]) (σ := σ) (ρ := ρ) (dt := dt) (T := TX9) (N := 2) (fs := xF4 g ρ σ) 9 4 rfl rfl C0 hK hC (XH.wa hB hA hC) cf_X9_begin w_922 (k_X9_begin l g ρ dt σ (41 : Int32) q3_hrn) ⟨by decide, by decide⟩ hl.1 rfl rfl (Nat.le_of_ble_eq_true rfl) dX4_tells_3 ⟨Nat.zero_le _, Nat.zero_le _⟩ (fun u3 H locs e3 hC => ?_)
  have hT := bd1_e e3 hT
  refine lv_aload_n hx hb dX4_tells_6 rfl (lv_at hl 0 rfl) ?_
  refine lv_iload_n hx hb dX4_tells_7 rfl (lv_at hl 1 rfl) ?_
  refine lv_iconst (v := (1 : Int32)) hx hb dX4_tells_8 (by decide) ?_
  refine lv_isub hx hb dX4_tells_9 ?_
  refine lv_aload_n hx hb dX4_tells_10 rfl (lv_at hl 2 rfl) ?_
  have q11_hrn : 0 ≤ (u3 81 0).toInt ∧ (u3 81 0).toInt ≤ 50 := (by rw [e3]; exact rx_to (rx_begin (n := 40) (by omega) hrn) (by omega))
  refine t_super (x := (⟨RX10, "tells", "(ILThreeMeasures$Trace;)I"⟩ : MethodName)) (y := yX6_tells) (rest := []) (As := [.int ((a1 - (1 : Int32))), .ref (g.2.2 104)]) (n := 2) (F := (f_X6_tells dt a u3 (a1 - (1 : Int32)))) C0 hK hC (XH.wa hB hA hC) (XH.sk (XH.wa hB hA hC) (Or.inl hs.choose_spec)) w_923 w_924 w_548 (Or.inr w_515) rfl w_910 w_85 w_933 (by decide) (by decide +kernel) (k_X6_tells l g ρ dt a u3 (a1 - (1 : Int32)) hs q11_hrn) ⟨by decide, by decide⟩ hl.1 rfl rfl (Nat.le_of_ble_eq_true rfl) dX4_tells_11 ⟨Nat.zero_le _, Nat.zero_le _⟩ (fun r11 u11 H locs e11 hC => ?_)
  have hT := bd_e e11 hT
  refine lv_aload_n hx hb dX4_tells_14 rfl (lv_at hl 0 rfl) ?_
  refine lv_iconst (v := (2 : Int32)) hx hb dX4_tells_15 (by decide) ?_
  refine lv_aload_n hx hb dX4_tells_16 rfl (lv_at hl 2 rfl) ?_
  refine t_run4 (rest := [.int (r11)]) (As := [.int ((2 : Int32)), .ref (g.2.2 104)]) (F := (f_X10_sets dt a u11 (2 : Int32))) (x := (⟨RX4, "sets", "(ILThreeMeasures$Trace;)I"⟩ : MethodName)) (y := yX10_sets) (o := RX10) (n := 2) C0 hK hC (XH.wa hB hA hC) (XH.sk (XH.wa hB hA hC) (Or.inl hs.choose_spec)) h4 w_926 w_927 w_878 w_879 w_929 w_878 w_86 w_879 ⟨by decide +kernel, by decide +kernel, by decide +kernel⟩ (k_X10_sets l g ρ dt a u11 (2 : Int32) hs (by have q0 := rx_f_X6_tells (dt := dt) (a := a) (σ := u3) (x := a1 - 1) (n := 50) (by omega) q11_hrn; rw [← e11] at q0; exact rx_to q0 (by omega))) ⟨by decide, by decide⟩ hl.1 rfl rfl (Nat.le_of_ble_eq_true rfl) dX4_tells_17 ⟨Nat.zero_le _, Nat.zero_le _⟩ (fun r17 u17 H locs e17 hC => ?_)
  have hT := bd_e e17 hT
  refine lv_iadd hx hb dX4_tells_20 ?_
  exact ret_MI C0 hC hT dX4_tells_21
set_option maxRecDepth 20000 in
theorem w_932 : (Cond.selects RX10 yX6_tells yX6_tells) ∈ TB := inTB (List.mem_of_getElem? (i := 932) (by decide +kernel)) (by decide +kernel)
set_option maxRecDepth 20000 in
theorem w_930 : (Cond.selects RX7 yX6_tells yX6_tells) ∈ TB := inTB (List.mem_of_getElem? (i := 930) (by decide +kernel)) (by decide +kernel)
set_option maxRecDepth 20000 in
theorem w_913 : (Cond.selects RX0 yX6_tells yX0_tells) ∈ TB := inTB (List.mem_of_getElem? (i := 913) (by decide +kernel)) (by decide +kernel)
set_option maxRecDepth 20000 in
theorem w_915 : (Cond.code yX0_tells cX0_tells 3 (some .int)) ∈ TB := inTB (List.mem_of_getElem? (i := 915) (by decide +kernel)) (by decide +kernel)
set_option maxRecDepth 20000 in
theorem w_914 : (Cond.instanceMethod yX0_tells) ∈ TB := inTB (List.mem_of_getElem? (i := 914) (by decide +kernel)) (by decide +kernel)
set_option maxRecDepth 20000 in
theorem w_919 : (Cond.selects RX4 yX6_tells yX4_tells) ∈ TB := inTB (List.mem_of_getElem? (i := 919) (by decide +kernel)) (by decide +kernel)
set_option maxRecDepth 20000 in
theorem w_921 : (Cond.code yX4_tells cX4_tells 3 (some .int)) ∈ TB := inTB (List.mem_of_getElem? (i := 921) (by decide +kernel)) (by decide +kernel)
set_option maxRecDepth 20000 in
theorem w_920 : (Cond.instanceMethod yX4_tells) ∈ TB := inTB (List.mem_of_getElem? (i := 920) (by decide +kernel)) (by decide +kernel)
set_option maxRecDepth 20000 in
theorem w_918 : (Cond.selects RX3 yX6_tells yX6_tells) ∈ TB := inTB (List.mem_of_getElem? (i := 918) (by decide +kernel)) (by decide +kernel)
set_option maxRecDepth 20000 in
theorem w_931 : (Cond.selects RX8 yX6_tells yX0_tells) ∈ TB := inTB (List.mem_of_getElem? (i := 931) (by decide +kernel)) (by decide +kernel)
def vtell (dt : Nat → Nat → Int32) (a : Nat) (σ : St) (x : Int32) : Int32 × St := if dt a 1 = 1 then f_X6_tells dt a σ x else if dt a 1 = 2 then f_X6_tells dt a σ x else if dt a 1 = 3 then f_X0_tells dt a σ x else if dt a 1 = 4 then f_X4_tells dt a σ x else if dt a 1 = 5 then f_X6_tells dt a σ x else if dt a 1 = 6 then f_X0_tells dt a σ x else f_X6_tells dt a σ x
section VV
variable {p : Program} {l : Launch} {e : Env} {R : Room} {s : State} {m : MethodId} {args : Array Value} {below : List Frame} {meth : Method} {c : Code} {H : Heap} {locs : List Loc} {cells slots : Nat} {Q : State → Prop}
variable {cc : ByteArray} {own C P0 : String} {nL pc idx N ci : Nat} {ret0 : Option FieldType} {ls : Array Slot} {rest st0 : List Value} {g : GG} {ρ : RR} {dt : Nat → Nat → Int32} {σ : St} {T : u_T} {A : Nat → Prop} {H0 : Heap} {a : Nat}
variable {x y : MethodName} {cy : ByteArray} {maxL n : Nat} {ret : Option FieldType} {fr lo : Nat} {As : List Value} {fs : List Value}
set_option maxHeartbeats 600000 in
theorem t_tells {x : Int32} (C0 : BC p s m args meth c cc own nL ret0) (hK : KK g s) (hC : WC g (xW g ρ) A H0 σ H locs) (hB : XH g ρ dt H) (hs : ∃ i, ρ 24 i = some a) (hrn : 0 ≤ (σ 81 0).toInt ∧ (σ 81 0).toInt ≤ 40) (hl : Cond.methodLink own idx yX6_tells ∈ TB) (hR : 7 ≤ R.frames ∧ 153 ≤ R.locals) (hsz : ls.size = nL) (hW : (rest.map fun v => v.category).sum ≤ 8) (hdg : decode cc pc = .ok (.invokevirtual idx, 3)) (kk : ∀ (r : Int32) (u : St) (H1 : Heap) (locs1 : List Loc), (r, u) = vtell dt a σ x → WC g (xW g ρ) A H0 u H1 locs1 → W p l e R s m args below meth c H1 locs1 0 0 Q (F0 m (pc + 3) ls (.int r :: rest))) : W p l e R s m args below meth c H locs 0 0 Q (F0 m pc ls (.ref (g.2.2 104) :: .int x :: .ref a :: rest)) := by
  obtain ⟨hS0, hS⟩ := hB.1 _ a (Or.inl hs.choose_spec)
  rcases hS with ⟨e1, h⟩ | ⟨e1, h⟩ | ⟨e1, h⟩ | ⟨e1, h⟩ | ⟨e1, h⟩ | ⟨e1, h⟩ | ⟨e1, b, hb, hba, h, h'⟩
  · have ev : vtell dt a σ x = f_X6_tells dt a σ x := by simp [vtell, e1]
    rw [ev] at kk
    exact t_run (n := 2) (o := RX6) (x := yX6_tells) (y := yX6_tells) (As := [.int x, .ref (g.2.2 104)]) (rest := rest) h rfl C0 hK hC hB hl w_912 w_910 w_933 w_911 w_910 w_85 w_933 ⟨by decide +kernel, by decide +kernel, by decide +kernel⟩ (k_X6_tells l g ρ dt a σ x hs (rx_to hrn (by omega))) ⟨by show 6 ≤ R.frames; omega, by show 131 ≤ R.locals; omega⟩ hsz rfl rfl hW hdg ⟨Nat.zero_le _, Nat.zero_le _⟩ kk
  · have ev : vtell dt a σ x = f_X6_tells dt a σ x := by simp [vtell, e1]
    rw [ev] at kk
    exact t_run (n := 2) (o := RX6) (x := yX6_tells) (y := yX6_tells) (As := [.int x, .ref (g.2.2 104)]) (rest := rest) h rfl C0 hK hC hB hl w_912 w_910 w_933 w_932 w_910 w_85 w_933 ⟨by decide +kernel, by decide +kernel, by decide +kernel⟩ (k_X6_tells l g ρ dt a σ x hs (rx_to hrn (by omega))) ⟨by show 6 ≤ R.frames; omega, by show 131 ≤ R.locals; omega⟩ hsz rfl rfl hW hdg ⟨Nat.zero_le _, Nat.zero_le _⟩ kk
  · have ev : vtell dt a σ x = f_X6_tells dt a σ x := by simp [vtell, e1]
    rw [ev] at kk
    exact t_run (n := 2) (o := RX6) (x := yX6_tells) (y := yX6_tells) (As := [.int x, .ref (g.2.2 104)]) (rest := rest) h rfl C0 hK hC hB hl w_912 w_910 w_933 w_930 w_910 w_85 w_933 ⟨by decide +kernel, by decide +kernel, by decide +kernel⟩ (k_X6_tells l g ρ dt a σ x hs (rx_to hrn (by omega))) ⟨by show 6 ≤ R.frames; omega, by show 131 ≤ R.locals; omega⟩ hsz rfl rfl hW hdg ⟨Nat.zero_le _, Nat.zero_le _⟩ kk
  · have ev : vtell dt a σ x = f_X0_tells dt a σ x := by simp [vtell, e1]
    rw [ev] at kk
    exact t_run (n := 2) (o := RX6) (x := yX6_tells) (y := yX0_tells) (As := [.int x, .ref (g.2.2 104)]) (rest := rest) h rfl C0 hK hC hB hl w_912 w_910 w_933 w_913 w_914 w_88 w_915 ⟨by decide +kernel, by decide +kernel, by decide +kernel⟩ (k_X0_tells l g ρ dt a σ x hs (rx_to hrn (by omega))) ⟨by show 7 ≤ R.frames; omega, by show 153 ≤ R.locals; omega⟩ hsz rfl rfl hW hdg ⟨Nat.zero_le _, Nat.zero_le _⟩ kk
  · have ev : vtell dt a σ x = f_X4_tells dt a σ x := by simp [vtell, e1]
    rw [ev] at kk
    exact t_run (n := 2) (o := RX6) (x := yX6_tells) (y := yX4_tells) (As := [.int x, .ref (g.2.2 104)]) (rest := rest) h rfl C0 hK hC hB hl w_912 w_910 w_933 w_919 w_920 w_89 w_921 ⟨by decide +kernel, by decide +kernel, by decide +kernel⟩ (k_X4_tells l g ρ dt a σ x hs (rx_to hrn (by omega)) e1) ⟨by show 7 ≤ R.frames; omega, by show 153 ≤ R.locals; omega⟩ hsz rfl rfl hW hdg ⟨Nat.zero_le _, Nat.zero_le _⟩ kk
  · have ev : vtell dt a σ x = f_X6_tells dt a σ x := by simp [vtell, e1]
    rw [ev] at kk
    exact t_run (n := 2) (o := RX6) (x := yX6_tells) (y := yX6_tells) (As := [.int x, .ref (g.2.2 104)]) (rest := rest) h rfl C0 hK hC hB hl w_912 w_910 w_933 w_918 w_910 w_85 w_933 ⟨by decide +kernel, by decide +kernel, by decide +kernel⟩ (k_X6_tells l g ρ dt a σ x hs (rx_to hrn (by omega))) ⟨by show 6 ≤ R.frames; omega, by show 131 ≤ R.locals; omega⟩ hsz rfl rfl hW hdg ⟨Nat.zero_le _, Nat.zero_le _⟩ kk
  · have ev : vtell dt a σ x = f_X0_tells dt a σ x := by simp [vtell, e1]
    rw [ev] at kk
    exact t_run (n := 2) (o := RX6) (x := yX6_tells) (y := yX0_tells) (As := [.int x, .ref (g.2.2 104)]) (rest := rest) h rfl C0 hK hC hB hl w_912 w_910 w_933 w_931 w_914 w_88 w_915 ⟨by decide +kernel, by decide +kernel, by decide +kernel⟩ (k_X0_tells l g ρ dt a σ x hs (rx_to hrn (by omega))) ⟨by show 7 ≤ R.frames; omega, by show 153 ≤ R.locals; omega⟩ hsz rfl rfl hW hdg ⟨Nat.zero_le _, Nat.zero_le _⟩ kk
end VV
