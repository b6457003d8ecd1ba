
abbrev SB (g : GG) (a : Nat) (d : Nat → Int32) : State → Prop := fun U => KK g U ∧ SKH g U.heap a d
theorem SB.sv {g : GG} {a : Nat} {d : Nat → Int32} : SV (SB g a d) := fun U U' hh hv h => ⟨h.1.same hv, by rw [← hh]; exact h.2⟩
section SK
variable {p : Program} {l : Launch} {e : Env} {R : Room} {s : State} {m : MethodId} {args : Array Value} {below : List Frame} {meth : Method} {c : Code} {H : Heap} {locs : List Loc} {cells slots : Nat} {Q : State → Prop}
variable {cc : ByteArray} {own ref : String} {nL pc idx : Nat} {ret0 : Option FieldType} {ls : Array Slot} {rest st0 : List Value} {g : GG} {a : Nat} {d : Nat → Int32}
theorem sk_get1 {ci N : Nat} {C : String} {T : u_T} {fs : List Value} (k : Nat) (C0 : BC p s m args meth c cc own nL ret0) (hK : KK g s) (hva : va_at g.1 vwCl (a, .inr (ci, fs)) H) (hc : vwCl[ci]? = some (C, T, N)) (hu : ∀ w ∈ u_ws C T N, w ∈ TB) (hk : k < N) (h1 : (T k).1 = RX6) (h2 : (T k).2.1 = (TX6 k).2.1) (h3 : (T k).2.2.1 = "I") (hv : fs[k]? = some (.int (d k))) (hw : Cond.fieldLink own idx ref (TX6 k).2.1 "I" ∈ TB) (hsame : ∀ x, s.fieldFound? RX6 (TX6 k).2.1 "I" = some x → s.fieldFound? ref (TX6 k).2.1 "I" = some x) (hdg : decode cc pc = .ok (.getfield idx, 3)) (kk : W p l e R s m args below meth c H locs cells slots Q (F0 m (pc + 3) ls (.int (d k) :: rest))) : W p l e R s m args below meth c H locs cells slots Q (F0 m pc ls (.ref a :: rest)) :=
  va_get (D := g.1) (ci := ci) (C := C) (T := T) (N := N) (ws := [(a, .inr (ci, fs))]) C0.1 C0.2.1 C0.2.2.2.2.2.1 hu C0.2.2.2.2.1 hK.1 (fun j q hq => by
    match j, hq with
    | 0, hq => cases hq; exact hva
    | j + 1, hq => simp at hq) 0 rfl hc k hk (by rw [h2, h3]; exact C0.2.2.2.2.2.1 _ hw) (fun x h => by rw [h1, h2, h3] at h; rw [h2, h3]; exact hsame x h) hv hdg kk
theorem sk_get (k : Nat) (C0 : BC p s m args meth c cc own nL ret0) (hK : KK g s) (hSk : SKH g H a d) (hk : k < 4) (hw : Cond.fieldLink own idx ref (TX6 k).2.1 "I" ∈ TB) (hsame : ∀ x, s.fieldFound? RX6 (TX6 k).2.1 "I" = some x → s.fieldFound? ref (TX6 k).2.1 "I" = some x) (hdg : decode cc pc = .ok (.getfield idx, 3)) (kk : W p l e R s m args below meth c H locs cells slots Q (F0 m (pc + 3) ls (.int (d k) :: rest))) : W p l e R s m args below meth c H locs cells slots Q (F0 m pc ls (.ref a :: rest)) := by
  obtain ⟨h0, hSk⟩ := hSk
  rcases hSk with ⟨e, h⟩ | ⟨e, h⟩ | ⟨e, h⟩ | ⟨e, h⟩ | ⟨e, h⟩ | ⟨e, h⟩ | ⟨e, b, hb, hba, h, h'⟩
  · rcases (show k = 0 ∨ k = 1 ∨ k = 2 ∨ k = 3 by omega) with rfl | rfl | rfl | rfl <;> exact sk_get1 _ C0 hK h rfl uw_6 (by decide) rfl rfl rfl (by first | rfl | (rw [e]; rfl)) hw hsame hdg kk
  · rcases (show k = 0 ∨ k = 1 ∨ k = 2 ∨ k = 3 by omega) with rfl | rfl | rfl | rfl <;> exact sk_get1 _ C0 hK h rfl uw_10 (by decide) rfl rfl rfl (by first | rfl | (rw [e]; rfl)) hw hsame hdg kk
  · rcases (show k = 0 ∨ k = 1 ∨ k = 2 ∨ k = 3 by omega) with rfl | rfl | rfl | rfl <;> exact sk_get1 _ C0 hK h rfl uw_7 (by decide) rfl rfl rfl (by first | rfl | (rw [e]; rfl)) hw hsame hdg kk
  · rcases (show k = 0 ∨ k = 1 ∨ k = 2 ∨ k = 3 by omega) with rfl | rfl | rfl | rfl <;> exact sk_get1 _ C0 hK h rfl uw_0 (by decide) rfl rfl rfl (by first | rfl | (rw [e]; rfl)) hw hsame hdg kk
  · rcases (show k = 0 ∨ k = 1 ∨ k = 2 ∨ k = 3 by omega) with rfl | rfl | rfl | rfl <;> exact sk_get1 _ C0 hK h rfl uw_4 (by decide) rfl rfl rfl (by first | rfl | (rw [e]; rfl)) hw hsame hdg kk
  · rcases (show k = 0 ∨ k = 1 ∨ k = 2 ∨ k = 3 by omega) with rfl | rfl | rfl | rfl <;> exact sk_get1 _ C0 hK h rfl uw_3 (by decide) rfl rfl rfl (by first | rfl | (rw [e]; rfl)) hw hsame hdg kk
  · rcases (show k = 0 ∨ k = 1 ∨ k = 2 ∨ k = 3 by omega) with rfl | rfl | rfl | rfl <;> exact sk_get1 _ C0 hK h rfl uw_8 (by decide) rfl rfl rfl (by first | rfl | (rw [e]; rfl)) hw hsame hdg kk
variable {y x : MethodName} {cy : ByteArray} {maxL n : Nat} {ret : Option FieldType} {fr lo : Nat} {As : List Value}
/-- a stick's cell and its class, whatever its kind -/
theorem sk_recv {C : String} {ci N : Nat} {T : u_T} {fs : List Value} (hK : KK g s) (hva : va_at g.1 vwCl (a, .inr (ci, fs)) H) (hc : vwCl[ci]? = some (C, T, N)) : ∃ cellB : Cell, H[a]? = some cellB ∧ cellB.vm.isStatics = false ∧ s.vm.findClass C = some cellB.cls :=
  va_recv (ws := [(a, .inr (ci, fs))]) hK.1 (fun j q hq => by
    match j, hq with
    | 0, hq => cases hq; exact hva
    | j + 1, hq => simp at hq) (ci := ci) (q0 := 0) hc rfl
/-- invokevirtual x on a stick of class C, where y is what it runs -/
theorem sk_run {C : String} {ci N : Nat} {T : u_T} {fs : List Value} {F : Int32} {b0 : ByteArray} {m0 : Nat} {r0 : Option FieldType} (C0 : BC p s m args meth c cc own nL ret0) (hK : KK g s) (hSk : SKH g H a d) (hva : va_at g.1 vwCl (a, .inr (ci, fs)) H) (hc : vwCl[ci]? = some (C, T, N)) (hl : Cond.methodLink own idx x ∈ TB) (hsm : Cond.sameMethod x.cls x.cls x.name x.desc ∈ TB) (hix : Cond.instanceMethod x ∈ TB) (h0 : Cond.code x b0 m0 r0 ∈ TB) (hsel : Cond.selects C x y ∈ TB) (hiy : Cond.instanceMethod y ∈ TB) (hini : Cond.initialized y.cls ∈ TB) (hcy : Cond.code y cy maxL ret ∈ TB) (hd : x.cls ≠ "java/lang/invoke/MethodHandle" ∧ x.cls ≠ "java/lang/invoke/VarHandle" ∧ (parseMethodDescriptor x.desc).map (fun d => d.parameters.length) = some n) (hM : PI l y (wsF y cy maxL ret) { frames := fr, cells := 0, slots := 0, locals := lo } (.ref a :: As) (SB g a d) F) (hR : fr + 1 ≤ R.frames ∧ 8 + (maxL + 11) + lo ≤ R.locals) (hsz : ls.size = nL) (hst : st0 = As.reverse ++ .ref a :: rest) (hn : As.length = n) (hW : (rest.map fun v => v.category).sum ≤ 8) (hdg : decode cc pc = .ok (.invokevirtual idx, 3)) (hf : cells ≤ R.cells ∧ slots ≤ R.slots) (kk : W p l e R s m args below meth c H locs cells slots Q (F0 m (pc + 3) ls (.int F :: rest))) : W p l e R s m args below meth c H locs cells slots Q (F0 m pc ls st0) :=
  aft_i (va_runU (g := F0 m pc ls st0) (C := C) (owner := x.cls) (x := x) (y := y) ⟨C0.1, C0.2.1, C0.2.2.2.1, C0.2.2.2.2.1, C0.2.2.2.2.2.1⟩ hM (va_cwO (C := C) (owner := x.cls) n C0.2.2.2.2.2.1 (fun w hw => by
    have key : w ∈ TB := by
      rcases List.mem_append.mp hw with h | h
      · simp only [List.mem_cons, List.not_mem_nil, or_false] at h
        rcases h with rfl | rfl | rfl | rfl | rfl | rfl
        · exact hl
        · exact hsm
        · exact hix
        · exact hsel
        · exact hiy
        · exact hini
      · rcases List.mem_cons.mp h with rfl | h
        · exact hcy
        · exact h
    exact ⟨key, goodTB key⟩) rfl rfl rfl (b0 := b0) (m0 := m0) (r0 := r0) h0 hd hR) ⟨SB.sv.blind, sk_recv hK hva hc, fun U hU hW => ⟨rfl, hK.warm hW, by rw [hU]; exact hSk⟩⟩ rfl hn hsz hst (lv_room hW) hdg hf) kk
/-- Told's private more -/
theorem sk_more {F : Int32} {v : Int32} (C0 : BC p s m args meth c cc own nL ret0) (hK : KK g s) (hSk : SKH g H a d) (h6 : d 1 = 6) (hF : CF y cy maxL ret 1) (hl : Cond.methodLink own idx y ∈ TB) (hM : PI l y (wsF y cy maxL ret) { frames := fr, cells := 0, slots := 0, locals := lo } [.ref a, .int v] (SB g a d) F) (hsz : ls.size = nL) (hR : fr + 1 ≤ R.frames ∧ 8 + (maxL + 11) + lo ≤ R.locals) (hW : (rest.map fun v => v.category).sum ≤ 8) (hdg : decode cc pc = .ok (.invokevirtual idx, 3)) (kk : W p l e R s m args below meth c H locs 0 0 Q (F0 m (pc + 3) ls (.int F :: rest))) (hy : y.cls = RX8 := by rfl) : W p l e R s m args below meth c H locs 0 0 Q (F0 m pc ls (.int v :: .ref a :: rest)) := by
  have hrc : ∃ cellB : Cell, H[a]? = some cellB ∧ cellB.vm.isStatics = false ∧ s.vm.findClass y.cls = some cellB.cls := by
    obtain ⟨h0, hS⟩ := id hSk
    rcases hS with ⟨e, h⟩ | ⟨e, h⟩ | ⟨e, h⟩ | ⟨e, h⟩ | ⟨e, h⟩ | ⟨e, h⟩ | ⟨e, b, hb, hba, h, h'⟩
    · rw [h6] at e; exact absurd e (by decide)
    · rw [h6] at e; exact absurd e (by decide)
    · rw [h6] at e; exact absurd e (by decide)
    · rw [h6] at e; exact absurd e (by decide)
    · rw [h6] at e; exact absurd e (by decide)
    · rw [h6] at e; exact absurd e (by decide)
    · rw [hy]; exact sk_recv hK h rfl
  exact aft_i (run_V (As := [.int v]) (rest := rest) C0 hF hl hR hM ⟨SB.sv.blind, hrc, fun U hU hW => ⟨rfl, hK.warm hW, by rw [hU]; exact hSk⟩⟩ rfl hsz rfl hW hdg ⟨Nat.zero_le _, Nat.zero_le _⟩) kk
end SK
set_option maxRecDepth 20000 in
theorem w_496 : (Cond.fieldLink RX6 19 RX6 "length" "I") ∈ TB := inTB (List.mem_of_getElem? (i := 496) (by decide +kernel)) (by decide +kernel)
theorem dX6_middle_0 : decode cX6_middle 0 = .ok (.iload_n 1, 1) := by decide +kernel
theorem dX6_middle_1 : decode cX6_middle 1 = .ok (.aload_n 0, 1) := by decide +kernel
theorem dX6_middle_2 : decode cX6_middle 2 = .ok (.getfield 19, 3) := by decide +kernel
theorem dX6_middle_5 : decode cX6_middle 5 = .ok (.imul, 1) := by decide +kernel
theorem dX6_middle_6 : decode cX6_middle 6 = .ok (.ireturn, 1) := by decide +kernel
def f_X6_middle (d : Nat → Int32) (a1 : Int32) (a2 : Int32) : Int32 := (a1 * (d 3))
set_option maxHeartbeats 600000 in
set_option maxRecDepth 100000 in
theorem k_X6_middle (l : Launch) (g : GG) (a : Nat) (d : Nat → Int32) (a1 : Int32) (a2 : Int32)  : PI l yX6_middle (wsF yX6_middle cX6_middle 3 (some .int)) { frames := 0, cells := 0, slots := 0, locals := 0 } [.ref (a), .int (a1), .int (a2)] (SB g a d) (f_X6_middle d a1 a2) := by
  refine start_PI (by decide) (Nat.le_of_ble_eq_true rfl) ?_
  intro p e s m args below meth c C0 hG ls hl
  obtain ⟨hK, hSk⟩ := hG
  obtain ⟨hx, hb, hr, hml, hown, hts, hlocks⟩ := id C0
  have hl : lv_has ls 3 [(0, .ref (a)), (1, .int (a1)), (2, .int (a2))] := hl
  generalize hT : (f_X6_middle d a1 a2) = tgt
  unfold f_X6_middle at hT
  refine lv_iload_n hx hb dX6_middle_0 rfl (lv_at hl 1 rfl) ?_
  refine lv_aload_n hx hb dX6_middle_1 rfl (lv_at hl 0 rfl) ?_
  refine sk_get (d := d) 3 C0 hK hSk (by decide) w_496 (fun _ h => h) dX6_middle_2 ?_
  refine lv_imul hx hb dX6_middle_5 ?_
  exact ret_PI C0 hT dX6_middle_6
theorem dX6_slack_0 : decode cX6_slack 0 = .ok (.iload_n 1, 1) := by decide +kernel
theorem dX6_slack_1 : decode cX6_slack 1 = .ok (.ireturn, 1) := by decide +kernel
def f_X6_slack (d : Nat → Int32) (a1 : Int32) : Int32 := a1
set_option maxHeartbeats 600000 in
set_option maxRecDepth 100000 in
theorem k_X6_slack (l : Launch) (g : GG) (a : Nat) (d : Nat → Int32) (a1 : Int32)  : PI l yX6_slack (wsF yX6_slack cX6_slack 2 (some .int)) { frames := 0, cells := 0, slots := 0, locals := 0 } [.ref (a), .int (a1)] (SB g a d) (f_X6_slack d a1) := by
  refine start_PI (by decide) (Nat.le_of_ble_eq_true rfl) ?_
  intro p e s m args below meth c C0 hG ls hl
  obtain ⟨hK, hSk⟩ := hG
  obtain ⟨hx, hb, hr, hml, hown, hts, hlocks⟩ := id C0
  have hl : lv_has ls 2 [(0, .ref (a)), (1, .int (a1))] := hl
  generalize hT : (f_X6_slack d a1) = tgt
  unfold f_X6_slack at hT
  refine lv_iload_n hx hb dX6_slack_0 rfl (lv_at hl 1 rfl) ?_
  exact ret_PI C0 hT dX6_slack_1
set_option maxRecDepth 20000 in
theorem w_499 : (Cond.fieldLink RX10 7 RX10 "length" "I") ∈ TB := inTB (List.mem_of_getElem? (i := 499) (by decide +kernel)) (by decide +kernel)
set_option maxRecDepth 20000 in
theorem w_500 : (Cond.sameField RX10 RX6 "length" "I") ∈ TB := inTB (List.mem_of_getElem? (i := 500) (by decide +kernel)) (by decide +kernel)
set_option maxRecDepth 20000 in
theorem w_674 : (Cond.methodLink RX10 13 Lib.Math.min.name) ∈ TB := inTB (List.mem_of_getElem? (i := 674) (by decide +kernel)) (by decide +kernel)
theorem dX10_middle_0 : decode cX10_middle 0 = .ok (.iload_n 1, 1) := by decide +kernel
theorem dX10_middle_1 : decode cX10_middle 1 = .ok (.aload_n 0, 1) := by decide +kernel
theorem dX10_middle_2 : decode cX10_middle 2 = .ok (.getfield 7, 3) := by decide +kernel
theorem dX10_middle_5 : decode cX10_middle 5 = .ok (.iload_n 2, 1) := by decide +kernel
theorem dX10_middle_6 : decode cX10_middle 6 = .ok (.aload_n 0, 1) := by decide +kernel
theorem dX10_middle_7 : decode cX10_middle 7 = .ok (.getfield 7, 3) := by decide +kernel
theorem dX10_middle_10 : decode cX10_middle 10 = .ok (.invokestatic 13, 3) := by decide +kernel
theorem dX10_middle_13 : decode cX10_middle 13 = .ok (.isub, 1) := by decide +kernel
theorem dX10_middle_14 : decode cX10_middle 14 = .ok (.imul, 1) := by decide +kernel
theorem dX10_middle_15 : decode cX10_middle 15 = .ok (.ireturn, 1) := by decide +kernel
def f_X10_middle (d : Nat → Int32) (a1 : Int32) (a2 : Int32) : Int32 := (a1 * ((d 3) - (if (d 3) < a2 then (d 3) else a2)))
set_option maxHeartbeats 600000 in
set_option maxRecDepth 100000 in
theorem k_X10_middle (l : Launch) (g : GG) (a : Nat) (d : Nat → Int32) (a1 : Int32) (a2 : Int32)  : PI l yX10_middle (wsF yX10_middle cX10_middle 3 (some .int)) { frames := 1, cells := 0, slots := 0, locals := 21 } [.ref (a), .int (a1), .int (a2)] (SB g a d) (f_X10_middle d a1 a2) := by
  refine start_PI (by decide) (Nat.le_of_ble_eq_true rfl) ?_
  intro p e s m args below meth c C0 hG ls hl
  obtain ⟨hK, hSk⟩ := hG
  obtain ⟨hx, hb, hr, hml, hown, hts, hlocks⟩ := id C0
  have hl : lv_has ls 3 [(0, .ref (a)), (1, .int (a1)), (2, .int (a2))] := hl
  generalize hT : (f_X10_middle d a1 a2) = tgt
  unfold f_X10_middle at hT
  refine lv_iload_n hx hb dX10_middle_0 rfl (lv_at hl 1 rfl) ?_
  refine lv_aload_n hx hb dX10_middle_1 rfl (lv_at hl 0 rfl) ?_
  refine sk_get (d := d) 3 C0 hK hSk (by decide) w_499 (fun x h => u_same (C0.2.2.2.2.2.1 _ w_500) x h) dX10_middle_2 ?_
  refine lv_iload_n hx hb dX10_middle_5 rfl (lv_at hl 2 rfl) ?_
  refine lv_aload_n hx hb dX10_middle_6 rfl (lv_at hl 0 rfl) ?_
  refine sk_get (d := d) 3 C0 hK hSk (by decide) w_499 (fun x h => u_same (C0.2.2.2.2.2.1 _ w_500) x h) dX10_middle_7 ?_
  refine va_mmin hx hb (hml.trans hl.1.symm) C0.2.2.2.2.1 (C0.2.2.2.2.2.1 _ w_674) (C0.2.2.2.2.2.1 _ w_379) (C0.2.2.2.2.2.1 _ w_80) (C0.2.2.2.2.2.1 _ w_380) (by decide) (Nat.le_of_ble_eq_true rfl) (Nat.zero_le _) (Nat.zero_le _) dX10_middle_10 ?_
  refine lv_isub hx hb dX10_middle_13 ?_
  refine lv_imul hx hb dX10_middle_14 ?_
  exact ret_PI C0 hT dX10_middle_15
set_option maxRecDepth 20000 in
theorem w_501 : (Cond.fieldLink RX7 7 RX7 "length" "I") ∈ TB := inTB (List.mem_of_getElem? (i := 501) (by decide +kernel)) (by decide +kernel)
set_option maxRecDepth 20000 in
theorem w_502 : (Cond.sameField RX7 RX6 "length" "I") ∈ TB := inTB (List.mem_of_getElem? (i := 502) (by decide +kernel)) (by decide +kernel)
set_option maxRecDepth 20000 in
theorem w_492 : (Cond.fieldLink RX7 13 RX7 "v" "I") ∈ TB := inTB (List.mem_of_getElem? (i := 492) (by decide +kernel)) (by decide +kernel)
set_option maxRecDepth 20000 in
theorem w_493 : (Cond.sameField RX7 RX6 "v" "I") ∈ TB := inTB (List.mem_of_getElem? (i := 493) (by decide +kernel)) (by decide +kernel)
theorem dX7_middle_0 : decode cX7_middle 0 = .ok (.iload_n 1, 1) := by decide +kernel
theorem dX7_middle_1 : decode cX7_middle 1 = .ok (.ifCond .le 17, 3) := by decide +kernel
theorem dX7_middle_4 : decode cX7_middle 4 = .ok (.iload_n 1, 1) := by decide +kernel
theorem dX7_middle_5 : decode cX7_middle 5 = .ok (.aload_n 0, 1) := by decide +kernel
theorem dX7_middle_6 : decode cX7_middle 6 = .ok (.getfield 7, 3) := by decide +kernel
theorem dX7_middle_9 : decode cX7_middle 9 = .ok (.imul, 1) := by decide +kernel
theorem dX7_middle_10 : decode cX7_middle 10 = .ok (.aload_n 0, 1) := by decide +kernel
theorem dX7_middle_11 : decode cX7_middle 11 = .ok (.getfield 13, 3) := by decide +kernel
theorem dX7_middle_14 : decode cX7_middle 14 = .ok (.isub, 1) := by decide +kernel
theorem dX7_middle_15 : decode cX7_middle 15 = .ok (.goto 4, 3) := by decide +kernel
theorem dX7_middle_18 : decode cX7_middle 18 = .ok (.iconst 0, 1) := by decide +kernel
theorem dX7_middle_19 : decode cX7_middle 19 = .ok (.ireturn, 1) := by decide +kernel
def f_X7_middle (d : Nat → Int32) (a1 : Int32) (a2 : Int32) : Int32 := (if a1 ≤ 0 then (0 : Int32) else ((a1 * (d 3)) - (d 2)))
set_option maxHeartbeats 600000 in
set_option maxRecDepth 100000 in
theorem k_X7_middle (l : Launch) (g : GG) (a : Nat) (d : Nat → Int32) (a1 : Int32) (a2 : Int32)  : PI l yX7_middle (wsF yX7_middle cX7_middle 3 (some .int)) { frames := 0, cells := 0, slots := 0, locals := 0 } [.ref (a), .int (a1), .int (a2)] (SB g a d) (f_X7_middle d a1 a2) := by
  refine start_PI (by decide) (Nat.le_of_ble_eq_true rfl) ?_
  intro p e s m args below meth c C0 hG ls hl
  obtain ⟨hK, hSk⟩ := hG
  obtain ⟨hx, hb, hr, hml, hown, hts, hlocks⟩ := id C0
  have hl : lv_has ls 3 [(0, .ref (a)), (1, .int (a1)), (2, .int (a2))] := hl
  generalize hT : (f_X7_middle d a1 a2) = tgt
  unfold f_X7_middle at hT
  refine lv_iload_n hx hb dX7_middle_0 rfl (lv_at hl 1 rfl) ?_
  have J1 : ∀ v : Int32, v = (if a1 ≤ 0 then (0 : Int32) else ((a1 * (d 3)) - (d 2))) → W p l e { frames := 0, cells := 0, slots := 0, locals := 0 } s m args below meth c s.heap [] 0 0 (QPI below args s tgt) (F0 m 19 ls [.int (v)]) := by
    intro v ev
    subst ev
    exact ret_PI C0 hT dX7_middle_19
  refine lv_if_le (tgt := 18) hx hb dX7_middle_1 (by decide) (fun c_1 => ?_) (fun c_1 => ?_)
  · refine lv_iconst (v := (0 : Int32)) hx hb dX7_middle_18 (by decide) ?_
    exact J1 _ (iv_pos c_1 rfl)
  · refine lv_iload_n hx hb dX7_middle_4 rfl (lv_at hl 1 rfl) ?_
    refine lv_aload_n hx hb dX7_middle_5 rfl (lv_at hl 0 rfl) ?_
    refine sk_get (d := d) 3 C0 hK hSk (by decide) w_501 (fun x h => u_same (C0.2.2.2.2.2.1 _ w_502) x h) dX7_middle_6 ?_
    refine lv_imul hx hb dX7_middle_9 ?_
    refine lv_aload_n hx hb dX7_middle_10 rfl (lv_at hl 0 rfl) ?_
    refine sk_get (d := d) 2 C0 hK hSk (by decide) w_492 (fun x h => u_same (C0.2.2.2.2.2.1 _ w_493) x h) dX7_middle_11 ?_
    refine lv_isub hx hb dX7_middle_14 ?_
    refine lv_goto (tgt := 19) hx hb dX7_middle_15 (by decide) ?_
    exact J1 _ (iv_neg c_1 rfl)
set_option maxRecDepth 20000 in
theorem w_486 : (Cond.fieldLink RX0 7 RX0 "v" "I") ∈ TB := inTB (List.mem_of_getElem? (i := 486) (by decide +kernel)) (by decide +kernel)
set_option maxRecDepth 20000 in
theorem w_487 : (Cond.sameField RX0 RX6 "v" "I") ∈ TB := inTB (List.mem_of_getElem? (i := 487) (by decide +kernel)) (by decide +kernel)
theorem dX0_slack_0 : decode cX0_slack 0 = .ok (.iload_n 1, 1) := by decide +kernel
theorem dX0_slack_1 : decode cX0_slack 1 = .ok (.aload_n 0, 1) := by decide +kernel
theorem dX0_slack_2 : decode cX0_slack 2 = .ok (.getfield 7, 3) := by decide +kernel
theorem dX0_slack_5 : decode cX0_slack 5 = .ok (.iadd, 1) := by decide +kernel
theorem dX0_slack_6 : decode cX0_slack 6 = .ok (.ireturn, 1) := by decide +kernel
def f_X0_slack (d : Nat → Int32) (a1 : Int32) : Int32 := (a1 + (d 2))
set_option maxHeartbeats 600000 in
set_option maxRecDepth 100000 in
theorem k_X0_slack (l : Launch) (g : GG) (a : Nat) (d : Nat → Int32) (a1 : Int32)  : PI l yX0_slack (wsF yX0_slack cX0_slack 2 (some .int)) { frames := 0, cells := 0, slots := 0, locals := 0 } [.ref (a), .int (a1)] (SB g a d) (f_X0_slack d a1) := by
  refine start_PI (by decide) (Nat.le_of_ble_eq_true rfl) ?_
  intro p e s m args below meth c C0 hG ls hl
  obtain ⟨hK, hSk⟩ := hG
  obtain ⟨hx, hb, hr, hml, hown, hts, hlocks⟩ := id C0
  have hl : lv_has ls 2 [(0, .ref (a)), (1, .int (a1))] := hl
  generalize hT : (f_X0_slack d a1) = tgt
  unfold f_X0_slack at hT
  refine lv_iload_n hx hb dX0_slack_0 rfl (lv_at hl 1 rfl) ?_
  refine lv_aload_n hx hb dX0_slack_1 rfl (lv_at hl 0 rfl) ?_
  refine sk_get (d := d) 2 C0 hK hSk (by decide) w_486 (fun x h => u_same (C0.2.2.2.2.2.1 _ w_487) x h) dX0_slack_2 ?_
  refine lv_iadd hx hb dX0_slack_5 ?_
  exact ret_PI C0 hT dX0_slack_6
theorem dX4_slack_0 : decode cX4_slack 0 = .ok (.iload_n 1, 1) := by decide +kernel
theorem dX4_slack_1 : decode cX4_slack 1 = .ok (.iconst 1, 1) := by decide +kernel
theorem dX4_slack_2 : decode cX4_slack 2 = .ok (.iadd, 1) := by decide +kernel
theorem dX4_slack_3 : decode cX4_slack 3 = .ok (.ireturn, 1) := by decide +kernel
def f_X4_slack (d : Nat → Int32) (a1 : Int32) : Int32 := (a1 + (1 : Int32))
set_option maxHeartbeats 600000 in
set_option maxRecDepth 100000 in
theorem k_X4_slack (l : Launch) (g : GG) (a : Nat) (d : Nat → Int32) (a1 : Int32)  : PI l yX4_slack (wsF yX4_slack cX4_slack 2 (some .int)) { frames := 0, cells := 0, slots := 0, locals := 0 } [.ref (a), .int (a1)] (SB g a d) (f_X4_slack d a1) := by
  refine start_PI (by decide) (Nat.le_of_ble_eq_true rfl) ?_
  intro p e s m args below meth c C0 hG ls hl
  obtain ⟨hK, hSk⟩ := hG
  obtain ⟨hx, hb, hr, hml, hown, hts, hlocks⟩ := id C0
  have hl : lv_has ls 2 [(0, .ref (a)), (1, .int (a1))] := hl
  generalize hT : (f_X4_slack d a1) = tgt
  unfold f_X4_slack at hT
  refine lv_iload_n hx hb dX4_slack_0 rfl (lv_at hl 1 rfl) ?_
  refine lv_iconst (v := (1 : Int32)) hx hb dX4_slack_1 (by decide) ?_
  refine lv_iadd hx hb dX4_slack_2 ?_
  exact ret_PI C0 hT dX4_slack_3
set_option maxRecDepth 20000 in
theorem w_497 : (Cond.fieldLink RX3 9 RX3 "length" "I") ∈ TB := inTB (List.mem_of_getElem? (i := 497) (by decide +kernel)) (by decide +kernel)
set_option maxRecDepth 20000 in
theorem w_498 : (Cond.sameField RX3 RX6 "length" "I") ∈ TB := inTB (List.mem_of_getElem? (i := 498) (by decide +kernel)) (by decide +kernel)
set_option maxRecDepth 20000 in
theorem w_490 : (Cond.fieldLink RX3 15 RX3 "v" "I") ∈ TB := inTB (List.mem_of_getElem? (i := 490) (by decide +kernel)) (by decide +kernel)
set_option maxRecDepth 20000 in
theorem w_491 : (Cond.sameField RX3 RX6 "v" "I") ∈ TB := inTB (List.mem_of_getElem? (i := 491) (by decide +kernel)) (by decide +kernel)
set_option maxRecDepth 20000 in
theorem w_670 : (Cond.methodLink RX3 18 Lib.Math.min.name) ∈ TB := inTB (List.mem_of_getElem? (i := 670) (by decide +kernel)) (by decide +kernel)
theorem dX3_middle_0 : decode cX3_middle 0 = .ok (.iload_n 1, 1) := by decide +kernel
theorem dX3_middle_1 : decode cX3_middle 1 = .ok (.aload_n 0, 1) := by decide +kernel
theorem dX3_middle_2 : decode cX3_middle 2 = .ok (.getfield 9, 3) := by decide +kernel
theorem dX3_middle_5 : decode cX3_middle 5 = .ok (.imul, 1) := by decide +kernel
theorem dX3_middle_6 : decode cX3_middle 6 = .ok (.iload_n 1, 1) := by decide +kernel
theorem dX3_middle_7 : decode cX3_middle 7 = .ok (.aload_n 0, 1) := by decide +kernel
theorem dX3_middle_8 : decode cX3_middle 8 = .ok (.getfield 15, 3) := by decide +kernel
theorem dX3_middle_11 : decode cX3_middle 11 = .ok (.imul, 1) := by decide +kernel
theorem dX3_middle_12 : decode cX3_middle 12 = .ok (.iconst 2, 1) := by decide +kernel
theorem dX3_middle_13 : decode cX3_middle 13 = .ok (.idiv, 1) := by decide +kernel
theorem dX3_middle_14 : decode cX3_middle 14 = .ok (.iload_n 1, 1) := by decide +kernel
theorem dX3_middle_15 : decode cX3_middle 15 = .ok (.aload_n 0, 1) := by decide +kernel
theorem dX3_middle_16 : decode cX3_middle 16 = .ok (.getfield 9, 3) := by decide +kernel
theorem dX3_middle_19 : decode cX3_middle 19 = .ok (.imul, 1) := by decide +kernel
theorem dX3_middle_20 : decode cX3_middle 20 = .ok (.invokestatic 18, 3) := by decide +kernel
theorem dX3_middle_23 : decode cX3_middle 23 = .ok (.isub, 1) := by decide +kernel
theorem dX3_middle_24 : decode cX3_middle 24 = .ok (.ireturn, 1) := by decide +kernel
def f_X3_middle (d : Nat → Int32) (a1 : Int32) (a2 : Int32) : Int32 := ((a1 * (d 3)) - (if (a1 * (d 3)) < ((a1 * (d 2)) / (2 : Int32)) then (a1 * (d 3)) else ((a1 * (d 2)) / (2 : Int32))))
set_option maxHeartbeats 600000 in
set_option maxRecDepth 100000 in
theorem k_X3_middle (l : Launch) (g : GG) (a : Nat) (d : Nat → Int32) (a1 : Int32) (a2 : Int32)  : PI l yX3_middle (wsF yX3_middle cX3_middle 3 (some .int)) { frames := 1, cells := 0, slots := 0, locals := 21 } [.ref (a), .int (a1), .int (a2)] (SB g a d) (f_X3_middle d a1 a2) := by
  refine start_PI (by decide) (Nat.le_of_ble_eq_true rfl) ?_
  intro p e s m args below meth c C0 hG ls hl
  obtain ⟨hK, hSk⟩ := hG
  obtain ⟨hx, hb, hr, hml, hown, hts, hlocks⟩ := id C0
  have hl : lv_has ls 3 [(0, .ref (a)), (1, .int (a1)), (2, .int (a2))] := hl
  generalize hT : (f_X3_middle d a1 a2) = tgt
  unfold f_X3_middle at hT
  refine lv_iload_n hx hb dX3_middle_0 rfl (lv_at hl 1 rfl) ?_
  refine lv_aload_n hx hb dX3_middle_1 rfl (lv_at hl 0 rfl) ?_
  refine sk_get (d := d) 3 C0 hK hSk (by decide) w_497 (fun x h => u_same (C0.2.2.2.2.2.1 _ w_498) x h) dX3_middle_2 ?_
  refine lv_imul hx hb dX3_middle_5 ?_
  refine lv_iload_n hx hb dX3_middle_6 rfl (lv_at hl 1 rfl) ?_
  refine lv_aload_n hx hb dX3_middle_7 rfl (lv_at hl 0 rfl) ?_
  refine sk_get (d := d) 2 C0 hK hSk (by decide) w_490 (fun x h => u_same (C0.2.2.2.2.2.1 _ w_491) x h) dX3_middle_8 ?_
  refine lv_imul hx hb dX3_middle_11 ?_
  refine lv_iconst (v := (2 : Int32)) hx hb dX3_middle_12 (by decide) ?_
  refine lv_idiv hx hb dX3_middle_13 (by decide) ?_
  refine lv_iload_n hx hb dX3_middle_14 rfl (lv_at hl 1 rfl) ?_
  refine lv_aload_n hx hb dX3_middle_15 rfl (lv_at hl 0 rfl) ?_
  refine sk_get (d := d) 3 C0 hK hSk (by decide) w_497 (fun x h => u_same (C0.2.2.2.2.2.1 _ w_498) x h) dX3_middle_16 ?_
  refine lv_imul hx hb dX3_middle_19 ?_
  refine va_mmin hx hb (hml.trans hl.1.symm) C0.2.2.2.2.1 (C0.2.2.2.2.2.1 _ w_670) (C0.2.2.2.2.2.1 _ w_379) (C0.2.2.2.2.2.1 _ w_80) (C0.2.2.2.2.2.1 _ w_380) (by decide) (Nat.le_of_ble_eq_true rfl) (Nat.zero_le _) (Nat.zero_le _) dX3_middle_20 ?_
  refine lv_isub hx hb dX3_middle_23 ?_
  exact ret_PI C0 hT dX3_middle_24
set_option maxRecDepth 20000 in
theorem w_566 : (Cond.fieldLink RX8 9 RX8 "mores" "[I") ∈ TB := inTB (List.mem_of_getElem? (i := 566) (by decide +kernel)) (by decide +kernel)
theorem dX8_more_0 : decode cX8_more 0 = .ok (.aload_n 0, 1) := by decide +kernel
theorem dX8_more_1 : decode cX8_more 1 = .ok (.getfield 9, 3) := by decide +kernel
theorem dX8_more_4 : decode cX8_more 4 = .ok (.iload_n 1, 1) := by decide +kernel
theorem dX8_more_5 : decode cX8_more 5 = .ok (.iconst 3, 1) := by decide +kernel
theorem dX8_more_6 : decode cX8_more 6 = .ok (.iand, 1) := by decide +kernel
theorem dX8_more_7 : decode cX8_more 7 = .ok (.iaload, 1) := by decide +kernel
theorem dX8_more_8 : decode cX8_more 8 = .ok (.ireturn, 1) := by decide +kernel
def f_X8_more (d : Nat → Int32) (a1 : Int32) : Int32 := d (4 + ix (a1 &&& 3))
set_option maxHeartbeats 600000 in
set_option maxRecDepth 100000 in
theorem k_X8_more (l : Launch) (g : GG) (a : Nat) (d : Nat → Int32) (a1 : Int32) (h6 : d 1 = 6) : PI l yX8_more (wsF yX8_more cX8_more 2 (some .int)) { frames := 0, cells := 0, slots := 0, locals := 0 } [.ref a, .int a1] (SB g a d) (f_X8_more d a1) := by
  refine start_PI (by decide) (Nat.le_of_ble_eq_true rfl) ?_
  intro p e s m args below meth c C0 hG ls hl
  obtain ⟨hK, hSk⟩ := hG
  obtain ⟨hx, hb, hr, hml, hown, hts, hlocks⟩ := id C0
  have hl : lv_has ls 2 [(0, .ref a), (1, .int a1)] := hl
  obtain ⟨h0, hS⟩ := hSk
  rcases hS with ⟨e, h⟩ | ⟨e, h⟩ | ⟨e, h⟩ | ⟨e, h⟩ | ⟨e, h⟩ | ⟨e, h⟩ | ⟨e, b, hb2, hba, h, h'⟩
  · rw [h6] at e; exact absurd e (by decide)
  · rw [h6] at e; exact absurd e (by decide)
  · rw [h6] at e; exact absurd e (by decide)
  · rw [h6] at e; exact absurd e (by decide)
  · rw [h6] at e; exact absurd e (by decide)
  · rw [h6] at e; exact absurd e (by decide)
  have hP : va_P g.1 vwCl [(a, .inr (8, [.int (d 0), .int 6, .int (d 2), .int (d 3), .ref b])), (b, .inl (g.2.1 0, 4, .inl (fun j => d (4 + j))))] s.heap := fun j q hq => by
    match j, hq with
    | 0, hq => cases hq; exact h
    | 1, hq => cases hq; exact h'
    | j + 2, hq => simp at hq
  refine lv_aload_n hx hb dX8_more_0 rfl (lv_at hl 0 rfl) ?_
  refine va_get (D := g.1) (ci := 8) (v := .ref b) (C := RX8) (T := TX8) (N := 5) hx hb hts uw_8 hown hK.1 hP 0 rfl rfl 4 (by decide) (hts _ w_566) (fun _ h9 => h9) rfl dX8_more_1 ?_
  refine lv_iload_n hx hb dX8_more_4 rfl (lv_at hl 1 rfl) ?_
  refine lv_iconst (v := 3) hx hb dX8_more_5 (by decide) ?_
  refine lv_iand hx hb dX8_more_6 ?_
  refine va_iald hx hb hK.1 hP 1 0 rfl rfl (pk_andIn a1 2 (by decide) (by decide)) dX8_more_7 ?_
  exact ret_PI C0 rfl dX8_more_8
set_option maxRecDepth 20000 in
theorem w_503 : (Cond.fieldLink RX8 22 RX8 "length" "I") ∈ TB := inTB (List.mem_of_getElem? (i := 503) (by decide +kernel)) (by decide +kernel)
set_option maxRecDepth 20000 in
theorem w_504 : (Cond.sameField RX8 RX6 "length" "I") ∈ TB := inTB (List.mem_of_getElem? (i := 504) (by decide +kernel)) (by decide +kernel)
set_option maxRecDepth 20000 in
theorem w_681 : (Cond.methodLink RX8 34 yX8_more) ∈ TB := inTB (List.mem_of_getElem? (i := 681) (by decide +kernel)) (by decide +kernel)
set_option maxRecDepth 20000 in
theorem w_606 : (Cond.code yX8_more cX8_more 2 (some .int)) ∈ TB := inTB (List.mem_of_getElem? (i := 606) (by decide +kernel)) (by decide +kernel)
set_option maxRecDepth 20000 in
theorem w_605 : (Cond.instanceMethod yX8_more) ∈ TB := inTB (List.mem_of_getElem? (i := 605) (by decide +kernel)) (by decide +kernel)
set_option maxRecDepth 20000 in
theorem w_12 : (Cond.selects RX8 yX8_more yX8_more) ∈ TB := inTB (List.mem_of_getElem? (i := 12) (by decide +kernel)) (by decide +kernel)
set_option maxRecDepth 20000 in
theorem w_91 : (Cond.initialized RX8) ∈ TB := inTB (List.mem_of_getElem? (i := 91) (by decide +kernel)) (by decide +kernel)
theorem cf_X8_more : CF yX8_more cX8_more 2 (some .int) 1 := ⟨w_605, w_12, w_91, w_606, by decide +kernel, by decide +kernel, by decide +kernel⟩
theorem dX8_middle_0 : decode cX8_middle 0 = .ok (.iload_n 1, 1) := by decide +kernel
theorem dX8_middle_1 : decode cX8_middle 1 = .ok (.aload_n 0, 1) := by decide +kernel
theorem dX8_middle_2 : decode cX8_middle 2 = .ok (.getfield 22, 3) := by decide +kernel
theorem dX8_middle_5 : decode cX8_middle 5 = .ok (.imul, 1) := by decide +kernel
theorem dX8_middle_6 : decode cX8_middle 6 = .ok (.aload_n 0, 1) := by decide +kernel
theorem dX8_middle_7 : decode cX8_middle 7 = .ok (.iload_n 1, 1) := by decide +kernel
theorem dX8_middle_8 : decode cX8_middle 8 = .ok (.invokevirtual 34, 3) := by decide +kernel
theorem dX8_middle_11 : decode cX8_middle 11 = .ok (.iadd, 1) := by decide +kernel
theorem dX8_middle_12 : decode cX8_middle 12 = .ok (.ireturn, 1) := by decide +kernel
def f_X8_middle (d : Nat → Int32) (a1 : Int32) (a2 : Int32) : Int32 := ((a1 * (d 3)) + (f_X8_more d a1))
set_option maxHeartbeats 600000 in
set_option maxRecDepth 100000 in
theorem k_X8_middle (l : Launch) (g : GG) (a : Nat) (d : Nat → Int32) (a1 : Int32) (a2 : Int32) (h6 : d 1 = 6) : PI l yX8_middle (wsF yX8_middle cX8_middle 3 (some .int)) { frames := 1, cells := 0, slots := 0, locals := 21 } [.ref (a), .int (a1), .int (a2)] (SB g a d) (f_X8_middle d a1 a2) := by
  refine start_PI (by decide) (Nat.le_of_ble_eq_true rfl) ?_
  intro p e s m args below meth c C0 hG ls hl
  obtain ⟨hK, hSk⟩ := hG
  obtain ⟨hx, hb, hr, hml, hown, hts, hlocks⟩ := id C0
  have hl : lv_has ls 3 [(0, .ref (a)), (1, .int (a1)), (2, .int (a2))] := hl
  generalize hT : (f_X8_middle d a1 a2) = tgt
  unfold f_X8_middle at hT
  refine lv_iload_n hx hb dX8_middle_0 rfl (lv_at hl 1 rfl) ?_
  refine lv_aload_n hx hb dX8_middle_1 rfl (lv_at hl 0 rfl) ?_
  refine sk_get (d := d) 3 C0 hK hSk (by decide) w_503 (fun x h => u_same (C0.2.2.2.2.2.1 _ w_504) x h) dX8_middle_2 ?_
  refine lv_imul hx hb dX8_middle_5 ?_
  refine lv_aload_n hx hb dX8_middle_6 rfl (lv_at hl 0 rfl) ?_
  refine lv_iload_n hx hb dX8_middle_7 rfl (lv_at hl 1 rfl) ?_
  refine sk_more (rest := [.int ((a1 * (d 3)))]) C0 hK hSk h6 cf_X8_more w_681 (k_X8_more l g a d a1 h6) hl.1 (by decide) (Nat.le_of_ble_eq_true rfl) dX8_middle_8 ?_
  refine lv_iadd hx hb dX8_middle_11 ?_
  exact ret_PI C0 hT dX8_middle_12
set_option maxRecDepth 20000 in
theorem w_665 : (Cond.sameMethod RX6 RX6 "middle" "(II)I") ∈ TB := inTB (List.mem_of_getElem? (i := 665) (by decide +kernel)) (by decide +kernel)
set_option maxRecDepth 20000 in
theorem w_663 : (Cond.instanceMethod yX6_middle) ∈ TB := inTB (List.mem_of_getElem? (i := 663) (by decide +kernel)) (by decide +kernel)
set_option maxRecDepth 20000 in
theorem w_683 : (Cond.code yX6_middle cX6_middle 3 (some .int)) ∈ TB := inTB (List.mem_of_getElem? (i := 683) (by decide +kernel)) (by decide +kernel)
set_option maxRecDepth 20000 in
theorem w_664 : (Cond.selects RX6 yX6_middle yX6_middle) ∈ TB := inTB (List.mem_of_getElem? (i := 664) (by decide +kernel)) (by decide +kernel)
set_option maxRecDepth 20000 in
theorem w_85 : (Cond.initialized RX6) ∈ TB := inTB (List.mem_of_getElem? (i := 85) (by decide +kernel)) (by decide +kernel)
set_option maxRecDepth 20000 in
theorem w_682 : (Cond.selects RX10 yX6_middle yX10_middle) ∈ TB := inTB (List.mem_of_getElem? (i := 682) (by decide +kernel)) (by decide +kernel)
set_option maxRecDepth 20000 in
theorem w_672 : (Cond.instanceMethod yX10_middle) ∈ TB := inTB (List.mem_of_getElem? (i := 672) (by decide +kernel)) (by decide +kernel)
set_option maxRecDepth 20000 in
theorem w_86 : (Cond.initialized RX10) ∈ TB := inTB (List.mem_of_getElem? (i := 86) (by decide +kernel)) (by decide +kernel)
set_option maxRecDepth 20000 in
theorem w_673 : (Cond.code yX10_middle cX10_middle 3 (some .int)) ∈ TB := inTB (List.mem_of_getElem? (i := 673) (by decide +kernel)) (by decide +kernel)
set_option maxRecDepth 20000 in
theorem w_675 : (Cond.selects RX7 yX6_middle yX7_middle) ∈ TB := inTB (List.mem_of_getElem? (i := 675) (by decide +kernel)) (by decide +kernel)
set_option maxRecDepth 20000 in
theorem w_676 : (Cond.instanceMethod yX7_middle) ∈ TB := inTB (List.mem_of_getElem? (i := 676) (by decide +kernel)) (by decide +kernel)
set_option maxRecDepth 20000 in
theorem w_87 : (Cond.initialized RX7) ∈ TB := inTB (List.mem_of_getElem? (i := 87) (by decide +kernel)) (by decide +kernel)
set_option maxRecDepth 20000 in
theorem w_677 : (Cond.code yX7_middle cX7_middle 3 (some .int)) ∈ TB := inTB (List.mem_of_getElem? (i := 677) (by decide +kernel)) (by decide +kernel)
set_option maxRecDepth 20000 in
theorem w_666 : (Cond.selects RX0 yX6_middle yX6_middle) ∈ TB := inTB (List.mem_of_getElem? (i := 666) (by decide +kernel)) (by decide +kernel)
set_option maxRecDepth 20000 in
theorem w_671 : (Cond.selects RX4 yX6_middle yX10_middle) ∈ TB := inTB (List.mem_of_getElem? (i := 671) (by decide +kernel)) (by decide +kernel)
set_option maxRecDepth 20000 in
theorem w_667 : (Cond.selects RX3 yX6_middle yX3_middle) ∈ TB := inTB (List.mem_of_getElem? (i := 667) (by decide +kernel)) (by decide +kernel)
set_option maxRecDepth 20000 in
theorem w_668 : (Cond.instanceMethod yX3_middle) ∈ TB := inTB (List.mem_of_getElem? (i := 668) (by decide +kernel)) (by decide +kernel)
set_option maxRecDepth 20000 in
theorem w_90 : (Cond.initialized RX3) ∈ TB := inTB (List.mem_of_getElem? (i := 90) (by decide +kernel)) (by decide +kernel)
set_option maxRecDepth 20000 in
theorem w_669 : (Cond.code yX3_middle cX3_middle 3 (some .int)) ∈ TB := inTB (List.mem_of_getElem? (i := 669) (by decide +kernel)) (by decide +kernel)
set_option maxRecDepth 20000 in
theorem w_678 : (Cond.selects RX8 yX6_middle yX8_middle) ∈ TB := inTB (List.mem_of_getElem? (i := 678) (by decide +kernel)) (by decide +kernel)
set_option maxRecDepth 20000 in
theorem w_679 : (Cond.instanceMethod yX8_middle) ∈ TB := inTB (List.mem_of_getElem? (i := 679) (by decide +kernel)) (by decide +kernel)
set_option maxRecDepth 20000 in
theorem w_680 : (Cond.code yX8_middle cX8_middle 3 (some .int)) ∈ TB := inTB (List.mem_of_getElem? (i := 680) (by decide +kernel)) (by decide +kernel)
def vmid (d : Nat → Int32) (n : Int32) (w : Int32) : Int32 := if d 1 = 1 then f_X10_middle d n w else if d 1 = 2 then f_X7_middle d n w else if d 1 = 3 then f_X6_middle d n w else if d 1 = 4 then f_X10_middle d n w else if d 1 = 5 then f_X3_middle d n w else if d 1 = 6 then f_X8_middle d n w else f_X6_middle d n w
set_option maxHeartbeats 600000 in
set_option maxRecDepth 100000 in
theorem sk_middle {p : Program} {l : Launch} {e : Env} {R : Room} {s : State} {m : MethodId} {args : Array Value} {below : List Frame} {meth : Method} {c : Code} {H : Heap} {locs : List Loc} {Q : State → Prop} {cc : ByteArray} {own : String} {nL pc idx : Nat} {ret0 : Option FieldType} {ls : Array Slot} {rest : List Value} {g : GG} {a : Nat} {d : Nat → Int32} {n : Int32} {w : Int32} (C0 : BC p s m args meth c cc own nL ret0) (hK : KK g s) (hSk : SKH g H a d) (hl : Cond.methodLink own idx yX6_middle ∈ TB) (hR : 2 ≤ R.frames ∧ 43 ≤ R.locals) (hsz : ls.size = nL) (hW : (rest.map fun v => v.category).sum ≤ 8) (hdg : decode cc pc = .ok (.invokevirtual idx, 3)) (kk : W p l e R s m args below meth c H locs 0 0 Q (F0 m (pc + 3) ls (.int (vmid d n w) :: rest))) : W p l e R s m args below meth c H locs 0 0 Q (F0 m pc ls (.int w :: .int n :: .ref a :: rest)) := by
  obtain ⟨h0, hS⟩ := id hSk
  rcases hS with ⟨e, h⟩ | ⟨e, h⟩ | ⟨e, h⟩ | ⟨e, h⟩ | ⟨e, h⟩ | ⟨e, h⟩ | ⟨e, b, hb, hba, h, h'⟩
  · have ev : vmid d n w = f_X6_middle d n w := by simp [vmid, e]
    rw [ev] at kk
    exact sk_run (n := 2) (x := yX6_middle) (y := yX6_middle) (As := [.int n, .int w]) (rest := rest) C0 hK hSk h rfl hl w_665 w_663 w_683 w_664 w_663 w_85 w_683 ⟨by decide +kernel, by decide +kernel, by decide +kernel⟩ (k_X6_middle l g a d n w) ⟨by show 1 ≤ R.frames; omega, by show 22 ≤ R.locals; omega⟩ hsz rfl rfl hW hdg ⟨Nat.zero_le _, Nat.zero_le _⟩ kk
  · have ev : vmid d n w = f_X10_middle d n w := by simp [vmid, e]
    rw [ev] at kk
    exact sk_run (n := 2) (x := yX6_middle) (y := yX10_middle) (As := [.int n, .int w]) (rest := rest) C0 hK hSk h rfl hl w_665 w_663 w_683 w_682 w_672 w_86 w_673 ⟨by decide +kernel, by decide +kernel, by decide +kernel⟩ (k_X10_middle l g a d n w) ⟨by show 2 ≤ R.frames; omega, by show 43 ≤ R.locals; omega⟩ hsz rfl rfl hW hdg ⟨Nat.zero_le _, Nat.zero_le _⟩ kk
  · have ev : vmid d n w = f_X7_middle d n w := by simp [vmid, e]
    rw [ev] at kk
    exact sk_run (n := 2) (x := yX6_middle) (y := yX7_middle) (As := [.int n, .int w]) (rest := rest) C0 hK hSk h rfl hl w_665 w_663 w_683 w_675 w_676 w_87 w_677 ⟨by decide +kernel, by decide +kernel, by decide +kernel⟩ (k_X7_middle l g a d n w) ⟨by show 1 ≤ R.frames; omega, by show 22 ≤ R.locals; omega⟩ hsz rfl rfl hW hdg ⟨Nat.zero_le _, Nat.zero_le _⟩ kk
  · have ev : vmid d n w = f_X6_middle d n w := by simp [vmid, e]
    rw [ev] at kk
    exact sk_run (n := 2) (x := yX6_middle) (y := yX6_middle) (As := [.int n, .int w]) (rest := rest) C0 hK hSk h rfl hl w_665 w_663 w_683 w_666 w_663 w_85 w_683 ⟨by decide +kernel, by decide +kernel, by decide +kernel⟩ (k_X6_middle l g a d n w) ⟨by show 1 ≤ R.frames; omega, by show 22 ≤ R.locals; omega⟩ hsz rfl rfl hW hdg ⟨Nat.zero_le _, Nat.zero_le _⟩ kk
  · have ev : vmid d n w = f_X10_middle d n w := by simp [vmid, e]
    rw [ev] at kk
    exact sk_run (n := 2) (x := yX6_middle) (y := yX10_middle) (As := [.int n, .int w]) (rest := rest) C0 hK hSk h rfl hl w_665 w_663 w_683 w_671 w_672 w_86 w_673 ⟨by decide +kernel, by decide +kernel, by decide +kernel⟩ (k_X10_middle l g a d n w) ⟨by show 2 ≤ R.frames; omega, by show 43 ≤ R.locals; omega⟩ hsz rfl rfl hW hdg ⟨Nat.zero_le _, Nat.zero_le _⟩ kk
  · have ev : vmid d n w = f_X3_middle d n w := by simp [vmid, e]
    rw [ev] at kk
    exact sk_run (n := 2) (x := yX6_middle) (y := yX3_middle) (As := [.int n, .int w]) (rest := rest) C0 hK hSk h rfl hl w_665 w_663 w_683 w_667 w_668 w_90 w_669 ⟨by decide +kernel, by decide +kernel, by decide +kernel⟩ (k_X3_middle l g a d n w) ⟨by show 2 ≤ R.frames; omega, by show 43 ≤ R.locals; omega⟩ hsz rfl rfl hW hdg ⟨Nat.zero_le _, Nat.zero_le _⟩ kk
  · have ev : vmid d n w = f_X8_middle d n w := by simp [vmid, e]
    rw [ev] at kk
    exact sk_run (n := 2) (x := yX6_middle) (y := yX8_middle) (As := [.int n, .int w]) (rest := rest) C0 hK hSk h rfl hl w_665 w_663 w_683 w_678 w_679 w_91 w_680 ⟨by decide +kernel, by decide +kernel, by decide +kernel⟩ (k_X8_middle l g a d n w e) ⟨by show 2 ≤ R.frames; omega, by show 43 ≤ R.locals; omega⟩ hsz rfl rfl hW hdg ⟨Nat.zero_le _, Nat.zero_le _⟩ kk
set_option maxRecDepth 20000 in
theorem w_692 : (Cond.sameMethod RX6 RX6 "slack" "(I)I") ∈ TB := inTB (List.mem_of_getElem? (i := 692) (by decide +kernel)) (by decide +kernel)
set_option maxRecDepth 20000 in
theorem w_690 : (Cond.instanceMethod yX6_slack) ∈ TB := inTB (List.mem_of_getElem? (i := 690) (by decide +kernel)) (by decide +kernel)
set_option maxRecDepth 20000 in
theorem w_703 : (Cond.code yX6_slack cX6_slack 2 (some .int)) ∈ TB := inTB (List.mem_of_getElem? (i := 703) (by decide +kernel)) (by decide +kernel)
set_option maxRecDepth 20000 in
theorem w_691 : (Cond.selects RX6 yX6_slack yX6_slack) ∈ TB := inTB (List.mem_of_getElem? (i := 691) (by decide +kernel)) (by decide +kernel)
set_option maxRecDepth 20000 in
theorem w_702 : (Cond.selects RX10 yX6_slack yX6_slack) ∈ TB := inTB (List.mem_of_getElem? (i := 702) (by decide +kernel)) (by decide +kernel)
set_option maxRecDepth 20000 in
theorem w_700 : (Cond.selects RX7 yX6_slack yX6_slack) ∈ TB := inTB (List.mem_of_getElem? (i := 700) (by decide +kernel)) (by decide +kernel)
set_option maxRecDepth 20000 in
theorem w_693 : (Cond.selects RX0 yX6_slack yX0_slack) ∈ TB := inTB (List.mem_of_getElem? (i := 693) (by decide +kernel)) (by decide +kernel)
set_option maxRecDepth 20000 in
theorem w_694 : (Cond.instanceMethod yX0_slack) ∈ TB := inTB (List.mem_of_getElem? (i := 694) (by decide +kernel)) (by decide +kernel)
set_option maxRecDepth 20000 in
theorem w_88 : (Cond.initialized RX0) ∈ TB := inTB (List.mem_of_getElem? (i := 88) (by decide +kernel)) (by decide +kernel)
set_option maxRecDepth 20000 in
theorem w_695 : (Cond.code yX0_slack cX0_slack 2 (some .int)) ∈ TB := inTB (List.mem_of_getElem? (i := 695) (by decide +kernel)) (by decide +kernel)
set_option maxRecDepth 20000 in
theorem w_697 : (Cond.selects RX4 yX6_slack yX4_slack) ∈ TB := inTB (List.mem_of_getElem? (i := 697) (by decide +kernel)) (by decide +kernel)
set_option maxRecDepth 20000 in
theorem w_698 : (Cond.instanceMethod yX4_slack) ∈ TB := inTB (List.mem_of_getElem? (i := 698) (by decide +kernel)) (by decide +kernel)
set_option maxRecDepth 20000 in
theorem w_89 : (Cond.initialized RX4) ∈ TB := inTB (List.mem_of_getElem? (i := 89) (by decide +kernel)) (by decide +kernel)
set_option maxRecDepth 20000 in
theorem w_699 : (Cond.code yX4_slack cX4_slack 2 (some .int)) ∈ TB := inTB (List.mem_of_getElem? (i := 699) (by decide +kernel)) (by decide +kernel)
set_option maxRecDepth 20000 in
theorem w_696 : (Cond.selects RX3 yX6_slack yX6_slack) ∈ TB := inTB (List.mem_of_getElem? (i := 696) (by decide +kernel)) (by decide +kernel)
set_option maxRecDepth 20000 in
theorem w_701 : (Cond.selects RX8 yX6_slack yX0_slack) ∈ TB := inTB (List.mem_of_getElem? (i := 701) (by decide +kernel)) (by decide +kernel)
def vslk (d : Nat → Int32) (n : Int32) : Int32 := if d 1 = 1 then f_X6_slack d n else if d 1 = 2 then f_X6_slack d n else if d 1 = 3 then f_X0_slack d n else if d 1 = 4 then f_X4_slack d n else if d 1 = 5 then f_X6_slack d n else if d 1 = 6 then f_X0_slack d n else f_X6_slack d n
set_option maxHeartbeats 600000 in
set_option maxRecDepth 100000 in
theorem sk_slack {p : Program} {l : Launch} {e : Env} {R : Room} {s : State} {m : MethodId} {args : Array Value} {below : List Frame} {meth : Method} {c : Code} {H : Heap} {locs : List Loc} {Q : State → Prop} {cc : ByteArray} {own : String} {nL pc idx : Nat} {ret0 : Option FieldType} {ls : Array Slot} {rest : List Value} {g : GG} {a : Nat} {d : Nat → Int32} {n : Int32} (C0 : BC p s m args meth c cc own nL ret0) (hK : KK g s) (hSk : SKH g H a d) (hl : Cond.methodLink own idx yX6_slack ∈ TB) (hR : 1 ≤ R.frames ∧ 21 ≤ R.locals) (hsz : ls.size = nL) (hW : (rest.map fun v => v.category).sum ≤ 8) (hdg : decode cc pc = .ok (.invokevirtual idx, 3)) (kk : W p l e R s m args below meth c H locs 0 0 Q (F0 m (pc + 3) ls (.int (vslk d n) :: rest))) : W p l e R s m args below meth c H locs 0 0 Q (F0 m pc ls (.int n :: .ref a :: rest)) := by
  obtain ⟨h0, hS⟩ := id hSk
  rcases hS with ⟨e, h⟩ | ⟨e, h⟩ | ⟨e, h⟩ | ⟨e, h⟩ | ⟨e, h⟩ | ⟨e, h⟩ | ⟨e, b, hb, hba, h, h'⟩
  · have ev : vslk d n = f_X6_slack d n := by simp [vslk, e]
    rw [ev] at kk
    exact sk_run (n := 1) (x := yX6_slack) (y := yX6_slack) (As := [.int n]) (rest := rest) C0 hK hSk h rfl hl w_692 w_690 w_703 w_691 w_690 w_85 w_703 ⟨by decide +kernel, by decide +kernel, by decide +kernel⟩ (k_X6_slack l g a d n) ⟨by show 1 ≤ R.frames; omega, by show 21 ≤ R.locals; omega⟩ hsz rfl rfl hW hdg ⟨Nat.zero_le _, Nat.zero_le _⟩ kk
  · have ev : vslk d n = f_X6_slack d n := by simp [vslk, e]
    rw [ev] at kk
    exact sk_run (n := 1) (x := yX6_slack) (y := yX6_slack) (As := [.int n]) (rest := rest) C0 hK hSk h rfl hl w_692 w_690 w_703 w_702 w_690 w_85 w_703 ⟨by decide +kernel, by decide +kernel, by decide +kernel⟩ (k_X6_slack l g a d n) ⟨by show 1 ≤ R.frames; omega, by show 21 ≤ R.locals; omega⟩ hsz rfl rfl hW hdg ⟨Nat.zero_le _, Nat.zero_le _⟩ kk
  · have ev : vslk d n = f_X6_slack d n := by simp [vslk, e]
    rw [ev] at kk
    exact sk_run (n := 1) (x := yX6_slack) (y := yX6_slack) (As := [.int n]) (rest := rest) C0 hK hSk h rfl hl w_692 w_690 w_703 w_700 w_690 w_85 w_703 ⟨by decide +kernel, by decide +kernel, by decide +kernel⟩ (k_X6_slack l g a d n) ⟨by show 1 ≤ R.frames; omega, by show 21 ≤ R.locals; omega⟩ hsz rfl rfl hW hdg ⟨Nat.zero_le _, Nat.zero_le _⟩ kk
  · have ev : vslk d n = f_X0_slack d n := by simp [vslk, e]
    rw [ev] at kk
    exact sk_run (n := 1) (x := yX6_slack) (y := yX0_slack) (As := [.int n]) (rest := rest) C0 hK hSk h rfl hl w_692 w_690 w_703 w_693 w_694 w_88 w_695 ⟨by decide +kernel, by decide +kernel, by decide +kernel⟩ (k_X0_slack l g a d n) ⟨by show 1 ≤ R.frames; omega, by show 21 ≤ R.locals; omega⟩ hsz rfl rfl hW hdg ⟨Nat.zero_le _, Nat.zero_le _⟩ kk
  · have ev : vslk d n = f_X4_slack d n := by simp [vslk, e]
    rw [ev] at kk
    exact sk_run (n := 1) (x := yX6_slack) (y := yX4_slack) (As := [.int n]) (rest := rest) C0 hK hSk h rfl hl w_692 w_690 w_703 w_697 w_698 w_89 w_699 ⟨by decide +kernel, by decide +kernel, by decide +kernel⟩ (k_X4_slack l g a d n) ⟨by show 1 ≤ R.frames; omega, by show 21 ≤ R.locals; omega⟩ hsz rfl rfl hW hdg ⟨Nat.zero_le _, Nat.zero_le _⟩ kk
  · have ev : vslk d n = f_X6_slack d n := by simp [vslk, e]
    rw [ev] at kk
    exact sk_run (n := 1) (x := yX6_slack) (y := yX6_slack) (As := [.int n]) (rest := rest) C0 hK hSk h rfl hl w_692 w_690 w_703 w_696 w_690 w_85 w_703 ⟨by decide +kernel, by decide +kernel, by decide +kernel⟩ (k_X6_slack l g a d n) ⟨by show 1 ≤ R.frames; omega, by show 21 ≤ R.locals; omega⟩ hsz rfl rfl hW hdg ⟨Nat.zero_le _, Nat.zero_le _⟩ kk
  · have ev : vslk d n = f_X0_slack d n := by simp [vslk, e]
    rw [ev] at kk
    exact sk_run (n := 1) (x := yX6_slack) (y := yX0_slack) (As := [.int n]) (rest := rest) C0 hK hSk h rfl hl w_692 w_690 w_703 w_701 w_694 w_88 w_695 ⟨by decide +kernel, by decide +kernel, by decide +kernel⟩ (k_X0_slack l g a d n) ⟨by show 1 ≤ R.frames; omega, by show 21 ≤ R.locals; omega⟩ hsz rfl rfl hW hdg ⟨Nat.zero_le _, Nat.zero_le _⟩ kk
