/-! THE CLAIM OUT OF ONE WALK OF THE LAW'S BODY. Your part is whole_start (and what it stands on); all else here is the same for every law, but numbers. -/
def R_law : String := "ThreeMeasuresLaw"
def lw_P (b : Addr) (xs : List Int32) (args : Array Value) (s : State) : Prop := args = #[.ref b] ∧ s.IntsAt b xs ∧ xs.length ≤ 3072 ∧ (Jvm.Cond.and given_1 narrow_1).before args s = true
def lw_Q (_ : Array Value) (s : State) (o : Outcome) (t : State) : Prop := o = .returned (some (.int 1)) ∧ Framed s o t [] 600000 7302250
def lw_Z (below : List Frame) (a : Array Value) (s : State) : State → Prop := fun t => ∃ o, t.status = .running ∧ Ended t below o ∧ lw_Q a s o t
/-- the law's own end, with 1 on the stack, nothing written that was there before, its room as the claim has it -/
theorem lw_ret {p : Program} {l : Launch} {e : Env} {s : State} {m : MethodId} {below : List Frame} {meth : Method} {c : Code} {b : Nat} (hx : p.tables.exec = Jvm.exec) (hb : c.code = code) (hr : meth.sig.returnType = ret) (hlocks : meth.locks = false) {pc : Nat} {H : Heap} {ls : Array Slot} (hdg : decode code pc = .ok (.ireturn, 1)) : W p l e room_1 s m #[Value.ref b] below meth c H [] 600000 7302250 (lw_Z below #[Value.ref b] s) (F0 m pc ls [.int 1]) := by
  intro T hT X
  obtain ⟨fs, hret, hrun, hended, hW, hframe⟩ := X.leave (v := some (.int 1)) (hlocks := hlocks) (fun h => by rw [hr] at h; cases h)
  have hmeth' : T.vm.method? m = some meth := X.method'
  refine ⟨T.setFrames fs, ?_, .returned (some (.int 1)), hrun, hended, rfl, ⟨_, rfl⟩, hW, hframe⟩
  jvm_step X.here [X.here.top, hx, hb, hdg, hmeth', hr, ret, narrow_b1]
  (try refine ⟨rfl, ?_⟩); (try refine ⟨rfl, ?_⟩)
  first | (intro acts; rw [hret _ acts rfl rfl rfl]) | rw [hret _ _ rfl rfl rfl]
  exact Steps.refl _
/-- what holds at the law's entry: the machine, the code, the tables' words (any of lw_tbl by 'hts w (by decide +kernel)'), the script of L ints xs at the cell b, what the Statement gives of the start (any of its parts by flat_of_before) -/
def lw_At (p : Program) (s : State) (m : MethodId) (meth : Method) (c : Code) (b L : Nat) (xs : Nat → Int32) : Prop :=
  p.tables.exec = Jvm.exec ∧ c.code = code ∧ meth.sig.returnType = ret ∧ c.maxLocals = 4 ∧ s.vm.findClass R_law = some m.cls ∧ (∀ w ∈ lw_tbl, w.before #[Value.ref b] s = true) ∧ va_X b L xs s s.heap ∧ b < s.heap.size ∧ meth.locks = false ∧ (Jvm.Cond.and given_1 narrow_1).before #[Value.ref b] s = true
theorem dL_18 : decode code 18 = .ok (.iload_n 3, 1) := by decide +kernel
theorem dL_19 : decode code 19 = .ok (.aload_n 0, 1) := by decide +kernel
theorem dL_20 : decode code 20 = .ok (.arraylength, 1) := by decide +kernel
theorem dL_21 : decode code 21 = .ok (.bipush 6, 2) := by decide +kernel
theorem dL_23 : decode code 23 = .ok (.isub, 1) := by decide +kernel
theorem dL_24 : decode code 24 = .ok (.if_icmp .gt 1264, 3) := by decide +kernel
theorem dL_27 : decode code 27 = .ok (.aload_n 0, 1) := by decide +kernel
theorem dL_28 : decode code 28 = .ok (.iload_n 3, 1) := by decide +kernel
theorem dL_29 : decode code 29 = .ok (.iaload, 1) := by decide +kernel
theorem dL_30 : decode code 30 = .ok (.bipush 63, 2) := by decide +kernel
theorem dL_32 : decode code 32 = .ok (.iand, 1) := by decide +kernel
theorem dL_33 : decode code 33 = .ok (.tableswitch 1249 0 34 #[155, 178, 191, 234, 267, 310, 323, 356, 399, 422, 501, 554, 597, 640, 683, 726, 759, 782, 805, 828, 862, 905, 928, 951, 974, 1018, 1042, 1055, 1088, 1101, 1144, 1167, 1200, 1213, 1226], 155) := by decide +kernel
theorem dL_1282 : decode code 1282 = .ok (.iinc 3 6, 3) := by decide +kernel
theorem dL_1285 : decode code 1285 = .ok (.goto (-1267), 3) := by decide +kernel
theorem dL_1288 : decode code 1288 = .ok (.iconst 1, 1) := by decide +kernel
theorem dL_1289 : decode code 1289 = .ok (.ireturn, 1) := by decide +kernel
set_option maxHeartbeats 4000000 in
set_option maxRecDepth 100000 in
/-- the switch -/
theorem law_switch {p : Program} {l : Launch} {e : Env} {s : State} {m : MethodId} {below : List Frame} {meth : Method} {c : Code} {b : Nat} {R : Room} {H : Heap} {locs : List Loc} {cells slots : Nat} {Q : State → Prop} {ls : Array Slot} (hx : p.tables.exec = Jvm.exec) (hb : c.code = code) (v : Int32)
    (k0 : W p l e R s m #[Value.ref b] below meth c H locs cells slots Q (F0 m 188 ls [])) (k1 : W p l e R s m #[Value.ref b] below meth c H locs cells slots Q (F0 m 211 ls [])) (k2 : W p l e R s m #[Value.ref b] below meth c H locs cells slots Q (F0 m 224 ls [])) (k3 : W p l e R s m #[Value.ref b] below meth c H locs cells slots Q (F0 m 267 ls [])) (k4 : W p l e R s m #[Value.ref b] below meth c H locs cells slots Q (F0 m 300 ls [])) (k5 : W p l e R s m #[Value.ref b] below meth c H locs cells slots Q (F0 m 343 ls [])) (k6 : W p l e R s m #[Value.ref b] below meth c H locs cells slots Q (F0 m 356 ls [])) (k7 : W p l e R s m #[Value.ref b] below meth c H locs cells slots Q (F0 m 389 ls [])) (k8 : W p l e R s m #[Value.ref b] below meth c H locs cells slots Q (F0 m 432 ls [])) (k9 : W p l e R s m #[Value.ref b] below meth c H locs cells slots Q (F0 m 455 ls [])) (k10 : W p l e R s m #[Value.ref b] below meth c H locs cells slots Q (F0 m 534 ls [])) (k11 : W p l e R s m #[Value.ref b] below meth c H locs cells slots Q (F0 m 587 ls [])) (k12 : W p l e R s m #[Value.ref b] below meth c H locs cells slots Q (F0 m 630 ls [])) (k13 : W p l e R s m #[Value.ref b] below meth c H locs cells slots Q (F0 m 673 ls [])) (k14 : W p l e R s m #[Value.ref b] below meth c H locs cells slots Q (F0 m 716 ls [])) (k15 : W p l e R s m #[Value.ref b] below meth c H locs cells slots Q (F0 m 759 ls [])) (k16 : W p l e R s m #[Value.ref b] below meth c H locs cells slots Q (F0 m 792 ls [])) (k17 : W p l e R s m #[Value.ref b] below meth c H locs cells slots Q (F0 m 815 ls [])) (k18 : W p l e R s m #[Value.ref b] below meth c H locs cells slots Q (F0 m 838 ls [])) (k19 : W p l e R s m #[Value.ref b] below meth c H locs cells slots Q (F0 m 861 ls [])) (k20 : W p l e R s m #[Value.ref b] below meth c H locs cells slots Q (F0 m 895 ls [])) (k21 : W p l e R s m #[Value.ref b] below meth c H locs cells slots Q (F0 m 938 ls [])) (k22 : W p l e R s m #[Value.ref b] below meth c H locs cells slots Q (F0 m 961 ls [])) (k23 : W p l e R s m #[Value.ref b] below meth c H locs cells slots Q (F0 m 984 ls [])) (k24 : W p l e R s m #[Value.ref b] below meth c H locs cells slots Q (F0 m 1007 ls [])) (k25 : W p l e R s m #[Value.ref b] below meth c H locs cells slots Q (F0 m 1051 ls [])) (k26 : W p l e R s m #[Value.ref b] below meth c H locs cells slots Q (F0 m 1075 ls [])) (k27 : W p l e R s m #[Value.ref b] below meth c H locs cells slots Q (F0 m 1088 ls [])) (k28 : W p l e R s m #[Value.ref b] below meth c H locs cells slots Q (F0 m 1121 ls [])) (k29 : W p l e R s m #[Value.ref b] below meth c H locs cells slots Q (F0 m 1134 ls [])) (k30 : W p l e R s m #[Value.ref b] below meth c H locs cells slots Q (F0 m 1177 ls [])) (k31 : W p l e R s m #[Value.ref b] below meth c H locs cells slots Q (F0 m 1200 ls [])) (k32 : W p l e R s m #[Value.ref b] below meth c H locs cells slots Q (F0 m 1233 ls [])) (k33 : W p l e R s m #[Value.ref b] below meth c H locs cells slots Q (F0 m 1246 ls [])) (k34 : W p l e R s m #[Value.ref b] below meth c H locs cells slots Q (F0 m 1259 ls []))
    (kd : W p l e R s m #[Value.ref b] below meth c H locs cells slots Q (F0 m 1282 ls [])) : W p l e R s m #[Value.ref b] below meth c H locs cells slots Q (F0 m 33 ls [.int v]) := by
  by_cases c0 : v = (0 : Int32)
  · exact lv_tableIn (tgt := 188) hx hb dL_33 (by rw [c0]; decide) (by rw [c0]; decide) (by rw [c0]; rfl) (by decide) k0
  by_cases c1 : v = (1 : Int32)
  · exact lv_tableIn (tgt := 211) hx hb dL_33 (by rw [c1]; decide) (by rw [c1]; decide) (by rw [c1]; rfl) (by decide) k1
  by_cases c2 : v = (2 : Int32)
  · exact lv_tableIn (tgt := 224) hx hb dL_33 (by rw [c2]; decide) (by rw [c2]; decide) (by rw [c2]; rfl) (by decide) k2
  by_cases c3 : v = (3 : Int32)
  · exact lv_tableIn (tgt := 267) hx hb dL_33 (by rw [c3]; decide) (by rw [c3]; decide) (by rw [c3]; rfl) (by decide) k3
  by_cases c4 : v = (4 : Int32)
  · exact lv_tableIn (tgt := 300) hx hb dL_33 (by rw [c4]; decide) (by rw [c4]; decide) (by rw [c4]; rfl) (by decide) k4
  by_cases c5 : v = (5 : Int32)
  · exact lv_tableIn (tgt := 343) hx hb dL_33 (by rw [c5]; decide) (by rw [c5]; decide) (by rw [c5]; rfl) (by decide) k5
  by_cases c6 : v = (6 : Int32)
  · exact lv_tableIn (tgt := 356) hx hb dL_33 (by rw [c6]; decide) (by rw [c6]; decide) (by rw [c6]; rfl) (by decide) k6
  by_cases c7 : v = (7 : Int32)
  · exact lv_tableIn (tgt := 389) hx hb dL_33 (by rw [c7]; decide) (by rw [c7]; decide) (by rw [c7]; rfl) (by decide) k7
  by_cases c8 : v = (8 : Int32)
  · exact lv_tableIn (tgt := 432) hx hb dL_33 (by rw [c8]; decide) (by rw [c8]; decide) (by rw [c8]; rfl) (by decide) k8
  by_cases c9 : v = (9 : Int32)
  · exact lv_tableIn (tgt := 455) hx hb dL_33 (by rw [c9]; decide) (by rw [c9]; decide) (by rw [c9]; rfl) (by decide) k9
  by_cases c10 : v = (10 : Int32)
  · exact lv_tableIn (tgt := 534) hx hb dL_33 (by rw [c10]; decide) (by rw [c10]; decide) (by rw [c10]; rfl) (by decide) k10
  by_cases c11 : v = (11 : Int32)
  · exact lv_tableIn (tgt := 587) hx hb dL_33 (by rw [c11]; decide) (by rw [c11]; decide) (by rw [c11]; rfl) (by decide) k11
  by_cases c12 : v = (12 : Int32)
  · exact lv_tableIn (tgt := 630) hx hb dL_33 (by rw [c12]; decide) (by rw [c12]; decide) (by rw [c12]; rfl) (by decide) k12
  by_cases c13 : v = (13 : Int32)
  · exact lv_tableIn (tgt := 673) hx hb dL_33 (by rw [c13]; decide) (by rw [c13]; decide) (by rw [c13]; rfl) (by decide) k13
  by_cases c14 : v = (14 : Int32)
  · exact lv_tableIn (tgt := 716) hx hb dL_33 (by rw [c14]; decide) (by rw [c14]; decide) (by rw [c14]; rfl) (by decide) k14
  by_cases c15 : v = (15 : Int32)
  · exact lv_tableIn (tgt := 759) hx hb dL_33 (by rw [c15]; decide) (by rw [c15]; decide) (by rw [c15]; rfl) (by decide) k15
  by_cases c16 : v = (16 : Int32)
  · exact lv_tableIn (tgt := 792) hx hb dL_33 (by rw [c16]; decide) (by rw [c16]; decide) (by rw [c16]; rfl) (by decide) k16
  by_cases c17 : v = (17 : Int32)
  · exact lv_tableIn (tgt := 815) hx hb dL_33 (by rw [c17]; decide) (by rw [c17]; decide) (by rw [c17]; rfl) (by decide) k17
  by_cases c18 : v = (18 : Int32)
  · exact lv_tableIn (tgt := 838) hx hb dL_33 (by rw [c18]; decide) (by rw [c18]; decide) (by rw [c18]; rfl) (by decide) k18
  by_cases c19 : v = (19 : Int32)
  · exact lv_tableIn (tgt := 861) hx hb dL_33 (by rw [c19]; decide) (by rw [c19]; decide) (by rw [c19]; rfl) (by decide) k19
  by_cases c20 : v = (20 : Int32)
  · exact lv_tableIn (tgt := 895) hx hb dL_33 (by rw [c20]; decide) (by rw [c20]; decide) (by rw [c20]; rfl) (by decide) k20
  by_cases c21 : v = (21 : Int32)
  · exact lv_tableIn (tgt := 938) hx hb dL_33 (by rw [c21]; decide) (by rw [c21]; decide) (by rw [c21]; rfl) (by decide) k21
  by_cases c22 : v = (22 : Int32)
  · exact lv_tableIn (tgt := 961) hx hb dL_33 (by rw [c22]; decide) (by rw [c22]; decide) (by rw [c22]; rfl) (by decide) k22
  by_cases c23 : v = (23 : Int32)
  · exact lv_tableIn (tgt := 984) hx hb dL_33 (by rw [c23]; decide) (by rw [c23]; decide) (by rw [c23]; rfl) (by decide) k23
  by_cases c24 : v = (24 : Int32)
  · exact lv_tableIn (tgt := 1007) hx hb dL_33 (by rw [c24]; decide) (by rw [c24]; decide) (by rw [c24]; rfl) (by decide) k24
  by_cases c25 : v = (25 : Int32)
  · exact lv_tableIn (tgt := 1051) hx hb dL_33 (by rw [c25]; decide) (by rw [c25]; decide) (by rw [c25]; rfl) (by decide) k25
  by_cases c26 : v = (26 : Int32)
  · exact lv_tableIn (tgt := 1075) hx hb dL_33 (by rw [c26]; decide) (by rw [c26]; decide) (by rw [c26]; rfl) (by decide) k26
  by_cases c27 : v = (27 : Int32)
  · exact lv_tableIn (tgt := 1088) hx hb dL_33 (by rw [c27]; decide) (by rw [c27]; decide) (by rw [c27]; rfl) (by decide) k27
  by_cases c28 : v = (28 : Int32)
  · exact lv_tableIn (tgt := 1121) hx hb dL_33 (by rw [c28]; decide) (by rw [c28]; decide) (by rw [c28]; rfl) (by decide) k28
  by_cases c29 : v = (29 : Int32)
  · exact lv_tableIn (tgt := 1134) hx hb dL_33 (by rw [c29]; decide) (by rw [c29]; decide) (by rw [c29]; rfl) (by decide) k29
  by_cases c30 : v = (30 : Int32)
  · exact lv_tableIn (tgt := 1177) hx hb dL_33 (by rw [c30]; decide) (by rw [c30]; decide) (by rw [c30]; rfl) (by decide) k30
  by_cases c31 : v = (31 : Int32)
  · exact lv_tableIn (tgt := 1200) hx hb dL_33 (by rw [c31]; decide) (by rw [c31]; decide) (by rw [c31]; rfl) (by decide) k31
  by_cases c32 : v = (32 : Int32)
  · exact lv_tableIn (tgt := 1233) hx hb dL_33 (by rw [c32]; decide) (by rw [c32]; decide) (by rw [c32]; rfl) (by decide) k32
  by_cases c33 : v = (33 : Int32)
  · exact lv_tableIn (tgt := 1246) hx hb dL_33 (by rw [c33]; decide) (by rw [c33]; decide) (by rw [c33]; rfl) (by decide) k33
  by_cases c34 : v = (34 : Int32)
  · exact lv_tableIn (tgt := 1259) hx hb dL_33 (by rw [c34]; decide) (by rw [c34]; decide) (by rw [c34]; rfl) (by decide) k34
  refine lv_tableOut (tgt := 1282) hx hb dL_33 (sw_out (fun k h1 h2 => ?_)) (by decide) kd
  rcases (show k = 0 ∨ k = 1 ∨ k = 2 ∨ k = 3 ∨ k = 4 ∨ k = 5 ∨ k = 6 ∨ k = 7 ∨ k = 8 ∨ k = 9 ∨ k = 10 ∨ k = 11 ∨ k = 12 ∨ k = 13 ∨ k = 14 ∨ k = 15 ∨ k = 16 ∨ k = 17 ∨ k = 18 ∨ k = 19 ∨ k = 20 ∨ k = 21 ∨ k = 22 ∨ k = 23 ∨ k = 24 ∨ k = 25 ∨ k = 26 ∨ k = 27 ∨ k = 28 ∨ k = 29 ∨ k = 30 ∨ k = 31 ∨ k = 32 ∨ k = 33 ∨ k = 34 by omega) with rfl | rfl | rfl | rfl | rfl | rfl | rfl | rfl | rfl | rfl | rfl | rfl | rfl | rfl | rfl | rfl | rfl | rfl | rfl | rfl | rfl | rfl | rfl | rfl | rfl | rfl | rfl | rfl | rfl | rfl | rfl | rfl | rfl | rfl | rfl
  · exact c0
  · exact c1
  · exact c2
  · exact c3
  · exact c4
  · exact c5
  · exact c6
  · exact c7
  · exact c8
  · exact c9
  · exact c10
  · exact c11
  · exact c12
  · exact c13
  · exact c14
  · exact c15
  · exact c16
  · exact c17
  · exact c18
  · exact c19
  · exact c20
  · exact c21
  · exact c22
  · exact c23
  · exact c24
  · exact c25
  · exact c26
  · exact c27
  · exact c28
  · exact c29
  · exact c30
  · exact c31
  · exact c32
  · exact c33
  · exact c34
theorem nIL_in {i L : Nat} (h : i < L) (hL : L ≤ 3072) : vp_in (nI i) L := vp_in_iff.mpr ⟨by rw [nI_toInt (by omega)]; omega, by rw [nI_toInt (by omega)]; omega⟩
theorem nI_plus {i j : Nat} (h : i + j < 1000000) : nI i + nI j = nI (i + j) := nI_a h
set_option maxHeartbeats 4000000 in
set_option maxRecDepth 100000 in
/-- THE LAW'S LOOP: at its head, behind k calls -/
theorem law_loop {p : Program} {l : Launch} {e : Env} {s : State} {m : MethodId} {below : List Frame} {meth : Method} {c : Code} {b L : Nat} {xs : Nat → Int32} {g : GG} {f : Nat → Nat} {aK aV : Nat → Nat} (hL : L ≤ 3072) (C0 : BC p s m #[Value.ref b] meth c code RL 4 ret) (E : LE g aK aV s) (hX : va_X b L xs s s.heap) (hbl : b < s.heap.size) :
    ∀ (n k : Nat) (x : X3) (σ : St) (H : Heap) (locs : List Loc) (ls : Array Slot), 6 * k ≤ L → L < 6 * (k + n) → LH g f s x σ H locs → RLL x.1 x.2.1 x.2.2 σ → lv_has ls 4 [(0, .ref b), (1, .ref (g.2.2 100)), (2, .ref (f 100)), (3, .int (nI (6 * k)))] → W p l e room_1 s m #[Value.ref b] below meth c H locs (41 + 2 * k) (9415 + 103 * k) (lw_Z below #[Value.ref b] s) (F0 m 18 ls []) := by
  intro n
  induction n with
  | zero => intro k x σ H locs ls h1 h2; exfalso; omega
  | succ n ih =>
    intro k x σ H locs ls h1 h2 h hR hl
    obtain ⟨hx, hb, hr, hml, hown, hts, hlocks⟩ := id C0
    have hS := h.2.2.2.1
    have hbA : ¬ (fun q => s.heap.size ≤ q) b := Nat.not_le.mpr hbl
    refine lv_iload_n hx hb dL_18 rfl (lv_at hl 3 rfl) ?_
    refine lv_aload_n hx hb dL_19 rfl (lv_at hl 0 rfl) ?_
    refine va_slen hx hb hX hbl hbA hS dL_20 ?_
    refine lv_bipush (v := 6) hx hb dL_21 (by decide) ?_
    refine lv_isub hx hb dL_23 ?_
    have tL : (Int32.ofNat L).toInt = L := nI_toInt (show L < 2 ^ 31 by omega)
    have tk : (nI (6 * k)).toInt = (6 * k : Nat) := nI_toInt (by omega)
    have t6 : (Int32.ofNat L - 6).toInt = (L : Int) - 6 := by
      rw [ti_sub (by rw [tL]; simp; omega) (by rw [tL]; simp; omega), tL]; rfl
    refine lv_icmp_gt (tgt := 1288) hx hb dL_24 (by decide) (fun c1 => ?_) (fun c1 => ?_)
    · refine lv_iconst (v := 1) hx hb dL_1288 (by decide) ?_
      refine va_forget (fun q hq => hS.2.2 q hq) ?_
      refine W.widen (k := 600000) (n := 7302250) (by omega) (by omega) ?_
      exact lw_ret hx hb hr hlocks dL_1289
    have h6 : 6 * k + 6 ≤ L := by
      rw [ti_lt, t6, tk] at c1
      omega
    refine lv_aload_n hx hb dL_27 rfl (lv_at hl 0 rfl) ?_
    refine lv_iload_n hx hb dL_28 rfl (lv_at hl 3 rfl) ?_
    refine va_sld hx hb hX hbl hbA hS (nIL_in (i := 6 * k) (by omega) hL) dL_29 ?_
    refine lv_bipush (v := 63) hx hb dL_30 (by decide) ?_
    refine lv_iand hx hb dL_32 ?_
    have hi : vp_in (nI (6 * k) + 1) L ∧ vp_in (nI (6 * k) + 2) L ∧ vp_in (nI (6 * k) + 3) L ∧ vp_in (nI (6 * k) + 4) L ∧ vp_in (nI (6 * k) + 5) L := by
      refine ⟨?_, ?_, ?_, ?_, ?_⟩
      · rw [show (1 : Int32) = nI 1 from rfl, nI_plus (by omega)]; exact nIL_in (by omega) hL
      · rw [show (2 : Int32) = nI 2 from rfl, nI_plus (by omega)]; exact nIL_in (by omega) hL
      · rw [show (3 : Int32) = nI 3 from rfl, nI_plus (by omega)]; exact nIL_in (by omega) hL
      · rw [show (4 : Int32) = nI 4 from rfl, nI_plus (by omega)]; exact nIL_in (by omega) hL
      · rw [show (5 : Int32) = nI 5 from rfl, nI_plus (by omega)]; exact nIL_in (by omega) hL
    have hc : 41 + 2 * k + 2 ≤ 600000 := by omega
    have hs : 9415 + 103 * k + 103 ≤ 7302250 := by omega
    have kk : ∀ (x' : X3) (σ' : St) (H' : Heap) (locs' : List Loc), LH g f s x' σ' H' locs' → RLL x'.1 x'.2.1 x'.2.2 σ' → W p l e room_1 s m #[Value.ref b] below meth c H' locs' (41 + 2 * k + 2) (9415 + 103 * k + 103) (lw_Z below #[Value.ref b] s) (F0 m 1282 ls []) := fun x' σ' H' locs' h' hR' => by
      refine lv_iinc (v := nI (6 * (k + 1))) (lv' := [(3, .int (nI (6 * (k + 1)))), (0, .ref b), (1, .ref (g.2.2 100)), (2, .ref (f 100))]) hx hb dL_1282 hl (k := 3) rfl (by rw [show Int32.ofInt 6 = nI 6 from rfl, nI_plus (by omega)]; rfl) (by decide) rfl (fun ls hl => ?_)
      refine lv_goto (tgt := 18) hx hb dL_1285 (by decide) ?_
      refine W.widen (k := 41 + 2 * (k + 1)) (n := 9415 + 103 * (k + 1)) (by omega) (by omega) ?_
      exact ih (k + 1) x' σ' H' locs' ls (by omega) (by omega) h' hR' (lv_sub hl [1, 2, 3, 0] rfl)
    exact law_switch hx hb _
      (lc_feed C0 E hX hbl hi hc hs hl h hR kk)
      (lc_room C0 E hX hbl hi hc hs hl h hR kk)
      (lc_stick C0 E hX hbl hi hc hs hl h hR kk)
      (lc_of C0 E hX hbl hi hc hs hl h hR kk)
      (lc_row C0 E hX hbl hi hc hs hl h hR kk)
      (lc_wall C0 E hX hbl hi hc hs hl h hR kk)
      (lc_at C0 E hX hbl hi hc hs hl h hR kk)
      (lc_known C0 E hX hbl hi hc hs hl h hR kk)
      (lc_told C0 E hX hbl hi hc hs hl h hR kk)
      (lc_measure C0 E hX hbl hi hc hs hl h hR kk)
      (lc_between C0 E hX hbl hi hc hs hl h hR kk)
      (lc_surest C0 E hX hbl hi hc hs hl h hR kk)
      (lc_twice C0 E hX hbl hi hc hs hl h hR kk)
      (lc_again C0 E hX hbl hi hc hs hl h hR kk)
      (lc_square C0 E hX hbl hi hc hs hl h hR kk)
      (lc_step C0 E hX hbl hi hc hs hl h hR kk)
      (lc_off C0 E hX hbl hi hc hs hl h hR kk)
      (lc_closed C0 E hX hbl hi hc hs hl h hR kk)
      (lc_cut C0 E hX hbl hi hc hs hl h hR kk)
      (lc_cost C0 E hX hbl hi hc hs hl h hR kk)
      (lc_cups C0 E hX hbl hi hc hs hl h hR kk)
      (lc_mark C0 E hX hbl hi hc hs hl h hR kk)
      (lc_whose C0 E hX hbl hi hc hs hl h hR kk)
      (lc_wrong C0 E hX hbl hi hc hs hl h hR kk)
      (lc_odds C0 E hX hbl hi hc hs hl h hR kk)
      (lc_mean C0 E hX hbl hi hc hs hl h hR kk)
      (lc_spread C0 E hX hbl hi hc hs hl h hR kk)
      (lc_book C0 E hX hbl hi hc hs hl h hR kk)
      (lc_looked C0 E hX hbl hi hc hs hl h hR kk)
      (lc_act C0 E hX hbl hi hc hs hl h hR kk)
      (lc_trace C0 E hX hbl hi hc hs hl h hR kk)
      (lc_as C0 E hX hbl hi hc hs hl h hR kk)
      (lc_image C0 E hX hbl hi hc hs hl h hR kk)
      (lc_undo C0 E hX hbl hi hc hs hl h hR kk)
      (lc_count C0 E hX hbl hi hc hs hl h hR kk)
      (W.widen (k := 41 + 2 * k + 2) (n := 9415 + 103 * k + 103) (by omega) (by omega) (kk x σ H locs h hR))
