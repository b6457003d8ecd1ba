
section SU2
variable {p : Program} {l : Launch} {e : Env} {R : Room} {s : State} {m : MethodId} {args : Array Value} {below : List Frame} {meth : Method} {c : Code} {H : Heap} {locs : List Loc} {cells slots : Nat} {Q : State → Prop}
/-- super.m(..) where the superclass inherits m: named x, run y -/
theorem callSU2 {T : State} {locs : List Loc} {cells slots : Nat} (X : Stand p l e R s m args below meth c T locs cells slots) (hexec : p.tables.exec = Jvm.exec) {own : String} {index : Nat} {x y : MethodName} {bytes : ByteArray} {maxL : Nat} {ret : Option FieldType}
    (hown : s.vm.findClass own = some m.cls) (hlink : (Cond.methodLink own index x).before args s = true) (hsame : (Cond.sameMethod x.cls y.cls x.name x.desc).before args s = true) (hsup : (Cond.superclass own x.cls).before args s = true) (hup : x.cls = y.cls ∨ (Cond.superclass x.cls y.cls).before args s = true) (hyn : y = ⟨y.cls, x.name, x.desc⟩)
    (hinst : (Cond.instanceMethod y).before args s = true) (hcode : (Cond.code y bytes maxL ret).before args s = true) (hno : x.name ≠ "<init>")
    {W : Nat} {Pre : Pt → Array Value → Prop} {Post : Pt → Array Value → Option Value → Pt → Prop} (hK : Back l R p e below s args y 3 W Pre Post)
    {b : Addr} {cellB : Cell} {kB : Class} (hcell : T.heap[b]? = some cellB) (hobj : cellB.vm.isStatics = false) (hkB : s.vm.classes[cellB.cls]? = some kB)
    {g : JFrame} (hg : g.method = m) (hsize : g.locals.size = c.maxLocals) {argsL rest : List Value} (hlen : ∀ sig, parseMethodDescriptor y.desc = some sig → argsL.length = sig.parameters.length)
    (hstack : g.stack = argsL.reverse ++ .ref b :: rest) (hW : 2 * g.monitorRoom + (rest.map fun v => v.category).sum ≤ W) (hdg : decode c.code g.pc = .ok (.invokespecial index, 3))
    (hpre : ∀ vm₁, s.WarmedH vm₁ → Pre ⟨T.setVm vm₁, locs, cells, slots⟩ (Value.ref b :: argsL).toArray) :
    ∃ (v : Option Value) (vm₁ : Vm) (B : Pt), s.WarmedH vm₁ ∧ Stand p l e R s m args below meth c B.U B.locs B.cells B.slots ∧ Post ⟨T.setVm vm₁, locs, cells, slots⟩ (Value.ref b :: argsL).toArray v B ∧
      ∀ target, Steps p.tables e below (B.U.setTop { g with pc := g.pc + 3, stack := v.toList ++ rest }) target → Steps p.tables e below (T.setTop g) target := by
  obtain ⟨mk, methM, hnamed, hmethM, hstM, habM⟩ := Cond.instanceMethod_spec hinst
  obtain ⟨methM', cM, hmethM', -, -, -, -, -, -, hsigM⟩ := Cond.code_spec hnamed hcode
  cases hmethM.symm.trans hmethM'
  obtain ⟨ps, dk, kp, hps, hdk, hkp, hsuper, -, -, hnid⟩ := Cond.superclass_spec hown hsup
  have hn : s.methodNamed? ⟨y.cls, x.name, x.desc⟩ = some mk := by rw [← hyn]; exact hnamed
  have hsub : s.vm.isSubclass ps mk.cls = true := by
    rcases hup with h | h
    · have hpm : ps = mk.cls := Option.some.inj (hps.symm.trans (by rw [h]; exact findClass_of_methodNamed hnamed))
      rw [hpm]
      simp [Vm.isSubclass, Vm.isSubclassAux]
    · obtain ⟨p2, k2, kp2, h1, h2, h3, h4, -, -, -⟩ := Cond.superclass_spec hps h
      have hpm : p2 = mk.cls := Option.some.inj (h1.symm.trans (findClass_of_methodNamed hnamed))
      have hlt : ps < s.vm.classes.size := (Array.getElem?_eq_some_iff.mp h2).1
      unfold Vm.isSubclass
      obtain ⟨z, hz⟩ : ∃ z, s.vm.classes.size = z + 1 := ⟨_, (Nat.succ_pred_eq_of_pos (Nat.lt_of_le_of_lt (Nat.zero_le _) hlt)).symm⟩
      rw [hz]
      unfold Vm.isSubclassAux
      rw [h2]
      simp only [h4]
      unfold Vm.isSubclassAux
      simp [hpm]
  obtain ⟨vm₁, X₁, hstep₁⟩ := X.invokespecialUp hexec hown hlink hsame hn hmethM hstM habM hno hdk hnid hps hsuper hsub (a := b) (cell := cellB) hcell
    (fun z h => by rw [h] at hobj; cases hobj) hkB (g := g) hg (argsL := argsL) (rest := rest) (hlen _ hsigM) hstack hdg
  obtain ⟨v, B, X', hpost, hsteps⟩ := hK m meth c ⟨T.setVm vm₁, locs, cells, slots⟩ { g with stack := rest } (.invokespecial index) mk (Value.ref b :: argsL).toArray X₁ hg hsize hdg hW (X₁.named hnamed) (hpre vm₁ X₁.warmed)
  exact ⟨v, vm₁, B, X₁.warmed, X', hpost, fun target h => hstep₁ _ (by rw [doInvoke_state]; exact hsteps.trans h)⟩
variable {cc : ByteArray} {own C : String} {nL pc idx N : Nat} {ret0 : Option FieldType} {ls : Array Slot} {rest st0 : List Value} {g : GG} {ρ : RR} {dt : Nat → Nat → Int32} {σ : St} {T : u_T} {A : Nat → Prop} {H0 : Heap} {a : Nat}
variable {x y : MethodName} {cy : ByteArray} {maxL n : Nat} {ret : Option FieldType} {fr lo : Nat} {As : List Value} {fs : List Value}
theorem x_mvn {F : St} {host : String} (ci q0 : Nat) (he : (xW g ρ σ)[q0]? = some (a, .inr (ci, fs))) (hc : vwCl[ci]? = some (y.cls, T, N)) (C0 : BC p s m args meth c cc own nL ret0) (hK : KK g s) (hC : WC g (xW g ρ) A H0 σ H locs) (hB : XH g ρ dt H) (hF : CF y cy maxL ret n) (hl : Cond.methodLinkNest own idx y host ∈ NB) (hM : MV l y (wsF y cy maxL ret) { frames := fr, cells := 0, slots := 0, locals := lo } (.ref a :: As) g (xW g ρ) (XB g ρ dt) σ F) (hR : fr + 1 ≤ R.frames ∧ 8 + (maxL + 11) + lo ≤ R.locals) (hsz : ls.size = nL) (hst : st0 = As.reverse ++ .ref a :: rest) (hn : As.length = n) (hW : (rest.map fun v => v.category).sum ≤ 8) (hdg : decode cc pc = .ok (.invokevirtual idx, 3)) (hf : cells ≤ R.cells ∧ slots ≤ R.slots) (kk : ∀ (u : St) (H1 : Heap) (locs1 : List Loc), u = F → WC g (xW g ρ) A H0 u H1 locs1 → W p l e R s m args below meth c H1 locs1 cells slots Q (F0 m (pc + 3) ls rest)) : W p l e R s m args below meth c H locs cells slots Q (F0 m pc ls st0) :=
  aft_mv hC (fun u => xW_adr g ρ ρ σ u) (run_VN C0 hF hK.2 hl hR hM (x_pre ci q0 he hc hK hC.1 (hC.2.1.weaken (fun _ _ _ _ => trivial)) hB) hn hsz hst hW hdg hf) kk
end SU2
set_option maxRecDepth 20000 in
theorem w_222 : (Cond.fieldLink RX9 15 RX9 "ran" "I") ∈ TB := inTB (List.mem_of_getElem? (i := 222) (by decide +kernel)) (by decide +kernel)
set_option maxRecDepth 20000 in
theorem w_220 : (Cond.fieldLink RX9 9 RX9 "numbers" "[I") ∈ TB := inTB (List.mem_of_getElem? (i := 220) (by decide +kernel)) (by decide +kernel)
/-! ThreeMeasures$Trace.begin -/
theorem dX9_begin_0 : decode cX9_begin 0 = .ok (.aload_n 0, 1) := by decide +kernel
theorem dX9_begin_1 : decode cX9_begin 1 = .ok (.getfield 15, 3) := by decide +kernel
theorem dX9_begin_4 : decode cX9_begin 4 = .ok (.aload_n 0, 1) := by decide +kernel
theorem dX9_begin_5 : decode cX9_begin 5 = .ok (.getfield 9, 3) := by decide +kernel
theorem dX9_begin_8 : decode cX9_begin 8 = .ok (.arraylength, 1) := by decide +kernel
theorem dX9_begin_9 : decode cX9_begin 9 = .ok (.if_icmp .ge 13, 3) := by decide +kernel
theorem dX9_begin_12 : decode cX9_begin 12 = .ok (.aload_n 0, 1) := by decide +kernel
theorem dX9_begin_13 : decode cX9_begin 13 = .ok (.getfield 9, 3) := by decide +kernel
theorem dX9_begin_16 : decode cX9_begin 16 = .ok (.aload_n 0, 1) := by decide +kernel
theorem dX9_begin_17 : decode cX9_begin 17 = .ok (.getfield 15, 3) := by decide +kernel
theorem dX9_begin_20 : decode cX9_begin 20 = .ok (.iload_n 1, 1) := by decide +kernel
theorem dX9_begin_21 : decode cX9_begin 21 = .ok (.iastore, 1) := by decide +kernel
theorem dX9_begin_22 : decode cX9_begin 22 = .ok (.aload_n 0, 1) := by decide +kernel
theorem dX9_begin_23 : decode cX9_begin 23 = .ok (.dup, 1) := by decide +kernel
theorem dX9_begin_24 : decode cX9_begin 24 = .ok (.getfield 15, 3) := by decide +kernel
theorem dX9_begin_27 : decode cX9_begin 27 = .ok (.iconst 1, 1) := by decide +kernel
theorem dX9_begin_28 : decode cX9_begin 28 = .ok (.iadd, 1) := by decide +kernel
theorem dX9_begin_29 : decode cX9_begin 29 = .ok (.putfield 15, 3) := by decide +kernel
theorem dX9_begin_32 : decode cX9_begin 32 = .ok (.return_, 1) := by decide +kernel
def f_X9_begin (σ : St) (a1 : Int32) : St := (if (20 : Int32) ≤ (σ 81 0) then (up2 σ 81 0 ((σ 81 0) + (1 : Int32))) else (up2 (up2 σ 80 (ix (σ 81 0)) a1) 81 0 ((σ 81 0) + (1 : Int32))))
set_option maxHeartbeats 600000 in
set_option maxRecDepth 100000 in
theorem k_X9_begin (l : Launch) (g : GG) (ρ : RR) (dt : Nat → Nat → Int32) (σ : St) (a1 : Int32) (hrn : 0 ≤ (σ 81 0).toInt ∧ (σ 81 0).toInt ≤ 100) : MV l yX9_begin (wsF yX9_begin cX9_begin 2 none) { frames := 0, cells := 0, slots := 0, locals := 0 } [.ref (g.2.2 104), .int (a1)] g (xW g ρ) (XB g ρ dt) σ (f_X9_begin σ a1) := by
  refine start_MV (by decide) (Nat.le_of_ble_eq_true rfl) ?_
  intro p e s m args below meth c C0 hK hB hC ls hl
  generalize hAe : aA ((xW g ρ) σ) = A at hC ⊢
  have hA : ∀ q, A q → q ∈ adrs (xW g (fun _ _ => none) (fun _ _ => 0)) := fun q h => by rw [← hAe] at h; exact h
  obtain ⟨hx, hb, hr, hml, hown, hts, hlocks⟩ := id C0
  have hl : lv_has ls 2 [(0, .ref (g.2.2 104)), (1, .int (a1))] := hl
  generalize hT : (f_X9_begin σ a1) = tgt
  suffices key : ∀ (H : Heap) (locs : List Loc), WC g (xW g ρ) A s.heap σ H locs → W p l e { frames := 0, cells := 0, slots := 0, locals := 0 } s m args below meth c H locs 0 0 (QMV below args s g (xW g ρ) A tgt) (F0 m 0 ls []) from key _ _ hC
  intro H locs hC
  unfold f_X9_begin at hT
  obtain ⟨hr1, hr2⟩ := hrn
  refine lv_aload_n hx hb dX9_begin_0 rfl (lv_at hl 0 rfl) ?_
  refine x_get (σ := σ) (v := .int ((σ 81 0))) (fs := xF4 g ρ σ) 9 4 C0 uw_9 dc_9 hK hC.1 rfl rfl 1 (by decide) rfl w_222 dX9_begin_1 ?_
  refine lv_aload_n hx hb dX9_begin_4 rfl (lv_at hl 0 rfl) ?_
  refine x_get (σ := σ) (v := .ref (g.2.2 80)) (fs := xF4 g ρ σ) 9 4 C0 uw_9 dc_9 hK hC.1 rfl rfl 0 (by decide) rfl w_220 dX9_begin_5 ?_
  refine x_alen (σ := σ) C0 hK hC.1 27 80 20 rfl (v := (20 : Int32)) (by decide) dX9_begin_8 ?_
  refine lv_icmp_ge (tgt := 22) hx hb dX9_begin_9 (by decide) (fun c_9 => ?_) (fun c_9 => ?_)
  · have hT := hT_pos c_9 hT
    refine lv_aload_n hx hb dX9_begin_22 rfl (lv_at hl 0 rfl) ?_
    refine lv_dup hx hb dX9_begin_23 rfl ?_
    refine x_get (σ := σ) (v := .int ((σ 81 0))) (fs := xF4 g ρ σ) 9 4 C0 uw_9 dc_9 hK hC.1 rfl rfl 1 (by decide) rfl w_222 dX9_begin_24 ?_
    refine lv_iconst (v := (1 : Int32)) hx hb dX9_begin_27 (by decide) ?_
    refine lv_iadd hx hb dX9_begin_28 ?_
    refine x_put (σ := σ) (ty := .int) (fs := xF4 g ρ σ) 9 4 C0 uw_9 dc_9 tyX9 tyX9_ok nmX9 hK hC rfl rfl 1 (by decide) rfl rfl rfl rfl (Nat.le_of_ble_eq_true rfl) (xs_81 g ρ _ _) w_222 dX9_begin_29 (fun H locs hC => ?_)
    exact ret_MV C0 hC hT dX9_begin_32
  · have hT := hT_neg c_9 hT
    refine lv_aload_n hx hb dX9_begin_12 rfl (lv_at hl 0 rfl) ?_
    refine x_get (σ := σ) (v := .ref (g.2.2 80)) (fs := xF4 g ρ σ) 9 4 C0 uw_9 dc_9 hK hC.1 rfl rfl 0 (by decide) rfl w_220 dX9_begin_13 ?_
    refine lv_aload_n hx hb dX9_begin_16 rfl (lv_at hl 0 rfl) ?_
    refine x_get (σ := σ) (v := .int ((σ 81 0))) (fs := xF4 g ρ σ) 9 4 C0 uw_9 dc_9 hK hC.1 rfl rfl 1 (by decide) rfl w_222 dX9_begin_17 ?_
    refine lv_iload_n hx hb dX9_begin_20 rfl (lv_at hl 1 rfl) ?_
    have o_21 : vp_in (σ 81 0) 20 := by
      have : ((20 : Int32)).toInt = 20 := by decide
      have := mt ti_le.mpr c_9
      exact vin (by omega) (by omega)
    refine x_ast (σ := σ) C0 hK hC 27 80 20 rfl (xs_80 g ρ _) o_21 (ix (σ 81 0)) rfl dX9_begin_21 (fun H locs hC => ?_)
    refine lv_aload_n hx hb dX9_begin_22 rfl (lv_at hl 0 rfl) ?_
    refine lv_dup hx hb dX9_begin_23 rfl ?_
    refine x_get (σ := (up2 σ 80 (ix (σ 81 0)) a1)) (v := .int ((σ 81 0))) (fs := xF4 g ρ (up2 σ 80 (ix (σ 81 0)) a1)) 9 4 C0 uw_9 dc_9 hK hC.1 rfl rfl 1 (by decide) rfl w_222 dX9_begin_24 ?_
    refine lv_iconst (v := (1 : Int32)) hx hb dX9_begin_27 (by decide) ?_
    refine lv_iadd hx hb dX9_begin_28 ?_
    refine x_put (σ := (up2 σ 80 (ix (σ 81 0)) a1)) (ty := .int) (fs := xF4 g ρ (up2 σ 80 (ix (σ 81 0)) a1)) 9 4 C0 uw_9 dc_9 tyX9 tyX9_ok nmX9 hK hC rfl rfl 1 (by decide) rfl rfl rfl rfl (Nat.le_of_ble_eq_true rfl) (xs_81 g ρ _ _) w_222 dX9_begin_29 (fun H locs hC => ?_)
    exact ret_MV C0 hC hT dX9_begin_32
theorem rx_begin {σ : St} {x : Int32} {n : Int} (hn : n ≤ 2000) (h : 0 ≤ (σ 81 0).toInt ∧ (σ 81 0).toInt ≤ n) : 0 ≤ ((f_X9_begin σ x) 81 0).toInt ∧ ((f_X9_begin σ x) 81 0).toInt ≤ n + 1 := by
  have e1 : (1 : Int32).toInt = 1 := rfl
  have q := ti_add (a := σ 81 0) (b := 1) (by omega) (by omega)
  have key : (f_X9_begin σ x) 81 0 = σ 81 0 + 1 := by
    unfold f_X9_begin
    split <;> rfl
  rw [key]
  omega
set_option maxRecDepth 20000 in
theorem w_886 : (Cond.methodLinkNest RX6 22 yX9_begin RX11) ∈ NB := inNB (List.mem_of_getElem? (i := 886) (by decide +kernel)) (by decide +kernel)
set_option maxRecDepth 20000 in
theorem w_873 : (Cond.code yX9_begin cX9_begin 2 none) ∈ TB := inTB (List.mem_of_getElem? (i := 873) (by decide +kernel)) (by decide +kernel)
set_option maxRecDepth 20000 in
theorem w_872 : (Cond.instanceMethod yX9_begin) ∈ TB := inTB (List.mem_of_getElem? (i := 872) (by decide +kernel)) (by decide +kernel)
set_option maxRecDepth 20000 in
theorem w_35 : (Cond.selects RX9 yX9_begin yX9_begin) ∈ TB := inTB (List.mem_of_getElem? (i := 35) (by decide +kernel)) (by decide +kernel)
set_option maxRecDepth 20000 in
theorem w_74 : (Cond.initialized RX9) ∈ TB := inTB (List.mem_of_getElem? (i := 74) (by decide +kernel)) (by decide +kernel)
theorem cf_X9_begin : CF yX9_begin cX9_begin 2 none 1 := ⟨w_872, w_35, w_74, w_873, by decide +kernel, by decide +kernel, by decide +kernel⟩
set_option maxRecDepth 20000 in
theorem w_476 : (Cond.fieldLink RX6 7 RX6 "number" "I") ∈ TB := inTB (List.mem_of_getElem? (i := 476) (by decide +kernel)) (by decide +kernel)
/-! ThreeMeasures$Stick.sets -/
theorem dX6_sets_0 : decode cX6_sets 0 = .ok (.aload_n 2, 1) := by decide +kernel
theorem dX6_sets_1 : decode cX6_sets 1 = .ok (.iconst 1, 1) := by decide +kernel
theorem dX6_sets_2 : decode cX6_sets 2 = .ok (.invokevirtual 22, 3) := by decide +kernel
theorem dX6_sets_5 : decode cX6_sets 5 = .ok (.iload_n 1, 1) := by decide +kernel
theorem dX6_sets_6 : decode cX6_sets 6 = .ok (.aload_n 0, 1) := by decide +kernel
theorem dX6_sets_7 : decode cX6_sets 7 = .ok (.getfield 7, 3) := by decide +kernel
theorem dX6_sets_10 : decode cX6_sets 10 = .ok (.iadd, 1) := by decide +kernel
theorem dX6_sets_11 : decode cX6_sets 11 = .ok (.ireturn, 1) := by decide +kernel
def f_X6_sets (dt : Nat → Nat → Int32) (a : Nat) (σ : St) (a1 : Int32) : Int32 × St := (bd1 (f_X9_begin σ (1 : Int32)) (fun u2 => ((a1 + (dt a 0)), u2)))
set_option maxHeartbeats 600000 in
set_option maxRecDepth 100000 in
theorem k_X6_sets (l : Launch) (g : GG) (ρ : RR) (dt : Nat → Nat → Int32) (a : Nat) (σ : St) (a1 : Int32) (hs : ∃ i, ρ 24 i = some a) (hrn : 0 ≤ (σ 81 0).toInt ∧ (σ 81 0).toInt ≤ 90) : MI l yX6_sets (wsF yX6_sets cX6_sets 3 (some .int)) { frames := 1, cells := 0, slots := 0, locals := 21 } [.ref (a), .int (a1), .ref (g.2.2 104)] g (xW g ρ) (XB g ρ dt) σ (f_X6_sets dt a σ a1) := by
  refine start_MI (by decide) (Nat.le_of_ble_eq_true rfl) ?_
  intro p e s m args below meth c C0 hK hB hC ls hl
  generalize hAe : aA ((xW g ρ) σ) = A at hC ⊢
  have hA : ∀ q, A q → q ∈ adrs (xW g (fun _ _ => none) (fun _ _ => 0)) := fun q h => by rw [← hAe] at h; exact h
  obtain ⟨hx, hb, hr, hml, hown, hts, hlocks⟩ := id C0
  have hl : lv_has ls 3 [(0, .ref (a)), (1, .int (a1)), (2, .ref (g.2.2 104))] := hl
  generalize hT : (f_X6_sets dt a σ a1) = tgt
  suffices key : ∀ (H : Heap) (locs : List Loc), WC g (xW g ρ) A s.heap σ H locs → W p l e { frames := 1, cells := 0, slots := 0, locals := 21 } s m args below meth c H locs 0 0 (QMI below args s g (xW g ρ) A tgt) (F0 m 0 ls []) from key _ _ hC
  intro H locs hC
  unfold f_X6_sets at hT
  refine lv_aload_n hx hb dX6_sets_0 rfl (lv_at hl 2 rfl) ?_
  refine lv_iconst (v := (1 : Int32)) hx hb dX6_sets_1 (by decide) ?_
  have q2_hrn : 0 ≤ (σ 81 0).toInt ∧ (σ 81 0).toInt ≤ 100 := ⟨hrn.1, by omega⟩
  refine x_mvn (rest := []) (As := [.int ((1 : Int32))]) (σ := σ) (ρ := ρ) (dt := dt) (T := TX9) (N := 2) (fs := xF4 g ρ σ) 9 4 rfl rfl C0 hK hC (XH.wa hB hA hC) cf_X9_begin w_886 (k_X9_begin l g ρ dt σ (1 : Int32) q2_hrn) ⟨by decide, by decide⟩ hl.1 rfl rfl (Nat.le_of_ble_eq_true rfl) dX6_sets_2 ⟨Nat.zero_le _, Nat.zero_le _⟩ (fun u2 H locs e2 hC => ?_)
  have hT := bd1_e e2 hT
  refine lv_iload_n hx hb dX6_sets_5 rfl (lv_at hl 1 rfl) ?_
  refine lv_aload_n hx hb dX6_sets_6 rfl (lv_at hl 0 rfl) ?_
  refine sk_get (d := dt a) 0 C0 hK (XH.sk (XH.wa hB hA hC) (Or.inl hs.choose_spec)) (by decide) w_476 (fun _ h => h) dX6_sets_7 ?_
  refine lv_iadd hx hb dX6_sets_10 ?_
  exact ret_MI C0 hC hT dX6_sets_11
