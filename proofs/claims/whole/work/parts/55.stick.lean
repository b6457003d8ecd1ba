set_option maxRecDepth 20000 in
theorem w_1355 : (Cond.castable RX10 "ThreeMeasures$Stick") ∈ NB := inNB (List.mem_of_getElem? (i := 1355) (by decide +kernel)) (by decide +kernel)
set_option maxRecDepth 20000 in
theorem w_1356 : (Cond.castable RX7 "ThreeMeasures$Stick") ∈ NB := inNB (List.mem_of_getElem? (i := 1356) (by decide +kernel)) (by decide +kernel)
set_option maxRecDepth 20000 in
theorem w_1357 : (Cond.castable RX0 "ThreeMeasures$Stick") ∈ NB := inNB (List.mem_of_getElem? (i := 1357) (by decide +kernel)) (by decide +kernel)
set_option maxRecDepth 20000 in
theorem w_1358 : (Cond.castable RX4 "ThreeMeasures$Stick") ∈ NB := inNB (List.mem_of_getElem? (i := 1358) (by decide +kernel)) (by decide +kernel)
set_option maxRecDepth 20000 in
theorem w_1359 : (Cond.castable RX3 "ThreeMeasures$Stick") ∈ NB := inNB (List.mem_of_getElem? (i := 1359) (by decide +kernel)) (by decide +kernel)
set_option maxRecDepth 20000 in
theorem w_1360 : (Cond.castable RX8 "ThreeMeasures$Stick") ∈ NB := inNB (List.mem_of_getElem? (i := 1360) (by decide +kernel)) (by decide +kernel)

theorem cast_asg {s : State} {C : String} (hK : NW s) (hw : Cond.castable C "ThreeMeasures$Stick" ∈ NB) : ∀ comp c0 : ClassId, s.vm.findClass "ThreeMeasures$Stick" = some comp → s.vm.findClass C = some c0 → s.vm.assignable c0 comp = true := fun comp c0 h1 h2 => by
  obtain ⟨c1, t1, f1, f2, f3⟩ := Cond.castable_spec (va_Nw.use (A := #[]) rfl (hK _ hw))
  cases h2.symm.trans f1
  cases h1.symm.trans f2
  exact f3
/-- the cells of a stick that is new -/
theorem SKF.tl {g : GG} {h0 : Nat} {H : Heap} {a : Nat} {d : Nat → Int32} (h : SKF g h0 H a d) : ∃ TL : va_W, va_P g.1 vwCl TL H ∧ va_D (fun z => h0 ≤ z) TL ∧ ∀ H' : Heap, va_P g.1 vwCl TL H' → SKF g h0 H' a d := by
  obtain ⟨h1, h⟩ := h
  rcases h with ⟨e, h⟩ | ⟨e, h⟩ | ⟨e, h⟩ | ⟨e, h⟩ | ⟨e, h⟩ | ⟨e, h⟩ | ⟨e, b, hb, hba, h, h'⟩
  · exact ⟨_, va_P1 h, va_D1 h1, fun H' hP => ⟨h1, Or.inl ⟨e, hP 0 _ rfl⟩⟩⟩
  · exact ⟨_, va_P1 h, va_D1 h1, fun H' hP => ⟨h1, Or.inr (Or.inl ⟨e, hP 0 _ rfl⟩)⟩⟩
  · exact ⟨_, va_P1 h, va_D1 h1, fun H' hP => ⟨h1, Or.inr (Or.inr (Or.inl ⟨e, hP 0 _ rfl⟩))⟩⟩
  · exact ⟨_, va_P1 h, va_D1 h1, fun H' hP => ⟨h1, Or.inr (Or.inr (Or.inr (Or.inl ⟨e, hP 0 _ rfl⟩)))⟩⟩
  · exact ⟨_, va_P1 h, va_D1 h1, fun H' hP => ⟨h1, Or.inr (Or.inr (Or.inr (Or.inr (Or.inl ⟨e, hP 0 _ rfl⟩))))⟩⟩
  · exact ⟨_, va_P1 h, va_D1 h1, fun H' hP => ⟨h1, Or.inr (Or.inr (Or.inr (Or.inr (Or.inr (Or.inl ⟨e, hP 0 _ rfl⟩)))))⟩⟩
  · exact ⟨_, (va_P1 h).app (va_P1 h'), va_D2 h1 hb (fun z => hba z.symm), fun H' hP => ⟨h1, Or.inr (Or.inr (Or.inr (Or.inr (Or.inr (Or.inr ⟨e, b, hb, hba, hP 0 _ rfl, hP 1 _ rfl⟩)))))⟩⟩
theorem SKF.any {g : GG} {h0 : Nat} {s : State} {H : Heap} {a : Nat} {d : Nat → Int32} (hK : KK g s) (h : SKF g h0 H a d) : va_Any "ThreeMeasures$Stick" s H a := by
  rcases h.2 with ⟨e, h⟩ | ⟨e, h⟩ | ⟨e, h⟩ | ⟨e, h⟩ | ⟨e, h⟩ | ⟨e, h⟩ | ⟨e, b, hb, hba, h, h'⟩
  · exact va_rAny (r := (RX6, TX6, 4)) hK.1 (va_P1 h) (q0 := 0) rfl rfl (fun comp c0 h1 h2 => by cases h1.symm.trans h2; exact va_asg _ _)
  · exact va_rAny (r := (RX10, TX10, 4)) hK.1 (va_P1 h) (q0 := 0) rfl rfl (cast_asg hK.2 w_1355)
  · exact va_rAny (r := (RX7, TX7, 4)) hK.1 (va_P1 h) (q0 := 0) rfl rfl (cast_asg hK.2 w_1356)
  · exact va_rAny (r := (RX0, TX0, 4)) hK.1 (va_P1 h) (q0 := 0) rfl rfl (cast_asg hK.2 w_1357)
  · exact va_rAny (r := (RX4, TX4, 4)) hK.1 (va_P1 h) (q0 := 0) rfl rfl (cast_asg hK.2 w_1358)
  · exact va_rAny (r := (RX3, TX3, 4)) hK.1 (va_P1 h) (q0 := 0) rfl rfl (cast_asg hK.2 w_1359)
  · exact va_rAny (r := (RX8, TX8, 5)) hK.1 (va_P1 h) (q0 := 0) rfl rfl (cast_asg hK.2 w_1360)
section STROWS
variable {p : Program} {l : Launch} {e : Env} {R : Room} {s : State} {m : MethodId} {args : Array Value} {below : List Frame} {meth : Method} {c : Code} {H : Heap} {locs : List Loc} {cells slots : Nat} {Q : State → Prop}
variable {cc : ByteArray} {own : String} {nL pc : Nat} {ret0 : Option FieldType} {ls : Array Slot} {rest : List Value} {g : GG} {ρ : RR} {σ : St} {A : Nat → Prop} {H0 : Heap} {a : Nat} {TL : va_W}
/-- a stick is put among now's -/
theorem x_astT {i : Int32} (C0 : BC p s m args meth c cc own nL ret0) (hK : KK g s) (hP : va_P g.1 vwCl (xW g ρ σ ++ TL) H) (hD : va_D A (xW g ρ σ ++ TL)) (hS : va_S A H0 H locs) (hr : va_Any "ThreeMeasures$Stick" s H a) (hin : vp_in i 6) (hdg : decode cc pc = .ok (.aastore, 1))
    (kk : ∀ (H1 : Heap) (locs1 : List Loc), va_P g.1 vwCl (xW g (upR ρ 24 (va_up (ρ 24) (ix i) (some a))) σ ++ TL) H1 → va_D A (xW g (upR ρ 24 (va_up (ρ 24) (ix i) (some a))) σ ++ TL) → va_S A H0 H1 locs1 → W p l e R s m args below meth c H1 locs1 cells slots Q (F0 m (pc + 1) ls rest)) : W p l e R s m args below meth c H locs cells slots Q (F0 m pc ls (.ref a :: .int i :: .ref (g.2.2 24) :: rest)) := by
  have hq : 28 < (xW g ρ σ).length := by show 28 < 30; decide
  have hset2 : ∀ f, (xW g ρ σ ++ TL).set 28 (g.2.2 24, .inl (g.2.1 2, 6, .inr (.inr (.inr (.inr f))))) = xW g (upR ρ 24 f) σ ++ TL := fun f => by rw [List.set_append_left _ _ hq, xR_24]
  exact va_astqM (D := g.1) (E := "ThreeMeasures$Stick") C0.1 C0.2.1 hK.1 hP hD hS 28 2 (by rw [List.getElem?_append_left hq]; rfl) rfl hr hin hdg (fun H1 locs1 hP hD hS => kk H1 locs1 (by rw [hset2] at hP; exact hP) (by rw [hset2] at hD; exact hD) hS)
end STROWS

theorem XH.stick {g : GG} {ρ : RR} {dt : Nat → Nat → Int32} {H0 H : Heap} {h0 a k : Nat} {d : Nat → Int32} (h00 : XH g ρ dt H0) (hsz : H0.size = h0) (hX : XH g ρ dt H) (hah : h0 ≤ a) (hs : SKH g H a d) : XH g (upR ρ 24 (va_up (ρ 24) k (some a))) (upD dt a d) H := by
  have hlt : ∀ {a' : Nat}, a' < h0 → upD dt a d a' = dt a' := fun h => if_neg (by omega)
  refine ⟨fun i a' e => ?_, fun a' e => ?_⟩
  · by_cases ea : a' = a
    · rw [ea, show upD dt a d a = d from if_pos rfl]
      exact hs
    · have e : ρ 24 i = some a' ∨ ρ 44 i = some a' := by
        rcases e with e | e
        · have e : va_up (ρ 24) k (some a) i = some a' := e
          by_cases ek : i = k
          · rw [ek, va_up_self] at e
            exact absurd (Option.some.inj e).symm ea
          · rw [va_up_ne _ _ ek] at e
            exact Or.inl e
        · exact Or.inr e
      have h1 := h00.1 i a' e
      rw [hlt (by rw [← hsz]; exact h1.lt)]
      exact hX.1 i a' e
  · have e : ρ 22 0 = some a' ∨ ρ 42 0 = some a' := e
    have h1 := h00.2 a' e
    rw [hlt (by rw [← hsz]; exact h1.lt)]
    exact hX.2 a' e

set_option maxRecDepth 20000 in
theorem w_466 : (Cond.code yX11_newStick cX11_newStick 4 (some (.object "ThreeMeasures$Stick"))) ∈ TB := inTB (List.mem_of_getElem? (i := 466) (by decide +kernel)) (by decide +kernel)
set_option maxRecDepth 20000 in
theorem w_465 : (Cond.static yX11_newStick) ∈ TB := inTB (List.mem_of_getElem? (i := 465) (by decide +kernel)) (by decide +kernel)
theorem cf_X11_newStick : CG yX11_newStick cX11_newStick 4 (some (.object "ThreeMeasures$Stick")) 4 := ⟨w_465, w_71, w_466, by decide +kernel, by decide +kernel, by decide +kernel⟩
set_option maxRecDepth 20000 in
theorem w_464 : (Cond.methodLink RX11 83 yX11_newStick) ∈ TB := inTB (List.mem_of_getElem? (i := 464) (by decide +kernel)) (by decide +kernel)
set_option maxRecDepth 20000 in
theorem w_117 : (Cond.fieldLinkNest RX11 79 RX5 "sticks" "[LThreeMeasures$Stick;" RX11) ∈ NB := inNB (List.mem_of_getElem? (i := 117) (by decide +kernel)) (by decide +kernel)
theorem dX11_stick_0 : decode cX11_stick 0 = .ok (.iload_n 1, 1) := by decide +kernel
theorem dX11_stick_1 : decode cX11_stick 1 = .ok (.ifCond .lt 9, 3) := by decide +kernel
theorem dX11_stick_4 : decode cX11_stick 4 = .ok (.iload_n 1, 1) := by decide +kernel
theorem dX11_stick_5 : decode cX11_stick 5 = .ok (.bipush 7, 2) := by decide +kernel
theorem dX11_stick_7 : decode cX11_stick 7 = .ok (.if_icmp .lt 5, 3) := by decide +kernel
theorem dX11_stick_10 : decode cX11_stick 10 = .ok (.iconst (-1), 1) := by decide +kernel
theorem dX11_stick_11 : decode cX11_stick 11 = .ok (.ireturn, 1) := by decide +kernel
theorem dX11_stick_12 : decode cX11_stick 12 = .ok (.iload_n 2, 1) := by decide +kernel
theorem dX11_stick_13 : decode cX11_stick 13 = .ok (.ifCond .lt 20, 3) := by decide +kernel
theorem dX11_stick_16 : decode cX11_stick 16 = .ok (.iload_n 2, 1) := by decide +kernel
theorem dX11_stick_17 : decode cX11_stick 17 = .ok (.bipush 9, 2) := by decide +kernel
theorem dX11_stick_19 : decode cX11_stick 19 = .ok (.if_icmp .gt 14, 3) := by decide +kernel
theorem dX11_stick_22 : decode cX11_stick 22 = .ok (.iload_n 3, 1) := by decide +kernel
theorem dX11_stick_23 : decode cX11_stick 23 = .ok (.iconst 2, 1) := by decide +kernel
theorem dX11_stick_24 : decode cX11_stick 24 = .ok (.if_icmp .lt 9, 3) := by decide +kernel
theorem dX11_stick_27 : decode cX11_stick 27 = .ok (.iload_n 3, 1) := by decide +kernel
theorem dX11_stick_28 : decode cX11_stick 28 = .ok (.bipush 60, 2) := by decide +kernel
theorem dX11_stick_30 : decode cX11_stick 30 = .ok (.if_icmp .le 6, 3) := by decide +kernel
theorem dX11_stick_33 : decode cX11_stick 33 = .ok (.bipush (-2), 2) := by decide +kernel
theorem dX11_stick_35 : decode cX11_stick 35 = .ok (.ireturn, 1) := by decide +kernel
theorem dX11_stick_36 : decode cX11_stick 36 = .ok (.aload_n 0, 1) := by decide +kernel
theorem dX11_stick_37 : decode cX11_stick 37 = .ok (.getfield 12, 3) := by decide +kernel
theorem dX11_stick_40 : decode cX11_stick 40 = .ok (.getfield 76, 3) := by decide +kernel
theorem dX11_stick_43 : decode cX11_stick 43 = .ok (.bipush 6, 2) := by decide +kernel
theorem dX11_stick_45 : decode cX11_stick 45 = .ok (.if_icmp .lt 6, 3) := by decide +kernel
theorem dX11_stick_48 : decode cX11_stick 48 = .ok (.bipush (-4), 2) := by decide +kernel
theorem dX11_stick_50 : decode cX11_stick 50 = .ok (.ireturn, 1) := by decide +kernel
theorem dX11_stick_51 : decode cX11_stick 51 = .ok (.aload_n 0, 1) := by decide +kernel
theorem dX11_stick_52 : decode cX11_stick 52 = .ok (.getfield 12, 3) := by decide +kernel
theorem dX11_stick_55 : decode cX11_stick 55 = .ok (.getfield 79, 3) := by decide +kernel
theorem dX11_stick_58 : decode cX11_stick 58 = .ok (.aload_n 0, 1) := by decide +kernel
theorem dX11_stick_59 : decode cX11_stick 59 = .ok (.getfield 12, 3) := by decide +kernel
theorem dX11_stick_62 : decode cX11_stick 62 = .ok (.getfield 76, 3) := by decide +kernel
theorem dX11_stick_65 : decode cX11_stick 65 = .ok (.iload_n 1, 1) := by decide +kernel
theorem dX11_stick_66 : decode cX11_stick 66 = .ok (.aload_n 0, 1) := by decide +kernel
theorem dX11_stick_67 : decode cX11_stick 67 = .ok (.getfield 12, 3) := by decide +kernel
theorem dX11_stick_70 : decode cX11_stick 70 = .ok (.getfield 76, 3) := by decide +kernel
theorem dX11_stick_73 : decode cX11_stick 73 = .ok (.iload_n 2, 1) := by decide +kernel
theorem dX11_stick_74 : decode cX11_stick 74 = .ok (.iload_n 3, 1) := by decide +kernel
theorem dX11_stick_75 : decode cX11_stick 75 = .ok (.invokestatic 83, 3) := by decide +kernel
theorem dX11_stick_78 : decode cX11_stick 78 = .ok (.aastore, 1) := by decide +kernel
theorem dX11_stick_79 : decode cX11_stick 79 = .ok (.aload_n 0, 1) := by decide +kernel
theorem dX11_stick_80 : decode cX11_stick 80 = .ok (.getfield 12, 3) := by decide +kernel
theorem dX11_stick_83 : decode cX11_stick 83 = .ok (.dup, 1) := by decide +kernel
theorem dX11_stick_84 : decode cX11_stick 84 = .ok (.getfield 76, 3) := by decide +kernel
theorem dX11_stick_87 : decode cX11_stick 87 = .ok (.iconst 1, 1) := by decide +kernel
theorem dX11_stick_88 : decode cX11_stick 88 = .ok (.iadd, 1) := by decide +kernel
theorem dX11_stick_89 : decode cX11_stick 89 = .ok (.putfield 76, 3) := by decide +kernel
theorem dX11_stick_92 : decode cX11_stick 92 = .ok (.aload_n 0, 1) := by decide +kernel
theorem dX11_stick_93 : decode cX11_stick 93 = .ok (.getfield 12, 3) := by decide +kernel
theorem dX11_stick_96 : decode cX11_stick 96 = .ok (.getfield 76, 3) := by decide +kernel
theorem dX11_stick_99 : decode cX11_stick 99 = .ok (.iconst 1, 1) := by decide +kernel
theorem dX11_stick_100 : decode cX11_stick 100 = .ok (.isub, 1) := by decide +kernel
theorem dX11_stick_101 : decode cX11_stick 101 = .ok (.ireturn, 1) := by decide +kernel
/-- what a call of stick comes to -/
def f_X11_stick (h0 : Nat) (a1 a2 a3 : Int32) (x : X3) (v : Int32) (u : X3) : Prop :=
  (¬ (0 ≤ a1.toInt ∧ a1.toInt ≤ 6) ∧ v = -1 ∧ u = x) ∨
  ((0 ≤ a1.toInt ∧ a1.toInt ≤ 6) ∧ ¬ (0 ≤ a2.toInt ∧ a2.toInt ≤ 9 ∧ 2 ≤ a3.toInt ∧ a3.toInt ≤ 60) ∧ v = -2 ∧ u = x) ∨
  ((0 ≤ a1.toInt ∧ a1.toInt ≤ 6) ∧ (0 ≤ a2.toInt ∧ a2.toInt ≤ 9 ∧ 2 ≤ a3.toInt ∧ a3.toInt ≤ 60) ∧ 6 ≤ (x.2.2 25 0).toInt ∧ v = -4 ∧ u = x) ∨
  ((0 ≤ a1.toInt ∧ a1.toInt ≤ 6) ∧ (0 ≤ a2.toInt ∧ a2.toInt ≤ 9 ∧ 2 ≤ a3.toInt ∧ a3.toInt ≤ 60) ∧ (x.2.2 25 0).toInt < 6 ∧ ∃ a : Nat, h0 ≤ a ∧ v = (x.2.2 25 0 + 1) - 1 ∧ u = (upR x.1 24 (va_up (x.1 24) (ix (x.2.2 25 0)) (some a)), upD x.2.1 a (dS (x.2.2 25 0) a1 a2 a3), up2 x.2.2 25 0 (x.2.2 25 0 + 1)))
/-- a stick that is made is new -/
def SKN (g : GG) (h0 : Nat) (u : X3) (H : Heap) : Prop := ∀ i a, h0 ≤ a → u.1 24 i = some a → SKF g h0 H a (u.2.1 a)
theorem SKN.old {g : GG} {h0 : Nat} {ρ : RR} {dt : Nat → Nat → Int32} {u : X3} {H H' : Heap} (h : XH g ρ dt H') (hh : H'.size = h0) (e : u.1 24 = ρ 24) : SKN g h0 u H := fun i a ha hu => by
  have := (h.1 i a (Or.inl (by rw [← e]; exact hu))).lt
  omega
theorem SKN.new {g : GG} {h0 k a : Nat} {ρ : RR} {dt : Nat → Nat → Int32} {σ : St} {d : Nat → Int32} {H H' : Heap} (h : XH g ρ dt H') (hh : H'.size = h0) (hs : SKF g h0 H a d) : SKN g h0 (upR ρ 24 (va_up (ρ 24) k (some a)), upD dt a d, σ) H := fun i a' ha hu => by
  have hu : va_up (ρ 24) k (some a) i = some a' := hu
  unfold va_up at hu
  split at hu
  · cases hu
    show SKF g h0 H a (upD dt a d a)
    rw [show upD dt a d a = d from if_pos rfl]
    exact hs
  · have := (h.1 i a' (Or.inl hu)).lt
    omega
set_option maxHeartbeats 1000000 in
theorem k_X11_stick (l : Launch) (g : GG) (aK aV : Nat → Nat) (x : X3) (h0 : Nat) (a1 a2 a3 : Int32) (hX : IX x.2.2) : Met l yX11_stick (wsF yX11_stick cX11_stick 4 (some .int)) { frames := 6, cells := 2, slots := 9, locals := 123 } (va_Pc [.ref (g.2.2 100), .int a1, .int a2, .int a3] (fun U => XS g aK aV x U ∧ U.heap.size = h0)) (va_Qi (f_X11_stick h0 a1 a2 a3 x) (fun u t => va_P g.1 vwCl (xW g u.1 u.2.2) t.heap ∧ XH g u.1 u.2.1 t.heap ∧ SKN g h0 u t.heap) (AX g)) 2 9 (fun z => AX g z ∨ h0 ≤ z) := by
  obtain ⟨ρ, dt, σ⟩ := x
  refine start_X (by decide) (Nat.le_of_ble_eq_true rfl) ?_
  intro p e s m args below meth c C0 hin hB0 ls hl
  obtain ⟨hx, hb, hr, hml, hown, hts, hlocks⟩ := id C0
  obtain ⟨⟨hK, hP, hDD, hB⟩, hsz⟩ := hB0
  have hP : va_P g.1 vwCl (xW g ρ σ) s.heap := hP
  have hDD : va_D (fun _ => True) (xW g ρ σ) := hDD
  have hB : YB g ρ dt aK aV s := hB
  have hX : IX σ := hX
  have hP0 := hP
  have hS : va_S (fun z => AX g z ∨ h0 ≤ z) s.heap s.heap [] := va_S.rf
  have hFF : ∀ {t : State} {H : Heap} {locs : List Loc}, va_S (fun z => AX g z ∨ h0 ≤ z) s.heap H locs → t.heap = H → va_F (AX g) s t := fun hS ht => ⟨by rw [ht]; exact hS.1, fun z h1 h2 => by rw [ht]; exact hS.2.1 z h1 (fun w => by rcases w with w | w; exact h2 w; omega)⟩
  have hKX : ∀ {H : Heap} {locs : List Loc}, va_S (fun z => AX g z ∨ h0 ≤ z) s.heap H locs → XH g ρ dt H := fun hS => hB.1.kept (fun q h1 h2 => hS.2.1 q h1 (fun w => by rcases w with w | w; exact h2 w; omega))
  obtain ⟨-, -, ⟨j5, j5'⟩, -⟩ := id hX
  have hl : lv_has ls 4 [(0, .ref (g.2.2 100)), (1, .int a1), (2, .int a2), (3, .int a3)] := hl
  have e0 : (0 : Int32).toInt = 0 := rfl
  have e7 : (7 : Int32).toInt = 7 := rfl
  have e9 : (9 : Int32).toInt = 9 := rfl
  have e2 : (2 : Int32).toInt = 2 := rfl
  have e60 : (60 : Int32).toInt = 60 := rfl
  have e6 : (6 : Int32).toInt = 6 := rfl
  have r1 : ¬ (0 ≤ a1.toInt ∧ a1.toInt ≤ 6) → W p l e { frames := 6, cells := 2, slots := 9, locals := 123 } s m args below meth c s.heap [] 0 0 (MQ below (va_Qi (f_X11_stick h0 a1 a2 a3 (ρ, dt, σ)) (fun u t => va_P g.1 vwCl (xW g u.1 u.2.2) t.heap ∧ XH g u.1 u.2.1 t.heap ∧ SKN g h0 u t.heap) (AX g)) args s 2 9 (fun z => AX g z ∨ h0 ≤ z)) (F0 m 10 ls []) := fun hk => by
    refine lv_iconst (v := -1) hx hb dX11_stick_10 (by decide) ?_
    refine W.widen (k := 2) (n := 9) (by decide) (by decide) ?_
    exact W.iret hx hb hr (fun t ht _ => ⟨⟨-1, (ρ, dt, σ), rfl, Or.inl ⟨hk, rfl, rfl⟩, by show va_P g.1 vwCl (xW g ρ σ) t.heap ∧ XH g ρ dt t.heap ∧ SKN g h0 (ρ, dt, σ) t.heap; rw [ht]; exact ⟨hP, hB.1, SKN.old hB.1 hsz rfl⟩⟩, hFF hS ht⟩) hS.2.2 dX11_stick_11 hlocks
  refine lv_iload_n hx hb dX11_stick_0 rfl (lv_at hl 1 rfl) ?_
  refine lv_if_lt (tgt := 10) hx hb dX11_stick_1 (by decide) (fun c1 => r1 (by have := ti_lt.mp c1; omega)) (fun c1 => ?_)
  refine lv_iload_n hx hb dX11_stick_4 rfl (lv_at hl 1 rfl) ?_
  refine lv_bipush (v := 7) hx hb dX11_stick_5 (by decide) ?_
  refine lv_icmp_lt (tgt := 12) hx hb dX11_stick_7 (by decide) (fun c2 => ?_) (fun c2 => r1 (by have := mt ti_lt.mpr c2; omega))
  have hk : 0 ≤ a1.toInt ∧ a1.toInt ≤ 6 := by have := mt ti_lt.mpr c1; have := ti_lt.mp c2; omega
  have r2 : ¬ (0 ≤ a2.toInt ∧ a2.toInt ≤ 9 ∧ 2 ≤ a3.toInt ∧ a3.toInt ≤ 60) → W p l e { frames := 6, cells := 2, slots := 9, locals := 123 } s m args below meth c s.heap [] 0 0 (MQ below (va_Qi (f_X11_stick h0 a1 a2 a3 (ρ, dt, σ)) (fun u t => va_P g.1 vwCl (xW g u.1 u.2.2) t.heap ∧ XH g u.1 u.2.1 t.heap ∧ SKN g h0 u t.heap) (AX g)) args s 2 9 (fun z => AX g z ∨ h0 ≤ z)) (F0 m 33 ls []) := fun hk2 => by
    refine lv_bipush (v := -2) hx hb dX11_stick_33 (by decide) ?_
    refine W.widen (k := 2) (n := 9) (by decide) (by decide) ?_
    exact W.iret hx hb hr (fun t ht _ => ⟨⟨-2, (ρ, dt, σ), rfl, Or.inr (Or.inl ⟨hk, hk2, rfl, rfl⟩), by show va_P g.1 vwCl (xW g ρ σ) t.heap ∧ XH g ρ dt t.heap ∧ SKN g h0 (ρ, dt, σ) t.heap; rw [ht]; exact ⟨hP, hB.1, SKN.old hB.1 hsz rfl⟩⟩, hFF hS ht⟩) hS.2.2 dX11_stick_35 hlocks
  refine lv_iload_n hx hb dX11_stick_12 rfl (lv_at hl 2 rfl) ?_
  refine lv_if_lt (tgt := 33) hx hb dX11_stick_13 (by decide) (fun c3 => r2 (by have := ti_lt.mp c3; omega)) (fun c3 => ?_)
  refine lv_iload_n hx hb dX11_stick_16 rfl (lv_at hl 2 rfl) ?_
  refine lv_bipush (v := 9) hx hb dX11_stick_17 (by decide) ?_
  refine lv_icmp_gt (tgt := 33) hx hb dX11_stick_19 (by decide) (fun c4 => r2 (by have := ti_lt.mp c4; omega)) (fun c4 => ?_)
  refine lv_iload_n hx hb dX11_stick_22 rfl (lv_at hl 3 rfl) ?_
  refine lv_iconst (v := 2) hx hb dX11_stick_23 (by decide) ?_
  refine lv_icmp_lt (tgt := 33) hx hb dX11_stick_24 (by decide) (fun c5 => r2 (by have := ti_lt.mp c5; omega)) (fun c5 => ?_)
  refine lv_iload_n hx hb dX11_stick_27 rfl (lv_at hl 3 rfl) ?_
  refine lv_bipush (v := 60) hx hb dX11_stick_28 (by decide) ?_
  refine lv_icmp_le (tgt := 36) hx hb dX11_stick_30 (by decide) (fun c6 => ?_) (fun c6 => r2 (by have := mt ti_le.mpr c6; omega))
  have hk2 : 0 ≤ a2.toInt ∧ a2.toInt ≤ 9 ∧ 2 ≤ a3.toInt ∧ a3.toInt ≤ 60 := by have := mt ti_lt.mpr c3; have := mt ti_lt.mpr c4; have := mt ti_lt.mpr c5; have := ti_le.mp c6; omega
  refine lv_aload_n hx hb dX11_stick_36 rfl (lv_at hl 0 rfl) ?_
  refine x_get (σ := σ) (v := .ref (g.2.2 101)) (fs := xF0 g ρ σ) 11 0 C0 uw_11 dc_11 hK hP rfl rfl 0 (by decide) rfl w_229 dX11_stick_37 ?_
  refine x_getN (σ := σ) (v := .int (σ 25 0)) (fs := xF1 g ρ σ) 5 1 C0 uw_5 dc_5 hK hP rfl rfl 5 (by decide) rfl w_119 dX11_stick_40 ?_
  refine lv_bipush (v := 6) hx hb dX11_stick_43 (by decide) ?_
  refine lv_icmp_lt (tgt := 51) hx hb dX11_stick_45 (by decide) (fun c7 => ?_) (fun c7 => ?_)
  rotate_left
  · refine lv_bipush (v := -4) hx hb dX11_stick_48 (by decide) ?_
    refine W.widen (k := 2) (n := 9) (by decide) (by decide) ?_
    exact W.iret hx hb hr (fun t ht _ => ⟨⟨-4, (ρ, dt, σ), rfl, Or.inr (Or.inr (Or.inl ⟨hk, hk2, by show 6 ≤ (σ 25 0).toInt; have := mt ti_lt.mpr c7; omega, rfl, rfl⟩)), by show va_P g.1 vwCl (xW g ρ σ) t.heap ∧ XH g ρ dt t.heap ∧ SKN g h0 (ρ, dt, σ) t.heap; rw [ht]; exact ⟨hP, hB.1, SKN.old hB.1 hsz rfl⟩⟩, hFF hS ht⟩) hS.2.2 dX11_stick_50 hlocks
  have h25 := ti_lt.mp c7
  refine lv_aload_n hx hb dX11_stick_51 rfl (lv_at hl 0 rfl) ?_
  refine x_get (σ := σ) (v := .ref (g.2.2 101)) (fs := xF0 g ρ σ) 11 0 C0 uw_11 dc_11 hK hP rfl rfl 0 (by decide) rfl w_229 dX11_stick_52 ?_
  refine x_getN (σ := σ) (v := .ref (g.2.2 24)) (fs := xF1 g ρ σ) 5 1 C0 uw_5 dc_5 hK hP rfl rfl 4 (by decide) rfl w_117 dX11_stick_55 ?_
  refine lv_aload_n hx hb dX11_stick_58 rfl (lv_at hl 0 rfl) ?_
  refine x_get (σ := σ) (v := .ref (g.2.2 101)) (fs := xF0 g ρ σ) 11 0 C0 uw_11 dc_11 hK hP rfl rfl 0 (by decide) rfl w_229 dX11_stick_59 ?_
  refine x_getN (σ := σ) (v := .int (σ 25 0)) (fs := xF1 g ρ σ) 5 1 C0 uw_5 dc_5 hK hP rfl rfl 5 (by decide) rfl w_119 dX11_stick_62 ?_
  refine lv_iload_n hx hb dX11_stick_65 rfl (lv_at hl 1 rfl) ?_
  refine lv_aload_n hx hb dX11_stick_66 rfl (lv_at hl 0 rfl) ?_
  refine x_get (σ := σ) (v := .ref (g.2.2 101)) (fs := xF0 g ρ σ) 11 0 C0 uw_11 dc_11 hK hP rfl rfl 0 (by decide) rfl w_229 dX11_stick_67 ?_
  refine x_getN (σ := σ) (v := .int (σ 25 0)) (fs := xF1 g ρ σ) 5 1 C0 uw_5 dc_5 hK hP rfl rfl 5 (by decide) rfl w_119 dX11_stick_70 ?_
  refine lv_iload_n hx hb dX11_stick_73 rfl (lv_at hl 2 rfl) ?_
  refine lv_iload_n hx hb dX11_stick_74 rfl (lv_at hl 3 rfl) ?_
  refine va_callr (run_S (rm := { frames := 5, cells := 2, slots := 9, locals := 100 }) (As := [.int a1, .int (σ 25 0), .int a2, .int a3]) (rest := [.int (σ 25 0), .ref (g.2.2 24)]) C0 cf_X11_newStick w_464 ⟨by decide, by decide⟩ (k_X11_newStick l g h0 a1 (σ 25 0) a2 a3 hk.1 hk.2) ⟨(show SV (fun U => KK g U ∧ U.heap.size = h0) from fun U U' hh hv h => ⟨h.1.same hv, by rw [← hh]; exact h.2⟩).blind, fun U hU hW => ⟨rfl, hK.warm hW, by rw [hU]; exact hsz⟩⟩ rfl hl.1 rfl (Nat.le_of_ble_eq_true rfl) dX11_stick_75 ⟨by decide, by decide⟩) hS (fun z hz h => Or.inr h) (fun z h => Or.inr h) (fun _ a t1 H locs ht _ _ hSK hz hk1 hS => ?_)
  have hSK : SKF g h0 t1.heap a (dS (σ 25 0) a1 a2 a3) := hSK
  rw [ht] at hSK
  have hah : h0 ≤ a := hSK.1
  have hP1 : va_P g.1 vwCl (xW g ρ σ) H := hP.kept (fun k x hx => hk1 x.1 (hP k x hx).lt (fun w => by have := (hP k x hx).lt; omega))
  obtain ⟨TL, hTP, hTD, hTR⟩ := hSK.tl
  have hD := AX_app h0 hP0 hsz (AX_D hDD (fun _ h => Or.inl h)) hTD
  have hP := hP1.app hTP
  refine x_astT (TL := TL) C0 hK hP hD hS (hSK.any hK) (vp_in_iff.mpr ⟨j5, by omega⟩) dX11_stick_78 (fun H locs hP hD hS => ?_)
  refine lv_aload_n hx hb dX11_stick_79 rfl (lv_at hl 0 rfl) ?_
  refine x_get (σ := σ) (v := .ref (g.2.2 101)) (fs := xF0 g (upR ρ 24 (va_up (ρ 24) (ix (σ 25 0)) (some a))) σ) 11 0 C0 uw_11 dc_11 hK (va_Pl hP) rfl rfl 0 (by decide) rfl w_229 dX11_stick_80 ?_
  refine lv_dup hx hb dX11_stick_83 rfl ?_
  refine x_getN (σ := σ) (v := .int (σ 25 0)) (fs := xF1 g (upR ρ 24 (va_up (ρ 24) (ix (σ 25 0)) (some a))) σ) 5 1 C0 uw_5 dc_5 hK (va_Pl hP) rfl rfl 5 (by decide) rfl w_119 dX11_stick_84 ?_
  refine lv_iconst (v := 1) hx hb dX11_stick_87 (by decide) ?_
  refine lv_iadd hx hb dX11_stick_88 ?_
  refine x_putT (TL := TL) (σ := σ) (ρ := (upR ρ 24 (va_up (ρ 24) (ix (σ 25 0)) (some a)))) (ty := .int) (fs := xF1 g (upR ρ 24 (va_up (ρ 24) (ix (σ 25 0)) (some a))) σ) 5 1 C0 uw_5 dc_5 tyX5 tyX5_ok nmX5 hK hP hD hS rfl rfl 5 (by decide) rfl rfl rfl rfl (Nat.le_of_ble_eq_true rfl) (xs_25 g (upR ρ 24 (va_up (ρ 24) (ix (σ 25 0)) (some a))) σ _) w_119 dX11_stick_89 (fun H locs hP hD hS => ?_)
  refine lv_aload_n hx hb dX11_stick_92 rfl (lv_at hl 0 rfl) ?_
  refine x_get (σ := (up2 σ 25 0 (σ 25 0 + 1))) (v := .ref (g.2.2 101)) (fs := xF0 g (upR ρ 24 (va_up (ρ 24) (ix (σ 25 0)) (some a))) (up2 σ 25 0 (σ 25 0 + 1))) 11 0 C0 uw_11 dc_11 hK (va_Pl hP) rfl rfl 0 (by decide) rfl w_229 dX11_stick_93 ?_
  refine x_getN (σ := (up2 σ 25 0 (σ 25 0 + 1))) (v := .int (σ 25 0 + 1)) (fs := xF1 g (upR ρ 24 (va_up (ρ 24) (ix (σ 25 0)) (some a))) (up2 σ 25 0 (σ 25 0 + 1))) 5 1 C0 uw_5 dc_5 hK (va_Pl hP) rfl rfl 5 (by decide) rfl w_119 dX11_stick_96 ?_
  refine lv_iconst (v := 1) hx hb dX11_stick_99 (by decide) ?_
  refine lv_isub hx hb dX11_stick_100 ?_
  have hXn := XH.stick (k := ix (σ 25 0)) hB.1 hsz (hKX hS) hah ((hTR H (va_Pr hP)).skh (fun q h => by have := AX_lt hP0 h; omega))
  exact W.iret hx hb hr (fun t ht _ => ⟨⟨(σ 25 0 + 1) - 1, ((upR ρ 24 (va_up (ρ 24) (ix (σ 25 0)) (some a))), upD dt a (dS (σ 25 0) a1 a2 a3), (up2 σ 25 0 (σ 25 0 + 1))), rfl, Or.inr (Or.inr (Or.inr ⟨hk, hk2, by show (σ 25 0).toInt < 6; omega, a, hah, rfl, rfl⟩)), by show va_P g.1 vwCl (xW g (upR ρ 24 (va_up (ρ 24) (ix (σ 25 0)) (some a))) (up2 σ 25 0 (σ 25 0 + 1))) t.heap ∧ XH g (upR ρ 24 (va_up (ρ 24) (ix (σ 25 0)) (some a))) (upD dt a (dS (σ 25 0) a1 a2 a3)) t.heap ∧ SKN g h0 ((upR ρ 24 (va_up (ρ 24) (ix (σ 25 0)) (some a))), upD dt a (dS (σ 25 0) a1 a2 a3), (up2 σ 25 0 (σ 25 0 + 1))) t.heap; rw [ht]; exact ⟨va_Pl hP, hXn, SKN.new hB.1 hsz (hTR H (va_Pr hP))⟩⟩, hFF hS ht⟩) hS.2.2 dX11_stick_101 hlocks

