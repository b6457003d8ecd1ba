
/-- the class's KIND_ABOVE -/
def KA (j : Nat) : Int32 := if j = 0 then -1 else if j = 4 then 1 else if j = 5 then 2 else if j = 6 then 3 else 0
def SA0 (U : State) : Prop := ∃ t : Nat, va_Z "ThreeMeasures" "KIND_ABOVE" "[I" (.ref t) (fun _ => False) U U.heap ∧ va_T .int t 7 (fun j => .int (KA j)) (fun _ => False) U U.heap
abbrev XA (g : GG) (ρ : RR) (dt : Nat → Nat → Int32) : State → Prop := fun U => XH g ρ dt U.heap ∧ SA0 U
theorem SA0.warm {s U : State} (hW : s.vm.Alike U.vm) (hk : ∀ a : Nat, a < s.heap.size → U.heap[a]? = s.heap[a]?) (h : SA0 s) : SA0 U := by
  obtain ⟨t, h1, h2⟩ := h
  exact ⟨t, (h1.moved hW).kept (fun a ha _ => hk a ha), (h2.moved hW).kept (fun a ha _ => hk a ha)⟩
theorem XA.sv {g : GG} {ρ : RR} {dt : Nat → Nat → Int32} : SV (XA g ρ dt) := fun U U' hh hv h => ⟨XB.sv U U' hh hv h.1, h.2.warm (by rw [hv]; exact Vm.Alike.refl _) (fun a _ => by rw [hh])⟩
set_option maxRecDepth 20000 in
theorem w_943 : (Cond.fieldLink RX11 295 RX11 "KIND_ABOVE" "[I") ∈ TB := inTB (List.mem_of_getElem? (i := 943) (by decide +kernel)) (by decide +kernel)
/-! ThreeMeasures.as -/
theorem dX11_as_0 : decode cX11_as 0 = .ok (.aload_n 0, 1) := by decide +kernel
theorem dX11_as_1 : decode cX11_as 1 = .ok (.getfield 12, 3) := by decide +kernel
theorem dX11_as_4 : decode cX11_as 4 = .ok (.iload_n 1, 1) := by decide +kernel
theorem dX11_as_5 : decode cX11_as 5 = .ok (.invokevirtual 87, 3) := by decide +kernel
theorem dX11_as_8 : decode cX11_as 8 = .ok (.astore_n 3, 1) := by decide +kernel
theorem dX11_as_9 : decode cX11_as 9 = .ok (.aload_n 3, 1) := by decide +kernel
theorem dX11_as_10 : decode cX11_as 10 = .ok (.ifnull 13, 3) := by decide +kernel
theorem dX11_as_13 : decode cX11_as 13 = .ok (.iload_n 2, 1) := by decide +kernel
theorem dX11_as_14 : decode cX11_as 14 = .ok (.ifCond .lt 9, 3) := by decide +kernel
theorem dX11_as_17 : decode cX11_as 17 = .ok (.iload_n 2, 1) := by decide +kernel
theorem dX11_as_18 : decode cX11_as 18 = .ok (.bipush 7, 2) := by decide +kernel
theorem dX11_as_20 : decode cX11_as 20 = .ok (.if_icmp .lt 5, 3) := by decide +kernel
theorem dX11_as_23 : decode cX11_as 23 = .ok (.iconst (-1), 1) := by decide +kernel
theorem dX11_as_24 : decode cX11_as 24 = .ok (.ireturn, 1) := by decide +kernel
theorem dX11_as_25 : decode cX11_as 25 = .ok (.aload_n 3, 1) := by decide +kernel
theorem dX11_as_26 : decode cX11_as 26 = .ok (.getfield 91, 3) := by decide +kernel
theorem dX11_as_29 : decode cX11_as 29 = .ok (.istore 4, 2) := by decide +kernel
theorem dX11_as_31 : decode cX11_as 31 = .ok (.iconst 0, 1) := by decide +kernel
theorem dX11_as_32 : decode cX11_as 32 = .ok (.istore 5, 2) := by decide +kernel
theorem dX11_as_34 : decode cX11_as 34 = .ok (.iload 5, 2) := by decide +kernel
theorem dX11_as_36 : decode cX11_as 36 = .ok (.bipush 7, 2) := by decide +kernel
theorem dX11_as_38 : decode cX11_as 38 = .ok (.if_icmp .ge 40, 3) := by decide +kernel
theorem dX11_as_41 : decode cX11_as 41 = .ok (.iload 4, 2) := by decide +kernel
theorem dX11_as_43 : decode cX11_as 43 = .ok (.ifCond .lt 35, 3) := by decide +kernel
theorem dX11_as_46 : decode cX11_as 46 = .ok (.iload 4, 2) := by decide +kernel
theorem dX11_as_48 : decode cX11_as 48 = .ok (.bipush 7, 2) := by decide +kernel
theorem dX11_as_50 : decode cX11_as 50 = .ok (.if_icmp .ge 28, 3) := by decide +kernel
theorem dX11_as_53 : decode cX11_as 53 = .ok (.iload 4, 2) := by decide +kernel
theorem dX11_as_55 : decode cX11_as 55 = .ok (.iload_n 2, 1) := by decide +kernel
theorem dX11_as_56 : decode cX11_as 56 = .ok (.if_icmp .ne 8, 3) := by decide +kernel
theorem dX11_as_59 : decode cX11_as 59 = .ok (.aload_n 3, 1) := by decide +kernel
theorem dX11_as_60 : decode cX11_as 60 = .ok (.getfield 96, 3) := by decide +kernel
theorem dX11_as_63 : decode cX11_as 63 = .ok (.ireturn, 1) := by decide +kernel
theorem dX11_as_64 : decode cX11_as 64 = .ok (.getstatic 295, 3) := by decide +kernel
theorem dX11_as_67 : decode cX11_as 67 = .ok (.iload 4, 2) := by decide +kernel
theorem dX11_as_69 : decode cX11_as 69 = .ok (.iaload, 1) := by decide +kernel
theorem dX11_as_70 : decode cX11_as 70 = .ok (.istore 4, 2) := by decide +kernel
theorem dX11_as_72 : decode cX11_as 72 = .ok (.iinc 5 1, 3) := by decide +kernel
theorem dX11_as_75 : decode cX11_as 75 = .ok (.goto (-41), 3) := by decide +kernel
theorem dX11_as_78 : decode cX11_as 78 = .ok (.bipush (-6), 2) := by decide +kernel
theorem dX11_as_80 : decode cX11_as 80 = .ok (.ireturn, 1) := by decide +kernel
def f_X11_as_34 (ρ : RR) (dt : Nat → Nat → Int32) (K34 : St → Int32 → Nat → Int32 → Int32 → Int32) (σ : St) (a2 : Int32) (a3 : Nat) (a4 : Int32) (a5 : Int32) : Int32 := (if (7 : Int32) ≤ a5 then (-6 : Int32) else (if a4 < 0 then (-6 : Int32) else (if (7 : Int32) ≤ a4 then (-6 : Int32) else (if a4 = a2 then (dt a3 2) else (K34 σ a2 a3 (KA (ix a4)) (a5 + (1 : Int32)))))))
set_option maxHeartbeats 600000 in
set_option maxRecDepth 100000 in
theorem b_X11_as_34 {g : GG} {ρ : RR} {dt : Nat → Nat → Int32} {t : Nat} {p : Program} {l : Launch} {e : Env} {s : State} {m : MethodId} {args : Array Value} {below : List Frame} {meth : Method} {c : Code}  {tgt : Int32} {K34 : St → Int32 → Nat → Int32 → Int32 → Int32} {N34 : Nat} (C0 : BC p s m args meth c cX11_as RX11 6 (some .int)) (hK34 : ∀ (σ : St) (a2 : Int32) (a3 : Nat) (a4 : Int32) (a5 : Int32), (IX σ) → (∃ i, ρ 24 i = some a3) → (0 ≤ a5.toInt) → (7 - a5.toInt).toNat < N34 → KK g s → va_P g.1 vwCl ((xW g ρ) σ) s.heap → va_D (fun _ => True) ((xW g ρ) σ) → XH g ρ dt s.heap → va_Z "ThreeMeasures" "KIND_ABOVE" "[I" (.ref t) (fun _ => False) s s.heap → va_T .int t 7 (fun j => .int (KA j)) (fun _ => False) s s.heap → ∀ {ls : Array Slot}, lv_has ls 6 [(0, .ref (g.2.2 100)), (2, .int (a2)), (3, .ref (a3)), (4, .int (a4)), (5, .int (a5))] → K34 σ a2 a3 a4 a5 = tgt → W p l e { frames := 1, cells := 0, slots := 0, locals := 21 } s m args below meth c s.heap [] 0 0 (QPI below args s tgt) (F0 m 34 ls [])) {σ : St} {a2 : Int32} {a3 : Nat} {a4 : Int32} {a5 : Int32}  (hX : IX σ) (hs3 : ∃ i, ρ 24 i = some a3) (h5 : 0 ≤ a5.toInt) (hm : (7 - a5.toInt).toNat < N34 + 1) (hK : KK g s) (hP : va_P g.1 vwCl ((xW g ρ) σ) s.heap) (hDD : va_D (fun _ => True) ((xW g ρ) σ)) (hB : XH g ρ dt s.heap) (hZ : va_Z "ThreeMeasures" "KIND_ABOVE" "[I" (.ref t) (fun _ => False) s s.heap) (hZT : va_T .int t 7 (fun j => .int (KA j)) (fun _ => False) s s.heap) {ls : Array Slot} (hl : lv_has ls 6 [(0, .ref (g.2.2 100)), (2, .int (a2)), (3, .ref (a3)), (4, .int (a4)), (5, .int (a5))]) (hT : f_X11_as_34 ρ dt K34 σ a2 a3 a4 a5 = tgt) : W p l e { frames := 1, cells := 0, slots := 0, locals := 21 } s m args below meth c s.heap [] 0 0 (QPI below args s tgt) (F0 m 34 ls []) := by
  obtain ⟨hx, hb, hr, hml, hown, hts, hlocks⟩ := id C0
  unfold f_X11_as_34 at hT
  obtain ⟨⟨j1, j1'⟩, ⟨j3, j3'⟩, ⟨j5, j5'⟩, ⟨j8, j8'⟩, ⟨j9, j9'⟩, ⟨j12, j12'⟩, ⟨j14, j14'⟩, ⟨j17, j17'⟩, j81, jW⟩ := id hX
  refine lv_iload hx hb dX11_as_34 (lv_at hl 4 rfl) ?_
  refine lv_bipush (v := (7 : Int32)) hx hb dX11_as_36 (by decide) ?_
  refine lv_icmp_ge (tgt := 78) hx hb dX11_as_38 (by decide) (fun c_38 => ?_) (fun c_38 => ?_)
  · have hT := hT_pos c_38 hT
    refine lv_bipush (v := (-6 : Int32)) hx hb dX11_as_78 (by decide) ?_
    exact ret_PI C0 hT dX11_as_80
  · have hT := hT_neg c_38 hT
    refine lv_iload hx hb dX11_as_41 (lv_at hl 3 rfl) ?_
    refine lv_if_lt (tgt := 78) hx hb dX11_as_43 (by decide) (fun c_43 => ?_) (fun c_43 => ?_)
    · have hT := hT_pos c_43 hT
      refine lv_bipush (v := (-6 : Int32)) hx hb dX11_as_78 (by decide) ?_
      exact ret_PI C0 hT dX11_as_80
    · have hT := hT_neg c_43 hT
      refine lv_iload hx hb dX11_as_46 (lv_at hl 3 rfl) ?_
      refine lv_bipush (v := (7 : Int32)) hx hb dX11_as_48 (by decide) ?_
      refine lv_icmp_ge (tgt := 78) hx hb dX11_as_50 (by decide) (fun c_50 => ?_) (fun c_50 => ?_)
      · have hT := hT_pos c_50 hT
        refine lv_bipush (v := (-6 : Int32)) hx hb dX11_as_78 (by decide) ?_
        exact ret_PI C0 hT dX11_as_80
      · have hT := hT_neg c_50 hT
        refine lv_iload hx hb dX11_as_53 (lv_at hl 3 rfl) ?_
        refine lv_iload_n hx hb dX11_as_55 rfl (lv_at hl 1 rfl) ?_
        refine lv_icmp_ne (tgt := 64) hx hb dX11_as_56 (by decide) (fun c_56 => ?_) (fun c_56 => ?_)
        · have hT := hT_neg c_56 hT
          refine va_gets (v := .ref t) hx hb hZ va_S.rf hown (hts _ w_943) (fun _ h => h) dX11_as_64 ?_
          refine lv_iload hx hb dX11_as_67 (lv_at hl 3 rfl) ?_
          have o_69 : vp_in a4 7 := by
            have : ((7 : Int32)).toInt = 7 := by decide
            have : ((0 : Int32)).toInt = 0 := by decide
            have := mt ti_le.mpr c_38
            have := mt ti_lt.mpr c_43
            have := mt ti_le.mpr c_50
            have := mt ti_eq.mpr c_56
            exact vin (by omega) (by omega)
          refine va_ti hx hb hZT va_S.rf o_69 rfl dX11_as_69 ?_
          refine lv_istore (lv' := [(4, .int ((KA (ix a4)))), (0, .ref (g.2.2 100)), (2, .int (a2)), (3, .ref (a3)), (5, .int (a5))]) hx hb dX11_as_70 hl (by decide) rfl (fun ls hl => ?_)
          refine lv_iinc (v := (a5 + (1 : Int32))) (lv' := [(5, .int ((a5 + (1 : Int32)))), (4, .int ((KA (ix a4)))), (0, .ref (g.2.2 100)), (2, .int (a2)), (3, .ref (a3))]) hx hb dX11_as_72 hl (k := 4) rfl rfl (by decide) rfl (fun ls hl => ?_)
          refine lv_goto (tgt := 34) hx hb dX11_as_75 (by decide) ?_
          have j75_h5 : 0 ≤ (a5 + (1 : Int32)).toInt := by
            have : ((7 : Int32)).toInt = 7 := by decide
            have : ((0 : Int32)).toInt = 0 := by decide
            have : ((1 : Int32)).toInt = 1 := by decide
            have := mt ti_le.mpr c_38
            have := mt ti_lt.mpr c_43
            have := mt ti_le.mpr c_50
            have := mt ti_eq.mpr c_56
            try have := ti_add (a := a5) (b := (1 : Int32)) (by omega) (by omega)
            omega
          have j75_m : (7 - (a5 + (1 : Int32)).toInt).toNat < N34 := by
            have : ((7 : Int32)).toInt = 7 := by decide
            have : ((0 : Int32)).toInt = 0 := by decide
            have : ((1 : Int32)).toInt = 1 := by decide
            have := mt ti_le.mpr c_38
            have := mt ti_lt.mpr c_43
            have := mt ti_le.mpr c_50
            have := mt ti_eq.mpr c_56
            try have := ti_add (a := a5) (b := (1 : Int32)) (by omega) (by omega)
            omega
          exact hK34 σ a2 a3 (KA (ix a4)) (a5 + (1 : Int32)) hX hs3 j75_h5 j75_m hK hP hDD hB hZ hZT (lv_sub hl [2, 3, 4, 1, 0] rfl) hT
        · have hT := hT_pos c_56 hT
          refine lv_aload_n hx hb dX11_as_59 rfl (lv_at hl 2 rfl) ?_
          refine sk_get (d := dt a3) 2 C0 hK (XH.sk hB (Or.inl hs3.choose_spec)) (by decide) w_495 (fun _ h => h) dX11_as_60 ?_
          exact ret_PI C0 hT dX11_as_63
def g_X11_as_34 (ρ : RR) (dt : Nat → Nat → Int32)  : Nat → St → Int32 → Nat → Int32 → Int32 → Int32
  | 0 => fun σ a2 a3 a4 a5 => 0
  | n + 1 => fun σ a2 a3 a4 a5 => f_X11_as_34 ρ dt  (g_X11_as_34 ρ dt  n) σ a2 a3 a4 a5
theorem l_X11_as_34 {g : GG} {ρ : RR} {dt : Nat → Nat → Int32} {t : Nat} {p : Program} {l : Launch} {e : Env} {s : State} {m : MethodId} {args : Array Value} {below : List Frame} {meth : Method} {c : Code}  {tgt : Int32}  (C0 : BC p s m args meth c cX11_as RX11 6 (some .int))  : ∀ (n : Nat) (σ : St) (a2 : Int32) (a3 : Nat) (a4 : Int32) (a5 : Int32), (IX σ) → (∃ i, ρ 24 i = some a3) → (0 ≤ a5.toInt) → (7 - a5.toInt).toNat < n → KK g s → va_P g.1 vwCl ((xW g ρ) σ) s.heap → va_D (fun _ => True) ((xW g ρ) σ) → XH g ρ dt s.heap → va_Z "ThreeMeasures" "KIND_ABOVE" "[I" (.ref t) (fun _ => False) s s.heap → va_T .int t 7 (fun j => .int (KA j)) (fun _ => False) s s.heap → ∀ {ls : Array Slot}, lv_has ls 6 [(0, .ref (g.2.2 100)), (2, .int (a2)), (3, .ref (a3)), (4, .int (a4)), (5, .int (a5))] → g_X11_as_34 ρ dt  n σ a2 a3 a4 a5 = tgt → W p l e { frames := 1, cells := 0, slots := 0, locals := 21 } s m args below meth c s.heap [] 0 0 (QPI below args s tgt) (F0 m 34 ls []) := by
  intro n
  induction n with
  | zero => intro σ a2 a3 a4 a5 hX hs3 h5 hm; exact absurd hm (Nat.not_lt_zero _)
  | succ n ih =>
    intro σ a2 a3 a4 a5 hX hs3 h5 hm  hK hP hDD hB hZ hZT ls hl hT
    exact b_X11_as_34 (g := g) (ρ := ρ) (dt := dt) (t := t) (K34 := g_X11_as_34 ρ dt  n) (N34 := n) C0  (fun σ a2 a3 a4 a5 hX hs3 h5 hmq => ih σ a2 a3 a4 a5 hX hs3 h5 hmq) hX hs3 h5 hm hK hP hDD hB hZ hZT hl hT
def f_X11_as (ρ : RR) (dt : Nat → Nat → Int32) (σ : St) (a1 : Int32) (a2 : Int32) : Int32 := (if (f_X5_stickAt ρ σ a1) = none then (-1 : Int32) else (if a2 < 0 then (-1 : Int32) else (if a2 < (7 : Int32) then (g_X11_as_34 ρ dt  (8) σ a2 (rf (f_X5_stickAt ρ σ a1)) (dt (rf (f_X5_stickAt ρ σ a1)) 1) (0 : Int32)) else (-1 : Int32))))
set_option maxHeartbeats 600000 in
set_option maxRecDepth 100000 in
theorem k_X11_as (l : Launch) (g : GG) (ρ : RR) (dt : Nat → Nat → Int32) (σ : St) (a1 : Int32) (a2 : Int32) (hX : IX σ) : PI l yX11_as (wsF yX11_as cX11_as 6 (some .int)) { frames := 1, cells := 0, slots := 0, locals := 21 } [.ref (g.2.2 100), .int (a1), .int (a2)] (GB g (xW g ρ) (XA g ρ dt) σ) (f_X11_as ρ dt σ a1 a2) := by
  refine start_PI (by decide) (Nat.le_of_ble_eq_true rfl) ?_
  intro p e s m args below meth c C0 hG ls hl
  obtain ⟨hK, hP, hDD, hB, t, hZ, hZT⟩ := hG
  obtain ⟨hx, hb, hr, hml, hown, hts, hlocks⟩ := id C0
  have hl : lv_has ls 6 [(0, .ref (g.2.2 100)), (1, .int (a1)), (2, .int (a2))] := hl
  generalize hT : (f_X11_as ρ dt σ a1 a2) = tgt
  unfold f_X11_as at hT
  obtain ⟨⟨j1, j1'⟩, ⟨j3, j3'⟩, ⟨j5, j5'⟩, ⟨j8, j8'⟩, ⟨j9, j9'⟩, ⟨j12, j12'⟩, ⟨j14, j14'⟩, ⟨j17, j17'⟩, j81, jW⟩ := id hX
  refine lv_aload_n hx hb dX11_as_0 rfl (lv_at hl 0 rfl) ?_
  refine x_get (σ := σ) (v := .ref (g.2.2 101)) (fs := xF0 g ρ σ) 11 0 C0 uw_11 dc_11 hK hP rfl rfl 0 (by decide) rfl w_229 dX11_as_1 ?_
  refine lv_iload_n hx hb dX11_as_4 rfl (lv_at hl 1 rfl) ?_
  refine x_sa (σ := σ) (ρ := ρ) (dt := dt) (rest := []) C0 hK hP hDD hB cf_X5_stickAt w_586 (k_X5_stickAt l g ρ dt σ a1 hX) (F := (f_X5_stickAt ρ σ a1)) ⟨by decide, by decide⟩ hl.1 (Nat.le_of_ble_eq_true rfl) dX11_as_5 ?_
  by_cases c_5 : (f_X5_stickAt ρ σ a1) = none
  · have hT := hT_pos c_5 hT
    rw [va_rf_none c_5]
    refine lv_astore_nN (lv' := [(3, .null), (0, .ref (g.2.2 100)), (1, .int (a1)), (2, .int (a2))]) hx hb dX11_as_8 rfl hl (by decide) rfl (fun ls hl => ?_)
    refine lv_aload_nN hx hb dX11_as_9 rfl (lv_at hl 0 rfl) ?_
    refine lv_ifnullN (tgt := 23) hx hb dX11_as_10 (by decide) ?_
    refine lv_iconst (v := (-1 : Int32)) hx hb dX11_as_23 (by decide) ?_
    exact ret_PI C0 hT dX11_as_24
  · have hT := hT_neg c_5 hT
    rw [va_rf_some c_5]
    have s_5 := sa_in c_5
    refine lv_astore_n (lv' := [(3, .ref ((rf (f_X5_stickAt ρ σ a1)))), (0, .ref (g.2.2 100)), (1, .int (a1)), (2, .int (a2))]) hx hb dX11_as_8 rfl hl (by decide) rfl (fun ls hl => ?_)
    refine lv_aload_n hx hb dX11_as_9 rfl (lv_at hl 0 rfl) ?_
    refine lv_ifnull hx hb dX11_as_10 ?_
    refine lv_iload_n hx hb dX11_as_13 rfl (lv_at hl 3 rfl) ?_
    refine lv_if_lt (tgt := 23) hx hb dX11_as_14 (by decide) (fun c_14 => ?_) (fun c_14 => ?_)
    · have hT := hT_pos c_14 hT
      refine lv_iconst (v := (-1 : Int32)) hx hb dX11_as_23 (by decide) ?_
      exact ret_PI C0 hT dX11_as_24
    · have hT := hT_neg c_14 hT
      refine lv_iload_n hx hb dX11_as_17 rfl (lv_at hl 3 rfl) ?_
      refine lv_bipush (v := (7 : Int32)) hx hb dX11_as_18 (by decide) ?_
      refine lv_icmp_lt (tgt := 25) hx hb dX11_as_20 (by decide) (fun c_20 => ?_) (fun c_20 => ?_)
      · have hT := hT_pos c_20 hT
        refine lv_aload_n hx hb dX11_as_25 rfl (lv_at hl 0 rfl) ?_
        refine sk_get (d := dt (rf (f_X5_stickAt ρ σ a1))) 1 C0 hK (XH.sk hB (Or.inl (sa_some c_5))) (by decide) w_484 (fun _ h => h) dX11_as_26 ?_
        refine lv_istore (lv' := [(4, .int ((dt (rf (f_X5_stickAt ρ σ a1)) 1))), (3, .ref ((rf (f_X5_stickAt ρ σ a1)))), (0, .ref (g.2.2 100)), (1, .int (a1)), (2, .int (a2))]) hx hb dX11_as_29 hl (by decide) rfl (fun ls hl => ?_)
        refine lv_iconst (v := (0 : Int32)) hx hb dX11_as_31 (by decide) ?_
        refine lv_istore (lv' := [(5, .int ((0 : Int32))), (4, .int ((dt (rf (f_X5_stickAt ρ σ a1)) 1))), (3, .ref ((rf (f_X5_stickAt ρ σ a1)))), (0, .ref (g.2.2 100)), (1, .int (a1)), (2, .int (a2))]) hx hb dX11_as_32 hl (by decide) rfl (fun ls hl => ?_)
        have j32_h5 : 0 ≤ (0 : Int32).toInt := by
          have : ((0 : Int32)).toInt = 0 := by decide
          have : ((7 : Int32)).toInt = 7 := by decide
          have := mt ti_lt.mpr c_14
          have := ti_lt.mp c_20
          omega
        have j32_m : (7 - (0 : Int32).toInt).toNat < 8 := by
          have : ((0 : Int32)).toInt = 0 := by decide
          have : ((7 : Int32)).toInt = 7 := by decide
          have := mt ti_lt.mpr c_14
          have := ti_lt.mp c_20
          omega
        exact l_X11_as_34 (g := g) (ρ := ρ) (dt := dt) (t := t) C0   (8) σ a2 (rf (f_X5_stickAt ρ σ a1)) (dt (rf (f_X5_stickAt ρ σ a1)) 1) (0 : Int32) hX ⟨_, (sa_some c_5)⟩ j32_h5 j32_m hK hP hDD hB hZ hZT (lv_sub hl [3, 5, 2, 1, 0] rfl) hT
      · have hT := hT_neg c_20 hT
        refine lv_iconst (v := (-1 : Int32)) hx hb dX11_as_23 (by decide) ?_
        exact ret_PI C0 hT dX11_as_24
