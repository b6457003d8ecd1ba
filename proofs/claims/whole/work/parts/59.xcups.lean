set_option maxRecDepth 20000 in
theorem w_814 : (Cond.code yJ7_fill_53178 cJ7_fill_53178 4 none) ∈ TB := inTB (List.mem_of_getElem? (i := 814) (by decide +kernel)) (by decide +kernel)
set_option maxRecDepth 20000 in
theorem w_813 : (Cond.static yJ7_fill_53178) ∈ TB := inTB (List.mem_of_getElem? (i := 813) (by decide +kernel)) (by decide +kernel)
theorem cf_J7_fill_53178 : CG yJ7_fill_53178 cJ7_fill_53178 4 none 2 := ⟨w_813, w_83, w_814, by decide +kernel, by decide +kernel, by decide +kernel⟩
set_option maxRecDepth 20000 in
theorem w_812 : (Cond.methodLink RX11 243 yJ7_fill_53178) ∈ TB := inTB (List.mem_of_getElem? (i := 812) (by decide +kernel)) (by decide +kernel)
theorem dJ7_fill_53178_0 : decode cJ7_fill_53178 0 = .ok (.iconst 0, 1) := by decide +kernel
theorem dJ7_fill_53178_1 : decode cJ7_fill_53178 1 = .ok (.istore_n 2, 1) := by decide +kernel
theorem dJ7_fill_53178_2 : decode cJ7_fill_53178 2 = .ok (.aload_n 0, 1) := by decide +kernel
theorem dJ7_fill_53178_3 : decode cJ7_fill_53178 3 = .ok (.arraylength, 1) := by decide +kernel
theorem dJ7_fill_53178_4 : decode cJ7_fill_53178 4 = .ok (.istore_n 3, 1) := by decide +kernel
theorem dJ7_fill_53178_5 : decode cJ7_fill_53178 5 = .ok (.iload_n 2, 1) := by decide +kernel
theorem dJ7_fill_53178_6 : decode cJ7_fill_53178 6 = .ok (.iload_n 3, 1) := by decide +kernel
theorem dJ7_fill_53178_7 : decode cJ7_fill_53178 7 = .ok (.if_icmp .ge 13, 3) := by decide +kernel
theorem dJ7_fill_53178_10 : decode cJ7_fill_53178 10 = .ok (.aload_n 0, 1) := by decide +kernel
theorem dJ7_fill_53178_11 : decode cJ7_fill_53178 11 = .ok (.iload_n 2, 1) := by decide +kernel
theorem dJ7_fill_53178_12 : decode cJ7_fill_53178 12 = .ok (.iload_n 1, 1) := by decide +kernel
theorem dJ7_fill_53178_13 : decode cJ7_fill_53178 13 = .ok (.iastore, 1) := by decide +kernel
theorem dJ7_fill_53178_14 : decode cJ7_fill_53178 14 = .ok (.iinc 2 1, 3) := by decide +kernel
theorem dJ7_fill_53178_17 : decode cJ7_fill_53178 17 = .ok (.goto (-12), 3) := by decide +kernel
theorem dJ7_fill_53178_20 : decode cJ7_fill_53178 20 = .ok (.return_, 1) := by decide +kernel
/-! CUPS, THE CLASS'S -/
theorem k_fill (l : Launch) (g : GG) (b n : Nat) (hn : n < 2 ^ 20) (f : Nat → Int32) (v : Int32) : Met l yJ7_fill_53178 (wsF yJ7_fill_53178 cJ7_fill_53178 4 none) { frames := 0, cells := 0, slots := 0, locals := 0 } (va_Pc [.ref b, .int v] (fun U => KK g U ∧ va_P g.1 vwCl [(b, .inl (g.2.1 0, n, .inl f))] U.heap)) (va_Qv (fun _ : Unit => True) (fun _ t => va_P g.1 vwCl [(b, .inl (g.2.1 0, n, .inl (fun j => if j < n then v else f j)))] t.heap) (fun z => z = b)) 0 0 (fun z => z = b) := by
  refine start_X (by decide) (Nat.le_of_ble_eq_true rfl) ?_
  intro p e s m args below meth c C0 hin hB ls hl
  obtain ⟨hx, hb, hr, hml, hown, hts, hlocks⟩ := id C0
  obtain ⟨hK, hP⟩ := hB
  have hn : n < 1048576 := hn
  have hl : lv_has ls 4 [(0, .ref b), (1, .int v)] := hl
  have hS : va_S (fun z => z = b) s.heap s.heap [] := va_S.rf
  have loop : ∀ (j k : Nat), k + j = n → ∀ (ls : Array Slot) (H : Heap) (locs : List Loc), lv_has ls 4 [(2, .int (nI k)), (3, .int (nI n)), (0, .ref b), (1, .int v)] → va_P g.1 vwCl [(b, .inl (g.2.1 0, n, .inl (fun j => if j < k then v else f j)))] H → va_S (fun z => z = b) s.heap H locs → W p l e { frames := 0, cells := 0, slots := 0, locals := 0 } s m args below meth c H locs 0 0 (MQ below (va_Qv (fun _ : Unit => True) (fun _ t => va_P g.1 vwCl [(b, .inl (g.2.1 0, n, .inl (fun j => if j < n then v else f j)))] t.heap) (fun z => z = b)) args s 0 0 (fun z => z = b)) (F0 m 5 ls []) := by
    intro j
    induction j with
    | zero =>
      intro k hk ls H locs hl hP hS
      have hk : k = n := by omega
      subst hk
      refine lv_iload_n hx hb dJ7_fill_53178_5 rfl (lv_at hl 0 rfl) ?_
      refine lv_iload_n hx hb dJ7_fill_53178_6 rfl (lv_at hl 1 rfl) ?_
      refine lv_icmp_ge (tgt := 20) hx hb dJ7_fill_53178_7 (by decide) (fun _ => ?_) (fun z => absurd ((nI_leI (by omega) (by omega)).mpr (Nat.le_refl k)) z)
      exact W.vret hx hb hr (fun t ht _ => ⟨⟨(), rfl, trivial, by show va_P g.1 vwCl _ t.heap; rw [ht]; exact hP⟩, hS.F ht⟩) hS.2.2 dJ7_fill_53178_20 hlocks
    | succ j ih =>
      intro k hk ls H locs hl hP hS
      refine lv_iload_n hx hb dJ7_fill_53178_5 rfl (lv_at hl 0 rfl) ?_
      refine lv_iload_n hx hb dJ7_fill_53178_6 rfl (lv_at hl 1 rfl) ?_
      have hcl : (nI k).toNatClampNeg = k := nI_clamp (by omega)
      refine lv_icmp_ge (tgt := 20) hx hb dJ7_fill_53178_7 (by decide) (fun z => absurd ((nI_leI (a := n) (b := k) (by omega) (by omega)).mp z) (by omega)) (fun _ => ?_)
      refine lv_aload_n hx hb dJ7_fill_53178_10 rfl (lv_at hl 2 rfl) ?_
      refine lv_iload_n hx hb dJ7_fill_53178_11 rfl (lv_at hl 0 rfl) ?_
      refine lv_iload_n hx hb dJ7_fill_53178_12 rfl (lv_at hl 3 rfl) ?_
      refine va_iast hx hb hK.1 hP (va_D1 (A := fun z => z = b) rfl) hS 0 0 rfl rfl (vp_in_nI (by omega) (by omega)) dJ7_fill_53178_13 (fun H locs hP hD hS => ?_)
      rw [hcl] at hP
      have e : upd (fun j => if j < k then v else f j) k v = fun j => if j < k + 1 then v else f j := by
        funext i
        show (if i = k then v else if i < k then v else f i) = if i < k + 1 then v else f i
        by_cases e1 : i = k
        · rw [if_pos e1, if_pos (by omega)]
        · rw [if_neg e1]
          by_cases e2 : i < k
          · rw [if_pos e2, if_pos (by omega)]
          · rw [if_neg e2, if_neg (by omega)]
      have hP : va_P g.1 vwCl [(b, .inl (g.2.1 0, n, .inl (upd (fun j => if j < k then v else f j) k v)))] H := hP
      rw [e] at hP
      refine lv_iinc (v := nI (k + 1)) (lv' := [(2, .int (nI (k + 1))), (3, .int (nI n)), (0, .ref b), (1, .int v)]) hx hb dJ7_fill_53178_14 hl (k := 0) rfl (nI_1 k) (by decide) rfl (fun ls hl => ?_)
      refine lv_goto (tgt := 5) hx hb dJ7_fill_53178_17 (by decide) ?_
      exact ih (k + 1) (by omega) ls H locs hl hP hS
  refine lv_iconst (v := 0) hx hb dJ7_fill_53178_0 (by decide) ?_
  refine lv_istore_n (lv' := [(2, .int (nI 0)), (0, .ref b), (1, .int v)]) hx hb dJ7_fill_53178_1 rfl hl (by decide) rfl (fun ls hl => ?_)
  refine lv_aload_n hx hb dJ7_fill_53178_2 rfl (lv_at hl 1 rfl) ?_
  refine va_alen (v := nI n) hx hb hK.1 hP 0 0 rfl rfl rfl dJ7_fill_53178_3 ?_
  refine lv_istore_n (lv' := [(3, .int (nI n)), (2, .int (nI 0)), (0, .ref b), (1, .int v)]) hx hb dJ7_fill_53178_4 rfl hl (by decide) rfl (fun ls hl => ?_)
  exact loop n 0 (by omega) ls _ _ (lv_sub hl [1, 0, 2, 3] rfl) hP hS
theorem x_fill {p : Program} {l : Launch} {e : Env} {R : Room} {s : State} {m : MethodId} {args : Array Value} {below : List Frame} {meth : Method} {c : Code} {H : Heap} {locs : List Loc} {Q : State → Prop} {cc : ByteArray} {nL pc : Nat} {ret0 : Option FieldType} {ls : Array Slot} {rest : List Value} {g : GG} {ρ : RR} {σ : St} {A : Nat → Prop} {v : Int32} (C0 : BC p s m args meth c cc RX11 nL ret0) (hK : KK g s) (hC : WC g (xW g ρ) A s.heap σ H locs) (hR : 1 ≤ R.frames ∧ 23 ≤ R.locals) (hsz : ls.size = nL) (hW : (rest.map fun v => v.category).sum ≤ 8) (hdg : decode cc pc = .ok (.invokestatic 243, 3)) (kk : ∀ (H1 : Heap) (locs1 : List Loc), WC g (xW g ρ) A s.heap (upC σ 8 (fun j => if j < 1681 then v else σ 8 j)) H1 locs1 → W p l e R s m args below meth c H1 locs1 0 0 Q (F0 m (pc + 3) ls rest)) : W p l e R s m args below meth c H locs 0 0 Q (F0 m pc ls (.int v :: .ref (g.2.2 8) :: rest)) := by
  have h8 : va_at g.1 vwCl (g.2.2 8, .inl (g.2.1 0, 1681, .inl (σ 8))) H := hC.1 8 _ rfl
  have hA8 : A (g.2.2 8) := hC.2.1.2 8 _ rfl
  refine va_callv (run_S (rm := { frames := 0, cells := 0, slots := 0, locals := 0 }) (As := [.ref (g.2.2 8), .int v]) (rest := rest) C0 cf_J7_fill_53178 w_812 ⟨hR.1, by show 8 + (4 + 11) + 0 ≤ R.locals; exact hR.2⟩ (k_fill l g (g.2.2 8) 1681 (by decide) (σ 8) v) ⟨(show SV (fun U => KK g U ∧ va_P g.1 vwCl [(g.2.2 8, .inl (g.2.1 0, 1681, .inl (σ 8)))] U.heap) from fun U U' hh hv h => ⟨h.1.same hv, by rw [← hh]; exact h.2⟩).blind, fun U hU hW => ⟨rfl, hK.warm hW, by rw [hU]; exact va_P1 h8⟩⟩ rfl hsz rfl hW hdg ⟨Nat.zero_le _, Nat.zero_le _⟩) hC.2.2 (fun z hz h => by rw [h]; exact hA8) (fun z h => by rw [h]; exact hA8) (fun _ t1 H1 locs1 ht _ _ hP1 _ hk1 hS => ?_)
  have hP1 : va_P g.1 vwCl [(g.2.2 8, .inl (g.2.1 0, 1681, .inl (fun j => if j < 1681 then v else σ 8 j)))] H1 := by rw [← ht]; exact hP1
  refine kk H1 locs1 ⟨fun k x hx => ?_, va_D_adrs (xW_adr g ρ ρ σ _) hC.2.1, hS⟩
  by_cases k8 : k = 8
  · subst k8
    cases hx
    exact hP1 0 _ rfl
  · have hx2 : (xW g ρ σ)[k]? = some x := by
      have h := xs_8 g ρ σ (fun j => if j < 1681 then v else σ 8 j)
      rw [← h, List.getElem?_set_ne (fun z => k8 z.symm)] at hx
      exact hx
    exact (hC.1 k x hx2).kept (hk1 x.1 (hC.1 k x hx2).lt (fun z => k8 (hC.2.1.1 k 8 x _ hx2 rfl z)))
/-- an amount of both cups, as one number -/
def SP (c a b : Int32) : Prop := ∃ p q : Int, c.toInt = 41 * p + q ∧ 0 ≤ p ∧ p ≤ a.toInt ∧ 0 ≤ q ∧ q ≤ b.toInt
def CX (σ : St) (n a b : Int32) : Prop := ∀ i : Nat, (i : Int) < n.toInt → SP (σ 9 i) a b
theorem SP.num {c a b : Int32} (h : SP c a b) (ha : a.toInt ≤ 40) (hb : b.toInt ≤ 40) : 0 ≤ c.toInt ∧ c.toInt < 1681 := by
  obtain ⟨p, q, h1, h2, h3, h4, h5⟩ := h
  omega
theorem mi_b (x y : Int32) : (if y < x then y else x).toInt ≤ x.toInt ∧ (if y < x then y else x).toInt ≤ y.toInt ∧ ((if y < x then y else x).toInt = x.toInt ∨ (if y < x then y else x).toInt = y.toInt) := by
  split
  · rename_i h
    have := ti_lt.mp h
    omega
  · rename_i h
    have := mt ti_lt.mpr h
    omega
theorem SP.move {c a b m : Int32} (h : SP c a b) (ha : a.toInt ≤ 40) (hb : b.toInt ≤ 40) : SP (f_X11_afterMove (c / (41 : Int32)) (c - c / (41 : Int32) * (41 : Int32)) a b m) a b := by
  obtain ⟨p, q, hc, hp, hpa, hq, hqb⟩ := h
  have e41 : (41 : Int32).toInt = 41 := rfl
  have d5 := div_b (a := c) (b := 41) (n := 41) rfl (by decide) (by omega)
  have d6 := rem_b (a := c) (b := 41) (n := 41) rfl (by decide) (by omega)
  have d5 : (c / (41 : Int32)).toInt = p := by omega
  have d6 : (c - c / (41 : Int32) * (41 : Int32)).toInt = q := by omega
  generalize c - c / (41 : Int32) * (41 : Int32) = y at d6 ⊢
  generalize c / (41 : Int32) = x at d5 ⊢
  unfold f_X11_afterMove
  have s1 := ti_sub (a := b) (b := y) (by omega) (by omega)
  have s2 := ti_sub (a := a) (b := x) (by omega) (by omega)
  obtain ⟨l1, l2, l3⟩ := mi_b x (b - y)
  obtain ⟨k1, k2, k3⟩ := mi_b y (a - x)
  have f1 := ti_mulL (n := 41) (a := a) (b := 41) rfl (by omega) (by omega)
  have f2 := ti_add (a := a * 41) (b := y) (by omega) (by omega)
  have f3 := ti_mulL (n := 41) (a := x) (b := 41) rfl (by omega) (by omega)
  have f4 := ti_add (a := x * 41) (b := b) (by omega) (by omega)
  generalize (if b - y < x then b - y else x) = o at l1 l2 l3 ⊢
  generalize (if a - x < y then a - x else y) = u at k1 k2 k3 ⊢
  have g1 := ti_sub (a := x) (b := o) (by omega) (by omega)
  have g2 := ti_mulL (n := 41) (a := x - o) (b := 41) rfl (by omega) (by omega)
  have g3 := ti_add (a := (x - o) * 41) (b := y) (by omega) (by omega)
  have g4 := ti_add (a := (x - o) * 41 + y) (b := o) (by omega) (by omega)
  have h1 := ti_add (a := x) (b := u) (by omega) (by omega)
  have h2 := ti_mulL (n := 41) (a := x + u) (b := 41) rfl (by omega) (by omega)
  have h3 := ti_add (a := (x + u) * 41) (b := y) (by omega) (by omega)
  have h4 := ti_sub (a := (x + u) * 41 + y) (b := u) (by omega) (by omega)
  (repeat' split)
  · exact ⟨a.toInt, q, by omega, by omega, by omega, by omega, by omega⟩
  · exact ⟨p, b.toInt, by omega, by omega, by omega, by omega, by omega⟩
  · exact ⟨0, q, by omega, by omega, by omega, by omega, by omega⟩
  · exact ⟨p, 0, by omega, by omega, by omega, by omega, by omega⟩
  · exact ⟨p - o.toInt, q + o.toInt, by omega, by omega, by omega, by omega, by omega⟩
  · exact ⟨p + u.toInt, q - u.toInt, by omega, by omega, by omega, by omega, by omega⟩
theorem CX.one {σ : St} {a b : Int32} (ha : 0 ≤ a.toInt) (hb : 0 ≤ b.toInt) : CX (up2 σ 9 0 0) 1 a b := fun i hi => by
  have z1 : (1 : Int32).toInt = 1 := rfl
  have hi0 : i = 0 := by omega
  subst hi0
  exact ⟨0, 0, (by show (0 : Int32).toInt = 41 * 0 + 0; decide), by decide, ha, by decide, hb⟩
theorem CX.put {σ : St} {n a b c : Int32} {v : Int32} {j : Nat} (h : CX σ n a b) (hn : 0 ≤ n.toInt) (hn2 : n.toInt ≤ 1680) (hc : SP c a b) : CX (up2 (up2 σ 8 j v) 9 (ix n) c) (n + 1) a b := by
  intro i hi
  have e1 : (1 : Int32).toInt = 1 := rfl
  have q := ti_add (a := n) (b := 1) (by omega) (by omega)
  have qx := ti_ix hn
  show SP (if i = ix n then c else σ 9 i) a b
  by_cases e : i = ix n
  · rw [if_pos e]; exact hc
  · rw [if_neg e]; exact h i (by omega)
set_option maxRecDepth 20000 in
theorem w_815 : (Cond.methodLink RX11 249 yX11_afterMove) ∈ TB := inTB (List.mem_of_getElem? (i := 815) (by decide +kernel)) (by decide +kernel)
set_option maxRecDepth 20000 in
theorem w_817 : (Cond.code yX11_afterMove cX11_afterMove 7 (some .int)) ∈ TB := inTB (List.mem_of_getElem? (i := 817) (by decide +kernel)) (by decide +kernel)
set_option maxRecDepth 20000 in
theorem w_816 : (Cond.static yX11_afterMove) ∈ TB := inTB (List.mem_of_getElem? (i := 816) (by decide +kernel)) (by decide +kernel)
theorem cf_X11_afterMove : CG yX11_afterMove cX11_afterMove 7 (some .int) 5 := ⟨w_816, w_71, w_817, by decide +kernel, by decide +kernel, by decide +kernel⟩
set_option maxRecDepth 20000 in
theorem w_237 : (Cond.fieldLink RX11 49 RX11 "moves" "[I") ∈ TB := inTB (List.mem_of_getElem? (i := 237) (by decide +kernel)) (by decide +kernel)
set_option maxRecDepth 20000 in
theorem w_238 : (Cond.fieldLink RX11 52 RX11 "reached" "[I") ∈ TB := inTB (List.mem_of_getElem? (i := 238) (by decide +kernel)) (by decide +kernel)
/-! ThreeMeasures.cups -/
theorem dX11_cups_0 : decode cX11_cups 0 = .ok (.bipush 40, 2) := by decide +kernel
theorem dX11_cups_2 : decode cX11_cups 2 = .ok (.istore 4, 2) := by decide +kernel
theorem dX11_cups_4 : decode cX11_cups 4 = .ok (.iload_n 1, 1) := by decide +kernel
theorem dX11_cups_5 : decode cX11_cups 5 = .ok (.iconst 1, 1) := by decide +kernel
theorem dX11_cups_6 : decode cX11_cups 6 = .ok (.if_icmp .lt 30, 3) := by decide +kernel
theorem dX11_cups_9 : decode cX11_cups 9 = .ok (.iload_n 1, 1) := by decide +kernel
theorem dX11_cups_10 : decode cX11_cups 10 = .ok (.iload 4, 2) := by decide +kernel
theorem dX11_cups_12 : decode cX11_cups 12 = .ok (.if_icmp .gt 24, 3) := by decide +kernel
theorem dX11_cups_15 : decode cX11_cups 15 = .ok (.iload_n 2, 1) := by decide +kernel
theorem dX11_cups_16 : decode cX11_cups 16 = .ok (.iconst 1, 1) := by decide +kernel
theorem dX11_cups_17 : decode cX11_cups 17 = .ok (.if_icmp .lt 19, 3) := by decide +kernel
theorem dX11_cups_20 : decode cX11_cups 20 = .ok (.iload_n 2, 1) := by decide +kernel
theorem dX11_cups_21 : decode cX11_cups 21 = .ok (.iload 4, 2) := by decide +kernel
theorem dX11_cups_23 : decode cX11_cups 23 = .ok (.if_icmp .gt 13, 3) := by decide +kernel
theorem dX11_cups_26 : decode cX11_cups 26 = .ok (.iload_n 3, 1) := by decide +kernel
theorem dX11_cups_27 : decode cX11_cups 27 = .ok (.ifCond .lt 9, 3) := by decide +kernel
theorem dX11_cups_30 : decode cX11_cups 30 = .ok (.iload_n 3, 1) := by decide +kernel
theorem dX11_cups_31 : decode cX11_cups 31 = .ok (.iload 4, 2) := by decide +kernel
theorem dX11_cups_33 : decode cX11_cups 33 = .ok (.if_icmp .le 6, 3) := by decide +kernel
theorem dX11_cups_36 : decode cX11_cups 36 = .ok (.bipush (-2), 2) := by decide +kernel
theorem dX11_cups_38 : decode cX11_cups 38 = .ok (.ireturn, 1) := by decide +kernel
theorem dX11_cups_39 : decode cX11_cups 39 = .ok (.aload_n 0, 1) := by decide +kernel
theorem dX11_cups_40 : decode cX11_cups 40 = .ok (.getfield 49, 3) := by decide +kernel
theorem dX11_cups_43 : decode cX11_cups 43 = .ok (.iconst (-1), 1) := by decide +kernel
theorem dX11_cups_44 : decode cX11_cups 44 = .ok (.invokestatic 243, 3) := by decide +kernel
theorem dX11_cups_47 : decode cX11_cups 47 = .ok (.aload_n 0, 1) := by decide +kernel
theorem dX11_cups_48 : decode cX11_cups 48 = .ok (.getfield 49, 3) := by decide +kernel
theorem dX11_cups_51 : decode cX11_cups 51 = .ok (.iconst 0, 1) := by decide +kernel
theorem dX11_cups_52 : decode cX11_cups 52 = .ok (.iconst 0, 1) := by decide +kernel
theorem dX11_cups_53 : decode cX11_cups 53 = .ok (.iastore, 1) := by decide +kernel
theorem dX11_cups_54 : decode cX11_cups 54 = .ok (.aload_n 0, 1) := by decide +kernel
theorem dX11_cups_55 : decode cX11_cups 55 = .ok (.getfield 52, 3) := by decide +kernel
theorem dX11_cups_58 : decode cX11_cups 58 = .ok (.iconst 0, 1) := by decide +kernel
theorem dX11_cups_59 : decode cX11_cups 59 = .ok (.iconst 0, 1) := by decide +kernel
theorem dX11_cups_60 : decode cX11_cups 60 = .ok (.iastore, 1) := by decide +kernel
theorem dX11_cups_61 : decode cX11_cups 61 = .ok (.iconst 1, 1) := by decide +kernel
theorem dX11_cups_62 : decode cX11_cups 62 = .ok (.istore 5, 2) := by decide +kernel
theorem dX11_cups_64 : decode cX11_cups 64 = .ok (.iconst 0, 1) := by decide +kernel
theorem dX11_cups_65 : decode cX11_cups 65 = .ok (.istore 6, 2) := by decide +kernel
theorem dX11_cups_67 : decode cX11_cups 67 = .ok (.iload 6, 2) := by decide +kernel
theorem dX11_cups_69 : decode cX11_cups 69 = .ok (.iload 5, 2) := by decide +kernel
theorem dX11_cups_71 : decode cX11_cups 71 = .ok (.if_icmp .ge 137, 3) := by decide +kernel
theorem dX11_cups_74 : decode cX11_cups 74 = .ok (.iload 6, 2) := by decide +kernel
theorem dX11_cups_76 : decode cX11_cups 76 = .ok (.aload_n 0, 1) := by decide +kernel
theorem dX11_cups_77 : decode cX11_cups 77 = .ok (.getfield 52, 3) := by decide +kernel
theorem dX11_cups_80 : decode cX11_cups 80 = .ok (.arraylength, 1) := by decide +kernel
theorem dX11_cups_81 : decode cX11_cups 81 = .ok (.if_icmp .ge 127, 3) := by decide +kernel
theorem dX11_cups_84 : decode cX11_cups 84 = .ok (.aload_n 0, 1) := by decide +kernel
theorem dX11_cups_85 : decode cX11_cups 85 = .ok (.getfield 52, 3) := by decide +kernel
theorem dX11_cups_88 : decode cX11_cups 88 = .ok (.iload 6, 2) := by decide +kernel
theorem dX11_cups_90 : decode cX11_cups 90 = .ok (.iaload, 1) := by decide +kernel
theorem dX11_cups_91 : decode cX11_cups 91 = .ok (.istore 7, 2) := by decide +kernel
theorem dX11_cups_93 : decode cX11_cups 93 = .ok (.iload 7, 2) := by decide +kernel
theorem dX11_cups_95 : decode cX11_cups 95 = .ok (.bipush 41, 2) := by decide +kernel
theorem dX11_cups_97 : decode cX11_cups 97 = .ok (.idiv, 1) := by decide +kernel
theorem dX11_cups_98 : decode cX11_cups 98 = .ok (.iload_n 3, 1) := by decide +kernel
theorem dX11_cups_99 : decode cX11_cups 99 = .ok (.if_icmp .eq 12, 3) := by decide +kernel
theorem dX11_cups_102 : decode cX11_cups 102 = .ok (.iload 7, 2) := by decide +kernel
theorem dX11_cups_104 : decode cX11_cups 104 = .ok (.bipush 41, 2) := by decide +kernel
theorem dX11_cups_106 : decode cX11_cups 106 = .ok (.irem, 1) := by decide +kernel
theorem dX11_cups_107 : decode cX11_cups 107 = .ok (.iload_n 3, 1) := by decide +kernel
theorem dX11_cups_108 : decode cX11_cups 108 = .ok (.if_icmp .ne 11, 3) := by decide +kernel
theorem dX11_cups_111 : decode cX11_cups 111 = .ok (.aload_n 0, 1) := by decide +kernel
theorem dX11_cups_112 : decode cX11_cups 112 = .ok (.getfield 49, 3) := by decide +kernel
theorem dX11_cups_115 : decode cX11_cups 115 = .ok (.iload 7, 2) := by decide +kernel
theorem dX11_cups_117 : decode cX11_cups 117 = .ok (.iaload, 1) := by decide +kernel
theorem dX11_cups_118 : decode cX11_cups 118 = .ok (.ireturn, 1) := by decide +kernel
theorem dX11_cups_119 : decode cX11_cups 119 = .ok (.iconst 0, 1) := by decide +kernel
theorem dX11_cups_120 : decode cX11_cups 120 = .ok (.istore 8, 2) := by decide +kernel
theorem dX11_cups_122 : decode cX11_cups 122 = .ok (.iload 8, 2) := by decide +kernel
theorem dX11_cups_124 : decode cX11_cups 124 = .ok (.bipush 6, 2) := by decide +kernel
theorem dX11_cups_126 : decode cX11_cups 126 = .ok (.if_icmp .ge 76, 3) := by decide +kernel
theorem dX11_cups_129 : decode cX11_cups 129 = .ok (.iload 7, 2) := by decide +kernel
theorem dX11_cups_131 : decode cX11_cups 131 = .ok (.bipush 41, 2) := by decide +kernel
theorem dX11_cups_133 : decode cX11_cups 133 = .ok (.idiv, 1) := by decide +kernel
theorem dX11_cups_134 : decode cX11_cups 134 = .ok (.iload 7, 2) := by decide +kernel
theorem dX11_cups_136 : decode cX11_cups 136 = .ok (.bipush 41, 2) := by decide +kernel
theorem dX11_cups_138 : decode cX11_cups 138 = .ok (.irem, 1) := by decide +kernel
theorem dX11_cups_139 : decode cX11_cups 139 = .ok (.iload_n 1, 1) := by decide +kernel
theorem dX11_cups_140 : decode cX11_cups 140 = .ok (.iload_n 2, 1) := by decide +kernel
theorem dX11_cups_141 : decode cX11_cups 141 = .ok (.iload 8, 2) := by decide +kernel
theorem dX11_cups_143 : decode cX11_cups 143 = .ok (.invokestatic 249, 3) := by decide +kernel
theorem dX11_cups_146 : decode cX11_cups 146 = .ok (.istore 9, 2) := by decide +kernel
theorem dX11_cups_148 : decode cX11_cups 148 = .ok (.aload_n 0, 1) := by decide +kernel
theorem dX11_cups_149 : decode cX11_cups 149 = .ok (.getfield 49, 3) := by decide +kernel
theorem dX11_cups_152 : decode cX11_cups 152 = .ok (.iload 9, 2) := by decide +kernel
theorem dX11_cups_154 : decode cX11_cups 154 = .ok (.iaload, 1) := by decide +kernel
theorem dX11_cups_155 : decode cX11_cups 155 = .ok (.ifCond .ge 41, 3) := by decide +kernel
theorem dX11_cups_158 : decode cX11_cups 158 = .ok (.iload 5, 2) := by decide +kernel
theorem dX11_cups_160 : decode cX11_cups 160 = .ok (.aload_n 0, 1) := by decide +kernel
theorem dX11_cups_161 : decode cX11_cups 161 = .ok (.getfield 52, 3) := by decide +kernel
theorem dX11_cups_164 : decode cX11_cups 164 = .ok (.arraylength, 1) := by decide +kernel
theorem dX11_cups_165 : decode cX11_cups 165 = .ok (.if_icmp .ge 31, 3) := by decide +kernel
theorem dX11_cups_168 : decode cX11_cups 168 = .ok (.aload_n 0, 1) := by decide +kernel
theorem dX11_cups_169 : decode cX11_cups 169 = .ok (.getfield 49, 3) := by decide +kernel
theorem dX11_cups_172 : decode cX11_cups 172 = .ok (.iload 9, 2) := by decide +kernel
theorem dX11_cups_174 : decode cX11_cups 174 = .ok (.aload_n 0, 1) := by decide +kernel
theorem dX11_cups_175 : decode cX11_cups 175 = .ok (.getfield 49, 3) := by decide +kernel
theorem dX11_cups_178 : decode cX11_cups 178 = .ok (.iload 7, 2) := by decide +kernel
theorem dX11_cups_180 : decode cX11_cups 180 = .ok (.iaload, 1) := by decide +kernel
theorem dX11_cups_181 : decode cX11_cups 181 = .ok (.iconst 1, 1) := by decide +kernel
theorem dX11_cups_182 : decode cX11_cups 182 = .ok (.iadd, 1) := by decide +kernel
theorem dX11_cups_183 : decode cX11_cups 183 = .ok (.iastore, 1) := by decide +kernel
theorem dX11_cups_184 : decode cX11_cups 184 = .ok (.aload_n 0, 1) := by decide +kernel
theorem dX11_cups_185 : decode cX11_cups 185 = .ok (.getfield 52, 3) := by decide +kernel
theorem dX11_cups_188 : decode cX11_cups 188 = .ok (.iload 5, 2) := by decide +kernel
theorem dX11_cups_190 : decode cX11_cups 190 = .ok (.iload 9, 2) := by decide +kernel
theorem dX11_cups_192 : decode cX11_cups 192 = .ok (.iastore, 1) := by decide +kernel
theorem dX11_cups_193 : decode cX11_cups 193 = .ok (.iinc 5 1, 3) := by decide +kernel
theorem dX11_cups_196 : decode cX11_cups 196 = .ok (.iinc 8 1, 3) := by decide +kernel
theorem dX11_cups_199 : decode cX11_cups 199 = .ok (.goto (-77), 3) := by decide +kernel
theorem dX11_cups_202 : decode cX11_cups 202 = .ok (.iinc 6 1, 3) := by decide +kernel
theorem dX11_cups_205 : decode cX11_cups 205 = .ok (.goto (-138), 3) := by decide +kernel
theorem dX11_cups_208 : decode cX11_cups 208 = .ok (.bipush (-5), 2) := by decide +kernel
theorem dX11_cups_210 : decode cX11_cups 210 = .ok (.ireturn, 1) := by decide +kernel
def f_X11_cups_196 (K67 : St → Int32 → Int32 → Int32 → Int32 → Int32 → Int32 × St) (K122 : St → Int32 → Int32 → Int32 → Int32 → Int32 → Int32 → Int32 → Int32 × St) (σ : St) (a1 : Int32) (a2 : Int32) (a3 : Int32) (a5 : Int32) (a6 : Int32) (a7 : Int32) (a8 : Int32) : Int32 × St := (K122 σ a1 a2 a3 a5 a6 a7 (a8 + (1 : Int32)))
set_option maxHeartbeats 600000 in
set_option maxRecDepth 100000 in
theorem b_X11_cups_196 {g : GG} {ρ : RR} {dt : Nat → Nat → Int32} {p : Program} {l : Launch} {e : Env} {s : State} {m : MethodId} {args : Array Value} {below : List Frame} {meth : Method} {c : Code} {A : Nat → Prop} {tgt : Int32 × St} {K67 : St → Int32 → Int32 → Int32 → Int32 → Int32 → Int32 × St} {N67 : Nat} {K122 : St → Int32 → Int32 → Int32 → Int32 → Int32 → Int32 → Int32 → Int32 × St} {N122 : Nat}  (C0 : BC p s m args meth c cX11_cups RX11 10 (some .int)) (hK67 : ∀ (σ : St) (a1 : Int32) (a2 : Int32) (a3 : Int32) (a5 : Int32) (a6 : Int32), (1 ≤ a1.toInt ∧ a1.toInt ≤ 40) → (1 ≤ a2.toInt ∧ a2.toInt ≤ 40) → (1 ≤ a5.toInt) → (a5.toInt ≤ 1681) → (0 ≤ a6.toInt) → (CX σ a5 a1 a2) → (1682 - a6.toInt).toNat < N67 → ∀ {H : Heap} {locs : List Loc}, KK g s → WC g (xW g ρ) A s.heap σ H locs → XH g ρ dt s.heap → (∀ q, A q → q ∈ adrs (xW g (fun _ _ => none) (fun _ _ => 0))) → ∀ {ls : Array Slot}, lv_has ls 10 [(0, .ref (g.2.2 100)), (1, .int (a1)), (2, .int (a2)), (3, .int (a3)), (5, .int (a5)), (6, .int (a6))] → K67 σ a1 a2 a3 a5 a6 = tgt → W p l e { frames := 2, cells := 0, slots := 0, locals := 47 } s m args below meth c H locs 0 0 (QMI below args s g (xW g ρ) A tgt) (F0 m 67 ls [])) (hK122 : ∀ (σ : St) (a1 : Int32) (a2 : Int32) (a3 : Int32) (a5 : Int32) (a6 : Int32) (a7 : Int32) (a8 : Int32), (1 ≤ a1.toInt ∧ a1.toInt ≤ 40) → (1 ≤ a2.toInt ∧ a2.toInt ≤ 40) → (1 ≤ a5.toInt) → (a5.toInt ≤ 1681) → (0 ≤ a6.toInt) → (CX σ a5 a1 a2) → (a6.toInt < 1681) → ((1682 - a6.toInt).toNat < N67 + 1) → (SP a7 a1 a2) → (0 ≤ a8.toInt) → (a8.toInt ≤ 6) → (6 - a8.toInt).toNat < N122 → ∀ {H : Heap} {locs : List Loc}, KK g s → WC g (xW g ρ) A s.heap σ H locs → XH g ρ dt s.heap → (∀ q, A q → q ∈ adrs (xW g (fun _ _ => none) (fun _ _ => 0))) → ∀ {ls : Array Slot}, lv_has ls 10 [(0, .ref (g.2.2 100)), (1, .int (a1)), (2, .int (a2)), (3, .int (a3)), (5, .int (a5)), (6, .int (a6)), (7, .int (a7)), (8, .int (a8))] → K122 σ a1 a2 a3 a5 a6 a7 a8 = tgt → W p l e { frames := 2, cells := 0, slots := 0, locals := 47 } s m args below meth c H locs 0 0 (QMI below args s g (xW g ρ) A tgt) (F0 m 122 ls [])) {σ : St} {a1 : Int32} {a2 : Int32} {a3 : Int32} {a5 : Int32} {a6 : Int32} {a7 : Int32} {a8 : Int32} {H : Heap} {locs : List Loc} (r1 : 1 ≤ a1.toInt ∧ a1.toInt ≤ 40) (r2 : 1 ≤ a2.toInt ∧ a2.toInt ≤ 40) (h5 : 1 ≤ a5.toInt) (h5b : a5.toInt ≤ 1681) (h6 : 0 ≤ a6.toInt) (hCX : CX σ a5 a1 a2) (h6b : a6.toInt < 1681) (hm67 : (1682 - a6.toInt).toNat < N67 + 1) (h7 : SP a7 a1 a2) (h8 : 0 ≤ a8.toInt) (h8b : a8.toInt ≤ 6) (h8c : a8.toInt < 6) (hm122 : (6 - a8.toInt).toNat < N122 + 1)  (hK : KK g s) (hC : WC g (xW g ρ) A s.heap σ H locs) (hB : XH g ρ dt s.heap) (hA : ∀ q, A q → q ∈ adrs (xW g (fun _ _ => none) (fun _ _ => 0))) {ls : Array Slot} (hl : lv_has ls 10 [(0, .ref (g.2.2 100)), (1, .int (a1)), (2, .int (a2)), (3, .int (a3)), (5, .int (a5)), (6, .int (a6)), (7, .int (a7)), (8, .int (a8))]) (hT : f_X11_cups_196 K67 K122 σ a1 a2 a3 a5 a6 a7 a8 = tgt) : W p l e { frames := 2, cells := 0, slots := 0, locals := 47 } s m args below meth c H locs 0 0 (QMI below args s g (xW g ρ) A tgt) (F0 m 196 ls []) := by
  obtain ⟨hx, hb, hr, hml, hown, hts, hlocks⟩ := id C0
  unfold f_X11_cups_196 at hT
  have r1b := r1
  have r2b := r2
  have z41 : (41 : Int32).toInt = 41 := rfl
  refine lv_iinc (v := (a8 + (1 : Int32))) (lv' := [(8, .int ((a8 + (1 : Int32)))), (0, .ref (g.2.2 100)), (1, .int (a1)), (2, .int (a2)), (3, .int (a3)), (5, .int (a5)), (6, .int (a6)), (7, .int (a7))]) hx hb dX11_cups_196 hl (k := 7) rfl rfl (by decide) rfl (fun ls hl => ?_)
  refine lv_goto (tgt := 122) hx hb dX11_cups_199 (by decide) ?_
  have j199_h8 : 0 ≤ (a8 + (1 : Int32)).toInt := by
    have : ((1 : Int32)).toInt = 1 := by decide
    try have := ti_add (a := a8) (b := (1 : Int32)) (by omega) (by omega)
    omega
  have j199_h8b : (a8 + (1 : Int32)).toInt ≤ 6 := by
    have : ((1 : Int32)).toInt = 1 := by decide
    try have := ti_add (a := a8) (b := (1 : Int32)) (by omega) (by omega)
    omega
  have j199_m : (6 - (a8 + (1 : Int32)).toInt).toNat < N122 := by
    have : ((1 : Int32)).toInt = 1 := by decide
    try have := ti_add (a := a8) (b := (1 : Int32)) (by omega) (by omega)
    omega
  exact hK122 σ a1 a2 a3 a5 a6 a7 (a8 + (1 : Int32)) r1 r2 h5 h5b h6 hCX h6b hm67 h7 j199_h8 j199_h8b j199_m hK hC hB hA (lv_sub hl [1, 2, 3, 4, 5, 6, 7, 0] rfl) hT
def f_X11_cups_122 (K67 : St → Int32 → Int32 → Int32 → Int32 → Int32 → Int32 × St) (K122 : St → Int32 → Int32 → Int32 → Int32 → Int32 → Int32 → Int32 → Int32 × St) (σ : St) (a1 : Int32) (a2 : Int32) (a3 : Int32) (a5 : Int32) (a6 : Int32) (a7 : Int32) (a8 : Int32) : Int32 × St := (if (6 : Int32) ≤ a8 then (K67 σ a1 a2 a3 a5 (a6 + (1 : Int32))) else (if 0 ≤ (σ 8 (ix (f_X11_afterMove (a7 / (41 : Int32)) (a7 - a7 / (41 : Int32) * (41 : Int32)) a1 a2 a8))) then (f_X11_cups_196 K67 K122 σ a1 a2 a3 a5 a6 a7 a8) else (if (1681 : Int32) ≤ a5 then (f_X11_cups_196 K67 K122 σ a1 a2 a3 a5 a6 a7 a8) else (f_X11_cups_196 K67 K122 (up2 (up2 σ 8 (ix (f_X11_afterMove (a7 / (41 : Int32)) (a7 - a7 / (41 : Int32) * (41 : Int32)) a1 a2 a8)) ((σ 8 (ix a7)) + (1 : Int32))) 9 (ix a5) (f_X11_afterMove (a7 / (41 : Int32)) (a7 - a7 / (41 : Int32) * (41 : Int32)) a1 a2 a8)) a1 a2 a3 (a5 + (1 : Int32)) a6 a7 a8))))
set_option maxHeartbeats 600000 in
set_option maxRecDepth 100000 in
theorem b_X11_cups_122 {g : GG} {ρ : RR} {dt : Nat → Nat → Int32} {p : Program} {l : Launch} {e : Env} {s : State} {m : MethodId} {args : Array Value} {below : List Frame} {meth : Method} {c : Code} {A : Nat → Prop} {tgt : Int32 × St} {K67 : St → Int32 → Int32 → Int32 → Int32 → Int32 → Int32 × St} {N67 : Nat} {K122 : St → Int32 → Int32 → Int32 → Int32 → Int32 → Int32 → Int32 → Int32 × St} {N122 : Nat}  (C0 : BC p s m args meth c cX11_cups RX11 10 (some .int)) (hK67 : ∀ (σ : St) (a1 : Int32) (a2 : Int32) (a3 : Int32) (a5 : Int32) (a6 : Int32), (1 ≤ a1.toInt ∧ a1.toInt ≤ 40) → (1 ≤ a2.toInt ∧ a2.toInt ≤ 40) → (1 ≤ a5.toInt) → (a5.toInt ≤ 1681) → (0 ≤ a6.toInt) → (CX σ a5 a1 a2) → (1682 - a6.toInt).toNat < N67 → ∀ {H : Heap} {locs : List Loc}, KK g s → WC g (xW g ρ) A s.heap σ H locs → XH g ρ dt s.heap → (∀ q, A q → q ∈ adrs (xW g (fun _ _ => none) (fun _ _ => 0))) → ∀ {ls : Array Slot}, lv_has ls 10 [(0, .ref (g.2.2 100)), (1, .int (a1)), (2, .int (a2)), (3, .int (a3)), (5, .int (a5)), (6, .int (a6))] → K67 σ a1 a2 a3 a5 a6 = tgt → W p l e { frames := 2, cells := 0, slots := 0, locals := 47 } s m args below meth c H locs 0 0 (QMI below args s g (xW g ρ) A tgt) (F0 m 67 ls [])) (hK122 : ∀ (σ : St) (a1 : Int32) (a2 : Int32) (a3 : Int32) (a5 : Int32) (a6 : Int32) (a7 : Int32) (a8 : Int32), (1 ≤ a1.toInt ∧ a1.toInt ≤ 40) → (1 ≤ a2.toInt ∧ a2.toInt ≤ 40) → (1 ≤ a5.toInt) → (a5.toInt ≤ 1681) → (0 ≤ a6.toInt) → (CX σ a5 a1 a2) → (a6.toInt < 1681) → ((1682 - a6.toInt).toNat < N67 + 1) → (SP a7 a1 a2) → (0 ≤ a8.toInt) → (a8.toInt ≤ 6) → (6 - a8.toInt).toNat < N122 → ∀ {H : Heap} {locs : List Loc}, KK g s → WC g (xW g ρ) A s.heap σ H locs → XH g ρ dt s.heap → (∀ q, A q → q ∈ adrs (xW g (fun _ _ => none) (fun _ _ => 0))) → ∀ {ls : Array Slot}, lv_has ls 10 [(0, .ref (g.2.2 100)), (1, .int (a1)), (2, .int (a2)), (3, .int (a3)), (5, .int (a5)), (6, .int (a6)), (7, .int (a7)), (8, .int (a8))] → K122 σ a1 a2 a3 a5 a6 a7 a8 = tgt → W p l e { frames := 2, cells := 0, slots := 0, locals := 47 } s m args below meth c H locs 0 0 (QMI below args s g (xW g ρ) A tgt) (F0 m 122 ls [])) {σ : St} {a1 : Int32} {a2 : Int32} {a3 : Int32} {a5 : Int32} {a6 : Int32} {a7 : Int32} {a8 : Int32} {H : Heap} {locs : List Loc} (r1 : 1 ≤ a1.toInt ∧ a1.toInt ≤ 40) (r2 : 1 ≤ a2.toInt ∧ a2.toInt ≤ 40) (h5 : 1 ≤ a5.toInt) (h5b : a5.toInt ≤ 1681) (h6 : 0 ≤ a6.toInt) (hCX : CX σ a5 a1 a2) (h6b : a6.toInt < 1681) (hm67 : (1682 - a6.toInt).toNat < N67 + 1) (h7 : SP a7 a1 a2) (h8 : 0 ≤ a8.toInt) (h8b : a8.toInt ≤ 6) (hm : (6 - a8.toInt).toNat < N122 + 1) (hK : KK g s) (hC : WC g (xW g ρ) A s.heap σ H locs) (hB : XH g ρ dt s.heap) (hA : ∀ q, A q → q ∈ adrs (xW g (fun _ _ => none) (fun _ _ => 0))) {ls : Array Slot} (hl : lv_has ls 10 [(0, .ref (g.2.2 100)), (1, .int (a1)), (2, .int (a2)), (3, .int (a3)), (5, .int (a5)), (6, .int (a6)), (7, .int (a7)), (8, .int (a8))]) (hT : f_X11_cups_122 K67 K122 σ a1 a2 a3 a5 a6 a7 a8 = tgt) : W p l e { frames := 2, cells := 0, slots := 0, locals := 47 } s m args below meth c H locs 0 0 (QMI below args s g (xW g ρ) A tgt) (F0 m 122 ls []) := by
  obtain ⟨hx, hb, hr, hml, hown, hts, hlocks⟩ := id C0
  unfold f_X11_cups_122 at hT
  have r1b := r1
  have r2b := r2
  have z41 : (41 : Int32).toInt = 41 := rfl
  obtain ⟨v7, v7b⟩ := h7.num r1b.2 r2b.2
  refine lv_iload hx hb dX11_cups_122 (lv_at hl 7 rfl) ?_
  refine lv_bipush (v := (6 : Int32)) hx hb dX11_cups_124 (by decide) ?_
  refine lv_icmp_ge (tgt := 202) hx hb dX11_cups_126 (by decide) (fun c_126 => ?_) (fun c_126 => ?_)
  · have hT := hT_pos c_126 hT
    refine lv_iinc (v := (a6 + (1 : Int32))) (lv' := [(6, .int ((a6 + (1 : Int32)))), (0, .ref (g.2.2 100)), (1, .int (a1)), (2, .int (a2)), (3, .int (a3)), (5, .int (a5)), (7, .int (a7)), (8, .int (a8))]) hx hb dX11_cups_202 hl (k := 5) rfl rfl (by decide) rfl (fun ls hl => ?_)
    refine lv_goto (tgt := 67) hx hb dX11_cups_205 (by decide) ?_
    have j205_h6 : 0 ≤ (a6 + (1 : Int32)).toInt := by
      have : ((6 : Int32)).toInt = 6 := by decide
      have : ((1 : Int32)).toInt = 1 := by decide
      have := ti_le.mp c_126
      try have := ti_add (a := a6) (b := (1 : Int32)) (by omega) (by omega)
      omega
    have j205_m : (1682 - (a6 + (1 : Int32)).toInt).toNat < N67 := by
      have : ((6 : Int32)).toInt = 6 := by decide
      have : ((1 : Int32)).toInt = 1 := by decide
      have := ti_le.mp c_126
      try have := ti_add (a := a6) (b := (1 : Int32)) (by omega) (by omega)
      omega
    exact hK67 σ a1 a2 a3 a5 (a6 + (1 : Int32)) r1 r2 h5 h5b j205_h6 hCX j205_m hK hC hB hA (lv_sub hl [1, 2, 3, 4, 5, 0] rfl) hT
  · have hT := hT_neg c_126 hT
    refine lv_iload hx hb dX11_cups_129 (lv_at hl 6 rfl) ?_
    refine lv_bipush (v := (41 : Int32)) hx hb dX11_cups_131 (by decide) ?_
    refine lv_idiv hx hb dX11_cups_133 (by decide) ?_
    refine lv_iload hx hb dX11_cups_134 (lv_at hl 6 rfl) ?_
    refine lv_bipush (v := (41 : Int32)) hx hb dX11_cups_136 (by decide) ?_
    refine lv_irem hx hb dX11_cups_138 (by decide) ?_
    refine lv_iload_n hx hb dX11_cups_139 rfl (lv_at hl 1 rfl) ?_
    refine lv_iload_n hx hb dX11_cups_140 rfl (lv_at hl 2 rfl) ?_
    refine lv_iload hx hb dX11_cups_141 (lv_at hl 7 rfl) ?_
    refine s_ci (rest := []) (As := [.int ((a7 / (41 : Int32))), .int ((a7 - a7 / (41 : Int32) * (41 : Int32))), .int (a1), .int (a2), .int (a8)]) C0 cf_X11_afterMove w_815 (k_X11_afterMove l (a7 / (41 : Int32)) (a7 - a7 / (41 : Int32) * (41 : Int32)) a1 a2 a8 ) ⟨by decide, by decide⟩ hl.1 rfl rfl (Nat.le_of_ble_eq_true rfl) dX11_cups_143 ⟨Nat.zero_le _, Nat.zero_le _⟩ ?_
    refine lv_istore (lv' := [(9, .int ((f_X11_afterMove (a7 / (41 : Int32)) (a7 - a7 / (41 : Int32) * (41 : Int32)) a1 a2 a8))), (0, .ref (g.2.2 100)), (1, .int (a1)), (2, .int (a2)), (3, .int (a3)), (5, .int (a5)), (6, .int (a6)), (7, .int (a7)), (8, .int (a8))]) hx hb dX11_cups_146 hl (by decide) rfl (fun ls hl => ?_)
    refine lv_aload_n hx hb dX11_cups_148 rfl (lv_at hl 1 rfl) ?_
    refine x_get (σ := σ) (v := .ref (g.2.2 8)) (fs := xF0 g ρ σ) 11 0 C0 uw_11 dc_11 hK hC.1 rfl rfl 8 (by decide) rfl w_237 dX11_cups_149 ?_
    refine lv_iload hx hb dX11_cups_152 (lv_at hl 0 rfl) ?_
    have hSN := h7.move (m := a8) r1b.2 r2b.2
    obtain ⟨v9, v9b⟩ := hSN.num r1b.2 r2b.2
    have o_154 : vp_in (f_X11_afterMove (a7 / (41 : Int32)) (a7 - a7 / (41 : Int32) * (41 : Int32)) a1 a2 a8) 1681 := (vp_in_iff.mpr ⟨v9, v9b⟩)
    refine x_ald (σ := σ) C0 hK hC.1 8 8 1681 rfl o_154 (ix (f_X11_afterMove (a7 / (41 : Int32)) (a7 - a7 / (41 : Int32) * (41 : Int32)) a1 a2 a8)) rfl dX11_cups_154 ?_
    refine lv_if_ge (tgt := 196) hx hb dX11_cups_155 (by decide) (fun c_155 => ?_) (fun c_155 => ?_)
    · have hT := hT_pos c_155 hT
      have j155_h8c : a8.toInt < 6 := by
        have : ((6 : Int32)).toInt = 6 := by decide
        have : ((0 : Int32)).toInt = 0 := by decide
        have := mt ti_le.mpr c_126
        have := ti_le.mp c_155
        omega
      have j155_hm122 : (6 - a8.toInt).toNat < N122 + 1 := by
        have : ((6 : Int32)).toInt = 6 := by decide
        have : ((0 : Int32)).toInt = 0 := by decide
        have := mt ti_le.mpr c_126
        have := ti_le.mp c_155
        omega
      exact b_X11_cups_196 (g := g) (ρ := ρ) (dt := dt)  (σ := σ) (a1 := a1) (a2 := a2) (a3 := a3) (a5 := a5) (a6 := a6) (a7 := a7) (a8 := a8) C0 hK67 hK122 r1 r2 h5 h5b h6 hCX h6b hm67 h7 h8 h8b j155_h8c j155_hm122 hK hC hB hA (lv_sub hl [1, 2, 3, 4, 5, 6, 7, 8] rfl) hT
    · have hT := hT_neg c_155 hT
      refine lv_iload hx hb dX11_cups_158 (lv_at hl 5 rfl) ?_
      refine lv_aload_n hx hb dX11_cups_160 rfl (lv_at hl 1 rfl) ?_
      refine x_get (σ := σ) (v := .ref (g.2.2 9)) (fs := xF0 g ρ σ) 11 0 C0 uw_11 dc_11 hK hC.1 rfl rfl 9 (by decide) rfl w_238 dX11_cups_161 ?_
      refine x_alen (σ := σ) C0 hK hC.1 9 9 1681 rfl (v := (1681 : Int32)) (by decide) dX11_cups_164 ?_
      refine lv_icmp_ge (tgt := 196) hx hb dX11_cups_165 (by decide) (fun c_165 => ?_) (fun c_165 => ?_)
      · have hT := hT_pos c_165 hT
        have j165_h8c : a8.toInt < 6 := by
          have : ((6 : Int32)).toInt = 6 := by decide
          have : ((0 : Int32)).toInt = 0 := by decide
          have : ((1681 : Int32)).toInt = 1681 := by decide
          have := mt ti_le.mpr c_126
          have := mt ti_le.mpr c_155
          have := ti_le.mp c_165
          omega
        have j165_hm122 : (6 - a8.toInt).toNat < N122 + 1 := by
          have : ((6 : Int32)).toInt = 6 := by decide
          have : ((0 : Int32)).toInt = 0 := by decide
          have : ((1681 : Int32)).toInt = 1681 := by decide
          have := mt ti_le.mpr c_126
          have := mt ti_le.mpr c_155
          have := ti_le.mp c_165
          omega
        exact b_X11_cups_196 (g := g) (ρ := ρ) (dt := dt)  (σ := σ) (a1 := a1) (a2 := a2) (a3 := a3) (a5 := a5) (a6 := a6) (a7 := a7) (a8 := a8) C0 hK67 hK122 r1 r2 h5 h5b h6 hCX h6b hm67 h7 h8 h8b j165_h8c j165_hm122 hK hC hB hA (lv_sub hl [1, 2, 3, 4, 5, 6, 7, 8] rfl) hT
      · have hT := hT_neg c_165 hT
        refine lv_aload_n hx hb dX11_cups_168 rfl (lv_at hl 1 rfl) ?_
        refine x_get (σ := σ) (v := .ref (g.2.2 8)) (fs := xF0 g ρ σ) 11 0 C0 uw_11 dc_11 hK hC.1 rfl rfl 8 (by decide) rfl w_237 dX11_cups_169 ?_
        refine lv_iload hx hb dX11_cups_172 (lv_at hl 0 rfl) ?_
        refine lv_aload_n hx hb dX11_cups_174 rfl (lv_at hl 1 rfl) ?_
        refine x_get (σ := σ) (v := .ref (g.2.2 8)) (fs := xF0 g ρ σ) 11 0 C0 uw_11 dc_11 hK hC.1 rfl rfl 8 (by decide) rfl w_237 dX11_cups_175 ?_
        refine lv_iload hx hb dX11_cups_178 (lv_at hl 7 rfl) ?_
        have o_180 : vp_in a7 1681 := (vp_in_iff.mpr ⟨v7, v7b⟩)
        refine x_ald (σ := σ) C0 hK hC.1 8 8 1681 rfl o_180 (ix a7) rfl dX11_cups_180 ?_
        refine lv_iconst (v := (1 : Int32)) hx hb dX11_cups_181 (by decide) ?_
        refine lv_iadd hx hb dX11_cups_182 ?_
        have o_183 : vp_in (f_X11_afterMove (a7 / (41 : Int32)) (a7 - a7 / (41 : Int32) * (41 : Int32)) a1 a2 a8) 1681 := (vp_in_iff.mpr ⟨v9, v9b⟩)
        refine x_ast (σ := σ) C0 hK hC 8 8 1681 rfl (xs_8 g ρ _) o_183 (ix (f_X11_afterMove (a7 / (41 : Int32)) (a7 - a7 / (41 : Int32) * (41 : Int32)) a1 a2 a8)) rfl dX11_cups_183 (fun H locs hC => ?_)
        refine lv_aload_n hx hb dX11_cups_184 rfl (lv_at hl 1 rfl) ?_
        refine x_get (σ := (up2 σ 8 (ix (f_X11_afterMove (a7 / (41 : Int32)) (a7 - a7 / (41 : Int32) * (41 : Int32)) a1 a2 a8)) ((σ 8 (ix a7)) + (1 : Int32)))) (v := .ref (g.2.2 9)) (fs := xF0 g ρ (up2 σ 8 (ix (f_X11_afterMove (a7 / (41 : Int32)) (a7 - a7 / (41 : Int32) * (41 : Int32)) a1 a2 a8)) ((σ 8 (ix a7)) + (1 : Int32)))) 11 0 C0 uw_11 dc_11 hK hC.1 rfl rfl 9 (by decide) rfl w_238 dX11_cups_185 ?_
        refine lv_iload hx hb dX11_cups_188 (lv_at hl 5 rfl) ?_
        refine lv_iload hx hb dX11_cups_190 (lv_at hl 0 rfl) ?_
        have o_192 : vp_in a5 1681 := (vp_in_iff.mpr ⟨by omega, by have z := mt ti_le.mpr c_165; have z2 : (1681 : Int32).toInt = 1681 := rfl; omega⟩)
        refine x_ast (σ := (up2 σ 8 (ix (f_X11_afterMove (a7 / (41 : Int32)) (a7 - a7 / (41 : Int32) * (41 : Int32)) a1 a2 a8)) ((σ 8 (ix a7)) + (1 : Int32)))) C0 hK hC 9 9 1681 rfl (xs_9 g ρ _) o_192 (ix a5) rfl dX11_cups_192 (fun H locs hC => ?_)
        refine lv_iinc (v := (a5 + (1 : Int32))) (lv' := [(5, .int ((a5 + (1 : Int32)))), (9, .int ((f_X11_afterMove (a7 / (41 : Int32)) (a7 - a7 / (41 : Int32) * (41 : Int32)) a1 a2 a8))), (0, .ref (g.2.2 100)), (1, .int (a1)), (2, .int (a2)), (3, .int (a3)), (6, .int (a6)), (7, .int (a7)), (8, .int (a8))]) hx hb dX11_cups_193 hl (k := 5) rfl rfl (by decide) rfl (fun ls hl => ?_)
        have j193_h5 : 1 ≤ (a5 + (1 : Int32)).toInt := by
          have : ((6 : Int32)).toInt = 6 := by decide
          have : ((0 : Int32)).toInt = 0 := by decide
          have : ((1681 : Int32)).toInt = 1681 := by decide
          have : ((1 : Int32)).toInt = 1 := by decide
          have := mt ti_le.mpr c_126
          have := mt ti_le.mpr c_155
          have := mt ti_le.mpr c_165
          try have := ti_add (a := a5) (b := (1 : Int32)) (by omega) (by omega)
          omega
        have j193_h5b : (a5 + (1 : Int32)).toInt ≤ 1681 := by
          have : ((6 : Int32)).toInt = 6 := by decide
          have : ((0 : Int32)).toInt = 0 := by decide
          have : ((1681 : Int32)).toInt = 1681 := by decide
          have : ((1 : Int32)).toInt = 1 := by decide
          have := mt ti_le.mpr c_126
          have := mt ti_le.mpr c_155
          have := mt ti_le.mpr c_165
          try have := ti_add (a := a5) (b := (1 : Int32)) (by omega) (by omega)
          omega
        have j193_hCX : CX (up2 (up2 σ 8 (ix (f_X11_afterMove (a7 / (41 : Int32)) (a7 - a7 / (41 : Int32) * (41 : Int32)) a1 a2 a8)) ((σ 8 (ix a7)) + (1 : Int32))) 9 (ix a5) (f_X11_afterMove (a7 / (41 : Int32)) (a7 - a7 / (41 : Int32) * (41 : Int32)) a1 a2 a8)) (a5 + (1 : Int32)) a1 a2 := hCX.put (by omega) (by have z := mt ti_le.mpr c_165; have z2 : (1681 : Int32).toInt = 1681 := rfl; omega) hSN
        have j193_h8c : a8.toInt < 6 := by
          have : ((6 : Int32)).toInt = 6 := by decide
          have : ((0 : Int32)).toInt = 0 := by decide
          have : ((1681 : Int32)).toInt = 1681 := by decide
          have : ((1 : Int32)).toInt = 1 := by decide
          have := mt ti_le.mpr c_126
          have := mt ti_le.mpr c_155
          have := mt ti_le.mpr c_165
          try have := ti_add (a := a5) (b := (1 : Int32)) (by omega) (by omega)
          omega
        have j193_hm122 : (6 - a8.toInt).toNat < N122 + 1 := by
          have : ((6 : Int32)).toInt = 6 := by decide
          have : ((0 : Int32)).toInt = 0 := by decide
          have : ((1681 : Int32)).toInt = 1681 := by decide
          have : ((1 : Int32)).toInt = 1 := by decide
          have := mt ti_le.mpr c_126
          have := mt ti_le.mpr c_155
          have := mt ti_le.mpr c_165
          try have := ti_add (a := a5) (b := (1 : Int32)) (by omega) (by omega)
          omega
        exact b_X11_cups_196 (g := g) (ρ := ρ) (dt := dt)  (σ := (up2 (up2 σ 8 (ix (f_X11_afterMove (a7 / (41 : Int32)) (a7 - a7 / (41 : Int32) * (41 : Int32)) a1 a2 a8)) ((σ 8 (ix a7)) + (1 : Int32))) 9 (ix a5) (f_X11_afterMove (a7 / (41 : Int32)) (a7 - a7 / (41 : Int32) * (41 : Int32)) a1 a2 a8))) (a1 := a1) (a2 := a2) (a3 := a3) (a5 := (a5 + (1 : Int32))) (a6 := a6) (a7 := a7) (a8 := a8) C0 hK67 hK122 r1 r2 j193_h5 j193_h5b h6 j193_hCX h6b hm67 h7 h8 h8b j193_h8c j193_hm122 hK hC hB hA (lv_sub hl [2, 3, 4, 5, 0, 6, 7, 8] rfl) hT
def g_X11_cups_122 (K67 : St → Int32 → Int32 → Int32 → Int32 → Int32 → Int32 × St) : Nat → St → Int32 → Int32 → Int32 → Int32 → Int32 → Int32 → Int32 → Int32 × St
  | 0 => fun σ a1 a2 a3 a5 a6 a7 a8 => (0, σ)
  | n + 1 => fun σ a1 a2 a3 a5 a6 a7 a8 => f_X11_cups_122 K67 (g_X11_cups_122 K67 n) σ a1 a2 a3 a5 a6 a7 a8
theorem l_X11_cups_122 {g : GG} {ρ : RR} {dt : Nat → Nat → Int32} {p : Program} {l : Launch} {e : Env} {s : State} {m : MethodId} {args : Array Value} {below : List Frame} {meth : Method} {c : Code} {A : Nat → Prop} {tgt : Int32 × St} {K67 : St → Int32 → Int32 → Int32 → Int32 → Int32 → Int32 × St} {N67 : Nat}  (C0 : BC p s m args meth c cX11_cups RX11 10 (some .int)) (hK67 : ∀ (σ : St) (a1 : Int32) (a2 : Int32) (a3 : Int32) (a5 : Int32) (a6 : Int32), (1 ≤ a1.toInt ∧ a1.toInt ≤ 40) → (1 ≤ a2.toInt ∧ a2.toInt ≤ 40) → (1 ≤ a5.toInt) → (a5.toInt ≤ 1681) → (0 ≤ a6.toInt) → (CX σ a5 a1 a2) → (1682 - a6.toInt).toNat < N67 → ∀ {H : Heap} {locs : List Loc}, KK g s → WC g (xW g ρ) A s.heap σ H locs → XH g ρ dt s.heap → (∀ q, A q → q ∈ adrs (xW g (fun _ _ => none) (fun _ _ => 0))) → ∀ {ls : Array Slot}, lv_has ls 10 [(0, .ref (g.2.2 100)), (1, .int (a1)), (2, .int (a2)), (3, .int (a3)), (5, .int (a5)), (6, .int (a6))] → K67 σ a1 a2 a3 a5 a6 = tgt → W p l e { frames := 2, cells := 0, slots := 0, locals := 47 } s m args below meth c H locs 0 0 (QMI below args s g (xW g ρ) A tgt) (F0 m 67 ls [])) : ∀ (n : Nat) (σ : St) (a1 : Int32) (a2 : Int32) (a3 : Int32) (a5 : Int32) (a6 : Int32) (a7 : Int32) (a8 : Int32), (1 ≤ a1.toInt ∧ a1.toInt ≤ 40) → (1 ≤ a2.toInt ∧ a2.toInt ≤ 40) → (1 ≤ a5.toInt) → (a5.toInt ≤ 1681) → (0 ≤ a6.toInt) → (CX σ a5 a1 a2) → (a6.toInt < 1681) → ((1682 - a6.toInt).toNat < N67 + 1) → (SP a7 a1 a2) → (0 ≤ a8.toInt) → (a8.toInt ≤ 6) → (6 - a8.toInt).toNat < n → ∀ {H : Heap} {locs : List Loc}, KK g s → WC g (xW g ρ) A s.heap σ H locs → XH g ρ dt s.heap → (∀ q, A q → q ∈ adrs (xW g (fun _ _ => none) (fun _ _ => 0))) → ∀ {ls : Array Slot}, lv_has ls 10 [(0, .ref (g.2.2 100)), (1, .int (a1)), (2, .int (a2)), (3, .int (a3)), (5, .int (a5)), (6, .int (a6)), (7, .int (a7)), (8, .int (a8))] → g_X11_cups_122 K67 n σ a1 a2 a3 a5 a6 a7 a8 = tgt → W p l e { frames := 2, cells := 0, slots := 0, locals := 47 } s m args below meth c H locs 0 0 (QMI below args s g (xW g ρ) A tgt) (F0 m 122 ls []) := by
  intro n
  induction n with
  | zero => intro σ a1 a2 a3 a5 a6 a7 a8 r1 r2 h5 h5b h6 hCX h6b hm67 h7 h8 h8b hm; exact absurd hm (Nat.not_lt_zero _)
  | succ n ih =>
    intro σ a1 a2 a3 a5 a6 a7 a8 r1 r2 h5 h5b h6 hCX h6b hm67 h7 h8 h8b hm H locs hK hC hB hA ls hl hT
    exact b_X11_cups_122 (g := g) (ρ := ρ) (dt := dt)  (K122 := g_X11_cups_122 K67 n) (N122 := n) C0 hK67 (fun σ a1 a2 a3 a5 a6 a7 a8 r1 r2 h5 h5b h6 hCX h6b hm67 h7 h8 h8b hmq => ih σ a1 a2 a3 a5 a6 a7 a8 r1 r2 h5 h5b h6 hCX h6b hm67 h7 h8 h8b hmq) r1 r2 h5 h5b h6 hCX h6b hm67 h7 h8 h8b hm hK hC hB hA hl hT
def f_X11_cups_67 (K67 : St → Int32 → Int32 → Int32 → Int32 → Int32 → Int32 × St) (σ : St) (a1 : Int32) (a2 : Int32) (a3 : Int32) (a5 : Int32) (a6 : Int32) : Int32 × St := (if a5 ≤ a6 then ((-5 : Int32), σ) else (if (1681 : Int32) ≤ a6 then ((-5 : Int32), σ) else (if ((σ 9 (ix a6)) / (41 : Int32)) = a3 then ((σ 8 (ix (σ 9 (ix a6)))), σ) else (if ((σ 9 (ix a6)) - (σ 9 (ix a6)) / (41 : Int32) * (41 : Int32)) = a3 then ((σ 8 (ix (σ 9 (ix a6)))), σ) else (g_X11_cups_122 K67 (7) σ a1 a2 a3 a5 a6 (σ 9 (ix a6)) (0 : Int32))))))
set_option maxHeartbeats 600000 in
set_option maxRecDepth 100000 in
theorem b_X11_cups_67 {g : GG} {ρ : RR} {dt : Nat → Nat → Int32} {p : Program} {l : Launch} {e : Env} {s : State} {m : MethodId} {args : Array Value} {below : List Frame} {meth : Method} {c : Code} {A : Nat → Prop} {tgt : Int32 × St} {K67 : St → Int32 → Int32 → Int32 → Int32 → Int32 → Int32 × St} {N67 : Nat}  (C0 : BC p s m args meth c cX11_cups RX11 10 (some .int)) (hK67 : ∀ (σ : St) (a1 : Int32) (a2 : Int32) (a3 : Int32) (a5 : Int32) (a6 : Int32), (1 ≤ a1.toInt ∧ a1.toInt ≤ 40) → (1 ≤ a2.toInt ∧ a2.toInt ≤ 40) → (1 ≤ a5.toInt) → (a5.toInt ≤ 1681) → (0 ≤ a6.toInt) → (CX σ a5 a1 a2) → (1682 - a6.toInt).toNat < N67 → ∀ {H : Heap} {locs : List Loc}, KK g s → WC g (xW g ρ) A s.heap σ H locs → XH g ρ dt s.heap → (∀ q, A q → q ∈ adrs (xW g (fun _ _ => none) (fun _ _ => 0))) → ∀ {ls : Array Slot}, lv_has ls 10 [(0, .ref (g.2.2 100)), (1, .int (a1)), (2, .int (a2)), (3, .int (a3)), (5, .int (a5)), (6, .int (a6))] → K67 σ a1 a2 a3 a5 a6 = tgt → W p l e { frames := 2, cells := 0, slots := 0, locals := 47 } s m args below meth c H locs 0 0 (QMI below args s g (xW g ρ) A tgt) (F0 m 67 ls [])) {σ : St} {a1 : Int32} {a2 : Int32} {a3 : Int32} {a5 : Int32} {a6 : Int32} {H : Heap} {locs : List Loc} (r1 : 1 ≤ a1.toInt ∧ a1.toInt ≤ 40) (r2 : 1 ≤ a2.toInt ∧ a2.toInt ≤ 40) (h5 : 1 ≤ a5.toInt) (h5b : a5.toInt ≤ 1681) (h6 : 0 ≤ a6.toInt) (hCX : CX σ a5 a1 a2) (hm : (1682 - a6.toInt).toNat < N67 + 1) (hK : KK g s) (hC : WC g (xW g ρ) A s.heap σ H locs) (hB : XH g ρ dt s.heap) (hA : ∀ q, A q → q ∈ adrs (xW g (fun _ _ => none) (fun _ _ => 0))) {ls : Array Slot} (hl : lv_has ls 10 [(0, .ref (g.2.2 100)), (1, .int (a1)), (2, .int (a2)), (3, .int (a3)), (5, .int (a5)), (6, .int (a6))]) (hT : f_X11_cups_67 K67 σ a1 a2 a3 a5 a6 = tgt) : W p l e { frames := 2, cells := 0, slots := 0, locals := 47 } s m args below meth c H locs 0 0 (QMI below args s g (xW g ρ) A tgt) (F0 m 67 ls []) := by
  obtain ⟨hx, hb, hr, hml, hown, hts, hlocks⟩ := id C0
  unfold f_X11_cups_67 at hT
  have r1b := r1
  have r2b := r2
  have z41 : (41 : Int32).toInt = 41 := rfl
  refine lv_iload hx hb dX11_cups_67 (lv_at hl 5 rfl) ?_
  refine lv_iload hx hb dX11_cups_69 (lv_at hl 4 rfl) ?_
  refine lv_icmp_ge (tgt := 208) hx hb dX11_cups_71 (by decide) (fun c_71 => ?_) (fun c_71 => ?_)
  · have hT := hT_pos c_71 hT
    refine lv_bipush (v := (-5 : Int32)) hx hb dX11_cups_208 (by decide) ?_
    exact ret_MI C0 hC hT dX11_cups_210
  · have hT := hT_neg c_71 hT
    refine lv_iload hx hb dX11_cups_74 (lv_at hl 5 rfl) ?_
    refine lv_aload_n hx hb dX11_cups_76 rfl (lv_at hl 0 rfl) ?_
    refine x_get (σ := σ) (v := .ref (g.2.2 9)) (fs := xF0 g ρ σ) 11 0 C0 uw_11 dc_11 hK hC.1 rfl rfl 9 (by decide) rfl w_238 dX11_cups_77 ?_
    refine x_alen (σ := σ) C0 hK hC.1 9 9 1681 rfl (v := (1681 : Int32)) (by decide) dX11_cups_80 ?_
    refine lv_icmp_ge (tgt := 208) hx hb dX11_cups_81 (by decide) (fun c_81 => ?_) (fun c_81 => ?_)
    · have hT := hT_pos c_81 hT
      refine lv_bipush (v := (-5 : Int32)) hx hb dX11_cups_208 (by decide) ?_
      exact ret_MI C0 hC hT dX11_cups_210
    · have hT := hT_neg c_81 hT
      refine lv_aload_n hx hb dX11_cups_84 rfl (lv_at hl 0 rfl) ?_
      refine x_get (σ := σ) (v := .ref (g.2.2 9)) (fs := xF0 g ρ σ) 11 0 C0 uw_11 dc_11 hK hC.1 rfl rfl 9 (by decide) rfl w_238 dX11_cups_85 ?_
      refine lv_iload hx hb dX11_cups_88 (lv_at hl 5 rfl) ?_
      have v6 := mt ti_le.mpr c_71
      have v6x := ti_ix h6
      have hSP := hCX (ix a6) (by omega)
      obtain ⟨v7, v7b⟩ := hSP.num r1b.2 r2b.2
      have o_90 : vp_in a6 1681 := (vp_in_iff.mpr ⟨h6, by have z := mt ti_le.mpr c_81; have z2 : (1681 : Int32).toInt = 1681 := rfl; omega⟩)
      refine x_ald (σ := σ) C0 hK hC.1 9 9 1681 rfl o_90 (ix a6) rfl dX11_cups_90 ?_
      refine lv_istore (lv' := [(7, .int ((σ 9 (ix a6)))), (0, .ref (g.2.2 100)), (1, .int (a1)), (2, .int (a2)), (3, .int (a3)), (5, .int (a5)), (6, .int (a6))]) hx hb dX11_cups_91 hl (by decide) rfl (fun ls hl => ?_)
      refine lv_iload hx hb dX11_cups_93 (lv_at hl 0 rfl) ?_
      refine lv_bipush (v := (41 : Int32)) hx hb dX11_cups_95 (by decide) ?_
      refine lv_idiv hx hb dX11_cups_97 (by decide) ?_
      refine lv_iload_n hx hb dX11_cups_98 rfl (lv_at hl 4 rfl) ?_
      refine lv_icmp_eq (tgt := 111) hx hb dX11_cups_99 (by decide) (fun c_99 => ?_) (fun c_99 => ?_)
      · have hT := hT_pos c_99 hT
        refine lv_aload_n hx hb dX11_cups_111 rfl (lv_at hl 1 rfl) ?_
        refine x_get (σ := σ) (v := .ref (g.2.2 8)) (fs := xF0 g ρ σ) 11 0 C0 uw_11 dc_11 hK hC.1 rfl rfl 8 (by decide) rfl w_237 dX11_cups_112 ?_
        refine lv_iload hx hb dX11_cups_115 (lv_at hl 0 rfl) ?_
        have o_117 : vp_in (σ 9 (ix a6)) 1681 := (vp_in_iff.mpr ⟨v7, v7b⟩)
        refine x_ald (σ := σ) C0 hK hC.1 8 8 1681 rfl o_117 (ix (σ 9 (ix a6))) rfl dX11_cups_117 ?_
        exact ret_MI C0 hC hT dX11_cups_118
      · have hT := hT_neg c_99 hT
        refine lv_iload hx hb dX11_cups_102 (lv_at hl 0 rfl) ?_
        refine lv_bipush (v := (41 : Int32)) hx hb dX11_cups_104 (by decide) ?_
        refine lv_irem hx hb dX11_cups_106 (by decide) ?_
        refine lv_iload_n hx hb dX11_cups_107 rfl (lv_at hl 4 rfl) ?_
        refine lv_icmp_ne (tgt := 119) hx hb dX11_cups_108 (by decide) (fun c_108 => ?_) (fun c_108 => ?_)
        · have hT := hT_neg c_108 hT
          refine lv_iconst (v := (0 : Int32)) hx hb dX11_cups_119 (by decide) ?_
          refine lv_istore (lv' := [(8, .int ((0 : Int32))), (7, .int ((σ 9 (ix a6)))), (0, .ref (g.2.2 100)), (1, .int (a1)), (2, .int (a2)), (3, .int (a3)), (5, .int (a5)), (6, .int (a6))]) hx hb dX11_cups_120 hl (by decide) rfl (fun ls hl => ?_)
          have j120_h6b : a6.toInt < 1681 := by
            have : ((1681 : Int32)).toInt = 1681 := by decide
            have : ((0 : Int32)).toInt = 0 := by decide
            have := mt ti_le.mpr c_71
            have := mt ti_le.mpr c_81
            have := mt ti_eq.mpr c_99
            have := mt ti_eq.mpr c_108
            try have := div_b (a := (σ 9 (ix a6))) (b := (41 : Int32)) (n := 41) (by decide) (by omega) (by omega)
            try have := rem_b (a := (σ 9 (ix a6))) (b := (41 : Int32)) (n := 41) (by decide) (by omega) (by omega)
            omega
          have j120_hm67 : (1682 - a6.toInt).toNat < N67 + 1 := hm
          have j120_h7 : SP (σ 9 (ix a6)) a1 a2 := hSP
          have j120_h8 : 0 ≤ (0 : Int32).toInt := by
            have : ((1681 : Int32)).toInt = 1681 := by decide
            have : ((0 : Int32)).toInt = 0 := by decide
            have := mt ti_le.mpr c_71
            have := mt ti_le.mpr c_81
            have := mt ti_eq.mpr c_99
            have := mt ti_eq.mpr c_108
            try have := div_b (a := (σ 9 (ix a6))) (b := (41 : Int32)) (n := 41) (by decide) (by omega) (by omega)
            try have := rem_b (a := (σ 9 (ix a6))) (b := (41 : Int32)) (n := 41) (by decide) (by omega) (by omega)
            omega
          have j120_h8b : (0 : Int32).toInt ≤ 6 := by
            have : ((1681 : Int32)).toInt = 1681 := by decide
            have : ((0 : Int32)).toInt = 0 := by decide
            have := mt ti_le.mpr c_71
            have := mt ti_le.mpr c_81
            have := mt ti_eq.mpr c_99
            have := mt ti_eq.mpr c_108
            try have := div_b (a := (σ 9 (ix a6))) (b := (41 : Int32)) (n := 41) (by decide) (by omega) (by omega)
            try have := rem_b (a := (σ 9 (ix a6))) (b := (41 : Int32)) (n := 41) (by decide) (by omega) (by omega)
            omega
          have j120_m : (6 - (0 : Int32).toInt).toNat < 7 := by
            have z0 : (0 : Int32).toInt = 0 := rfl; omega
          exact l_X11_cups_122 (g := g) (ρ := ρ) (dt := dt)  C0 hK67  (7) σ a1 a2 a3 a5 a6 (σ 9 (ix a6)) (0 : Int32) r1 r2 h5 h5b h6 hCX j120_h6b j120_hm67 j120_h7 j120_h8 j120_h8b j120_m hK hC hB hA (lv_sub hl [2, 3, 4, 5, 6, 7, 1, 0] rfl) hT
        · have hT := hT_pos c_108 hT
          refine lv_aload_n hx hb dX11_cups_111 rfl (lv_at hl 1 rfl) ?_
          refine x_get (σ := σ) (v := .ref (g.2.2 8)) (fs := xF0 g ρ σ) 11 0 C0 uw_11 dc_11 hK hC.1 rfl rfl 8 (by decide) rfl w_237 dX11_cups_112 ?_
          refine lv_iload hx hb dX11_cups_115 (lv_at hl 0 rfl) ?_
          have o_117 : vp_in (σ 9 (ix a6)) 1681 := (vp_in_iff.mpr ⟨v7, v7b⟩)
          refine x_ald (σ := σ) C0 hK hC.1 8 8 1681 rfl o_117 (ix (σ 9 (ix a6))) rfl dX11_cups_117 ?_
          exact ret_MI C0 hC hT dX11_cups_118
def g_X11_cups_67  : Nat → St → Int32 → Int32 → Int32 → Int32 → Int32 → Int32 × St
  | 0 => fun σ a1 a2 a3 a5 a6 => (0, σ)
  | n + 1 => fun σ a1 a2 a3 a5 a6 => f_X11_cups_67  (g_X11_cups_67  n) σ a1 a2 a3 a5 a6
theorem l_X11_cups_67 {g : GG} {ρ : RR} {dt : Nat → Nat → Int32} {p : Program} {l : Launch} {e : Env} {s : State} {m : MethodId} {args : Array Value} {below : List Frame} {meth : Method} {c : Code} {A : Nat → Prop} {tgt : Int32 × St}   (C0 : BC p s m args meth c cX11_cups RX11 10 (some .int))  : ∀ (n : Nat) (σ : St) (a1 : Int32) (a2 : Int32) (a3 : Int32) (a5 : Int32) (a6 : Int32), (1 ≤ a1.toInt ∧ a1.toInt ≤ 40) → (1 ≤ a2.toInt ∧ a2.toInt ≤ 40) → (1 ≤ a5.toInt) → (a5.toInt ≤ 1681) → (0 ≤ a6.toInt) → (CX σ a5 a1 a2) → (1682 - a6.toInt).toNat < n → ∀ {H : Heap} {locs : List Loc}, KK g s → WC g (xW g ρ) A s.heap σ H locs → XH g ρ dt s.heap → (∀ q, A q → q ∈ adrs (xW g (fun _ _ => none) (fun _ _ => 0))) → ∀ {ls : Array Slot}, lv_has ls 10 [(0, .ref (g.2.2 100)), (1, .int (a1)), (2, .int (a2)), (3, .int (a3)), (5, .int (a5)), (6, .int (a6))] → g_X11_cups_67  n σ a1 a2 a3 a5 a6 = tgt → W p l e { frames := 2, cells := 0, slots := 0, locals := 47 } s m args below meth c H locs 0 0 (QMI below args s g (xW g ρ) A tgt) (F0 m 67 ls []) := by
  intro n
  induction n with
  | zero => intro σ a1 a2 a3 a5 a6 r1 r2 h5 h5b h6 hCX hm; exact absurd hm (Nat.not_lt_zero _)
  | succ n ih =>
    intro σ a1 a2 a3 a5 a6 r1 r2 h5 h5b h6 hCX hm H locs hK hC hB hA ls hl hT
    exact b_X11_cups_67 (g := g) (ρ := ρ) (dt := dt)  (K67 := g_X11_cups_67  n) (N67 := n) C0  (fun σ a1 a2 a3 a5 a6 r1 r2 h5 h5b h6 hCX hmq => ih σ a1 a2 a3 a5 a6 r1 r2 h5 h5b h6 hCX hmq) r1 r2 h5 h5b h6 hCX hm hK hC hB hA hl hT
def f_X11_cups (σ : St) (a1 : Int32) (a2 : Int32) (a3 : Int32) : Int32 × St := (if a1 < (1 : Int32) then ((-2 : Int32), σ) else (if (40 : Int32) < a1 then ((-2 : Int32), σ) else (if a2 < (1 : Int32) then ((-2 : Int32), σ) else (if (40 : Int32) < a2 then ((-2 : Int32), σ) else (if a3 < 0 then ((-2 : Int32), σ) else (if a3 ≤ (40 : Int32) then (g_X11_cups_67  (1683) (up2 (up2 (upC σ 8 (fun j => if j < 1681 then (-1 : Int32) else σ 8 j)) 8 0 (0 : Int32)) 9 0 (0 : Int32)) a1 a2 a3 (1 : Int32) (0 : Int32)) else ((-2 : Int32), σ)))))))
set_option maxHeartbeats 600000 in
set_option maxRecDepth 100000 in
theorem k_X11_cups (l : Launch) (g : GG) (ρ : RR) (dt : Nat → Nat → Int32)  (σ : St) (a1 : Int32) (a2 : Int32) (a3 : Int32)  : MI l yX11_cups (wsF yX11_cups cX11_cups 10 (some .int)) { frames := 2, cells := 0, slots := 0, locals := 47 } [.ref (g.2.2 100), .int (a1), .int (a2), .int (a3)] g (xW g ρ) (XB g ρ dt) σ (f_X11_cups σ a1 a2 a3) := by
  refine start_MI (by decide) (Nat.le_of_ble_eq_true rfl) ?_
  intro p e s m args below meth c C0 hK hB hC ls hl
  generalize hAe : aA ((xW g ρ) σ) = A at hC ⊢
  have hA : ∀ q, A q → q ∈ adrs (xW g (fun _ _ => none) (fun _ _ => 0)) := fun q h => by rw [← hAe] at h; exact h
  obtain ⟨hx, hb, hr, hml, hown, hts, hlocks⟩ := id C0
  have hl : lv_has ls 10 [(0, .ref (g.2.2 100)), (1, .int (a1)), (2, .int (a2)), (3, .int (a3))] := hl
  generalize hT : (f_X11_cups σ a1 a2 a3) = tgt
  suffices key : ∀ (H : Heap) (locs : List Loc), WC g (xW g ρ) A s.heap σ H locs → W p l e { frames := 2, cells := 0, slots := 0, locals := 47 } s m args below meth c H locs 0 0 (QMI below args s g (xW g ρ) A tgt) (F0 m 0 ls []) from key _ _ hC
  intro H locs hC
  unfold f_X11_cups at hT
  refine lv_bipush (v := (40 : Int32)) hx hb dX11_cups_0 (by decide) ?_
  refine lv_istore (lv' := [(4, .int ((40 : Int32))), (0, .ref (g.2.2 100)), (1, .int (a1)), (2, .int (a2)), (3, .int (a3))]) hx hb dX11_cups_2 hl (by decide) rfl (fun ls hl => ?_)
  refine lv_iload_n hx hb dX11_cups_4 rfl (lv_at hl 2 rfl) ?_
  refine lv_iconst (v := (1 : Int32)) hx hb dX11_cups_5 (by decide) ?_
  refine lv_icmp_lt (tgt := 36) hx hb dX11_cups_6 (by decide) (fun c_6 => ?_) (fun c_6 => ?_)
  · have hT := hT_pos c_6 hT
    refine lv_bipush (v := (-2 : Int32)) hx hb dX11_cups_36 (by decide) ?_
    exact ret_MI C0 hC hT dX11_cups_38
  · have hT := hT_neg c_6 hT
    refine lv_iload_n hx hb dX11_cups_9 rfl (lv_at hl 2 rfl) ?_
    refine lv_iload hx hb dX11_cups_10 (lv_at hl 0 rfl) ?_
    refine lv_icmp_gt (tgt := 36) hx hb dX11_cups_12 (by decide) (fun c_12 => ?_) (fun c_12 => ?_)
    · have hT := hT_pos c_12 hT
      refine lv_bipush (v := (-2 : Int32)) hx hb dX11_cups_36 (by decide) ?_
      exact ret_MI C0 hC hT dX11_cups_38
    · have hT := hT_neg c_12 hT
      refine lv_iload_n hx hb dX11_cups_15 rfl (lv_at hl 3 rfl) ?_
      refine lv_iconst (v := (1 : Int32)) hx hb dX11_cups_16 (by decide) ?_
      refine lv_icmp_lt (tgt := 36) hx hb dX11_cups_17 (by decide) (fun c_17 => ?_) (fun c_17 => ?_)
      · have hT := hT_pos c_17 hT
        refine lv_bipush (v := (-2 : Int32)) hx hb dX11_cups_36 (by decide) ?_
        exact ret_MI C0 hC hT dX11_cups_38
      · have hT := hT_neg c_17 hT
        refine lv_iload_n hx hb dX11_cups_20 rfl (lv_at hl 3 rfl) ?_
        refine lv_iload hx hb dX11_cups_21 (lv_at hl 0 rfl) ?_
        refine lv_icmp_gt (tgt := 36) hx hb dX11_cups_23 (by decide) (fun c_23 => ?_) (fun c_23 => ?_)
        · have hT := hT_pos c_23 hT
          refine lv_bipush (v := (-2 : Int32)) hx hb dX11_cups_36 (by decide) ?_
          exact ret_MI C0 hC hT dX11_cups_38
        · have hT := hT_neg c_23 hT
          refine lv_iload_n hx hb dX11_cups_26 rfl (lv_at hl 4 rfl) ?_
          refine lv_if_lt (tgt := 36) hx hb dX11_cups_27 (by decide) (fun c_27 => ?_) (fun c_27 => ?_)
          · have hT := hT_pos c_27 hT
            refine lv_bipush (v := (-2 : Int32)) hx hb dX11_cups_36 (by decide) ?_
            exact ret_MI C0 hC hT dX11_cups_38
          · have hT := hT_neg c_27 hT
            refine lv_iload_n hx hb dX11_cups_30 rfl (lv_at hl 4 rfl) ?_
            refine lv_iload hx hb dX11_cups_31 (lv_at hl 0 rfl) ?_
            refine lv_icmp_le (tgt := 39) hx hb dX11_cups_33 (by decide) (fun c_33 => ?_) (fun c_33 => ?_)
            · have hT := hT_pos c_33 hT
              refine lv_aload_n hx hb dX11_cups_39 rfl (lv_at hl 1 rfl) ?_
              refine x_get (σ := σ) (v := .ref (g.2.2 8)) (fs := xF0 g ρ σ) 11 0 C0 uw_11 dc_11 hK hC.1 rfl rfl 8 (by decide) rfl w_237 dX11_cups_40 ?_
              refine lv_iconst (v := (-1 : Int32)) hx hb dX11_cups_43 (by decide) ?_
              refine x_fill (σ := σ) (v := (-1 : Int32)) (rest := []) C0 hK hC ⟨by decide, by decide⟩ hl.1 (Nat.le_of_ble_eq_true rfl) dX11_cups_44 (fun H locs hC => ?_)
              refine lv_aload_n hx hb dX11_cups_47 rfl (lv_at hl 1 rfl) ?_
              refine x_get (σ := (upC σ 8 (fun j => if j < 1681 then (-1 : Int32) else σ 8 j))) (v := .ref (g.2.2 8)) (fs := xF0 g ρ (upC σ 8 (fun j => if j < 1681 then (-1 : Int32) else σ 8 j))) 11 0 C0 uw_11 dc_11 hK hC.1 rfl rfl 8 (by decide) rfl w_237 dX11_cups_48 ?_
              refine lv_iconst (v := (0 : Int32)) hx hb dX11_cups_51 (by decide) ?_
              refine lv_iconst (v := (0 : Int32)) hx hb dX11_cups_52 (by decide) ?_
              refine x_ast (σ := (upC σ 8 (fun j => if j < 1681 then (-1 : Int32) else σ 8 j))) C0 hK hC 8 8 1681 rfl (xs_8 g ρ _) (vin_l (by decide)) 0 (by decide) dX11_cups_53 (fun H locs hC => ?_)
              refine lv_aload_n hx hb dX11_cups_54 rfl (lv_at hl 1 rfl) ?_
              refine x_get (σ := (up2 (upC σ 8 (fun j => if j < 1681 then (-1 : Int32) else σ 8 j)) 8 0 (0 : Int32))) (v := .ref (g.2.2 9)) (fs := xF0 g ρ (up2 (upC σ 8 (fun j => if j < 1681 then (-1 : Int32) else σ 8 j)) 8 0 (0 : Int32))) 11 0 C0 uw_11 dc_11 hK hC.1 rfl rfl 9 (by decide) rfl w_238 dX11_cups_55 ?_
              refine lv_iconst (v := (0 : Int32)) hx hb dX11_cups_58 (by decide) ?_
              refine lv_iconst (v := (0 : Int32)) hx hb dX11_cups_59 (by decide) ?_
              refine x_ast (σ := (up2 (upC σ 8 (fun j => if j < 1681 then (-1 : Int32) else σ 8 j)) 8 0 (0 : Int32))) C0 hK hC 9 9 1681 rfl (xs_9 g ρ _) (vin_l (by decide)) 0 (by decide) dX11_cups_60 (fun H locs hC => ?_)
              refine lv_iconst (v := (1 : Int32)) hx hb dX11_cups_61 (by decide) ?_
              refine lv_istore (lv' := [(5, .int ((1 : Int32))), (4, .int ((40 : Int32))), (0, .ref (g.2.2 100)), (1, .int (a1)), (2, .int (a2)), (3, .int (a3))]) hx hb dX11_cups_62 hl (by decide) rfl (fun ls hl => ?_)
              refine lv_iconst (v := (0 : Int32)) hx hb dX11_cups_64 (by decide) ?_
              refine lv_istore (lv' := [(6, .int ((0 : Int32))), (5, .int ((1 : Int32))), (4, .int ((40 : Int32))), (0, .ref (g.2.2 100)), (1, .int (a1)), (2, .int (a2)), (3, .int (a3))]) hx hb dX11_cups_65 hl (by decide) rfl (fun ls hl => ?_)
              have j65_r1 : 1 ≤ a1.toInt ∧ a1.toInt ≤ 40 := by have z1 : (1 : Int32).toInt = 1 := rfl; have z40 : (40 : Int32).toInt = 40 := rfl; have := mt ti_lt.mpr c_6; have := mt ti_lt.mpr c_12; omega
              have j65_r2 : 1 ≤ a2.toInt ∧ a2.toInt ≤ 40 := by have z1 : (1 : Int32).toInt = 1 := rfl; have z40 : (40 : Int32).toInt = 40 := rfl; have := mt ti_lt.mpr c_17; have := mt ti_lt.mpr c_23; omega
              have j65_h5 : 1 ≤ (1 : Int32).toInt := by
                have : ((1 : Int32)).toInt = 1 := by decide
                have : ((40 : Int32)).toInt = 40 := by decide
                have : ((0 : Int32)).toInt = 0 := by decide
                have := mt ti_lt.mpr c_6
                have := mt ti_lt.mpr c_12
                have := mt ti_lt.mpr c_17
                have := mt ti_lt.mpr c_23
                have := mt ti_lt.mpr c_27
                have := ti_le.mp c_33
                omega
              have j65_h5b : (1 : Int32).toInt ≤ 1681 := by
                have : ((1 : Int32)).toInt = 1 := by decide
                have : ((40 : Int32)).toInt = 40 := by decide
                have : ((0 : Int32)).toInt = 0 := by decide
                have := mt ti_lt.mpr c_6
                have := mt ti_lt.mpr c_12
                have := mt ti_lt.mpr c_17
                have := mt ti_lt.mpr c_23
                have := mt ti_lt.mpr c_27
                have := ti_le.mp c_33
                omega
              have j65_h6 : 0 ≤ (0 : Int32).toInt := by
                have : ((1 : Int32)).toInt = 1 := by decide
                have : ((40 : Int32)).toInt = 40 := by decide
                have : ((0 : Int32)).toInt = 0 := by decide
                have := mt ti_lt.mpr c_6
                have := mt ti_lt.mpr c_12
                have := mt ti_lt.mpr c_17
                have := mt ti_lt.mpr c_23
                have := mt ti_lt.mpr c_27
                have := ti_le.mp c_33
                omega
              have j65_hCX : CX (up2 (up2 (upC σ 8 (fun j => if j < 1681 then (-1 : Int32) else σ 8 j)) 8 0 (0 : Int32)) 9 0 (0 : Int32)) (1 : Int32) a1 a2 := CX.one (by omega) (by omega)
              have j65_m : (1682 - (0 : Int32).toInt).toNat < 1683 := by
                have z0 : (0 : Int32).toInt = 0 := rfl; omega
              exact l_X11_cups_67 (g := g) (ρ := ρ) (dt := dt)  C0   (1683) (up2 (up2 (upC σ 8 (fun j => if j < 1681 then (-1 : Int32) else σ 8 j)) 8 0 (0 : Int32)) 9 0 (0 : Int32)) a1 a2 a3 (1 : Int32) (0 : Int32) j65_r1 j65_r2 j65_h5 j65_h5b j65_h6 j65_hCX j65_m hK hC hB hA (lv_sub hl [3, 4, 5, 6, 1, 0] rfl) hT
            · have hT := hT_neg c_33 hT
              refine lv_bipush (v := (-2 : Int32)) hx hb dX11_cups_36 (by decide) ?_
              exact ret_MI C0 hC hT dX11_cups_38
