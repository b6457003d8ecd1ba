
theorem va_D2 {A : Nat → Prop} {a b : Nat} {x y : va_E} (ha : A a) (hb : A b) (hab : a ≠ b) : va_D A [(a, x), (b, y)] := by
  refine ⟨fun i j p q h1 h2 e => ?_, fun k q h => ?_⟩
  · match i, j, h1, h2 with
    | 0, 0, _, _ => rfl
    | 1, 1, _, _ => rfl
    | 0, 1, h1, h2 => cases h1; cases h2; exact absurd e hab
    | 1, 0, h1, h2 => cases h1; cases h2; exact absurd e.symm hab
    | 0, k + 2, _, h2 => simp at h2
    | 1, k + 2, _, h2 => simp at h2
    | k + 2, _, h1, _ => simp at h1
  · match k, h with
    | 0, h => cases h; exact ha
    | 1, h => cases h; exact hb
    | k + 2, h => simp at h

set_option maxRecDepth 20000 in
theorem w_477 : (Cond.fieldLink RX8 15 RX8 "number" "I") ∈ TB := inTB (List.mem_of_getElem? (i := 477) (by decide +kernel)) (by decide +kernel)
set_option maxRecDepth 20000 in
theorem w_478 : (Cond.sameField RX8 RX6 "number" "I") ∈ TB := inTB (List.mem_of_getElem? (i := 478) (by decide +kernel)) (by decide +kernel)
set_option maxRecDepth 20000 in
theorem w_602 : (Cond.methodLink RX8 25 yJ7_copyOf_59c91) ∈ TB := inTB (List.mem_of_getElem? (i := 602) (by decide +kernel)) (by decide +kernel)
set_option maxRecDepth 20000 in
theorem w_431 : (Cond.code yJ7_copyOf_59c91 cJ7_copyOf_59c91 3 (some (.array .int))) ∈ TB := inTB (List.mem_of_getElem? (i := 431) (by decide +kernel)) (by decide +kernel)
set_option maxRecDepth 20000 in
theorem w_430 : (Cond.static yJ7_copyOf_59c91) ∈ TB := inTB (List.mem_of_getElem? (i := 430) (by decide +kernel)) (by decide +kernel)
set_option maxRecDepth 20000 in
theorem w_83 : (Cond.initialized RJ7) ∈ TB := inTB (List.mem_of_getElem? (i := 83) (by decide +kernel)) (by decide +kernel)
theorem cf_J7_copyOf_59c91 : CG yJ7_copyOf_59c91 cJ7_copyOf_59c91 3 (some (.array .int)) 2 := ⟨w_430, w_83, w_431, by decide +kernel, by decide +kernel, by decide +kernel⟩
theorem dX8_init__0 : decode cX8_init_ 0 = .ok (.aload_n 0, 1) := by decide +kernel
theorem dX8_init__1 : decode cX8_init_ 1 = .ok (.aload_n 1, 1) := by decide +kernel
theorem dX8_init__2 : decode cX8_init_ 2 = .ok (.getfield 15, 3) := by decide +kernel
theorem dX8_init__5 : decode cX8_init_ 5 = .ok (.bipush 6, 2) := by decide +kernel
theorem dX8_init__7 : decode cX8_init_ 7 = .ok (.aload_n 1, 1) := by decide +kernel
theorem dX8_init__8 : decode cX8_init_ 8 = .ok (.getfield 19, 3) := by decide +kernel
theorem dX8_init__11 : decode cX8_init_ 11 = .ok (.aload_n 1, 1) := by decide +kernel
theorem dX8_init__12 : decode cX8_init_ 12 = .ok (.getfield 22, 3) := by decide +kernel
theorem dX8_init__15 : decode cX8_init_ 15 = .ok (.invokespecial 3, 3) := by decide +kernel
theorem dX8_init__18 : decode cX8_init_ 18 = .ok (.aload_n 0, 1) := by decide +kernel
theorem dX8_init__19 : decode cX8_init_ 19 = .ok (.aload_n 1, 1) := by decide +kernel
theorem dX8_init__20 : decode cX8_init_ 20 = .ok (.getfield 9, 3) := by decide +kernel
theorem dX8_init__23 : decode cX8_init_ 23 = .ok (.iconst 4, 1) := by decide +kernel
theorem dX8_init__24 : decode cX8_init_ 24 = .ok (.invokestatic 25, 3) := by decide +kernel
theorem dX8_init__27 : decode cX8_init_ 27 = .ok (.putfield 9, 3) := by decide +kernel
theorem dX8_init__30 : decode cX8_init_ 30 = .ok (.iload_n 2, 1) := by decide +kernel
theorem dX8_init__31 : decode cX8_init_ 31 = .ok (.ifCond .lt 19, 3) := by decide +kernel
theorem dX8_init__34 : decode cX8_init_ 34 = .ok (.iload_n 2, 1) := by decide +kernel
theorem dX8_init__35 : decode cX8_init_ 35 = .ok (.aload_n 0, 1) := by decide +kernel
theorem dX8_init__36 : decode cX8_init_ 36 = .ok (.getfield 9, 3) := by decide +kernel
theorem dX8_init__39 : decode cX8_init_ 39 = .ok (.arraylength, 1) := by decide +kernel
theorem dX8_init__40 : decode cX8_init_ 40 = .ok (.if_icmp .ge 10, 3) := by decide +kernel
theorem dX8_init__43 : decode cX8_init_ 43 = .ok (.aload_n 0, 1) := by decide +kernel
theorem dX8_init__44 : decode cX8_init_ 44 = .ok (.getfield 9, 3) := by decide +kernel
theorem dX8_init__47 : decode cX8_init_ 47 = .ok (.iload_n 2, 1) := by decide +kernel
theorem dX8_init__48 : decode cX8_init_ 48 = .ok (.iload_n 3, 1) := by decide +kernel
theorem dX8_init__49 : decode cX8_init_ 49 = .ok (.iastore, 1) := by decide +kernel
theorem dX8_init__50 : decode cX8_init_ 50 = .ok (.return_, 1) := by decide +kernel
theorem k_X8_init_ (l : Launch) (g : GG) (h0 q a b : Nat) (d : Nat → Int32) (fs : List Value) (hfs : fs.length = 5) (a2 a3 : Int32) (h2 : 0 ≤ a2.toInt) (h23 : a2.toInt ≤ 3) (hqa : q ≠ a) (hqb : q ≠ b) : Met l yX8_init_ (wsF yX8_init_ cX8_init_ 4 none) { frames := 3, cells := 1, slots := 4, locals := 68 } (va_Pc [.ref q, .ref a, .int a2, .int a3] (fun U => OB g q 8 fs U ∧ U.heap.size = h0 ∧ va_at g.1 vwCl (a, .inr (8, [.int (d 0), .int 6, .int (d 2), .int (d 3), .ref b])) U.heap ∧ va_at g.1 vwCl (b, .inl (g.2.1 0, 4, .inl (fun j => d (4 + j)))) U.heap)) (va_Qv (fun b2 : Nat => h0 ≤ b2 ∧ b2 ≠ q) (fun b2 t => va_P g.1 vwCl [(q, .inr (8, (st4 fs (d 0) 6 (d 2) (d 3)).set 4 (.ref b2))), (b2, .inl (g.2.1 0, 4, .inl (upd (fun j => d (4 + j)) (ix a2) a3)))] t.heap) (fun z => z = q ∨ h0 ≤ z)) 1 4 (fun z => z = q ∨ h0 ≤ z) := by
  refine start_X (by decide) (Nat.le_of_ble_eq_true rfl) ?_
  intro p e s m args below meth c C0 hin hB ls hl
  obtain ⟨hx, hb, hr, hml, hown, hts, hlocks⟩ := id C0
  obtain ⟨⟨hK, hP⟩, hsz, hPa, hPb⟩ := hB
  have hl : lv_has ls 4 [(0, .ref q), (1, .ref a), (2, .int a2), (3, .int a3)] := hl
  have hah : a < h0 := by rw [← hsz]; exact hPa.lt
  have hbh : b < h0 := by rw [← hsz]; exact hPb.lt
  have hS : va_S (fun z => z = q ∨ h0 ≤ z) s.heap s.heap [] := va_S.rf
  refine lv_aload_n hx hb dX8_init__0 rfl (lv_at hl 0 rfl) ?_
  refine lv_aload_n hx hb dX8_init__1 rfl (lv_at hl 1 rfl) ?_
  refine va_get (D := g.1) (ci := 8) (C := RX8) (T := TX8) (N := 5) hx hb hts uw_8 hown hK.1 (va_P1 hPa) 0 rfl rfl 0 (by decide) (hts _ w_477) (fun x h => u_same (hts _ w_478) x h) rfl dX8_init__2 ?_
  refine lv_bipush (v := 6) hx hb dX8_init__5 (by decide) ?_
  refine lv_aload_n hx hb dX8_init__7 rfl (lv_at hl 1 rfl) ?_
  refine va_get (D := g.1) (ci := 8) (C := RX8) (T := TX8) (N := 5) hx hb hts uw_8 hown hK.1 (va_P1 hPa) 0 rfl rfl 2 (by decide) (hts _ w_488) (fun x h => u_same (hts _ w_489) x h) rfl dX8_init__8 ?_
  refine lv_aload_n hx hb dX8_init__11 rfl (lv_at hl 1 rfl) ?_
  refine va_get (D := g.1) (ci := 8) (C := RX8) (T := TX8) (N := 5) hx hb hts uw_8 hown hK.1 (va_P1 hPa) 0 rfl rfl 3 (by decide) (hts _ w_503) (fun x h => u_same (hts _ w_504) x h) rfl dX8_init__12 ?_
  refine ob_call (As := [.int (d 0), .int 6, .int (d 2), .int (d 3)]) (rest := []) C0 ci_X0_init w_565 (k_X0_init l g q obk_8 fs hfs (d 0) 6 (d 2) (d 3)) ⟨by decide, by decide⟩ hK hP hS (Or.inl rfl) rfl hl.1 rfl (Nat.le_of_ble_eq_true rfl) dX8_init__15 ⟨Nat.zero_le _, Nat.zero_le _⟩ (fun H locs hP hS => ?_)
  have hPa := hPa.kept (H1 := H) (hS.2.1 a (by omega) (fun z => by rcases z with z | z; exact hqa z.symm; omega))
  have hPb := hPb.kept (H1 := H) (hS.2.1 b (by omega) (fun z => by rcases z with z | z; exact hqb z.symm; omega))
  refine lv_aload_n hx hb dX8_init__18 rfl (lv_at hl 0 rfl) ?_
  refine lv_aload_n hx hb dX8_init__19 rfl (lv_at hl 1 rfl) ?_
  refine va_get (D := g.1) (ci := 8) (C := RX8) (T := TX8) (N := 5) hx hb hts uw_8 hown hK.1 (va_P1 hPa) 0 rfl rfl 4 (by decide) (hts _ w_566) (fun _ h => h) rfl dX8_init__20 ?_
  refine lv_iconst (v := 4) hx hb dX8_init__23 (by decide) ?_
  refine va_callr (run_S (rm := { frames := 1, cells := 1, slots := 4, locals := 30 }) (As := [.ref b, .int (nI 4)]) (rest := [.ref q]) C0 cf_J7_copyOf_59c91 w_602 ⟨by decide, by decide⟩ (k_copyOf_same l g H.size b 4 (by decide) (fun j => d (4 + j))) ⟨(show SV (fun U => KK g U ∧ va_P g.1 vwCl [(b, .inl (g.2.1 0, 4, .inl (fun j => d (4 + j))))] U.heap ∧ U.heap.size = H.size) from fun U U' hh hv h => ⟨h.1.same hv, by rw [← hh]; exact h.2.1, by rw [← hh]; exact h.2.2⟩).blind, fun U hU hW => ⟨rfl, hK.warm hW, by rw [hU]; exact va_P1 hPb, by rw [hU]⟩⟩ rfl hl.1 rfl (Nat.le_of_ble_eq_true rfl) dX8_init__24 ⟨by decide, by decide⟩) hS (fun z hz h => absurd hz (by omega)) (fun z h => Or.inr (by have := hS.1; omega)) (fun _ b2 t1 H1 locs1 ht _ _ hB2 _ hk1 hS1 => ?_)
  obtain ⟨hbH, hPn⟩ := hB2
  rw [ht] at hPn
  have hqH : q < H.size := (hP 0 _ rfl).lt
  have hq2 : b2 ≠ q := by omega
  have hPq : va_P g.1 vwCl [(q, .inr (8, st4 fs (d 0) 6 (d 2) (d 3)))] H1 := va_P1 ((hP 0 _ rfl).kept (hk1 q hqH (by omega)))
  have hP2 : va_P g.1 vwCl [(q, .inr (8, st4 fs (d 0) 6 (d 2) (d 3))), (b2, .inl (g.2.1 0, 4, .inl (fun j => d (4 + j))))] H1 := hPq.app hPn
  have hh1 : h0 ≤ b2 := by have := hS.1; omega
  have hD2 : va_D (fun z => z = q ∨ h0 ≤ z) [(q, .inr (8, st4 fs (d 0) 6 (d 2) (d 3))), (b2, .inl (g.2.1 0, 4, .inl (fun j => d (4 + j))))] := va_D2 (Or.inl rfl) (Or.inr hh1) (fun z => hq2 z.symm)
  refine va_putF (D := g.1) (ci := 8) (v := .ref b2) (ty := .array .int) (C := RX8) (T := TX8) (N := 5) (fs := st4 fs (d 0) 6 (d 2) (d 3)) hx hb hts uw_8 tyX8 tyX8_ok nmX8 hown hK.1 hP2 hD2 hS1 0 rfl rfl 4 (by decide) (hts _ w_566) (fun _ h => h) rfl hin rfl rfl rfl rfl (by simp [st4, hfs]) dX8_init__27 (fun H locs hP hD hS => ?_)
  have hg4 : ((st4 fs (d 0) 6 (d 2) (d 3)).set 4 (.ref b2))[4]? = some (.ref b2) := by simp [st4, hfs]
  have hv4 : vp_V ((st4 fs (d 0) 6 (d 2) (d 3)).set 4 (.ref b2)) 4 = .ref b2 := by
    show List.getD _ 4 _ = _
    rw [List.getD_eq_getElem?_getD, hg4]
    rfl
  refine lv_iload_n hx hb dX8_init__30 rfl (lv_at hl 2 rfl) ?_
  refine lv_if_lt (tgt := 50) hx hb dX8_init__31 (by decide) (fun c => absurd (ti_lt.mp c) (by have e0 : (0 : Int32).toInt = 0 := rfl; omega)) (fun c => ?_)
  refine lv_iload_n hx hb dX8_init__34 rfl (lv_at hl 2 rfl) ?_
  refine lv_aload_n hx hb dX8_init__35 rfl (lv_at hl 0 rfl) ?_
  refine va_get (D := g.1) (ci := 8) (C := RX8) (T := TX8) (N := 5) hx hb hts uw_8 hown hK.1 hP 0 rfl rfl 4 (by decide) (hts _ w_566) (fun _ h => h) hg4 dX8_init__36 ?_
  refine va_alen (v := 4) hx hb hK.1 hP 1 0 rfl rfl rfl dX8_init__39 ?_
  refine lv_icmp_ge (tgt := 50) hx hb dX8_init__40 (by decide) (fun c => absurd (ti_le.mp c) (by have e0 : (4 : Int32).toInt = 4 := rfl; omega)) (fun c => ?_)
  refine lv_aload_n hx hb dX8_init__43 rfl (lv_at hl 0 rfl) ?_
  refine va_get (D := g.1) (ci := 8) (C := RX8) (T := TX8) (N := 5) hx hb hts uw_8 hown hK.1 hP 0 rfl rfl 4 (by decide) (hts _ w_566) (fun _ h => h) hg4 dX8_init__44 ?_
  refine lv_iload_n hx hb dX8_init__47 rfl (lv_at hl 2 rfl) ?_
  refine lv_iload_n hx hb dX8_init__48 rfl (lv_at hl 3 rfl) ?_
  refine va_iast hx hb hK.1 hP hD hS 1 0 rfl rfl (vp_in_iff.mpr ⟨h2, by omega⟩) dX8_init__49 (fun H locs hP hD hS => ?_)
  exact W.vret hx hb hr (fun t ht _ => ⟨⟨b2, rfl, ⟨hh1, hq2⟩, by show va_P g.1 vwCl _ t.heap; rw [ht]; exact hP⟩, hS.F ht⟩) hS.2.2 dX8_init__50 hlocks

set_option maxRecDepth 20000 in
theorem w_598 : (Cond.classLink RX8 10 RX8) ∈ TB := inTB (List.mem_of_getElem? (i := 598) (by decide +kernel)) (by decide +kernel)
set_option maxRecDepth 20000 in
theorem w_601 : (Cond.code yX8_init_ cX8_init_ 4 none) ∈ TB := inTB (List.mem_of_getElem? (i := 601) (by decide +kernel)) (by decide +kernel)
set_option maxRecDepth 20000 in
theorem w_600 : (Cond.instanceMethod yX8_init_) ∈ TB := inTB (List.mem_of_getElem? (i := 600) (by decide +kernel)) (by decide +kernel)
theorem ci_X8_init_ : CI yX8_init_ cX8_init_ 4 3 := ⟨w_600, w_91, w_601, rfl, by decide +kernel, by decide +kernel, by decide +kernel⟩
set_option maxRecDepth 20000 in
theorem w_599 : (Cond.methodLink RX8 31 yX8_init_) ∈ TB := inTB (List.mem_of_getElem? (i := 599) (by decide +kernel)) (by decide +kernel)
theorem dX8_changed_0 : decode cX8_changed 0 = .ok (.new 10, 3) := by decide +kernel
theorem dX8_changed_3 : decode cX8_changed 3 = .ok (.dup, 1) := by decide +kernel
theorem dX8_changed_4 : decode cX8_changed 4 = .ok (.aload_n 0, 1) := by decide +kernel
theorem dX8_changed_5 : decode cX8_changed 5 = .ok (.iload_n 1, 1) := by decide +kernel
theorem dX8_changed_6 : decode cX8_changed 6 = .ok (.iload_n 2, 1) := by decide +kernel
theorem dX8_changed_7 : decode cX8_changed 7 = .ok (.invokespecial 31, 3) := by decide +kernel
theorem dX8_changed_10 : decode cX8_changed 10 = .ok (.areturn, 1) := by decide +kernel
/-- its data, but for what its row has at k -/
def dC (d : Nat → Int32) (k : Int32) (n : Int32) : Nat → Int32 := fun j => if j = 4 + ix k then n else d j
theorem dC4 (d : Nat → Int32) (k n : Int32) : (fun j => dC d k n (4 + j)) = upd (fun j => d (4 + j)) (ix k) n := by
  funext j
  show (if 4 + j = 4 + ix k then n else d (4 + j)) = (if j = ix k then n else d (4 + j))
  by_cases e : j = ix k
  · rw [if_pos e, if_pos (by omega)]
  · rw [if_neg e, if_neg (by omega)]
theorem dC0 (d : Nat → Int32) (k n : Int32) {j : Nat} (h : j < 4) : dC d k n j = d j := if_neg (by omega)
theorem k_X8_changed (l : Launch) (g : GG) (h0 a : Nat) (d : Nat → Int32) (a1 a2 : Int32) (h1 : 0 ≤ a1.toInt) (h13 : a1.toInt ≤ 3) (hd : d 1 = 6) : Met l yX8_changed (wsF yX8_changed cX8_changed 3 (some (.object "ThreeMeasures$Told"))) { frames := 4, cells := 2, slots := 9, locals := 91 } (va_Pc [.ref a, .int a1, .int a2] (fun U => KK g U ∧ SKH g U.heap a d ∧ U.heap.size = h0)) (va_Qr (fun _ : Unit => True) (fun _ r t => SKF g h0 t.heap r (dC d a1 a2)) (fun z => h0 ≤ z)) 2 9 (fun z => h0 ≤ z) := by
  refine start_X (by decide) (Nat.le_of_ble_eq_true rfl) ?_
  intro p e s m args below meth c C0 hin hB ls hl
  obtain ⟨hx, hb, hr, hml, hown, hts, hlocks⟩ := id C0
  obtain ⟨hK, hSK, hsz⟩ := hB
  have hl : lv_has ls 3 [(0, .ref a), (1, .int a1), (2, .int a2)] := hl
  have hS0 : va_S (fun z => h0 ≤ z) s.heap s.heap [] := va_S.rf
  have hA0 : ∀ z, s.heap.size ≤ z → h0 ≤ z := fun z hz => by omega
  obtain ⟨b, hba, hPa, hPb⟩ : ∃ b : Nat, b ≠ a ∧ va_at g.1 vwCl (a, .inr (8, [.int (d 0), .int 6, .int (d 2), .int (d 3), .ref b])) s.heap ∧ va_at g.1 vwCl (b, .inl (g.2.1 0, 4, .inl (fun j => d (4 + j)))) s.heap := by
    rcases hSK.2 with ⟨e, -⟩ | ⟨e, -⟩ | ⟨e, -⟩ | ⟨e, -⟩ | ⟨e, -⟩ | ⟨e, -⟩ | ⟨e, b, hb, hba, h, h'⟩
    all_goals first | exact ⟨b, hba, h, h'⟩ | (rw [hd] at e; exact absurd e (by decide))
  have hah : a < h0 := by rw [← hsz]; exact hPa.lt
  have hbh : b < h0 := by rw [← hsz]; exact hPb.lt
  refine va_new (T := TX8) (N := 5) (ci := 8) (fs := [.int 0, .int 0, .int 0, .int 0, .null]) hx hb hts uw_8 tyX8 tyX8_ok hown (hts _ w_598) (hts _ w_561) (hts _ w_91) hK.1 va_P0 va_D0 hS0 hA0 rfl (fun j hj => by
      rcases (show j = 0 ∨ j = 1 ∨ j = 2 ∨ j = 3 ∨ j = 4 by omega) with rfl | rfl | rfl | rfl | rfl <;> rfl) (Nat.le_of_ble_eq_true rfl) (Nat.le_of_ble_eq_true rfl) dX8_changed_0 (fun q H hP hD hS => ?_)
  have hq : h0 ≤ q := hD.2 0 _ rfl
  have hz := hS.1
  have hPa := hPa.kept (H1 := H) (hS.2.1 a (by omega) (by omega))
  have hPb := hPb.kept (H1 := H) (hS.2.1 b (by omega) (by omega))
  refine lv_dup hx hb dX8_changed_3 rfl ?_
  refine lv_aload_n hx hb dX8_changed_4 rfl (lv_at hl 0 rfl) ?_
  refine lv_iload_n hx hb dX8_changed_5 rfl (lv_at hl 1 rfl) ?_
  refine lv_iload_n hx hb dX8_changed_6 rfl (lv_at hl 2 rfl) ?_
  refine va_callv (run_I (rm := { frames := 3, cells := 1, slots := 4, locals := 68 }) (As := [.ref a, .int a1, .int a2]) (rest := [.ref q]) C0 ci_X8_init_ w_599 ⟨by decide, by decide⟩ (k_X8_init_ l g H.size q a b d [.int 0, .int 0, .int 0, .int 0, .null] rfl a1 a2 h1 h13 (by omega) (by omega)) ⟨(show SV (fun U => OB g q 8 [.int 0, .int 0, .int 0, .int 0, .null] U ∧ U.heap.size = H.size ∧ va_at g.1 vwCl (a, .inr (8, [.int (d 0), .int 6, .int (d 2), .int (d 3), .ref b])) U.heap ∧ va_at g.1 vwCl (b, .inl (g.2.1 0, 4, .inl (fun j => d (4 + j)))) U.heap) from fun U U' hh hv h => ⟨OB.sv U U' hh hv h.1, by rw [← hh]; exact h.2⟩).blind, fun U hU hW => ⟨rfl, ⟨hK.warm hW, by rw [hU]; exact hP⟩, by rw [hU], by rw [hU]; exact hPa, by rw [hU]; exact hPb⟩⟩ rfl hl.1 rfl (Nat.le_of_ble_eq_true rfl) dX8_changed_7 ⟨by decide, by decide⟩) hS (fun z hz h => by rcases h with h | h; rw [h]; exact hq; exact absurd hz (by omega)) (fun z h => by rcases h with h | h; rw [h]; exact hq; omega) (fun b2 t1 H1 locs1 ht _ hb2 hP2 _ _ hS => ?_)
  have hP2 : va_P g.1 vwCl [(q, .inr (8, (st4 [.int 0, .int 0, .int 0, .int 0, .null] (d 0) 6 (d 2) (d 3)).set 4 (.ref b2))), (b2, .inl (g.2.1 0, 4, .inl (upd (fun j => d (4 + j)) (ix a1) a2)))] H1 := by rw [← ht]; exact hP2
  have hbh : h0 ≤ b2 := by have := hb2.1; omega
  exact W.aret hx hb hr (Or.inl ⟨_, rfl⟩) (Or.inr ⟨q, rfl⟩) (fun t ht _ => ⟨⟨(), q, rfl, trivial, by
    show SKF g h0 t.heap _ _
    rw [ht]
    refine ⟨hq, Or.inr (Or.inr (Or.inr (Or.inr (Or.inr (Or.inr ⟨by rw [dC0 _ _ _ (by decide)]; exact hd, b2, hbh, hb2.2, ?_, by rw [dC4]; exact hP2 1 _ rfl⟩)))))⟩
    rw [dC0 _ _ _ (by decide), dC0 _ _ _ (by decide), dC0 _ _ _ (by decide)]
    exact hP2 0 _ rfl⟩, hS.F ht⟩) hS.2.2 dX8_changed_10 hlocks

set_option maxRecDepth 20000 in
theorem w_446 : (Cond.methodLink RX2 3 objectInit) ∈ TB := inTB (List.mem_of_getElem? (i := 446) (by decide +kernel)) (by decide +kernel)
set_option maxRecDepth 20000 in
theorem w_447 : (Cond.fieldLink RX2 9 RX2 "board" "I") ∈ TB := inTB (List.mem_of_getElem? (i := 447) (by decide +kernel)) (by decide +kernel)
set_option maxRecDepth 20000 in
theorem w_449 : (Cond.fieldLink RX2 15 RX2 "perStep" "I") ∈ TB := inTB (List.mem_of_getElem? (i := 449) (by decide +kernel)) (by decide +kernel)
theorem dX2_init_0 : decode cX2_init 0 = .ok (.aload_n 0, 1) := by decide +kernel
theorem dX2_init_1 : decode cX2_init 1 = .ok (.invokespecial 3, 3) := by decide +kernel
theorem dX2_init_4 : decode cX2_init 4 = .ok (.aload_n 0, 1) := by decide +kernel
theorem dX2_init_5 : decode cX2_init 5 = .ok (.iload_n 1, 1) := by decide +kernel
theorem dX2_init_6 : decode cX2_init 6 = .ok (.putfield 9, 3) := by decide +kernel
theorem dX2_init_9 : decode cX2_init 9 = .ok (.aload_n 0, 1) := by decide +kernel
theorem dX2_init_10 : decode cX2_init 10 = .ok (.iload_n 2, 1) := by decide +kernel
theorem dX2_init_11 : decode cX2_init 11 = .ok (.putfield 15, 3) := by decide +kernel
theorem dX2_init_14 : decode cX2_init 14 = .ok (.aload_n 0, 1) := by decide +kernel
theorem dX2_init_15 : decode cX2_init 15 = .ok (.aload_n 3, 1) := by decide +kernel
theorem dX2_init_16 : decode cX2_init 16 = .ok (.putfield 18, 3) := by decide +kernel
theorem dX2_init_19 : decode cX2_init 19 = .ok (.return_, 1) := by decide +kernel
theorem k_X2_init (l : Launch) (g : GG) (q b : Nat) (fs : List Value) (hfs : fs.length = 3) (a1 a2 : Int32) : Met l yX2_init (wsF yX2_init cX2_init 4 none) { frames := 1, cells := 0, slots := 0, locals := 20 } (va_Pc [.ref q, .int a1, .int a2, .ref b] (OB g q 2 fs)) (OQ g q 2 (((fs.set 0 (.int a1)).set 1 (.int a2)).set 2 (.ref b))) 0 0 (fun z => z = q) := by
  refine start_X (by decide) (Nat.le_of_ble_eq_true rfl) ?_
  intro p e s m args below meth c C0 hin hB ls hl
  obtain ⟨hx, hb, hr, hml, hown, hts, hlocks⟩ := id C0
  obtain ⟨hK, hP⟩ := hB
  have hl : lv_has ls 4 [(0, .ref q), (1, .int a1), (2, .int a2), (3, .ref b)] := hl
  have hS : va_S (fun z => z = q) s.heap s.heap [] := va_S.rf
  refine lv_aload_n hx hb dX2_init_0 rfl (lv_at hl 0 rfl) ?_
  refine obj_init C0 w_446 hl.1 dX2_init_1 ⟨by decide, by decide⟩ (Nat.le_of_ble_eq_true rfl) ?_
  refine lv_aload_n hx hb dX2_init_4 rfl (lv_at hl 0 rfl) ?_
  refine lv_iload_n hx hb dX2_init_5 rfl (lv_at hl 1 rfl) ?_
  refine va_putF (D := g.1) (ci := 2) (v := .int a1) (ty := .int) (C := RX2) (T := TX2) (N := 3) (fs := fs) hx hb hts uw_2 tyX2 tyX2_ok nmX2 hown hK.1 hP (va_D1 (A := fun z => z = q) rfl) hS 0 rfl rfl 0 (by decide) (hts _ w_447) (fun _ h => h) rfl hin rfl rfl rfl rfl (by omega) dX2_init_6 (fun H locs hP hD hS => ?_)
  refine lv_aload_n hx hb dX2_init_9 rfl (lv_at hl 0 rfl) ?_
  refine lv_iload_n hx hb dX2_init_10 rfl (lv_at hl 2 rfl) ?_
  refine va_putF (D := g.1) (ci := 2) (v := .int a2) (ty := .int) (C := RX2) (T := TX2) (N := 3) (fs := fs.set 0 (.int a1)) hx hb hts uw_2 tyX2 tyX2_ok nmX2 hown hK.1 hP hD hS 0 rfl rfl 1 (by decide) (hts _ w_449) (fun _ h => h) rfl hin rfl rfl rfl rfl (by simp [hfs]) dX2_init_11 (fun H locs hP hD hS => ?_)
  refine lv_aload_n hx hb dX2_init_14 rfl (lv_at hl 0 rfl) ?_
  refine lv_aload_n hx hb dX2_init_15 rfl (lv_at hl 3 rfl) ?_
  refine va_putF (D := g.1) (ci := 2) (v := .ref b) (ty := .array .int) (C := RX2) (T := TX2) (N := 3) (fs := (fs.set 0 (.int a1)).set 1 (.int a2)) hx hb hts uw_2 tyX2 tyX2_ok nmX2 hown hK.1 hP hD hS 0 rfl rfl 2 (by decide) (hts _ w_451) (fun _ h => h) rfl hin rfl rfl rfl rfl (by simp [hfs]) dX2_init_16 (fun H locs hP hD hS => ?_)
  exact W.vret hx hb hr (fun t ht _ => ⟨⟨(), rfl, trivial, by show va_P g.1 vwCl _ t.heap; rw [ht]; exact hP⟩, hS.F ht⟩) hS.2.2 dX2_init_19 hlocks

