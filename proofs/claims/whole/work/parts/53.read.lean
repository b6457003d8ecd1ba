set_option maxRecDepth 20000 in
theorem w_427 : (Cond.classLink RX1 28 RX2) ∈ TB := inTB (List.mem_of_getElem? (i := 427) (by decide +kernel)) (by decide +kernel)
set_option maxRecDepth 20000 in
theorem w_428 : (Cond.instantiable RX2 3) ∈ TB := inTB (List.mem_of_getElem? (i := 428) (by decide +kernel)) (by decide +kernel)
set_option maxRecDepth 20000 in
theorem w_429 : (Cond.methodLink RX1 44 yJ7_copyOf_59c91) ∈ TB := inTB (List.mem_of_getElem? (i := 429) (by decide +kernel)) (by decide +kernel)
set_option maxRecDepth 20000 in
theorem w_445 : (Cond.code yX2_init cX2_init 4 none) ∈ TB := inTB (List.mem_of_getElem? (i := 445) (by decide +kernel)) (by decide +kernel)
set_option maxRecDepth 20000 in
theorem w_444 : (Cond.instanceMethod yX2_init) ∈ TB := inTB (List.mem_of_getElem? (i := 444) (by decide +kernel)) (by decide +kernel)
theorem ci_X2_init : CI yX2_init cX2_init 4 3 := ⟨w_444, w_82, w_445, rfl, by decide +kernel, by decide +kernel, by decide +kernel⟩
set_option maxRecDepth 20000 in
theorem w_443 : (Cond.methodLinkNest RX1 50 yX2_init RX11) ∈ NB := inNB (List.mem_of_getElem? (i := 443) (by decide +kernel)) (by decide +kernel)
set_option maxRecDepth 20000 in
theorem w_272 : (Cond.methodLink RX1 36 yX1_takesClause) ∈ TB := inTB (List.mem_of_getElem? (i := 272) (by decide +kernel)) (by decide +kernel)
set_option maxRecDepth 20000 in
theorem w_275 : (Cond.code yX1_takesClause cX1_takesClause 3 (some .boolean)) ∈ TB := inTB (List.mem_of_getElem? (i := 275) (by decide +kernel)) (by decide +kernel)
set_option maxRecDepth 20000 in
theorem w_274 : (Cond.instanceMethod yX1_takesClause) ∈ TB := inTB (List.mem_of_getElem? (i := 274) (by decide +kernel)) (by decide +kernel)
set_option maxRecDepth 20000 in
theorem w_1 : (Cond.selects RX1 yX1_takesClause yX1_takesClause) ∈ TB := inTB (List.mem_of_getElem? (i := 1) (by decide +kernel)) (by decide +kernel)
theorem cf_X1_takesClause : CF yX1_takesClause cX1_takesClause 3 (some .boolean) 0 := ⟨w_274, w_1, w_73, w_275, by decide +kernel, by decide +kernel, by decide +kernel⟩
theorem dX1_read_71 : decode cX1_read 71 = .ok (.new 28, 3) := by decide +kernel
theorem dX1_read_101 : decode cX1_read 101 = .ok (.areturn, 1) := by decide +kernel
theorem dX1_read_74 : decode cX1_read 74 = .ok (.dup, 1) := by decide +kernel
theorem dX1_read_75 : decode cX1_read 75 = .ok (.aload_n 0, 1) := by decide +kernel
theorem dX1_read_76 : decode cX1_read 76 = .ok (.getfield 30, 3) := by decide +kernel
theorem dX1_read_79 : decode cX1_read 79 = .ok (.aload_n 0, 1) := by decide +kernel
theorem dX1_read_80 : decode cX1_read 80 = .ok (.getfield 33, 3) := by decide +kernel
theorem dX1_read_83 : decode cX1_read 83 = .ok (.aload_n 0, 1) := by decide +kernel
theorem dX1_read_84 : decode cX1_read 84 = .ok (.getfield 9, 3) := by decide +kernel
theorem dX1_read_87 : decode cX1_read 87 = .ok (.aload_n 0, 1) := by decide +kernel
theorem dX1_read_88 : decode cX1_read 88 = .ok (.getfield 25, 3) := by decide +kernel
theorem dX1_read_91 : decode cX1_read 91 = .ok (.invokestatic 44, 3) := by decide +kernel
theorem dX1_read_94 : decode cX1_read 94 = .ok (.invokespecial 50, 3) := by decide +kernel
theorem dX1_read_97 : decode cX1_read 97 = .ok (.goto 4, 3) := by decide +kernel
/-- the data of the room that the reader has read -/
def dR (u : St) : Nat → Int32 := fun j => match j with
  | 0 => u 66 0
  | 1 => u 67 0
  | 2 => u 61 0
  | k + 3 => u 60 k
/-- a room whose cells are new since h0 -/
def RMF (g : GG) (h0 : Nat) (H : Heap) (a : Nat) (d : Nat → Int32) : Prop := h0 ≤ a ∧ ∃ (b n : Nat), h0 ≤ b ∧ b ≠ a ∧ n ≤ 100 ∧ d 2 = nI n ∧ va_at g.1 vwCl (a, .inr (2, [.int (d 0), .int (d 1), .ref b])) H ∧ va_at g.1 vwCl (b, .inl (g.2.1 0, n, .inl (fun j => d (3 + j)))) H
theorem RMF.rmh {g : GG} {h0 : Nat} {H : Heap} {a : Nat} {d : Nat → Int32} (h : RMF g h0 H a d) (hw : ∀ q, q ∈ adrs (xW g (fun _ _ => none) (fun _ _ => 0)) → q < h0) : RMH g H a d := by
  obtain ⟨h1, b, n, hb, hba, hn, e, h, h'⟩ := h
  exact ⟨fun z => by have := hw _ z; omega, b, n, fun z => by have := hw _ z; omega, hba, hn, e, h, h'⟩
def QRo (g : GG) (ρ : RR) (h0 : Nat) (A : Nat → Prop) (F : Int32 × St) : Array Value → State → Outcome → State → Prop := fun _ st o t => (∃ r : Option Nat, o = .returned (some (va_rf r)) ∧ va_P g.1 vwCl (xW g ρ F.2) t.heap ∧ (F.1 = 0 → r = none) ∧ (¬ F.1 = 0 → ∃ a, r = some a ∧ RMF g h0 t.heap a (dR F.2))) ∧ va_F A st t
abbrev QRD (below : List Frame) (args : Array Value) (s : State) (g : GG) (ρ : RR) (A : Nat → Prop) (h0 : Nat) (F : Int32 × St) : State → Prop := MQ below (QRo g ρ h0 A F) args s 2 103 (fun z => A z ∨ h0 ≤ z)
theorem arr_cong {cA : ClassId} {n : Nat} {f f' : Nat → Int32} (h : ∀ j, j < n → f j = f' j) : vp_cell cA (n, .inl f) = vp_cell cA (n, .inl f') := by
  show arrV cA n (fun j => .int (f j)) = arrV cA n (fun j => .int (f' j))
  unfold arrV
  congr 1
  congr 1
  funext j
  show Value.int (f j.val) = Value.int (f' j.val)
  rw [h j.val j.isLt]
theorem va_Pl {D : va_G} {cl : List vw_C} {w1 w2 : va_W} {H : Heap} (h : va_P D cl (w1 ++ w2) H) : va_P D cl w1 H := fun k q hk => h k q (by
  rw [List.getElem?_append_left (List.getElem?_eq_some_iff.mp hk).1]
  exact hk)
section RDROWS
variable {p : Program} {l : Launch} {e : Env} {R : Room} {s : State} {m : MethodId} {args : Array Value} {below : List Frame} {meth : Method} {c : Code} {H : Heap} {locs : List Loc}
variable {nL pc : Nat} {ls : Array Slot} {g : GG} {ρ : RR} {dt : Nat → Nat → Int32} {σ : St} {A : Nat → Prop} {h0 : Nat} {tgt : Int32 × St} {own cn : String} {cc : ByteArray}
theorem rd_null (C0 : BC p s m args meth c cc own nL (some (.object cn))) (hC : WC g (xW g ρ) A s.heap σ H locs) (hT : ((0 : Int32), σ) = tgt) (hdg : decode cc pc = .ok (.areturn, 1)) : W p l e R s m args below meth c H locs 0 0 (QRD below args s g ρ A h0 tgt) (F0 m pc ls [.null]) := by
  subst hT
  refine W.widen (k := 2) (n := 103) (by decide) (by decide) ?_
  exact W.aret C0.1 C0.2.1 C0.2.2.1 (Or.inl ⟨_, rfl⟩) (Or.inl rfl) (fun t ht _ => ⟨⟨none, rfl, by rw [ht]; exact hC.1, fun _ => rfl, fun z => absurd rfl z⟩, hC.2.2.F ht⟩) (fun q h => Or.inl (hC.2.2.2.2 q h)) hdg C0.2.2.2.2.2.2
set_option maxHeartbeats 1000000 in
theorem rd_room (hR : R.frames = 38 ∧ R.locals = 855 ∧ R.cells = 2 ∧ R.slots = 103) (C0 : BC p s m args meth c cX1_read RX1 4 (some (.object "ThreeMeasures$Room"))) (hK : KK g s) (hC : WC g (xW g ρ) A s.heap σ H locs) (hA : ∀ q, A q → AX g q) (hAx : ∀ q, AX g q → A q) (hsz : s.heap.size = h0) (hRC : RC σ) (hp1 : 1 ≤ (σ 64 0).toInt - (σ 61 0).toInt) (hl : lv_has ls 4 [(0, .ref (g.2.2 103))]) (hT : ((1 : Int32), σ) = tgt) : W p l e R s m args below meth c H locs 0 0 (QRD below args s g ρ A h0 tgt) (F0 m 71 ls []) := by
  subst hT
  obtain ⟨hx, hb, hr, hml, hown, hts, hlocks⟩ := id C0
  obtain ⟨p1, p2, p3, p4, p5, p6, p7⟩ := id hRC
  obtain ⟨n, hn, hne⟩ : ∃ n : Nat, n < 100 ∧ σ 61 0 = nI n := by
    obtain ⟨n, hn, e⟩ := nn_nI p4
    rw [e, nI_toInt hn] at hp1
    exact ⟨n, by omega, e⟩
  have hS2 : va_S (fun z => A z ∨ h0 ≤ z) s.heap H locs := hC.2.2.mono (fun q h => Or.inl h)
  have hD2 : va_D (fun z => A z ∨ h0 ≤ z) (xW g ρ σ) := hC.2.1.weaken (fun _ _ _ h => Or.inl h)
  refine va_new (T := TX2) (N := 3) (ci := 2) (fs := [.int 0, .int 0, .null]) hx hb hts uw_2 tyX2 tyX2_ok hown (hts _ w_427) (hts _ w_428) (hts _ w_82) hK.1 hC.1 hD2 hS2 (fun z hz => Or.inr (by omega)) rfl (fun j hj => by
      rcases (show j = 0 ∨ j = 1 ∨ j = 2 by omega) with rfl | rfl | rfl <;> rfl) (by rw [hR.2.2.1]; decide) (by rw [hR.2.2.2]; decide) dX1_read_71 (fun q H1 hP1 hD1 hS1 => ?_)
  have hPw : va_P g.1 vwCl (xW g ρ σ) H1 := va_Pl hP1
  have hPq : va_at g.1 vwCl (q, .inr (2, [.int 0, .int 0, .null])) H1 := hP1 30 _ rfl
  have hqx : ¬ AX g q := fun z => by
    obtain ⟨k, hk⟩ := List.getElem?_of_mem (show q ∈ adrs (xW g ρ σ) from z)
    simp only [adrs, List.getElem?_map, Option.map_eq_some_iff] at hk
    obtain ⟨pp, hp, e⟩ := hk
    have hk2 := (List.getElem?_eq_some_iff.mp hp).1
    have hk3 : k < 30 := hk2
    have := hD1.1 k 30 pp (q, .inr (2, [.int 0, .int 0, .null])) (by rw [List.getElem?_append_left hk2]; exact hp) rfl e
    omega
  have hqh : h0 ≤ q := by
    rcases hD1.2 30 (q, .inr (2, [.int 0, .int 0, .null])) rfl with z | z
    · exact absurd (hA q z) hqx
    · exact z
  refine lv_dup hx hb dX1_read_74 rfl ?_
  refine lv_aload_n hx hb dX1_read_75 rfl (lv_at hl 0 rfl) ?_
  refine x_get (σ := σ) (v := .int (σ 66 0)) (fs := xF3 g ρ σ) 1 3 C0 uw_1 dc_1 hK hPw rfl rfl 6 (by decide) rfl w_195 dX1_read_76 ?_
  refine lv_aload_n hx hb dX1_read_79 rfl (lv_at hl 0 rfl) ?_
  refine x_get (σ := σ) (v := .int (σ 67 0)) (fs := xF3 g ρ σ) 1 3 C0 uw_1 dc_1 hK hPw rfl rfl 7 (by decide) rfl w_196 dX1_read_80 ?_
  refine lv_aload_n hx hb dX1_read_83 rfl (lv_at hl 0 rfl) ?_
  refine x_get (σ := σ) (v := .ref (g.2.2 60)) (fs := xF3 g ρ σ) 1 3 C0 uw_1 dc_1 hK hPw rfl rfl 0 (by decide) rfl w_188 dX1_read_84 ?_
  refine lv_aload_n hx hb dX1_read_87 rfl (lv_at hl 0 rfl) ?_
  refine x_get (σ := σ) (v := .int (σ 61 0)) (fs := xF3 g ρ σ) 1 3 C0 uw_1 dc_1 hK hPw rfl rfl 1 (by decide) rfl w_189 dX1_read_88 ?_
  rw [hne]
  have h60 : va_at g.1 vwCl (g.2.2 60, .inl (g.2.1 0, 100, .inl (σ 60))) H1 := hPw 26 _ rfl
  have h60A : AX g (g.2.2 60) := List.mem_of_getElem? (i := 26) rfl
  have hz1 := hS1.1
  refine va_callr (run_S (rm := { frames := 1, cells := 1, slots := n, locals := 60 }) (As := [.ref (g.2.2 60), .int (nI n)]) (rest := [.int (σ 67 0), .int (σ 66 0), .ref q, .ref q]) C0 cf_J7_copyOf_59c91 w_429 ⟨by rw [hR.1]; exact Nat.le_of_ble_eq_true rfl, by rw [hR.2.1]; exact Nat.le_of_ble_eq_true rfl⟩ (k_copyOf_less l g H1.size (g.2.2 60) 100 n (by decide) hn (σ 60)) ⟨(show SV (fun U => KK g U ∧ va_P g.1 vwCl [(g.2.2 60, .inl (g.2.1 0, 100, .inl (σ 60)))] U.heap ∧ U.heap.size = H1.size) from fun U U' hh hv h => ⟨h.1.same hv, by rw [← hh]; exact h.2.1, by rw [← hh]; exact h.2.2⟩).blind, fun U hU hW => ⟨rfl, hK.warm hW, by rw [hU]; exact va_P1 h60, by rw [hU]⟩⟩ rfl hl.1 rfl (Nat.le_of_ble_eq_true rfl) dX1_read_91 ⟨by rw [hR.2.2.1]; exact Nat.le_of_ble_eq_true rfl, by rw [hR.2.2.2]; show 0 + 3 + n ≤ 103; omega⟩) hS1 (fun z hz h => by rcases h with h | h; rw [h]; exact Or.inl (hAx _ h60A); exact absurd hz (by omega)) (fun z h => by rcases h with h | h; rw [h]; exact Or.inl (hAx _ h60A); exact Or.inr (by omega)) (fun _ b t2 H2 locs2 ht _ _ hB2 hz2 hk2 hS2 => ?_)
  obtain ⟨hbH, hPn⟩ := hB2
  rw [ht] at hPn
  have hqlt : q < H1.size := hPq.lt
  have hq60 : q ≠ g.2.2 60 := fun z => hqx (by rw [z]; exact h60A)
  have hPq2 : va_at g.1 vwCl (q, .inr (2, [.int 0, .int 0, .null])) H2 := hPq.kept (hk2 q hqlt (fun z => by rcases z with z | z; exact hq60 z; omega))
  have hPw2 : va_P g.1 vwCl (xW g ρ σ) H2 := hPw.kept (fun k x hx => by
    by_cases e : x.1 = g.2.2 60
    · have a1 : H2[g.2.2 60]? = some (vp_cell (g.2.1 0) (100, .inl (σ 60))) := hPn 0 _ rfl
      have a2 : H1[g.2.2 60]? = some (vp_cell (g.2.1 0) (100, .inl (σ 60))) := h60
      rw [e, a1, a2]
    · exact hk2 x.1 (hPw k x hx).lt (fun z => by
        rcases z with z | z
        · exact e z
        · have := (hPw k x hx).lt; omega))
  refine va_callv (run_IN (rm := { frames := 1, cells := 0, slots := 0, locals := 20 }) (As := [.int (σ 66 0), .int (σ 67 0), .ref b]) (rest := [.ref q]) C0 ci_X2_init hK.2 w_443 ⟨by rw [hR.1]; exact Nat.le_of_ble_eq_true rfl, by rw [hR.2.1]; exact Nat.le_of_ble_eq_true rfl⟩ (k_X2_init l g q b [.int 0, .int 0, .null] rfl (σ 66 0) (σ 67 0)) ⟨OB.sv.blind, fun U hU hW => ⟨rfl, hK.warm hW, by rw [hU]; exact va_P1 hPq2⟩⟩ rfl hl.1 rfl (Nat.le_of_ble_eq_true rfl) dX1_read_94 ⟨by rw [hR.2.2.1]; exact Nat.le_refl 2, by rw [hR.2.2.2]; show 0 + 3 + n + 0 ≤ 103; omega⟩) hS2 (fun z hz h => by rw [h]; exact Or.inr hqh) (fun z h => by rw [h]; exact Or.inr hqh) (fun _ t3 H3 locs3 ht3 _ _ hB3 _ hk3 hS3 => ?_)
  have hPq3 : va_P g.1 vwCl [(q, .inr (2, [.int (σ 66 0), .int (σ 67 0), .ref b]))] H3 := by rw [← ht3]; exact hB3
  have hPw3 : va_P g.1 vwCl (xW g ρ σ) H3 := hPw2.kept (fun k x hx => hk3 x.1 (hPw2 k x hx).lt (fun z => hqx (by
    have : x.1 ∈ adrs (xW g ρ σ) := List.mem_map.mpr ⟨x, List.mem_of_getElem? hx, rfl⟩
    rw [← z]
    exact this)))
  have hPb3 : va_at g.1 vwCl (b, .inl (g.2.1 0, n, .inl (va_cpy (σ 60) (fun _ => 0) 0 0 n))) H3 := (hPn 1 _ rfl).kept (hk3 b (hPn 1 _ rfl).lt (fun z => by omega))
  refine lv_goto (tgt := 101) hx hb dX1_read_97 (by decide) ?_
  refine W.widen (k := 2) (n := 103) (Nat.le_refl 2) (show 0 + 3 + n + 0 ≤ 103 by omega) ?_
  have hF : va_F A s { s with heap := H3 } := ⟨hS3.1, fun z h1 h2 => hS3.2.1 z h1 (fun w => by rcases w with w | w; exact h2 w; omega)⟩
  exact W.aret hx hb hr (Or.inl ⟨_, rfl⟩) (Or.inr ⟨q, rfl⟩) (fun t ht _ => ⟨⟨some q, rfl, by rw [ht]; exact hPw3, fun z => absurd z (show ¬ (1 : Int32) = 0 by decide), fun _ => ⟨q, rfl, hqh, b, n, by omega, by omega, by omega, hne, by rw [ht]; exact hPq3 0 _ rfl, by
    rw [ht]
    have e : vp_cell (g.2.1 0) (n, .inl (va_cpy (σ 60) (fun _ => 0) 0 0 n)) = vp_cell (g.2.1 0) (n, .inl (fun j => dR σ (3 + j))) := arr_cong (fun j hj => by
      rw [pk_cpy_in (Nat.zero_le _) (by omega), Nat.zero_add, Nat.sub_zero, Nat.add_comm]
      rfl)
    show H3[b]? = some _
    rw [← e]
    exact hPb3⟩⟩, ⟨by rw [ht]; exact hF.1, fun z h1 h2 => by rw [ht]; exact hF.2 z h1 h2⟩⟩) hS3.2.2 dX1_read_101 hlocks
end RDROWS
/-! ThreeMeasures$Reader.read -/
theorem dX1_read_0 : decode cX1_read 0 = .ok (.aload_n 0, 1) := by decide +kernel
theorem dX1_read_1 : decode cX1_read 1 = .ok (.aload_n 1, 1) := by decide +kernel
theorem dX1_read_2 : decode cX1_read 2 = .ok (.putfield 15, 3) := by decide +kernel
theorem dX1_read_5 : decode cX1_read 5 = .ok (.aload_n 0, 1) := by decide +kernel
theorem dX1_read_6 : decode cX1_read 6 = .ok (.iload_n 2, 1) := by decide +kernel
theorem dX1_read_7 : decode cX1_read 7 = .ok (.putfield 18, 3) := by decide +kernel
theorem dX1_read_10 : decode cX1_read 10 = .ok (.aload_n 0, 1) := by decide +kernel
theorem dX1_read_11 : decode cX1_read 11 = .ok (.iconst 0, 1) := by decide +kernel
theorem dX1_read_12 : decode cX1_read 12 = .ok (.putfield 22, 3) := by decide +kernel
theorem dX1_read_15 : decode cX1_read 15 = .ok (.aload_n 0, 1) := by decide +kernel
theorem dX1_read_16 : decode cX1_read 16 = .ok (.iconst 0, 1) := by decide +kernel
theorem dX1_read_17 : decode cX1_read 17 = .ok (.putfield 25, 3) := by decide +kernel
theorem dX1_read_20 : decode cX1_read 20 = .ok (.aload_n 0, 1) := by decide +kernel
theorem dX1_read_21 : decode cX1_read 21 = .ok (.bipush 40, 2) := by decide +kernel
theorem dX1_read_23 : decode cX1_read 23 = .ok (.putfield 30, 3) := by decide +kernel
theorem dX1_read_26 : decode cX1_read 26 = .ok (.aload_n 0, 1) := by decide +kernel
theorem dX1_read_27 : decode cX1_read 27 = .ok (.iconst 1, 1) := by decide +kernel
theorem dX1_read_28 : decode cX1_read 28 = .ok (.putfield 33, 3) := by decide +kernel
theorem dX1_read_31 : decode cX1_read 31 = .ok (.iconst 0, 1) := by decide +kernel
theorem dX1_read_32 : decode cX1_read 32 = .ok (.istore_n 3, 1) := by decide +kernel
theorem dX1_read_33 : decode cX1_read 33 = .ok (.aload_n 0, 1) := by decide +kernel
theorem dX1_read_34 : decode cX1_read 34 = .ok (.invokevirtual 36, 3) := by decide +kernel
theorem dX1_read_37 : decode cX1_read 37 = .ok (.ifCond .ne 5, 3) := by decide +kernel
theorem dX1_read_40 : decode cX1_read 40 = .ok (.aconst_null, 1) := by decide +kernel
theorem dX1_read_41 : decode cX1_read 41 = .ok (.areturn, 1) := by decide +kernel
theorem dX1_read_42 : decode cX1_read 42 = .ok (.iinc 3 1, 3) := by decide +kernel
theorem dX1_read_45 : decode cX1_read 45 = .ok (.iload_n 3, 1) := by decide +kernel
theorem dX1_read_46 : decode cX1_read 46 = .ok (.bipush 10, 2) := by decide +kernel
theorem dX1_read_48 : decode cX1_read 48 = .ok (.if_icmp .ge 12, 3) := by decide +kernel
theorem dX1_read_51 : decode cX1_read 51 = .ok (.aload_n 0, 1) := by decide +kernel
theorem dX1_read_52 : decode cX1_read 52 = .ok (.bipush 59, 2) := by decide +kernel
theorem dX1_read_54 : decode cX1_read 54 = .ok (.invokevirtual 40, 3) := by decide +kernel
theorem dX1_read_57 : decode cX1_read 57 = .ok (.ifCond .ne (-24), 3) := by decide +kernel
theorem dX1_read_60 : decode cX1_read 60 = .ok (.aload_n 0, 1) := by decide +kernel
theorem dX1_read_61 : decode cX1_read 61 = .ok (.getfield 22, 3) := by decide +kernel
theorem dX1_read_64 : decode cX1_read 64 = .ok (.aload_n 0, 1) := by decide +kernel
theorem dX1_read_65 : decode cX1_read 65 = .ok (.getfield 18, 3) := by decide +kernel
theorem dX1_read_68 : decode cX1_read 68 = .ok (.if_icmp .ne 32, 3) := by decide +kernel
theorem dX1_read_100 : decode cX1_read 100 = .ok (.aconst_null, 1) := by decide +kernel
def f_X1_read_60  (σ : St) : Int32 × St := (if (σ 64 0) = (σ 63 0) then ((1 : Int32), σ) else ((0 : Int32), σ))
set_option maxHeartbeats 600000 in
set_option maxRecDepth 100000 in
theorem b_X1_read_60 {g : GG} {ρ : RR} {dt : Nat → Nat → Int32} {aK aV : Nat → Nat} {p : Program} {l : Launch} {e : Env} {s : State} {m : MethodId} {args : Array Value} {below : List Frame} {meth : Method} {c : Code} {A : Nat → Prop} {tgt : Int32 × St}  (h0 : Nat) (hsz : s.heap.size = h0) (hAx : ∀ q, AX g q → A q) (C0 : BC p s m args meth c cX1_read RX1 4 (some (.object "ThreeMeasures$Room")))  {σ : St} {H : Heap} {locs : List Loc} (hTx : ρ 62 0 = some (g.2.2 20)) (hR : RC σ) (hBX : BX σ) (hp1 : 1 ≤ (σ 64 0).toInt - (σ 61 0).toInt)  (hK : KK g s) (hC : WC g (xW g ρ) A s.heap σ H locs) (hB : YB g ρ dt aK aV s) (hA : ∀ q, A q → AX g q) {ls : Array Slot} (hl : lv_has ls 4 [(0, .ref (g.2.2 103))]) (hT : f_X1_read_60  σ = tgt) : W p l e { frames := 38, cells := 2, slots := 103, locals := 855 } s m args below meth c H locs 0 0 (QRD below args s g ρ A h0 tgt) (F0 m 60 ls []) := by
  obtain ⟨hx, hb, hr, hml, hown, hts, hlocks⟩ := id C0
  unfold f_X1_read_60 at hT
  obtain ⟨p1, p2, p3, p4, p5, p6, p7⟩ := id hR
  refine lv_aload_n hx hb dX1_read_60 rfl (lv_at hl 0 rfl) ?_
  refine x_get (σ := σ) (v := .int ((σ 64 0))) (fs := xF3 g ρ σ) 1 3 C0 uw_1 dc_1 hK hC.1 rfl rfl 4 (by decide) rfl w_192 dX1_read_61 ?_
  refine lv_aload_n hx hb dX1_read_64 rfl (lv_at hl 0 rfl) ?_
  refine x_get (σ := σ) (v := .int ((σ 63 0))) (fs := xF3 g ρ σ) 1 3 C0 uw_1 dc_1 hK hC.1 rfl rfl 3 (by decide) rfl w_191 dX1_read_65 ?_
  refine lv_icmp_ne (tgt := 100) hx hb dX1_read_68 (by decide) (fun c_68 => ?_) (fun c_68 => ?_)
  · have hT := hT_neg c_68 hT
    refine lv_null hx hb dX1_read_100 ?_
    exact rd_null C0 hC hT dX1_read_101
  · have hT := hT_pos c_68 hT
    exact rd_room ⟨rfl, rfl, rfl, rfl⟩ C0 hK hC hA hAx hsz hR hp1 (lv_sub hl [0] rfl) hT
def f_X1_read_33 (K33 : St → Int32 → Int32 × St) (σ : St) (a3 : Int32) : Int32 × St := (bd (f_X1_takesClause σ ) (fun r34 u34 => (if r34 = 0 then ((0 : Int32), u34) else (if (10 : Int32) ≤ (a3 + (1 : Int32)) then (f_X1_read_60  u34) else (bd (f_X1_takes u34 (59 : Int32)) (fun r54 u54 => (if r54 = 0 then (f_X1_read_60  u54) else (K33 u54 (a3 + (1 : Int32))))))))))
set_option maxHeartbeats 600000 in
set_option maxRecDepth 100000 in
theorem b_X1_read_33 {g : GG} {ρ : RR} {dt : Nat → Nat → Int32} {aK aV : Nat → Nat} {p : Program} {l : Launch} {e : Env} {s : State} {m : MethodId} {args : Array Value} {below : List Frame} {meth : Method} {c : Code} {A : Nat → Prop} {tgt : Int32 × St} {K33 : St → Int32 → Int32 × St} {N33 : Nat} (h0 : Nat) (hsz : s.heap.size = h0) (hAx : ∀ q, AX g q → A q) (C0 : BC p s m args meth c cX1_read RX1 4 (some (.object "ThreeMeasures$Room"))) (hK33 : ∀ (σ : St) (a3 : Int32), (ρ 62 0 = some (g.2.2 20)) → (RC σ) → (BX σ) → (0 ≤ (σ 64 0).toInt - (σ 61 0).toInt) → (0 ≤ a3.toInt) → (a3.toInt ≤ 9) → (10 - a3.toInt).toNat < N33 → ∀ {H : Heap} {locs : List Loc}, KK g s → WC g (xW g ρ) A s.heap σ H locs → YB g ρ dt aK aV s → (∀ q, A q → AX g q) →  ∀ {ls : Array Slot}, lv_has ls 4 [(0, .ref (g.2.2 103)), (3, .int (a3))] → K33 σ a3 = tgt → W p l e { frames := 38, cells := 2, slots := 103, locals := 855 } s m args below meth c H locs 0 0 (QRD below args s g ρ A h0 tgt) (F0 m 33 ls [])) {σ : St} {a3 : Int32} {H : Heap} {locs : List Loc} (hTx : ρ 62 0 = some (g.2.2 20)) (hR : RC σ) (hBX : BX σ) (hp0 : 0 ≤ (σ 64 0).toInt - (σ 61 0).toInt) (h3 : 0 ≤ a3.toInt) (h3b : a3.toInt ≤ 9) (hm : (10 - a3.toInt).toNat < N33 + 1) (hK : KK g s) (hC : WC g (xW g ρ) A s.heap σ H locs) (hB : YB g ρ dt aK aV s) (hA : ∀ q, A q → AX g q) {ls : Array Slot} (hl : lv_has ls 4 [(0, .ref (g.2.2 103)), (3, .int (a3))]) (hT : f_X1_read_33 K33 σ a3 = tgt) : W p l e { frames := 38, cells := 2, slots := 103, locals := 855 } s m args below meth c H locs 0 0 (QRD below args s g ρ A h0 tgt) (F0 m 33 ls []) := by
  obtain ⟨hx, hb, hr, hml, hown, hts, hlocks⟩ := id C0
  unfold f_X1_read_33 at hT
  obtain ⟨p1, p2, p3, p4, p5, p6, p7⟩ := id hR
  refine lv_aload_n hx hb dX1_read_33 rfl (lv_at hl 0 rfl) ?_
  refine y_mi (rest := []) (As := []) (σ := σ) (ρ := ρ) (dt := dt) (T := TX1) (N := 8) (fs := xF3 g ρ σ) 1 3 rfl rfl C0 hK hC hB hA cf_X1_takesClause w_272 (k_X1_takesClause l g ρ dt aK aV  σ  hTx hR) ⟨by decide, by decide⟩ hl.1 rfl rfl (Nat.le_of_ble_eq_true rfl) dX1_read_34 ⟨Nat.zero_le _, Nat.zero_le _⟩ (fun r34 u34 H locs e34 hC => ?_)
  have hT := bd_e e34 hT
  have S34 := clausx_q hR
  rw [← e34] at S34
  refine lv_if_ne (tgt := 42) hx hb dX1_read_37 (by decide) (fun c_37 => ?_) (fun c_37 => ?_)
  · have hT := hT_neg c_37 hT
    have S35 : (σ 64 0).toInt - (σ 61 0).toInt + 1 ≤ (u34 64 0).toInt - (u34 61 0).toInt := by
      rcases S34.2 with z | z
      · exact absurd z c_37
      · exact z
    refine lv_iinc (v := (a3 + (1 : Int32))) (lv' := [(3, .int ((a3 + (1 : Int32)))), (0, .ref (g.2.2 103))]) hx hb dX1_read_42 hl (k := 1) rfl rfl (by decide) rfl (fun ls hl => ?_)
    refine lv_iload_n hx hb dX1_read_45 rfl (lv_at hl 0 rfl) ?_
    refine lv_bipush (v := (10 : Int32)) hx hb dX1_read_46 (by decide) ?_
    refine lv_icmp_ge (tgt := 60) hx hb dX1_read_48 (by decide) (fun c_48 => ?_) (fun c_48 => ?_)
    · have hT := hT_pos c_48 hT
      have j48_hR : RC u34 := S34.1.2.1
      have j48_hBX : BX u34 := S34.1.2.2.2.2 hBX
      have j48_hp1 : 1 ≤ (u34 64 0).toInt - (u34 61 0).toInt := by omega
      exact b_X1_read_60 (g := g) (ρ := ρ) (dt := dt) (aK := aK) (aV := aV) h0 hsz hAx (σ := u34) C0  hTx j48_hR j48_hBX j48_hp1 hK hC hB hA (lv_sub hl [1] rfl) hT
    · have hT := hT_neg c_48 hT
      refine lv_aload_n hx hb dX1_read_51 rfl (lv_at hl 1 rfl) ?_
      refine lv_bipush (v := (59 : Int32)) hx hb dX1_read_52 (by decide) ?_
      have q54_hp : 0 ≤ (u34 64 0).toInt := S34.1.2.1.1
      refine x_mi (rest := []) (As := [.int ((59 : Int32))]) (σ := u34) (ρ := ρ) (dt := dt) (T := TX1) (N := 8) (fs := xF3 g ρ u34) 1 3 rfl rfl C0 hK hC (XH.wa hB.1 hA hC) cf_X1_takes w_339 (k_X1_takes l g ρ dt u34 (59 : Int32) hTx q54_hp) ⟨by decide, by decide⟩ hl.1 rfl rfl (Nat.le_of_ble_eq_true rfl) dX1_read_54 ⟨Nat.zero_le _, Nat.zero_le _⟩ (fun r54 u54 H locs e54 hC => ?_)
      have hT := bd_e e54 hT
      have S54 : RQ 0 u34 u54 := by rw [show u54 = _ from congrArg Prod.snd e54]; exact (takes_q S34.1.2.1 (by decide)).1
      have S55 := S54.2.2.2
      refine lv_if_ne (tgt := 33) hx hb dX1_read_57 (by decide) (fun c_57 => ?_) (fun c_57 => ?_)
      · have hT := hT_neg c_57 hT
        have j57_hR : RC u54 := S54.2.1
        have j57_hBX : BX u54 := S54.kq.2.2.2.2 (S34.1.2.2.2.2 hBX)
        have j57_hp0 : 0 ≤ (u54 64 0).toInt - (u54 61 0).toInt := by omega
        have j57_h3 : 0 ≤ (a3 + (1 : Int32)).toInt := by
          have : ((0 : Int32)).toInt = 0 := by decide
          have : ((10 : Int32)).toInt = 10 := by decide
          have : ((1 : Int32)).toInt = 1 := by decide
          have := mt ti_eq.mpr c_37
          have := mt ti_le.mpr c_48
          have := mt ti_eq.mpr c_57
          try have := ti_add (a := a3) (b := (1 : Int32)) (by omega) (by omega)
          omega
        have j57_h3b : (a3 + (1 : Int32)).toInt ≤ 9 := by
          have : ((0 : Int32)).toInt = 0 := by decide
          have : ((10 : Int32)).toInt = 10 := by decide
          have : ((1 : Int32)).toInt = 1 := by decide
          have := mt ti_eq.mpr c_37
          have := mt ti_le.mpr c_48
          have := mt ti_eq.mpr c_57
          try have := ti_add (a := a3) (b := (1 : Int32)) (by omega) (by omega)
          omega
        have j57_m : (10 - (a3 + (1 : Int32)).toInt).toNat < N33 := by
          have : ((0 : Int32)).toInt = 0 := by decide
          have : ((10 : Int32)).toInt = 10 := by decide
          have : ((1 : Int32)).toInt = 1 := by decide
          have := mt ti_eq.mpr c_37
          have := mt ti_le.mpr c_48
          have := mt ti_eq.mpr c_57
          try have := ti_add (a := a3) (b := (1 : Int32)) (by omega) (by omega)
          omega
        exact hK33 u54 (a3 + (1 : Int32)) hTx j57_hR j57_hBX j57_hp0 j57_h3 j57_h3b j57_m hK hC hB hA (lv_sub hl [1, 0] rfl) hT
      · have hT := hT_pos c_57 hT
        have j57_hR : RC u54 := S54.2.1
        have j57_hBX : BX u54 := S54.kq.2.2.2.2 (S34.1.2.2.2.2 hBX)
        have j57_hp1 : 1 ≤ (u54 64 0).toInt - (u54 61 0).toInt := by omega
        exact b_X1_read_60 (g := g) (ρ := ρ) (dt := dt) (aK := aK) (aV := aV) h0 hsz hAx (σ := u54) C0  hTx j57_hR j57_hBX j57_hp1 hK hC hB hA (lv_sub hl [1] rfl) hT
  · have hT := hT_pos c_37 hT
    refine lv_null hx hb dX1_read_40 ?_
    exact rd_null C0 hC hT dX1_read_41
def g_X1_read_33  : Nat → St → Int32 → Int32 × St
  | 0 => fun σ a3 => (0, σ)
  | n + 1 => fun σ a3 => f_X1_read_33  (g_X1_read_33  n) σ a3
theorem l_X1_read_33 {g : GG} {ρ : RR} {dt : Nat → Nat → Int32} {aK aV : Nat → Nat} {p : Program} {l : Launch} {e : Env} {s : State} {m : MethodId} {args : Array Value} {below : List Frame} {meth : Method} {c : Code} {A : Nat → Prop} {tgt : Int32 × St}  (h0 : Nat) (hsz : s.heap.size = h0) (hAx : ∀ q, AX g q → A q) (C0 : BC p s m args meth c cX1_read RX1 4 (some (.object "ThreeMeasures$Room")))  : ∀ (n : Nat) (σ : St) (a3 : Int32), (ρ 62 0 = some (g.2.2 20)) → (RC σ) → (BX σ) → (0 ≤ (σ 64 0).toInt - (σ 61 0).toInt) → (0 ≤ a3.toInt) → (a3.toInt ≤ 9) → (10 - a3.toInt).toNat < n → ∀ {H : Heap} {locs : List Loc}, KK g s → WC g (xW g ρ) A s.heap σ H locs → YB g ρ dt aK aV s → (∀ q, A q → AX g q) →  ∀ {ls : Array Slot}, lv_has ls 4 [(0, .ref (g.2.2 103)), (3, .int (a3))] → g_X1_read_33  n σ a3 = tgt → W p l e { frames := 38, cells := 2, slots := 103, locals := 855 } s m args below meth c H locs 0 0 (QRD below args s g ρ A h0 tgt) (F0 m 33 ls []) := by
  intro n
  induction n with
  | zero => intro σ a3 hTx hR hBX hp0 h3 h3b hm; exact absurd hm (Nat.not_lt_zero _)
  | succ n ih =>
    intro σ a3 hTx hR hBX hp0 h3 h3b hm H locs hK hC hB hA ls hl hT
    exact b_X1_read_33 (g := g) (ρ := ρ) (dt := dt) (aK := aK) (aV := aV) h0 hsz hAx (K33 := g_X1_read_33  n) (N33 := n) C0  (fun σ a3 hTx hR hBX hp0 h3 h3b hmq => ih σ a3 hTx hR hBX hp0 h3 h3b hmq) hTx hR hBX hp0 h3 h3b hm hK hC hB hA hl hT
