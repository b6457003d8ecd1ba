
/-- how deep the reader is: at a open, from o on -/
def EP (o : Int) (a : Int32) (σ : St) : Prop := RC σ ∧ o ≤ a.toInt ∧ a.toInt ≤ 5 ∧ 0 ≤ a.toInt
theorem EP.q {o j : Int} {a : Int32} {σ u : St} (h : EP o a σ) (S : RQ j σ u) : EP o a u := ⟨S.2.1, h.2⟩
set_option maxRecDepth 20000 in
theorem w_355 : (Cond.methodLink RX1 100 yX1_takesTest) ∈ TB := inTB (List.mem_of_getElem? (i := 355) (by decide +kernel)) (by decide +kernel)
set_option maxRecDepth 20000 in
theorem w_358 : (Cond.code yX1_takesTest cX1_takesTest 3 (some .boolean)) ∈ TB := inTB (List.mem_of_getElem? (i := 358) (by decide +kernel)) (by decide +kernel)
set_option maxRecDepth 20000 in
theorem w_357 : (Cond.instanceMethod yX1_takesTest) ∈ TB := inTB (List.mem_of_getElem? (i := 357) (by decide +kernel)) (by decide +kernel)
set_option maxRecDepth 20000 in
theorem w_8 : (Cond.selects RX1 yX1_takesTest yX1_takesTest) ∈ TB := inTB (List.mem_of_getElem? (i := 8) (by decide +kernel)) (by decide +kernel)
theorem cf_X1_takesTest : CF yX1_takesTest cX1_takesTest 3 (some .boolean) 0 := ⟨w_357, w_8, w_73, w_358, by decide +kernel, by decide +kernel, by decide +kernel⟩
set_option maxRecDepth 20000 in
theorem w_347 : (Cond.methodLink RX1 68 yX1_takesEither) ∈ TB := inTB (List.mem_of_getElem? (i := 347) (by decide +kernel)) (by decide +kernel)
set_option maxRecDepth 20000 in
theorem w_350 : (Cond.code yX1_takesEither cX1_takesEither 4 (some .boolean)) ∈ TB := inTB (List.mem_of_getElem? (i := 350) (by decide +kernel)) (by decide +kernel)
set_option maxRecDepth 20000 in
theorem w_349 : (Cond.instanceMethod yX1_takesEither) ∈ TB := inTB (List.mem_of_getElem? (i := 349) (by decide +kernel)) (by decide +kernel)
set_option maxRecDepth 20000 in
theorem w_6 : (Cond.selects RX1 yX1_takesEither yX1_takesEither) ∈ TB := inTB (List.mem_of_getElem? (i := 6) (by decide +kernel)) (by decide +kernel)
theorem cf_X1_takesEither : CF yX1_takesEither cX1_takesEither 4 (some .boolean) 1 := ⟨w_349, w_6, w_73, w_350, by decide +kernel, by decide +kernel, by decide +kernel⟩
/-! ThreeMeasures$Reader.takesFactor -/
theorem dX1_takesFactor_0 : decode cX1_takesFactor 0 = .ok (.iconst 0, 1) := by decide +kernel
theorem dX1_takesFactor_1 : decode cX1_takesFactor 1 = .ok (.istore_n 2, 1) := by decide +kernel
theorem dX1_takesFactor_2 : decode cX1_takesFactor 2 = .ok (.iload_n 1, 1) := by decide +kernel
theorem dX1_takesFactor_3 : decode cX1_takesFactor 3 = .ok (.iload_n 2, 1) := by decide +kernel
theorem dX1_takesFactor_4 : decode cX1_takesFactor 4 = .ok (.iadd, 1) := by decide +kernel
theorem dX1_takesFactor_5 : decode cX1_takesFactor 5 = .ok (.iconst 5, 1) := by decide +kernel
theorem dX1_takesFactor_6 : decode cX1_takesFactor 6 = .ok (.if_icmp .ge 18, 3) := by decide +kernel
theorem dX1_takesFactor_9 : decode cX1_takesFactor 9 = .ok (.aload_n 0, 1) := by decide +kernel
theorem dX1_takesFactor_10 : decode cX1_takesFactor 10 = .ok (.bipush 33, 2) := by decide +kernel
theorem dX1_takesFactor_12 : decode cX1_takesFactor 12 = .ok (.invokevirtual 40, 3) := by decide +kernel
theorem dX1_takesFactor_15 : decode cX1_takesFactor 15 = .ok (.ifCond .eq 9, 3) := by decide +kernel
theorem dX1_takesFactor_18 : decode cX1_takesFactor 18 = .ok (.iinc 2 1, 3) := by decide +kernel
theorem dX1_takesFactor_21 : decode cX1_takesFactor 21 = .ok (.goto (-19), 3) := by decide +kernel
theorem dX1_takesFactor_24 : decode cX1_takesFactor 24 = .ok (.aload_n 0, 1) := by decide +kernel
theorem dX1_takesFactor_25 : decode cX1_takesFactor 25 = .ok (.invokevirtual 53, 3) := by decide +kernel
theorem dX1_takesFactor_28 : decode cX1_takesFactor 28 = .ok (.bipush 40, 2) := by decide +kernel
theorem dX1_takesFactor_30 : decode cX1_takesFactor 30 = .ok (.if_icmp .ne 45, 3) := by decide +kernel
theorem dX1_takesFactor_33 : decode cX1_takesFactor 33 = .ok (.iload_n 1, 1) := by decide +kernel
theorem dX1_takesFactor_34 : decode cX1_takesFactor 34 = .ok (.iload_n 2, 1) := by decide +kernel
theorem dX1_takesFactor_35 : decode cX1_takesFactor 35 = .ok (.iadd, 1) := by decide +kernel
theorem dX1_takesFactor_36 : decode cX1_takesFactor 36 = .ok (.iconst 5, 1) := by decide +kernel
theorem dX1_takesFactor_37 : decode cX1_takesFactor 37 = .ok (.if_icmp .lt 5, 3) := by decide +kernel
theorem dX1_takesFactor_40 : decode cX1_takesFactor 40 = .ok (.iconst 0, 1) := by decide +kernel
theorem dX1_takesFactor_41 : decode cX1_takesFactor 41 = .ok (.ireturn, 1) := by decide +kernel
theorem dX1_takesFactor_42 : decode cX1_takesFactor 42 = .ok (.aload_n 0, 1) := by decide +kernel
theorem dX1_takesFactor_43 : decode cX1_takesFactor 43 = .ok (.dup, 1) := by decide +kernel
theorem dX1_takesFactor_44 : decode cX1_takesFactor 44 = .ok (.getfield 22, 3) := by decide +kernel
theorem dX1_takesFactor_47 : decode cX1_takesFactor 47 = .ok (.iconst 1, 1) := by decide +kernel
theorem dX1_takesFactor_48 : decode cX1_takesFactor 48 = .ok (.iadd, 1) := by decide +kernel
theorem dX1_takesFactor_49 : decode cX1_takesFactor 49 = .ok (.putfield 22, 3) := by decide +kernel
theorem dX1_takesFactor_52 : decode cX1_takesFactor 52 = .ok (.aload_n 0, 1) := by decide +kernel
theorem dX1_takesFactor_53 : decode cX1_takesFactor 53 = .ok (.iload_n 1, 1) := by decide +kernel
theorem dX1_takesFactor_54 : decode cX1_takesFactor 54 = .ok (.iload_n 2, 1) := by decide +kernel
theorem dX1_takesFactor_55 : decode cX1_takesFactor 55 = .ok (.iadd, 1) := by decide +kernel
theorem dX1_takesFactor_56 : decode cX1_takesFactor 56 = .ok (.iconst 1, 1) := by decide +kernel
theorem dX1_takesFactor_57 : decode cX1_takesFactor 57 = .ok (.iadd, 1) := by decide +kernel
theorem dX1_takesFactor_58 : decode cX1_takesFactor 58 = .ok (.invokevirtual 68, 3) := by decide +kernel
theorem dX1_takesFactor_61 : decode cX1_takesFactor 61 = .ok (.ifCond .eq 12, 3) := by decide +kernel
theorem dX1_takesFactor_64 : decode cX1_takesFactor 64 = .ok (.aload_n 0, 1) := by decide +kernel
theorem dX1_takesFactor_65 : decode cX1_takesFactor 65 = .ok (.bipush 41, 2) := by decide +kernel
theorem dX1_takesFactor_67 : decode cX1_takesFactor 67 = .ok (.invokevirtual 40, 3) := by decide +kernel
theorem dX1_takesFactor_70 : decode cX1_takesFactor 70 = .ok (.ifCond .ne 14, 3) := by decide +kernel
theorem dX1_takesFactor_73 : decode cX1_takesFactor 73 = .ok (.iconst 0, 1) := by decide +kernel
theorem dX1_takesFactor_74 : decode cX1_takesFactor 74 = .ok (.ireturn, 1) := by decide +kernel
theorem dX1_takesFactor_75 : decode cX1_takesFactor 75 = .ok (.aload_n 0, 1) := by decide +kernel
theorem dX1_takesFactor_76 : decode cX1_takesFactor 76 = .ok (.invokevirtual 100, 3) := by decide +kernel
theorem dX1_takesFactor_79 : decode cX1_takesFactor 79 = .ok (.ifCond .ne 5, 3) := by decide +kernel
theorem dX1_takesFactor_82 : decode cX1_takesFactor 82 = .ok (.iconst 0, 1) := by decide +kernel
theorem dX1_takesFactor_83 : decode cX1_takesFactor 83 = .ok (.ireturn, 1) := by decide +kernel
theorem dX1_takesFactor_84 : decode cX1_takesFactor 84 = .ok (.iload_n 2, 1) := by decide +kernel
theorem dX1_takesFactor_85 : decode cX1_takesFactor 85 = .ok (.iconst 2, 1) := by decide +kernel
theorem dX1_takesFactor_86 : decode cX1_takesFactor 86 = .ok (.irem, 1) := by decide +kernel
theorem dX1_takesFactor_87 : decode cX1_takesFactor 87 = .ok (.iconst 1, 1) := by decide +kernel
theorem dX1_takesFactor_88 : decode cX1_takesFactor 88 = .ok (.if_icmp .ne 9, 3) := by decide +kernel
theorem dX1_takesFactor_91 : decode cX1_takesFactor 91 = .ok (.aload_n 0, 1) := by decide +kernel
theorem dX1_takesFactor_92 : decode cX1_takesFactor 92 = .ok (.iconst 1, 1) := by decide +kernel
theorem dX1_takesFactor_93 : decode cX1_takesFactor 93 = .ok (.iconst 0, 1) := by decide +kernel
theorem dX1_takesFactor_94 : decode cX1_takesFactor 94 = .ok (.invokevirtual 72, 3) := by decide +kernel
theorem dX1_takesFactor_97 : decode cX1_takesFactor 97 = .ok (.iconst 1, 1) := by decide +kernel
theorem dX1_takesFactor_98 : decode cX1_takesFactor 98 = .ok (.ireturn, 1) := by decide +kernel
def f_X1_takesFactor_84 (Fe : St → Int32 → Int32 × St)  (σ : St) (a2 : Int32) : Int32 × St := (if (a2 - a2 / (2 : Int32) * (2 : Int32)) = (1 : Int32) then (bd1 (f_X1_emit σ (1 : Int32) (0 : Int32)) (fun u94 => ((1 : Int32), u94))) else ((1 : Int32), σ))
set_option maxHeartbeats 600000 in
set_option maxRecDepth 100000 in
theorem b_X1_takesFactor_84 {g : GG} {ρ : RR} {dt : Nat → Nat → Int32} {aK aV : Nat → Nat} {p : Program} {l : Launch} {e : Env} {s : State} {m : MethodId} {args : Array Value} {below : List Frame} {meth : Method} {c : Code} {A : Nat → Prop} {tgt : Int32 × St}  (o : Int) (Fe : St → Int32 → Int32 × St) (frF loF : Nat) (kF : ∀ (σ : St) (a : Int32), EP o a σ → MI l yX1_takesEither (wsF yX1_takesEither cX1_takesEither 4 (some .boolean)) { frames := frF, cells := 0, slots := 0, locals := loF } [.ref (g.2.2 103), .int a] g (xW g ρ) (YB g ρ dt aK aV) σ (Fe σ a)) (qF : ∀ (σ : St) (a : Int32), EP o a σ → RQ 0 σ (Fe σ a).2) (C0 : BC p s m args meth c cX1_takesFactor RX1 3 (some .boolean))  {σ : St} {a2 : Int32} {H : Heap} {locs : List Loc} (hTx : ρ 62 0 = some (g.2.2 20)) (hR : RC σ)  (hK : KK g s) (hC : WC g (xW g ρ) A s.heap σ H locs) (hB : YB g ρ dt aK aV s) (hA : ∀ q, A q → AX g q) {ls : Array Slot} (hl : lv_has ls 3 [(0, .ref (g.2.2 103)), (2, .int (a2))]) (hT : f_X1_takesFactor_84 Fe  σ a2 = tgt) : W p l e { frames := frF + 5, cells := 0, slots := 0, locals := loF + 113 } s m args below meth c H locs 0 0 (QMI below args s g (xW g ρ) A tgt) (F0 m 84 ls []) := by
  obtain ⟨hx, hb, hr, hml, hown, hts, hlocks⟩ := id C0
  unfold f_X1_takesFactor_84 at hT
  obtain ⟨p1, p2, p3, p4, p5, p6, p7⟩ := id hR
  refine lv_iload_n hx hb dX1_takesFactor_84 rfl (lv_at hl 1 rfl) ?_
  refine lv_iconst (v := (2 : Int32)) hx hb dX1_takesFactor_85 (by decide) ?_
  refine lv_irem hx hb dX1_takesFactor_86 (by decide) ?_
  refine lv_iconst (v := (1 : Int32)) hx hb dX1_takesFactor_87 (by decide) ?_
  refine lv_icmp_ne (tgt := 97) hx hb dX1_takesFactor_88 (by decide) (fun c_88 => ?_) (fun c_88 => ?_)
  · have hT := hT_neg c_88 hT
    refine lv_iconst (v := (1 : Int32)) hx hb dX1_takesFactor_97 (by decide) ?_
    exact ret_MZ C0 (nz_of (Or.inr rfl)) hC hT dX1_takesFactor_98
  · have hT := hT_pos c_88 hT
    refine lv_aload_n hx hb dX1_takesFactor_91 rfl (lv_at hl 0 rfl) ?_
    refine lv_iconst (v := (1 : Int32)) hx hb dX1_takesFactor_92 (by decide) ?_
    refine lv_iconst (v := (0 : Int32)) hx hb dX1_takesFactor_93 (by decide) ?_
    have q94_h61 : 0 ≤ (σ 61 0).toInt := p4
    refine x_mv (rest := []) (As := [.int ((1 : Int32)), .int ((0 : Int32))]) (σ := σ) (ρ := ρ) (dt := dt) (T := TX1) (N := 8) (fs := xF3 g ρ σ) 1 3 rfl rfl C0 hK hC (XH.wa hB.1 hA hC) cf_X1_emit w_423 (k_X1_emit l g ρ dt σ (1 : Int32) (0 : Int32) q94_h61) ⟨(by dsimp only; omega), (by dsimp only; omega)⟩ hl.1 rfl rfl (Nat.le_of_ble_eq_true rfl) dX1_takesFactor_94 ⟨Nat.zero_le _, Nat.zero_le _⟩ (fun u94 H locs e94 hC => ?_)
    have hT := bd1_e e94 hT
    refine lv_iconst (v := (1 : Int32)) hx hb dX1_takesFactor_97 (by decide) ?_
    exact ret_MZ C0 (nz_of (Or.inr rfl)) hC hT dX1_takesFactor_98
def f_X1_takesFactor_24 (Fe : St → Int32 → Int32 × St)  (σ : St) (a1 : Int32) (a2 : Int32) : Int32 × St := (if (f_X1_next σ ) = (40 : Int32) then (if (a1 + a2) < (5 : Int32) then (bd (Fe (up2 σ 64 0 ((σ 64 0) + (1 : Int32))) ((a1 + a2) + (1 : Int32))) (fun r58 u58 => (if r58 = 0 then ((0 : Int32), u58) else (bd (f_X1_takes u58 (41 : Int32)) (fun r67 u67 => (if r67 = 0 then ((0 : Int32), u67) else (f_X1_takesFactor_84 Fe  u67 a2))))))) else ((0 : Int32), σ)) else (bd (f_X1_takesTest σ ) (fun r76 u76 => (if r76 = 0 then ((0 : Int32), u76) else (f_X1_takesFactor_84 Fe  u76 a2)))))
set_option maxHeartbeats 600000 in
set_option maxRecDepth 100000 in
theorem b_X1_takesFactor_24 {g : GG} {ρ : RR} {dt : Nat → Nat → Int32} {aK aV : Nat → Nat} {p : Program} {l : Launch} {e : Env} {s : State} {m : MethodId} {args : Array Value} {below : List Frame} {meth : Method} {c : Code} {A : Nat → Prop} {tgt : Int32 × St}  (o : Int) (Fe : St → Int32 → Int32 × St) (frF loF : Nat) (kF : ∀ (σ : St) (a : Int32), EP o a σ → MI l yX1_takesEither (wsF yX1_takesEither cX1_takesEither 4 (some .boolean)) { frames := frF, cells := 0, slots := 0, locals := loF } [.ref (g.2.2 103), .int a] g (xW g ρ) (YB g ρ dt aK aV) σ (Fe σ a)) (qF : ∀ (σ : St) (a : Int32), EP o a σ → RQ 0 σ (Fe σ a).2) (C0 : BC p s m args meth c cX1_takesFactor RX1 3 (some .boolean))  {σ : St} {a1 : Int32} {a2 : Int32} {H : Heap} {locs : List Loc} (hTx : ρ 62 0 = some (g.2.2 20)) (hP : EP (o - 1) a1 σ) (h2 : 0 ≤ a2.toInt) (h2b : a1.toInt + a2.toInt ≤ 5)  (hK : KK g s) (hC : WC g (xW g ρ) A s.heap σ H locs) (hB : YB g ρ dt aK aV s) (hA : ∀ q, A q → AX g q) {ls : Array Slot} (hl : lv_has ls 3 [(0, .ref (g.2.2 103)), (1, .int (a1)), (2, .int (a2))]) (hT : f_X1_takesFactor_24 Fe  σ a1 a2 = tgt) : W p l e { frames := frF + 5, cells := 0, slots := 0, locals := loF + 113 } s m args below meth c H locs 0 0 (QMI below args s g (xW g ρ) A tgt) (F0 m 24 ls []) := by
  obtain ⟨hx, hb, hr, hml, hown, hts, hlocks⟩ := id C0
  unfold f_X1_takesFactor_24 at hT
  obtain ⟨hR, po1, po2, po3⟩ := id hP
  obtain ⟨p1, p2, p3, p4, p5, p6, p7⟩ := id hR
  have z1 : (1 : Int32).toInt = 1 := rfl
  have z5 : (5 : Int32).toInt = 5 := rfl
  have q12 := ti_add (a := a1) (b := a2) (by omega) (by omega)
  refine lv_aload_n hx hb dX1_takesFactor_24 rfl (lv_at hl 0 rfl) ?_
  have q25_hp : 0 ≤ (σ 64 0).toInt := by
    omega
  refine x_ci (rest := []) (As := []) (σ := σ) (ρ := ρ) (dt := dt) (T := TX1) (N := 8) (fs := xF3 g ρ σ) 1 3 rfl rfl C0 hK hC.1 (hC.2.1.weaken (fun _ _ _ _ => trivial)) (XH.wa hB.1 hA hC) cf_X1_next w_276 (k_X1_next l g ρ dt σ  hTx q25_hp) ⟨(by dsimp only; omega), (by dsimp only; omega)⟩ hl.1 rfl rfl (Nat.le_of_ble_eq_true rfl) dX1_takesFactor_25 ⟨Nat.zero_le _, Nat.zero_le _⟩ ?_
  refine lv_bipush (v := (40 : Int32)) hx hb dX1_takesFactor_28 (by decide) ?_
  refine lv_icmp_ne (tgt := 75) hx hb dX1_takesFactor_30 (by decide) (fun c_30 => ?_) (fun c_30 => ?_)
  · have hT := hT_neg c_30 hT
    refine lv_aload_n hx hb dX1_takesFactor_75 rfl (lv_at hl 0 rfl) ?_
    have q76_hR : RC σ := by
      have : ((40 : Int32)).toInt = 40 := by decide
      have := mt ti_eq.mpr c_30
      omega
    refine y_mi (rest := []) (As := []) (σ := σ) (ρ := ρ) (dt := dt) (T := TX1) (N := 8) (fs := xF3 g ρ σ) 1 3 rfl rfl C0 hK hC hB hA cf_X1_takesTest w_355 (k_X1_takesTest l g ρ dt aK aV  σ  hTx q76_hR) ⟨(by dsimp only; omega), (by dsimp only; omega)⟩ hl.1 rfl rfl (Nat.le_of_ble_eq_true rfl) dX1_takesFactor_76 ⟨Nat.zero_le _, Nat.zero_le _⟩ (fun r76 u76 H locs e76 hC => ?_)
    have hT := bd_e e76 hT
    have S76 : RQ 0 σ u76 := by rw [show u76 = _ from congrArg Prod.snd e76]; exact test_q hR
    refine lv_if_ne (tgt := 84) hx hb dX1_takesFactor_79 (by decide) (fun c_79 => ?_) (fun c_79 => ?_)
    · have hT := hT_neg c_79 hT
      have j79_hR : RC u76 := S76.2.1
      exact b_X1_takesFactor_84 (g := g) (ρ := ρ) (dt := dt) (aK := aK) (aV := aV) o Fe frF loF kF qF (σ := u76) (a2 := a2) C0  hTx j79_hR hK hC hB hA (lv_sub hl [0, 2] rfl) hT
    · have hT := hT_pos c_79 hT
      refine lv_iconst (v := (0 : Int32)) hx hb dX1_takesFactor_82 (by decide) ?_
      exact ret_MZ C0 (nz_of (Or.inl rfl)) hC hT dX1_takesFactor_83
  · have hT := hT_pos c_30 hT
    refine lv_iload_n hx hb dX1_takesFactor_33 rfl (lv_at hl 1 rfl) ?_
    refine lv_iload_n hx hb dX1_takesFactor_34 rfl (lv_at hl 2 rfl) ?_
    refine lv_iadd hx hb dX1_takesFactor_35 ?_
    refine lv_iconst (v := (5 : Int32)) hx hb dX1_takesFactor_36 (by decide) ?_
    refine lv_icmp_lt (tgt := 42) hx hb dX1_takesFactor_37 (by decide) (fun c_37 => ?_) (fun c_37 => ?_)
    · have hT := hT_pos c_37 hT
      refine lv_aload_n hx hb dX1_takesFactor_42 rfl (lv_at hl 0 rfl) ?_
      refine lv_dup hx hb dX1_takesFactor_43 rfl ?_
      refine x_get (σ := σ) (v := .int ((σ 64 0))) (fs := xF3 g ρ σ) 1 3 C0 uw_1 dc_1 hK hC.1 rfl rfl 4 (by decide) rfl w_192 dX1_takesFactor_44 ?_
      refine lv_iconst (v := (1 : Int32)) hx hb dX1_takesFactor_47 (by decide) ?_
      refine lv_iadd hx hb dX1_takesFactor_48 ?_
      refine x_put (σ := σ) (ty := .int) (fs := xF3 g ρ σ) 1 3 C0 uw_1 dc_1 tyX1 tyX1_ok nmX1 hK hC rfl rfl 4 (by decide) rfl rfl rfl rfl (Nat.le_of_ble_eq_true rfl) (xs_64 g ρ _ _) w_192 dX1_takesFactor_49 (fun H locs hC => ?_)
      refine lv_aload_n hx hb dX1_takesFactor_52 rfl (lv_at hl 0 rfl) ?_
      refine lv_iload_n hx hb dX1_takesFactor_53 rfl (lv_at hl 1 rfl) ?_
      refine lv_iload_n hx hb dX1_takesFactor_54 rfl (lv_at hl 2 rfl) ?_
      refine lv_iadd hx hb dX1_takesFactor_55 ?_
      refine lv_iconst (v := (1 : Int32)) hx hb dX1_takesFactor_56 (by decide) ?_
      refine lv_iadd hx hb dX1_takesFactor_57 ?_
      obtain ⟨S1, -⟩ := rc_64 hR (nx_lt (by rw [c_30]; decide))
      have w := ti_lt.mp c_37
      have q3 := ti_add (a := a1 + a2) (b := 1) (by omega) (by omega)
      have E58 : EP o ((a1 + a2) + (1 : Int32)) (up2 σ 64 0 ((σ 64 0) + (1 : Int32))) := ⟨S1.2.1, by omega, by omega, by omega⟩
      have q58_hP : EP o ((a1 + a2) + (1 : Int32)) (up2 σ 64 0 ((σ 64 0) + (1 : Int32))) := E58
      refine y_mi (rest := []) (As := [.int (((a1 + a2) + (1 : Int32)))]) (σ := (up2 σ 64 0 ((σ 64 0) + (1 : Int32)))) (ρ := ρ) (dt := dt) (T := TX1) (N := 8) (fs := xF3 g ρ (up2 σ 64 0 ((σ 64 0) + (1 : Int32)))) 1 3 rfl rfl C0 hK hC hB hA cf_X1_takesEither w_347 (kF (up2 σ 64 0 ((σ 64 0) + (1 : Int32))) ((a1 + a2) + (1 : Int32)) q58_hP) ⟨(by dsimp only; omega), (by dsimp only; omega)⟩ hl.1 rfl rfl (Nat.le_of_ble_eq_true rfl) dX1_takesFactor_58 ⟨Nat.zero_le _, Nat.zero_le _⟩ (fun r58 u58 H locs e58 hC => ?_)
      have hT := bd_e e58 hT
      have S58 : RQ 0 (up2 σ 64 0 ((σ 64 0) + (1 : Int32))) u58 := by rw [show u58 = _ from congrArg Prod.snd e58]; exact qF _ _ E58
      refine lv_if_eq (tgt := 73) hx hb dX1_takesFactor_61 (by decide) (fun c_61 => ?_) (fun c_61 => ?_)
      · have hT := hT_pos c_61 hT
        refine lv_iconst (v := (0 : Int32)) hx hb dX1_takesFactor_73 (by decide) ?_
        exact ret_MZ C0 (nz_of (Or.inl rfl)) hC hT dX1_takesFactor_74
      · have hT := hT_neg c_61 hT
        refine lv_aload_n hx hb dX1_takesFactor_64 rfl (lv_at hl 0 rfl) ?_
        refine lv_bipush (v := (41 : Int32)) hx hb dX1_takesFactor_65 (by decide) ?_
        have q67_hp : 0 ≤ (u58 64 0).toInt := S58.2.1.1
        refine x_mi (rest := []) (As := [.int ((41 : Int32))]) (σ := u58) (ρ := ρ) (dt := dt) (T := TX1) (N := 8) (fs := xF3 g ρ u58) 1 3 rfl rfl C0 hK hC (XH.wa hB.1 hA hC) cf_X1_takes w_339 (k_X1_takes l g ρ dt u58 (41 : Int32) hTx q67_hp) ⟨(by dsimp only; omega), (by dsimp only; omega)⟩ hl.1 rfl rfl (Nat.le_of_ble_eq_true rfl) dX1_takesFactor_67 ⟨Nat.zero_le _, Nat.zero_le _⟩ (fun r67 u67 H locs e67 hC => ?_)
        have hT := bd_e e67 hT
        have S67 : RQ 0 u58 u67 := by rw [show u67 = _ from congrArg Prod.snd e67]; exact (takes_q S58.2.1 (by decide)).1
        refine lv_if_ne (tgt := 84) hx hb dX1_takesFactor_70 (by decide) (fun c_70 => ?_) (fun c_70 => ?_)
        · have hT := hT_neg c_70 hT
          have j70_hR : RC u67 := S67.2.1
          exact b_X1_takesFactor_84 (g := g) (ρ := ρ) (dt := dt) (aK := aK) (aV := aV) o Fe frF loF kF qF (σ := u67) (a2 := a2) C0  hTx j70_hR hK hC hB hA (lv_sub hl [0, 2] rfl) hT
        · have hT := hT_pos c_70 hT
          refine lv_iconst (v := (0 : Int32)) hx hb dX1_takesFactor_73 (by decide) ?_
          exact ret_MZ C0 (nz_of (Or.inl rfl)) hC hT dX1_takesFactor_74
    · have hT := hT_neg c_37 hT
      refine lv_iconst (v := (0 : Int32)) hx hb dX1_takesFactor_40 (by decide) ?_
      exact ret_MZ C0 (nz_of (Or.inl rfl)) hC hT dX1_takesFactor_41
def f_X1_takesFactor_2 (Fe : St → Int32 → Int32 × St) (K2 : St → Int32 → Int32 → Int32 × St) (σ : St) (a1 : Int32) (a2 : Int32) : Int32 × St := (if (5 : Int32) ≤ (a1 + a2) then (f_X1_takesFactor_24 Fe  σ a1 a2) else (bd (f_X1_takes σ (33 : Int32)) (fun r12 u12 => (if r12 = 0 then (f_X1_takesFactor_24 Fe  u12 a1 a2) else (K2 u12 a1 (a2 + (1 : Int32)))))))
set_option maxHeartbeats 600000 in
set_option maxRecDepth 100000 in
theorem b_X1_takesFactor_2 {g : GG} {ρ : RR} {dt : Nat → Nat → Int32} {aK aV : Nat → Nat} {p : Program} {l : Launch} {e : Env} {s : State} {m : MethodId} {args : Array Value} {below : List Frame} {meth : Method} {c : Code} {A : Nat → Prop} {tgt : Int32 × St} {K2 : St → Int32 → Int32 → Int32 × St} {N2 : Nat} (o : Int) (Fe : St → Int32 → Int32 × St) (frF loF : Nat) (kF : ∀ (σ : St) (a : Int32), EP o a σ → MI l yX1_takesEither (wsF yX1_takesEither cX1_takesEither 4 (some .boolean)) { frames := frF, cells := 0, slots := 0, locals := loF } [.ref (g.2.2 103), .int a] g (xW g ρ) (YB g ρ dt aK aV) σ (Fe σ a)) (qF : ∀ (σ : St) (a : Int32), EP o a σ → RQ 0 σ (Fe σ a).2) (C0 : BC p s m args meth c cX1_takesFactor RX1 3 (some .boolean)) (hK2 : ∀ (σ : St) (a1 : Int32) (a2 : Int32), (ρ 62 0 = some (g.2.2 20)) → (EP (o - 1) a1 σ) → (0 ≤ a2.toInt) → (a1.toInt + a2.toInt ≤ 5) → (5 - a1.toInt - a2.toInt).toNat < N2 → ∀ {H : Heap} {locs : List Loc}, KK g s → WC g (xW g ρ) A s.heap σ H locs → YB g ρ dt aK aV s → (∀ q, A q → AX g q) →  ∀ {ls : Array Slot}, lv_has ls 3 [(0, .ref (g.2.2 103)), (1, .int (a1)), (2, .int (a2))] → K2 σ a1 a2 = tgt → W p l e { frames := frF + 5, cells := 0, slots := 0, locals := loF + 113 } s m args below meth c H locs 0 0 (QMI below args s g (xW g ρ) A tgt) (F0 m 2 ls [])) {σ : St} {a1 : Int32} {a2 : Int32} {H : Heap} {locs : List Loc} (hTx : ρ 62 0 = some (g.2.2 20)) (hP : EP (o - 1) a1 σ) (h2 : 0 ≤ a2.toInt) (h2b : a1.toInt + a2.toInt ≤ 5) (hm : (5 - a1.toInt - a2.toInt).toNat < N2 + 1) (hK : KK g s) (hC : WC g (xW g ρ) A s.heap σ H locs) (hB : YB g ρ dt aK aV s) (hA : ∀ q, A q → AX g q) {ls : Array Slot} (hl : lv_has ls 3 [(0, .ref (g.2.2 103)), (1, .int (a1)), (2, .int (a2))]) (hT : f_X1_takesFactor_2 Fe K2 σ a1 a2 = tgt) : W p l e { frames := frF + 5, cells := 0, slots := 0, locals := loF + 113 } s m args below meth c H locs 0 0 (QMI below args s g (xW g ρ) A tgt) (F0 m 2 ls []) := by
  obtain ⟨hx, hb, hr, hml, hown, hts, hlocks⟩ := id C0
  unfold f_X1_takesFactor_2 at hT
  obtain ⟨hR, po1, po2, po3⟩ := id hP
  obtain ⟨p1, p2, p3, p4, p5, p6, p7⟩ := id hR
  have z1 : (1 : Int32).toInt = 1 := rfl
  have z5 : (5 : Int32).toInt = 5 := rfl
  have q12 := ti_add (a := a1) (b := a2) (by omega) (by omega)
  refine lv_iload_n hx hb dX1_takesFactor_2 rfl (lv_at hl 1 rfl) ?_
  refine lv_iload_n hx hb dX1_takesFactor_3 rfl (lv_at hl 2 rfl) ?_
  refine lv_iadd hx hb dX1_takesFactor_4 ?_
  refine lv_iconst (v := (5 : Int32)) hx hb dX1_takesFactor_5 (by decide) ?_
  refine lv_icmp_ge (tgt := 24) hx hb dX1_takesFactor_6 (by decide) (fun c_6 => ?_) (fun c_6 => ?_)
  · have hT := hT_pos c_6 hT
    exact b_X1_takesFactor_24 (g := g) (ρ := ρ) (dt := dt) (aK := aK) (aV := aV) o Fe frF loF kF qF (σ := σ) (a1 := a1) (a2 := a2) C0  hTx hP h2 h2b hK hC hB hA hl hT
  · have hT := hT_neg c_6 hT
    refine lv_aload_n hx hb dX1_takesFactor_9 rfl (lv_at hl 0 rfl) ?_
    refine lv_bipush (v := (33 : Int32)) hx hb dX1_takesFactor_10 (by decide) ?_
    have q12_hp : 0 ≤ (σ 64 0).toInt := by
      have : ((5 : Int32)).toInt = 5 := by decide
      have : ((33 : Int32)).toInt = 33 := by decide
      have := mt ti_le.mpr c_6
      try have := ti_add (a := a1) (b := a2) (by omega) (by omega)
      omega
    refine x_mi (rest := []) (As := [.int ((33 : Int32))]) (σ := σ) (ρ := ρ) (dt := dt) (T := TX1) (N := 8) (fs := xF3 g ρ σ) 1 3 rfl rfl C0 hK hC (XH.wa hB.1 hA hC) cf_X1_takes w_339 (k_X1_takes l g ρ dt σ (33 : Int32) hTx q12_hp) ⟨(by dsimp only; omega), (by dsimp only; omega)⟩ hl.1 rfl rfl (Nat.le_of_ble_eq_true rfl) dX1_takesFactor_12 ⟨Nat.zero_le _, Nat.zero_le _⟩ (fun r12 u12 H locs e12 hC => ?_)
    have hT := bd_e e12 hT
    have S12 : RQ 0 σ u12 := by rw [show u12 = _ from congrArg Prod.snd e12]; exact (takes_q hR (by decide)).1
    refine lv_if_eq (tgt := 24) hx hb dX1_takesFactor_15 (by decide) (fun c_15 => ?_) (fun c_15 => ?_)
    · have hT := hT_pos c_15 hT
      have j15_hP : EP (o - 1) a1 u12 := hP.q S12
      exact b_X1_takesFactor_24 (g := g) (ρ := ρ) (dt := dt) (aK := aK) (aV := aV) o Fe frF loF kF qF (σ := u12) (a1 := a1) (a2 := a2) C0  hTx j15_hP h2 h2b hK hC hB hA hl hT
    · have hT := hT_neg c_15 hT
      refine lv_iinc (v := (a2 + (1 : Int32))) (lv' := [(2, .int ((a2 + (1 : Int32)))), (0, .ref (g.2.2 103)), (1, .int (a1))]) hx hb dX1_takesFactor_18 hl (k := 2) rfl rfl (by decide) rfl (fun ls hl => ?_)
      refine lv_goto (tgt := 2) hx hb dX1_takesFactor_21 (by decide) ?_
      have j21_hP : EP (o - 1) a1 u12 := hP.q S12
      have j21_h2 : 0 ≤ (a2 + (1 : Int32)).toInt := by have := mt ti_le.mpr c_6; have q3 := ti_add (a := a2) (b := 1) (by omega) (by omega); omega
      have j21_h2b : a1.toInt + (a2 + (1 : Int32)).toInt ≤ 5 := by have := mt ti_le.mpr c_6; have q3 := ti_add (a := a2) (b := 1) (by omega) (by omega); omega
      have j21_m : (5 - a1.toInt - (a2 + (1 : Int32)).toInt).toNat < N2 := by
        have := mt ti_le.mpr c_6; have q3 := ti_add (a := a2) (b := 1) (by omega) (by omega); omega
      exact hK2 u12 a1 (a2 + (1 : Int32)) hTx j21_hP j21_h2 j21_h2b j21_m hK hC hB hA (lv_sub hl [1, 2, 0] rfl) hT
def g_X1_takesFactor_2 (Fe : St → Int32 → Int32 × St)  : Nat → St → Int32 → Int32 → Int32 × St
  | 0 => fun σ a1 a2 => (0, σ)
  | n + 1 => fun σ a1 a2 => f_X1_takesFactor_2 Fe  (g_X1_takesFactor_2 Fe  n) σ a1 a2
theorem l_X1_takesFactor_2 {g : GG} {ρ : RR} {dt : Nat → Nat → Int32} {aK aV : Nat → Nat} {p : Program} {l : Launch} {e : Env} {s : State} {m : MethodId} {args : Array Value} {below : List Frame} {meth : Method} {c : Code} {A : Nat → Prop} {tgt : Int32 × St}  (o : Int) (Fe : St → Int32 → Int32 × St) (frF loF : Nat) (kF : ∀ (σ : St) (a : Int32), EP o a σ → MI l yX1_takesEither (wsF yX1_takesEither cX1_takesEither 4 (some .boolean)) { frames := frF, cells := 0, slots := 0, locals := loF } [.ref (g.2.2 103), .int a] g (xW g ρ) (YB g ρ dt aK aV) σ (Fe σ a)) (qF : ∀ (σ : St) (a : Int32), EP o a σ → RQ 0 σ (Fe σ a).2) (C0 : BC p s m args meth c cX1_takesFactor RX1 3 (some .boolean))  : ∀ (n : Nat) (σ : St) (a1 : Int32) (a2 : Int32), (ρ 62 0 = some (g.2.2 20)) → (EP (o - 1) a1 σ) → (0 ≤ a2.toInt) → (a1.toInt + a2.toInt ≤ 5) → (5 - a1.toInt - a2.toInt).toNat < n → ∀ {H : Heap} {locs : List Loc}, KK g s → WC g (xW g ρ) A s.heap σ H locs → YB g ρ dt aK aV s → (∀ q, A q → AX g q) →  ∀ {ls : Array Slot}, lv_has ls 3 [(0, .ref (g.2.2 103)), (1, .int (a1)), (2, .int (a2))] → g_X1_takesFactor_2 Fe  n σ a1 a2 = tgt → W p l e { frames := frF + 5, cells := 0, slots := 0, locals := loF + 113 } s m args below meth c H locs 0 0 (QMI below args s g (xW g ρ) A tgt) (F0 m 2 ls []) := by
  intro n
  induction n with
  | zero => intro σ a1 a2 hTx hP h2 h2b hm; exact absurd hm (Nat.not_lt_zero _)
  | succ n ih =>
    intro σ a1 a2 hTx hP h2 h2b hm H locs hK hC hB hA ls hl hT
    exact b_X1_takesFactor_2 (g := g) (ρ := ρ) (dt := dt) (aK := aK) (aV := aV) o Fe frF loF kF qF (K2 := g_X1_takesFactor_2 Fe  n) (N2 := n) C0  (fun σ a1 a2 hTx hP h2 h2b hmq => ih σ a1 a2 hTx hP h2 h2b hmq) hTx hP h2 h2b hm hK hC hB hA hl hT
def f_X1_takesFactor (Fe : St → Int32 → Int32 × St) (σ : St) (a1 : Int32) : Int32 × St := (g_X1_takesFactor_2 Fe  (6) σ a1 (0 : Int32))
set_option maxHeartbeats 600000 in
set_option maxRecDepth 100000 in
theorem k_X1_takesFactor (l : Launch) (g : GG) (ρ : RR) (dt : Nat → Nat → Int32) (aK aV : Nat → Nat) (o : Int) (Fe : St → Int32 → Int32 × St) (frF loF : Nat) (kF : ∀ (σ : St) (a : Int32), EP o a σ → MI l yX1_takesEither (wsF yX1_takesEither cX1_takesEither 4 (some .boolean)) { frames := frF, cells := 0, slots := 0, locals := loF } [.ref (g.2.2 103), .int a] g (xW g ρ) (YB g ρ dt aK aV) σ (Fe σ a)) (qF : ∀ (σ : St) (a : Int32), EP o a σ → RQ 0 σ (Fe σ a).2) (σ : St) (a1 : Int32) (hTx : ρ 62 0 = some (g.2.2 20)) (hP : EP (o - 1) a1 σ) : MI l yX1_takesFactor (wsF yX1_takesFactor cX1_takesFactor 3 (some .boolean)) { frames := frF + 5, cells := 0, slots := 0, locals := loF + 113 } [.ref (g.2.2 103), .int (a1)] g (xW g ρ) (YB g ρ dt aK aV) σ (f_X1_takesFactor Fe σ a1) := by
  refine start_MI (by decide) (Nat.le_of_ble_eq_true rfl) ?_
  intro p e s m args below meth c C0 hK hB hC ls hl
  generalize hAe : aA ((xW g ρ) σ) = A at hC ⊢
  have hA : ∀ q, A q → AX g q := fun q h => by rw [← hAe] at h; exact h
  obtain ⟨hx, hb, hr, hml, hown, hts, hlocks⟩ := id C0
  have hl : lv_has ls 3 [(0, .ref (g.2.2 103)), (1, .int (a1))] := hl
  generalize hT : (f_X1_takesFactor Fe σ a1) = tgt
  suffices key : ∀ (H : Heap) (locs : List Loc), WC g (xW g ρ) A s.heap σ H locs → W p l e { frames := frF + 5, cells := 0, slots := 0, locals := loF + 113 } s m args below meth c H locs 0 0 (QMI below args s g (xW g ρ) A tgt) (F0 m 0 ls []) from key _ _ hC
  intro H locs hC
  unfold f_X1_takesFactor at hT
  refine lv_iconst (v := (0 : Int32)) hx hb dX1_takesFactor_0 (by decide) ?_
  refine lv_istore_n (lv' := [(2, .int ((0 : Int32))), (0, .ref (g.2.2 103)), (1, .int (a1))]) hx hb dX1_takesFactor_1 rfl hl (by decide) rfl (fun ls hl => ?_)
  have j1_h2 : 0 ≤ (0 : Int32).toInt := by
    have : ((0 : Int32)).toInt = 0 := by decide
    omega
  have j1_h2b : a1.toInt + (0 : Int32).toInt ≤ 5 := by have z0 : (0 : Int32).toInt = 0 := rfl; have := hP.2.2.1; omega
  have j1_m : (5 - a1.toInt - (0 : Int32).toInt).toNat < 6 := by
    have z0 : (0 : Int32).toInt = 0 := rfl; have := hP.2.2.1; have := hP.2.2.2; omega
  exact l_X1_takesFactor_2 (g := g) (ρ := ρ) (dt := dt) (aK := aK) (aV := aV) o Fe frF loF kF qF C0   (6) σ a1 (0 : Int32) hTx hP j1_h2 j1_h2b j1_m hK hC hB hA (lv_sub hl [1, 2, 0] rfl) hT
theorem fac84_q {Fe : St → Int32 → Int32 × St} {σ : St} {a2 : Int32} (h : RC σ) : RQ (-1) σ (f_X1_takesFactor_84 Fe σ a2).2 ∧ (a2 = 0 → RQ 0 σ (f_X1_takesFactor_84 Fe σ a2).2) := by
  unfold f_X1_takesFactor_84
  by_cases c : a2 - a2 / (2 : Int32) * (2 : Int32) = 1
  · rw [if_pos c]
    refine ⟨emit_q h _ _, fun e => ?_⟩
    rw [e] at c
    exact absurd c (by decide)
  · rw [if_neg c]
    exact ⟨(RQ.rfl h).le (by decide), fun _ => RQ.rfl h⟩
theorem fac24_q {o : Int} {Fe : St → Int32 → Int32 × St} (qF : ∀ (σ : St) (a : Int32), EP o a σ → RQ 0 σ (Fe σ a).2) {σ : St} {a1 a2 : Int32} (hP : EP (o - 1) a1 σ) (h2 : 0 ≤ a2.toInt) (h2b : a1.toInt + a2.toInt ≤ 5) : RQ (-1) σ (f_X1_takesFactor_24 Fe σ a1 a2).2 ∧ (a2 = 0 → RQ 0 σ (f_X1_takesFactor_24 Fe σ a1 a2).2) := by
  unfold f_X1_takesFactor_24
  obtain ⟨hR, po1, po2, po3⟩ := id hP
  have z1 : (1 : Int32).toInt = 1 := Eq.refl _
  have z5 : (5 : Int32).toInt = 5 := Eq.refl _
  have q12 := ti_add (a := a1) (b := a2) (by omega) (by omega)
  by_cases c1 : f_X1_next σ = 40
  · rw [if_pos c1]
    by_cases c2 : a1 + a2 < 5
    · rw [if_pos c2]
      have w := ti_lt.mp c2
      have q3 := ti_add (a := a1 + a2) (b := 1) (by omega) (by omega)
      obtain ⟨S1, -⟩ := rc_64 hR (nx_lt (by rw [c1]; decide))
      have S2 := qF (up2 σ 64 0 (σ 64 0 + 1)) (a1 + a2 + 1) ⟨S1.2.1, by omega, by omega, by omega⟩
      have S3 := (takes_q S2.2.1 (c := 41) (by decide)).1
      dsimp only [bd]
      split
      · exact ⟨(S1.tr S2).le (by decide), fun _ => (S1.tr S2).le (by decide)⟩
      · split
        · exact ⟨((S1.tr S2).tr S3).le (by decide), fun _ => ((S1.tr S2).tr S3).le (by decide)⟩
        · have T := ((S1.tr S2).tr S3).tr (fac84_q (Fe := Fe) (a2 := a2) S3.2.1).1
          exact ⟨T.le (by decide), fun _ => T.le (by decide)⟩
    · rw [if_neg c2]
      exact ⟨(RQ.rfl hR).le (by decide), fun _ => RQ.rfl hR⟩
  · rw [if_neg c1]
    have S := test_q hR
    dsimp only [bd]
    split
    · exact ⟨S.le (by decide), fun _ => S⟩
    · obtain ⟨T1, T2⟩ := fac84_q (Fe := Fe) (a2 := a2) S.2.1
      exact ⟨(S.tr T1).le (by decide), fun e => (S.tr (T2 e)).le (by decide)⟩
theorem fac2_q {o : Int} {Fe : St → Int32 → Int32 × St} (qF : ∀ (σ : St) (a : Int32), EP o a σ → RQ 0 σ (Fe σ a).2) : ∀ (n : Nat) {σ : St} {a1 a2 : Int32}, EP (o - 1) a1 σ → 0 ≤ a2.toInt → a1.toInt + a2.toInt ≤ 5 → RQ (-1) σ (g_X1_takesFactor_2 Fe n σ a1 a2).2 ∧ (a2 = 0 → RQ 0 σ (g_X1_takesFactor_2 Fe n σ a1 a2).2)
  | 0, σ, a1, a2, hP, h2, h2b => ⟨(RQ.rfl hP.1).le (by decide), fun _ => RQ.rfl hP.1⟩
  | n + 1, σ, a1, a2, hP, h2, h2b => by
    rw [show g_X1_takesFactor_2 Fe (n + 1) σ a1 a2 = f_X1_takesFactor_2 Fe (g_X1_takesFactor_2 Fe n) σ a1 a2 from Eq.refl _]
    unfold f_X1_takesFactor_2
    obtain ⟨hR, po1, po2, po3⟩ := id hP
    have z1 : (1 : Int32).toInt = 1 := Eq.refl _
    have z5 : (5 : Int32).toInt = 5 := Eq.refl _
    have q12 := ti_add (a := a1) (b := a2) (by omega) (by omega)
    by_cases c1 : (5 : Int32) ≤ a1 + a2
    · rw [if_pos c1]
      exact fac24_q qF hP h2 h2b
    · rw [if_neg c1]
      have w := mt ti_le.mpr c1
      have q3 := ti_add (a := a2) (b := 1) (by omega) (by omega)
      obtain ⟨S, S'⟩ := takes_q hR (c := 33) (by decide)
      dsimp only [bd]
      by_cases c2 : (f_X1_takes σ 33).1 = 0
      · rw [if_pos c2]
        obtain ⟨T1, T2⟩ := fac24_q qF (hP.q S) h2 h2b
        exact ⟨(S.tr T1).le (by decide), fun e => (S.tr (T2 e)).le (by decide)⟩
      · rw [if_neg c2]
        rcases S' with S' | S'
        · exact absurd S' c2
        · obtain ⟨T1, T2⟩ := fac2_q qF n (hP.q S) (a2 := a2 + 1) (by omega) (by omega)
          exact ⟨(S'.tr T1).le (by decide), fun _ => (S'.tr T1).le (by decide)⟩
theorem fact_q {o : Int} {Fe : St → Int32 → Int32 × St} (qF : ∀ (σ : St) (a : Int32), EP o a σ → RQ 0 σ (Fe σ a).2) (σ : St) (a1 : Int32) (hP : EP (o - 1) a1 σ) : RQ 0 σ (f_X1_takesFactor Fe σ a1).2 := (fac2_q qF _ hP (a2 := 0) (by decide) (by have := hP.2.2.1; have z : (0 : Int32).toInt = 0 := Eq.refl _; omega)).2 (Eq.refl _)
theorem fac84_z {Fe : St → Int32 → Int32 × St} (σ : St) (a2 : Int32) : (f_X1_takesFactor_84 Fe σ a2).1 = 1 := by
  unfold f_X1_takesFactor_84
  split <;> exact Eq.refl _
set_option maxRecDepth 20000 in
theorem w_351 : (Cond.methodLink RX1 97 yX1_takesFactor) ∈ TB := inTB (List.mem_of_getElem? (i := 351) (by decide +kernel)) (by decide +kernel)
set_option maxRecDepth 20000 in
theorem w_354 : (Cond.code yX1_takesFactor cX1_takesFactor 3 (some .boolean)) ∈ TB := inTB (List.mem_of_getElem? (i := 354) (by decide +kernel)) (by decide +kernel)
set_option maxRecDepth 20000 in
theorem w_353 : (Cond.instanceMethod yX1_takesFactor) ∈ TB := inTB (List.mem_of_getElem? (i := 353) (by decide +kernel)) (by decide +kernel)
set_option maxRecDepth 20000 in
theorem w_7 : (Cond.selects RX1 yX1_takesFactor yX1_takesFactor) ∈ TB := inTB (List.mem_of_getElem? (i := 7) (by decide +kernel)) (by decide +kernel)
theorem cf_X1_takesFactor : CF yX1_takesFactor cX1_takesFactor 3 (some .boolean) 1 := ⟨w_353, w_7, w_73, w_354, by decide +kernel, by decide +kernel, by decide +kernel⟩
/-! ThreeMeasures$Reader.takesEither -/
theorem dX1_takesEither_0 : decode cX1_takesEither 0 = .ok (.iconst 0, 1) := by decide +kernel
theorem dX1_takesEither_1 : decode cX1_takesEither 1 = .ok (.istore_n 2, 1) := by decide +kernel
theorem dX1_takesEither_2 : decode cX1_takesEither 2 = .ok (.iconst 0, 1) := by decide +kernel
theorem dX1_takesEither_3 : decode cX1_takesEither 3 = .ok (.istore_n 3, 1) := by decide +kernel
theorem dX1_takesEither_4 : decode cX1_takesEither 4 = .ok (.aload_n 0, 1) := by decide +kernel
theorem dX1_takesEither_5 : decode cX1_takesEither 5 = .ok (.iload_n 1, 1) := by decide +kernel
theorem dX1_takesEither_6 : decode cX1_takesEither 6 = .ok (.invokevirtual 97, 3) := by decide +kernel
theorem dX1_takesEither_9 : decode cX1_takesEither 9 = .ok (.ifCond .ne 5, 3) := by decide +kernel
theorem dX1_takesEither_12 : decode cX1_takesEither 12 = .ok (.iconst 0, 1) := by decide +kernel
theorem dX1_takesEither_13 : decode cX1_takesEither 13 = .ok (.ireturn, 1) := by decide +kernel
theorem dX1_takesEither_14 : decode cX1_takesEither 14 = .ok (.iload_n 3, 1) := by decide +kernel
theorem dX1_takesEither_15 : decode cX1_takesEither 15 = .ok (.ifCond .le 9, 3) := by decide +kernel
theorem dX1_takesEither_18 : decode cX1_takesEither 18 = .ok (.aload_n 0, 1) := by decide +kernel
theorem dX1_takesEither_19 : decode cX1_takesEither 19 = .ok (.iconst 2, 1) := by decide +kernel
theorem dX1_takesEither_20 : decode cX1_takesEither 20 = .ok (.iconst 0, 1) := by decide +kernel
theorem dX1_takesEither_21 : decode cX1_takesEither 21 = .ok (.invokevirtual 72, 3) := by decide +kernel
theorem dX1_takesEither_24 : decode cX1_takesEither 24 = .ok (.iinc 3 1, 3) := by decide +kernel
theorem dX1_takesEither_27 : decode cX1_takesEither 27 = .ok (.iload_n 3, 1) := by decide +kernel
theorem dX1_takesEither_28 : decode cX1_takesEither 28 = .ok (.bipush 100, 2) := by decide +kernel
theorem dX1_takesEither_30 : decode cX1_takesEither 30 = .ok (.if_icmp .ge 12, 3) := by decide +kernel
theorem dX1_takesEither_33 : decode cX1_takesEither 33 = .ok (.aload_n 0, 1) := by decide +kernel
theorem dX1_takesEither_34 : decode cX1_takesEither 34 = .ok (.bipush 38, 2) := by decide +kernel
theorem dX1_takesEither_36 : decode cX1_takesEither 36 = .ok (.invokevirtual 40, 3) := by decide +kernel
theorem dX1_takesEither_39 : decode cX1_takesEither 39 = .ok (.ifCond .ne (-35), 3) := by decide +kernel
theorem dX1_takesEither_42 : decode cX1_takesEither 42 = .ok (.iload_n 2, 1) := by decide +kernel
theorem dX1_takesEither_43 : decode cX1_takesEither 43 = .ok (.ifCond .le 9, 3) := by decide +kernel
theorem dX1_takesEither_46 : decode cX1_takesEither 46 = .ok (.aload_n 0, 1) := by decide +kernel
theorem dX1_takesEither_47 : decode cX1_takesEither 47 = .ok (.iconst 3, 1) := by decide +kernel
theorem dX1_takesEither_48 : decode cX1_takesEither 48 = .ok (.iconst 0, 1) := by decide +kernel
theorem dX1_takesEither_49 : decode cX1_takesEither 49 = .ok (.invokevirtual 72, 3) := by decide +kernel
theorem dX1_takesEither_52 : decode cX1_takesEither 52 = .ok (.iinc 2 1, 3) := by decide +kernel
theorem dX1_takesEither_55 : decode cX1_takesEither 55 = .ok (.iload_n 2, 1) := by decide +kernel
theorem dX1_takesEither_56 : decode cX1_takesEither 56 = .ok (.bipush 100, 2) := by decide +kernel
theorem dX1_takesEither_58 : decode cX1_takesEither 58 = .ok (.if_icmp .ge 12, 3) := by decide +kernel
theorem dX1_takesEither_61 : decode cX1_takesEither 61 = .ok (.aload_n 0, 1) := by decide +kernel
theorem dX1_takesEither_62 : decode cX1_takesEither 62 = .ok (.bipush 124, 2) := by decide +kernel
theorem dX1_takesEither_64 : decode cX1_takesEither 64 = .ok (.invokevirtual 40, 3) := by decide +kernel
theorem dX1_takesEither_67 : decode cX1_takesEither 67 = .ok (.ifCond .ne (-65), 3) := by decide +kernel
theorem dX1_takesEither_70 : decode cX1_takesEither 70 = .ok (.iconst 1, 1) := by decide +kernel
theorem dX1_takesEither_71 : decode cX1_takesEither 71 = .ok (.ireturn, 1) := by decide +kernel
def f_X1_takesEither_52 (Fe : St → Int32 → Int32 × St) (K2 : St → Int32 → Int32 → Int32 × St) (σ : St) (a1 : Int32) (a2 : Int32) : Int32 × St := (if (100 : Int32) ≤ (a2 + (1 : Int32)) then ((1 : Int32), σ) else (bd (f_X1_takes σ (124 : Int32)) (fun r64 u64 => (if r64 = 0 then ((1 : Int32), u64) else (K2 u64 a1 (a2 + (1 : Int32)))))))
set_option maxHeartbeats 600000 in
set_option maxRecDepth 100000 in
theorem b_X1_takesEither_52 {g : GG} {ρ : RR} {dt : Nat → Nat → Int32} {aK aV : Nat → Nat} {p : Program} {l : Launch} {e : Env} {s : State} {m : MethodId} {args : Array Value} {below : List Frame} {meth : Method} {c : Code} {A : Nat → Prop} {tgt : Int32 × St} {K2 : St → Int32 → Int32 → Int32 × St} {N2 : Nat} (o : Int) (Fe : St → Int32 → Int32 × St) (frF loF : Nat) (kF : ∀ (σ : St) (a : Int32), EP o a σ → MI l yX1_takesEither (wsF yX1_takesEither cX1_takesEither 4 (some .boolean)) { frames := frF, cells := 0, slots := 0, locals := loF } [.ref (g.2.2 103), .int a] g (xW g ρ) (YB g ρ dt aK aV) σ (Fe σ a)) (qF : ∀ (σ : St) (a : Int32), EP o a σ → RQ 0 σ (Fe σ a).2) (C0 : BC p s m args meth c cX1_takesEither RX1 4 (some .boolean)) (hK2 : ∀ (σ : St) (a1 : Int32) (a2 : Int32), (ρ 62 0 = some (g.2.2 20)) → (EP (o - 1) a1 σ) → (0 ≤ a2.toInt) → (a2.toInt ≤ 99) → (100 - a2.toInt).toNat < N2 → ∀ {H : Heap} {locs : List Loc}, KK g s → WC g (xW g ρ) A s.heap σ H locs → YB g ρ dt aK aV s → (∀ q, A q → AX g q) →  ∀ {ls : Array Slot}, lv_has ls 4 [(0, .ref (g.2.2 103)), (1, .int (a1)), (2, .int (a2))] → K2 σ a1 a2 = tgt → W p l e { frames := frF + 6, cells := 0, slots := 0, locals := loF + 135 } s m args below meth c H locs 0 0 (QMI below args s g (xW g ρ) A tgt) (F0 m 2 ls [])) {σ : St} {a1 : Int32} {a2 : Int32} {H : Heap} {locs : List Loc} (hTx : ρ 62 0 = some (g.2.2 20)) (hP : EP (o - 1) a1 σ) (h2 : 0 ≤ a2.toInt) (h2c : a2.toInt ≤ 99) (hm2 : (100 - a2.toInt).toNat < N2 + 1)  (hK : KK g s) (hC : WC g (xW g ρ) A s.heap σ H locs) (hB : YB g ρ dt aK aV s) (hA : ∀ q, A q → AX g q) {ls : Array Slot} (hl : lv_has ls 4 [(0, .ref (g.2.2 103)), (1, .int (a1)), (2, .int (a2))]) (hT : f_X1_takesEither_52 Fe K2 σ a1 a2 = tgt) : W p l e { frames := frF + 6, cells := 0, slots := 0, locals := loF + 135 } s m args below meth c H locs 0 0 (QMI below args s g (xW g ρ) A tgt) (F0 m 52 ls []) := by
  obtain ⟨hx, hb, hr, hml, hown, hts, hlocks⟩ := id C0
  unfold f_X1_takesEither_52 at hT
  obtain ⟨hR, po1, po2, po3⟩ := id hP
  obtain ⟨p1, p2, p3, p4, p5, p6, p7⟩ := id hR
  have z1 : (1 : Int32).toInt = 1 := rfl
  have z5 : (5 : Int32).toInt = 5 := rfl
  have z100 : (100 : Int32).toInt = 100 := rfl
  refine lv_iinc (v := (a2 + (1 : Int32))) (lv' := [(2, .int ((a2 + (1 : Int32)))), (0, .ref (g.2.2 103)), (1, .int (a1))]) hx hb dX1_takesEither_52 hl (k := 2) rfl rfl (by decide) rfl (fun ls hl => ?_)
  refine lv_iload_n hx hb dX1_takesEither_55 rfl (lv_at hl 0 rfl) ?_
  refine lv_bipush (v := (100 : Int32)) hx hb dX1_takesEither_56 (by decide) ?_
  refine lv_icmp_ge (tgt := 70) hx hb dX1_takesEither_58 (by decide) (fun c_58 => ?_) (fun c_58 => ?_)
  · have hT := hT_pos c_58 hT
    refine lv_iconst (v := (1 : Int32)) hx hb dX1_takesEither_70 (by decide) ?_
    exact ret_MZ C0 (nz_of (Or.inr rfl)) hC hT dX1_takesEither_71
  · have hT := hT_neg c_58 hT
    refine lv_aload_n hx hb dX1_takesEither_61 rfl (lv_at hl 1 rfl) ?_
    refine lv_bipush (v := (124 : Int32)) hx hb dX1_takesEither_62 (by decide) ?_
    have q64_hp : 0 ≤ (σ 64 0).toInt := by
      have : ((100 : Int32)).toInt = 100 := by decide
      have : ((1 : Int32)).toInt = 1 := by decide
      have : ((124 : Int32)).toInt = 124 := by decide
      have := mt ti_le.mpr c_58
      try have := ti_add (a := a2) (b := (1 : Int32)) (by omega) (by omega)
      omega
    refine x_mi (rest := []) (As := [.int ((124 : Int32))]) (σ := σ) (ρ := ρ) (dt := dt) (T := TX1) (N := 8) (fs := xF3 g ρ σ) 1 3 rfl rfl C0 hK hC (XH.wa hB.1 hA hC) cf_X1_takes w_339 (k_X1_takes l g ρ dt σ (124 : Int32) hTx q64_hp) ⟨(by dsimp only; omega), (by dsimp only; omega)⟩ hl.1 rfl rfl (Nat.le_of_ble_eq_true rfl) dX1_takesEither_64 ⟨Nat.zero_le _, Nat.zero_le _⟩ (fun r64 u64 H locs e64 hC => ?_)
    have hT := bd_e e64 hT
    have S64 : RQ 0 σ u64 := by rw [show u64 = _ from congrArg Prod.snd e64]; exact (takes_q hR (by decide)).1
    refine lv_if_ne (tgt := 2) hx hb dX1_takesEither_67 (by decide) (fun c_67 => ?_) (fun c_67 => ?_)
    · have hT := hT_neg c_67 hT
      have j67_hP : EP (o - 1) a1 u64 := hP.q S64
      have j67_h2 : 0 ≤ (a2 + (1 : Int32)).toInt := by
        have : ((100 : Int32)).toInt = 100 := by decide
        have : ((1 : Int32)).toInt = 1 := by decide
        have : ((0 : Int32)).toInt = 0 := by decide
        have := mt ti_le.mpr c_58
        have := mt ti_eq.mpr c_67
        try have := ti_add (a := a2) (b := (1 : Int32)) (by omega) (by omega)
        omega
      have j67_h2c : (a2 + (1 : Int32)).toInt ≤ 99 := by
        have : ((100 : Int32)).toInt = 100 := by decide
        have : ((1 : Int32)).toInt = 1 := by decide
        have : ((0 : Int32)).toInt = 0 := by decide
        have := mt ti_le.mpr c_58
        have := mt ti_eq.mpr c_67
        try have := ti_add (a := a2) (b := (1 : Int32)) (by omega) (by omega)
        omega
      have j67_m : (100 - (a2 + (1 : Int32)).toInt).toNat < N2 := by
        have : ((100 : Int32)).toInt = 100 := by decide
        have : ((1 : Int32)).toInt = 1 := by decide
        have : ((0 : Int32)).toInt = 0 := by decide
        have := mt ti_le.mpr c_58
        have := mt ti_eq.mpr c_67
        try have := ti_add (a := a2) (b := (1 : Int32)) (by omega) (by omega)
        omega
      exact hK2 u64 a1 (a2 + (1 : Int32)) hTx j67_hP j67_h2 j67_h2c j67_m hK hC hB hA (lv_sub hl [1, 2, 0] rfl) hT
    · have hT := hT_pos c_67 hT
      refine lv_iconst (v := (1 : Int32)) hx hb dX1_takesEither_70 (by decide) ?_
      exact ret_MZ C0 (nz_of (Or.inr rfl)) hC hT dX1_takesEither_71
def f_X1_takesEither_42 (Fe : St → Int32 → Int32 × St) (K2 : St → Int32 → Int32 → Int32 × St) (σ : St) (a1 : Int32) (a2 : Int32) : Int32 × St := (if a2 ≤ 0 then (f_X1_takesEither_52 Fe K2 σ a1 a2) else (bd1 (f_X1_emit σ (3 : Int32) (0 : Int32)) (fun u49 => (f_X1_takesEither_52 Fe K2 u49 a1 a2))))
set_option maxHeartbeats 600000 in
set_option maxRecDepth 100000 in
theorem b_X1_takesEither_42 {g : GG} {ρ : RR} {dt : Nat → Nat → Int32} {aK aV : Nat → Nat} {p : Program} {l : Launch} {e : Env} {s : State} {m : MethodId} {args : Array Value} {below : List Frame} {meth : Method} {c : Code} {A : Nat → Prop} {tgt : Int32 × St} {K2 : St → Int32 → Int32 → Int32 × St} {N2 : Nat} (o : Int) (Fe : St → Int32 → Int32 × St) (frF loF : Nat) (kF : ∀ (σ : St) (a : Int32), EP o a σ → MI l yX1_takesEither (wsF yX1_takesEither cX1_takesEither 4 (some .boolean)) { frames := frF, cells := 0, slots := 0, locals := loF } [.ref (g.2.2 103), .int a] g (xW g ρ) (YB g ρ dt aK aV) σ (Fe σ a)) (qF : ∀ (σ : St) (a : Int32), EP o a σ → RQ 0 σ (Fe σ a).2) (C0 : BC p s m args meth c cX1_takesEither RX1 4 (some .boolean)) (hK2 : ∀ (σ : St) (a1 : Int32) (a2 : Int32), (ρ 62 0 = some (g.2.2 20)) → (EP (o - 1) a1 σ) → (0 ≤ a2.toInt) → (a2.toInt ≤ 99) → (100 - a2.toInt).toNat < N2 → ∀ {H : Heap} {locs : List Loc}, KK g s → WC g (xW g ρ) A s.heap σ H locs → YB g ρ dt aK aV s → (∀ q, A q → AX g q) →  ∀ {ls : Array Slot}, lv_has ls 4 [(0, .ref (g.2.2 103)), (1, .int (a1)), (2, .int (a2))] → K2 σ a1 a2 = tgt → W p l e { frames := frF + 6, cells := 0, slots := 0, locals := loF + 135 } s m args below meth c H locs 0 0 (QMI below args s g (xW g ρ) A tgt) (F0 m 2 ls [])) {σ : St} {a1 : Int32} {a2 : Int32} {H : Heap} {locs : List Loc} (hTx : ρ 62 0 = some (g.2.2 20)) (hP : EP (o - 1) a1 σ) (h2 : 0 ≤ a2.toInt) (h2c : a2.toInt ≤ 99) (hm2 : (100 - a2.toInt).toNat < N2 + 1)  (hK : KK g s) (hC : WC g (xW g ρ) A s.heap σ H locs) (hB : YB g ρ dt aK aV s) (hA : ∀ q, A q → AX g q) {ls : Array Slot} (hl : lv_has ls 4 [(0, .ref (g.2.2 103)), (1, .int (a1)), (2, .int (a2))]) (hT : f_X1_takesEither_42 Fe K2 σ a1 a2 = tgt) : W p l e { frames := frF + 6, cells := 0, slots := 0, locals := loF + 135 } s m args below meth c H locs 0 0 (QMI below args s g (xW g ρ) A tgt) (F0 m 42 ls []) := by
  obtain ⟨hx, hb, hr, hml, hown, hts, hlocks⟩ := id C0
  unfold f_X1_takesEither_42 at hT
  obtain ⟨hR, po1, po2, po3⟩ := id hP
  obtain ⟨p1, p2, p3, p4, p5, p6, p7⟩ := id hR
  have z1 : (1 : Int32).toInt = 1 := rfl
  have z5 : (5 : Int32).toInt = 5 := rfl
  have z100 : (100 : Int32).toInt = 100 := rfl
  refine lv_iload_n hx hb dX1_takesEither_42 rfl (lv_at hl 2 rfl) ?_
  refine lv_if_le (tgt := 52) hx hb dX1_takesEither_43 (by decide) (fun c_43 => ?_) (fun c_43 => ?_)
  · have hT := hT_pos c_43 hT
    exact b_X1_takesEither_52 (g := g) (ρ := ρ) (dt := dt) (aK := aK) (aV := aV) o Fe frF loF kF qF (σ := σ) (a1 := a1) (a2 := a2) C0 hK2 hTx hP h2 h2c hm2 hK hC hB hA hl hT
  · have hT := hT_neg c_43 hT
    refine lv_aload_n hx hb dX1_takesEither_46 rfl (lv_at hl 0 rfl) ?_
    refine lv_iconst (v := (3 : Int32)) hx hb dX1_takesEither_47 (by decide) ?_
    refine lv_iconst (v := (0 : Int32)) hx hb dX1_takesEither_48 (by decide) ?_
    have q49_h61 : 0 ≤ (σ 61 0).toInt := p4
    refine x_mv (rest := []) (As := [.int ((3 : Int32)), .int ((0 : Int32))]) (σ := σ) (ρ := ρ) (dt := dt) (T := TX1) (N := 8) (fs := xF3 g ρ σ) 1 3 rfl rfl C0 hK hC (XH.wa hB.1 hA hC) cf_X1_emit w_423 (k_X1_emit l g ρ dt σ (3 : Int32) (0 : Int32) q49_h61) ⟨(by dsimp only; omega), (by dsimp only; omega)⟩ hl.1 rfl rfl (Nat.le_of_ble_eq_true rfl) dX1_takesEither_49 ⟨Nat.zero_le _, Nat.zero_le _⟩ (fun u49 H locs e49 hC => ?_)
    have hT := bd1_e e49 hT
    have S49 : RQ (-1) σ u49 := by rw [e49]; exact emit_q hR _ _
    have j49_hP : EP (o - 1) a1 u49 := hP.q S49
    exact b_X1_takesEither_52 (g := g) (ρ := ρ) (dt := dt) (aK := aK) (aV := aV) o Fe frF loF kF qF (σ := u49) (a1 := a1) (a2 := a2) C0 hK2 hTx j49_hP h2 h2c hm2 hK hC hB hA hl hT
def f_X1_takesEither_24 (Fe : St → Int32 → Int32 × St) (K2 : St → Int32 → Int32 → Int32 × St) (K4 : St → Int32 → Int32 → Int32 → Int32 × St) (σ : St) (a1 : Int32) (a2 : Int32) (a3 : Int32) : Int32 × St := (if (100 : Int32) ≤ (a3 + (1 : Int32)) then (f_X1_takesEither_42 Fe K2 σ a1 a2) else (bd (f_X1_takes σ (38 : Int32)) (fun r36 u36 => (if r36 = 0 then (f_X1_takesEither_42 Fe K2 u36 a1 a2) else (K4 u36 a1 a2 (a3 + (1 : Int32)))))))
set_option maxHeartbeats 600000 in
set_option maxRecDepth 100000 in
theorem b_X1_takesEither_24 {g : GG} {ρ : RR} {dt : Nat → Nat → Int32} {aK aV : Nat → Nat} {p : Program} {l : Launch} {e : Env} {s : State} {m : MethodId} {args : Array Value} {below : List Frame} {meth : Method} {c : Code} {A : Nat → Prop} {tgt : Int32 × St} {K2 : St → Int32 → Int32 → Int32 × St} {N2 : Nat} {K4 : St → Int32 → Int32 → Int32 → Int32 × St} {N4 : Nat} (o : Int) (Fe : St → Int32 → Int32 × St) (frF loF : Nat) (kF : ∀ (σ : St) (a : Int32), EP o a σ → MI l yX1_takesEither (wsF yX1_takesEither cX1_takesEither 4 (some .boolean)) { frames := frF, cells := 0, slots := 0, locals := loF } [.ref (g.2.2 103), .int a] g (xW g ρ) (YB g ρ dt aK aV) σ (Fe σ a)) (qF : ∀ (σ : St) (a : Int32), EP o a σ → RQ 0 σ (Fe σ a).2) (C0 : BC p s m args meth c cX1_takesEither RX1 4 (some .boolean)) (hK2 : ∀ (σ : St) (a1 : Int32) (a2 : Int32), (ρ 62 0 = some (g.2.2 20)) → (EP (o - 1) a1 σ) → (0 ≤ a2.toInt) → (a2.toInt ≤ 99) → (100 - a2.toInt).toNat < N2 → ∀ {H : Heap} {locs : List Loc}, KK g s → WC g (xW g ρ) A s.heap σ H locs → YB g ρ dt aK aV s → (∀ q, A q → AX g q) →  ∀ {ls : Array Slot}, lv_has ls 4 [(0, .ref (g.2.2 103)), (1, .int (a1)), (2, .int (a2))] → K2 σ a1 a2 = tgt → W p l e { frames := frF + 6, cells := 0, slots := 0, locals := loF + 135 } s m args below meth c H locs 0 0 (QMI below args s g (xW g ρ) A tgt) (F0 m 2 ls [])) (hK4 : ∀ (σ : St) (a1 : Int32) (a2 : Int32) (a3 : Int32), (ρ 62 0 = some (g.2.2 20)) → (EP (o - 1) a1 σ) → (0 ≤ a2.toInt) → (a2.toInt ≤ 99) → ((100 - a2.toInt).toNat < N2 + 1) → (0 ≤ a3.toInt) → (a3.toInt ≤ 99) → (100 - a3.toInt).toNat < N4 → ∀ {H : Heap} {locs : List Loc}, KK g s → WC g (xW g ρ) A s.heap σ H locs → YB g ρ dt aK aV s → (∀ q, A q → AX g q) →  ∀ {ls : Array Slot}, lv_has ls 4 [(0, .ref (g.2.2 103)), (1, .int (a1)), (2, .int (a2)), (3, .int (a3))] → K4 σ a1 a2 a3 = tgt → W p l e { frames := frF + 6, cells := 0, slots := 0, locals := loF + 135 } s m args below meth c H locs 0 0 (QMI below args s g (xW g ρ) A tgt) (F0 m 4 ls [])) {σ : St} {a1 : Int32} {a2 : Int32} {a3 : Int32} {H : Heap} {locs : List Loc} (hTx : ρ 62 0 = some (g.2.2 20)) (hP : EP (o - 1) a1 σ) (h2 : 0 ≤ a2.toInt) (h2c : a2.toInt ≤ 99) (hm2 : (100 - a2.toInt).toNat < N2 + 1) (h3 : 0 ≤ a3.toInt) (h3c : a3.toInt ≤ 99) (hm4 : (100 - a3.toInt).toNat < N4 + 1)  (hK : KK g s) (hC : WC g (xW g ρ) A s.heap σ H locs) (hB : YB g ρ dt aK aV s) (hA : ∀ q, A q → AX g q) {ls : Array Slot} (hl : lv_has ls 4 [(0, .ref (g.2.2 103)), (1, .int (a1)), (2, .int (a2)), (3, .int (a3))]) (hT : f_X1_takesEither_24 Fe K2 K4 σ a1 a2 a3 = tgt) : W p l e { frames := frF + 6, cells := 0, slots := 0, locals := loF + 135 } s m args below meth c H locs 0 0 (QMI below args s g (xW g ρ) A tgt) (F0 m 24 ls []) := by
  obtain ⟨hx, hb, hr, hml, hown, hts, hlocks⟩ := id C0
  unfold f_X1_takesEither_24 at hT
  obtain ⟨hR, po1, po2, po3⟩ := id hP
  obtain ⟨p1, p2, p3, p4, p5, p6, p7⟩ := id hR
  have z1 : (1 : Int32).toInt = 1 := rfl
  have z5 : (5 : Int32).toInt = 5 := rfl
  have z100 : (100 : Int32).toInt = 100 := rfl
  refine lv_iinc (v := (a3 + (1 : Int32))) (lv' := [(3, .int ((a3 + (1 : Int32)))), (0, .ref (g.2.2 103)), (1, .int (a1)), (2, .int (a2))]) hx hb dX1_takesEither_24 hl (k := 3) rfl rfl (by decide) rfl (fun ls hl => ?_)
  refine lv_iload_n hx hb dX1_takesEither_27 rfl (lv_at hl 0 rfl) ?_
  refine lv_bipush (v := (100 : Int32)) hx hb dX1_takesEither_28 (by decide) ?_
  refine lv_icmp_ge (tgt := 42) hx hb dX1_takesEither_30 (by decide) (fun c_30 => ?_) (fun c_30 => ?_)
  · have hT := hT_pos c_30 hT
    exact b_X1_takesEither_42 (g := g) (ρ := ρ) (dt := dt) (aK := aK) (aV := aV) o Fe frF loF kF qF (σ := σ) (a1 := a1) (a2 := a2) C0 hK2 hTx hP h2 h2c hm2 hK hC hB hA (lv_sub hl [1, 2, 3] rfl) hT
  · have hT := hT_neg c_30 hT
    refine lv_aload_n hx hb dX1_takesEither_33 rfl (lv_at hl 1 rfl) ?_
    refine lv_bipush (v := (38 : Int32)) hx hb dX1_takesEither_34 (by decide) ?_
    have q36_hp : 0 ≤ (σ 64 0).toInt := by
      have : ((100 : Int32)).toInt = 100 := by decide
      have : ((1 : Int32)).toInt = 1 := by decide
      have : ((38 : Int32)).toInt = 38 := by decide
      have := mt ti_le.mpr c_30
      try have := ti_add (a := a3) (b := (1 : Int32)) (by omega) (by omega)
      omega
    refine x_mi (rest := []) (As := [.int ((38 : Int32))]) (σ := σ) (ρ := ρ) (dt := dt) (T := TX1) (N := 8) (fs := xF3 g ρ σ) 1 3 rfl rfl C0 hK hC (XH.wa hB.1 hA hC) cf_X1_takes w_339 (k_X1_takes l g ρ dt σ (38 : Int32) hTx q36_hp) ⟨(by dsimp only; omega), (by dsimp only; omega)⟩ hl.1 rfl rfl (Nat.le_of_ble_eq_true rfl) dX1_takesEither_36 ⟨Nat.zero_le _, Nat.zero_le _⟩ (fun r36 u36 H locs e36 hC => ?_)
    have hT := bd_e e36 hT
    have S36 : RQ 0 σ u36 := by rw [show u36 = _ from congrArg Prod.snd e36]; exact (takes_q hR (by decide)).1
    refine lv_if_ne (tgt := 4) hx hb dX1_takesEither_39 (by decide) (fun c_39 => ?_) (fun c_39 => ?_)
    · have hT := hT_neg c_39 hT
      have j39_hP : EP (o - 1) a1 u36 := hP.q S36
      have j39_h3 : 0 ≤ (a3 + (1 : Int32)).toInt := by
        have : ((100 : Int32)).toInt = 100 := by decide
        have : ((1 : Int32)).toInt = 1 := by decide
        have : ((0 : Int32)).toInt = 0 := by decide
        have := mt ti_le.mpr c_30
        have := mt ti_eq.mpr c_39
        try have := ti_add (a := a3) (b := (1 : Int32)) (by omega) (by omega)
        omega
      have j39_h3c : (a3 + (1 : Int32)).toInt ≤ 99 := by
        have : ((100 : Int32)).toInt = 100 := by decide
        have : ((1 : Int32)).toInt = 1 := by decide
        have : ((0 : Int32)).toInt = 0 := by decide
        have := mt ti_le.mpr c_30
        have := mt ti_eq.mpr c_39
        try have := ti_add (a := a3) (b := (1 : Int32)) (by omega) (by omega)
        omega
      have j39_m : (100 - (a3 + (1 : Int32)).toInt).toNat < N4 := by
        have : ((100 : Int32)).toInt = 100 := by decide
        have : ((1 : Int32)).toInt = 1 := by decide
        have : ((0 : Int32)).toInt = 0 := by decide
        have := mt ti_le.mpr c_30
        have := mt ti_eq.mpr c_39
        try have := ti_add (a := a3) (b := (1 : Int32)) (by omega) (by omega)
        omega
      exact hK4 u36 a1 a2 (a3 + (1 : Int32)) hTx j39_hP h2 h2c hm2 j39_h3 j39_h3c j39_m hK hC hB hA (lv_sub hl [1, 2, 3, 0] rfl) hT
    · have hT := hT_pos c_39 hT
      have j39_hP : EP (o - 1) a1 u36 := hP.q S36
      exact b_X1_takesEither_42 (g := g) (ρ := ρ) (dt := dt) (aK := aK) (aV := aV) o Fe frF loF kF qF (σ := u36) (a1 := a1) (a2 := a2) C0 hK2 hTx j39_hP h2 h2c hm2 hK hC hB hA (lv_sub hl [1, 2, 3] rfl) hT
def f_X1_takesEither_4 (Fe : St → Int32 → Int32 × St) (K2 : St → Int32 → Int32 → Int32 × St) (K4 : St → Int32 → Int32 → Int32 → Int32 × St) (σ : St) (a1 : Int32) (a2 : Int32) (a3 : Int32) : Int32 × St := (bd (f_X1_takesFactor Fe σ a1) (fun r6 u6 => (if r6 = 0 then ((0 : Int32), u6) else (if a3 ≤ 0 then (f_X1_takesEither_24 Fe K2 K4 u6 a1 a2 a3) else (bd1 (f_X1_emit u6 (2 : Int32) (0 : Int32)) (fun u21 => (f_X1_takesEither_24 Fe K2 K4 u21 a1 a2 a3)))))))
set_option maxHeartbeats 600000 in
set_option maxRecDepth 100000 in
theorem b_X1_takesEither_4 {g : GG} {ρ : RR} {dt : Nat → Nat → Int32} {aK aV : Nat → Nat} {p : Program} {l : Launch} {e : Env} {s : State} {m : MethodId} {args : Array Value} {below : List Frame} {meth : Method} {c : Code} {A : Nat → Prop} {tgt : Int32 × St} {K2 : St → Int32 → Int32 → Int32 × St} {N2 : Nat} {K4 : St → Int32 → Int32 → Int32 → Int32 × St} {N4 : Nat} (o : Int) (Fe : St → Int32 → Int32 × St) (frF loF : Nat) (kF : ∀ (σ : St) (a : Int32), EP o a σ → MI l yX1_takesEither (wsF yX1_takesEither cX1_takesEither 4 (some .boolean)) { frames := frF, cells := 0, slots := 0, locals := loF } [.ref (g.2.2 103), .int a] g (xW g ρ) (YB g ρ dt aK aV) σ (Fe σ a)) (qF : ∀ (σ : St) (a : Int32), EP o a σ → RQ 0 σ (Fe σ a).2) (C0 : BC p s m args meth c cX1_takesEither RX1 4 (some .boolean)) (hK2 : ∀ (σ : St) (a1 : Int32) (a2 : Int32), (ρ 62 0 = some (g.2.2 20)) → (EP (o - 1) a1 σ) → (0 ≤ a2.toInt) → (a2.toInt ≤ 99) → (100 - a2.toInt).toNat < N2 → ∀ {H : Heap} {locs : List Loc}, KK g s → WC g (xW g ρ) A s.heap σ H locs → YB g ρ dt aK aV s → (∀ q, A q → AX g q) →  ∀ {ls : Array Slot}, lv_has ls 4 [(0, .ref (g.2.2 103)), (1, .int (a1)), (2, .int (a2))] → K2 σ a1 a2 = tgt → W p l e { frames := frF + 6, cells := 0, slots := 0, locals := loF + 135 } s m args below meth c H locs 0 0 (QMI below args s g (xW g ρ) A tgt) (F0 m 2 ls [])) (hK4 : ∀ (σ : St) (a1 : Int32) (a2 : Int32) (a3 : Int32), (ρ 62 0 = some (g.2.2 20)) → (EP (o - 1) a1 σ) → (0 ≤ a2.toInt) → (a2.toInt ≤ 99) → ((100 - a2.toInt).toNat < N2 + 1) → (0 ≤ a3.toInt) → (a3.toInt ≤ 99) → (100 - a3.toInt).toNat < N4 → ∀ {H : Heap} {locs : List Loc}, KK g s → WC g (xW g ρ) A s.heap σ H locs → YB g ρ dt aK aV s → (∀ q, A q → AX g q) →  ∀ {ls : Array Slot}, lv_has ls 4 [(0, .ref (g.2.2 103)), (1, .int (a1)), (2, .int (a2)), (3, .int (a3))] → K4 σ a1 a2 a3 = tgt → W p l e { frames := frF + 6, cells := 0, slots := 0, locals := loF + 135 } s m args below meth c H locs 0 0 (QMI below args s g (xW g ρ) A tgt) (F0 m 4 ls [])) {σ : St} {a1 : Int32} {a2 : Int32} {a3 : Int32} {H : Heap} {locs : List Loc} (hTx : ρ 62 0 = some (g.2.2 20)) (hP : EP (o - 1) a1 σ) (h2 : 0 ≤ a2.toInt) (h2c : a2.toInt ≤ 99) (hm2 : (100 - a2.toInt).toNat < N2 + 1) (h3 : 0 ≤ a3.toInt) (h3c : a3.toInt ≤ 99) (hm : (100 - a3.toInt).toNat < N4 + 1) (hK : KK g s) (hC : WC g (xW g ρ) A s.heap σ H locs) (hB : YB g ρ dt aK aV s) (hA : ∀ q, A q → AX g q) {ls : Array Slot} (hl : lv_has ls 4 [(0, .ref (g.2.2 103)), (1, .int (a1)), (2, .int (a2)), (3, .int (a3))]) (hT : f_X1_takesEither_4 Fe K2 K4 σ a1 a2 a3 = tgt) : W p l e { frames := frF + 6, cells := 0, slots := 0, locals := loF + 135 } s m args below meth c H locs 0 0 (QMI below args s g (xW g ρ) A tgt) (F0 m 4 ls []) := by
  obtain ⟨hx, hb, hr, hml, hown, hts, hlocks⟩ := id C0
  unfold f_X1_takesEither_4 at hT
  obtain ⟨hR, po1, po2, po3⟩ := id hP
  obtain ⟨p1, p2, p3, p4, p5, p6, p7⟩ := id hR
  have z1 : (1 : Int32).toInt = 1 := rfl
  have z5 : (5 : Int32).toInt = 5 := rfl
  have z100 : (100 : Int32).toInt = 100 := rfl
  refine lv_aload_n hx hb dX1_takesEither_4 rfl (lv_at hl 0 rfl) ?_
  refine lv_iload_n hx hb dX1_takesEither_5 rfl (lv_at hl 1 rfl) ?_
  refine y_mi (rest := []) (As := [.int (a1)]) (σ := σ) (ρ := ρ) (dt := dt) (T := TX1) (N := 8) (fs := xF3 g ρ σ) 1 3 rfl rfl C0 hK hC hB hA cf_X1_takesFactor w_351 (k_X1_takesFactor l g ρ dt aK aV o Fe frF loF kF qF σ a1 hTx hP) ⟨(by dsimp only; omega), (by dsimp only; omega)⟩ hl.1 rfl rfl (Nat.le_of_ble_eq_true rfl) dX1_takesEither_6 ⟨Nat.zero_le _, Nat.zero_le _⟩ (fun r6 u6 H locs e6 hC => ?_)
  have hT := bd_e e6 hT
  have S6 : RQ 0 σ u6 := by rw [show u6 = _ from congrArg Prod.snd e6]; exact fact_q qF _ _ hP
  refine lv_if_ne (tgt := 14) hx hb dX1_takesEither_9 (by decide) (fun c_9 => ?_) (fun c_9 => ?_)
  · have hT := hT_neg c_9 hT
    refine lv_iload_n hx hb dX1_takesEither_14 rfl (lv_at hl 3 rfl) ?_
    refine lv_if_le (tgt := 24) hx hb dX1_takesEither_15 (by decide) (fun c_15 => ?_) (fun c_15 => ?_)
    · have hT := hT_pos c_15 hT
      have j15_hP : EP (o - 1) a1 u6 := hP.q S6
      have j15_hm4 : (100 - a3.toInt).toNat < N4 + 1 := hm
      exact b_X1_takesEither_24 (g := g) (ρ := ρ) (dt := dt) (aK := aK) (aV := aV) o Fe frF loF kF qF (σ := u6) (a1 := a1) (a2 := a2) (a3 := a3) C0 hK2 hK4 hTx j15_hP h2 h2c hm2 h3 h3c j15_hm4 hK hC hB hA hl hT
    · have hT := hT_neg c_15 hT
      refine lv_aload_n hx hb dX1_takesEither_18 rfl (lv_at hl 0 rfl) ?_
      refine lv_iconst (v := (2 : Int32)) hx hb dX1_takesEither_19 (by decide) ?_
      refine lv_iconst (v := (0 : Int32)) hx hb dX1_takesEither_20 (by decide) ?_
      have q21_h61 : 0 ≤ (u6 61 0).toInt := S6.2.1.2.2.2.1
      refine x_mv (rest := []) (As := [.int ((2 : Int32)), .int ((0 : Int32))]) (σ := u6) (ρ := ρ) (dt := dt) (T := TX1) (N := 8) (fs := xF3 g ρ u6) 1 3 rfl rfl C0 hK hC (XH.wa hB.1 hA hC) cf_X1_emit w_423 (k_X1_emit l g ρ dt u6 (2 : Int32) (0 : Int32) q21_h61) ⟨(by dsimp only; omega), (by dsimp only; omega)⟩ hl.1 rfl rfl (Nat.le_of_ble_eq_true rfl) dX1_takesEither_21 ⟨Nat.zero_le _, Nat.zero_le _⟩ (fun u21 H locs e21 hC => ?_)
      have hT := bd1_e e21 hT
      have S21 : RQ (-1) u6 u21 := by rw [e21]; exact emit_q S6.2.1 _ _
      have j21_hP : EP (o - 1) a1 u21 := hP.q (S6.tr S21)
      have j21_hm4 : (100 - a3.toInt).toNat < N4 + 1 := hm
      exact b_X1_takesEither_24 (g := g) (ρ := ρ) (dt := dt) (aK := aK) (aV := aV) o Fe frF loF kF qF (σ := u21) (a1 := a1) (a2 := a2) (a3 := a3) C0 hK2 hK4 hTx j21_hP h2 h2c hm2 h3 h3c j21_hm4 hK hC hB hA hl hT
  · have hT := hT_pos c_9 hT
    refine lv_iconst (v := (0 : Int32)) hx hb dX1_takesEither_12 (by decide) ?_
    exact ret_MZ C0 (nz_of (Or.inl rfl)) hC hT dX1_takesEither_13
def g_X1_takesEither_4 (Fe : St → Int32 → Int32 × St) (K2 : St → Int32 → Int32 → Int32 × St) : Nat → St → Int32 → Int32 → Int32 → Int32 × St
  | 0 => fun σ a1 a2 a3 => (0, σ)
  | n + 1 => fun σ a1 a2 a3 => f_X1_takesEither_4 Fe K2 (g_X1_takesEither_4 Fe K2 n) σ a1 a2 a3
theorem l_X1_takesEither_4 {g : GG} {ρ : RR} {dt : Nat → Nat → Int32} {aK aV : Nat → Nat} {p : Program} {l : Launch} {e : Env} {s : State} {m : MethodId} {args : Array Value} {below : List Frame} {meth : Method} {c : Code} {A : Nat → Prop} {tgt : Int32 × St} {K2 : St → Int32 → Int32 → Int32 × St} {N2 : Nat} (o : Int) (Fe : St → Int32 → Int32 × St) (frF loF : Nat) (kF : ∀ (σ : St) (a : Int32), EP o a σ → MI l yX1_takesEither (wsF yX1_takesEither cX1_takesEither 4 (some .boolean)) { frames := frF, cells := 0, slots := 0, locals := loF } [.ref (g.2.2 103), .int a] g (xW g ρ) (YB g ρ dt aK aV) σ (Fe σ a)) (qF : ∀ (σ : St) (a : Int32), EP o a σ → RQ 0 σ (Fe σ a).2) (C0 : BC p s m args meth c cX1_takesEither RX1 4 (some .boolean)) (hK2 : ∀ (σ : St) (a1 : Int32) (a2 : Int32), (ρ 62 0 = some (g.2.2 20)) → (EP (o - 1) a1 σ) → (0 ≤ a2.toInt) → (a2.toInt ≤ 99) → (100 - a2.toInt).toNat < N2 → ∀ {H : Heap} {locs : List Loc}, KK g s → WC g (xW g ρ) A s.heap σ H locs → YB g ρ dt aK aV s → (∀ q, A q → AX g q) →  ∀ {ls : Array Slot}, lv_has ls 4 [(0, .ref (g.2.2 103)), (1, .int (a1)), (2, .int (a2))] → K2 σ a1 a2 = tgt → W p l e { frames := frF + 6, cells := 0, slots := 0, locals := loF + 135 } s m args below meth c H locs 0 0 (QMI below args s g (xW g ρ) A tgt) (F0 m 2 ls [])) : ∀ (n : Nat) (σ : St) (a1 : Int32) (a2 : Int32) (a3 : Int32), (ρ 62 0 = some (g.2.2 20)) → (EP (o - 1) a1 σ) → (0 ≤ a2.toInt) → (a2.toInt ≤ 99) → ((100 - a2.toInt).toNat < N2 + 1) → (0 ≤ a3.toInt) → (a3.toInt ≤ 99) → (100 - a3.toInt).toNat < n → ∀ {H : Heap} {locs : List Loc}, KK g s → WC g (xW g ρ) A s.heap σ H locs → YB g ρ dt aK aV s → (∀ q, A q → AX g q) →  ∀ {ls : Array Slot}, lv_has ls 4 [(0, .ref (g.2.2 103)), (1, .int (a1)), (2, .int (a2)), (3, .int (a3))] → g_X1_takesEither_4 Fe K2 n σ a1 a2 a3 = tgt → W p l e { frames := frF + 6, cells := 0, slots := 0, locals := loF + 135 } s m args below meth c H locs 0 0 (QMI below args s g (xW g ρ) A tgt) (F0 m 4 ls []) := by
  intro n
  induction n with
  | zero => intro σ a1 a2 a3 hTx hP h2 h2c hm2 h3 h3c hm; exact absurd hm (Nat.not_lt_zero _)
  | succ n ih =>
    intro σ a1 a2 a3 hTx hP h2 h2c hm2 h3 h3c hm H locs hK hC hB hA ls hl hT
    exact b_X1_takesEither_4 (g := g) (ρ := ρ) (dt := dt) (aK := aK) (aV := aV) o Fe frF loF kF qF (K4 := g_X1_takesEither_4 Fe K2 n) (N4 := n) C0 hK2 (fun σ a1 a2 a3 hTx hP h2 h2c hm2 h3 h3c hmq => ih σ a1 a2 a3 hTx hP h2 h2c hm2 h3 h3c hmq) hTx hP h2 h2c hm2 h3 h3c hm hK hC hB hA hl hT
def f_X1_takesEither_2 (Fe : St → Int32 → Int32 × St) (K2 : St → Int32 → Int32 → Int32 × St) (σ : St) (a1 : Int32) (a2 : Int32) : Int32 × St := (g_X1_takesEither_4 Fe K2 (101) σ a1 a2 (0 : Int32))
set_option maxHeartbeats 600000 in
set_option maxRecDepth 100000 in
theorem b_X1_takesEither_2 {g : GG} {ρ : RR} {dt : Nat → Nat → Int32} {aK aV : Nat → Nat} {p : Program} {l : Launch} {e : Env} {s : State} {m : MethodId} {args : Array Value} {below : List Frame} {meth : Method} {c : Code} {A : Nat → Prop} {tgt : Int32 × St} {K2 : St → Int32 → Int32 → Int32 × St} {N2 : Nat} (o : Int) (Fe : St → Int32 → Int32 × St) (frF loF : Nat) (kF : ∀ (σ : St) (a : Int32), EP o a σ → MI l yX1_takesEither (wsF yX1_takesEither cX1_takesEither 4 (some .boolean)) { frames := frF, cells := 0, slots := 0, locals := loF } [.ref (g.2.2 103), .int a] g (xW g ρ) (YB g ρ dt aK aV) σ (Fe σ a)) (qF : ∀ (σ : St) (a : Int32), EP o a σ → RQ 0 σ (Fe σ a).2) (C0 : BC p s m args meth c cX1_takesEither RX1 4 (some .boolean)) (hK2 : ∀ (σ : St) (a1 : Int32) (a2 : Int32), (ρ 62 0 = some (g.2.2 20)) → (EP (o - 1) a1 σ) → (0 ≤ a2.toInt) → (a2.toInt ≤ 99) → (100 - a2.toInt).toNat < N2 → ∀ {H : Heap} {locs : List Loc}, KK g s → WC g (xW g ρ) A s.heap σ H locs → YB g ρ dt aK aV s → (∀ q, A q → AX g q) →  ∀ {ls : Array Slot}, lv_has ls 4 [(0, .ref (g.2.2 103)), (1, .int (a1)), (2, .int (a2))] → K2 σ a1 a2 = tgt → W p l e { frames := frF + 6, cells := 0, slots := 0, locals := loF + 135 } s m args below meth c H locs 0 0 (QMI below args s g (xW g ρ) A tgt) (F0 m 2 ls [])) {σ : St} {a1 : Int32} {a2 : Int32} {H : Heap} {locs : List Loc} (hTx : ρ 62 0 = some (g.2.2 20)) (hP : EP (o - 1) a1 σ) (h2 : 0 ≤ a2.toInt) (h2c : a2.toInt ≤ 99) (hm : (100 - a2.toInt).toNat < N2 + 1) (hK : KK g s) (hC : WC g (xW g ρ) A s.heap σ H locs) (hB : YB g ρ dt aK aV s) (hA : ∀ q, A q → AX g q) {ls : Array Slot} (hl : lv_has ls 4 [(0, .ref (g.2.2 103)), (1, .int (a1)), (2, .int (a2))]) (hT : f_X1_takesEither_2 Fe K2 σ a1 a2 = tgt) : W p l e { frames := frF + 6, cells := 0, slots := 0, locals := loF + 135 } s m args below meth c H locs 0 0 (QMI below args s g (xW g ρ) A tgt) (F0 m 2 ls []) := by
  obtain ⟨hx, hb, hr, hml, hown, hts, hlocks⟩ := id C0
  unfold f_X1_takesEither_2 at hT
  obtain ⟨hR, po1, po2, po3⟩ := id hP
  obtain ⟨p1, p2, p3, p4, p5, p6, p7⟩ := id hR
  have z1 : (1 : Int32).toInt = 1 := rfl
  have z5 : (5 : Int32).toInt = 5 := rfl
  have z100 : (100 : Int32).toInt = 100 := rfl
  refine lv_iconst (v := (0 : Int32)) hx hb dX1_takesEither_2 (by decide) ?_
  refine lv_istore_n (lv' := [(3, .int ((0 : Int32))), (0, .ref (g.2.2 103)), (1, .int (a1)), (2, .int (a2))]) hx hb dX1_takesEither_3 rfl hl (by decide) rfl (fun ls hl => ?_)
  have j3_hm2 : (100 - a2.toInt).toNat < N2 + 1 := hm
  have j3_h3 : 0 ≤ (0 : Int32).toInt := by
    have : ((0 : Int32)).toInt = 0 := by decide
    omega
  have j3_h3c : (0 : Int32).toInt ≤ 99 := by
    have : ((0 : Int32)).toInt = 0 := by decide
    omega
  have j3_m : (100 - (0 : Int32).toInt).toNat < 101 := by
    decide
  exact l_X1_takesEither_4 (g := g) (ρ := ρ) (dt := dt) (aK := aK) (aV := aV) o Fe frF loF kF qF C0 hK2  (101) σ a1 a2 (0 : Int32) hTx hP h2 h2c j3_hm2 j3_h3 j3_h3c j3_m hK hC hB hA (lv_sub hl [1, 2, 3, 0] rfl) hT
def g_X1_takesEither_2 (Fe : St → Int32 → Int32 × St)  : Nat → St → Int32 → Int32 → Int32 × St
  | 0 => fun σ a1 a2 => (0, σ)
  | n + 1 => fun σ a1 a2 => f_X1_takesEither_2 Fe  (g_X1_takesEither_2 Fe  n) σ a1 a2
theorem l_X1_takesEither_2 {g : GG} {ρ : RR} {dt : Nat → Nat → Int32} {aK aV : Nat → Nat} {p : Program} {l : Launch} {e : Env} {s : State} {m : MethodId} {args : Array Value} {below : List Frame} {meth : Method} {c : Code} {A : Nat → Prop} {tgt : Int32 × St}  (o : Int) (Fe : St → Int32 → Int32 × St) (frF loF : Nat) (kF : ∀ (σ : St) (a : Int32), EP o a σ → MI l yX1_takesEither (wsF yX1_takesEither cX1_takesEither 4 (some .boolean)) { frames := frF, cells := 0, slots := 0, locals := loF } [.ref (g.2.2 103), .int a] g (xW g ρ) (YB g ρ dt aK aV) σ (Fe σ a)) (qF : ∀ (σ : St) (a : Int32), EP o a σ → RQ 0 σ (Fe σ a).2) (C0 : BC p s m args meth c cX1_takesEither RX1 4 (some .boolean))  : ∀ (n : Nat) (σ : St) (a1 : Int32) (a2 : Int32), (ρ 62 0 = some (g.2.2 20)) → (EP (o - 1) a1 σ) → (0 ≤ a2.toInt) → (a2.toInt ≤ 99) → (100 - a2.toInt).toNat < n → ∀ {H : Heap} {locs : List Loc}, KK g s → WC g (xW g ρ) A s.heap σ H locs → YB g ρ dt aK aV s → (∀ q, A q → AX g q) →  ∀ {ls : Array Slot}, lv_has ls 4 [(0, .ref (g.2.2 103)), (1, .int (a1)), (2, .int (a2))] → g_X1_takesEither_2 Fe  n σ a1 a2 = tgt → W p l e { frames := frF + 6, cells := 0, slots := 0, locals := loF + 135 } s m args below meth c H locs 0 0 (QMI below args s g (xW g ρ) A tgt) (F0 m 2 ls []) := by
  intro n
  induction n with
  | zero => intro σ a1 a2 hTx hP h2 h2c hm; exact absurd hm (Nat.not_lt_zero _)
  | succ n ih =>
    intro σ a1 a2 hTx hP h2 h2c hm H locs hK hC hB hA ls hl hT
    exact b_X1_takesEither_2 (g := g) (ρ := ρ) (dt := dt) (aK := aK) (aV := aV) o Fe frF loF kF qF (K2 := g_X1_takesEither_2 Fe  n) (N2 := n) C0  (fun σ a1 a2 hTx hP h2 h2c hmq => ih σ a1 a2 hTx hP h2 h2c hmq) hTx hP h2 h2c hm hK hC hB hA hl hT
def f_X1_takesEither (Fe : St → Int32 → Int32 × St) (σ : St) (a1 : Int32) : Int32 × St := (g_X1_takesEither_2 Fe  (101) σ a1 (0 : Int32))
set_option maxHeartbeats 600000 in
set_option maxRecDepth 100000 in
theorem k_X1_takesEither (l : Launch) (g : GG) (ρ : RR) (dt : Nat → Nat → Int32) (aK aV : Nat → Nat) (o : Int) (Fe : St → Int32 → Int32 × St) (frF loF : Nat) (kF : ∀ (σ : St) (a : Int32), EP o a σ → MI l yX1_takesEither (wsF yX1_takesEither cX1_takesEither 4 (some .boolean)) { frames := frF, cells := 0, slots := 0, locals := loF } [.ref (g.2.2 103), .int a] g (xW g ρ) (YB g ρ dt aK aV) σ (Fe σ a)) (qF : ∀ (σ : St) (a : Int32), EP o a σ → RQ 0 σ (Fe σ a).2) (σ : St) (a1 : Int32) (hTx : ρ 62 0 = some (g.2.2 20)) (hP : EP (o - 1) a1 σ) : MI l yX1_takesEither (wsF yX1_takesEither cX1_takesEither 4 (some .boolean)) { frames := frF + 6, cells := 0, slots := 0, locals := loF + 135 } [.ref (g.2.2 103), .int (a1)] g (xW g ρ) (YB g ρ dt aK aV) σ (f_X1_takesEither Fe σ a1) := by
  refine start_MI (by decide) (Nat.le_of_ble_eq_true rfl) ?_
  intro p e s m args below meth c C0 hK hB hC ls hl
  generalize hAe : aA ((xW g ρ) σ) = A at hC ⊢
  have hA : ∀ q, A q → AX g q := fun q h => by rw [← hAe] at h; exact h
  obtain ⟨hx, hb, hr, hml, hown, hts, hlocks⟩ := id C0
  have hl : lv_has ls 4 [(0, .ref (g.2.2 103)), (1, .int (a1))] := hl
  generalize hT : (f_X1_takesEither Fe σ a1) = tgt
  suffices key : ∀ (H : Heap) (locs : List Loc), WC g (xW g ρ) A s.heap σ H locs → W p l e { frames := frF + 6, cells := 0, slots := 0, locals := loF + 135 } s m args below meth c H locs 0 0 (QMI below args s g (xW g ρ) A tgt) (F0 m 0 ls []) from key _ _ hC
  intro H locs hC
  unfold f_X1_takesEither at hT
  refine lv_iconst (v := (0 : Int32)) hx hb dX1_takesEither_0 (by decide) ?_
  refine lv_istore_n (lv' := [(2, .int ((0 : Int32))), (0, .ref (g.2.2 103)), (1, .int (a1))]) hx hb dX1_takesEither_1 rfl hl (by decide) rfl (fun ls hl => ?_)
  have j1_h2 : 0 ≤ (0 : Int32).toInt := by
    have : ((0 : Int32)).toInt = 0 := by decide
    omega
  have j1_h2c : (0 : Int32).toInt ≤ 99 := by
    have : ((0 : Int32)).toInt = 0 := by decide
    omega
  have j1_m : (100 - (0 : Int32).toInt).toNat < 101 := by
    decide
  exact l_X1_takesEither_2 (g := g) (ρ := ρ) (dt := dt) (aK := aK) (aV := aV) o Fe frF loF kF qF C0   (101) σ a1 (0 : Int32) hTx hP j1_h2 j1_h2c j1_m hK hC hB hA (lv_sub hl [1, 2, 0] rfl) hT
def wt (a : Int32) : Int := if a ≤ 0 then 0 else -1
theorem wt_b (a : Int32) : -1 ≤ wt a ∧ wt a ≤ 0 := by
  unfold wt
  split <;> decide
section EITHQ
variable {o : Int} {Fe : St → Int32 → Int32 × St} {K2 : St → Int32 → Int32 → Int32 × St} {K4 : St → Int32 → Int32 → Int32 → Int32 × St} {a1 : Int32}
theorem e52_q (hK : ∀ (σ : St) (a2 : Int32), EP (o - 1) a1 σ → RQ (wt a2) σ (K2 σ a1 a2).2) {σ : St} (a2 : Int32) (hP : EP (o - 1) a1 σ) : RQ 0 σ (f_X1_takesEither_52 Fe K2 σ a1 a2).2 := by
  unfold f_X1_takesEither_52
  by_cases c : (100 : Int32) ≤ a2 + 1
  · rw [if_pos c]
    exact RQ.rfl hP.1
  · rw [if_neg c]
    obtain ⟨S, S'⟩ := takes_q hP.1 (c := 124) (by decide)
    dsimp only [bd]
    by_cases c2 : (f_X1_takes σ 124).1 = 0
    · rw [if_pos c2]
      exact S
    · rw [if_neg c2]
      rcases S' with S' | S'
      · exact absurd S' c2
      · have := wt_b (a2 + 1)
        exact (S'.tr (hK _ _ (hP.q S))).le (by omega)
theorem e42_q (hK : ∀ (σ : St) (a2 : Int32), EP (o - 1) a1 σ → RQ (wt a2) σ (K2 σ a1 a2).2) {σ : St} (a2 : Int32) (hP : EP (o - 1) a1 σ) : RQ (wt a2) σ (f_X1_takesEither_42 Fe K2 σ a1 a2).2 := by
  unfold f_X1_takesEither_42
  by_cases c : a2 ≤ 0
  · rw [if_pos c]
    exact (e52_q hK a2 hP).le (wt_b a2).2
  · rw [if_neg c]
    have S := emit_q hP.1 3 0
    have e : wt a2 = -1 := by unfold wt; rw [if_neg c]
    rw [e]
    exact (S.tr (e52_q (Fe := Fe) hK a2 (hP.q S))).le (by decide)
theorem e24_q (hK : ∀ (σ : St) (a2 : Int32), EP (o - 1) a1 σ → RQ (wt a2) σ (K2 σ a1 a2).2) (hK4 : ∀ (σ : St) (a2 a3 : Int32), EP (o - 1) a1 σ → RQ (wt a2 + wt a3) σ (K4 σ a1 a2 a3).2) {σ : St} (a2 a3 : Int32) (hP : EP (o - 1) a1 σ) : RQ (wt a2) σ (f_X1_takesEither_24 Fe K2 K4 σ a1 a2 a3).2 := by
  unfold f_X1_takesEither_24
  by_cases c : (100 : Int32) ≤ a3 + 1
  · rw [if_pos c]
    exact e42_q hK a2 hP
  · rw [if_neg c]
    obtain ⟨S, S'⟩ := takes_q hP.1 (c := 38) (by decide)
    dsimp only [bd]
    by_cases c2 : (f_X1_takes σ 38).1 = 0
    · rw [if_pos c2]
      exact (S.tr (e42_q hK a2 (hP.q S))).le (by omega)
    · rw [if_neg c2]
      rcases S' with S' | S'
      · exact absurd S' c2
      · have := wt_b (a3 + 1)
        exact (S'.tr (hK4 _ _ _ (hP.q S))).le (by omega)
theorem e4_q (qF : ∀ (σ : St) (a : Int32), EP o a σ → RQ 0 σ (Fe σ a).2) (hK : ∀ (σ : St) (a2 : Int32), EP (o - 1) a1 σ → RQ (wt a2) σ (K2 σ a1 a2).2) (hK4 : ∀ (σ : St) (a2 a3 : Int32), EP (o - 1) a1 σ → RQ (wt a2 + wt a3) σ (K4 σ a1 a2 a3).2) {σ : St} (a2 a3 : Int32) (hP : EP (o - 1) a1 σ) : RQ (wt a2 + wt a3) σ (f_X1_takesEither_4 Fe K2 K4 σ a1 a2 a3).2 := by
  unfold f_X1_takesEither_4
  have S := fact_q qF σ a1 hP
  have w2 := wt_b a2
  have w3 := wt_b a3
  dsimp only [bd, bd1]
  split
  · exact S.le (by omega)
  · by_cases c : a3 ≤ 0
    · rw [if_pos c]
      exact (S.tr (e24_q hK hK4 a2 a3 (hP.q S))).le (by omega)
    · rw [if_neg c]
      have T := emit_q S.2.1 2 0
      have e : wt a3 = -1 := by unfold wt; rw [if_neg c]
      exact ((S.tr T).tr (e24_q hK hK4 a2 a3 (hP.q (S.tr T)))).le (by omega)
theorem e4l_q (qF : ∀ (σ : St) (a : Int32), EP o a σ → RQ 0 σ (Fe σ a).2) (hK : ∀ (σ : St) (a2 : Int32), EP (o - 1) a1 σ → RQ (wt a2) σ (K2 σ a1 a2).2) : ∀ (n : Nat) (σ : St) (a2 a3 : Int32), EP (o - 1) a1 σ → RQ (wt a2 + wt a3) σ (g_X1_takesEither_4 Fe K2 n σ a1 a2 a3).2
  | 0, σ, a2, a3, hP => (RQ.rfl hP.1).le (by have := wt_b a2; have := wt_b a3; omega)
  | n + 1, σ, a2, a3, hP => e4_q qF hK (e4l_q qF hK n) a2 a3 hP
theorem e2l_q (qF : ∀ (σ : St) (a : Int32), EP o a σ → RQ 0 σ (Fe σ a).2) : ∀ (n : Nat) (σ : St) (a2 : Int32), EP (o - 1) a1 σ → RQ (wt a2) σ (g_X1_takesEither_2 Fe n σ a1 a2).2
  | 0, σ, a2, hP => (RQ.rfl hP.1).le (wt_b a2).2
  | n + 1, σ, a2, hP => (e4l_q qF (e2l_q qF n) 101 σ a2 0 hP).le (by have : wt 0 = 0 := Eq.refl _; omega)
theorem eith_q (qF : ∀ (σ : St) (a : Int32), EP o a σ → RQ 0 σ (Fe σ a).2) (σ : St) (hP : EP (o - 1) a1 σ) : RQ 0 σ (f_X1_takesEither Fe σ a1).2 := e2l_q qF 101 σ 0 hP
end EITHQ
