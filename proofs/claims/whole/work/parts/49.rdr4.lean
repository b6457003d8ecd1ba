
def FEm : Nat → St → Int32 → Int32 × St
  | 0 => fun σ _ => (0, σ)
  | n + 1 => f_X1_takesEither (FEm n)
theorem qFEm : ∀ (n : Nat), n ≤ 6 → ∀ (σ : St) (a : Int32), EP (6 - (n : Int)) a σ → RQ 0 σ (FEm n σ a).2
  | 0, _, σ, a, h => RQ.rfl h.1
  | n + 1, hn, σ, a, h => by
    rw [show (6 : Int) - ((n + 1 : Nat) : Int) = (6 - (n : Int)) - 1 by omega] at h
    exact eith_q (qFEm n (by omega)) σ h
theorem kFEm (l : Launch) (g : GG) (ρ : RR) (dt : Nat → Nat → Int32) (aK aV : Nat → Nat) (hTx : ρ 62 0 = some (g.2.2 20)) : ∀ n : Nat, n ≤ 6 → ∀ (σ : St) (a : Int32), EP (6 - (n : Int)) a σ → MI l yX1_takesEither (wsF yX1_takesEither cX1_takesEither 4 (some .boolean)) { frames := 6 * n, cells := 0, slots := 0, locals := 135 * n } [.ref (g.2.2 103), .int a] g (xW g ρ) (YB g ρ dt aK aV) σ (FEm n σ a)
  | 0, _, σ, a, h => absurd h.2.1 (by have := h.2.2.1; omega)
  | n + 1, hn, σ, a, h => by
    rw [show (6 : Int) - ((n + 1 : Nat) : Int) = (6 - (n : Int)) - 1 by omega] at h
    exact k_X1_takesEither l g ρ dt aK aV (6 - (n : Int)) (FEm n) (6 * n) (135 * n) (kFEm l g ρ dt aK aV hTx n (by omega)) (qFEm n (by omega)) σ a hTx h
def f_X1_eith0 (σ : St) (a : Int32) : Int32 × St := FEm 6 σ a
theorem eith0_q {σ : St} {a : Int32} (h : EP 0 a σ) : RQ 0 σ (f_X1_eith0 σ a).2 := qFEm 6 (by decide) σ a (by rw [show (6 : Int) - ((6 : Nat) : Int) = 0 by omega]; exact h)
theorem k_X1_eith0 (l : Launch) (g : GG) (ρ : RR) (dt : Nat → Nat → Int32) (aK aV : Nat → Nat) (σ : St) (a1 : Int32) (hTx : ρ 62 0 = some (g.2.2 20)) (hP : EP 0 a1 σ) : MI l yX1_takesEither (wsF yX1_takesEither cX1_takesEither 4 (some .boolean)) { frames := 6 * 6, cells := 0, slots := 0, locals := 135 * 6 } [.ref (g.2.2 103), .int a1] g (xW g ρ) (YB g ρ dt aK aV) σ (f_X1_eith0 σ a1) :=
  kFEm l g ρ dt aK aV hTx 6 (by decide) σ a1 (by rw [show (6 : Int) - ((6 : Nat) : Int) = 0 by omega]; exact hP)
/-- what a clause keeps -/
def BX (σ : St) : Prop := 0 ≤ (σ 66 0).toInt ∧ (σ 66 0).toInt ≤ 99 ∧ 0 ≤ (σ 67 0).toInt ∧ (σ 67 0).toInt ≤ 99
def KQ (σ u : St) : Prop := (∀ k, k ≠ 60 → k ≠ 61 → k ≠ 64 → k ≠ 65 → k ≠ 66 → k ≠ 67 → u k = σ k) ∧ RC u ∧ (σ 64 0).toInt ≤ (u 64 0).toInt ∧ (σ 64 0).toInt - (σ 61 0).toInt ≤ (u 64 0).toInt - (u 61 0).toInt ∧ (BX σ → BX u)
theorem RQ.kq {σ u : St} (h : RQ 0 σ u) : KQ σ u := ⟨fun k a b c d _ _ => h.1 k a b c d, h.2.1, h.2.2.1, by have := h.2.2.2; omega, fun q => by
  unfold BX
  rw [h.1 66 (by decide) (by decide) (by decide) (by decide), h.1 67 (by decide) (by decide) (by decide) (by decide)]
  exact q⟩
theorem KQ.tr {σ u w : St} (h : KQ σ u) (h' : KQ u w) : KQ σ w := ⟨fun k a b c d e f => (h'.1 k a b c d e f).trans (h.1 k a b c d e f), h'.2.1, Int.le_trans h.2.2.1 h'.2.2.1, by have := h.2.2.2.1; have := h'.2.2.2.1; omega, fun q => h'.2.2.2.2 (h.2.2.2.2 q)⟩
theorem kq_66 {σ : St} (h : RC σ) : KQ σ (up2 σ 66 0 (σ 65 0)) ∧ KQ σ (up2 σ 67 0 (σ 65 0)) := by
  obtain ⟨p1, p2, p3, p4, p5, p6, p7⟩ := id h
  exact ⟨⟨fun k a b c d e f => if_neg e, h, Int.le_refl _, Int.le_refl _, fun q => ⟨p6, p7, q.2.2.1, q.2.2.2⟩⟩, ⟨fun k a b c d e f => if_neg f, h, Int.le_refl _, Int.le_refl _, fun q => ⟨q.1, q.2.1, p6, p7⟩⟩⟩
set_option maxRecDepth 20000 in
theorem w_280 : (Cond.methodLink RX1 57 yX1_wordOf) ∈ TB := inTB (List.mem_of_getElem? (i := 280) (by decide +kernel)) (by decide +kernel)
set_option maxRecDepth 20000 in
theorem w_282 : (Cond.code yX1_wordOf cX1_wordOf 1 (some (.object "java/lang/String"))) ∈ TB := inTB (List.mem_of_getElem? (i := 282) (by decide +kernel)) (by decide +kernel)
set_option maxRecDepth 20000 in
theorem w_281 : (Cond.static yX1_wordOf) ∈ TB := inTB (List.mem_of_getElem? (i := 281) (by decide +kernel)) (by decide +kernel)
theorem cf_X1_wordOf : CG yX1_wordOf cX1_wordOf 1 (some (.object "java/lang/String")) 1 := ⟨w_281, w_73, w_282, by decide +kernel, by decide +kernel, by decide +kernel⟩
set_option maxRecDepth 20000 in
theorem w_287 : (Cond.methodLink RX1 61 yX1_takesWordAndNumber) ∈ TB := inTB (List.mem_of_getElem? (i := 287) (by decide +kernel)) (by decide +kernel)
set_option maxRecDepth 20000 in
theorem w_290 : (Cond.code yX1_takesWordAndNumber cX1_takesWordAndNumber 3 (some .boolean)) ∈ TB := inTB (List.mem_of_getElem? (i := 290) (by decide +kernel)) (by decide +kernel)
set_option maxRecDepth 20000 in
theorem w_289 : (Cond.instanceMethod yX1_takesWordAndNumber) ∈ TB := inTB (List.mem_of_getElem? (i := 289) (by decide +kernel)) (by decide +kernel)
set_option maxRecDepth 20000 in
theorem w_3 : (Cond.selects RX1 yX1_takesWordAndNumber yX1_takesWordAndNumber) ∈ TB := inTB (List.mem_of_getElem? (i := 3) (by decide +kernel)) (by decide +kernel)
theorem cf_X1_takesWordAndNumber : CF yX1_takesWordAndNumber cX1_takesWordAndNumber 3 (some .boolean) 1 := ⟨w_289, w_3, w_73, w_290, by decide +kernel, by decide +kernel, by decide +kernel⟩
set_option maxRecDepth 20000 in
theorem w_196 : (Cond.fieldLink RX1 33 RX1 "perStep" "I") ∈ TB := inTB (List.mem_of_getElem? (i := 196) (by decide +kernel)) (by decide +kernel)
set_option maxRecDepth 20000 in
theorem w_195 : (Cond.fieldLink RX1 30 RX1 "board" "I") ∈ TB := inTB (List.mem_of_getElem? (i := 195) (by decide +kernel)) (by decide +kernel)
/-! ThreeMeasures$Reader.takesClause -/
theorem dX1_takesClause_0 : decode cX1_takesClause 0 = .ok (.aload_n 0, 1) := by decide +kernel
theorem dX1_takesClause_1 : decode cX1_takesClause 1 = .ok (.invokevirtual 53, 3) := by decide +kernel
theorem dX1_takesClause_4 : decode cX1_takesClause 4 = .ok (.istore_n 1, 1) := by decide +kernel
theorem dX1_takesClause_5 : decode cX1_takesClause 5 = .ok (.aload_n 0, 1) := by decide +kernel
theorem dX1_takesClause_6 : decode cX1_takesClause 6 = .ok (.iload_n 1, 1) := by decide +kernel
theorem dX1_takesClause_7 : decode cX1_takesClause 7 = .ok (.invokestatic 57, 3) := by decide +kernel
theorem dX1_takesClause_10 : decode cX1_takesClause 10 = .ok (.invokevirtual 61, 3) := by decide +kernel
theorem dX1_takesClause_13 : decode cX1_takesClause 13 = .ok (.ifCond .ne 5, 3) := by decide +kernel
theorem dX1_takesClause_16 : decode cX1_takesClause 16 = .ok (.iconst 0, 1) := by decide +kernel
theorem dX1_takesClause_17 : decode cX1_takesClause 17 = .ok (.ireturn, 1) := by decide +kernel
theorem dX1_takesClause_18 : decode cX1_takesClause 18 = .ok (.aload_n 0, 1) := by decide +kernel
theorem dX1_takesClause_19 : decode cX1_takesClause 19 = .ok (.getfield 65, 3) := by decide +kernel
theorem dX1_takesClause_22 : decode cX1_takesClause 22 = .ok (.istore_n 2, 1) := by decide +kernel
theorem dX1_takesClause_23 : decode cX1_takesClause 23 = .ok (.iload_n 1, 1) := by decide +kernel
theorem dX1_takesClause_24 : decode cX1_takesClause 24 = .ok (.bipush 98, 2) := by decide +kernel
theorem dX1_takesClause_26 : decode cX1_takesClause 26 = .ok (.if_icmp .ne 10, 3) := by decide +kernel
theorem dX1_takesClause_29 : decode cX1_takesClause 29 = .ok (.aload_n 0, 1) := by decide +kernel
theorem dX1_takesClause_30 : decode cX1_takesClause 30 = .ok (.iload_n 2, 1) := by decide +kernel
theorem dX1_takesClause_31 : decode cX1_takesClause 31 = .ok (.putfield 30, 3) := by decide +kernel
theorem dX1_takesClause_34 : decode cX1_takesClause 34 = .ok (.iconst 1, 1) := by decide +kernel
theorem dX1_takesClause_35 : decode cX1_takesClause 35 = .ok (.ireturn, 1) := by decide +kernel
theorem dX1_takesClause_36 : decode cX1_takesClause 36 = .ok (.iload_n 1, 1) := by decide +kernel
theorem dX1_takesClause_37 : decode cX1_takesClause 37 = .ok (.bipush 115, 2) := by decide +kernel
theorem dX1_takesClause_39 : decode cX1_takesClause 39 = .ok (.if_icmp .ne 10, 3) := by decide +kernel
theorem dX1_takesClause_42 : decode cX1_takesClause 42 = .ok (.aload_n 0, 1) := by decide +kernel
theorem dX1_takesClause_43 : decode cX1_takesClause 43 = .ok (.iload_n 2, 1) := by decide +kernel
theorem dX1_takesClause_44 : decode cX1_takesClause 44 = .ok (.putfield 33, 3) := by decide +kernel
theorem dX1_takesClause_47 : decode cX1_takesClause 47 = .ok (.iconst 1, 1) := by decide +kernel
theorem dX1_takesClause_48 : decode cX1_takesClause 48 = .ok (.ireturn, 1) := by decide +kernel
theorem dX1_takesClause_49 : decode cX1_takesClause 49 = .ok (.aload_n 0, 1) := by decide +kernel
theorem dX1_takesClause_50 : decode cX1_takesClause 50 = .ok (.bipush 32, 2) := by decide +kernel
theorem dX1_takesClause_52 : decode cX1_takesClause 52 = .ok (.invokevirtual 40, 3) := by decide +kernel
theorem dX1_takesClause_55 : decode cX1_takesClause 55 = .ok (.ifCond .eq 11, 3) := by decide +kernel
theorem dX1_takesClause_58 : decode cX1_takesClause 58 = .ok (.aload_n 0, 1) := by decide +kernel
theorem dX1_takesClause_59 : decode cX1_takesClause 59 = .ok (.iconst 0, 1) := by decide +kernel
theorem dX1_takesClause_60 : decode cX1_takesClause 60 = .ok (.invokevirtual 68, 3) := by decide +kernel
theorem dX1_takesClause_63 : decode cX1_takesClause 63 = .ok (.ifCond .ne 5, 3) := by decide +kernel
theorem dX1_takesClause_66 : decode cX1_takesClause 66 = .ok (.iconst 0, 1) := by decide +kernel
theorem dX1_takesClause_67 : decode cX1_takesClause 67 = .ok (.ireturn, 1) := by decide +kernel
theorem dX1_takesClause_68 : decode cX1_takesClause 68 = .ok (.aload_n 0, 1) := by decide +kernel
theorem dX1_takesClause_69 : decode cX1_takesClause 69 = .ok (.iload_n 1, 1) := by decide +kernel
theorem dX1_takesClause_70 : decode cX1_takesClause 70 = .ok (.bipush 111, 2) := by decide +kernel
theorem dX1_takesClause_72 : decode cX1_takesClause 72 = .ok (.if_icmp .ne 7, 3) := by decide +kernel
theorem dX1_takesClause_75 : decode cX1_takesClause 75 = .ok (.iconst 4, 1) := by decide +kernel
theorem dX1_takesClause_76 : decode cX1_takesClause 76 = .ok (.goto 4, 3) := by decide +kernel
theorem dX1_takesClause_79 : decode cX1_takesClause 79 = .ok (.iconst 5, 1) := by decide +kernel
theorem dX1_takesClause_80 : decode cX1_takesClause 80 = .ok (.iload_n 2, 1) := by decide +kernel
theorem dX1_takesClause_81 : decode cX1_takesClause 81 = .ok (.invokevirtual 72, 3) := by decide +kernel
theorem dX1_takesClause_84 : decode cX1_takesClause 84 = .ok (.iconst 1, 1) := by decide +kernel
theorem dX1_takesClause_85 : decode cX1_takesClause 85 = .ok (.ireturn, 1) := by decide +kernel
def f_X1_takesClause (σ : St) : Int32 × St := (bd (f_X1_takesWordAndNumber σ (f_X1_wordOf (f_X1_next σ ))) (fun r10 u10 => (if r10 = 0 then ((0 : Int32), u10) else (if (f_X1_next σ ) = (98 : Int32) then ((1 : Int32), (up2 u10 66 0 (u10 65 0))) else (if (f_X1_next σ ) = (115 : Int32) then ((1 : Int32), (up2 u10 67 0 (u10 65 0))) else (bd (f_X1_takes u10 (32 : Int32)) (fun r52 u52 => (if r52 = 0 then ((0 : Int32), u52) else (bd (f_X1_eith0 u52 (0 : Int32)) (fun r60 u60 => (if r60 = 0 then ((0 : Int32), u60) else (bd1 (f_X1_emit u60 (if (f_X1_next σ ) = (111 : Int32) then (4 : Int32) else (5 : Int32)) (u10 65 0)) (fun u81 => ((1 : Int32), u81))))))))))))))
set_option maxHeartbeats 600000 in
set_option maxRecDepth 100000 in
theorem k_X1_takesClause (l : Launch) (g : GG) (ρ : RR) (dt : Nat → Nat → Int32) (aK aV : Nat → Nat)  (σ : St) (hTx : ρ 62 0 = some (g.2.2 20)) (hR : RC σ) : MI l yX1_takesClause (wsF yX1_takesClause cX1_takesClause 3 (some .boolean)) { frames := 37, cells := 0, slots := 0, locals := 833 } [.ref (g.2.2 103)] g (xW g ρ) (YB g ρ dt aK aV) σ (f_X1_takesClause σ) := by
  refine start_MI (by decide) (Nat.le_of_ble_eq_true rfl) ?_
  intro p e s m args below meth c C0 hK hB hC ls hl
  generalize hAe : aA ((xW g ρ) σ) = A at hC ⊢
  have hA : ∀ q, A q → AX g q := fun q h => by rw [← hAe] at h; exact h
  obtain ⟨hx, hb, hr, hml, hown, hts, hlocks⟩ := id C0
  have hl : lv_has ls 3 [(0, .ref (g.2.2 103))] := hl
  generalize hT : (f_X1_takesClause σ) = tgt
  suffices key : ∀ (H : Heap) (locs : List Loc), WC g (xW g ρ) A s.heap σ H locs → W p l e { frames := 37, cells := 0, slots := 0, locals := 833 } s m args below meth c H locs 0 0 (QMI below args s g (xW g ρ) A tgt) (F0 m 0 ls []) from key _ _ hC
  intro H locs hC
  unfold f_X1_takesClause at hT
  obtain ⟨p1, p2, p3, p4, p5, p6, p7⟩ := id hR
  refine lv_aload_n hx hb dX1_takesClause_0 rfl (lv_at hl 0 rfl) ?_
  have q1_hp : 0 ≤ (σ 64 0).toInt := by
    omega
  refine x_ci (rest := []) (As := []) (σ := σ) (ρ := ρ) (dt := dt) (T := TX1) (N := 8) (fs := xF3 g ρ σ) 1 3 rfl rfl C0 hK hC.1 (hC.2.1.weaken (fun _ _ _ _ => trivial)) (XH.wa hB.1 hA hC) cf_X1_next w_276 (k_X1_next l g ρ dt σ  hTx q1_hp) ⟨by decide, by decide⟩ hl.1 rfl rfl (Nat.le_of_ble_eq_true rfl) dX1_takesClause_1 ⟨Nat.zero_le _, Nat.zero_le _⟩ ?_
  refine lv_istore_n (lv' := [(1, .int ((f_X1_next σ ))), (0, .ref (g.2.2 103))]) hx hb dX1_takesClause_4 rfl hl (by decide) rfl (fun ls hl => ?_)
  refine lv_aload_n hx hb dX1_takesClause_5 rfl (lv_at hl 1 rfl) ?_
  refine lv_iload_n hx hb dX1_takesClause_6 rfl (lv_at hl 0 rfl) ?_
  refine y_wo (σ := σ) (i := (f_X1_next σ )) (rest := [.ref (g.2.2 103)]) C0 hC hB hA cf_X1_wordOf w_280 ⟨by decide, by decide⟩ hl.1 (Nat.le_of_ble_eq_true rfl) dX1_takesClause_7 ?_
  have q10_hi : (f_X1_wordOf (f_X1_next σ )) < 6 := wo_lt _
  refine y_mi (rest := []) (As := [.ref (aK (f_X1_wordOf (f_X1_next σ )))]) (σ := σ) (ρ := ρ) (dt := dt) (T := TX1) (N := 8) (fs := xF3 g ρ σ) 1 3 rfl rfl C0 hK hC hB hA cf_X1_takesWordAndNumber w_287 (k_X1_takesWordAndNumber l g ρ dt aK aV  σ (f_X1_wordOf (f_X1_next σ )) hTx q10_hi hR) ⟨by decide, by decide⟩ hl.1 rfl rfl (Nat.le_of_ble_eq_true rfl) dX1_takesClause_10 ⟨Nat.zero_le _, Nat.zero_le _⟩ (fun r10 u10 H locs e10 hC => ?_)
  have hT := bd_e e10 hT
  have S10 : RQ 0 σ u10 := by rw [show u10 = _ from congrArg Prod.snd e10]; exact (word_q (wo_lt _) hR).1
  refine lv_if_ne (tgt := 18) hx hb dX1_takesClause_13 (by decide) (fun c_13 => ?_) (fun c_13 => ?_)
  · have hT := hT_neg c_13 hT
    refine lv_aload_n hx hb dX1_takesClause_18 rfl (lv_at hl 1 rfl) ?_
    refine x_get (σ := u10) (v := .int ((u10 65 0))) (fs := xF3 g ρ u10) 1 3 C0 uw_1 dc_1 hK hC.1 rfl rfl 5 (by decide) rfl w_194 dX1_takesClause_19 ?_
    refine lv_istore_n (lv' := [(2, .int ((u10 65 0))), (1, .int ((f_X1_next σ ))), (0, .ref (g.2.2 103))]) hx hb dX1_takesClause_22 rfl hl (by decide) rfl (fun ls hl => ?_)
    refine lv_iload_n hx hb dX1_takesClause_23 rfl (lv_at hl 1 rfl) ?_
    refine lv_bipush (v := (98 : Int32)) hx hb dX1_takesClause_24 (by decide) ?_
    refine lv_icmp_ne (tgt := 36) hx hb dX1_takesClause_26 (by decide) (fun c_26 => ?_) (fun c_26 => ?_)
    · have hT := hT_neg c_26 hT
      refine lv_iload_n hx hb dX1_takesClause_36 rfl (lv_at hl 1 rfl) ?_
      refine lv_bipush (v := (115 : Int32)) hx hb dX1_takesClause_37 (by decide) ?_
      refine lv_icmp_ne (tgt := 49) hx hb dX1_takesClause_39 (by decide) (fun c_39 => ?_) (fun c_39 => ?_)
      · have hT := hT_neg c_39 hT
        refine lv_aload_n hx hb dX1_takesClause_49 rfl (lv_at hl 2 rfl) ?_
        refine lv_bipush (v := (32 : Int32)) hx hb dX1_takesClause_50 (by decide) ?_
        have q52_hp : 0 ≤ (u10 64 0).toInt := S10.2.1.1
        refine x_mi (rest := []) (As := [.int ((32 : Int32))]) (σ := u10) (ρ := ρ) (dt := dt) (T := TX1) (N := 8) (fs := xF3 g ρ u10) 1 3 rfl rfl C0 hK hC (XH.wa hB.1 hA hC) cf_X1_takes w_339 (k_X1_takes l g ρ dt u10 (32 : Int32) hTx q52_hp) ⟨by decide, by decide⟩ hl.1 rfl rfl (Nat.le_of_ble_eq_true rfl) dX1_takesClause_52 ⟨Nat.zero_le _, Nat.zero_le _⟩ (fun r52 u52 H locs e52 hC => ?_)
        have hT := bd_e e52 hT
        have S52 : RQ 0 u10 u52 := by rw [show u52 = _ from congrArg Prod.snd e52]; exact (takes_q S10.2.1 (by decide)).1
        refine lv_if_eq (tgt := 66) hx hb dX1_takesClause_55 (by decide) (fun c_55 => ?_) (fun c_55 => ?_)
        · have hT := hT_pos c_55 hT
          refine lv_iconst (v := (0 : Int32)) hx hb dX1_takesClause_66 (by decide) ?_
          exact ret_MZ C0 (nz_of (Or.inl rfl)) hC hT dX1_takesClause_67
        · have hT := hT_neg c_55 hT
          refine lv_aload_n hx hb dX1_takesClause_58 rfl (lv_at hl 2 rfl) ?_
          refine lv_iconst (v := (0 : Int32)) hx hb dX1_takesClause_59 (by decide) ?_
          have q60_hP : EP 0 (0 : Int32) u52 := ⟨S52.2.1, by decide, by decide, by decide⟩
          refine y_mi (rest := []) (As := [.int ((0 : Int32))]) (σ := u52) (ρ := ρ) (dt := dt) (T := TX1) (N := 8) (fs := xF3 g ρ u52) 1 3 rfl rfl C0 hK hC hB hA cf_X1_takesEither w_347 (k_X1_eith0 l g ρ dt aK aV  u52 (0 : Int32) hTx q60_hP) ⟨by decide, by decide⟩ hl.1 rfl rfl (Nat.le_of_ble_eq_true rfl) dX1_takesClause_60 ⟨Nat.zero_le _, Nat.zero_le _⟩ (fun r60 u60 H locs e60 hC => ?_)
          have hT := bd_e e60 hT
          have S60 : RQ 0 u52 u60 := by rw [show u60 = _ from congrArg Prod.snd e60]; exact eith0_q ⟨S52.2.1, by decide, by decide, by decide⟩
          refine lv_if_ne (tgt := 68) hx hb dX1_takesClause_63 (by decide) (fun c_63 => ?_) (fun c_63 => ?_)
          · have hT := hT_neg c_63 hT
            refine lv_aload_n hx hb dX1_takesClause_68 rfl (lv_at hl 2 rfl) ?_
            refine lv_iload_n hx hb dX1_takesClause_69 rfl (lv_at hl 1 rfl) ?_
            refine lv_bipush (v := (111 : Int32)) hx hb dX1_takesClause_70 (by decide) ?_
            have J72 : ∀ v : Int32, v = (if (f_X1_next σ ) = (111 : Int32) then (4 : Int32) else (5 : Int32)) → W p l e { frames := 37, cells := 0, slots := 0, locals := 833 } s m args below meth c H locs 0 0 (QMI below args s g (xW g ρ) A tgt) (F0 m 80 ls [.int (v), .ref (g.2.2 103)]) := by
              intro v ev
              subst ev
              refine lv_iload_n hx hb dX1_takesClause_80 rfl (lv_at hl 0 rfl) ?_
              have q81_h61 : 0 ≤ (u60 61 0).toInt := S60.2.1.2.2.2.1
              refine x_mv (rest := []) (As := [.int ((if (f_X1_next σ ) = (111 : Int32) then (4 : Int32) else (5 : Int32))), .int ((u10 65 0))]) (σ := u60) (ρ := ρ) (dt := dt) (T := TX1) (N := 8) (fs := xF3 g ρ u60) 1 3 rfl rfl C0 hK hC (XH.wa hB.1 hA hC) cf_X1_emit w_423 (k_X1_emit l g ρ dt u60 (if (f_X1_next σ ) = (111 : Int32) then (4 : Int32) else (5 : Int32)) (u10 65 0) q81_h61) ⟨by decide, by decide⟩ hl.1 rfl rfl (Nat.le_of_ble_eq_true rfl) dX1_takesClause_81 ⟨Nat.zero_le _, Nat.zero_le _⟩ (fun u81 H locs e81 hC => ?_)
              have hT := bd1_e e81 hT
              refine lv_iconst (v := (1 : Int32)) hx hb dX1_takesClause_84 (by decide) ?_
              exact ret_MZ C0 (nz_of (Or.inr rfl)) hC hT dX1_takesClause_85
            refine lv_icmp_ne (tgt := 79) hx hb dX1_takesClause_72 (by decide) (fun c_72 => ?_) (fun c_72 => ?_)
            · refine lv_iconst (v := (5 : Int32)) hx hb dX1_takesClause_79 (by decide) ?_
              exact J72 _ (iv_neg c_72 rfl)
            · refine lv_iconst (v := (4 : Int32)) hx hb dX1_takesClause_75 (by decide) ?_
              refine lv_goto (tgt := 80) hx hb dX1_takesClause_76 (by decide) ?_
              exact J72 _ (iv_pos c_72 rfl)
          · have hT := hT_pos c_63 hT
            refine lv_iconst (v := (0 : Int32)) hx hb dX1_takesClause_66 (by decide) ?_
            exact ret_MZ C0 (nz_of (Or.inl rfl)) hC hT dX1_takesClause_67
      · have hT := hT_pos c_39 hT
        refine lv_aload_n hx hb dX1_takesClause_42 rfl (lv_at hl 2 rfl) ?_
        refine lv_iload_n hx hb dX1_takesClause_43 rfl (lv_at hl 0 rfl) ?_
        refine x_put (σ := u10) (ty := .int) (fs := xF3 g ρ u10) 1 3 C0 uw_1 dc_1 tyX1 tyX1_ok nmX1 hK hC rfl rfl 7 (by decide) rfl rfl rfl rfl (Nat.le_of_ble_eq_true rfl) (xs_67 g ρ _ _) w_196 dX1_takesClause_44 (fun H locs hC => ?_)
        refine lv_iconst (v := (1 : Int32)) hx hb dX1_takesClause_47 (by decide) ?_
        exact ret_MZ C0 (nz_of (Or.inr rfl)) hC hT dX1_takesClause_48
    · have hT := hT_pos c_26 hT
      refine lv_aload_n hx hb dX1_takesClause_29 rfl (lv_at hl 2 rfl) ?_
      refine lv_iload_n hx hb dX1_takesClause_30 rfl (lv_at hl 0 rfl) ?_
      refine x_put (σ := u10) (ty := .int) (fs := xF3 g ρ u10) 1 3 C0 uw_1 dc_1 tyX1 tyX1_ok nmX1 hK hC rfl rfl 6 (by decide) rfl rfl rfl rfl (Nat.le_of_ble_eq_true rfl) (xs_66 g ρ _ _) w_195 dX1_takesClause_31 (fun H locs hC => ?_)
      refine lv_iconst (v := (1 : Int32)) hx hb dX1_takesClause_34 (by decide) ?_
      exact ret_MZ C0 (nz_of (Or.inr rfl)) hC hT dX1_takesClause_35
  · have hT := hT_pos c_13 hT
    refine lv_iconst (v := (0 : Int32)) hx hb dX1_takesClause_16 (by decide) ?_
    exact ret_MZ C0 (nz_of (Or.inl rfl)) hC hT dX1_takesClause_17
theorem clausx_q {σ : St} (h : RC σ) : KQ σ (f_X1_takesClause σ).2 ∧ ((f_X1_takesClause σ).1 = 0 ∨ (σ 64 0).toInt - (σ 61 0).toInt + 1 ≤ ((f_X1_takesClause σ).2 64 0).toInt - ((f_X1_takesClause σ).2 61 0).toInt) := by
  unfold f_X1_takesClause
  obtain ⟨S, S'⟩ := word_q (wo_lt (f_X1_next σ)) h
  dsimp only [bd, bd1]
  generalize f_X1_takesWordAndNumber σ (f_X1_wordOf (f_X1_next σ)) = q at S S' ⊢
  by_cases c : q.1 = 0
  · rw [if_pos c]
    exact ⟨S.kq, Or.inl (Eq.refl _)⟩
  · rw [if_neg c]
    rcases S' with S' | S'
    · exact absurd S' c
    · by_cases c1 : f_X1_next σ = 98
      · rw [if_pos c1]
        exact ⟨S.kq.tr (kq_66 S.2.1).1, Or.inr S'.2.2.2⟩
      · rw [if_neg c1]
        by_cases c2 : f_X1_next σ = 115
        · rw [if_pos c2]
          exact ⟨S.kq.tr (kq_66 S.2.1).2, Or.inr S'.2.2.2⟩
        · rw [if_neg c2]
          obtain ⟨T, T'⟩ := takes_q S.2.1 (c := 32) (by decide)
          by_cases c3 : (f_X1_takes q.2 32).1 = 0
          · rw [if_pos c3]
            exact ⟨((S.tr T).le (by decide)).kq, Or.inl (Eq.refl _)⟩
          · rw [if_neg c3]
            rcases T' with T' | T'
            · exact absurd T' c3
            · have V := eith0_q (a := 0) (σ := (f_X1_takes q.2 32).2) ⟨T.2.1, by decide, by decide, by decide⟩
              generalize f_X1_eith0 (f_X1_takes q.2 32).2 0 = w at V ⊢
              generalize f_X1_takes q.2 32 = t at T T' V c3 ⊢
              by_cases c4 : w.1 = 0
              · rw [if_pos c4]
                exact ⟨(((S.tr T).tr V).le (by decide)).kq, Or.inl (Eq.refl _)⟩
              · rw [if_neg c4]
                have X := ((S'.tr T').tr V).tr (emit_q V.2.1 (if f_X1_next σ = 111 then 4 else 5) (q.2 65 0))
                exact ⟨(X.le (by decide)).kq, Or.inr (X.le (by decide)).2.2.2⟩
