
def FFm : Nat → St → St
  | 0 => fun σ => σ
  | n + 1 => f_X12_factor (FFm n)
theorem kFFm (l : Launch) (g : GG) (aK aV : Nat → Nat) : ∀ n : Nat, n ≤ 7 → (∀ σ : St, FP (7 - (n : Int)) σ → MV l yX12_factor (wsF yX12_factor cX12_factor 5 none) { frames := 5 * n, cells := 0, slots := 0, locals := 107 * n } [.ref (g.2.2 100)] g (mW g) (MB aK aV (AM g)) σ (FFm n σ)) ∧ ∀ σ : St, FP (7 - (n : Int)) σ → SQ 0 σ (FFm n σ)
  | 0, _ => ⟨fun σ h => absurd h.2.2.2.1 (by omega), fun σ h => absurd h.2.2.2.1 (by omega)⟩
  | n + 1, hn => by
    obtain ⟨h1, h2⟩ := kFFm l g aK aV n (by omega)
    have e : (7 : Int) - ((n + 1 : Nat) : Int) = (7 - (n : Int)) - 1 := by omega
    rw [e]
    exact ⟨fun σ h => k_X12_factor l g aK aV (7 - (n : Int)) (FFm n) (5 * n) (107 * n) h1 h2 σ h, fun σ h => factor_q h2 σ h⟩
theorem kFF7 (l : Launch) (g : GG) (aK aV : Nat → Nat) : (∀ σ : St, FP 0 σ → MV l yX12_factor (wsF yX12_factor cX12_factor 5 none) { frames := 5 * 7, cells := 0, slots := 0, locals := 107 * 7 } [.ref (g.2.2 100)] g (mW g) (MB aK aV (AM g)) σ (FFm 7 σ)) ∧ ∀ σ : St, FP 0 σ → SQ 0 σ (FFm 7 σ) := by
  have h := kFFm l g aK aV 7 (by decide)
  rw [show (7 : Int) - ((7 : Nat) : Int) = 0 by omega] at h
  exact h
def f_X12_some0 (σ : St) : St := f_X12_some (FFm 7) σ
theorem qFFm (n : Nat) (hn : n ≤ 7) : ∀ σ : St, FP (7 - (n : Int)) σ → SQ 0 σ (FFm n σ) := by
  induction n with
  | zero => exact fun σ h => absurd h.2.2.2.1 (by omega)
  | succ n ih =>
    have h2 := ih (by omega)
    have e : (7 : Int) - ((n + 1 : Nat) : Int) = (7 - (n : Int)) - 1 := by omega
    rw [e]
    exact fun σ h => factor_q h2 σ h
theorem some0_q (σ : St) (h : FP 0 σ) : SQ 0 σ (f_X12_some0 σ) := some_q (fun σ h => qFFm 7 (by decide) σ (by rw [show (7 : Int) - ((7 : Nat) : Int) = 0 by omega]; exact h)) σ h
theorem k_X12_some0 (l : Launch) (g : GG) (aK aV : Nat → Nat) (σ : St) (hP : FP 0 σ) : MV l yX12_some (wsF yX12_some cX12_some 1 none) { frames := 5 * 7 + 2, cells := 0, slots := 0, locals := 107 * 7 + 44 } [.ref (g.2.2 100)] g (mW g) (MB aK aV (AM g)) σ (f_X12_some0 σ) :=
  k_X12_some l g aK aV 0 (FFm 7) (5 * 7) (107 * 7) (kFF7 l g aK aV).1 (kFF7 l g aK aV).2 σ hP
/-- a board or a step is told -/
theorem tell_ix {σ : St} (h : RO σ) {a : Int32} (ha : a = 201 ∨ a = 206) : vp_in (a + σ 4 0) 916 ∧ (a = 201 → ix (a + σ 4 0) = 201 + ac σ) ∧ (a = 206 → ix (a + σ 4 0) = 206 + ac σ) := by
  obtain ⟨p5, p56, p6, e4, e4b, em, emb, hw⟩ := h
  have hac : ((ac σ : Nat) : Int) = (σ 4 0).toInt := Int.toNat_of_nonneg e4
  have e1 : (201 : Int32).toInt = 201 := rfl
  have e2 : (206 : Int32).toInt = 206 := rfl
  have ha2 : a.toInt = 201 ∨ a.toInt = 206 := by rcases ha with q | q <;> rw [q] <;> simp [e1, e2]
  have q := ti_add (a := a) (b := σ 4 0) (by omega) (by omega)
  have r := ti_ix (i := a + σ 4 0) (by omega)
  refine ⟨vp_in_iff.mpr ⟨by omega, by omega⟩, fun w => ?_, fun w => ?_⟩
  · rw [w] at q r ⊢; omega
  · rw [w] at q r ⊢; omega
/-- what a clause keeps -/
def BR (σ : St) : Prop := 0 ≤ (σ 1 (201 + ac σ)).toInt ∧ (σ 1 (201 + ac σ)).toInt ≤ 99 ∧ 0 ≤ (σ 1 (206 + ac σ)).toInt ∧ (σ 1 (206 + ac σ)).toInt ≤ 99
def LQ (σ u : St) : Prop := (∀ k, k ≠ 1 → k ≠ 5 → k ≠ 7 → k ≠ 8 → u k = σ k) ∧ u 8 0 = σ 8 0 ∧ RO u ∧ (σ 5 0).toInt ≤ (u 5 0).toInt ∧ mn σ ≤ mn u ∧ (u 7 0 = 0 → σ 7 0 = 0 ∧ (σ 5 0).toInt + 1 ≤ (u 5 0).toInt) ∧ (∀ i, i ≠ 211 + ac σ → i ≠ 201 + ac σ → i ≠ 206 + ac σ → ((i : Int) < 216 + 140 * ac σ + mn σ ∨ 216 + 140 * ac σ + 140 ≤ i) → u 1 i = σ 1 i) ∧ (BR σ → BR u)
theorem ac_of {σ u : St} (h : u 4 = σ 4) : ac u = ac σ := by unfold ac; rw [h]
theorem SQ.lq {σ u : St} (h0 : RO σ) (h : SQ 1 σ u) : LQ σ u := by
  obtain ⟨a1, a2, a3, a4, a5, a6, a7⟩ := h
  obtain ⟨p5, p56, p6, e4, e4b, em, emb, hw⟩ := h0
  have hac : ((ac σ : Nat) : Int) = (σ 4 0).toInt := Int.toNat_of_nonneg e4
  refine ⟨a1, a2, a3, a4, a5, fun e => ⟨(a6 e).1, by have := (a6 e).2; omega⟩, fun i h1 _ _ h2 => a7 i h1 h2, fun hb => ?_⟩
  have e := ac_of (a1 4 (by decide) (by decide) (by decide) (by decide))
  unfold BR
  rw [e, a7 (201 + ac σ) (by omega) (by omega), a7 (206 + ac σ) (by omega) (by omega)]
  exact hb
theorem LQ.tr {σ u w : St} (h : LQ σ u) (h' : LQ u w) : LQ σ w := by
  obtain ⟨a1, a2, a3, a4, a5, a6, a7, a8⟩ := h
  obtain ⟨b1, b2, b3, b4, b5, b6, b7, b8⟩ := h'
  have e := ac_of (a1 4 (by decide) (by decide) (by decide) (by decide))
  rw [e] at b7
  refine ⟨fun k h1 h5 h7 h8 => (b1 k h1 h5 h7 h8).trans (a1 k h1 h5 h7 h8), b2.trans a2, b3, by omega, by omega, fun q => ?_, fun i h1 h2 h3 h4 => ?_, fun q => b8 (a8 q)⟩
  · have q1 := b6 q
    have q2 := a6 q1.1
    exact ⟨q2.1, by omega⟩
  · rw [b7 i h1 h2 h3 (by omega)]
    exact a7 i h1 h2 h3 h4
theorem FP.lq {σ u : St} (h : FP 0 σ) (S : LQ σ u) : FP 0 u := ⟨S.2.2.1, by rw [S.2.1]; exact h.2.1, by decide, by decide, fun q => absurd q (by decide)⟩
set_option maxRecDepth 20000 in
theorem w_1080 : (Cond.methodLink RX12 107 yX12_spells) ∈ TB := inTB (List.mem_of_getElem? (i := 1080) (by decide +kernel)) (by decide +kernel)
set_option maxRecDepth 20000 in
theorem w_1083 : (Cond.code yX12_spells cX12_spells 3 none) ∈ TB := inTB (List.mem_of_getElem? (i := 1083) (by decide +kernel)) (by decide +kernel)
set_option maxRecDepth 20000 in
theorem w_1082 : (Cond.instanceMethod yX12_spells) ∈ TB := inTB (List.mem_of_getElem? (i := 1082) (by decide +kernel)) (by decide +kernel)
set_option maxRecDepth 20000 in
theorem w_40 : (Cond.selects RX12 yX12_spells yX12_spells) ∈ TB := inTB (List.mem_of_getElem? (i := 40) (by decide +kernel)) (by decide +kernel)
theorem cf_X12_spells : CF yX12_spells cX12_spells 3 none 1 := ⟨w_1082, w_40, w_75, w_1083, by decide +kernel, by decide +kernel, by decide +kernel⟩
/-! ThreeMeasuresModel.much -/
theorem dX12_much_0 : decode cX12_much 0 = .ok (.aload_n 0, 1) := by decide +kernel
theorem dX12_much_1 : decode cX12_much 1 = .ok (.aload_n 2, 1) := by decide +kernel
theorem dX12_much_2 : decode cX12_much 2 = .ok (.invokevirtual 107, 3) := by decide +kernel
theorem dX12_much_5 : decode cX12_much 5 = .ok (.aload_n 0, 1) := by decide +kernel
theorem dX12_much_6 : decode cX12_much 6 = .ok (.invokevirtual 101, 3) := by decide +kernel
theorem dX12_much_9 : decode cX12_much 9 = .ok (.istore_n 3, 1) := by decide +kernel
theorem dX12_much_10 : decode cX12_much 10 = .ok (.aload_n 0, 1) := by decide +kernel
theorem dX12_much_11 : decode cX12_much 11 = .ok (.bipush 32, 2) := by decide +kernel
theorem dX12_much_13 : decode cX12_much 13 = .ok (.invokevirtual 74, 3) := by decide +kernel
theorem dX12_much_16 : decode cX12_much 16 = .ok (.aload_n 0, 1) := by decide +kernel
theorem dX12_much_17 : decode cX12_much 17 = .ok (.invokevirtual 90, 3) := by decide +kernel
theorem dX12_much_20 : decode cX12_much 20 = .ok (.aload_n 0, 1) := by decide +kernel
theorem dX12_much_21 : decode cX12_much 21 = .ok (.iload_n 1, 1) := by decide +kernel
theorem dX12_much_22 : decode cX12_much 22 = .ok (.iload_n 3, 1) := by decide +kernel
theorem dX12_much_23 : decode cX12_much 23 = .ok (.isub, 1) := by decide +kernel
theorem dX12_much_24 : decode cX12_much 24 = .ok (.invokevirtual 87, 3) := by decide +kernel
theorem dX12_much_27 : decode cX12_much 27 = .ok (.return_, 1) := by decide +kernel
def f_X12_much (σ : St) (a1 : Int32) (a2 : Nat) : St := (bd1 (f_X12_spells σ a2) (fun u2 => (bd (f_X12_figures u2 ) (fun r6 u6 => (bd1 (f_X12_must u6 (32 : Int32)) (fun u13 => (bd1 (f_X12_some0 u13 ) (fun u17 => (bd1 (f_X12_emits u17 (a1 - r6)) (fun u24 => u24))))))))))
set_option maxHeartbeats 600000 in
set_option maxRecDepth 100000 in
theorem k_X12_much (l : Launch) (g : GG) (aK aV : Nat → Nat)  (σ : St) (a1 : Int32) (a2 : Nat) (hi : a2 < 6) (hP : FP 0 σ) : MV l yX12_much (wsF yX12_much cX12_much 4 none) { frames := 38, cells := 0, slots := 0, locals := 813 } [.ref (g.2.2 100), .int (a1), .ref (aK a2)] g (mW g) (MB aK aV (AM g)) σ (f_X12_much σ a1 a2) := by
  refine start_MV (by decide) (Nat.le_of_ble_eq_true rfl) ?_
  intro p e s m args below meth c C0 hK hB hC ls hl
  generalize hAe : aA ((mW g) σ) = A at hC ⊢
  have hA : ∀ q, A q → AM g q := fun q h => by rw [← hAe] at h; exact h
  obtain ⟨hx, hb, hr, hml, hown, hts, hlocks⟩ := id C0
  have hl : lv_has ls 4 [(0, .ref (g.2.2 100)), (1, .int (a1)), (2, .ref (aK a2))] := hl
  generalize hT : (f_X12_much σ a1 a2) = tgt
  suffices key : ∀ (H : Heap) (locs : List Loc), WC g (mW g) A s.heap σ H locs → W p l e { frames := 38, cells := 0, slots := 0, locals := 813 } s m args below meth c H locs 0 0 (QMV below args s g (mW g) A tgt) (F0 m 0 ls []) from key _ _ hC
  intro H locs hC
  unfold f_X12_much at hT
  refine lv_aload_n hx hb dX12_much_0 rfl (lv_at hl 0 rfl) ?_
  refine lv_aload_n hx hb dX12_much_1 rfl (lv_at hl 2 rfl) ?_
  have q2_hR : RO σ := hP.1
  refine m_mv (rest := []) (As := [.ref (aK a2)]) (σ := σ) C0 hK hC MB.sv (fun _ h1 h2 => hB.to (hC.2.2.mono hA) h1 h2) cf_X12_spells w_1080 rfl (k_X12_spells l g aK aV  σ a2 hi q2_hR) ⟨by decide, by decide⟩ hl.1 rfl rfl (Nat.le_of_ble_eq_true rfl) dX12_much_2 ⟨Nat.zero_le _, Nat.zero_le _⟩ (fun u2 H locs e2 hC => ?_)
  have hT := bd1_e e2 hT
  have S2 : SQ 0 σ u2 := by rw [e2]; exact spells_q 7 0 hP.1
  refine lv_aload_n hx hb dX12_much_5 rfl (lv_at hl 0 rfl) ?_
  have q6_p5 : 0 ≤ (u2 5 0).toInt := S2.ro.1
  have q6_p56 : (u2 5 0).toInt ≤ (u2 6 0).toInt := S2.ro.2.1
  have q6_p6 : (u2 6 0).toInt ≤ 100 := S2.ro.2.2.1
  refine m_mi (rest := []) (As := []) (σ := u2) C0 hK hC SV.tt (fun _ _ _ => trivial) cf_X12_figures w_1090 rfl (k_X12_figures l g u2  q6_p5 q6_p56 q6_p6) ⟨by decide, by decide⟩ hl.1 rfl rfl (Nat.le_of_ble_eq_true rfl) dX12_much_6 ⟨Nat.zero_le _, Nat.zero_le _⟩ (fun r6 u6 H locs e6 hC => ?_)
  have hT := bd_e e6 hT
  have S6 : SQ 1 u2 u6 := by rw [show u6 = _ from congrArg Prod.snd e6]; exact (figures_q S2.ro).1
  refine lv_istore_n (lv' := [(3, .int (r6)), (0, .ref (g.2.2 100)), (1, .int (a1)), (2, .ref (aK a2))]) hx hb dX12_much_9 rfl hl (by decide) rfl (fun ls hl => ?_)
  refine lv_aload_n hx hb dX12_much_10 rfl (lv_at hl 1 rfl) ?_
  refine lv_bipush (v := (32 : Int32)) hx hb dX12_much_11 (by decide) ?_
  have q13_p5 : 0 ≤ (u6 5 0).toInt := S6.ro.1
  have q13_p56 : (u6 5 0).toInt ≤ (u6 6 0).toInt := S6.ro.2.1
  have q13_p6 : (u6 6 0).toInt ≤ 100 := S6.ro.2.2.1
  refine m_mv (rest := []) (As := [.int ((32 : Int32))]) (σ := u6) C0 hK hC SV.tt (fun _ _ _ => trivial) cf_X12_must w_1086 rfl (k_X12_must l g u6 (32 : Int32) q13_p5 q13_p56 q13_p6) ⟨by decide, by decide⟩ hl.1 rfl rfl (Nat.le_of_ble_eq_true rfl) dX12_much_13 ⟨Nat.zero_le _, Nat.zero_le _⟩ (fun u13 H locs e13 hC => ?_)
  have hT := bd1_e e13 hT
  have S13 : SQ 1 u6 u13 := by rw [e13]; exact must_q S6.ro (by decide)
  have S123 := (S2.tr S6).tr S13
  refine lv_aload_n hx hb dX12_much_16 rfl (lv_at hl 1 rfl) ?_
  have q17_hP : FP 0 u13 := hP.sq S123
  refine m_mv (rest := []) (As := []) (σ := u13) C0 hK hC MB.sv (fun _ h1 h2 => hB.to (hC.2.2.mono hA) h1 h2) cf_X12_some w_1100 rfl (k_X12_some0 l g aK aV  u13  q17_hP) ⟨by decide, by decide⟩ hl.1 rfl rfl (Nat.le_of_ble_eq_true rfl) dX12_much_17 ⟨Nat.zero_le _, Nat.zero_le _⟩ (fun u17 H locs e17 hC => ?_)
  have hT := bd1_e e17 hT
  have S17 : SQ 0 u13 u17 := by rw [e17]; exact some0_q _ (hP.sq S123)
  refine lv_aload_n hx hb dX12_much_20 rfl (lv_at hl 1 rfl) ?_
  refine lv_iload_n hx hb dX12_much_21 rfl (lv_at hl 2 rfl) ?_
  refine lv_iload_n hx hb dX12_much_22 rfl (lv_at hl 0 rfl) ?_
  refine lv_isub hx hb dX12_much_23 ?_
  have q24_e4 : 0 ≤ (u17 4 0).toInt := S17.ro.2.2.2.1
  have q24_e4b : (u17 4 0).toInt < 5 := S17.ro.2.2.2.2.1
  have q24_em : 0 ≤ (u17 1 (ix (211 + u17 4 0))).toInt := by rw [ix_ac S17.ro]; exact S17.ro.2.2.2.2.2.1
  have q24_emb : (u17 1 (ix (211 + u17 4 0))).toInt < 140 := by rw [ix_ac S17.ro]; show mn u17 < 140; have := S17.ro; have h1 := this.2.2.2.2.2.2.1; have h2 := this.2.1; have h3 := this.2.2.1; omega
  refine m_mv (rest := []) (As := [.int ((a1 - r6))]) (σ := u17) C0 hK hC SV.tt (fun _ _ _ => trivial) cf_X12_emits w_1112 rfl (k_X12_emits l g u17 (a1 - r6) q24_e4 q24_e4b q24_em q24_emb) ⟨by decide, by decide⟩ hl.1 rfl rfl (Nat.le_of_ble_eq_true rfl) dX12_much_24 ⟨Nat.zero_le _, Nat.zero_le _⟩ (fun u24 H locs e24 hC => ?_)
  have hT := bd1_e e24 hT
  exact ret_MV C0 hC hT dX12_much_27
theorem much_q {σ : St} {a1 : Int32} {a2 : Nat} (hP : FP 0 σ) : SQ 1 σ (f_X12_much σ a1 a2) := by
  unfold f_X12_much
  dsimp only [bd, bd1]
  have S2 : SQ 0 σ (f_X12_spells σ a2) := spells_q 7 0 hP.1
  have S6 := (figures_q S2.ro).1
  have S13 := must_q (c := 32) S6.ro (by decide)
  have S123 := (S2.tr S6).tr S13
  have S17 := some0_q _ (hP.sq S123)
  have S := S123.tr S17
  have hm := S.2.2.2.2.2.1
  have h0 := hP.1.2.2.2.2.2.2.1
  exact (S.tr (emits_q S17.ro (fun q => by have := (hm q).2; omega))).le (by decide)
/-! ThreeMeasuresModel.tellsHere -/
theorem dX12_tellsHere_0 : decode cX12_tellsHere 0 = .ok (.aload_n 0, 1) := by decide +kernel
theorem dX12_tellsHere_1 : decode cX12_tellsHere 1 = .ok (.aload_n 2, 1) := by decide +kernel
theorem dX12_tellsHere_2 : decode cX12_tellsHere 2 = .ok (.invokevirtual 107, 3) := by decide +kernel
theorem dX12_tellsHere_5 : decode cX12_tellsHere 5 = .ok (.aload_n 0, 1) := by decide +kernel
theorem dX12_tellsHere_6 : decode cX12_tellsHere 6 = .ok (.invokevirtual 101, 3) := by decide +kernel
theorem dX12_tellsHere_9 : decode cX12_tellsHere 9 = .ok (.istore_n 3, 1) := by decide +kernel
theorem dX12_tellsHere_10 : decode cX12_tellsHere 10 = .ok (.aload_n 0, 1) := by decide +kernel
theorem dX12_tellsHere_11 : decode cX12_tellsHere 11 = .ok (.getfield 57, 3) := by decide +kernel
theorem dX12_tellsHere_14 : decode cX12_tellsHere 14 = .ok (.ifCond .ne 15, 3) := by decide +kernel
theorem dX12_tellsHere_17 : decode cX12_tellsHere 17 = .ok (.aload_n 0, 1) := by decide +kernel
theorem dX12_tellsHere_18 : decode cX12_tellsHere 18 = .ok (.getfield 9, 3) := by decide +kernel
theorem dX12_tellsHere_21 : decode cX12_tellsHere 21 = .ok (.iload_n 1, 1) := by decide +kernel
theorem dX12_tellsHere_22 : decode cX12_tellsHere 22 = .ok (.aload_n 0, 1) := by decide +kernel
theorem dX12_tellsHere_23 : decode cX12_tellsHere 23 = .ok (.getfield 78, 3) := by decide +kernel
theorem dX12_tellsHere_26 : decode cX12_tellsHere 26 = .ok (.iadd, 1) := by decide +kernel
theorem dX12_tellsHere_27 : decode cX12_tellsHere 27 = .ok (.iload_n 3, 1) := by decide +kernel
theorem dX12_tellsHere_28 : decode cX12_tellsHere 28 = .ok (.iastore, 1) := by decide +kernel
theorem dX12_tellsHere_29 : decode cX12_tellsHere 29 = .ok (.return_, 1) := by decide +kernel
def f_X12_tellsHere (σ : St) (a1 : Int32) (a2 : Nat) : St := (bd1 (f_X12_spells σ a2) (fun u2 => (bd (f_X12_figures u2 ) (fun r6 u6 => (if (u6 7 0) = 0 then (up2 u6 1 (ix (a1 + (u6 4 0))) r6) else u6)))))
set_option maxHeartbeats 600000 in
set_option maxRecDepth 100000 in
theorem k_X12_tellsHere (l : Launch) (g : GG) (aK aV : Nat → Nat)  (σ : St) (a1 : Int32) (a2 : Nat) (hi : a2 < 6) (hP : FP 0 σ) (hw1 : a1 = 201 ∨ a1 = 206) : MV l yX12_tellsHere (wsF yX12_tellsHere cX12_tellsHere 4 none) { frames := 5, cells := 0, slots := 0, locals := 107 } [.ref (g.2.2 100), .int (a1), .ref (aK a2)] g (mW g) (MB aK aV (AM g)) σ (f_X12_tellsHere σ a1 a2) := by
  refine start_MV (by decide) (Nat.le_of_ble_eq_true rfl) ?_
  intro p e s m args below meth c C0 hK hB hC ls hl
  generalize hAe : aA ((mW g) σ) = A at hC ⊢
  have hA : ∀ q, A q → AM g q := fun q h => by rw [← hAe] at h; exact h
  obtain ⟨hx, hb, hr, hml, hown, hts, hlocks⟩ := id C0
  have hl : lv_has ls 4 [(0, .ref (g.2.2 100)), (1, .int (a1)), (2, .ref (aK a2))] := hl
  generalize hT : (f_X12_tellsHere σ a1 a2) = tgt
  suffices key : ∀ (H : Heap) (locs : List Loc), WC g (mW g) A s.heap σ H locs → W p l e { frames := 5, cells := 0, slots := 0, locals := 107 } s m args below meth c H locs 0 0 (QMV below args s g (mW g) A tgt) (F0 m 0 ls []) from key _ _ hC
  intro H locs hC
  unfold f_X12_tellsHere at hT
  refine lv_aload_n hx hb dX12_tellsHere_0 rfl (lv_at hl 0 rfl) ?_
  refine lv_aload_n hx hb dX12_tellsHere_1 rfl (lv_at hl 2 rfl) ?_
  have q2_hR : RO σ := hP.1
  refine m_mv (rest := []) (As := [.ref (aK a2)]) (σ := σ) C0 hK hC MB.sv (fun _ h1 h2 => hB.to (hC.2.2.mono hA) h1 h2) cf_X12_spells w_1080 rfl (k_X12_spells l g aK aV  σ a2 hi q2_hR) ⟨by decide, by decide⟩ hl.1 rfl rfl (Nat.le_of_ble_eq_true rfl) dX12_tellsHere_2 ⟨Nat.zero_le _, Nat.zero_le _⟩ (fun u2 H locs e2 hC => ?_)
  have hT := bd1_e e2 hT
  have S2 : SQ 0 σ u2 := by rw [e2]; exact spells_q 7 0 hP.1
  refine lv_aload_n hx hb dX12_tellsHere_5 rfl (lv_at hl 0 rfl) ?_
  have q6_p5 : 0 ≤ (u2 5 0).toInt := S2.ro.1
  have q6_p56 : (u2 5 0).toInt ≤ (u2 6 0).toInt := S2.ro.2.1
  have q6_p6 : (u2 6 0).toInt ≤ 100 := S2.ro.2.2.1
  refine m_mi (rest := []) (As := []) (σ := u2) C0 hK hC SV.tt (fun _ _ _ => trivial) cf_X12_figures w_1090 rfl (k_X12_figures l g u2  q6_p5 q6_p56 q6_p6) ⟨by decide, by decide⟩ hl.1 rfl rfl (Nat.le_of_ble_eq_true rfl) dX12_tellsHere_6 ⟨Nat.zero_le _, Nat.zero_le _⟩ (fun r6 u6 H locs e6 hC => ?_)
  have hT := bd_e e6 hT
  have S6 : SQ 1 u2 u6 := by rw [show u6 = _ from congrArg Prod.snd e6]; exact (figures_q S2.ro).1
  refine lv_istore_n (lv' := [(3, .int (r6)), (0, .ref (g.2.2 100)), (1, .int (a1)), (2, .ref (aK a2))]) hx hb dX12_tellsHere_9 rfl hl (by decide) rfl (fun ls hl => ?_)
  refine lv_aload_n hx hb dX12_tellsHere_10 rfl (lv_at hl 1 rfl) ?_
  refine m_get (σ := u6) (v := .int ((u6 7 0))) C0 hK hC.1 7 (by decide) rfl w_974 dX12_tellsHere_11 ?_
  refine lv_if_ne (tgt := 29) hx hb dX12_tellsHere_14 (by decide) (fun c_14 => ?_) (fun c_14 => ?_)
  · have hT := hT_neg c_14 hT
    exact ret_MV C0 hC hT dX12_tellsHere_29
  · have hT := hT_pos c_14 hT
    refine lv_aload_n hx hb dX12_tellsHere_17 rfl (lv_at hl 1 rfl) ?_
    refine m_get (σ := u6) (v := .ref (g.2.2 1)) C0 hK hC.1 1 (by decide) rfl w_968 dX12_tellsHere_18 ?_
    refine lv_iload_n hx hb dX12_tellsHere_21 rfl (lv_at hl 2 rfl) ?_
    refine lv_aload_n hx hb dX12_tellsHere_22 rfl (lv_at hl 1 rfl) ?_
    refine m_get (σ := u6) (v := .int ((u6 4 0))) C0 hK hC.1 4 (by decide) rfl w_971 dX12_tellsHere_23 ?_
    refine lv_iadd hx hb dX12_tellsHere_26 ?_
    refine lv_iload_n hx hb dX12_tellsHere_27 rfl (lv_at hl 0 rfl) ?_
    have o_28 : vp_in (a1 + (u6 4 0)) 916 := (tell_ix S6.ro hw1).1
    refine m_ast (σ := u6) C0 hK hC 1 1 916 rfl (ms_1 g _) o_28 (ix (a1 + (u6 4 0))) rfl dX12_tellsHere_28 (fun H locs hC => ?_)
    exact ret_MV C0 hC hT dX12_tellsHere_29
theorem tell_q {σ : St} {a1 : Int32} {a2 : Nat} (hP : FP 0 σ) (ha : a1 = 201 ∨ a1 = 206) : LQ σ (f_X12_tellsHere σ a1 a2) := by
  unfold f_X12_tellsHere
  dsimp only [bd, bd1]
  have S2 : SQ 0 σ (f_X12_spells σ a2) := spells_q 7 0 hP.1
  obtain ⟨S6, v1, v2⟩ := figures_q S2.ro
  have S := (S2.tr S6).le (k := 1) (by decide)
  have L := S.lq hP.1
  generalize f_X12_figures (f_X12_spells σ a2) = q at S6 v1 v2 S L ⊢
  by_cases c : q.2 7 0 = 0
  · rw [if_pos c]
    obtain ⟨t1, t2, t3⟩ := tell_ix S.ro ha
    have e := ac_of (S.1 4 (by decide) (by decide) (by decide) (by decide))
    have ha4 := S.ro.2.2.2.2.1
    have hac : ((ac q.2 : Nat) : Int) = (q.2 4 0).toInt := Int.toNat_of_nonneg S.ro.2.2.2.1
    generalize hJ : ix (a1 + q.2 4 0) = J at t2 t3 ⊢
    have hJ2 : J = 201 + ac q.2 ∨ J = 206 + ac q.2 := by
      rcases ha with w | w
      · exact Or.inl (t2 w)
      · exact Or.inr (t3 w)
    have k1 : ∀ i, (up2 q.2 1 J q.1) 1 i = if i = J then q.1 else q.2 1 i := fun i => Eq.refl _
    have km : mn (up2 q.2 1 J q.1) = mn q.2 := by
      show ((up2 q.2 1 J q.1) 1 (211 + ac q.2)).toInt = _
      rw [k1, if_neg (by omega)]
    obtain ⟨a1, a2, a3, a4, a5, a6, a7, a8⟩ := L
    obtain ⟨b1, b2, b3, b4, b5, b6, b7, b8⟩ := a3
    refine ⟨fun k h1 h5 h7 h8 => ?_, a2, ⟨b1, b2, b3, b4, b5, by rw [km]; exact b6, by rw [km]; exact b7, b8⟩, a4, by rw [km]; exact a5, a6, fun i h1 h2 h3 h4 => ?_, fun hb => ?_⟩
    · show (if k = 1 then _ else q.2 k) = σ k
      rw [if_neg h1]
      exact a1 k h1 h5 h7 h8
    · rw [k1, if_neg (by omega)]
      exact a7 i h1 h2 h3 h4
    · have hb := a8 hb
      show 0 ≤ ((up2 q.2 1 J q.1) 1 (201 + ac q.2)).toInt ∧ ((up2 q.2 1 J q.1) 1 (201 + ac q.2)).toInt ≤ 99 ∧ 0 ≤ ((up2 q.2 1 J q.1) 1 (206 + ac q.2)).toInt ∧ ((up2 q.2 1 J q.1) 1 (206 + ac q.2)).toInt ≤ 99
      rw [k1, k1]
      obtain ⟨c1, c2, c3, c4⟩ := hb
      rcases hJ2 with w | w
      · rw [if_pos w.symm, if_neg (by omega)]
        exact ⟨v1, v2, c3, c4⟩
      · rw [if_neg (by omega), if_pos w.symm]
        exact ⟨c1, c2, v1, v2⟩
  · rw [if_neg c]
    exact L
set_option maxRecDepth 20000 in
theorem w_1076 : (Cond.methodLink RX12 113 yX12_tellsHere) ∈ TB := inTB (List.mem_of_getElem? (i := 1076) (by decide +kernel)) (by decide +kernel)
set_option maxRecDepth 20000 in
theorem w_1079 : (Cond.code yX12_tellsHere cX12_tellsHere 4 none) ∈ TB := inTB (List.mem_of_getElem? (i := 1079) (by decide +kernel)) (by decide +kernel)
set_option maxRecDepth 20000 in
theorem w_1078 : (Cond.instanceMethod yX12_tellsHere) ∈ TB := inTB (List.mem_of_getElem? (i := 1078) (by decide +kernel)) (by decide +kernel)
set_option maxRecDepth 20000 in
theorem w_39 : (Cond.selects RX12 yX12_tellsHere yX12_tellsHere) ∈ TB := inTB (List.mem_of_getElem? (i := 39) (by decide +kernel)) (by decide +kernel)
theorem cf_X12_tellsHere : CF yX12_tellsHere cX12_tellsHere 4 none 2 := ⟨w_1078, w_39, w_75, w_1079, by decide +kernel, by decide +kernel, by decide +kernel⟩
set_option maxRecDepth 20000 in
theorem w_1096 : (Cond.methodLink RX12 121 yX12_much) ∈ TB := inTB (List.mem_of_getElem? (i := 1096) (by decide +kernel)) (by decide +kernel)
set_option maxRecDepth 20000 in
theorem w_1099 : (Cond.code yX12_much cX12_much 4 none) ∈ TB := inTB (List.mem_of_getElem? (i := 1099) (by decide +kernel)) (by decide +kernel)
set_option maxRecDepth 20000 in
theorem w_1098 : (Cond.instanceMethod yX12_much) ∈ TB := inTB (List.mem_of_getElem? (i := 1098) (by decide +kernel)) (by decide +kernel)
set_option maxRecDepth 20000 in
theorem w_43 : (Cond.selects RX12 yX12_much yX12_much) ∈ TB := inTB (List.mem_of_getElem? (i := 43) (by decide +kernel)) (by decide +kernel)
theorem cf_X12_much : CF yX12_much cX12_much 4 none 2 := ⟨w_1098, w_43, w_75, w_1099, by decide +kernel, by decide +kernel, by decide +kernel⟩
/-! ThreeMeasuresModel.clauseHere -/
theorem dX12_clauseHere_0 : decode cX12_clauseHere 0 = .ok (.aload_n 0, 1) := by decide +kernel
theorem dX12_clauseHere_1 : decode cX12_clauseHere 1 = .ok (.invokevirtual 61, 3) := by decide +kernel
theorem dX12_clauseHere_4 : decode cX12_clauseHere 4 = .ok (.lookupswitch 91 #[(98, 44), (111, 68), (115, 56), (119, 79)], 44) := by decide +kernel
theorem dX12_clauseHere_48 : decode cX12_clauseHere 48 = .ok (.aload_n 0, 1) := by decide +kernel
theorem dX12_clauseHere_49 : decode cX12_clauseHere 49 = .ok (.sipush 201, 3) := by decide +kernel
theorem dX12_clauseHere_52 : decode cX12_clauseHere 52 = .ok (.ldc 111, 2) := by decide +kernel
theorem dX12_clauseHere_54 : decode cX12_clauseHere 54 = .ok (.invokevirtual 113, 3) := by decide +kernel
theorem dX12_clauseHere_57 : decode cX12_clauseHere 57 = .ok (.goto 43, 3) := by decide +kernel
theorem dX12_clauseHere_60 : decode cX12_clauseHere 60 = .ok (.aload_n 0, 1) := by decide +kernel
theorem dX12_clauseHere_61 : decode cX12_clauseHere 61 = .ok (.sipush 206, 3) := by decide +kernel
theorem dX12_clauseHere_64 : decode cX12_clauseHere 64 = .ok (.ldc 117, 2) := by decide +kernel
theorem dX12_clauseHere_66 : decode cX12_clauseHere 66 = .ok (.invokevirtual 113, 3) := by decide +kernel
theorem dX12_clauseHere_69 : decode cX12_clauseHere 69 = .ok (.goto 31, 3) := by decide +kernel
theorem dX12_clauseHere_72 : decode cX12_clauseHere 72 = .ok (.aload_n 0, 1) := by decide +kernel
theorem dX12_clauseHere_73 : decode cX12_clauseHere 73 = .ok (.bipush (-10), 2) := by decide +kernel
theorem dX12_clauseHere_75 : decode cX12_clauseHere 75 = .ok (.ldc 119, 2) := by decide +kernel
theorem dX12_clauseHere_77 : decode cX12_clauseHere 77 = .ok (.invokevirtual 121, 3) := by decide +kernel
theorem dX12_clauseHere_80 : decode cX12_clauseHere 80 = .ok (.goto 20, 3) := by decide +kernel
theorem dX12_clauseHere_83 : decode cX12_clauseHere 83 = .ok (.aload_n 0, 1) := by decide +kernel
theorem dX12_clauseHere_84 : decode cX12_clauseHere 84 = .ok (.sipush (-200), 3) := by decide +kernel
theorem dX12_clauseHere_87 : decode cX12_clauseHere 87 = .ok (.ldc 124, 2) := by decide +kernel
theorem dX12_clauseHere_89 : decode cX12_clauseHere 89 = .ok (.invokevirtual 121, 3) := by decide +kernel
theorem dX12_clauseHere_92 : decode cX12_clauseHere 92 = .ok (.goto 8, 3) := by decide +kernel
theorem dX12_clauseHere_95 : decode cX12_clauseHere 95 = .ok (.aload_n 0, 1) := by decide +kernel
theorem dX12_clauseHere_96 : decode cX12_clauseHere 96 = .ok (.iconst 1, 1) := by decide +kernel
theorem dX12_clauseHere_97 : decode cX12_clauseHere 97 = .ok (.putfield 57, 3) := by decide +kernel
theorem dX12_clauseHere_100 : decode cX12_clauseHere 100 = .ok (.return_, 1) := by decide +kernel
def f_X12_clauseHere (σ : St) : St := (if (f_X12_here σ ) = (98 : Int32) then (bd1 (f_X12_tellsHere σ (201 : Int32) 2) (fun u54 => u54)) else (if (f_X12_here σ ) = (111 : Int32) then (bd1 (f_X12_much σ (-10 : Int32) 4) (fun u77 => u77)) else (if (f_X12_here σ ) = (115 : Int32) then (bd1 (f_X12_tellsHere σ (206 : Int32) 3) (fun u66 => u66)) else (if (f_X12_here σ ) = (119 : Int32) then (bd1 (f_X12_much σ (-200 : Int32) 5) (fun u89 => u89)) else (up2 σ 7 0 (1 : Int32))))))
set_option maxHeartbeats 600000 in
set_option maxRecDepth 100000 in
theorem k_X12_clauseHere (l : Launch) (g : GG) (aK aV : Nat → Nat)  (σ : St) (hP : FP 0 σ) : MV l yX12_clauseHere (wsF yX12_clauseHere cX12_clauseHere 1 none) { frames := 39, cells := 0, slots := 0, locals := 836 } [.ref (g.2.2 100)] g (mW g) (MB aK aV (AM g)) σ (f_X12_clauseHere σ) := by
  refine start_MV (by decide) (Nat.le_of_ble_eq_true rfl) ?_
  intro p e s m args below meth c C0 hK hB hC ls hl
  generalize hAe : aA ((mW g) σ) = A at hC ⊢
  have hA : ∀ q, A q → AM g q := fun q h => by rw [← hAe] at h; exact h
  obtain ⟨hx, hb, hr, hml, hown, hts, hlocks⟩ := id C0
  have hl : lv_has ls 1 [(0, .ref (g.2.2 100))] := hl
  generalize hT : (f_X12_clauseHere σ) = tgt
  suffices key : ∀ (H : Heap) (locs : List Loc), WC g (mW g) A s.heap σ H locs → W p l e { frames := 39, cells := 0, slots := 0, locals := 836 } s m args below meth c H locs 0 0 (QMV below args s g (mW g) A tgt) (F0 m 0 ls []) from key _ _ hC
  intro H locs hC
  unfold f_X12_clauseHere at hT
  obtain ⟨p5, p56, p6, e4, e4b, em, emb, hw⟩ := id hP.1
  refine lv_aload_n hx hb dX12_clauseHere_0 rfl (lv_at hl 0 rfl) ?_
  have q1_p5 : 0 ≤ (σ 5 0).toInt := by
    omega
  have q1_p56 : (σ 5 0).toInt ≤ (σ 6 0).toInt := by
    omega
  have q1_p6 : (σ 6 0).toInt ≤ 100 := by
    omega
  refine m_ci (rest := []) (As := []) (σ := σ) C0 hK hC.1 (hC.2.1.weaken (fun _ _ _ _ => trivial)) SV.tt (fun _ _ _ => trivial) cf_X12_here w_1071 rfl (k_X12_here l g σ  q1_p5 q1_p56 q1_p6) ⟨by decide, by decide⟩ hl.1 rfl rfl (Nat.le_of_ble_eq_true rfl) dX12_clauseHere_1 ⟨Nat.zero_le _, Nat.zero_le _⟩ ?_
  by_cases c_4_98 : (f_X12_here σ ) = (98 : Int32)
  · have hT := hT_pos c_4_98 hT
    refine lv_lookup (tgt := 48) (off := 44) hx hb dX12_clauseHere_4 (by decide) (by rw [c_4_98]; decide) (by decide) ?_
    refine lv_aload_n hx hb dX12_clauseHere_48 rfl (lv_at hl 0 rfl) ?_
    refine lv_sipush (v := (201 : Int32)) hx hb dX12_clauseHere_49 (by decide) ?_
    refine va_ldcS hx hb hown hB.2.2.2.1 dX12_clauseHere_52 ?_
    have q54_hi : 2 < 6 := by
      have : ((98 : Int32)).toInt = 98 := by decide
      have : ((201 : Int32)).toInt = 201 := by decide
      have := ti_eq.mp c_4_98
      omega
    have q54_hw1 : (201 : Int32) = 201 ∨ (201 : Int32) = 206 := Or.inl rfl
    refine m_mv (rest := []) (As := [.int ((201 : Int32)), .ref (aK 2)]) (σ := σ) C0 hK hC MB.sv (fun _ h1 h2 => hB.to (hC.2.2.mono hA) h1 h2) cf_X12_tellsHere w_1076 rfl (k_X12_tellsHere l g aK aV  σ (201 : Int32) 2 q54_hi hP q54_hw1) ⟨by decide, by decide⟩ hl.1 rfl rfl (Nat.le_of_ble_eq_true rfl) dX12_clauseHere_54 ⟨Nat.zero_le _, Nat.zero_le _⟩ (fun u54 H locs e54 hC => ?_)
    have hT := bd1_e e54 hT
    refine lv_goto (tgt := 100) hx hb dX12_clauseHere_57 (by decide) ?_
    exact ret_MV C0 hC hT dX12_clauseHere_100
  have hT := hT_neg c_4_98 hT
  by_cases c_4_111 : (f_X12_here σ ) = (111 : Int32)
  · have hT := hT_pos c_4_111 hT
    refine lv_lookup (tgt := 72) (off := 68) hx hb dX12_clauseHere_4 (by decide) (by rw [c_4_111]; decide) (by decide) ?_
    refine lv_aload_n hx hb dX12_clauseHere_72 rfl (lv_at hl 0 rfl) ?_
    refine lv_bipush (v := (-10 : Int32)) hx hb dX12_clauseHere_73 (by decide) ?_
    refine va_ldcS hx hb hown hB.2.2.2.2.2.1 dX12_clauseHere_75 ?_
    have q77_hi : 4 < 6 := by
      have : ((111 : Int32)).toInt = 111 := by decide
      have : ((-10 : Int32)).toInt = -10 := by decide
      have := ti_eq.mp c_4_111
      omega
    refine m_mv (rest := []) (As := [.int ((-10 : Int32)), .ref (aK 4)]) (σ := σ) C0 hK hC MB.sv (fun _ h1 h2 => hB.to (hC.2.2.mono hA) h1 h2) cf_X12_much w_1096 rfl (k_X12_much l g aK aV  σ (-10 : Int32) 4 q77_hi hP) ⟨by decide, by decide⟩ hl.1 rfl rfl (Nat.le_of_ble_eq_true rfl) dX12_clauseHere_77 ⟨Nat.zero_le _, Nat.zero_le _⟩ (fun u77 H locs e77 hC => ?_)
    have hT := bd1_e e77 hT
    refine lv_goto (tgt := 100) hx hb dX12_clauseHere_80 (by decide) ?_
    exact ret_MV C0 hC hT dX12_clauseHere_100
  have hT := hT_neg c_4_111 hT
  by_cases c_4_115 : (f_X12_here σ ) = (115 : Int32)
  · have hT := hT_pos c_4_115 hT
    refine lv_lookup (tgt := 60) (off := 56) hx hb dX12_clauseHere_4 (by decide) (by rw [c_4_115]; decide) (by decide) ?_
    refine lv_aload_n hx hb dX12_clauseHere_60 rfl (lv_at hl 0 rfl) ?_
    refine lv_sipush (v := (206 : Int32)) hx hb dX12_clauseHere_61 (by decide) ?_
    refine va_ldcS hx hb hown hB.2.2.2.2.1 dX12_clauseHere_64 ?_
    have q66_hi : 3 < 6 := by
      have : ((115 : Int32)).toInt = 115 := by decide
      have : ((206 : Int32)).toInt = 206 := by decide
      have := ti_eq.mp c_4_115
      omega
    have q66_hw1 : (206 : Int32) = 201 ∨ (206 : Int32) = 206 := Or.inr rfl
    refine m_mv (rest := []) (As := [.int ((206 : Int32)), .ref (aK 3)]) (σ := σ) C0 hK hC MB.sv (fun _ h1 h2 => hB.to (hC.2.2.mono hA) h1 h2) cf_X12_tellsHere w_1076 rfl (k_X12_tellsHere l g aK aV  σ (206 : Int32) 3 q66_hi hP q66_hw1) ⟨by decide, by decide⟩ hl.1 rfl rfl (Nat.le_of_ble_eq_true rfl) dX12_clauseHere_66 ⟨Nat.zero_le _, Nat.zero_le _⟩ (fun u66 H locs e66 hC => ?_)
    have hT := bd1_e e66 hT
    refine lv_goto (tgt := 100) hx hb dX12_clauseHere_69 (by decide) ?_
    exact ret_MV C0 hC hT dX12_clauseHere_100
  have hT := hT_neg c_4_115 hT
  by_cases c_4_119 : (f_X12_here σ ) = (119 : Int32)
  · have hT := hT_pos c_4_119 hT
    refine lv_lookup (tgt := 83) (off := 79) hx hb dX12_clauseHere_4 (by decide) (by rw [c_4_119]; decide) (by decide) ?_
    refine lv_aload_n hx hb dX12_clauseHere_83 rfl (lv_at hl 0 rfl) ?_
    refine lv_sipush (v := (-200 : Int32)) hx hb dX12_clauseHere_84 (by decide) ?_
    refine va_ldcS hx hb hown hB.2.2.2.2.2.2 dX12_clauseHere_87 ?_
    have q89_hi : 5 < 6 := by
      have : ((119 : Int32)).toInt = 119 := by decide
      have : ((-200 : Int32)).toInt = -200 := by decide
      have := ti_eq.mp c_4_119
      omega
    refine m_mv (rest := []) (As := [.int ((-200 : Int32)), .ref (aK 5)]) (σ := σ) C0 hK hC MB.sv (fun _ h1 h2 => hB.to (hC.2.2.mono hA) h1 h2) cf_X12_much w_1096 rfl (k_X12_much l g aK aV  σ (-200 : Int32) 5 q89_hi hP) ⟨by decide, by decide⟩ hl.1 rfl rfl (Nat.le_of_ble_eq_true rfl) dX12_clauseHere_89 ⟨Nat.zero_le _, Nat.zero_le _⟩ (fun u89 H locs e89 hC => ?_)
    have hT := bd1_e e89 hT
    refine lv_goto (tgt := 100) hx hb dX12_clauseHere_92 (by decide) ?_
    exact ret_MV C0 hC hT dX12_clauseHere_100
  have hT := hT_neg c_4_119 hT
  refine lv_lookup (tgt := 95) (off := 91) hx hb dX12_clauseHere_4 (by decide) ((lv_osw c_4_98 (by decide)).trans ((lv_osw c_4_111 (by decide)).trans ((lv_osw c_4_115 (by decide)).trans ((lv_osw c_4_119 (by decide)).trans rfl)))) (by decide) ?_
  refine lv_aload_n hx hb dX12_clauseHere_95 rfl (lv_at hl 0 rfl) ?_
  refine lv_iconst (v := (1 : Int32)) hx hb dX12_clauseHere_96 (by decide) ?_
  refine m_put (σ := σ) (ty := .boolean) C0 hK hC 7 (by decide) rfl rfl (nz_of (Or.inr rfl)) (nf_of (Or.inr rfl)) (ms_7 g _ _) w_974 dX12_clauseHere_97 (fun H locs hC => ?_)
  exact ret_MV C0 hC hT dX12_clauseHere_100
theorem clause_q {σ : St} (hP : FP 0 σ) : LQ σ (f_X12_clauseHere σ) := by
  unfold f_X12_clauseHere
  dsimp only [bd1]
  (repeat' split)
  · exact tell_q hP (Or.inl (Eq.refl _))
  · exact much_q hP |>.lq hP.1
  · exact tell_q hP (Or.inr (Eq.refl _))
  · exact much_q hP |>.lq hP.1
  · have S := wr_q hP.1 (W := 1) (Or.inr (Eq.refl _)) (fun q => absurd q (by decide))
    have S : SQ 1 σ (up2 σ 7 0 1) := ⟨S.1, S.2.1, S.2.2.1, S.2.2.2.1, S.2.2.2.2.1, fun q => absurd q (show ¬ (1 : Int32) = 0 by decide), S.2.2.2.2.2.2⟩
    exact S.lq hP.1
