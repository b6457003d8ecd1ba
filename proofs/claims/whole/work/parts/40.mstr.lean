
theorem up2_id {σ : St} {k j : Nat} {v : Int32} (h : v = σ k j) : up2 σ k j v = σ := by
  subst h
  funext a b
  show (if a = k then upd (σ k) j (σ k j) else σ a) b = σ a b
  split
  · rename_i e
    subst e
    show (if b = j then σ a j else σ a b) = σ a b
    split
    · rename_i e
      rw [e]
    · exact Eq.refl _
  · exact Eq.refl _

/-! THE MODEL READS: what is said of strings beside its world -/
def AM (g : GG) : Nat → Prop := aA (mW g (fun _ _ => 0))
def MB (aK aV : Nat → Nat) (A : Nat → Prop) : State → Prop := fun U => ZB aK aV A U ∧ vk_R RX12 93 "skvlnw" (aK 0) U ∧ vk_R RX12 99 "<=>" (aK 1) U ∧ vk_R RX12 111 "board " (aK 2) U ∧ vk_R RX12 117 "step " (aK 3) U ∧ vk_R RX12 119 "off " (aK 4) U ∧ vk_R RX12 124 "wear " (aK 5) U
theorem MB.sv {aK aV : Nat → Nat} {A : Nat → Prop} : SV (MB aK aV A) := fun U U' hh hv ⟨h, h0, h1, h2, h3, h4, h5⟩ => ⟨ZB.sv U U' hh hv h, h0.same hv.symm, h1.same hv.symm, h2.same hv.symm, h3.same hv.symm, h4.same hv.symm, h5.same hv.symm⟩
theorem MB.to {aK aV : Nat → Nat} {A : Nat → Prop} {s U : State} {H : Heap} {locs : List Loc} (h : MB aK aV A s) (hS : va_S A s.heap H locs) (hU : U.heap = H) (hW : s.WarmedH U.vm) : MB aK aV A U := by
  obtain ⟨h, h0, h1, h2, h3, h4, h5⟩ := h
  exact ⟨h.to hS hU hW, h0.warm hW, h1.warm hW, h2.warm hW, h3.warm hW, h4.warm hW, h5.warm hW⟩
theorem jch_b (i : Nat) (k : Int32) : 0 ≤ (f_J0_charAt_5068e i k).toInt ∧ (f_J0_charAt_5068e i k).toInt ≤ 255 := by
  rw [jch_e]
  rw [pk_and _ 8 (by decide)]
  have h : ((bytS.getD i []).getD (ix k) 0).toBitVec.toNat % 2 ^ 8 < 256 := Nat.mod_lt _ (by decide)
  rw [nI_toInt (by omega)]
  omega
/-- how far the reading is -/
abbrev ac (σ : St) : Nat := (σ 4 0).toInt.toNat
abbrev mn (σ : St) : Int := (σ 1 (211 + ac σ)).toInt
def RO (σ : St) : Prop := 0 ≤ (σ 5 0).toInt ∧ (σ 5 0).toInt ≤ (σ 6 0).toInt ∧ (σ 6 0).toInt ≤ 100 ∧ 0 ≤ (σ 4 0).toInt ∧ (σ 4 0).toInt < 5 ∧ 0 ≤ mn σ ∧ mn σ ≤ (σ 5 0).toInt ∧ (σ 7 0 = 0 ∨ σ 7 0 = 1)
def SQ (j : Int) (σ u : St) : Prop := (∀ k, k ≠ 1 → k ≠ 5 → k ≠ 7 → k ≠ 8 → u k = σ k) ∧ u 8 0 = σ 8 0 ∧ RO u ∧ (σ 5 0).toInt ≤ (u 5 0).toInt ∧ mn σ ≤ mn u ∧ (u 7 0 = 0 → σ 7 0 = 0 ∧ (σ 5 0).toInt - mn σ + j ≤ (u 5 0).toInt - mn u) ∧ ∀ i, i ≠ 211 + ac σ → ((i : Int) < 216 + 140 * ac σ + mn σ ∨ 216 + 140 * ac σ + 140 ≤ i) → u 1 i = σ 1 i
theorem SQ.ro {j : Int} {σ u : St} (h : SQ j σ u) : RO u := h.2.2.1
theorem SQ.rfl {σ : St} (h : RO σ) : SQ 0 σ σ := ⟨fun _ _ _ _ _ => Eq.refl _, Eq.refl _, h, Int.le_refl _, Int.le_refl _, fun e => ⟨e, by omega⟩, fun _ _ _ => Eq.refl _⟩
theorem SQ.tr {j k : Int} {σ u w : St} (h : SQ j σ u) (h' : SQ k u w) : SQ (j + k) σ w := by
  obtain ⟨a1, a2, a3, a4, a5, a6, a7⟩ := h
  obtain ⟨b1, b2, b3, b4, b5, b6, b7⟩ := h'
  have e4 : ac u = ac σ := by unfold ac; rw [a1 4 (by decide) (by decide) (by decide) (by decide)]
  refine ⟨fun k h1 h5 h7 h8 => (b1 k h1 h5 h7 h8).trans (a1 k h1 h5 h7 h8), b2.trans a2, b3, by omega, by omega, fun e => ?_, fun i hi h => ?_⟩
  · obtain ⟨c1, c2⟩ := b6 e
    obtain ⟨d1, d2⟩ := a6 c1
    exact ⟨d1, by omega⟩
  · rw [b7 i (by rw [e4]; exact hi) (by rw [e4]; omega)]
    exact a7 i hi h
theorem SQ.le {j k : Int} {σ u : St} (h : SQ j σ u) (hk : k ≤ j) : SQ k σ u := by
  obtain ⟨a1, a2, a3, a4, a5, a6, a7⟩ := h
  exact ⟨a1, a2, a3, a4, a5, fun e => ⟨(a6 e).1, by have := (a6 e).2; omega⟩, a7⟩
theorem RO.w {σ : St} (h : RO σ) {W : Int32} (hw : W = 0 ∨ W = 1) : RO (up2 σ 7 0 W) := ⟨h.1, h.2.1, h.2.2.1, h.2.2.2.1, h.2.2.2.2.1, h.2.2.2.2.2.1, h.2.2.2.2.2.2.1, hw⟩
/-- the sign that is here is taken -/
theorem spot_q {σ : St} (h : RO σ) (hh : 0 ≤ (f_X12_here σ).toInt) : SQ 1 σ (up2 σ 5 0 (σ 5 0 + 1)) := by
  have q := he_lt hh
  obtain ⟨p5, p56, p6, e4, e4b, em, emb, hw⟩ := h
  have e1 : (1 : Int32).toInt = 1 := Eq.refl _
  have q5 := ti_add (a := σ 5 0) (b := 1) (by omega) (by omega)
  have k5 : (up2 σ 5 0 (σ 5 0 + 1)) 5 0 = σ 5 0 + 1 := Eq.refl _
  refine ⟨fun k h1 h5 h7 h8 => if_neg h5, Eq.refl _, ⟨by rw [k5]; omega, by rw [k5]; show _ ≤ (σ 6 0).toInt; omega, p6, e4, e4b, em, by rw [k5]; show mn σ ≤ _; omega, hw⟩, by rw [k5]; omega, Int.le_refl _, fun e => ⟨e, ?_⟩, fun i _ _ => Eq.refl _⟩
  rw [k5]
  show _ ≤ _ - mn σ
  omega
theorem wr_q {σ : St} (h : RO σ) {W : Int32} (hw : W = 0 ∨ W = 1) (hs : W = 0 → σ 7 0 = 0) : SQ 0 σ (up2 σ 7 0 W) :=
  ⟨fun k h1 h5 h7 h8 => if_neg h7, Eq.refl _, h.w hw, Int.le_refl _, Int.le_refl _, fun e => ⟨hs e, by show _ ≤ (σ 5 0).toInt - mn σ; omega⟩, fun i _ _ => Eq.refl _⟩
theorem must_q {σ : St} (h : RO σ) {c : Int32} (hc : 0 ≤ c.toInt) : SQ 1 σ (f_X12_must σ c) := by
  unfold f_X12_must
  have e0 : σ 5 0 + 0 = σ 5 0 := Int32.add_zero _
  by_cases w : σ 7 0 = 0
  · rw [if_pos w]
    by_cases e : f_X12_here σ = c
    · rw [if_pos e, if_pos (Eq.refl _)]
      have S := wr_q h (W := 0) (Or.inl (Eq.refl _)) (fun _ => w)
      have T := spot_q (σ := up2 σ 7 0 0) S.ro (by show 0 ≤ (f_X12_here σ).toInt; rw [e]; exact hc)
      exact (S.tr T).le (by decide)
    · rw [if_neg e, if_neg (by decide), e0]
      have S := wr_q h (W := 1) (Or.inr (Eq.refl _)) (fun q => absurd q (by decide))
      have e5 : up2 (up2 σ 7 0 1) 5 0 (σ 5 0) = up2 σ 7 0 1 := up2_id (Eq.refl _)
      rw [e5]
      exact ⟨S.1, S.2.1, S.2.2.1, S.2.2.2.1, S.2.2.2.2.1, fun q => absurd q (show ¬ (1 : Int32) = 0 by decide), S.2.2.2.2.2.2⟩
  · rw [if_neg w, if_neg (by decide), e0]
    have S := wr_q h (W := 1) (Or.inr (Eq.refl _)) (fun q => absurd q (by decide))
    have e5 : up2 (up2 σ 7 0 1) 5 0 (σ 5 0) = up2 σ 7 0 1 := up2_id (Eq.refl _)
    rw [e5]
    exact ⟨S.1, S.2.1, S.2.2.1, S.2.2.2.1, S.2.2.2.2.1, fun q => absurd q (show ¬ (1 : Int32) = 0 by decide), S.2.2.2.2.2.2⟩
set_option maxRecDepth 20000 in
theorem w_1084 : (Cond.methodLink RX12 65 yJ0_length_8abf5) ∈ TB := inTB (List.mem_of_getElem? (i := 1084) (by decide +kernel)) (by decide +kernel)
set_option maxRecDepth 20000 in
theorem w_294 : (Cond.code yJ0_length_8abf5 cJ0_length_8abf5 1 (some .int)) ∈ TB := inTB (List.mem_of_getElem? (i := 294) (by decide +kernel)) (by decide +kernel)
set_option maxRecDepth 20000 in
theorem w_292 : (Cond.instanceMethod yJ0_length_8abf5) ∈ TB := inTB (List.mem_of_getElem? (i := 292) (by decide +kernel)) (by decide +kernel)
set_option maxRecDepth 20000 in
theorem w_293 : (Cond.selects RJ0 yJ0_length_8abf5 yJ0_length_8abf5) ∈ TB := inTB (List.mem_of_getElem? (i := 293) (by decide +kernel)) (by decide +kernel)
theorem cf_J0_length_8abf5 : CF yJ0_length_8abf5 cJ0_length_8abf5 1 (some .int) 0 := ⟨w_292, w_293, w_76, w_294, by decide +kernel, by decide +kernel, by decide +kernel⟩
set_option maxRecDepth 20000 in
theorem w_1085 : (Cond.methodLink RX12 70 yJ0_charAt_5068e) ∈ TB := inTB (List.mem_of_getElem? (i := 1085) (by decide +kernel)) (by decide +kernel)
set_option maxRecDepth 20000 in
theorem w_304 : (Cond.code yJ0_charAt_5068e cJ0_charAt_5068e 2 (some .char)) ∈ TB := inTB (List.mem_of_getElem? (i := 304) (by decide +kernel)) (by decide +kernel)
set_option maxRecDepth 20000 in
theorem w_302 : (Cond.instanceMethod yJ0_charAt_5068e) ∈ TB := inTB (List.mem_of_getElem? (i := 302) (by decide +kernel)) (by decide +kernel)
set_option maxRecDepth 20000 in
theorem w_303 : (Cond.selects RJ0 yJ0_charAt_5068e yJ0_charAt_5068e) ∈ TB := inTB (List.mem_of_getElem? (i := 303) (by decide +kernel)) (by decide +kernel)
theorem cf_J0_charAt_5068e : CF yJ0_charAt_5068e cJ0_charAt_5068e 2 (some .char) 1 := ⟨w_302, w_303, w_76, w_304, by decide +kernel, by decide +kernel, by decide +kernel⟩
set_option maxRecDepth 20000 in
theorem w_1086 : (Cond.methodLink RX12 74 yX12_must) ∈ TB := inTB (List.mem_of_getElem? (i := 1086) (by decide +kernel)) (by decide +kernel)
set_option maxRecDepth 20000 in
theorem w_1089 : (Cond.code yX12_must cX12_must 2 none) ∈ TB := inTB (List.mem_of_getElem? (i := 1089) (by decide +kernel)) (by decide +kernel)
set_option maxRecDepth 20000 in
theorem w_1088 : (Cond.instanceMethod yX12_must) ∈ TB := inTB (List.mem_of_getElem? (i := 1088) (by decide +kernel)) (by decide +kernel)
set_option maxRecDepth 20000 in
theorem w_41 : (Cond.selects RX12 yX12_must yX12_must) ∈ TB := inTB (List.mem_of_getElem? (i := 41) (by decide +kernel)) (by decide +kernel)
theorem cf_X12_must : CF yX12_must cX12_must 2 none 1 := ⟨w_1088, w_41, w_75, w_1089, by decide +kernel, by decide +kernel, by decide +kernel⟩
/-! ThreeMeasuresModel.spells -/
theorem dX12_spells_0 : decode cX12_spells 0 = .ok (.iconst 0, 1) := by decide +kernel
theorem dX12_spells_1 : decode cX12_spells 1 = .ok (.istore_n 2, 1) := by decide +kernel
theorem dX12_spells_2 : decode cX12_spells 2 = .ok (.iload_n 2, 1) := by decide +kernel
theorem dX12_spells_3 : decode cX12_spells 3 = .ok (.aload_n 1, 1) := by decide +kernel
theorem dX12_spells_4 : decode cX12_spells 4 = .ok (.invokevirtual 65, 3) := by decide +kernel
theorem dX12_spells_7 : decode cX12_spells 7 = .ok (.if_icmp .ge 18, 3) := by decide +kernel
theorem dX12_spells_10 : decode cX12_spells 10 = .ok (.aload_n 0, 1) := by decide +kernel
theorem dX12_spells_11 : decode cX12_spells 11 = .ok (.aload_n 1, 1) := by decide +kernel
theorem dX12_spells_12 : decode cX12_spells 12 = .ok (.iload_n 2, 1) := by decide +kernel
theorem dX12_spells_13 : decode cX12_spells 13 = .ok (.invokevirtual 70, 3) := by decide +kernel
theorem dX12_spells_16 : decode cX12_spells 16 = .ok (.invokevirtual 74, 3) := by decide +kernel
theorem dX12_spells_19 : decode cX12_spells 19 = .ok (.iinc 2 1, 3) := by decide +kernel
theorem dX12_spells_22 : decode cX12_spells 22 = .ok (.goto (-20), 3) := by decide +kernel
theorem dX12_spells_25 : decode cX12_spells 25 = .ok (.return_, 1) := by decide +kernel
def f_X12_spells_2 (K2 : St → Nat → Int32 → St) (σ : St) (a1 : Nat) (a2 : Int32) : St := (if (f_J0_length_8abf5 a1) ≤ a2 then σ else (bd1 (f_X12_must σ (f_J0_charAt_5068e a1 a2)) (fun u16 => (K2 u16 a1 (a2 + (1 : Int32))))))
set_option maxHeartbeats 600000 in
set_option maxRecDepth 100000 in
theorem b_X12_spells_2 {g : GG} {aK aV : Nat → Nat} {p : Program} {l : Launch} {e : Env} {s : State} {m : MethodId} {args : Array Value} {below : List Frame} {meth : Method} {c : Code} {A : Nat → Prop} {tgt : St} {K2 : St → Nat → Int32 → St} {N2 : Nat}  (C0 : BC p s m args meth c cX12_spells RX12 3 none) (hK2 : ∀ (σ : St) (a1 : Nat) (a2 : Int32), (a1 < 6) → (RO σ) → (0 ≤ a2.toInt) → ((lenS.getD a1 0 : Int) - a2.toInt).toNat < N2 → ∀ {H : Heap} {locs : List Loc}, KK g s → WC g (mW g) A s.heap σ H locs → MB aK aV (AM g) s → (∀ q, A q → AM g q) →  ∀ {ls : Array Slot}, lv_has ls 3 [(0, .ref (g.2.2 100)), (1, .ref (aK a1)), (2, .int (a2))] → K2 σ a1 a2 = tgt → W p l e { frames := 4, cells := 0, slots := 0, locals := 85 } s m args below meth c H locs 0 0 (QMV below args s g (mW g) A tgt) (F0 m 2 ls [])) {σ : St} {a1 : Nat} {a2 : Int32} {H : Heap} {locs : List Loc} (hi : a1 < 6) (hR : RO σ) (h2 : 0 ≤ a2.toInt) (hm : ((lenS.getD a1 0 : Int) - a2.toInt).toNat < N2 + 1) (hK : KK g s) (hC : WC g (mW g) A s.heap σ H locs) (hB : MB aK aV (AM g) s) (hA : ∀ q, A q → AM g q) {ls : Array Slot} (hl : lv_has ls 3 [(0, .ref (g.2.2 100)), (1, .ref (aK a1)), (2, .int (a2))]) (hT : f_X12_spells_2 K2 σ a1 a2 = tgt) : W p l e { frames := 4, cells := 0, slots := 0, locals := 85 } s m args below meth c H locs 0 0 (QMV below args s g (mW g) A tgt) (F0 m 2 ls []) := by
  obtain ⟨hx, hb, hr, hml, hown, hts, hlocks⟩ := id C0
  unfold f_X12_spells_2 at hT
  obtain ⟨p5, p56, p6, e4, e4b, em, emb, hw⟩ := id hR
  refine lv_iload_n hx hb dX12_spells_2 rfl (lv_at hl 2 rfl) ?_
  refine lv_aload_n hx hb dX12_spells_3 rfl (lv_at hl 1 rfl) ?_
  refine j_ciV (rest := [.int (a2)]) (As := []) (i := a1) C0 hB.1 (hC.2.2.mono hA) hi rfl cf_J0_length_8abf5 w_1084 (k_J0_length_8abf5 l _ _ _ a1 hi) ⟨by decide, by decide⟩ hl.1 rfl rfl (Nat.le_of_ble_eq_true rfl) dX12_spells_4 ⟨Nat.zero_le _, Nat.zero_le _⟩ ?_
  refine lv_icmp_ge (tgt := 25) hx hb dX12_spells_7 (by decide) (fun c_7 => ?_) (fun c_7 => ?_)
  · have hT := hT_pos c_7 hT
    exact ret_MV C0 hC hT dX12_spells_25
  · have hT := hT_neg c_7 hT
    have w1 := mt ti_le.mpr c_7
    rw [jlen_e, jlen_t hi] at w1
    have z1 : (1 : Int32).toInt = 1 := rfl
    have w3 := jlen_b hi
    have w2 := ti_add (a := a2) (b := 1) (by omega) (by omega)
    refine lv_aload_n hx hb dX12_spells_10 rfl (lv_at hl 0 rfl) ?_
    refine lv_aload_n hx hb dX12_spells_11 rfl (lv_at hl 1 rfl) ?_
    refine lv_iload_n hx hb dX12_spells_12 rfl (lv_at hl 2 rfl) ?_
    have q13_h1 : 0 ≤ a2.toInt := h2
    have q13_h1b : a2.toInt < lenS.getD a1 0 := by omega
    refine j_ciV (rest := [.ref (g.2.2 100)]) (As := [.int (a2)]) (i := a1) C0 hB.1 (hC.2.2.mono hA) hi rfl cf_J0_charAt_5068e w_1085 (k_J0_charAt_5068e l _ _ _ a1 a2 hi q13_h1 q13_h1b) ⟨by decide, by decide⟩ hl.1 rfl rfl (Nat.le_of_ble_eq_true rfl) dX12_spells_13 ⟨Nat.zero_le _, Nat.zero_le _⟩ ?_
    have q16_p5 : 0 ≤ (σ 5 0).toInt := by
      have := mt ti_le.mpr c_7
      omega
    have q16_p56 : (σ 5 0).toInt ≤ (σ 6 0).toInt := by
      have := mt ti_le.mpr c_7
      omega
    have q16_p6 : (σ 6 0).toInt ≤ 100 := by
      have := mt ti_le.mpr c_7
      omega
    refine m_mv (rest := []) (As := [.int ((f_J0_charAt_5068e a1 a2))]) (σ := σ) C0 hK hC SV.tt (fun _ _ _ => trivial) cf_X12_must w_1086 rfl (k_X12_must l g σ (f_J0_charAt_5068e a1 a2) q16_p5 q16_p56 q16_p6) ⟨by decide, by decide⟩ hl.1 rfl rfl (Nat.le_of_ble_eq_true rfl) dX12_spells_16 ⟨Nat.zero_le _, Nat.zero_le _⟩ (fun u16 H locs e16 hC => ?_)
    have hT := bd1_e e16 hT
    have S16 : SQ 1 σ u16 := by rw [e16]; exact must_q hR (jch_b a1 a2).1
    refine lv_iinc (v := (a2 + (1 : Int32))) (lv' := [(2, .int ((a2 + (1 : Int32)))), (0, .ref (g.2.2 100)), (1, .ref (aK a1))]) hx hb dX12_spells_19 hl (k := 2) rfl rfl (by decide) rfl (fun ls hl => ?_)
    refine lv_goto (tgt := 2) hx hb dX12_spells_22 (by decide) ?_
    have j22_hR : RO u16 := S16.ro
    have j22_h2 : 0 ≤ (a2 + (1 : Int32)).toInt := by omega
    have j22_m : ((lenS.getD a1 0 : Int) - (a2 + (1 : Int32)).toInt).toNat < N2 := by
      omega
    exact hK2 u16 a1 (a2 + (1 : Int32)) hi j22_hR j22_h2 j22_m hK hC hB hA (lv_sub hl [1, 2, 0] rfl) hT
def g_X12_spells_2  : Nat → St → Nat → Int32 → St
  | 0 => fun σ a1 a2 => σ
  | n + 1 => fun σ a1 a2 => f_X12_spells_2  (g_X12_spells_2  n) σ a1 a2
theorem l_X12_spells_2 {g : GG} {aK aV : Nat → Nat} {p : Program} {l : Launch} {e : Env} {s : State} {m : MethodId} {args : Array Value} {below : List Frame} {meth : Method} {c : Code} {A : Nat → Prop} {tgt : St}   (C0 : BC p s m args meth c cX12_spells RX12 3 none)  : ∀ (n : Nat) (σ : St) (a1 : Nat) (a2 : Int32), (a1 < 6) → (RO σ) → (0 ≤ a2.toInt) → ((lenS.getD a1 0 : Int) - a2.toInt).toNat < n → ∀ {H : Heap} {locs : List Loc}, KK g s → WC g (mW g) A s.heap σ H locs → MB aK aV (AM g) s → (∀ q, A q → AM g q) →  ∀ {ls : Array Slot}, lv_has ls 3 [(0, .ref (g.2.2 100)), (1, .ref (aK a1)), (2, .int (a2))] → g_X12_spells_2  n σ a1 a2 = tgt → W p l e { frames := 4, cells := 0, slots := 0, locals := 85 } s m args below meth c H locs 0 0 (QMV below args s g (mW g) A tgt) (F0 m 2 ls []) := by
  intro n
  induction n with
  | zero => intro σ a1 a2 hi hR h2 hm; exact absurd hm (Nat.not_lt_zero _)
  | succ n ih =>
    intro σ a1 a2 hi hR h2 hm H locs hK hC hB hA ls hl hT
    exact b_X12_spells_2 (g := g) (aK := aK) (aV := aV)  (K2 := g_X12_spells_2  n) (N2 := n) C0  (fun σ a1 a2 hi hR h2 hmq => ih σ a1 a2 hi hR h2 hmq) hi hR h2 hm hK hC hB hA hl hT
def f_X12_spells (σ : St) (a1 : Nat) : St := (g_X12_spells_2  (7) σ a1 (0 : Int32))
set_option maxHeartbeats 600000 in
set_option maxRecDepth 100000 in
theorem k_X12_spells (l : Launch) (g : GG) (aK aV : Nat → Nat)  (σ : St) (a1 : Nat) (hi : a1 < 6) (hR : RO σ) : MV l yX12_spells (wsF yX12_spells cX12_spells 3 none) { frames := 4, cells := 0, slots := 0, locals := 85 } [.ref (g.2.2 100), .ref (aK a1)] g (mW g) (MB aK aV (AM g)) σ (f_X12_spells σ a1) := by
  refine start_MV (by decide) (Nat.le_of_ble_eq_true rfl) ?_
  intro p e s m args below meth c C0 hK hB hC ls hl
  generalize hAe : aA ((mW g) σ) = A at hC ⊢
  have hA : ∀ q, A q → AM g q := fun q h => by rw [← hAe] at h; exact h
  obtain ⟨hx, hb, hr, hml, hown, hts, hlocks⟩ := id C0
  have hl : lv_has ls 3 [(0, .ref (g.2.2 100)), (1, .ref (aK a1))] := hl
  generalize hT : (f_X12_spells σ a1) = tgt
  suffices key : ∀ (H : Heap) (locs : List Loc), WC g (mW g) A s.heap σ H locs → W p l e { frames := 4, cells := 0, slots := 0, locals := 85 } s m args below meth c H locs 0 0 (QMV below args s g (mW g) A tgt) (F0 m 0 ls []) from key _ _ hC
  intro H locs hC
  unfold f_X12_spells at hT
  refine lv_iconst (v := (0 : Int32)) hx hb dX12_spells_0 (by decide) ?_
  refine lv_istore_n (lv' := [(2, .int ((0 : Int32))), (0, .ref (g.2.2 100)), (1, .ref (aK a1))]) hx hb dX12_spells_1 rfl hl (by decide) rfl (fun ls hl => ?_)
  have j1_h2 : 0 ≤ (0 : Int32).toInt := by
    have : ((0 : Int32)).toInt = 0 := by decide
    omega
  have j1_m : ((lenS.getD a1 0 : Int) - (0 : Int32).toInt).toNat < 7 := by
    have := jlen_b hi; have e0 : (0 : Int32).toInt = 0 := rfl; omega
  exact l_X12_spells_2 (g := g) (aK := aK) (aV := aV)  C0   (7) σ a1 (0 : Int32) hi hR j1_h2 j1_m hK hC hB hA (lv_sub hl [1, 2, 0] rfl) hT
theorem spells_q {i : Nat} : ∀ (n : Nat) {σ : St} (a : Int32), RO σ → SQ 0 σ (g_X12_spells_2 n σ i a)
  | 0, σ, a, h => SQ.rfl h
  | n + 1, σ, a, h => by
    show SQ 0 σ (f_X12_spells_2 (g_X12_spells_2 n) σ i a)
    unfold f_X12_spells_2
    split
    · exact SQ.rfl h
    · have S := must_q h (jch_b i a).1
      exact (S.tr (spells_q n (a + 1) S.ro)).le (by decide)
/-! ThreeMeasuresModel.among -/
theorem dX12_among_0 : decode cX12_among 0 = .ok (.iconst 0, 1) := by decide +kernel
theorem dX12_among_1 : decode cX12_among 1 = .ok (.istore_n 2, 1) := by decide +kernel
theorem dX12_among_2 : decode cX12_among 2 = .ok (.iload_n 2, 1) := by decide +kernel
theorem dX12_among_3 : decode cX12_among 3 = .ok (.aload_n 1, 1) := by decide +kernel
theorem dX12_among_4 : decode cX12_among 4 = .ok (.invokevirtual 65, 3) := by decide +kernel
theorem dX12_among_7 : decode cX12_among 7 = .ok (.if_icmp .ge 33, 3) := by decide +kernel
theorem dX12_among_10 : decode cX12_among 10 = .ok (.aload_n 0, 1) := by decide +kernel
theorem dX12_among_11 : decode cX12_among 11 = .ok (.invokevirtual 61, 3) := by decide +kernel
theorem dX12_among_14 : decode cX12_among 14 = .ok (.aload_n 1, 1) := by decide +kernel
theorem dX12_among_15 : decode cX12_among 15 = .ok (.iload_n 2, 1) := by decide +kernel
theorem dX12_among_16 : decode cX12_among 16 = .ok (.invokevirtual 70, 3) := by decide +kernel
theorem dX12_among_19 : decode cX12_among 19 = .ok (.if_icmp .ne 15, 3) := by decide +kernel
theorem dX12_among_22 : decode cX12_among 22 = .ok (.aload_n 0, 1) := by decide +kernel
theorem dX12_among_23 : decode cX12_among 23 = .ok (.dup, 1) := by decide +kernel
theorem dX12_among_24 : decode cX12_among 24 = .ok (.getfield 51, 3) := by decide +kernel
theorem dX12_among_27 : decode cX12_among 27 = .ok (.iconst 1, 1) := by decide +kernel
theorem dX12_among_28 : decode cX12_among 28 = .ok (.iadd, 1) := by decide +kernel
theorem dX12_among_29 : decode cX12_among 29 = .ok (.putfield 51, 3) := by decide +kernel
theorem dX12_among_32 : decode cX12_among 32 = .ok (.iload_n 2, 1) := by decide +kernel
theorem dX12_among_33 : decode cX12_among 33 = .ok (.ireturn, 1) := by decide +kernel
theorem dX12_among_34 : decode cX12_among 34 = .ok (.iinc 2 1, 3) := by decide +kernel
theorem dX12_among_37 : decode cX12_among 37 = .ok (.goto (-35), 3) := by decide +kernel
theorem dX12_among_40 : decode cX12_among 40 = .ok (.iconst (-1), 1) := by decide +kernel
theorem dX12_among_41 : decode cX12_among 41 = .ok (.ireturn, 1) := by decide +kernel
def f_X12_among_2 (K2 : St → Nat → Int32 → Int32 × St) (σ : St) (a1 : Nat) (a2 : Int32) : Int32 × St := (if (f_J0_length_8abf5 a1) ≤ a2 then ((-1 : Int32), σ) else (if (f_X12_here σ ) = (f_J0_charAt_5068e a1 a2) then (a2, (up2 σ 5 0 ((σ 5 0) + (1 : Int32)))) else (K2 σ a1 (a2 + (1 : Int32)))))
set_option maxHeartbeats 600000 in
set_option maxRecDepth 100000 in
theorem b_X12_among_2 {g : GG} {aK aV : Nat → Nat} {p : Program} {l : Launch} {e : Env} {s : State} {m : MethodId} {args : Array Value} {below : List Frame} {meth : Method} {c : Code} {A : Nat → Prop} {tgt : Int32 × St} {K2 : St → Nat → Int32 → Int32 × St} {N2 : Nat}  (C0 : BC p s m args meth c cX12_among RX12 3 (some .int)) (hK2 : ∀ (σ : St) (a1 : Nat) (a2 : Int32), (a1 < 6) → (RO σ) → (0 ≤ a2.toInt) → ((lenS.getD a1 0 : Int) - a2.toInt).toNat < N2 → ∀ {H : Heap} {locs : List Loc}, KK g s → WC g (mW g) A s.heap σ H locs → MB aK aV (AM g) s → (∀ q, A q → AM g q) →  ∀ {ls : Array Slot}, lv_has ls 3 [(0, .ref (g.2.2 100)), (1, .ref (aK a1)), (2, .int (a2))] → K2 σ a1 a2 = tgt → W p l e { frames := 4, cells := 0, slots := 0, locals := 85 } s m args below meth c H locs 0 0 (QMI below args s g (mW g) A tgt) (F0 m 2 ls [])) {σ : St} {a1 : Nat} {a2 : Int32} {H : Heap} {locs : List Loc} (hi : a1 < 6) (hR : RO σ) (h2 : 0 ≤ a2.toInt) (hm : ((lenS.getD a1 0 : Int) - a2.toInt).toNat < N2 + 1) (hK : KK g s) (hC : WC g (mW g) A s.heap σ H locs) (hB : MB aK aV (AM g) s) (hA : ∀ q, A q → AM g q) {ls : Array Slot} (hl : lv_has ls 3 [(0, .ref (g.2.2 100)), (1, .ref (aK a1)), (2, .int (a2))]) (hT : f_X12_among_2 K2 σ a1 a2 = tgt) : W p l e { frames := 4, cells := 0, slots := 0, locals := 85 } s m args below meth c H locs 0 0 (QMI below args s g (mW g) A tgt) (F0 m 2 ls []) := by
  obtain ⟨hx, hb, hr, hml, hown, hts, hlocks⟩ := id C0
  unfold f_X12_among_2 at hT
  obtain ⟨p5, p56, p6, e4, e4b, em, emb, hw⟩ := id hR
  refine lv_iload_n hx hb dX12_among_2 rfl (lv_at hl 2 rfl) ?_
  refine lv_aload_n hx hb dX12_among_3 rfl (lv_at hl 1 rfl) ?_
  refine j_ciV (rest := [.int (a2)]) (As := []) (i := a1) C0 hB.1 (hC.2.2.mono hA) hi rfl cf_J0_length_8abf5 w_1084 (k_J0_length_8abf5 l _ _ _ a1 hi) ⟨by decide, by decide⟩ hl.1 rfl rfl (Nat.le_of_ble_eq_true rfl) dX12_among_4 ⟨Nat.zero_le _, Nat.zero_le _⟩ ?_
  refine lv_icmp_ge (tgt := 40) hx hb dX12_among_7 (by decide) (fun c_7 => ?_) (fun c_7 => ?_)
  · have hT := hT_pos c_7 hT
    refine lv_iconst (v := (-1 : Int32)) hx hb dX12_among_40 (by decide) ?_
    exact ret_MI C0 hC hT dX12_among_41
  · have hT := hT_neg c_7 hT
    have w1 := mt ti_le.mpr c_7
    rw [jlen_e, jlen_t hi] at w1
    have z1 : (1 : Int32).toInt = 1 := rfl
    have w3 := jlen_b hi
    have w2 := ti_add (a := a2) (b := 1) (by omega) (by omega)
    refine lv_aload_n hx hb dX12_among_10 rfl (lv_at hl 0 rfl) ?_
    have q11_p5 : 0 ≤ (σ 5 0).toInt := by
      have := mt ti_le.mpr c_7
      omega
    have q11_p56 : (σ 5 0).toInt ≤ (σ 6 0).toInt := by
      have := mt ti_le.mpr c_7
      omega
    have q11_p6 : (σ 6 0).toInt ≤ 100 := by
      have := mt ti_le.mpr c_7
      omega
    refine m_ci (rest := []) (As := []) (σ := σ) C0 hK hC.1 (hC.2.1.weaken (fun _ _ _ _ => trivial)) SV.tt (fun _ _ _ => trivial) cf_X12_here w_1071 rfl (k_X12_here l g σ  q11_p5 q11_p56 q11_p6) ⟨by decide, by decide⟩ hl.1 rfl rfl (Nat.le_of_ble_eq_true rfl) dX12_among_11 ⟨Nat.zero_le _, Nat.zero_le _⟩ ?_
    refine lv_aload_n hx hb dX12_among_14 rfl (lv_at hl 1 rfl) ?_
    refine lv_iload_n hx hb dX12_among_15 rfl (lv_at hl 2 rfl) ?_
    have q16_h1 : 0 ≤ a2.toInt := h2
    have q16_h1b : a2.toInt < lenS.getD a1 0 := by omega
    refine j_ciV (rest := [.int ((f_X12_here σ ))]) (As := [.int (a2)]) (i := a1) C0 hB.1 (hC.2.2.mono hA) hi rfl cf_J0_charAt_5068e w_1085 (k_J0_charAt_5068e l _ _ _ a1 a2 hi q16_h1 q16_h1b) ⟨by decide, by decide⟩ hl.1 rfl rfl (Nat.le_of_ble_eq_true rfl) dX12_among_16 ⟨Nat.zero_le _, Nat.zero_le _⟩ ?_
    refine lv_icmp_ne (tgt := 34) hx hb dX12_among_19 (by decide) (fun c_19 => ?_) (fun c_19 => ?_)
    · have hT := hT_neg c_19 hT
      refine lv_iinc (v := (a2 + (1 : Int32))) (lv' := [(2, .int ((a2 + (1 : Int32)))), (0, .ref (g.2.2 100)), (1, .ref (aK a1))]) hx hb dX12_among_34 hl (k := 2) rfl rfl (by decide) rfl (fun ls hl => ?_)
      refine lv_goto (tgt := 2) hx hb dX12_among_37 (by decide) ?_
      have j37_h2 : 0 ≤ (a2 + (1 : Int32)).toInt := by omega
      have j37_m : ((lenS.getD a1 0 : Int) - (a2 + (1 : Int32)).toInt).toNat < N2 := by
        omega
      exact hK2 σ a1 (a2 + (1 : Int32)) hi hR j37_h2 j37_m hK hC hB hA (lv_sub hl [1, 2, 0] rfl) hT
    · have hT := hT_pos c_19 hT
      refine lv_aload_n hx hb dX12_among_22 rfl (lv_at hl 0 rfl) ?_
      refine lv_dup hx hb dX12_among_23 rfl ?_
      refine m_get (σ := σ) (v := .int ((σ 5 0))) C0 hK hC.1 5 (by decide) rfl w_972 dX12_among_24 ?_
      refine lv_iconst (v := (1 : Int32)) hx hb dX12_among_27 (by decide) ?_
      refine lv_iadd hx hb dX12_among_28 ?_
      refine m_put (σ := σ) (ty := .int) C0 hK hC 5 (by decide) rfl rfl rfl rfl (ms_5 g _ _) w_972 dX12_among_29 (fun H locs hC => ?_)
      refine lv_iload_n hx hb dX12_among_32 rfl (lv_at hl 2 rfl) ?_
      exact ret_MI C0 hC hT dX12_among_33
def g_X12_among_2  : Nat → St → Nat → Int32 → Int32 × St
  | 0 => fun σ a1 a2 => (0, σ)
  | n + 1 => fun σ a1 a2 => f_X12_among_2  (g_X12_among_2  n) σ a1 a2
theorem l_X12_among_2 {g : GG} {aK aV : Nat → Nat} {p : Program} {l : Launch} {e : Env} {s : State} {m : MethodId} {args : Array Value} {below : List Frame} {meth : Method} {c : Code} {A : Nat → Prop} {tgt : Int32 × St}   (C0 : BC p s m args meth c cX12_among RX12 3 (some .int))  : ∀ (n : Nat) (σ : St) (a1 : Nat) (a2 : Int32), (a1 < 6) → (RO σ) → (0 ≤ a2.toInt) → ((lenS.getD a1 0 : Int) - a2.toInt).toNat < n → ∀ {H : Heap} {locs : List Loc}, KK g s → WC g (mW g) A s.heap σ H locs → MB aK aV (AM g) s → (∀ q, A q → AM g q) →  ∀ {ls : Array Slot}, lv_has ls 3 [(0, .ref (g.2.2 100)), (1, .ref (aK a1)), (2, .int (a2))] → g_X12_among_2  n σ a1 a2 = tgt → W p l e { frames := 4, cells := 0, slots := 0, locals := 85 } s m args below meth c H locs 0 0 (QMI below args s g (mW g) A tgt) (F0 m 2 ls []) := by
  intro n
  induction n with
  | zero => intro σ a1 a2 hi hR h2 hm; exact absurd hm (Nat.not_lt_zero _)
  | succ n ih =>
    intro σ a1 a2 hi hR h2 hm H locs hK hC hB hA ls hl hT
    exact b_X12_among_2 (g := g) (aK := aK) (aV := aV)  (K2 := g_X12_among_2  n) (N2 := n) C0  (fun σ a1 a2 hi hR h2 hmq => ih σ a1 a2 hi hR h2 hmq) hi hR h2 hm hK hC hB hA hl hT
def f_X12_among (σ : St) (a1 : Nat) : Int32 × St := (g_X12_among_2  (7) σ a1 (0 : Int32))
set_option maxHeartbeats 600000 in
set_option maxRecDepth 100000 in
theorem k_X12_among (l : Launch) (g : GG) (aK aV : Nat → Nat)  (σ : St) (a1 : Nat) (hi : a1 < 6) (hR : RO σ) : MI l yX12_among (wsF yX12_among cX12_among 3 (some .int)) { frames := 4, cells := 0, slots := 0, locals := 85 } [.ref (g.2.2 100), .ref (aK a1)] g (mW g) (MB aK aV (AM g)) σ (f_X12_among σ a1) := by
  refine start_MI (by decide) (Nat.le_of_ble_eq_true rfl) ?_
  intro p e s m args below meth c C0 hK hB hC ls hl
  generalize hAe : aA ((mW g) σ) = A at hC ⊢
  have hA : ∀ q, A q → AM g q := fun q h => by rw [← hAe] at h; exact h
  obtain ⟨hx, hb, hr, hml, hown, hts, hlocks⟩ := id C0
  have hl : lv_has ls 3 [(0, .ref (g.2.2 100)), (1, .ref (aK a1))] := hl
  generalize hT : (f_X12_among σ a1) = tgt
  suffices key : ∀ (H : Heap) (locs : List Loc), WC g (mW g) A s.heap σ H locs → W p l e { frames := 4, cells := 0, slots := 0, locals := 85 } s m args below meth c H locs 0 0 (QMI below args s g (mW g) A tgt) (F0 m 0 ls []) from key _ _ hC
  intro H locs hC
  unfold f_X12_among at hT
  refine lv_iconst (v := (0 : Int32)) hx hb dX12_among_0 (by decide) ?_
  refine lv_istore_n (lv' := [(2, .int ((0 : Int32))), (0, .ref (g.2.2 100)), (1, .ref (aK a1))]) hx hb dX12_among_1 rfl hl (by decide) rfl (fun ls hl => ?_)
  have j1_h2 : 0 ≤ (0 : Int32).toInt := by
    have : ((0 : Int32)).toInt = 0 := by decide
    omega
  have j1_m : ((lenS.getD a1 0 : Int) - (0 : Int32).toInt).toNat < 7 := by
    have := jlen_b hi; have e0 : (0 : Int32).toInt = 0 := rfl; omega
  exact l_X12_among_2 (g := g) (aK := aK) (aV := aV)  C0   (7) σ a1 (0 : Int32) hi hR j1_h2 j1_m hK hC hB hA (lv_sub hl [1, 2, 0] rfl) hT
theorem jlen_1 {i : Nat} (h : i < 6) : 1 ≤ lenS.getD i 0 := by
  rcases (show i = 0 ∨ i = 1 ∨ i = 2 ∨ i = 3 ∨ i = 4 ∨ i = 5 by omega) with rfl | rfl | rfl | rfl | rfl | rfl <;> decide
theorem among_q {i : Nat} (hi : i < 6) : ∀ (n : Nat) {σ : St} (a : Int32), 0 ≤ a.toInt → RO σ → ((g_X12_among_2 n σ i a).1 = -1 ∧ (g_X12_among_2 n σ i a).2 = σ) ∨ (0 ≤ (g_X12_among_2 n σ i a).1.toInt ∧ (g_X12_among_2 n σ i a).1.toInt < lenS.getD i 0) ∧ SQ 0 σ (g_X12_among_2 n σ i a).2
  | 0, σ, a, ha, h => Or.inr ⟨⟨by show 0 ≤ (0 : Int32).toInt; decide, by have := jlen_1 hi; show (0 : Int32).toInt < _; have e0 : (0 : Int32).toInt = 0 := Eq.refl _; omega⟩, SQ.rfl h⟩
  | n + 1, σ, a, ha, h => by
    rw [show g_X12_among_2 (n + 1) σ i a = f_X12_among_2 (g_X12_among_2 n) σ i a from Eq.refl _]
    unfold f_X12_among_2
    by_cases c : f_J0_length_8abf5 i ≤ a
    · rw [if_pos c]
      exact Or.inl ⟨Eq.refl _, Eq.refl _⟩
    · rw [if_neg c]
      have w1 := mt ti_le.mpr c
      rw [jlen_e, jlen_t hi] at w1
      by_cases c2 : f_X12_here σ = f_J0_charAt_5068e i a
      · rw [if_pos c2]
        exact Or.inr ⟨⟨ha, by show a.toInt < _; omega⟩, (spot_q h (by rw [c2]; exact (jch_b i a).1)).le (by decide)⟩
      · rw [if_neg c2]
        have w3 := jlen_b hi
        have z1 : (1 : Int32).toInt = 1 := Eq.refl _
        have w2 := ti_add (a := a) (b := 1) (by omega) (by omega)
        exact among_q hi n (a + 1) (by omega) h
theorem among_q0 {i : Nat} (hi : i < 6) {σ : St} (h : RO σ) : ((f_X12_among σ i).1 = -1 ∧ (f_X12_among σ i).2 = σ) ∨ (0 ≤ (f_X12_among σ i).1.toInt ∧ (f_X12_among σ i).1.toInt < lenS.getD i 0) ∧ SQ 0 σ (f_X12_among σ i).2 := among_q hi 7 0 (by decide) h
