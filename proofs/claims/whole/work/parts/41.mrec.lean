
theorem figs_q : ∀ (n : Nat) {σ : St} (a1 a2 : Int32), RO σ → ((a2.toInt = 0 ∧ a1.toInt = 0) ∨ (a2.toInt = 1 ∧ 0 ≤ a1.toInt ∧ a1.toInt ≤ 9) ∨ (a2.toInt = 2 ∧ 0 ≤ a1.toInt ∧ a1.toInt ≤ 99)) → SQ 0 σ (g_X12_figures_34 n σ a1 a2).2 ∧ 0 ≤ (g_X12_figures_34 n σ a1 a2).1.toInt ∧ (g_X12_figures_34 n σ a1 a2).1.toInt ≤ 99
  | 0, σ, a1, a2, h, hv => ⟨SQ.rfl h, by show 0 ≤ (0 : Int32).toInt; decide, by show (0 : Int32).toInt ≤ 99; decide⟩
  | n + 1, σ, a1, a2, h, hv => by
    rw [show g_X12_figures_34 (n + 1) σ a1 a2 = f_X12_figures_34 (g_X12_figures_34 n) σ a1 a2 from Eq.refl _]
    unfold f_X12_figures_34
    have e2 : (2 : Int32).toInt = 2 := Eq.refl _
    have eb : SQ 0 σ (a1, σ).2 ∧ 0 ≤ (a1, σ).1.toInt ∧ (a1, σ).1.toInt ≤ 99 := ⟨SQ.rfl h, by show 0 ≤ a1.toInt; omega, by show a1.toInt ≤ 99; omega⟩
    by_cases c1 : (2 : Int32) ≤ a2
    · rw [if_pos c1]
      exact eb
    · rw [if_neg c1]
      have w1 := mt ti_le.mpr c1
      by_cases c2 : σ 7 0 = 0
      · rw [if_pos c2]
        by_cases c3 : f_X12_in (f_X12_here σ) (48 : Int32) (57 : Int32) = 0
        · rw [if_pos c3]
          exact eb
        · rw [if_neg c3]
          obtain ⟨d1, d2⟩ := in_ne c3
          have e48 : (48 : Int32).toInt = 48 := Eq.refl _
          have e57 : (57 : Int32).toInt = 57 := Eq.refl _
          have e10 : (10 : Int32).toInt = 10 := Eq.refl _
          have e1 : (1 : Int32).toInt = 1 := Eq.refl _
          have S := spot_q h (by omega)
          have q1 := ti_mulR (n := 10) (a := 10) (b := a1) (Eq.refl _) (by omega) (by omega)
          have q2 := ti_add (a := 10 * a1) (b := f_X12_here σ) (by omega) (by omega)
          have q3 := ti_sub (a := 10 * a1 + f_X12_here σ) (b := 48) (by omega) (by omega)
          have q4 := ti_add (a := a2) (b := 1) (by omega) (by omega)
          have key : SQ 0 σ (f_X12_figures_68 (g_X12_figures_34 n) σ a1 a2).2 ∧ 0 ≤ (f_X12_figures_68 (g_X12_figures_34 n) σ a1 a2).1.toInt ∧ (f_X12_figures_68 (g_X12_figures_34 n) σ a1 a2).1.toInt ≤ 99 := by
            have IH := figs_q n (((10 : Int32) * a1 + f_X12_here σ) - (48 : Int32)) (a2 + 1) S.ro (by omega)
            exact ⟨(S.tr IH.1).le (by decide), IH.2⟩
          by_cases c4 : a2 = 0
          · rw [if_pos c4]
            exact key
          · rw [if_neg c4]
            by_cases c5 : a1 ≤ 0
            · rw [if_pos c5]
              exact eb
            · rw [if_neg c5]
              exact key
      · rw [if_neg c2]
        exact eb
theorem figures_q {σ : St} (h : RO σ) : SQ 1 σ (f_X12_figures σ).2 ∧ 0 ≤ (f_X12_figures σ).1.toInt ∧ (f_X12_figures σ).1.toInt ≤ 99 := by
  unfold f_X12_figures
  have e0 : (0 : Int32).toInt = 0 := Eq.refl _
  have bad : SQ 1 σ (g_X12_figures_34 3 (up2 σ 7 0 1) 0 0).2 ∧ 0 ≤ (g_X12_figures_34 3 (up2 σ 7 0 1) 0 0).1.toInt ∧ (g_X12_figures_34 3 (up2 σ 7 0 1) 0 0).1.toInt ≤ 99 := by
    have S := wr_q h (W := 1) (Or.inr (Eq.refl _)) (fun q => absurd q (by decide))
    have IH := figs_q 3 (σ := up2 σ 7 0 1) 0 0 S.ro (by omega)
    refine ⟨?_, IH.2⟩
    have T := S.tr IH.1
    exact ⟨T.1, T.2.1, T.2.2.1, T.2.2.2.1, T.2.2.2.2.1, fun q => absurd (IH.1.2.2.2.2.2.1 q).1 (show ¬ (1 : Int32) = 0 by decide), T.2.2.2.2.2.2⟩
  by_cases c1 : σ 7 0 = 0
  · rw [if_pos c1]
    by_cases c2 : f_X12_in (f_X12_here σ) (48 : Int32) (57 : Int32) = 0
    · rw [if_pos c2]
      exact bad
    · rw [if_neg c2]
      obtain ⟨d1, d2⟩ := in_ne c2
      have e48 : (48 : Int32).toInt = 48 := Eq.refl _
      have e57 : (57 : Int32).toInt = 57 := Eq.refl _
      have S := wr_q h (W := 0) (Or.inl (Eq.refl _)) (fun _ => c1)
      have T := spot_q (σ := up2 σ 7 0 0) S.ro (by show 0 ≤ (f_X12_here σ).toInt; omega)
      have IH := figs_q 2 (((10 : Int32) * 0 + f_X12_here σ) - (48 : Int32)) (0 + 1) T.ro (by
        have q2 : ((10 : Int32) * 0 + f_X12_here σ) = f_X12_here σ := by rw [show (10 : Int32) * 0 = 0 by decide, Int32.zero_add]
        rw [q2]
        have q3 := ti_sub (a := f_X12_here σ) (b := 48) (by omega) (by omega)
        have e1 : ((0 : Int32) + 1).toInt = 1 := Eq.refl _
        omega)
      have e : g_X12_figures_34 3 (up2 σ 7 0 0) 0 0 = g_X12_figures_34 2 (up2 (up2 σ 7 0 0) 5 0 (σ 5 0 + 1)) (((10 : Int32) * 0 + f_X12_here σ) - (48 : Int32)) (0 + 1) := by
        rw [show g_X12_figures_34 3 (up2 σ 7 0 0) 0 0 = f_X12_figures_34 (g_X12_figures_34 2) (up2 σ 7 0 0) 0 0 from Eq.refl _]
        unfold f_X12_figures_34
        rw [if_neg (by decide), if_pos (show (up2 σ 7 0 0) 7 0 = 0 from Eq.refl _), if_neg (show ¬ f_X12_in (f_X12_here (up2 σ 7 0 0)) 48 57 = 0 from c2), if_pos (Eq.refl _)]
        exact Eq.refl _
      rw [e]
      exact ⟨((S.tr T).tr IH.1).le (by decide), IH.2⟩
  · rw [if_neg c1]
    exact bad
theorem ix_ac {σ : St} (h : RO σ) : ix ((211 : Int32) + σ 4 0) = 211 + ac σ := by
  obtain ⟨p5, p56, p6, e4, e4b, em, emb, hw⟩ := h
  have e : (211 : Int32).toInt = 211 := Eq.refl _
  have q := ti_add (a := 211) (b := σ 4 0) (by omega) (by omega)
  have r := ti_ix (i := 211 + σ 4 0) (by omega)
  unfold ac
  omega
theorem emits_q {σ : St} (h : RO σ) {a : Int32} (hp : σ 7 0 = 0 → mn σ + 1 ≤ (σ 5 0).toInt) : SQ (-1) σ (f_X12_emits σ a) := by
  unfold f_X12_emits
  by_cases c : σ 7 0 = 0
  · rw [if_pos c]
    have hp := hp c
    have hi := ix_ac h
    obtain ⟨p5, p56, p6, e4, e4b, em, emb, hw⟩ := h
    have e1 : (1 : Int32).toInt = 1 := Eq.refl _
    have e216 : (216 : Int32).toInt = 216 := Eq.refl _
    have q1 := ti_mulR (n := 140) (a := 140) (b := σ 4 0) (Eq.refl _) (by omega) (by omega)
    have q2 := ti_add (a := 216) (b := 140 * σ 4 0) (by omega) (by omega)
    rw [hi]
    have em' : mn σ = (σ 1 (211 + ac σ)).toInt := Eq.refl _
    have q3 := ti_add (a := 216 + 140 * σ 4 0) (b := σ 1 (211 + ac σ)) (by omega) (by omega)
    have q4 := ti_ix (i := 216 + 140 * σ 4 0 + σ 1 (211 + ac σ)) (by omega)
    have hac : ((ac σ : Nat) : Int) = (σ 4 0).toInt := Int.toNat_of_nonneg e4
    have q5 := ti_add (a := σ 1 (211 + ac σ)) (b := 1) (by omega) (by omega)
    generalize hJ : ix (216 + 140 * σ 4 0 + σ 1 (211 + ac σ)) = J at q4 ⊢
    have hne : ¬ (211 + ac σ = J) := by omega
    have k1 : ∀ i, (up2 (up2 σ 1 J a) 1 (211 + ac σ) (((up2 σ 1 J a) 1 (211 + ac σ)) + 1)) 1 i = if i = 211 + ac σ then σ 1 (211 + ac σ) + 1 else if i = J then a else σ 1 i := fun i => by
      show (if i = 211 + ac σ then (if 211 + ac σ = J then a else σ 1 (211 + ac σ)) + 1 else if i = J then a else σ 1 i) = _
      rw [if_neg hne]
    have k4 : (up2 (up2 σ 1 J a) 1 (211 + ac σ) (((up2 σ 1 J a) 1 (211 + ac σ)) + 1)) 4 0 = σ 4 0 := Eq.refl _
    have ko : ∀ k, k ≠ 1 → (up2 (up2 σ 1 J a) 1 (211 + ac σ) (((up2 σ 1 J a) 1 (211 + ac σ)) + 1)) k = σ k := fun k hk => by
      show (if k = 1 then _ else if k = 1 then _ else σ k) = σ k
      rw [if_neg hk, if_neg hk]
    generalize (up2 (up2 σ 1 J a) 1 (211 + ac σ) (((up2 σ 1 J a) 1 (211 + ac σ)) + 1)) = u at k1 k4 ko ⊢
    have au : ac u = ac σ := by unfold ac; rw [k4]
    have mu : mn u = mn σ + 1 := by
      unfold mn
      rw [au, k1, if_pos (Eq.refl _), q5]
      omega
    have k5 := ko 5 (by decide)
    have k6 := ko 6 (by decide)
    have k7 := ko 7 (by decide)
    have k8 := ko 8 (by decide)
    refine ⟨fun k h1 h5 h7 h8 => ko k h1, by rw [k8], ⟨by rw [k5]; exact p5, by rw [k5, k6]; exact p56, by rw [k6]; exact p6, by rw [k4]; exact e4, by rw [k4]; exact e4b, by omega, by rw [k5]; omega, by rw [k7]; exact hw⟩, by rw [k5]; exact Int.le_refl _, by omega, fun _ => ⟨c, by rw [k5]; omega⟩, fun i h1 h2 => ?_⟩
    rw [k1, if_neg h1, if_neg (by omega)]
  · rw [if_neg c]
    exact ⟨fun _ _ _ _ _ => Eq.refl _, Eq.refl _, h, Int.le_refl _, Int.le_refl _, fun q => absurd q c, fun _ _ _ => Eq.refl _⟩
/-- how deep: open, of at most six -/
def FP (o : Int) (σ : St) : Prop := RO σ ∧ (σ 8 0).toInt = o ∧ 0 ≤ o ∧ o ≤ 6 ∧ (o = 6 → ¬ σ 7 0 = 0)
theorem FP.sq {o j : Int} {σ u : St} (h : FP o σ) (S : SQ j σ u) : FP o u := ⟨S.ro, by rw [S.2.1]; exact h.2.1, h.2.2.1, h.2.2.2.1, fun q r => h.2.2.2.2 q (S.2.2.2.2.2.1 r).1⟩
set_option maxRecDepth 20000 in
theorem w_1108 : (Cond.methodLink RX12 84 yX12_factor) ∈ TB := inTB (List.mem_of_getElem? (i := 1108) (by decide +kernel)) (by decide +kernel)
set_option maxRecDepth 20000 in
theorem w_1111 : (Cond.code yX12_factor cX12_factor 5 none) ∈ TB := inTB (List.mem_of_getElem? (i := 1111) (by decide +kernel)) (by decide +kernel)
set_option maxRecDepth 20000 in
theorem w_1110 : (Cond.instanceMethod yX12_factor) ∈ TB := inTB (List.mem_of_getElem? (i := 1110) (by decide +kernel)) (by decide +kernel)
set_option maxRecDepth 20000 in
theorem w_46 : (Cond.selects RX12 yX12_factor yX12_factor) ∈ TB := inTB (List.mem_of_getElem? (i := 46) (by decide +kernel)) (by decide +kernel)
theorem cf_X12_factor : CF yX12_factor cX12_factor 5 none 0 := ⟨w_1110, w_46, w_75, w_1111, by decide +kernel, by decide +kernel, by decide +kernel⟩
set_option maxRecDepth 20000 in
theorem w_1112 : (Cond.methodLink RX12 87 yX12_emits) ∈ TB := inTB (List.mem_of_getElem? (i := 1112) (by decide +kernel)) (by decide +kernel)
set_option maxRecDepth 20000 in
theorem w_1115 : (Cond.code yX12_emits cX12_emits 2 none) ∈ TB := inTB (List.mem_of_getElem? (i := 1115) (by decide +kernel)) (by decide +kernel)
set_option maxRecDepth 20000 in
theorem w_1114 : (Cond.instanceMethod yX12_emits) ∈ TB := inTB (List.mem_of_getElem? (i := 1114) (by decide +kernel)) (by decide +kernel)
set_option maxRecDepth 20000 in
theorem w_47 : (Cond.selects RX12 yX12_emits yX12_emits) ∈ TB := inTB (List.mem_of_getElem? (i := 47) (by decide +kernel)) (by decide +kernel)
theorem cf_X12_emits : CF yX12_emits cX12_emits 2 none 1 := ⟨w_1114, w_47, w_75, w_1115, by decide +kernel, by decide +kernel, by decide +kernel⟩
/-! ThreeMeasuresModel.every -/
theorem dX12_every_0 : decode cX12_every 0 = .ok (.aload_n 0, 1) := by decide +kernel
theorem dX12_every_1 : decode cX12_every 1 = .ok (.invokevirtual 84, 3) := by decide +kernel
theorem dX12_every_4 : decode cX12_every 4 = .ok (.aload_n 0, 1) := by decide +kernel
theorem dX12_every_5 : decode cX12_every 5 = .ok (.getfield 57, 3) := by decide +kernel
theorem dX12_every_8 : decode cX12_every 8 = .ok (.ifCond .ne 35, 3) := by decide +kernel
theorem dX12_every_11 : decode cX12_every 11 = .ok (.aload_n 0, 1) := by decide +kernel
theorem dX12_every_12 : decode cX12_every 12 = .ok (.invokevirtual 61, 3) := by decide +kernel
theorem dX12_every_15 : decode cX12_every 15 = .ok (.bipush 38, 2) := by decide +kernel
theorem dX12_every_17 : decode cX12_every 17 = .ok (.if_icmp .ne 26, 3) := by decide +kernel
theorem dX12_every_20 : decode cX12_every 20 = .ok (.aload_n 0, 1) := by decide +kernel
theorem dX12_every_21 : decode cX12_every 21 = .ok (.dup, 1) := by decide +kernel
theorem dX12_every_22 : decode cX12_every 22 = .ok (.getfield 51, 3) := by decide +kernel
theorem dX12_every_25 : decode cX12_every 25 = .ok (.iconst 1, 1) := by decide +kernel
theorem dX12_every_26 : decode cX12_every 26 = .ok (.iadd, 1) := by decide +kernel
theorem dX12_every_27 : decode cX12_every 27 = .ok (.putfield 51, 3) := by decide +kernel
theorem dX12_every_30 : decode cX12_every 30 = .ok (.aload_n 0, 1) := by decide +kernel
theorem dX12_every_31 : decode cX12_every 31 = .ok (.invokevirtual 84, 3) := by decide +kernel
theorem dX12_every_34 : decode cX12_every 34 = .ok (.aload_n 0, 1) := by decide +kernel
theorem dX12_every_35 : decode cX12_every 35 = .ok (.bipush (-2), 2) := by decide +kernel
theorem dX12_every_37 : decode cX12_every 37 = .ok (.invokevirtual 87, 3) := by decide +kernel
theorem dX12_every_40 : decode cX12_every 40 = .ok (.goto (-36), 3) := by decide +kernel
theorem dX12_every_43 : decode cX12_every 43 = .ok (.return_, 1) := by decide +kernel
def f_X12_every_4 (Ff : St → St) (K4 : St → St) (σ : St) : St := (if (σ 7 0) = 0 then (if (f_X12_here σ ) = (38 : Int32) then (bd1 (Ff (up2 σ 5 0 ((σ 5 0) + (1 : Int32)))) (fun u31 => (bd1 (f_X12_emits u31 (-2 : Int32)) (fun u37 => (K4 u37))))) else σ) else σ)
set_option maxHeartbeats 600000 in
set_option maxRecDepth 100000 in
theorem b_X12_every_4 {g : GG} {aK aV : Nat → Nat} {p : Program} {l : Launch} {e : Env} {s : State} {m : MethodId} {args : Array Value} {below : List Frame} {meth : Method} {c : Code} {A : Nat → Prop} {tgt : St} {K4 : St → St} {N4 : Nat} (o : Int) (Ff : St → St) (frF loF : Nat) (kF : ∀ σ : St, FP o σ → MV l yX12_factor (wsF yX12_factor cX12_factor 5 none) { frames := frF, cells := 0, slots := 0, locals := loF } [.ref (g.2.2 100)] g (mW g) (MB aK aV (AM g)) σ (Ff σ)) (qF : ∀ σ : St, FP o σ → SQ 0 σ (Ff σ)) (C0 : BC p s m args meth c cX12_every RX12 1 none) (hK4 : ∀ (σ : St), (FP o σ) → ((σ 6 0).toInt - (σ 5 0).toInt).toNat < N4 → ∀ {H : Heap} {locs : List Loc}, KK g s → WC g (mW g) A s.heap σ H locs → MB aK aV (AM g) s → (∀ q, A q → AM g q) →  ∀ {ls : Array Slot}, lv_has ls 1 [(0, .ref (g.2.2 100))] → K4 σ = tgt → W p l e { frames := frF + 1, cells := 0, slots := 0, locals := loF + 24 } s m args below meth c H locs 0 0 (QMV below args s g (mW g) A tgt) (F0 m 4 ls [])) {σ : St} {H : Heap} {locs : List Loc} (hP : FP o σ) (hm : ((σ 6 0).toInt - (σ 5 0).toInt).toNat < N4 + 1) (hK : KK g s) (hC : WC g (mW g) A s.heap σ H locs) (hB : MB aK aV (AM g) s) (hA : ∀ q, A q → AM g q) {ls : Array Slot} (hl : lv_has ls 1 [(0, .ref (g.2.2 100))]) (hT : f_X12_every_4 Ff K4 σ = tgt) : W p l e { frames := frF + 1, cells := 0, slots := 0, locals := loF + 24 } s m args below meth c H locs 0 0 (QMV below args s g (mW g) A tgt) (F0 m 4 ls []) := by
  obtain ⟨hx, hb, hr, hml, hown, hts, hlocks⟩ := id C0
  unfold f_X12_every_4 at hT
  have hR := hP.1
  obtain ⟨p5, p56, p6, e4, e4b, em, emb, hw⟩ := id hR
  refine lv_aload_n hx hb dX12_every_4 rfl (lv_at hl 0 rfl) ?_
  refine m_get (σ := σ) (v := .int ((σ 7 0))) C0 hK hC.1 7 (by decide) rfl w_974 dX12_every_5 ?_
  refine lv_if_ne (tgt := 43) hx hb dX12_every_8 (by decide) (fun c_8 => ?_) (fun c_8 => ?_)
  · have hT := hT_neg c_8 hT
    exact ret_MV C0 hC hT dX12_every_43
  · have hT := hT_pos c_8 hT
    refine lv_aload_n hx hb dX12_every_11 rfl (lv_at hl 0 rfl) ?_
    have q12_p5 : 0 ≤ (σ 5 0).toInt := by
      have : ((0 : Int32)).toInt = 0 := by decide
      have := ti_eq.mp c_8
      omega
    have q12_p56 : (σ 5 0).toInt ≤ (σ 6 0).toInt := by
      have : ((0 : Int32)).toInt = 0 := by decide
      have := ti_eq.mp c_8
      omega
    have q12_p6 : (σ 6 0).toInt ≤ 100 := by
      have : ((0 : Int32)).toInt = 0 := by decide
      have := ti_eq.mp c_8
      omega
    refine m_ci (rest := []) (As := []) (σ := σ) C0 hK hC.1 (hC.2.1.weaken (fun _ _ _ _ => trivial)) SV.tt (fun _ _ _ => trivial) cf_X12_here w_1071 rfl (k_X12_here l g σ  q12_p5 q12_p56 q12_p6) ⟨(by dsimp only; omega), (by dsimp only; omega)⟩ hl.1 rfl rfl (Nat.le_of_ble_eq_true rfl) dX12_every_12 ⟨Nat.zero_le _, Nat.zero_le _⟩ ?_
    refine lv_bipush (v := (38 : Int32)) hx hb dX12_every_15 (by decide) ?_
    refine lv_icmp_ne (tgt := 43) hx hb dX12_every_17 (by decide) (fun c_17 => ?_) (fun c_17 => ?_)
    · have hT := hT_neg c_17 hT
      exact ret_MV C0 hC hT dX12_every_43
    · have hT := hT_pos c_17 hT
      refine lv_aload_n hx hb dX12_every_20 rfl (lv_at hl 0 rfl) ?_
      refine lv_dup hx hb dX12_every_21 rfl ?_
      refine m_get (σ := σ) (v := .int ((σ 5 0))) C0 hK hC.1 5 (by decide) rfl w_972 dX12_every_22 ?_
      refine lv_iconst (v := (1 : Int32)) hx hb dX12_every_25 (by decide) ?_
      refine lv_iadd hx hb dX12_every_26 ?_
      refine m_put (σ := σ) (ty := .int) C0 hK hC 5 (by decide) rfl rfl rfl rfl (ms_5 g _ _) w_972 dX12_every_27 (fun H locs hC => ?_)
      have S1 : SQ 1 σ (up2 σ 5 0 ((σ 5 0) + (1 : Int32))) := spot_q hR (by rw [c_17]; decide)
      refine lv_aload_n hx hb dX12_every_30 rfl (lv_at hl 0 rfl) ?_
      have q31_hP : FP o (up2 σ 5 0 ((σ 5 0) + (1 : Int32))) := hP.sq S1
      refine m_mv (rest := []) (As := []) (σ := (up2 σ 5 0 ((σ 5 0) + (1 : Int32)))) C0 hK hC MB.sv (fun _ h1 h2 => hB.to (hC.2.2.mono hA) h1 h2) cf_X12_factor w_1108 rfl (kF (up2 σ 5 0 ((σ 5 0) + (1 : Int32))) q31_hP) ⟨(by dsimp only; omega), (by dsimp only; omega)⟩ hl.1 rfl rfl (Nat.le_of_ble_eq_true rfl) dX12_every_31 ⟨Nat.zero_le _, Nat.zero_le _⟩ (fun u31 H locs e31 hC => ?_)
      have hT := bd1_e e31 hT
      have S2 : SQ 0 (up2 σ 5 0 ((σ 5 0) + (1 : Int32))) u31 := by rw [e31]; exact qF _ (hP.sq S1)
      have hm1 := ((S1.tr S2).2.2.2.2.2.1)
      obtain ⟨b5, b56, b6, b4, b4b, bm, bmb, bw⟩ := id S2.ro
      refine lv_aload_n hx hb dX12_every_34 rfl (lv_at hl 0 rfl) ?_
      refine lv_bipush (v := (-2 : Int32)) hx hb dX12_every_35 (by decide) ?_
      have q37_e4 : 0 ≤ (u31 4 0).toInt := by
        have : ((0 : Int32)).toInt = 0 := by decide
        have : ((38 : Int32)).toInt = 38 := by decide
        have : ((-2 : Int32)).toInt = -2 := by decide
        have := ti_eq.mp c_8
        have := ti_eq.mp c_17
        omega
      have q37_e4b : (u31 4 0).toInt < 5 := by
        have : ((0 : Int32)).toInt = 0 := by decide
        have : ((38 : Int32)).toInt = 38 := by decide
        have : ((-2 : Int32)).toInt = -2 := by decide
        have := ti_eq.mp c_8
        have := ti_eq.mp c_17
        omega
      have q37_em : 0 ≤ (u31 1 (ix (211 + u31 4 0))).toInt := by rw [ix_ac S2.ro]; exact bm
      have q37_emb : (u31 1 (ix (211 + u31 4 0))).toInt < 140 := by rw [ix_ac S2.ro]; show mn u31 < 140; omega
      refine m_mv (rest := []) (As := [.int ((-2 : Int32))]) (σ := u31) C0 hK hC SV.tt (fun _ _ _ => trivial) cf_X12_emits w_1112 rfl (k_X12_emits l g u31 (-2 : Int32) q37_e4 q37_e4b q37_em q37_emb) ⟨(by dsimp only; omega), (by dsimp only; omega)⟩ hl.1 rfl rfl (Nat.le_of_ble_eq_true rfl) dX12_every_37 ⟨Nat.zero_le _, Nat.zero_le _⟩ (fun u37 H locs e37 hC => ?_)
      have hT := bd1_e e37 hT
      have S3 : SQ (-1) u31 u37 := by rw [e37]; exact emits_q S2.ro (fun q => by have := (hm1 q).2; omega)
      have S := (S1.tr S2).tr S3
      have h6 := congrArg Int32.toInt (congrFun (S.1 6 (by decide) (by decide) (by decide) (by decide)) 0)
      have h5 := S2.2.2.2.1
      have h5b := S3.2.2.2.1
      have h5c : (σ 5 0 + 1).toInt = (σ 5 0).toInt + 1 := ti_add (by have z : (1 : Int32).toInt = 1 := Eq.refl _; omega) (by have z : (1 : Int32).toInt = 1 := Eq.refl _; have := he_lt (σ := σ) (by rw [c_17]; decide); omega)
      have h5d : (up2 σ 5 0 ((σ 5 0) + (1 : Int32)) 5 0) = σ 5 0 + 1 := Eq.refl _
      have h9 := he_lt (σ := σ) (by rw [c_17]; decide)
      rw [h5d] at h5
      refine lv_goto (tgt := 4) hx hb dX12_every_40 (by decide) ?_
      have j40_hP : FP o u37 := hP.sq S
      have j40_m : ((u37 6 0).toInt - (u37 5 0).toInt).toNat < N4 := by
        omega
      exact hK4 u37 j40_hP j40_m hK hC hB hA hl hT
def g_X12_every_4 (Ff : St → St)  : Nat → St → St
  | 0 => fun σ => σ
  | n + 1 => fun σ => f_X12_every_4 Ff  (g_X12_every_4 Ff  n) σ
theorem l_X12_every_4 {g : GG} {aK aV : Nat → Nat} {p : Program} {l : Launch} {e : Env} {s : State} {m : MethodId} {args : Array Value} {below : List Frame} {meth : Method} {c : Code} {A : Nat → Prop} {tgt : St}  (o : Int) (Ff : St → St) (frF loF : Nat) (kF : ∀ σ : St, FP o σ → MV l yX12_factor (wsF yX12_factor cX12_factor 5 none) { frames := frF, cells := 0, slots := 0, locals := loF } [.ref (g.2.2 100)] g (mW g) (MB aK aV (AM g)) σ (Ff σ)) (qF : ∀ σ : St, FP o σ → SQ 0 σ (Ff σ)) (C0 : BC p s m args meth c cX12_every RX12 1 none)  : ∀ (n : Nat) (σ : St), (FP o σ) → ((σ 6 0).toInt - (σ 5 0).toInt).toNat < n → ∀ {H : Heap} {locs : List Loc}, KK g s → WC g (mW g) A s.heap σ H locs → MB aK aV (AM g) s → (∀ q, A q → AM g q) →  ∀ {ls : Array Slot}, lv_has ls 1 [(0, .ref (g.2.2 100))] → g_X12_every_4 Ff  n σ = tgt → W p l e { frames := frF + 1, cells := 0, slots := 0, locals := loF + 24 } s m args below meth c H locs 0 0 (QMV below args s g (mW g) A tgt) (F0 m 4 ls []) := by
  intro n
  induction n with
  | zero => intro σ hP hm; exact absurd hm (Nat.not_lt_zero _)
  | succ n ih =>
    intro σ hP hm H locs hK hC hB hA ls hl hT
    exact b_X12_every_4 (g := g) (aK := aK) (aV := aV) o Ff frF loF kF qF (K4 := g_X12_every_4 Ff  n) (N4 := n) C0  (fun σ hP hmq => ih σ hP hmq) hP hm hK hC hB hA hl hT
def f_X12_every (Ff : St → St) (σ : St) : St := (bd1 (Ff σ) (fun u1 => (g_X12_every_4 Ff  (101) u1)))
set_option maxHeartbeats 600000 in
set_option maxRecDepth 100000 in
theorem k_X12_every (l : Launch) (g : GG) (aK aV : Nat → Nat) (o : Int) (Ff : St → St) (frF loF : Nat) (kF : ∀ σ : St, FP o σ → MV l yX12_factor (wsF yX12_factor cX12_factor 5 none) { frames := frF, cells := 0, slots := 0, locals := loF } [.ref (g.2.2 100)] g (mW g) (MB aK aV (AM g)) σ (Ff σ)) (qF : ∀ σ : St, FP o σ → SQ 0 σ (Ff σ)) (σ : St) (hP : FP o σ) : MV l yX12_every (wsF yX12_every cX12_every 1 none) { frames := frF + 1, cells := 0, slots := 0, locals := loF + 24 } [.ref (g.2.2 100)] g (mW g) (MB aK aV (AM g)) σ (f_X12_every Ff σ) := by
  refine start_MV (by decide) (Nat.le_of_ble_eq_true rfl) ?_
  intro p e s m args below meth c C0 hK hB hC ls hl
  generalize hAe : aA ((mW g) σ) = A at hC ⊢
  have hA : ∀ q, A q → AM g q := fun q h => by rw [← hAe] at h; exact h
  obtain ⟨hx, hb, hr, hml, hown, hts, hlocks⟩ := id C0
  have hl : lv_has ls 1 [(0, .ref (g.2.2 100))] := hl
  generalize hT : (f_X12_every Ff σ) = tgt
  suffices key : ∀ (H : Heap) (locs : List Loc), WC g (mW g) A s.heap σ H locs → W p l e { frames := frF + 1, cells := 0, slots := 0, locals := loF + 24 } s m args below meth c H locs 0 0 (QMV below args s g (mW g) A tgt) (F0 m 0 ls []) from key _ _ hC
  intro H locs hC
  unfold f_X12_every at hT
  have hR := hP.1
  obtain ⟨p5, p56, p6, e4, e4b, em, emb, hw⟩ := id hR
  refine lv_aload_n hx hb dX12_every_0 rfl (lv_at hl 0 rfl) ?_
  refine m_mv (rest := []) (As := []) (σ := σ) C0 hK hC MB.sv (fun _ h1 h2 => hB.to (hC.2.2.mono hA) h1 h2) cf_X12_factor w_1108 rfl (kF σ hP) ⟨(by dsimp only; omega), (by dsimp only; omega)⟩ hl.1 rfl rfl (Nat.le_of_ble_eq_true rfl) dX12_every_1 ⟨Nat.zero_le _, Nat.zero_le _⟩ (fun u1 H locs e1 hC => ?_)
  have hT := bd1_e e1 hT
  have S0 : SQ 0 σ u1 := by rw [e1]; exact qF _ hP
  obtain ⟨b5, b56, b6, -⟩ := id S0.ro
  have j1_hP : FP o u1 := hP.sq S0
  have j1_m : ((u1 6 0).toInt - (u1 5 0).toInt).toNat < 101 := by
    omega
  exact l_X12_every_4 (g := g) (aK := aK) (aV := aV) o Ff frF loF kF qF C0   (101) u1 j1_hP j1_m hK hC hB hA hl hT
theorem every_l {o : Int} {Ff : St → St} (qF : ∀ σ : St, FP o σ → SQ 0 σ (Ff σ)) : ∀ (n : Nat) {σ : St}, FP o σ → SQ 0 σ (g_X12_every_4 Ff n σ)
  | 0, σ, h => SQ.rfl h.1
  | n + 1, σ, h => by
    rw [show g_X12_every_4 Ff (n + 1) σ = f_X12_every_4 Ff (g_X12_every_4 Ff n) σ from Eq.refl _]
    unfold f_X12_every_4
    by_cases c8 : σ 7 0 = 0
    · rw [if_pos c8]
      by_cases c17 : f_X12_here σ = (38 : Int32)
      · rw [if_pos c17]
        have S1 := spot_q h.1 (by rw [c17]; decide)
        have S2 := qF _ (h.sq S1)
        have S3 := emits_q (a := -2) S2.ro (fun q => by have := ((S1.tr S2).2.2.2.2.2.1 q).2; have := h.1.2.2.2.2.2.2.1; omega)
        have S := (S1.tr S2).tr S3
        exact (S.tr (every_l qF n (h.sq S))).le (by decide)
      · rw [if_neg c17]
        exact SQ.rfl h.1
    · rw [if_neg c8]
      exact SQ.rfl h.1
theorem every_q {o : Int} {Ff : St → St} (qF : ∀ σ : St, FP o σ → SQ 0 σ (Ff σ)) (σ : St) (h : FP o σ) : SQ 0 σ (f_X12_every Ff σ) := by
  unfold f_X12_every
  have S := qF _ h
  exact (S.tr (every_l qF _ (h.sq S))).le (by decide)
set_option maxRecDepth 20000 in
theorem w_1104 : (Cond.methodLink RX12 104 yX12_every) ∈ TB := inTB (List.mem_of_getElem? (i := 1104) (by decide +kernel)) (by decide +kernel)
set_option maxRecDepth 20000 in
theorem w_1107 : (Cond.code yX12_every cX12_every 1 none) ∈ TB := inTB (List.mem_of_getElem? (i := 1107) (by decide +kernel)) (by decide +kernel)
set_option maxRecDepth 20000 in
theorem w_1106 : (Cond.instanceMethod yX12_every) ∈ TB := inTB (List.mem_of_getElem? (i := 1106) (by decide +kernel)) (by decide +kernel)
set_option maxRecDepth 20000 in
theorem w_45 : (Cond.selects RX12 yX12_every yX12_every) ∈ TB := inTB (List.mem_of_getElem? (i := 45) (by decide +kernel)) (by decide +kernel)
theorem cf_X12_every : CF yX12_every cX12_every 1 none 0 := ⟨w_1106, w_45, w_75, w_1107, by decide +kernel, by decide +kernel, by decide +kernel⟩
/-! ThreeMeasuresModel.some -/
theorem dX12_some_0 : decode cX12_some 0 = .ok (.aload_n 0, 1) := by decide +kernel
theorem dX12_some_1 : decode cX12_some 1 = .ok (.invokevirtual 104, 3) := by decide +kernel
theorem dX12_some_4 : decode cX12_some 4 = .ok (.aload_n 0, 1) := by decide +kernel
theorem dX12_some_5 : decode cX12_some 5 = .ok (.getfield 57, 3) := by decide +kernel
theorem dX12_some_8 : decode cX12_some 8 = .ok (.ifCond .ne 35, 3) := by decide +kernel
theorem dX12_some_11 : decode cX12_some 11 = .ok (.aload_n 0, 1) := by decide +kernel
theorem dX12_some_12 : decode cX12_some 12 = .ok (.invokevirtual 61, 3) := by decide +kernel
theorem dX12_some_15 : decode cX12_some 15 = .ok (.bipush 124, 2) := by decide +kernel
theorem dX12_some_17 : decode cX12_some 17 = .ok (.if_icmp .ne 26, 3) := by decide +kernel
theorem dX12_some_20 : decode cX12_some 20 = .ok (.aload_n 0, 1) := by decide +kernel
theorem dX12_some_21 : decode cX12_some 21 = .ok (.dup, 1) := by decide +kernel
theorem dX12_some_22 : decode cX12_some 22 = .ok (.getfield 51, 3) := by decide +kernel
theorem dX12_some_25 : decode cX12_some 25 = .ok (.iconst 1, 1) := by decide +kernel
theorem dX12_some_26 : decode cX12_some 26 = .ok (.iadd, 1) := by decide +kernel
theorem dX12_some_27 : decode cX12_some 27 = .ok (.putfield 51, 3) := by decide +kernel
theorem dX12_some_30 : decode cX12_some 30 = .ok (.aload_n 0, 1) := by decide +kernel
theorem dX12_some_31 : decode cX12_some 31 = .ok (.invokevirtual 104, 3) := by decide +kernel
theorem dX12_some_34 : decode cX12_some 34 = .ok (.aload_n 0, 1) := by decide +kernel
theorem dX12_some_35 : decode cX12_some 35 = .ok (.bipush (-3), 2) := by decide +kernel
theorem dX12_some_37 : decode cX12_some 37 = .ok (.invokevirtual 87, 3) := by decide +kernel
theorem dX12_some_40 : decode cX12_some 40 = .ok (.goto (-36), 3) := by decide +kernel
theorem dX12_some_43 : decode cX12_some 43 = .ok (.return_, 1) := by decide +kernel
def f_X12_some_4 (Ff : St → St) (K4 : St → St) (σ : St) : St := (if (σ 7 0) = 0 then (if (f_X12_here σ ) = (124 : Int32) then (bd1 (f_X12_every Ff (up2 σ 5 0 ((σ 5 0) + (1 : Int32))) ) (fun u31 => (bd1 (f_X12_emits u31 (-3 : Int32)) (fun u37 => (K4 u37))))) else σ) else σ)
set_option maxHeartbeats 600000 in
set_option maxRecDepth 100000 in
theorem b_X12_some_4 {g : GG} {aK aV : Nat → Nat} {p : Program} {l : Launch} {e : Env} {s : State} {m : MethodId} {args : Array Value} {below : List Frame} {meth : Method} {c : Code} {A : Nat → Prop} {tgt : St} {K4 : St → St} {N4 : Nat} (o : Int) (Ff : St → St) (frF loF : Nat) (kF : ∀ σ : St, FP o σ → MV l yX12_factor (wsF yX12_factor cX12_factor 5 none) { frames := frF, cells := 0, slots := 0, locals := loF } [.ref (g.2.2 100)] g (mW g) (MB aK aV (AM g)) σ (Ff σ)) (qF : ∀ σ : St, FP o σ → SQ 0 σ (Ff σ)) (C0 : BC p s m args meth c cX12_some RX12 1 none) (hK4 : ∀ (σ : St), (FP o σ) → ((σ 6 0).toInt - (σ 5 0).toInt).toNat < N4 → ∀ {H : Heap} {locs : List Loc}, KK g s → WC g (mW g) A s.heap σ H locs → MB aK aV (AM g) s → (∀ q, A q → AM g q) →  ∀ {ls : Array Slot}, lv_has ls 1 [(0, .ref (g.2.2 100))] → K4 σ = tgt → W p l e { frames := frF + 2, cells := 0, slots := 0, locals := loF + 44 } s m args below meth c H locs 0 0 (QMV below args s g (mW g) A tgt) (F0 m 4 ls [])) {σ : St} {H : Heap} {locs : List Loc} (hP : FP o σ) (hm : ((σ 6 0).toInt - (σ 5 0).toInt).toNat < N4 + 1) (hK : KK g s) (hC : WC g (mW g) A s.heap σ H locs) (hB : MB aK aV (AM g) s) (hA : ∀ q, A q → AM g q) {ls : Array Slot} (hl : lv_has ls 1 [(0, .ref (g.2.2 100))]) (hT : f_X12_some_4 Ff K4 σ = tgt) : W p l e { frames := frF + 2, cells := 0, slots := 0, locals := loF + 44 } s m args below meth c H locs 0 0 (QMV below args s g (mW g) A tgt) (F0 m 4 ls []) := by
  obtain ⟨hx, hb, hr, hml, hown, hts, hlocks⟩ := id C0
  unfold f_X12_some_4 at hT
  have hR := hP.1
  obtain ⟨p5, p56, p6, e4, e4b, em, emb, hw⟩ := id hR
  refine lv_aload_n hx hb dX12_some_4 rfl (lv_at hl 0 rfl) ?_
  refine m_get (σ := σ) (v := .int ((σ 7 0))) C0 hK hC.1 7 (by decide) rfl w_974 dX12_some_5 ?_
  refine lv_if_ne (tgt := 43) hx hb dX12_some_8 (by decide) (fun c_8 => ?_) (fun c_8 => ?_)
  · have hT := hT_neg c_8 hT
    exact ret_MV C0 hC hT dX12_some_43
  · have hT := hT_pos c_8 hT
    refine lv_aload_n hx hb dX12_some_11 rfl (lv_at hl 0 rfl) ?_
    have q12_p5 : 0 ≤ (σ 5 0).toInt := by
      have : ((0 : Int32)).toInt = 0 := by decide
      have := ti_eq.mp c_8
      omega
    have q12_p56 : (σ 5 0).toInt ≤ (σ 6 0).toInt := by
      have : ((0 : Int32)).toInt = 0 := by decide
      have := ti_eq.mp c_8
      omega
    have q12_p6 : (σ 6 0).toInt ≤ 100 := by
      have : ((0 : Int32)).toInt = 0 := by decide
      have := ti_eq.mp c_8
      omega
    refine m_ci (rest := []) (As := []) (σ := σ) C0 hK hC.1 (hC.2.1.weaken (fun _ _ _ _ => trivial)) SV.tt (fun _ _ _ => trivial) cf_X12_here w_1071 rfl (k_X12_here l g σ  q12_p5 q12_p56 q12_p6) ⟨(by dsimp only; omega), (by dsimp only; omega)⟩ hl.1 rfl rfl (Nat.le_of_ble_eq_true rfl) dX12_some_12 ⟨Nat.zero_le _, Nat.zero_le _⟩ ?_
    refine lv_bipush (v := (124 : Int32)) hx hb dX12_some_15 (by decide) ?_
    refine lv_icmp_ne (tgt := 43) hx hb dX12_some_17 (by decide) (fun c_17 => ?_) (fun c_17 => ?_)
    · have hT := hT_neg c_17 hT
      exact ret_MV C0 hC hT dX12_some_43
    · have hT := hT_pos c_17 hT
      refine lv_aload_n hx hb dX12_some_20 rfl (lv_at hl 0 rfl) ?_
      refine lv_dup hx hb dX12_some_21 rfl ?_
      refine m_get (σ := σ) (v := .int ((σ 5 0))) C0 hK hC.1 5 (by decide) rfl w_972 dX12_some_22 ?_
      refine lv_iconst (v := (1 : Int32)) hx hb dX12_some_25 (by decide) ?_
      refine lv_iadd hx hb dX12_some_26 ?_
      refine m_put (σ := σ) (ty := .int) C0 hK hC 5 (by decide) rfl rfl rfl rfl (ms_5 g _ _) w_972 dX12_some_27 (fun H locs hC => ?_)
      have S1 : SQ 1 σ (up2 σ 5 0 ((σ 5 0) + (1 : Int32))) := spot_q hR (by rw [c_17]; decide)
      refine lv_aload_n hx hb dX12_some_30 rfl (lv_at hl 0 rfl) ?_
      have q31_hP : FP o (up2 σ 5 0 ((σ 5 0) + (1 : Int32))) := hP.sq S1
      refine m_mv (rest := []) (As := []) (σ := (up2 σ 5 0 ((σ 5 0) + (1 : Int32)))) C0 hK hC MB.sv (fun _ h1 h2 => hB.to (hC.2.2.mono hA) h1 h2) cf_X12_every w_1104 rfl (k_X12_every l g aK aV o Ff frF loF kF qF (up2 σ 5 0 ((σ 5 0) + (1 : Int32)))  q31_hP) ⟨(by dsimp only; omega), (by dsimp only; omega)⟩ hl.1 rfl rfl (Nat.le_of_ble_eq_true rfl) dX12_some_31 ⟨Nat.zero_le _, Nat.zero_le _⟩ (fun u31 H locs e31 hC => ?_)
      have hT := bd1_e e31 hT
      have S2 : SQ 0 (up2 σ 5 0 ((σ 5 0) + (1 : Int32))) u31 := by rw [e31]; exact every_q qF _ (hP.sq S1)
      have hm1 := ((S1.tr S2).2.2.2.2.2.1)
      obtain ⟨b5, b56, b6, b4, b4b, bm, bmb, bw⟩ := id S2.ro
      refine lv_aload_n hx hb dX12_some_34 rfl (lv_at hl 0 rfl) ?_
      refine lv_bipush (v := (-3 : Int32)) hx hb dX12_some_35 (by decide) ?_
      have q37_e4 : 0 ≤ (u31 4 0).toInt := by
        have : ((0 : Int32)).toInt = 0 := by decide
        have : ((124 : Int32)).toInt = 124 := by decide
        have : ((-3 : Int32)).toInt = -3 := by decide
        have := ti_eq.mp c_8
        have := ti_eq.mp c_17
        omega
      have q37_e4b : (u31 4 0).toInt < 5 := by
        have : ((0 : Int32)).toInt = 0 := by decide
        have : ((124 : Int32)).toInt = 124 := by decide
        have : ((-3 : Int32)).toInt = -3 := by decide
        have := ti_eq.mp c_8
        have := ti_eq.mp c_17
        omega
      have q37_em : 0 ≤ (u31 1 (ix (211 + u31 4 0))).toInt := by rw [ix_ac S2.ro]; exact bm
      have q37_emb : (u31 1 (ix (211 + u31 4 0))).toInt < 140 := by rw [ix_ac S2.ro]; show mn u31 < 140; omega
      refine m_mv (rest := []) (As := [.int ((-3 : Int32))]) (σ := u31) C0 hK hC SV.tt (fun _ _ _ => trivial) cf_X12_emits w_1112 rfl (k_X12_emits l g u31 (-3 : Int32) q37_e4 q37_e4b q37_em q37_emb) ⟨(by dsimp only; omega), (by dsimp only; omega)⟩ hl.1 rfl rfl (Nat.le_of_ble_eq_true rfl) dX12_some_37 ⟨Nat.zero_le _, Nat.zero_le _⟩ (fun u37 H locs e37 hC => ?_)
      have hT := bd1_e e37 hT
      have S3 : SQ (-1) u31 u37 := by rw [e37]; exact emits_q S2.ro (fun q => by have := (hm1 q).2; omega)
      have S := (S1.tr S2).tr S3
      have h6 := congrArg Int32.toInt (congrFun (S.1 6 (by decide) (by decide) (by decide) (by decide)) 0)
      have h5 := S2.2.2.2.1
      have h5b := S3.2.2.2.1
      have h5c : (σ 5 0 + 1).toInt = (σ 5 0).toInt + 1 := ti_add (by have z : (1 : Int32).toInt = 1 := Eq.refl _; omega) (by have z : (1 : Int32).toInt = 1 := Eq.refl _; have := he_lt (σ := σ) (by rw [c_17]; decide); omega)
      have h5d : (up2 σ 5 0 ((σ 5 0) + (1 : Int32)) 5 0) = σ 5 0 + 1 := Eq.refl _
      have h9 := he_lt (σ := σ) (by rw [c_17]; decide)
      rw [h5d] at h5
      refine lv_goto (tgt := 4) hx hb dX12_some_40 (by decide) ?_
      have j40_hP : FP o u37 := hP.sq S
      have j40_m : ((u37 6 0).toInt - (u37 5 0).toInt).toNat < N4 := by
        omega
      exact hK4 u37 j40_hP j40_m hK hC hB hA hl hT
def g_X12_some_4 (Ff : St → St)  : Nat → St → St
  | 0 => fun σ => σ
  | n + 1 => fun σ => f_X12_some_4 Ff  (g_X12_some_4 Ff  n) σ
theorem l_X12_some_4 {g : GG} {aK aV : Nat → Nat} {p : Program} {l : Launch} {e : Env} {s : State} {m : MethodId} {args : Array Value} {below : List Frame} {meth : Method} {c : Code} {A : Nat → Prop} {tgt : St}  (o : Int) (Ff : St → St) (frF loF : Nat) (kF : ∀ σ : St, FP o σ → MV l yX12_factor (wsF yX12_factor cX12_factor 5 none) { frames := frF, cells := 0, slots := 0, locals := loF } [.ref (g.2.2 100)] g (mW g) (MB aK aV (AM g)) σ (Ff σ)) (qF : ∀ σ : St, FP o σ → SQ 0 σ (Ff σ)) (C0 : BC p s m args meth c cX12_some RX12 1 none)  : ∀ (n : Nat) (σ : St), (FP o σ) → ((σ 6 0).toInt - (σ 5 0).toInt).toNat < n → ∀ {H : Heap} {locs : List Loc}, KK g s → WC g (mW g) A s.heap σ H locs → MB aK aV (AM g) s → (∀ q, A q → AM g q) →  ∀ {ls : Array Slot}, lv_has ls 1 [(0, .ref (g.2.2 100))] → g_X12_some_4 Ff  n σ = tgt → W p l e { frames := frF + 2, cells := 0, slots := 0, locals := loF + 44 } s m args below meth c H locs 0 0 (QMV below args s g (mW g) A tgt) (F0 m 4 ls []) := by
  intro n
  induction n with
  | zero => intro σ hP hm; exact absurd hm (Nat.not_lt_zero _)
  | succ n ih =>
    intro σ hP hm H locs hK hC hB hA ls hl hT
    exact b_X12_some_4 (g := g) (aK := aK) (aV := aV) o Ff frF loF kF qF (K4 := g_X12_some_4 Ff  n) (N4 := n) C0  (fun σ hP hmq => ih σ hP hmq) hP hm hK hC hB hA hl hT
def f_X12_some (Ff : St → St) (σ : St) : St := (bd1 (f_X12_every Ff σ ) (fun u1 => (g_X12_some_4 Ff  (101) u1)))
set_option maxHeartbeats 600000 in
set_option maxRecDepth 100000 in
theorem k_X12_some (l : Launch) (g : GG) (aK aV : Nat → Nat) (o : Int) (Ff : St → St) (frF loF : Nat) (kF : ∀ σ : St, FP o σ → MV l yX12_factor (wsF yX12_factor cX12_factor 5 none) { frames := frF, cells := 0, slots := 0, locals := loF } [.ref (g.2.2 100)] g (mW g) (MB aK aV (AM g)) σ (Ff σ)) (qF : ∀ σ : St, FP o σ → SQ 0 σ (Ff σ)) (σ : St) (hP : FP o σ) : MV l yX12_some (wsF yX12_some cX12_some 1 none) { frames := frF + 2, cells := 0, slots := 0, locals := loF + 44 } [.ref (g.2.2 100)] g (mW g) (MB aK aV (AM g)) σ (f_X12_some Ff σ) := by
  refine start_MV (by decide) (Nat.le_of_ble_eq_true rfl) ?_
  intro p e s m args below meth c C0 hK hB hC ls hl
  generalize hAe : aA ((mW g) σ) = A at hC ⊢
  have hA : ∀ q, A q → AM g q := fun q h => by rw [← hAe] at h; exact h
  obtain ⟨hx, hb, hr, hml, hown, hts, hlocks⟩ := id C0
  have hl : lv_has ls 1 [(0, .ref (g.2.2 100))] := hl
  generalize hT : (f_X12_some Ff σ) = tgt
  suffices key : ∀ (H : Heap) (locs : List Loc), WC g (mW g) A s.heap σ H locs → W p l e { frames := frF + 2, cells := 0, slots := 0, locals := loF + 44 } s m args below meth c H locs 0 0 (QMV below args s g (mW g) A tgt) (F0 m 0 ls []) from key _ _ hC
  intro H locs hC
  unfold f_X12_some at hT
  have hR := hP.1
  obtain ⟨p5, p56, p6, e4, e4b, em, emb, hw⟩ := id hR
  refine lv_aload_n hx hb dX12_some_0 rfl (lv_at hl 0 rfl) ?_
  refine m_mv (rest := []) (As := []) (σ := σ) C0 hK hC MB.sv (fun _ h1 h2 => hB.to (hC.2.2.mono hA) h1 h2) cf_X12_every w_1104 rfl (k_X12_every l g aK aV o Ff frF loF kF qF σ  hP) ⟨(by dsimp only; omega), (by dsimp only; omega)⟩ hl.1 rfl rfl (Nat.le_of_ble_eq_true rfl) dX12_some_1 ⟨Nat.zero_le _, Nat.zero_le _⟩ (fun u1 H locs e1 hC => ?_)
  have hT := bd1_e e1 hT
  have S0 : SQ 0 σ u1 := by rw [e1]; exact every_q qF _ hP
  obtain ⟨b5, b56, b6, -⟩ := id S0.ro
  have j1_hP : FP o u1 := hP.sq S0
  have j1_m : ((u1 6 0).toInt - (u1 5 0).toInt).toNat < 101 := by
    omega
  exact l_X12_some_4 (g := g) (aK := aK) (aV := aV) o Ff frF loF kF qF C0   (101) u1 j1_hP j1_m hK hC hB hA hl hT
theorem some_l {o : Int} {Ff : St → St} (qF : ∀ σ : St, FP o σ → SQ 0 σ (Ff σ)) : ∀ (n : Nat) {σ : St}, FP o σ → SQ 0 σ (g_X12_some_4 Ff n σ)
  | 0, σ, h => SQ.rfl h.1
  | n + 1, σ, h => by
    rw [show g_X12_some_4 Ff (n + 1) σ = f_X12_some_4 Ff (g_X12_some_4 Ff n) σ from Eq.refl _]
    unfold f_X12_some_4
    by_cases c8 : σ 7 0 = 0
    · rw [if_pos c8]
      by_cases c17 : f_X12_here σ = (124 : Int32)
      · rw [if_pos c17]
        have S1 := spot_q h.1 (by rw [c17]; decide)
        have S2 := every_q qF _ (h.sq S1)
        have S3 := emits_q (a := -3) S2.ro (fun q => by have := ((S1.tr S2).2.2.2.2.2.1 q).2; have := h.1.2.2.2.2.2.2.1; omega)
        have S := (S1.tr S2).tr S3
        exact (S.tr (some_l qF n (h.sq S))).le (by decide)
      · rw [if_neg c17]
        exact SQ.rfl h.1
    · rw [if_neg c8]
      exact SQ.rfl h.1
theorem some_q {o : Int} {Ff : St → St} (qF : ∀ σ : St, FP o σ → SQ 0 σ (Ff σ)) (σ : St) (h : FP o σ) : SQ 0 σ (f_X12_some Ff σ) := by
  unfold f_X12_some
  have S := every_q qF _ h
  exact (S.tr (some_l qF _ (h.sq S))).le (by decide)
