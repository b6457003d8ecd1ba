
/-- the reading of a room begins -/
def rop (σ : St) : St := (up2 (up2 (up2 (up2 (up2 (up2 (up2 (up2 (up2 σ 4 0 (σ 1 2)) 6 0 (σ 1 6)) 1 6 (0 : Int32)) 1 (ix ((201 : Int32) + (σ 1 2))) (40 : Int32)) 1 (ix ((206 : Int32) + (σ 1 2))) (1 : Int32)) 1 (ix ((211 : Int32) + (σ 1 2))) (0 : Int32)) 5 0 (0 : Int32)) 7 0 (0 : Int32)) 8 0 (0 : Int32))
theorem rop_1 {σ : St} (h0 : 0 ≤ (σ 1 2).toInt) (h4 : (σ 1 2).toInt ≤ 4) (i : Nat) : (rop σ) 1 i = if i = 211 + (σ 1 2).toInt.toNat then 0 else if i = 206 + (σ 1 2).toInt.toNat then 1 else if i = 201 + (σ 1 2).toInt.toNat then 40 else if i = 6 then 0 else σ 1 i := by
  have e1 : (201 : Int32).toInt = 201 := rfl
  have e2 : (206 : Int32).toInt = 206 := rfl
  have e3 : (211 : Int32).toInt = 211 := rfl
  have q1 := ti_add (a := 201) (b := σ 1 2) (by omega) (by omega)
  have q2 := ti_add (a := 206) (b := σ 1 2) (by omega) (by omega)
  have q3 := ti_add (a := 211) (b := σ 1 2) (by omega) (by omega)
  have r1 := ti_ix (i := 201 + σ 1 2) (by omega)
  have r2 := ti_ix (i := 206 + σ 1 2) (by omega)
  have r3 := ti_ix (i := 211 + σ 1 2) (by omega)
  show (if i = ix (211 + σ 1 2) then 0 else if i = ix (206 + σ 1 2) then 1 else if i = ix (201 + σ 1 2) then 40 else if i = 6 then 0 else σ 1 i) = _
  rw [show ix (201 + σ 1 2) = 201 + (σ 1 2).toInt.toNat by omega, show ix (206 + σ 1 2) = 206 + (σ 1 2).toInt.toNat by omega, show ix (211 + σ 1 2) = 211 + (σ 1 2).toInt.toNat by omega]
theorem rop_o {σ : St} (k : Nat) (h1 : k ≠ 1) (h4 : k ≠ 4) (h5 : k ≠ 5) (h6 : k ≠ 6) (h7 : k ≠ 7) (h8 : k ≠ 8) : (rop σ) k = σ k := by
  show (if k = 8 then _ else if k = 7 then _ else if k = 5 then _ else if k = 1 then _ else if k = 1 then _ else if k = 1 then _ else if k = 1 then _ else if k = 6 then _ else if k = 4 then _ else σ k) = σ k
  rw [if_neg h8, if_neg h7, if_neg h5, if_neg h1, if_neg h1, if_neg h1, if_neg h1, if_neg h6, if_neg h4]
theorem rop_q {σ : St} (hI : IB (σ 1)) (h : ¬ σ 1 2 = 5) : FP 0 (rop σ) ∧ BR (rop σ) := by
  obtain ⟨⟨i0, i0'⟩, ⟨i1, i1'⟩, ⟨i2, i2'⟩, ⟨i3, i3'⟩, ⟨i4, i4'⟩, ⟨i5, i5'⟩, ⟨i6, i6'⟩, -⟩ := id hI
  have h4 : (σ 1 2).toInt ≤ 4 := by
    have e : (5 : Int32).toInt = 5 := rfl
    have := mt ti_eq.mpr h
    omega
  have k := rop_1 i2 h4
  have k4 : (rop σ) 4 0 = σ 1 2 := rfl
  have k5 : (rop σ) 5 0 = 0 := rfl
  have k6 : (rop σ) 6 0 = σ 1 6 := rfl
  have k7 : (rop σ) 7 0 = 0 := rfl
  have k8 : (rop σ) 8 0 = 0 := rfl
  have e0 : (0 : Int32).toInt = 0 := rfl
  have e40 : (40 : Int32).toInt = 40 := rfl
  have e1 : (1 : Int32).toInt = 1 := rfl
  generalize rop σ = u at k k4 k5 k6 k7 k8 ⊢
  have ha : ac u = (σ 1 2).toInt.toNat := by unfold ac; rw [k4]
  have hm : mn u = 0 := by
    unfold mn
    rw [ha, k, if_pos rfl]
    exact e0
  have c1 : u 1 (201 + ac u) = 40 := by rw [ha, k, if_neg (by omega), if_neg (by omega), if_pos rfl]
  have c2 : u 1 (206 + ac u) = 1 := by rw [ha, k, if_neg (by omega), if_pos rfl]
  refine ⟨⟨⟨by rw [k5]; decide, by rw [k5, k6]; omega, by rw [k6]; exact i6', by rw [k4]; exact i2, by rw [k4]; omega, by omega, by rw [k5]; omega, by rw [k7]; exact Or.inl rfl⟩, by rw [k8]; exact e0, by decide, by decide, fun q => absurd q (by decide)⟩, ?_⟩
  unfold BR
  rw [c1, c2, e40, e1]
  decide
set_option maxRecDepth 20000 in
theorem w_1067 : (Cond.methodLink RX12 126 yX12_clauseHere) ∈ TB := inTB (List.mem_of_getElem? (i := 1067) (by decide +kernel)) (by decide +kernel)
set_option maxRecDepth 20000 in
theorem w_1070 : (Cond.code yX12_clauseHere cX12_clauseHere 1 none) ∈ TB := inTB (List.mem_of_getElem? (i := 1070) (by decide +kernel)) (by decide +kernel)
set_option maxRecDepth 20000 in
theorem w_1069 : (Cond.instanceMethod yX12_clauseHere) ∈ TB := inTB (List.mem_of_getElem? (i := 1069) (by decide +kernel)) (by decide +kernel)
set_option maxRecDepth 20000 in
theorem w_37 : (Cond.selects RX12 yX12_clauseHere yX12_clauseHere) ∈ TB := inTB (List.mem_of_getElem? (i := 37) (by decide +kernel)) (by decide +kernel)
theorem cf_X12_clauseHere : CF yX12_clauseHere cX12_clauseHere 1 none 0 := ⟨w_1069, w_37, w_75, w_1070, by decide +kernel, by decide +kernel, by decide +kernel⟩
/-! ThreeMeasuresModel.room -/
theorem dX12_room_0 : decode cX12_room 0 = .ok (.aload_n 0, 1) := by decide +kernel
theorem dX12_room_1 : decode cX12_room 1 = .ok (.getfield 9, 3) := by decide +kernel
theorem dX12_room_4 : decode cX12_room 4 = .ok (.iconst 2, 1) := by decide +kernel
theorem dX12_room_5 : decode cX12_room 5 = .ok (.iaload, 1) := by decide +kernel
theorem dX12_room_6 : decode cX12_room 6 = .ok (.iconst 5, 1) := by decide +kernel
theorem dX12_room_7 : decode cX12_room 7 = .ok (.if_icmp .ne 6, 3) := by decide +kernel
theorem dX12_room_10 : decode cX12_room 10 = .ok (.bipush (-4), 2) := by decide +kernel
theorem dX12_room_12 : decode cX12_room 12 = .ok (.ireturn, 1) := by decide +kernel
theorem dX12_room_13 : decode cX12_room 13 = .ok (.aload_n 0, 1) := by decide +kernel
theorem dX12_room_14 : decode cX12_room 14 = .ok (.aload_n 0, 1) := by decide +kernel
theorem dX12_room_15 : decode cX12_room 15 = .ok (.getfield 9, 3) := by decide +kernel
theorem dX12_room_18 : decode cX12_room 18 = .ok (.iconst 2, 1) := by decide +kernel
theorem dX12_room_19 : decode cX12_room 19 = .ok (.iaload, 1) := by decide +kernel
theorem dX12_room_20 : decode cX12_room 20 = .ok (.putfield 78, 3) := by decide +kernel
theorem dX12_room_23 : decode cX12_room 23 = .ok (.aload_n 0, 1) := by decide +kernel
theorem dX12_room_24 : decode cX12_room 24 = .ok (.aload_n 0, 1) := by decide +kernel
theorem dX12_room_25 : decode cX12_room 25 = .ok (.getfield 9, 3) := by decide +kernel
theorem dX12_room_28 : decode cX12_room 28 = .ok (.bipush 6, 2) := by decide +kernel
theorem dX12_room_30 : decode cX12_room 30 = .ok (.iaload, 1) := by decide +kernel
theorem dX12_room_31 : decode cX12_room 31 = .ok (.putfield 54, 3) := by decide +kernel
theorem dX12_room_34 : decode cX12_room 34 = .ok (.aload_n 0, 1) := by decide +kernel
theorem dX12_room_35 : decode cX12_room 35 = .ok (.getfield 9, 3) := by decide +kernel
theorem dX12_room_38 : decode cX12_room 38 = .ok (.bipush 6, 2) := by decide +kernel
theorem dX12_room_40 : decode cX12_room 40 = .ok (.iconst 0, 1) := by decide +kernel
theorem dX12_room_41 : decode cX12_room 41 = .ok (.iastore, 1) := by decide +kernel
theorem dX12_room_42 : decode cX12_room 42 = .ok (.aload_n 0, 1) := by decide +kernel
theorem dX12_room_43 : decode cX12_room 43 = .ok (.getfield 9, 3) := by decide +kernel
theorem dX12_room_46 : decode cX12_room 46 = .ok (.sipush 201, 3) := by decide +kernel
theorem dX12_room_49 : decode cX12_room 49 = .ok (.aload_n 0, 1) := by decide +kernel
theorem dX12_room_50 : decode cX12_room 50 = .ok (.getfield 78, 3) := by decide +kernel
theorem dX12_room_53 : decode cX12_room 53 = .ok (.iadd, 1) := by decide +kernel
theorem dX12_room_54 : decode cX12_room 54 = .ok (.bipush 40, 2) := by decide +kernel
theorem dX12_room_56 : decode cX12_room 56 = .ok (.iastore, 1) := by decide +kernel
theorem dX12_room_57 : decode cX12_room 57 = .ok (.aload_n 0, 1) := by decide +kernel
theorem dX12_room_58 : decode cX12_room 58 = .ok (.getfield 9, 3) := by decide +kernel
theorem dX12_room_61 : decode cX12_room 61 = .ok (.sipush 206, 3) := by decide +kernel
theorem dX12_room_64 : decode cX12_room 64 = .ok (.aload_n 0, 1) := by decide +kernel
theorem dX12_room_65 : decode cX12_room 65 = .ok (.getfield 78, 3) := by decide +kernel
theorem dX12_room_68 : decode cX12_room 68 = .ok (.iadd, 1) := by decide +kernel
theorem dX12_room_69 : decode cX12_room 69 = .ok (.iconst 1, 1) := by decide +kernel
theorem dX12_room_70 : decode cX12_room 70 = .ok (.iastore, 1) := by decide +kernel
theorem dX12_room_71 : decode cX12_room 71 = .ok (.aload_n 0, 1) := by decide +kernel
theorem dX12_room_72 : decode cX12_room 72 = .ok (.getfield 9, 3) := by decide +kernel
theorem dX12_room_75 : decode cX12_room 75 = .ok (.sipush 211, 3) := by decide +kernel
theorem dX12_room_78 : decode cX12_room 78 = .ok (.aload_n 0, 1) := by decide +kernel
theorem dX12_room_79 : decode cX12_room 79 = .ok (.getfield 78, 3) := by decide +kernel
theorem dX12_room_82 : decode cX12_room 82 = .ok (.iadd, 1) := by decide +kernel
theorem dX12_room_83 : decode cX12_room 83 = .ok (.iconst 0, 1) := by decide +kernel
theorem dX12_room_84 : decode cX12_room 84 = .ok (.iastore, 1) := by decide +kernel
theorem dX12_room_85 : decode cX12_room 85 = .ok (.aload_n 0, 1) := by decide +kernel
theorem dX12_room_86 : decode cX12_room 86 = .ok (.iconst 0, 1) := by decide +kernel
theorem dX12_room_87 : decode cX12_room 87 = .ok (.putfield 51, 3) := by decide +kernel
theorem dX12_room_90 : decode cX12_room 90 = .ok (.aload_n 0, 1) := by decide +kernel
theorem dX12_room_91 : decode cX12_room 91 = .ok (.iconst 0, 1) := by decide +kernel
theorem dX12_room_92 : decode cX12_room 92 = .ok (.putfield 57, 3) := by decide +kernel
theorem dX12_room_95 : decode cX12_room 95 = .ok (.aload_n 0, 1) := by decide +kernel
theorem dX12_room_96 : decode cX12_room 96 = .ok (.iconst 0, 1) := by decide +kernel
theorem dX12_room_97 : decode cX12_room 97 = .ok (.putfield 81, 3) := by decide +kernel
theorem dX12_room_100 : decode cX12_room 100 = .ok (.iconst 1, 1) := by decide +kernel
theorem dX12_room_101 : decode cX12_room 101 = .ok (.istore_n 1, 1) := by decide +kernel
theorem dX12_room_102 : decode cX12_room 102 = .ok (.aload_n 0, 1) := by decide +kernel
theorem dX12_room_103 : decode cX12_room 103 = .ok (.invokevirtual 126, 3) := by decide +kernel
theorem dX12_room_106 : decode cX12_room 106 = .ok (.aload_n 0, 1) := by decide +kernel
theorem dX12_room_107 : decode cX12_room 107 = .ok (.getfield 57, 3) := by decide +kernel
theorem dX12_room_110 : decode cX12_room 110 = .ok (.ifCond .ne 38, 3) := by decide +kernel
theorem dX12_room_113 : decode cX12_room 113 = .ok (.iload_n 1, 1) := by decide +kernel
theorem dX12_room_114 : decode cX12_room 114 = .ok (.bipush 10, 2) := by decide +kernel
theorem dX12_room_116 : decode cX12_room 116 = .ok (.if_icmp .ge 32, 3) := by decide +kernel
theorem dX12_room_119 : decode cX12_room 119 = .ok (.aload_n 0, 1) := by decide +kernel
theorem dX12_room_120 : decode cX12_room 120 = .ok (.invokevirtual 61, 3) := by decide +kernel
theorem dX12_room_123 : decode cX12_room 123 = .ok (.bipush 59, 2) := by decide +kernel
theorem dX12_room_125 : decode cX12_room 125 = .ok (.if_icmp .ne 23, 3) := by decide +kernel
theorem dX12_room_128 : decode cX12_room 128 = .ok (.aload_n 0, 1) := by decide +kernel
theorem dX12_room_129 : decode cX12_room 129 = .ok (.dup, 1) := by decide +kernel
theorem dX12_room_130 : decode cX12_room 130 = .ok (.getfield 51, 3) := by decide +kernel
theorem dX12_room_133 : decode cX12_room 133 = .ok (.iconst 1, 1) := by decide +kernel
theorem dX12_room_134 : decode cX12_room 134 = .ok (.iadd, 1) := by decide +kernel
theorem dX12_room_135 : decode cX12_room 135 = .ok (.putfield 51, 3) := by decide +kernel
theorem dX12_room_138 : decode cX12_room 138 = .ok (.aload_n 0, 1) := by decide +kernel
theorem dX12_room_139 : decode cX12_room 139 = .ok (.invokevirtual 126, 3) := by decide +kernel
theorem dX12_room_142 : decode cX12_room 142 = .ok (.iinc 1 1, 3) := by decide +kernel
theorem dX12_room_145 : decode cX12_room 145 = .ok (.goto (-39), 3) := by decide +kernel
theorem dX12_room_148 : decode cX12_room 148 = .ok (.aload_n 0, 1) := by decide +kernel
theorem dX12_room_149 : decode cX12_room 149 = .ok (.getfield 57, 3) := by decide +kernel
theorem dX12_room_152 : decode cX12_room 152 = .ok (.ifCond .ne 14, 3) := by decide +kernel
theorem dX12_room_155 : decode cX12_room 155 = .ok (.aload_n 0, 1) := by decide +kernel
theorem dX12_room_156 : decode cX12_room 156 = .ok (.getfield 51, 3) := by decide +kernel
theorem dX12_room_159 : decode cX12_room 159 = .ok (.aload_n 0, 1) := by decide +kernel
theorem dX12_room_160 : decode cX12_room 160 = .ok (.getfield 54, 3) := by decide +kernel
theorem dX12_room_163 : decode cX12_room 163 = .ok (.if_icmp .eq 11, 3) := by decide +kernel
theorem dX12_room_166 : decode cX12_room 166 = .ok (.bipush (-10), 2) := by decide +kernel
theorem dX12_room_168 : decode cX12_room 168 = .ok (.aload_n 0, 1) := by decide +kernel
theorem dX12_room_169 : decode cX12_room 169 = .ok (.getfield 51, 3) := by decide +kernel
theorem dX12_room_172 : decode cX12_room 172 = .ok (.isub, 1) := by decide +kernel
theorem dX12_room_173 : decode cX12_room 173 = .ok (.ireturn, 1) := by decide +kernel
theorem dX12_room_174 : decode cX12_room 174 = .ok (.aload_n 0, 1) := by decide +kernel
theorem dX12_room_175 : decode cX12_room 175 = .ok (.getfield 9, 3) := by decide +kernel
theorem dX12_room_178 : decode cX12_room 178 = .ok (.iconst 2, 1) := by decide +kernel
theorem dX12_room_179 : decode cX12_room 179 = .ok (.dup2, 1) := by decide +kernel
theorem dX12_room_180 : decode cX12_room 180 = .ok (.iaload, 1) := by decide +kernel
theorem dX12_room_181 : decode cX12_room 181 = .ok (.iconst 1, 1) := by decide +kernel
theorem dX12_room_182 : decode cX12_room 182 = .ok (.iadd, 1) := by decide +kernel
theorem dX12_room_183 : decode cX12_room 183 = .ok (.iastore, 1) := by decide +kernel
theorem dX12_room_184 : decode cX12_room 184 = .ok (.aload_n 0, 1) := by decide +kernel
theorem dX12_room_185 : decode cX12_room 185 = .ok (.getfield 9, 3) := by decide +kernel
theorem dX12_room_188 : decode cX12_room 188 = .ok (.bipush 7, 2) := by decide +kernel
theorem dX12_room_190 : decode cX12_room 190 = .ok (.aload_n 0, 1) := by decide +kernel
theorem dX12_room_191 : decode cX12_room 191 = .ok (.getfield 78, 3) := by decide +kernel
theorem dX12_room_194 : decode cX12_room 194 = .ok (.iastore, 1) := by decide +kernel
theorem dX12_room_195 : decode cX12_room 195 = .ok (.aload_n 0, 1) := by decide +kernel
theorem dX12_room_196 : decode cX12_room 196 = .ok (.getfield 78, 3) := by decide +kernel
theorem dX12_room_199 : decode cX12_room 199 = .ok (.ireturn, 1) := by decide +kernel
def f_X12_room_148  (σ : St) : Int32 × St := (if (σ 7 0) = 0 then (if (σ 5 0) = (σ 6 0) then ((σ 4 0), (up2 (up2 σ 1 2 ((σ 1 2) + (1 : Int32))) 1 7 (σ 4 0))) else (((-10 : Int32) - (σ 5 0)), σ)) else (((-10 : Int32) - (σ 5 0)), σ))
set_option maxHeartbeats 600000 in
set_option maxRecDepth 100000 in
theorem b_X12_room_148 {g : GG} {aK aV : Nat → Nat} {p : Program} {l : Launch} {e : Env} {s : State} {m : MethodId} {args : Array Value} {below : List Frame} {meth : Method} {c : Code} {A : Nat → Prop} {tgt : Int32 × St}   (C0 : BC p s m args meth c cX12_room RX12 2 (some .int))  {σ : St} {H : Heap} {locs : List Loc} (hP : FP 0 σ)  (hK : KK g s) (hC : WC g (mW g) A s.heap σ H locs) (hB : MB aK aV (AM g) s) (hA : ∀ q, A q → AM g q) {ls : Array Slot} (hl : lv_has ls 2 [(0, .ref (g.2.2 100))]) (hT : f_X12_room_148  σ = tgt) : W p l e { frames := 40, cells := 0, slots := 0, locals := 856 } s m args below meth c H locs 0 0 (QMI below args s g (mW g) A tgt) (F0 m 148 ls []) := by
  obtain ⟨hx, hb, hr, hml, hown, hts, hlocks⟩ := id C0
  unfold f_X12_room_148 at hT
  obtain ⟨p5, p56, p6, e4, e4b, em, emb, hw⟩ := id hP.1
  refine lv_aload_n hx hb dX12_room_148 rfl (lv_at hl 0 rfl) ?_
  refine m_get (σ := σ) (v := .int ((σ 7 0))) C0 hK hC.1 7 (by decide) rfl w_974 dX12_room_149 ?_
  refine lv_if_ne (tgt := 166) hx hb dX12_room_152 (by decide) (fun c_152 => ?_) (fun c_152 => ?_)
  · have hT := hT_neg c_152 hT
    refine lv_bipush (v := (-10 : Int32)) hx hb dX12_room_166 (by decide) ?_
    refine lv_aload_n hx hb dX12_room_168 rfl (lv_at hl 0 rfl) ?_
    refine m_get (σ := σ) (v := .int ((σ 5 0))) C0 hK hC.1 5 (by decide) rfl w_972 dX12_room_169 ?_
    refine lv_isub hx hb dX12_room_172 ?_
    exact ret_MI C0 hC hT dX12_room_173
  · have hT := hT_pos c_152 hT
    refine lv_aload_n hx hb dX12_room_155 rfl (lv_at hl 0 rfl) ?_
    refine m_get (σ := σ) (v := .int ((σ 5 0))) C0 hK hC.1 5 (by decide) rfl w_972 dX12_room_156 ?_
    refine lv_aload_n hx hb dX12_room_159 rfl (lv_at hl 0 rfl) ?_
    refine m_get (σ := σ) (v := .int ((σ 6 0))) C0 hK hC.1 6 (by decide) rfl w_973 dX12_room_160 ?_
    refine lv_icmp_eq (tgt := 174) hx hb dX12_room_163 (by decide) (fun c_163 => ?_) (fun c_163 => ?_)
    · have hT := hT_pos c_163 hT
      refine lv_aload_n hx hb dX12_room_174 rfl (lv_at hl 0 rfl) ?_
      refine m_get (σ := σ) (v := .ref (g.2.2 1)) C0 hK hC.1 1 (by decide) rfl w_968 dX12_room_175 ?_
      refine lv_iconst (v := (2 : Int32)) hx hb dX12_room_178 (by decide) ?_
      refine lv_dup2_11 hx hb dX12_room_179 rfl rfl ?_
      refine m_ald (σ := σ) C0 hK hC.1 1 1 916 rfl (vin_l (by decide)) 2 (by decide) dX12_room_180 ?_
      refine lv_iconst (v := (1 : Int32)) hx hb dX12_room_181 (by decide) ?_
      refine lv_iadd hx hb dX12_room_182 ?_
      refine m_ast (σ := σ) C0 hK hC 1 1 916 rfl (ms_1 g _) (vin_l (by decide)) 2 (by decide) dX12_room_183 (fun H locs hC => ?_)
      refine lv_aload_n hx hb dX12_room_184 rfl (lv_at hl 0 rfl) ?_
      refine m_get (σ := (up2 σ 1 2 ((σ 1 2) + (1 : Int32)))) (v := .ref (g.2.2 1)) C0 hK hC.1 1 (by decide) rfl w_968 dX12_room_185 ?_
      refine lv_bipush (v := (7 : Int32)) hx hb dX12_room_188 (by decide) ?_
      refine lv_aload_n hx hb dX12_room_190 rfl (lv_at hl 0 rfl) ?_
      refine m_get (σ := (up2 σ 1 2 ((σ 1 2) + (1 : Int32)))) (v := .int ((σ 4 0))) C0 hK hC.1 4 (by decide) rfl w_971 dX12_room_191 ?_
      refine m_ast (σ := (up2 σ 1 2 ((σ 1 2) + (1 : Int32)))) C0 hK hC 1 1 916 rfl (ms_1 g _) (vin_l (by decide)) 7 (by decide) dX12_room_194 (fun H locs hC => ?_)
      refine lv_aload_n hx hb dX12_room_195 rfl (lv_at hl 0 rfl) ?_
      refine m_get (σ := (up2 (up2 σ 1 2 ((σ 1 2) + (1 : Int32))) 1 7 (σ 4 0))) (v := .int ((σ 4 0))) C0 hK hC.1 4 (by decide) rfl w_971 dX12_room_196 ?_
      exact ret_MI C0 hC hT dX12_room_199
    · have hT := hT_neg c_163 hT
      refine lv_bipush (v := (-10 : Int32)) hx hb dX12_room_166 (by decide) ?_
      refine lv_aload_n hx hb dX12_room_168 rfl (lv_at hl 0 rfl) ?_
      refine m_get (σ := σ) (v := .int ((σ 5 0))) C0 hK hC.1 5 (by decide) rfl w_972 dX12_room_169 ?_
      refine lv_isub hx hb dX12_room_172 ?_
      exact ret_MI C0 hC hT dX12_room_173
def f_X12_room_106 (K106 : St → Int32 → Int32 × St) (σ : St) (a1 : Int32) : Int32 × St := (if (σ 7 0) = 0 then (if (10 : Int32) ≤ a1 then (f_X12_room_148  σ) else (if (f_X12_here σ ) = (59 : Int32) then (bd1 (f_X12_clauseHere (up2 σ 5 0 ((σ 5 0) + (1 : Int32))) ) (fun u139 => (K106 u139 (a1 + (1 : Int32))))) else (f_X12_room_148  σ))) else (f_X12_room_148  σ))
set_option maxHeartbeats 600000 in
set_option maxRecDepth 100000 in
theorem b_X12_room_106 {g : GG} {aK aV : Nat → Nat} {p : Program} {l : Launch} {e : Env} {s : State} {m : MethodId} {args : Array Value} {below : List Frame} {meth : Method} {c : Code} {A : Nat → Prop} {tgt : Int32 × St} {K106 : St → Int32 → Int32 × St} {N106 : Nat}  (C0 : BC p s m args meth c cX12_room RX12 2 (some .int)) (hK106 : ∀ (σ : St) (a1 : Int32), (FP 0 σ) → (1 ≤ a1.toInt) → (11 - a1.toInt).toNat < N106 → ∀ {H : Heap} {locs : List Loc}, KK g s → WC g (mW g) A s.heap σ H locs → MB aK aV (AM g) s → (∀ q, A q → AM g q) →  ∀ {ls : Array Slot}, lv_has ls 2 [(0, .ref (g.2.2 100)), (1, .int (a1))] → K106 σ a1 = tgt → W p l e { frames := 40, cells := 0, slots := 0, locals := 856 } s m args below meth c H locs 0 0 (QMI below args s g (mW g) A tgt) (F0 m 106 ls [])) {σ : St} {a1 : Int32} {H : Heap} {locs : List Loc} (hP : FP 0 σ) (h1 : 1 ≤ a1.toInt) (hm : (11 - a1.toInt).toNat < N106 + 1) (hK : KK g s) (hC : WC g (mW g) A s.heap σ H locs) (hB : MB aK aV (AM g) s) (hA : ∀ q, A q → AM g q) {ls : Array Slot} (hl : lv_has ls 2 [(0, .ref (g.2.2 100)), (1, .int (a1))]) (hT : f_X12_room_106 K106 σ a1 = tgt) : W p l e { frames := 40, cells := 0, slots := 0, locals := 856 } s m args below meth c H locs 0 0 (QMI below args s g (mW g) A tgt) (F0 m 106 ls []) := by
  obtain ⟨hx, hb, hr, hml, hown, hts, hlocks⟩ := id C0
  unfold f_X12_room_106 at hT
  obtain ⟨p5, p56, p6, e4, e4b, em, emb, hw⟩ := id hP.1
  refine lv_aload_n hx hb dX12_room_106 rfl (lv_at hl 0 rfl) ?_
  refine m_get (σ := σ) (v := .int ((σ 7 0))) C0 hK hC.1 7 (by decide) rfl w_974 dX12_room_107 ?_
  refine lv_if_ne (tgt := 148) hx hb dX12_room_110 (by decide) (fun c_110 => ?_) (fun c_110 => ?_)
  · have hT := hT_neg c_110 hT
    exact b_X12_room_148 (g := g) (aK := aK) (aV := aV)  (σ := σ) C0  hP hK hC hB hA (lv_sub hl [0] rfl) hT
  · have hT := hT_pos c_110 hT
    refine lv_iload_n hx hb dX12_room_113 rfl (lv_at hl 1 rfl) ?_
    refine lv_bipush (v := (10 : Int32)) hx hb dX12_room_114 (by decide) ?_
    refine lv_icmp_ge (tgt := 148) hx hb dX12_room_116 (by decide) (fun c_116 => ?_) (fun c_116 => ?_)
    · have hT := hT_pos c_116 hT
      exact b_X12_room_148 (g := g) (aK := aK) (aV := aV)  (σ := σ) C0  hP hK hC hB hA (lv_sub hl [0] rfl) hT
    · have hT := hT_neg c_116 hT
      refine lv_aload_n hx hb dX12_room_119 rfl (lv_at hl 0 rfl) ?_
      have q120_p5 : 0 ≤ (σ 5 0).toInt := by
        have : ((0 : Int32)).toInt = 0 := by decide
        have : ((10 : Int32)).toInt = 10 := by decide
        have := ti_eq.mp c_110
        have := mt ti_le.mpr c_116
        omega
      have q120_p56 : (σ 5 0).toInt ≤ (σ 6 0).toInt := by
        have : ((0 : Int32)).toInt = 0 := by decide
        have : ((10 : Int32)).toInt = 10 := by decide
        have := ti_eq.mp c_110
        have := mt ti_le.mpr c_116
        omega
      have q120_p6 : (σ 6 0).toInt ≤ 100 := by
        have : ((0 : Int32)).toInt = 0 := by decide
        have : ((10 : Int32)).toInt = 10 := by decide
        have := ti_eq.mp c_110
        have := mt ti_le.mpr c_116
        omega
      refine m_ci (rest := []) (As := []) (σ := σ) C0 hK hC.1 (hC.2.1.weaken (fun _ _ _ _ => trivial)) SV.tt (fun _ _ _ => trivial) cf_X12_here w_1071 rfl (k_X12_here l g σ  q120_p5 q120_p56 q120_p6) ⟨by decide, by decide⟩ hl.1 rfl rfl (Nat.le_of_ble_eq_true rfl) dX12_room_120 ⟨Nat.zero_le _, Nat.zero_le _⟩ ?_
      refine lv_bipush (v := (59 : Int32)) hx hb dX12_room_123 (by decide) ?_
      refine lv_icmp_ne (tgt := 148) hx hb dX12_room_125 (by decide) (fun c_125 => ?_) (fun c_125 => ?_)
      · have hT := hT_neg c_125 hT
        exact b_X12_room_148 (g := g) (aK := aK) (aV := aV)  (σ := σ) C0  hP hK hC hB hA (lv_sub hl [0] rfl) hT
      · have hT := hT_pos c_125 hT
        refine lv_aload_n hx hb dX12_room_128 rfl (lv_at hl 0 rfl) ?_
        refine lv_dup hx hb dX12_room_129 rfl ?_
        refine m_get (σ := σ) (v := .int ((σ 5 0))) C0 hK hC.1 5 (by decide) rfl w_972 dX12_room_130 ?_
        refine lv_iconst (v := (1 : Int32)) hx hb dX12_room_133 (by decide) ?_
        refine lv_iadd hx hb dX12_room_134 ?_
        refine m_put (σ := σ) (ty := .int) C0 hK hC 5 (by decide) rfl rfl rfl rfl (ms_5 g _ _) w_972 dX12_room_135 (fun H locs hC => ?_)
        have S1 : SQ 1 σ (up2 σ 5 0 ((σ 5 0) + (1 : Int32))) := spot_q hP.1 (by rw [c_125]; decide)
        have hP1 := hP.sq S1
        refine lv_aload_n hx hb dX12_room_138 rfl (lv_at hl 0 rfl) ?_
        have q139_hP : FP 0 (up2 σ 5 0 ((σ 5 0) + (1 : Int32))) := hP1
        refine m_mv (rest := []) (As := []) (σ := (up2 σ 5 0 ((σ 5 0) + (1 : Int32)))) C0 hK hC MB.sv (fun _ h1 h2 => hB.to (hC.2.2.mono hA) h1 h2) cf_X12_clauseHere w_1067 rfl (k_X12_clauseHere l g aK aV  (up2 σ 5 0 ((σ 5 0) + (1 : Int32)))  q139_hP) ⟨by decide, by decide⟩ hl.1 rfl rfl (Nat.le_of_ble_eq_true rfl) dX12_room_139 ⟨Nat.zero_le _, Nat.zero_le _⟩ (fun u139 H locs e139 hC => ?_)
        have hT := bd1_e e139 hT
        have L139 : LQ (up2 σ 5 0 ((σ 5 0) + (1 : Int32))) u139 := by rw [e139]; exact clause_q hP1
        refine lv_iinc (v := (a1 + (1 : Int32))) (lv' := [(1, .int ((a1 + (1 : Int32)))), (0, .ref (g.2.2 100))]) hx hb dX12_room_142 hl (k := 1) rfl rfl (by decide) rfl (fun ls hl => ?_)
        refine lv_goto (tgt := 106) hx hb dX12_room_145 (by decide) ?_
        have j145_hP : FP 0 u139 := hP1.lq L139
        have j145_h1 : 1 ≤ (a1 + (1 : Int32)).toInt := by
          have : ((0 : Int32)).toInt = 0 := by decide
          have : ((10 : Int32)).toInt = 10 := by decide
          have : ((59 : Int32)).toInt = 59 := by decide
          have : ((1 : Int32)).toInt = 1 := by decide
          have := ti_eq.mp c_110
          have := mt ti_le.mpr c_116
          have := ti_eq.mp c_125
          try have := ti_add (a := a1) (b := (1 : Int32)) (by omega) (by omega)
          omega
        have j145_m : (11 - (a1 + (1 : Int32)).toInt).toNat < N106 := by
          have : ((0 : Int32)).toInt = 0 := by decide
          have : ((10 : Int32)).toInt = 10 := by decide
          have : ((59 : Int32)).toInt = 59 := by decide
          have : ((1 : Int32)).toInt = 1 := by decide
          have := ti_eq.mp c_110
          have := mt ti_le.mpr c_116
          have := ti_eq.mp c_125
          try have := ti_add (a := a1) (b := (1 : Int32)) (by omega) (by omega)
          omega
        exact hK106 u139 (a1 + (1 : Int32)) j145_hP j145_h1 j145_m hK hC hB hA (lv_sub hl [1, 0] rfl) hT
def g_X12_room_106  : Nat → St → Int32 → Int32 × St
  | 0 => fun σ a1 => (0, σ)
  | n + 1 => fun σ a1 => f_X12_room_106  (g_X12_room_106  n) σ a1
theorem l_X12_room_106 {g : GG} {aK aV : Nat → Nat} {p : Program} {l : Launch} {e : Env} {s : State} {m : MethodId} {args : Array Value} {below : List Frame} {meth : Method} {c : Code} {A : Nat → Prop} {tgt : Int32 × St}   (C0 : BC p s m args meth c cX12_room RX12 2 (some .int))  : ∀ (n : Nat) (σ : St) (a1 : Int32), (FP 0 σ) → (1 ≤ a1.toInt) → (11 - a1.toInt).toNat < n → ∀ {H : Heap} {locs : List Loc}, KK g s → WC g (mW g) A s.heap σ H locs → MB aK aV (AM g) s → (∀ q, A q → AM g q) →  ∀ {ls : Array Slot}, lv_has ls 2 [(0, .ref (g.2.2 100)), (1, .int (a1))] → g_X12_room_106  n σ a1 = tgt → W p l e { frames := 40, cells := 0, slots := 0, locals := 856 } s m args below meth c H locs 0 0 (QMI below args s g (mW g) A tgt) (F0 m 106 ls []) := by
  intro n
  induction n with
  | zero => intro σ a1 hP h1 hm; exact absurd hm (Nat.not_lt_zero _)
  | succ n ih =>
    intro σ a1 hP h1 hm H locs hK hC hB hA ls hl hT
    exact b_X12_room_106 (g := g) (aK := aK) (aV := aV)  (K106 := g_X12_room_106  n) (N106 := n) C0  (fun σ a1 hP h1 hmq => ih σ a1 hP h1 hmq) hP h1 hm hK hC hB hA hl hT
def f_X12_room (σ : St) : Int32 × St := (if (σ 1 2) = (5 : Int32) then ((-4 : Int32), σ) else (bd1 (f_X12_clauseHere (up2 (up2 (up2 (up2 (up2 (up2 (up2 (up2 (up2 σ 4 0 (σ 1 2)) 6 0 (σ 1 6)) 1 6 (0 : Int32)) 1 (ix ((201 : Int32) + (σ 1 2))) (40 : Int32)) 1 (ix ((206 : Int32) + (σ 1 2))) (1 : Int32)) 1 (ix ((211 : Int32) + (σ 1 2))) (0 : Int32)) 5 0 (0 : Int32)) 7 0 (0 : Int32)) 8 0 (0 : Int32)) ) (fun u103 => (g_X12_room_106  (11) u103 (1 : Int32)))))
set_option maxHeartbeats 600000 in
set_option maxRecDepth 100000 in
theorem k_X12_room (l : Launch) (g : GG) (aK aV : Nat → Nat)  (σ : St) (hI : IB (σ 1)) : MI l yX12_room (wsF yX12_room cX12_room 2 (some .int)) { frames := 40, cells := 0, slots := 0, locals := 856 } [.ref (g.2.2 100)] g (mW g) (MB aK aV (AM g)) σ (f_X12_room σ) := by
  refine start_MI (by decide) (Nat.le_of_ble_eq_true rfl) ?_
  intro p e s m args below meth c C0 hK hB hC ls hl
  generalize hAe : aA ((mW g) σ) = A at hC ⊢
  have hA : ∀ q, A q → AM g q := fun q h => by rw [← hAe] at h; exact h
  obtain ⟨hx, hb, hr, hml, hown, hts, hlocks⟩ := id C0
  have hl : lv_has ls 2 [(0, .ref (g.2.2 100))] := hl
  generalize hT : (f_X12_room σ) = tgt
  suffices key : ∀ (H : Heap) (locs : List Loc), WC g (mW g) A s.heap σ H locs → W p l e { frames := 40, cells := 0, slots := 0, locals := 856 } s m args below meth c H locs 0 0 (QMI below args s g (mW g) A tgt) (F0 m 0 ls []) from key _ _ hC
  intro H locs hC
  unfold f_X12_room at hT
  obtain ⟨⟨i0, i0'⟩, ⟨i1, i1'⟩, ⟨i2, i2'⟩, ⟨i3, i3'⟩, ⟨i4, i4'⟩, ⟨i5, i5'⟩, ⟨i6, i6'⟩, ⟨i7, i7'⟩, ⟨i8, i8'⟩, iK, iV, iL, iR, iW, iY, iG, iM, iB, iQ, iP, iT, iU⟩ := id hI
  refine lv_aload_n hx hb dX12_room_0 rfl (lv_at hl 0 rfl) ?_
  refine m_get (σ := σ) (v := .ref (g.2.2 1)) C0 hK hC.1 1 (by decide) rfl w_968 dX12_room_1 ?_
  refine lv_iconst (v := (2 : Int32)) hx hb dX12_room_4 (by decide) ?_
  refine m_ald (σ := σ) C0 hK hC.1 1 1 916 rfl (vin_l (by decide)) 2 (by decide) dX12_room_5 ?_
  refine lv_iconst (v := (5 : Int32)) hx hb dX12_room_6 (by decide) ?_
  refine lv_icmp_ne (tgt := 13) hx hb dX12_room_7 (by decide) (fun c_7 => ?_) (fun c_7 => ?_)
  · have hT := hT_neg c_7 hT
    refine lv_aload_n hx hb dX12_room_13 rfl (lv_at hl 0 rfl) ?_
    refine lv_aload_n hx hb dX12_room_14 rfl (lv_at hl 0 rfl) ?_
    refine m_get (σ := σ) (v := .ref (g.2.2 1)) C0 hK hC.1 1 (by decide) rfl w_968 dX12_room_15 ?_
    refine lv_iconst (v := (2 : Int32)) hx hb dX12_room_18 (by decide) ?_
    refine m_ald (σ := σ) C0 hK hC.1 1 1 916 rfl (vin_l (by decide)) 2 (by decide) dX12_room_19 ?_
    refine m_put (σ := σ) (ty := .int) C0 hK hC 4 (by decide) rfl rfl rfl rfl (ms_4 g _ _) w_971 dX12_room_20 (fun H locs hC => ?_)
    refine lv_aload_n hx hb dX12_room_23 rfl (lv_at hl 0 rfl) ?_
    refine lv_aload_n hx hb dX12_room_24 rfl (lv_at hl 0 rfl) ?_
    refine m_get (σ := (up2 σ 4 0 (σ 1 2))) (v := .ref (g.2.2 1)) C0 hK hC.1 1 (by decide) rfl w_968 dX12_room_25 ?_
    refine lv_bipush (v := (6 : Int32)) hx hb dX12_room_28 (by decide) ?_
    refine m_ald (σ := (up2 σ 4 0 (σ 1 2))) C0 hK hC.1 1 1 916 rfl (vin_l (by decide)) 6 (by decide) dX12_room_30 ?_
    refine m_put (σ := (up2 σ 4 0 (σ 1 2))) (ty := .int) C0 hK hC 6 (by decide) rfl rfl rfl rfl (ms_6 g _ _) w_973 dX12_room_31 (fun H locs hC => ?_)
    refine lv_aload_n hx hb dX12_room_34 rfl (lv_at hl 0 rfl) ?_
    refine m_get (σ := (up2 (up2 σ 4 0 (σ 1 2)) 6 0 (σ 1 6))) (v := .ref (g.2.2 1)) C0 hK hC.1 1 (by decide) rfl w_968 dX12_room_35 ?_
    refine lv_bipush (v := (6 : Int32)) hx hb dX12_room_38 (by decide) ?_
    refine lv_iconst (v := (0 : Int32)) hx hb dX12_room_40 (by decide) ?_
    refine m_ast (σ := (up2 (up2 σ 4 0 (σ 1 2)) 6 0 (σ 1 6))) C0 hK hC 1 1 916 rfl (ms_1 g _) (vin_l (by decide)) 6 (by decide) dX12_room_41 (fun H locs hC => ?_)
    refine lv_aload_n hx hb dX12_room_42 rfl (lv_at hl 0 rfl) ?_
    refine m_get (σ := (up2 (up2 (up2 σ 4 0 (σ 1 2)) 6 0 (σ 1 6)) 1 6 (0 : Int32))) (v := .ref (g.2.2 1)) C0 hK hC.1 1 (by decide) rfl w_968 dX12_room_43 ?_
    refine lv_sipush (v := (201 : Int32)) hx hb dX12_room_46 (by decide) ?_
    refine lv_aload_n hx hb dX12_room_49 rfl (lv_at hl 0 rfl) ?_
    refine m_get (σ := (up2 (up2 (up2 σ 4 0 (σ 1 2)) 6 0 (σ 1 6)) 1 6 (0 : Int32))) (v := .int ((σ 1 2))) C0 hK hC.1 4 (by decide) rfl w_971 dX12_room_50 ?_
    refine lv_iadd hx hb dX12_room_53 ?_
    refine lv_bipush (v := (40 : Int32)) hx hb dX12_room_54 (by decide) ?_
    have o_56 : vp_in ((201 : Int32) + (σ 1 2)) 916 := by
      have : ((5 : Int32)).toInt = 5 := by decide
      have : ((201 : Int32)).toInt = 201 := by decide
      have := mt ti_eq.mpr c_7
      try have := ti_add (a := (201 : Int32)) (b := (σ 1 2)) (by omega) (by omega)
      exact vin (by omega) (by omega)
    refine m_ast (σ := (up2 (up2 (up2 σ 4 0 (σ 1 2)) 6 0 (σ 1 6)) 1 6 (0 : Int32))) C0 hK hC 1 1 916 rfl (ms_1 g _) o_56 (ix ((201 : Int32) + (σ 1 2))) rfl dX12_room_56 (fun H locs hC => ?_)
    refine lv_aload_n hx hb dX12_room_57 rfl (lv_at hl 0 rfl) ?_
    refine m_get (σ := (up2 (up2 (up2 (up2 σ 4 0 (σ 1 2)) 6 0 (σ 1 6)) 1 6 (0 : Int32)) 1 (ix ((201 : Int32) + (σ 1 2))) (40 : Int32))) (v := .ref (g.2.2 1)) C0 hK hC.1 1 (by decide) rfl w_968 dX12_room_58 ?_
    refine lv_sipush (v := (206 : Int32)) hx hb dX12_room_61 (by decide) ?_
    refine lv_aload_n hx hb dX12_room_64 rfl (lv_at hl 0 rfl) ?_
    refine m_get (σ := (up2 (up2 (up2 (up2 σ 4 0 (σ 1 2)) 6 0 (σ 1 6)) 1 6 (0 : Int32)) 1 (ix ((201 : Int32) + (σ 1 2))) (40 : Int32))) (v := .int ((σ 1 2))) C0 hK hC.1 4 (by decide) rfl w_971 dX12_room_65 ?_
    refine lv_iadd hx hb dX12_room_68 ?_
    refine lv_iconst (v := (1 : Int32)) hx hb dX12_room_69 (by decide) ?_
    have o_70 : vp_in ((206 : Int32) + (σ 1 2)) 916 := by
      have : ((5 : Int32)).toInt = 5 := by decide
      have : ((206 : Int32)).toInt = 206 := by decide
      have := mt ti_eq.mpr c_7
      try have := ti_add (a := (206 : Int32)) (b := (σ 1 2)) (by omega) (by omega)
      exact vin (by omega) (by omega)
    refine m_ast (σ := (up2 (up2 (up2 (up2 σ 4 0 (σ 1 2)) 6 0 (σ 1 6)) 1 6 (0 : Int32)) 1 (ix ((201 : Int32) + (σ 1 2))) (40 : Int32))) C0 hK hC 1 1 916 rfl (ms_1 g _) o_70 (ix ((206 : Int32) + (σ 1 2))) rfl dX12_room_70 (fun H locs hC => ?_)
    refine lv_aload_n hx hb dX12_room_71 rfl (lv_at hl 0 rfl) ?_
    refine m_get (σ := (up2 (up2 (up2 (up2 (up2 σ 4 0 (σ 1 2)) 6 0 (σ 1 6)) 1 6 (0 : Int32)) 1 (ix ((201 : Int32) + (σ 1 2))) (40 : Int32)) 1 (ix ((206 : Int32) + (σ 1 2))) (1 : Int32))) (v := .ref (g.2.2 1)) C0 hK hC.1 1 (by decide) rfl w_968 dX12_room_72 ?_
    refine lv_sipush (v := (211 : Int32)) hx hb dX12_room_75 (by decide) ?_
    refine lv_aload_n hx hb dX12_room_78 rfl (lv_at hl 0 rfl) ?_
    refine m_get (σ := (up2 (up2 (up2 (up2 (up2 σ 4 0 (σ 1 2)) 6 0 (σ 1 6)) 1 6 (0 : Int32)) 1 (ix ((201 : Int32) + (σ 1 2))) (40 : Int32)) 1 (ix ((206 : Int32) + (σ 1 2))) (1 : Int32))) (v := .int ((σ 1 2))) C0 hK hC.1 4 (by decide) rfl w_971 dX12_room_79 ?_
    refine lv_iadd hx hb dX12_room_82 ?_
    refine lv_iconst (v := (0 : Int32)) hx hb dX12_room_83 (by decide) ?_
    have o_84 : vp_in ((211 : Int32) + (σ 1 2)) 916 := by
      have : ((5 : Int32)).toInt = 5 := by decide
      have : ((211 : Int32)).toInt = 211 := by decide
      have := mt ti_eq.mpr c_7
      try have := ti_add (a := (211 : Int32)) (b := (σ 1 2)) (by omega) (by omega)
      exact vin (by omega) (by omega)
    refine m_ast (σ := (up2 (up2 (up2 (up2 (up2 σ 4 0 (σ 1 2)) 6 0 (σ 1 6)) 1 6 (0 : Int32)) 1 (ix ((201 : Int32) + (σ 1 2))) (40 : Int32)) 1 (ix ((206 : Int32) + (σ 1 2))) (1 : Int32))) C0 hK hC 1 1 916 rfl (ms_1 g _) o_84 (ix ((211 : Int32) + (σ 1 2))) rfl dX12_room_84 (fun H locs hC => ?_)
    refine lv_aload_n hx hb dX12_room_85 rfl (lv_at hl 0 rfl) ?_
    refine lv_iconst (v := (0 : Int32)) hx hb dX12_room_86 (by decide) ?_
    refine m_put (σ := (up2 (up2 (up2 (up2 (up2 (up2 σ 4 0 (σ 1 2)) 6 0 (σ 1 6)) 1 6 (0 : Int32)) 1 (ix ((201 : Int32) + (σ 1 2))) (40 : Int32)) 1 (ix ((206 : Int32) + (σ 1 2))) (1 : Int32)) 1 (ix ((211 : Int32) + (σ 1 2))) (0 : Int32))) (ty := .int) C0 hK hC 5 (by decide) rfl rfl rfl rfl (ms_5 g _ _) w_972 dX12_room_87 (fun H locs hC => ?_)
    refine lv_aload_n hx hb dX12_room_90 rfl (lv_at hl 0 rfl) ?_
    refine lv_iconst (v := (0 : Int32)) hx hb dX12_room_91 (by decide) ?_
    refine m_put (σ := (up2 (up2 (up2 (up2 (up2 (up2 (up2 σ 4 0 (σ 1 2)) 6 0 (σ 1 6)) 1 6 (0 : Int32)) 1 (ix ((201 : Int32) + (σ 1 2))) (40 : Int32)) 1 (ix ((206 : Int32) + (σ 1 2))) (1 : Int32)) 1 (ix ((211 : Int32) + (σ 1 2))) (0 : Int32)) 5 0 (0 : Int32))) (ty := .boolean) C0 hK hC 7 (by decide) rfl rfl (nz_of (Or.inl rfl)) (nf_of (Or.inl rfl)) (ms_7 g _ _) w_974 dX12_room_92 (fun H locs hC => ?_)
    refine lv_aload_n hx hb dX12_room_95 rfl (lv_at hl 0 rfl) ?_
    refine lv_iconst (v := (0 : Int32)) hx hb dX12_room_96 (by decide) ?_
    refine m_put (σ := (up2 (up2 (up2 (up2 (up2 (up2 (up2 (up2 σ 4 0 (σ 1 2)) 6 0 (σ 1 6)) 1 6 (0 : Int32)) 1 (ix ((201 : Int32) + (σ 1 2))) (40 : Int32)) 1 (ix ((206 : Int32) + (σ 1 2))) (1 : Int32)) 1 (ix ((211 : Int32) + (σ 1 2))) (0 : Int32)) 5 0 (0 : Int32)) 7 0 (0 : Int32))) (ty := .int) C0 hK hC 8 (by decide) rfl rfl rfl rfl (ms_8 g _ _) w_975 dX12_room_97 (fun H locs hC => ?_)
    refine lv_iconst (v := (1 : Int32)) hx hb dX12_room_100 (by decide) ?_
    refine lv_istore_n (lv' := [(1, .int ((1 : Int32))), (0, .ref (g.2.2 100))]) hx hb dX12_room_101 rfl hl (by decide) rfl (fun ls hl => ?_)
    refine lv_aload_n hx hb dX12_room_102 rfl (lv_at hl 1 rfl) ?_
    have T0 := (rop_q hI c_7)
    have q103_hP : FP 0 (up2 (up2 (up2 (up2 (up2 (up2 (up2 (up2 (up2 σ 4 0 (σ 1 2)) 6 0 (σ 1 6)) 1 6 (0 : Int32)) 1 (ix ((201 : Int32) + (σ 1 2))) (40 : Int32)) 1 (ix ((206 : Int32) + (σ 1 2))) (1 : Int32)) 1 (ix ((211 : Int32) + (σ 1 2))) (0 : Int32)) 5 0 (0 : Int32)) 7 0 (0 : Int32)) 8 0 (0 : Int32)) := T0.1
    refine m_mv (rest := []) (As := []) (σ := (up2 (up2 (up2 (up2 (up2 (up2 (up2 (up2 (up2 σ 4 0 (σ 1 2)) 6 0 (σ 1 6)) 1 6 (0 : Int32)) 1 (ix ((201 : Int32) + (σ 1 2))) (40 : Int32)) 1 (ix ((206 : Int32) + (σ 1 2))) (1 : Int32)) 1 (ix ((211 : Int32) + (σ 1 2))) (0 : Int32)) 5 0 (0 : Int32)) 7 0 (0 : Int32)) 8 0 (0 : Int32))) C0 hK hC MB.sv (fun _ h1 h2 => hB.to (hC.2.2.mono hA) h1 h2) cf_X12_clauseHere w_1067 rfl (k_X12_clauseHere l g aK aV  (up2 (up2 (up2 (up2 (up2 (up2 (up2 (up2 (up2 σ 4 0 (σ 1 2)) 6 0 (σ 1 6)) 1 6 (0 : Int32)) 1 (ix ((201 : Int32) + (σ 1 2))) (40 : Int32)) 1 (ix ((206 : Int32) + (σ 1 2))) (1 : Int32)) 1 (ix ((211 : Int32) + (σ 1 2))) (0 : Int32)) 5 0 (0 : Int32)) 7 0 (0 : Int32)) 8 0 (0 : Int32))  q103_hP) ⟨by decide, by decide⟩ hl.1 rfl rfl (Nat.le_of_ble_eq_true rfl) dX12_room_103 ⟨Nat.zero_le _, Nat.zero_le _⟩ (fun u103 H locs e103 hC => ?_)
    have hT := bd1_e e103 hT
    have L103 : LQ (rop σ) u103 := by rw [e103]; exact clause_q T0.1
    have j103_hP : FP 0 u103 := T0.1.lq L103
    have j103_h1 : 1 ≤ (1 : Int32).toInt := by
      have : ((5 : Int32)).toInt = 5 := by decide
      have : ((1 : Int32)).toInt = 1 := by decide
      have := mt ti_eq.mpr c_7
      omega
    have j103_m : (11 - (1 : Int32).toInt).toNat < 11 := by
      have : ((5 : Int32)).toInt = 5 := by decide
      have : ((1 : Int32)).toInt = 1 := by decide
      have := mt ti_eq.mpr c_7
      omega
    exact l_X12_room_106 (g := g) (aK := aK) (aV := aV)  C0   (11) u103 (1 : Int32) j103_hP j103_h1 j103_m hK hC hB hA (lv_sub hl [1, 0] rfl) hT
  · have hT := hT_pos c_7 hT
    refine lv_bipush (v := (-4 : Int32)) hx hb dX12_room_10 (by decide) ?_
    exact ret_MI C0 hC hT dX12_room_12
