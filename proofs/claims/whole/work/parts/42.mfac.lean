
section FACOP
variable {o : Int} {σ : St} {W J : Int32}
theorem fac_op (h : FP (o - 1) σ) (w0 : σ 7 0 = 0) (hh : 0 ≤ (f_X12_here σ).toInt) (hW : W = if σ 8 0 = (5 : Int32) then (1 : Int32) else (0 : Int32)) (hJ : J = if W = 0 then (1 : Int32) else (0 : Int32)) :
    FP o (up2 (up2 (up2 σ 7 0 W) 8 0 (σ 8 0 + 1)) 5 0 (σ 5 0 + J)) ∧ (W = 0 → mn σ + 1 ≤ (σ 5 0 + J).toInt) ∧ ∀ u : St, SQ (-1) (up2 (up2 (up2 σ 7 0 W) 8 0 (σ 8 0 + 1)) 5 0 (σ 5 0 + J)) u → SQ 0 σ (up2 u 8 0 (u 8 0 - 1)) := by
  have q := he_lt hh
  obtain ⟨hR, ho, ho0, ho6, how⟩ := h
  obtain ⟨p5, p56, p6, e4, e4b, em, emb, hw⟩ := hR
  have e1 : (1 : Int32).toInt = 1 := rfl
  have e0 : (0 : Int32).toInt = 0 := rfl
  have e5 : (5 : Int32).toInt = 5 := rfl
  have hWw : W = 0 ∨ W = 1 := by rw [hW]; split <;> simp
  have hJw : (W = 0 ∧ J = 1) ∨ (W = 1 ∧ J = 0) := by
    rcases hWw with w | w
    · exact Or.inl ⟨w, by rw [hJ, if_pos w]⟩
    · exact Or.inr ⟨w, by rw [hJ, if_neg (by rw [w]; decide)]⟩
  have q8 := ti_add (a := σ 8 0) (b := 1) (by omega) (by omega)
  have qJ : (σ 5 0 + J).toInt = (σ 5 0).toInt + J.toInt := by
    rcases hJw with ⟨-, w⟩ | ⟨-, w⟩ <;> rw [w] <;> exact ti_add (by omega) (by omega)
  have hJ1 : 0 ≤ J.toInt ∧ J.toInt ≤ 1 := by rcases hJw with ⟨-, w⟩ | ⟨-, w⟩ <;> rw [w] <;> decide
  have k5 : (up2 (up2 (up2 σ 7 0 W) 8 0 (σ 8 0 + 1)) 5 0 (σ 5 0 + J)) 5 0 = σ 5 0 + J := rfl
  have k7 : (up2 (up2 (up2 σ 7 0 W) 8 0 (σ 8 0 + 1)) 5 0 (σ 5 0 + J)) 7 0 = W := rfl
  have k8 : (up2 (up2 (up2 σ 7 0 W) 8 0 (σ 8 0 + 1)) 5 0 (σ 5 0 + J)) 8 0 = σ 8 0 + 1 := rfl
  have ko : ∀ k, k ≠ 5 → k ≠ 7 → k ≠ 8 → (up2 (up2 (up2 σ 7 0 W) 8 0 (σ 8 0 + 1)) 5 0 (σ 5 0 + J)) k = σ k := fun k h5 h7 h8 => by
    show (if k = 5 then _ else if k = 8 then _ else if k = 7 then _ else σ k) = σ k
    rw [if_neg h5, if_neg h8, if_neg h7]
  generalize (up2 (up2 (up2 σ 7 0 W) 8 0 (σ 8 0 + 1)) 5 0 (σ 5 0 + J)) = τ at k5 k7 k8 ko ⊢
  have t1 := ko 1 (by decide) (by decide) (by decide)
  have t4 := ko 4 (by decide) (by decide) (by decide)
  have t6 := ko 6 (by decide) (by decide) (by decide)
  have ta : ac τ = ac σ := by unfold ac; rw [t4]
  have tm : mn τ = mn σ := by unfold mn; rw [ta, t1]
  have hRt : RO τ := ⟨by rw [k5]; omega, by rw [k5, t6]; omega, by rw [t6]; exact p6, by rw [t4]; exact e4, by rw [t4]; exact e4b, by omega, by rw [k5]; omega, by rw [k7]; exact hWw⟩
  have hw5 : ¬ (σ 8 0 = 5) → (σ 8 0).toInt ≠ 5 := fun h1 h2 => h1 (ti_eq.mpr (by omega))
  refine ⟨⟨hRt, by rw [k8]; omega, by omega, ?_, fun e6 => ?_⟩, fun w => ?_, fun u S => ?_⟩
  · by_cases c : o = 7
    · exact absurd w0 (how (by omega))
    · omega
  · rw [k7]
    by_cases c : σ 8 0 = 5
    · rw [hW, if_pos c]; decide
    · exact absurd (by omega) (hw5 c)
  · rcases hJw with ⟨-, w2⟩ | ⟨w2, -⟩
    · rw [w2] at qJ ⊢; omega
    · rw [w2] at w; exact absurd w (by decide)
  · obtain ⟨a1, a2, a3, a4, a5, a6, a7⟩ := S
    have u8 : u 8 0 - 1 = σ 8 0 := by rw [a2, k8]; exact Int32.add_sub_cancel _ _
    rw [u8]
    have v5 : (up2 u 8 0 (σ 8 0)) 5 0 = u 5 0 := rfl
    have v7 : (up2 u 8 0 (σ 8 0)) 7 0 = u 7 0 := rfl
    have vm : mn (up2 u 8 0 (σ 8 0)) = mn u := rfl
    refine ⟨fun k h1 h5 h7 h8 => ?_, rfl, ?_, ?_, ?_, fun e => ?_, fun i h1 h2 => ?_⟩
    · show (if k = 8 then _ else u k) = σ k
      rw [if_neg h8, a1 k h1 h5 h7 h8, ko k h5 h7 h8]
    · exact a3
    · rw [v5]; rw [k5] at a4; omega
    · rw [vm]; omega
    · rw [v7] at e
      obtain ⟨b1, b2⟩ := a6 e
      refine ⟨w0, ?_⟩
      rw [v5, vm]
      rw [k7] at b1
      rcases hJw with ⟨-, w2⟩ | ⟨w2, -⟩
      · rw [k5, qJ, w2, tm] at b2; omega
      · rw [w2] at b1; exact absurd b1 (by decide)
    · show u 1 i = σ 1 i
      rw [a7 i (by rw [ta]; exact h1) (by rw [ta, tm]; exact h2), t1]
end FACOP
theorem am_ro {i : Nat} (hi : i < 6) {σ u : St} {r : Int32} (h : RO σ) (e : (r, u) = f_X12_among σ i) : SQ 0 σ u := by
  have A := among_q0 hi h
  rw [← e] at A
  rcases A with ⟨-, q⟩ | ⟨-, q⟩
  · have q : u = σ := q
    rw [q]
    exact SQ.rfl h
  · exact q
set_option maxRecDepth 20000 in
theorem w_1090 : (Cond.methodLink RX12 101 yX12_figures) ∈ TB := inTB (List.mem_of_getElem? (i := 1090) (by decide +kernel)) (by decide +kernel)
set_option maxRecDepth 20000 in
theorem w_1093 : (Cond.code yX12_figures cX12_figures 3 (some .int)) ∈ TB := inTB (List.mem_of_getElem? (i := 1093) (by decide +kernel)) (by decide +kernel)
set_option maxRecDepth 20000 in
theorem w_1092 : (Cond.instanceMethod yX12_figures) ∈ TB := inTB (List.mem_of_getElem? (i := 1092) (by decide +kernel)) (by decide +kernel)
set_option maxRecDepth 20000 in
theorem w_42 : (Cond.selects RX12 yX12_figures yX12_figures) ∈ TB := inTB (List.mem_of_getElem? (i := 42) (by decide +kernel)) (by decide +kernel)
theorem cf_X12_figures : CF yX12_figures cX12_figures 3 (some .int) 0 := ⟨w_1092, w_42, w_75, w_1093, by decide +kernel, by decide +kernel, by decide +kernel⟩
set_option maxRecDepth 20000 in
theorem w_975 : (Cond.fieldLink RX12 81 RX12 "open" "I") ∈ TB := inTB (List.mem_of_getElem? (i := 975) (by decide +kernel)) (by decide +kernel)
set_option maxRecDepth 20000 in
theorem w_1100 : (Cond.methodLink RX12 90 yX12_some) ∈ TB := inTB (List.mem_of_getElem? (i := 1100) (by decide +kernel)) (by decide +kernel)
set_option maxRecDepth 20000 in
theorem w_1103 : (Cond.code yX12_some cX12_some 1 none) ∈ TB := inTB (List.mem_of_getElem? (i := 1103) (by decide +kernel)) (by decide +kernel)
set_option maxRecDepth 20000 in
theorem w_1102 : (Cond.instanceMethod yX12_some) ∈ TB := inTB (List.mem_of_getElem? (i := 1102) (by decide +kernel)) (by decide +kernel)
set_option maxRecDepth 20000 in
theorem w_44 : (Cond.selects RX12 yX12_some yX12_some) ∈ TB := inTB (List.mem_of_getElem? (i := 44) (by decide +kernel)) (by decide +kernel)
theorem cf_X12_some : CF yX12_some cX12_some 1 none 0 := ⟨w_1102, w_44, w_75, w_1103, by decide +kernel, by decide +kernel, by decide +kernel⟩
set_option maxRecDepth 20000 in
theorem w_1117 : (Cond.methodLink RX12 95 yX12_among) ∈ TB := inTB (List.mem_of_getElem? (i := 1117) (by decide +kernel)) (by decide +kernel)
set_option maxRecDepth 20000 in
theorem w_1120 : (Cond.code yX12_among cX12_among 3 (some .int)) ∈ TB := inTB (List.mem_of_getElem? (i := 1120) (by decide +kernel)) (by decide +kernel)
set_option maxRecDepth 20000 in
theorem w_1119 : (Cond.instanceMethod yX12_among) ∈ TB := inTB (List.mem_of_getElem? (i := 1119) (by decide +kernel)) (by decide +kernel)
set_option maxRecDepth 20000 in
theorem w_48 : (Cond.selects RX12 yX12_among yX12_among) ∈ TB := inTB (List.mem_of_getElem? (i := 48) (by decide +kernel)) (by decide +kernel)
theorem cf_X12_among : CF yX12_among cX12_among 3 (some .int) 1 := ⟨w_1119, w_48, w_75, w_1120, by decide +kernel, by decide +kernel, by decide +kernel⟩
/-! ThreeMeasuresModel.factor -/
theorem dX12_factor_0 : decode cX12_factor 0 = .ok (.aload_n 0, 1) := by decide +kernel
theorem dX12_factor_1 : decode cX12_factor 1 = .ok (.getfield 57, 3) := by decide +kernel
theorem dX12_factor_4 : decode cX12_factor 4 = .ok (.ifCond .eq 4, 3) := by decide +kernel
theorem dX12_factor_7 : decode cX12_factor 7 = .ok (.return_, 1) := by decide +kernel
theorem dX12_factor_8 : decode cX12_factor 8 = .ok (.aload_n 0, 1) := by decide +kernel
theorem dX12_factor_9 : decode cX12_factor 9 = .ok (.invokevirtual 61, 3) := by decide +kernel
theorem dX12_factor_12 : decode cX12_factor 12 = .ok (.istore_n 1, 1) := by decide +kernel
theorem dX12_factor_13 : decode cX12_factor 13 = .ok (.iload_n 1, 1) := by decide +kernel
theorem dX12_factor_14 : decode cX12_factor 14 = .ok (.bipush 33, 2) := by decide +kernel
theorem dX12_factor_16 : decode cX12_factor 16 = .ok (.if_icmp .eq 9, 3) := by decide +kernel
theorem dX12_factor_19 : decode cX12_factor 19 = .ok (.iload_n 1, 1) := by decide +kernel
theorem dX12_factor_20 : decode cX12_factor 20 = .ok (.bipush 40, 2) := by decide +kernel
theorem dX12_factor_22 : decode cX12_factor 22 = .ok (.if_icmp .ne 90, 3) := by decide +kernel
theorem dX12_factor_25 : decode cX12_factor 25 = .ok (.aload_n 0, 1) := by decide +kernel
theorem dX12_factor_26 : decode cX12_factor 26 = .ok (.aload_n 0, 1) := by decide +kernel
theorem dX12_factor_27 : decode cX12_factor 27 = .ok (.getfield 81, 3) := by decide +kernel
theorem dX12_factor_30 : decode cX12_factor 30 = .ok (.iconst 5, 1) := by decide +kernel
theorem dX12_factor_31 : decode cX12_factor 31 = .ok (.if_icmp .ne 7, 3) := by decide +kernel
theorem dX12_factor_34 : decode cX12_factor 34 = .ok (.iconst 1, 1) := by decide +kernel
theorem dX12_factor_35 : decode cX12_factor 35 = .ok (.goto 4, 3) := by decide +kernel
theorem dX12_factor_38 : decode cX12_factor 38 = .ok (.iconst 0, 1) := by decide +kernel
theorem dX12_factor_39 : decode cX12_factor 39 = .ok (.putfield 57, 3) := by decide +kernel
theorem dX12_factor_42 : decode cX12_factor 42 = .ok (.aload_n 0, 1) := by decide +kernel
theorem dX12_factor_43 : decode cX12_factor 43 = .ok (.dup, 1) := by decide +kernel
theorem dX12_factor_44 : decode cX12_factor 44 = .ok (.getfield 81, 3) := by decide +kernel
theorem dX12_factor_47 : decode cX12_factor 47 = .ok (.iconst 1, 1) := by decide +kernel
theorem dX12_factor_48 : decode cX12_factor 48 = .ok (.iadd, 1) := by decide +kernel
theorem dX12_factor_49 : decode cX12_factor 49 = .ok (.putfield 81, 3) := by decide +kernel
theorem dX12_factor_52 : decode cX12_factor 52 = .ok (.aload_n 0, 1) := by decide +kernel
theorem dX12_factor_53 : decode cX12_factor 53 = .ok (.dup, 1) := by decide +kernel
theorem dX12_factor_54 : decode cX12_factor 54 = .ok (.getfield 51, 3) := by decide +kernel
theorem dX12_factor_57 : decode cX12_factor 57 = .ok (.aload_n 0, 1) := by decide +kernel
theorem dX12_factor_58 : decode cX12_factor 58 = .ok (.getfield 57, 3) := by decide +kernel
theorem dX12_factor_61 : decode cX12_factor 61 = .ok (.ifCond .eq 7, 3) := by decide +kernel
theorem dX12_factor_64 : decode cX12_factor 64 = .ok (.iconst 0, 1) := by decide +kernel
theorem dX12_factor_65 : decode cX12_factor 65 = .ok (.goto 4, 3) := by decide +kernel
theorem dX12_factor_68 : decode cX12_factor 68 = .ok (.iconst 1, 1) := by decide +kernel
theorem dX12_factor_69 : decode cX12_factor 69 = .ok (.iadd, 1) := by decide +kernel
theorem dX12_factor_70 : decode cX12_factor 70 = .ok (.putfield 51, 3) := by decide +kernel
theorem dX12_factor_73 : decode cX12_factor 73 = .ok (.iload_n 1, 1) := by decide +kernel
theorem dX12_factor_74 : decode cX12_factor 74 = .ok (.bipush 33, 2) := by decide +kernel
theorem dX12_factor_76 : decode cX12_factor 76 = .ok (.if_icmp .ne 15, 3) := by decide +kernel
theorem dX12_factor_79 : decode cX12_factor 79 = .ok (.aload_n 0, 1) := by decide +kernel
theorem dX12_factor_80 : decode cX12_factor 80 = .ok (.invokevirtual 84, 3) := by decide +kernel
theorem dX12_factor_83 : decode cX12_factor 83 = .ok (.aload_n 0, 1) := by decide +kernel
theorem dX12_factor_84 : decode cX12_factor 84 = .ok (.iconst (-1), 1) := by decide +kernel
theorem dX12_factor_85 : decode cX12_factor 85 = .ok (.invokevirtual 87, 3) := by decide +kernel
theorem dX12_factor_88 : decode cX12_factor 88 = .ok (.goto 13, 3) := by decide +kernel
theorem dX12_factor_91 : decode cX12_factor 91 = .ok (.aload_n 0, 1) := by decide +kernel
theorem dX12_factor_92 : decode cX12_factor 92 = .ok (.invokevirtual 90, 3) := by decide +kernel
theorem dX12_factor_95 : decode cX12_factor 95 = .ok (.aload_n 0, 1) := by decide +kernel
theorem dX12_factor_96 : decode cX12_factor 96 = .ok (.bipush 41, 2) := by decide +kernel
theorem dX12_factor_98 : decode cX12_factor 98 = .ok (.invokevirtual 74, 3) := by decide +kernel
theorem dX12_factor_101 : decode cX12_factor 101 = .ok (.aload_n 0, 1) := by decide +kernel
theorem dX12_factor_102 : decode cX12_factor 102 = .ok (.dup, 1) := by decide +kernel
theorem dX12_factor_103 : decode cX12_factor 103 = .ok (.getfield 81, 3) := by decide +kernel
theorem dX12_factor_106 : decode cX12_factor 106 = .ok (.iconst 1, 1) := by decide +kernel
theorem dX12_factor_107 : decode cX12_factor 107 = .ok (.isub, 1) := by decide +kernel
theorem dX12_factor_108 : decode cX12_factor 108 = .ok (.putfield 81, 3) := by decide +kernel
theorem dX12_factor_111 : decode cX12_factor 111 = .ok (.return_, 1) := by decide +kernel
theorem dX12_factor_112 : decode cX12_factor 112 = .ok (.aload_n 0, 1) := by decide +kernel
theorem dX12_factor_113 : decode cX12_factor 113 = .ok (.ldc 93, 2) := by decide +kernel
theorem dX12_factor_115 : decode cX12_factor 115 = .ok (.invokevirtual 95, 3) := by decide +kernel
theorem dX12_factor_118 : decode cX12_factor 118 = .ok (.istore_n 2, 1) := by decide +kernel
theorem dX12_factor_119 : decode cX12_factor 119 = .ok (.aload_n 0, 1) := by decide +kernel
theorem dX12_factor_120 : decode cX12_factor 120 = .ok (.iload_n 2, 1) := by decide +kernel
theorem dX12_factor_121 : decode cX12_factor 121 = .ok (.iconst (-1), 1) := by decide +kernel
theorem dX12_factor_122 : decode cX12_factor 122 = .ok (.if_icmp .ne 7, 3) := by decide +kernel
theorem dX12_factor_125 : decode cX12_factor 125 = .ok (.iconst 1, 1) := by decide +kernel
theorem dX12_factor_126 : decode cX12_factor 126 = .ok (.goto 4, 3) := by decide +kernel
theorem dX12_factor_129 : decode cX12_factor 129 = .ok (.iconst 0, 1) := by decide +kernel
theorem dX12_factor_130 : decode cX12_factor 130 = .ok (.putfield 57, 3) := by decide +kernel
theorem dX12_factor_133 : decode cX12_factor 133 = .ok (.aload_n 0, 1) := by decide +kernel
theorem dX12_factor_134 : decode cX12_factor 134 = .ok (.getfield 57, 3) := by decide +kernel
theorem dX12_factor_137 : decode cX12_factor 137 = .ok (.ifCond .eq 7, 3) := by decide +kernel
theorem dX12_factor_140 : decode cX12_factor 140 = .ok (.iconst 0, 1) := by decide +kernel
theorem dX12_factor_141 : decode cX12_factor 141 = .ok (.goto 9, 3) := by decide +kernel
theorem dX12_factor_144 : decode cX12_factor 144 = .ok (.aload_n 0, 1) := by decide +kernel
theorem dX12_factor_145 : decode cX12_factor 145 = .ok (.ldc 99, 2) := by decide +kernel
theorem dX12_factor_147 : decode cX12_factor 147 = .ok (.invokevirtual 95, 3) := by decide +kernel
theorem dX12_factor_150 : decode cX12_factor 150 = .ok (.istore_n 3, 1) := by decide +kernel
theorem dX12_factor_151 : decode cX12_factor 151 = .ok (.aload_n 0, 1) := by decide +kernel
theorem dX12_factor_152 : decode cX12_factor 152 = .ok (.aload_n 0, 1) := by decide +kernel
theorem dX12_factor_153 : decode cX12_factor 153 = .ok (.getfield 57, 3) := by decide +kernel
theorem dX12_factor_156 : decode cX12_factor 156 = .ok (.ifCond .ne 8, 3) := by decide +kernel
theorem dX12_factor_159 : decode cX12_factor 159 = .ok (.iload_n 3, 1) := by decide +kernel
theorem dX12_factor_160 : decode cX12_factor 160 = .ok (.iconst (-1), 1) := by decide +kernel
theorem dX12_factor_161 : decode cX12_factor 161 = .ok (.if_icmp .ne 7, 3) := by decide +kernel
theorem dX12_factor_164 : decode cX12_factor 164 = .ok (.iconst 1, 1) := by decide +kernel
theorem dX12_factor_165 : decode cX12_factor 165 = .ok (.goto 4, 3) := by decide +kernel
theorem dX12_factor_168 : decode cX12_factor 168 = .ok (.iconst 0, 1) := by decide +kernel
theorem dX12_factor_169 : decode cX12_factor 169 = .ok (.putfield 57, 3) := by decide +kernel
theorem dX12_factor_172 : decode cX12_factor 172 = .ok (.aload_n 0, 1) := by decide +kernel
theorem dX12_factor_173 : decode cX12_factor 173 = .ok (.invokevirtual 101, 3) := by decide +kernel
theorem dX12_factor_176 : decode cX12_factor 176 = .ok (.istore 4, 2) := by decide +kernel
theorem dX12_factor_178 : decode cX12_factor 178 = .ok (.aload_n 0, 1) := by decide +kernel
theorem dX12_factor_179 : decode cX12_factor 179 = .ok (.iload_n 2, 1) := by decide +kernel
theorem dX12_factor_180 : decode cX12_factor 180 = .ok (.bipush 8, 2) := by decide +kernel
theorem dX12_factor_182 : decode cX12_factor 182 = .ok (.iload_n 3, 1) := by decide +kernel
theorem dX12_factor_183 : decode cX12_factor 183 = .ok (.imul, 1) := by decide +kernel
theorem dX12_factor_184 : decode cX12_factor 184 = .ok (.iadd, 1) := by decide +kernel
theorem dX12_factor_185 : decode cX12_factor 185 = .ok (.bipush 32, 2) := by decide +kernel
theorem dX12_factor_187 : decode cX12_factor 187 = .ok (.iload 4, 2) := by decide +kernel
theorem dX12_factor_189 : decode cX12_factor 189 = .ok (.imul, 1) := by decide +kernel
theorem dX12_factor_190 : decode cX12_factor 190 = .ok (.iadd, 1) := by decide +kernel
theorem dX12_factor_191 : decode cX12_factor 191 = .ok (.invokevirtual 87, 3) := by decide +kernel
theorem dX12_factor_194 : decode cX12_factor 194 = .ok (.return_, 1) := by decide +kernel
def f_X12_factor_150 (Ff : St → St)  (σ : St) (a2 : Int32) (t0 : Int32) : St := (bd (f_X12_figures (up2 σ 7 0 (if (σ 7 0) = 0 then (if t0 = (-1 : Int32) then (1 : Int32) else (0 : Int32)) else (1 : Int32))) ) (fun r173 u173 => (bd1 (f_X12_emits u173 ((a2 + ((8 : Int32) * t0)) + ((32 : Int32) * r173))) (fun u191 => u191))))
set_option maxHeartbeats 600000 in
set_option maxRecDepth 100000 in
theorem b_X12_factor_150 {g : GG} {aK aV : Nat → Nat} {p : Program} {l : Launch} {e : Env} {s : State} {m : MethodId} {args : Array Value} {below : List Frame} {meth : Method} {c : Code} {A : Nat → Prop} {tgt : St}  (o : Int) (Ff : St → St) (frF loF : Nat) (kF : ∀ σ : St, FP o σ → MV l yX12_factor (wsF yX12_factor cX12_factor 5 none) { frames := frF, cells := 0, slots := 0, locals := loF } [.ref (g.2.2 100)] g (mW g) (MB aK aV (AM g)) σ (Ff σ)) (qF : ∀ σ : St, FP o σ → SQ 0 σ (Ff σ)) (C0 : BC p s m args meth c cX12_factor RX12 5 none)  {σ : St} {a2 : Int32} {t0 : Int32} {H : Heap} {locs : List Loc} (hR : RO σ)  (hK : KK g s) (hC : WC g (mW g) A s.heap σ H locs) (hB : MB aK aV (AM g) s) (hA : ∀ q, A q → AM g q) {ls : Array Slot} (hl : lv_has ls 5 [(0, .ref (g.2.2 100)), (2, .int (a2))]) (hT : f_X12_factor_150 Ff  σ a2 t0 = tgt) : W p l e { frames := frF + 5, cells := 0, slots := 0, locals := loF + 107 } s m args below meth c H locs 0 0 (QMV below args s g (mW g) A tgt) (F0 m 150 ls [.int (t0)]) := by
  obtain ⟨hx, hb, hr, hml, hown, hts, hlocks⟩ := id C0
  unfold f_X12_factor_150 at hT
  obtain ⟨p5, p56, p6, e4, e4b, em, emb, hw⟩ := id hR
  refine lv_istore_n (lv' := [(3, .int (t0)), (0, .ref (g.2.2 100)), (2, .int (a2))]) hx hb dX12_factor_150 rfl hl (by decide) rfl (fun ls hl => ?_)
  refine lv_aload_n hx hb dX12_factor_151 rfl (lv_at hl 1 rfl) ?_
  refine lv_aload_n hx hb dX12_factor_152 rfl (lv_at hl 1 rfl) ?_
  refine m_get (σ := σ) (v := .int ((σ 7 0))) C0 hK hC.1 7 (by decide) rfl w_974 dX12_factor_153 ?_
  have J156 : ∀ v : Int32, v = (if (σ 7 0) = 0 then (if t0 = (-1 : Int32) then (1 : Int32) else (0 : Int32)) else (1 : Int32)) → W p l e { frames := frF + 5, cells := 0, slots := 0, locals := loF + 107 } s m args below meth c H locs 0 0 (QMV below args s g (mW g) A tgt) (F0 m 169 ls [.int (v), .ref (g.2.2 100)]) := by
    intro v ev
    subst ev
    refine m_put (σ := σ) (ty := .boolean) C0 hK hC 7 (by decide) rfl rfl (nz_of (by (repeat' split) <;> simp)) (nf_of (by (repeat' split) <;> simp)) (ms_7 g _ _) w_974 dX12_factor_169 (fun H locs hC => ?_)
    refine lv_aload_n hx hb dX12_factor_172 rfl (lv_at hl 1 rfl) ?_
    have q173_p5 : 0 ≤ (σ 5 0).toInt := by
      omega
    have q173_p56 : (σ 5 0).toInt ≤ (σ 6 0).toInt := by
      omega
    have q173_p6 : (σ 6 0).toInt ≤ 100 := by
      omega
    refine m_mi (rest := []) (As := []) (σ := (up2 σ 7 0 (if (σ 7 0) = 0 then (if t0 = (-1 : Int32) then (1 : Int32) else (0 : Int32)) else (1 : Int32)))) C0 hK hC SV.tt (fun _ _ _ => trivial) cf_X12_figures w_1090 rfl (k_X12_figures l g (up2 σ 7 0 (if (σ 7 0) = 0 then (if t0 = (-1 : Int32) then (1 : Int32) else (0 : Int32)) else (1 : Int32)))  q173_p5 q173_p56 q173_p6) ⟨(by dsimp only; omega), (by dsimp only; omega)⟩ hl.1 rfl rfl (Nat.le_of_ble_eq_true rfl) dX12_factor_173 ⟨Nat.zero_le _, Nat.zero_le _⟩ (fun r173 u173 H locs e173 hC => ?_)
    have hT := bd_e e173 hT
    have S173 : SQ 1 (up2 σ 7 0 (if (σ 7 0) = 0 then (if t0 = (-1 : Int32) then (1 : Int32) else (0 : Int32)) else (1 : Int32))) u173 := by rw [show u173 = _ from congrArg Prod.snd e173]; exact (figures_q (hR.w (by (repeat' split) <;> simp))).1
    refine lv_istore (lv' := [(4, .int (r173)), (3, .int (t0)), (0, .ref (g.2.2 100)), (2, .int (a2))]) hx hb dX12_factor_176 hl (by decide) rfl (fun ls hl => ?_)
    refine lv_aload_n hx hb dX12_factor_178 rfl (lv_at hl 2 rfl) ?_
    refine lv_iload_n hx hb dX12_factor_179 rfl (lv_at hl 3 rfl) ?_
    refine lv_bipush (v := (8 : Int32)) hx hb dX12_factor_180 (by decide) ?_
    refine lv_iload_n hx hb dX12_factor_182 rfl (lv_at hl 1 rfl) ?_
    refine lv_imul hx hb dX12_factor_183 ?_
    refine lv_iadd hx hb dX12_factor_184 ?_
    refine lv_bipush (v := (32 : Int32)) hx hb dX12_factor_185 (by decide) ?_
    refine lv_iload hx hb dX12_factor_187 (lv_at hl 0 rfl) ?_
    refine lv_imul hx hb dX12_factor_189 ?_
    refine lv_iadd hx hb dX12_factor_190 ?_
    have q191_e4 : 0 ≤ (u173 4 0).toInt := S173.ro.2.2.2.1
    have q191_e4b : (u173 4 0).toInt < 5 := S173.ro.2.2.2.2.1
    have q191_em : 0 ≤ (u173 1 (ix (211 + u173 4 0))).toInt := by rw [ix_ac S173.ro]; exact S173.ro.2.2.2.2.2.1
    have q191_emb : (u173 1 (ix (211 + u173 4 0))).toInt < 140 := by rw [ix_ac S173.ro]; show mn u173 < 140; have := S173.ro; have h1 := this.2.2.2.2.2.2.1; have h2 := this.2.1; have h3 := this.2.2.1; omega
    refine m_mv (rest := []) (As := [.int (((a2 + ((8 : Int32) * t0)) + ((32 : Int32) * r173)))]) (σ := u173) C0 hK hC SV.tt (fun _ _ _ => trivial) cf_X12_emits w_1112 rfl (k_X12_emits l g u173 ((a2 + ((8 : Int32) * t0)) + ((32 : Int32) * r173)) q191_e4 q191_e4b q191_em q191_emb) ⟨(by dsimp only; omega), (by dsimp only; omega)⟩ hl.1 rfl rfl (Nat.le_of_ble_eq_true rfl) dX12_factor_191 ⟨Nat.zero_le _, Nat.zero_le _⟩ (fun u191 H locs e191 hC => ?_)
    have hT := bd1_e e191 hT
    exact ret_MV C0 hC hT dX12_factor_194
  refine lv_if_ne (tgt := 164) hx hb dX12_factor_156 (by decide) (fun c_156 => ?_) (fun c_156 => ?_)
  · refine lv_iconst (v := (1 : Int32)) hx hb dX12_factor_164 (by decide) ?_
    refine lv_goto (tgt := 169) hx hb dX12_factor_165 (by decide) ?_
    exact J156 _ (iv_neg c_156 rfl)
  · refine lv_iload_n hx hb dX12_factor_159 rfl (lv_at hl 0 rfl) ?_
    refine lv_iconst (v := (-1 : Int32)) hx hb dX12_factor_160 (by decide) ?_
    refine lv_icmp_ne (tgt := 168) hx hb dX12_factor_161 (by decide) (fun c_161 => ?_) (fun c_161 => ?_)
    · refine lv_iconst (v := (0 : Int32)) hx hb dX12_factor_168 (by decide) ?_
      exact J156 _ (iv_pos c_156 (iv_neg c_161 rfl))
    · refine lv_iconst (v := (1 : Int32)) hx hb dX12_factor_164 (by decide) ?_
      refine lv_goto (tgt := 169) hx hb dX12_factor_165 (by decide) ?_
      exact J156 _ (iv_pos c_156 (iv_pos c_161 rfl))
def f_X12_factor_25 (Ff : St → St)  (σ : St) (a1 : Int32) : St := (if a1 = (33 : Int32) then (bd1 (Ff (up2 (up2 (up2 σ 7 0 (if (σ 8 0) = (5 : Int32) then (1 : Int32) else (0 : Int32))) 8 0 ((σ 8 0) + (1 : Int32))) 5 0 ((σ 5 0) + (if (if (σ 8 0) = (5 : Int32) then (1 : Int32) else (0 : Int32)) = 0 then (1 : Int32) else (0 : Int32))))) (fun u80 => (bd1 (f_X12_emits u80 (-1 : Int32)) (fun u85 => (up2 u85 8 0 ((u85 8 0) - (1 : Int32))))))) else (bd1 (f_X12_some Ff (up2 (up2 (up2 σ 7 0 (if (σ 8 0) = (5 : Int32) then (1 : Int32) else (0 : Int32))) 8 0 ((σ 8 0) + (1 : Int32))) 5 0 ((σ 5 0) + (if (if (σ 8 0) = (5 : Int32) then (1 : Int32) else (0 : Int32)) = 0 then (1 : Int32) else (0 : Int32)))) ) (fun u92 => (bd1 (f_X12_must u92 (41 : Int32)) (fun u98 => (up2 u98 8 0 ((u98 8 0) - (1 : Int32))))))))
set_option maxHeartbeats 600000 in
set_option maxRecDepth 100000 in
theorem b_X12_factor_25 {g : GG} {aK aV : Nat → Nat} {p : Program} {l : Launch} {e : Env} {s : State} {m : MethodId} {args : Array Value} {below : List Frame} {meth : Method} {c : Code} {A : Nat → Prop} {tgt : St}  (o : Int) (Ff : St → St) (frF loF : Nat) (kF : ∀ σ : St, FP o σ → MV l yX12_factor (wsF yX12_factor cX12_factor 5 none) { frames := frF, cells := 0, slots := 0, locals := loF } [.ref (g.2.2 100)] g (mW g) (MB aK aV (AM g)) σ (Ff σ)) (qF : ∀ σ : St, FP o σ → SQ 0 σ (Ff σ)) (C0 : BC p s m args meth c cX12_factor RX12 5 none)  {σ : St} {a1 : Int32} {H : Heap} {locs : List Loc} (hP : FP (o - 1) σ) (w0 : σ 7 0 = 0) (hh : 0 ≤ a1.toInt) (he : f_X12_here σ = a1)  (hK : KK g s) (hC : WC g (mW g) A s.heap σ H locs) (hB : MB aK aV (AM g) s) (hA : ∀ q, A q → AM g q) {ls : Array Slot} (hl : lv_has ls 5 [(0, .ref (g.2.2 100)), (1, .int (a1))]) (hT : f_X12_factor_25 Ff  σ a1 = tgt) : W p l e { frames := frF + 5, cells := 0, slots := 0, locals := loF + 107 } s m args below meth c H locs 0 0 (QMV below args s g (mW g) A tgt) (F0 m 25 ls []) := by
  obtain ⟨hx, hb, hr, hml, hown, hts, hlocks⟩ := id C0
  unfold f_X12_factor_25 at hT
  have hR := hP.1
  obtain ⟨p5, p56, p6, e4, e4b, em, emb, hw⟩ := id hR
  obtain ⟨F1, F2, F3⟩ := fac_op hP w0 (by rw [he]; exact hh) rfl rfl
  refine lv_aload_n hx hb dX12_factor_25 rfl (lv_at hl 0 rfl) ?_
  refine lv_aload_n hx hb dX12_factor_26 rfl (lv_at hl 0 rfl) ?_
  refine m_get (σ := σ) (v := .int ((σ 8 0))) C0 hK hC.1 8 (by decide) rfl w_975 dX12_factor_27 ?_
  refine lv_iconst (v := (5 : Int32)) hx hb dX12_factor_30 (by decide) ?_
  have J31 : ∀ v : Int32, v = (if (σ 8 0) = (5 : Int32) then (1 : Int32) else (0 : Int32)) → W p l e { frames := frF + 5, cells := 0, slots := 0, locals := loF + 107 } s m args below meth c H locs 0 0 (QMV below args s g (mW g) A tgt) (F0 m 39 ls [.int (v), .ref (g.2.2 100)]) := by
    intro v ev
    subst ev
    refine m_put (σ := σ) (ty := .boolean) C0 hK hC 7 (by decide) rfl rfl (nz_of (by (repeat' split) <;> simp)) (nf_of (by (repeat' split) <;> simp)) (ms_7 g _ _) w_974 dX12_factor_39 (fun H locs hC => ?_)
    refine lv_aload_n hx hb dX12_factor_42 rfl (lv_at hl 0 rfl) ?_
    refine lv_dup hx hb dX12_factor_43 rfl ?_
    refine m_get (σ := (up2 σ 7 0 (if (σ 8 0) = (5 : Int32) then (1 : Int32) else (0 : Int32)))) (v := .int ((σ 8 0))) C0 hK hC.1 8 (by decide) rfl w_975 dX12_factor_44 ?_
    refine lv_iconst (v := (1 : Int32)) hx hb dX12_factor_47 (by decide) ?_
    refine lv_iadd hx hb dX12_factor_48 ?_
    refine m_put (σ := (up2 σ 7 0 (if (σ 8 0) = (5 : Int32) then (1 : Int32) else (0 : Int32)))) (ty := .int) C0 hK hC 8 (by decide) rfl rfl rfl rfl (ms_8 g _ _) w_975 dX12_factor_49 (fun H locs hC => ?_)
    refine lv_aload_n hx hb dX12_factor_52 rfl (lv_at hl 0 rfl) ?_
    refine lv_dup hx hb dX12_factor_53 rfl ?_
    refine m_get (σ := (up2 (up2 σ 7 0 (if (σ 8 0) = (5 : Int32) then (1 : Int32) else (0 : Int32))) 8 0 ((σ 8 0) + (1 : Int32)))) (v := .int ((σ 5 0))) C0 hK hC.1 5 (by decide) rfl w_972 dX12_factor_54 ?_
    refine lv_aload_n hx hb dX12_factor_57 rfl (lv_at hl 0 rfl) ?_
    refine m_get (σ := (up2 (up2 σ 7 0 (if (σ 8 0) = (5 : Int32) then (1 : Int32) else (0 : Int32))) 8 0 ((σ 8 0) + (1 : Int32)))) (v := .int ((if (σ 8 0) = (5 : Int32) then (1 : Int32) else (0 : Int32)))) C0 hK hC.1 7 (by decide) rfl w_974 dX12_factor_58 ?_
    have J61 : ∀ v : Int32, v = (if (if (σ 8 0) = (5 : Int32) then (1 : Int32) else (0 : Int32)) = 0 then (1 : Int32) else (0 : Int32)) → W p l e { frames := frF + 5, cells := 0, slots := 0, locals := loF + 107 } s m args below meth c H locs 0 0 (QMV below args s g (mW g) A tgt) (F0 m 69 ls [.int (v), .int ((σ 5 0)), .ref (g.2.2 100)]) := by
      intro v ev
      subst ev
      refine lv_iadd hx hb dX12_factor_69 ?_
      refine m_put (σ := (up2 (up2 σ 7 0 (if (σ 8 0) = (5 : Int32) then (1 : Int32) else (0 : Int32))) 8 0 ((σ 8 0) + (1 : Int32)))) (ty := .int) C0 hK hC 5 (by decide) rfl rfl rfl rfl (ms_5 g _ _) w_972 dX12_factor_70 (fun H locs hC => ?_)
      refine lv_iload_n hx hb dX12_factor_73 rfl (lv_at hl 1 rfl) ?_
      refine lv_bipush (v := (33 : Int32)) hx hb dX12_factor_74 (by decide) ?_
      refine lv_icmp_ne (tgt := 91) hx hb dX12_factor_76 (by decide) (fun c_76 => ?_) (fun c_76 => ?_)
      · have hT := hT_neg c_76 hT
        refine lv_aload_n hx hb dX12_factor_91 rfl (lv_at hl 0 rfl) ?_
        have q92_hP : FP o (up2 (up2 (up2 σ 7 0 (if (σ 8 0) = (5 : Int32) then (1 : Int32) else (0 : Int32))) 8 0 ((σ 8 0) + (1 : Int32))) 5 0 ((σ 5 0) + (if (if (σ 8 0) = (5 : Int32) then (1 : Int32) else (0 : Int32)) = 0 then (1 : Int32) else (0 : Int32)))) := F1
        refine m_mv (rest := []) (As := []) (σ := (up2 (up2 (up2 σ 7 0 (if (σ 8 0) = (5 : Int32) then (1 : Int32) else (0 : Int32))) 8 0 ((σ 8 0) + (1 : Int32))) 5 0 ((σ 5 0) + (if (if (σ 8 0) = (5 : Int32) then (1 : Int32) else (0 : Int32)) = 0 then (1 : Int32) else (0 : Int32))))) C0 hK hC MB.sv (fun _ h1 h2 => hB.to (hC.2.2.mono hA) h1 h2) cf_X12_some w_1100 rfl (k_X12_some l g aK aV o Ff frF loF kF qF (up2 (up2 (up2 σ 7 0 (if (σ 8 0) = (5 : Int32) then (1 : Int32) else (0 : Int32))) 8 0 ((σ 8 0) + (1 : Int32))) 5 0 ((σ 5 0) + (if (if (σ 8 0) = (5 : Int32) then (1 : Int32) else (0 : Int32)) = 0 then (1 : Int32) else (0 : Int32))))  q92_hP) ⟨(by dsimp only; omega), (by dsimp only; omega)⟩ hl.1 rfl rfl (Nat.le_of_ble_eq_true rfl) dX12_factor_92 ⟨Nat.zero_le _, Nat.zero_le _⟩ (fun u92 H locs e92 hC => ?_)
        have hT := bd1_e e92 hT
        have S92 : SQ 0 (up2 (up2 (up2 σ 7 0 (if (σ 8 0) = (5 : Int32) then (1 : Int32) else (0 : Int32))) 8 0 ((σ 8 0) + (1 : Int32))) 5 0 ((σ 5 0) + (if (if (σ 8 0) = (5 : Int32) then (1 : Int32) else (0 : Int32)) = 0 then (1 : Int32) else (0 : Int32)))) u92 := by rw [e92]; exact some_q qF _ F1
        refine lv_aload_n hx hb dX12_factor_95 rfl (lv_at hl 0 rfl) ?_
        refine lv_bipush (v := (41 : Int32)) hx hb dX12_factor_96 (by decide) ?_
        have q98_p5 : 0 ≤ (u92 5 0).toInt := S92.ro.1
        have q98_p56 : (u92 5 0).toInt ≤ (u92 6 0).toInt := S92.ro.2.1
        have q98_p6 : (u92 6 0).toInt ≤ 100 := S92.ro.2.2.1
        refine m_mv (rest := []) (As := [.int ((41 : Int32))]) (σ := u92) C0 hK hC SV.tt (fun _ _ _ => trivial) cf_X12_must w_1086 rfl (k_X12_must l g u92 (41 : Int32) q98_p5 q98_p56 q98_p6) ⟨(by dsimp only; omega), (by dsimp only; omega)⟩ hl.1 rfl rfl (Nat.le_of_ble_eq_true rfl) dX12_factor_98 ⟨Nat.zero_le _, Nat.zero_le _⟩ (fun u98 H locs e98 hC => ?_)
        have hT := bd1_e e98 hT
        refine lv_aload_n hx hb dX12_factor_101 rfl (lv_at hl 0 rfl) ?_
        refine lv_dup hx hb dX12_factor_102 rfl ?_
        refine m_get (σ := u98) (v := .int ((u98 8 0))) C0 hK hC.1 8 (by decide) rfl w_975 dX12_factor_103 ?_
        refine lv_iconst (v := (1 : Int32)) hx hb dX12_factor_106 (by decide) ?_
        refine lv_isub hx hb dX12_factor_107 ?_
        refine m_put (σ := u98) (ty := .int) C0 hK hC 8 (by decide) rfl rfl rfl rfl (ms_8 g _ _) w_975 dX12_factor_108 (fun H locs hC => ?_)
        exact ret_MV C0 hC hT dX12_factor_111
      · have hT := hT_pos c_76 hT
        refine lv_aload_n hx hb dX12_factor_79 rfl (lv_at hl 0 rfl) ?_
        have q80_hP : FP o (up2 (up2 (up2 σ 7 0 (if (σ 8 0) = (5 : Int32) then (1 : Int32) else (0 : Int32))) 8 0 ((σ 8 0) + (1 : Int32))) 5 0 ((σ 5 0) + (if (if (σ 8 0) = (5 : Int32) then (1 : Int32) else (0 : Int32)) = 0 then (1 : Int32) else (0 : Int32)))) := F1
        refine m_mv (rest := []) (As := []) (σ := (up2 (up2 (up2 σ 7 0 (if (σ 8 0) = (5 : Int32) then (1 : Int32) else (0 : Int32))) 8 0 ((σ 8 0) + (1 : Int32))) 5 0 ((σ 5 0) + (if (if (σ 8 0) = (5 : Int32) then (1 : Int32) else (0 : Int32)) = 0 then (1 : Int32) else (0 : Int32))))) C0 hK hC MB.sv (fun _ h1 h2 => hB.to (hC.2.2.mono hA) h1 h2) cf_X12_factor w_1108 rfl (kF (up2 (up2 (up2 σ 7 0 (if (σ 8 0) = (5 : Int32) then (1 : Int32) else (0 : Int32))) 8 0 ((σ 8 0) + (1 : Int32))) 5 0 ((σ 5 0) + (if (if (σ 8 0) = (5 : Int32) then (1 : Int32) else (0 : Int32)) = 0 then (1 : Int32) else (0 : Int32)))) q80_hP) ⟨(by dsimp only; omega), (by dsimp only; omega)⟩ hl.1 rfl rfl (Nat.le_of_ble_eq_true rfl) dX12_factor_80 ⟨Nat.zero_le _, Nat.zero_le _⟩ (fun u80 H locs e80 hC => ?_)
        have hT := bd1_e e80 hT
        have S80 : SQ 0 (up2 (up2 (up2 σ 7 0 (if (σ 8 0) = (5 : Int32) then (1 : Int32) else (0 : Int32))) 8 0 ((σ 8 0) + (1 : Int32))) 5 0 ((σ 5 0) + (if (if (σ 8 0) = (5 : Int32) then (1 : Int32) else (0 : Int32)) = 0 then (1 : Int32) else (0 : Int32)))) u80 := by rw [e80]; exact qF _ F1
        refine lv_aload_n hx hb dX12_factor_83 rfl (lv_at hl 0 rfl) ?_
        refine lv_iconst (v := (-1 : Int32)) hx hb dX12_factor_84 (by decide) ?_
        have q85_e4 : 0 ≤ (u80 4 0).toInt := S80.ro.2.2.2.1
        have q85_e4b : (u80 4 0).toInt < 5 := S80.ro.2.2.2.2.1
        have q85_em : 0 ≤ (u80 1 (ix (211 + u80 4 0))).toInt := by rw [ix_ac S80.ro]; exact S80.ro.2.2.2.2.2.1
        have q85_emb : (u80 1 (ix (211 + u80 4 0))).toInt < 140 := by rw [ix_ac S80.ro]; show mn u80 < 140; have := S80.ro; have h1 := this.2.2.2.2.2.2.1; have h2 := this.2.1; have h3 := this.2.2.1; omega
        refine m_mv (rest := []) (As := [.int ((-1 : Int32))]) (σ := u80) C0 hK hC SV.tt (fun _ _ _ => trivial) cf_X12_emits w_1112 rfl (k_X12_emits l g u80 (-1 : Int32) q85_e4 q85_e4b q85_em q85_emb) ⟨(by dsimp only; omega), (by dsimp only; omega)⟩ hl.1 rfl rfl (Nat.le_of_ble_eq_true rfl) dX12_factor_85 ⟨Nat.zero_le _, Nat.zero_le _⟩ (fun u85 H locs e85 hC => ?_)
        have hT := bd1_e e85 hT
        refine lv_goto (tgt := 101) hx hb dX12_factor_88 (by decide) ?_
        refine lv_aload_n hx hb dX12_factor_101 rfl (lv_at hl 0 rfl) ?_
        refine lv_dup hx hb dX12_factor_102 rfl ?_
        refine m_get (σ := u85) (v := .int ((u85 8 0))) C0 hK hC.1 8 (by decide) rfl w_975 dX12_factor_103 ?_
        refine lv_iconst (v := (1 : Int32)) hx hb dX12_factor_106 (by decide) ?_
        refine lv_isub hx hb dX12_factor_107 ?_
        refine m_put (σ := u85) (ty := .int) C0 hK hC 8 (by decide) rfl rfl rfl rfl (ms_8 g _ _) w_975 dX12_factor_108 (fun H locs hC => ?_)
        exact ret_MV C0 hC hT dX12_factor_111
    refine lv_if_eq (tgt := 68) hx hb dX12_factor_61 (by decide) (fun c_61 => ?_) (fun c_61 => ?_)
    · refine lv_iconst (v := (1 : Int32)) hx hb dX12_factor_68 (by decide) ?_
      exact J61 _ (iv_pos c_61 rfl)
    · refine lv_iconst (v := (0 : Int32)) hx hb dX12_factor_64 (by decide) ?_
      refine lv_goto (tgt := 69) hx hb dX12_factor_65 (by decide) ?_
      exact J61 _ (iv_neg c_61 rfl)
  refine lv_icmp_ne (tgt := 38) hx hb dX12_factor_31 (by decide) (fun c_31 => ?_) (fun c_31 => ?_)
  · refine lv_iconst (v := (0 : Int32)) hx hb dX12_factor_38 (by decide) ?_
    exact J31 _ (iv_neg c_31 rfl)
  · refine lv_iconst (v := (1 : Int32)) hx hb dX12_factor_34 (by decide) ?_
    refine lv_goto (tgt := 39) hx hb dX12_factor_35 (by decide) ?_
    exact J31 _ (iv_pos c_31 rfl)
def f_X12_factor (Ff : St → St) (σ : St) : St := (if (σ 7 0) = 0 then (if (f_X12_here σ ) = (33 : Int32) then (f_X12_factor_25 Ff  σ (f_X12_here σ )) else (if (f_X12_here σ ) = (40 : Int32) then (f_X12_factor_25 Ff  σ (f_X12_here σ )) else (bd (f_X12_among σ 0) (fun r115 u115 => (if (if r115 = (-1 : Int32) then (1 : Int32) else (0 : Int32)) = 0 then (bd (f_X12_among (up2 u115 7 0 (if r115 = (-1 : Int32) then (1 : Int32) else (0 : Int32))) 1) (fun r147 u147 => (f_X12_factor_150 Ff  u147 r115 r147))) else (f_X12_factor_150 Ff  (up2 u115 7 0 (if r115 = (-1 : Int32) then (1 : Int32) else (0 : Int32))) r115 (0 : Int32))))))) else σ)
set_option maxHeartbeats 600000 in
set_option maxRecDepth 100000 in
theorem k_X12_factor (l : Launch) (g : GG) (aK aV : Nat → Nat) (o : Int) (Ff : St → St) (frF loF : Nat) (kF : ∀ σ : St, FP o σ → MV l yX12_factor (wsF yX12_factor cX12_factor 5 none) { frames := frF, cells := 0, slots := 0, locals := loF } [.ref (g.2.2 100)] g (mW g) (MB aK aV (AM g)) σ (Ff σ)) (qF : ∀ σ : St, FP o σ → SQ 0 σ (Ff σ)) (σ : St) (hP : FP (o - 1) σ) : MV l yX12_factor (wsF yX12_factor cX12_factor 5 none) { frames := frF + 5, cells := 0, slots := 0, locals := loF + 107 } [.ref (g.2.2 100)] g (mW g) (MB aK aV (AM g)) σ (f_X12_factor Ff σ) := by
  refine start_MV (by decide) (Nat.le_of_ble_eq_true rfl) ?_
  intro p e s m args below meth c C0 hK hB hC ls hl
  generalize hAe : aA ((mW g) σ) = A at hC ⊢
  have hA : ∀ q, A q → AM g q := fun q h => by rw [← hAe] at h; exact h
  obtain ⟨hx, hb, hr, hml, hown, hts, hlocks⟩ := id C0
  have hl : lv_has ls 5 [(0, .ref (g.2.2 100))] := hl
  generalize hT : (f_X12_factor Ff σ) = tgt
  suffices key : ∀ (H : Heap) (locs : List Loc), WC g (mW g) A s.heap σ H locs → W p l e { frames := frF + 5, cells := 0, slots := 0, locals := loF + 107 } s m args below meth c H locs 0 0 (QMV below args s g (mW g) A tgt) (F0 m 0 ls []) from key _ _ hC
  intro H locs hC
  unfold f_X12_factor at hT
  have hR := hP.1
  obtain ⟨p5, p56, p6, e4, e4b, em, emb, hw⟩ := id hR
  refine lv_aload_n hx hb dX12_factor_0 rfl (lv_at hl 0 rfl) ?_
  refine m_get (σ := σ) (v := .int ((σ 7 0))) C0 hK hC.1 7 (by decide) rfl w_974 dX12_factor_1 ?_
  refine lv_if_eq (tgt := 8) hx hb dX12_factor_4 (by decide) (fun c_4 => ?_) (fun c_4 => ?_)
  · have hT := hT_pos c_4 hT
    refine lv_aload_n hx hb dX12_factor_8 rfl (lv_at hl 0 rfl) ?_
    have q9_p5 : 0 ≤ (σ 5 0).toInt := by
      have : ((0 : Int32)).toInt = 0 := by decide
      have := ti_eq.mp c_4
      omega
    have q9_p56 : (σ 5 0).toInt ≤ (σ 6 0).toInt := by
      have : ((0 : Int32)).toInt = 0 := by decide
      have := ti_eq.mp c_4
      omega
    have q9_p6 : (σ 6 0).toInt ≤ 100 := by
      have : ((0 : Int32)).toInt = 0 := by decide
      have := ti_eq.mp c_4
      omega
    refine m_ci (rest := []) (As := []) (σ := σ) C0 hK hC.1 (hC.2.1.weaken (fun _ _ _ _ => trivial)) SV.tt (fun _ _ _ => trivial) cf_X12_here w_1071 rfl (k_X12_here l g σ  q9_p5 q9_p56 q9_p6) ⟨(by dsimp only; omega), (by dsimp only; omega)⟩ hl.1 rfl rfl (Nat.le_of_ble_eq_true rfl) dX12_factor_9 ⟨Nat.zero_le _, Nat.zero_le _⟩ ?_
    refine lv_istore_n (lv' := [(1, .int ((f_X12_here σ ))), (0, .ref (g.2.2 100))]) hx hb dX12_factor_12 rfl hl (by decide) rfl (fun ls hl => ?_)
    refine lv_iload_n hx hb dX12_factor_13 rfl (lv_at hl 0 rfl) ?_
    refine lv_bipush (v := (33 : Int32)) hx hb dX12_factor_14 (by decide) ?_
    refine lv_icmp_eq (tgt := 25) hx hb dX12_factor_16 (by decide) (fun c_16 => ?_) (fun c_16 => ?_)
    · have hT := hT_pos c_16 hT
      have j16_w0 : σ 7 0 = 0 := c_4
      have j16_hh : 0 ≤ (f_X12_here σ ).toInt := by rw [c_16]; decide
      have j16_he : f_X12_here σ = (f_X12_here σ ) := rfl
      exact b_X12_factor_25 (g := g) (aK := aK) (aV := aV) o Ff frF loF kF qF (σ := σ) (a1 := (f_X12_here σ )) C0  hP j16_w0 j16_hh j16_he hK hC hB hA (lv_sub hl [1, 0] rfl) hT
    · have hT := hT_neg c_16 hT
      refine lv_iload_n hx hb dX12_factor_19 rfl (lv_at hl 0 rfl) ?_
      refine lv_bipush (v := (40 : Int32)) hx hb dX12_factor_20 (by decide) ?_
      refine lv_icmp_ne (tgt := 112) hx hb dX12_factor_22 (by decide) (fun c_22 => ?_) (fun c_22 => ?_)
      · have hT := hT_neg c_22 hT
        refine lv_aload_n hx hb dX12_factor_112 rfl (lv_at hl 1 rfl) ?_
        refine va_ldcS hx hb hown hB.2.1 dX12_factor_113 ?_
        have q115_hi : 0 < 6 := by
          have : ((0 : Int32)).toInt = 0 := by decide
          have : ((33 : Int32)).toInt = 33 := by decide
          have : ((40 : Int32)).toInt = 40 := by decide
          have := ti_eq.mp c_4
          have := mt ti_eq.mpr c_16
          have := mt ti_eq.mpr c_22
          omega
        have q115_hR : RO σ := hR
        refine m_mi (rest := []) (As := [.ref (aK 0)]) (σ := σ) C0 hK hC MB.sv (fun _ h1 h2 => hB.to (hC.2.2.mono hA) h1 h2) cf_X12_among w_1117 rfl (k_X12_among l g aK aV  σ 0 q115_hi q115_hR) ⟨(by dsimp only; omega), (by dsimp only; omega)⟩ hl.1 rfl rfl (Nat.le_of_ble_eq_true rfl) dX12_factor_115 ⟨Nat.zero_le _, Nat.zero_le _⟩ (fun r115 u115 H locs e115 hC => ?_)
        have hT := bd_e e115 hT
        have R115 : RO u115 := (am_ro (by decide) hR e115).ro
        refine lv_istore_n (lv' := [(2, .int (r115)), (1, .int ((f_X12_here σ ))), (0, .ref (g.2.2 100))]) hx hb dX12_factor_118 rfl hl (by decide) rfl (fun ls hl => ?_)
        refine lv_aload_n hx hb dX12_factor_119 rfl (lv_at hl 2 rfl) ?_
        refine lv_iload_n hx hb dX12_factor_120 rfl (lv_at hl 0 rfl) ?_
        refine lv_iconst (v := (-1 : Int32)) hx hb dX12_factor_121 (by decide) ?_
        have J122 : ∀ v : Int32, v = (if r115 = (-1 : Int32) then (1 : Int32) else (0 : Int32)) → W p l e { frames := frF + 5, cells := 0, slots := 0, locals := loF + 107 } s m args below meth c H locs 0 0 (QMV below args s g (mW g) A tgt) (F0 m 130 ls [.int (v), .ref (g.2.2 100)]) := by
          intro v ev
          subst ev
          refine m_put (σ := u115) (ty := .boolean) C0 hK hC 7 (by decide) rfl rfl (nz_of (by (repeat' split) <;> simp)) (nf_of (by (repeat' split) <;> simp)) (ms_7 g _ _) w_974 dX12_factor_130 (fun H locs hC => ?_)
          refine lv_aload_n hx hb dX12_factor_133 rfl (lv_at hl 2 rfl) ?_
          refine m_get (σ := (up2 u115 7 0 (if r115 = (-1 : Int32) then (1 : Int32) else (0 : Int32)))) (v := .int ((if r115 = (-1 : Int32) then (1 : Int32) else (0 : Int32)))) C0 hK hC.1 7 (by decide) rfl w_974 dX12_factor_134 ?_
          refine lv_if_eq (tgt := 144) hx hb dX12_factor_137 (by decide) (fun c_137 => ?_) (fun c_137 => ?_)
          · have hT := hT_pos c_137 hT
            refine lv_aload_n hx hb dX12_factor_144 rfl (lv_at hl 2 rfl) ?_
            refine va_ldcS hx hb hown hB.2.2.1 dX12_factor_145 ?_
            have q147_hi : 1 < 6 := by
              have : ((0 : Int32)).toInt = 0 := by decide
              have : ((33 : Int32)).toInt = 33 := by decide
              have : ((40 : Int32)).toInt = 40 := by decide
              have := ti_eq.mp c_4
              have := mt ti_eq.mpr c_16
              have := mt ti_eq.mpr c_22
              have := ti_eq.mp c_137
              omega
            have q147_hR : RO (up2 u115 7 0 (if r115 = (-1 : Int32) then (1 : Int32) else (0 : Int32))) := R115.w (by split <;> simp)
            refine m_mi (rest := []) (As := [.ref (aK 1)]) (σ := (up2 u115 7 0 (if r115 = (-1 : Int32) then (1 : Int32) else (0 : Int32)))) C0 hK hC MB.sv (fun _ h1 h2 => hB.to (hC.2.2.mono hA) h1 h2) cf_X12_among w_1117 rfl (k_X12_among l g aK aV  (up2 u115 7 0 (if r115 = (-1 : Int32) then (1 : Int32) else (0 : Int32))) 1 q147_hi q147_hR) ⟨(by dsimp only; omega), (by dsimp only; omega)⟩ hl.1 rfl rfl (Nat.le_of_ble_eq_true rfl) dX12_factor_147 ⟨Nat.zero_le _, Nat.zero_le _⟩ (fun r147 u147 H locs e147 hC => ?_)
            have hT := bd_e e147 hT
            have R147 : RO u147 := (am_ro (by decide) (R115.w (by split <;> simp)) e147).ro
            have j147_hR : RO u147 := R147
            exact b_X12_factor_150 (g := g) (aK := aK) (aV := aV) o Ff frF loF kF qF (σ := u147) (a2 := r115) (t0 := r147) C0  j147_hR hK hC hB hA (lv_sub hl [2, 0] rfl) hT
          · have hT := hT_neg c_137 hT
            refine lv_iconst (v := (0 : Int32)) hx hb dX12_factor_140 (by decide) ?_
            refine lv_goto (tgt := 150) hx hb dX12_factor_141 (by decide) ?_
            have j141_hR : RO (up2 u115 7 0 (if r115 = (-1 : Int32) then (1 : Int32) else (0 : Int32))) := R115.w (by split <;> simp)
            exact b_X12_factor_150 (g := g) (aK := aK) (aV := aV) o Ff frF loF kF qF (σ := (up2 u115 7 0 (if r115 = (-1 : Int32) then (1 : Int32) else (0 : Int32)))) (a2 := r115) (t0 := (0 : Int32)) C0  j141_hR hK hC hB hA (lv_sub hl [2, 0] rfl) hT
        refine lv_icmp_ne (tgt := 129) hx hb dX12_factor_122 (by decide) (fun c_122 => ?_) (fun c_122 => ?_)
        · refine lv_iconst (v := (0 : Int32)) hx hb dX12_factor_129 (by decide) ?_
          exact J122 _ (iv_neg c_122 rfl)
        · refine lv_iconst (v := (1 : Int32)) hx hb dX12_factor_125 (by decide) ?_
          refine lv_goto (tgt := 130) hx hb dX12_factor_126 (by decide) ?_
          exact J122 _ (iv_pos c_122 rfl)
      · have hT := hT_pos c_22 hT
        have j22_w0 : σ 7 0 = 0 := c_4
        have j22_hh : 0 ≤ (f_X12_here σ ).toInt := by rw [c_22]; decide
        have j22_he : f_X12_here σ = (f_X12_here σ ) := rfl
        exact b_X12_factor_25 (g := g) (aK := aK) (aV := aV) o Ff frF loF kF qF (σ := σ) (a1 := (f_X12_here σ )) C0  hP j22_w0 j22_hh j22_he hK hC hB hA (lv_sub hl [1, 0] rfl) hT
  · have hT := hT_neg c_4 hT
    exact ret_MV C0 hC hT dX12_factor_7

theorem amongl_7 {i : Nat} : ∀ (n : Nat) {σ : St} (a : Int32), (g_X12_among_2 n σ i a).2 7 = σ 7
  | 0, σ, a => rfl
  | n + 1, σ, a => by
    rw [show g_X12_among_2 (n + 1) σ i a = f_X12_among_2 (g_X12_among_2 n) σ i a from rfl]
    unfold f_X12_among_2
    by_cases c : f_J0_length_8abf5 i ≤ a
    · rw [if_pos c]
    · rw [if_neg c]
      by_cases c2 : f_X12_here σ = f_J0_charAt_5068e i a
      · rw [if_pos c2]; rfl
      · rw [if_neg c2]
        exact amongl_7 n (a + 1)
theorem among_7 {σ : St} (i : Nat) : (f_X12_among σ i).2 7 = σ 7 := amongl_7 7 0
theorem fac150_q {Ff : St → St} {σ : St} {a2 t0 : Int32} (h : RO σ) : SQ 0 σ (f_X12_factor_150 Ff σ a2 t0) := by
  unfold f_X12_factor_150
  have hw : ∀ W : Int32, W = (if σ 7 0 = 0 then (if t0 = (-1 : Int32) then (1 : Int32) else (0 : Int32)) else (1 : Int32)) → (W = 0 ∨ W = 1) ∧ (W = 0 → σ 7 0 = 0) := fun W e => by
    rw [e]
    by_cases c : σ 7 0 = 0
    · rw [if_pos c]
      refine ⟨by split <;> simp, fun _ => c⟩
    · rw [if_neg c]
      exact ⟨Or.inr (Eq.refl _), fun q => absurd q (by decide)⟩
  obtain ⟨w1, w2⟩ := hw _ (Eq.refl _)
  have S1 := wr_q h w1 w2
  have S2 := (figures_q S1.ro).1
  have hm := S2.2.2.2.2.2.1
  have hb := S1.ro.2.2.2.2.2.2.1
  refine ((S1.tr S2).tr (emits_q S2.ro (fun q => ?_))).le (by decide)
  have := (hm q).2
  omega
theorem fac25_q {o : Int} {Ff : St → St} (qF : ∀ σ : St, FP o σ → SQ 0 σ (Ff σ)) {σ : St} {a1 : Int32} (hP : FP (o - 1) σ) (w0 : σ 7 0 = 0) (hh : 0 ≤ a1.toInt) (he : f_X12_here σ = a1) : SQ 0 σ (f_X12_factor_25 Ff σ a1) := by
  unfold f_X12_factor_25
  obtain ⟨F1, F2, F3⟩ := fac_op hP w0 (by rw [he]; exact hh) (Eq.refl _) (Eq.refl _)
  by_cases c : a1 = 33
  · rw [if_pos c]
    have S := qF _ F1
    have hm := S.2.2.2.2.2.1
    have T := emits_q (a := -1) S.ro (fun q => by
      obtain ⟨m1, m2⟩ := hm q
      have := F2 m1
      have e1 : mn (up2 (up2 (up2 σ 7 0 (if (σ 8 0) = (5 : Int32) then (1 : Int32) else (0 : Int32))) 8 0 ((σ 8 0) + (1 : Int32))) 5 0 ((σ 5 0) + (if (if (σ 8 0) = (5 : Int32) then (1 : Int32) else (0 : Int32)) = 0 then (1 : Int32) else (0 : Int32)))) = mn σ := Eq.refl _
      have e2 : (up2 (up2 (up2 σ 7 0 (if (σ 8 0) = (5 : Int32) then (1 : Int32) else (0 : Int32))) 8 0 ((σ 8 0) + (1 : Int32))) 5 0 ((σ 5 0) + (if (if (σ 8 0) = (5 : Int32) then (1 : Int32) else (0 : Int32)) = 0 then (1 : Int32) else (0 : Int32)))) 5 0 = ((σ 5 0) + (if (if (σ 8 0) = (5 : Int32) then (1 : Int32) else (0 : Int32)) = 0 then (1 : Int32) else (0 : Int32))) := Eq.refl _
      rw [e1, e2] at m2
      omega)
    exact F3 _ (S.tr T)
  · rw [if_neg c]
    have S := some_q qF _ F1
    have T := must_q (c := 41) S.ro (by decide)
    exact F3 _ ((S.tr T).le (by decide))
theorem factor_q {o : Int} {Ff : St → St} (qF : ∀ σ : St, FP o σ → SQ 0 σ (Ff σ)) (σ : St) (hP : FP (o - 1) σ) : SQ 0 σ (f_X12_factor Ff σ) := by
  unfold f_X12_factor
  have hR := hP.1
  by_cases w : σ 7 0 = 0
  · rw [if_pos w]
    by_cases c1 : f_X12_here σ = 33
    · rw [if_pos c1]
      exact fac25_q qF hP w (by rw [c1]; decide) (Eq.refl _)
    · rw [if_neg c1]
      by_cases c2 : f_X12_here σ = 40
      · rw [if_pos c2]
        exact fac25_q qF hP w (by rw [c2]; decide) (Eq.refl _)
      · rw [if_neg c2]
        have S1 : SQ 0 σ (f_X12_among σ 0).2 := am_ro (i := 0) (by decide) hR (Eq.refl _)
        dsimp only [bd]
        have hw1 : ∀ W : Int32, W = (if (f_X12_among σ 0).1 = (-1 : Int32) then (1 : Int32) else (0 : Int32)) → W = 0 ∨ W = 1 := fun W e => by rw [e]; split <;> simp
        have S2 := wr_q S1.ro (hw1 _ (Eq.refl _)) (fun _ => by rw [show (f_X12_among σ 0).2 7 0 = σ 7 0 from congrFun (among_7 0) 0]; exact w)
        have S12 := S1.tr S2
        by_cases c3 : (if (f_X12_among σ 0).1 = (-1 : Int32) then (1 : Int32) else (0 : Int32)) = 0
        · rw [if_pos c3]
          have S3 := am_ro (i := 1) (by decide) S2.ro (Eq.refl _)
          exact ((S12.tr S3).tr (fac150_q S3.ro)).le (by decide)
        · rw [if_neg c3]
          exact (S12.tr (fac150_q S2.ro)).le (by decide)
  · rw [if_neg w]
    exact SQ.rfl hR
