
theorem CQ_0 {σ : St} (h : ∀ i : Nat, (i : Int) < 1681 → σ 21 i = -1) : CQ (up2 σ 23 0 0) := by
  have em : (-1 : Int32).toInt = -1 := rfl
  refine ⟨fun s hs => Or.inl (h s (by omega)), ?_, fun i hi => ?_⟩
  · show (0 : Int32).toInt = ((cnt (σ 21) 1681 : Nat) : Int)
    rw [cnt_neg 1681 (fun i hi => by rw [h i (by omega), em]; decide)]
    rfl
  · have hi : (i : Int) < (0 : Int32).toInt := hi
    have e0 : (0 : Int32).toInt = 0 := rfl
    omega
theorem lesser_b (x y : Int32) : (f_X12_lesser x y).toInt ≤ x.toInt ∧ (f_X12_lesser x y).toInt ≤ y.toInt ∧ ((f_X12_lesser x y).toInt = x.toInt ∨ (f_X12_lesser x y).toInt = y.toInt) := by
  unfold f_X12_lesser
  split
  · rename_i h
    have := ti_le.mp h
    exact ⟨this, Int.le_refl _, Or.inr rfl⟩
  · rename_i h
    have := mt ti_le.mpr h
    exact ⟨Int.le_refl _, by omega, Or.inl rfl⟩
/-- the numbers of one round -/
theorem cups_n {a b c : Int32} {p q : Int} (hc : c.toInt = 41 * p + q) (hp : 0 ≤ p) (hpa : p ≤ a.toInt) (hq : 0 ≤ q) (hqb : q ≤ b.toInt) (ha : a.toInt ≤ 40) (hb : b.toInt ≤ 40) :
    (c / (41 : Int32)).toInt = p ∧ (c - c / (41 : Int32) * (41 : Int32)).toInt = q ∧
    (((41 : Int32) * a) + (c - c / (41 : Int32) * (41 : Int32))).toInt = 41 * a.toInt + q ∧
    (((41 : Int32) * (c / (41 : Int32))) + b).toInt = 41 * p + b.toInt ∧
    ((41 : Int32) * (c / (41 : Int32))).toInt = 41 * p ∧
    (∃ m : Int, 0 ≤ m ∧ m ≤ p ∧ m ≤ b.toInt - q ∧ (m = p ∨ m = b.toInt - q) ∧ ((((41 : Int32) * ((c / (41 : Int32)) - (f_X12_lesser (c / (41 : Int32)) (b - (c - c / (41 : Int32) * (41 : Int32)))))) + (c - c / (41 : Int32) * (41 : Int32))) + (f_X12_lesser (c / (41 : Int32)) (b - (c - c / (41 : Int32) * (41 : Int32))))).toInt = 41 * (p - m) + (q + m)) ∧
    (∃ m : Int, 0 ≤ m ∧ m ≤ q ∧ m ≤ a.toInt - p ∧ (m = q ∨ m = a.toInt - p) ∧ ((((41 : Int32) * ((c / (41 : Int32)) + (f_X12_lesser (c - c / (41 : Int32) * (41 : Int32)) (a - (c / (41 : Int32)))))) + (c - c / (41 : Int32) * (41 : Int32))) - (f_X12_lesser (c - c / (41 : Int32) * (41 : Int32)) (a - (c / (41 : Int32))))).toInt = 41 * (p + m) + (q - m)) := by
  have e41 : (41 : Int32).toInt = 41 := rfl
  have d5 := div_b (a := c) (b := 41) (n := 41) rfl (by decide) (by omega)
  have d6 := rem_b (a := c) (b := 41) (n := 41) rfl (by decide) (by omega)
  have d5 : (c / (41 : Int32)).toInt = p := by omega
  have d6 : (c - c / (41 : Int32) * (41 : Int32)).toInt = q := by omega
  generalize c - c / (41 : Int32) * (41 : Int32) = y at d6 ⊢
  generalize c / (41 : Int32) = x at d5 ⊢
  have f1 := ti_mulR (n := 41) (a := 41) (b := a) rfl (by omega) (by omega)
  have f2 := ti_add (a := 41 * a) (b := y) (by omega) (by omega)
  have f3 := ti_mulR (n := 41) (a := 41) (b := x) rfl (by omega) (by omega)
  have f4 := ti_add (a := 41 * x) (b := b) (by omega) (by omega)
  have s1 := ti_sub (a := b) (b := y) (by omega) (by omega)
  have s2 := ti_sub (a := a) (b := x) (by omega) (by omega)
  obtain ⟨l1, l2, l3⟩ := lesser_b x (b - y)
  obtain ⟨k1, k2, k3⟩ := lesser_b y (a - x)
  refine ⟨d5, d6, by omega, by omega, by omega, ⟨(f_X12_lesser x (b - y)).toInt, by omega, by omega, by omega, by omega, ?_⟩, ⟨(f_X12_lesser y (a - x)).toInt, by omega, by omega, by omega, by omega, ?_⟩⟩
  · generalize f_X12_lesser x (b - y) = m at l1 l2 l3 ⊢
    have g1 := ti_sub (a := x) (b := m) (by omega) (by omega)
    have g2 := ti_mulR (n := 41) (a := 41) (b := x - m) rfl (by omega) (by omega)
    have g3 := ti_add (a := 41 * (x - m)) (b := y) (by omega) (by omega)
    have g4 := ti_add (a := 41 * (x - m) + y) (b := m) (by omega) (by omega)
    omega
  · generalize f_X12_lesser y (a - x) = m at k1 k2 k3 ⊢
    have g1 := ti_add (a := x) (b := m) (by omega) (by omega)
    have g2 := ti_mulR (n := 41) (a := 41) (b := x + m) rfl (by omega) (by omega)
    have g3 := ti_add (a := 41 * (x + m)) (b := y) (by omega) (by omega)
    have g4 := ti_sub (a := 41 * (x + m) + y) (b := m) (by omega) (by omega)
    omega
theorem cups_st {σ u : St} {a b x y : Int32} {n : Int} (e : u = f_X12_comes σ x y) (h : CQ σ ∧ CB σ a b ∧ n ≤ (σ 23 0).toInt) (p q : Int) (ex : x.toInt = 41 * p + q) (hp : 0 ≤ p) (hpa : p ≤ a.toInt) (hq : 0 ≤ q) (hqb : q ≤ b.toInt) (ha : a.toInt ≤ 40) (hb : b.toInt ≤ 40) (hy : 0 ≤ y.toInt) (hyn : y.toInt ≤ n) : CQ u ∧ CB u a b ∧ n ≤ (u 23 0).toInt := by
  obtain ⟨h1, h2, h3⟩ := h
  have q1 := h1.comes (a1 := x) (a2 := y) (by omega) (by omega) hy (by omega)
  have q2 := CB.comes h1 h2 (a1 := x) (a2 := y) (by omega) (by omega) p q ex hp hpa hq hqb
  rw [e]
  exact ⟨q1.1, q2, by have := q1.2.1; omega⟩
set_option maxRecDepth 20000 in
theorem w_1259 : (Cond.methodLink RX12 208 yX12_comes) ∈ TB := inTB (List.mem_of_getElem? (i := 1259) (by decide +kernel)) (by decide +kernel)
set_option maxRecDepth 20000 in
theorem w_1262 : (Cond.code yX12_comes cX12_comes 3 none) ∈ TB := inTB (List.mem_of_getElem? (i := 1262) (by decide +kernel)) (by decide +kernel)
set_option maxRecDepth 20000 in
theorem w_1261 : (Cond.instanceMethod yX12_comes) ∈ TB := inTB (List.mem_of_getElem? (i := 1261) (by decide +kernel)) (by decide +kernel)
set_option maxRecDepth 20000 in
theorem w_61 : (Cond.selects RX12 yX12_comes yX12_comes) ∈ TB := inTB (List.mem_of_getElem? (i := 61) (by decide +kernel)) (by decide +kernel)
theorem cf_X12_comes : CF yX12_comes cX12_comes 3 none 2 := ⟨w_1261, w_61, w_75, w_1262, by decide +kernel, by decide +kernel, by decide +kernel⟩
/-! ThreeMeasuresModel.cups -/
theorem dX12_cups_0 : decode cX12_cups 0 = .ok (.iload_n 1, 1) := by decide +kernel
theorem dX12_cups_1 : decode cX12_cups 1 = .ok (.iconst 1, 1) := by decide +kernel
theorem dX12_cups_2 : decode cX12_cups 2 = .ok (.bipush 40, 2) := by decide +kernel
theorem dX12_cups_4 : decode cX12_cups 4 = .ok (.invokestatic 47, 3) := by decide +kernel
theorem dX12_cups_7 : decode cX12_cups 7 = .ok (.ifCond .eq 23, 3) := by decide +kernel
theorem dX12_cups_10 : decode cX12_cups 10 = .ok (.iload_n 2, 1) := by decide +kernel
theorem dX12_cups_11 : decode cX12_cups 11 = .ok (.iconst 1, 1) := by decide +kernel
theorem dX12_cups_12 : decode cX12_cups 12 = .ok (.bipush 40, 2) := by decide +kernel
theorem dX12_cups_14 : decode cX12_cups 14 = .ok (.invokestatic 47, 3) := by decide +kernel
theorem dX12_cups_17 : decode cX12_cups 17 = .ok (.ifCond .eq 13, 3) := by decide +kernel
theorem dX12_cups_20 : decode cX12_cups 20 = .ok (.iload_n 3, 1) := by decide +kernel
theorem dX12_cups_21 : decode cX12_cups 21 = .ok (.iconst 0, 1) := by decide +kernel
theorem dX12_cups_22 : decode cX12_cups 22 = .ok (.bipush 40, 2) := by decide +kernel
theorem dX12_cups_24 : decode cX12_cups 24 = .ok (.invokestatic 47, 3) := by decide +kernel
theorem dX12_cups_27 : decode cX12_cups 27 = .ok (.ifCond .ne 6, 3) := by decide +kernel
theorem dX12_cups_30 : decode cX12_cups 30 = .ok (.bipush (-2), 2) := by decide +kernel
theorem dX12_cups_32 : decode cX12_cups 32 = .ok (.ireturn, 1) := by decide +kernel
theorem dX12_cups_33 : decode cX12_cups 33 = .ok (.iconst 0, 1) := by decide +kernel
theorem dX12_cups_34 : decode cX12_cups 34 = .ok (.istore 4, 2) := by decide +kernel
theorem dX12_cups_36 : decode cX12_cups 36 = .ok (.iload 4, 2) := by decide +kernel
theorem dX12_cups_38 : decode cX12_cups 38 = .ok (.sipush 1681, 3) := by decide +kernel
theorem dX12_cups_41 : decode cX12_cups 41 = .ok (.if_icmp .ge 17, 3) := by decide +kernel
theorem dX12_cups_44 : decode cX12_cups 44 = .ok (.aload_n 0, 1) := by decide +kernel
theorem dX12_cups_45 : decode cX12_cups 45 = .ok (.getfield 34, 3) := by decide +kernel
theorem dX12_cups_48 : decode cX12_cups 48 = .ok (.iload 4, 2) := by decide +kernel
theorem dX12_cups_50 : decode cX12_cups 50 = .ok (.iconst (-1), 1) := by decide +kernel
theorem dX12_cups_51 : decode cX12_cups 51 = .ok (.iastore, 1) := by decide +kernel
theorem dX12_cups_52 : decode cX12_cups 52 = .ok (.iinc 4 1, 3) := by decide +kernel
theorem dX12_cups_55 : decode cX12_cups 55 = .ok (.goto (-19), 3) := by decide +kernel
theorem dX12_cups_58 : decode cX12_cups 58 = .ok (.aload_n 0, 1) := by decide +kernel
theorem dX12_cups_59 : decode cX12_cups 59 = .ok (.iconst 0, 1) := by decide +kernel
theorem dX12_cups_60 : decode cX12_cups 60 = .ok (.putfield 205, 3) := by decide +kernel
theorem dX12_cups_63 : decode cX12_cups 63 = .ok (.aload_n 0, 1) := by decide +kernel
theorem dX12_cups_64 : decode cX12_cups 64 = .ok (.iconst 0, 1) := by decide +kernel
theorem dX12_cups_65 : decode cX12_cups 65 = .ok (.iconst 0, 1) := by decide +kernel
theorem dX12_cups_66 : decode cX12_cups 66 = .ok (.invokevirtual 208, 3) := by decide +kernel
theorem dX12_cups_69 : decode cX12_cups 69 = .ok (.iconst 0, 1) := by decide +kernel
theorem dX12_cups_70 : decode cX12_cups 70 = .ok (.istore 4, 2) := by decide +kernel
theorem dX12_cups_72 : decode cX12_cups 72 = .ok (.iload 4, 2) := by decide +kernel
theorem dX12_cups_74 : decode cX12_cups 74 = .ok (.aload_n 0, 1) := by decide +kernel
theorem dX12_cups_75 : decode cX12_cups 75 = .ok (.getfield 205, 3) := by decide +kernel
theorem dX12_cups_78 : decode cX12_cups 78 = .ok (.if_icmp .ge 181, 3) := by decide +kernel
theorem dX12_cups_81 : decode cX12_cups 81 = .ok (.aload_n 0, 1) := by decide +kernel
theorem dX12_cups_82 : decode cX12_cups 82 = .ok (.getfield 37, 3) := by decide +kernel
theorem dX12_cups_85 : decode cX12_cups 85 = .ok (.iload 4, 2) := by decide +kernel
theorem dX12_cups_87 : decode cX12_cups 87 = .ok (.iaload, 1) := by decide +kernel
theorem dX12_cups_88 : decode cX12_cups 88 = .ok (.bipush 41, 2) := by decide +kernel
theorem dX12_cups_90 : decode cX12_cups 90 = .ok (.idiv, 1) := by decide +kernel
theorem dX12_cups_91 : decode cX12_cups 91 = .ok (.istore 5, 2) := by decide +kernel
theorem dX12_cups_93 : decode cX12_cups 93 = .ok (.aload_n 0, 1) := by decide +kernel
theorem dX12_cups_94 : decode cX12_cups 94 = .ok (.getfield 37, 3) := by decide +kernel
theorem dX12_cups_97 : decode cX12_cups 97 = .ok (.iload 4, 2) := by decide +kernel
theorem dX12_cups_99 : decode cX12_cups 99 = .ok (.iaload, 1) := by decide +kernel
theorem dX12_cups_100 : decode cX12_cups 100 = .ok (.bipush 41, 2) := by decide +kernel
theorem dX12_cups_102 : decode cX12_cups 102 = .ok (.irem, 1) := by decide +kernel
theorem dX12_cups_103 : decode cX12_cups 103 = .ok (.istore 6, 2) := by decide +kernel
theorem dX12_cups_105 : decode cX12_cups 105 = .ok (.aload_n 0, 1) := by decide +kernel
theorem dX12_cups_106 : decode cX12_cups 106 = .ok (.getfield 34, 3) := by decide +kernel
theorem dX12_cups_109 : decode cX12_cups 109 = .ok (.aload_n 0, 1) := by decide +kernel
theorem dX12_cups_110 : decode cX12_cups 110 = .ok (.getfield 37, 3) := by decide +kernel
theorem dX12_cups_113 : decode cX12_cups 113 = .ok (.iload 4, 2) := by decide +kernel
theorem dX12_cups_115 : decode cX12_cups 115 = .ok (.iaload, 1) := by decide +kernel
theorem dX12_cups_116 : decode cX12_cups 116 = .ok (.iaload, 1) := by decide +kernel
theorem dX12_cups_117 : decode cX12_cups 117 = .ok (.istore 7, 2) := by decide +kernel
theorem dX12_cups_119 : decode cX12_cups 119 = .ok (.iload 5, 2) := by decide +kernel
theorem dX12_cups_121 : decode cX12_cups 121 = .ok (.iload_n 3, 1) := by decide +kernel
theorem dX12_cups_122 : decode cX12_cups 122 = .ok (.if_icmp .eq 9, 3) := by decide +kernel
theorem dX12_cups_125 : decode cX12_cups 125 = .ok (.iload 6, 2) := by decide +kernel
theorem dX12_cups_127 : decode cX12_cups 127 = .ok (.iload_n 3, 1) := by decide +kernel
theorem dX12_cups_128 : decode cX12_cups 128 = .ok (.if_icmp .ne 6, 3) := by decide +kernel
theorem dX12_cups_131 : decode cX12_cups 131 = .ok (.iload 7, 2) := by decide +kernel
theorem dX12_cups_133 : decode cX12_cups 133 = .ok (.ireturn, 1) := by decide +kernel
theorem dX12_cups_134 : decode cX12_cups 134 = .ok (.iload 5, 2) := by decide +kernel
theorem dX12_cups_136 : decode cX12_cups 136 = .ok (.iload_n 2, 1) := by decide +kernel
theorem dX12_cups_137 : decode cX12_cups 137 = .ok (.iload 6, 2) := by decide +kernel
theorem dX12_cups_139 : decode cX12_cups 139 = .ok (.isub, 1) := by decide +kernel
theorem dX12_cups_140 : decode cX12_cups 140 = .ok (.invokestatic 149, 3) := by decide +kernel
theorem dX12_cups_143 : decode cX12_cups 143 = .ok (.istore 8, 2) := by decide +kernel
theorem dX12_cups_145 : decode cX12_cups 145 = .ok (.iload 6, 2) := by decide +kernel
theorem dX12_cups_147 : decode cX12_cups 147 = .ok (.iload_n 1, 1) := by decide +kernel
theorem dX12_cups_148 : decode cX12_cups 148 = .ok (.iload 5, 2) := by decide +kernel
theorem dX12_cups_150 : decode cX12_cups 150 = .ok (.isub, 1) := by decide +kernel
theorem dX12_cups_151 : decode cX12_cups 151 = .ok (.invokestatic 149, 3) := by decide +kernel
theorem dX12_cups_154 : decode cX12_cups 154 = .ok (.istore 9, 2) := by decide +kernel
theorem dX12_cups_156 : decode cX12_cups 156 = .ok (.aload_n 0, 1) := by decide +kernel
theorem dX12_cups_157 : decode cX12_cups 157 = .ok (.bipush 41, 2) := by decide +kernel
theorem dX12_cups_159 : decode cX12_cups 159 = .ok (.iload_n 1, 1) := by decide +kernel
theorem dX12_cups_160 : decode cX12_cups 160 = .ok (.imul, 1) := by decide +kernel
theorem dX12_cups_161 : decode cX12_cups 161 = .ok (.iload 6, 2) := by decide +kernel
theorem dX12_cups_163 : decode cX12_cups 163 = .ok (.iadd, 1) := by decide +kernel
theorem dX12_cups_164 : decode cX12_cups 164 = .ok (.iload 7, 2) := by decide +kernel
theorem dX12_cups_166 : decode cX12_cups 166 = .ok (.iconst 1, 1) := by decide +kernel
theorem dX12_cups_167 : decode cX12_cups 167 = .ok (.iadd, 1) := by decide +kernel
theorem dX12_cups_168 : decode cX12_cups 168 = .ok (.invokevirtual 208, 3) := by decide +kernel
theorem dX12_cups_171 : decode cX12_cups 171 = .ok (.aload_n 0, 1) := by decide +kernel
theorem dX12_cups_172 : decode cX12_cups 172 = .ok (.bipush 41, 2) := by decide +kernel
theorem dX12_cups_174 : decode cX12_cups 174 = .ok (.iload 5, 2) := by decide +kernel
theorem dX12_cups_176 : decode cX12_cups 176 = .ok (.imul, 1) := by decide +kernel
theorem dX12_cups_177 : decode cX12_cups 177 = .ok (.iload_n 2, 1) := by decide +kernel
theorem dX12_cups_178 : decode cX12_cups 178 = .ok (.iadd, 1) := by decide +kernel
theorem dX12_cups_179 : decode cX12_cups 179 = .ok (.iload 7, 2) := by decide +kernel
theorem dX12_cups_181 : decode cX12_cups 181 = .ok (.iconst 1, 1) := by decide +kernel
theorem dX12_cups_182 : decode cX12_cups 182 = .ok (.iadd, 1) := by decide +kernel
theorem dX12_cups_183 : decode cX12_cups 183 = .ok (.invokevirtual 208, 3) := by decide +kernel
theorem dX12_cups_186 : decode cX12_cups 186 = .ok (.aload_n 0, 1) := by decide +kernel
theorem dX12_cups_187 : decode cX12_cups 187 = .ok (.iload 6, 2) := by decide +kernel
theorem dX12_cups_189 : decode cX12_cups 189 = .ok (.iload 7, 2) := by decide +kernel
theorem dX12_cups_191 : decode cX12_cups 191 = .ok (.iconst 1, 1) := by decide +kernel
theorem dX12_cups_192 : decode cX12_cups 192 = .ok (.iadd, 1) := by decide +kernel
theorem dX12_cups_193 : decode cX12_cups 193 = .ok (.invokevirtual 208, 3) := by decide +kernel
theorem dX12_cups_196 : decode cX12_cups 196 = .ok (.aload_n 0, 1) := by decide +kernel
theorem dX12_cups_197 : decode cX12_cups 197 = .ok (.bipush 41, 2) := by decide +kernel
theorem dX12_cups_199 : decode cX12_cups 199 = .ok (.iload 5, 2) := by decide +kernel
theorem dX12_cups_201 : decode cX12_cups 201 = .ok (.imul, 1) := by decide +kernel
theorem dX12_cups_202 : decode cX12_cups 202 = .ok (.iload 7, 2) := by decide +kernel
theorem dX12_cups_204 : decode cX12_cups 204 = .ok (.iconst 1, 1) := by decide +kernel
theorem dX12_cups_205 : decode cX12_cups 205 = .ok (.iadd, 1) := by decide +kernel
theorem dX12_cups_206 : decode cX12_cups 206 = .ok (.invokevirtual 208, 3) := by decide +kernel
theorem dX12_cups_209 : decode cX12_cups 209 = .ok (.aload_n 0, 1) := by decide +kernel
theorem dX12_cups_210 : decode cX12_cups 210 = .ok (.bipush 41, 2) := by decide +kernel
theorem dX12_cups_212 : decode cX12_cups 212 = .ok (.iload 5, 2) := by decide +kernel
theorem dX12_cups_214 : decode cX12_cups 214 = .ok (.iload 8, 2) := by decide +kernel
theorem dX12_cups_216 : decode cX12_cups 216 = .ok (.isub, 1) := by decide +kernel
theorem dX12_cups_217 : decode cX12_cups 217 = .ok (.imul, 1) := by decide +kernel
theorem dX12_cups_218 : decode cX12_cups 218 = .ok (.iload 6, 2) := by decide +kernel
theorem dX12_cups_220 : decode cX12_cups 220 = .ok (.iadd, 1) := by decide +kernel
theorem dX12_cups_221 : decode cX12_cups 221 = .ok (.iload 8, 2) := by decide +kernel
theorem dX12_cups_223 : decode cX12_cups 223 = .ok (.iadd, 1) := by decide +kernel
theorem dX12_cups_224 : decode cX12_cups 224 = .ok (.iload 7, 2) := by decide +kernel
theorem dX12_cups_226 : decode cX12_cups 226 = .ok (.iconst 1, 1) := by decide +kernel
theorem dX12_cups_227 : decode cX12_cups 227 = .ok (.iadd, 1) := by decide +kernel
theorem dX12_cups_228 : decode cX12_cups 228 = .ok (.invokevirtual 208, 3) := by decide +kernel
theorem dX12_cups_231 : decode cX12_cups 231 = .ok (.aload_n 0, 1) := by decide +kernel
theorem dX12_cups_232 : decode cX12_cups 232 = .ok (.bipush 41, 2) := by decide +kernel
theorem dX12_cups_234 : decode cX12_cups 234 = .ok (.iload 5, 2) := by decide +kernel
theorem dX12_cups_236 : decode cX12_cups 236 = .ok (.iload 9, 2) := by decide +kernel
theorem dX12_cups_238 : decode cX12_cups 238 = .ok (.iadd, 1) := by decide +kernel
theorem dX12_cups_239 : decode cX12_cups 239 = .ok (.imul, 1) := by decide +kernel
theorem dX12_cups_240 : decode cX12_cups 240 = .ok (.iload 6, 2) := by decide +kernel
theorem dX12_cups_242 : decode cX12_cups 242 = .ok (.iadd, 1) := by decide +kernel
theorem dX12_cups_243 : decode cX12_cups 243 = .ok (.iload 9, 2) := by decide +kernel
theorem dX12_cups_245 : decode cX12_cups 245 = .ok (.isub, 1) := by decide +kernel
theorem dX12_cups_246 : decode cX12_cups 246 = .ok (.iload 7, 2) := by decide +kernel
theorem dX12_cups_248 : decode cX12_cups 248 = .ok (.iconst 1, 1) := by decide +kernel
theorem dX12_cups_249 : decode cX12_cups 249 = .ok (.iadd, 1) := by decide +kernel
theorem dX12_cups_250 : decode cX12_cups 250 = .ok (.invokevirtual 208, 3) := by decide +kernel
theorem dX12_cups_253 : decode cX12_cups 253 = .ok (.iinc 4 1, 3) := by decide +kernel
theorem dX12_cups_256 : decode cX12_cups 256 = .ok (.goto (-184), 3) := by decide +kernel
theorem dX12_cups_259 : decode cX12_cups 259 = .ok (.bipush (-5), 2) := by decide +kernel
theorem dX12_cups_261 : decode cX12_cups 261 = .ok (.ireturn, 1) := by decide +kernel
def f_X12_cups_72 (K72 : St → Int32 → Int32 → Int32 → Int32 → Int32 × St) (σ : St) (a1 : Int32) (a2 : Int32) (a3 : Int32) (a4 : Int32) : Int32 × St := (if (σ 23 0) ≤ a4 then ((-5 : Int32), σ) else (if ((σ 22 (ix a4)) / (41 : Int32)) = a3 then ((σ 21 (ix (σ 22 (ix a4)))), σ) else (if ((σ 22 (ix a4)) - (σ 22 (ix a4)) / (41 : Int32) * (41 : Int32)) = a3 then ((σ 21 (ix (σ 22 (ix a4)))), σ) else (bd1 (f_X12_comes σ (((41 : Int32) * a1) + ((σ 22 (ix a4)) - (σ 22 (ix a4)) / (41 : Int32) * (41 : Int32))) ((σ 21 (ix (σ 22 (ix a4)))) + (1 : Int32))) (fun u168 => (bd1 (f_X12_comes u168 (((41 : Int32) * ((σ 22 (ix a4)) / (41 : Int32))) + a2) ((σ 21 (ix (σ 22 (ix a4)))) + (1 : Int32))) (fun u183 => (bd1 (f_X12_comes u183 ((σ 22 (ix a4)) - (σ 22 (ix a4)) / (41 : Int32) * (41 : Int32)) ((σ 21 (ix (σ 22 (ix a4)))) + (1 : Int32))) (fun u193 => (bd1 (f_X12_comes u193 ((41 : Int32) * ((σ 22 (ix a4)) / (41 : Int32))) ((σ 21 (ix (σ 22 (ix a4)))) + (1 : Int32))) (fun u206 => (bd1 (f_X12_comes u206 ((((41 : Int32) * (((σ 22 (ix a4)) / (41 : Int32)) - (f_X12_lesser ((σ 22 (ix a4)) / (41 : Int32)) (a2 - ((σ 22 (ix a4)) - (σ 22 (ix a4)) / (41 : Int32) * (41 : Int32)))))) + ((σ 22 (ix a4)) - (σ 22 (ix a4)) / (41 : Int32) * (41 : Int32))) + (f_X12_lesser ((σ 22 (ix a4)) / (41 : Int32)) (a2 - ((σ 22 (ix a4)) - (σ 22 (ix a4)) / (41 : Int32) * (41 : Int32))))) ((σ 21 (ix (σ 22 (ix a4)))) + (1 : Int32))) (fun u228 => (bd1 (f_X12_comes u228 ((((41 : Int32) * (((σ 22 (ix a4)) / (41 : Int32)) + (f_X12_lesser ((σ 22 (ix a4)) - (σ 22 (ix a4)) / (41 : Int32) * (41 : Int32)) (a1 - ((σ 22 (ix a4)) / (41 : Int32)))))) + ((σ 22 (ix a4)) - (σ 22 (ix a4)) / (41 : Int32) * (41 : Int32))) - (f_X12_lesser ((σ 22 (ix a4)) - (σ 22 (ix a4)) / (41 : Int32) * (41 : Int32)) (a1 - ((σ 22 (ix a4)) / (41 : Int32))))) ((σ 21 (ix (σ 22 (ix a4)))) + (1 : Int32))) (fun u250 => (K72 u250 a1 a2 a3 (a4 + (1 : Int32))))))))))))))))))
set_option maxHeartbeats 600000 in
set_option maxRecDepth 100000 in
theorem b_X12_cups_72 {g : GG} {p : Program} {l : Launch} {e : Env} {s : State} {m : MethodId} {args : Array Value} {below : List Frame} {meth : Method} {c : Code} {A : Nat → Prop} {tgt : Int32 × St} {K72 : St → Int32 → Int32 → Int32 → Int32 → Int32 × St} {N72 : Nat} (C0 : BC p s m args meth c cX12_cups RX12 10 (some .int)) (hK72 : ∀ (σ : St) (a1 : Int32) (a2 : Int32) (a3 : Int32) (a4 : Int32), (1 ≤ a1.toInt ∧ a1.toInt ≤ 40) → (1 ≤ a2.toInt ∧ a2.toInt ≤ 40) → (0 ≤ a3.toInt ∧ a3.toInt ≤ 40) → (0 ≤ a4.toInt) → (CQ σ) → (CB σ a1 a2) → (1682 - a4.toInt).toNat < N72 → ∀ {H : Heap} {locs : List Loc}, KK g s → WC g (mW g) A s.heap σ H locs →  ∀ {ls : Array Slot}, lv_has ls 10 [(0, .ref (g.2.2 100)), (1, .int (a1)), (2, .int (a2)), (3, .int (a3)), (4, .int (a4))] → K72 σ a1 a2 a3 a4 = tgt → W p l e { frames := 1, cells := 0, slots := 0, locals := 22 } s m args below meth c H locs 0 0 (QMI below args s g (mW g) A tgt) (F0 m 72 ls [])) {σ : St} {a1 : Int32} {a2 : Int32} {a3 : Int32} {a4 : Int32} {H : Heap} {locs : List Loc} (r1 : 1 ≤ a1.toInt ∧ a1.toInt ≤ 40) (r2 : 1 ≤ a2.toInt ∧ a2.toInt ≤ 40) (r3 : 0 ≤ a3.toInt ∧ a3.toInt ≤ 40) (h4 : 0 ≤ a4.toInt) (hQ : CQ σ) (hCB : CB σ a1 a2) (hm : (1682 - a4.toInt).toNat < N72 + 1) (hK : KK g s) (hC : WC g (mW g) A s.heap σ H locs) {ls : Array Slot} (hl : lv_has ls 10 [(0, .ref (g.2.2 100)), (1, .int (a1)), (2, .int (a2)), (3, .int (a3)), (4, .int (a4))]) (hT : f_X12_cups_72 K72 σ a1 a2 a3 a4 = tgt) : W p l e { frames := 1, cells := 0, slots := 0, locals := 22 } s m args below meth c H locs 0 0 (QMI below args s g (mW g) A tgt) (F0 m 72 ls []) := by
  obtain ⟨hx, hb, hr, hml, hown, hts, hlocks⟩ := id C0
  unfold f_X12_cups_72 at hT
  have r1b := r1
  have r2b := r2
  refine lv_iload hx hb dX12_cups_72 (lv_at hl 4 rfl) ?_
  refine lv_aload_n hx hb dX12_cups_74 rfl (lv_at hl 0 rfl) ?_
  refine m_get (σ := σ) (v := .int ((σ 23 0))) C0 hK hC.1 23 (by decide) rfl w_990 dX12_cups_75 ?_
  refine lv_icmp_ge (tgt := 259) hx hb dX12_cups_78 (by decide) (fun c_78 => ?_) (fun c_78 => ?_)
  · have hT := hT_pos c_78 hT
    refine lv_bipush (v := (-5 : Int32)) hx hb dX12_cups_259 (by decide) ?_
    exact ret_MI C0 hC hT dX12_cups_261
  · have hT := hT_neg c_78 hT
    refine lv_aload_n hx hb dX12_cups_81 rfl (lv_at hl 0 rfl) ?_
    refine m_get (σ := σ) (v := .ref (g.2.2 22)) C0 hK hC.1 22 (by decide) rfl w_989 dX12_cups_82 ?_
    refine lv_iload hx hb dX12_cups_85 (lv_at hl 4 rfl) ?_
    have tl : a4.toInt < (σ 23 0).toInt := by have := mt ti_le.mpr c_78; omega
    have tb : (σ 23 0).toInt ≤ 1681 := by have := cnt_le (σ 21) 1681; have := hQ.2.1; omega
    have v5 := ti_ix h4
    obtain ⟨v1, v2, v3, v4⟩ := hQ.2.2 (ix a4) (by omega)
    obtain ⟨p, q, hc, hp, hpa, hq, hqb⟩ := hCB (ix a4) (by omega)
    obtain ⟨n_1, n_2, n_3, n_4, n_5, ⟨m_1, m_2, m_3, m_4, m_5, m_6⟩, ⟨k_1, k_2, k_3, k_4, k_5, k_6⟩⟩ := cups_n hc hp hpa hq hqb r1b.2 r2b.2
    have z1 : (1 : Int32).toInt = 1 := rfl
    have m1 := ti_add (a := σ 21 (ix (σ 22 (ix a4)))) (b := 1) (by omega) (by omega)
    have S0 : CQ σ ∧ CB σ a1 a2 ∧ a4.toInt + 1 ≤ (σ 23 0).toInt := ⟨hQ, hCB, by omega⟩
    have o_87 : vp_in a4 1681 := by
      have := mt ti_le.mpr c_78
      exact vin (by omega) (by omega)
    refine m_ald (σ := σ) C0 hK hC.1 9 22 1681 rfl o_87 (ix a4) rfl dX12_cups_87 ?_
    refine lv_bipush (v := (41 : Int32)) hx hb dX12_cups_88 (by decide) ?_
    refine lv_idiv hx hb dX12_cups_90 (by decide) ?_
    refine lv_istore (lv' := [(5, .int (((σ 22 (ix a4)) / (41 : Int32)))), (0, .ref (g.2.2 100)), (1, .int (a1)), (2, .int (a2)), (3, .int (a3)), (4, .int (a4))]) hx hb dX12_cups_91 hl (by decide) rfl (fun ls hl => ?_)
    refine lv_aload_n hx hb dX12_cups_93 rfl (lv_at hl 1 rfl) ?_
    refine m_get (σ := σ) (v := .ref (g.2.2 22)) C0 hK hC.1 22 (by decide) rfl w_989 dX12_cups_94 ?_
    refine lv_iload hx hb dX12_cups_97 (lv_at hl 5 rfl) ?_
    have o_99 : vp_in a4 1681 := by
      have := mt ti_le.mpr c_78
      exact vin (by omega) (by omega)
    refine m_ald (σ := σ) C0 hK hC.1 9 22 1681 rfl o_99 (ix a4) rfl dX12_cups_99 ?_
    refine lv_bipush (v := (41 : Int32)) hx hb dX12_cups_100 (by decide) ?_
    refine lv_irem hx hb dX12_cups_102 (by decide) ?_
    refine lv_istore (lv' := [(6, .int (((σ 22 (ix a4)) - (σ 22 (ix a4)) / (41 : Int32) * (41 : Int32)))), (5, .int (((σ 22 (ix a4)) / (41 : Int32)))), (0, .ref (g.2.2 100)), (1, .int (a1)), (2, .int (a2)), (3, .int (a3)), (4, .int (a4))]) hx hb dX12_cups_103 hl (by decide) rfl (fun ls hl => ?_)
    refine lv_aload_n hx hb dX12_cups_105 rfl (lv_at hl 2 rfl) ?_
    refine m_get (σ := σ) (v := .ref (g.2.2 21)) C0 hK hC.1 21 (by decide) rfl w_988 dX12_cups_106 ?_
    refine lv_aload_n hx hb dX12_cups_109 rfl (lv_at hl 2 rfl) ?_
    refine m_get (σ := σ) (v := .ref (g.2.2 22)) C0 hK hC.1 22 (by decide) rfl w_989 dX12_cups_110 ?_
    refine lv_iload hx hb dX12_cups_113 (lv_at hl 6 rfl) ?_
    have o_115 : vp_in a4 1681 := by
      have := mt ti_le.mpr c_78
      exact vin (by omega) (by omega)
    refine m_ald (σ := σ) C0 hK hC.1 9 22 1681 rfl o_115 (ix a4) rfl dX12_cups_115 ?_
    have o_116 : vp_in (σ 22 (ix a4)) 1681 := by
      have := mt ti_le.mpr c_78
      exact vin (by omega) (by omega)
    refine m_ald (σ := σ) C0 hK hC.1 8 21 1681 rfl o_116 (ix (σ 22 (ix a4))) rfl dX12_cups_116 ?_
    refine lv_istore (lv' := [(7, .int ((σ 21 (ix (σ 22 (ix a4)))))), (6, .int (((σ 22 (ix a4)) - (σ 22 (ix a4)) / (41 : Int32) * (41 : Int32)))), (5, .int (((σ 22 (ix a4)) / (41 : Int32)))), (0, .ref (g.2.2 100)), (1, .int (a1)), (2, .int (a2)), (3, .int (a3)), (4, .int (a4))]) hx hb dX12_cups_117 hl (by decide) rfl (fun ls hl => ?_)
    refine lv_iload hx hb dX12_cups_119 (lv_at hl 2 rfl) ?_
    refine lv_iload_n hx hb dX12_cups_121 rfl (lv_at hl 6 rfl) ?_
    refine lv_icmp_eq (tgt := 131) hx hb dX12_cups_122 (by decide) (fun c_122 => ?_) (fun c_122 => ?_)
    · have hT := hT_pos c_122 hT
      refine lv_iload hx hb dX12_cups_131 (lv_at hl 0 rfl) ?_
      exact ret_MI C0 hC hT dX12_cups_133
    · have hT := hT_neg c_122 hT
      refine lv_iload hx hb dX12_cups_125 (lv_at hl 1 rfl) ?_
      refine lv_iload_n hx hb dX12_cups_127 rfl (lv_at hl 6 rfl) ?_
      refine lv_icmp_ne (tgt := 134) hx hb dX12_cups_128 (by decide) (fun c_128 => ?_) (fun c_128 => ?_)
      · have hT := hT_neg c_128 hT
        refine lv_iload hx hb dX12_cups_134 (lv_at hl 2 rfl) ?_
        refine lv_iload_n hx hb dX12_cups_136 rfl (lv_at hl 5 rfl) ?_
        refine lv_iload hx hb dX12_cups_137 (lv_at hl 1 rfl) ?_
        refine lv_isub hx hb dX12_cups_139 ?_
        refine s_ci (rest := []) (As := [.int (((σ 22 (ix a4)) / (41 : Int32))), .int ((a2 - ((σ 22 (ix a4)) - (σ 22 (ix a4)) / (41 : Int32) * (41 : Int32))))]) C0 cf_X12_lesser w_1179 (k_X12_lesser l ((σ 22 (ix a4)) / (41 : Int32)) (a2 - ((σ 22 (ix a4)) - (σ 22 (ix a4)) / (41 : Int32) * (41 : Int32))) ) ⟨by decide, by decide⟩ hl.1 rfl rfl (Nat.le_of_ble_eq_true rfl) dX12_cups_140 ⟨Nat.zero_le _, Nat.zero_le _⟩ ?_
        refine lv_istore (lv' := [(8, .int ((f_X12_lesser ((σ 22 (ix a4)) / (41 : Int32)) (a2 - ((σ 22 (ix a4)) - (σ 22 (ix a4)) / (41 : Int32) * (41 : Int32)))))), (7, .int ((σ 21 (ix (σ 22 (ix a4)))))), (6, .int (((σ 22 (ix a4)) - (σ 22 (ix a4)) / (41 : Int32) * (41 : Int32)))), (5, .int (((σ 22 (ix a4)) / (41 : Int32)))), (0, .ref (g.2.2 100)), (1, .int (a1)), (2, .int (a2)), (3, .int (a3)), (4, .int (a4))]) hx hb dX12_cups_143 hl (by decide) rfl (fun ls hl => ?_)
        refine lv_iload hx hb dX12_cups_145 (lv_at hl 2 rfl) ?_
        refine lv_iload_n hx hb dX12_cups_147 rfl (lv_at hl 5 rfl) ?_
        refine lv_iload hx hb dX12_cups_148 (lv_at hl 3 rfl) ?_
        refine lv_isub hx hb dX12_cups_150 ?_
        refine s_ci (rest := []) (As := [.int (((σ 22 (ix a4)) - (σ 22 (ix a4)) / (41 : Int32) * (41 : Int32))), .int ((a1 - ((σ 22 (ix a4)) / (41 : Int32))))]) C0 cf_X12_lesser w_1179 (k_X12_lesser l ((σ 22 (ix a4)) - (σ 22 (ix a4)) / (41 : Int32) * (41 : Int32)) (a1 - ((σ 22 (ix a4)) / (41 : Int32))) ) ⟨by decide, by decide⟩ hl.1 rfl rfl (Nat.le_of_ble_eq_true rfl) dX12_cups_151 ⟨Nat.zero_le _, Nat.zero_le _⟩ ?_
        refine lv_istore (lv' := [(9, .int ((f_X12_lesser ((σ 22 (ix a4)) - (σ 22 (ix a4)) / (41 : Int32) * (41 : Int32)) (a1 - ((σ 22 (ix a4)) / (41 : Int32)))))), (8, .int ((f_X12_lesser ((σ 22 (ix a4)) / (41 : Int32)) (a2 - ((σ 22 (ix a4)) - (σ 22 (ix a4)) / (41 : Int32) * (41 : Int32)))))), (7, .int ((σ 21 (ix (σ 22 (ix a4)))))), (6, .int (((σ 22 (ix a4)) - (σ 22 (ix a4)) / (41 : Int32) * (41 : Int32)))), (5, .int (((σ 22 (ix a4)) / (41 : Int32)))), (0, .ref (g.2.2 100)), (1, .int (a1)), (2, .int (a2)), (3, .int (a3)), (4, .int (a4))]) hx hb dX12_cups_154 hl (by decide) rfl (fun ls hl => ?_)
        refine lv_aload_n hx hb dX12_cups_156 rfl (lv_at hl 5 rfl) ?_
        refine lv_bipush (v := (41 : Int32)) hx hb dX12_cups_157 (by decide) ?_
        refine lv_iload_n hx hb dX12_cups_159 rfl (lv_at hl 6 rfl) ?_
        refine lv_imul hx hb dX12_cups_160 ?_
        refine lv_iload hx hb dX12_cups_161 (lv_at hl 3 rfl) ?_
        refine lv_iadd hx hb dX12_cups_163 ?_
        refine lv_iload hx hb dX12_cups_164 (lv_at hl 2 rfl) ?_
        refine lv_iconst (v := (1 : Int32)) hx hb dX12_cups_166 (by decide) ?_
        refine lv_iadd hx hb dX12_cups_167 ?_
        have q168_h1 : 0 ≤ (((41 : Int32) * a1) + ((σ 22 (ix a4)) - (σ 22 (ix a4)) / (41 : Int32) * (41 : Int32))).toInt := by rw [n_3]; omega
        have q168_h1b : (((41 : Int32) * a1) + ((σ 22 (ix a4)) - (σ 22 (ix a4)) / (41 : Int32) * (41 : Int32))).toInt < 1681 := by rw [n_3]; omega
        have q168_ht : (σ 21 (ix (((41 : Int32) * a1) + ((σ 22 (ix a4)) - (σ 22 (ix a4)) / (41 : Int32) * (41 : Int32))))) = -1 → 0 ≤ (σ 23 0).toInt ∧ (σ 23 0).toInt < 1681 := S0.1.room q168_h1 q168_h1b
        refine m_mv (rest := []) (As := [.int ((((41 : Int32) * a1) + ((σ 22 (ix a4)) - (σ 22 (ix a4)) / (41 : Int32) * (41 : Int32)))), .int (((σ 21 (ix (σ 22 (ix a4)))) + (1 : Int32)))]) (σ := σ) C0 hK hC SV.tt (fun _ _ _ => trivial) cf_X12_comes w_1259 rfl (k_X12_comes l g σ (((41 : Int32) * a1) + ((σ 22 (ix a4)) - (σ 22 (ix a4)) / (41 : Int32) * (41 : Int32))) ((σ 21 (ix (σ 22 (ix a4)))) + (1 : Int32)) q168_h1 q168_h1b q168_ht) ⟨by decide, by decide⟩ hl.1 rfl rfl (Nat.le_of_ble_eq_true rfl) dX12_cups_168 ⟨Nat.zero_le _, Nat.zero_le _⟩ (fun u168 H locs e168 hC => ?_)
        have hT := bd1_e e168 hT
        have S1 := cups_st e168 S0 a1.toInt q (by omega) (by omega) (by omega) (by omega) (by omega) (by omega) (by omega) (by rw [m1]; omega) (by rw [m1]; omega)
        refine lv_aload_n hx hb dX12_cups_171 rfl (lv_at hl 5 rfl) ?_
        refine lv_bipush (v := (41 : Int32)) hx hb dX12_cups_172 (by decide) ?_
        refine lv_iload hx hb dX12_cups_174 (lv_at hl 4 rfl) ?_
        refine lv_imul hx hb dX12_cups_176 ?_
        refine lv_iload_n hx hb dX12_cups_177 rfl (lv_at hl 7 rfl) ?_
        refine lv_iadd hx hb dX12_cups_178 ?_
        refine lv_iload hx hb dX12_cups_179 (lv_at hl 2 rfl) ?_
        refine lv_iconst (v := (1 : Int32)) hx hb dX12_cups_181 (by decide) ?_
        refine lv_iadd hx hb dX12_cups_182 ?_
        have q183_h1 : 0 ≤ (((41 : Int32) * ((σ 22 (ix a4)) / (41 : Int32))) + a2).toInt := by rw [n_4]; omega
        have q183_h1b : (((41 : Int32) * ((σ 22 (ix a4)) / (41 : Int32))) + a2).toInt < 1681 := by rw [n_4]; omega
        have q183_ht : (u168 21 (ix (((41 : Int32) * ((σ 22 (ix a4)) / (41 : Int32))) + a2))) = -1 → 0 ≤ (u168 23 0).toInt ∧ (u168 23 0).toInt < 1681 := S1.1.room q183_h1 q183_h1b
        refine m_mv (rest := []) (As := [.int ((((41 : Int32) * ((σ 22 (ix a4)) / (41 : Int32))) + a2)), .int (((σ 21 (ix (σ 22 (ix a4)))) + (1 : Int32)))]) (σ := u168) C0 hK hC SV.tt (fun _ _ _ => trivial) cf_X12_comes w_1259 rfl (k_X12_comes l g u168 (((41 : Int32) * ((σ 22 (ix a4)) / (41 : Int32))) + a2) ((σ 21 (ix (σ 22 (ix a4)))) + (1 : Int32)) q183_h1 q183_h1b q183_ht) ⟨by decide, by decide⟩ hl.1 rfl rfl (Nat.le_of_ble_eq_true rfl) dX12_cups_183 ⟨Nat.zero_le _, Nat.zero_le _⟩ (fun u183 H locs e183 hC => ?_)
        have hT := bd1_e e183 hT
        have S2 := cups_st e183 S1 p a2.toInt (by omega) (by omega) (by omega) (by omega) (by omega) (by omega) (by omega) (by rw [m1]; omega) (by rw [m1]; omega)
        refine lv_aload_n hx hb dX12_cups_186 rfl (lv_at hl 5 rfl) ?_
        refine lv_iload hx hb dX12_cups_187 (lv_at hl 3 rfl) ?_
        refine lv_iload hx hb dX12_cups_189 (lv_at hl 2 rfl) ?_
        refine lv_iconst (v := (1 : Int32)) hx hb dX12_cups_191 (by decide) ?_
        refine lv_iadd hx hb dX12_cups_192 ?_
        have q193_h1 : 0 ≤ ((σ 22 (ix a4)) - (σ 22 (ix a4)) / (41 : Int32) * (41 : Int32)).toInt := by rw [n_2]; omega
        have q193_h1b : ((σ 22 (ix a4)) - (σ 22 (ix a4)) / (41 : Int32) * (41 : Int32)).toInt < 1681 := by rw [n_2]; omega
        have q193_ht : (u183 21 (ix ((σ 22 (ix a4)) - (σ 22 (ix a4)) / (41 : Int32) * (41 : Int32)))) = -1 → 0 ≤ (u183 23 0).toInt ∧ (u183 23 0).toInt < 1681 := S2.1.room q193_h1 q193_h1b
        refine m_mv (rest := []) (As := [.int (((σ 22 (ix a4)) - (σ 22 (ix a4)) / (41 : Int32) * (41 : Int32))), .int (((σ 21 (ix (σ 22 (ix a4)))) + (1 : Int32)))]) (σ := u183) C0 hK hC SV.tt (fun _ _ _ => trivial) cf_X12_comes w_1259 rfl (k_X12_comes l g u183 ((σ 22 (ix a4)) - (σ 22 (ix a4)) / (41 : Int32) * (41 : Int32)) ((σ 21 (ix (σ 22 (ix a4)))) + (1 : Int32)) q193_h1 q193_h1b q193_ht) ⟨by decide, by decide⟩ hl.1 rfl rfl (Nat.le_of_ble_eq_true rfl) dX12_cups_193 ⟨Nat.zero_le _, Nat.zero_le _⟩ (fun u193 H locs e193 hC => ?_)
        have hT := bd1_e e193 hT
        have S3 := cups_st e193 S2 0 q (by omega) (by omega) (by omega) (by omega) (by omega) (by omega) (by omega) (by rw [m1]; omega) (by rw [m1]; omega)
        refine lv_aload_n hx hb dX12_cups_196 rfl (lv_at hl 5 rfl) ?_
        refine lv_bipush (v := (41 : Int32)) hx hb dX12_cups_197 (by decide) ?_
        refine lv_iload hx hb dX12_cups_199 (lv_at hl 4 rfl) ?_
        refine lv_imul hx hb dX12_cups_201 ?_
        refine lv_iload hx hb dX12_cups_202 (lv_at hl 2 rfl) ?_
        refine lv_iconst (v := (1 : Int32)) hx hb dX12_cups_204 (by decide) ?_
        refine lv_iadd hx hb dX12_cups_205 ?_
        have q206_h1 : 0 ≤ ((41 : Int32) * ((σ 22 (ix a4)) / (41 : Int32))).toInt := by rw [n_5]; omega
        have q206_h1b : ((41 : Int32) * ((σ 22 (ix a4)) / (41 : Int32))).toInt < 1681 := by rw [n_5]; omega
        have q206_ht : (u193 21 (ix ((41 : Int32) * ((σ 22 (ix a4)) / (41 : Int32))))) = -1 → 0 ≤ (u193 23 0).toInt ∧ (u193 23 0).toInt < 1681 := S3.1.room q206_h1 q206_h1b
        refine m_mv (rest := []) (As := [.int (((41 : Int32) * ((σ 22 (ix a4)) / (41 : Int32)))), .int (((σ 21 (ix (σ 22 (ix a4)))) + (1 : Int32)))]) (σ := u193) C0 hK hC SV.tt (fun _ _ _ => trivial) cf_X12_comes w_1259 rfl (k_X12_comes l g u193 ((41 : Int32) * ((σ 22 (ix a4)) / (41 : Int32))) ((σ 21 (ix (σ 22 (ix a4)))) + (1 : Int32)) q206_h1 q206_h1b q206_ht) ⟨by decide, by decide⟩ hl.1 rfl rfl (Nat.le_of_ble_eq_true rfl) dX12_cups_206 ⟨Nat.zero_le _, Nat.zero_le _⟩ (fun u206 H locs e206 hC => ?_)
        have hT := bd1_e e206 hT
        have S4 := cups_st e206 S3 p 0 (by omega) (by omega) (by omega) (by omega) (by omega) (by omega) (by omega) (by rw [m1]; omega) (by rw [m1]; omega)
        refine lv_aload_n hx hb dX12_cups_209 rfl (lv_at hl 5 rfl) ?_
        refine lv_bipush (v := (41 : Int32)) hx hb dX12_cups_210 (by decide) ?_
        refine lv_iload hx hb dX12_cups_212 (lv_at hl 4 rfl) ?_
        refine lv_iload hx hb dX12_cups_214 (lv_at hl 1 rfl) ?_
        refine lv_isub hx hb dX12_cups_216 ?_
        refine lv_imul hx hb dX12_cups_217 ?_
        refine lv_iload hx hb dX12_cups_218 (lv_at hl 3 rfl) ?_
        refine lv_iadd hx hb dX12_cups_220 ?_
        refine lv_iload hx hb dX12_cups_221 (lv_at hl 1 rfl) ?_
        refine lv_iadd hx hb dX12_cups_223 ?_
        refine lv_iload hx hb dX12_cups_224 (lv_at hl 2 rfl) ?_
        refine lv_iconst (v := (1 : Int32)) hx hb dX12_cups_226 (by decide) ?_
        refine lv_iadd hx hb dX12_cups_227 ?_
        have q228_h1 : 0 ≤ ((((41 : Int32) * (((σ 22 (ix a4)) / (41 : Int32)) - (f_X12_lesser ((σ 22 (ix a4)) / (41 : Int32)) (a2 - ((σ 22 (ix a4)) - (σ 22 (ix a4)) / (41 : Int32) * (41 : Int32)))))) + ((σ 22 (ix a4)) - (σ 22 (ix a4)) / (41 : Int32) * (41 : Int32))) + (f_X12_lesser ((σ 22 (ix a4)) / (41 : Int32)) (a2 - ((σ 22 (ix a4)) - (σ 22 (ix a4)) / (41 : Int32) * (41 : Int32))))).toInt := by rw [m_6]; omega
        have q228_h1b : ((((41 : Int32) * (((σ 22 (ix a4)) / (41 : Int32)) - (f_X12_lesser ((σ 22 (ix a4)) / (41 : Int32)) (a2 - ((σ 22 (ix a4)) - (σ 22 (ix a4)) / (41 : Int32) * (41 : Int32)))))) + ((σ 22 (ix a4)) - (σ 22 (ix a4)) / (41 : Int32) * (41 : Int32))) + (f_X12_lesser ((σ 22 (ix a4)) / (41 : Int32)) (a2 - ((σ 22 (ix a4)) - (σ 22 (ix a4)) / (41 : Int32) * (41 : Int32))))).toInt < 1681 := by rw [m_6]; omega
        have q228_ht : (u206 21 (ix ((((41 : Int32) * (((σ 22 (ix a4)) / (41 : Int32)) - (f_X12_lesser ((σ 22 (ix a4)) / (41 : Int32)) (a2 - ((σ 22 (ix a4)) - (σ 22 (ix a4)) / (41 : Int32) * (41 : Int32)))))) + ((σ 22 (ix a4)) - (σ 22 (ix a4)) / (41 : Int32) * (41 : Int32))) + (f_X12_lesser ((σ 22 (ix a4)) / (41 : Int32)) (a2 - ((σ 22 (ix a4)) - (σ 22 (ix a4)) / (41 : Int32) * (41 : Int32))))))) = -1 → 0 ≤ (u206 23 0).toInt ∧ (u206 23 0).toInt < 1681 := S4.1.room q228_h1 q228_h1b
        refine m_mv (rest := []) (As := [.int (((((41 : Int32) * (((σ 22 (ix a4)) / (41 : Int32)) - (f_X12_lesser ((σ 22 (ix a4)) / (41 : Int32)) (a2 - ((σ 22 (ix a4)) - (σ 22 (ix a4)) / (41 : Int32) * (41 : Int32)))))) + ((σ 22 (ix a4)) - (σ 22 (ix a4)) / (41 : Int32) * (41 : Int32))) + (f_X12_lesser ((σ 22 (ix a4)) / (41 : Int32)) (a2 - ((σ 22 (ix a4)) - (σ 22 (ix a4)) / (41 : Int32) * (41 : Int32)))))), .int (((σ 21 (ix (σ 22 (ix a4)))) + (1 : Int32)))]) (σ := u206) C0 hK hC SV.tt (fun _ _ _ => trivial) cf_X12_comes w_1259 rfl (k_X12_comes l g u206 ((((41 : Int32) * (((σ 22 (ix a4)) / (41 : Int32)) - (f_X12_lesser ((σ 22 (ix a4)) / (41 : Int32)) (a2 - ((σ 22 (ix a4)) - (σ 22 (ix a4)) / (41 : Int32) * (41 : Int32)))))) + ((σ 22 (ix a4)) - (σ 22 (ix a4)) / (41 : Int32) * (41 : Int32))) + (f_X12_lesser ((σ 22 (ix a4)) / (41 : Int32)) (a2 - ((σ 22 (ix a4)) - (σ 22 (ix a4)) / (41 : Int32) * (41 : Int32))))) ((σ 21 (ix (σ 22 (ix a4)))) + (1 : Int32)) q228_h1 q228_h1b q228_ht) ⟨by decide, by decide⟩ hl.1 rfl rfl (Nat.le_of_ble_eq_true rfl) dX12_cups_228 ⟨Nat.zero_le _, Nat.zero_le _⟩ (fun u228 H locs e228 hC => ?_)
        have hT := bd1_e e228 hT
        have S5 := cups_st e228 S4 (p - m_1) (q + m_1) (by omega) (by omega) (by omega) (by omega) (by omega) (by omega) (by omega) (by rw [m1]; omega) (by rw [m1]; omega)
        refine lv_aload_n hx hb dX12_cups_231 rfl (lv_at hl 5 rfl) ?_
        refine lv_bipush (v := (41 : Int32)) hx hb dX12_cups_232 (by decide) ?_
        refine lv_iload hx hb dX12_cups_234 (lv_at hl 4 rfl) ?_
        refine lv_iload hx hb dX12_cups_236 (lv_at hl 0 rfl) ?_
        refine lv_iadd hx hb dX12_cups_238 ?_
        refine lv_imul hx hb dX12_cups_239 ?_
        refine lv_iload hx hb dX12_cups_240 (lv_at hl 3 rfl) ?_
        refine lv_iadd hx hb dX12_cups_242 ?_
        refine lv_iload hx hb dX12_cups_243 (lv_at hl 0 rfl) ?_
        refine lv_isub hx hb dX12_cups_245 ?_
        refine lv_iload hx hb dX12_cups_246 (lv_at hl 2 rfl) ?_
        refine lv_iconst (v := (1 : Int32)) hx hb dX12_cups_248 (by decide) ?_
        refine lv_iadd hx hb dX12_cups_249 ?_
        have q250_h1 : 0 ≤ ((((41 : Int32) * (((σ 22 (ix a4)) / (41 : Int32)) + (f_X12_lesser ((σ 22 (ix a4)) - (σ 22 (ix a4)) / (41 : Int32) * (41 : Int32)) (a1 - ((σ 22 (ix a4)) / (41 : Int32)))))) + ((σ 22 (ix a4)) - (σ 22 (ix a4)) / (41 : Int32) * (41 : Int32))) - (f_X12_lesser ((σ 22 (ix a4)) - (σ 22 (ix a4)) / (41 : Int32) * (41 : Int32)) (a1 - ((σ 22 (ix a4)) / (41 : Int32))))).toInt := by rw [k_6]; omega
        have q250_h1b : ((((41 : Int32) * (((σ 22 (ix a4)) / (41 : Int32)) + (f_X12_lesser ((σ 22 (ix a4)) - (σ 22 (ix a4)) / (41 : Int32) * (41 : Int32)) (a1 - ((σ 22 (ix a4)) / (41 : Int32)))))) + ((σ 22 (ix a4)) - (σ 22 (ix a4)) / (41 : Int32) * (41 : Int32))) - (f_X12_lesser ((σ 22 (ix a4)) - (σ 22 (ix a4)) / (41 : Int32) * (41 : Int32)) (a1 - ((σ 22 (ix a4)) / (41 : Int32))))).toInt < 1681 := by rw [k_6]; omega
        have q250_ht : (u228 21 (ix ((((41 : Int32) * (((σ 22 (ix a4)) / (41 : Int32)) + (f_X12_lesser ((σ 22 (ix a4)) - (σ 22 (ix a4)) / (41 : Int32) * (41 : Int32)) (a1 - ((σ 22 (ix a4)) / (41 : Int32)))))) + ((σ 22 (ix a4)) - (σ 22 (ix a4)) / (41 : Int32) * (41 : Int32))) - (f_X12_lesser ((σ 22 (ix a4)) - (σ 22 (ix a4)) / (41 : Int32) * (41 : Int32)) (a1 - ((σ 22 (ix a4)) / (41 : Int32))))))) = -1 → 0 ≤ (u228 23 0).toInt ∧ (u228 23 0).toInt < 1681 := S5.1.room q250_h1 q250_h1b
        refine m_mv (rest := []) (As := [.int (((((41 : Int32) * (((σ 22 (ix a4)) / (41 : Int32)) + (f_X12_lesser ((σ 22 (ix a4)) - (σ 22 (ix a4)) / (41 : Int32) * (41 : Int32)) (a1 - ((σ 22 (ix a4)) / (41 : Int32)))))) + ((σ 22 (ix a4)) - (σ 22 (ix a4)) / (41 : Int32) * (41 : Int32))) - (f_X12_lesser ((σ 22 (ix a4)) - (σ 22 (ix a4)) / (41 : Int32) * (41 : Int32)) (a1 - ((σ 22 (ix a4)) / (41 : Int32)))))), .int (((σ 21 (ix (σ 22 (ix a4)))) + (1 : Int32)))]) (σ := u228) C0 hK hC SV.tt (fun _ _ _ => trivial) cf_X12_comes w_1259 rfl (k_X12_comes l g u228 ((((41 : Int32) * (((σ 22 (ix a4)) / (41 : Int32)) + (f_X12_lesser ((σ 22 (ix a4)) - (σ 22 (ix a4)) / (41 : Int32) * (41 : Int32)) (a1 - ((σ 22 (ix a4)) / (41 : Int32)))))) + ((σ 22 (ix a4)) - (σ 22 (ix a4)) / (41 : Int32) * (41 : Int32))) - (f_X12_lesser ((σ 22 (ix a4)) - (σ 22 (ix a4)) / (41 : Int32) * (41 : Int32)) (a1 - ((σ 22 (ix a4)) / (41 : Int32))))) ((σ 21 (ix (σ 22 (ix a4)))) + (1 : Int32)) q250_h1 q250_h1b q250_ht) ⟨by decide, by decide⟩ hl.1 rfl rfl (Nat.le_of_ble_eq_true rfl) dX12_cups_250 ⟨Nat.zero_le _, Nat.zero_le _⟩ (fun u250 H locs e250 hC => ?_)
        have hT := bd1_e e250 hT
        have S6 := cups_st e250 S5 (p + k_1) (q - k_1) (by omega) (by omega) (by omega) (by omega) (by omega) (by omega) (by omega) (by rw [m1]; omega) (by rw [m1]; omega)
        refine lv_iinc (v := (a4 + (1 : Int32))) (lv' := [(4, .int ((a4 + (1 : Int32)))), (9, .int ((f_X12_lesser ((σ 22 (ix a4)) - (σ 22 (ix a4)) / (41 : Int32) * (41 : Int32)) (a1 - ((σ 22 (ix a4)) / (41 : Int32)))))), (8, .int ((f_X12_lesser ((σ 22 (ix a4)) / (41 : Int32)) (a2 - ((σ 22 (ix a4)) - (σ 22 (ix a4)) / (41 : Int32) * (41 : Int32)))))), (7, .int ((σ 21 (ix (σ 22 (ix a4)))))), (6, .int (((σ 22 (ix a4)) - (σ 22 (ix a4)) / (41 : Int32) * (41 : Int32)))), (5, .int (((σ 22 (ix a4)) / (41 : Int32)))), (0, .ref (g.2.2 100)), (1, .int (a1)), (2, .int (a2)), (3, .int (a3))]) hx hb dX12_cups_253 hl (k := 9) rfl rfl (by decide) rfl (fun ls hl => ?_)
        refine lv_goto (tgt := 72) hx hb dX12_cups_256 (by decide) ?_
        have j256_h4 : 0 ≤ (a4 + (1 : Int32)).toInt := by
          have : ((1 : Int32)).toInt = 1 := by decide
          have := mt ti_le.mpr c_78
          have := mt ti_eq.mpr c_122
          have := mt ti_eq.mpr c_128
          try have := div_b (a := (σ 22 (ix a4))) (b := (41 : Int32)) (n := 41) (by decide) (by omega) (by omega)
          try have := rem_b (a := (σ 22 (ix a4))) (b := (41 : Int32)) (n := 41) (by decide) (by omega) (by omega)
          try have := ti_add (a := a4) (b := (1 : Int32)) (by omega) (by omega)
          omega
        have j256_hQ : CQ u250 := S6.1
        have j256_hCB : CB u250 a1 a2 := S6.2.1
        have j256_m : (1682 - (a4 + (1 : Int32)).toInt).toNat < N72 := by
          have : ((1 : Int32)).toInt = 1 := by decide
          have := mt ti_le.mpr c_78
          have := mt ti_eq.mpr c_122
          have := mt ti_eq.mpr c_128
          try have := div_b (a := (σ 22 (ix a4))) (b := (41 : Int32)) (n := 41) (by decide) (by omega) (by omega)
          try have := rem_b (a := (σ 22 (ix a4))) (b := (41 : Int32)) (n := 41) (by decide) (by omega) (by omega)
          try have := ti_add (a := a4) (b := (1 : Int32)) (by omega) (by omega)
          omega
        exact hK72 u250 a1 a2 a3 (a4 + (1 : Int32)) r1 r2 r3 j256_h4 j256_hQ j256_hCB j256_m hK hC (lv_sub hl [6, 7, 8, 9, 0] rfl) hT
      · have hT := hT_pos c_128 hT
        refine lv_iload hx hb dX12_cups_131 (lv_at hl 0 rfl) ?_
        exact ret_MI C0 hC hT dX12_cups_133
def g_X12_cups_72  : Nat → St → Int32 → Int32 → Int32 → Int32 → Int32 × St
  | 0 => fun σ a1 a2 a3 a4 => (0, σ)
  | n + 1 => fun σ a1 a2 a3 a4 => f_X12_cups_72  (g_X12_cups_72  n) σ a1 a2 a3 a4
theorem l_X12_cups_72 {g : GG} {p : Program} {l : Launch} {e : Env} {s : State} {m : MethodId} {args : Array Value} {below : List Frame} {meth : Method} {c : Code} {A : Nat → Prop} {tgt : Int32 × St}  (C0 : BC p s m args meth c cX12_cups RX12 10 (some .int))  : ∀ (n : Nat) (σ : St) (a1 : Int32) (a2 : Int32) (a3 : Int32) (a4 : Int32), (1 ≤ a1.toInt ∧ a1.toInt ≤ 40) → (1 ≤ a2.toInt ∧ a2.toInt ≤ 40) → (0 ≤ a3.toInt ∧ a3.toInt ≤ 40) → (0 ≤ a4.toInt) → (CQ σ) → (CB σ a1 a2) → (1682 - a4.toInt).toNat < n → ∀ {H : Heap} {locs : List Loc}, KK g s → WC g (mW g) A s.heap σ H locs →  ∀ {ls : Array Slot}, lv_has ls 10 [(0, .ref (g.2.2 100)), (1, .int (a1)), (2, .int (a2)), (3, .int (a3)), (4, .int (a4))] → g_X12_cups_72  n σ a1 a2 a3 a4 = tgt → W p l e { frames := 1, cells := 0, slots := 0, locals := 22 } s m args below meth c H locs 0 0 (QMI below args s g (mW g) A tgt) (F0 m 72 ls []) := by
  intro n
  induction n with
  | zero => intro σ a1 a2 a3 a4 r1 r2 r3 h4 hQ hCB hm; exact absurd hm (Nat.not_lt_zero _)
  | succ n ih =>
    intro σ a1 a2 a3 a4 r1 r2 r3 h4 hQ hCB hm H locs hK hC ls hl hT
    exact b_X12_cups_72  (K72 := g_X12_cups_72  n) (N72 := n) C0  (fun σ a1 a2 a3 a4 r1 r2 r3 h4 hQ hCB hmq => ih σ a1 a2 a3 a4 r1 r2 r3 h4 hQ hCB hmq) r1 r2 r3 h4 hQ hCB hm hK hC hl hT
def f_X12_cups_36 (K36 : St → Int32 → Int32 → Int32 → Int32 → Int32 × St) (σ : St) (a1 : Int32) (a2 : Int32) (a3 : Int32) (a4 : Int32) : Int32 × St := (if (1681 : Int32) ≤ a4 then (bd1 (f_X12_comes (up2 σ 23 0 (0 : Int32)) (0 : Int32) (0 : Int32)) (fun u66 => (g_X12_cups_72  (1683) u66 a1 a2 a3 (0 : Int32)))) else (K36 (up2 σ 21 (ix a4) (-1 : Int32)) a1 a2 a3 (a4 + (1 : Int32))))
set_option maxHeartbeats 600000 in
set_option maxRecDepth 100000 in
theorem b_X12_cups_36 {g : GG} {p : Program} {l : Launch} {e : Env} {s : State} {m : MethodId} {args : Array Value} {below : List Frame} {meth : Method} {c : Code} {A : Nat → Prop} {tgt : Int32 × St} {K36 : St → Int32 → Int32 → Int32 → Int32 → Int32 × St} {N36 : Nat} (C0 : BC p s m args meth c cX12_cups RX12 10 (some .int)) (hK36 : ∀ (σ : St) (a1 : Int32) (a2 : Int32) (a3 : Int32) (a4 : Int32), (1 ≤ a1.toInt ∧ a1.toInt ≤ 40) → (1 ≤ a2.toInt ∧ a2.toInt ≤ 40) → (0 ≤ a3.toInt ∧ a3.toInt ≤ 40) → (0 ≤ a4.toInt) → (∀ i : Nat, (i : Int) < a4.toInt → σ 21 i = -1) → (1682 - a4.toInt).toNat < N36 → ∀ {H : Heap} {locs : List Loc}, KK g s → WC g (mW g) A s.heap σ H locs →  ∀ {ls : Array Slot}, lv_has ls 10 [(0, .ref (g.2.2 100)), (1, .int (a1)), (2, .int (a2)), (3, .int (a3)), (4, .int (a4))] → K36 σ a1 a2 a3 a4 = tgt → W p l e { frames := 1, cells := 0, slots := 0, locals := 22 } s m args below meth c H locs 0 0 (QMI below args s g (mW g) A tgt) (F0 m 36 ls [])) {σ : St} {a1 : Int32} {a2 : Int32} {a3 : Int32} {a4 : Int32} {H : Heap} {locs : List Loc} (r1 : 1 ≤ a1.toInt ∧ a1.toInt ≤ 40) (r2 : 1 ≤ a2.toInt ∧ a2.toInt ≤ 40) (r3 : 0 ≤ a3.toInt ∧ a3.toInt ≤ 40) (h4 : 0 ≤ a4.toInt) (hF : ∀ i : Nat, (i : Int) < a4.toInt → σ 21 i = -1) (hm : (1682 - a4.toInt).toNat < N36 + 1) (hK : KK g s) (hC : WC g (mW g) A s.heap σ H locs) {ls : Array Slot} (hl : lv_has ls 10 [(0, .ref (g.2.2 100)), (1, .int (a1)), (2, .int (a2)), (3, .int (a3)), (4, .int (a4))]) (hT : f_X12_cups_36 K36 σ a1 a2 a3 a4 = tgt) : W p l e { frames := 1, cells := 0, slots := 0, locals := 22 } s m args below meth c H locs 0 0 (QMI below args s g (mW g) A tgt) (F0 m 36 ls []) := by
  obtain ⟨hx, hb, hr, hml, hown, hts, hlocks⟩ := id C0
  unfold f_X12_cups_36 at hT
  have r1b := r1
  have r2b := r2
  refine lv_iload hx hb dX12_cups_36 (lv_at hl 4 rfl) ?_
  refine lv_sipush (v := (1681 : Int32)) hx hb dX12_cups_38 (by decide) ?_
  refine lv_icmp_ge (tgt := 58) hx hb dX12_cups_41 (by decide) (fun c_41 => ?_) (fun c_41 => ?_)
  · have hT := hT_pos c_41 hT
    refine lv_aload_n hx hb dX12_cups_58 rfl (lv_at hl 0 rfl) ?_
    refine lv_iconst (v := (0 : Int32)) hx hb dX12_cups_59 (by decide) ?_
    refine m_put (σ := σ) (ty := .int) C0 hK hC 23 (by decide) rfl rfl rfl rfl (ms_23 g _ _) w_990 dX12_cups_60 (fun H locs hC => ?_)
    refine lv_aload_n hx hb dX12_cups_63 rfl (lv_at hl 0 rfl) ?_
    refine lv_iconst (v := (0 : Int32)) hx hb dX12_cups_64 (by decide) ?_
    refine lv_iconst (v := (0 : Int32)) hx hb dX12_cups_65 (by decide) ?_
    have q66_h1 : 0 ≤ (0 : Int32).toInt := by
      have : ((1681 : Int32)).toInt = 1681 := by decide
      have : ((0 : Int32)).toInt = 0 := by decide
      have := ti_le.mp c_41
      omega
    have q66_h1b : (0 : Int32).toInt < 1681 := by
      have : ((1681 : Int32)).toInt = 1681 := by decide
      have : ((0 : Int32)).toInt = 0 := by decide
      have := ti_le.mp c_41
      omega
    have q66_ht : (σ 21 (ix (0 : Int32))) = -1 → 0 ≤ ((0 : Int32)).toInt ∧ ((0 : Int32)).toInt < 1681 := fun _ => ⟨by decide, by decide⟩
    refine m_mv (rest := []) (As := [.int ((0 : Int32)), .int ((0 : Int32))]) (σ := (up2 σ 23 0 (0 : Int32))) C0 hK hC SV.tt (fun _ _ _ => trivial) cf_X12_comes w_1259 rfl (k_X12_comes l g (up2 σ 23 0 (0 : Int32)) (0 : Int32) (0 : Int32) q66_h1 q66_h1b q66_ht) ⟨by decide, by decide⟩ hl.1 rfl rfl (Nat.le_of_ble_eq_true rfl) dX12_cups_66 ⟨Nat.zero_le _, Nat.zero_le _⟩ (fun u66 H locs e66 hC => ?_)
    have hT := bd1_e e66 hT
    have S66 : CQ u66 ∧ CB u66 a1 a2 ∧ 0 ≤ (u66 23 0).toInt := cups_st e66 ⟨CQ_0 (fun i hi => hF i (by have := ti_le.mp c_41; have z : (1681 : Int32).toInt = 1681 := rfl; omega)), fun i hi => absurd hi (by have z : (0 : Int32).toInt = 0 := rfl; show ¬ (i : Int) < (0 : Int32).toInt; omega), by show (0 : Int) ≤ (0 : Int32).toInt; decide⟩ 0 0 (by decide) (by decide) (by omega) (by decide) (by omega) (by omega) (by omega) (by decide) (by decide)
    refine lv_iconst (v := (0 : Int32)) hx hb dX12_cups_69 (by decide) ?_
    refine lv_istore (lv' := [(4, .int ((0 : Int32))), (0, .ref (g.2.2 100)), (1, .int (a1)), (2, .int (a2)), (3, .int (a3))]) hx hb dX12_cups_70 hl (by decide) rfl (fun ls hl => ?_)
    have j70_h4 : 0 ≤ (0 : Int32).toInt := by
      have : ((1681 : Int32)).toInt = 1681 := by decide
      have : ((0 : Int32)).toInt = 0 := by decide
      have := ti_le.mp c_41
      omega
    have j70_hQ : CQ u66 := S66.1
    have j70_hCB : CB u66 a1 a2 := S66.2.1
    have j70_m : (1682 - (0 : Int32).toInt).toNat < 1683 := by
      have : ((1681 : Int32)).toInt = 1681 := by decide
      have : ((0 : Int32)).toInt = 0 := by decide
      have := ti_le.mp c_41
      omega
    exact l_X12_cups_72  C0   (1683) u66 a1 a2 a3 (0 : Int32) r1 r2 r3 j70_h4 j70_hQ j70_hCB j70_m hK hC (lv_sub hl [1, 2, 3, 4, 0] rfl) hT
  · have hT := hT_neg c_41 hT
    refine lv_aload_n hx hb dX12_cups_44 rfl (lv_at hl 0 rfl) ?_
    refine m_get (σ := σ) (v := .ref (g.2.2 21)) C0 hK hC.1 21 (by decide) rfl w_988 dX12_cups_45 ?_
    refine lv_iload hx hb dX12_cups_48 (lv_at hl 4 rfl) ?_
    refine lv_iconst (v := (-1 : Int32)) hx hb dX12_cups_50 (by decide) ?_
    have o_51 : vp_in a4 1681 := by
      have : ((1681 : Int32)).toInt = 1681 := by decide
      have := mt ti_le.mpr c_41
      exact vin (by omega) (by omega)
    refine m_ast (σ := σ) C0 hK hC 8 21 1681 rfl (ms_21 g _) o_51 (ix a4) rfl dX12_cups_51 (fun H locs hC => ?_)
    refine lv_iinc (v := (a4 + (1 : Int32))) (lv' := [(4, .int ((a4 + (1 : Int32)))), (0, .ref (g.2.2 100)), (1, .int (a1)), (2, .int (a2)), (3, .int (a3))]) hx hb dX12_cups_52 hl (k := 4) rfl rfl (by decide) rfl (fun ls hl => ?_)
    refine lv_goto (tgt := 36) hx hb dX12_cups_55 (by decide) ?_
    have j55_h4 : 0 ≤ (a4 + (1 : Int32)).toInt := by
      have : ((1681 : Int32)).toInt = 1681 := by decide
      have : ((1 : Int32)).toInt = 1 := by decide
      have := mt ti_le.mpr c_41
      try have := ti_add (a := a4) (b := (1 : Int32)) (by omega) (by omega)
      omega
    have j55_hF : ∀ i : Nat, (i : Int) < (a4 + (1 : Int32)).toInt → (up2 σ 21 (ix a4) (-1 : Int32)) 21 i = -1 := fun i hi => by
        have z1 : (1 : Int32).toInt = 1 := rfl
        have := mt ti_le.mpr c_41
        have z : (1681 : Int32).toInt = 1681 := rfl
        have z2 := ti_add (a := a4) (b := 1) (by omega) (by omega)
        have qx := ti_ix h4
        show (if i = ix a4 then (-1 : Int32) else σ 21 i) = -1
        split
        · rfl
        · exact hF i (by omega)
    have j55_m : (1682 - (a4 + (1 : Int32)).toInt).toNat < N36 := by
      have : ((1681 : Int32)).toInt = 1681 := by decide
      have : ((1 : Int32)).toInt = 1 := by decide
      have := mt ti_le.mpr c_41
      try have := ti_add (a := a4) (b := (1 : Int32)) (by omega) (by omega)
      omega
    exact hK36 (up2 σ 21 (ix a4) (-1 : Int32)) a1 a2 a3 (a4 + (1 : Int32)) r1 r2 r3 j55_h4 j55_hF j55_m hK hC (lv_sub hl [1, 2, 3, 4, 0] rfl) hT
def g_X12_cups_36  : Nat → St → Int32 → Int32 → Int32 → Int32 → Int32 × St
  | 0 => fun σ a1 a2 a3 a4 => (0, σ)
  | n + 1 => fun σ a1 a2 a3 a4 => f_X12_cups_36  (g_X12_cups_36  n) σ a1 a2 a3 a4
theorem l_X12_cups_36 {g : GG} {p : Program} {l : Launch} {e : Env} {s : State} {m : MethodId} {args : Array Value} {below : List Frame} {meth : Method} {c : Code} {A : Nat → Prop} {tgt : Int32 × St}  (C0 : BC p s m args meth c cX12_cups RX12 10 (some .int))  : ∀ (n : Nat) (σ : St) (a1 : Int32) (a2 : Int32) (a3 : Int32) (a4 : Int32), (1 ≤ a1.toInt ∧ a1.toInt ≤ 40) → (1 ≤ a2.toInt ∧ a2.toInt ≤ 40) → (0 ≤ a3.toInt ∧ a3.toInt ≤ 40) → (0 ≤ a4.toInt) → (∀ i : Nat, (i : Int) < a4.toInt → σ 21 i = -1) → (1682 - a4.toInt).toNat < n → ∀ {H : Heap} {locs : List Loc}, KK g s → WC g (mW g) A s.heap σ H locs →  ∀ {ls : Array Slot}, lv_has ls 10 [(0, .ref (g.2.2 100)), (1, .int (a1)), (2, .int (a2)), (3, .int (a3)), (4, .int (a4))] → g_X12_cups_36  n σ a1 a2 a3 a4 = tgt → W p l e { frames := 1, cells := 0, slots := 0, locals := 22 } s m args below meth c H locs 0 0 (QMI below args s g (mW g) A tgt) (F0 m 36 ls []) := by
  intro n
  induction n with
  | zero => intro σ a1 a2 a3 a4 r1 r2 r3 h4 hF hm; exact absurd hm (Nat.not_lt_zero _)
  | succ n ih =>
    intro σ a1 a2 a3 a4 r1 r2 r3 h4 hF hm H locs hK hC ls hl hT
    exact b_X12_cups_36  (K36 := g_X12_cups_36  n) (N36 := n) C0  (fun σ a1 a2 a3 a4 r1 r2 r3 h4 hF hmq => ih σ a1 a2 a3 a4 r1 r2 r3 h4 hF hmq) r1 r2 r3 h4 hF hm hK hC hl hT
def f_X12_cups (σ : St) (a1 : Int32) (a2 : Int32) (a3 : Int32) : Int32 × St := (if (f_X12_in a1 (1 : Int32) (40 : Int32)) = 0 then ((-2 : Int32), σ) else (if (f_X12_in a2 (1 : Int32) (40 : Int32)) = 0 then ((-2 : Int32), σ) else (if (f_X12_in a3 (0 : Int32) (40 : Int32)) = 0 then ((-2 : Int32), σ) else (g_X12_cups_36  (1683) σ a1 a2 a3 (0 : Int32)))))
set_option maxHeartbeats 600000 in
set_option maxRecDepth 100000 in
theorem k_X12_cups (l : Launch) (g : GG) (σ : St) (a1 : Int32) (a2 : Int32) (a3 : Int32)  : MI l yX12_cups (wsF yX12_cups cX12_cups 10 (some .int)) { frames := 1, cells := 0, slots := 0, locals := 22 } [.ref (g.2.2 100), .int (a1), .int (a2), .int (a3)] g (mW g) (fun _ => True) σ (f_X12_cups σ a1 a2 a3) := by
  refine start_MI (by decide) (Nat.le_of_ble_eq_true rfl) ?_
  intro p e s m args below meth c C0 hK hB hC ls hl
  generalize hAe : aA ((mW g) σ) = A at hC ⊢
  obtain ⟨hx, hb, hr, hml, hown, hts, hlocks⟩ := id C0
  have hl : lv_has ls 10 [(0, .ref (g.2.2 100)), (1, .int (a1)), (2, .int (a2)), (3, .int (a3))] := hl
  generalize hT : (f_X12_cups σ a1 a2 a3) = tgt
  suffices key : ∀ (H : Heap) (locs : List Loc), WC g (mW g) A s.heap σ H locs → W p l e { frames := 1, cells := 0, slots := 0, locals := 22 } s m args below meth c H locs 0 0 (QMI below args s g (mW g) A tgt) (F0 m 0 ls []) from key _ _ hC
  intro H locs hC
  unfold f_X12_cups at hT
  refine lv_iload_n hx hb dX12_cups_0 rfl (lv_at hl 1 rfl) ?_
  refine lv_iconst (v := (1 : Int32)) hx hb dX12_cups_1 (by decide) ?_
  refine lv_bipush (v := (40 : Int32)) hx hb dX12_cups_2 (by decide) ?_
  refine s_ci (rest := []) (As := [.int (a1), .int ((1 : Int32)), .int ((40 : Int32))]) C0 cf_X12_in w_1060 (k_X12_in l a1 (1 : Int32) (40 : Int32) ) ⟨by decide, by decide⟩ hl.1 rfl rfl (Nat.le_of_ble_eq_true rfl) dX12_cups_4 ⟨Nat.zero_le _, Nat.zero_le _⟩ ?_
  refine lv_if_eq (tgt := 30) hx hb dX12_cups_7 (by decide) (fun c_7 => ?_) (fun c_7 => ?_)
  · have hT := hT_pos c_7 hT
    refine lv_bipush (v := (-2 : Int32)) hx hb dX12_cups_30 (by decide) ?_
    exact ret_MI C0 hC hT dX12_cups_32
  · have hT := hT_neg c_7 hT
    refine lv_iload_n hx hb dX12_cups_10 rfl (lv_at hl 2 rfl) ?_
    refine lv_iconst (v := (1 : Int32)) hx hb dX12_cups_11 (by decide) ?_
    refine lv_bipush (v := (40 : Int32)) hx hb dX12_cups_12 (by decide) ?_
    refine s_ci (rest := []) (As := [.int (a2), .int ((1 : Int32)), .int ((40 : Int32))]) C0 cf_X12_in w_1060 (k_X12_in l a2 (1 : Int32) (40 : Int32) ) ⟨by decide, by decide⟩ hl.1 rfl rfl (Nat.le_of_ble_eq_true rfl) dX12_cups_14 ⟨Nat.zero_le _, Nat.zero_le _⟩ ?_
    refine lv_if_eq (tgt := 30) hx hb dX12_cups_17 (by decide) (fun c_17 => ?_) (fun c_17 => ?_)
    · have hT := hT_pos c_17 hT
      refine lv_bipush (v := (-2 : Int32)) hx hb dX12_cups_30 (by decide) ?_
      exact ret_MI C0 hC hT dX12_cups_32
    · have hT := hT_neg c_17 hT
      refine lv_iload_n hx hb dX12_cups_20 rfl (lv_at hl 3 rfl) ?_
      refine lv_iconst (v := (0 : Int32)) hx hb dX12_cups_21 (by decide) ?_
      refine lv_bipush (v := (40 : Int32)) hx hb dX12_cups_22 (by decide) ?_
      refine s_ci (rest := []) (As := [.int (a3), .int ((0 : Int32)), .int ((40 : Int32))]) C0 cf_X12_in w_1060 (k_X12_in l a3 (0 : Int32) (40 : Int32) ) ⟨by decide, by decide⟩ hl.1 rfl rfl (Nat.le_of_ble_eq_true rfl) dX12_cups_24 ⟨Nat.zero_le _, Nat.zero_le _⟩ ?_
      refine lv_if_ne (tgt := 33) hx hb dX12_cups_27 (by decide) (fun c_27 => ?_) (fun c_27 => ?_)
      · have hT := hT_neg c_27 hT
        refine lv_iconst (v := (0 : Int32)) hx hb dX12_cups_33 (by decide) ?_
        refine lv_istore (lv' := [(4, .int ((0 : Int32))), (0, .ref (g.2.2 100)), (1, .int (a1)), (2, .int (a2)), (3, .int (a3))]) hx hb dX12_cups_34 hl (by decide) rfl (fun ls hl => ?_)
        have j34_r1 : 1 ≤ a1.toInt ∧ a1.toInt ≤ 40 := by
          have : ((1 : Int32)).toInt = 1 := by decide
          have : ((40 : Int32)).toInt = 40 := by decide
          have : ((0 : Int32)).toInt = 0 := by decide
          have := in_ne c_7
          have := in_ne c_17
          have := in_ne c_27
          omega
        have j34_r2 : 1 ≤ a2.toInt ∧ a2.toInt ≤ 40 := by
          have : ((1 : Int32)).toInt = 1 := by decide
          have : ((40 : Int32)).toInt = 40 := by decide
          have : ((0 : Int32)).toInt = 0 := by decide
          have := in_ne c_7
          have := in_ne c_17
          have := in_ne c_27
          omega
        have j34_r3 : 0 ≤ a3.toInt ∧ a3.toInt ≤ 40 := by
          have : ((1 : Int32)).toInt = 1 := by decide
          have : ((40 : Int32)).toInt = 40 := by decide
          have : ((0 : Int32)).toInt = 0 := by decide
          have := in_ne c_7
          have := in_ne c_17
          have := in_ne c_27
          omega
        have j34_h4 : 0 ≤ (0 : Int32).toInt := by
          have : ((1 : Int32)).toInt = 1 := by decide
          have : ((40 : Int32)).toInt = 40 := by decide
          have : ((0 : Int32)).toInt = 0 := by decide
          have := in_ne c_7
          have := in_ne c_17
          have := in_ne c_27
          omega
        have j34_hF : ∀ i : Nat, (i : Int) < (0 : Int32).toInt → σ 21 i = -1 := fun i hi => absurd hi (by have z : (0 : Int32).toInt = 0 := rfl; omega)
        have j34_m : (1682 - (0 : Int32).toInt).toNat < 1683 := by
          have : ((1 : Int32)).toInt = 1 := by decide
          have : ((40 : Int32)).toInt = 40 := by decide
          have : ((0 : Int32)).toInt = 0 := by decide
          have := in_ne c_7
          have := in_ne c_17
          have := in_ne c_27
          omega
        exact l_X12_cups_36  C0   (1683) σ a1 a2 a3 (0 : Int32) j34_r1 j34_r2 j34_r3 j34_h4 j34_hF j34_m hK hC (lv_sub hl [1, 2, 3, 4, 0] rfl) hT
      · have hT := hT_pos c_27 hT
        refine lv_bipush (v := (-2 : Int32)) hx hb dX12_cups_30 (by decide) ?_
        exact ret_MI C0 hC hT dX12_cups_32
