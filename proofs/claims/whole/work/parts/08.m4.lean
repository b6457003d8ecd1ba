
theorem nn_nI {a : Int32} (h : 0 ≤ a.toInt) : ∃ k : Nat, k < 2 ^ 31 ∧ a = nI k := by
  obtain ⟨j, h1, h2⟩ := nI_of (x := a) (fun q => by
    have := ti_lt.mp q
    rw [show (0 : Int32).toInt = 0 from rfl] at this
    omega)
  exact ⟨j, h1, h2⟩
theorem rem_b {a b : Int32} {n : Int} (hb : b.toInt = n) (hn : 0 < n) (ha : 0 ≤ a.toInt) : (a - a / b * b).toInt = a.toInt % n := by
  obtain ⟨k, hk, rfl⟩ := nn_nI ha
  obtain ⟨d, hd, rfl⟩ := nn_nI (a := b) (by omega)
  rw [nI_toInt hd] at hb
  rw [pk_rem hk (by omega) hd, nI_toInt hk, nI_toInt (Nat.lt_of_le_of_lt (Nat.mod_le _ _) hk), ← hb]
  rfl
theorem div_b {a b : Int32} {n : Int} (hb : b.toInt = n) (hn : 0 < n) (ha : 0 ≤ a.toInt) : (a / b).toInt = a.toInt / n := by
  obtain ⟨k, hk, rfl⟩ := nn_nI ha
  obtain ⟨d, hd, rfl⟩ := nn_nI (a := b) (by omega)
  rw [nI_toInt hd] at hb
  rw [pk_div hk (by omega) hd, nI_toInt hk, nI_toInt (Nat.lt_of_le_of_lt (Nat.div_le_self _ _) hk), ← hb]
  rfl
/-- a room's steps: each by[] is there, the truths neither run out nor over -/
def cv (f : Nat → Int32) : Nat → Nat → Nat → Prop
  | 0, _, _ => True
  | n + 1, i, t => if f i < 0 then (if f i = -1 then 1 ≤ t ∧ cv f n (i + 1) t else if f i ≤ -10 then cv f n (i + 1) 0 else 2 ≤ t ∧ cv f n (i + 1) (t - 1)) else (f i - f i / 8 * 8).toInt < 6 ∧ t < 60 ∧ cv f n (i + 1) (t + 1)
def HV (f : Nat → Int32) : Prop := f 7 = -1 ∨ cv f (f (ix (211 + f 7))).toInt.toNat (ix (216 + 140 * f 7)) 0
theorem cv_step {f : Nat → Int32} {k : Int} {i t : Nat} (hk : 0 < k) (h : cv f k.toNat i t) : if f i < 0 then (if f i = -1 then 1 ≤ t ∧ cv f (k - 1).toNat (i + 1) t else if f i ≤ -10 then cv f (k - 1).toNat (i + 1) 0 else 2 ≤ t ∧ cv f (k - 1).toNat (i + 1) (t - 1)) else (f i - f i / 8 * 8).toInt < 6 ∧ t < 60 ∧ cv f (k - 1).toNat (i + 1) (t + 1) := by
  rw [show k.toNat = (k - 1).toNat + 1 by omega] at h
  exact h
theorem ix1 {a : Int32} (h : 0 ≤ a.toInt) (h2 : a.toInt ≤ 100000) : ix (a + 1) = ix a + 1 := by
  have e1 : (1 : Int32).toInt = 1 := rfl
  have q := ti_add (a := a) (b := 1) (by omega) (by omega)
  have h4 := ti_ix (i := a + 1) (by omega)
  have h5 := ti_ix h
  omega
theorem tn1 {a : Int32} (h : 0 ≤ a.toInt) (h2 : a.toInt ≤ 100000) : (a + 1).toInt.toNat = a.toInt.toNat + 1 := ix1 h h2
theorem iinc_m1 (x : Int32) : x + Int32.ofInt (-1) = x - 1 := by
  rw [Int32.sub_eq_add_neg]
  rfl
theorem tnm {a : Int32} (h : 1 ≤ a.toInt) : (a - 1).toInt.toNat = a.toInt.toNat - 1 := by
  have e1 : (1 : Int32).toInt = 1 := rfl
  have := ti_rng a
  have q := ti_sub (a := a) (b := 1) (by omega) (by omega)
  omega
theorem cv_next {f : Nat → Int32} {a4 a5 a7 : Int32} {t : Nat} (h1 : 0 ≤ a7.toInt) (h2 : a7.toInt ≤ 100000) (h : cv f (a5.toInt + a4.toInt - a7.toInt - 1).toNat (ix a7 + 1) t) : cv f (a5.toInt + a4.toInt - (a7 + 1).toInt).toNat (ix (a7 + 1)) t := by
  rw [ix1 h1 h2]
  have e1 : (1 : Int32).toInt = 1 := rfl
  have q := ti_add (a := a7) (b := 1) (by omega) (by omega)
  rw [q, e1, show a5.toInt + a4.toInt - (a7.toInt + 1) = a5.toInt + a4.toInt - a7.toInt - 1 by omega]
  exact h
theorem tm_b {σ : St} (hI : IB (σ 1)) : 0 ≤ (f_X12_tellsOf σ 211 0).toInt ∧ (f_X12_tellsOf σ 211 0).toInt ≤ 140 := by
  obtain ⟨-, -, i2, -, -, -, -, i7, -, -, -, -, -, -, -, -, -, -, -, -, -, iU⟩ := hI
  unfold f_X12_tellsOf
  split
  · decide
  · rename_i h
    have h := mt ti_eq.mpr h
    rw [show (-1 : Int32).toInt = -1 from rfl] at h
    rw [ixl (n := 211) (e := 211) (a := σ 1 7) rfl (by omega) (by omega) (by omega)]
    exact iU _ (ix_lt (by omega) (by omega))
theorem cv_start {σ : St} (hV : HV (σ 1)) : cv (σ 1) ((216 + 140 * σ 1 7).toInt + (f_X12_tellsOf σ 211 0).toInt - (216 + 140 * σ 1 7).toInt).toNat (ix (216 + 140 * σ 1 7)) (0 : Int32).toInt.toNat := by
  rw [show (216 + 140 * σ 1 7).toInt + (f_X12_tellsOf σ 211 0).toInt - (216 + 140 * σ 1 7).toInt = (f_X12_tellsOf σ 211 0).toInt by omega]
  unfold f_X12_tellsOf
  split
  · exact trivial
  · rename_i h
    rcases hV with q | q
    · exact absurd q h
    · exact q
theorem h7_b {f : Nat → Int32} (hI : IB f) : 0 ≤ (216 + 140 * f 7).toInt ∧ (216 + 140 * f 7).toInt ≤ 776 := by
  obtain ⟨-, -, i2, -, -, -, -, i7, -⟩ := hI
  have e1 : (140 : Int32).toInt = 140 := rfl
  have e2 : (216 : Int32).toInt = 216 := rfl
  have q := ti_mulR (a := 140) (b := f 7) (n := 140) rfl (by omega) (by omega)
  have q2 := ti_add (a := 216) (b := 140 * f 7) (by omega) (by omega)
  omega
set_option maxRecDepth 20000 in
theorem w_977 : (Cond.fieldLink RX12 21 RX12 "truths" "[Z") ∈ TB := inTB (List.mem_of_getElem? (i := 977) (by decide +kernel)) (by decide +kernel)
set_option maxRecDepth 20000 in
theorem w_978 : (Cond.fieldLink RX12 129 RX12 "offs" "I") ∈ TB := inTB (List.mem_of_getElem? (i := 978) (by decide +kernel)) (by decide +kernel)
set_option maxRecDepth 20000 in
theorem w_979 : (Cond.fieldLink RX12 132 RX12 "wears" "I") ∈ TB := inTB (List.mem_of_getElem? (i := 979) (by decide +kernel)) (by decide +kernel)
set_option maxRecDepth 20000 in
theorem w_976 : (Cond.fieldLink RX12 18 RX12 "by" "[I") ∈ TB := inTB (List.mem_of_getElem? (i := 976) (by decide +kernel)) (by decide +kernel)
/-! ThreeMeasuresModel.looks -/
theorem dX12_looks_0 : decode cX12_looks 0 = .ok (.aload_n 0, 1) := by decide +kernel
theorem dX12_looks_1 : decode cX12_looks 1 = .ok (.getfield 18, 3) := by decide +kernel
theorem dX12_looks_4 : decode cX12_looks 4 = .ok (.iconst 0, 1) := by decide +kernel
theorem dX12_looks_5 : decode cX12_looks 5 = .ok (.iload_n 1, 1) := by decide +kernel
theorem dX12_looks_6 : decode cX12_looks 6 = .ok (.iastore, 1) := by decide +kernel
theorem dX12_looks_7 : decode cX12_looks 7 = .ok (.aload_n 0, 1) := by decide +kernel
theorem dX12_looks_8 : decode cX12_looks 8 = .ok (.getfield 18, 3) := by decide +kernel
theorem dX12_looks_11 : decode cX12_looks 11 = .ok (.iconst 1, 1) := by decide +kernel
theorem dX12_looks_12 : decode cX12_looks 12 = .ok (.aload_n 0, 1) := by decide +kernel
theorem dX12_looks_13 : decode cX12_looks 13 = .ok (.getfield 9, 3) := by decide +kernel
theorem dX12_looks_16 : decode cX12_looks 16 = .ok (.bipush 9, 2) := by decide +kernel
theorem dX12_looks_18 : decode cX12_looks 18 = .ok (.iload_n 1, 1) := by decide +kernel
theorem dX12_looks_19 : decode cX12_looks 19 = .ok (.iadd, 1) := by decide +kernel
theorem dX12_looks_20 : decode cX12_looks 20 = .ok (.iaload, 1) := by decide +kernel
theorem dX12_looks_21 : decode cX12_looks 21 = .ok (.iastore, 1) := by decide +kernel
theorem dX12_looks_22 : decode cX12_looks 22 = .ok (.aload_n 0, 1) := by decide +kernel
theorem dX12_looks_23 : decode cX12_looks 23 = .ok (.getfield 18, 3) := by decide +kernel
theorem dX12_looks_26 : decode cX12_looks 26 = .ok (.iconst 2, 1) := by decide +kernel
theorem dX12_looks_27 : decode cX12_looks 27 = .ok (.aload_n 0, 1) := by decide +kernel
theorem dX12_looks_28 : decode cX12_looks 28 = .ok (.getfield 9, 3) := by decide +kernel
theorem dX12_looks_31 : decode cX12_looks 31 = .ok (.bipush 15, 2) := by decide +kernel
theorem dX12_looks_33 : decode cX12_looks 33 = .ok (.iload_n 1, 1) := by decide +kernel
theorem dX12_looks_34 : decode cX12_looks 34 = .ok (.iadd, 1) := by decide +kernel
theorem dX12_looks_35 : decode cX12_looks 35 = .ok (.iaload, 1) := by decide +kernel
theorem dX12_looks_36 : decode cX12_looks 36 = .ok (.iastore, 1) := by decide +kernel
theorem dX12_looks_37 : decode cX12_looks 37 = .ok (.aload_n 0, 1) := by decide +kernel
theorem dX12_looks_38 : decode cX12_looks 38 = .ok (.getfield 18, 3) := by decide +kernel
theorem dX12_looks_41 : decode cX12_looks 41 = .ok (.iconst 3, 1) := by decide +kernel
theorem dX12_looks_42 : decode cX12_looks 42 = .ok (.aload_n 0, 1) := by decide +kernel
theorem dX12_looks_43 : decode cX12_looks 43 = .ok (.getfield 9, 3) := by decide +kernel
theorem dX12_looks_46 : decode cX12_looks 46 = .ok (.bipush 21, 2) := by decide +kernel
theorem dX12_looks_48 : decode cX12_looks 48 = .ok (.iload_n 1, 1) := by decide +kernel
theorem dX12_looks_49 : decode cX12_looks 49 = .ok (.iadd, 1) := by decide +kernel
theorem dX12_looks_50 : decode cX12_looks 50 = .ok (.iaload, 1) := by decide +kernel
theorem dX12_looks_51 : decode cX12_looks 51 = .ok (.bipush 10, 2) := by decide +kernel
theorem dX12_looks_53 : decode cX12_looks 53 = .ok (.idiv, 1) := by decide +kernel
theorem dX12_looks_54 : decode cX12_looks 54 = .ok (.iastore, 1) := by decide +kernel
theorem dX12_looks_55 : decode cX12_looks 55 = .ok (.aload_n 0, 1) := by decide +kernel
theorem dX12_looks_56 : decode cX12_looks 56 = .ok (.getfield 18, 3) := by decide +kernel
theorem dX12_looks_59 : decode cX12_looks 59 = .ok (.iconst 4, 1) := by decide +kernel
theorem dX12_looks_60 : decode cX12_looks 60 = .ok (.iload_n 3, 1) := by decide +kernel
theorem dX12_looks_61 : decode cX12_looks 61 = .ok (.bipush 10, 2) := by decide +kernel
theorem dX12_looks_63 : decode cX12_looks 63 = .ok (.irem, 1) := by decide +kernel
theorem dX12_looks_64 : decode cX12_looks 64 = .ok (.iastore, 1) := by decide +kernel
theorem dX12_looks_65 : decode cX12_looks 65 = .ok (.aload_n 0, 1) := by decide +kernel
theorem dX12_looks_66 : decode cX12_looks 66 = .ok (.getfield 18, 3) := by decide +kernel
theorem dX12_looks_69 : decode cX12_looks 69 = .ok (.iconst 5, 1) := by decide +kernel
theorem dX12_looks_70 : decode cX12_looks 70 = .ok (.iload_n 2, 1) := by decide +kernel
theorem dX12_looks_71 : decode cX12_looks 71 = .ok (.iastore, 1) := by decide +kernel
theorem dX12_looks_72 : decode cX12_looks 72 = .ok (.aload_n 0, 1) := by decide +kernel
theorem dX12_looks_73 : decode cX12_looks 73 = .ok (.iconst 0, 1) := by decide +kernel
theorem dX12_looks_74 : decode cX12_looks 74 = .ok (.putfield 129, 3) := by decide +kernel
theorem dX12_looks_77 : decode cX12_looks 77 = .ok (.aload_n 0, 1) := by decide +kernel
theorem dX12_looks_78 : decode cX12_looks 78 = .ok (.iconst 0, 1) := by decide +kernel
theorem dX12_looks_79 : decode cX12_looks 79 = .ok (.putfield 132, 3) := by decide +kernel
theorem dX12_looks_82 : decode cX12_looks 82 = .ok (.aload_n 0, 1) := by decide +kernel
theorem dX12_looks_83 : decode cX12_looks 83 = .ok (.sipush 211, 3) := by decide +kernel
theorem dX12_looks_86 : decode cX12_looks 86 = .ok (.iconst 0, 1) := by decide +kernel
theorem dX12_looks_87 : decode cX12_looks 87 = .ok (.invokevirtual 135, 3) := by decide +kernel
theorem dX12_looks_90 : decode cX12_looks 90 = .ok (.istore 4, 2) := by decide +kernel
theorem dX12_looks_92 : decode cX12_looks 92 = .ok (.sipush 216, 3) := by decide +kernel
theorem dX12_looks_95 : decode cX12_looks 95 = .ok (.sipush 140, 3) := by decide +kernel
theorem dX12_looks_98 : decode cX12_looks 98 = .ok (.aload_n 0, 1) := by decide +kernel
theorem dX12_looks_99 : decode cX12_looks 99 = .ok (.getfield 9, 3) := by decide +kernel
theorem dX12_looks_102 : decode cX12_looks 102 = .ok (.bipush 7, 2) := by decide +kernel
theorem dX12_looks_104 : decode cX12_looks 104 = .ok (.iaload, 1) := by decide +kernel
theorem dX12_looks_105 : decode cX12_looks 105 = .ok (.imul, 1) := by decide +kernel
theorem dX12_looks_106 : decode cX12_looks 106 = .ok (.iadd, 1) := by decide +kernel
theorem dX12_looks_107 : decode cX12_looks 107 = .ok (.istore 5, 2) := by decide +kernel
theorem dX12_looks_109 : decode cX12_looks 109 = .ok (.iconst 0, 1) := by decide +kernel
theorem dX12_looks_110 : decode cX12_looks 110 = .ok (.istore 6, 2) := by decide +kernel
theorem dX12_looks_112 : decode cX12_looks 112 = .ok (.iload 5, 2) := by decide +kernel
theorem dX12_looks_114 : decode cX12_looks 114 = .ok (.istore 7, 2) := by decide +kernel
theorem dX12_looks_116 : decode cX12_looks 116 = .ok (.iload 7, 2) := by decide +kernel
theorem dX12_looks_118 : decode cX12_looks 118 = .ok (.iload 5, 2) := by decide +kernel
theorem dX12_looks_120 : decode cX12_looks 120 = .ok (.iload 4, 2) := by decide +kernel
theorem dX12_looks_122 : decode cX12_looks 122 = .ok (.iadd, 1) := by decide +kernel
theorem dX12_looks_123 : decode cX12_looks 123 = .ok (.if_icmp .ge 312, 3) := by decide +kernel
theorem dX12_looks_126 : decode cX12_looks 126 = .ok (.aload_n 0, 1) := by decide +kernel
theorem dX12_looks_127 : decode cX12_looks 127 = .ok (.getfield 9, 3) := by decide +kernel
theorem dX12_looks_130 : decode cX12_looks 130 = .ok (.iload 7, 2) := by decide +kernel
theorem dX12_looks_132 : decode cX12_looks 132 = .ok (.iaload, 1) := by decide +kernel
theorem dX12_looks_133 : decode cX12_looks 133 = .ok (.istore 8, 2) := by decide +kernel
theorem dX12_looks_135 : decode cX12_looks 135 = .ok (.iload 8, 2) := by decide +kernel
theorem dX12_looks_137 : decode cX12_looks 137 = .ok (.ifCond .lt 97, 3) := by decide +kernel
theorem dX12_looks_140 : decode cX12_looks 140 = .ok (.aload_n 0, 1) := by decide +kernel
theorem dX12_looks_141 : decode cX12_looks 141 = .ok (.getfield 18, 3) := by decide +kernel
theorem dX12_looks_144 : decode cX12_looks 144 = .ok (.iload 8, 2) := by decide +kernel
theorem dX12_looks_146 : decode cX12_looks 146 = .ok (.bipush 8, 2) := by decide +kernel
theorem dX12_looks_148 : decode cX12_looks 148 = .ok (.irem, 1) := by decide +kernel
theorem dX12_looks_149 : decode cX12_looks 149 = .ok (.iaload, 1) := by decide +kernel
theorem dX12_looks_150 : decode cX12_looks 150 = .ok (.istore 9, 2) := by decide +kernel
theorem dX12_looks_152 : decode cX12_looks 152 = .ok (.iload 8, 2) := by decide +kernel
theorem dX12_looks_154 : decode cX12_looks 154 = .ok (.bipush 8, 2) := by decide +kernel
theorem dX12_looks_156 : decode cX12_looks 156 = .ok (.idiv, 1) := by decide +kernel
theorem dX12_looks_157 : decode cX12_looks 157 = .ok (.iconst 4, 1) := by decide +kernel
theorem dX12_looks_158 : decode cX12_looks 158 = .ok (.irem, 1) := by decide +kernel
theorem dX12_looks_159 : decode cX12_looks 159 = .ok (.istore 10, 2) := by decide +kernel
theorem dX12_looks_161 : decode cX12_looks 161 = .ok (.iload 8, 2) := by decide +kernel
theorem dX12_looks_163 : decode cX12_looks 163 = .ok (.bipush 32, 2) := by decide +kernel
theorem dX12_looks_165 : decode cX12_looks 165 = .ok (.idiv, 1) := by decide +kernel
theorem dX12_looks_166 : decode cX12_looks 166 = .ok (.istore 11, 2) := by decide +kernel
theorem dX12_looks_168 : decode cX12_looks 168 = .ok (.aload_n 0, 1) := by decide +kernel
theorem dX12_looks_169 : decode cX12_looks 169 = .ok (.getfield 21, 3) := by decide +kernel
theorem dX12_looks_172 : decode cX12_looks 172 = .ok (.iload 6, 2) := by decide +kernel
theorem dX12_looks_174 : decode cX12_looks 174 = .ok (.iload 10, 2) := by decide +kernel
theorem dX12_looks_176 : decode cX12_looks 176 = .ok (.ifCond .ne 18, 3) := by decide +kernel
theorem dX12_looks_179 : decode cX12_looks 179 = .ok (.iload 9, 2) := by decide +kernel
theorem dX12_looks_181 : decode cX12_looks 181 = .ok (.iload 11, 2) := by decide +kernel
theorem dX12_looks_183 : decode cX12_looks 183 = .ok (.if_icmp .ge 7, 3) := by decide +kernel
theorem dX12_looks_186 : decode cX12_looks 186 = .ok (.iconst 1, 1) := by decide +kernel
theorem dX12_looks_187 : decode cX12_looks 187 = .ok (.goto 40, 3) := by decide +kernel
theorem dX12_looks_190 : decode cX12_looks 190 = .ok (.iconst 0, 1) := by decide +kernel
theorem dX12_looks_191 : decode cX12_looks 191 = .ok (.goto 36, 3) := by decide +kernel
theorem dX12_looks_194 : decode cX12_looks 194 = .ok (.iload 10, 2) := by decide +kernel
theorem dX12_looks_196 : decode cX12_looks 196 = .ok (.iconst 1, 1) := by decide +kernel
theorem dX12_looks_197 : decode cX12_looks 197 = .ok (.if_icmp .ne 18, 3) := by decide +kernel
theorem dX12_looks_200 : decode cX12_looks 200 = .ok (.iload 9, 2) := by decide +kernel
theorem dX12_looks_202 : decode cX12_looks 202 = .ok (.iload 11, 2) := by decide +kernel
theorem dX12_looks_204 : decode cX12_looks 204 = .ok (.if_icmp .ne 7, 3) := by decide +kernel
theorem dX12_looks_207 : decode cX12_looks 207 = .ok (.iconst 1, 1) := by decide +kernel
theorem dX12_looks_208 : decode cX12_looks 208 = .ok (.goto 19, 3) := by decide +kernel
theorem dX12_looks_211 : decode cX12_looks 211 = .ok (.iconst 0, 1) := by decide +kernel
theorem dX12_looks_212 : decode cX12_looks 212 = .ok (.goto 15, 3) := by decide +kernel
theorem dX12_looks_215 : decode cX12_looks 215 = .ok (.iload 9, 2) := by decide +kernel
theorem dX12_looks_217 : decode cX12_looks 217 = .ok (.iload 11, 2) := by decide +kernel
theorem dX12_looks_219 : decode cX12_looks 219 = .ok (.if_icmp .le 7, 3) := by decide +kernel
theorem dX12_looks_222 : decode cX12_looks 222 = .ok (.iconst 1, 1) := by decide +kernel
theorem dX12_looks_223 : decode cX12_looks 223 = .ok (.goto 4, 3) := by decide +kernel
theorem dX12_looks_226 : decode cX12_looks 226 = .ok (.iconst 0, 1) := by decide +kernel
theorem dX12_looks_227 : decode cX12_looks 227 = .ok (.bastore, 1) := by decide +kernel
theorem dX12_looks_228 : decode cX12_looks 228 = .ok (.iinc 6 1, 3) := by decide +kernel
theorem dX12_looks_231 : decode cX12_looks 231 = .ok (.goto 198, 3) := by decide +kernel
theorem dX12_looks_234 : decode cX12_looks 234 = .ok (.iload 8, 2) := by decide +kernel
theorem dX12_looks_236 : decode cX12_looks 236 = .ok (.iconst (-1), 1) := by decide +kernel
theorem dX12_looks_237 : decode cX12_looks 237 = .ok (.if_icmp .ne 32, 3) := by decide +kernel
theorem dX12_looks_240 : decode cX12_looks 240 = .ok (.aload_n 0, 1) := by decide +kernel
theorem dX12_looks_241 : decode cX12_looks 241 = .ok (.getfield 21, 3) := by decide +kernel
theorem dX12_looks_244 : decode cX12_looks 244 = .ok (.iload 6, 2) := by decide +kernel
theorem dX12_looks_246 : decode cX12_looks 246 = .ok (.iconst 1, 1) := by decide +kernel
theorem dX12_looks_247 : decode cX12_looks 247 = .ok (.isub, 1) := by decide +kernel
theorem dX12_looks_248 : decode cX12_looks 248 = .ok (.aload_n 0, 1) := by decide +kernel
theorem dX12_looks_249 : decode cX12_looks 249 = .ok (.getfield 21, 3) := by decide +kernel
theorem dX12_looks_252 : decode cX12_looks 252 = .ok (.iload 6, 2) := by decide +kernel
theorem dX12_looks_254 : decode cX12_looks 254 = .ok (.iconst 1, 1) := by decide +kernel
theorem dX12_looks_255 : decode cX12_looks 255 = .ok (.isub, 1) := by decide +kernel
theorem dX12_looks_256 : decode cX12_looks 256 = .ok (.baload, 1) := by decide +kernel
theorem dX12_looks_257 : decode cX12_looks 257 = .ok (.ifCond .ne 7, 3) := by decide +kernel
theorem dX12_looks_260 : decode cX12_looks 260 = .ok (.iconst 1, 1) := by decide +kernel
theorem dX12_looks_261 : decode cX12_looks 261 = .ok (.goto 4, 3) := by decide +kernel
theorem dX12_looks_264 : decode cX12_looks 264 = .ok (.iconst 0, 1) := by decide +kernel
theorem dX12_looks_265 : decode cX12_looks 265 = .ok (.bastore, 1) := by decide +kernel
theorem dX12_looks_266 : decode cX12_looks 266 = .ok (.goto 163, 3) := by decide +kernel
theorem dX12_looks_269 : decode cX12_looks 269 = .ok (.iload 8, 2) := by decide +kernel
theorem dX12_looks_271 : decode cX12_looks 271 = .ok (.bipush (-10), 2) := by decide +kernel
theorem dX12_looks_273 : decode cX12_looks 273 = .ok (.if_icmp .le 82, 3) := by decide +kernel
theorem dX12_looks_276 : decode cX12_looks 276 = .ok (.iinc 6 (-1), 3) := by decide +kernel
theorem dX12_looks_279 : decode cX12_looks 279 = .ok (.aload_n 0, 1) := by decide +kernel
theorem dX12_looks_280 : decode cX12_looks 280 = .ok (.getfield 21, 3) := by decide +kernel
theorem dX12_looks_283 : decode cX12_looks 283 = .ok (.iload 6, 2) := by decide +kernel
theorem dX12_looks_285 : decode cX12_looks 285 = .ok (.iconst 1, 1) := by decide +kernel
theorem dX12_looks_286 : decode cX12_looks 286 = .ok (.isub, 1) := by decide +kernel
theorem dX12_looks_287 : decode cX12_looks 287 = .ok (.iload 8, 2) := by decide +kernel
theorem dX12_looks_289 : decode cX12_looks 289 = .ok (.bipush (-2), 2) := by decide +kernel
theorem dX12_looks_291 : decode cX12_looks 291 = .ok (.if_icmp .ne 33, 3) := by decide +kernel
theorem dX12_looks_294 : decode cX12_looks 294 = .ok (.aload_n 0, 1) := by decide +kernel
theorem dX12_looks_295 : decode cX12_looks 295 = .ok (.getfield 21, 3) := by decide +kernel
theorem dX12_looks_298 : decode cX12_looks 298 = .ok (.iload 6, 2) := by decide +kernel
theorem dX12_looks_300 : decode cX12_looks 300 = .ok (.iconst 1, 1) := by decide +kernel
theorem dX12_looks_301 : decode cX12_looks 301 = .ok (.isub, 1) := by decide +kernel
theorem dX12_looks_302 : decode cX12_looks 302 = .ok (.baload, 1) := by decide +kernel
theorem dX12_looks_303 : decode cX12_looks 303 = .ok (.ifCond .eq 17, 3) := by decide +kernel
theorem dX12_looks_306 : decode cX12_looks 306 = .ok (.aload_n 0, 1) := by decide +kernel
theorem dX12_looks_307 : decode cX12_looks 307 = .ok (.getfield 21, 3) := by decide +kernel
theorem dX12_looks_310 : decode cX12_looks 310 = .ok (.iload 6, 2) := by decide +kernel
theorem dX12_looks_312 : decode cX12_looks 312 = .ok (.baload, 1) := by decide +kernel
theorem dX12_looks_313 : decode cX12_looks 313 = .ok (.ifCond .eq 7, 3) := by decide +kernel
theorem dX12_looks_316 : decode cX12_looks 316 = .ok (.iconst 1, 1) := by decide +kernel
theorem dX12_looks_317 : decode cX12_looks 317 = .ok (.goto 34, 3) := by decide +kernel
theorem dX12_looks_320 : decode cX12_looks 320 = .ok (.iconst 0, 1) := by decide +kernel
theorem dX12_looks_321 : decode cX12_looks 321 = .ok (.goto 30, 3) := by decide +kernel
theorem dX12_looks_324 : decode cX12_looks 324 = .ok (.aload_n 0, 1) := by decide +kernel
theorem dX12_looks_325 : decode cX12_looks 325 = .ok (.getfield 21, 3) := by decide +kernel
theorem dX12_looks_328 : decode cX12_looks 328 = .ok (.iload 6, 2) := by decide +kernel
theorem dX12_looks_330 : decode cX12_looks 330 = .ok (.iconst 1, 1) := by decide +kernel
theorem dX12_looks_331 : decode cX12_looks 331 = .ok (.isub, 1) := by decide +kernel
theorem dX12_looks_332 : decode cX12_looks 332 = .ok (.baload, 1) := by decide +kernel
theorem dX12_looks_333 : decode cX12_looks 333 = .ok (.ifCond .ne 13, 3) := by decide +kernel
theorem dX12_looks_336 : decode cX12_looks 336 = .ok (.aload_n 0, 1) := by decide +kernel
theorem dX12_looks_337 : decode cX12_looks 337 = .ok (.getfield 21, 3) := by decide +kernel
theorem dX12_looks_340 : decode cX12_looks 340 = .ok (.iload 6, 2) := by decide +kernel
theorem dX12_looks_342 : decode cX12_looks 342 = .ok (.baload, 1) := by decide +kernel
theorem dX12_looks_343 : decode cX12_looks 343 = .ok (.ifCond .eq 7, 3) := by decide +kernel
theorem dX12_looks_346 : decode cX12_looks 346 = .ok (.iconst 1, 1) := by decide +kernel
theorem dX12_looks_347 : decode cX12_looks 347 = .ok (.goto 4, 3) := by decide +kernel
theorem dX12_looks_350 : decode cX12_looks 350 = .ok (.iconst 0, 1) := by decide +kernel
theorem dX12_looks_351 : decode cX12_looks 351 = .ok (.bastore, 1) := by decide +kernel
theorem dX12_looks_352 : decode cX12_looks 352 = .ok (.goto 77, 3) := by decide +kernel
theorem dX12_looks_355 : decode cX12_looks 355 = .ok (.iconst 0, 1) := by decide +kernel
theorem dX12_looks_356 : decode cX12_looks 356 = .ok (.istore 6, 2) := by decide +kernel
theorem dX12_looks_358 : decode cX12_looks 358 = .ok (.aload_n 0, 1) := by decide +kernel
theorem dX12_looks_359 : decode cX12_looks 359 = .ok (.getfield 21, 3) := by decide +kernel
theorem dX12_looks_362 : decode cX12_looks 362 = .ok (.iconst 0, 1) := by decide +kernel
theorem dX12_looks_363 : decode cX12_looks 363 = .ok (.baload, 1) := by decide +kernel
theorem dX12_looks_364 : decode cX12_looks 364 = .ok (.istore 9, 2) := by decide +kernel
theorem dX12_looks_366 : decode cX12_looks 366 = .ok (.aload_n 0, 1) := by decide +kernel
theorem dX12_looks_367 : decode cX12_looks 367 = .ok (.dup, 1) := by decide +kernel
theorem dX12_looks_368 : decode cX12_looks 368 = .ok (.getfield 129, 3) := by decide +kernel
theorem dX12_looks_371 : decode cX12_looks 371 = .ok (.iload 9, 2) := by decide +kernel
theorem dX12_looks_373 : decode cX12_looks 373 = .ok (.ifCond .eq 19, 3) := by decide +kernel
theorem dX12_looks_376 : decode cX12_looks 376 = .ok (.iload 8, 2) := by decide +kernel
theorem dX12_looks_378 : decode cX12_looks 378 = .ok (.sipush (-200), 3) := by decide +kernel
theorem dX12_looks_381 : decode cX12_looks 381 = .ok (.if_icmp .le 11, 3) := by decide +kernel
theorem dX12_looks_384 : decode cX12_looks 384 = .ok (.bipush (-10), 2) := by decide +kernel
theorem dX12_looks_386 : decode cX12_looks 386 = .ok (.iload 8, 2) := by decide +kernel
theorem dX12_looks_388 : decode cX12_looks 388 = .ok (.isub, 1) := by decide +kernel
theorem dX12_looks_389 : decode cX12_looks 389 = .ok (.goto 4, 3) := by decide +kernel
theorem dX12_looks_392 : decode cX12_looks 392 = .ok (.iconst 0, 1) := by decide +kernel
theorem dX12_looks_393 : decode cX12_looks 393 = .ok (.iadd, 1) := by decide +kernel
theorem dX12_looks_394 : decode cX12_looks 394 = .ok (.putfield 129, 3) := by decide +kernel
theorem dX12_looks_397 : decode cX12_looks 397 = .ok (.aload_n 0, 1) := by decide +kernel
theorem dX12_looks_398 : decode cX12_looks 398 = .ok (.dup, 1) := by decide +kernel
theorem dX12_looks_399 : decode cX12_looks 399 = .ok (.getfield 132, 3) := by decide +kernel
theorem dX12_looks_402 : decode cX12_looks 402 = .ok (.iload 9, 2) := by decide +kernel
theorem dX12_looks_404 : decode cX12_looks 404 = .ok (.ifCond .eq 20, 3) := by decide +kernel
theorem dX12_looks_407 : decode cX12_looks 407 = .ok (.iload 8, 2) := by decide +kernel
theorem dX12_looks_409 : decode cX12_looks 409 = .ok (.sipush (-200), 3) := by decide +kernel
theorem dX12_looks_412 : decode cX12_looks 412 = .ok (.if_icmp .gt 12, 3) := by decide +kernel
theorem dX12_looks_415 : decode cX12_looks 415 = .ok (.sipush (-200), 3) := by decide +kernel
theorem dX12_looks_418 : decode cX12_looks 418 = .ok (.iload 8, 2) := by decide +kernel
theorem dX12_looks_420 : decode cX12_looks 420 = .ok (.isub, 1) := by decide +kernel
theorem dX12_looks_421 : decode cX12_looks 421 = .ok (.goto 4, 3) := by decide +kernel
theorem dX12_looks_424 : decode cX12_looks 424 = .ok (.iconst 0, 1) := by decide +kernel
theorem dX12_looks_425 : decode cX12_looks 425 = .ok (.iadd, 1) := by decide +kernel
theorem dX12_looks_426 : decode cX12_looks 426 = .ok (.putfield 132, 3) := by decide +kernel
theorem dX12_looks_429 : decode cX12_looks 429 = .ok (.iinc 7 1, 3) := by decide +kernel
theorem dX12_looks_432 : decode cX12_looks 432 = .ok (.goto (-316), 3) := by decide +kernel
theorem dX12_looks_435 : decode cX12_looks 435 = .ok (.return_, 1) := by decide +kernel
def f_X12_looks_429 (K116 : St → Int32 → Int32 → Int32 → Int32 → St) (σ : St) (a4 : Int32) (a5 : Int32) (a6 : Int32) (a7 : Int32) : St := (K116 σ a4 a5 a6 (a7 + (1 : Int32)))
set_option maxHeartbeats 600000 in
set_option maxRecDepth 100000 in
theorem b_X12_looks_429 {g : GG} {p : Program} {l : Launch} {e : Env} {s : State} {m : MethodId} {args : Array Value} {below : List Frame} {meth : Method} {c : Code} {A : Nat → Prop} {tgt : St} {K116 : St → Int32 → Int32 → Int32 → Int32 → St} {N116 : Nat} (C0 : BC p s m args meth c cX12_looks RX12 12 none) (hK116 : ∀ (σ : St) (a4 : Int32) (a5 : Int32) (a6 : Int32) (a7 : Int32), (IB (σ 1)) → (0 ≤ a5.toInt ∧ a5.toInt ≤ 776) → (0 ≤ a4.toInt ∧ a4.toInt ≤ 140) → (0 ≤ a6.toInt ∧ a6.toInt ≤ 60) → (a5.toInt ≤ a7.toInt ∧ a7.toInt ≤ a5.toInt + a4.toInt) → (cv (σ 1) (a5.toInt + a4.toInt - a7.toInt).toNat (ix a7) a6.toInt.toNat) → (a5.toInt + a4.toInt - a7.toInt).toNat < N116 → ∀ {H : Heap} {locs : List Loc}, KK g s → WC g (mW g) A s.heap σ H locs → ∀ {ls : Array Slot}, lv_has ls 12 [(0, .ref (g.2.2 100)), (4, .int (a4)), (5, .int (a5)), (6, .int (a6)), (7, .int (a7))] → K116 σ a4 a5 a6 a7 = tgt → W p l e { frames := 1, cells := 0, slots := 0, locals := 22 } s m args below meth c H locs 0 0 (QMV below args s g (mW g) A tgt) (F0 m 116 ls [])) {σ : St} {a4 : Int32} {a5 : Int32} {a6 : Int32} {a7 : Int32} {H : Heap} {locs : List Loc} (hI : IB (σ 1)) (h5 : 0 ≤ a5.toInt ∧ a5.toInt ≤ 776) (h4 : 0 ≤ a4.toInt ∧ a4.toInt ≤ 140) (h6 : 0 ≤ a6.toInt ∧ a6.toInt ≤ 60) (h7 : a5.toInt ≤ a7.toInt ∧ a7.toInt < a5.toInt + a4.toInt) (hcv : cv (σ 1) (a5.toInt + a4.toInt - a7.toInt - 1).toNat (ix a7 + 1) a6.toInt.toNat) (hm116 : (a5.toInt + a4.toInt - a7.toInt).toNat < N116 + 1)  (hK : KK g s) (hC : WC g (mW g) A s.heap σ H locs) {ls : Array Slot} (hl : lv_has ls 12 [(0, .ref (g.2.2 100)), (4, .int (a4)), (5, .int (a5)), (6, .int (a6)), (7, .int (a7))]) (hT : f_X12_looks_429 K116 σ a4 a5 a6 a7 = tgt) : W p l e { frames := 1, cells := 0, slots := 0, locals := 22 } s m args below meth c H locs 0 0 (QMV below args s g (mW g) A tgt) (F0 m 429 ls []) := by
  obtain ⟨hx, hb, hr, hml, hown, hts, hlocks⟩ := id C0
  unfold f_X12_looks_429 at hT
  obtain ⟨⟨i0, i0'⟩, ⟨i1, i1'⟩, ⟨i2, i2'⟩, ⟨i3, i3'⟩, ⟨i4, i4'⟩, ⟨i5, i5'⟩, ⟨i6, i6'⟩, ⟨i7, i7'⟩, ⟨i8, i8'⟩, iK, iV, iL, iR, iW, iY, iG, iM, iB, iQ, iP, iT, iU⟩ := id hI
  refine lv_iinc (v := (a7 + (1 : Int32))) (lv' := [(7, .int ((a7 + (1 : Int32)))), (0, .ref (g.2.2 100)), (4, .int (a4)), (5, .int (a5)), (6, .int (a6))]) hx hb dX12_looks_429 hl (k := 4) rfl rfl (by decide) rfl (fun ls hl => ?_)
  refine lv_goto (tgt := 116) hx hb dX12_looks_432 (by decide) ?_
  have j432_h7 : a5.toInt ≤ (a7 + (1 : Int32)).toInt ∧ (a7 + (1 : Int32)).toInt ≤ a5.toInt + a4.toInt := by
    have : ((1 : Int32)).toInt = 1 := by decide
    try have := ti_add (a := a7) (b := (1 : Int32)) (by omega) (by omega)
    omega
  have j432_hcv : cv (σ 1) (a5.toInt + a4.toInt - (a7 + (1 : Int32)).toInt).toNat (ix (a7 + (1 : Int32))) a6.toInt.toNat := cv_next (by omega) (by omega) hcv
  have j432_m : (a5.toInt + a4.toInt - (a7 + (1 : Int32)).toInt).toNat < N116 := by
    have : ((1 : Int32)).toInt = 1 := by decide
    try have := ti_add (a := a7) (b := (1 : Int32)) (by omega) (by omega)
    omega
  exact hK116 σ a4 a5 a6 (a7 + (1 : Int32)) hI h5 h4 h6 j432_h7 j432_hcv j432_m hK hC (lv_sub hl [1, 2, 3, 4, 0] rfl) hT
def f_X12_looks_116 (K116 : St → Int32 → Int32 → Int32 → Int32 → St) (σ : St) (a4 : Int32) (a5 : Int32) (a6 : Int32) (a7 : Int32) : St := (if (a5 + a4) ≤ a7 then σ else (if (σ 1 (ix a7)) < 0 then (if (σ 1 (ix a7)) = (-1 : Int32) then (f_X12_looks_429 K116 (up2 σ 10 (ix (a6 - (1 : Int32))) (if (σ 10 (ix (a6 - (1 : Int32)))) = 0 then (1 : Int32) else (0 : Int32))) a4 a5 a6 a7) else (if (σ 1 (ix a7)) ≤ (-10 : Int32) then (f_X12_looks_429 K116 (up2 (up2 σ 11 0 ((σ 11 0) + (if (σ 10 0) = 0 then (0 : Int32) else (if (σ 1 (ix a7)) ≤ (-200 : Int32) then (0 : Int32) else ((-10 : Int32) - (σ 1 (ix a7))))))) 12 0 ((σ 12 0) + (if (σ 10 0) = 0 then (0 : Int32) else (if (-200 : Int32) < (σ 1 (ix a7)) then (0 : Int32) else ((-200 : Int32) - (σ 1 (ix a7))))))) a4 a5 (0 : Int32) a7) else (f_X12_looks_429 K116 (up2 σ 10 (ix ((a6 - (1 : Int32)) - (1 : Int32))) (if (σ 1 (ix a7)) = (-2 : Int32) then (if (σ 10 (ix ((a6 - (1 : Int32)) - (1 : Int32)))) = 0 then (0 : Int32) else (if (σ 10 (ix (a6 - (1 : Int32)))) = 0 then (0 : Int32) else (1 : Int32))) else (if (σ 10 (ix ((a6 - (1 : Int32)) - (1 : Int32)))) = 0 then (if (σ 10 (ix (a6 - (1 : Int32)))) = 0 then (0 : Int32) else (1 : Int32)) else (1 : Int32)))) a4 a5 (a6 - (1 : Int32)) a7))) else (f_X12_looks_429 K116 (up2 σ 10 (ix a6) (if (((σ 1 (ix a7)) / (8 : Int32)) - ((σ 1 (ix a7)) / (8 : Int32)) / (4 : Int32) * (4 : Int32)) = 0 then (if ((σ 1 (ix a7)) / (32 : Int32)) ≤ (σ 9 (ix ((σ 1 (ix a7)) - (σ 1 (ix a7)) / (8 : Int32) * (8 : Int32)))) then (0 : Int32) else (1 : Int32)) else (if (((σ 1 (ix a7)) / (8 : Int32)) - ((σ 1 (ix a7)) / (8 : Int32)) / (4 : Int32) * (4 : Int32)) = (1 : Int32) then (if (σ 9 (ix ((σ 1 (ix a7)) - (σ 1 (ix a7)) / (8 : Int32) * (8 : Int32)))) = ((σ 1 (ix a7)) / (32 : Int32)) then (1 : Int32) else (0 : Int32)) else (if (σ 9 (ix ((σ 1 (ix a7)) - (σ 1 (ix a7)) / (8 : Int32) * (8 : Int32)))) ≤ ((σ 1 (ix a7)) / (32 : Int32)) then (0 : Int32) else (1 : Int32))))) a4 a5 (a6 + (1 : Int32)) a7)))
set_option maxHeartbeats 600000 in
set_option maxRecDepth 100000 in
theorem b_X12_looks_116 {g : GG} {p : Program} {l : Launch} {e : Env} {s : State} {m : MethodId} {args : Array Value} {below : List Frame} {meth : Method} {c : Code} {A : Nat → Prop} {tgt : St} {K116 : St → Int32 → Int32 → Int32 → Int32 → St} {N116 : Nat} (C0 : BC p s m args meth c cX12_looks RX12 12 none) (hK116 : ∀ (σ : St) (a4 : Int32) (a5 : Int32) (a6 : Int32) (a7 : Int32), (IB (σ 1)) → (0 ≤ a5.toInt ∧ a5.toInt ≤ 776) → (0 ≤ a4.toInt ∧ a4.toInt ≤ 140) → (0 ≤ a6.toInt ∧ a6.toInt ≤ 60) → (a5.toInt ≤ a7.toInt ∧ a7.toInt ≤ a5.toInt + a4.toInt) → (cv (σ 1) (a5.toInt + a4.toInt - a7.toInt).toNat (ix a7) a6.toInt.toNat) → (a5.toInt + a4.toInt - a7.toInt).toNat < N116 → ∀ {H : Heap} {locs : List Loc}, KK g s → WC g (mW g) A s.heap σ H locs → ∀ {ls : Array Slot}, lv_has ls 12 [(0, .ref (g.2.2 100)), (4, .int (a4)), (5, .int (a5)), (6, .int (a6)), (7, .int (a7))] → K116 σ a4 a5 a6 a7 = tgt → W p l e { frames := 1, cells := 0, slots := 0, locals := 22 } s m args below meth c H locs 0 0 (QMV below args s g (mW g) A tgt) (F0 m 116 ls [])) {σ : St} {a4 : Int32} {a5 : Int32} {a6 : Int32} {a7 : Int32} {H : Heap} {locs : List Loc} (hI : IB (σ 1)) (h5 : 0 ≤ a5.toInt ∧ a5.toInt ≤ 776) (h4 : 0 ≤ a4.toInt ∧ a4.toInt ≤ 140) (h6 : 0 ≤ a6.toInt ∧ a6.toInt ≤ 60) (h7 : a5.toInt ≤ a7.toInt ∧ a7.toInt ≤ a5.toInt + a4.toInt) (hcv : cv (σ 1) (a5.toInt + a4.toInt - a7.toInt).toNat (ix a7) a6.toInt.toNat) (hm : (a5.toInt + a4.toInt - a7.toInt).toNat < N116 + 1) (hK : KK g s) (hC : WC g (mW g) A s.heap σ H locs) {ls : Array Slot} (hl : lv_has ls 12 [(0, .ref (g.2.2 100)), (4, .int (a4)), (5, .int (a5)), (6, .int (a6)), (7, .int (a7))]) (hT : f_X12_looks_116 K116 σ a4 a5 a6 a7 = tgt) : W p l e { frames := 1, cells := 0, slots := 0, locals := 22 } s m args below meth c H locs 0 0 (QMV below args s g (mW g) A tgt) (F0 m 116 ls []) := by
  obtain ⟨hx, hb, hr, hml, hown, hts, hlocks⟩ := id C0
  unfold f_X12_looks_116 at hT
  obtain ⟨⟨i0, i0'⟩, ⟨i1, i1'⟩, ⟨i2, i2'⟩, ⟨i3, i3'⟩, ⟨i4, i4'⟩, ⟨i5, i5'⟩, ⟨i6, i6'⟩, ⟨i7, i7'⟩, ⟨i8, i8'⟩, iK, iV, iL, iR, iW, iY, iG, iM, iB, iQ, iP, iT, iU⟩ := id hI
  refine lv_iload hx hb dX12_looks_116 (lv_at hl 4 rfl) ?_
  refine lv_iload hx hb dX12_looks_118 (lv_at hl 2 rfl) ?_
  refine lv_iload hx hb dX12_looks_120 (lv_at hl 1 rfl) ?_
  refine lv_iadd hx hb dX12_looks_122 ?_
  refine lv_icmp_ge (tgt := 435) hx hb dX12_looks_123 (by decide) (fun c_123 => ?_) (fun c_123 => ?_)
  · have hT := hT_pos c_123 hT
    exact ret_MV C0 hC hT dX12_looks_435
  · have hT := hT_neg c_123 hT
    refine lv_aload_n hx hb dX12_looks_126 rfl (lv_at hl 0 rfl) ?_
    refine m_get (σ := σ) (v := .ref (g.2.2 1)) C0 hK hC.1 1 (by decide) rfl w_968 dX12_looks_127 ?_
    refine lv_iload hx hb dX12_looks_130 (lv_at hl 4 rfl) ?_
    have o_132 : vp_in a7 916 := by
      have := mt ti_le.mpr c_123
      try have := ti_add (a := a5) (b := a4) (by omega) (by omega)
      exact vin (by omega) (by omega)
    refine m_ald (σ := σ) C0 hK hC.1 1 1 916 rfl o_132 (ix a7) rfl dX12_looks_132 ?_
    refine lv_istore (lv' := [(8, .int ((σ 1 (ix a7)))), (0, .ref (g.2.2 100)), (4, .int (a4)), (5, .int (a5)), (6, .int (a6)), (7, .int (a7))]) hx hb dX12_looks_133 hl (by decide) rfl (fun ls hl => ?_)
    have q9 := mt ti_le.mpr c_123
    have q8 := ti_add (a := a5) (b := a4) (by omega) (by omega)
    have hst := cv_step (by omega) hcv
    refine lv_iload hx hb dX12_looks_135 (lv_at hl 0 rfl) ?_
    refine lv_if_lt (tgt := 234) hx hb dX12_looks_137 (by decide) (fun c_137 => ?_) (fun c_137 => ?_)
    · have hT := hT_pos c_137 hT
      rw [if_pos c_137] at hst
      refine lv_iload hx hb dX12_looks_234 (lv_at hl 0 rfl) ?_
      refine lv_iconst (v := (-1 : Int32)) hx hb dX12_looks_236 (by decide) ?_
      refine lv_icmp_ne (tgt := 269) hx hb dX12_looks_237 (by decide) (fun c_237 => ?_) (fun c_237 => ?_)
      · have hT := hT_neg c_237 hT
        rw [if_neg c_237] at hst
        refine lv_iload hx hb dX12_looks_269 (lv_at hl 0 rfl) ?_
        refine lv_bipush (v := (-10 : Int32)) hx hb dX12_looks_271 (by decide) ?_
        refine lv_icmp_le (tgt := 355) hx hb dX12_looks_273 (by decide) (fun c_273 => ?_) (fun c_273 => ?_)
        · have hT := hT_pos c_273 hT
          rw [if_pos c_273] at hst
          refine lv_iconst (v := (0 : Int32)) hx hb dX12_looks_355 (by decide) ?_
          refine lv_istore (lv' := [(6, .int ((0 : Int32))), (8, .int ((σ 1 (ix a7)))), (0, .ref (g.2.2 100)), (4, .int (a4)), (5, .int (a5)), (7, .int (a7))]) hx hb dX12_looks_356 hl (by decide) rfl (fun ls hl => ?_)
          refine lv_aload_n hx hb dX12_looks_358 rfl (lv_at hl 2 rfl) ?_
          refine m_get (σ := σ) (v := .ref (g.2.2 10)) C0 hK hC.1 10 (by decide) rfl w_977 dX12_looks_359 ?_
          refine lv_iconst (v := (0 : Int32)) hx hb dX12_looks_362 (by decide) ?_
          refine m_zld (σ := σ) C0 hK hC.1 4 10 64 rfl (vin_l (by decide)) 0 (by decide) dX12_looks_363 ?_
          refine lv_istore (lv' := [(9, .int ((σ 10 0))), (6, .int ((0 : Int32))), (8, .int ((σ 1 (ix a7)))), (0, .ref (g.2.2 100)), (4, .int (a4)), (5, .int (a5)), (7, .int (a7))]) hx hb dX12_looks_364 hl (by decide) rfl (fun ls hl => ?_)
          refine lv_aload_n hx hb dX12_looks_366 rfl (lv_at hl 3 rfl) ?_
          refine lv_dup hx hb dX12_looks_367 rfl ?_
          refine m_get (σ := σ) (v := .int ((σ 11 0))) C0 hK hC.1 11 (by decide) rfl w_978 dX12_looks_368 ?_
          refine lv_iload hx hb dX12_looks_371 (lv_at hl 0 rfl) ?_
          have J373 : ∀ v : Int32, v = (if (σ 10 0) = 0 then (0 : Int32) else (if (σ 1 (ix a7)) ≤ (-200 : Int32) then (0 : Int32) else ((-10 : Int32) - (σ 1 (ix a7))))) → W p l e { frames := 1, cells := 0, slots := 0, locals := 22 } s m args below meth c H locs 0 0 (QMV below args s g (mW g) A tgt) (F0 m 393 ls [.int (v), .int ((σ 11 0)), .ref (g.2.2 100)]) := by
            intro v ev
            subst ev
            refine lv_iadd hx hb dX12_looks_393 ?_
            refine m_put (σ := σ) (ty := .int) C0 hK hC 11 (by decide) rfl rfl rfl rfl (ms_11 g _ _) w_978 dX12_looks_394 (fun H locs hC => ?_)
            refine lv_aload_n hx hb dX12_looks_397 rfl (lv_at hl 3 rfl) ?_
            refine lv_dup hx hb dX12_looks_398 rfl ?_
            refine m_get (σ := (up2 σ 11 0 ((σ 11 0) + (if (σ 10 0) = 0 then (0 : Int32) else (if (σ 1 (ix a7)) ≤ (-200 : Int32) then (0 : Int32) else ((-10 : Int32) - (σ 1 (ix a7)))))))) (v := .int ((σ 12 0))) C0 hK hC.1 12 (by decide) rfl w_979 dX12_looks_399 ?_
            refine lv_iload hx hb dX12_looks_402 (lv_at hl 0 rfl) ?_
            have J404 : ∀ v : Int32, v = (if (σ 10 0) = 0 then (0 : Int32) else (if (-200 : Int32) < (σ 1 (ix a7)) then (0 : Int32) else ((-200 : Int32) - (σ 1 (ix a7))))) → W p l e { frames := 1, cells := 0, slots := 0, locals := 22 } s m args below meth c H locs 0 0 (QMV below args s g (mW g) A tgt) (F0 m 425 ls [.int (v), .int ((σ 12 0)), .ref (g.2.2 100)]) := by
              intro v ev
              subst ev
              refine lv_iadd hx hb dX12_looks_425 ?_
              refine m_put (σ := (up2 σ 11 0 ((σ 11 0) + (if (σ 10 0) = 0 then (0 : Int32) else (if (σ 1 (ix a7)) ≤ (-200 : Int32) then (0 : Int32) else ((-10 : Int32) - (σ 1 (ix a7)))))))) (ty := .int) C0 hK hC 12 (by decide) rfl rfl rfl rfl (ms_12 g _ _) w_979 dX12_looks_426 (fun H locs hC => ?_)
              have j426_h6 : 0 ≤ (0 : Int32).toInt ∧ (0 : Int32).toInt ≤ 60 := by
                have : ((0 : Int32)).toInt = 0 := by decide
                have : ((-1 : Int32)).toInt = -1 := by decide
                have : ((-10 : Int32)).toInt = -10 := by decide
                have := mt ti_le.mpr c_123
                have := ti_lt.mp c_137
                have := mt ti_eq.mpr c_237
                have := ti_le.mp c_273
                try have := ti_add (a := a5) (b := a4) (by omega) (by omega)
                omega
              have j426_h7 : a5.toInt ≤ a7.toInt ∧ a7.toInt < a5.toInt + a4.toInt := by
                have : ((0 : Int32)).toInt = 0 := by decide
                have : ((-1 : Int32)).toInt = -1 := by decide
                have : ((-10 : Int32)).toInt = -10 := by decide
                have := mt ti_le.mpr c_123
                have := ti_lt.mp c_137
                have := mt ti_eq.mpr c_237
                have := ti_le.mp c_273
                try have := ti_add (a := a5) (b := a4) (by omega) (by omega)
                omega
              have j426_hcv : cv (σ 1) (a5.toInt + a4.toInt - a7.toInt - 1).toNat (ix a7 + 1) (0 : Int32).toInt.toNat := hst
              have j426_hm116 : (a5.toInt + a4.toInt - a7.toInt).toNat < N116 + 1 := by
                have : ((0 : Int32)).toInt = 0 := by decide
                have : ((-1 : Int32)).toInt = -1 := by decide
                have : ((-10 : Int32)).toInt = -10 := by decide
                have := mt ti_le.mpr c_123
                have := ti_lt.mp c_137
                have := mt ti_eq.mpr c_237
                have := ti_le.mp c_273
                try have := ti_add (a := a5) (b := a4) (by omega) (by omega)
                omega
              exact b_X12_looks_429  (σ := (up2 (up2 σ 11 0 ((σ 11 0) + (if (σ 10 0) = 0 then (0 : Int32) else (if (σ 1 (ix a7)) ≤ (-200 : Int32) then (0 : Int32) else ((-10 : Int32) - (σ 1 (ix a7))))))) 12 0 ((σ 12 0) + (if (σ 10 0) = 0 then (0 : Int32) else (if (-200 : Int32) < (σ 1 (ix a7)) then (0 : Int32) else ((-200 : Int32) - (σ 1 (ix a7)))))))) (a4 := a4) (a5 := a5) (a6 := (0 : Int32)) (a7 := a7) C0 hK116 hI h5 h4 j426_h6 j426_h7 j426_hcv j426_hm116 hK hC (lv_sub hl [3, 4, 5, 1, 6] rfl) hT
            refine lv_if_eq (tgt := 424) hx hb dX12_looks_404 (by decide) (fun c_404 => ?_) (fun c_404 => ?_)
            · refine lv_iconst (v := (0 : Int32)) hx hb dX12_looks_424 (by decide) ?_
              exact J404 _ (iv_pos c_404 rfl)
            · refine lv_iload hx hb dX12_looks_407 (lv_at hl 2 rfl) ?_
              refine lv_sipush (v := (-200 : Int32)) hx hb dX12_looks_409 (by decide) ?_
              refine lv_icmp_gt (tgt := 424) hx hb dX12_looks_412 (by decide) (fun c_412 => ?_) (fun c_412 => ?_)
              · refine lv_iconst (v := (0 : Int32)) hx hb dX12_looks_424 (by decide) ?_
                exact J404 _ (iv_neg c_404 (iv_pos c_412 rfl))
              · refine lv_sipush (v := (-200 : Int32)) hx hb dX12_looks_415 (by decide) ?_
                refine lv_iload hx hb dX12_looks_418 (lv_at hl 2 rfl) ?_
                refine lv_isub hx hb dX12_looks_420 ?_
                refine lv_goto (tgt := 425) hx hb dX12_looks_421 (by decide) ?_
                exact J404 _ (iv_neg c_404 (iv_neg c_412 rfl))
          refine lv_if_eq (tgt := 392) hx hb dX12_looks_373 (by decide) (fun c_373 => ?_) (fun c_373 => ?_)
          · refine lv_iconst (v := (0 : Int32)) hx hb dX12_looks_392 (by decide) ?_
            exact J373 _ (iv_pos c_373 rfl)
          · refine lv_iload hx hb dX12_looks_376 (lv_at hl 2 rfl) ?_
            refine lv_sipush (v := (-200 : Int32)) hx hb dX12_looks_378 (by decide) ?_
            refine lv_icmp_le (tgt := 392) hx hb dX12_looks_381 (by decide) (fun c_381 => ?_) (fun c_381 => ?_)
            · refine lv_iconst (v := (0 : Int32)) hx hb dX12_looks_392 (by decide) ?_
              exact J373 _ (iv_neg c_373 (iv_pos c_381 rfl))
            · refine lv_bipush (v := (-10 : Int32)) hx hb dX12_looks_384 (by decide) ?_
              refine lv_iload hx hb dX12_looks_386 (lv_at hl 2 rfl) ?_
              refine lv_isub hx hb dX12_looks_388 ?_
              refine lv_goto (tgt := 393) hx hb dX12_looks_389 (by decide) ?_
              exact J373 _ (iv_neg c_373 (iv_neg c_381 rfl))
        · have hT := hT_neg c_273 hT
          rw [if_neg c_273] at hst
          obtain ⟨s1, s2⟩ := hst
          refine lv_iinc (v := (a6 - (1 : Int32))) (lv' := [(6, .int ((a6 - (1 : Int32)))), (8, .int ((σ 1 (ix a7)))), (0, .ref (g.2.2 100)), (4, .int (a4)), (5, .int (a5)), (7, .int (a7))]) hx hb dX12_looks_276 hl (k := 4) rfl (iinc_m1 _) (by decide) rfl (fun ls hl => ?_)
          refine lv_aload_n hx hb dX12_looks_279 rfl (lv_at hl 2 rfl) ?_
          refine m_get (σ := σ) (v := .ref (g.2.2 10)) C0 hK hC.1 10 (by decide) rfl w_977 dX12_looks_280 ?_
          refine lv_iload hx hb dX12_looks_283 (lv_at hl 0 rfl) ?_
          refine lv_iconst (v := (1 : Int32)) hx hb dX12_looks_285 (by decide) ?_
          refine lv_isub hx hb dX12_looks_286 ?_
          refine lv_iload hx hb dX12_looks_287 (lv_at hl 1 rfl) ?_
          refine lv_bipush (v := (-2 : Int32)) hx hb dX12_looks_289 (by decide) ?_
          have J291 : ∀ v : Int32, v = (if (σ 1 (ix a7)) = (-2 : Int32) then (if (σ 10 (ix ((a6 - (1 : Int32)) - (1 : Int32)))) = 0 then (0 : Int32) else (if (σ 10 (ix (a6 - (1 : Int32)))) = 0 then (0 : Int32) else (1 : Int32))) else (if (σ 10 (ix ((a6 - (1 : Int32)) - (1 : Int32)))) = 0 then (if (σ 10 (ix (a6 - (1 : Int32)))) = 0 then (0 : Int32) else (1 : Int32)) else (1 : Int32))) → W p l e { frames := 1, cells := 0, slots := 0, locals := 22 } s m args below meth c H locs 0 0 (QMV below args s g (mW g) A tgt) (F0 m 351 ls [.int (v), .int (((a6 - (1 : Int32)) - (1 : Int32))), .ref (g.2.2 10)]) := by
            intro v ev
            subst ev
            have o_351 : vp_in ((a6 - (1 : Int32)) - (1 : Int32)) 64 := by
              have : ((0 : Int32)).toInt = 0 := by decide
              have : ((-1 : Int32)).toInt = -1 := by decide
              have : ((-10 : Int32)).toInt = -10 := by decide
              have : ((1 : Int32)).toInt = 1 := by decide
              have := mt ti_le.mpr c_123
              have := ti_lt.mp c_137
              have := mt ti_eq.mpr c_237
              have := mt ti_le.mpr c_273
              try have := ti_add (a := a5) (b := a4) (by omega) (by omega)
              try have := ti_sub (a := a6) (b := (1 : Int32)) (by omega) (by omega)
              try have := ti_sub (a := (a6 - (1 : Int32))) (b := (1 : Int32)) (by omega) (by omega)
              exact vin (by omega) (by omega)
            refine m_zst (σ := σ) C0 hK hC 4 10 64 rfl (ms_10 g _) o_351 (ix ((a6 - (1 : Int32)) - (1 : Int32))) rfl (nr_of (by (repeat' split) <;> simp)) dX12_looks_351 (fun H locs hC => ?_)
            refine lv_goto (tgt := 429) hx hb dX12_looks_352 (by decide) ?_
            have j352_h6 : 0 ≤ (a6 - (1 : Int32)).toInt ∧ (a6 - (1 : Int32)).toInt ≤ 60 := by
              have : ((0 : Int32)).toInt = 0 := by decide
              have : ((-1 : Int32)).toInt = -1 := by decide
              have : ((-10 : Int32)).toInt = -10 := by decide
              have : ((1 : Int32)).toInt = 1 := by decide
              have := mt ti_le.mpr c_123
              have := ti_lt.mp c_137
              have := mt ti_eq.mpr c_237
              have := mt ti_le.mpr c_273
              try have := ti_add (a := a5) (b := a4) (by omega) (by omega)
              try have := ti_sub (a := a6) (b := (1 : Int32)) (by omega) (by omega)
              omega
            have j352_h7 : a5.toInt ≤ a7.toInt ∧ a7.toInt < a5.toInt + a4.toInt := by
              have : ((0 : Int32)).toInt = 0 := by decide
              have : ((-1 : Int32)).toInt = -1 := by decide
              have : ((-10 : Int32)).toInt = -10 := by decide
              have : ((1 : Int32)).toInt = 1 := by decide
              have := mt ti_le.mpr c_123
              have := ti_lt.mp c_137
              have := mt ti_eq.mpr c_237
              have := mt ti_le.mpr c_273
              try have := ti_add (a := a5) (b := a4) (by omega) (by omega)
              try have := ti_sub (a := a6) (b := (1 : Int32)) (by omega) (by omega)
              omega
            have j352_hcv : cv (σ 1) (a5.toInt + a4.toInt - a7.toInt - 1).toNat (ix a7 + 1) (a6 - (1 : Int32)).toInt.toNat := (by rw [tnm (by omega)]; exact s2)
            have j352_hm116 : (a5.toInt + a4.toInt - a7.toInt).toNat < N116 + 1 := by
              have : ((0 : Int32)).toInt = 0 := by decide
              have : ((-1 : Int32)).toInt = -1 := by decide
              have : ((-10 : Int32)).toInt = -10 := by decide
              have : ((1 : Int32)).toInt = 1 := by decide
              have := mt ti_le.mpr c_123
              have := ti_lt.mp c_137
              have := mt ti_eq.mpr c_237
              have := mt ti_le.mpr c_273
              try have := ti_add (a := a5) (b := a4) (by omega) (by omega)
              try have := ti_sub (a := a6) (b := (1 : Int32)) (by omega) (by omega)
              omega
            exact b_X12_looks_429  (σ := (up2 σ 10 (ix ((a6 - (1 : Int32)) - (1 : Int32))) (if (σ 1 (ix a7)) = (-2 : Int32) then (if (σ 10 (ix ((a6 - (1 : Int32)) - (1 : Int32)))) = 0 then (0 : Int32) else (if (σ 10 (ix (a6 - (1 : Int32)))) = 0 then (0 : Int32) else (1 : Int32))) else (if (σ 10 (ix ((a6 - (1 : Int32)) - (1 : Int32)))) = 0 then (if (σ 10 (ix (a6 - (1 : Int32)))) = 0 then (0 : Int32) else (1 : Int32)) else (1 : Int32))))) (a4 := a4) (a5 := a5) (a6 := (a6 - (1 : Int32))) (a7 := a7) C0 hK116 hI h5 h4 j352_h6 j352_h7 j352_hcv j352_hm116 hK hC (lv_sub hl [2, 3, 4, 0, 5] rfl) hT
          refine lv_icmp_ne (tgt := 324) hx hb dX12_looks_291 (by decide) (fun c_291 => ?_) (fun c_291 => ?_)
          · refine lv_aload_n hx hb dX12_looks_324 rfl (lv_at hl 2 rfl) ?_
            refine m_get (σ := σ) (v := .ref (g.2.2 10)) C0 hK hC.1 10 (by decide) rfl w_977 dX12_looks_325 ?_
            refine lv_iload hx hb dX12_looks_328 (lv_at hl 0 rfl) ?_
            refine lv_iconst (v := (1 : Int32)) hx hb dX12_looks_330 (by decide) ?_
            refine lv_isub hx hb dX12_looks_331 ?_
            have o_332 : vp_in ((a6 - (1 : Int32)) - (1 : Int32)) 64 := by
              have : ((0 : Int32)).toInt = 0 := by decide
              have : ((-1 : Int32)).toInt = -1 := by decide
              have : ((-10 : Int32)).toInt = -10 := by decide
              have : ((-2 : Int32)).toInt = -2 := by decide
              have : ((1 : Int32)).toInt = 1 := by decide
              have := mt ti_le.mpr c_123
              have := ti_lt.mp c_137
              have := mt ti_eq.mpr c_237
              have := mt ti_le.mpr c_273
              have := mt ti_eq.mpr c_291
              try have := ti_add (a := a5) (b := a4) (by omega) (by omega)
              try have := ti_sub (a := a6) (b := (1 : Int32)) (by omega) (by omega)
              try have := ti_sub (a := (a6 - (1 : Int32))) (b := (1 : Int32)) (by omega) (by omega)
              exact vin (by omega) (by omega)
            refine m_zld (σ := σ) C0 hK hC.1 4 10 64 rfl o_332 (ix ((a6 - (1 : Int32)) - (1 : Int32))) rfl dX12_looks_332 ?_
            refine lv_if_ne (tgt := 346) hx hb dX12_looks_333 (by decide) (fun c_333 => ?_) (fun c_333 => ?_)
            · refine lv_iconst (v := (1 : Int32)) hx hb dX12_looks_346 (by decide) ?_
              refine lv_goto (tgt := 351) hx hb dX12_looks_347 (by decide) ?_
              exact J291 _ (iv_neg c_291 (iv_neg c_333 rfl))
            · refine lv_aload_n hx hb dX12_looks_336 rfl (lv_at hl 2 rfl) ?_
              refine m_get (σ := σ) (v := .ref (g.2.2 10)) C0 hK hC.1 10 (by decide) rfl w_977 dX12_looks_337 ?_
              refine lv_iload hx hb dX12_looks_340 (lv_at hl 0 rfl) ?_
              have o_342 : vp_in (a6 - (1 : Int32)) 64 := by
                have : ((0 : Int32)).toInt = 0 := by decide
                have : ((-1 : Int32)).toInt = -1 := by decide
                have : ((-10 : Int32)).toInt = -10 := by decide
                have : ((-2 : Int32)).toInt = -2 := by decide
                have : ((1 : Int32)).toInt = 1 := by decide
                have := mt ti_le.mpr c_123
                have := ti_lt.mp c_137
                have := mt ti_eq.mpr c_237
                have := mt ti_le.mpr c_273
                have := mt ti_eq.mpr c_291
                have := ti_eq.mp c_333
                try have := ti_add (a := a5) (b := a4) (by omega) (by omega)
                try have := ti_sub (a := a6) (b := (1 : Int32)) (by omega) (by omega)
                exact vin (by omega) (by omega)
              refine m_zld (σ := σ) C0 hK hC.1 4 10 64 rfl o_342 (ix (a6 - (1 : Int32))) rfl dX12_looks_342 ?_
              refine lv_if_eq (tgt := 350) hx hb dX12_looks_343 (by decide) (fun c_343 => ?_) (fun c_343 => ?_)
              · refine lv_iconst (v := (0 : Int32)) hx hb dX12_looks_350 (by decide) ?_
                exact J291 _ (iv_neg c_291 (iv_pos c_333 (iv_pos c_343 rfl)))
              · refine lv_iconst (v := (1 : Int32)) hx hb dX12_looks_346 (by decide) ?_
                refine lv_goto (tgt := 351) hx hb dX12_looks_347 (by decide) ?_
                exact J291 _ (iv_neg c_291 (iv_pos c_333 (iv_neg c_343 rfl)))
          · refine lv_aload_n hx hb dX12_looks_294 rfl (lv_at hl 2 rfl) ?_
            refine m_get (σ := σ) (v := .ref (g.2.2 10)) C0 hK hC.1 10 (by decide) rfl w_977 dX12_looks_295 ?_
            refine lv_iload hx hb dX12_looks_298 (lv_at hl 0 rfl) ?_
            refine lv_iconst (v := (1 : Int32)) hx hb dX12_looks_300 (by decide) ?_
            refine lv_isub hx hb dX12_looks_301 ?_
            have o_302 : vp_in ((a6 - (1 : Int32)) - (1 : Int32)) 64 := by
              have : ((0 : Int32)).toInt = 0 := by decide
              have : ((-1 : Int32)).toInt = -1 := by decide
              have : ((-10 : Int32)).toInt = -10 := by decide
              have : ((-2 : Int32)).toInt = -2 := by decide
              have : ((1 : Int32)).toInt = 1 := by decide
              have := mt ti_le.mpr c_123
              have := ti_lt.mp c_137
              have := mt ti_eq.mpr c_237
              have := mt ti_le.mpr c_273
              have := ti_eq.mp c_291
              try have := ti_add (a := a5) (b := a4) (by omega) (by omega)
              try have := ti_sub (a := a6) (b := (1 : Int32)) (by omega) (by omega)
              try have := ti_sub (a := (a6 - (1 : Int32))) (b := (1 : Int32)) (by omega) (by omega)
              exact vin (by omega) (by omega)
            refine m_zld (σ := σ) C0 hK hC.1 4 10 64 rfl o_302 (ix ((a6 - (1 : Int32)) - (1 : Int32))) rfl dX12_looks_302 ?_
            refine lv_if_eq (tgt := 320) hx hb dX12_looks_303 (by decide) (fun c_303 => ?_) (fun c_303 => ?_)
            · refine lv_iconst (v := (0 : Int32)) hx hb dX12_looks_320 (by decide) ?_
              refine lv_goto (tgt := 351) hx hb dX12_looks_321 (by decide) ?_
              exact J291 _ (iv_pos c_291 (iv_pos c_303 rfl))
            · refine lv_aload_n hx hb dX12_looks_306 rfl (lv_at hl 2 rfl) ?_
              refine m_get (σ := σ) (v := .ref (g.2.2 10)) C0 hK hC.1 10 (by decide) rfl w_977 dX12_looks_307 ?_
              refine lv_iload hx hb dX12_looks_310 (lv_at hl 0 rfl) ?_
              have o_312 : vp_in (a6 - (1 : Int32)) 64 := by
                have : ((0 : Int32)).toInt = 0 := by decide
                have : ((-1 : Int32)).toInt = -1 := by decide
                have : ((-10 : Int32)).toInt = -10 := by decide
                have : ((-2 : Int32)).toInt = -2 := by decide
                have : ((1 : Int32)).toInt = 1 := by decide
                have := mt ti_le.mpr c_123
                have := ti_lt.mp c_137
                have := mt ti_eq.mpr c_237
                have := mt ti_le.mpr c_273
                have := ti_eq.mp c_291
                have := mt ti_eq.mpr c_303
                try have := ti_add (a := a5) (b := a4) (by omega) (by omega)
                try have := ti_sub (a := a6) (b := (1 : Int32)) (by omega) (by omega)
                exact vin (by omega) (by omega)
              refine m_zld (σ := σ) C0 hK hC.1 4 10 64 rfl o_312 (ix (a6 - (1 : Int32))) rfl dX12_looks_312 ?_
              refine lv_if_eq (tgt := 320) hx hb dX12_looks_313 (by decide) (fun c_313 => ?_) (fun c_313 => ?_)
              · refine lv_iconst (v := (0 : Int32)) hx hb dX12_looks_320 (by decide) ?_
                refine lv_goto (tgt := 351) hx hb dX12_looks_321 (by decide) ?_
                exact J291 _ (iv_pos c_291 (iv_neg c_303 (iv_pos c_313 rfl)))
              · refine lv_iconst (v := (1 : Int32)) hx hb dX12_looks_316 (by decide) ?_
                refine lv_goto (tgt := 351) hx hb dX12_looks_317 (by decide) ?_
                exact J291 _ (iv_pos c_291 (iv_neg c_303 (iv_neg c_313 rfl)))
      · have hT := hT_pos c_237 hT
        rw [if_pos c_237] at hst
        obtain ⟨s1, s2⟩ := hst
        refine lv_aload_n hx hb dX12_looks_240 rfl (lv_at hl 1 rfl) ?_
        refine m_get (σ := σ) (v := .ref (g.2.2 10)) C0 hK hC.1 10 (by decide) rfl w_977 dX12_looks_241 ?_
        refine lv_iload hx hb dX12_looks_244 (lv_at hl 4 rfl) ?_
        refine lv_iconst (v := (1 : Int32)) hx hb dX12_looks_246 (by decide) ?_
        refine lv_isub hx hb dX12_looks_247 ?_
        refine lv_aload_n hx hb dX12_looks_248 rfl (lv_at hl 1 rfl) ?_
        refine m_get (σ := σ) (v := .ref (g.2.2 10)) C0 hK hC.1 10 (by decide) rfl w_977 dX12_looks_249 ?_
        refine lv_iload hx hb dX12_looks_252 (lv_at hl 4 rfl) ?_
        refine lv_iconst (v := (1 : Int32)) hx hb dX12_looks_254 (by decide) ?_
        refine lv_isub hx hb dX12_looks_255 ?_
        have o_256 : vp_in (a6 - (1 : Int32)) 64 := by
          have : ((0 : Int32)).toInt = 0 := by decide
          have : ((-1 : Int32)).toInt = -1 := by decide
          have : ((1 : Int32)).toInt = 1 := by decide
          have := mt ti_le.mpr c_123
          have := ti_lt.mp c_137
          have := ti_eq.mp c_237
          try have := ti_add (a := a5) (b := a4) (by omega) (by omega)
          try have := ti_sub (a := a6) (b := (1 : Int32)) (by omega) (by omega)
          exact vin (by omega) (by omega)
        refine m_zld (σ := σ) C0 hK hC.1 4 10 64 rfl o_256 (ix (a6 - (1 : Int32))) rfl dX12_looks_256 ?_
        have J257 : ∀ v : Int32, v = (if (σ 10 (ix (a6 - (1 : Int32)))) = 0 then (1 : Int32) else (0 : Int32)) → W p l e { frames := 1, cells := 0, slots := 0, locals := 22 } s m args below meth c H locs 0 0 (QMV below args s g (mW g) A tgt) (F0 m 265 ls [.int (v), .int ((a6 - (1 : Int32))), .ref (g.2.2 10)]) := by
          intro v ev
          subst ev
          have o_265 : vp_in (a6 - (1 : Int32)) 64 := by
            have : ((0 : Int32)).toInt = 0 := by decide
            have : ((-1 : Int32)).toInt = -1 := by decide
            have : ((1 : Int32)).toInt = 1 := by decide
            have := mt ti_le.mpr c_123
            have := ti_lt.mp c_137
            have := ti_eq.mp c_237
            try have := ti_add (a := a5) (b := a4) (by omega) (by omega)
            try have := ti_sub (a := a6) (b := (1 : Int32)) (by omega) (by omega)
            exact vin (by omega) (by omega)
          refine m_zst (σ := σ) C0 hK hC 4 10 64 rfl (ms_10 g _) o_265 (ix (a6 - (1 : Int32))) rfl (nr_of (by (repeat' split) <;> simp)) dX12_looks_265 (fun H locs hC => ?_)
          refine lv_goto (tgt := 429) hx hb dX12_looks_266 (by decide) ?_
          have j266_h7 : a5.toInt ≤ a7.toInt ∧ a7.toInt < a5.toInt + a4.toInt := by
            have : ((0 : Int32)).toInt = 0 := by decide
            have : ((-1 : Int32)).toInt = -1 := by decide
            have := mt ti_le.mpr c_123
            have := ti_lt.mp c_137
            have := ti_eq.mp c_237
            try have := ti_add (a := a5) (b := a4) (by omega) (by omega)
            omega
          have j266_hcv : cv (σ 1) (a5.toInt + a4.toInt - a7.toInt - 1).toNat (ix a7 + 1) a6.toInt.toNat := s2
          have j266_hm116 : (a5.toInt + a4.toInt - a7.toInt).toNat < N116 + 1 := by
            have : ((0 : Int32)).toInt = 0 := by decide
            have : ((-1 : Int32)).toInt = -1 := by decide
            have := mt ti_le.mpr c_123
            have := ti_lt.mp c_137
            have := ti_eq.mp c_237
            try have := ti_add (a := a5) (b := a4) (by omega) (by omega)
            omega
          exact b_X12_looks_429  (σ := (up2 σ 10 (ix (a6 - (1 : Int32))) (if (σ 10 (ix (a6 - (1 : Int32)))) = 0 then (1 : Int32) else (0 : Int32)))) (a4 := a4) (a5 := a5) (a6 := a6) (a7 := a7) C0 hK116 hI h5 h4 h6 j266_h7 j266_hcv j266_hm116 hK hC (lv_sub hl [1, 2, 3, 4, 5] rfl) hT
        refine lv_if_ne (tgt := 264) hx hb dX12_looks_257 (by decide) (fun c_257 => ?_) (fun c_257 => ?_)
        · refine lv_iconst (v := (0 : Int32)) hx hb dX12_looks_264 (by decide) ?_
          exact J257 _ (iv_neg c_257 rfl)
        · refine lv_iconst (v := (1 : Int32)) hx hb dX12_looks_260 (by decide) ?_
          refine lv_goto (tgt := 265) hx hb dX12_looks_261 (by decide) ?_
          exact J257 _ (iv_pos c_257 rfl)
    · have hT := hT_neg c_137 hT
      rw [if_neg c_137] at hst
      obtain ⟨s1, s2, s3⟩ := hst
      refine lv_aload_n hx hb dX12_looks_140 rfl (lv_at hl 1 rfl) ?_
      refine m_get (σ := σ) (v := .ref (g.2.2 9)) C0 hK hC.1 9 (by decide) rfl w_976 dX12_looks_141 ?_
      refine lv_iload hx hb dX12_looks_144 (lv_at hl 0 rfl) ?_
      refine lv_bipush (v := (8 : Int32)) hx hb dX12_looks_146 (by decide) ?_
      refine lv_irem hx hb dX12_looks_148 (by decide) ?_
      have o_149 : vp_in ((σ 1 (ix a7)) - (σ 1 (ix a7)) / (8 : Int32) * (8 : Int32)) 6 := vin (by have q1 := mt ti_lt.mpr c_137; rw [show (0 : Int32).toInt = 0 from rfl] at q1; rw [rem_b (n := 8) rfl (by omega) (by omega)]; omega) s1
      refine m_ald (σ := σ) C0 hK hC.1 3 9 6 rfl o_149 (ix ((σ 1 (ix a7)) - (σ 1 (ix a7)) / (8 : Int32) * (8 : Int32))) rfl dX12_looks_149 ?_
      refine lv_istore (lv' := [(9, .int ((σ 9 (ix ((σ 1 (ix a7)) - (σ 1 (ix a7)) / (8 : Int32) * (8 : Int32)))))), (8, .int ((σ 1 (ix a7)))), (0, .ref (g.2.2 100)), (4, .int (a4)), (5, .int (a5)), (6, .int (a6)), (7, .int (a7))]) hx hb dX12_looks_150 hl (by decide) rfl (fun ls hl => ?_)
      refine lv_iload hx hb dX12_looks_152 (lv_at hl 1 rfl) ?_
      refine lv_bipush (v := (8 : Int32)) hx hb dX12_looks_154 (by decide) ?_
      refine lv_idiv hx hb dX12_looks_156 (by decide) ?_
      refine lv_iconst (v := (4 : Int32)) hx hb dX12_looks_157 (by decide) ?_
      refine lv_irem hx hb dX12_looks_158 (by decide) ?_
      refine lv_istore (lv' := [(10, .int ((((σ 1 (ix a7)) / (8 : Int32)) - ((σ 1 (ix a7)) / (8 : Int32)) / (4 : Int32) * (4 : Int32)))), (9, .int ((σ 9 (ix ((σ 1 (ix a7)) - (σ 1 (ix a7)) / (8 : Int32) * (8 : Int32)))))), (8, .int ((σ 1 (ix a7)))), (0, .ref (g.2.2 100)), (4, .int (a4)), (5, .int (a5)), (6, .int (a6)), (7, .int (a7))]) hx hb dX12_looks_159 hl (by decide) rfl (fun ls hl => ?_)
      refine lv_iload hx hb dX12_looks_161 (lv_at hl 2 rfl) ?_
      refine lv_bipush (v := (32 : Int32)) hx hb dX12_looks_163 (by decide) ?_
      refine lv_idiv hx hb dX12_looks_165 (by decide) ?_
      refine lv_istore (lv' := [(11, .int (((σ 1 (ix a7)) / (32 : Int32)))), (10, .int ((((σ 1 (ix a7)) / (8 : Int32)) - ((σ 1 (ix a7)) / (8 : Int32)) / (4 : Int32) * (4 : Int32)))), (9, .int ((σ 9 (ix ((σ 1 (ix a7)) - (σ 1 (ix a7)) / (8 : Int32) * (8 : Int32)))))), (8, .int ((σ 1 (ix a7)))), (0, .ref (g.2.2 100)), (4, .int (a4)), (5, .int (a5)), (6, .int (a6)), (7, .int (a7))]) hx hb dX12_looks_166 hl (by decide) rfl (fun ls hl => ?_)
      refine lv_aload_n hx hb dX12_looks_168 rfl (lv_at hl 4 rfl) ?_
      refine m_get (σ := σ) (v := .ref (g.2.2 10)) C0 hK hC.1 10 (by decide) rfl w_977 dX12_looks_169 ?_
      refine lv_iload hx hb dX12_looks_172 (lv_at hl 7 rfl) ?_
      refine lv_iload hx hb dX12_looks_174 (lv_at hl 1 rfl) ?_
      have J176 : ∀ v : Int32, v = (if (((σ 1 (ix a7)) / (8 : Int32)) - ((σ 1 (ix a7)) / (8 : Int32)) / (4 : Int32) * (4 : Int32)) = 0 then (if ((σ 1 (ix a7)) / (32 : Int32)) ≤ (σ 9 (ix ((σ 1 (ix a7)) - (σ 1 (ix a7)) / (8 : Int32) * (8 : Int32)))) then (0 : Int32) else (1 : Int32)) else (if (((σ 1 (ix a7)) / (8 : Int32)) - ((σ 1 (ix a7)) / (8 : Int32)) / (4 : Int32) * (4 : Int32)) = (1 : Int32) then (if (σ 9 (ix ((σ 1 (ix a7)) - (σ 1 (ix a7)) / (8 : Int32) * (8 : Int32)))) = ((σ 1 (ix a7)) / (32 : Int32)) then (1 : Int32) else (0 : Int32)) else (if (σ 9 (ix ((σ 1 (ix a7)) - (σ 1 (ix a7)) / (8 : Int32) * (8 : Int32)))) ≤ ((σ 1 (ix a7)) / (32 : Int32)) then (0 : Int32) else (1 : Int32)))) → W p l e { frames := 1, cells := 0, slots := 0, locals := 22 } s m args below meth c H locs 0 0 (QMV below args s g (mW g) A tgt) (F0 m 227 ls [.int (v), .int (a6), .ref (g.2.2 10)]) := by
        intro v ev
        subst ev
        have o_227 : vp_in a6 64 := by
          have : ((0 : Int32)).toInt = 0 := by decide
          have := mt ti_le.mpr c_123
          have := mt ti_lt.mpr c_137
          try have := ti_add (a := a5) (b := a4) (by omega) (by omega)
          exact vin (by omega) (by omega)
        refine m_zst (σ := σ) C0 hK hC 4 10 64 rfl (ms_10 g _) o_227 (ix a6) rfl (nr_of (by (repeat' split) <;> simp)) dX12_looks_227 (fun H locs hC => ?_)
        refine lv_iinc (v := (a6 + (1 : Int32))) (lv' := [(6, .int ((a6 + (1 : Int32)))), (11, .int (((σ 1 (ix a7)) / (32 : Int32)))), (10, .int ((((σ 1 (ix a7)) / (8 : Int32)) - ((σ 1 (ix a7)) / (8 : Int32)) / (4 : Int32) * (4 : Int32)))), (9, .int ((σ 9 (ix ((σ 1 (ix a7)) - (σ 1 (ix a7)) / (8 : Int32) * (8 : Int32)))))), (8, .int ((σ 1 (ix a7)))), (0, .ref (g.2.2 100)), (4, .int (a4)), (5, .int (a5)), (7, .int (a7))]) hx hb dX12_looks_228 hl (k := 7) rfl rfl (by decide) rfl (fun ls hl => ?_)
        refine lv_goto (tgt := 429) hx hb dX12_looks_231 (by decide) ?_
        have j231_h6 : 0 ≤ (a6 + (1 : Int32)).toInt ∧ (a6 + (1 : Int32)).toInt ≤ 60 := by
          have : ((0 : Int32)).toInt = 0 := by decide
          have : ((1 : Int32)).toInt = 1 := by decide
          have := mt ti_le.mpr c_123
          have := mt ti_lt.mpr c_137
          try have := ti_add (a := a5) (b := a4) (by omega) (by omega)
          try have := ti_add (a := a6) (b := (1 : Int32)) (by omega) (by omega)
          try have := div_b (a := (σ 1 (ix a7))) (b := (32 : Int32)) (n := 32) (by decide) (by omega) (by omega)
          try have := div_b (a := (σ 1 (ix a7))) (b := (8 : Int32)) (n := 8) (by decide) (by omega) (by omega)
          try have := rem_b (a := ((σ 1 (ix a7)) / (8 : Int32))) (b := (4 : Int32)) (n := 4) (by decide) (by omega) (by omega)
          omega
        have j231_h7 : a5.toInt ≤ a7.toInt ∧ a7.toInt < a5.toInt + a4.toInt := by
          have : ((0 : Int32)).toInt = 0 := by decide
          have : ((1 : Int32)).toInt = 1 := by decide
          have := mt ti_le.mpr c_123
          have := mt ti_lt.mpr c_137
          try have := ti_add (a := a5) (b := a4) (by omega) (by omega)
          try have := ti_add (a := a6) (b := (1 : Int32)) (by omega) (by omega)
          try have := div_b (a := (σ 1 (ix a7))) (b := (32 : Int32)) (n := 32) (by decide) (by omega) (by omega)
          try have := div_b (a := (σ 1 (ix a7))) (b := (8 : Int32)) (n := 8) (by decide) (by omega) (by omega)
          try have := rem_b (a := ((σ 1 (ix a7)) / (8 : Int32))) (b := (4 : Int32)) (n := 4) (by decide) (by omega) (by omega)
          omega
        have j231_hcv : cv (σ 1) (a5.toInt + a4.toInt - a7.toInt - 1).toNat (ix a7 + 1) (a6 + (1 : Int32)).toInt.toNat := (by rw [tn1 h6.1 (by omega)]; exact s3)
        have j231_hm116 : (a5.toInt + a4.toInt - a7.toInt).toNat < N116 + 1 := by
          have : ((0 : Int32)).toInt = 0 := by decide
          have : ((1 : Int32)).toInt = 1 := by decide
          have := mt ti_le.mpr c_123
          have := mt ti_lt.mpr c_137
          try have := ti_add (a := a5) (b := a4) (by omega) (by omega)
          try have := ti_add (a := a6) (b := (1 : Int32)) (by omega) (by omega)
          try have := div_b (a := (σ 1 (ix a7))) (b := (32 : Int32)) (n := 32) (by decide) (by omega) (by omega)
          try have := div_b (a := (σ 1 (ix a7))) (b := (8 : Int32)) (n := 8) (by decide) (by omega) (by omega)
          try have := rem_b (a := ((σ 1 (ix a7)) / (8 : Int32))) (b := (4 : Int32)) (n := 4) (by decide) (by omega) (by omega)
          omega
        exact b_X12_looks_429  (σ := (up2 σ 10 (ix a6) (if (((σ 1 (ix a7)) / (8 : Int32)) - ((σ 1 (ix a7)) / (8 : Int32)) / (4 : Int32) * (4 : Int32)) = 0 then (if ((σ 1 (ix a7)) / (32 : Int32)) ≤ (σ 9 (ix ((σ 1 (ix a7)) - (σ 1 (ix a7)) / (8 : Int32) * (8 : Int32)))) then (0 : Int32) else (1 : Int32)) else (if (((σ 1 (ix a7)) / (8 : Int32)) - ((σ 1 (ix a7)) / (8 : Int32)) / (4 : Int32) * (4 : Int32)) = (1 : Int32) then (if (σ 9 (ix ((σ 1 (ix a7)) - (σ 1 (ix a7)) / (8 : Int32) * (8 : Int32)))) = ((σ 1 (ix a7)) / (32 : Int32)) then (1 : Int32) else (0 : Int32)) else (if (σ 9 (ix ((σ 1 (ix a7)) - (σ 1 (ix a7)) / (8 : Int32) * (8 : Int32)))) ≤ ((σ 1 (ix a7)) / (32 : Int32)) then (0 : Int32) else (1 : Int32)))))) (a4 := a4) (a5 := a5) (a6 := (a6 + (1 : Int32))) (a7 := a7) C0 hK116 hI h5 h4 j231_h6 j231_h7 j231_hcv j231_hm116 hK hC (lv_sub hl [5, 6, 7, 0, 8] rfl) hT
      refine lv_if_ne (tgt := 194) hx hb dX12_looks_176 (by decide) (fun c_176 => ?_) (fun c_176 => ?_)
      · refine lv_iload hx hb dX12_looks_194 (lv_at hl 1 rfl) ?_
        refine lv_iconst (v := (1 : Int32)) hx hb dX12_looks_196 (by decide) ?_
        refine lv_icmp_ne (tgt := 215) hx hb dX12_looks_197 (by decide) (fun c_197 => ?_) (fun c_197 => ?_)
        · refine lv_iload hx hb dX12_looks_215 (lv_at hl 2 rfl) ?_
          refine lv_iload hx hb dX12_looks_217 (lv_at hl 0 rfl) ?_
          refine lv_icmp_le (tgt := 226) hx hb dX12_looks_219 (by decide) (fun c_219 => ?_) (fun c_219 => ?_)
          · refine lv_iconst (v := (0 : Int32)) hx hb dX12_looks_226 (by decide) ?_
            exact J176 _ (iv_neg c_176 (iv_neg c_197 (iv_pos c_219 rfl)))
          · refine lv_iconst (v := (1 : Int32)) hx hb dX12_looks_222 (by decide) ?_
            refine lv_goto (tgt := 227) hx hb dX12_looks_223 (by decide) ?_
            exact J176 _ (iv_neg c_176 (iv_neg c_197 (iv_neg c_219 rfl)))
        · refine lv_iload hx hb dX12_looks_200 (lv_at hl 2 rfl) ?_
          refine lv_iload hx hb dX12_looks_202 (lv_at hl 0 rfl) ?_
          refine lv_icmp_ne (tgt := 211) hx hb dX12_looks_204 (by decide) (fun c_204 => ?_) (fun c_204 => ?_)
          · refine lv_iconst (v := (0 : Int32)) hx hb dX12_looks_211 (by decide) ?_
            refine lv_goto (tgt := 227) hx hb dX12_looks_212 (by decide) ?_
            exact J176 _ (iv_neg c_176 (iv_pos c_197 (iv_neg c_204 rfl)))
          · refine lv_iconst (v := (1 : Int32)) hx hb dX12_looks_207 (by decide) ?_
            refine lv_goto (tgt := 227) hx hb dX12_looks_208 (by decide) ?_
            exact J176 _ (iv_neg c_176 (iv_pos c_197 (iv_pos c_204 rfl)))
      · refine lv_iload hx hb dX12_looks_179 (lv_at hl 2 rfl) ?_
        refine lv_iload hx hb dX12_looks_181 (lv_at hl 0 rfl) ?_
        refine lv_icmp_ge (tgt := 190) hx hb dX12_looks_183 (by decide) (fun c_183 => ?_) (fun c_183 => ?_)
        · refine lv_iconst (v := (0 : Int32)) hx hb dX12_looks_190 (by decide) ?_
          refine lv_goto (tgt := 227) hx hb dX12_looks_191 (by decide) ?_
          exact J176 _ (iv_pos c_176 (iv_pos c_183 rfl))
        · refine lv_iconst (v := (1 : Int32)) hx hb dX12_looks_186 (by decide) ?_
          refine lv_goto (tgt := 227) hx hb dX12_looks_187 (by decide) ?_
          exact J176 _ (iv_pos c_176 (iv_neg c_183 rfl))
def g_X12_looks_116  : Nat → St → Int32 → Int32 → Int32 → Int32 → St
  | 0 => fun σ a4 a5 a6 a7 => σ
  | n + 1 => fun σ a4 a5 a6 a7 => f_X12_looks_116  (g_X12_looks_116  n) σ a4 a5 a6 a7
theorem l_X12_looks_116 {g : GG} {p : Program} {l : Launch} {e : Env} {s : State} {m : MethodId} {args : Array Value} {below : List Frame} {meth : Method} {c : Code} {A : Nat → Prop} {tgt : St}  (C0 : BC p s m args meth c cX12_looks RX12 12 none)  : ∀ (n : Nat) (σ : St) (a4 : Int32) (a5 : Int32) (a6 : Int32) (a7 : Int32), (IB (σ 1)) → (0 ≤ a5.toInt ∧ a5.toInt ≤ 776) → (0 ≤ a4.toInt ∧ a4.toInt ≤ 140) → (0 ≤ a6.toInt ∧ a6.toInt ≤ 60) → (a5.toInt ≤ a7.toInt ∧ a7.toInt ≤ a5.toInt + a4.toInt) → (cv (σ 1) (a5.toInt + a4.toInt - a7.toInt).toNat (ix a7) a6.toInt.toNat) → (a5.toInt + a4.toInt - a7.toInt).toNat < n → ∀ {H : Heap} {locs : List Loc}, KK g s → WC g (mW g) A s.heap σ H locs → ∀ {ls : Array Slot}, lv_has ls 12 [(0, .ref (g.2.2 100)), (4, .int (a4)), (5, .int (a5)), (6, .int (a6)), (7, .int (a7))] → g_X12_looks_116  n σ a4 a5 a6 a7 = tgt → W p l e { frames := 1, cells := 0, slots := 0, locals := 22 } s m args below meth c H locs 0 0 (QMV below args s g (mW g) A tgt) (F0 m 116 ls []) := by
  intro n
  induction n with
  | zero => intro σ a4 a5 a6 a7 hI h5 h4 h6 h7 hcv hm; exact absurd hm (Nat.not_lt_zero _)
  | succ n ih =>
    intro σ a4 a5 a6 a7 hI h5 h4 h6 h7 hcv hm H locs hK hC ls hl hT
    exact b_X12_looks_116  (K116 := g_X12_looks_116  n) (N116 := n) C0  (fun σ a4 a5 a6 a7 hI h5 h4 h6 h7 hcv hm2 => ih σ a4 a5 a6 a7 hI h5 h4 h6 h7 hcv hm2) hI h5 h4 h6 h7 hcv hm hK hC hl hT
def f_X12_looks (σ : St) (a1 : Int32) (a2 : Int32) (a3 : Int32) : St := (g_X12_looks_116  (141) (up2 (up2 (up2 (up2 (up2 (up2 (up2 (up2 σ 9 0 a1) 9 1 (σ 1 (ix ((9 : Int32) + a1)))) 9 2 (σ 1 (ix ((15 : Int32) + a1)))) 9 3 ((σ 1 (ix ((21 : Int32) + a1))) / (10 : Int32))) 9 4 (a3 - a3 / (10 : Int32) * (10 : Int32))) 9 5 a2) 11 0 (0 : Int32)) 12 0 (0 : Int32)) (f_X12_tellsOf σ (211 : Int32) (0 : Int32)) ((216 : Int32) + ((140 : Int32) * (σ 1 7))) (0 : Int32) ((216 : Int32) + ((140 : Int32) * (σ 1 7))))
set_option maxHeartbeats 600000 in
set_option maxRecDepth 100000 in
theorem k_X12_looks (l : Launch) (g : GG) (σ : St) (a1 : Int32) (a2 : Int32) (a3 : Int32) (hI : IB (σ 1)) (hV : HV (σ 1)) (h1 : 0 ≤ a1.toInt) (h1b : a1.toInt < 6) : MV l yX12_looks (wsF yX12_looks cX12_looks 12 none) { frames := 1, cells := 0, slots := 0, locals := 22 } [.ref (g.2.2 100), .int (a1), .int (a2), .int (a3)] g (mW g) (fun _ => True) σ (f_X12_looks σ a1 a2 a3) := by
  refine start_MV (by decide) (Nat.le_of_ble_eq_true rfl) ?_
  intro p e s m args below meth c C0 hK hBg hC ls hl
  generalize hAe : aA ((mW g) σ) = A at hC ⊢
  obtain ⟨hx, hb, hr, hml, hown, hts, hlocks⟩ := id C0
  have hl : lv_has ls 12 [(0, .ref (g.2.2 100)), (1, .int (a1)), (2, .int (a2)), (3, .int (a3))] := hl
  generalize hT : (f_X12_looks σ a1 a2 a3) = tgt
  suffices key : ∀ (H : Heap) (locs : List Loc), WC g (mW g) A s.heap σ H locs → W p l e { frames := 1, cells := 0, slots := 0, locals := 22 } s m args below meth c H locs 0 0 (QMV below args s g (mW g) A tgt) (F0 m 0 ls []) from key _ _ hC
  intro H locs hC
  unfold f_X12_looks at hT
  obtain ⟨⟨i0, i0'⟩, ⟨i1, i1'⟩, ⟨i2, i2'⟩, ⟨i3, i3'⟩, ⟨i4, i4'⟩, ⟨i5, i5'⟩, ⟨i6, i6'⟩, ⟨i7, i7'⟩, ⟨i8, i8'⟩, iK, iV, iL, iR, iW, iY, iG, iM, iB, iQ, iP, iT, iU⟩ := id hI
  refine lv_aload_n hx hb dX12_looks_0 rfl (lv_at hl 0 rfl) ?_
  refine m_get (σ := σ) (v := .ref (g.2.2 9)) C0 hK hC.1 9 (by decide) rfl w_976 dX12_looks_1 ?_
  refine lv_iconst (v := (0 : Int32)) hx hb dX12_looks_4 (by decide) ?_
  refine lv_iload_n hx hb dX12_looks_5 rfl (lv_at hl 1 rfl) ?_
  refine m_ast (σ := σ) C0 hK hC 3 9 6 rfl (ms_9 g _) (vin_l (by decide)) 0 (by decide) dX12_looks_6 (fun H locs hC => ?_)
  refine lv_aload_n hx hb dX12_looks_7 rfl (lv_at hl 0 rfl) ?_
  refine m_get (σ := (up2 σ 9 0 a1)) (v := .ref (g.2.2 9)) C0 hK hC.1 9 (by decide) rfl w_976 dX12_looks_8 ?_
  refine lv_iconst (v := (1 : Int32)) hx hb dX12_looks_11 (by decide) ?_
  refine lv_aload_n hx hb dX12_looks_12 rfl (lv_at hl 0 rfl) ?_
  refine m_get (σ := (up2 σ 9 0 a1)) (v := .ref (g.2.2 1)) C0 hK hC.1 1 (by decide) rfl w_968 dX12_looks_13 ?_
  refine lv_bipush (v := (9 : Int32)) hx hb dX12_looks_16 (by decide) ?_
  refine lv_iload_n hx hb dX12_looks_18 rfl (lv_at hl 1 rfl) ?_
  refine lv_iadd hx hb dX12_looks_19 ?_
  have o_20 : vp_in ((9 : Int32) + a1) 916 := by
    have : ((9 : Int32)).toInt = 9 := by decide
    try have := ti_add (a := (9 : Int32)) (b := a1) (by omega) (by omega)
    exact vin (by omega) (by omega)
  refine m_ald (σ := (up2 σ 9 0 a1)) C0 hK hC.1 1 1 916 rfl o_20 (ix ((9 : Int32) + a1)) rfl dX12_looks_20 ?_
  refine m_ast (σ := (up2 σ 9 0 a1)) C0 hK hC 3 9 6 rfl (ms_9 g _) (vin_l (by decide)) 1 (by decide) dX12_looks_21 (fun H locs hC => ?_)
  refine lv_aload_n hx hb dX12_looks_22 rfl (lv_at hl 0 rfl) ?_
  refine m_get (σ := (up2 (up2 σ 9 0 a1) 9 1 (σ 1 (ix ((9 : Int32) + a1))))) (v := .ref (g.2.2 9)) C0 hK hC.1 9 (by decide) rfl w_976 dX12_looks_23 ?_
  refine lv_iconst (v := (2 : Int32)) hx hb dX12_looks_26 (by decide) ?_
  refine lv_aload_n hx hb dX12_looks_27 rfl (lv_at hl 0 rfl) ?_
  refine m_get (σ := (up2 (up2 σ 9 0 a1) 9 1 (σ 1 (ix ((9 : Int32) + a1))))) (v := .ref (g.2.2 1)) C0 hK hC.1 1 (by decide) rfl w_968 dX12_looks_28 ?_
  refine lv_bipush (v := (15 : Int32)) hx hb dX12_looks_31 (by decide) ?_
  refine lv_iload_n hx hb dX12_looks_33 rfl (lv_at hl 1 rfl) ?_
  refine lv_iadd hx hb dX12_looks_34 ?_
  have o_35 : vp_in ((15 : Int32) + a1) 916 := by
    have : ((15 : Int32)).toInt = 15 := by decide
    try have := ti_add (a := (15 : Int32)) (b := a1) (by omega) (by omega)
    exact vin (by omega) (by omega)
  refine m_ald (σ := (up2 (up2 σ 9 0 a1) 9 1 (σ 1 (ix ((9 : Int32) + a1))))) C0 hK hC.1 1 1 916 rfl o_35 (ix ((15 : Int32) + a1)) rfl dX12_looks_35 ?_
  refine m_ast (σ := (up2 (up2 σ 9 0 a1) 9 1 (σ 1 (ix ((9 : Int32) + a1))))) C0 hK hC 3 9 6 rfl (ms_9 g _) (vin_l (by decide)) 2 (by decide) dX12_looks_36 (fun H locs hC => ?_)
  refine lv_aload_n hx hb dX12_looks_37 rfl (lv_at hl 0 rfl) ?_
  refine m_get (σ := (up2 (up2 (up2 σ 9 0 a1) 9 1 (σ 1 (ix ((9 : Int32) + a1)))) 9 2 (σ 1 (ix ((15 : Int32) + a1))))) (v := .ref (g.2.2 9)) C0 hK hC.1 9 (by decide) rfl w_976 dX12_looks_38 ?_
  refine lv_iconst (v := (3 : Int32)) hx hb dX12_looks_41 (by decide) ?_
  refine lv_aload_n hx hb dX12_looks_42 rfl (lv_at hl 0 rfl) ?_
  refine m_get (σ := (up2 (up2 (up2 σ 9 0 a1) 9 1 (σ 1 (ix ((9 : Int32) + a1)))) 9 2 (σ 1 (ix ((15 : Int32) + a1))))) (v := .ref (g.2.2 1)) C0 hK hC.1 1 (by decide) rfl w_968 dX12_looks_43 ?_
  refine lv_bipush (v := (21 : Int32)) hx hb dX12_looks_46 (by decide) ?_
  refine lv_iload_n hx hb dX12_looks_48 rfl (lv_at hl 1 rfl) ?_
  refine lv_iadd hx hb dX12_looks_49 ?_
  have o_50 : vp_in ((21 : Int32) + a1) 916 := by
    have : ((21 : Int32)).toInt = 21 := by decide
    try have := ti_add (a := (21 : Int32)) (b := a1) (by omega) (by omega)
    exact vin (by omega) (by omega)
  refine m_ald (σ := (up2 (up2 (up2 σ 9 0 a1) 9 1 (σ 1 (ix ((9 : Int32) + a1)))) 9 2 (σ 1 (ix ((15 : Int32) + a1))))) C0 hK hC.1 1 1 916 rfl o_50 (ix ((21 : Int32) + a1)) rfl dX12_looks_50 ?_
  refine lv_bipush (v := (10 : Int32)) hx hb dX12_looks_51 (by decide) ?_
  refine lv_idiv hx hb dX12_looks_53 (by decide) ?_
  refine m_ast (σ := (up2 (up2 (up2 σ 9 0 a1) 9 1 (σ 1 (ix ((9 : Int32) + a1)))) 9 2 (σ 1 (ix ((15 : Int32) + a1))))) C0 hK hC 3 9 6 rfl (ms_9 g _) (vin_l (by decide)) 3 (by decide) dX12_looks_54 (fun H locs hC => ?_)
  refine lv_aload_n hx hb dX12_looks_55 rfl (lv_at hl 0 rfl) ?_
  refine m_get (σ := (up2 (up2 (up2 (up2 σ 9 0 a1) 9 1 (σ 1 (ix ((9 : Int32) + a1)))) 9 2 (σ 1 (ix ((15 : Int32) + a1)))) 9 3 ((σ 1 (ix ((21 : Int32) + a1))) / (10 : Int32)))) (v := .ref (g.2.2 9)) C0 hK hC.1 9 (by decide) rfl w_976 dX12_looks_56 ?_
  refine lv_iconst (v := (4 : Int32)) hx hb dX12_looks_59 (by decide) ?_
  refine lv_iload_n hx hb dX12_looks_60 rfl (lv_at hl 3 rfl) ?_
  refine lv_bipush (v := (10 : Int32)) hx hb dX12_looks_61 (by decide) ?_
  refine lv_irem hx hb dX12_looks_63 (by decide) ?_
  refine m_ast (σ := (up2 (up2 (up2 (up2 σ 9 0 a1) 9 1 (σ 1 (ix ((9 : Int32) + a1)))) 9 2 (σ 1 (ix ((15 : Int32) + a1)))) 9 3 ((σ 1 (ix ((21 : Int32) + a1))) / (10 : Int32)))) C0 hK hC 3 9 6 rfl (ms_9 g _) (vin_l (by decide)) 4 (by decide) dX12_looks_64 (fun H locs hC => ?_)
  refine lv_aload_n hx hb dX12_looks_65 rfl (lv_at hl 0 rfl) ?_
  refine m_get (σ := (up2 (up2 (up2 (up2 (up2 σ 9 0 a1) 9 1 (σ 1 (ix ((9 : Int32) + a1)))) 9 2 (σ 1 (ix ((15 : Int32) + a1)))) 9 3 ((σ 1 (ix ((21 : Int32) + a1))) / (10 : Int32))) 9 4 (a3 - a3 / (10 : Int32) * (10 : Int32)))) (v := .ref (g.2.2 9)) C0 hK hC.1 9 (by decide) rfl w_976 dX12_looks_66 ?_
  refine lv_iconst (v := (5 : Int32)) hx hb dX12_looks_69 (by decide) ?_
  refine lv_iload_n hx hb dX12_looks_70 rfl (lv_at hl 2 rfl) ?_
  refine m_ast (σ := (up2 (up2 (up2 (up2 (up2 σ 9 0 a1) 9 1 (σ 1 (ix ((9 : Int32) + a1)))) 9 2 (σ 1 (ix ((15 : Int32) + a1)))) 9 3 ((σ 1 (ix ((21 : Int32) + a1))) / (10 : Int32))) 9 4 (a3 - a3 / (10 : Int32) * (10 : Int32)))) C0 hK hC 3 9 6 rfl (ms_9 g _) (vin_l (by decide)) 5 (by decide) dX12_looks_71 (fun H locs hC => ?_)
  refine lv_aload_n hx hb dX12_looks_72 rfl (lv_at hl 0 rfl) ?_
  refine lv_iconst (v := (0 : Int32)) hx hb dX12_looks_73 (by decide) ?_
  refine m_put (σ := (up2 (up2 (up2 (up2 (up2 (up2 σ 9 0 a1) 9 1 (σ 1 (ix ((9 : Int32) + a1)))) 9 2 (σ 1 (ix ((15 : Int32) + a1)))) 9 3 ((σ 1 (ix ((21 : Int32) + a1))) / (10 : Int32))) 9 4 (a3 - a3 / (10 : Int32) * (10 : Int32))) 9 5 a2)) (ty := .int) C0 hK hC 11 (by decide) rfl rfl rfl rfl (ms_11 g _ _) w_978 dX12_looks_74 (fun H locs hC => ?_)
  refine lv_aload_n hx hb dX12_looks_77 rfl (lv_at hl 0 rfl) ?_
  refine lv_iconst (v := (0 : Int32)) hx hb dX12_looks_78 (by decide) ?_
  refine m_put (σ := (up2 (up2 (up2 (up2 (up2 (up2 (up2 σ 9 0 a1) 9 1 (σ 1 (ix ((9 : Int32) + a1)))) 9 2 (σ 1 (ix ((15 : Int32) + a1)))) 9 3 ((σ 1 (ix ((21 : Int32) + a1))) / (10 : Int32))) 9 4 (a3 - a3 / (10 : Int32) * (10 : Int32))) 9 5 a2) 11 0 (0 : Int32))) (ty := .int) C0 hK hC 12 (by decide) rfl rfl rfl rfl (ms_12 g _ _) w_979 dX12_looks_79 (fun H locs hC => ?_)
  refine lv_aload_n hx hb dX12_looks_82 rfl (lv_at hl 0 rfl) ?_
  refine lv_sipush (v := (211 : Int32)) hx hb dX12_looks_83 (by decide) ?_
  refine lv_iconst (v := (0 : Int32)) hx hb dX12_looks_86 (by decide) ?_
  have q87_h1 : 0 ≤ (211 : Int32).toInt := by
    have : ((211 : Int32)).toInt = 211 := by decide
    have : ((0 : Int32)).toInt = 0 := by decide
    omega
  have q87_h2 : (211 : Int32).toInt ≤ 900 := by
    have : ((211 : Int32)).toInt = 211 := by decide
    have : ((0 : Int32)).toInt = 0 := by decide
    omega
  refine m_ci (rest := []) (As := [.int ((211 : Int32)), .int ((0 : Int32))]) (σ := (up2 (up2 (up2 (up2 (up2 (up2 (up2 (up2 σ 9 0 a1) 9 1 (σ 1 (ix ((9 : Int32) + a1)))) 9 2 (σ 1 (ix ((15 : Int32) + a1)))) 9 3 ((σ 1 (ix ((21 : Int32) + a1))) / (10 : Int32))) 9 4 (a3 - a3 / (10 : Int32) * (10 : Int32))) 9 5 a2) 11 0 (0 : Int32)) 12 0 (0 : Int32))) (F := (f_X12_tellsOf σ (211 : Int32) (0 : Int32))) C0 hK hC.1 (hC.2.1.weaken (fun _ _ _ _ => trivial)) SV.tt (fun _ _ _ => trivial) cf_X12_tellsOf w_1163 rfl (k_X12_tellsOf l g (up2 (up2 (up2 (up2 (up2 (up2 (up2 (up2 σ 9 0 a1) 9 1 (σ 1 (ix ((9 : Int32) + a1)))) 9 2 (σ 1 (ix ((15 : Int32) + a1)))) 9 3 ((σ 1 (ix ((21 : Int32) + a1))) / (10 : Int32))) 9 4 (a3 - a3 / (10 : Int32) * (10 : Int32))) 9 5 a2) 11 0 (0 : Int32)) 12 0 (0 : Int32)) (211 : Int32) (0 : Int32) hI q87_h1 q87_h2) ⟨by decide, by decide⟩ hl.1 rfl rfl (Nat.le_of_ble_eq_true rfl) dX12_looks_87 ⟨Nat.zero_le _, Nat.zero_le _⟩ ?_
  refine lv_istore (lv' := [(4, .int ((f_X12_tellsOf σ (211 : Int32) (0 : Int32)))), (0, .ref (g.2.2 100)), (1, .int (a1)), (2, .int (a2)), (3, .int (a3))]) hx hb dX12_looks_90 hl (by decide) rfl (fun ls hl => ?_)
  refine lv_sipush (v := (216 : Int32)) hx hb dX12_looks_92 (by decide) ?_
  refine lv_sipush (v := (140 : Int32)) hx hb dX12_looks_95 (by decide) ?_
  refine lv_aload_n hx hb dX12_looks_98 rfl (lv_at hl 1 rfl) ?_
  refine m_get (σ := (up2 (up2 (up2 (up2 (up2 (up2 (up2 (up2 σ 9 0 a1) 9 1 (σ 1 (ix ((9 : Int32) + a1)))) 9 2 (σ 1 (ix ((15 : Int32) + a1)))) 9 3 ((σ 1 (ix ((21 : Int32) + a1))) / (10 : Int32))) 9 4 (a3 - a3 / (10 : Int32) * (10 : Int32))) 9 5 a2) 11 0 (0 : Int32)) 12 0 (0 : Int32))) (v := .ref (g.2.2 1)) C0 hK hC.1 1 (by decide) rfl w_968 dX12_looks_99 ?_
  refine lv_bipush (v := (7 : Int32)) hx hb dX12_looks_102 (by decide) ?_
  refine m_ald (σ := (up2 (up2 (up2 (up2 (up2 (up2 (up2 (up2 σ 9 0 a1) 9 1 (σ 1 (ix ((9 : Int32) + a1)))) 9 2 (σ 1 (ix ((15 : Int32) + a1)))) 9 3 ((σ 1 (ix ((21 : Int32) + a1))) / (10 : Int32))) 9 4 (a3 - a3 / (10 : Int32) * (10 : Int32))) 9 5 a2) 11 0 (0 : Int32)) 12 0 (0 : Int32))) C0 hK hC.1 1 1 916 rfl (vin_l (by decide)) 7 (by decide) dX12_looks_104 ?_
  refine lv_imul hx hb dX12_looks_105 ?_
  refine lv_iadd hx hb dX12_looks_106 ?_
  refine lv_istore (lv' := [(5, .int (((216 : Int32) + ((140 : Int32) * (σ 1 7))))), (4, .int ((f_X12_tellsOf σ (211 : Int32) (0 : Int32)))), (0, .ref (g.2.2 100)), (1, .int (a1)), (2, .int (a2)), (3, .int (a3))]) hx hb dX12_looks_107 hl (by decide) rfl (fun ls hl => ?_)
  refine lv_iconst (v := (0 : Int32)) hx hb dX12_looks_109 (by decide) ?_
  refine lv_istore (lv' := [(6, .int ((0 : Int32))), (5, .int (((216 : Int32) + ((140 : Int32) * (σ 1 7))))), (4, .int ((f_X12_tellsOf σ (211 : Int32) (0 : Int32)))), (0, .ref (g.2.2 100)), (1, .int (a1)), (2, .int (a2)), (3, .int (a3))]) hx hb dX12_looks_110 hl (by decide) rfl (fun ls hl => ?_)
  refine lv_iload hx hb dX12_looks_112 (lv_at hl 1 rfl) ?_
  refine lv_istore (lv' := [(7, .int (((216 : Int32) + ((140 : Int32) * (σ 1 7))))), (6, .int ((0 : Int32))), (5, .int (((216 : Int32) + ((140 : Int32) * (σ 1 7))))), (4, .int ((f_X12_tellsOf σ (211 : Int32) (0 : Int32)))), (0, .ref (g.2.2 100)), (1, .int (a1)), (2, .int (a2)), (3, .int (a3))]) hx hb dX12_looks_114 hl (by decide) rfl (fun ls hl => ?_)
  have j114_h5 : 0 ≤ ((216 : Int32) + ((140 : Int32) * (σ 1 7))).toInt ∧ ((216 : Int32) + ((140 : Int32) * (σ 1 7))).toInt ≤ 776 := h7_b hI
  have j114_h4 : 0 ≤ (f_X12_tellsOf σ (211 : Int32) (0 : Int32)).toInt ∧ (f_X12_tellsOf σ (211 : Int32) (0 : Int32)).toInt ≤ 140 := tm_b hI
  have j114_h6 : 0 ≤ (0 : Int32).toInt ∧ (0 : Int32).toInt ≤ 60 := by
    have : ((216 : Int32)).toInt = 216 := by decide
    have : ((140 : Int32)).toInt = 140 := by decide
    have : ((0 : Int32)).toInt = 0 := by decide
    try have := ti_mulR (a := (140 : Int32)) (b := (σ 1 7)) (n := 140) (by decide) (by omega) (by omega)
    try have := ti_add (a := (216 : Int32)) (b := ((140 : Int32) * (σ 1 7))) (by omega) (by omega)
    omega
  have j114_h7 : ((216 : Int32) + ((140 : Int32) * (σ 1 7))).toInt ≤ ((216 : Int32) + ((140 : Int32) * (σ 1 7))).toInt ∧ ((216 : Int32) + ((140 : Int32) * (σ 1 7))).toInt ≤ ((216 : Int32) + ((140 : Int32) * (σ 1 7))).toInt + (f_X12_tellsOf σ (211 : Int32) (0 : Int32)).toInt := ⟨Int.le_refl _, by have q := tm_b hI; exact Int.le_add_of_nonneg_right q.1⟩
  have j114_hcv : cv (σ 1) (((216 : Int32) + ((140 : Int32) * (σ 1 7))).toInt + (f_X12_tellsOf σ (211 : Int32) (0 : Int32)).toInt - ((216 : Int32) + ((140 : Int32) * (σ 1 7))).toInt).toNat (ix ((216 : Int32) + ((140 : Int32) * (σ 1 7)))) (0 : Int32).toInt.toNat := cv_start hV
  have j114_m : (((216 : Int32) + ((140 : Int32) * (σ 1 7))).toInt + (f_X12_tellsOf σ (211 : Int32) (0 : Int32)).toInt - ((216 : Int32) + ((140 : Int32) * (σ 1 7))).toInt).toNat < 141 := by
    have q := tm_b hI; have q2 : (f_X12_tellsOf σ 211 0).toInt ≤ 140 := q.2; omega
  exact l_X12_looks_116  C0   (141) (up2 (up2 (up2 (up2 (up2 (up2 (up2 (up2 σ 9 0 a1) 9 1 (σ 1 (ix ((9 : Int32) + a1)))) 9 2 (σ 1 (ix ((15 : Int32) + a1)))) 9 3 ((σ 1 (ix ((21 : Int32) + a1))) / (10 : Int32))) 9 4 (a3 - a3 / (10 : Int32) * (10 : Int32))) 9 5 a2) 11 0 (0 : Int32)) 12 0 (0 : Int32)) (f_X12_tellsOf σ (211 : Int32) (0 : Int32)) ((216 : Int32) + ((140 : Int32) * (σ 1 7))) (0 : Int32) ((216 : Int32) + ((140 : Int32) * (σ 1 7))) hI j114_h5 j114_h4 j114_h6 j114_h7 j114_hcv j114_m hK hC (lv_sub hl [4, 3, 2, 1, 0] rfl) hT
theorem looks_loop (n : Nat) : ∀ (σ : St) (a4 a5 a6 a7 : Int32), (g_X12_looks_116 n σ a4 a5 a6 a7) 1 = σ 1 := by
  induction n with
  | zero => intro σ a4 a5 a6 a7; rfl
  | succ n ih =>
    intro σ a4 a5 a6 a7
    show (f_X12_looks_116 (g_X12_looks_116 n) σ a4 a5 a6 a7) 1 = σ 1
    unfold f_X12_looks_116
    simp only [f_X12_looks_429]
    (repeat' split) <;> first | rfl | (rw [ih]; rfl)
theorem looks_1 (σ : St) (a b c : Int32) : (f_X12_looks σ a b c) 1 = σ 1 := by
  unfold f_X12_looks
  rw [looks_loop]
  rfl
