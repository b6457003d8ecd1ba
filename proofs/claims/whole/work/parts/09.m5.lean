
theorem cv_agree {f f' : Nat → Int32} (n : Nat) : ∀ (i t : Nat), (∀ j, i ≤ j → f' j = f j) → cv f n i t → cv f' n i t := by
  induction n with
  | zero => intro i t _ _; trivial
  | succ n ih =>
    intro i t h hc
    unfold cv at hc ⊢
    rw [h i (Nat.le_refl _)]
    have hn : ∀ j, i + 1 ≤ j → f' j = f j := fun j hj => h j (by omega)
    split
    · rename_i c1
      rw [if_pos c1] at hc
      split
      · rename_i c2
        rw [if_pos c2] at hc
        exact ⟨hc.1, ih _ _ hn hc.2⟩
      · rename_i c2
        rw [if_neg c2] at hc
        split
        · rename_i c3
          rw [if_pos c3] at hc
          exact ih _ _ hn hc
        · rename_i c3
          rw [if_neg c3] at hc
          exact ⟨hc.1, ih _ _ hn hc.2⟩
    · rename_i c1
      rw [if_neg c1] at hc
      exact ⟨hc.1, hc.2.1, ih _ _ hn hc.2.2⟩
theorem HV_agree {f f' : Nat → Int32} (hI : IB f) (h7 : f' 7 = f 7) (h : ∀ j, 211 ≤ j → f' j = f j) (hV : HV f) : HV f' := by
  obtain ⟨-, -, i2, -, -, -, -, i7, -⟩ := id hI
  rcases hV with q | q
  · exact Or.inl (by rw [h7]; exact q)
  by_cases q1 : f 7 = -1
  · exact Or.inl (by rw [h7]; exact q1)
  refine Or.inr ?_
  have q1 := mt ti_eq.mpr q1
  rw [show (-1 : Int32).toInt = -1 from rfl] at q1
  have e1 : (140 : Int32).toInt = 140 := rfl
  have e2 : (216 : Int32).toInt = 216 := rfl
  have m1 := ti_mulR (a := 140) (b := f 7) (n := 140) rfl (by omega) (by omega)
  have m2 := ti_add (a := 216) (b := 140 * f 7) (by omega) (by omega)
  have m3 := ti_ix (i := 216 + 140 * f 7) (by omega)
  rw [h7, h _ (show 211 ≤ ix (211 + f 7) by rw [ixl (n := 211) (e := 211) (a := f 7) rfl (by omega) (by omega) (by omega)]; omega)]
  exact cv_agree _ _ _ (fun j hj => h j (by omega)) q
theorem IB_goes {f : Nat → Int32} {v : Int32} (hI : IB f) (h : 0 ≤ v.toInt ∧ v.toInt ≤ 9930) : IB (upd f 8 v) := by
  have e : ∀ j, j ≠ 8 → upd f 8 v j = f j := fun j hj => by simp [upd, hj]
  have e8 : upd f 8 v 8 = v := by simp [upd]
  obtain ⟨i0, i1, i2, i3, i4, i5, i6, i7, i8, iK, iV, iL, iR, iW, iY, iG, iM, iB, iQ, iP, iT, iU⟩ := hI
  unfold IB
  rw [e8, e 0 (by decide), e 1 (by decide), e 2 (by decide), e 3 (by decide), e 4 (by decide), e 5 (by decide), e 6 (by decide), e 7 (by decide)]
  refine ⟨i0, i1, i2, i3, i4, i5, i6, i7, h, ?_, ?_, ?_, ?_, ?_, ?_, ?_, ?_, ?_, ?_, ?_, ?_, ?_⟩ <;> intro i hi <;> (try rw [e _ (by omega), e _ (by omega)]) <;> (try rw [e _ (by omega)])
  · exact iK i hi
  · exact iV i hi
  · exact iL i hi
  · exact iR i hi
  · exact iW i hi
  · exact iY i hi
  · exact iG i hi
  · exact iM i hi
  · exact iB i hi
  · exact iQ i hi
  · exact iP i hi
  · exact iT i hi
  · exact iU i hi
set_option maxRecDepth 20000 in
theorem w_980 : (Cond.fieldLink RX12 143 RX12 "middle" "I") ∈ TB := inTB (List.mem_of_getElem? (i := 980) (by decide +kernel)) (by decide +kernel)
set_option maxRecDepth 20000 in
theorem w_981 : (Cond.fieldLink RX12 146 RX12 "slack" "I") ∈ TB := inTB (List.mem_of_getElem? (i := 981) (by decide +kernel)) (by decide +kernel)
set_option maxRecDepth 20000 in
theorem w_982 : (Cond.fieldLink RX12 155 RX12 "least" "I") ∈ TB := inTB (List.mem_of_getElem? (i := 982) (by decide +kernel)) (by decide +kernel)
set_option maxRecDepth 20000 in
theorem w_983 : (Cond.fieldLink RX12 158 RX12 "most" "I") ∈ TB := inTB (List.mem_of_getElem? (i := 983) (by decide +kernel)) (by decide +kernel)
set_option maxRecDepth 20000 in
theorem w_1175 : (Cond.methodLink RX12 139 yX12_looks) ∈ TB := inTB (List.mem_of_getElem? (i := 1175) (by decide +kernel)) (by decide +kernel)
set_option maxRecDepth 20000 in
theorem w_1178 : (Cond.code yX12_looks cX12_looks 12 none) ∈ TB := inTB (List.mem_of_getElem? (i := 1178) (by decide +kernel)) (by decide +kernel)
set_option maxRecDepth 20000 in
theorem w_1177 : (Cond.instanceMethod yX12_looks) ∈ TB := inTB (List.mem_of_getElem? (i := 1177) (by decide +kernel)) (by decide +kernel)
set_option maxRecDepth 20000 in
theorem w_54 : (Cond.selects RX12 yX12_looks yX12_looks) ∈ TB := inTB (List.mem_of_getElem? (i := 54) (by decide +kernel)) (by decide +kernel)
theorem cf_X12_looks : CF yX12_looks cX12_looks 12 none 3 := ⟨w_1177, w_54, w_75, w_1178, by decide +kernel, by decide +kernel, by decide +kernel⟩
/-! ThreeMeasuresModel.sets -/
theorem dX12_sets_0 : decode cX12_sets 0 = .ok (.aload_n 0, 1) := by decide +kernel
theorem dX12_sets_1 : decode cX12_sets 1 = .ok (.iload_n 1, 1) := by decide +kernel
theorem dX12_sets_2 : decode cX12_sets 2 = .ok (.iload_n 2, 1) := by decide +kernel
theorem dX12_sets_3 : decode cX12_sets 3 = .ok (.iload_n 3, 1) := by decide +kernel
theorem dX12_sets_4 : decode cX12_sets 4 = .ok (.invokevirtual 139, 3) := by decide +kernel
theorem dX12_sets_7 : decode cX12_sets 7 = .ok (.aload_n 0, 1) := by decide +kernel
theorem dX12_sets_8 : decode cX12_sets 8 = .ok (.getfield 9, 3) := by decide +kernel
theorem dX12_sets_11 : decode cX12_sets 11 = .ok (.bipush 9, 2) := by decide +kernel
theorem dX12_sets_13 : decode cX12_sets 13 = .ok (.iload_n 1, 1) := by decide +kernel
theorem dX12_sets_14 : decode cX12_sets 14 = .ok (.iadd, 1) := by decide +kernel
theorem dX12_sets_15 : decode cX12_sets 15 = .ok (.iaload, 1) := by decide +kernel
theorem dX12_sets_16 : decode cX12_sets 16 = .ok (.istore 4, 2) := by decide +kernel
theorem dX12_sets_18 : decode cX12_sets 18 = .ok (.aload_n 0, 1) := by decide +kernel
theorem dX12_sets_19 : decode cX12_sets 19 = .ok (.getfield 9, 3) := by decide +kernel
theorem dX12_sets_22 : decode cX12_sets 22 = .ok (.bipush 21, 2) := by decide +kernel
theorem dX12_sets_24 : decode cX12_sets 24 = .ok (.iload_n 1, 1) := by decide +kernel
theorem dX12_sets_25 : decode cX12_sets 25 = .ok (.iadd, 1) := by decide +kernel
theorem dX12_sets_26 : decode cX12_sets 26 = .ok (.iaload, 1) := by decide +kernel
theorem dX12_sets_27 : decode cX12_sets 27 = .ok (.istore 5, 2) := by decide +kernel
theorem dX12_sets_29 : decode cX12_sets 29 = .ok (.aload_n 0, 1) := by decide +kernel
theorem dX12_sets_30 : decode cX12_sets 30 = .ok (.getfield 9, 3) := by decide +kernel
theorem dX12_sets_33 : decode cX12_sets 33 = .ok (.bipush 15, 2) := by decide +kernel
theorem dX12_sets_35 : decode cX12_sets 35 = .ok (.iload_n 1, 1) := by decide +kernel
theorem dX12_sets_36 : decode cX12_sets 36 = .ok (.iadd, 1) := by decide +kernel
theorem dX12_sets_37 : decode cX12_sets 37 = .ok (.iaload, 1) := by decide +kernel
theorem dX12_sets_38 : decode cX12_sets 38 = .ok (.istore 6, 2) := by decide +kernel
theorem dX12_sets_40 : decode cX12_sets 40 = .ok (.aload_n 0, 1) := by decide +kernel
theorem dX12_sets_41 : decode cX12_sets 41 = .ok (.iload_n 3, 1) := by decide +kernel
theorem dX12_sets_42 : decode cX12_sets 42 = .ok (.iload 5, 2) := by decide +kernel
theorem dX12_sets_44 : decode cX12_sets 44 = .ok (.imul, 1) := by decide +kernel
theorem dX12_sets_45 : decode cX12_sets 45 = .ok (.putfield 143, 3) := by decide +kernel
theorem dX12_sets_48 : decode cX12_sets 48 = .ok (.aload_n 0, 1) := by decide +kernel
theorem dX12_sets_49 : decode cX12_sets 49 = .ok (.iconst 1, 1) := by decide +kernel
theorem dX12_sets_50 : decode cX12_sets 50 = .ok (.aload_n 0, 1) := by decide +kernel
theorem dX12_sets_51 : decode cX12_sets 51 = .ok (.getfield 129, 3) := by decide +kernel
theorem dX12_sets_54 : decode cX12_sets 54 = .ok (.iadd, 1) := by decide +kernel
theorem dX12_sets_55 : decode cX12_sets 55 = .ok (.iload 4, 2) := by decide +kernel
theorem dX12_sets_57 : decode cX12_sets 57 = .ok (.iconst 3, 1) := by decide +kernel
theorem dX12_sets_58 : decode cX12_sets 58 = .ok (.if_icmp .eq 10, 3) := by decide +kernel
theorem dX12_sets_61 : decode cX12_sets 61 = .ok (.iload 4, 2) := by decide +kernel
theorem dX12_sets_63 : decode cX12_sets 63 = .ok (.bipush 6, 2) := by decide +kernel
theorem dX12_sets_65 : decode cX12_sets 65 = .ok (.if_icmp .ne 8, 3) := by decide +kernel
theorem dX12_sets_68 : decode cX12_sets 68 = .ok (.iload 6, 2) := by decide +kernel
theorem dX12_sets_70 : decode cX12_sets 70 = .ok (.goto 14, 3) := by decide +kernel
theorem dX12_sets_73 : decode cX12_sets 73 = .ok (.iload 4, 2) := by decide +kernel
theorem dX12_sets_75 : decode cX12_sets 75 = .ok (.iconst 4, 1) := by decide +kernel
theorem dX12_sets_76 : decode cX12_sets 76 = .ok (.if_icmp .ne 7, 3) := by decide +kernel
theorem dX12_sets_79 : decode cX12_sets 79 = .ok (.iconst 1, 1) := by decide +kernel
theorem dX12_sets_80 : decode cX12_sets 80 = .ok (.goto 4, 3) := by decide +kernel
theorem dX12_sets_83 : decode cX12_sets 83 = .ok (.iconst 0, 1) := by decide +kernel
theorem dX12_sets_84 : decode cX12_sets 84 = .ok (.iadd, 1) := by decide +kernel
theorem dX12_sets_85 : decode cX12_sets 85 = .ok (.putfield 146, 3) := by decide +kernel
theorem dX12_sets_88 : decode cX12_sets 88 = .ok (.iload 4, 2) := by decide +kernel
theorem dX12_sets_90 : decode cX12_sets 90 = .ok (.tableswitch 135 1 6 #[38, 61, 135, 38, 83, 108], 38) := by decide +kernel
theorem dX12_sets_128 : decode cX12_sets 128 = .ok (.aload_n 0, 1) := by decide +kernel
theorem dX12_sets_129 : decode cX12_sets 129 = .ok (.dup, 1) := by decide +kernel
theorem dX12_sets_130 : decode cX12_sets 130 = .ok (.getfield 143, 3) := by decide +kernel
theorem dX12_sets_133 : decode cX12_sets 133 = .ok (.iload_n 3, 1) := by decide +kernel
theorem dX12_sets_134 : decode cX12_sets 134 = .ok (.iload 5, 2) := by decide +kernel
theorem dX12_sets_136 : decode cX12_sets 136 = .ok (.aload_n 0, 1) := by decide +kernel
theorem dX12_sets_137 : decode cX12_sets 137 = .ok (.getfield 132, 3) := by decide +kernel
theorem dX12_sets_140 : decode cX12_sets 140 = .ok (.invokestatic 149, 3) := by decide +kernel
theorem dX12_sets_143 : decode cX12_sets 143 = .ok (.imul, 1) := by decide +kernel
theorem dX12_sets_144 : decode cX12_sets 144 = .ok (.isub, 1) := by decide +kernel
theorem dX12_sets_145 : decode cX12_sets 145 = .ok (.putfield 143, 3) := by decide +kernel
theorem dX12_sets_148 : decode cX12_sets 148 = .ok (.goto 77, 3) := by decide +kernel
theorem dX12_sets_151 : decode cX12_sets 151 = .ok (.aload_n 0, 1) := by decide +kernel
theorem dX12_sets_152 : decode cX12_sets 152 = .ok (.dup, 1) := by decide +kernel
theorem dX12_sets_153 : decode cX12_sets 153 = .ok (.getfield 143, 3) := by decide +kernel
theorem dX12_sets_156 : decode cX12_sets 156 = .ok (.iload_n 3, 1) := by decide +kernel
theorem dX12_sets_157 : decode cX12_sets 157 = .ok (.ifCond .le 8, 3) := by decide +kernel
theorem dX12_sets_160 : decode cX12_sets 160 = .ok (.iload 6, 2) := by decide +kernel
theorem dX12_sets_162 : decode cX12_sets 162 = .ok (.goto 4, 3) := by decide +kernel
theorem dX12_sets_165 : decode cX12_sets 165 = .ok (.iconst 0, 1) := by decide +kernel
theorem dX12_sets_166 : decode cX12_sets 166 = .ok (.isub, 1) := by decide +kernel
theorem dX12_sets_167 : decode cX12_sets 167 = .ok (.putfield 143, 3) := by decide +kernel
theorem dX12_sets_170 : decode cX12_sets 170 = .ok (.goto 55, 3) := by decide +kernel
theorem dX12_sets_173 : decode cX12_sets 173 = .ok (.aload_n 0, 1) := by decide +kernel
theorem dX12_sets_174 : decode cX12_sets 174 = .ok (.dup, 1) := by decide +kernel
theorem dX12_sets_175 : decode cX12_sets 175 = .ok (.getfield 143, 3) := by decide +kernel
theorem dX12_sets_178 : decode cX12_sets 178 = .ok (.iload_n 3, 1) := by decide +kernel
theorem dX12_sets_179 : decode cX12_sets 179 = .ok (.iload 6, 2) := by decide +kernel
theorem dX12_sets_181 : decode cX12_sets 181 = .ok (.imul, 1) := by decide +kernel
theorem dX12_sets_182 : decode cX12_sets 182 = .ok (.iconst 2, 1) := by decide +kernel
theorem dX12_sets_183 : decode cX12_sets 183 = .ok (.idiv, 1) := by decide +kernel
theorem dX12_sets_184 : decode cX12_sets 184 = .ok (.iload 5, 2) := by decide +kernel
theorem dX12_sets_186 : decode cX12_sets 186 = .ok (.iload_n 3, 1) := by decide +kernel
theorem dX12_sets_187 : decode cX12_sets 187 = .ok (.imul, 1) := by decide +kernel
theorem dX12_sets_188 : decode cX12_sets 188 = .ok (.invokestatic 149, 3) := by decide +kernel
theorem dX12_sets_191 : decode cX12_sets 191 = .ok (.isub, 1) := by decide +kernel
theorem dX12_sets_192 : decode cX12_sets 192 = .ok (.putfield 143, 3) := by decide +kernel
theorem dX12_sets_195 : decode cX12_sets 195 = .ok (.goto 30, 3) := by decide +kernel
theorem dX12_sets_198 : decode cX12_sets 198 = .ok (.aload_n 0, 1) := by decide +kernel
theorem dX12_sets_199 : decode cX12_sets 199 = .ok (.dup, 1) := by decide +kernel
theorem dX12_sets_200 : decode cX12_sets 200 = .ok (.getfield 143, 3) := by decide +kernel
theorem dX12_sets_203 : decode cX12_sets 203 = .ok (.aload_n 0, 1) := by decide +kernel
theorem dX12_sets_204 : decode cX12_sets 204 = .ok (.getfield 9, 3) := by decide +kernel
theorem dX12_sets_207 : decode cX12_sets 207 = .ok (.bipush 27, 2) := by decide +kernel
theorem dX12_sets_209 : decode cX12_sets 209 = .ok (.iconst 4, 1) := by decide +kernel
theorem dX12_sets_210 : decode cX12_sets 210 = .ok (.iload_n 1, 1) := by decide +kernel
theorem dX12_sets_211 : decode cX12_sets 211 = .ok (.imul, 1) := by decide +kernel
theorem dX12_sets_212 : decode cX12_sets 212 = .ok (.iadd, 1) := by decide +kernel
theorem dX12_sets_213 : decode cX12_sets 213 = .ok (.iload_n 3, 1) := by decide +kernel
theorem dX12_sets_214 : decode cX12_sets 214 = .ok (.iconst 4, 1) := by decide +kernel
theorem dX12_sets_215 : decode cX12_sets 215 = .ok (.irem, 1) := by decide +kernel
theorem dX12_sets_216 : decode cX12_sets 216 = .ok (.iadd, 1) := by decide +kernel
theorem dX12_sets_217 : decode cX12_sets 217 = .ok (.iaload, 1) := by decide +kernel
theorem dX12_sets_218 : decode cX12_sets 218 = .ok (.iadd, 1) := by decide +kernel
theorem dX12_sets_219 : decode cX12_sets 219 = .ok (.putfield 143, 3) := by decide +kernel
theorem dX12_sets_222 : decode cX12_sets 222 = .ok (.goto 3, 3) := by decide +kernel
theorem dX12_sets_225 : decode cX12_sets 225 = .ok (.aload_n 0, 1) := by decide +kernel
theorem dX12_sets_226 : decode cX12_sets 226 = .ok (.iconst 0, 1) := by decide +kernel
theorem dX12_sets_227 : decode cX12_sets 227 = .ok (.aload_n 0, 1) := by decide +kernel
theorem dX12_sets_228 : decode cX12_sets 228 = .ok (.getfield 143, 3) := by decide +kernel
theorem dX12_sets_231 : decode cX12_sets 231 = .ok (.invokestatic 152, 3) := by decide +kernel
theorem dX12_sets_234 : decode cX12_sets 234 = .ok (.putfield 143, 3) := by decide +kernel
theorem dX12_sets_237 : decode cX12_sets 237 = .ok (.aload_n 0, 1) := by decide +kernel
theorem dX12_sets_238 : decode cX12_sets 238 = .ok (.iconst 0, 1) := by decide +kernel
theorem dX12_sets_239 : decode cX12_sets 239 = .ok (.aload_n 0, 1) := by decide +kernel
theorem dX12_sets_240 : decode cX12_sets 240 = .ok (.getfield 143, 3) := by decide +kernel
theorem dX12_sets_243 : decode cX12_sets 243 = .ok (.iload_n 3, 1) := by decide +kernel
theorem dX12_sets_244 : decode cX12_sets 244 = .ok (.aload_n 0, 1) := by decide +kernel
theorem dX12_sets_245 : decode cX12_sets 245 = .ok (.getfield 146, 3) := by decide +kernel
theorem dX12_sets_248 : decode cX12_sets 248 = .ok (.imul, 1) := by decide +kernel
theorem dX12_sets_249 : decode cX12_sets 249 = .ok (.isub, 1) := by decide +kernel
theorem dX12_sets_250 : decode cX12_sets 250 = .ok (.invokestatic 152, 3) := by decide +kernel
theorem dX12_sets_253 : decode cX12_sets 253 = .ok (.putfield 155, 3) := by decide +kernel
theorem dX12_sets_256 : decode cX12_sets 256 = .ok (.aload_n 0, 1) := by decide +kernel
theorem dX12_sets_257 : decode cX12_sets 257 = .ok (.aload_n 0, 1) := by decide +kernel
theorem dX12_sets_258 : decode cX12_sets 258 = .ok (.getfield 143, 3) := by decide +kernel
theorem dX12_sets_261 : decode cX12_sets 261 = .ok (.iload_n 3, 1) := by decide +kernel
theorem dX12_sets_262 : decode cX12_sets 262 = .ok (.aload_n 0, 1) := by decide +kernel
theorem dX12_sets_263 : decode cX12_sets 263 = .ok (.getfield 146, 3) := by decide +kernel
theorem dX12_sets_266 : decode cX12_sets 266 = .ok (.imul, 1) := by decide +kernel
theorem dX12_sets_267 : decode cX12_sets 267 = .ok (.iadd, 1) := by decide +kernel
theorem dX12_sets_268 : decode cX12_sets 268 = .ok (.putfield 158, 3) := by decide +kernel
theorem dX12_sets_271 : decode cX12_sets 271 = .ok (.return_, 1) := by decide +kernel
def f_X12_sets_225  (σ : St) (a3 : Int32) : St := (up2 (up2 (up2 σ 13 0 (f_X12_greater (0 : Int32) (σ 13 0))) 15 0 (f_X12_greater (0 : Int32) ((f_X12_greater (0 : Int32) (σ 13 0)) - (a3 * (σ 14 0))))) 16 0 ((f_X12_greater (0 : Int32) (σ 13 0)) + (a3 * (σ 14 0))))
set_option maxHeartbeats 600000 in
set_option maxRecDepth 100000 in
theorem b_X12_sets_225 {g : GG} {p : Program} {l : Launch} {e : Env} {s : State} {m : MethodId} {args : Array Value} {below : List Frame} {meth : Method} {c : Code} {A : Nat → Prop} {tgt : St}  (C0 : BC p s m args meth c cX12_sets RX12 7 none)  {σ : St} {a3 : Int32} {H : Heap} {locs : List Loc}   (hK : KK g s) (hC : WC g (mW g) A s.heap σ H locs) {ls : Array Slot} (hl : lv_has ls 7 [(0, .ref (g.2.2 100)), (3, .int (a3))]) (hT : f_X12_sets_225  σ a3 = tgt) : W p l e { frames := 2, cells := 0, slots := 0, locals := 53 } s m args below meth c H locs 0 0 (QMV below args s g (mW g) A tgt) (F0 m 225 ls []) := by
  obtain ⟨hx, hb, hr, hml, hown, hts, hlocks⟩ := id C0
  unfold f_X12_sets_225 at hT
  refine lv_aload_n hx hb dX12_sets_225 rfl (lv_at hl 0 rfl) ?_
  refine lv_iconst (v := (0 : Int32)) hx hb dX12_sets_226 (by decide) ?_
  refine lv_aload_n hx hb dX12_sets_227 rfl (lv_at hl 0 rfl) ?_
  refine m_get (σ := σ) (v := .int ((σ 13 0))) C0 hK hC.1 13 (by decide) rfl w_980 dX12_sets_228 ?_
  refine s_ci (rest := [.ref (g.2.2 100)]) (As := [.int ((0 : Int32)), .int ((σ 13 0))]) C0 cf_X12_greater w_1182 (k_X12_greater l (0 : Int32) (σ 13 0) ) ⟨by decide, by decide⟩ hl.1 rfl rfl (Nat.le_of_ble_eq_true rfl) dX12_sets_231 ⟨Nat.zero_le _, Nat.zero_le _⟩ ?_
  refine m_put (σ := σ) (ty := .int) C0 hK hC 13 (by decide) rfl rfl rfl rfl (ms_13 g _ _) w_980 dX12_sets_234 (fun H locs hC => ?_)
  refine lv_aload_n hx hb dX12_sets_237 rfl (lv_at hl 0 rfl) ?_
  refine lv_iconst (v := (0 : Int32)) hx hb dX12_sets_238 (by decide) ?_
  refine lv_aload_n hx hb dX12_sets_239 rfl (lv_at hl 0 rfl) ?_
  refine m_get (σ := (up2 σ 13 0 (f_X12_greater (0 : Int32) (σ 13 0)))) (v := .int ((f_X12_greater (0 : Int32) (σ 13 0)))) C0 hK hC.1 13 (by decide) rfl w_980 dX12_sets_240 ?_
  refine lv_iload_n hx hb dX12_sets_243 rfl (lv_at hl 1 rfl) ?_
  refine lv_aload_n hx hb dX12_sets_244 rfl (lv_at hl 0 rfl) ?_
  refine m_get (σ := (up2 σ 13 0 (f_X12_greater (0 : Int32) (σ 13 0)))) (v := .int ((σ 14 0))) C0 hK hC.1 14 (by decide) rfl w_981 dX12_sets_245 ?_
  refine lv_imul hx hb dX12_sets_248 ?_
  refine lv_isub hx hb dX12_sets_249 ?_
  refine s_ci (rest := [.ref (g.2.2 100)]) (As := [.int ((0 : Int32)), .int (((f_X12_greater (0 : Int32) (σ 13 0)) - (a3 * (σ 14 0))))]) C0 cf_X12_greater w_1182 (k_X12_greater l (0 : Int32) ((f_X12_greater (0 : Int32) (σ 13 0)) - (a3 * (σ 14 0))) ) ⟨by decide, by decide⟩ hl.1 rfl rfl (Nat.le_of_ble_eq_true rfl) dX12_sets_250 ⟨Nat.zero_le _, Nat.zero_le _⟩ ?_
  refine m_put (σ := (up2 σ 13 0 (f_X12_greater (0 : Int32) (σ 13 0)))) (ty := .int) C0 hK hC 15 (by decide) rfl rfl rfl rfl (ms_15 g _ _) w_982 dX12_sets_253 (fun H locs hC => ?_)
  refine lv_aload_n hx hb dX12_sets_256 rfl (lv_at hl 0 rfl) ?_
  refine lv_aload_n hx hb dX12_sets_257 rfl (lv_at hl 0 rfl) ?_
  refine m_get (σ := (up2 (up2 σ 13 0 (f_X12_greater (0 : Int32) (σ 13 0))) 15 0 (f_X12_greater (0 : Int32) ((f_X12_greater (0 : Int32) (σ 13 0)) - (a3 * (σ 14 0)))))) (v := .int ((f_X12_greater (0 : Int32) (σ 13 0)))) C0 hK hC.1 13 (by decide) rfl w_980 dX12_sets_258 ?_
  refine lv_iload_n hx hb dX12_sets_261 rfl (lv_at hl 1 rfl) ?_
  refine lv_aload_n hx hb dX12_sets_262 rfl (lv_at hl 0 rfl) ?_
  refine m_get (σ := (up2 (up2 σ 13 0 (f_X12_greater (0 : Int32) (σ 13 0))) 15 0 (f_X12_greater (0 : Int32) ((f_X12_greater (0 : Int32) (σ 13 0)) - (a3 * (σ 14 0)))))) (v := .int ((σ 14 0))) C0 hK hC.1 14 (by decide) rfl w_981 dX12_sets_263 ?_
  refine lv_imul hx hb dX12_sets_266 ?_
  refine lv_iadd hx hb dX12_sets_267 ?_
  refine m_put (σ := (up2 (up2 σ 13 0 (f_X12_greater (0 : Int32) (σ 13 0))) 15 0 (f_X12_greater (0 : Int32) ((f_X12_greater (0 : Int32) (σ 13 0)) - (a3 * (σ 14 0)))))) (ty := .int) C0 hK hC 16 (by decide) rfl rfl rfl rfl (ms_16 g _ _) w_983 dX12_sets_268 (fun H locs hC => ?_)
  exact ret_MV C0 hC hT dX12_sets_271
def f_X12_sets (σ : St) (a1 : Int32) (a2 : Int32) (a3 : Int32) : St := (bd1 (f_X12_looks σ a1 a2 a3) (fun u4 => (if (u4 1 (ix ((9 : Int32) + a1))) = (1 : Int32) then (f_X12_sets_225  (up2 (up2 (up2 u4 13 0 (a3 * (u4 1 (ix ((21 : Int32) + a1))))) 14 0 (((1 : Int32) + (u4 11 0)) + (if (u4 1 (ix ((9 : Int32) + a1))) = (3 : Int32) then (u4 1 (ix ((15 : Int32) + a1))) else (if (u4 1 (ix ((9 : Int32) + a1))) = (6 : Int32) then (u4 1 (ix ((15 : Int32) + a1))) else (if (u4 1 (ix ((9 : Int32) + a1))) = (4 : Int32) then (1 : Int32) else (0 : Int32)))))) 13 0 ((a3 * (u4 1 (ix ((21 : Int32) + a1)))) - (a3 * (f_X12_lesser (u4 1 (ix ((21 : Int32) + a1))) (u4 12 0))))) a3) else (if (u4 1 (ix ((9 : Int32) + a1))) = (2 : Int32) then (f_X12_sets_225  (up2 (up2 (up2 u4 13 0 (a3 * (u4 1 (ix ((21 : Int32) + a1))))) 14 0 (((1 : Int32) + (u4 11 0)) + (if (u4 1 (ix ((9 : Int32) + a1))) = (3 : Int32) then (u4 1 (ix ((15 : Int32) + a1))) else (if (u4 1 (ix ((9 : Int32) + a1))) = (6 : Int32) then (u4 1 (ix ((15 : Int32) + a1))) else (if (u4 1 (ix ((9 : Int32) + a1))) = (4 : Int32) then (1 : Int32) else (0 : Int32)))))) 13 0 ((a3 * (u4 1 (ix ((21 : Int32) + a1)))) - (if a3 ≤ 0 then (0 : Int32) else (u4 1 (ix ((15 : Int32) + a1)))))) a3) else (if (u4 1 (ix ((9 : Int32) + a1))) = (3 : Int32) then (f_X12_sets_225  (up2 (up2 u4 13 0 (a3 * (u4 1 (ix ((21 : Int32) + a1))))) 14 0 (((1 : Int32) + (u4 11 0)) + (if (u4 1 (ix ((9 : Int32) + a1))) = (3 : Int32) then (u4 1 (ix ((15 : Int32) + a1))) else (if (u4 1 (ix ((9 : Int32) + a1))) = (6 : Int32) then (u4 1 (ix ((15 : Int32) + a1))) else (if (u4 1 (ix ((9 : Int32) + a1))) = (4 : Int32) then (1 : Int32) else (0 : Int32)))))) a3) else (if (u4 1 (ix ((9 : Int32) + a1))) = (4 : Int32) then (f_X12_sets_225  (up2 (up2 (up2 u4 13 0 (a3 * (u4 1 (ix ((21 : Int32) + a1))))) 14 0 (((1 : Int32) + (u4 11 0)) + (if (u4 1 (ix ((9 : Int32) + a1))) = (3 : Int32) then (u4 1 (ix ((15 : Int32) + a1))) else (if (u4 1 (ix ((9 : Int32) + a1))) = (6 : Int32) then (u4 1 (ix ((15 : Int32) + a1))) else (if (u4 1 (ix ((9 : Int32) + a1))) = (4 : Int32) then (1 : Int32) else (0 : Int32)))))) 13 0 ((a3 * (u4 1 (ix ((21 : Int32) + a1)))) - (a3 * (f_X12_lesser (u4 1 (ix ((21 : Int32) + a1))) (u4 12 0))))) a3) else (if (u4 1 (ix ((9 : Int32) + a1))) = (5 : Int32) then (f_X12_sets_225  (up2 (up2 (up2 u4 13 0 (a3 * (u4 1 (ix ((21 : Int32) + a1))))) 14 0 (((1 : Int32) + (u4 11 0)) + (if (u4 1 (ix ((9 : Int32) + a1))) = (3 : Int32) then (u4 1 (ix ((15 : Int32) + a1))) else (if (u4 1 (ix ((9 : Int32) + a1))) = (6 : Int32) then (u4 1 (ix ((15 : Int32) + a1))) else (if (u4 1 (ix ((9 : Int32) + a1))) = (4 : Int32) then (1 : Int32) else (0 : Int32)))))) 13 0 ((a3 * (u4 1 (ix ((21 : Int32) + a1)))) - (f_X12_lesser ((a3 * (u4 1 (ix ((15 : Int32) + a1)))) / (2 : Int32)) ((u4 1 (ix ((21 : Int32) + a1))) * a3)))) a3) else (if (u4 1 (ix ((9 : Int32) + a1))) = (6 : Int32) then (f_X12_sets_225  (up2 (up2 (up2 u4 13 0 (a3 * (u4 1 (ix ((21 : Int32) + a1))))) 14 0 (((1 : Int32) + (u4 11 0)) + (if (u4 1 (ix ((9 : Int32) + a1))) = (3 : Int32) then (u4 1 (ix ((15 : Int32) + a1))) else (if (u4 1 (ix ((9 : Int32) + a1))) = (6 : Int32) then (u4 1 (ix ((15 : Int32) + a1))) else (if (u4 1 (ix ((9 : Int32) + a1))) = (4 : Int32) then (1 : Int32) else (0 : Int32)))))) 13 0 ((a3 * (u4 1 (ix ((21 : Int32) + a1)))) + (u4 1 (ix (((27 : Int32) + ((4 : Int32) * a1)) + (a3 - a3 / (4 : Int32) * (4 : Int32))))))) a3) else (f_X12_sets_225  (up2 (up2 u4 13 0 (a3 * (u4 1 (ix ((21 : Int32) + a1))))) 14 0 (((1 : Int32) + (u4 11 0)) + (if (u4 1 (ix ((9 : Int32) + a1))) = (3 : Int32) then (u4 1 (ix ((15 : Int32) + a1))) else (if (u4 1 (ix ((9 : Int32) + a1))) = (6 : Int32) then (u4 1 (ix ((15 : Int32) + a1))) else (if (u4 1 (ix ((9 : Int32) + a1))) = (4 : Int32) then (1 : Int32) else (0 : Int32)))))) a3)))))))))
set_option maxHeartbeats 600000 in
set_option maxRecDepth 100000 in
theorem k_X12_sets (l : Launch) (g : GG) (σ : St) (a1 : Int32) (a2 : Int32) (a3 : Int32) (hI : IB (σ 1)) (hV : HV (σ 1)) (h1 : 0 ≤ a1.toInt) (h1b : a1.toInt < 6) (h3 : 0 ≤ a3.toInt) : MV l yX12_sets (wsF yX12_sets cX12_sets 7 none) { frames := 2, cells := 0, slots := 0, locals := 53 } [.ref (g.2.2 100), .int (a1), .int (a2), .int (a3)] g (mW g) (fun _ => True) σ (f_X12_sets σ a1 a2 a3) := by
  refine start_MV (by decide) (Nat.le_of_ble_eq_true rfl) ?_
  intro p e s m args below meth c C0 hK hBg hC ls hl
  generalize hAe : aA ((mW g) σ) = A at hC ⊢
  obtain ⟨hx, hb, hr, hml, hown, hts, hlocks⟩ := id C0
  have hl : lv_has ls 7 [(0, .ref (g.2.2 100)), (1, .int (a1)), (2, .int (a2)), (3, .int (a3))] := hl
  generalize hT : (f_X12_sets σ a1 a2 a3) = tgt
  suffices key : ∀ (H : Heap) (locs : List Loc), WC g (mW g) A s.heap σ H locs → W p l e { frames := 2, cells := 0, slots := 0, locals := 53 } s m args below meth c H locs 0 0 (QMV below args s g (mW g) A tgt) (F0 m 0 ls []) from key _ _ hC
  intro H locs hC
  unfold f_X12_sets at hT
  refine lv_aload_n hx hb dX12_sets_0 rfl (lv_at hl 0 rfl) ?_
  refine lv_iload_n hx hb dX12_sets_1 rfl (lv_at hl 1 rfl) ?_
  refine lv_iload_n hx hb dX12_sets_2 rfl (lv_at hl 2 rfl) ?_
  refine lv_iload_n hx hb dX12_sets_3 rfl (lv_at hl 3 rfl) ?_
  refine m_mv (rest := []) (As := [.int (a1), .int (a2), .int (a3)]) (σ := σ) C0 hK hC SV.tt (fun _ _ _ => trivial) cf_X12_looks w_1175 rfl (k_X12_looks l g σ a1 a2 a3 hI hV h1 h1b) ⟨by decide, by decide⟩ hl.1 rfl rfl (Nat.le_of_ble_eq_true rfl) dX12_sets_4 ⟨Nat.zero_le _, Nat.zero_le _⟩ (fun u4 H locs e4 hC => ?_)
  have hT := bd1_e e4 hT
  have z4 : u4 1 = σ 1 := by
    rw [e4]
    exact looks_1 _ _ _ _
  refine lv_aload_n hx hb dX12_sets_7 rfl (lv_at hl 0 rfl) ?_
  refine m_get (σ := u4) (v := .ref (g.2.2 1)) C0 hK hC.1 1 (by decide) rfl w_968 dX12_sets_8 ?_
  refine lv_bipush (v := (9 : Int32)) hx hb dX12_sets_11 (by decide) ?_
  refine lv_iload_n hx hb dX12_sets_13 rfl (lv_at hl 1 rfl) ?_
  refine lv_iadd hx hb dX12_sets_14 ?_
  have o_15 : vp_in ((9 : Int32) + a1) 916 := by
    have : ((9 : Int32)).toInt = 9 := by decide
    try have := ti_add (a := (9 : Int32)) (b := a1) (by omega) (by omega)
    exact vin (by omega) (by omega)
  refine m_ald (σ := u4) C0 hK hC.1 1 1 916 rfl o_15 (ix ((9 : Int32) + a1)) rfl dX12_sets_15 ?_
  refine lv_istore (lv' := [(4, .int ((u4 1 (ix ((9 : Int32) + a1))))), (0, .ref (g.2.2 100)), (1, .int (a1)), (2, .int (a2)), (3, .int (a3))]) hx hb dX12_sets_16 hl (by decide) rfl (fun ls hl => ?_)
  refine lv_aload_n hx hb dX12_sets_18 rfl (lv_at hl 1 rfl) ?_
  refine m_get (σ := u4) (v := .ref (g.2.2 1)) C0 hK hC.1 1 (by decide) rfl w_968 dX12_sets_19 ?_
  refine lv_bipush (v := (21 : Int32)) hx hb dX12_sets_22 (by decide) ?_
  refine lv_iload_n hx hb dX12_sets_24 rfl (lv_at hl 2 rfl) ?_
  refine lv_iadd hx hb dX12_sets_25 ?_
  have o_26 : vp_in ((21 : Int32) + a1) 916 := by
    have : ((21 : Int32)).toInt = 21 := by decide
    try have := ti_add (a := (21 : Int32)) (b := a1) (by omega) (by omega)
    exact vin (by omega) (by omega)
  refine m_ald (σ := u4) C0 hK hC.1 1 1 916 rfl o_26 (ix ((21 : Int32) + a1)) rfl dX12_sets_26 ?_
  refine lv_istore (lv' := [(5, .int ((u4 1 (ix ((21 : Int32) + a1))))), (4, .int ((u4 1 (ix ((9 : Int32) + a1))))), (0, .ref (g.2.2 100)), (1, .int (a1)), (2, .int (a2)), (3, .int (a3))]) hx hb dX12_sets_27 hl (by decide) rfl (fun ls hl => ?_)
  refine lv_aload_n hx hb dX12_sets_29 rfl (lv_at hl 2 rfl) ?_
  refine m_get (σ := u4) (v := .ref (g.2.2 1)) C0 hK hC.1 1 (by decide) rfl w_968 dX12_sets_30 ?_
  refine lv_bipush (v := (15 : Int32)) hx hb dX12_sets_33 (by decide) ?_
  refine lv_iload_n hx hb dX12_sets_35 rfl (lv_at hl 3 rfl) ?_
  refine lv_iadd hx hb dX12_sets_36 ?_
  have o_37 : vp_in ((15 : Int32) + a1) 916 := by
    have : ((15 : Int32)).toInt = 15 := by decide
    try have := ti_add (a := (15 : Int32)) (b := a1) (by omega) (by omega)
    exact vin (by omega) (by omega)
  refine m_ald (σ := u4) C0 hK hC.1 1 1 916 rfl o_37 (ix ((15 : Int32) + a1)) rfl dX12_sets_37 ?_
  refine lv_istore (lv' := [(6, .int ((u4 1 (ix ((15 : Int32) + a1))))), (5, .int ((u4 1 (ix ((21 : Int32) + a1))))), (4, .int ((u4 1 (ix ((9 : Int32) + a1))))), (0, .ref (g.2.2 100)), (1, .int (a1)), (2, .int (a2)), (3, .int (a3))]) hx hb dX12_sets_38 hl (by decide) rfl (fun ls hl => ?_)
  refine lv_aload_n hx hb dX12_sets_40 rfl (lv_at hl 3 rfl) ?_
  refine lv_iload_n hx hb dX12_sets_41 rfl (lv_at hl 6 rfl) ?_
  refine lv_iload hx hb dX12_sets_42 (lv_at hl 1 rfl) ?_
  refine lv_imul hx hb dX12_sets_44 ?_
  refine m_put (σ := u4) (ty := .int) C0 hK hC 13 (by decide) rfl rfl rfl rfl (ms_13 g _ _) w_980 dX12_sets_45 (fun H locs hC => ?_)
  refine lv_aload_n hx hb dX12_sets_48 rfl (lv_at hl 3 rfl) ?_
  refine lv_iconst (v := (1 : Int32)) hx hb dX12_sets_49 (by decide) ?_
  refine lv_aload_n hx hb dX12_sets_50 rfl (lv_at hl 3 rfl) ?_
  refine m_get (σ := (up2 u4 13 0 (a3 * (u4 1 (ix ((21 : Int32) + a1)))))) (v := .int ((u4 11 0))) C0 hK hC.1 11 (by decide) rfl w_978 dX12_sets_51 ?_
  refine lv_iadd hx hb dX12_sets_54 ?_
  refine lv_iload hx hb dX12_sets_55 (lv_at hl 2 rfl) ?_
  refine lv_iconst (v := (3 : Int32)) hx hb dX12_sets_57 (by decide) ?_
  have J58 : ∀ v : Int32, v = (if (u4 1 (ix ((9 : Int32) + a1))) = (3 : Int32) then (u4 1 (ix ((15 : Int32) + a1))) else (if (u4 1 (ix ((9 : Int32) + a1))) = (6 : Int32) then (u4 1 (ix ((15 : Int32) + a1))) else (if (u4 1 (ix ((9 : Int32) + a1))) = (4 : Int32) then (1 : Int32) else (0 : Int32)))) → W p l e { frames := 2, cells := 0, slots := 0, locals := 53 } s m args below meth c H locs 0 0 (QMV below args s g (mW g) A tgt) (F0 m 84 ls [.int (v), .int (((1 : Int32) + (u4 11 0))), .ref (g.2.2 100)]) := by
    intro v ev
    subst ev
    refine lv_iadd hx hb dX12_sets_84 ?_
    refine m_put (σ := (up2 u4 13 0 (a3 * (u4 1 (ix ((21 : Int32) + a1)))))) (ty := .int) C0 hK hC 14 (by decide) rfl rfl rfl rfl (ms_14 g _ _) w_981 dX12_sets_85 (fun H locs hC => ?_)
    refine lv_iload hx hb dX12_sets_88 (lv_at hl 2 rfl) ?_
    by_cases c_90_1 : (u4 1 (ix ((9 : Int32) + a1))) = (1 : Int32)
    · have hT := hT_pos c_90_1 hT
      refine lv_tableIn (tgt := 128) hx hb dX12_sets_90 (by rw [c_90_1]; decide) (by rw [c_90_1]; decide) (by rw [c_90_1]; rfl) (by decide) ?_
      refine lv_aload_n hx hb dX12_sets_128 rfl (lv_at hl 3 rfl) ?_
      refine lv_dup hx hb dX12_sets_129 rfl ?_
      refine m_get (σ := (up2 (up2 u4 13 0 (a3 * (u4 1 (ix ((21 : Int32) + a1))))) 14 0 (((1 : Int32) + (u4 11 0)) + (if (u4 1 (ix ((9 : Int32) + a1))) = (3 : Int32) then (u4 1 (ix ((15 : Int32) + a1))) else (if (u4 1 (ix ((9 : Int32) + a1))) = (6 : Int32) then (u4 1 (ix ((15 : Int32) + a1))) else (if (u4 1 (ix ((9 : Int32) + a1))) = (4 : Int32) then (1 : Int32) else (0 : Int32))))))) (v := .int ((a3 * (u4 1 (ix ((21 : Int32) + a1)))))) C0 hK hC.1 13 (by decide) rfl w_980 dX12_sets_130 ?_
      refine lv_iload_n hx hb dX12_sets_133 rfl (lv_at hl 6 rfl) ?_
      refine lv_iload hx hb dX12_sets_134 (lv_at hl 1 rfl) ?_
      refine lv_aload_n hx hb dX12_sets_136 rfl (lv_at hl 3 rfl) ?_
      refine m_get (σ := (up2 (up2 u4 13 0 (a3 * (u4 1 (ix ((21 : Int32) + a1))))) 14 0 (((1 : Int32) + (u4 11 0)) + (if (u4 1 (ix ((9 : Int32) + a1))) = (3 : Int32) then (u4 1 (ix ((15 : Int32) + a1))) else (if (u4 1 (ix ((9 : Int32) + a1))) = (6 : Int32) then (u4 1 (ix ((15 : Int32) + a1))) else (if (u4 1 (ix ((9 : Int32) + a1))) = (4 : Int32) then (1 : Int32) else (0 : Int32))))))) (v := .int ((u4 12 0))) C0 hK hC.1 12 (by decide) rfl w_979 dX12_sets_137 ?_
      refine s_ci (rest := [.int (a3), .int ((a3 * (u4 1 (ix ((21 : Int32) + a1))))), .ref (g.2.2 100)]) (As := [.int ((u4 1 (ix ((21 : Int32) + a1)))), .int ((u4 12 0))]) C0 cf_X12_lesser w_1179 (k_X12_lesser l (u4 1 (ix ((21 : Int32) + a1))) (u4 12 0) ) ⟨by decide, by decide⟩ hl.1 rfl rfl (Nat.le_of_ble_eq_true rfl) dX12_sets_140 ⟨Nat.zero_le _, Nat.zero_le _⟩ ?_
      refine lv_imul hx hb dX12_sets_143 ?_
      refine lv_isub hx hb dX12_sets_144 ?_
      refine m_put (σ := (up2 (up2 u4 13 0 (a3 * (u4 1 (ix ((21 : Int32) + a1))))) 14 0 (((1 : Int32) + (u4 11 0)) + (if (u4 1 (ix ((9 : Int32) + a1))) = (3 : Int32) then (u4 1 (ix ((15 : Int32) + a1))) else (if (u4 1 (ix ((9 : Int32) + a1))) = (6 : Int32) then (u4 1 (ix ((15 : Int32) + a1))) else (if (u4 1 (ix ((9 : Int32) + a1))) = (4 : Int32) then (1 : Int32) else (0 : Int32))))))) (ty := .int) C0 hK hC 13 (by decide) rfl rfl rfl rfl (ms_13 g _ _) w_980 dX12_sets_145 (fun H locs hC => ?_)
      refine lv_goto (tgt := 225) hx hb dX12_sets_148 (by decide) ?_
      exact b_X12_sets_225  (σ := (up2 (up2 (up2 u4 13 0 (a3 * (u4 1 (ix ((21 : Int32) + a1))))) 14 0 (((1 : Int32) + (u4 11 0)) + (if (u4 1 (ix ((9 : Int32) + a1))) = (3 : Int32) then (u4 1 (ix ((15 : Int32) + a1))) else (if (u4 1 (ix ((9 : Int32) + a1))) = (6 : Int32) then (u4 1 (ix ((15 : Int32) + a1))) else (if (u4 1 (ix ((9 : Int32) + a1))) = (4 : Int32) then (1 : Int32) else (0 : Int32)))))) 13 0 ((a3 * (u4 1 (ix ((21 : Int32) + a1)))) - (a3 * (f_X12_lesser (u4 1 (ix ((21 : Int32) + a1))) (u4 12 0)))))) (a3 := a3) C0   hK hC (lv_sub hl [3, 6] rfl) hT
    have hT := hT_neg c_90_1 hT
    by_cases c_90_2 : (u4 1 (ix ((9 : Int32) + a1))) = (2 : Int32)
    · have hT := hT_pos c_90_2 hT
      refine lv_tableIn (tgt := 151) hx hb dX12_sets_90 (by rw [c_90_2]; decide) (by rw [c_90_2]; decide) (by rw [c_90_2]; rfl) (by decide) ?_
      refine lv_aload_n hx hb dX12_sets_151 rfl (lv_at hl 3 rfl) ?_
      refine lv_dup hx hb dX12_sets_152 rfl ?_
      refine m_get (σ := (up2 (up2 u4 13 0 (a3 * (u4 1 (ix ((21 : Int32) + a1))))) 14 0 (((1 : Int32) + (u4 11 0)) + (if (u4 1 (ix ((9 : Int32) + a1))) = (3 : Int32) then (u4 1 (ix ((15 : Int32) + a1))) else (if (u4 1 (ix ((9 : Int32) + a1))) = (6 : Int32) then (u4 1 (ix ((15 : Int32) + a1))) else (if (u4 1 (ix ((9 : Int32) + a1))) = (4 : Int32) then (1 : Int32) else (0 : Int32))))))) (v := .int ((a3 * (u4 1 (ix ((21 : Int32) + a1)))))) C0 hK hC.1 13 (by decide) rfl w_980 dX12_sets_153 ?_
      refine lv_iload_n hx hb dX12_sets_156 rfl (lv_at hl 6 rfl) ?_
      have J157 : ∀ v : Int32, v = (if a3 ≤ 0 then (0 : Int32) else (u4 1 (ix ((15 : Int32) + a1)))) → W p l e { frames := 2, cells := 0, slots := 0, locals := 53 } s m args below meth c H locs 0 0 (QMV below args s g (mW g) A tgt) (F0 m 166 ls [.int (v), .int ((a3 * (u4 1 (ix ((21 : Int32) + a1))))), .ref (g.2.2 100)]) := by
        intro v ev
        subst ev
        refine lv_isub hx hb dX12_sets_166 ?_
        refine m_put (σ := (up2 (up2 u4 13 0 (a3 * (u4 1 (ix ((21 : Int32) + a1))))) 14 0 (((1 : Int32) + (u4 11 0)) + (if (u4 1 (ix ((9 : Int32) + a1))) = (3 : Int32) then (u4 1 (ix ((15 : Int32) + a1))) else (if (u4 1 (ix ((9 : Int32) + a1))) = (6 : Int32) then (u4 1 (ix ((15 : Int32) + a1))) else (if (u4 1 (ix ((9 : Int32) + a1))) = (4 : Int32) then (1 : Int32) else (0 : Int32))))))) (ty := .int) C0 hK hC 13 (by decide) rfl rfl rfl rfl (ms_13 g _ _) w_980 dX12_sets_167 (fun H locs hC => ?_)
        refine lv_goto (tgt := 225) hx hb dX12_sets_170 (by decide) ?_
        exact b_X12_sets_225  (σ := (up2 (up2 (up2 u4 13 0 (a3 * (u4 1 (ix ((21 : Int32) + a1))))) 14 0 (((1 : Int32) + (u4 11 0)) + (if (u4 1 (ix ((9 : Int32) + a1))) = (3 : Int32) then (u4 1 (ix ((15 : Int32) + a1))) else (if (u4 1 (ix ((9 : Int32) + a1))) = (6 : Int32) then (u4 1 (ix ((15 : Int32) + a1))) else (if (u4 1 (ix ((9 : Int32) + a1))) = (4 : Int32) then (1 : Int32) else (0 : Int32)))))) 13 0 ((a3 * (u4 1 (ix ((21 : Int32) + a1)))) - (if a3 ≤ 0 then (0 : Int32) else (u4 1 (ix ((15 : Int32) + a1))))))) (a3 := a3) C0   hK hC (lv_sub hl [3, 6] rfl) hT
      refine lv_if_le (tgt := 165) hx hb dX12_sets_157 (by decide) (fun c_157 => ?_) (fun c_157 => ?_)
      · refine lv_iconst (v := (0 : Int32)) hx hb dX12_sets_165 (by decide) ?_
        exact J157 _ (iv_pos c_157 rfl)
      · refine lv_iload hx hb dX12_sets_160 (lv_at hl 0 rfl) ?_
        refine lv_goto (tgt := 166) hx hb dX12_sets_162 (by decide) ?_
        exact J157 _ (iv_neg c_157 rfl)
    have hT := hT_neg c_90_2 hT
    by_cases c_90_3 : (u4 1 (ix ((9 : Int32) + a1))) = (3 : Int32)
    · have hT := hT_pos c_90_3 hT
      refine lv_tableIn (tgt := 225) hx hb dX12_sets_90 (by rw [c_90_3]; decide) (by rw [c_90_3]; decide) (by rw [c_90_3]; rfl) (by decide) ?_
      exact b_X12_sets_225  (σ := (up2 (up2 u4 13 0 (a3 * (u4 1 (ix ((21 : Int32) + a1))))) 14 0 (((1 : Int32) + (u4 11 0)) + (if (u4 1 (ix ((9 : Int32) + a1))) = (3 : Int32) then (u4 1 (ix ((15 : Int32) + a1))) else (if (u4 1 (ix ((9 : Int32) + a1))) = (6 : Int32) then (u4 1 (ix ((15 : Int32) + a1))) else (if (u4 1 (ix ((9 : Int32) + a1))) = (4 : Int32) then (1 : Int32) else (0 : Int32))))))) (a3 := a3) C0   hK hC (lv_sub hl [3, 6] rfl) hT
    have hT := hT_neg c_90_3 hT
    by_cases c_90_4 : (u4 1 (ix ((9 : Int32) + a1))) = (4 : Int32)
    · have hT := hT_pos c_90_4 hT
      refine lv_tableIn (tgt := 128) hx hb dX12_sets_90 (by rw [c_90_4]; decide) (by rw [c_90_4]; decide) (by rw [c_90_4]; rfl) (by decide) ?_
      refine lv_aload_n hx hb dX12_sets_128 rfl (lv_at hl 3 rfl) ?_
      refine lv_dup hx hb dX12_sets_129 rfl ?_
      refine m_get (σ := (up2 (up2 u4 13 0 (a3 * (u4 1 (ix ((21 : Int32) + a1))))) 14 0 (((1 : Int32) + (u4 11 0)) + (if (u4 1 (ix ((9 : Int32) + a1))) = (3 : Int32) then (u4 1 (ix ((15 : Int32) + a1))) else (if (u4 1 (ix ((9 : Int32) + a1))) = (6 : Int32) then (u4 1 (ix ((15 : Int32) + a1))) else (if (u4 1 (ix ((9 : Int32) + a1))) = (4 : Int32) then (1 : Int32) else (0 : Int32))))))) (v := .int ((a3 * (u4 1 (ix ((21 : Int32) + a1)))))) C0 hK hC.1 13 (by decide) rfl w_980 dX12_sets_130 ?_
      refine lv_iload_n hx hb dX12_sets_133 rfl (lv_at hl 6 rfl) ?_
      refine lv_iload hx hb dX12_sets_134 (lv_at hl 1 rfl) ?_
      refine lv_aload_n hx hb dX12_sets_136 rfl (lv_at hl 3 rfl) ?_
      refine m_get (σ := (up2 (up2 u4 13 0 (a3 * (u4 1 (ix ((21 : Int32) + a1))))) 14 0 (((1 : Int32) + (u4 11 0)) + (if (u4 1 (ix ((9 : Int32) + a1))) = (3 : Int32) then (u4 1 (ix ((15 : Int32) + a1))) else (if (u4 1 (ix ((9 : Int32) + a1))) = (6 : Int32) then (u4 1 (ix ((15 : Int32) + a1))) else (if (u4 1 (ix ((9 : Int32) + a1))) = (4 : Int32) then (1 : Int32) else (0 : Int32))))))) (v := .int ((u4 12 0))) C0 hK hC.1 12 (by decide) rfl w_979 dX12_sets_137 ?_
      refine s_ci (rest := [.int (a3), .int ((a3 * (u4 1 (ix ((21 : Int32) + a1))))), .ref (g.2.2 100)]) (As := [.int ((u4 1 (ix ((21 : Int32) + a1)))), .int ((u4 12 0))]) C0 cf_X12_lesser w_1179 (k_X12_lesser l (u4 1 (ix ((21 : Int32) + a1))) (u4 12 0) ) ⟨by decide, by decide⟩ hl.1 rfl rfl (Nat.le_of_ble_eq_true rfl) dX12_sets_140 ⟨Nat.zero_le _, Nat.zero_le _⟩ ?_
      refine lv_imul hx hb dX12_sets_143 ?_
      refine lv_isub hx hb dX12_sets_144 ?_
      refine m_put (σ := (up2 (up2 u4 13 0 (a3 * (u4 1 (ix ((21 : Int32) + a1))))) 14 0 (((1 : Int32) + (u4 11 0)) + (if (u4 1 (ix ((9 : Int32) + a1))) = (3 : Int32) then (u4 1 (ix ((15 : Int32) + a1))) else (if (u4 1 (ix ((9 : Int32) + a1))) = (6 : Int32) then (u4 1 (ix ((15 : Int32) + a1))) else (if (u4 1 (ix ((9 : Int32) + a1))) = (4 : Int32) then (1 : Int32) else (0 : Int32))))))) (ty := .int) C0 hK hC 13 (by decide) rfl rfl rfl rfl (ms_13 g _ _) w_980 dX12_sets_145 (fun H locs hC => ?_)
      refine lv_goto (tgt := 225) hx hb dX12_sets_148 (by decide) ?_
      exact b_X12_sets_225  (σ := (up2 (up2 (up2 u4 13 0 (a3 * (u4 1 (ix ((21 : Int32) + a1))))) 14 0 (((1 : Int32) + (u4 11 0)) + (if (u4 1 (ix ((9 : Int32) + a1))) = (3 : Int32) then (u4 1 (ix ((15 : Int32) + a1))) else (if (u4 1 (ix ((9 : Int32) + a1))) = (6 : Int32) then (u4 1 (ix ((15 : Int32) + a1))) else (if (u4 1 (ix ((9 : Int32) + a1))) = (4 : Int32) then (1 : Int32) else (0 : Int32)))))) 13 0 ((a3 * (u4 1 (ix ((21 : Int32) + a1)))) - (a3 * (f_X12_lesser (u4 1 (ix ((21 : Int32) + a1))) (u4 12 0)))))) (a3 := a3) C0   hK hC (lv_sub hl [3, 6] rfl) hT
    have hT := hT_neg c_90_4 hT
    by_cases c_90_5 : (u4 1 (ix ((9 : Int32) + a1))) = (5 : Int32)
    · have hT := hT_pos c_90_5 hT
      refine lv_tableIn (tgt := 173) hx hb dX12_sets_90 (by rw [c_90_5]; decide) (by rw [c_90_5]; decide) (by rw [c_90_5]; rfl) (by decide) ?_
      refine lv_aload_n hx hb dX12_sets_173 rfl (lv_at hl 3 rfl) ?_
      refine lv_dup hx hb dX12_sets_174 rfl ?_
      refine m_get (σ := (up2 (up2 u4 13 0 (a3 * (u4 1 (ix ((21 : Int32) + a1))))) 14 0 (((1 : Int32) + (u4 11 0)) + (if (u4 1 (ix ((9 : Int32) + a1))) = (3 : Int32) then (u4 1 (ix ((15 : Int32) + a1))) else (if (u4 1 (ix ((9 : Int32) + a1))) = (6 : Int32) then (u4 1 (ix ((15 : Int32) + a1))) else (if (u4 1 (ix ((9 : Int32) + a1))) = (4 : Int32) then (1 : Int32) else (0 : Int32))))))) (v := .int ((a3 * (u4 1 (ix ((21 : Int32) + a1)))))) C0 hK hC.1 13 (by decide) rfl w_980 dX12_sets_175 ?_
      refine lv_iload_n hx hb dX12_sets_178 rfl (lv_at hl 6 rfl) ?_
      refine lv_iload hx hb dX12_sets_179 (lv_at hl 0 rfl) ?_
      refine lv_imul hx hb dX12_sets_181 ?_
      refine lv_iconst (v := (2 : Int32)) hx hb dX12_sets_182 (by decide) ?_
      refine lv_idiv hx hb dX12_sets_183 (by decide) ?_
      refine lv_iload hx hb dX12_sets_184 (lv_at hl 1 rfl) ?_
      refine lv_iload_n hx hb dX12_sets_186 rfl (lv_at hl 6 rfl) ?_
      refine lv_imul hx hb dX12_sets_187 ?_
      refine s_ci (rest := [.int ((a3 * (u4 1 (ix ((21 : Int32) + a1))))), .ref (g.2.2 100)]) (As := [.int (((a3 * (u4 1 (ix ((15 : Int32) + a1)))) / (2 : Int32))), .int (((u4 1 (ix ((21 : Int32) + a1))) * a3))]) C0 cf_X12_lesser w_1179 (k_X12_lesser l ((a3 * (u4 1 (ix ((15 : Int32) + a1)))) / (2 : Int32)) ((u4 1 (ix ((21 : Int32) + a1))) * a3) ) ⟨by decide, by decide⟩ hl.1 rfl rfl (Nat.le_of_ble_eq_true rfl) dX12_sets_188 ⟨Nat.zero_le _, Nat.zero_le _⟩ ?_
      refine lv_isub hx hb dX12_sets_191 ?_
      refine m_put (σ := (up2 (up2 u4 13 0 (a3 * (u4 1 (ix ((21 : Int32) + a1))))) 14 0 (((1 : Int32) + (u4 11 0)) + (if (u4 1 (ix ((9 : Int32) + a1))) = (3 : Int32) then (u4 1 (ix ((15 : Int32) + a1))) else (if (u4 1 (ix ((9 : Int32) + a1))) = (6 : Int32) then (u4 1 (ix ((15 : Int32) + a1))) else (if (u4 1 (ix ((9 : Int32) + a1))) = (4 : Int32) then (1 : Int32) else (0 : Int32))))))) (ty := .int) C0 hK hC 13 (by decide) rfl rfl rfl rfl (ms_13 g _ _) w_980 dX12_sets_192 (fun H locs hC => ?_)
      refine lv_goto (tgt := 225) hx hb dX12_sets_195 (by decide) ?_
      exact b_X12_sets_225  (σ := (up2 (up2 (up2 u4 13 0 (a3 * (u4 1 (ix ((21 : Int32) + a1))))) 14 0 (((1 : Int32) + (u4 11 0)) + (if (u4 1 (ix ((9 : Int32) + a1))) = (3 : Int32) then (u4 1 (ix ((15 : Int32) + a1))) else (if (u4 1 (ix ((9 : Int32) + a1))) = (6 : Int32) then (u4 1 (ix ((15 : Int32) + a1))) else (if (u4 1 (ix ((9 : Int32) + a1))) = (4 : Int32) then (1 : Int32) else (0 : Int32)))))) 13 0 ((a3 * (u4 1 (ix ((21 : Int32) + a1)))) - (f_X12_lesser ((a3 * (u4 1 (ix ((15 : Int32) + a1)))) / (2 : Int32)) ((u4 1 (ix ((21 : Int32) + a1))) * a3))))) (a3 := a3) C0   hK hC (lv_sub hl [3, 6] rfl) hT
    have hT := hT_neg c_90_5 hT
    by_cases c_90_6 : (u4 1 (ix ((9 : Int32) + a1))) = (6 : Int32)
    · have hT := hT_pos c_90_6 hT
      refine lv_tableIn (tgt := 198) hx hb dX12_sets_90 (by rw [c_90_6]; decide) (by rw [c_90_6]; decide) (by rw [c_90_6]; rfl) (by decide) ?_
      refine lv_aload_n hx hb dX12_sets_198 rfl (lv_at hl 3 rfl) ?_
      refine lv_dup hx hb dX12_sets_199 rfl ?_
      refine m_get (σ := (up2 (up2 u4 13 0 (a3 * (u4 1 (ix ((21 : Int32) + a1))))) 14 0 (((1 : Int32) + (u4 11 0)) + (if (u4 1 (ix ((9 : Int32) + a1))) = (3 : Int32) then (u4 1 (ix ((15 : Int32) + a1))) else (if (u4 1 (ix ((9 : Int32) + a1))) = (6 : Int32) then (u4 1 (ix ((15 : Int32) + a1))) else (if (u4 1 (ix ((9 : Int32) + a1))) = (4 : Int32) then (1 : Int32) else (0 : Int32))))))) (v := .int ((a3 * (u4 1 (ix ((21 : Int32) + a1)))))) C0 hK hC.1 13 (by decide) rfl w_980 dX12_sets_200 ?_
      refine lv_aload_n hx hb dX12_sets_203 rfl (lv_at hl 3 rfl) ?_
      refine m_get (σ := (up2 (up2 u4 13 0 (a3 * (u4 1 (ix ((21 : Int32) + a1))))) 14 0 (((1 : Int32) + (u4 11 0)) + (if (u4 1 (ix ((9 : Int32) + a1))) = (3 : Int32) then (u4 1 (ix ((15 : Int32) + a1))) else (if (u4 1 (ix ((9 : Int32) + a1))) = (6 : Int32) then (u4 1 (ix ((15 : Int32) + a1))) else (if (u4 1 (ix ((9 : Int32) + a1))) = (4 : Int32) then (1 : Int32) else (0 : Int32))))))) (v := .ref (g.2.2 1)) C0 hK hC.1 1 (by decide) rfl w_968 dX12_sets_204 ?_
      refine lv_bipush (v := (27 : Int32)) hx hb dX12_sets_207 (by decide) ?_
      refine lv_iconst (v := (4 : Int32)) hx hb dX12_sets_209 (by decide) ?_
      refine lv_iload_n hx hb dX12_sets_210 rfl (lv_at hl 4 rfl) ?_
      refine lv_imul hx hb dX12_sets_211 ?_
      refine lv_iadd hx hb dX12_sets_212 ?_
      refine lv_iload_n hx hb dX12_sets_213 rfl (lv_at hl 6 rfl) ?_
      refine lv_iconst (v := (4 : Int32)) hx hb dX12_sets_214 (by decide) ?_
      refine lv_irem hx hb dX12_sets_215 (by decide) ?_
      refine lv_iadd hx hb dX12_sets_216 ?_
      have o_217 : vp_in (((27 : Int32) + ((4 : Int32) * a1)) + (a3 - a3 / (4 : Int32) * (4 : Int32))) 916 := by
        have : ((6 : Int32)).toInt = 6 := by decide
        have : ((27 : Int32)).toInt = 27 := by decide
        have : ((4 : Int32)).toInt = 4 := by decide
        have := ti_eq.mp c_90_6
        have := congrArg Int32.toInt (congrFun z4 (ix ((9 : Int32) + a1)))
        try have := ti_mulR (a := (4 : Int32)) (b := a1) (n := 4) (by decide) (by omega) (by omega)
        try have := ti_add (a := (27 : Int32)) (b := ((4 : Int32) * a1)) (by omega) (by omega)
        try have := rem_b (a := a3) (b := (4 : Int32)) (n := 4) (by decide) (by omega) (by omega)
        try have := ti_add (a := ((27 : Int32) + ((4 : Int32) * a1))) (b := (a3 - a3 / (4 : Int32) * (4 : Int32))) (by omega) (by omega)
        exact vin (by omega) (by omega)
      refine m_ald (σ := (up2 (up2 u4 13 0 (a3 * (u4 1 (ix ((21 : Int32) + a1))))) 14 0 (((1 : Int32) + (u4 11 0)) + (if (u4 1 (ix ((9 : Int32) + a1))) = (3 : Int32) then (u4 1 (ix ((15 : Int32) + a1))) else (if (u4 1 (ix ((9 : Int32) + a1))) = (6 : Int32) then (u4 1 (ix ((15 : Int32) + a1))) else (if (u4 1 (ix ((9 : Int32) + a1))) = (4 : Int32) then (1 : Int32) else (0 : Int32))))))) C0 hK hC.1 1 1 916 rfl o_217 (ix (((27 : Int32) + ((4 : Int32) * a1)) + (a3 - a3 / (4 : Int32) * (4 : Int32)))) rfl dX12_sets_217 ?_
      refine lv_iadd hx hb dX12_sets_218 ?_
      refine m_put (σ := (up2 (up2 u4 13 0 (a3 * (u4 1 (ix ((21 : Int32) + a1))))) 14 0 (((1 : Int32) + (u4 11 0)) + (if (u4 1 (ix ((9 : Int32) + a1))) = (3 : Int32) then (u4 1 (ix ((15 : Int32) + a1))) else (if (u4 1 (ix ((9 : Int32) + a1))) = (6 : Int32) then (u4 1 (ix ((15 : Int32) + a1))) else (if (u4 1 (ix ((9 : Int32) + a1))) = (4 : Int32) then (1 : Int32) else (0 : Int32))))))) (ty := .int) C0 hK hC 13 (by decide) rfl rfl rfl rfl (ms_13 g _ _) w_980 dX12_sets_219 (fun H locs hC => ?_)
      refine lv_goto (tgt := 225) hx hb dX12_sets_222 (by decide) ?_
      exact b_X12_sets_225  (σ := (up2 (up2 (up2 u4 13 0 (a3 * (u4 1 (ix ((21 : Int32) + a1))))) 14 0 (((1 : Int32) + (u4 11 0)) + (if (u4 1 (ix ((9 : Int32) + a1))) = (3 : Int32) then (u4 1 (ix ((15 : Int32) + a1))) else (if (u4 1 (ix ((9 : Int32) + a1))) = (6 : Int32) then (u4 1 (ix ((15 : Int32) + a1))) else (if (u4 1 (ix ((9 : Int32) + a1))) = (4 : Int32) then (1 : Int32) else (0 : Int32)))))) 13 0 ((a3 * (u4 1 (ix ((21 : Int32) + a1)))) + (u4 1 (ix (((27 : Int32) + ((4 : Int32) * a1)) + (a3 - a3 / (4 : Int32) * (4 : Int32)))))))) (a3 := a3) C0   hK hC (lv_sub hl [3, 6] rfl) hT
    have hT := hT_neg c_90_6 hT
    refine lv_tableOut (tgt := 225) hx hb dX12_sets_90 (sw_out (fun k h1 h2 => by
        rcases (show k = 1 ∨ k = 2 ∨ k = 3 ∨ k = 4 ∨ k = 5 ∨ k = 6 by omega) with rfl | rfl | rfl | rfl | rfl | rfl <;> first | exact c_90_1 | exact c_90_2 | exact c_90_3 | exact c_90_4 | exact c_90_5 | exact c_90_6)) (by decide) ?_
    exact b_X12_sets_225  (σ := (up2 (up2 u4 13 0 (a3 * (u4 1 (ix ((21 : Int32) + a1))))) 14 0 (((1 : Int32) + (u4 11 0)) + (if (u4 1 (ix ((9 : Int32) + a1))) = (3 : Int32) then (u4 1 (ix ((15 : Int32) + a1))) else (if (u4 1 (ix ((9 : Int32) + a1))) = (6 : Int32) then (u4 1 (ix ((15 : Int32) + a1))) else (if (u4 1 (ix ((9 : Int32) + a1))) = (4 : Int32) then (1 : Int32) else (0 : Int32))))))) (a3 := a3) C0   hK hC (lv_sub hl [3, 6] rfl) hT
  refine lv_icmp_eq (tgt := 68) hx hb dX12_sets_58 (by decide) (fun c_58 => ?_) (fun c_58 => ?_)
  · refine lv_iload hx hb dX12_sets_68 (lv_at hl 0 rfl) ?_
    refine lv_goto (tgt := 84) hx hb dX12_sets_70 (by decide) ?_
    exact J58 _ (iv_pos c_58 rfl)
  · refine lv_iload hx hb dX12_sets_61 (lv_at hl 2 rfl) ?_
    refine lv_bipush (v := (6 : Int32)) hx hb dX12_sets_63 (by decide) ?_
    refine lv_icmp_ne (tgt := 73) hx hb dX12_sets_65 (by decide) (fun c_65 => ?_) (fun c_65 => ?_)
    · refine lv_iload hx hb dX12_sets_73 (lv_at hl 2 rfl) ?_
      refine lv_iconst (v := (4 : Int32)) hx hb dX12_sets_75 (by decide) ?_
      refine lv_icmp_ne (tgt := 83) hx hb dX12_sets_76 (by decide) (fun c_76 => ?_) (fun c_76 => ?_)
      · refine lv_iconst (v := (0 : Int32)) hx hb dX12_sets_83 (by decide) ?_
        exact J58 _ (iv_neg c_58 (iv_neg c_65 (iv_neg c_76 rfl)))
      · refine lv_iconst (v := (1 : Int32)) hx hb dX12_sets_79 (by decide) ?_
        refine lv_goto (tgt := 84) hx hb dX12_sets_80 (by decide) ?_
        exact J58 _ (iv_neg c_58 (iv_neg c_65 (iv_pos c_76 rfl)))
    · refine lv_iload hx hb dX12_sets_68 (lv_at hl 0 rfl) ?_
      refine lv_goto (tgt := 84) hx hb dX12_sets_70 (by decide) ?_
      exact J58 _ (iv_neg c_58 (iv_pos c_65 rfl))
theorem sets_1 (σ : St) (a b c : Int32) : (f_X12_sets σ a b c) 1 = σ 1 := by
  unfold f_X12_sets
  simp only [bd1]
  (repeat' split) <;> (show (f_X12_looks σ a b c) 1 = σ 1; exact looks_1 σ a b c)
theorem tries_loop (n : Nat) : ∀ (σ : St) (a1 a2 a3 a4 a5 a6 : Int32), (g_X12_triesTwice_3 n σ a1 a2 a3 a4 a5 a6) 1 = σ 1 := by
  induction n with
  | zero => intro σ a1 a2 a3 a4 a5 a6; rfl
  | succ n ih =>
    intro σ a1 a2 a3 a4 a5 a6
    show (f_X12_triesTwice_3 (g_X12_triesTwice_3 n) σ a1 a2 a3 a4 a5 a6) 1 = σ 1
    unfold f_X12_triesTwice_3
    simp only [f_X12_triesTwice_111, f_X12_triesTwice_156]
    (repeat' split) <;> first | rfl | (rw [ih]; done) | (rw [ih]; rfl)
theorem triesTwice_1 (σ : St) (a b c d e : Int32) : (f_X12_triesTwice σ a b c d e) 1 = σ 1 := tries_loop _ _ _ _ _ _ _ _

set_option maxRecDepth 20000 in
theorem w_1171 : (Cond.methodLink RX12 172 yX12_sets) ∈ TB := inTB (List.mem_of_getElem? (i := 1171) (by decide +kernel)) (by decide +kernel)
set_option maxRecDepth 20000 in
theorem w_1174 : (Cond.code yX12_sets cX12_sets 7 none) ∈ TB := inTB (List.mem_of_getElem? (i := 1174) (by decide +kernel)) (by decide +kernel)
set_option maxRecDepth 20000 in
theorem w_1173 : (Cond.instanceMethod yX12_sets) ∈ TB := inTB (List.mem_of_getElem? (i := 1173) (by decide +kernel)) (by decide +kernel)
set_option maxRecDepth 20000 in
theorem w_53 : (Cond.selects RX12 yX12_sets yX12_sets) ∈ TB := inTB (List.mem_of_getElem? (i := 53) (by decide +kernel)) (by decide +kernel)
theorem cf_X12_sets : CF yX12_sets cX12_sets 7 none 3 := ⟨w_1173, w_53, w_75, w_1174, by decide +kernel, by decide +kernel, by decide +kernel⟩
/-! ThreeMeasuresModel.measure -/
theorem dX12_measure_0 : decode cX12_measure 0 = .ok (.aload_n 0, 1) := by decide +kernel
theorem dX12_measure_1 : decode cX12_measure 1 = .ok (.iload_n 1, 1) := by decide +kernel
theorem dX12_measure_2 : decode cX12_measure 2 = .ok (.invokevirtual 165, 3) := by decide +kernel
theorem dX12_measure_5 : decode cX12_measure 5 = .ok (.ifCond .eq 11, 3) := by decide +kernel
theorem dX12_measure_8 : decode cX12_measure 8 = .ok (.aload_n 0, 1) := by decide +kernel
theorem dX12_measure_9 : decode cX12_measure 9 = .ok (.iload_n 2, 1) := by decide +kernel
theorem dX12_measure_10 : decode cX12_measure 10 = .ok (.invokevirtual 161, 3) := by decide +kernel
theorem dX12_measure_13 : decode cX12_measure 13 = .ok (.ifCond .ne 5, 3) := by decide +kernel
theorem dX12_measure_16 : decode cX12_measure 16 = .ok (.iconst (-1), 1) := by decide +kernel
theorem dX12_measure_17 : decode cX12_measure 17 = .ok (.ireturn, 1) := by decide +kernel
theorem dX12_measure_18 : decode cX12_measure 18 = .ok (.iload_n 3, 1) := by decide +kernel
theorem dX12_measure_19 : decode cX12_measure 19 = .ok (.iconst 0, 1) := by decide +kernel
theorem dX12_measure_20 : decode cX12_measure 20 = .ok (.bipush 30, 2) := by decide +kernel
theorem dX12_measure_22 : decode cX12_measure 22 = .ok (.invokestatic 47, 3) := by decide +kernel
theorem dX12_measure_25 : decode cX12_measure 25 = .ok (.ifCond .eq 14, 3) := by decide +kernel
theorem dX12_measure_28 : decode cX12_measure 28 = .ok (.iload 4, 2) := by decide +kernel
theorem dX12_measure_30 : decode cX12_measure 30 = .ok (.iconst 0, 1) := by decide +kernel
theorem dX12_measure_31 : decode cX12_measure 31 = .ok (.bipush 59, 2) := by decide +kernel
theorem dX12_measure_33 : decode cX12_measure 33 = .ok (.invokestatic 47, 3) := by decide +kernel
theorem dX12_measure_36 : decode cX12_measure 36 = .ok (.ifCond .ne 6, 3) := by decide +kernel
theorem dX12_measure_39 : decode cX12_measure 39 = .ok (.bipush (-2), 2) := by decide +kernel
theorem dX12_measure_41 : decode cX12_measure 41 = .ok (.ireturn, 1) := by decide +kernel
theorem dX12_measure_42 : decode cX12_measure 42 = .ok (.aload_n 0, 1) := by decide +kernel
theorem dX12_measure_43 : decode cX12_measure 43 = .ok (.getfield 9, 3) := by decide +kernel
theorem dX12_measure_46 : decode cX12_measure 46 = .ok (.bipush 8, 2) := by decide +kernel
theorem dX12_measure_48 : decode cX12_measure 48 = .ok (.iaload, 1) := by decide +kernel
theorem dX12_measure_49 : decode cX12_measure 49 = .ok (.sipush 9900, 3) := by decide +kernel
theorem dX12_measure_52 : decode cX12_measure 52 = .ok (.if_icmp .le 6, 3) := by decide +kernel
theorem dX12_measure_55 : decode cX12_measure 55 = .ok (.bipush (-3), 2) := by decide +kernel
theorem dX12_measure_57 : decode cX12_measure 57 = .ok (.ireturn, 1) := by decide +kernel
theorem dX12_measure_58 : decode cX12_measure 58 = .ok (.aload_n 0, 1) := by decide +kernel
theorem dX12_measure_59 : decode cX12_measure 59 = .ok (.getfield 9, 3) := by decide +kernel
theorem dX12_measure_62 : decode cX12_measure 62 = .ok (.bipush 8, 2) := by decide +kernel
theorem dX12_measure_64 : decode cX12_measure 64 = .ok (.dup2, 1) := by decide +kernel
theorem dX12_measure_65 : decode cX12_measure 65 = .ok (.iaload, 1) := by decide +kernel
theorem dX12_measure_66 : decode cX12_measure 66 = .ok (.iload_n 3, 1) := by decide +kernel
theorem dX12_measure_67 : decode cX12_measure 67 = .ok (.iadd, 1) := by decide +kernel
theorem dX12_measure_68 : decode cX12_measure 68 = .ok (.iastore, 1) := by decide +kernel
theorem dX12_measure_69 : decode cX12_measure 69 = .ok (.aload_n 0, 1) := by decide +kernel
theorem dX12_measure_70 : decode cX12_measure 70 = .ok (.iload_n 2, 1) := by decide +kernel
theorem dX12_measure_71 : decode cX12_measure 71 = .ok (.iload_n 1, 1) := by decide +kernel
theorem dX12_measure_72 : decode cX12_measure 72 = .ok (.iload_n 3, 1) := by decide +kernel
theorem dX12_measure_73 : decode cX12_measure 73 = .ok (.invokevirtual 172, 3) := by decide +kernel
theorem dX12_measure_76 : decode cX12_measure 76 = .ok (.iload 5, 2) := by decide +kernel
theorem dX12_measure_78 : decode cX12_measure 78 = .ok (.ifCond .eq 8, 3) := by decide +kernel
theorem dX12_measure_81 : decode cX12_measure 81 = .ok (.iload 4, 2) := by decide +kernel
theorem dX12_measure_83 : decode cX12_measure 83 = .ok (.goto 6, 3) := by decide +kernel
theorem dX12_measure_86 : decode cX12_measure 86 = .ok (.iload 4, 2) := by decide +kernel
theorem dX12_measure_88 : decode cX12_measure 88 = .ok (.ineg, 1) := by decide +kernel
theorem dX12_measure_89 : decode cX12_measure 89 = .ok (.istore 6, 2) := by decide +kernel
theorem dX12_measure_91 : decode cX12_measure 91 = .ok (.aload_n 0, 1) := by decide +kernel
theorem dX12_measure_92 : decode cX12_measure 92 = .ok (.getfield 9, 3) := by decide +kernel
theorem dX12_measure_95 : decode cX12_measure 95 = .ok (.bipush 51, 2) := by decide +kernel
theorem dX12_measure_97 : decode cX12_measure 97 = .ok (.iload_n 1, 1) := by decide +kernel
theorem dX12_measure_98 : decode cX12_measure 98 = .ok (.iadd, 1) := by decide +kernel
theorem dX12_measure_99 : decode cX12_measure 99 = .ok (.iaload, 1) := by decide +kernel
theorem dX12_measure_100 : decode cX12_measure 100 = .ok (.iconst 0, 1) := by decide +kernel
theorem dX12_measure_101 : decode cX12_measure 101 = .ok (.aload_n 0, 1) := by decide +kernel
theorem dX12_measure_102 : decode cX12_measure 102 = .ok (.getfield 155, 3) := by decide +kernel
theorem dX12_measure_105 : decode cX12_measure 105 = .ok (.iload 6, 2) := by decide +kernel
theorem dX12_measure_107 : decode cX12_measure 107 = .ok (.iadd, 1) := by decide +kernel
theorem dX12_measure_108 : decode cX12_measure 108 = .ok (.invokestatic 152, 3) := by decide +kernel
theorem dX12_measure_111 : decode cX12_measure 111 = .ok (.invokestatic 152, 3) := by decide +kernel
theorem dX12_measure_114 : decode cX12_measure 114 = .ok (.istore 7, 2) := by decide +kernel
theorem dX12_measure_116 : decode cX12_measure 116 = .ok (.aload_n 0, 1) := by decide +kernel
theorem dX12_measure_117 : decode cX12_measure 117 = .ok (.getfield 9, 3) := by decide +kernel
theorem dX12_measure_120 : decode cX12_measure 120 = .ok (.bipush 57, 2) := by decide +kernel
theorem dX12_measure_122 : decode cX12_measure 122 = .ok (.iload_n 1, 1) := by decide +kernel
theorem dX12_measure_123 : decode cX12_measure 123 = .ok (.iadd, 1) := by decide +kernel
theorem dX12_measure_124 : decode cX12_measure 124 = .ok (.iaload, 1) := by decide +kernel
theorem dX12_measure_125 : decode cX12_measure 125 = .ok (.iconst 0, 1) := by decide +kernel
theorem dX12_measure_126 : decode cX12_measure 126 = .ok (.aload_n 0, 1) := by decide +kernel
theorem dX12_measure_127 : decode cX12_measure 127 = .ok (.getfield 158, 3) := by decide +kernel
theorem dX12_measure_130 : decode cX12_measure 130 = .ok (.iload 6, 2) := by decide +kernel
theorem dX12_measure_132 : decode cX12_measure 132 = .ok (.iadd, 1) := by decide +kernel
theorem dX12_measure_133 : decode cX12_measure 133 = .ok (.invokestatic 152, 3) := by decide +kernel
theorem dX12_measure_136 : decode cX12_measure 136 = .ok (.invokestatic 149, 3) := by decide +kernel
theorem dX12_measure_139 : decode cX12_measure 139 = .ok (.istore 8, 2) := by decide +kernel
theorem dX12_measure_141 : decode cX12_measure 141 = .ok (.iload 7, 2) := by decide +kernel
theorem dX12_measure_143 : decode cX12_measure 143 = .ok (.iload 8, 2) := by decide +kernel
theorem dX12_measure_145 : decode cX12_measure 145 = .ok (.if_icmp .le 6, 3) := by decide +kernel
theorem dX12_measure_148 : decode cX12_measure 148 = .ok (.bipush (-3), 2) := by decide +kernel
theorem dX12_measure_150 : decode cX12_measure 150 = .ok (.ireturn, 1) := by decide +kernel
theorem dX12_measure_151 : decode cX12_measure 151 = .ok (.aload_n 0, 1) := by decide +kernel
theorem dX12_measure_152 : decode cX12_measure 152 = .ok (.getfield 9, 3) := by decide +kernel
theorem dX12_measure_155 : decode cX12_measure 155 = .ok (.bipush 51, 2) := by decide +kernel
theorem dX12_measure_157 : decode cX12_measure 157 = .ok (.iload_n 1, 1) := by decide +kernel
theorem dX12_measure_158 : decode cX12_measure 158 = .ok (.iadd, 1) := by decide +kernel
theorem dX12_measure_159 : decode cX12_measure 159 = .ok (.iload 7, 2) := by decide +kernel
theorem dX12_measure_161 : decode cX12_measure 161 = .ok (.iastore, 1) := by decide +kernel
theorem dX12_measure_162 : decode cX12_measure 162 = .ok (.aload_n 0, 1) := by decide +kernel
theorem dX12_measure_163 : decode cX12_measure 163 = .ok (.getfield 9, 3) := by decide +kernel
theorem dX12_measure_166 : decode cX12_measure 166 = .ok (.bipush 57, 2) := by decide +kernel
theorem dX12_measure_168 : decode cX12_measure 168 = .ok (.iload_n 1, 1) := by decide +kernel
theorem dX12_measure_169 : decode cX12_measure 169 = .ok (.iadd, 1) := by decide +kernel
theorem dX12_measure_170 : decode cX12_measure 170 = .ok (.iload 8, 2) := by decide +kernel
theorem dX12_measure_172 : decode cX12_measure 172 = .ok (.iastore, 1) := by decide +kernel
theorem dX12_measure_173 : decode cX12_measure 173 = .ok (.iload 8, 2) := by decide +kernel
theorem dX12_measure_175 : decode cX12_measure 175 = .ok (.iload 7, 2) := by decide +kernel
theorem dX12_measure_177 : decode cX12_measure 177 = .ok (.isub, 1) := by decide +kernel
theorem dX12_measure_178 : decode cX12_measure 178 = .ok (.ireturn, 1) := by decide +kernel
def f_X12_measure (σ : St) (a1 : Int32) (a2 : Int32) (a3 : Int32) (a4 : Int32) (a5 : Int32) : Int32 × St := (if (f_X12_isWall σ a1) = 0 then ((-1 : Int32), σ) else (if (f_X12_isStick σ a2) = 0 then ((-1 : Int32), σ) else (if (f_X12_in a3 (0 : Int32) (30 : Int32)) = 0 then ((-2 : Int32), σ) else (if (f_X12_in a4 (0 : Int32) (59 : Int32)) = 0 then ((-2 : Int32), σ) else (if (σ 1 8) ≤ (9900 : Int32) then (bd1 (f_X12_sets (up2 σ 1 8 ((σ 1 8) + a3)) a2 a1 a3) (fun u73 => (if (f_X12_greater (u73 1 (ix ((51 : Int32) + a1))) (f_X12_greater (0 : Int32) ((u73 15 0) + (if a5 = 0 then (-a4) else a4)))) ≤ (f_X12_lesser (u73 1 (ix ((57 : Int32) + a1))) (f_X12_greater (0 : Int32) ((u73 16 0) + (if a5 = 0 then (-a4) else a4)))) then (((f_X12_lesser (u73 1 (ix ((57 : Int32) + a1))) (f_X12_greater (0 : Int32) ((u73 16 0) + (if a5 = 0 then (-a4) else a4)))) - (f_X12_greater (u73 1 (ix ((51 : Int32) + a1))) (f_X12_greater (0 : Int32) ((u73 15 0) + (if a5 = 0 then (-a4) else a4))))), (up2 (up2 u73 1 (ix ((51 : Int32) + a1)) (f_X12_greater (u73 1 (ix ((51 : Int32) + a1))) (f_X12_greater (0 : Int32) ((u73 15 0) + (if a5 = 0 then (-a4) else a4))))) 1 (ix ((57 : Int32) + a1)) (f_X12_lesser (u73 1 (ix ((57 : Int32) + a1))) (f_X12_greater (0 : Int32) ((u73 16 0) + (if a5 = 0 then (-a4) else a4)))))) else ((-3 : Int32), u73)))) else ((-3 : Int32), σ))))))
set_option maxHeartbeats 600000 in
set_option maxRecDepth 100000 in
theorem k_X12_measure (l : Launch) (g : GG) (σ : St) (a1 : Int32) (a2 : Int32) (a3 : Int32) (a4 : Int32) (a5 : Int32) (hI : IB (σ 1)) (hV : HV (σ 1)) : MI l yX12_measure (wsF yX12_measure cX12_measure 9 (some .int)) { frames := 3, cells := 0, slots := 0, locals := 79 } [.ref (g.2.2 100), .int (a1), .int (a2), .int (a3), .int (a4), .int (a5)] g (mW g) (fun _ => True) σ (f_X12_measure σ a1 a2 a3 a4 a5) := by
  refine start_MI (by decide) (Nat.le_of_ble_eq_true rfl) ?_
  intro p e s m args below meth c C0 hK hBg hC ls hl
  generalize hAe : aA ((mW g) σ) = A at hC ⊢
  obtain ⟨hx, hb, hr, hml, hown, hts, hlocks⟩ := id C0
  have hl : lv_has ls 9 [(0, .ref (g.2.2 100)), (1, .int (a1)), (2, .int (a2)), (3, .int (a3)), (4, .int (a4)), (5, .int (a5))] := hl
  generalize hT : (f_X12_measure σ a1 a2 a3 a4 a5) = tgt
  suffices key : ∀ (H : Heap) (locs : List Loc), WC g (mW g) A s.heap σ H locs → W p l e { frames := 3, cells := 0, slots := 0, locals := 79 } s m args below meth c H locs 0 0 (QMI below args s g (mW g) A tgt) (F0 m 0 ls []) from key _ _ hC
  intro H locs hC
  unfold f_X12_measure at hT
  obtain ⟨⟨i0, i0'⟩, ⟨i1, i1'⟩, ⟨i2, i2'⟩, ⟨i3, i3'⟩, ⟨i4, i4'⟩, ⟨i5, i5'⟩, ⟨i6, i6'⟩, ⟨i7, i7'⟩, ⟨i8, i8'⟩, iK, iV, iL, iR, iW, iY, iG, iM, iB, iQ, iP, iT, iU⟩ := id hI
  refine lv_aload_n hx hb dX12_measure_0 rfl (lv_at hl 0 rfl) ?_
  refine lv_iload_n hx hb dX12_measure_1 rfl (lv_at hl 1 rfl) ?_
  refine m_ci (rest := []) (As := [.int (a1)]) (σ := σ) C0 hK hC.1 (hC.2.1.weaken (fun _ _ _ _ => trivial)) SV.tt (fun _ _ _ => trivial) cf_X12_isWall w_1147 rfl (k_X12_isWall l g σ a1 ) ⟨by decide, by decide⟩ hl.1 rfl rfl (Nat.le_of_ble_eq_true rfl) dX12_measure_2 ⟨Nat.zero_le _, Nat.zero_le _⟩ ?_
  refine lv_if_eq (tgt := 16) hx hb dX12_measure_5 (by decide) (fun c_5 => ?_) (fun c_5 => ?_)
  · have hT := hT_pos c_5 hT
    refine lv_iconst (v := (-1 : Int32)) hx hb dX12_measure_16 (by decide) ?_
    exact ret_MI C0 hC hT dX12_measure_17
  · have hT := hT_neg c_5 hT
    refine lv_aload_n hx hb dX12_measure_8 rfl (lv_at hl 0 rfl) ?_
    refine lv_iload_n hx hb dX12_measure_9 rfl (lv_at hl 2 rfl) ?_
    refine m_ci (rest := []) (As := [.int (a2)]) (σ := σ) C0 hK hC.1 (hC.2.1.weaken (fun _ _ _ _ => trivial)) SV.tt (fun _ _ _ => trivial) cf_X12_isStick w_1131 rfl (k_X12_isStick l g σ a2 ) ⟨by decide, by decide⟩ hl.1 rfl rfl (Nat.le_of_ble_eq_true rfl) dX12_measure_10 ⟨Nat.zero_le _, Nat.zero_le _⟩ ?_
    refine lv_if_ne (tgt := 18) hx hb dX12_measure_13 (by decide) (fun c_13 => ?_) (fun c_13 => ?_)
    · have hT := hT_neg c_13 hT
      refine lv_iload_n hx hb dX12_measure_18 rfl (lv_at hl 3 rfl) ?_
      refine lv_iconst (v := (0 : Int32)) hx hb dX12_measure_19 (by decide) ?_
      refine lv_bipush (v := (30 : Int32)) hx hb dX12_measure_20 (by decide) ?_
      refine s_ci (rest := []) (As := [.int (a3), .int ((0 : Int32)), .int ((30 : Int32))]) C0 cf_X12_in w_1060 (k_X12_in l a3 (0 : Int32) (30 : Int32) ) ⟨by decide, by decide⟩ hl.1 rfl rfl (Nat.le_of_ble_eq_true rfl) dX12_measure_22 ⟨Nat.zero_le _, Nat.zero_le _⟩ ?_
      refine lv_if_eq (tgt := 39) hx hb dX12_measure_25 (by decide) (fun c_25 => ?_) (fun c_25 => ?_)
      · have hT := hT_pos c_25 hT
        refine lv_bipush (v := (-2 : Int32)) hx hb dX12_measure_39 (by decide) ?_
        exact ret_MI C0 hC hT dX12_measure_41
      · have hT := hT_neg c_25 hT
        refine lv_iload hx hb dX12_measure_28 (lv_at hl 4 rfl) ?_
        refine lv_iconst (v := (0 : Int32)) hx hb dX12_measure_30 (by decide) ?_
        refine lv_bipush (v := (59 : Int32)) hx hb dX12_measure_31 (by decide) ?_
        refine s_ci (rest := []) (As := [.int (a4), .int ((0 : Int32)), .int ((59 : Int32))]) C0 cf_X12_in w_1060 (k_X12_in l a4 (0 : Int32) (59 : Int32) ) ⟨by decide, by decide⟩ hl.1 rfl rfl (Nat.le_of_ble_eq_true rfl) dX12_measure_33 ⟨Nat.zero_le _, Nat.zero_le _⟩ ?_
        refine lv_if_ne (tgt := 42) hx hb dX12_measure_36 (by decide) (fun c_36 => ?_) (fun c_36 => ?_)
        · have hT := hT_neg c_36 hT
          refine lv_aload_n hx hb dX12_measure_42 rfl (lv_at hl 0 rfl) ?_
          refine m_get (σ := σ) (v := .ref (g.2.2 1)) C0 hK hC.1 1 (by decide) rfl w_968 dX12_measure_43 ?_
          refine lv_bipush (v := (8 : Int32)) hx hb dX12_measure_46 (by decide) ?_
          refine m_ald (σ := σ) C0 hK hC.1 1 1 916 rfl (vin_l (by decide)) 8 (by decide) dX12_measure_48 ?_
          refine lv_sipush (v := (9900 : Int32)) hx hb dX12_measure_49 (by decide) ?_
          refine lv_icmp_le (tgt := 58) hx hb dX12_measure_52 (by decide) (fun c_52 => ?_) (fun c_52 => ?_)
          · have hT := hT_pos c_52 hT
            refine lv_aload_n hx hb dX12_measure_58 rfl (lv_at hl 0 rfl) ?_
            refine m_get (σ := σ) (v := .ref (g.2.2 1)) C0 hK hC.1 1 (by decide) rfl w_968 dX12_measure_59 ?_
            refine lv_bipush (v := (8 : Int32)) hx hb dX12_measure_62 (by decide) ?_
            refine lv_dup2_11 hx hb dX12_measure_64 rfl rfl ?_
            refine m_ald (σ := σ) C0 hK hC.1 1 1 916 rfl (vin_l (by decide)) 8 (by decide) dX12_measure_65 ?_
            refine lv_iload_n hx hb dX12_measure_66 rfl (lv_at hl 3 rfl) ?_
            refine lv_iadd hx hb dX12_measure_67 ?_
            refine m_ast (σ := σ) C0 hK hC 1 1 916 rfl (ms_1 g _) (vin_l (by decide)) 8 (by decide) dX12_measure_68 (fun H locs hC => ?_)
            refine lv_aload_n hx hb dX12_measure_69 rfl (lv_at hl 0 rfl) ?_
            refine lv_iload_n hx hb dX12_measure_70 rfl (lv_at hl 2 rfl) ?_
            refine lv_iload_n hx hb dX12_measure_71 rfl (lv_at hl 1 rfl) ?_
            refine lv_iload_n hx hb dX12_measure_72 rfl (lv_at hl 3 rfl) ?_
            have q73_hI : IB ((up2 σ 1 8 ((σ 1 8) + a3)) 1) := (IB_goes hI (by obtain ⟨q1, q2⟩ := in_ne c_25; have q3 := ti_le.mp c_52; have e0 : (0 : Int32).toInt = 0 := rfl; have e1 : (30 : Int32).toInt = 30 := rfl; have e2 : (9900 : Int32).toInt = 9900 := rfl; have q4 := ti_add (a := σ 1 8) (b := a3) (by omega) (by omega); omega))
            have q73_hV : HV ((up2 σ 1 8 ((σ 1 8) + a3)) 1) := HV_agree hI rfl (fun j hj => by simp [up2, upC, upd]; omega) hV
            have q73_h1 : 0 ≤ a2.toInt := by
              have : ((0 : Int32)).toInt = 0 := by decide
              have : ((30 : Int32)).toInt = 30 := by decide
              have : ((59 : Int32)).toInt = 59 := by decide
              have : ((9900 : Int32)).toInt = 9900 := by decide
              have := isWall_ne hI.2.1.1 c_5
              have := isStick_ne hI.1.1 c_13
              have := in_ne c_25
              have := in_ne c_36
              have := ti_le.mp c_52
              omega
            have q73_h1b : a2.toInt < 6 := by
              have : ((0 : Int32)).toInt = 0 := by decide
              have : ((30 : Int32)).toInt = 30 := by decide
              have : ((59 : Int32)).toInt = 59 := by decide
              have : ((9900 : Int32)).toInt = 9900 := by decide
              have := isWall_ne hI.2.1.1 c_5
              have := isStick_ne hI.1.1 c_13
              have := in_ne c_25
              have := in_ne c_36
              have := ti_le.mp c_52
              omega
            have q73_h3 : 0 ≤ a3.toInt := by
              have : ((0 : Int32)).toInt = 0 := by decide
              have : ((30 : Int32)).toInt = 30 := by decide
              have : ((59 : Int32)).toInt = 59 := by decide
              have : ((9900 : Int32)).toInt = 9900 := by decide
              have := isWall_ne hI.2.1.1 c_5
              have := isStick_ne hI.1.1 c_13
              have := in_ne c_25
              have := in_ne c_36
              have := ti_le.mp c_52
              omega
            refine m_mv (rest := []) (As := [.int (a2), .int (a1), .int (a3)]) (σ := (up2 σ 1 8 ((σ 1 8) + a3))) C0 hK hC SV.tt (fun _ _ _ => trivial) cf_X12_sets w_1171 rfl (k_X12_sets l g (up2 σ 1 8 ((σ 1 8) + a3)) a2 a1 a3 q73_hI q73_hV q73_h1 q73_h1b q73_h3) ⟨by decide, by decide⟩ hl.1 rfl rfl (Nat.le_of_ble_eq_true rfl) dX12_measure_73 ⟨Nat.zero_le _, Nat.zero_le _⟩ (fun u73 H locs e73 hC => ?_)
            have hT := bd1_e e73 hT
            have z73 : u73 1 = (up2 σ 1 8 ((σ 1 8) + a3)) 1 := by
              rw [e73]
              exact sets_1 _ _ _ _
            refine lv_iload hx hb dX12_measure_76 (lv_at hl 5 rfl) ?_
            have J78 : ∀ v : Int32, v = (if a5 = 0 then (-a4) else a4) → W p l e { frames := 3, cells := 0, slots := 0, locals := 79 } s m args below meth c H locs 0 0 (QMI below args s g (mW g) A tgt) (F0 m 89 ls [.int (v)]) := by
              intro v ev
              subst ev
              refine lv_istore (lv' := [(6, .int ((if a5 = 0 then (-a4) else a4))), (0, .ref (g.2.2 100)), (1, .int (a1)), (2, .int (a2)), (3, .int (a3)), (4, .int (a4)), (5, .int (a5))]) hx hb dX12_measure_89 hl (by decide) rfl (fun ls hl => ?_)
              refine lv_aload_n hx hb dX12_measure_91 rfl (lv_at hl 1 rfl) ?_
              refine m_get (σ := u73) (v := .ref (g.2.2 1)) C0 hK hC.1 1 (by decide) rfl w_968 dX12_measure_92 ?_
              refine lv_bipush (v := (51 : Int32)) hx hb dX12_measure_95 (by decide) ?_
              refine lv_iload_n hx hb dX12_measure_97 rfl (lv_at hl 2 rfl) ?_
              refine lv_iadd hx hb dX12_measure_98 ?_
              have o_99 : vp_in ((51 : Int32) + a1) 916 := by
                have : ((0 : Int32)).toInt = 0 := by decide
                have : ((30 : Int32)).toInt = 30 := by decide
                have : ((59 : Int32)).toInt = 59 := by decide
                have : ((9900 : Int32)).toInt = 9900 := by decide
                have : ((51 : Int32)).toInt = 51 := by decide
                have := isWall_ne hI.2.1.1 c_5
                have := isStick_ne hI.1.1 c_13
                have := in_ne c_25
                have := in_ne c_36
                have := ti_le.mp c_52
                try have := ti_add (a := (51 : Int32)) (b := a1) (by omega) (by omega)
                exact vin (by omega) (by omega)
              refine m_ald (σ := u73) C0 hK hC.1 1 1 916 rfl o_99 (ix ((51 : Int32) + a1)) rfl dX12_measure_99 ?_
              refine lv_iconst (v := (0 : Int32)) hx hb dX12_measure_100 (by decide) ?_
              refine lv_aload_n hx hb dX12_measure_101 rfl (lv_at hl 1 rfl) ?_
              refine m_get (σ := u73) (v := .int ((u73 15 0))) C0 hK hC.1 15 (by decide) rfl w_982 dX12_measure_102 ?_
              refine lv_iload hx hb dX12_measure_105 (lv_at hl 0 rfl) ?_
              refine lv_iadd hx hb dX12_measure_107 ?_
              refine s_ci (rest := [.int ((u73 1 (ix ((51 : Int32) + a1))))]) (As := [.int ((0 : Int32)), .int (((u73 15 0) + (if a5 = 0 then (-a4) else a4)))]) C0 cf_X12_greater w_1182 (k_X12_greater l (0 : Int32) ((u73 15 0) + (if a5 = 0 then (-a4) else a4)) ) ⟨by decide, by decide⟩ hl.1 rfl rfl (Nat.le_of_ble_eq_true rfl) dX12_measure_108 ⟨Nat.zero_le _, Nat.zero_le _⟩ ?_
              refine s_ci (rest := []) (As := [.int ((u73 1 (ix ((51 : Int32) + a1)))), .int ((f_X12_greater (0 : Int32) ((u73 15 0) + (if a5 = 0 then (-a4) else a4))))]) C0 cf_X12_greater w_1182 (k_X12_greater l (u73 1 (ix ((51 : Int32) + a1))) (f_X12_greater (0 : Int32) ((u73 15 0) + (if a5 = 0 then (-a4) else a4))) ) ⟨by decide, by decide⟩ hl.1 rfl rfl (Nat.le_of_ble_eq_true rfl) dX12_measure_111 ⟨Nat.zero_le _, Nat.zero_le _⟩ ?_
              refine lv_istore (lv' := [(7, .int ((f_X12_greater (u73 1 (ix ((51 : Int32) + a1))) (f_X12_greater (0 : Int32) ((u73 15 0) + (if a5 = 0 then (-a4) else a4)))))), (6, .int ((if a5 = 0 then (-a4) else a4))), (0, .ref (g.2.2 100)), (1, .int (a1)), (2, .int (a2)), (3, .int (a3)), (4, .int (a4)), (5, .int (a5))]) hx hb dX12_measure_114 hl (by decide) rfl (fun ls hl => ?_)
              refine lv_aload_n hx hb dX12_measure_116 rfl (lv_at hl 2 rfl) ?_
              refine m_get (σ := u73) (v := .ref (g.2.2 1)) C0 hK hC.1 1 (by decide) rfl w_968 dX12_measure_117 ?_
              refine lv_bipush (v := (57 : Int32)) hx hb dX12_measure_120 (by decide) ?_
              refine lv_iload_n hx hb dX12_measure_122 rfl (lv_at hl 3 rfl) ?_
              refine lv_iadd hx hb dX12_measure_123 ?_
              have o_124 : vp_in ((57 : Int32) + a1) 916 := by
                have : ((0 : Int32)).toInt = 0 := by decide
                have : ((30 : Int32)).toInt = 30 := by decide
                have : ((59 : Int32)).toInt = 59 := by decide
                have : ((9900 : Int32)).toInt = 9900 := by decide
                have : ((57 : Int32)).toInt = 57 := by decide
                have := isWall_ne hI.2.1.1 c_5
                have := isStick_ne hI.1.1 c_13
                have := in_ne c_25
                have := in_ne c_36
                have := ti_le.mp c_52
                try have := ti_add (a := (57 : Int32)) (b := a1) (by omega) (by omega)
                exact vin (by omega) (by omega)
              refine m_ald (σ := u73) C0 hK hC.1 1 1 916 rfl o_124 (ix ((57 : Int32) + a1)) rfl dX12_measure_124 ?_
              refine lv_iconst (v := (0 : Int32)) hx hb dX12_measure_125 (by decide) ?_
              refine lv_aload_n hx hb dX12_measure_126 rfl (lv_at hl 2 rfl) ?_
              refine m_get (σ := u73) (v := .int ((u73 16 0))) C0 hK hC.1 16 (by decide) rfl w_983 dX12_measure_127 ?_
              refine lv_iload hx hb dX12_measure_130 (lv_at hl 1 rfl) ?_
              refine lv_iadd hx hb dX12_measure_132 ?_
              refine s_ci (rest := [.int ((u73 1 (ix ((57 : Int32) + a1))))]) (As := [.int ((0 : Int32)), .int (((u73 16 0) + (if a5 = 0 then (-a4) else a4)))]) C0 cf_X12_greater w_1182 (k_X12_greater l (0 : Int32) ((u73 16 0) + (if a5 = 0 then (-a4) else a4)) ) ⟨by decide, by decide⟩ hl.1 rfl rfl (Nat.le_of_ble_eq_true rfl) dX12_measure_133 ⟨Nat.zero_le _, Nat.zero_le _⟩ ?_
              refine s_ci (rest := []) (As := [.int ((u73 1 (ix ((57 : Int32) + a1)))), .int ((f_X12_greater (0 : Int32) ((u73 16 0) + (if a5 = 0 then (-a4) else a4))))]) C0 cf_X12_lesser w_1179 (k_X12_lesser l (u73 1 (ix ((57 : Int32) + a1))) (f_X12_greater (0 : Int32) ((u73 16 0) + (if a5 = 0 then (-a4) else a4))) ) ⟨by decide, by decide⟩ hl.1 rfl rfl (Nat.le_of_ble_eq_true rfl) dX12_measure_136 ⟨Nat.zero_le _, Nat.zero_le _⟩ ?_
              refine lv_istore (lv' := [(8, .int ((f_X12_lesser (u73 1 (ix ((57 : Int32) + a1))) (f_X12_greater (0 : Int32) ((u73 16 0) + (if a5 = 0 then (-a4) else a4)))))), (7, .int ((f_X12_greater (u73 1 (ix ((51 : Int32) + a1))) (f_X12_greater (0 : Int32) ((u73 15 0) + (if a5 = 0 then (-a4) else a4)))))), (6, .int ((if a5 = 0 then (-a4) else a4))), (0, .ref (g.2.2 100)), (1, .int (a1)), (2, .int (a2)), (3, .int (a3)), (4, .int (a4)), (5, .int (a5))]) hx hb dX12_measure_139 hl (by decide) rfl (fun ls hl => ?_)
              refine lv_iload hx hb dX12_measure_141 (lv_at hl 1 rfl) ?_
              refine lv_iload hx hb dX12_measure_143 (lv_at hl 0 rfl) ?_
              refine lv_icmp_le (tgt := 151) hx hb dX12_measure_145 (by decide) (fun c_145 => ?_) (fun c_145 => ?_)
              · have hT := hT_pos c_145 hT
                refine lv_aload_n hx hb dX12_measure_151 rfl (lv_at hl 3 rfl) ?_
                refine m_get (σ := u73) (v := .ref (g.2.2 1)) C0 hK hC.1 1 (by decide) rfl w_968 dX12_measure_152 ?_
                refine lv_bipush (v := (51 : Int32)) hx hb dX12_measure_155 (by decide) ?_
                refine lv_iload_n hx hb dX12_measure_157 rfl (lv_at hl 4 rfl) ?_
                refine lv_iadd hx hb dX12_measure_158 ?_
                refine lv_iload hx hb dX12_measure_159 (lv_at hl 1 rfl) ?_
                have o_161 : vp_in ((51 : Int32) + a1) 916 := by
                  have : ((0 : Int32)).toInt = 0 := by decide
                  have : ((30 : Int32)).toInt = 30 := by decide
                  have : ((59 : Int32)).toInt = 59 := by decide
                  have : ((9900 : Int32)).toInt = 9900 := by decide
                  have : ((51 : Int32)).toInt = 51 := by decide
                  have := isWall_ne hI.2.1.1 c_5
                  have := isStick_ne hI.1.1 c_13
                  have := in_ne c_25
                  have := in_ne c_36
                  have := ti_le.mp c_52
                  have := ti_le.mp c_145
                  try have := ti_add (a := (51 : Int32)) (b := a1) (by omega) (by omega)
                  exact vin (by omega) (by omega)
                refine m_ast (σ := u73) C0 hK hC 1 1 916 rfl (ms_1 g _) o_161 (ix ((51 : Int32) + a1)) rfl dX12_measure_161 (fun H locs hC => ?_)
                refine lv_aload_n hx hb dX12_measure_162 rfl (lv_at hl 3 rfl) ?_
                refine m_get (σ := (up2 u73 1 (ix ((51 : Int32) + a1)) (f_X12_greater (u73 1 (ix ((51 : Int32) + a1))) (f_X12_greater (0 : Int32) ((u73 15 0) + (if a5 = 0 then (-a4) else a4)))))) (v := .ref (g.2.2 1)) C0 hK hC.1 1 (by decide) rfl w_968 dX12_measure_163 ?_
                refine lv_bipush (v := (57 : Int32)) hx hb dX12_measure_166 (by decide) ?_
                refine lv_iload_n hx hb dX12_measure_168 rfl (lv_at hl 4 rfl) ?_
                refine lv_iadd hx hb dX12_measure_169 ?_
                refine lv_iload hx hb dX12_measure_170 (lv_at hl 0 rfl) ?_
                have o_172 : vp_in ((57 : Int32) + a1) 916 := by
                  have : ((0 : Int32)).toInt = 0 := by decide
                  have : ((30 : Int32)).toInt = 30 := by decide
                  have : ((59 : Int32)).toInt = 59 := by decide
                  have : ((9900 : Int32)).toInt = 9900 := by decide
                  have : ((57 : Int32)).toInt = 57 := by decide
                  have := isWall_ne hI.2.1.1 c_5
                  have := isStick_ne hI.1.1 c_13
                  have := in_ne c_25
                  have := in_ne c_36
                  have := ti_le.mp c_52
                  have := ti_le.mp c_145
                  try have := ti_add (a := (57 : Int32)) (b := a1) (by omega) (by omega)
                  exact vin (by omega) (by omega)
                refine m_ast (σ := (up2 u73 1 (ix ((51 : Int32) + a1)) (f_X12_greater (u73 1 (ix ((51 : Int32) + a1))) (f_X12_greater (0 : Int32) ((u73 15 0) + (if a5 = 0 then (-a4) else a4)))))) C0 hK hC 1 1 916 rfl (ms_1 g _) o_172 (ix ((57 : Int32) + a1)) rfl dX12_measure_172 (fun H locs hC => ?_)
                refine lv_iload hx hb dX12_measure_173 (lv_at hl 0 rfl) ?_
                refine lv_iload hx hb dX12_measure_175 (lv_at hl 1 rfl) ?_
                refine lv_isub hx hb dX12_measure_177 ?_
                exact ret_MI C0 hC hT dX12_measure_178
              · have hT := hT_neg c_145 hT
                refine lv_bipush (v := (-3 : Int32)) hx hb dX12_measure_148 (by decide) ?_
                exact ret_MI C0 hC hT dX12_measure_150
            refine lv_if_eq (tgt := 86) hx hb dX12_measure_78 (by decide) (fun c_78 => ?_) (fun c_78 => ?_)
            · refine lv_iload hx hb dX12_measure_86 (lv_at hl 4 rfl) ?_
              refine lv_ineg hx hb dX12_measure_88 ?_
              exact J78 _ (iv_pos c_78 rfl)
            · refine lv_iload hx hb dX12_measure_81 (lv_at hl 4 rfl) ?_
              refine lv_goto (tgt := 89) hx hb dX12_measure_83 (by decide) ?_
              exact J78 _ (iv_neg c_78 rfl)
          · have hT := hT_neg c_52 hT
            refine lv_bipush (v := (-3 : Int32)) hx hb dX12_measure_55 (by decide) ?_
            exact ret_MI C0 hC hT dX12_measure_57
        · have hT := hT_pos c_36 hT
          refine lv_bipush (v := (-2 : Int32)) hx hb dX12_measure_39 (by decide) ?_
          exact ret_MI C0 hC hT dX12_measure_41
    · have hT := hT_pos c_13 hT
      refine lv_iconst (v := (-1 : Int32)) hx hb dX12_measure_16 (by decide) ?_
      exact ret_MI C0 hC hT dX12_measure_17
/-! ThreeMeasuresModel.between -/
theorem dX12_between_0 : decode cX12_between 0 = .ok (.aload_n 0, 1) := by decide +kernel
theorem dX12_between_1 : decode cX12_between 1 = .ok (.iload_n 1, 1) := by decide +kernel
theorem dX12_between_2 : decode cX12_between 2 = .ok (.invokevirtual 161, 3) := by decide +kernel
theorem dX12_between_5 : decode cX12_between 5 = .ok (.ifCond .eq 21, 3) := by decide +kernel
theorem dX12_between_8 : decode cX12_between 8 = .ok (.aload_n 0, 1) := by decide +kernel
theorem dX12_between_9 : decode cX12_between 9 = .ok (.iload_n 2, 1) := by decide +kernel
theorem dX12_between_10 : decode cX12_between 10 = .ok (.invokevirtual 165, 3) := by decide +kernel
theorem dX12_between_13 : decode cX12_between 13 = .ok (.ifCond .eq 13, 3) := by decide +kernel
theorem dX12_between_16 : decode cX12_between 16 = .ok (.iload 4, 2) := by decide +kernel
theorem dX12_between_18 : decode cX12_between 18 = .ok (.iconst 0, 1) := by decide +kernel
theorem dX12_between_19 : decode cX12_between 19 = .ok (.iconst 3, 1) := by decide +kernel
theorem dX12_between_20 : decode cX12_between 20 = .ok (.invokestatic 47, 3) := by decide +kernel
theorem dX12_between_23 : decode cX12_between 23 = .ok (.ifCond .ne 5, 3) := by decide +kernel
theorem dX12_between_26 : decode cX12_between 26 = .ok (.iconst (-1), 1) := by decide +kernel
theorem dX12_between_27 : decode cX12_between 27 = .ok (.ireturn, 1) := by decide +kernel
theorem dX12_between_28 : decode cX12_between 28 = .ok (.iload_n 3, 1) := by decide +kernel
theorem dX12_between_29 : decode cX12_between 29 = .ok (.iconst 0, 1) := by decide +kernel
theorem dX12_between_30 : decode cX12_between 30 = .ok (.bipush 30, 2) := by decide +kernel
theorem dX12_between_32 : decode cX12_between 32 = .ok (.invokestatic 47, 3) := by decide +kernel
theorem dX12_between_35 : decode cX12_between 35 = .ok (.ifCond .ne 6, 3) := by decide +kernel
theorem dX12_between_38 : decode cX12_between 38 = .ok (.bipush (-2), 2) := by decide +kernel
theorem dX12_between_40 : decode cX12_between 40 = .ok (.ireturn, 1) := by decide +kernel
theorem dX12_between_41 : decode cX12_between 41 = .ok (.aload_n 0, 1) := by decide +kernel
theorem dX12_between_42 : decode cX12_between 42 = .ok (.iload_n 1, 1) := by decide +kernel
theorem dX12_between_43 : decode cX12_between 43 = .ok (.iload_n 2, 1) := by decide +kernel
theorem dX12_between_44 : decode cX12_between 44 = .ok (.iload_n 3, 1) := by decide +kernel
theorem dX12_between_45 : decode cX12_between 45 = .ok (.invokevirtual 172, 3) := by decide +kernel
theorem dX12_between_48 : decode cX12_between 48 = .ok (.iload 4, 2) := by decide +kernel
theorem dX12_between_50 : decode cX12_between 50 = .ok (.ifCond .ne 10, 3) := by decide +kernel
theorem dX12_between_53 : decode cX12_between 53 = .ok (.aload_n 0, 1) := by decide +kernel
theorem dX12_between_54 : decode cX12_between 54 = .ok (.getfield 155, 3) := by decide +kernel
theorem dX12_between_57 : decode cX12_between 57 = .ok (.goto 33, 3) := by decide +kernel
theorem dX12_between_60 : decode cX12_between 60 = .ok (.iload 4, 2) := by decide +kernel
theorem dX12_between_62 : decode cX12_between 62 = .ok (.iconst 1, 1) := by decide +kernel
theorem dX12_between_63 : decode cX12_between 63 = .ok (.if_icmp .ne 10, 3) := by decide +kernel
theorem dX12_between_66 : decode cX12_between 66 = .ok (.aload_n 0, 1) := by decide +kernel
theorem dX12_between_67 : decode cX12_between 67 = .ok (.getfield 158, 3) := by decide +kernel
theorem dX12_between_70 : decode cX12_between 70 = .ok (.goto 20, 3) := by decide +kernel
theorem dX12_between_73 : decode cX12_between 73 = .ok (.iload 4, 2) := by decide +kernel
theorem dX12_between_75 : decode cX12_between 75 = .ok (.iconst 2, 1) := by decide +kernel
theorem dX12_between_76 : decode cX12_between 76 = .ok (.if_icmp .ne 10, 3) := by decide +kernel
theorem dX12_between_79 : decode cX12_between 79 = .ok (.aload_n 0, 1) := by decide +kernel
theorem dX12_between_80 : decode cX12_between 80 = .ok (.getfield 143, 3) := by decide +kernel
theorem dX12_between_83 : decode cX12_between 83 = .ok (.goto 7, 3) := by decide +kernel
theorem dX12_between_86 : decode cX12_between 86 = .ok (.aload_n 0, 1) := by decide +kernel
theorem dX12_between_87 : decode cX12_between 87 = .ok (.getfield 146, 3) := by decide +kernel
theorem dX12_between_90 : decode cX12_between 90 = .ok (.ireturn, 1) := by decide +kernel
def f_X12_between (σ : St) (a1 : Int32) (a2 : Int32) (a3 : Int32) (a4 : Int32) : Int32 × St := (if (f_X12_isStick σ a1) = 0 then ((-1 : Int32), σ) else (if (f_X12_isWall σ a2) = 0 then ((-1 : Int32), σ) else (if (f_X12_in a4 (0 : Int32) (3 : Int32)) = 0 then ((-1 : Int32), σ) else (if (f_X12_in a3 (0 : Int32) (30 : Int32)) = 0 then ((-2 : Int32), σ) else (bd1 (f_X12_sets σ a1 a2 a3) (fun u45 => ((if a4 = 0 then (u45 15 0) else (if a4 = (1 : Int32) then (u45 16 0) else (if a4 = (2 : Int32) then (u45 13 0) else (u45 14 0)))), u45)))))))
set_option maxHeartbeats 600000 in
set_option maxRecDepth 100000 in
theorem k_X12_between (l : Launch) (g : GG) (σ : St) (a1 : Int32) (a2 : Int32) (a3 : Int32) (a4 : Int32) (hI : IB (σ 1)) (hV : HV (σ 1)) : MI l yX12_between (wsF yX12_between cX12_between 5 (some .int)) { frames := 3, cells := 0, slots := 0, locals := 79 } [.ref (g.2.2 100), .int (a1), .int (a2), .int (a3), .int (a4)] g (mW g) (fun _ => True) σ (f_X12_between σ a1 a2 a3 a4) := by
  refine start_MI (by decide) (Nat.le_of_ble_eq_true rfl) ?_
  intro p e s m args below meth c C0 hK hBg hC ls hl
  generalize hAe : aA ((mW g) σ) = A at hC ⊢
  obtain ⟨hx, hb, hr, hml, hown, hts, hlocks⟩ := id C0
  have hl : lv_has ls 5 [(0, .ref (g.2.2 100)), (1, .int (a1)), (2, .int (a2)), (3, .int (a3)), (4, .int (a4))] := hl
  generalize hT : (f_X12_between σ a1 a2 a3 a4) = tgt
  suffices key : ∀ (H : Heap) (locs : List Loc), WC g (mW g) A s.heap σ H locs → W p l e { frames := 3, cells := 0, slots := 0, locals := 79 } s m args below meth c H locs 0 0 (QMI below args s g (mW g) A tgt) (F0 m 0 ls []) from key _ _ hC
  intro H locs hC
  unfold f_X12_between at hT
  obtain ⟨⟨i0, i0'⟩, ⟨i1, i1'⟩, ⟨i2, i2'⟩, ⟨i3, i3'⟩, ⟨i4, i4'⟩, ⟨i5, i5'⟩, ⟨i6, i6'⟩, ⟨i7, i7'⟩, ⟨i8, i8'⟩, iK, iV, iL, iR, iW, iY, iG, iM, iB, iQ, iP, iT, iU⟩ := id hI
  refine lv_aload_n hx hb dX12_between_0 rfl (lv_at hl 0 rfl) ?_
  refine lv_iload_n hx hb dX12_between_1 rfl (lv_at hl 1 rfl) ?_
  refine m_ci (rest := []) (As := [.int (a1)]) (σ := σ) C0 hK hC.1 (hC.2.1.weaken (fun _ _ _ _ => trivial)) SV.tt (fun _ _ _ => trivial) cf_X12_isStick w_1131 rfl (k_X12_isStick l g σ a1 ) ⟨by decide, by decide⟩ hl.1 rfl rfl (Nat.le_of_ble_eq_true rfl) dX12_between_2 ⟨Nat.zero_le _, Nat.zero_le _⟩ ?_
  refine lv_if_eq (tgt := 26) hx hb dX12_between_5 (by decide) (fun c_5 => ?_) (fun c_5 => ?_)
  · have hT := hT_pos c_5 hT
    refine lv_iconst (v := (-1 : Int32)) hx hb dX12_between_26 (by decide) ?_
    exact ret_MI C0 hC hT dX12_between_27
  · have hT := hT_neg c_5 hT
    refine lv_aload_n hx hb dX12_between_8 rfl (lv_at hl 0 rfl) ?_
    refine lv_iload_n hx hb dX12_between_9 rfl (lv_at hl 2 rfl) ?_
    refine m_ci (rest := []) (As := [.int (a2)]) (σ := σ) C0 hK hC.1 (hC.2.1.weaken (fun _ _ _ _ => trivial)) SV.tt (fun _ _ _ => trivial) cf_X12_isWall w_1147 rfl (k_X12_isWall l g σ a2 ) ⟨by decide, by decide⟩ hl.1 rfl rfl (Nat.le_of_ble_eq_true rfl) dX12_between_10 ⟨Nat.zero_le _, Nat.zero_le _⟩ ?_
    refine lv_if_eq (tgt := 26) hx hb dX12_between_13 (by decide) (fun c_13 => ?_) (fun c_13 => ?_)
    · have hT := hT_pos c_13 hT
      refine lv_iconst (v := (-1 : Int32)) hx hb dX12_between_26 (by decide) ?_
      exact ret_MI C0 hC hT dX12_between_27
    · have hT := hT_neg c_13 hT
      refine lv_iload hx hb dX12_between_16 (lv_at hl 4 rfl) ?_
      refine lv_iconst (v := (0 : Int32)) hx hb dX12_between_18 (by decide) ?_
      refine lv_iconst (v := (3 : Int32)) hx hb dX12_between_19 (by decide) ?_
      refine s_ci (rest := []) (As := [.int (a4), .int ((0 : Int32)), .int ((3 : Int32))]) C0 cf_X12_in w_1060 (k_X12_in l a4 (0 : Int32) (3 : Int32) ) ⟨by decide, by decide⟩ hl.1 rfl rfl (Nat.le_of_ble_eq_true rfl) dX12_between_20 ⟨Nat.zero_le _, Nat.zero_le _⟩ ?_
      refine lv_if_ne (tgt := 28) hx hb dX12_between_23 (by decide) (fun c_23 => ?_) (fun c_23 => ?_)
      · have hT := hT_neg c_23 hT
        refine lv_iload_n hx hb dX12_between_28 rfl (lv_at hl 3 rfl) ?_
        refine lv_iconst (v := (0 : Int32)) hx hb dX12_between_29 (by decide) ?_
        refine lv_bipush (v := (30 : Int32)) hx hb dX12_between_30 (by decide) ?_
        refine s_ci (rest := []) (As := [.int (a3), .int ((0 : Int32)), .int ((30 : Int32))]) C0 cf_X12_in w_1060 (k_X12_in l a3 (0 : Int32) (30 : Int32) ) ⟨by decide, by decide⟩ hl.1 rfl rfl (Nat.le_of_ble_eq_true rfl) dX12_between_32 ⟨Nat.zero_le _, Nat.zero_le _⟩ ?_
        refine lv_if_ne (tgt := 41) hx hb dX12_between_35 (by decide) (fun c_35 => ?_) (fun c_35 => ?_)
        · have hT := hT_neg c_35 hT
          refine lv_aload_n hx hb dX12_between_41 rfl (lv_at hl 0 rfl) ?_
          refine lv_iload_n hx hb dX12_between_42 rfl (lv_at hl 1 rfl) ?_
          refine lv_iload_n hx hb dX12_between_43 rfl (lv_at hl 2 rfl) ?_
          refine lv_iload_n hx hb dX12_between_44 rfl (lv_at hl 3 rfl) ?_
          have q45_h1 : 0 ≤ a1.toInt := by
            have : ((0 : Int32)).toInt = 0 := by decide
            have : ((3 : Int32)).toInt = 3 := by decide
            have : ((30 : Int32)).toInt = 30 := by decide
            have := isStick_ne hI.1.1 c_5
            have := isWall_ne hI.2.1.1 c_13
            have := in_ne c_23
            have := in_ne c_35
            omega
          have q45_h1b : a1.toInt < 6 := by
            have : ((0 : Int32)).toInt = 0 := by decide
            have : ((3 : Int32)).toInt = 3 := by decide
            have : ((30 : Int32)).toInt = 30 := by decide
            have := isStick_ne hI.1.1 c_5
            have := isWall_ne hI.2.1.1 c_13
            have := in_ne c_23
            have := in_ne c_35
            omega
          have q45_h3 : 0 ≤ a3.toInt := by
            have : ((0 : Int32)).toInt = 0 := by decide
            have : ((3 : Int32)).toInt = 3 := by decide
            have : ((30 : Int32)).toInt = 30 := by decide
            have := isStick_ne hI.1.1 c_5
            have := isWall_ne hI.2.1.1 c_13
            have := in_ne c_23
            have := in_ne c_35
            omega
          refine m_mv (rest := []) (As := [.int (a1), .int (a2), .int (a3)]) (σ := σ) C0 hK hC SV.tt (fun _ _ _ => trivial) cf_X12_sets w_1171 rfl (k_X12_sets l g σ a1 a2 a3 hI hV q45_h1 q45_h1b q45_h3) ⟨by decide, by decide⟩ hl.1 rfl rfl (Nat.le_of_ble_eq_true rfl) dX12_between_45 ⟨Nat.zero_le _, Nat.zero_le _⟩ (fun u45 H locs e45 hC => ?_)
          have hT := bd1_e e45 hT
          have z45 : u45 1 = σ 1 := by
            rw [e45]
            exact sets_1 _ _ _ _
          refine lv_iload hx hb dX12_between_48 (lv_at hl 4 rfl) ?_
          have J50 : ∀ v : Int32, v = (if a4 = 0 then (u45 15 0) else (if a4 = (1 : Int32) then (u45 16 0) else (if a4 = (2 : Int32) then (u45 13 0) else (u45 14 0)))) → W p l e { frames := 3, cells := 0, slots := 0, locals := 79 } s m args below meth c H locs 0 0 (QMI below args s g (mW g) A tgt) (F0 m 90 ls [.int (v)]) := by
            intro v ev
            subst ev
            exact ret_MI C0 hC hT dX12_between_90
          refine lv_if_ne (tgt := 60) hx hb dX12_between_50 (by decide) (fun c_50 => ?_) (fun c_50 => ?_)
          · refine lv_iload hx hb dX12_between_60 (lv_at hl 4 rfl) ?_
            refine lv_iconst (v := (1 : Int32)) hx hb dX12_between_62 (by decide) ?_
            refine lv_icmp_ne (tgt := 73) hx hb dX12_between_63 (by decide) (fun c_63 => ?_) (fun c_63 => ?_)
            · refine lv_iload hx hb dX12_between_73 (lv_at hl 4 rfl) ?_
              refine lv_iconst (v := (2 : Int32)) hx hb dX12_between_75 (by decide) ?_
              refine lv_icmp_ne (tgt := 86) hx hb dX12_between_76 (by decide) (fun c_76 => ?_) (fun c_76 => ?_)
              · refine lv_aload_n hx hb dX12_between_86 rfl (lv_at hl 0 rfl) ?_
                refine m_get (σ := u45) (v := .int ((u45 14 0))) C0 hK hC.1 14 (by decide) rfl w_981 dX12_between_87 ?_
                exact J50 _ (iv_neg c_50 (iv_neg c_63 (iv_neg c_76 rfl)))
              · refine lv_aload_n hx hb dX12_between_79 rfl (lv_at hl 0 rfl) ?_
                refine m_get (σ := u45) (v := .int ((u45 13 0))) C0 hK hC.1 13 (by decide) rfl w_980 dX12_between_80 ?_
                refine lv_goto (tgt := 90) hx hb dX12_between_83 (by decide) ?_
                exact J50 _ (iv_neg c_50 (iv_neg c_63 (iv_pos c_76 rfl)))
            · refine lv_aload_n hx hb dX12_between_66 rfl (lv_at hl 0 rfl) ?_
              refine m_get (σ := u45) (v := .int ((u45 16 0))) C0 hK hC.1 16 (by decide) rfl w_983 dX12_between_67 ?_
              refine lv_goto (tgt := 90) hx hb dX12_between_70 (by decide) ?_
              exact J50 _ (iv_neg c_50 (iv_pos c_63 rfl))
          · refine lv_aload_n hx hb dX12_between_53 rfl (lv_at hl 0 rfl) ?_
            refine m_get (σ := u45) (v := .int ((u45 15 0))) C0 hK hC.1 15 (by decide) rfl w_982 dX12_between_54 ?_
            refine lv_goto (tgt := 90) hx hb dX12_between_57 (by decide) ?_
            exact J50 _ (iv_pos c_50 rfl)
        · have hT := hT_pos c_35 hT
          refine lv_bipush (v := (-2 : Int32)) hx hb dX12_between_38 (by decide) ?_
          exact ret_MI C0 hC hT dX12_between_40
      · have hT := hT_pos c_23 hT
        refine lv_iconst (v := (-1 : Int32)) hx hb dX12_between_26 (by decide) ?_
        exact ret_MI C0 hC hT dX12_between_27
/-! ThreeMeasuresModel.surest -/
theorem dX12_surest_0 : decode cX12_surest 0 = .ok (.aload_n 0, 1) := by decide +kernel
theorem dX12_surest_1 : decode cX12_surest 1 = .ok (.iload_n 1, 1) := by decide +kernel
theorem dX12_surest_2 : decode cX12_surest 2 = .ok (.invokevirtual 165, 3) := by decide +kernel
theorem dX12_surest_5 : decode cX12_surest 5 = .ok (.ifCond .eq 12, 3) := by decide +kernel
theorem dX12_surest_8 : decode cX12_surest 8 = .ok (.iload_n 3, 1) := by decide +kernel
theorem dX12_surest_9 : decode cX12_surest 9 = .ok (.iconst 0, 1) := by decide +kernel
theorem dX12_surest_10 : decode cX12_surest 10 = .ok (.iconst 2, 1) := by decide +kernel
theorem dX12_surest_11 : decode cX12_surest 11 = .ok (.invokestatic 47, 3) := by decide +kernel
theorem dX12_surest_14 : decode cX12_surest 14 = .ok (.ifCond .ne 5, 3) := by decide +kernel
theorem dX12_surest_17 : decode cX12_surest 17 = .ok (.iconst (-1), 1) := by decide +kernel
theorem dX12_surest_18 : decode cX12_surest 18 = .ok (.ireturn, 1) := by decide +kernel
theorem dX12_surest_19 : decode cX12_surest 19 = .ok (.iload_n 2, 1) := by decide +kernel
theorem dX12_surest_20 : decode cX12_surest 20 = .ok (.iconst 1, 1) := by decide +kernel
theorem dX12_surest_21 : decode cX12_surest 21 = .ok (.sipush 999, 3) := by decide +kernel
theorem dX12_surest_24 : decode cX12_surest 24 = .ok (.invokestatic 47, 3) := by decide +kernel
theorem dX12_surest_27 : decode cX12_surest 27 = .ok (.ifCond .ne 6, 3) := by decide +kernel
theorem dX12_surest_30 : decode cX12_surest 30 = .ok (.bipush (-2), 2) := by decide +kernel
theorem dX12_surest_32 : decode cX12_surest 32 = .ok (.ireturn, 1) := by decide +kernel
theorem dX12_surest_33 : decode cX12_surest 33 = .ok (.bipush (-5), 2) := by decide +kernel
theorem dX12_surest_35 : decode cX12_surest 35 = .ok (.istore 4, 2) := by decide +kernel
theorem dX12_surest_37 : decode cX12_surest 37 = .ok (.bipush (-5), 2) := by decide +kernel
theorem dX12_surest_39 : decode cX12_surest 39 = .ok (.istore 5, 2) := by decide +kernel
theorem dX12_surest_41 : decode cX12_surest 41 = .ok (.bipush (-5), 2) := by decide +kernel
theorem dX12_surest_43 : decode cX12_surest 43 = .ok (.istore 6, 2) := by decide +kernel
theorem dX12_surest_45 : decode cX12_surest 45 = .ok (.iconst 0, 1) := by decide +kernel
theorem dX12_surest_46 : decode cX12_surest 46 = .ok (.istore 7, 2) := by decide +kernel
theorem dX12_surest_48 : decode cX12_surest 48 = .ok (.iload 7, 2) := by decide +kernel
theorem dX12_surest_50 : decode cX12_surest 50 = .ok (.aload_n 0, 1) := by decide +kernel
theorem dX12_surest_51 : decode cX12_surest 51 = .ok (.getfield 9, 3) := by decide +kernel
theorem dX12_surest_54 : decode cX12_surest 54 = .ok (.iconst 0, 1) := by decide +kernel
theorem dX12_surest_55 : decode cX12_surest 55 = .ok (.iaload, 1) := by decide +kernel
theorem dX12_surest_56 : decode cX12_surest 56 = .ok (.if_icmp .ge 89, 3) := by decide +kernel
theorem dX12_surest_59 : decode cX12_surest 59 = .ok (.iconst 0, 1) := by decide +kernel
theorem dX12_surest_60 : decode cX12_surest 60 = .ok (.istore 8, 2) := by decide +kernel
theorem dX12_surest_62 : decode cX12_surest 62 = .ok (.iload 8, 2) := by decide +kernel
theorem dX12_surest_64 : decode cX12_surest 64 = .ok (.bipush 30, 2) := by decide +kernel
theorem dX12_surest_66 : decode cX12_surest 66 = .ok (.if_icmp .gt 73, 3) := by decide +kernel
theorem dX12_surest_69 : decode cX12_surest 69 = .ok (.aload_n 0, 1) := by decide +kernel
theorem dX12_surest_70 : decode cX12_surest 70 = .ok (.iload 7, 2) := by decide +kernel
theorem dX12_surest_72 : decode cX12_surest 72 = .ok (.iload_n 1, 1) := by decide +kernel
theorem dX12_surest_73 : decode cX12_surest 73 = .ok (.iload 8, 2) := by decide +kernel
theorem dX12_surest_75 : decode cX12_surest 75 = .ok (.invokevirtual 172, 3) := by decide +kernel
theorem dX12_surest_78 : decode cX12_surest 78 = .ok (.iload_n 2, 1) := by decide +kernel
theorem dX12_surest_79 : decode cX12_surest 79 = .ok (.aload_n 0, 1) := by decide +kernel
theorem dX12_surest_80 : decode cX12_surest 80 = .ok (.getfield 143, 3) := by decide +kernel
theorem dX12_surest_83 : decode cX12_surest 83 = .ok (.isub, 1) := by decide +kernel
theorem dX12_surest_84 : decode cX12_surest 84 = .ok (.iconst 0, 1) := by decide +kernel
theorem dX12_surest_85 : decode cX12_surest 85 = .ok (.bipush 59, 2) := by decide +kernel
theorem dX12_surest_87 : decode cX12_surest 87 = .ok (.invokestatic 47, 3) := by decide +kernel
theorem dX12_surest_90 : decode cX12_surest 90 = .ok (.ifCond .eq 43, 3) := by decide +kernel
theorem dX12_surest_93 : decode cX12_surest 93 = .ok (.iload 4, 2) := by decide +kernel
theorem dX12_surest_95 : decode cX12_surest 95 = .ok (.bipush (-5), 2) := by decide +kernel
theorem dX12_surest_97 : decode cX12_surest 97 = .ok (.if_icmp .eq 17, 3) := by decide +kernel
theorem dX12_surest_100 : decode cX12_surest 100 = .ok (.aload_n 0, 1) := by decide +kernel
theorem dX12_surest_101 : decode cX12_surest 101 = .ok (.getfield 158, 3) := by decide +kernel
theorem dX12_surest_104 : decode cX12_surest 104 = .ok (.aload_n 0, 1) := by decide +kernel
theorem dX12_surest_105 : decode cX12_surest 105 = .ok (.getfield 155, 3) := by decide +kernel
theorem dX12_surest_108 : decode cX12_surest 108 = .ok (.isub, 1) := by decide +kernel
theorem dX12_surest_109 : decode cX12_surest 109 = .ok (.iload 6, 2) := by decide +kernel
theorem dX12_surest_111 : decode cX12_surest 111 = .ok (.if_icmp .ge 22, 3) := by decide +kernel
theorem dX12_surest_114 : decode cX12_surest 114 = .ok (.iload 7, 2) := by decide +kernel
theorem dX12_surest_116 : decode cX12_surest 116 = .ok (.istore 4, 2) := by decide +kernel
theorem dX12_surest_118 : decode cX12_surest 118 = .ok (.iload 8, 2) := by decide +kernel
theorem dX12_surest_120 : decode cX12_surest 120 = .ok (.istore 5, 2) := by decide +kernel
theorem dX12_surest_122 : decode cX12_surest 122 = .ok (.aload_n 0, 1) := by decide +kernel
theorem dX12_surest_123 : decode cX12_surest 123 = .ok (.getfield 158, 3) := by decide +kernel
theorem dX12_surest_126 : decode cX12_surest 126 = .ok (.aload_n 0, 1) := by decide +kernel
theorem dX12_surest_127 : decode cX12_surest 127 = .ok (.getfield 155, 3) := by decide +kernel
theorem dX12_surest_130 : decode cX12_surest 130 = .ok (.isub, 1) := by decide +kernel
theorem dX12_surest_131 : decode cX12_surest 131 = .ok (.istore 6, 2) := by decide +kernel
theorem dX12_surest_133 : decode cX12_surest 133 = .ok (.iinc 8 1, 3) := by decide +kernel
theorem dX12_surest_136 : decode cX12_surest 136 = .ok (.goto (-74), 3) := by decide +kernel
theorem dX12_surest_139 : decode cX12_surest 139 = .ok (.iinc 7 1, 3) := by decide +kernel
theorem dX12_surest_142 : decode cX12_surest 142 = .ok (.goto (-94), 3) := by decide +kernel
theorem dX12_surest_145 : decode cX12_surest 145 = .ok (.iload_n 3, 1) := by decide +kernel
theorem dX12_surest_146 : decode cX12_surest 146 = .ok (.ifCond .ne 8, 3) := by decide +kernel
theorem dX12_surest_149 : decode cX12_surest 149 = .ok (.iload 4, 2) := by decide +kernel
theorem dX12_surest_151 : decode cX12_surest 151 = .ok (.goto 15, 3) := by decide +kernel
theorem dX12_surest_154 : decode cX12_surest 154 = .ok (.iload_n 3, 1) := by decide +kernel
theorem dX12_surest_155 : decode cX12_surest 155 = .ok (.iconst 1, 1) := by decide +kernel
theorem dX12_surest_156 : decode cX12_surest 156 = .ok (.if_icmp .ne 8, 3) := by decide +kernel
theorem dX12_surest_159 : decode cX12_surest 159 = .ok (.iload 5, 2) := by decide +kernel
theorem dX12_surest_161 : decode cX12_surest 161 = .ok (.goto 5, 3) := by decide +kernel
theorem dX12_surest_164 : decode cX12_surest 164 = .ok (.iload 6, 2) := by decide +kernel
theorem dX12_surest_166 : decode cX12_surest 166 = .ok (.ireturn, 1) := by decide +kernel
def f_X12_surest_133 (K48 : St → Int32 → Int32 → Int32 → Int32 → Int32 → Int32 → Int32 → Int32 × St) (K62 : St → Int32 → Int32 → Int32 → Int32 → Int32 → Int32 → Int32 → Int32 → Int32 × St) (σ : St) (a1 : Int32) (a2 : Int32) (a3 : Int32) (a4 : Int32) (a5 : Int32) (a6 : Int32) (a7 : Int32) (a8 : Int32) : Int32 × St := (K62 σ a1 a2 a3 a4 a5 a6 a7 (a8 + (1 : Int32)))
set_option maxHeartbeats 600000 in
set_option maxRecDepth 100000 in
theorem b_X12_surest_133 {g : GG} {p : Program} {l : Launch} {e : Env} {s : State} {m : MethodId} {args : Array Value} {below : List Frame} {meth : Method} {c : Code} {A : Nat → Prop} {tgt : Int32 × St} {K48 : St → Int32 → Int32 → Int32 → Int32 → Int32 → Int32 → Int32 → Int32 × St} {N48 : Nat} {K62 : St → Int32 → Int32 → Int32 → Int32 → Int32 → Int32 → Int32 → Int32 → Int32 × St} {N62 : Nat} (C0 : BC p s m args meth c cX12_surest RX12 9 (some .int)) (hK48 : ∀ (σ : St) (a1 : Int32) (a2 : Int32) (a3 : Int32) (a4 : Int32) (a5 : Int32) (a6 : Int32) (a7 : Int32), (IB (σ 1)) → (HV (σ 1)) → (0 ≤ a7.toInt) → ((σ 1 0).toInt - a7.toInt).toNat < N48 → ∀ {H : Heap} {locs : List Loc}, KK g s → WC g (mW g) A s.heap σ H locs → ∀ {ls : Array Slot}, lv_has ls 9 [(0, .ref (g.2.2 100)), (1, .int (a1)), (2, .int (a2)), (3, .int (a3)), (4, .int (a4)), (5, .int (a5)), (6, .int (a6)), (7, .int (a7))] → K48 σ a1 a2 a3 a4 a5 a6 a7 = tgt → W p l e { frames := 3, cells := 0, slots := 0, locals := 79 } s m args below meth c H locs 0 0 (QMI below args s g (mW g) A tgt) (F0 m 48 ls [])) (hK62 : ∀ (σ : St) (a1 : Int32) (a2 : Int32) (a3 : Int32) (a4 : Int32) (a5 : Int32) (a6 : Int32) (a7 : Int32) (a8 : Int32), (IB (σ 1)) → (HV (σ 1)) → (0 ≤ a7.toInt) → (a7.toInt < (σ 1 0).toInt) → (((σ 1 0).toInt - a7.toInt).toNat < N48 + 1) → (0 ≤ a8.toInt) → (31 - a8.toInt).toNat < N62 → ∀ {H : Heap} {locs : List Loc}, KK g s → WC g (mW g) A s.heap σ H locs → ∀ {ls : Array Slot}, lv_has ls 9 [(0, .ref (g.2.2 100)), (1, .int (a1)), (2, .int (a2)), (3, .int (a3)), (4, .int (a4)), (5, .int (a5)), (6, .int (a6)), (7, .int (a7)), (8, .int (a8))] → K62 σ a1 a2 a3 a4 a5 a6 a7 a8 = tgt → W p l e { frames := 3, cells := 0, slots := 0, locals := 79 } s m args below meth c H locs 0 0 (QMI below args s g (mW g) A tgt) (F0 m 62 ls [])) {σ : St} {a1 : Int32} {a2 : Int32} {a3 : Int32} {a4 : Int32} {a5 : Int32} {a6 : Int32} {a7 : Int32} {a8 : Int32} {H : Heap} {locs : List Loc} (hI : IB (σ 1)) (hV : HV (σ 1)) (h7 : 0 ≤ a7.toInt) (h7b : a7.toInt < (σ 1 0).toInt) (hm48 : ((σ 1 0).toInt - a7.toInt).toNat < N48 + 1) (h8 : 0 ≤ a8.toInt) (h8b : a8.toInt ≤ 30) (hm62 : (31 - a8.toInt).toNat < N62 + 1)  (hK : KK g s) (hC : WC g (mW g) A s.heap σ H locs) {ls : Array Slot} (hl : lv_has ls 9 [(0, .ref (g.2.2 100)), (1, .int (a1)), (2, .int (a2)), (3, .int (a3)), (4, .int (a4)), (5, .int (a5)), (6, .int (a6)), (7, .int (a7)), (8, .int (a8))]) (hT : f_X12_surest_133 K48 K62 σ a1 a2 a3 a4 a5 a6 a7 a8 = tgt) : W p l e { frames := 3, cells := 0, slots := 0, locals := 79 } s m args below meth c H locs 0 0 (QMI below args s g (mW g) A tgt) (F0 m 133 ls []) := by
  obtain ⟨hx, hb, hr, hml, hown, hts, hlocks⟩ := id C0
  unfold f_X12_surest_133 at hT
  obtain ⟨⟨i0, i0'⟩, ⟨i1, i1'⟩, ⟨i2, i2'⟩, ⟨i3, i3'⟩, ⟨i4, i4'⟩, ⟨i5, i5'⟩, ⟨i6, i6'⟩, ⟨i7, i7'⟩, ⟨i8, i8'⟩, iK, iV, iL, iR, iW, iY, iG, iM, iB, iQ, iP, iT, iU⟩ := id hI
  refine lv_iinc (v := (a8 + (1 : Int32))) (lv' := [(8, .int ((a8 + (1 : Int32)))), (0, .ref (g.2.2 100)), (1, .int (a1)), (2, .int (a2)), (3, .int (a3)), (4, .int (a4)), (5, .int (a5)), (6, .int (a6)), (7, .int (a7))]) hx hb dX12_surest_133 hl (k := 8) rfl rfl (by decide) rfl (fun ls hl => ?_)
  refine lv_goto (tgt := 62) hx hb dX12_surest_136 (by decide) ?_
  have j136_h8 : 0 ≤ (a8 + (1 : Int32)).toInt := by
    have : ((1 : Int32)).toInt = 1 := by decide
    try have := ti_add (a := a8) (b := (1 : Int32)) (by omega) (by omega)
    omega
  have j136_m : (31 - (a8 + (1 : Int32)).toInt).toNat < N62 := by
    have : ((1 : Int32)).toInt = 1 := by decide
    try have := ti_add (a := a8) (b := (1 : Int32)) (by omega) (by omega)
    omega
  exact hK62 σ a1 a2 a3 a4 a5 a6 a7 (a8 + (1 : Int32)) hI hV h7 h7b hm48 j136_h8 j136_m hK hC (lv_sub hl [1, 2, 3, 4, 5, 6, 7, 8, 0] rfl) hT
def f_X12_surest_114 (K48 : St → Int32 → Int32 → Int32 → Int32 → Int32 → Int32 → Int32 → Int32 × St) (K62 : St → Int32 → Int32 → Int32 → Int32 → Int32 → Int32 → Int32 → Int32 → Int32 × St) (σ : St) (a1 : Int32) (a2 : Int32) (a3 : Int32) (a7 : Int32) (a8 : Int32) : Int32 × St := (f_X12_surest_133 K48 K62 σ a1 a2 a3 a7 a8 ((σ 16 0) - (σ 15 0)) a7 a8)
set_option maxHeartbeats 600000 in
set_option maxRecDepth 100000 in
theorem b_X12_surest_114 {g : GG} {p : Program} {l : Launch} {e : Env} {s : State} {m : MethodId} {args : Array Value} {below : List Frame} {meth : Method} {c : Code} {A : Nat → Prop} {tgt : Int32 × St} {K48 : St → Int32 → Int32 → Int32 → Int32 → Int32 → Int32 → Int32 → Int32 × St} {N48 : Nat} {K62 : St → Int32 → Int32 → Int32 → Int32 → Int32 → Int32 → Int32 → Int32 → Int32 × St} {N62 : Nat} (C0 : BC p s m args meth c cX12_surest RX12 9 (some .int)) (hK48 : ∀ (σ : St) (a1 : Int32) (a2 : Int32) (a3 : Int32) (a4 : Int32) (a5 : Int32) (a6 : Int32) (a7 : Int32), (IB (σ 1)) → (HV (σ 1)) → (0 ≤ a7.toInt) → ((σ 1 0).toInt - a7.toInt).toNat < N48 → ∀ {H : Heap} {locs : List Loc}, KK g s → WC g (mW g) A s.heap σ H locs → ∀ {ls : Array Slot}, lv_has ls 9 [(0, .ref (g.2.2 100)), (1, .int (a1)), (2, .int (a2)), (3, .int (a3)), (4, .int (a4)), (5, .int (a5)), (6, .int (a6)), (7, .int (a7))] → K48 σ a1 a2 a3 a4 a5 a6 a7 = tgt → W p l e { frames := 3, cells := 0, slots := 0, locals := 79 } s m args below meth c H locs 0 0 (QMI below args s g (mW g) A tgt) (F0 m 48 ls [])) (hK62 : ∀ (σ : St) (a1 : Int32) (a2 : Int32) (a3 : Int32) (a4 : Int32) (a5 : Int32) (a6 : Int32) (a7 : Int32) (a8 : Int32), (IB (σ 1)) → (HV (σ 1)) → (0 ≤ a7.toInt) → (a7.toInt < (σ 1 0).toInt) → (((σ 1 0).toInt - a7.toInt).toNat < N48 + 1) → (0 ≤ a8.toInt) → (31 - a8.toInt).toNat < N62 → ∀ {H : Heap} {locs : List Loc}, KK g s → WC g (mW g) A s.heap σ H locs → ∀ {ls : Array Slot}, lv_has ls 9 [(0, .ref (g.2.2 100)), (1, .int (a1)), (2, .int (a2)), (3, .int (a3)), (4, .int (a4)), (5, .int (a5)), (6, .int (a6)), (7, .int (a7)), (8, .int (a8))] → K62 σ a1 a2 a3 a4 a5 a6 a7 a8 = tgt → W p l e { frames := 3, cells := 0, slots := 0, locals := 79 } s m args below meth c H locs 0 0 (QMI below args s g (mW g) A tgt) (F0 m 62 ls [])) {σ : St} {a1 : Int32} {a2 : Int32} {a3 : Int32} {a7 : Int32} {a8 : Int32} {H : Heap} {locs : List Loc} (hI : IB (σ 1)) (hV : HV (σ 1)) (h7 : 0 ≤ a7.toInt) (h7b : a7.toInt < (σ 1 0).toInt) (hm48 : ((σ 1 0).toInt - a7.toInt).toNat < N48 + 1) (h8 : 0 ≤ a8.toInt) (h8b : a8.toInt ≤ 30) (hm62 : (31 - a8.toInt).toNat < N62 + 1)  (hK : KK g s) (hC : WC g (mW g) A s.heap σ H locs) {ls : Array Slot} (hl : lv_has ls 9 [(0, .ref (g.2.2 100)), (1, .int (a1)), (2, .int (a2)), (3, .int (a3)), (7, .int (a7)), (8, .int (a8))]) (hT : f_X12_surest_114 K48 K62 σ a1 a2 a3 a7 a8 = tgt) : W p l e { frames := 3, cells := 0, slots := 0, locals := 79 } s m args below meth c H locs 0 0 (QMI below args s g (mW g) A tgt) (F0 m 114 ls []) := by
  obtain ⟨hx, hb, hr, hml, hown, hts, hlocks⟩ := id C0
  unfold f_X12_surest_114 at hT
  obtain ⟨⟨i0, i0'⟩, ⟨i1, i1'⟩, ⟨i2, i2'⟩, ⟨i3, i3'⟩, ⟨i4, i4'⟩, ⟨i5, i5'⟩, ⟨i6, i6'⟩, ⟨i7, i7'⟩, ⟨i8, i8'⟩, iK, iV, iL, iR, iW, iY, iG, iM, iB, iQ, iP, iT, iU⟩ := id hI
  refine lv_iload hx hb dX12_surest_114 (lv_at hl 4 rfl) ?_
  refine lv_istore (lv' := [(4, .int (a7)), (0, .ref (g.2.2 100)), (1, .int (a1)), (2, .int (a2)), (3, .int (a3)), (7, .int (a7)), (8, .int (a8))]) hx hb dX12_surest_116 hl (by decide) rfl (fun ls hl => ?_)
  refine lv_iload hx hb dX12_surest_118 (lv_at hl 6 rfl) ?_
  refine lv_istore (lv' := [(5, .int (a8)), (4, .int (a7)), (0, .ref (g.2.2 100)), (1, .int (a1)), (2, .int (a2)), (3, .int (a3)), (7, .int (a7)), (8, .int (a8))]) hx hb dX12_surest_120 hl (by decide) rfl (fun ls hl => ?_)
  refine lv_aload_n hx hb dX12_surest_122 rfl (lv_at hl 2 rfl) ?_
  refine m_get (σ := σ) (v := .int ((σ 16 0))) C0 hK hC.1 16 (by decide) rfl w_983 dX12_surest_123 ?_
  refine lv_aload_n hx hb dX12_surest_126 rfl (lv_at hl 2 rfl) ?_
  refine m_get (σ := σ) (v := .int ((σ 15 0))) C0 hK hC.1 15 (by decide) rfl w_982 dX12_surest_127 ?_
  refine lv_isub hx hb dX12_surest_130 ?_
  refine lv_istore (lv' := [(6, .int (((σ 16 0) - (σ 15 0)))), (5, .int (a8)), (4, .int (a7)), (0, .ref (g.2.2 100)), (1, .int (a1)), (2, .int (a2)), (3, .int (a3)), (7, .int (a7)), (8, .int (a8))]) hx hb dX12_surest_131 hl (by decide) rfl (fun ls hl => ?_)
  exact b_X12_surest_133  (σ := σ) (a1 := a1) (a2 := a2) (a3 := a3) (a4 := a7) (a5 := a8) (a6 := ((σ 16 0) - (σ 15 0))) (a7 := a7) (a8 := a8) C0 hK48 hK62 hI hV h7 h7b hm48 h8 h8b hm62 hK hC (lv_sub hl [3, 4, 5, 6, 2, 1, 0, 7, 8] rfl) hT
def f_X12_surest_62 (K48 : St → Int32 → Int32 → Int32 → Int32 → Int32 → Int32 → Int32 → Int32 × St) (K62 : St → Int32 → Int32 → Int32 → Int32 → Int32 → Int32 → Int32 → Int32 → Int32 × St) (σ : St) (a1 : Int32) (a2 : Int32) (a3 : Int32) (a4 : Int32) (a5 : Int32) (a6 : Int32) (a7 : Int32) (a8 : Int32) : Int32 × St := (if (30 : Int32) < a8 then (K48 σ a1 a2 a3 a4 a5 a6 (a7 + (1 : Int32))) else (bd1 (f_X12_sets σ a7 a1 a8) (fun u75 => (if (f_X12_in (a2 - (u75 13 0)) (0 : Int32) (59 : Int32)) = 0 then (f_X12_surest_133 K48 K62 u75 a1 a2 a3 a4 a5 a6 a7 a8) else (if a4 = (-5 : Int32) then (f_X12_surest_114 K48 K62 u75 a1 a2 a3 a7 a8) else (if a6 ≤ ((u75 16 0) - (u75 15 0)) then (f_X12_surest_133 K48 K62 u75 a1 a2 a3 a4 a5 a6 a7 a8) else (f_X12_surest_114 K48 K62 u75 a1 a2 a3 a7 a8)))))))
set_option maxHeartbeats 600000 in
set_option maxRecDepth 100000 in
theorem b_X12_surest_62 {g : GG} {p : Program} {l : Launch} {e : Env} {s : State} {m : MethodId} {args : Array Value} {below : List Frame} {meth : Method} {c : Code} {A : Nat → Prop} {tgt : Int32 × St} {K48 : St → Int32 → Int32 → Int32 → Int32 → Int32 → Int32 → Int32 → Int32 × St} {N48 : Nat} {K62 : St → Int32 → Int32 → Int32 → Int32 → Int32 → Int32 → Int32 → Int32 → Int32 × St} {N62 : Nat} (C0 : BC p s m args meth c cX12_surest RX12 9 (some .int)) (hK48 : ∀ (σ : St) (a1 : Int32) (a2 : Int32) (a3 : Int32) (a4 : Int32) (a5 : Int32) (a6 : Int32) (a7 : Int32), (IB (σ 1)) → (HV (σ 1)) → (0 ≤ a7.toInt) → ((σ 1 0).toInt - a7.toInt).toNat < N48 → ∀ {H : Heap} {locs : List Loc}, KK g s → WC g (mW g) A s.heap σ H locs → ∀ {ls : Array Slot}, lv_has ls 9 [(0, .ref (g.2.2 100)), (1, .int (a1)), (2, .int (a2)), (3, .int (a3)), (4, .int (a4)), (5, .int (a5)), (6, .int (a6)), (7, .int (a7))] → K48 σ a1 a2 a3 a4 a5 a6 a7 = tgt → W p l e { frames := 3, cells := 0, slots := 0, locals := 79 } s m args below meth c H locs 0 0 (QMI below args s g (mW g) A tgt) (F0 m 48 ls [])) (hK62 : ∀ (σ : St) (a1 : Int32) (a2 : Int32) (a3 : Int32) (a4 : Int32) (a5 : Int32) (a6 : Int32) (a7 : Int32) (a8 : Int32), (IB (σ 1)) → (HV (σ 1)) → (0 ≤ a7.toInt) → (a7.toInt < (σ 1 0).toInt) → (((σ 1 0).toInt - a7.toInt).toNat < N48 + 1) → (0 ≤ a8.toInt) → (31 - a8.toInt).toNat < N62 → ∀ {H : Heap} {locs : List Loc}, KK g s → WC g (mW g) A s.heap σ H locs → ∀ {ls : Array Slot}, lv_has ls 9 [(0, .ref (g.2.2 100)), (1, .int (a1)), (2, .int (a2)), (3, .int (a3)), (4, .int (a4)), (5, .int (a5)), (6, .int (a6)), (7, .int (a7)), (8, .int (a8))] → K62 σ a1 a2 a3 a4 a5 a6 a7 a8 = tgt → W p l e { frames := 3, cells := 0, slots := 0, locals := 79 } s m args below meth c H locs 0 0 (QMI below args s g (mW g) A tgt) (F0 m 62 ls [])) {σ : St} {a1 : Int32} {a2 : Int32} {a3 : Int32} {a4 : Int32} {a5 : Int32} {a6 : Int32} {a7 : Int32} {a8 : Int32} {H : Heap} {locs : List Loc} (hI : IB (σ 1)) (hV : HV (σ 1)) (h7 : 0 ≤ a7.toInt) (h7b : a7.toInt < (σ 1 0).toInt) (hm48 : ((σ 1 0).toInt - a7.toInt).toNat < N48 + 1) (h8 : 0 ≤ a8.toInt) (hm : (31 - a8.toInt).toNat < N62 + 1) (hK : KK g s) (hC : WC g (mW g) A s.heap σ H locs) {ls : Array Slot} (hl : lv_has ls 9 [(0, .ref (g.2.2 100)), (1, .int (a1)), (2, .int (a2)), (3, .int (a3)), (4, .int (a4)), (5, .int (a5)), (6, .int (a6)), (7, .int (a7)), (8, .int (a8))]) (hT : f_X12_surest_62 K48 K62 σ a1 a2 a3 a4 a5 a6 a7 a8 = tgt) : W p l e { frames := 3, cells := 0, slots := 0, locals := 79 } s m args below meth c H locs 0 0 (QMI below args s g (mW g) A tgt) (F0 m 62 ls []) := by
  obtain ⟨hx, hb, hr, hml, hown, hts, hlocks⟩ := id C0
  unfold f_X12_surest_62 at hT
  obtain ⟨⟨i0, i0'⟩, ⟨i1, i1'⟩, ⟨i2, i2'⟩, ⟨i3, i3'⟩, ⟨i4, i4'⟩, ⟨i5, i5'⟩, ⟨i6, i6'⟩, ⟨i7, i7'⟩, ⟨i8, i8'⟩, iK, iV, iL, iR, iW, iY, iG, iM, iB, iQ, iP, iT, iU⟩ := id hI
  refine lv_iload hx hb dX12_surest_62 (lv_at hl 8 rfl) ?_
  refine lv_bipush (v := (30 : Int32)) hx hb dX12_surest_64 (by decide) ?_
  refine lv_icmp_gt (tgt := 139) hx hb dX12_surest_66 (by decide) (fun c_66 => ?_) (fun c_66 => ?_)
  · have hT := hT_pos c_66 hT
    refine lv_iinc (v := (a7 + (1 : Int32))) (lv' := [(7, .int ((a7 + (1 : Int32)))), (0, .ref (g.2.2 100)), (1, .int (a1)), (2, .int (a2)), (3, .int (a3)), (4, .int (a4)), (5, .int (a5)), (6, .int (a6)), (8, .int (a8))]) hx hb dX12_surest_139 hl (k := 7) rfl rfl (by decide) rfl (fun ls hl => ?_)
    refine lv_goto (tgt := 48) hx hb dX12_surest_142 (by decide) ?_
    have j142_h7 : 0 ≤ (a7 + (1 : Int32)).toInt := by
      have : ((30 : Int32)).toInt = 30 := by decide
      have : ((1 : Int32)).toInt = 1 := by decide
      have := ti_lt.mp c_66
      try have := ti_add (a := a7) (b := (1 : Int32)) (by omega) (by omega)
      omega
    have j142_m : ((σ 1 0).toInt - (a7 + (1 : Int32)).toInt).toNat < N48 := by
      have : ((30 : Int32)).toInt = 30 := by decide
      have : ((1 : Int32)).toInt = 1 := by decide
      have := ti_lt.mp c_66
      try have := ti_add (a := a7) (b := (1 : Int32)) (by omega) (by omega)
      omega
    exact hK48 σ a1 a2 a3 a4 a5 a6 (a7 + (1 : Int32)) hI hV j142_h7 j142_m hK hC (lv_sub hl [1, 2, 3, 4, 5, 6, 7, 0] rfl) hT
  · have hT := hT_neg c_66 hT
    refine lv_aload_n hx hb dX12_surest_69 rfl (lv_at hl 0 rfl) ?_
    refine lv_iload hx hb dX12_surest_70 (lv_at hl 7 rfl) ?_
    refine lv_iload_n hx hb dX12_surest_72 rfl (lv_at hl 1 rfl) ?_
    refine lv_iload hx hb dX12_surest_73 (lv_at hl 8 rfl) ?_
    have q75_h1b : a7.toInt < 6 := by
      have : ((30 : Int32)).toInt = 30 := by decide
      have := mt ti_lt.mpr c_66
      omega
    refine m_mv (rest := []) (As := [.int (a7), .int (a1), .int (a8)]) (σ := σ) C0 hK hC SV.tt (fun _ _ _ => trivial) cf_X12_sets w_1171 rfl (k_X12_sets l g σ a7 a1 a8 hI hV h7 q75_h1b h8) ⟨by decide, by decide⟩ hl.1 rfl rfl (Nat.le_of_ble_eq_true rfl) dX12_surest_75 ⟨Nat.zero_le _, Nat.zero_le _⟩ (fun u75 H locs e75 hC => ?_)
    have hT := bd1_e e75 hT
    have z75 : u75 1 = σ 1 := by
      rw [e75]
      exact sets_1 _ _ _ _
    refine lv_iload_n hx hb dX12_surest_78 rfl (lv_at hl 2 rfl) ?_
    refine lv_aload_n hx hb dX12_surest_79 rfl (lv_at hl 0 rfl) ?_
    refine m_get (σ := u75) (v := .int ((u75 13 0))) C0 hK hC.1 13 (by decide) rfl w_980 dX12_surest_80 ?_
    refine lv_isub hx hb dX12_surest_83 ?_
    refine lv_iconst (v := (0 : Int32)) hx hb dX12_surest_84 (by decide) ?_
    refine lv_bipush (v := (59 : Int32)) hx hb dX12_surest_85 (by decide) ?_
    refine s_ci (rest := []) (As := [.int ((a2 - (u75 13 0))), .int ((0 : Int32)), .int ((59 : Int32))]) C0 cf_X12_in w_1060 (k_X12_in l (a2 - (u75 13 0)) (0 : Int32) (59 : Int32) ) ⟨by decide, by decide⟩ hl.1 rfl rfl (Nat.le_of_ble_eq_true rfl) dX12_surest_87 ⟨Nat.zero_le _, Nat.zero_le _⟩ ?_
    refine lv_if_eq (tgt := 133) hx hb dX12_surest_90 (by decide) (fun c_90 => ?_) (fun c_90 => ?_)
    · have hT := hT_pos c_90 hT
      have j90_hI : IB (u75 1) := by
        rw [z75]
        exact hI
      have j90_hV : HV (u75 1) := by
        rw [z75]
        exact hV
      have j90_h7b : a7.toInt < (u75 1 0).toInt := by
        rw [z75]
        exact h7b
      have j90_hm48 : ((u75 1 0).toInt - a7.toInt).toNat < N48 + 1 := by
        rw [z75]
        exact hm48
      have j90_h8b : a8.toInt ≤ 30 := by
        have : ((30 : Int32)).toInt = 30 := by decide
        have : ((0 : Int32)).toInt = 0 := by decide
        have : ((59 : Int32)).toInt = 59 := by decide
        have := mt ti_lt.mpr c_66
        have := in_eq c_90
        try have := ti_sub (a := a2) (b := (u75 13 0)) (by omega) (by omega)
        omega
      have j90_hm62 : (31 - a8.toInt).toNat < N62 + 1 := by
        have : ((30 : Int32)).toInt = 30 := by decide
        have : ((0 : Int32)).toInt = 0 := by decide
        have : ((59 : Int32)).toInt = 59 := by decide
        have := mt ti_lt.mpr c_66
        have := in_eq c_90
        try have := ti_sub (a := a2) (b := (u75 13 0)) (by omega) (by omega)
        omega
      exact b_X12_surest_133  (σ := u75) (a1 := a1) (a2 := a2) (a3 := a3) (a4 := a4) (a5 := a5) (a6 := a6) (a7 := a7) (a8 := a8) C0 hK48 hK62 j90_hI j90_hV h7 j90_h7b j90_hm48 h8 j90_h8b j90_hm62 hK hC hl hT
    · have hT := hT_neg c_90 hT
      refine lv_iload hx hb dX12_surest_93 (lv_at hl 4 rfl) ?_
      refine lv_bipush (v := (-5 : Int32)) hx hb dX12_surest_95 (by decide) ?_
      refine lv_icmp_eq (tgt := 114) hx hb dX12_surest_97 (by decide) (fun c_97 => ?_) (fun c_97 => ?_)
      · have hT := hT_pos c_97 hT
        have j97_hI : IB (u75 1) := by
          rw [z75]
          exact hI
        have j97_hV : HV (u75 1) := by
          rw [z75]
          exact hV
        have j97_h7b : a7.toInt < (u75 1 0).toInt := by
          rw [z75]
          exact h7b
        have j97_hm48 : ((u75 1 0).toInt - a7.toInt).toNat < N48 + 1 := by
          rw [z75]
          exact hm48
        have j97_h8b : a8.toInt ≤ 30 := by
          have : ((30 : Int32)).toInt = 30 := by decide
          have : ((0 : Int32)).toInt = 0 := by decide
          have : ((59 : Int32)).toInt = 59 := by decide
          have : ((-5 : Int32)).toInt = -5 := by decide
          have := mt ti_lt.mpr c_66
          have := in_ne c_90
          have := ti_eq.mp c_97
          try have := ti_sub (a := a2) (b := (u75 13 0)) (by omega) (by omega)
          omega
        have j97_hm62 : (31 - a8.toInt).toNat < N62 + 1 := by
          have : ((30 : Int32)).toInt = 30 := by decide
          have : ((0 : Int32)).toInt = 0 := by decide
          have : ((59 : Int32)).toInt = 59 := by decide
          have : ((-5 : Int32)).toInt = -5 := by decide
          have := mt ti_lt.mpr c_66
          have := in_ne c_90
          have := ti_eq.mp c_97
          try have := ti_sub (a := a2) (b := (u75 13 0)) (by omega) (by omega)
          omega
        exact b_X12_surest_114  (σ := u75) (a1 := a1) (a2 := a2) (a3 := a3) (a7 := a7) (a8 := a8) C0 hK48 hK62 j97_hI j97_hV h7 j97_h7b j97_hm48 h8 j97_h8b j97_hm62 hK hC (lv_sub hl [0, 1, 2, 3, 7, 8] rfl) hT
      · have hT := hT_neg c_97 hT
        refine lv_aload_n hx hb dX12_surest_100 rfl (lv_at hl 0 rfl) ?_
        refine m_get (σ := u75) (v := .int ((u75 16 0))) C0 hK hC.1 16 (by decide) rfl w_983 dX12_surest_101 ?_
        refine lv_aload_n hx hb dX12_surest_104 rfl (lv_at hl 0 rfl) ?_
        refine m_get (σ := u75) (v := .int ((u75 15 0))) C0 hK hC.1 15 (by decide) rfl w_982 dX12_surest_105 ?_
        refine lv_isub hx hb dX12_surest_108 ?_
        refine lv_iload hx hb dX12_surest_109 (lv_at hl 6 rfl) ?_
        refine lv_icmp_ge (tgt := 133) hx hb dX12_surest_111 (by decide) (fun c_111 => ?_) (fun c_111 => ?_)
        · have hT := hT_pos c_111 hT
          have j111_hI : IB (u75 1) := by
            rw [z75]
            exact hI
          have j111_hV : HV (u75 1) := by
            rw [z75]
            exact hV
          have j111_h7b : a7.toInt < (u75 1 0).toInt := by
            rw [z75]
            exact h7b
          have j111_hm48 : ((u75 1 0).toInt - a7.toInt).toNat < N48 + 1 := by
            rw [z75]
            exact hm48
          have j111_h8b : a8.toInt ≤ 30 := by
            have : ((30 : Int32)).toInt = 30 := by decide
            have : ((0 : Int32)).toInt = 0 := by decide
            have : ((59 : Int32)).toInt = 59 := by decide
            have : ((-5 : Int32)).toInt = -5 := by decide
            have := mt ti_lt.mpr c_66
            have := in_ne c_90
            have := mt ti_eq.mpr c_97
            have := ti_le.mp c_111
            try have := ti_sub (a := a2) (b := (u75 13 0)) (by omega) (by omega)
            try have := ti_sub (a := (u75 16 0)) (b := (u75 15 0)) (by omega) (by omega)
            omega
          have j111_hm62 : (31 - a8.toInt).toNat < N62 + 1 := by
            have : ((30 : Int32)).toInt = 30 := by decide
            have : ((0 : Int32)).toInt = 0 := by decide
            have : ((59 : Int32)).toInt = 59 := by decide
            have : ((-5 : Int32)).toInt = -5 := by decide
            have := mt ti_lt.mpr c_66
            have := in_ne c_90
            have := mt ti_eq.mpr c_97
            have := ti_le.mp c_111
            try have := ti_sub (a := a2) (b := (u75 13 0)) (by omega) (by omega)
            try have := ti_sub (a := (u75 16 0)) (b := (u75 15 0)) (by omega) (by omega)
            omega
          exact b_X12_surest_133  (σ := u75) (a1 := a1) (a2 := a2) (a3 := a3) (a4 := a4) (a5 := a5) (a6 := a6) (a7 := a7) (a8 := a8) C0 hK48 hK62 j111_hI j111_hV h7 j111_h7b j111_hm48 h8 j111_h8b j111_hm62 hK hC hl hT
        · have hT := hT_neg c_111 hT
          have j111_hI : IB (u75 1) := by
            rw [z75]
            exact hI
          have j111_hV : HV (u75 1) := by
            rw [z75]
            exact hV
          have j111_h7b : a7.toInt < (u75 1 0).toInt := by
            rw [z75]
            exact h7b
          have j111_hm48 : ((u75 1 0).toInt - a7.toInt).toNat < N48 + 1 := by
            rw [z75]
            exact hm48
          have j111_h8b : a8.toInt ≤ 30 := by
            have : ((30 : Int32)).toInt = 30 := by decide
            have : ((0 : Int32)).toInt = 0 := by decide
            have : ((59 : Int32)).toInt = 59 := by decide
            have : ((-5 : Int32)).toInt = -5 := by decide
            have := mt ti_lt.mpr c_66
            have := in_ne c_90
            have := mt ti_eq.mpr c_97
            have := mt ti_le.mpr c_111
            try have := ti_sub (a := a2) (b := (u75 13 0)) (by omega) (by omega)
            try have := ti_sub (a := (u75 16 0)) (b := (u75 15 0)) (by omega) (by omega)
            omega
          have j111_hm62 : (31 - a8.toInt).toNat < N62 + 1 := by
            have : ((30 : Int32)).toInt = 30 := by decide
            have : ((0 : Int32)).toInt = 0 := by decide
            have : ((59 : Int32)).toInt = 59 := by decide
            have : ((-5 : Int32)).toInt = -5 := by decide
            have := mt ti_lt.mpr c_66
            have := in_ne c_90
            have := mt ti_eq.mpr c_97
            have := mt ti_le.mpr c_111
            try have := ti_sub (a := a2) (b := (u75 13 0)) (by omega) (by omega)
            try have := ti_sub (a := (u75 16 0)) (b := (u75 15 0)) (by omega) (by omega)
            omega
          exact b_X12_surest_114  (σ := u75) (a1 := a1) (a2 := a2) (a3 := a3) (a7 := a7) (a8 := a8) C0 hK48 hK62 j111_hI j111_hV h7 j111_h7b j111_hm48 h8 j111_h8b j111_hm62 hK hC (lv_sub hl [0, 1, 2, 3, 7, 8] rfl) hT
def g_X12_surest_62 (K48 : St → Int32 → Int32 → Int32 → Int32 → Int32 → Int32 → Int32 → Int32 × St) : Nat → St → Int32 → Int32 → Int32 → Int32 → Int32 → Int32 → Int32 → Int32 → Int32 × St
  | 0 => fun σ a1 a2 a3 a4 a5 a6 a7 a8 => (0, σ)
  | n + 1 => fun σ a1 a2 a3 a4 a5 a6 a7 a8 => f_X12_surest_62 K48 (g_X12_surest_62 K48 n) σ a1 a2 a3 a4 a5 a6 a7 a8
theorem l_X12_surest_62 {g : GG} {p : Program} {l : Launch} {e : Env} {s : State} {m : MethodId} {args : Array Value} {below : List Frame} {meth : Method} {c : Code} {A : Nat → Prop} {tgt : Int32 × St} {K48 : St → Int32 → Int32 → Int32 → Int32 → Int32 → Int32 → Int32 → Int32 × St} {N48 : Nat} (C0 : BC p s m args meth c cX12_surest RX12 9 (some .int)) (hK48 : ∀ (σ : St) (a1 : Int32) (a2 : Int32) (a3 : Int32) (a4 : Int32) (a5 : Int32) (a6 : Int32) (a7 : Int32), (IB (σ 1)) → (HV (σ 1)) → (0 ≤ a7.toInt) → ((σ 1 0).toInt - a7.toInt).toNat < N48 → ∀ {H : Heap} {locs : List Loc}, KK g s → WC g (mW g) A s.heap σ H locs → ∀ {ls : Array Slot}, lv_has ls 9 [(0, .ref (g.2.2 100)), (1, .int (a1)), (2, .int (a2)), (3, .int (a3)), (4, .int (a4)), (5, .int (a5)), (6, .int (a6)), (7, .int (a7))] → K48 σ a1 a2 a3 a4 a5 a6 a7 = tgt → W p l e { frames := 3, cells := 0, slots := 0, locals := 79 } s m args below meth c H locs 0 0 (QMI below args s g (mW g) A tgt) (F0 m 48 ls [])) : ∀ (n : Nat) (σ : St) (a1 : Int32) (a2 : Int32) (a3 : Int32) (a4 : Int32) (a5 : Int32) (a6 : Int32) (a7 : Int32) (a8 : Int32), (IB (σ 1)) → (HV (σ 1)) → (0 ≤ a7.toInt) → (a7.toInt < (σ 1 0).toInt) → (((σ 1 0).toInt - a7.toInt).toNat < N48 + 1) → (0 ≤ a8.toInt) → (31 - a8.toInt).toNat < n → ∀ {H : Heap} {locs : List Loc}, KK g s → WC g (mW g) A s.heap σ H locs → ∀ {ls : Array Slot}, lv_has ls 9 [(0, .ref (g.2.2 100)), (1, .int (a1)), (2, .int (a2)), (3, .int (a3)), (4, .int (a4)), (5, .int (a5)), (6, .int (a6)), (7, .int (a7)), (8, .int (a8))] → g_X12_surest_62 K48 n σ a1 a2 a3 a4 a5 a6 a7 a8 = tgt → W p l e { frames := 3, cells := 0, slots := 0, locals := 79 } s m args below meth c H locs 0 0 (QMI below args s g (mW g) A tgt) (F0 m 62 ls []) := by
  intro n
  induction n with
  | zero => intro σ a1 a2 a3 a4 a5 a6 a7 a8 hI hV h7 h7b hm48 h8 hm; exact absurd hm (Nat.not_lt_zero _)
  | succ n ih =>
    intro σ a1 a2 a3 a4 a5 a6 a7 a8 hI hV h7 h7b hm48 h8 hm H locs hK hC ls hl hT
    exact b_X12_surest_62  (K62 := g_X12_surest_62 K48 n) (N62 := n) C0 hK48 (fun σ a1 a2 a3 a4 a5 a6 a7 a8 hI hV h7 h7b hm48 h8 hm2 => ih σ a1 a2 a3 a4 a5 a6 a7 a8 hI hV h7 h7b hm48 h8 hm2) hI hV h7 h7b hm48 h8 hm hK hC hl hT
def f_X12_surest_48 (K48 : St → Int32 → Int32 → Int32 → Int32 → Int32 → Int32 → Int32 → Int32 × St) (σ : St) (a1 : Int32) (a2 : Int32) (a3 : Int32) (a4 : Int32) (a5 : Int32) (a6 : Int32) (a7 : Int32) : Int32 × St := (if (σ 1 0) ≤ a7 then ((if a3 = 0 then a4 else (if a3 = (1 : Int32) then a5 else a6)), σ) else (g_X12_surest_62 K48 (32) σ a1 a2 a3 a4 a5 a6 a7 (0 : Int32)))
set_option maxHeartbeats 600000 in
set_option maxRecDepth 100000 in
theorem b_X12_surest_48 {g : GG} {p : Program} {l : Launch} {e : Env} {s : State} {m : MethodId} {args : Array Value} {below : List Frame} {meth : Method} {c : Code} {A : Nat → Prop} {tgt : Int32 × St} {K48 : St → Int32 → Int32 → Int32 → Int32 → Int32 → Int32 → Int32 → Int32 × St} {N48 : Nat} (C0 : BC p s m args meth c cX12_surest RX12 9 (some .int)) (hK48 : ∀ (σ : St) (a1 : Int32) (a2 : Int32) (a3 : Int32) (a4 : Int32) (a5 : Int32) (a6 : Int32) (a7 : Int32), (IB (σ 1)) → (HV (σ 1)) → (0 ≤ a7.toInt) → ((σ 1 0).toInt - a7.toInt).toNat < N48 → ∀ {H : Heap} {locs : List Loc}, KK g s → WC g (mW g) A s.heap σ H locs → ∀ {ls : Array Slot}, lv_has ls 9 [(0, .ref (g.2.2 100)), (1, .int (a1)), (2, .int (a2)), (3, .int (a3)), (4, .int (a4)), (5, .int (a5)), (6, .int (a6)), (7, .int (a7))] → K48 σ a1 a2 a3 a4 a5 a6 a7 = tgt → W p l e { frames := 3, cells := 0, slots := 0, locals := 79 } s m args below meth c H locs 0 0 (QMI below args s g (mW g) A tgt) (F0 m 48 ls [])) {σ : St} {a1 : Int32} {a2 : Int32} {a3 : Int32} {a4 : Int32} {a5 : Int32} {a6 : Int32} {a7 : Int32} {H : Heap} {locs : List Loc} (hI : IB (σ 1)) (hV : HV (σ 1)) (h7 : 0 ≤ a7.toInt) (hm : ((σ 1 0).toInt - a7.toInt).toNat < N48 + 1) (hK : KK g s) (hC : WC g (mW g) A s.heap σ H locs) {ls : Array Slot} (hl : lv_has ls 9 [(0, .ref (g.2.2 100)), (1, .int (a1)), (2, .int (a2)), (3, .int (a3)), (4, .int (a4)), (5, .int (a5)), (6, .int (a6)), (7, .int (a7))]) (hT : f_X12_surest_48 K48 σ a1 a2 a3 a4 a5 a6 a7 = tgt) : W p l e { frames := 3, cells := 0, slots := 0, locals := 79 } s m args below meth c H locs 0 0 (QMI below args s g (mW g) A tgt) (F0 m 48 ls []) := by
  obtain ⟨hx, hb, hr, hml, hown, hts, hlocks⟩ := id C0
  unfold f_X12_surest_48 at hT
  obtain ⟨⟨i0, i0'⟩, ⟨i1, i1'⟩, ⟨i2, i2'⟩, ⟨i3, i3'⟩, ⟨i4, i4'⟩, ⟨i5, i5'⟩, ⟨i6, i6'⟩, ⟨i7, i7'⟩, ⟨i8, i8'⟩, iK, iV, iL, iR, iW, iY, iG, iM, iB, iQ, iP, iT, iU⟩ := id hI
  refine lv_iload hx hb dX12_surest_48 (lv_at hl 7 rfl) ?_
  refine lv_aload_n hx hb dX12_surest_50 rfl (lv_at hl 0 rfl) ?_
  refine m_get (σ := σ) (v := .ref (g.2.2 1)) C0 hK hC.1 1 (by decide) rfl w_968 dX12_surest_51 ?_
  refine lv_iconst (v := (0 : Int32)) hx hb dX12_surest_54 (by decide) ?_
  refine m_ald (σ := σ) C0 hK hC.1 1 1 916 rfl (vin_l (by decide)) 0 (by decide) dX12_surest_55 ?_
  refine lv_icmp_ge (tgt := 145) hx hb dX12_surest_56 (by decide) (fun c_56 => ?_) (fun c_56 => ?_)
  · have hT := hT_pos c_56 hT
    refine lv_iload_n hx hb dX12_surest_145 rfl (lv_at hl 3 rfl) ?_
    have J146 : ∀ v : Int32, v = (if a3 = 0 then a4 else (if a3 = (1 : Int32) then a5 else a6)) → W p l e { frames := 3, cells := 0, slots := 0, locals := 79 } s m args below meth c H locs 0 0 (QMI below args s g (mW g) A tgt) (F0 m 166 ls [.int (v)]) := by
      intro v ev
      subst ev
      exact ret_MI C0 hC hT dX12_surest_166
    refine lv_if_ne (tgt := 154) hx hb dX12_surest_146 (by decide) (fun c_146 => ?_) (fun c_146 => ?_)
    · refine lv_iload_n hx hb dX12_surest_154 rfl (lv_at hl 3 rfl) ?_
      refine lv_iconst (v := (1 : Int32)) hx hb dX12_surest_155 (by decide) ?_
      refine lv_icmp_ne (tgt := 164) hx hb dX12_surest_156 (by decide) (fun c_156 => ?_) (fun c_156 => ?_)
      · refine lv_iload hx hb dX12_surest_164 (lv_at hl 6 rfl) ?_
        exact J146 _ (iv_neg c_146 (iv_neg c_156 rfl))
      · refine lv_iload hx hb dX12_surest_159 (lv_at hl 5 rfl) ?_
        refine lv_goto (tgt := 166) hx hb dX12_surest_161 (by decide) ?_
        exact J146 _ (iv_neg c_146 (iv_pos c_156 rfl))
    · refine lv_iload hx hb dX12_surest_149 (lv_at hl 4 rfl) ?_
      refine lv_goto (tgt := 166) hx hb dX12_surest_151 (by decide) ?_
      exact J146 _ (iv_pos c_146 rfl)
  · have hT := hT_neg c_56 hT
    refine lv_iconst (v := (0 : Int32)) hx hb dX12_surest_59 (by decide) ?_
    refine lv_istore (lv' := [(8, .int ((0 : Int32))), (0, .ref (g.2.2 100)), (1, .int (a1)), (2, .int (a2)), (3, .int (a3)), (4, .int (a4)), (5, .int (a5)), (6, .int (a6)), (7, .int (a7))]) hx hb dX12_surest_60 hl (by decide) rfl (fun ls hl => ?_)
    have j60_h7b : a7.toInt < (σ 1 0).toInt := by
      have : ((0 : Int32)).toInt = 0 := by decide
      have := mt ti_le.mpr c_56
      omega
    have j60_hm48 : ((σ 1 0).toInt - a7.toInt).toNat < N48 + 1 := by
      have : ((0 : Int32)).toInt = 0 := by decide
      have := mt ti_le.mpr c_56
      omega
    have j60_h8 : 0 ≤ (0 : Int32).toInt := by
      have : ((0 : Int32)).toInt = 0 := by decide
      have := mt ti_le.mpr c_56
      omega
    have j60_m : (31 - (0 : Int32).toInt).toNat < 32 := by
      have : ((0 : Int32)).toInt = 0 := by decide
      have := mt ti_le.mpr c_56
      omega
    exact l_X12_surest_62  C0 hK48  (32) σ a1 a2 a3 a4 a5 a6 a7 (0 : Int32) hI hV h7 j60_h7b j60_hm48 j60_h8 j60_m hK hC (lv_sub hl [1, 2, 3, 4, 5, 6, 7, 8, 0] rfl) hT
def g_X12_surest_48  : Nat → St → Int32 → Int32 → Int32 → Int32 → Int32 → Int32 → Int32 → Int32 × St
  | 0 => fun σ a1 a2 a3 a4 a5 a6 a7 => (0, σ)
  | n + 1 => fun σ a1 a2 a3 a4 a5 a6 a7 => f_X12_surest_48  (g_X12_surest_48  n) σ a1 a2 a3 a4 a5 a6 a7
theorem l_X12_surest_48 {g : GG} {p : Program} {l : Launch} {e : Env} {s : State} {m : MethodId} {args : Array Value} {below : List Frame} {meth : Method} {c : Code} {A : Nat → Prop} {tgt : Int32 × St}  (C0 : BC p s m args meth c cX12_surest RX12 9 (some .int))  : ∀ (n : Nat) (σ : St) (a1 : Int32) (a2 : Int32) (a3 : Int32) (a4 : Int32) (a5 : Int32) (a6 : Int32) (a7 : Int32), (IB (σ 1)) → (HV (σ 1)) → (0 ≤ a7.toInt) → ((σ 1 0).toInt - a7.toInt).toNat < n → ∀ {H : Heap} {locs : List Loc}, KK g s → WC g (mW g) A s.heap σ H locs → ∀ {ls : Array Slot}, lv_has ls 9 [(0, .ref (g.2.2 100)), (1, .int (a1)), (2, .int (a2)), (3, .int (a3)), (4, .int (a4)), (5, .int (a5)), (6, .int (a6)), (7, .int (a7))] → g_X12_surest_48  n σ a1 a2 a3 a4 a5 a6 a7 = tgt → W p l e { frames := 3, cells := 0, slots := 0, locals := 79 } s m args below meth c H locs 0 0 (QMI below args s g (mW g) A tgt) (F0 m 48 ls []) := by
  intro n
  induction n with
  | zero => intro σ a1 a2 a3 a4 a5 a6 a7 hI hV h7 hm; exact absurd hm (Nat.not_lt_zero _)
  | succ n ih =>
    intro σ a1 a2 a3 a4 a5 a6 a7 hI hV h7 hm H locs hK hC ls hl hT
    exact b_X12_surest_48  (K48 := g_X12_surest_48  n) (N48 := n) C0  (fun σ a1 a2 a3 a4 a5 a6 a7 hI hV h7 hm2 => ih σ a1 a2 a3 a4 a5 a6 a7 hI hV h7 hm2) hI hV h7 hm hK hC hl hT
def f_X12_surest (σ : St) (a1 : Int32) (a2 : Int32) (a3 : Int32) : Int32 × St := (if (f_X12_isWall σ a1) = 0 then ((-1 : Int32), σ) else (if (f_X12_in a3 (0 : Int32) (2 : Int32)) = 0 then ((-1 : Int32), σ) else (if (f_X12_in a2 (1 : Int32) (999 : Int32)) = 0 then ((-2 : Int32), σ) else (g_X12_surest_48  (7) σ a1 a2 a3 (-5 : Int32) (-5 : Int32) (-5 : Int32) (0 : Int32)))))
set_option maxHeartbeats 600000 in
set_option maxRecDepth 100000 in
theorem k_X12_surest (l : Launch) (g : GG) (σ : St) (a1 : Int32) (a2 : Int32) (a3 : Int32) (hI : IB (σ 1)) (hV : HV (σ 1)) : MI l yX12_surest (wsF yX12_surest cX12_surest 9 (some .int)) { frames := 3, cells := 0, slots := 0, locals := 79 } [.ref (g.2.2 100), .int (a1), .int (a2), .int (a3)] g (mW g) (fun _ => True) σ (f_X12_surest σ a1 a2 a3) := by
  refine start_MI (by decide) (Nat.le_of_ble_eq_true rfl) ?_
  intro p e s m args below meth c C0 hK hBg hC ls hl
  generalize hAe : aA ((mW g) σ) = A at hC ⊢
  obtain ⟨hx, hb, hr, hml, hown, hts, hlocks⟩ := id C0
  have hl : lv_has ls 9 [(0, .ref (g.2.2 100)), (1, .int (a1)), (2, .int (a2)), (3, .int (a3))] := hl
  generalize hT : (f_X12_surest σ a1 a2 a3) = tgt
  suffices key : ∀ (H : Heap) (locs : List Loc), WC g (mW g) A s.heap σ H locs → W p l e { frames := 3, cells := 0, slots := 0, locals := 79 } s m args below meth c H locs 0 0 (QMI below args s g (mW g) A tgt) (F0 m 0 ls []) from key _ _ hC
  intro H locs hC
  unfold f_X12_surest at hT
  obtain ⟨⟨i0, i0'⟩, ⟨i1, i1'⟩, ⟨i2, i2'⟩, ⟨i3, i3'⟩, ⟨i4, i4'⟩, ⟨i5, i5'⟩, ⟨i6, i6'⟩, ⟨i7, i7'⟩, ⟨i8, i8'⟩, iK, iV, iL, iR, iW, iY, iG, iM, iB, iQ, iP, iT, iU⟩ := id hI
  refine lv_aload_n hx hb dX12_surest_0 rfl (lv_at hl 0 rfl) ?_
  refine lv_iload_n hx hb dX12_surest_1 rfl (lv_at hl 1 rfl) ?_
  refine m_ci (rest := []) (As := [.int (a1)]) (σ := σ) C0 hK hC.1 (hC.2.1.weaken (fun _ _ _ _ => trivial)) SV.tt (fun _ _ _ => trivial) cf_X12_isWall w_1147 rfl (k_X12_isWall l g σ a1 ) ⟨by decide, by decide⟩ hl.1 rfl rfl (Nat.le_of_ble_eq_true rfl) dX12_surest_2 ⟨Nat.zero_le _, Nat.zero_le _⟩ ?_
  refine lv_if_eq (tgt := 17) hx hb dX12_surest_5 (by decide) (fun c_5 => ?_) (fun c_5 => ?_)
  · have hT := hT_pos c_5 hT
    refine lv_iconst (v := (-1 : Int32)) hx hb dX12_surest_17 (by decide) ?_
    exact ret_MI C0 hC hT dX12_surest_18
  · have hT := hT_neg c_5 hT
    refine lv_iload_n hx hb dX12_surest_8 rfl (lv_at hl 3 rfl) ?_
    refine lv_iconst (v := (0 : Int32)) hx hb dX12_surest_9 (by decide) ?_
    refine lv_iconst (v := (2 : Int32)) hx hb dX12_surest_10 (by decide) ?_
    refine s_ci (rest := []) (As := [.int (a3), .int ((0 : Int32)), .int ((2 : Int32))]) C0 cf_X12_in w_1060 (k_X12_in l a3 (0 : Int32) (2 : Int32) ) ⟨by decide, by decide⟩ hl.1 rfl rfl (Nat.le_of_ble_eq_true rfl) dX12_surest_11 ⟨Nat.zero_le _, Nat.zero_le _⟩ ?_
    refine lv_if_ne (tgt := 19) hx hb dX12_surest_14 (by decide) (fun c_14 => ?_) (fun c_14 => ?_)
    · have hT := hT_neg c_14 hT
      refine lv_iload_n hx hb dX12_surest_19 rfl (lv_at hl 2 rfl) ?_
      refine lv_iconst (v := (1 : Int32)) hx hb dX12_surest_20 (by decide) ?_
      refine lv_sipush (v := (999 : Int32)) hx hb dX12_surest_21 (by decide) ?_
      refine s_ci (rest := []) (As := [.int (a2), .int ((1 : Int32)), .int ((999 : Int32))]) C0 cf_X12_in w_1060 (k_X12_in l a2 (1 : Int32) (999 : Int32) ) ⟨by decide, by decide⟩ hl.1 rfl rfl (Nat.le_of_ble_eq_true rfl) dX12_surest_24 ⟨Nat.zero_le _, Nat.zero_le _⟩ ?_
      refine lv_if_ne (tgt := 33) hx hb dX12_surest_27 (by decide) (fun c_27 => ?_) (fun c_27 => ?_)
      · have hT := hT_neg c_27 hT
        refine lv_bipush (v := (-5 : Int32)) hx hb dX12_surest_33 (by decide) ?_
        refine lv_istore (lv' := [(4, .int ((-5 : Int32))), (0, .ref (g.2.2 100)), (1, .int (a1)), (2, .int (a2)), (3, .int (a3))]) hx hb dX12_surest_35 hl (by decide) rfl (fun ls hl => ?_)
        refine lv_bipush (v := (-5 : Int32)) hx hb dX12_surest_37 (by decide) ?_
        refine lv_istore (lv' := [(5, .int ((-5 : Int32))), (4, .int ((-5 : Int32))), (0, .ref (g.2.2 100)), (1, .int (a1)), (2, .int (a2)), (3, .int (a3))]) hx hb dX12_surest_39 hl (by decide) rfl (fun ls hl => ?_)
        refine lv_bipush (v := (-5 : Int32)) hx hb dX12_surest_41 (by decide) ?_
        refine lv_istore (lv' := [(6, .int ((-5 : Int32))), (5, .int ((-5 : Int32))), (4, .int ((-5 : Int32))), (0, .ref (g.2.2 100)), (1, .int (a1)), (2, .int (a2)), (3, .int (a3))]) hx hb dX12_surest_43 hl (by decide) rfl (fun ls hl => ?_)
        refine lv_iconst (v := (0 : Int32)) hx hb dX12_surest_45 (by decide) ?_
        refine lv_istore (lv' := [(7, .int ((0 : Int32))), (6, .int ((-5 : Int32))), (5, .int ((-5 : Int32))), (4, .int ((-5 : Int32))), (0, .ref (g.2.2 100)), (1, .int (a1)), (2, .int (a2)), (3, .int (a3))]) hx hb dX12_surest_46 hl (by decide) rfl (fun ls hl => ?_)
        have j46_h7 : 0 ≤ (0 : Int32).toInt := by
          have : ((0 : Int32)).toInt = 0 := by decide
          have : ((2 : Int32)).toInt = 2 := by decide
          have : ((1 : Int32)).toInt = 1 := by decide
          have : ((999 : Int32)).toInt = 999 := by decide
          have : ((-5 : Int32)).toInt = -5 := by decide
          have := isWall_ne hI.2.1.1 c_5
          have := in_ne c_14
          have := in_ne c_27
          omega
        have j46_m : ((σ 1 0).toInt - (0 : Int32).toInt).toNat < 7 := by
          have : ((0 : Int32)).toInt = 0 := by decide
          have : ((2 : Int32)).toInt = 2 := by decide
          have : ((1 : Int32)).toInt = 1 := by decide
          have : ((999 : Int32)).toInt = 999 := by decide
          have : ((-5 : Int32)).toInt = -5 := by decide
          have := isWall_ne hI.2.1.1 c_5
          have := in_ne c_14
          have := in_ne c_27
          omega
        exact l_X12_surest_48  C0   (7) σ a1 a2 a3 (-5 : Int32) (-5 : Int32) (-5 : Int32) (0 : Int32) hI hV j46_h7 j46_m hK hC (lv_sub hl [4, 5, 6, 7, 3, 2, 1, 0] rfl) hT
      · have hT := hT_pos c_27 hT
        refine lv_bipush (v := (-2 : Int32)) hx hb dX12_surest_30 (by decide) ?_
        exact ret_MI C0 hC hT dX12_surest_32
    · have hT := hT_pos c_14 hT
      refine lv_iconst (v := (-1 : Int32)) hx hb dX12_surest_17 (by decide) ?_
      exact ret_MI C0 hC hT dX12_surest_18
set_option maxRecDepth 20000 in
theorem w_1197 : (Cond.methodLink RX12 175 yX12_triesTwice) ∈ TB := inTB (List.mem_of_getElem? (i := 1197) (by decide +kernel)) (by decide +kernel)
set_option maxRecDepth 20000 in
theorem w_1200 : (Cond.code yX12_triesTwice cX12_triesTwice 9 none) ∈ TB := inTB (List.mem_of_getElem? (i := 1200) (by decide +kernel)) (by decide +kernel)
set_option maxRecDepth 20000 in
theorem w_1199 : (Cond.instanceMethod yX12_triesTwice) ∈ TB := inTB (List.mem_of_getElem? (i := 1199) (by decide +kernel)) (by decide +kernel)
set_option maxRecDepth 20000 in
theorem w_55 : (Cond.selects RX12 yX12_triesTwice yX12_triesTwice) ∈ TB := inTB (List.mem_of_getElem? (i := 55) (by decide +kernel)) (by decide +kernel)
theorem cf_X12_triesTwice : CF yX12_triesTwice cX12_triesTwice 9 none 5 := ⟨w_1199, w_55, w_75, w_1200, by decide +kernel, by decide +kernel, by decide +kernel⟩
/-! ThreeMeasuresModel.twice -/
theorem dX12_twice_0 : decode cX12_twice 0 = .ok (.aload_n 0, 1) := by decide +kernel
theorem dX12_twice_1 : decode cX12_twice 1 = .ok (.iload_n 1, 1) := by decide +kernel
theorem dX12_twice_2 : decode cX12_twice 2 = .ok (.invokevirtual 165, 3) := by decide +kernel
theorem dX12_twice_5 : decode cX12_twice 5 = .ok (.ifCond .eq 12, 3) := by decide +kernel
theorem dX12_twice_8 : decode cX12_twice 8 = .ok (.iload_n 3, 1) := by decide +kernel
theorem dX12_twice_9 : decode cX12_twice 9 = .ok (.iconst 0, 1) := by decide +kernel
theorem dX12_twice_10 : decode cX12_twice 10 = .ok (.iconst 5, 1) := by decide +kernel
theorem dX12_twice_11 : decode cX12_twice 11 = .ok (.invokestatic 47, 3) := by decide +kernel
theorem dX12_twice_14 : decode cX12_twice 14 = .ok (.ifCond .ne 5, 3) := by decide +kernel
theorem dX12_twice_17 : decode cX12_twice 17 = .ok (.iconst (-1), 1) := by decide +kernel
theorem dX12_twice_18 : decode cX12_twice 18 = .ok (.ireturn, 1) := by decide +kernel
theorem dX12_twice_19 : decode cX12_twice 19 = .ok (.iload_n 2, 1) := by decide +kernel
theorem dX12_twice_20 : decode cX12_twice 20 = .ok (.iconst 1, 1) := by decide +kernel
theorem dX12_twice_21 : decode cX12_twice 21 = .ok (.sipush 999, 3) := by decide +kernel
theorem dX12_twice_24 : decode cX12_twice 24 = .ok (.invokestatic 47, 3) := by decide +kernel
theorem dX12_twice_27 : decode cX12_twice 27 = .ok (.ifCond .ne 6, 3) := by decide +kernel
theorem dX12_twice_30 : decode cX12_twice 30 = .ok (.bipush (-2), 2) := by decide +kernel
theorem dX12_twice_32 : decode cX12_twice 32 = .ok (.ireturn, 1) := by decide +kernel
theorem dX12_twice_33 : decode cX12_twice 33 = .ok (.bipush 10, 2) := by decide +kernel
theorem dX12_twice_35 : decode cX12_twice 35 = .ok (.aload_n 0, 1) := by decide +kernel
theorem dX12_twice_36 : decode cX12_twice 36 = .ok (.getfield 9, 3) := by decide +kernel
theorem dX12_twice_39 : decode cX12_twice 39 = .ok (.iconst 0, 1) := by decide +kernel
theorem dX12_twice_40 : decode cX12_twice 40 = .ok (.iaload, 1) := by decide +kernel
theorem dX12_twice_41 : decode cX12_twice 41 = .ok (.imul, 1) := by decide +kernel
theorem dX12_twice_42 : decode cX12_twice 42 = .ok (.istore 4, 2) := by decide +kernel
theorem dX12_twice_44 : decode cX12_twice 44 = .ok (.iconst 0, 1) := by decide +kernel
theorem dX12_twice_45 : decode cX12_twice 45 = .ok (.istore 5, 2) := by decide +kernel
theorem dX12_twice_47 : decode cX12_twice 47 = .ok (.iload 5, 2) := by decide +kernel
theorem dX12_twice_49 : decode cX12_twice 49 = .ok (.iload 4, 2) := by decide +kernel
theorem dX12_twice_51 : decode cX12_twice 51 = .ok (.if_icmp .ge 52, 3) := by decide +kernel
theorem dX12_twice_54 : decode cX12_twice 54 = .ok (.aload_n 0, 1) := by decide +kernel
theorem dX12_twice_55 : decode cX12_twice 55 = .ok (.iload 5, 2) := by decide +kernel
theorem dX12_twice_57 : decode cX12_twice 57 = .ok (.bipush 10, 2) := by decide +kernel
theorem dX12_twice_59 : decode cX12_twice 59 = .ok (.idiv, 1) := by decide +kernel
theorem dX12_twice_60 : decode cX12_twice 60 = .ok (.iload_n 1, 1) := by decide +kernel
theorem dX12_twice_61 : decode cX12_twice 61 = .ok (.iload 5, 2) := by decide +kernel
theorem dX12_twice_63 : decode cX12_twice 63 = .ok (.bipush 10, 2) := by decide +kernel
theorem dX12_twice_65 : decode cX12_twice 65 = .ok (.irem, 1) := by decide +kernel
theorem dX12_twice_66 : decode cX12_twice 66 = .ok (.invokevirtual 172, 3) := by decide +kernel
theorem dX12_twice_69 : decode cX12_twice 69 = .ok (.aload_n 0, 1) := by decide +kernel
theorem dX12_twice_70 : decode cX12_twice 70 = .ok (.getfield 25, 3) := by decide +kernel
theorem dX12_twice_73 : decode cX12_twice 73 = .ok (.iload 5, 2) := by decide +kernel
theorem dX12_twice_75 : decode cX12_twice 75 = .ok (.aload_n 0, 1) := by decide +kernel
theorem dX12_twice_76 : decode cX12_twice 76 = .ok (.getfield 143, 3) := by decide +kernel
theorem dX12_twice_79 : decode cX12_twice 79 = .ok (.iastore, 1) := by decide +kernel
theorem dX12_twice_80 : decode cX12_twice 80 = .ok (.aload_n 0, 1) := by decide +kernel
theorem dX12_twice_81 : decode cX12_twice 81 = .ok (.getfield 28, 3) := by decide +kernel
theorem dX12_twice_84 : decode cX12_twice 84 = .ok (.iload 5, 2) := by decide +kernel
theorem dX12_twice_86 : decode cX12_twice 86 = .ok (.aload_n 0, 1) := by decide +kernel
theorem dX12_twice_87 : decode cX12_twice 87 = .ok (.getfield 146, 3) := by decide +kernel
theorem dX12_twice_90 : decode cX12_twice 90 = .ok (.iload 5, 2) := by decide +kernel
theorem dX12_twice_92 : decode cX12_twice 92 = .ok (.bipush 10, 2) := by decide +kernel
theorem dX12_twice_94 : decode cX12_twice 94 = .ok (.irem, 1) := by decide +kernel
theorem dX12_twice_95 : decode cX12_twice 95 = .ok (.imul, 1) := by decide +kernel
theorem dX12_twice_96 : decode cX12_twice 96 = .ok (.iastore, 1) := by decide +kernel
theorem dX12_twice_97 : decode cX12_twice 97 = .ok (.iinc 5 1, 3) := by decide +kernel
theorem dX12_twice_100 : decode cX12_twice 100 = .ok (.goto (-53), 3) := by decide +kernel
theorem dX12_twice_103 : decode cX12_twice 103 = .ok (.iconst 0, 1) := by decide +kernel
theorem dX12_twice_104 : decode cX12_twice 104 = .ok (.istore 5, 2) := by decide +kernel
theorem dX12_twice_106 : decode cX12_twice 106 = .ok (.iload 5, 2) := by decide +kernel
theorem dX12_twice_108 : decode cX12_twice 108 = .ok (.bipush 6, 2) := by decide +kernel
theorem dX12_twice_110 : decode cX12_twice 110 = .ok (.if_icmp .ge 18, 3) := by decide +kernel
theorem dX12_twice_113 : decode cX12_twice 113 = .ok (.aload_n 0, 1) := by decide +kernel
theorem dX12_twice_114 : decode cX12_twice 114 = .ok (.getfield 31, 3) := by decide +kernel
theorem dX12_twice_117 : decode cX12_twice 117 = .ok (.iload 5, 2) := by decide +kernel
theorem dX12_twice_119 : decode cX12_twice 119 = .ok (.bipush (-5), 2) := by decide +kernel
theorem dX12_twice_121 : decode cX12_twice 121 = .ok (.iastore, 1) := by decide +kernel
theorem dX12_twice_122 : decode cX12_twice 122 = .ok (.iinc 5 1, 3) := by decide +kernel
theorem dX12_twice_125 : decode cX12_twice 125 = .ok (.goto (-19), 3) := by decide +kernel
theorem dX12_twice_128 : decode cX12_twice 128 = .ok (.iconst 0, 1) := by decide +kernel
theorem dX12_twice_129 : decode cX12_twice 129 = .ok (.istore 5, 2) := by decide +kernel
theorem dX12_twice_131 : decode cX12_twice 131 = .ok (.iload 5, 2) := by decide +kernel
theorem dX12_twice_133 : decode cX12_twice 133 = .ok (.iload 4, 2) := by decide +kernel
theorem dX12_twice_135 : decode cX12_twice 135 = .ok (.if_icmp .ge 50, 3) := by decide +kernel
theorem dX12_twice_138 : decode cX12_twice 138 = .ok (.iconst 0, 1) := by decide +kernel
theorem dX12_twice_139 : decode cX12_twice 139 = .ok (.istore 6, 2) := by decide +kernel
theorem dX12_twice_141 : decode cX12_twice 141 = .ok (.iload 6, 2) := by decide +kernel
theorem dX12_twice_143 : decode cX12_twice 143 = .ok (.iload 4, 2) := by decide +kernel
theorem dX12_twice_145 : decode cX12_twice 145 = .ok (.if_icmp .ge 34, 3) := by decide +kernel
theorem dX12_twice_148 : decode cX12_twice 148 = .ok (.aload_n 0, 1) := by decide +kernel
theorem dX12_twice_149 : decode cX12_twice 149 = .ok (.iload 5, 2) := by decide +kernel
theorem dX12_twice_151 : decode cX12_twice 151 = .ok (.bipush 10, 2) := by decide +kernel
theorem dX12_twice_153 : decode cX12_twice 153 = .ok (.idiv, 1) := by decide +kernel
theorem dX12_twice_154 : decode cX12_twice 154 = .ok (.iload 5, 2) := by decide +kernel
theorem dX12_twice_156 : decode cX12_twice 156 = .ok (.bipush 10, 2) := by decide +kernel
theorem dX12_twice_158 : decode cX12_twice 158 = .ok (.irem, 1) := by decide +kernel
theorem dX12_twice_159 : decode cX12_twice 159 = .ok (.iload 6, 2) := by decide +kernel
theorem dX12_twice_161 : decode cX12_twice 161 = .ok (.bipush 10, 2) := by decide +kernel
theorem dX12_twice_163 : decode cX12_twice 163 = .ok (.idiv, 1) := by decide +kernel
theorem dX12_twice_164 : decode cX12_twice 164 = .ok (.iload 6, 2) := by decide +kernel
theorem dX12_twice_166 : decode cX12_twice 166 = .ok (.bipush 10, 2) := by decide +kernel
theorem dX12_twice_168 : decode cX12_twice 168 = .ok (.irem, 1) := by decide +kernel
theorem dX12_twice_169 : decode cX12_twice 169 = .ok (.iload_n 2, 1) := by decide +kernel
theorem dX12_twice_170 : decode cX12_twice 170 = .ok (.invokevirtual 175, 3) := by decide +kernel
theorem dX12_twice_173 : decode cX12_twice 173 = .ok (.iinc 6 1, 3) := by decide +kernel
theorem dX12_twice_176 : decode cX12_twice 176 = .ok (.goto (-35), 3) := by decide +kernel
theorem dX12_twice_179 : decode cX12_twice 179 = .ok (.iinc 5 1, 3) := by decide +kernel
theorem dX12_twice_182 : decode cX12_twice 182 = .ok (.goto (-51), 3) := by decide +kernel
theorem dX12_twice_185 : decode cX12_twice 185 = .ok (.aload_n 0, 1) := by decide +kernel
theorem dX12_twice_186 : decode cX12_twice 186 = .ok (.getfield 31, 3) := by decide +kernel
theorem dX12_twice_189 : decode cX12_twice 189 = .ok (.iload_n 3, 1) := by decide +kernel
theorem dX12_twice_190 : decode cX12_twice 190 = .ok (.iaload, 1) := by decide +kernel
theorem dX12_twice_191 : decode cX12_twice 191 = .ok (.ireturn, 1) := by decide +kernel
def f_X12_twice_141 (K131 : St → Int32 → Int32 → Int32 → Int32 → Int32 × St) (K141 : St → Int32 → Int32 → Int32 → Int32 → Int32 → Int32 × St) (σ : St) (a2 : Int32) (a3 : Int32) (a4 : Int32) (a5 : Int32) (a6 : Int32) : Int32 × St := (if a4 ≤ a6 then (K131 σ a2 a3 a4 (a5 + (1 : Int32))) else (bd1 (f_X12_triesTwice σ (a5 / (10 : Int32)) (a5 - a5 / (10 : Int32) * (10 : Int32)) (a6 / (10 : Int32)) (a6 - a6 / (10 : Int32) * (10 : Int32)) a2) (fun u170 => (K141 u170 a2 a3 a4 a5 (a6 + (1 : Int32))))))
set_option maxHeartbeats 600000 in
set_option maxRecDepth 100000 in
theorem b_X12_twice_141 {g : GG} {p : Program} {l : Launch} {e : Env} {s : State} {m : MethodId} {args : Array Value} {below : List Frame} {meth : Method} {c : Code} {A : Nat → Prop} {tgt : Int32 × St} {K131 : St → Int32 → Int32 → Int32 → Int32 → Int32 × St} {N131 : Nat} {K141 : St → Int32 → Int32 → Int32 → Int32 → Int32 → Int32 × St} {N141 : Nat} (C0 : BC p s m args meth c cX12_twice RX12 7 (some .int)) (hK131 : ∀ (σ : St) (a2 : Int32) (a3 : Int32) (a4 : Int32) (a5 : Int32), (IB (σ 1)) → (HV (σ 1)) → (0 ≤ a3.toInt) → (a3.toInt ≤ 5) → (a4.toInt = 10 * (σ 1 0).toInt) → (0 ≤ a5.toInt) → (a4.toInt - a5.toInt).toNat < N131 → ∀ {H : Heap} {locs : List Loc}, KK g s → WC g (mW g) A s.heap σ H locs → ∀ {ls : Array Slot}, lv_has ls 7 [(0, .ref (g.2.2 100)), (2, .int (a2)), (3, .int (a3)), (4, .int (a4)), (5, .int (a5))] → K131 σ a2 a3 a4 a5 = tgt → W p l e { frames := 3, cells := 0, slots := 0, locals := 79 } s m args below meth c H locs 0 0 (QMI below args s g (mW g) A tgt) (F0 m 131 ls [])) (hK141 : ∀ (σ : St) (a2 : Int32) (a3 : Int32) (a4 : Int32) (a5 : Int32) (a6 : Int32), (IB (σ 1)) → (HV (σ 1)) → (0 ≤ a3.toInt) → (a3.toInt ≤ 5) → (a4.toInt = 10 * (σ 1 0).toInt) → (0 ≤ a5.toInt) → (a5.toInt < a4.toInt) → ((a4.toInt - a5.toInt).toNat < N131 + 1) → (0 ≤ a6.toInt) → (a4.toInt - a6.toInt).toNat < N141 → ∀ {H : Heap} {locs : List Loc}, KK g s → WC g (mW g) A s.heap σ H locs → ∀ {ls : Array Slot}, lv_has ls 7 [(0, .ref (g.2.2 100)), (2, .int (a2)), (3, .int (a3)), (4, .int (a4)), (5, .int (a5)), (6, .int (a6))] → K141 σ a2 a3 a4 a5 a6 = tgt → W p l e { frames := 3, cells := 0, slots := 0, locals := 79 } s m args below meth c H locs 0 0 (QMI below args s g (mW g) A tgt) (F0 m 141 ls [])) {σ : St} {a2 : Int32} {a3 : Int32} {a4 : Int32} {a5 : Int32} {a6 : Int32} {H : Heap} {locs : List Loc} (hI : IB (σ 1)) (hV : HV (σ 1)) (h3 : 0 ≤ a3.toInt) (h3b : a3.toInt ≤ 5) (h4 : a4.toInt = 10 * (σ 1 0).toInt) (h5 : 0 ≤ a5.toInt) (h5b : a5.toInt < a4.toInt) (hm131 : (a4.toInt - a5.toInt).toNat < N131 + 1) (h6 : 0 ≤ a6.toInt) (hm : (a4.toInt - a6.toInt).toNat < N141 + 1) (hK : KK g s) (hC : WC g (mW g) A s.heap σ H locs) {ls : Array Slot} (hl : lv_has ls 7 [(0, .ref (g.2.2 100)), (2, .int (a2)), (3, .int (a3)), (4, .int (a4)), (5, .int (a5)), (6, .int (a6))]) (hT : f_X12_twice_141 K131 K141 σ a2 a3 a4 a5 a6 = tgt) : W p l e { frames := 3, cells := 0, slots := 0, locals := 79 } s m args below meth c H locs 0 0 (QMI below args s g (mW g) A tgt) (F0 m 141 ls []) := by
  obtain ⟨hx, hb, hr, hml, hown, hts, hlocks⟩ := id C0
  unfold f_X12_twice_141 at hT
  obtain ⟨⟨i0, i0'⟩, ⟨i1, i1'⟩, ⟨i2, i2'⟩, ⟨i3, i3'⟩, ⟨i4, i4'⟩, ⟨i5, i5'⟩, ⟨i6, i6'⟩, ⟨i7, i7'⟩, ⟨i8, i8'⟩, iK, iV, iL, iR, iW, iY, iG, iM, iB, iQ, iP, iT, iU⟩ := id hI
  refine lv_iload hx hb dX12_twice_141 (lv_at hl 5 rfl) ?_
  refine lv_iload hx hb dX12_twice_143 (lv_at hl 3 rfl) ?_
  refine lv_icmp_ge (tgt := 179) hx hb dX12_twice_145 (by decide) (fun c_145 => ?_) (fun c_145 => ?_)
  · have hT := hT_pos c_145 hT
    refine lv_iinc (v := (a5 + (1 : Int32))) (lv' := [(5, .int ((a5 + (1 : Int32)))), (0, .ref (g.2.2 100)), (2, .int (a2)), (3, .int (a3)), (4, .int (a4)), (6, .int (a6))]) hx hb dX12_twice_179 hl (k := 4) rfl rfl (by decide) rfl (fun ls hl => ?_)
    refine lv_goto (tgt := 131) hx hb dX12_twice_182 (by decide) ?_
    have j182_h5 : 0 ≤ (a5 + (1 : Int32)).toInt := by
      have : ((1 : Int32)).toInt = 1 := by decide
      have := ti_le.mp c_145
      try have := ti_add (a := a5) (b := (1 : Int32)) (by omega) (by omega)
      omega
    have j182_m : (a4.toInt - (a5 + (1 : Int32)).toInt).toNat < N131 := by
      have : ((1 : Int32)).toInt = 1 := by decide
      have := ti_le.mp c_145
      try have := ti_add (a := a5) (b := (1 : Int32)) (by omega) (by omega)
      omega
    exact hK131 σ a2 a3 a4 (a5 + (1 : Int32)) hI hV h3 h3b h4 j182_h5 j182_m hK hC (lv_sub hl [1, 2, 3, 4, 0] rfl) hT
  · have hT := hT_neg c_145 hT
    refine lv_aload_n hx hb dX12_twice_148 rfl (lv_at hl 0 rfl) ?_
    refine lv_iload hx hb dX12_twice_149 (lv_at hl 4 rfl) ?_
    refine lv_bipush (v := (10 : Int32)) hx hb dX12_twice_151 (by decide) ?_
    refine lv_idiv hx hb dX12_twice_153 (by decide) ?_
    refine lv_iload hx hb dX12_twice_154 (lv_at hl 4 rfl) ?_
    refine lv_bipush (v := (10 : Int32)) hx hb dX12_twice_156 (by decide) ?_
    refine lv_irem hx hb dX12_twice_158 (by decide) ?_
    refine lv_iload hx hb dX12_twice_159 (lv_at hl 5 rfl) ?_
    refine lv_bipush (v := (10 : Int32)) hx hb dX12_twice_161 (by decide) ?_
    refine lv_idiv hx hb dX12_twice_163 (by decide) ?_
    refine lv_iload hx hb dX12_twice_164 (lv_at hl 5 rfl) ?_
    refine lv_bipush (v := (10 : Int32)) hx hb dX12_twice_166 (by decide) ?_
    refine lv_irem hx hb dX12_twice_168 (by decide) ?_
    refine lv_iload_n hx hb dX12_twice_169 rfl (lv_at hl 1 rfl) ?_
    have q170_h1 : 0 ≤ (a5 / (10 : Int32)).toInt := by
      have := mt ti_le.mpr c_145
      try have := div_b (a := a5) (b := (10 : Int32)) (n := 10) (by decide) (by omega) (by omega)
      try have := rem_b (a := a5) (b := (10 : Int32)) (n := 10) (by decide) (by omega) (by omega)
      try have := div_b (a := a6) (b := (10 : Int32)) (n := 10) (by decide) (by omega) (by omega)
      try have := rem_b (a := a6) (b := (10 : Int32)) (n := 10) (by decide) (by omega) (by omega)
      omega
    have q170_h1b : (a5 / (10 : Int32)).toInt < 6 := by
      have := mt ti_le.mpr c_145
      try have := div_b (a := a5) (b := (10 : Int32)) (n := 10) (by decide) (by omega) (by omega)
      try have := rem_b (a := a5) (b := (10 : Int32)) (n := 10) (by decide) (by omega) (by omega)
      try have := div_b (a := a6) (b := (10 : Int32)) (n := 10) (by decide) (by omega) (by omega)
      try have := rem_b (a := a6) (b := (10 : Int32)) (n := 10) (by decide) (by omega) (by omega)
      omega
    have q170_h2 : 0 ≤ (a5 - a5 / (10 : Int32) * (10 : Int32)).toInt := by
      have := mt ti_le.mpr c_145
      try have := div_b (a := a5) (b := (10 : Int32)) (n := 10) (by decide) (by omega) (by omega)
      try have := rem_b (a := a5) (b := (10 : Int32)) (n := 10) (by decide) (by omega) (by omega)
      try have := div_b (a := a6) (b := (10 : Int32)) (n := 10) (by decide) (by omega) (by omega)
      try have := rem_b (a := a6) (b := (10 : Int32)) (n := 10) (by decide) (by omega) (by omega)
      omega
    have q170_h2b : (a5 - a5 / (10 : Int32) * (10 : Int32)).toInt < 10 := by
      have := mt ti_le.mpr c_145
      try have := div_b (a := a5) (b := (10 : Int32)) (n := 10) (by decide) (by omega) (by omega)
      try have := rem_b (a := a5) (b := (10 : Int32)) (n := 10) (by decide) (by omega) (by omega)
      try have := div_b (a := a6) (b := (10 : Int32)) (n := 10) (by decide) (by omega) (by omega)
      try have := rem_b (a := a6) (b := (10 : Int32)) (n := 10) (by decide) (by omega) (by omega)
      omega
    have q170_h3 : 0 ≤ (a6 / (10 : Int32)).toInt := by
      have := mt ti_le.mpr c_145
      try have := div_b (a := a5) (b := (10 : Int32)) (n := 10) (by decide) (by omega) (by omega)
      try have := rem_b (a := a5) (b := (10 : Int32)) (n := 10) (by decide) (by omega) (by omega)
      try have := div_b (a := a6) (b := (10 : Int32)) (n := 10) (by decide) (by omega) (by omega)
      try have := rem_b (a := a6) (b := (10 : Int32)) (n := 10) (by decide) (by omega) (by omega)
      omega
    have q170_h3b : (a6 / (10 : Int32)).toInt < 6 := by
      have := mt ti_le.mpr c_145
      try have := div_b (a := a5) (b := (10 : Int32)) (n := 10) (by decide) (by omega) (by omega)
      try have := rem_b (a := a5) (b := (10 : Int32)) (n := 10) (by decide) (by omega) (by omega)
      try have := div_b (a := a6) (b := (10 : Int32)) (n := 10) (by decide) (by omega) (by omega)
      try have := rem_b (a := a6) (b := (10 : Int32)) (n := 10) (by decide) (by omega) (by omega)
      omega
    have q170_h4 : 0 ≤ (a6 - a6 / (10 : Int32) * (10 : Int32)).toInt := by
      have := mt ti_le.mpr c_145
      try have := div_b (a := a5) (b := (10 : Int32)) (n := 10) (by decide) (by omega) (by omega)
      try have := rem_b (a := a5) (b := (10 : Int32)) (n := 10) (by decide) (by omega) (by omega)
      try have := div_b (a := a6) (b := (10 : Int32)) (n := 10) (by decide) (by omega) (by omega)
      try have := rem_b (a := a6) (b := (10 : Int32)) (n := 10) (by decide) (by omega) (by omega)
      omega
    have q170_h4b : (a6 - a6 / (10 : Int32) * (10 : Int32)).toInt < 10 := by
      have := mt ti_le.mpr c_145
      try have := div_b (a := a5) (b := (10 : Int32)) (n := 10) (by decide) (by omega) (by omega)
      try have := rem_b (a := a5) (b := (10 : Int32)) (n := 10) (by decide) (by omega) (by omega)
      try have := div_b (a := a6) (b := (10 : Int32)) (n := 10) (by decide) (by omega) (by omega)
      try have := rem_b (a := a6) (b := (10 : Int32)) (n := 10) (by decide) (by omega) (by omega)
      omega
    refine m_mv (rest := []) (As := [.int ((a5 / (10 : Int32))), .int ((a5 - a5 / (10 : Int32) * (10 : Int32))), .int ((a6 / (10 : Int32))), .int ((a6 - a6 / (10 : Int32) * (10 : Int32))), .int (a2)]) (σ := σ) C0 hK hC SV.tt (fun _ _ _ => trivial) cf_X12_triesTwice w_1197 rfl (k_X12_triesTwice l g σ (a5 / (10 : Int32)) (a5 - a5 / (10 : Int32) * (10 : Int32)) (a6 / (10 : Int32)) (a6 - a6 / (10 : Int32) * (10 : Int32)) a2 q170_h1 q170_h1b q170_h2 q170_h2b q170_h3 q170_h3b q170_h4 q170_h4b) ⟨by decide, by decide⟩ hl.1 rfl rfl (Nat.le_of_ble_eq_true rfl) dX12_twice_170 ⟨Nat.zero_le _, Nat.zero_le _⟩ (fun u170 H locs e170 hC => ?_)
    have hT := bd1_e e170 hT
    have z170 : u170 1 = σ 1 := by
      rw [e170]
      exact triesTwice_1 _ _ _ _ _ _
    refine lv_iinc (v := (a6 + (1 : Int32))) (lv' := [(6, .int ((a6 + (1 : Int32)))), (0, .ref (g.2.2 100)), (2, .int (a2)), (3, .int (a3)), (4, .int (a4)), (5, .int (a5))]) hx hb dX12_twice_173 hl (k := 5) rfl rfl (by decide) rfl (fun ls hl => ?_)
    refine lv_goto (tgt := 141) hx hb dX12_twice_176 (by decide) ?_
    have j176_hI : IB (u170 1) := by
      rw [z170]
      exact hI
    have j176_hV : HV (u170 1) := by
      rw [z170]
      exact hV
    have j176_h4 : a4.toInt = 10 * (u170 1 0).toInt := by
      rw [z170]
      exact h4
    have j176_h6 : 0 ≤ (a6 + (1 : Int32)).toInt := by
      have : ((1 : Int32)).toInt = 1 := by decide
      have := mt ti_le.mpr c_145
      try have := ti_add (a := a6) (b := (1 : Int32)) (by omega) (by omega)
      omega
    have j176_m : (a4.toInt - (a6 + (1 : Int32)).toInt).toNat < N141 := by
      have : ((1 : Int32)).toInt = 1 := by decide
      have := mt ti_le.mpr c_145
      try have := ti_add (a := a6) (b := (1 : Int32)) (by omega) (by omega)
      omega
    exact hK141 u170 a2 a3 a4 a5 (a6 + (1 : Int32)) j176_hI j176_hV h3 h3b j176_h4 h5 h5b hm131 j176_h6 j176_m hK hC (lv_sub hl [1, 2, 3, 4, 5, 0] rfl) hT
def g_X12_twice_141 (K131 : St → Int32 → Int32 → Int32 → Int32 → Int32 × St) : Nat → St → Int32 → Int32 → Int32 → Int32 → Int32 → Int32 × St
  | 0 => fun σ a2 a3 a4 a5 a6 => (0, σ)
  | n + 1 => fun σ a2 a3 a4 a5 a6 => f_X12_twice_141 K131 (g_X12_twice_141 K131 n) σ a2 a3 a4 a5 a6
theorem l_X12_twice_141 {g : GG} {p : Program} {l : Launch} {e : Env} {s : State} {m : MethodId} {args : Array Value} {below : List Frame} {meth : Method} {c : Code} {A : Nat → Prop} {tgt : Int32 × St} {K131 : St → Int32 → Int32 → Int32 → Int32 → Int32 × St} {N131 : Nat} (C0 : BC p s m args meth c cX12_twice RX12 7 (some .int)) (hK131 : ∀ (σ : St) (a2 : Int32) (a3 : Int32) (a4 : Int32) (a5 : Int32), (IB (σ 1)) → (HV (σ 1)) → (0 ≤ a3.toInt) → (a3.toInt ≤ 5) → (a4.toInt = 10 * (σ 1 0).toInt) → (0 ≤ a5.toInt) → (a4.toInt - a5.toInt).toNat < N131 → ∀ {H : Heap} {locs : List Loc}, KK g s → WC g (mW g) A s.heap σ H locs → ∀ {ls : Array Slot}, lv_has ls 7 [(0, .ref (g.2.2 100)), (2, .int (a2)), (3, .int (a3)), (4, .int (a4)), (5, .int (a5))] → K131 σ a2 a3 a4 a5 = tgt → W p l e { frames := 3, cells := 0, slots := 0, locals := 79 } s m args below meth c H locs 0 0 (QMI below args s g (mW g) A tgt) (F0 m 131 ls [])) : ∀ (n : Nat) (σ : St) (a2 : Int32) (a3 : Int32) (a4 : Int32) (a5 : Int32) (a6 : Int32), (IB (σ 1)) → (HV (σ 1)) → (0 ≤ a3.toInt) → (a3.toInt ≤ 5) → (a4.toInt = 10 * (σ 1 0).toInt) → (0 ≤ a5.toInt) → (a5.toInt < a4.toInt) → ((a4.toInt - a5.toInt).toNat < N131 + 1) → (0 ≤ a6.toInt) → (a4.toInt - a6.toInt).toNat < n → ∀ {H : Heap} {locs : List Loc}, KK g s → WC g (mW g) A s.heap σ H locs → ∀ {ls : Array Slot}, lv_has ls 7 [(0, .ref (g.2.2 100)), (2, .int (a2)), (3, .int (a3)), (4, .int (a4)), (5, .int (a5)), (6, .int (a6))] → g_X12_twice_141 K131 n σ a2 a3 a4 a5 a6 = tgt → W p l e { frames := 3, cells := 0, slots := 0, locals := 79 } s m args below meth c H locs 0 0 (QMI below args s g (mW g) A tgt) (F0 m 141 ls []) := by
  intro n
  induction n with
  | zero => intro σ a2 a3 a4 a5 a6 hI hV h3 h3b h4 h5 h5b hm131 h6 hm; exact absurd hm (Nat.not_lt_zero _)
  | succ n ih =>
    intro σ a2 a3 a4 a5 a6 hI hV h3 h3b h4 h5 h5b hm131 h6 hm H locs hK hC ls hl hT
    exact b_X12_twice_141  (K141 := g_X12_twice_141 K131 n) (N141 := n) C0 hK131 (fun σ a2 a3 a4 a5 a6 hI hV h3 h3b h4 h5 h5b hm131 h6 hm2 => ih σ a2 a3 a4 a5 a6 hI hV h3 h3b h4 h5 h5b hm131 h6 hm2) hI hV h3 h3b h4 h5 h5b hm131 h6 hm hK hC hl hT
def f_X12_twice_131 (K131 : St → Int32 → Int32 → Int32 → Int32 → Int32 × St) (σ : St) (a2 : Int32) (a3 : Int32) (a4 : Int32) (a5 : Int32) : Int32 × St := (if a4 ≤ a5 then ((σ 19 (ix a3)), σ) else (g_X12_twice_141 K131 (61) σ a2 a3 a4 a5 (0 : Int32)))
set_option maxHeartbeats 600000 in
set_option maxRecDepth 100000 in
theorem b_X12_twice_131 {g : GG} {p : Program} {l : Launch} {e : Env} {s : State} {m : MethodId} {args : Array Value} {below : List Frame} {meth : Method} {c : Code} {A : Nat → Prop} {tgt : Int32 × St} {K131 : St → Int32 → Int32 → Int32 → Int32 → Int32 × St} {N131 : Nat} (C0 : BC p s m args meth c cX12_twice RX12 7 (some .int)) (hK131 : ∀ (σ : St) (a2 : Int32) (a3 : Int32) (a4 : Int32) (a5 : Int32), (IB (σ 1)) → (HV (σ 1)) → (0 ≤ a3.toInt) → (a3.toInt ≤ 5) → (a4.toInt = 10 * (σ 1 0).toInt) → (0 ≤ a5.toInt) → (a4.toInt - a5.toInt).toNat < N131 → ∀ {H : Heap} {locs : List Loc}, KK g s → WC g (mW g) A s.heap σ H locs → ∀ {ls : Array Slot}, lv_has ls 7 [(0, .ref (g.2.2 100)), (2, .int (a2)), (3, .int (a3)), (4, .int (a4)), (5, .int (a5))] → K131 σ a2 a3 a4 a5 = tgt → W p l e { frames := 3, cells := 0, slots := 0, locals := 79 } s m args below meth c H locs 0 0 (QMI below args s g (mW g) A tgt) (F0 m 131 ls [])) {σ : St} {a2 : Int32} {a3 : Int32} {a4 : Int32} {a5 : Int32} {H : Heap} {locs : List Loc} (hI : IB (σ 1)) (hV : HV (σ 1)) (h3 : 0 ≤ a3.toInt) (h3b : a3.toInt ≤ 5) (h4 : a4.toInt = 10 * (σ 1 0).toInt) (h5 : 0 ≤ a5.toInt) (hm : (a4.toInt - a5.toInt).toNat < N131 + 1) (hK : KK g s) (hC : WC g (mW g) A s.heap σ H locs) {ls : Array Slot} (hl : lv_has ls 7 [(0, .ref (g.2.2 100)), (2, .int (a2)), (3, .int (a3)), (4, .int (a4)), (5, .int (a5))]) (hT : f_X12_twice_131 K131 σ a2 a3 a4 a5 = tgt) : W p l e { frames := 3, cells := 0, slots := 0, locals := 79 } s m args below meth c H locs 0 0 (QMI below args s g (mW g) A tgt) (F0 m 131 ls []) := by
  obtain ⟨hx, hb, hr, hml, hown, hts, hlocks⟩ := id C0
  unfold f_X12_twice_131 at hT
  obtain ⟨⟨i0, i0'⟩, ⟨i1, i1'⟩, ⟨i2, i2'⟩, ⟨i3, i3'⟩, ⟨i4, i4'⟩, ⟨i5, i5'⟩, ⟨i6, i6'⟩, ⟨i7, i7'⟩, ⟨i8, i8'⟩, iK, iV, iL, iR, iW, iY, iG, iM, iB, iQ, iP, iT, iU⟩ := id hI
  refine lv_iload hx hb dX12_twice_131 (lv_at hl 4 rfl) ?_
  refine lv_iload hx hb dX12_twice_133 (lv_at hl 3 rfl) ?_
  refine lv_icmp_ge (tgt := 185) hx hb dX12_twice_135 (by decide) (fun c_135 => ?_) (fun c_135 => ?_)
  · have hT := hT_pos c_135 hT
    refine lv_aload_n hx hb dX12_twice_185 rfl (lv_at hl 0 rfl) ?_
    refine m_get (σ := σ) (v := .ref (g.2.2 19)) C0 hK hC.1 19 (by decide) rfl w_986 dX12_twice_186 ?_
    refine lv_iload_n hx hb dX12_twice_189 rfl (lv_at hl 2 rfl) ?_
    have o_190 : vp_in a3 6 := by
      have := ti_le.mp c_135
      exact vin (by omega) (by omega)
    refine m_ald (σ := σ) C0 hK hC.1 7 19 6 rfl o_190 (ix a3) rfl dX12_twice_190 ?_
    exact ret_MI C0 hC hT dX12_twice_191
  · have hT := hT_neg c_135 hT
    refine lv_iconst (v := (0 : Int32)) hx hb dX12_twice_138 (by decide) ?_
    refine lv_istore (lv' := [(6, .int ((0 : Int32))), (0, .ref (g.2.2 100)), (2, .int (a2)), (3, .int (a3)), (4, .int (a4)), (5, .int (a5))]) hx hb dX12_twice_139 hl (by decide) rfl (fun ls hl => ?_)
    have j139_h5b : a5.toInt < a4.toInt := by
      have : ((0 : Int32)).toInt = 0 := by decide
      have := mt ti_le.mpr c_135
      omega
    have j139_hm131 : (a4.toInt - a5.toInt).toNat < N131 + 1 := by
      have : ((0 : Int32)).toInt = 0 := by decide
      have := mt ti_le.mpr c_135
      omega
    have j139_h6 : 0 ≤ (0 : Int32).toInt := by
      have : ((0 : Int32)).toInt = 0 := by decide
      have := mt ti_le.mpr c_135
      omega
    have j139_m : (a4.toInt - (0 : Int32).toInt).toNat < 61 := by
      have : ((0 : Int32)).toInt = 0 := by decide
      have := mt ti_le.mpr c_135
      omega
    exact l_X12_twice_141  C0 hK131  (61) σ a2 a3 a4 a5 (0 : Int32) hI hV h3 h3b h4 h5 j139_h5b j139_hm131 j139_h6 j139_m hK hC (lv_sub hl [1, 2, 3, 4, 5, 0] rfl) hT
def g_X12_twice_131  : Nat → St → Int32 → Int32 → Int32 → Int32 → Int32 × St
  | 0 => fun σ a2 a3 a4 a5 => (0, σ)
  | n + 1 => fun σ a2 a3 a4 a5 => f_X12_twice_131  (g_X12_twice_131  n) σ a2 a3 a4 a5
theorem l_X12_twice_131 {g : GG} {p : Program} {l : Launch} {e : Env} {s : State} {m : MethodId} {args : Array Value} {below : List Frame} {meth : Method} {c : Code} {A : Nat → Prop} {tgt : Int32 × St}  (C0 : BC p s m args meth c cX12_twice RX12 7 (some .int))  : ∀ (n : Nat) (σ : St) (a2 : Int32) (a3 : Int32) (a4 : Int32) (a5 : Int32), (IB (σ 1)) → (HV (σ 1)) → (0 ≤ a3.toInt) → (a3.toInt ≤ 5) → (a4.toInt = 10 * (σ 1 0).toInt) → (0 ≤ a5.toInt) → (a4.toInt - a5.toInt).toNat < n → ∀ {H : Heap} {locs : List Loc}, KK g s → WC g (mW g) A s.heap σ H locs → ∀ {ls : Array Slot}, lv_has ls 7 [(0, .ref (g.2.2 100)), (2, .int (a2)), (3, .int (a3)), (4, .int (a4)), (5, .int (a5))] → g_X12_twice_131  n σ a2 a3 a4 a5 = tgt → W p l e { frames := 3, cells := 0, slots := 0, locals := 79 } s m args below meth c H locs 0 0 (QMI below args s g (mW g) A tgt) (F0 m 131 ls []) := by
  intro n
  induction n with
  | zero => intro σ a2 a3 a4 a5 hI hV h3 h3b h4 h5 hm; exact absurd hm (Nat.not_lt_zero _)
  | succ n ih =>
    intro σ a2 a3 a4 a5 hI hV h3 h3b h4 h5 hm H locs hK hC ls hl hT
    exact b_X12_twice_131  (K131 := g_X12_twice_131  n) (N131 := n) C0  (fun σ a2 a3 a4 a5 hI hV h3 h3b h4 h5 hm2 => ih σ a2 a3 a4 a5 hI hV h3 h3b h4 h5 hm2) hI hV h3 h3b h4 h5 hm hK hC hl hT
def f_X12_twice_106 (K106 : St → Int32 → Int32 → Int32 → Int32 → Int32 × St) (σ : St) (a2 : Int32) (a3 : Int32) (a4 : Int32) (a5 : Int32) : Int32 × St := (if (6 : Int32) ≤ a5 then (g_X12_twice_131  (61) σ a2 a3 a4 (0 : Int32)) else (K106 (up2 σ 19 (ix a5) (-5 : Int32)) a2 a3 a4 (a5 + (1 : Int32))))
set_option maxHeartbeats 600000 in
set_option maxRecDepth 100000 in
theorem b_X12_twice_106 {g : GG} {p : Program} {l : Launch} {e : Env} {s : State} {m : MethodId} {args : Array Value} {below : List Frame} {meth : Method} {c : Code} {A : Nat → Prop} {tgt : Int32 × St} {K106 : St → Int32 → Int32 → Int32 → Int32 → Int32 × St} {N106 : Nat} (C0 : BC p s m args meth c cX12_twice RX12 7 (some .int)) (hK106 : ∀ (σ : St) (a2 : Int32) (a3 : Int32) (a4 : Int32) (a5 : Int32), (IB (σ 1)) → (HV (σ 1)) → (0 ≤ a3.toInt) → (a3.toInt ≤ 5) → (a4.toInt = 10 * (σ 1 0).toInt) → (0 ≤ a5.toInt) → (6 - a5.toInt).toNat < N106 → ∀ {H : Heap} {locs : List Loc}, KK g s → WC g (mW g) A s.heap σ H locs → ∀ {ls : Array Slot}, lv_has ls 7 [(0, .ref (g.2.2 100)), (2, .int (a2)), (3, .int (a3)), (4, .int (a4)), (5, .int (a5))] → K106 σ a2 a3 a4 a5 = tgt → W p l e { frames := 3, cells := 0, slots := 0, locals := 79 } s m args below meth c H locs 0 0 (QMI below args s g (mW g) A tgt) (F0 m 106 ls [])) {σ : St} {a2 : Int32} {a3 : Int32} {a4 : Int32} {a5 : Int32} {H : Heap} {locs : List Loc} (hI : IB (σ 1)) (hV : HV (σ 1)) (h3 : 0 ≤ a3.toInt) (h3b : a3.toInt ≤ 5) (h4 : a4.toInt = 10 * (σ 1 0).toInt) (h5 : 0 ≤ a5.toInt) (hm : (6 - a5.toInt).toNat < N106 + 1) (hK : KK g s) (hC : WC g (mW g) A s.heap σ H locs) {ls : Array Slot} (hl : lv_has ls 7 [(0, .ref (g.2.2 100)), (2, .int (a2)), (3, .int (a3)), (4, .int (a4)), (5, .int (a5))]) (hT : f_X12_twice_106 K106 σ a2 a3 a4 a5 = tgt) : W p l e { frames := 3, cells := 0, slots := 0, locals := 79 } s m args below meth c H locs 0 0 (QMI below args s g (mW g) A tgt) (F0 m 106 ls []) := by
  obtain ⟨hx, hb, hr, hml, hown, hts, hlocks⟩ := id C0
  unfold f_X12_twice_106 at hT
  obtain ⟨⟨i0, i0'⟩, ⟨i1, i1'⟩, ⟨i2, i2'⟩, ⟨i3, i3'⟩, ⟨i4, i4'⟩, ⟨i5, i5'⟩, ⟨i6, i6'⟩, ⟨i7, i7'⟩, ⟨i8, i8'⟩, iK, iV, iL, iR, iW, iY, iG, iM, iB, iQ, iP, iT, iU⟩ := id hI
  refine lv_iload hx hb dX12_twice_106 (lv_at hl 4 rfl) ?_
  refine lv_bipush (v := (6 : Int32)) hx hb dX12_twice_108 (by decide) ?_
  refine lv_icmp_ge (tgt := 128) hx hb dX12_twice_110 (by decide) (fun c_110 => ?_) (fun c_110 => ?_)
  · have hT := hT_pos c_110 hT
    refine lv_iconst (v := (0 : Int32)) hx hb dX12_twice_128 (by decide) ?_
    refine lv_istore (lv' := [(5, .int ((0 : Int32))), (0, .ref (g.2.2 100)), (2, .int (a2)), (3, .int (a3)), (4, .int (a4))]) hx hb dX12_twice_129 hl (by decide) rfl (fun ls hl => ?_)
    have j129_h5 : 0 ≤ (0 : Int32).toInt := by
      have : ((6 : Int32)).toInt = 6 := by decide
      have : ((0 : Int32)).toInt = 0 := by decide
      have := ti_le.mp c_110
      omega
    have j129_m : (a4.toInt - (0 : Int32).toInt).toNat < 61 := by
      have : ((6 : Int32)).toInt = 6 := by decide
      have : ((0 : Int32)).toInt = 0 := by decide
      have := ti_le.mp c_110
      omega
    exact l_X12_twice_131  C0   (61) σ a2 a3 a4 (0 : Int32) hI hV h3 h3b h4 j129_h5 j129_m hK hC (lv_sub hl [1, 2, 3, 4, 0] rfl) hT
  · have hT := hT_neg c_110 hT
    refine lv_aload_n hx hb dX12_twice_113 rfl (lv_at hl 0 rfl) ?_
    refine m_get (σ := σ) (v := .ref (g.2.2 19)) C0 hK hC.1 19 (by decide) rfl w_986 dX12_twice_114 ?_
    refine lv_iload hx hb dX12_twice_117 (lv_at hl 4 rfl) ?_
    refine lv_bipush (v := (-5 : Int32)) hx hb dX12_twice_119 (by decide) ?_
    have o_121 : vp_in a5 6 := by
      have : ((6 : Int32)).toInt = 6 := by decide
      have := mt ti_le.mpr c_110
      exact vin (by omega) (by omega)
    refine m_ast (σ := σ) C0 hK hC 7 19 6 rfl (ms_19 g _) o_121 (ix a5) rfl dX12_twice_121 (fun H locs hC => ?_)
    refine lv_iinc (v := (a5 + (1 : Int32))) (lv' := [(5, .int ((a5 + (1 : Int32)))), (0, .ref (g.2.2 100)), (2, .int (a2)), (3, .int (a3)), (4, .int (a4))]) hx hb dX12_twice_122 hl (k := 4) rfl rfl (by decide) rfl (fun ls hl => ?_)
    refine lv_goto (tgt := 106) hx hb dX12_twice_125 (by decide) ?_
    have j125_h5 : 0 ≤ (a5 + (1 : Int32)).toInt := by
      have : ((6 : Int32)).toInt = 6 := by decide
      have : ((1 : Int32)).toInt = 1 := by decide
      have := mt ti_le.mpr c_110
      try have := ti_add (a := a5) (b := (1 : Int32)) (by omega) (by omega)
      omega
    have j125_m : (6 - (a5 + (1 : Int32)).toInt).toNat < N106 := by
      have : ((6 : Int32)).toInt = 6 := by decide
      have : ((1 : Int32)).toInt = 1 := by decide
      have := mt ti_le.mpr c_110
      try have := ti_add (a := a5) (b := (1 : Int32)) (by omega) (by omega)
      omega
    exact hK106 (up2 σ 19 (ix a5) (-5 : Int32)) a2 a3 a4 (a5 + (1 : Int32)) hI hV h3 h3b h4 j125_h5 j125_m hK hC (lv_sub hl [1, 2, 3, 4, 0] rfl) hT
def g_X12_twice_106  : Nat → St → Int32 → Int32 → Int32 → Int32 → Int32 × St
  | 0 => fun σ a2 a3 a4 a5 => (0, σ)
  | n + 1 => fun σ a2 a3 a4 a5 => f_X12_twice_106  (g_X12_twice_106  n) σ a2 a3 a4 a5
theorem l_X12_twice_106 {g : GG} {p : Program} {l : Launch} {e : Env} {s : State} {m : MethodId} {args : Array Value} {below : List Frame} {meth : Method} {c : Code} {A : Nat → Prop} {tgt : Int32 × St}  (C0 : BC p s m args meth c cX12_twice RX12 7 (some .int))  : ∀ (n : Nat) (σ : St) (a2 : Int32) (a3 : Int32) (a4 : Int32) (a5 : Int32), (IB (σ 1)) → (HV (σ 1)) → (0 ≤ a3.toInt) → (a3.toInt ≤ 5) → (a4.toInt = 10 * (σ 1 0).toInt) → (0 ≤ a5.toInt) → (6 - a5.toInt).toNat < n → ∀ {H : Heap} {locs : List Loc}, KK g s → WC g (mW g) A s.heap σ H locs → ∀ {ls : Array Slot}, lv_has ls 7 [(0, .ref (g.2.2 100)), (2, .int (a2)), (3, .int (a3)), (4, .int (a4)), (5, .int (a5))] → g_X12_twice_106  n σ a2 a3 a4 a5 = tgt → W p l e { frames := 3, cells := 0, slots := 0, locals := 79 } s m args below meth c H locs 0 0 (QMI below args s g (mW g) A tgt) (F0 m 106 ls []) := by
  intro n
  induction n with
  | zero => intro σ a2 a3 a4 a5 hI hV h3 h3b h4 h5 hm; exact absurd hm (Nat.not_lt_zero _)
  | succ n ih =>
    intro σ a2 a3 a4 a5 hI hV h3 h3b h4 h5 hm H locs hK hC ls hl hT
    exact b_X12_twice_106  (K106 := g_X12_twice_106  n) (N106 := n) C0  (fun σ a2 a3 a4 a5 hI hV h3 h3b h4 h5 hm2 => ih σ a2 a3 a4 a5 hI hV h3 h3b h4 h5 hm2) hI hV h3 h3b h4 h5 hm hK hC hl hT
def f_X12_twice_47 (K47 : St → Int32 → Int32 → Int32 → Int32 → Int32 → Int32 × St) (σ : St) (a1 : Int32) (a2 : Int32) (a3 : Int32) (a4 : Int32) (a5 : Int32) : Int32 × St := (if a4 ≤ a5 then (g_X12_twice_106  (7) σ a2 a3 a4 (0 : Int32)) else (bd1 (f_X12_sets σ (a5 / (10 : Int32)) a1 (a5 - a5 / (10 : Int32) * (10 : Int32))) (fun u66 => (K47 (up2 (up2 u66 17 (ix a5) (u66 13 0)) 18 (ix a5) ((u66 14 0) * (a5 - a5 / (10 : Int32) * (10 : Int32)))) a1 a2 a3 a4 (a5 + (1 : Int32))))))
set_option maxHeartbeats 600000 in
set_option maxRecDepth 100000 in
theorem b_X12_twice_47 {g : GG} {p : Program} {l : Launch} {e : Env} {s : State} {m : MethodId} {args : Array Value} {below : List Frame} {meth : Method} {c : Code} {A : Nat → Prop} {tgt : Int32 × St} {K47 : St → Int32 → Int32 → Int32 → Int32 → Int32 → Int32 × St} {N47 : Nat} (C0 : BC p s m args meth c cX12_twice RX12 7 (some .int)) (hK47 : ∀ (σ : St) (a1 : Int32) (a2 : Int32) (a3 : Int32) (a4 : Int32) (a5 : Int32), (IB (σ 1)) → (HV (σ 1)) → (0 ≤ a3.toInt) → (a3.toInt ≤ 5) → (a4.toInt = 10 * (σ 1 0).toInt) → (0 ≤ a5.toInt) → (a4.toInt - a5.toInt).toNat < N47 → ∀ {H : Heap} {locs : List Loc}, KK g s → WC g (mW g) A s.heap σ H locs → ∀ {ls : Array Slot}, lv_has ls 7 [(0, .ref (g.2.2 100)), (1, .int (a1)), (2, .int (a2)), (3, .int (a3)), (4, .int (a4)), (5, .int (a5))] → K47 σ a1 a2 a3 a4 a5 = tgt → W p l e { frames := 3, cells := 0, slots := 0, locals := 79 } s m args below meth c H locs 0 0 (QMI below args s g (mW g) A tgt) (F0 m 47 ls [])) {σ : St} {a1 : Int32} {a2 : Int32} {a3 : Int32} {a4 : Int32} {a5 : Int32} {H : Heap} {locs : List Loc} (hI : IB (σ 1)) (hV : HV (σ 1)) (h3 : 0 ≤ a3.toInt) (h3b : a3.toInt ≤ 5) (h4 : a4.toInt = 10 * (σ 1 0).toInt) (h5 : 0 ≤ a5.toInt) (hm : (a4.toInt - a5.toInt).toNat < N47 + 1) (hK : KK g s) (hC : WC g (mW g) A s.heap σ H locs) {ls : Array Slot} (hl : lv_has ls 7 [(0, .ref (g.2.2 100)), (1, .int (a1)), (2, .int (a2)), (3, .int (a3)), (4, .int (a4)), (5, .int (a5))]) (hT : f_X12_twice_47 K47 σ a1 a2 a3 a4 a5 = tgt) : W p l e { frames := 3, cells := 0, slots := 0, locals := 79 } s m args below meth c H locs 0 0 (QMI below args s g (mW g) A tgt) (F0 m 47 ls []) := by
  obtain ⟨hx, hb, hr, hml, hown, hts, hlocks⟩ := id C0
  unfold f_X12_twice_47 at hT
  obtain ⟨⟨i0, i0'⟩, ⟨i1, i1'⟩, ⟨i2, i2'⟩, ⟨i3, i3'⟩, ⟨i4, i4'⟩, ⟨i5, i5'⟩, ⟨i6, i6'⟩, ⟨i7, i7'⟩, ⟨i8, i8'⟩, iK, iV, iL, iR, iW, iY, iG, iM, iB, iQ, iP, iT, iU⟩ := id hI
  refine lv_iload hx hb dX12_twice_47 (lv_at hl 5 rfl) ?_
  refine lv_iload hx hb dX12_twice_49 (lv_at hl 4 rfl) ?_
  refine lv_icmp_ge (tgt := 103) hx hb dX12_twice_51 (by decide) (fun c_51 => ?_) (fun c_51 => ?_)
  · have hT := hT_pos c_51 hT
    refine lv_iconst (v := (0 : Int32)) hx hb dX12_twice_103 (by decide) ?_
    refine lv_istore (lv' := [(5, .int ((0 : Int32))), (0, .ref (g.2.2 100)), (1, .int (a1)), (2, .int (a2)), (3, .int (a3)), (4, .int (a4))]) hx hb dX12_twice_104 hl (by decide) rfl (fun ls hl => ?_)
    have j104_h5 : 0 ≤ (0 : Int32).toInt := by
      have : ((0 : Int32)).toInt = 0 := by decide
      have := ti_le.mp c_51
      omega
    have j104_m : (6 - (0 : Int32).toInt).toNat < 7 := by
      have : ((0 : Int32)).toInt = 0 := by decide
      have := ti_le.mp c_51
      omega
    exact l_X12_twice_106  C0   (7) σ a2 a3 a4 (0 : Int32) hI hV h3 h3b h4 j104_h5 j104_m hK hC (lv_sub hl [1, 3, 4, 5, 0] rfl) hT
  · have hT := hT_neg c_51 hT
    refine lv_aload_n hx hb dX12_twice_54 rfl (lv_at hl 0 rfl) ?_
    refine lv_iload hx hb dX12_twice_55 (lv_at hl 5 rfl) ?_
    refine lv_bipush (v := (10 : Int32)) hx hb dX12_twice_57 (by decide) ?_
    refine lv_idiv hx hb dX12_twice_59 (by decide) ?_
    refine lv_iload_n hx hb dX12_twice_60 rfl (lv_at hl 1 rfl) ?_
    refine lv_iload hx hb dX12_twice_61 (lv_at hl 5 rfl) ?_
    refine lv_bipush (v := (10 : Int32)) hx hb dX12_twice_63 (by decide) ?_
    refine lv_irem hx hb dX12_twice_65 (by decide) ?_
    have q66_h1 : 0 ≤ (a5 / (10 : Int32)).toInt := by
      have := mt ti_le.mpr c_51
      try have := div_b (a := a5) (b := (10 : Int32)) (n := 10) (by decide) (by omega) (by omega)
      try have := rem_b (a := a5) (b := (10 : Int32)) (n := 10) (by decide) (by omega) (by omega)
      omega
    have q66_h1b : (a5 / (10 : Int32)).toInt < 6 := by
      have := mt ti_le.mpr c_51
      try have := div_b (a := a5) (b := (10 : Int32)) (n := 10) (by decide) (by omega) (by omega)
      try have := rem_b (a := a5) (b := (10 : Int32)) (n := 10) (by decide) (by omega) (by omega)
      omega
    have q66_h3 : 0 ≤ (a5 - a5 / (10 : Int32) * (10 : Int32)).toInt := by
      have := mt ti_le.mpr c_51
      try have := div_b (a := a5) (b := (10 : Int32)) (n := 10) (by decide) (by omega) (by omega)
      try have := rem_b (a := a5) (b := (10 : Int32)) (n := 10) (by decide) (by omega) (by omega)
      omega
    refine m_mv (rest := []) (As := [.int ((a5 / (10 : Int32))), .int (a1), .int ((a5 - a5 / (10 : Int32) * (10 : Int32)))]) (σ := σ) C0 hK hC SV.tt (fun _ _ _ => trivial) cf_X12_sets w_1171 rfl (k_X12_sets l g σ (a5 / (10 : Int32)) a1 (a5 - a5 / (10 : Int32) * (10 : Int32)) hI hV q66_h1 q66_h1b q66_h3) ⟨by decide, by decide⟩ hl.1 rfl rfl (Nat.le_of_ble_eq_true rfl) dX12_twice_66 ⟨Nat.zero_le _, Nat.zero_le _⟩ (fun u66 H locs e66 hC => ?_)
    have hT := bd1_e e66 hT
    have z66 : u66 1 = σ 1 := by
      rw [e66]
      exact sets_1 _ _ _ _
    refine lv_aload_n hx hb dX12_twice_69 rfl (lv_at hl 0 rfl) ?_
    refine m_get (σ := u66) (v := .ref (g.2.2 17)) C0 hK hC.1 17 (by decide) rfl w_984 dX12_twice_70 ?_
    refine lv_iload hx hb dX12_twice_73 (lv_at hl 5 rfl) ?_
    refine lv_aload_n hx hb dX12_twice_75 rfl (lv_at hl 0 rfl) ?_
    refine m_get (σ := u66) (v := .int ((u66 13 0))) C0 hK hC.1 13 (by decide) rfl w_980 dX12_twice_76 ?_
    have o_79 : vp_in a5 60 := by
      have := mt ti_le.mpr c_51
      exact vin (by omega) (by omega)
    refine m_ast (σ := u66) C0 hK hC 5 17 60 rfl (ms_17 g _) o_79 (ix a5) rfl dX12_twice_79 (fun H locs hC => ?_)
    refine lv_aload_n hx hb dX12_twice_80 rfl (lv_at hl 0 rfl) ?_
    refine m_get (σ := (up2 u66 17 (ix a5) (u66 13 0))) (v := .ref (g.2.2 18)) C0 hK hC.1 18 (by decide) rfl w_985 dX12_twice_81 ?_
    refine lv_iload hx hb dX12_twice_84 (lv_at hl 5 rfl) ?_
    refine lv_aload_n hx hb dX12_twice_86 rfl (lv_at hl 0 rfl) ?_
    refine m_get (σ := (up2 u66 17 (ix a5) (u66 13 0))) (v := .int ((u66 14 0))) C0 hK hC.1 14 (by decide) rfl w_981 dX12_twice_87 ?_
    refine lv_iload hx hb dX12_twice_90 (lv_at hl 5 rfl) ?_
    refine lv_bipush (v := (10 : Int32)) hx hb dX12_twice_92 (by decide) ?_
    refine lv_irem hx hb dX12_twice_94 (by decide) ?_
    refine lv_imul hx hb dX12_twice_95 ?_
    have o_96 : vp_in a5 60 := by
      have := mt ti_le.mpr c_51
      exact vin (by omega) (by omega)
    refine m_ast (σ := (up2 u66 17 (ix a5) (u66 13 0))) C0 hK hC 6 18 60 rfl (ms_18 g _) o_96 (ix a5) rfl dX12_twice_96 (fun H locs hC => ?_)
    refine lv_iinc (v := (a5 + (1 : Int32))) (lv' := [(5, .int ((a5 + (1 : Int32)))), (0, .ref (g.2.2 100)), (1, .int (a1)), (2, .int (a2)), (3, .int (a3)), (4, .int (a4))]) hx hb dX12_twice_97 hl (k := 5) rfl rfl (by decide) rfl (fun ls hl => ?_)
    refine lv_goto (tgt := 47) hx hb dX12_twice_100 (by decide) ?_
    have j100_hI : IB (u66 1) := by
      rw [z66]
      exact hI
    have j100_hV : HV (u66 1) := by
      rw [z66]
      exact hV
    have j100_h4 : a4.toInt = 10 * (u66 1 0).toInt := by
      rw [z66]
      exact h4
    have j100_h5 : 0 ≤ (a5 + (1 : Int32)).toInt := by
      have : ((1 : Int32)).toInt = 1 := by decide
      have := mt ti_le.mpr c_51
      try have := ti_add (a := a5) (b := (1 : Int32)) (by omega) (by omega)
      omega
    have j100_m : (a4.toInt - (a5 + (1 : Int32)).toInt).toNat < N47 := by
      have : ((1 : Int32)).toInt = 1 := by decide
      have := mt ti_le.mpr c_51
      try have := ti_add (a := a5) (b := (1 : Int32)) (by omega) (by omega)
      omega
    exact hK47 (up2 (up2 u66 17 (ix a5) (u66 13 0)) 18 (ix a5) ((u66 14 0) * (a5 - a5 / (10 : Int32) * (10 : Int32)))) a1 a2 a3 a4 (a5 + (1 : Int32)) j100_hI j100_hV h3 h3b j100_h4 j100_h5 j100_m hK hC (lv_sub hl [1, 2, 3, 4, 5, 0] rfl) hT
def g_X12_twice_47  : Nat → St → Int32 → Int32 → Int32 → Int32 → Int32 → Int32 × St
  | 0 => fun σ a1 a2 a3 a4 a5 => (0, σ)
  | n + 1 => fun σ a1 a2 a3 a4 a5 => f_X12_twice_47  (g_X12_twice_47  n) σ a1 a2 a3 a4 a5
theorem l_X12_twice_47 {g : GG} {p : Program} {l : Launch} {e : Env} {s : State} {m : MethodId} {args : Array Value} {below : List Frame} {meth : Method} {c : Code} {A : Nat → Prop} {tgt : Int32 × St}  (C0 : BC p s m args meth c cX12_twice RX12 7 (some .int))  : ∀ (n : Nat) (σ : St) (a1 : Int32) (a2 : Int32) (a3 : Int32) (a4 : Int32) (a5 : Int32), (IB (σ 1)) → (HV (σ 1)) → (0 ≤ a3.toInt) → (a3.toInt ≤ 5) → (a4.toInt = 10 * (σ 1 0).toInt) → (0 ≤ a5.toInt) → (a4.toInt - a5.toInt).toNat < n → ∀ {H : Heap} {locs : List Loc}, KK g s → WC g (mW g) A s.heap σ H locs → ∀ {ls : Array Slot}, lv_has ls 7 [(0, .ref (g.2.2 100)), (1, .int (a1)), (2, .int (a2)), (3, .int (a3)), (4, .int (a4)), (5, .int (a5))] → g_X12_twice_47  n σ a1 a2 a3 a4 a5 = tgt → W p l e { frames := 3, cells := 0, slots := 0, locals := 79 } s m args below meth c H locs 0 0 (QMI below args s g (mW g) A tgt) (F0 m 47 ls []) := by
  intro n
  induction n with
  | zero => intro σ a1 a2 a3 a4 a5 hI hV h3 h3b h4 h5 hm; exact absurd hm (Nat.not_lt_zero _)
  | succ n ih =>
    intro σ a1 a2 a3 a4 a5 hI hV h3 h3b h4 h5 hm H locs hK hC ls hl hT
    exact b_X12_twice_47  (K47 := g_X12_twice_47  n) (N47 := n) C0  (fun σ a1 a2 a3 a4 a5 hI hV h3 h3b h4 h5 hm2 => ih σ a1 a2 a3 a4 a5 hI hV h3 h3b h4 h5 hm2) hI hV h3 h3b h4 h5 hm hK hC hl hT
def f_X12_twice (σ : St) (a1 : Int32) (a2 : Int32) (a3 : Int32) : Int32 × St := (if (f_X12_isWall σ a1) = 0 then ((-1 : Int32), σ) else (if (f_X12_in a3 (0 : Int32) (5 : Int32)) = 0 then ((-1 : Int32), σ) else (if (f_X12_in a2 (1 : Int32) (999 : Int32)) = 0 then ((-2 : Int32), σ) else (g_X12_twice_47  (61) σ a1 a2 a3 ((10 : Int32) * (σ 1 0)) (0 : Int32)))))
set_option maxHeartbeats 600000 in
set_option maxRecDepth 100000 in
theorem k_X12_twice (l : Launch) (g : GG) (σ : St) (a1 : Int32) (a2 : Int32) (a3 : Int32) (hI : IB (σ 1)) (hV : HV (σ 1)) : MI l yX12_twice (wsF yX12_twice cX12_twice 7 (some .int)) { frames := 3, cells := 0, slots := 0, locals := 79 } [.ref (g.2.2 100), .int (a1), .int (a2), .int (a3)] g (mW g) (fun _ => True) σ (f_X12_twice σ a1 a2 a3) := by
  refine start_MI (by decide) (Nat.le_of_ble_eq_true rfl) ?_
  intro p e s m args below meth c C0 hK hBg hC ls hl
  generalize hAe : aA ((mW g) σ) = A at hC ⊢
  obtain ⟨hx, hb, hr, hml, hown, hts, hlocks⟩ := id C0
  have hl : lv_has ls 7 [(0, .ref (g.2.2 100)), (1, .int (a1)), (2, .int (a2)), (3, .int (a3))] := hl
  generalize hT : (f_X12_twice σ a1 a2 a3) = tgt
  suffices key : ∀ (H : Heap) (locs : List Loc), WC g (mW g) A s.heap σ H locs → W p l e { frames := 3, cells := 0, slots := 0, locals := 79 } s m args below meth c H locs 0 0 (QMI below args s g (mW g) A tgt) (F0 m 0 ls []) from key _ _ hC
  intro H locs hC
  unfold f_X12_twice at hT
  obtain ⟨⟨i0, i0'⟩, ⟨i1, i1'⟩, ⟨i2, i2'⟩, ⟨i3, i3'⟩, ⟨i4, i4'⟩, ⟨i5, i5'⟩, ⟨i6, i6'⟩, ⟨i7, i7'⟩, ⟨i8, i8'⟩, iK, iV, iL, iR, iW, iY, iG, iM, iB, iQ, iP, iT, iU⟩ := id hI
  refine lv_aload_n hx hb dX12_twice_0 rfl (lv_at hl 0 rfl) ?_
  refine lv_iload_n hx hb dX12_twice_1 rfl (lv_at hl 1 rfl) ?_
  refine m_ci (rest := []) (As := [.int (a1)]) (σ := σ) C0 hK hC.1 (hC.2.1.weaken (fun _ _ _ _ => trivial)) SV.tt (fun _ _ _ => trivial) cf_X12_isWall w_1147 rfl (k_X12_isWall l g σ a1 ) ⟨by decide, by decide⟩ hl.1 rfl rfl (Nat.le_of_ble_eq_true rfl) dX12_twice_2 ⟨Nat.zero_le _, Nat.zero_le _⟩ ?_
  refine lv_if_eq (tgt := 17) hx hb dX12_twice_5 (by decide) (fun c_5 => ?_) (fun c_5 => ?_)
  · have hT := hT_pos c_5 hT
    refine lv_iconst (v := (-1 : Int32)) hx hb dX12_twice_17 (by decide) ?_
    exact ret_MI C0 hC hT dX12_twice_18
  · have hT := hT_neg c_5 hT
    refine lv_iload_n hx hb dX12_twice_8 rfl (lv_at hl 3 rfl) ?_
    refine lv_iconst (v := (0 : Int32)) hx hb dX12_twice_9 (by decide) ?_
    refine lv_iconst (v := (5 : Int32)) hx hb dX12_twice_10 (by decide) ?_
    refine s_ci (rest := []) (As := [.int (a3), .int ((0 : Int32)), .int ((5 : Int32))]) C0 cf_X12_in w_1060 (k_X12_in l a3 (0 : Int32) (5 : Int32) ) ⟨by decide, by decide⟩ hl.1 rfl rfl (Nat.le_of_ble_eq_true rfl) dX12_twice_11 ⟨Nat.zero_le _, Nat.zero_le _⟩ ?_
    refine lv_if_ne (tgt := 19) hx hb dX12_twice_14 (by decide) (fun c_14 => ?_) (fun c_14 => ?_)
    · have hT := hT_neg c_14 hT
      refine lv_iload_n hx hb dX12_twice_19 rfl (lv_at hl 2 rfl) ?_
      refine lv_iconst (v := (1 : Int32)) hx hb dX12_twice_20 (by decide) ?_
      refine lv_sipush (v := (999 : Int32)) hx hb dX12_twice_21 (by decide) ?_
      refine s_ci (rest := []) (As := [.int (a2), .int ((1 : Int32)), .int ((999 : Int32))]) C0 cf_X12_in w_1060 (k_X12_in l a2 (1 : Int32) (999 : Int32) ) ⟨by decide, by decide⟩ hl.1 rfl rfl (Nat.le_of_ble_eq_true rfl) dX12_twice_24 ⟨Nat.zero_le _, Nat.zero_le _⟩ ?_
      refine lv_if_ne (tgt := 33) hx hb dX12_twice_27 (by decide) (fun c_27 => ?_) (fun c_27 => ?_)
      · have hT := hT_neg c_27 hT
        refine lv_bipush (v := (10 : Int32)) hx hb dX12_twice_33 (by decide) ?_
        refine lv_aload_n hx hb dX12_twice_35 rfl (lv_at hl 0 rfl) ?_
        refine m_get (σ := σ) (v := .ref (g.2.2 1)) C0 hK hC.1 1 (by decide) rfl w_968 dX12_twice_36 ?_
        refine lv_iconst (v := (0 : Int32)) hx hb dX12_twice_39 (by decide) ?_
        refine m_ald (σ := σ) C0 hK hC.1 1 1 916 rfl (vin_l (by decide)) 0 (by decide) dX12_twice_40 ?_
        refine lv_imul hx hb dX12_twice_41 ?_
        refine lv_istore (lv' := [(4, .int (((10 : Int32) * (σ 1 0)))), (0, .ref (g.2.2 100)), (1, .int (a1)), (2, .int (a2)), (3, .int (a3))]) hx hb dX12_twice_42 hl (by decide) rfl (fun ls hl => ?_)
        refine lv_iconst (v := (0 : Int32)) hx hb dX12_twice_44 (by decide) ?_
        refine lv_istore (lv' := [(5, .int ((0 : Int32))), (4, .int (((10 : Int32) * (σ 1 0)))), (0, .ref (g.2.2 100)), (1, .int (a1)), (2, .int (a2)), (3, .int (a3))]) hx hb dX12_twice_45 hl (by decide) rfl (fun ls hl => ?_)
        have j45_h3 : 0 ≤ a3.toInt := by
          have : ((0 : Int32)).toInt = 0 := by decide
          have : ((5 : Int32)).toInt = 5 := by decide
          have : ((1 : Int32)).toInt = 1 := by decide
          have : ((999 : Int32)).toInt = 999 := by decide
          have : ((10 : Int32)).toInt = 10 := by decide
          have := isWall_ne hI.2.1.1 c_5
          have := in_ne c_14
          have := in_ne c_27
          try have := ti_mulR (a := (10 : Int32)) (b := (σ 1 0)) (n := 10) (by decide) (by omega) (by omega)
          omega
        have j45_h3b : a3.toInt ≤ 5 := by
          have : ((0 : Int32)).toInt = 0 := by decide
          have : ((5 : Int32)).toInt = 5 := by decide
          have : ((1 : Int32)).toInt = 1 := by decide
          have : ((999 : Int32)).toInt = 999 := by decide
          have : ((10 : Int32)).toInt = 10 := by decide
          have := isWall_ne hI.2.1.1 c_5
          have := in_ne c_14
          have := in_ne c_27
          try have := ti_mulR (a := (10 : Int32)) (b := (σ 1 0)) (n := 10) (by decide) (by omega) (by omega)
          omega
        have j45_h4 : ((10 : Int32) * (σ 1 0)).toInt = 10 * (σ 1 0).toInt := by
          have : ((0 : Int32)).toInt = 0 := by decide
          have : ((5 : Int32)).toInt = 5 := by decide
          have : ((1 : Int32)).toInt = 1 := by decide
          have : ((999 : Int32)).toInt = 999 := by decide
          have : ((10 : Int32)).toInt = 10 := by decide
          have := isWall_ne hI.2.1.1 c_5
          have := in_ne c_14
          have := in_ne c_27
          try have := ti_mulR (a := (10 : Int32)) (b := (σ 1 0)) (n := 10) (by decide) (by omega) (by omega)
          omega
        have j45_h5 : 0 ≤ (0 : Int32).toInt := by
          have : ((0 : Int32)).toInt = 0 := by decide
          have : ((5 : Int32)).toInt = 5 := by decide
          have : ((1 : Int32)).toInt = 1 := by decide
          have : ((999 : Int32)).toInt = 999 := by decide
          have : ((10 : Int32)).toInt = 10 := by decide
          have := isWall_ne hI.2.1.1 c_5
          have := in_ne c_14
          have := in_ne c_27
          try have := ti_mulR (a := (10 : Int32)) (b := (σ 1 0)) (n := 10) (by decide) (by omega) (by omega)
          omega
        have j45_m : (((10 : Int32) * (σ 1 0)).toInt - (0 : Int32).toInt).toNat < 61 := by
          have : ((0 : Int32)).toInt = 0 := by decide
          have : ((5 : Int32)).toInt = 5 := by decide
          have : ((1 : Int32)).toInt = 1 := by decide
          have : ((999 : Int32)).toInt = 999 := by decide
          have : ((10 : Int32)).toInt = 10 := by decide
          have := isWall_ne hI.2.1.1 c_5
          have := in_ne c_14
          have := in_ne c_27
          try have := ti_mulR (a := (10 : Int32)) (b := (σ 1 0)) (n := 10) (by decide) (by omega) (by omega)
          omega
        exact l_X12_twice_47  C0   (61) σ a1 a2 a3 ((10 : Int32) * (σ 1 0)) (0 : Int32) hI hV j45_h3 j45_h3b j45_h4 j45_h5 j45_m hK hC (lv_sub hl [2, 3, 4, 5, 1, 0] rfl) hT
      · have hT := hT_pos c_27 hT
        refine lv_bipush (v := (-2 : Int32)) hx hb dX12_twice_30 (by decide) ?_
        exact ret_MI C0 hC hT dX12_twice_32
    · have hT := hT_pos c_14 hT
      refine lv_iconst (v := (-1 : Int32)) hx hb dX12_twice_17 (by decide) ?_
      exact ret_MI C0 hC hT dX12_twice_18
set_option maxRecDepth 20000 in
theorem w_1205 : (Cond.constant RX12 179 (10000000 : Int32)) ∈ TB := inTB (List.mem_of_getElem? (i := 1205) (by decide +kernel)) (by decide +kernel)
/-! ThreeMeasuresModel.again -/
theorem dX12_again_0 : decode cX12_again 0 = .ok (.aload_n 0, 1) := by decide +kernel
theorem dX12_again_1 : decode cX12_again 1 = .ok (.iload_n 1, 1) := by decide +kernel
theorem dX12_again_2 : decode cX12_again 2 = .ok (.invokevirtual 165, 3) := by decide +kernel
theorem dX12_again_5 : decode cX12_again 5 = .ok (.ifCond .eq 11, 3) := by decide +kernel
theorem dX12_again_8 : decode cX12_again 8 = .ok (.aload_n 0, 1) := by decide +kernel
theorem dX12_again_9 : decode cX12_again 9 = .ok (.iload_n 2, 1) := by decide +kernel
theorem dX12_again_10 : decode cX12_again 10 = .ok (.invokevirtual 161, 3) := by decide +kernel
theorem dX12_again_13 : decode cX12_again 13 = .ok (.ifCond .ne 5, 3) := by decide +kernel
theorem dX12_again_16 : decode cX12_again 16 = .ok (.iconst (-1), 1) := by decide +kernel
theorem dX12_again_17 : decode cX12_again 17 = .ok (.ireturn, 1) := by decide +kernel
theorem dX12_again_18 : decode cX12_again 18 = .ok (.iload_n 3, 1) := by decide +kernel
theorem dX12_again_19 : decode cX12_again 19 = .ok (.iconst 0, 1) := by decide +kernel
theorem dX12_again_20 : decode cX12_again 20 = .ok (.sipush 999, 3) := by decide +kernel
theorem dX12_again_23 : decode cX12_again 23 = .ok (.invokestatic 47, 3) := by decide +kernel
theorem dX12_again_26 : decode cX12_again 26 = .ok (.ifCond .ne 6, 3) := by decide +kernel
theorem dX12_again_29 : decode cX12_again 29 = .ok (.bipush (-2), 2) := by decide +kernel
theorem dX12_again_31 : decode cX12_again 31 = .ok (.ireturn, 1) := by decide +kernel
theorem dX12_again_32 : decode cX12_again 32 = .ok (.ldc 179, 2) := by decide +kernel
theorem dX12_again_34 : decode cX12_again 34 = .ok (.istore 4, 2) := by decide +kernel
theorem dX12_again_36 : decode cX12_again 36 = .ok (.iconst 0, 1) := by decide +kernel
theorem dX12_again_37 : decode cX12_again 37 = .ok (.istore 5, 2) := by decide +kernel
theorem dX12_again_39 : decode cX12_again 39 = .ok (.iconst 0, 1) := by decide +kernel
theorem dX12_again_40 : decode cX12_again 40 = .ok (.istore 6, 2) := by decide +kernel
theorem dX12_again_42 : decode cX12_again 42 = .ok (.iload 6, 2) := by decide +kernel
theorem dX12_again_44 : decode cX12_again 44 = .ok (.bipush 30, 2) := by decide +kernel
theorem dX12_again_46 : decode cX12_again 46 = .ok (.if_icmp .gt 103, 3) := by decide +kernel
theorem dX12_again_49 : decode cX12_again 49 = .ok (.aload_n 0, 1) := by decide +kernel
theorem dX12_again_50 : decode cX12_again 50 = .ok (.iload_n 2, 1) := by decide +kernel
theorem dX12_again_51 : decode cX12_again 51 = .ok (.iload_n 1, 1) := by decide +kernel
theorem dX12_again_52 : decode cX12_again 52 = .ok (.iload 6, 2) := by decide +kernel
theorem dX12_again_54 : decode cX12_again 54 = .ok (.invokevirtual 172, 3) := by decide +kernel
theorem dX12_again_57 : decode cX12_again 57 = .ok (.aload_n 0, 1) := by decide +kernel
theorem dX12_again_58 : decode cX12_again 58 = .ok (.getfield 143, 3) := by decide +kernel
theorem dX12_again_61 : decode cX12_again 61 = .ok (.aload_n 0, 1) := by decide +kernel
theorem dX12_again_62 : decode cX12_again 62 = .ok (.getfield 9, 3) := by decide +kernel
theorem dX12_again_65 : decode cX12_again 65 = .ok (.bipush 51, 2) := by decide +kernel
theorem dX12_again_67 : decode cX12_again 67 = .ok (.iload_n 1, 1) := by decide +kernel
theorem dX12_again_68 : decode cX12_again 68 = .ok (.iadd, 1) := by decide +kernel
theorem dX12_again_69 : decode cX12_again 69 = .ok (.iaload, 1) := by decide +kernel
theorem dX12_again_70 : decode cX12_again 70 = .ok (.if_icmp .ge 20, 3) := by decide +kernel
theorem dX12_again_73 : decode cX12_again 73 = .ok (.aload_n 0, 1) := by decide +kernel
theorem dX12_again_74 : decode cX12_again 74 = .ok (.getfield 9, 3) := by decide +kernel
theorem dX12_again_77 : decode cX12_again 77 = .ok (.bipush 51, 2) := by decide +kernel
theorem dX12_again_79 : decode cX12_again 79 = .ok (.iload_n 1, 1) := by decide +kernel
theorem dX12_again_80 : decode cX12_again 80 = .ok (.iadd, 1) := by decide +kernel
theorem dX12_again_81 : decode cX12_again 81 = .ok (.iaload, 1) := by decide +kernel
theorem dX12_again_82 : decode cX12_again 82 = .ok (.aload_n 0, 1) := by decide +kernel
theorem dX12_again_83 : decode cX12_again 83 = .ok (.getfield 143, 3) := by decide +kernel
theorem dX12_again_86 : decode cX12_again 86 = .ok (.isub, 1) := by decide +kernel
theorem dX12_again_87 : decode cX12_again 87 = .ok (.goto 17, 3) := by decide +kernel
theorem dX12_again_90 : decode cX12_again 90 = .ok (.aload_n 0, 1) := by decide +kernel
theorem dX12_again_91 : decode cX12_again 91 = .ok (.getfield 143, 3) := by decide +kernel
theorem dX12_again_94 : decode cX12_again 94 = .ok (.aload_n 0, 1) := by decide +kernel
theorem dX12_again_95 : decode cX12_again 95 = .ok (.getfield 9, 3) := by decide +kernel
theorem dX12_again_98 : decode cX12_again 98 = .ok (.bipush 51, 2) := by decide +kernel
theorem dX12_again_100 : decode cX12_again 100 = .ok (.iload_n 1, 1) := by decide +kernel
theorem dX12_again_101 : decode cX12_again 101 = .ok (.iadd, 1) := by decide +kernel
theorem dX12_again_102 : decode cX12_again 102 = .ok (.iaload, 1) := by decide +kernel
theorem dX12_again_103 : decode cX12_again 103 = .ok (.isub, 1) := by decide +kernel
theorem dX12_again_104 : decode cX12_again 104 = .ok (.istore 7, 2) := by decide +kernel
theorem dX12_again_106 : decode cX12_again 106 = .ok (.iload 7, 2) := by decide +kernel
theorem dX12_again_108 : decode cX12_again 108 = .ok (.iload 4, 2) := by decide +kernel
theorem dX12_again_110 : decode cX12_again 110 = .ok (.if_icmp .ge 13, 3) := by decide +kernel
theorem dX12_again_113 : decode cX12_again 113 = .ok (.iload 6, 2) := by decide +kernel
theorem dX12_again_115 : decode cX12_again 115 = .ok (.aload_n 0, 1) := by decide +kernel
theorem dX12_again_116 : decode cX12_again 116 = .ok (.getfield 146, 3) := by decide +kernel
theorem dX12_again_119 : decode cX12_again 119 = .ok (.imul, 1) := by decide +kernel
theorem dX12_again_120 : decode cX12_again 120 = .ok (.goto 5, 3) := by decide +kernel
theorem dX12_again_123 : decode cX12_again 123 = .ok (.iload 5, 2) := by decide +kernel
theorem dX12_again_125 : decode cX12_again 125 = .ok (.istore 5, 2) := by decide +kernel
theorem dX12_again_127 : decode cX12_again 127 = .ok (.iload 7, 2) := by decide +kernel
theorem dX12_again_129 : decode cX12_again 129 = .ok (.iload 4, 2) := by decide +kernel
theorem dX12_again_131 : decode cX12_again 131 = .ok (.if_icmp .ge 8, 3) := by decide +kernel
theorem dX12_again_134 : decode cX12_again 134 = .ok (.iload 7, 2) := by decide +kernel
theorem dX12_again_136 : decode cX12_again 136 = .ok (.goto 5, 3) := by decide +kernel
theorem dX12_again_139 : decode cX12_again 139 = .ok (.iload 4, 2) := by decide +kernel
theorem dX12_again_141 : decode cX12_again 141 = .ok (.istore 4, 2) := by decide +kernel
theorem dX12_again_143 : decode cX12_again 143 = .ok (.iinc 6 1, 3) := by decide +kernel
theorem dX12_again_146 : decode cX12_again 146 = .ok (.goto (-104), 3) := by decide +kernel
theorem dX12_again_149 : decode cX12_again 149 = .ok (.aload_n 0, 1) := by decide +kernel
theorem dX12_again_150 : decode cX12_again 150 = .ok (.iload_n 1, 1) := by decide +kernel
theorem dX12_again_151 : decode cX12_again 151 = .ok (.invokevirtual 168, 3) := by decide +kernel
theorem dX12_again_154 : decode cX12_again 154 = .ok (.istore 6, 2) := by decide +kernel
theorem dX12_again_156 : decode cX12_again 156 = .ok (.iconst 0, 1) := by decide +kernel
theorem dX12_again_157 : decode cX12_again 157 = .ok (.istore 7, 2) := by decide +kernel
theorem dX12_again_159 : decode cX12_again 159 = .ok (.iload 7, 2) := by decide +kernel
theorem dX12_again_161 : decode cX12_again 161 = .ok (.bipush 60, 2) := by decide +kernel
theorem dX12_again_163 : decode cX12_again 163 = .ok (.if_icmp .gt 34, 3) := by decide +kernel
theorem dX12_again_166 : decode cX12_again 166 = .ok (.iload 6, 2) := by decide +kernel
theorem dX12_again_168 : decode cX12_again 168 = .ok (.iload_n 3, 1) := by decide +kernel
theorem dX12_again_169 : decode cX12_again 169 = .ok (.if_icmp .gt 6, 3) := by decide +kernel
theorem dX12_again_172 : decode cX12_again 172 = .ok (.iload 7, 2) := by decide +kernel
theorem dX12_again_174 : decode cX12_again 174 = .ok (.ireturn, 1) := by decide +kernel
theorem dX12_again_175 : decode cX12_again 175 = .ok (.iload 6, 2) := by decide +kernel
theorem dX12_again_177 : decode cX12_again 177 = .ok (.iload 6, 2) := by decide +kernel
theorem dX12_again_179 : decode cX12_again 179 = .ok (.iconst 2, 1) := by decide +kernel
theorem dX12_again_180 : decode cX12_again 180 = .ok (.idiv, 1) := by decide +kernel
theorem dX12_again_181 : decode cX12_again 181 = .ok (.iload 5, 2) := by decide +kernel
theorem dX12_again_183 : decode cX12_again 183 = .ok (.invokestatic 152, 3) := by decide +kernel
theorem dX12_again_186 : decode cX12_again 186 = .ok (.invokestatic 149, 3) := by decide +kernel
theorem dX12_again_189 : decode cX12_again 189 = .ok (.istore 6, 2) := by decide +kernel
theorem dX12_again_191 : decode cX12_again 191 = .ok (.iinc 7 1, 3) := by decide +kernel
theorem dX12_again_194 : decode cX12_again 194 = .ok (.goto (-35), 3) := by decide +kernel
theorem dX12_again_197 : decode cX12_again 197 = .ok (.bipush (-5), 2) := by decide +kernel
theorem dX12_again_199 : decode cX12_again 199 = .ok (.ireturn, 1) := by decide +kernel
def f_X12_again_159 (K159 : St → Int32 → Int32 → Int32 → Int32 → Int32 × St) (σ : St) (a3 : Int32) (a5 : Int32) (a6 : Int32) (a7 : Int32) : Int32 × St := (if (60 : Int32) < a7 then ((-5 : Int32), σ) else (if a3 < a6 then (K159 σ a3 a5 (f_X12_lesser a6 (f_X12_greater (a6 / (2 : Int32)) a5)) (a7 + (1 : Int32))) else (a7, σ)))
set_option maxHeartbeats 600000 in
set_option maxRecDepth 100000 in
theorem b_X12_again_159 {g : GG} {p : Program} {l : Launch} {e : Env} {s : State} {m : MethodId} {args : Array Value} {below : List Frame} {meth : Method} {c : Code} {A : Nat → Prop} {tgt : Int32 × St} {K159 : St → Int32 → Int32 → Int32 → Int32 → Int32 × St} {N159 : Nat} (C0 : BC p s m args meth c cX12_again RX12 8 (some .int)) (hK159 : ∀ (σ : St) (a3 : Int32) (a5 : Int32) (a6 : Int32) (a7 : Int32), (IB (σ 1)) → (HV (σ 1)) → (0 ≤ a7.toInt) → (61 - a7.toInt).toNat < N159 → ∀ {H : Heap} {locs : List Loc}, KK g s → WC g (mW g) A s.heap σ H locs → ∀ {ls : Array Slot}, lv_has ls 8 [(0, .ref (g.2.2 100)), (3, .int (a3)), (5, .int (a5)), (6, .int (a6)), (7, .int (a7))] → K159 σ a3 a5 a6 a7 = tgt → W p l e { frames := 3, cells := 0, slots := 0, locals := 79 } s m args below meth c H locs 0 0 (QMI below args s g (mW g) A tgt) (F0 m 159 ls [])) {σ : St} {a3 : Int32} {a5 : Int32} {a6 : Int32} {a7 : Int32} {H : Heap} {locs : List Loc} (hI : IB (σ 1)) (hV : HV (σ 1)) (h7 : 0 ≤ a7.toInt) (hm : (61 - a7.toInt).toNat < N159 + 1) (hK : KK g s) (hC : WC g (mW g) A s.heap σ H locs) {ls : Array Slot} (hl : lv_has ls 8 [(0, .ref (g.2.2 100)), (3, .int (a3)), (5, .int (a5)), (6, .int (a6)), (7, .int (a7))]) (hT : f_X12_again_159 K159 σ a3 a5 a6 a7 = tgt) : W p l e { frames := 3, cells := 0, slots := 0, locals := 79 } s m args below meth c H locs 0 0 (QMI below args s g (mW g) A tgt) (F0 m 159 ls []) := by
  obtain ⟨hx, hb, hr, hml, hown, hts, hlocks⟩ := id C0
  unfold f_X12_again_159 at hT
  obtain ⟨⟨i0, i0'⟩, ⟨i1, i1'⟩, ⟨i2, i2'⟩, ⟨i3, i3'⟩, ⟨i4, i4'⟩, ⟨i5, i5'⟩, ⟨i6, i6'⟩, ⟨i7, i7'⟩, ⟨i8, i8'⟩, iK, iV, iL, iR, iW, iY, iG, iM, iB, iQ, iP, iT, iU⟩ := id hI
  refine lv_iload hx hb dX12_again_159 (lv_at hl 4 rfl) ?_
  refine lv_bipush (v := (60 : Int32)) hx hb dX12_again_161 (by decide) ?_
  refine lv_icmp_gt (tgt := 197) hx hb dX12_again_163 (by decide) (fun c_163 => ?_) (fun c_163 => ?_)
  · have hT := hT_pos c_163 hT
    refine lv_bipush (v := (-5 : Int32)) hx hb dX12_again_197 (by decide) ?_
    exact ret_MI C0 hC hT dX12_again_199
  · have hT := hT_neg c_163 hT
    refine lv_iload hx hb dX12_again_166 (lv_at hl 3 rfl) ?_
    refine lv_iload_n hx hb dX12_again_168 rfl (lv_at hl 1 rfl) ?_
    refine lv_icmp_gt (tgt := 175) hx hb dX12_again_169 (by decide) (fun c_169 => ?_) (fun c_169 => ?_)
    · have hT := hT_pos c_169 hT
      refine lv_iload hx hb dX12_again_175 (lv_at hl 3 rfl) ?_
      refine lv_iload hx hb dX12_again_177 (lv_at hl 3 rfl) ?_
      refine lv_iconst (v := (2 : Int32)) hx hb dX12_again_179 (by decide) ?_
      refine lv_idiv hx hb dX12_again_180 (by decide) ?_
      refine lv_iload hx hb dX12_again_181 (lv_at hl 2 rfl) ?_
      refine s_ci (rest := [.int (a6)]) (As := [.int ((a6 / (2 : Int32))), .int (a5)]) C0 cf_X12_greater w_1182 (k_X12_greater l (a6 / (2 : Int32)) a5 ) ⟨by decide, by decide⟩ hl.1 rfl rfl (Nat.le_of_ble_eq_true rfl) dX12_again_183 ⟨Nat.zero_le _, Nat.zero_le _⟩ ?_
      refine s_ci (rest := []) (As := [.int (a6), .int ((f_X12_greater (a6 / (2 : Int32)) a5))]) C0 cf_X12_lesser w_1179 (k_X12_lesser l a6 (f_X12_greater (a6 / (2 : Int32)) a5) ) ⟨by decide, by decide⟩ hl.1 rfl rfl (Nat.le_of_ble_eq_true rfl) dX12_again_186 ⟨Nat.zero_le _, Nat.zero_le _⟩ ?_
      refine lv_istore (lv' := [(6, .int ((f_X12_lesser a6 (f_X12_greater (a6 / (2 : Int32)) a5)))), (0, .ref (g.2.2 100)), (3, .int (a3)), (5, .int (a5)), (7, .int (a7))]) hx hb dX12_again_189 hl (by decide) rfl (fun ls hl => ?_)
      refine lv_iinc (v := (a7 + (1 : Int32))) (lv' := [(7, .int ((a7 + (1 : Int32)))), (6, .int ((f_X12_lesser a6 (f_X12_greater (a6 / (2 : Int32)) a5)))), (0, .ref (g.2.2 100)), (3, .int (a3)), (5, .int (a5))]) hx hb dX12_again_191 hl (k := 4) rfl rfl (by decide) rfl (fun ls hl => ?_)
      refine lv_goto (tgt := 159) hx hb dX12_again_194 (by decide) ?_
      have j194_h7 : 0 ≤ (a7 + (1 : Int32)).toInt := by
        have : ((60 : Int32)).toInt = 60 := by decide
        have : ((1 : Int32)).toInt = 1 := by decide
        have := mt ti_lt.mpr c_163
        have := ti_lt.mp c_169
        try have := ti_add (a := a7) (b := (1 : Int32)) (by omega) (by omega)
        omega
      have j194_m : (61 - (a7 + (1 : Int32)).toInt).toNat < N159 := by
        have : ((60 : Int32)).toInt = 60 := by decide
        have : ((1 : Int32)).toInt = 1 := by decide
        have := mt ti_lt.mpr c_163
        have := ti_lt.mp c_169
        try have := ti_add (a := a7) (b := (1 : Int32)) (by omega) (by omega)
        omega
      exact hK159 σ a3 a5 (f_X12_lesser a6 (f_X12_greater (a6 / (2 : Int32)) a5)) (a7 + (1 : Int32)) hI hV j194_h7 j194_m hK hC (lv_sub hl [2, 3, 4, 1, 0] rfl) hT
    · have hT := hT_neg c_169 hT
      refine lv_iload hx hb dX12_again_172 (lv_at hl 4 rfl) ?_
      exact ret_MI C0 hC hT dX12_again_174
def g_X12_again_159  : Nat → St → Int32 → Int32 → Int32 → Int32 → Int32 × St
  | 0 => fun σ a3 a5 a6 a7 => (0, σ)
  | n + 1 => fun σ a3 a5 a6 a7 => f_X12_again_159  (g_X12_again_159  n) σ a3 a5 a6 a7
theorem l_X12_again_159 {g : GG} {p : Program} {l : Launch} {e : Env} {s : State} {m : MethodId} {args : Array Value} {below : List Frame} {meth : Method} {c : Code} {A : Nat → Prop} {tgt : Int32 × St}  (C0 : BC p s m args meth c cX12_again RX12 8 (some .int))  : ∀ (n : Nat) (σ : St) (a3 : Int32) (a5 : Int32) (a6 : Int32) (a7 : Int32), (IB (σ 1)) → (HV (σ 1)) → (0 ≤ a7.toInt) → (61 - a7.toInt).toNat < n → ∀ {H : Heap} {locs : List Loc}, KK g s → WC g (mW g) A s.heap σ H locs → ∀ {ls : Array Slot}, lv_has ls 8 [(0, .ref (g.2.2 100)), (3, .int (a3)), (5, .int (a5)), (6, .int (a6)), (7, .int (a7))] → g_X12_again_159  n σ a3 a5 a6 a7 = tgt → W p l e { frames := 3, cells := 0, slots := 0, locals := 79 } s m args below meth c H locs 0 0 (QMI below args s g (mW g) A tgt) (F0 m 159 ls []) := by
  intro n
  induction n with
  | zero => intro σ a3 a5 a6 a7 hI hV h7 hm; exact absurd hm (Nat.not_lt_zero _)
  | succ n ih =>
    intro σ a3 a5 a6 a7 hI hV h7 hm H locs hK hC ls hl hT
    exact b_X12_again_159  (K159 := g_X12_again_159  n) (N159 := n) C0  (fun σ a3 a5 a6 a7 hI hV h7 hm2 => ih σ a3 a5 a6 a7 hI hV h7 hm2) hI hV h7 hm hK hC hl hT
def f_X12_again_42 (K42 : St → Int32 → Int32 → Int32 → Int32 → Int32 → Int32 → Int32 × St) (σ : St) (a1 : Int32) (a2 : Int32) (a3 : Int32) (a4 : Int32) (a5 : Int32) (a6 : Int32) : Int32 × St := (if (30 : Int32) < a6 then (g_X12_again_159  (62) σ a3 a5 (f_X12_gapOf σ a1) (0 : Int32)) else (bd1 (f_X12_sets σ a2 a1 a6) (fun u54 => (K42 u54 a1 a2 a3 (if a4 ≤ (if (u54 1 (ix ((51 : Int32) + a1))) ≤ (u54 13 0) then ((u54 13 0) - (u54 1 (ix ((51 : Int32) + a1)))) else ((u54 1 (ix ((51 : Int32) + a1))) - (u54 13 0))) then a4 else (if (u54 1 (ix ((51 : Int32) + a1))) ≤ (u54 13 0) then ((u54 13 0) - (u54 1 (ix ((51 : Int32) + a1)))) else ((u54 1 (ix ((51 : Int32) + a1))) - (u54 13 0)))) (if a4 ≤ (if (u54 1 (ix ((51 : Int32) + a1))) ≤ (u54 13 0) then ((u54 13 0) - (u54 1 (ix ((51 : Int32) + a1)))) else ((u54 1 (ix ((51 : Int32) + a1))) - (u54 13 0))) then a5 else (a6 * (u54 14 0))) (a6 + (1 : Int32))))))
set_option maxHeartbeats 600000 in
set_option maxRecDepth 100000 in
theorem b_X12_again_42 {g : GG} {p : Program} {l : Launch} {e : Env} {s : State} {m : MethodId} {args : Array Value} {below : List Frame} {meth : Method} {c : Code} {A : Nat → Prop} {tgt : Int32 × St} {K42 : St → Int32 → Int32 → Int32 → Int32 → Int32 → Int32 → Int32 × St} {N42 : Nat} (C0 : BC p s m args meth c cX12_again RX12 8 (some .int)) (hK42 : ∀ (σ : St) (a1 : Int32) (a2 : Int32) (a3 : Int32) (a4 : Int32) (a5 : Int32) (a6 : Int32), (IB (σ 1)) → (HV (σ 1)) → (0 ≤ a1.toInt) → (a1.toInt < 6) → (0 ≤ a2.toInt) → (a2.toInt < 6) → (0 ≤ a6.toInt) → (31 - a6.toInt).toNat < N42 → ∀ {H : Heap} {locs : List Loc}, KK g s → WC g (mW g) A s.heap σ H locs → ∀ {ls : Array Slot}, lv_has ls 8 [(0, .ref (g.2.2 100)), (1, .int (a1)), (2, .int (a2)), (3, .int (a3)), (4, .int (a4)), (5, .int (a5)), (6, .int (a6))] → K42 σ a1 a2 a3 a4 a5 a6 = tgt → W p l e { frames := 3, cells := 0, slots := 0, locals := 79 } s m args below meth c H locs 0 0 (QMI below args s g (mW g) A tgt) (F0 m 42 ls [])) {σ : St} {a1 : Int32} {a2 : Int32} {a3 : Int32} {a4 : Int32} {a5 : Int32} {a6 : Int32} {H : Heap} {locs : List Loc} (hI : IB (σ 1)) (hV : HV (σ 1)) (h1 : 0 ≤ a1.toInt) (h1b : a1.toInt < 6) (h2 : 0 ≤ a2.toInt) (h2b : a2.toInt < 6) (h6 : 0 ≤ a6.toInt) (hm : (31 - a6.toInt).toNat < N42 + 1) (hK : KK g s) (hC : WC g (mW g) A s.heap σ H locs) {ls : Array Slot} (hl : lv_has ls 8 [(0, .ref (g.2.2 100)), (1, .int (a1)), (2, .int (a2)), (3, .int (a3)), (4, .int (a4)), (5, .int (a5)), (6, .int (a6))]) (hT : f_X12_again_42 K42 σ a1 a2 a3 a4 a5 a6 = tgt) : W p l e { frames := 3, cells := 0, slots := 0, locals := 79 } s m args below meth c H locs 0 0 (QMI below args s g (mW g) A tgt) (F0 m 42 ls []) := by
  obtain ⟨hx, hb, hr, hml, hown, hts, hlocks⟩ := id C0
  unfold f_X12_again_42 at hT
  obtain ⟨⟨i0, i0'⟩, ⟨i1, i1'⟩, ⟨i2, i2'⟩, ⟨i3, i3'⟩, ⟨i4, i4'⟩, ⟨i5, i5'⟩, ⟨i6, i6'⟩, ⟨i7, i7'⟩, ⟨i8, i8'⟩, iK, iV, iL, iR, iW, iY, iG, iM, iB, iQ, iP, iT, iU⟩ := id hI
  refine lv_iload hx hb dX12_again_42 (lv_at hl 6 rfl) ?_
  refine lv_bipush (v := (30 : Int32)) hx hb dX12_again_44 (by decide) ?_
  refine lv_icmp_gt (tgt := 149) hx hb dX12_again_46 (by decide) (fun c_46 => ?_) (fun c_46 => ?_)
  · have hT := hT_pos c_46 hT
    refine lv_aload_n hx hb dX12_again_149 rfl (lv_at hl 0 rfl) ?_
    refine lv_iload_n hx hb dX12_again_150 rfl (lv_at hl 1 rfl) ?_
    have q151_h2 : a1.toInt ≤ 6 := by
      have : ((30 : Int32)).toInt = 30 := by decide
      have := ti_lt.mp c_46
      omega
    refine m_ci (rest := []) (As := [.int (a1)]) (σ := σ) C0 hK hC.1 (hC.2.1.weaken (fun _ _ _ _ => trivial)) SV.tt (fun _ _ _ => trivial) cf_X12_gapOf w_1151 rfl (k_X12_gapOf l g σ a1 h1 q151_h2) ⟨by decide, by decide⟩ hl.1 rfl rfl (Nat.le_of_ble_eq_true rfl) dX12_again_151 ⟨Nat.zero_le _, Nat.zero_le _⟩ ?_
    refine lv_istore (lv' := [(6, .int ((f_X12_gapOf σ a1))), (0, .ref (g.2.2 100)), (1, .int (a1)), (2, .int (a2)), (3, .int (a3)), (4, .int (a4)), (5, .int (a5))]) hx hb dX12_again_154 hl (by decide) rfl (fun ls hl => ?_)
    refine lv_iconst (v := (0 : Int32)) hx hb dX12_again_156 (by decide) ?_
    refine lv_istore (lv' := [(7, .int ((0 : Int32))), (6, .int ((f_X12_gapOf σ a1))), (0, .ref (g.2.2 100)), (1, .int (a1)), (2, .int (a2)), (3, .int (a3)), (4, .int (a4)), (5, .int (a5))]) hx hb dX12_again_157 hl (by decide) rfl (fun ls hl => ?_)
    have j157_h7 : 0 ≤ (0 : Int32).toInt := by
      have : ((30 : Int32)).toInt = 30 := by decide
      have : ((0 : Int32)).toInt = 0 := by decide
      have := ti_lt.mp c_46
      omega
    have j157_m : (61 - (0 : Int32).toInt).toNat < 62 := by
      have : ((30 : Int32)).toInt = 30 := by decide
      have : ((0 : Int32)).toInt = 0 := by decide
      have := ti_lt.mp c_46
      omega
    exact l_X12_again_159  C0   (62) σ a3 a5 (f_X12_gapOf σ a1) (0 : Int32) hI hV j157_h7 j157_m hK hC (lv_sub hl [2, 5, 7, 1, 0] rfl) hT
  · have hT := hT_neg c_46 hT
    refine lv_aload_n hx hb dX12_again_49 rfl (lv_at hl 0 rfl) ?_
    refine lv_iload_n hx hb dX12_again_50 rfl (lv_at hl 2 rfl) ?_
    refine lv_iload_n hx hb dX12_again_51 rfl (lv_at hl 1 rfl) ?_
    refine lv_iload hx hb dX12_again_52 (lv_at hl 6 rfl) ?_
    refine m_mv (rest := []) (As := [.int (a2), .int (a1), .int (a6)]) (σ := σ) C0 hK hC SV.tt (fun _ _ _ => trivial) cf_X12_sets w_1171 rfl (k_X12_sets l g σ a2 a1 a6 hI hV h2 h2b h6) ⟨by decide, by decide⟩ hl.1 rfl rfl (Nat.le_of_ble_eq_true rfl) dX12_again_54 ⟨Nat.zero_le _, Nat.zero_le _⟩ (fun u54 H locs e54 hC => ?_)
    have hT := bd1_e e54 hT
    have z54 : u54 1 = σ 1 := by
      rw [e54]
      exact sets_1 _ _ _ _
    refine lv_aload_n hx hb dX12_again_57 rfl (lv_at hl 0 rfl) ?_
    refine m_get (σ := u54) (v := .int ((u54 13 0))) C0 hK hC.1 13 (by decide) rfl w_980 dX12_again_58 ?_
    refine lv_aload_n hx hb dX12_again_61 rfl (lv_at hl 0 rfl) ?_
    refine m_get (σ := u54) (v := .ref (g.2.2 1)) C0 hK hC.1 1 (by decide) rfl w_968 dX12_again_62 ?_
    refine lv_bipush (v := (51 : Int32)) hx hb dX12_again_65 (by decide) ?_
    refine lv_iload_n hx hb dX12_again_67 rfl (lv_at hl 1 rfl) ?_
    refine lv_iadd hx hb dX12_again_68 ?_
    have o_69 : vp_in ((51 : Int32) + a1) 916 := by
      have : ((30 : Int32)).toInt = 30 := by decide
      have : ((51 : Int32)).toInt = 51 := by decide
      have := mt ti_lt.mpr c_46
      try have := ti_add (a := (51 : Int32)) (b := a1) (by omega) (by omega)
      exact vin (by omega) (by omega)
    refine m_ald (σ := u54) C0 hK hC.1 1 1 916 rfl o_69 (ix ((51 : Int32) + a1)) rfl dX12_again_69 ?_
    have J70 : ∀ v : Int32, v = (if (u54 1 (ix ((51 : Int32) + a1))) ≤ (u54 13 0) then ((u54 13 0) - (u54 1 (ix ((51 : Int32) + a1)))) else ((u54 1 (ix ((51 : Int32) + a1))) - (u54 13 0))) → W p l e { frames := 3, cells := 0, slots := 0, locals := 79 } s m args below meth c H locs 0 0 (QMI below args s g (mW g) A tgt) (F0 m 104 ls [.int (v)]) := by
      intro v ev
      subst ev
      refine lv_istore (lv' := [(7, .int ((if (u54 1 (ix ((51 : Int32) + a1))) ≤ (u54 13 0) then ((u54 13 0) - (u54 1 (ix ((51 : Int32) + a1)))) else ((u54 1 (ix ((51 : Int32) + a1))) - (u54 13 0))))), (0, .ref (g.2.2 100)), (1, .int (a1)), (2, .int (a2)), (3, .int (a3)), (4, .int (a4)), (5, .int (a5)), (6, .int (a6))]) hx hb dX12_again_104 hl (by decide) rfl (fun ls hl => ?_)
      refine lv_iload hx hb dX12_again_106 (lv_at hl 0 rfl) ?_
      refine lv_iload hx hb dX12_again_108 (lv_at hl 5 rfl) ?_
      have J110 : ∀ v : Int32, v = (if a4 ≤ (if (u54 1 (ix ((51 : Int32) + a1))) ≤ (u54 13 0) then ((u54 13 0) - (u54 1 (ix ((51 : Int32) + a1)))) else ((u54 1 (ix ((51 : Int32) + a1))) - (u54 13 0))) then a5 else (a6 * (u54 14 0))) → W p l e { frames := 3, cells := 0, slots := 0, locals := 79 } s m args below meth c H locs 0 0 (QMI below args s g (mW g) A tgt) (F0 m 125 ls [.int (v)]) := by
        intro v ev
        subst ev
        refine lv_istore (lv' := [(5, .int ((if a4 ≤ (if (u54 1 (ix ((51 : Int32) + a1))) ≤ (u54 13 0) then ((u54 13 0) - (u54 1 (ix ((51 : Int32) + a1)))) else ((u54 1 (ix ((51 : Int32) + a1))) - (u54 13 0))) then a5 else (a6 * (u54 14 0))))), (7, .int ((if (u54 1 (ix ((51 : Int32) + a1))) ≤ (u54 13 0) then ((u54 13 0) - (u54 1 (ix ((51 : Int32) + a1)))) else ((u54 1 (ix ((51 : Int32) + a1))) - (u54 13 0))))), (0, .ref (g.2.2 100)), (1, .int (a1)), (2, .int (a2)), (3, .int (a3)), (4, .int (a4)), (6, .int (a6))]) hx hb dX12_again_125 hl (by decide) rfl (fun ls hl => ?_)
        refine lv_iload hx hb dX12_again_127 (lv_at hl 1 rfl) ?_
        refine lv_iload hx hb dX12_again_129 (lv_at hl 6 rfl) ?_
        have J131 : ∀ v : Int32, v = (if a4 ≤ (if (u54 1 (ix ((51 : Int32) + a1))) ≤ (u54 13 0) then ((u54 13 0) - (u54 1 (ix ((51 : Int32) + a1)))) else ((u54 1 (ix ((51 : Int32) + a1))) - (u54 13 0))) then a4 else (if (u54 1 (ix ((51 : Int32) + a1))) ≤ (u54 13 0) then ((u54 13 0) - (u54 1 (ix ((51 : Int32) + a1)))) else ((u54 1 (ix ((51 : Int32) + a1))) - (u54 13 0)))) → W p l e { frames := 3, cells := 0, slots := 0, locals := 79 } s m args below meth c H locs 0 0 (QMI below args s g (mW g) A tgt) (F0 m 141 ls [.int (v)]) := by
          intro v ev
          subst ev
          refine lv_istore (lv' := [(4, .int ((if a4 ≤ (if (u54 1 (ix ((51 : Int32) + a1))) ≤ (u54 13 0) then ((u54 13 0) - (u54 1 (ix ((51 : Int32) + a1)))) else ((u54 1 (ix ((51 : Int32) + a1))) - (u54 13 0))) then a4 else (if (u54 1 (ix ((51 : Int32) + a1))) ≤ (u54 13 0) then ((u54 13 0) - (u54 1 (ix ((51 : Int32) + a1)))) else ((u54 1 (ix ((51 : Int32) + a1))) - (u54 13 0)))))), (5, .int ((if a4 ≤ (if (u54 1 (ix ((51 : Int32) + a1))) ≤ (u54 13 0) then ((u54 13 0) - (u54 1 (ix ((51 : Int32) + a1)))) else ((u54 1 (ix ((51 : Int32) + a1))) - (u54 13 0))) then a5 else (a6 * (u54 14 0))))), (7, .int ((if (u54 1 (ix ((51 : Int32) + a1))) ≤ (u54 13 0) then ((u54 13 0) - (u54 1 (ix ((51 : Int32) + a1)))) else ((u54 1 (ix ((51 : Int32) + a1))) - (u54 13 0))))), (0, .ref (g.2.2 100)), (1, .int (a1)), (2, .int (a2)), (3, .int (a3)), (6, .int (a6))]) hx hb dX12_again_141 hl (by decide) rfl (fun ls hl => ?_)
          refine lv_iinc (v := (a6 + (1 : Int32))) (lv' := [(6, .int ((a6 + (1 : Int32)))), (4, .int ((if a4 ≤ (if (u54 1 (ix ((51 : Int32) + a1))) ≤ (u54 13 0) then ((u54 13 0) - (u54 1 (ix ((51 : Int32) + a1)))) else ((u54 1 (ix ((51 : Int32) + a1))) - (u54 13 0))) then a4 else (if (u54 1 (ix ((51 : Int32) + a1))) ≤ (u54 13 0) then ((u54 13 0) - (u54 1 (ix ((51 : Int32) + a1)))) else ((u54 1 (ix ((51 : Int32) + a1))) - (u54 13 0)))))), (5, .int ((if a4 ≤ (if (u54 1 (ix ((51 : Int32) + a1))) ≤ (u54 13 0) then ((u54 13 0) - (u54 1 (ix ((51 : Int32) + a1)))) else ((u54 1 (ix ((51 : Int32) + a1))) - (u54 13 0))) then a5 else (a6 * (u54 14 0))))), (7, .int ((if (u54 1 (ix ((51 : Int32) + a1))) ≤ (u54 13 0) then ((u54 13 0) - (u54 1 (ix ((51 : Int32) + a1)))) else ((u54 1 (ix ((51 : Int32) + a1))) - (u54 13 0))))), (0, .ref (g.2.2 100)), (1, .int (a1)), (2, .int (a2)), (3, .int (a3))]) hx hb dX12_again_143 hl (k := 7) rfl rfl (by decide) rfl (fun ls hl => ?_)
          refine lv_goto (tgt := 42) hx hb dX12_again_146 (by decide) ?_
          have j146_hI : IB (u54 1) := by
            rw [z54]
            exact hI
          have j146_hV : HV (u54 1) := by
            rw [z54]
            exact hV
          have j146_h6 : 0 ≤ (a6 + (1 : Int32)).toInt := by
            have : ((30 : Int32)).toInt = 30 := by decide
            have : ((1 : Int32)).toInt = 1 := by decide
            have := mt ti_lt.mpr c_46
            try have := ti_add (a := a6) (b := (1 : Int32)) (by omega) (by omega)
            omega
          have j146_m : (31 - (a6 + (1 : Int32)).toInt).toNat < N42 := by
            have : ((30 : Int32)).toInt = 30 := by decide
            have : ((1 : Int32)).toInt = 1 := by decide
            have := mt ti_lt.mpr c_46
            try have := ti_add (a := a6) (b := (1 : Int32)) (by omega) (by omega)
            omega
          exact hK42 u54 a1 a2 a3 (if a4 ≤ (if (u54 1 (ix ((51 : Int32) + a1))) ≤ (u54 13 0) then ((u54 13 0) - (u54 1 (ix ((51 : Int32) + a1)))) else ((u54 1 (ix ((51 : Int32) + a1))) - (u54 13 0))) then a4 else (if (u54 1 (ix ((51 : Int32) + a1))) ≤ (u54 13 0) then ((u54 13 0) - (u54 1 (ix ((51 : Int32) + a1)))) else ((u54 1 (ix ((51 : Int32) + a1))) - (u54 13 0)))) (if a4 ≤ (if (u54 1 (ix ((51 : Int32) + a1))) ≤ (u54 13 0) then ((u54 13 0) - (u54 1 (ix ((51 : Int32) + a1)))) else ((u54 1 (ix ((51 : Int32) + a1))) - (u54 13 0))) then a5 else (a6 * (u54 14 0))) (a6 + (1 : Int32)) j146_hI j146_hV h1 h1b h2 h2b j146_h6 j146_m hK hC (lv_sub hl [4, 5, 6, 7, 1, 2, 0] rfl) hT
        refine lv_icmp_ge (tgt := 139) hx hb dX12_again_131 (by decide) (fun c_131 => ?_) (fun c_131 => ?_)
        · refine lv_iload hx hb dX12_again_139 (lv_at hl 6 rfl) ?_
          exact J131 _ (iv_pos c_131 rfl)
        · refine lv_iload hx hb dX12_again_134 (lv_at hl 1 rfl) ?_
          refine lv_goto (tgt := 141) hx hb dX12_again_136 (by decide) ?_
          exact J131 _ (iv_neg c_131 rfl)
      refine lv_icmp_ge (tgt := 123) hx hb dX12_again_110 (by decide) (fun c_110 => ?_) (fun c_110 => ?_)
      · refine lv_iload hx hb dX12_again_123 (lv_at hl 6 rfl) ?_
        exact J110 _ (iv_pos c_110 rfl)
      · refine lv_iload hx hb dX12_again_113 (lv_at hl 7 rfl) ?_
        refine lv_aload_n hx hb dX12_again_115 rfl (lv_at hl 1 rfl) ?_
        refine m_get (σ := u54) (v := .int ((u54 14 0))) C0 hK hC.1 14 (by decide) rfl w_981 dX12_again_116 ?_
        refine lv_imul hx hb dX12_again_119 ?_
        refine lv_goto (tgt := 125) hx hb dX12_again_120 (by decide) ?_
        exact J110 _ (iv_neg c_110 rfl)
    refine lv_icmp_ge (tgt := 90) hx hb dX12_again_70 (by decide) (fun c_70 => ?_) (fun c_70 => ?_)
    · refine lv_aload_n hx hb dX12_again_90 rfl (lv_at hl 0 rfl) ?_
      refine m_get (σ := u54) (v := .int ((u54 13 0))) C0 hK hC.1 13 (by decide) rfl w_980 dX12_again_91 ?_
      refine lv_aload_n hx hb dX12_again_94 rfl (lv_at hl 0 rfl) ?_
      refine m_get (σ := u54) (v := .ref (g.2.2 1)) C0 hK hC.1 1 (by decide) rfl w_968 dX12_again_95 ?_
      refine lv_bipush (v := (51 : Int32)) hx hb dX12_again_98 (by decide) ?_
      refine lv_iload_n hx hb dX12_again_100 rfl (lv_at hl 1 rfl) ?_
      refine lv_iadd hx hb dX12_again_101 ?_
      have o_102 : vp_in ((51 : Int32) + a1) 916 := by
        have : ((30 : Int32)).toInt = 30 := by decide
        have : ((51 : Int32)).toInt = 51 := by decide
        have := mt ti_lt.mpr c_46
        have := ti_le.mp c_70
        have := congrArg Int32.toInt (congrFun z54 (ix ((51 : Int32) + a1)))
        try have := ti_add (a := (51 : Int32)) (b := a1) (by omega) (by omega)
        exact vin (by omega) (by omega)
      refine m_ald (σ := u54) C0 hK hC.1 1 1 916 rfl o_102 (ix ((51 : Int32) + a1)) rfl dX12_again_102 ?_
      refine lv_isub hx hb dX12_again_103 ?_
      exact J70 _ (iv_pos c_70 rfl)
    · refine lv_aload_n hx hb dX12_again_73 rfl (lv_at hl 0 rfl) ?_
      refine m_get (σ := u54) (v := .ref (g.2.2 1)) C0 hK hC.1 1 (by decide) rfl w_968 dX12_again_74 ?_
      refine lv_bipush (v := (51 : Int32)) hx hb dX12_again_77 (by decide) ?_
      refine lv_iload_n hx hb dX12_again_79 rfl (lv_at hl 1 rfl) ?_
      refine lv_iadd hx hb dX12_again_80 ?_
      have o_81 : vp_in ((51 : Int32) + a1) 916 := by
        have : ((30 : Int32)).toInt = 30 := by decide
        have : ((51 : Int32)).toInt = 51 := by decide
        have := mt ti_lt.mpr c_46
        have := mt ti_le.mpr c_70
        have := congrArg Int32.toInt (congrFun z54 (ix ((51 : Int32) + a1)))
        try have := ti_add (a := (51 : Int32)) (b := a1) (by omega) (by omega)
        exact vin (by omega) (by omega)
      refine m_ald (σ := u54) C0 hK hC.1 1 1 916 rfl o_81 (ix ((51 : Int32) + a1)) rfl dX12_again_81 ?_
      refine lv_aload_n hx hb dX12_again_82 rfl (lv_at hl 0 rfl) ?_
      refine m_get (σ := u54) (v := .int ((u54 13 0))) C0 hK hC.1 13 (by decide) rfl w_980 dX12_again_83 ?_
      refine lv_isub hx hb dX12_again_86 ?_
      refine lv_goto (tgt := 104) hx hb dX12_again_87 (by decide) ?_
      exact J70 _ (iv_neg c_70 rfl)
def g_X12_again_42  : Nat → St → Int32 → Int32 → Int32 → Int32 → Int32 → Int32 → Int32 × St
  | 0 => fun σ a1 a2 a3 a4 a5 a6 => (0, σ)
  | n + 1 => fun σ a1 a2 a3 a4 a5 a6 => f_X12_again_42  (g_X12_again_42  n) σ a1 a2 a3 a4 a5 a6
theorem l_X12_again_42 {g : GG} {p : Program} {l : Launch} {e : Env} {s : State} {m : MethodId} {args : Array Value} {below : List Frame} {meth : Method} {c : Code} {A : Nat → Prop} {tgt : Int32 × St}  (C0 : BC p s m args meth c cX12_again RX12 8 (some .int))  : ∀ (n : Nat) (σ : St) (a1 : Int32) (a2 : Int32) (a3 : Int32) (a4 : Int32) (a5 : Int32) (a6 : Int32), (IB (σ 1)) → (HV (σ 1)) → (0 ≤ a1.toInt) → (a1.toInt < 6) → (0 ≤ a2.toInt) → (a2.toInt < 6) → (0 ≤ a6.toInt) → (31 - a6.toInt).toNat < n → ∀ {H : Heap} {locs : List Loc}, KK g s → WC g (mW g) A s.heap σ H locs → ∀ {ls : Array Slot}, lv_has ls 8 [(0, .ref (g.2.2 100)), (1, .int (a1)), (2, .int (a2)), (3, .int (a3)), (4, .int (a4)), (5, .int (a5)), (6, .int (a6))] → g_X12_again_42  n σ a1 a2 a3 a4 a5 a6 = tgt → W p l e { frames := 3, cells := 0, slots := 0, locals := 79 } s m args below meth c H locs 0 0 (QMI below args s g (mW g) A tgt) (F0 m 42 ls []) := by
  intro n
  induction n with
  | zero => intro σ a1 a2 a3 a4 a5 a6 hI hV h1 h1b h2 h2b h6 hm; exact absurd hm (Nat.not_lt_zero _)
  | succ n ih =>
    intro σ a1 a2 a3 a4 a5 a6 hI hV h1 h1b h2 h2b h6 hm H locs hK hC ls hl hT
    exact b_X12_again_42  (K42 := g_X12_again_42  n) (N42 := n) C0  (fun σ a1 a2 a3 a4 a5 a6 hI hV h1 h1b h2 h2b h6 hm2 => ih σ a1 a2 a3 a4 a5 a6 hI hV h1 h1b h2 h2b h6 hm2) hI hV h1 h1b h2 h2b h6 hm hK hC hl hT
def f_X12_again (σ : St) (a1 : Int32) (a2 : Int32) (a3 : Int32) : Int32 × St := (if (f_X12_isWall σ a1) = 0 then ((-1 : Int32), σ) else (if (f_X12_isStick σ a2) = 0 then ((-1 : Int32), σ) else (if (f_X12_in a3 (0 : Int32) (999 : Int32)) = 0 then ((-2 : Int32), σ) else (g_X12_again_42  (32) σ a1 a2 a3 (10000000 : Int32) (0 : Int32) (0 : Int32)))))
set_option maxHeartbeats 600000 in
set_option maxRecDepth 100000 in
theorem k_X12_again (l : Launch) (g : GG) (σ : St) (a1 : Int32) (a2 : Int32) (a3 : Int32) (hI : IB (σ 1)) (hV : HV (σ 1)) : MI l yX12_again (wsF yX12_again cX12_again 8 (some .int)) { frames := 3, cells := 0, slots := 0, locals := 79 } [.ref (g.2.2 100), .int (a1), .int (a2), .int (a3)] g (mW g) (fun _ => True) σ (f_X12_again σ a1 a2 a3) := by
  refine start_MI (by decide) (Nat.le_of_ble_eq_true rfl) ?_
  intro p e s m args below meth c C0 hK hBg hC ls hl
  generalize hAe : aA ((mW g) σ) = A at hC ⊢
  obtain ⟨hx, hb, hr, hml, hown, hts, hlocks⟩ := id C0
  have hl : lv_has ls 8 [(0, .ref (g.2.2 100)), (1, .int (a1)), (2, .int (a2)), (3, .int (a3))] := hl
  generalize hT : (f_X12_again σ a1 a2 a3) = tgt
  suffices key : ∀ (H : Heap) (locs : List Loc), WC g (mW g) A s.heap σ H locs → W p l e { frames := 3, cells := 0, slots := 0, locals := 79 } s m args below meth c H locs 0 0 (QMI below args s g (mW g) A tgt) (F0 m 0 ls []) from key _ _ hC
  intro H locs hC
  unfold f_X12_again at hT
  obtain ⟨⟨i0, i0'⟩, ⟨i1, i1'⟩, ⟨i2, i2'⟩, ⟨i3, i3'⟩, ⟨i4, i4'⟩, ⟨i5, i5'⟩, ⟨i6, i6'⟩, ⟨i7, i7'⟩, ⟨i8, i8'⟩, iK, iV, iL, iR, iW, iY, iG, iM, iB, iQ, iP, iT, iU⟩ := id hI
  refine lv_aload_n hx hb dX12_again_0 rfl (lv_at hl 0 rfl) ?_
  refine lv_iload_n hx hb dX12_again_1 rfl (lv_at hl 1 rfl) ?_
  refine m_ci (rest := []) (As := [.int (a1)]) (σ := σ) C0 hK hC.1 (hC.2.1.weaken (fun _ _ _ _ => trivial)) SV.tt (fun _ _ _ => trivial) cf_X12_isWall w_1147 rfl (k_X12_isWall l g σ a1 ) ⟨by decide, by decide⟩ hl.1 rfl rfl (Nat.le_of_ble_eq_true rfl) dX12_again_2 ⟨Nat.zero_le _, Nat.zero_le _⟩ ?_
  refine lv_if_eq (tgt := 16) hx hb dX12_again_5 (by decide) (fun c_5 => ?_) (fun c_5 => ?_)
  · have hT := hT_pos c_5 hT
    refine lv_iconst (v := (-1 : Int32)) hx hb dX12_again_16 (by decide) ?_
    exact ret_MI C0 hC hT dX12_again_17
  · have hT := hT_neg c_5 hT
    refine lv_aload_n hx hb dX12_again_8 rfl (lv_at hl 0 rfl) ?_
    refine lv_iload_n hx hb dX12_again_9 rfl (lv_at hl 2 rfl) ?_
    refine m_ci (rest := []) (As := [.int (a2)]) (σ := σ) C0 hK hC.1 (hC.2.1.weaken (fun _ _ _ _ => trivial)) SV.tt (fun _ _ _ => trivial) cf_X12_isStick w_1131 rfl (k_X12_isStick l g σ a2 ) ⟨by decide, by decide⟩ hl.1 rfl rfl (Nat.le_of_ble_eq_true rfl) dX12_again_10 ⟨Nat.zero_le _, Nat.zero_le _⟩ ?_
    refine lv_if_ne (tgt := 18) hx hb dX12_again_13 (by decide) (fun c_13 => ?_) (fun c_13 => ?_)
    · have hT := hT_neg c_13 hT
      refine lv_iload_n hx hb dX12_again_18 rfl (lv_at hl 3 rfl) ?_
      refine lv_iconst (v := (0 : Int32)) hx hb dX12_again_19 (by decide) ?_
      refine lv_sipush (v := (999 : Int32)) hx hb dX12_again_20 (by decide) ?_
      refine s_ci (rest := []) (As := [.int (a3), .int ((0 : Int32)), .int ((999 : Int32))]) C0 cf_X12_in w_1060 (k_X12_in l a3 (0 : Int32) (999 : Int32) ) ⟨by decide, by decide⟩ hl.1 rfl rfl (Nat.le_of_ble_eq_true rfl) dX12_again_23 ⟨Nat.zero_le _, Nat.zero_le _⟩ ?_
      refine lv_if_ne (tgt := 32) hx hb dX12_again_26 (by decide) (fun c_26 => ?_) (fun c_26 => ?_)
      · have hT := hT_neg c_26 hT
        refine lv_ldc (v := (10000000 : Int32)) hx hb C0.2.2.2.2.1 (C0.2.2.2.2.2.1 _ w_1205) dX12_again_32 ?_
        refine lv_istore (lv' := [(4, .int ((10000000 : Int32))), (0, .ref (g.2.2 100)), (1, .int (a1)), (2, .int (a2)), (3, .int (a3))]) hx hb dX12_again_34 hl (by decide) rfl (fun ls hl => ?_)
        refine lv_iconst (v := (0 : Int32)) hx hb dX12_again_36 (by decide) ?_
        refine lv_istore (lv' := [(5, .int ((0 : Int32))), (4, .int ((10000000 : Int32))), (0, .ref (g.2.2 100)), (1, .int (a1)), (2, .int (a2)), (3, .int (a3))]) hx hb dX12_again_37 hl (by decide) rfl (fun ls hl => ?_)
        refine lv_iconst (v := (0 : Int32)) hx hb dX12_again_39 (by decide) ?_
        refine lv_istore (lv' := [(6, .int ((0 : Int32))), (5, .int ((0 : Int32))), (4, .int ((10000000 : Int32))), (0, .ref (g.2.2 100)), (1, .int (a1)), (2, .int (a2)), (3, .int (a3))]) hx hb dX12_again_40 hl (by decide) rfl (fun ls hl => ?_)
        have j40_h1 : 0 ≤ a1.toInt := by
          have : ((0 : Int32)).toInt = 0 := by decide
          have : ((999 : Int32)).toInt = 999 := by decide
          have : ((10000000 : Int32)).toInt = 10000000 := by decide
          have := isWall_ne hI.2.1.1 c_5
          have := isStick_ne hI.1.1 c_13
          have := in_ne c_26
          omega
        have j40_h1b : a1.toInt < 6 := by
          have : ((0 : Int32)).toInt = 0 := by decide
          have : ((999 : Int32)).toInt = 999 := by decide
          have : ((10000000 : Int32)).toInt = 10000000 := by decide
          have := isWall_ne hI.2.1.1 c_5
          have := isStick_ne hI.1.1 c_13
          have := in_ne c_26
          omega
        have j40_h2 : 0 ≤ a2.toInt := by
          have : ((0 : Int32)).toInt = 0 := by decide
          have : ((999 : Int32)).toInt = 999 := by decide
          have : ((10000000 : Int32)).toInt = 10000000 := by decide
          have := isWall_ne hI.2.1.1 c_5
          have := isStick_ne hI.1.1 c_13
          have := in_ne c_26
          omega
        have j40_h2b : a2.toInt < 6 := by
          have : ((0 : Int32)).toInt = 0 := by decide
          have : ((999 : Int32)).toInt = 999 := by decide
          have : ((10000000 : Int32)).toInt = 10000000 := by decide
          have := isWall_ne hI.2.1.1 c_5
          have := isStick_ne hI.1.1 c_13
          have := in_ne c_26
          omega
        have j40_h6 : 0 ≤ (0 : Int32).toInt := by
          have : ((0 : Int32)).toInt = 0 := by decide
          have : ((999 : Int32)).toInt = 999 := by decide
          have : ((10000000 : Int32)).toInt = 10000000 := by decide
          have := isWall_ne hI.2.1.1 c_5
          have := isStick_ne hI.1.1 c_13
          have := in_ne c_26
          omega
        have j40_m : (31 - (0 : Int32).toInt).toNat < 32 := by
          have : ((0 : Int32)).toInt = 0 := by decide
          have : ((999 : Int32)).toInt = 999 := by decide
          have : ((10000000 : Int32)).toInt = 10000000 := by decide
          have := isWall_ne hI.2.1.1 c_5
          have := isStick_ne hI.1.1 c_13
          have := in_ne c_26
          omega
        exact l_X12_again_42  C0   (32) σ a1 a2 a3 (10000000 : Int32) (0 : Int32) (0 : Int32) hI hV j40_h1 j40_h1b j40_h2 j40_h2b j40_h6 j40_m hK hC (lv_sub hl [3, 4, 5, 6, 2, 1, 0] rfl) hT
      · have hT := hT_pos c_26 hT
        refine lv_bipush (v := (-2 : Int32)) hx hb dX12_again_29 (by decide) ?_
        exact ret_MI C0 hC hT dX12_again_31
    · have hT := hT_pos c_13 hT
      refine lv_iconst (v := (-1 : Int32)) hx hb dX12_again_16 (by decide) ?_
      exact ret_MI C0 hC hT dX12_again_17
/-! ThreeMeasuresModel.whoseBut -/
theorem dX12_whoseBut_0 : decode cX12_whoseBut 0 = .ok (.iconst 0, 1) := by decide +kernel
theorem dX12_whoseBut_1 : decode cX12_whoseBut 1 = .ok (.istore_n 3, 1) := by decide +kernel
theorem dX12_whoseBut_2 : decode cX12_whoseBut 2 = .ok (.iconst 0, 1) := by decide +kernel
theorem dX12_whoseBut_3 : decode cX12_whoseBut 3 = .ok (.istore 4, 2) := by decide +kernel
theorem dX12_whoseBut_5 : decode cX12_whoseBut 5 = .ok (.iload 4, 2) := by decide +kernel
theorem dX12_whoseBut_7 : decode cX12_whoseBut 7 = .ok (.aload_n 0, 1) := by decide +kernel
theorem dX12_whoseBut_8 : decode cX12_whoseBut 8 = .ok (.getfield 9, 3) := by decide +kernel
theorem dX12_whoseBut_11 : decode cX12_whoseBut 11 = .ok (.iconst 0, 1) := by decide +kernel
theorem dX12_whoseBut_12 : decode cX12_whoseBut 12 = .ok (.iaload, 1) := by decide +kernel
theorem dX12_whoseBut_13 : decode cX12_whoseBut 13 = .ok (.if_icmp .ge 101, 3) := by decide +kernel
theorem dX12_whoseBut_16 : decode cX12_whoseBut 16 = .ok (.iconst 1, 1) := by decide +kernel
theorem dX12_whoseBut_17 : decode cX12_whoseBut 17 = .ok (.istore 5, 2) := by decide +kernel
theorem dX12_whoseBut_19 : decode cX12_whoseBut 19 = .ok (.iconst 0, 1) := by decide +kernel
theorem dX12_whoseBut_20 : decode cX12_whoseBut 20 = .ok (.istore 6, 2) := by decide +kernel
theorem dX12_whoseBut_22 : decode cX12_whoseBut 22 = .ok (.iload 6, 2) := by decide +kernel
theorem dX12_whoseBut_24 : decode cX12_whoseBut 24 = .ok (.aload_n 0, 1) := by decide +kernel
theorem dX12_whoseBut_25 : decode cX12_whoseBut 25 = .ok (.getfield 9, 3) := by decide +kernel
theorem dX12_whoseBut_28 : decode cX12_whoseBut 28 = .ok (.iconst 4, 1) := by decide +kernel
theorem dX12_whoseBut_29 : decode cX12_whoseBut 29 = .ok (.iaload, 1) := by decide +kernel
theorem dX12_whoseBut_30 : decode cX12_whoseBut 30 = .ok (.if_icmp .ge 62, 3) := by decide +kernel
theorem dX12_whoseBut_33 : decode cX12_whoseBut 33 = .ok (.aload_n 0, 1) := by decide +kernel
theorem dX12_whoseBut_34 : decode cX12_whoseBut 34 = .ok (.iload 4, 2) := by decide +kernel
theorem dX12_whoseBut_36 : decode cX12_whoseBut 36 = .ok (.iload_n 1, 1) := by decide +kernel
theorem dX12_whoseBut_37 : decode cX12_whoseBut 37 = .ok (.iload 6, 2) := by decide +kernel
theorem dX12_whoseBut_39 : decode cX12_whoseBut 39 = .ok (.iconst 1, 1) := by decide +kernel
theorem dX12_whoseBut_40 : decode cX12_whoseBut 40 = .ok (.iadd, 1) := by decide +kernel
theorem dX12_whoseBut_41 : decode cX12_whoseBut 41 = .ok (.invokevirtual 172, 3) := by decide +kernel
theorem dX12_whoseBut_44 : decode cX12_whoseBut 44 = .ok (.iload 5, 2) := by decide +kernel
theorem dX12_whoseBut_46 : decode cX12_whoseBut 46 = .ok (.ifCond .eq 37, 3) := by decide +kernel
theorem dX12_whoseBut_49 : decode cX12_whoseBut 49 = .ok (.iload 6, 2) := by decide +kernel
theorem dX12_whoseBut_51 : decode cX12_whoseBut 51 = .ok (.iload_n 2, 1) := by decide +kernel
theorem dX12_whoseBut_52 : decode cX12_whoseBut 52 = .ok (.if_icmp .eq 27, 3) := by decide +kernel
theorem dX12_whoseBut_55 : decode cX12_whoseBut 55 = .ok (.aload_n 0, 1) := by decide +kernel
theorem dX12_whoseBut_56 : decode cX12_whoseBut 56 = .ok (.getfield 9, 3) := by decide +kernel
theorem dX12_whoseBut_59 : decode cX12_whoseBut 59 = .ok (.bipush 79, 2) := by decide +kernel
theorem dX12_whoseBut_61 : decode cX12_whoseBut 61 = .ok (.iload 6, 2) := by decide +kernel
theorem dX12_whoseBut_63 : decode cX12_whoseBut 63 = .ok (.iadd, 1) := by decide +kernel
theorem dX12_whoseBut_64 : decode cX12_whoseBut 64 = .ok (.iaload, 1) := by decide +kernel
theorem dX12_whoseBut_65 : decode cX12_whoseBut 65 = .ok (.aload_n 0, 1) := by decide +kernel
theorem dX12_whoseBut_66 : decode cX12_whoseBut 66 = .ok (.getfield 155, 3) := by decide +kernel
theorem dX12_whoseBut_69 : decode cX12_whoseBut 69 = .ok (.aload_n 0, 1) := by decide +kernel
theorem dX12_whoseBut_70 : decode cX12_whoseBut 70 = .ok (.getfield 158, 3) := by decide +kernel
theorem dX12_whoseBut_73 : decode cX12_whoseBut 73 = .ok (.invokestatic 47, 3) := by decide +kernel
theorem dX12_whoseBut_76 : decode cX12_whoseBut 76 = .ok (.ifCond .eq 7, 3) := by decide +kernel
theorem dX12_whoseBut_79 : decode cX12_whoseBut 79 = .ok (.iconst 1, 1) := by decide +kernel
theorem dX12_whoseBut_80 : decode cX12_whoseBut 80 = .ok (.goto 4, 3) := by decide +kernel
theorem dX12_whoseBut_83 : decode cX12_whoseBut 83 = .ok (.iconst 0, 1) := by decide +kernel
theorem dX12_whoseBut_84 : decode cX12_whoseBut 84 = .ok (.istore 5, 2) := by decide +kernel
theorem dX12_whoseBut_86 : decode cX12_whoseBut 86 = .ok (.iinc 6 1, 3) := by decide +kernel
theorem dX12_whoseBut_89 : decode cX12_whoseBut 89 = .ok (.goto (-67), 3) := by decide +kernel
theorem dX12_whoseBut_92 : decode cX12_whoseBut 92 = .ok (.iload_n 3, 1) := by decide +kernel
theorem dX12_whoseBut_93 : decode cX12_whoseBut 93 = .ok (.iload 5, 2) := by decide +kernel
theorem dX12_whoseBut_95 : decode cX12_whoseBut 95 = .ok (.ifCond .eq 10, 3) := by decide +kernel
theorem dX12_whoseBut_98 : decode cX12_whoseBut 98 = .ok (.iconst 1, 1) := by decide +kernel
theorem dX12_whoseBut_99 : decode cX12_whoseBut 99 = .ok (.iload 4, 2) := by decide +kernel
theorem dX12_whoseBut_101 : decode cX12_whoseBut 101 = .ok (.ishl, 1) := by decide +kernel
theorem dX12_whoseBut_102 : decode cX12_whoseBut 102 = .ok (.goto 4, 3) := by decide +kernel
theorem dX12_whoseBut_105 : decode cX12_whoseBut 105 = .ok (.iconst 0, 1) := by decide +kernel
theorem dX12_whoseBut_106 : decode cX12_whoseBut 106 = .ok (.ior, 1) := by decide +kernel
theorem dX12_whoseBut_107 : decode cX12_whoseBut 107 = .ok (.istore_n 3, 1) := by decide +kernel
theorem dX12_whoseBut_108 : decode cX12_whoseBut 108 = .ok (.iinc 4 1, 3) := by decide +kernel
theorem dX12_whoseBut_111 : decode cX12_whoseBut 111 = .ok (.goto (-106), 3) := by decide +kernel
theorem dX12_whoseBut_114 : decode cX12_whoseBut 114 = .ok (.iload_n 3, 1) := by decide +kernel
theorem dX12_whoseBut_115 : decode cX12_whoseBut 115 = .ok (.ireturn, 1) := by decide +kernel
def f_X12_whoseBut_22 (K5 : St → Int32 → Int32 → Int32 → Int32 → Int32 × St) (K22 : St → Int32 → Int32 → Int32 → Int32 → Int32 → Int32 → Int32 × St) (σ : St) (a1 : Int32) (a2 : Int32) (a3 : Int32) (a4 : Int32) (a5 : Int32) (a6 : Int32) : Int32 × St := (if (σ 1 4) ≤ a6 then (K5 σ a1 a2 (a3 ||| (if a5 = 0 then (0 : Int32) else ((1 : Int32) <<< (a4 &&& 31)))) (a4 + (1 : Int32))) else (bd1 (f_X12_sets σ a4 a1 (a6 + (1 : Int32))) (fun u41 => (K22 u41 a1 a2 a3 a4 (if a5 = 0 then (0 : Int32) else (if a6 = a2 then (1 : Int32) else (if (f_X12_in (u41 1 (ix ((79 : Int32) + a6))) (u41 15 0) (u41 16 0)) = 0 then (0 : Int32) else (1 : Int32)))) (a6 + (1 : Int32))))))
set_option maxHeartbeats 600000 in
set_option maxRecDepth 100000 in
theorem b_X12_whoseBut_22 {g : GG} {p : Program} {l : Launch} {e : Env} {s : State} {m : MethodId} {args : Array Value} {below : List Frame} {meth : Method} {c : Code} {A : Nat → Prop} {tgt : Int32 × St} {K5 : St → Int32 → Int32 → Int32 → Int32 → Int32 × St} {N5 : Nat} {K22 : St → Int32 → Int32 → Int32 → Int32 → Int32 → Int32 → Int32 × St} {N22 : Nat} (C0 : BC p s m args meth c cX12_whoseBut RX12 7 (some .int)) (hK5 : ∀ (σ : St) (a1 : Int32) (a2 : Int32) (a3 : Int32) (a4 : Int32), (IB (σ 1)) → (HV (σ 1)) → (0 ≤ a4.toInt) → ((σ 1 0).toInt - a4.toInt).toNat < N5 → ∀ {H : Heap} {locs : List Loc}, KK g s → WC g (mW g) A s.heap σ H locs → ∀ {ls : Array Slot}, lv_has ls 7 [(0, .ref (g.2.2 100)), (1, .int (a1)), (2, .int (a2)), (3, .int (a3)), (4, .int (a4))] → K5 σ a1 a2 a3 a4 = tgt → W p l e { frames := 3, cells := 0, slots := 0, locals := 79 } s m args below meth c H locs 0 0 (QMI below args s g (mW g) A tgt) (F0 m 5 ls [])) (hK22 : ∀ (σ : St) (a1 : Int32) (a2 : Int32) (a3 : Int32) (a4 : Int32) (a5 : Int32) (a6 : Int32), (IB (σ 1)) → (HV (σ 1)) → (0 ≤ a4.toInt) → (a4.toInt < (σ 1 0).toInt) → (((σ 1 0).toInt - a4.toInt).toNat < N5 + 1) → (0 ≤ a6.toInt) → ((σ 1 4).toInt - a6.toInt).toNat < N22 → ∀ {H : Heap} {locs : List Loc}, KK g s → WC g (mW g) A s.heap σ H locs → ∀ {ls : Array Slot}, lv_has ls 7 [(0, .ref (g.2.2 100)), (1, .int (a1)), (2, .int (a2)), (3, .int (a3)), (4, .int (a4)), (5, .int (a5)), (6, .int (a6))] → K22 σ a1 a2 a3 a4 a5 a6 = tgt → W p l e { frames := 3, cells := 0, slots := 0, locals := 79 } s m args below meth c H locs 0 0 (QMI below args s g (mW g) A tgt) (F0 m 22 ls [])) {σ : St} {a1 : Int32} {a2 : Int32} {a3 : Int32} {a4 : Int32} {a5 : Int32} {a6 : Int32} {H : Heap} {locs : List Loc} (hI : IB (σ 1)) (hV : HV (σ 1)) (h4 : 0 ≤ a4.toInt) (h4b : a4.toInt < (σ 1 0).toInt) (hm5 : ((σ 1 0).toInt - a4.toInt).toNat < N5 + 1) (h6 : 0 ≤ a6.toInt) (hm : ((σ 1 4).toInt - a6.toInt).toNat < N22 + 1) (hK : KK g s) (hC : WC g (mW g) A s.heap σ H locs) {ls : Array Slot} (hl : lv_has ls 7 [(0, .ref (g.2.2 100)), (1, .int (a1)), (2, .int (a2)), (3, .int (a3)), (4, .int (a4)), (5, .int (a5)), (6, .int (a6))]) (hT : f_X12_whoseBut_22 K5 K22 σ a1 a2 a3 a4 a5 a6 = tgt) : W p l e { frames := 3, cells := 0, slots := 0, locals := 79 } s m args below meth c H locs 0 0 (QMI below args s g (mW g) A tgt) (F0 m 22 ls []) := by
  obtain ⟨hx, hb, hr, hml, hown, hts, hlocks⟩ := id C0
  unfold f_X12_whoseBut_22 at hT
  obtain ⟨⟨i0, i0'⟩, ⟨i1, i1'⟩, ⟨i2, i2'⟩, ⟨i3, i3'⟩, ⟨i4, i4'⟩, ⟨i5, i5'⟩, ⟨i6, i6'⟩, ⟨i7, i7'⟩, ⟨i8, i8'⟩, iK, iV, iL, iR, iW, iY, iG, iM, iB, iQ, iP, iT, iU⟩ := id hI
  refine lv_iload hx hb dX12_whoseBut_22 (lv_at hl 6 rfl) ?_
  refine lv_aload_n hx hb dX12_whoseBut_24 rfl (lv_at hl 0 rfl) ?_
  refine m_get (σ := σ) (v := .ref (g.2.2 1)) C0 hK hC.1 1 (by decide) rfl w_968 dX12_whoseBut_25 ?_
  refine lv_iconst (v := (4 : Int32)) hx hb dX12_whoseBut_28 (by decide) ?_
  refine m_ald (σ := σ) C0 hK hC.1 1 1 916 rfl (vin_l (by decide)) 4 (by decide) dX12_whoseBut_29 ?_
  refine lv_icmp_ge (tgt := 92) hx hb dX12_whoseBut_30 (by decide) (fun c_30 => ?_) (fun c_30 => ?_)
  · have hT := hT_pos c_30 hT
    refine lv_iload_n hx hb dX12_whoseBut_92 rfl (lv_at hl 3 rfl) ?_
    refine lv_iload hx hb dX12_whoseBut_93 (lv_at hl 5 rfl) ?_
    have J95 : ∀ v : Int32, v = (if a5 = 0 then (0 : Int32) else ((1 : Int32) <<< (a4 &&& 31))) → W p l e { frames := 3, cells := 0, slots := 0, locals := 79 } s m args below meth c H locs 0 0 (QMI below args s g (mW g) A tgt) (F0 m 106 ls [.int (v), .int (a3)]) := by
      intro v ev
      subst ev
      refine lv_ior hx hb dX12_whoseBut_106 ?_
      refine lv_istore_n (lv' := [(3, .int ((a3 ||| (if a5 = 0 then (0 : Int32) else ((1 : Int32) <<< (a4 &&& 31)))))), (0, .ref (g.2.2 100)), (1, .int (a1)), (2, .int (a2)), (4, .int (a4)), (5, .int (a5)), (6, .int (a6))]) hx hb dX12_whoseBut_107 rfl hl (by decide) rfl (fun ls hl => ?_)
      refine lv_iinc (v := (a4 + (1 : Int32))) (lv' := [(4, .int ((a4 + (1 : Int32)))), (3, .int ((a3 ||| (if a5 = 0 then (0 : Int32) else ((1 : Int32) <<< (a4 &&& 31)))))), (0, .ref (g.2.2 100)), (1, .int (a1)), (2, .int (a2)), (5, .int (a5)), (6, .int (a6))]) hx hb dX12_whoseBut_108 hl (k := 4) rfl rfl (by decide) rfl (fun ls hl => ?_)
      refine lv_goto (tgt := 5) hx hb dX12_whoseBut_111 (by decide) ?_
      have j111_h4 : 0 ≤ (a4 + (1 : Int32)).toInt := by
        have : ((1 : Int32)).toInt = 1 := by decide
        have := ti_le.mp c_30
        try have := ti_add (a := a4) (b := (1 : Int32)) (by omega) (by omega)
        omega
      have j111_m : ((σ 1 0).toInt - (a4 + (1 : Int32)).toInt).toNat < N5 := by
        have : ((1 : Int32)).toInt = 1 := by decide
        have := ti_le.mp c_30
        try have := ti_add (a := a4) (b := (1 : Int32)) (by omega) (by omega)
        omega
      exact hK5 σ a1 a2 (a3 ||| (if a5 = 0 then (0 : Int32) else ((1 : Int32) <<< (a4 &&& 31)))) (a4 + (1 : Int32)) hI hV j111_h4 j111_m hK hC (lv_sub hl [2, 3, 4, 1, 0] rfl) hT
    refine lv_if_eq (tgt := 105) hx hb dX12_whoseBut_95 (by decide) (fun c_95 => ?_) (fun c_95 => ?_)
    · refine lv_iconst (v := (0 : Int32)) hx hb dX12_whoseBut_105 (by decide) ?_
      exact J95 _ (iv_pos c_95 rfl)
    · refine lv_iconst (v := (1 : Int32)) hx hb dX12_whoseBut_98 (by decide) ?_
      refine lv_iload hx hb dX12_whoseBut_99 (lv_at hl 4 rfl) ?_
      refine lv_ishl hx hb dX12_whoseBut_101 ?_
      refine lv_goto (tgt := 106) hx hb dX12_whoseBut_102 (by decide) ?_
      exact J95 _ (iv_neg c_95 rfl)
  · have hT := hT_neg c_30 hT
    refine lv_aload_n hx hb dX12_whoseBut_33 rfl (lv_at hl 0 rfl) ?_
    refine lv_iload hx hb dX12_whoseBut_34 (lv_at hl 4 rfl) ?_
    refine lv_iload_n hx hb dX12_whoseBut_36 rfl (lv_at hl 1 rfl) ?_
    refine lv_iload hx hb dX12_whoseBut_37 (lv_at hl 6 rfl) ?_
    refine lv_iconst (v := (1 : Int32)) hx hb dX12_whoseBut_39 (by decide) ?_
    refine lv_iadd hx hb dX12_whoseBut_40 ?_
    have q41_h1b : a4.toInt < 6 := by
      have : ((1 : Int32)).toInt = 1 := by decide
      have := mt ti_le.mpr c_30
      try have := ti_add (a := a6) (b := (1 : Int32)) (by omega) (by omega)
      omega
    have q41_h3 : 0 ≤ (a6 + (1 : Int32)).toInt := by
      have : ((1 : Int32)).toInt = 1 := by decide
      have := mt ti_le.mpr c_30
      try have := ti_add (a := a6) (b := (1 : Int32)) (by omega) (by omega)
      omega
    refine m_mv (rest := []) (As := [.int (a4), .int (a1), .int ((a6 + (1 : Int32)))]) (σ := σ) C0 hK hC SV.tt (fun _ _ _ => trivial) cf_X12_sets w_1171 rfl (k_X12_sets l g σ a4 a1 (a6 + (1 : Int32)) hI hV h4 q41_h1b q41_h3) ⟨by decide, by decide⟩ hl.1 rfl rfl (Nat.le_of_ble_eq_true rfl) dX12_whoseBut_41 ⟨Nat.zero_le _, Nat.zero_le _⟩ (fun u41 H locs e41 hC => ?_)
    have hT := bd1_e e41 hT
    have z41 : u41 1 = σ 1 := by
      rw [e41]
      exact sets_1 _ _ _ _
    refine lv_iload hx hb dX12_whoseBut_44 (lv_at hl 5 rfl) ?_
    have J46 : ∀ v : Int32, v = (if a5 = 0 then (0 : Int32) else (if a6 = a2 then (1 : Int32) else (if (f_X12_in (u41 1 (ix ((79 : Int32) + a6))) (u41 15 0) (u41 16 0)) = 0 then (0 : Int32) else (1 : Int32)))) → W p l e { frames := 3, cells := 0, slots := 0, locals := 79 } s m args below meth c H locs 0 0 (QMI below args s g (mW g) A tgt) (F0 m 84 ls [.int (v)]) := by
      intro v ev
      subst ev
      refine lv_istore (lv' := [(5, .int ((if a5 = 0 then (0 : Int32) else (if a6 = a2 then (1 : Int32) else (if (f_X12_in (u41 1 (ix ((79 : Int32) + a6))) (u41 15 0) (u41 16 0)) = 0 then (0 : Int32) else (1 : Int32)))))), (0, .ref (g.2.2 100)), (1, .int (a1)), (2, .int (a2)), (3, .int (a3)), (4, .int (a4)), (6, .int (a6))]) hx hb dX12_whoseBut_84 hl (by decide) rfl (fun ls hl => ?_)
      refine lv_iinc (v := (a6 + (1 : Int32))) (lv' := [(6, .int ((a6 + (1 : Int32)))), (5, .int ((if a5 = 0 then (0 : Int32) else (if a6 = a2 then (1 : Int32) else (if (f_X12_in (u41 1 (ix ((79 : Int32) + a6))) (u41 15 0) (u41 16 0)) = 0 then (0 : Int32) else (1 : Int32)))))), (0, .ref (g.2.2 100)), (1, .int (a1)), (2, .int (a2)), (3, .int (a3)), (4, .int (a4))]) hx hb dX12_whoseBut_86 hl (k := 6) rfl rfl (by decide) rfl (fun ls hl => ?_)
      refine lv_goto (tgt := 22) hx hb dX12_whoseBut_89 (by decide) ?_
      have j89_hI : IB (u41 1) := by
        rw [z41]
        exact hI
      have j89_hV : HV (u41 1) := by
        rw [z41]
        exact hV
      have j89_h4b : a4.toInt < (u41 1 0).toInt := by
        rw [z41]
        exact h4b
      have j89_hm5 : ((u41 1 0).toInt - a4.toInt).toNat < N5 + 1 := by
        rw [z41]
        exact hm5
      have j89_h6 : 0 ≤ (a6 + (1 : Int32)).toInt := by
        have : ((1 : Int32)).toInt = 1 := by decide
        have := mt ti_le.mpr c_30
        try have := ti_add (a := a6) (b := (1 : Int32)) (by omega) (by omega)
        omega
      have j89_m : ((u41 1 4).toInt - (a6 + (1 : Int32)).toInt).toNat < N22 := by
        rw [z41]
        have : ((1 : Int32)).toInt = 1 := by decide
        have := mt ti_le.mpr c_30
        try have := ti_add (a := a6) (b := (1 : Int32)) (by omega) (by omega)
        omega
      exact hK22 u41 a1 a2 a3 a4 (if a5 = 0 then (0 : Int32) else (if a6 = a2 then (1 : Int32) else (if (f_X12_in (u41 1 (ix ((79 : Int32) + a6))) (u41 15 0) (u41 16 0)) = 0 then (0 : Int32) else (1 : Int32)))) (a6 + (1 : Int32)) j89_hI j89_hV h4 j89_h4b j89_hm5 j89_h6 j89_m hK hC (lv_sub hl [2, 3, 4, 5, 6, 1, 0] rfl) hT
    refine lv_if_eq (tgt := 83) hx hb dX12_whoseBut_46 (by decide) (fun c_46 => ?_) (fun c_46 => ?_)
    · refine lv_iconst (v := (0 : Int32)) hx hb dX12_whoseBut_83 (by decide) ?_
      exact J46 _ (iv_pos c_46 rfl)
    · refine lv_iload hx hb dX12_whoseBut_49 (lv_at hl 6 rfl) ?_
      refine lv_iload_n hx hb dX12_whoseBut_51 rfl (lv_at hl 2 rfl) ?_
      refine lv_icmp_eq (tgt := 79) hx hb dX12_whoseBut_52 (by decide) (fun c_52 => ?_) (fun c_52 => ?_)
      · refine lv_iconst (v := (1 : Int32)) hx hb dX12_whoseBut_79 (by decide) ?_
        refine lv_goto (tgt := 84) hx hb dX12_whoseBut_80 (by decide) ?_
        exact J46 _ (iv_neg c_46 (iv_pos c_52 rfl))
      · refine lv_aload_n hx hb dX12_whoseBut_55 rfl (lv_at hl 0 rfl) ?_
        refine m_get (σ := u41) (v := .ref (g.2.2 1)) C0 hK hC.1 1 (by decide) rfl w_968 dX12_whoseBut_56 ?_
        refine lv_bipush (v := (79 : Int32)) hx hb dX12_whoseBut_59 (by decide) ?_
        refine lv_iload hx hb dX12_whoseBut_61 (lv_at hl 6 rfl) ?_
        refine lv_iadd hx hb dX12_whoseBut_63 ?_
        have o_64 : vp_in ((79 : Int32) + a6) 916 := by
          have : ((0 : Int32)).toInt = 0 := by decide
          have : ((79 : Int32)).toInt = 79 := by decide
          have := mt ti_le.mpr c_30
          have := mt ti_eq.mpr c_46
          have := mt ti_eq.mpr c_52
          try have := ti_add (a := (79 : Int32)) (b := a6) (by omega) (by omega)
          exact vin (by omega) (by omega)
        refine m_ald (σ := u41) C0 hK hC.1 1 1 916 rfl o_64 (ix ((79 : Int32) + a6)) rfl dX12_whoseBut_64 ?_
        refine lv_aload_n hx hb dX12_whoseBut_65 rfl (lv_at hl 0 rfl) ?_
        refine m_get (σ := u41) (v := .int ((u41 15 0))) C0 hK hC.1 15 (by decide) rfl w_982 dX12_whoseBut_66 ?_
        refine lv_aload_n hx hb dX12_whoseBut_69 rfl (lv_at hl 0 rfl) ?_
        refine m_get (σ := u41) (v := .int ((u41 16 0))) C0 hK hC.1 16 (by decide) rfl w_983 dX12_whoseBut_70 ?_
        refine s_ci (rest := []) (As := [.int ((u41 1 (ix ((79 : Int32) + a6)))), .int ((u41 15 0)), .int ((u41 16 0))]) C0 cf_X12_in w_1060 (k_X12_in l (u41 1 (ix ((79 : Int32) + a6))) (u41 15 0) (u41 16 0) ) ⟨by decide, by decide⟩ hl.1 rfl rfl (Nat.le_of_ble_eq_true rfl) dX12_whoseBut_73 ⟨Nat.zero_le _, Nat.zero_le _⟩ ?_
        refine lv_if_eq (tgt := 83) hx hb dX12_whoseBut_76 (by decide) (fun c_76 => ?_) (fun c_76 => ?_)
        · refine lv_iconst (v := (0 : Int32)) hx hb dX12_whoseBut_83 (by decide) ?_
          exact J46 _ (iv_neg c_46 (iv_neg c_52 (iv_pos c_76 rfl)))
        · refine lv_iconst (v := (1 : Int32)) hx hb dX12_whoseBut_79 (by decide) ?_
          refine lv_goto (tgt := 84) hx hb dX12_whoseBut_80 (by decide) ?_
          exact J46 _ (iv_neg c_46 (iv_neg c_52 (iv_neg c_76 rfl)))
def g_X12_whoseBut_22 (K5 : St → Int32 → Int32 → Int32 → Int32 → Int32 × St) : Nat → St → Int32 → Int32 → Int32 → Int32 → Int32 → Int32 → Int32 × St
  | 0 => fun σ a1 a2 a3 a4 a5 a6 => (0, σ)
  | n + 1 => fun σ a1 a2 a3 a4 a5 a6 => f_X12_whoseBut_22 K5 (g_X12_whoseBut_22 K5 n) σ a1 a2 a3 a4 a5 a6
theorem l_X12_whoseBut_22 {g : GG} {p : Program} {l : Launch} {e : Env} {s : State} {m : MethodId} {args : Array Value} {below : List Frame} {meth : Method} {c : Code} {A : Nat → Prop} {tgt : Int32 × St} {K5 : St → Int32 → Int32 → Int32 → Int32 → Int32 × St} {N5 : Nat} (C0 : BC p s m args meth c cX12_whoseBut RX12 7 (some .int)) (hK5 : ∀ (σ : St) (a1 : Int32) (a2 : Int32) (a3 : Int32) (a4 : Int32), (IB (σ 1)) → (HV (σ 1)) → (0 ≤ a4.toInt) → ((σ 1 0).toInt - a4.toInt).toNat < N5 → ∀ {H : Heap} {locs : List Loc}, KK g s → WC g (mW g) A s.heap σ H locs → ∀ {ls : Array Slot}, lv_has ls 7 [(0, .ref (g.2.2 100)), (1, .int (a1)), (2, .int (a2)), (3, .int (a3)), (4, .int (a4))] → K5 σ a1 a2 a3 a4 = tgt → W p l e { frames := 3, cells := 0, slots := 0, locals := 79 } s m args below meth c H locs 0 0 (QMI below args s g (mW g) A tgt) (F0 m 5 ls [])) : ∀ (n : Nat) (σ : St) (a1 : Int32) (a2 : Int32) (a3 : Int32) (a4 : Int32) (a5 : Int32) (a6 : Int32), (IB (σ 1)) → (HV (σ 1)) → (0 ≤ a4.toInt) → (a4.toInt < (σ 1 0).toInt) → (((σ 1 0).toInt - a4.toInt).toNat < N5 + 1) → (0 ≤ a6.toInt) → ((σ 1 4).toInt - a6.toInt).toNat < n → ∀ {H : Heap} {locs : List Loc}, KK g s → WC g (mW g) A s.heap σ H locs → ∀ {ls : Array Slot}, lv_has ls 7 [(0, .ref (g.2.2 100)), (1, .int (a1)), (2, .int (a2)), (3, .int (a3)), (4, .int (a4)), (5, .int (a5)), (6, .int (a6))] → g_X12_whoseBut_22 K5 n σ a1 a2 a3 a4 a5 a6 = tgt → W p l e { frames := 3, cells := 0, slots := 0, locals := 79 } s m args below meth c H locs 0 0 (QMI below args s g (mW g) A tgt) (F0 m 22 ls []) := by
  intro n
  induction n with
  | zero => intro σ a1 a2 a3 a4 a5 a6 hI hV h4 h4b hm5 h6 hm; exact absurd hm (Nat.not_lt_zero _)
  | succ n ih =>
    intro σ a1 a2 a3 a4 a5 a6 hI hV h4 h4b hm5 h6 hm H locs hK hC ls hl hT
    exact b_X12_whoseBut_22  (K22 := g_X12_whoseBut_22 K5 n) (N22 := n) C0 hK5 (fun σ a1 a2 a3 a4 a5 a6 hI hV h4 h4b hm5 h6 hm2 => ih σ a1 a2 a3 a4 a5 a6 hI hV h4 h4b hm5 h6 hm2) hI hV h4 h4b hm5 h6 hm hK hC hl hT
def f_X12_whoseBut_5 (K5 : St → Int32 → Int32 → Int32 → Int32 → Int32 × St) (σ : St) (a1 : Int32) (a2 : Int32) (a3 : Int32) (a4 : Int32) : Int32 × St := (if (σ 1 0) ≤ a4 then (a3, σ) else (g_X12_whoseBut_22 K5 (7) σ a1 a2 a3 a4 (1 : Int32) (0 : Int32)))
set_option maxHeartbeats 600000 in
set_option maxRecDepth 100000 in
theorem b_X12_whoseBut_5 {g : GG} {p : Program} {l : Launch} {e : Env} {s : State} {m : MethodId} {args : Array Value} {below : List Frame} {meth : Method} {c : Code} {A : Nat → Prop} {tgt : Int32 × St} {K5 : St → Int32 → Int32 → Int32 → Int32 → Int32 × St} {N5 : Nat} (C0 : BC p s m args meth c cX12_whoseBut RX12 7 (some .int)) (hK5 : ∀ (σ : St) (a1 : Int32) (a2 : Int32) (a3 : Int32) (a4 : Int32), (IB (σ 1)) → (HV (σ 1)) → (0 ≤ a4.toInt) → ((σ 1 0).toInt - a4.toInt).toNat < N5 → ∀ {H : Heap} {locs : List Loc}, KK g s → WC g (mW g) A s.heap σ H locs → ∀ {ls : Array Slot}, lv_has ls 7 [(0, .ref (g.2.2 100)), (1, .int (a1)), (2, .int (a2)), (3, .int (a3)), (4, .int (a4))] → K5 σ a1 a2 a3 a4 = tgt → W p l e { frames := 3, cells := 0, slots := 0, locals := 79 } s m args below meth c H locs 0 0 (QMI below args s g (mW g) A tgt) (F0 m 5 ls [])) {σ : St} {a1 : Int32} {a2 : Int32} {a3 : Int32} {a4 : Int32} {H : Heap} {locs : List Loc} (hI : IB (σ 1)) (hV : HV (σ 1)) (h4 : 0 ≤ a4.toInt) (hm : ((σ 1 0).toInt - a4.toInt).toNat < N5 + 1) (hK : KK g s) (hC : WC g (mW g) A s.heap σ H locs) {ls : Array Slot} (hl : lv_has ls 7 [(0, .ref (g.2.2 100)), (1, .int (a1)), (2, .int (a2)), (3, .int (a3)), (4, .int (a4))]) (hT : f_X12_whoseBut_5 K5 σ a1 a2 a3 a4 = tgt) : W p l e { frames := 3, cells := 0, slots := 0, locals := 79 } s m args below meth c H locs 0 0 (QMI below args s g (mW g) A tgt) (F0 m 5 ls []) := by
  obtain ⟨hx, hb, hr, hml, hown, hts, hlocks⟩ := id C0
  unfold f_X12_whoseBut_5 at hT
  obtain ⟨⟨i0, i0'⟩, ⟨i1, i1'⟩, ⟨i2, i2'⟩, ⟨i3, i3'⟩, ⟨i4, i4'⟩, ⟨i5, i5'⟩, ⟨i6, i6'⟩, ⟨i7, i7'⟩, ⟨i8, i8'⟩, iK, iV, iL, iR, iW, iY, iG, iM, iB, iQ, iP, iT, iU⟩ := id hI
  refine lv_iload hx hb dX12_whoseBut_5 (lv_at hl 4 rfl) ?_
  refine lv_aload_n hx hb dX12_whoseBut_7 rfl (lv_at hl 0 rfl) ?_
  refine m_get (σ := σ) (v := .ref (g.2.2 1)) C0 hK hC.1 1 (by decide) rfl w_968 dX12_whoseBut_8 ?_
  refine lv_iconst (v := (0 : Int32)) hx hb dX12_whoseBut_11 (by decide) ?_
  refine m_ald (σ := σ) C0 hK hC.1 1 1 916 rfl (vin_l (by decide)) 0 (by decide) dX12_whoseBut_12 ?_
  refine lv_icmp_ge (tgt := 114) hx hb dX12_whoseBut_13 (by decide) (fun c_13 => ?_) (fun c_13 => ?_)
  · have hT := hT_pos c_13 hT
    refine lv_iload_n hx hb dX12_whoseBut_114 rfl (lv_at hl 3 rfl) ?_
    exact ret_MI C0 hC hT dX12_whoseBut_115
  · have hT := hT_neg c_13 hT
    refine lv_iconst (v := (1 : Int32)) hx hb dX12_whoseBut_16 (by decide) ?_
    refine lv_istore (lv' := [(5, .int ((1 : Int32))), (0, .ref (g.2.2 100)), (1, .int (a1)), (2, .int (a2)), (3, .int (a3)), (4, .int (a4))]) hx hb dX12_whoseBut_17 hl (by decide) rfl (fun ls hl => ?_)
    refine lv_iconst (v := (0 : Int32)) hx hb dX12_whoseBut_19 (by decide) ?_
    refine lv_istore (lv' := [(6, .int ((0 : Int32))), (5, .int ((1 : Int32))), (0, .ref (g.2.2 100)), (1, .int (a1)), (2, .int (a2)), (3, .int (a3)), (4, .int (a4))]) hx hb dX12_whoseBut_20 hl (by decide) rfl (fun ls hl => ?_)
    have j20_h4b : a4.toInt < (σ 1 0).toInt := by
      have : ((0 : Int32)).toInt = 0 := by decide
      have : ((1 : Int32)).toInt = 1 := by decide
      have := mt ti_le.mpr c_13
      omega
    have j20_hm5 : ((σ 1 0).toInt - a4.toInt).toNat < N5 + 1 := by
      have : ((0 : Int32)).toInt = 0 := by decide
      have : ((1 : Int32)).toInt = 1 := by decide
      have := mt ti_le.mpr c_13
      omega
    have j20_h6 : 0 ≤ (0 : Int32).toInt := by
      have : ((0 : Int32)).toInt = 0 := by decide
      have : ((1 : Int32)).toInt = 1 := by decide
      have := mt ti_le.mpr c_13
      omega
    have j20_m : ((σ 1 4).toInt - (0 : Int32).toInt).toNat < 7 := by
      have : ((0 : Int32)).toInt = 0 := by decide
      have : ((1 : Int32)).toInt = 1 := by decide
      have := mt ti_le.mpr c_13
      omega
    exact l_X12_whoseBut_22  C0 hK5  (7) σ a1 a2 a3 a4 (1 : Int32) (0 : Int32) hI hV h4 j20_h4b j20_hm5 j20_h6 j20_m hK hC (lv_sub hl [2, 3, 4, 5, 6, 1, 0] rfl) hT
def g_X12_whoseBut_5  : Nat → St → Int32 → Int32 → Int32 → Int32 → Int32 × St
  | 0 => fun σ a1 a2 a3 a4 => (0, σ)
  | n + 1 => fun σ a1 a2 a3 a4 => f_X12_whoseBut_5  (g_X12_whoseBut_5  n) σ a1 a2 a3 a4
theorem l_X12_whoseBut_5 {g : GG} {p : Program} {l : Launch} {e : Env} {s : State} {m : MethodId} {args : Array Value} {below : List Frame} {meth : Method} {c : Code} {A : Nat → Prop} {tgt : Int32 × St}  (C0 : BC p s m args meth c cX12_whoseBut RX12 7 (some .int))  : ∀ (n : Nat) (σ : St) (a1 : Int32) (a2 : Int32) (a3 : Int32) (a4 : Int32), (IB (σ 1)) → (HV (σ 1)) → (0 ≤ a4.toInt) → ((σ 1 0).toInt - a4.toInt).toNat < n → ∀ {H : Heap} {locs : List Loc}, KK g s → WC g (mW g) A s.heap σ H locs → ∀ {ls : Array Slot}, lv_has ls 7 [(0, .ref (g.2.2 100)), (1, .int (a1)), (2, .int (a2)), (3, .int (a3)), (4, .int (a4))] → g_X12_whoseBut_5  n σ a1 a2 a3 a4 = tgt → W p l e { frames := 3, cells := 0, slots := 0, locals := 79 } s m args below meth c H locs 0 0 (QMI below args s g (mW g) A tgt) (F0 m 5 ls []) := by
  intro n
  induction n with
  | zero => intro σ a1 a2 a3 a4 hI hV h4 hm; exact absurd hm (Nat.not_lt_zero _)
  | succ n ih =>
    intro σ a1 a2 a3 a4 hI hV h4 hm H locs hK hC ls hl hT
    exact b_X12_whoseBut_5  (K5 := g_X12_whoseBut_5  n) (N5 := n) C0  (fun σ a1 a2 a3 a4 hI hV h4 hm2 => ih σ a1 a2 a3 a4 hI hV h4 hm2) hI hV h4 hm hK hC hl hT
def f_X12_whoseBut (σ : St) (a1 : Int32) (a2 : Int32) : Int32 × St := (g_X12_whoseBut_5  (7) σ a1 a2 (0 : Int32) (0 : Int32))
set_option maxHeartbeats 600000 in
set_option maxRecDepth 100000 in
theorem k_X12_whoseBut (l : Launch) (g : GG) (σ : St) (a1 : Int32) (a2 : Int32) (hI : IB (σ 1)) (hV : HV (σ 1)) : MI l yX12_whoseBut (wsF yX12_whoseBut cX12_whoseBut 7 (some .int)) { frames := 3, cells := 0, slots := 0, locals := 79 } [.ref (g.2.2 100), .int (a1), .int (a2)] g (mW g) (fun _ => True) σ (f_X12_whoseBut σ a1 a2) := by
  refine start_MI (by decide) (Nat.le_of_ble_eq_true rfl) ?_
  intro p e s m args below meth c C0 hK hBg hC ls hl
  generalize hAe : aA ((mW g) σ) = A at hC ⊢
  obtain ⟨hx, hb, hr, hml, hown, hts, hlocks⟩ := id C0
  have hl : lv_has ls 7 [(0, .ref (g.2.2 100)), (1, .int (a1)), (2, .int (a2))] := hl
  generalize hT : (f_X12_whoseBut σ a1 a2) = tgt
  suffices key : ∀ (H : Heap) (locs : List Loc), WC g (mW g) A s.heap σ H locs → W p l e { frames := 3, cells := 0, slots := 0, locals := 79 } s m args below meth c H locs 0 0 (QMI below args s g (mW g) A tgt) (F0 m 0 ls []) from key _ _ hC
  intro H locs hC
  unfold f_X12_whoseBut at hT
  obtain ⟨⟨i0, i0'⟩, ⟨i1, i1'⟩, ⟨i2, i2'⟩, ⟨i3, i3'⟩, ⟨i4, i4'⟩, ⟨i5, i5'⟩, ⟨i6, i6'⟩, ⟨i7, i7'⟩, ⟨i8, i8'⟩, iK, iV, iL, iR, iW, iY, iG, iM, iB, iQ, iP, iT, iU⟩ := id hI
  refine lv_iconst (v := (0 : Int32)) hx hb dX12_whoseBut_0 (by decide) ?_
  refine lv_istore_n (lv' := [(3, .int ((0 : Int32))), (0, .ref (g.2.2 100)), (1, .int (a1)), (2, .int (a2))]) hx hb dX12_whoseBut_1 rfl hl (by decide) rfl (fun ls hl => ?_)
  refine lv_iconst (v := (0 : Int32)) hx hb dX12_whoseBut_2 (by decide) ?_
  refine lv_istore (lv' := [(4, .int ((0 : Int32))), (3, .int ((0 : Int32))), (0, .ref (g.2.2 100)), (1, .int (a1)), (2, .int (a2))]) hx hb dX12_whoseBut_3 hl (by decide) rfl (fun ls hl => ?_)
  have j3_h4 : 0 ≤ (0 : Int32).toInt := by
    have : ((0 : Int32)).toInt = 0 := by decide
    omega
  have j3_m : ((σ 1 0).toInt - (0 : Int32).toInt).toNat < 7 := by
    have : ((0 : Int32)).toInt = 0 := by decide
    omega
  exact l_X12_whoseBut_5  C0   (7) σ a1 a2 (0 : Int32) (0 : Int32) hI hV j3_h4 j3_m hK hC (lv_sub hl [2, 3, 4, 1, 0] rfl) hT
theorem whoseBut_in (K : St → Int32 → Int32 → Int32 → Int32 → Int32 × St) (hK : ∀ σ a1 a2 a3 a4, (K σ a1 a2 a3 a4).2 1 = σ 1) (n : Nat) : ∀ (σ : St) (a1 a2 a3 a4 a5 a6 : Int32), (g_X12_whoseBut_22 K n σ a1 a2 a3 a4 a5 a6).2 1 = σ 1 := by
  induction n with
  | zero => intro σ a1 a2 a3 a4 a5 a6; rfl
  | succ n ih =>
    intro σ a1 a2 a3 a4 a5 a6
    show (f_X12_whoseBut_22 K (g_X12_whoseBut_22 K n) σ a1 a2 a3 a4 a5 a6).2 1 = σ 1
    unfold f_X12_whoseBut_22
    split
    · rw [hK]
    · simp only [bd1]
      rw [ih, sets_1]
theorem whoseBut_out (n : Nat) : ∀ (σ : St) (a1 a2 a3 a4 : Int32), (g_X12_whoseBut_5 n σ a1 a2 a3 a4).2 1 = σ 1 := by
  induction n with
  | zero => intro σ a1 a2 a3 a4; rfl
  | succ n ih =>
    intro σ a1 a2 a3 a4
    show (f_X12_whoseBut_5 (g_X12_whoseBut_5 n) σ a1 a2 a3 a4).2 1 = σ 1
    unfold f_X12_whoseBut_5
    split
    · rfl
    · rw [whoseBut_in _ ih]
theorem whoseBut_1 (σ : St) (a b : Int32) : (f_X12_whoseBut σ a b).2 1 = σ 1 := whoseBut_out _ _ _ _ _ _
set_option maxRecDepth 20000 in
theorem w_1271 : (Cond.methodLink RX12 212 yX12_whoseBut) ∈ TB := inTB (List.mem_of_getElem? (i := 1271) (by decide +kernel)) (by decide +kernel)
set_option maxRecDepth 20000 in
theorem w_1274 : (Cond.code yX12_whoseBut cX12_whoseBut 7 (some .int)) ∈ TB := inTB (List.mem_of_getElem? (i := 1274) (by decide +kernel)) (by decide +kernel)
set_option maxRecDepth 20000 in
theorem w_1273 : (Cond.instanceMethod yX12_whoseBut) ∈ TB := inTB (List.mem_of_getElem? (i := 1273) (by decide +kernel)) (by decide +kernel)
set_option maxRecDepth 20000 in
theorem w_62 : (Cond.selects RX12 yX12_whoseBut yX12_whoseBut) ∈ TB := inTB (List.mem_of_getElem? (i := 62) (by decide +kernel)) (by decide +kernel)
theorem cf_X12_whoseBut : CF yX12_whoseBut cX12_whoseBut 7 (some .int) 2 := ⟨w_1273, w_62, w_75, w_1274, by decide +kernel, by decide +kernel, by decide +kernel⟩
/-! ThreeMeasuresModel.whose -/
theorem dX12_whose_0 : decode cX12_whose 0 = .ok (.aload_n 0, 1) := by decide +kernel
theorem dX12_whose_1 : decode cX12_whose 1 = .ok (.iload_n 1, 1) := by decide +kernel
theorem dX12_whose_2 : decode cX12_whose 2 = .ok (.invokevirtual 165, 3) := by decide +kernel
theorem dX12_whose_5 : decode cX12_whose 5 = .ok (.ifCond .eq 12, 3) := by decide +kernel
theorem dX12_whose_8 : decode cX12_whose 8 = .ok (.aload_n 0, 1) := by decide +kernel
theorem dX12_whose_9 : decode cX12_whose 9 = .ok (.iload_n 1, 1) := by decide +kernel
theorem dX12_whose_10 : decode cX12_whose 10 = .ok (.iconst (-1), 1) := by decide +kernel
theorem dX12_whose_11 : decode cX12_whose 11 = .ok (.invokevirtual 212, 3) := by decide +kernel
theorem dX12_whose_14 : decode cX12_whose 14 = .ok (.goto 4, 3) := by decide +kernel
theorem dX12_whose_17 : decode cX12_whose 17 = .ok (.iconst (-1), 1) := by decide +kernel
theorem dX12_whose_18 : decode cX12_whose 18 = .ok (.ireturn, 1) := by decide +kernel
def f_X12_whose (σ : St) (a1 : Int32) : Int32 × St := (if (f_X12_isWall σ a1) = 0 then ((-1 : Int32), σ) else (bd (f_X12_whoseBut σ a1 (-1 : Int32)) (fun r11 u11 => (r11, u11))))
set_option maxHeartbeats 600000 in
set_option maxRecDepth 100000 in
theorem k_X12_whose (l : Launch) (g : GG) (σ : St) (a1 : Int32) (hI : IB (σ 1)) (hV : HV (σ 1)) : MI l yX12_whose (wsF yX12_whose cX12_whose 2 (some .int)) { frames := 4, cells := 0, slots := 0, locals := 105 } [.ref (g.2.2 100), .int (a1)] g (mW g) (fun _ => True) σ (f_X12_whose σ a1) := by
  refine start_MI (by decide) (Nat.le_of_ble_eq_true rfl) ?_
  intro p e s m args below meth c C0 hK hBg hC ls hl
  generalize hAe : aA ((mW g) σ) = A at hC ⊢
  obtain ⟨hx, hb, hr, hml, hown, hts, hlocks⟩ := id C0
  have hl : lv_has ls 2 [(0, .ref (g.2.2 100)), (1, .int (a1))] := hl
  generalize hT : (f_X12_whose σ a1) = tgt
  suffices key : ∀ (H : Heap) (locs : List Loc), WC g (mW g) A s.heap σ H locs → W p l e { frames := 4, cells := 0, slots := 0, locals := 105 } s m args below meth c H locs 0 0 (QMI below args s g (mW g) A tgt) (F0 m 0 ls []) from key _ _ hC
  intro H locs hC
  unfold f_X12_whose at hT
  obtain ⟨⟨i0, i0'⟩, ⟨i1, i1'⟩, ⟨i2, i2'⟩, ⟨i3, i3'⟩, ⟨i4, i4'⟩, ⟨i5, i5'⟩, ⟨i6, i6'⟩, ⟨i7, i7'⟩, ⟨i8, i8'⟩, iK, iV, iL, iR, iW, iY, iG, iM, iB, iQ, iP, iT, iU⟩ := id hI
  refine lv_aload_n hx hb dX12_whose_0 rfl (lv_at hl 0 rfl) ?_
  refine lv_iload_n hx hb dX12_whose_1 rfl (lv_at hl 1 rfl) ?_
  refine m_ci (rest := []) (As := [.int (a1)]) (σ := σ) C0 hK hC.1 (hC.2.1.weaken (fun _ _ _ _ => trivial)) SV.tt (fun _ _ _ => trivial) cf_X12_isWall w_1147 rfl (k_X12_isWall l g σ a1 ) ⟨by decide, by decide⟩ hl.1 rfl rfl (Nat.le_of_ble_eq_true rfl) dX12_whose_2 ⟨Nat.zero_le _, Nat.zero_le _⟩ ?_
  refine lv_if_eq (tgt := 17) hx hb dX12_whose_5 (by decide) (fun c_5 => ?_) (fun c_5 => ?_)
  · have hT := hT_pos c_5 hT
    refine lv_iconst (v := (-1 : Int32)) hx hb dX12_whose_17 (by decide) ?_
    exact ret_MI C0 hC hT dX12_whose_18
  · have hT := hT_neg c_5 hT
    refine lv_aload_n hx hb dX12_whose_8 rfl (lv_at hl 0 rfl) ?_
    refine lv_iload_n hx hb dX12_whose_9 rfl (lv_at hl 1 rfl) ?_
    refine lv_iconst (v := (-1 : Int32)) hx hb dX12_whose_10 (by decide) ?_
    refine m_mi (rest := []) (As := [.int (a1), .int ((-1 : Int32))]) (σ := σ) C0 hK hC SV.tt (fun _ _ _ => trivial) cf_X12_whoseBut w_1271 rfl (k_X12_whoseBut l g σ a1 (-1 : Int32) hI hV) ⟨by decide, by decide⟩ hl.1 rfl rfl (Nat.le_of_ble_eq_true rfl) dX12_whose_11 ⟨Nat.zero_le _, Nat.zero_le _⟩ (fun r11 u11 H locs e11 hC => ?_)
    have hT := bd_e e11 hT
    have z11 : u11 1 = σ 1 := by
      rw [show u11 = _ from congrArg Prod.snd e11]
      exact whoseBut_1 _ _ _
    refine lv_goto (tgt := 18) hx hb dX12_whose_14 (by decide) ?_
    exact ret_MI C0 hC hT dX12_whose_18
/-! ThreeMeasuresModel.wrong -/
theorem dX12_wrong_0 : decode cX12_wrong 0 = .ok (.aload_n 0, 1) := by decide +kernel
theorem dX12_wrong_1 : decode cX12_wrong 1 = .ok (.iload_n 1, 1) := by decide +kernel
theorem dX12_wrong_2 : decode cX12_wrong 2 = .ok (.invokevirtual 165, 3) := by decide +kernel
theorem dX12_wrong_5 : decode cX12_wrong 5 = .ok (.ifCond .ne 5, 3) := by decide +kernel
theorem dX12_wrong_8 : decode cX12_wrong 8 = .ok (.iconst (-1), 1) := by decide +kernel
theorem dX12_wrong_9 : decode cX12_wrong 9 = .ok (.ireturn, 1) := by decide +kernel
theorem dX12_wrong_10 : decode cX12_wrong 10 = .ok (.aload_n 0, 1) := by decide +kernel
theorem dX12_wrong_11 : decode cX12_wrong 11 = .ok (.iload_n 1, 1) := by decide +kernel
theorem dX12_wrong_12 : decode cX12_wrong 12 = .ok (.iconst (-1), 1) := by decide +kernel
theorem dX12_wrong_13 : decode cX12_wrong 13 = .ok (.invokevirtual 212, 3) := by decide +kernel
theorem dX12_wrong_16 : decode cX12_wrong 16 = .ok (.ifCond .eq 6, 3) := by decide +kernel
theorem dX12_wrong_19 : decode cX12_wrong 19 = .ok (.bipush (-5), 2) := by decide +kernel
theorem dX12_wrong_21 : decode cX12_wrong 21 = .ok (.ireturn, 1) := by decide +kernel
theorem dX12_wrong_22 : decode cX12_wrong 22 = .ok (.iconst 0, 1) := by decide +kernel
theorem dX12_wrong_23 : decode cX12_wrong 23 = .ok (.istore_n 2, 1) := by decide +kernel
theorem dX12_wrong_24 : decode cX12_wrong 24 = .ok (.iload_n 2, 1) := by decide +kernel
theorem dX12_wrong_25 : decode cX12_wrong 25 = .ok (.aload_n 0, 1) := by decide +kernel
theorem dX12_wrong_26 : decode cX12_wrong 26 = .ok (.getfield 9, 3) := by decide +kernel
theorem dX12_wrong_29 : decode cX12_wrong 29 = .ok (.iconst 4, 1) := by decide +kernel
theorem dX12_wrong_30 : decode cX12_wrong 30 = .ok (.iaload, 1) := by decide +kernel
theorem dX12_wrong_31 : decode cX12_wrong 31 = .ok (.if_icmp .ge 20, 3) := by decide +kernel
theorem dX12_wrong_34 : decode cX12_wrong 34 = .ok (.aload_n 0, 1) := by decide +kernel
theorem dX12_wrong_35 : decode cX12_wrong 35 = .ok (.iload_n 1, 1) := by decide +kernel
theorem dX12_wrong_36 : decode cX12_wrong 36 = .ok (.iload_n 2, 1) := by decide +kernel
theorem dX12_wrong_37 : decode cX12_wrong 37 = .ok (.invokevirtual 212, 3) := by decide +kernel
theorem dX12_wrong_40 : decode cX12_wrong 40 = .ok (.ifCond .eq 5, 3) := by decide +kernel
theorem dX12_wrong_43 : decode cX12_wrong 43 = .ok (.iload_n 2, 1) := by decide +kernel
theorem dX12_wrong_44 : decode cX12_wrong 44 = .ok (.ireturn, 1) := by decide +kernel
theorem dX12_wrong_45 : decode cX12_wrong 45 = .ok (.iinc 2 1, 3) := by decide +kernel
theorem dX12_wrong_48 : decode cX12_wrong 48 = .ok (.goto (-24), 3) := by decide +kernel
theorem dX12_wrong_51 : decode cX12_wrong 51 = .ok (.bipush (-5), 2) := by decide +kernel
theorem dX12_wrong_53 : decode cX12_wrong 53 = .ok (.ireturn, 1) := by decide +kernel
def f_X12_wrong_24 (K24 : St → Int32 → Int32 → Int32 × St) (σ : St) (a1 : Int32) (a2 : Int32) : Int32 × St := (if (σ 1 4) ≤ a2 then ((-5 : Int32), σ) else (bd (f_X12_whoseBut σ a1 a2) (fun r37 u37 => (if r37 = 0 then (K24 u37 a1 (a2 + (1 : Int32))) else (a2, u37)))))
set_option maxHeartbeats 600000 in
set_option maxRecDepth 100000 in
theorem b_X12_wrong_24 {g : GG} {p : Program} {l : Launch} {e : Env} {s : State} {m : MethodId} {args : Array Value} {below : List Frame} {meth : Method} {c : Code} {A : Nat → Prop} {tgt : Int32 × St} {K24 : St → Int32 → Int32 → Int32 × St} {N24 : Nat} (C0 : BC p s m args meth c cX12_wrong RX12 3 (some .int)) (hK24 : ∀ (σ : St) (a1 : Int32) (a2 : Int32), (IB (σ 1)) → (HV (σ 1)) → (0 ≤ a2.toInt) → ((σ 1 4).toInt - a2.toInt).toNat < N24 → ∀ {H : Heap} {locs : List Loc}, KK g s → WC g (mW g) A s.heap σ H locs → ∀ {ls : Array Slot}, lv_has ls 3 [(0, .ref (g.2.2 100)), (1, .int (a1)), (2, .int (a2))] → K24 σ a1 a2 = tgt → W p l e { frames := 4, cells := 0, slots := 0, locals := 105 } s m args below meth c H locs 0 0 (QMI below args s g (mW g) A tgt) (F0 m 24 ls [])) {σ : St} {a1 : Int32} {a2 : Int32} {H : Heap} {locs : List Loc} (hI : IB (σ 1)) (hV : HV (σ 1)) (h2 : 0 ≤ a2.toInt) (hm : ((σ 1 4).toInt - a2.toInt).toNat < N24 + 1) (hK : KK g s) (hC : WC g (mW g) A s.heap σ H locs) {ls : Array Slot} (hl : lv_has ls 3 [(0, .ref (g.2.2 100)), (1, .int (a1)), (2, .int (a2))]) (hT : f_X12_wrong_24 K24 σ a1 a2 = tgt) : W p l e { frames := 4, cells := 0, slots := 0, locals := 105 } s m args below meth c H locs 0 0 (QMI below args s g (mW g) A tgt) (F0 m 24 ls []) := by
  obtain ⟨hx, hb, hr, hml, hown, hts, hlocks⟩ := id C0
  unfold f_X12_wrong_24 at hT
  obtain ⟨⟨i0, i0'⟩, ⟨i1, i1'⟩, ⟨i2, i2'⟩, ⟨i3, i3'⟩, ⟨i4, i4'⟩, ⟨i5, i5'⟩, ⟨i6, i6'⟩, ⟨i7, i7'⟩, ⟨i8, i8'⟩, iK, iV, iL, iR, iW, iY, iG, iM, iB, iQ, iP, iT, iU⟩ := id hI
  refine lv_iload_n hx hb dX12_wrong_24 rfl (lv_at hl 2 rfl) ?_
  refine lv_aload_n hx hb dX12_wrong_25 rfl (lv_at hl 0 rfl) ?_
  refine m_get (σ := σ) (v := .ref (g.2.2 1)) C0 hK hC.1 1 (by decide) rfl w_968 dX12_wrong_26 ?_
  refine lv_iconst (v := (4 : Int32)) hx hb dX12_wrong_29 (by decide) ?_
  refine m_ald (σ := σ) C0 hK hC.1 1 1 916 rfl (vin_l (by decide)) 4 (by decide) dX12_wrong_30 ?_
  refine lv_icmp_ge (tgt := 51) hx hb dX12_wrong_31 (by decide) (fun c_31 => ?_) (fun c_31 => ?_)
  · have hT := hT_pos c_31 hT
    refine lv_bipush (v := (-5 : Int32)) hx hb dX12_wrong_51 (by decide) ?_
    exact ret_MI C0 hC hT dX12_wrong_53
  · have hT := hT_neg c_31 hT
    refine lv_aload_n hx hb dX12_wrong_34 rfl (lv_at hl 0 rfl) ?_
    refine lv_iload_n hx hb dX12_wrong_35 rfl (lv_at hl 1 rfl) ?_
    refine lv_iload_n hx hb dX12_wrong_36 rfl (lv_at hl 2 rfl) ?_
    refine m_mi (rest := []) (As := [.int (a1), .int (a2)]) (σ := σ) C0 hK hC SV.tt (fun _ _ _ => trivial) cf_X12_whoseBut w_1271 rfl (k_X12_whoseBut l g σ a1 a2 hI hV) ⟨by decide, by decide⟩ hl.1 rfl rfl (Nat.le_of_ble_eq_true rfl) dX12_wrong_37 ⟨Nat.zero_le _, Nat.zero_le _⟩ (fun r37 u37 H locs e37 hC => ?_)
    have hT := bd_e e37 hT
    have z37 : u37 1 = σ 1 := by
      rw [show u37 = _ from congrArg Prod.snd e37]
      exact whoseBut_1 _ _ _
    refine lv_if_eq (tgt := 45) hx hb dX12_wrong_40 (by decide) (fun c_40 => ?_) (fun c_40 => ?_)
    · have hT := hT_pos c_40 hT
      refine lv_iinc (v := (a2 + (1 : Int32))) (lv' := [(2, .int ((a2 + (1 : Int32)))), (0, .ref (g.2.2 100)), (1, .int (a1))]) hx hb dX12_wrong_45 hl (k := 2) rfl rfl (by decide) rfl (fun ls hl => ?_)
      refine lv_goto (tgt := 24) hx hb dX12_wrong_48 (by decide) ?_
      have j48_hI : IB (u37 1) := by
        rw [z37]
        exact hI
      have j48_hV : HV (u37 1) := by
        rw [z37]
        exact hV
      have j48_h2 : 0 ≤ (a2 + (1 : Int32)).toInt := by
        have : ((0 : Int32)).toInt = 0 := by decide
        have : ((1 : Int32)).toInt = 1 := by decide
        have := mt ti_le.mpr c_31
        have := ti_eq.mp c_40
        try have := ti_add (a := a2) (b := (1 : Int32)) (by omega) (by omega)
        omega
      have j48_m : ((u37 1 4).toInt - (a2 + (1 : Int32)).toInt).toNat < N24 := by
        rw [z37]
        have : ((0 : Int32)).toInt = 0 := by decide
        have : ((1 : Int32)).toInt = 1 := by decide
        have := mt ti_le.mpr c_31
        have := ti_eq.mp c_40
        try have := ti_add (a := a2) (b := (1 : Int32)) (by omega) (by omega)
        omega
      exact hK24 u37 a1 (a2 + (1 : Int32)) j48_hI j48_hV j48_h2 j48_m hK hC (lv_sub hl [1, 2, 0] rfl) hT
    · have hT := hT_neg c_40 hT
      refine lv_iload_n hx hb dX12_wrong_43 rfl (lv_at hl 2 rfl) ?_
      exact ret_MI C0 hC hT dX12_wrong_44
def g_X12_wrong_24  : Nat → St → Int32 → Int32 → Int32 × St
  | 0 => fun σ a1 a2 => (0, σ)
  | n + 1 => fun σ a1 a2 => f_X12_wrong_24  (g_X12_wrong_24  n) σ a1 a2
theorem l_X12_wrong_24 {g : GG} {p : Program} {l : Launch} {e : Env} {s : State} {m : MethodId} {args : Array Value} {below : List Frame} {meth : Method} {c : Code} {A : Nat → Prop} {tgt : Int32 × St}  (C0 : BC p s m args meth c cX12_wrong RX12 3 (some .int))  : ∀ (n : Nat) (σ : St) (a1 : Int32) (a2 : Int32), (IB (σ 1)) → (HV (σ 1)) → (0 ≤ a2.toInt) → ((σ 1 4).toInt - a2.toInt).toNat < n → ∀ {H : Heap} {locs : List Loc}, KK g s → WC g (mW g) A s.heap σ H locs → ∀ {ls : Array Slot}, lv_has ls 3 [(0, .ref (g.2.2 100)), (1, .int (a1)), (2, .int (a2))] → g_X12_wrong_24  n σ a1 a2 = tgt → W p l e { frames := 4, cells := 0, slots := 0, locals := 105 } s m args below meth c H locs 0 0 (QMI below args s g (mW g) A tgt) (F0 m 24 ls []) := by
  intro n
  induction n with
  | zero => intro σ a1 a2 hI hV h2 hm; exact absurd hm (Nat.not_lt_zero _)
  | succ n ih =>
    intro σ a1 a2 hI hV h2 hm H locs hK hC ls hl hT
    exact b_X12_wrong_24  (K24 := g_X12_wrong_24  n) (N24 := n) C0  (fun σ a1 a2 hI hV h2 hm2 => ih σ a1 a2 hI hV h2 hm2) hI hV h2 hm hK hC hl hT
def f_X12_wrong (σ : St) (a1 : Int32) : Int32 × St := (if (f_X12_isWall σ a1) = 0 then ((-1 : Int32), σ) else (bd (f_X12_whoseBut σ a1 (-1 : Int32)) (fun r13 u13 => (if r13 = 0 then (g_X12_wrong_24  (7) u13 a1 (0 : Int32)) else ((-5 : Int32), u13)))))
set_option maxHeartbeats 600000 in
set_option maxRecDepth 100000 in
theorem k_X12_wrong (l : Launch) (g : GG) (σ : St) (a1 : Int32) (hI : IB (σ 1)) (hV : HV (σ 1)) : MI l yX12_wrong (wsF yX12_wrong cX12_wrong 3 (some .int)) { frames := 4, cells := 0, slots := 0, locals := 105 } [.ref (g.2.2 100), .int (a1)] g (mW g) (fun _ => True) σ (f_X12_wrong σ a1) := by
  refine start_MI (by decide) (Nat.le_of_ble_eq_true rfl) ?_
  intro p e s m args below meth c C0 hK hBg hC ls hl
  generalize hAe : aA ((mW g) σ) = A at hC ⊢
  obtain ⟨hx, hb, hr, hml, hown, hts, hlocks⟩ := id C0
  have hl : lv_has ls 3 [(0, .ref (g.2.2 100)), (1, .int (a1))] := hl
  generalize hT : (f_X12_wrong σ a1) = tgt
  suffices key : ∀ (H : Heap) (locs : List Loc), WC g (mW g) A s.heap σ H locs → W p l e { frames := 4, cells := 0, slots := 0, locals := 105 } s m args below meth c H locs 0 0 (QMI below args s g (mW g) A tgt) (F0 m 0 ls []) from key _ _ hC
  intro H locs hC
  unfold f_X12_wrong at hT
  obtain ⟨⟨i0, i0'⟩, ⟨i1, i1'⟩, ⟨i2, i2'⟩, ⟨i3, i3'⟩, ⟨i4, i4'⟩, ⟨i5, i5'⟩, ⟨i6, i6'⟩, ⟨i7, i7'⟩, ⟨i8, i8'⟩, iK, iV, iL, iR, iW, iY, iG, iM, iB, iQ, iP, iT, iU⟩ := id hI
  refine lv_aload_n hx hb dX12_wrong_0 rfl (lv_at hl 0 rfl) ?_
  refine lv_iload_n hx hb dX12_wrong_1 rfl (lv_at hl 1 rfl) ?_
  refine m_ci (rest := []) (As := [.int (a1)]) (σ := σ) C0 hK hC.1 (hC.2.1.weaken (fun _ _ _ _ => trivial)) SV.tt (fun _ _ _ => trivial) cf_X12_isWall w_1147 rfl (k_X12_isWall l g σ a1 ) ⟨by decide, by decide⟩ hl.1 rfl rfl (Nat.le_of_ble_eq_true rfl) dX12_wrong_2 ⟨Nat.zero_le _, Nat.zero_le _⟩ ?_
  refine lv_if_ne (tgt := 10) hx hb dX12_wrong_5 (by decide) (fun c_5 => ?_) (fun c_5 => ?_)
  · have hT := hT_neg c_5 hT
    refine lv_aload_n hx hb dX12_wrong_10 rfl (lv_at hl 0 rfl) ?_
    refine lv_iload_n hx hb dX12_wrong_11 rfl (lv_at hl 1 rfl) ?_
    refine lv_iconst (v := (-1 : Int32)) hx hb dX12_wrong_12 (by decide) ?_
    refine m_mi (rest := []) (As := [.int (a1), .int ((-1 : Int32))]) (σ := σ) C0 hK hC SV.tt (fun _ _ _ => trivial) cf_X12_whoseBut w_1271 rfl (k_X12_whoseBut l g σ a1 (-1 : Int32) hI hV) ⟨by decide, by decide⟩ hl.1 rfl rfl (Nat.le_of_ble_eq_true rfl) dX12_wrong_13 ⟨Nat.zero_le _, Nat.zero_le _⟩ (fun r13 u13 H locs e13 hC => ?_)
    have hT := bd_e e13 hT
    have z13 : u13 1 = σ 1 := by
      rw [show u13 = _ from congrArg Prod.snd e13]
      exact whoseBut_1 _ _ _
    refine lv_if_eq (tgt := 22) hx hb dX12_wrong_16 (by decide) (fun c_16 => ?_) (fun c_16 => ?_)
    · have hT := hT_pos c_16 hT
      refine lv_iconst (v := (0 : Int32)) hx hb dX12_wrong_22 (by decide) ?_
      refine lv_istore_n (lv' := [(2, .int ((0 : Int32))), (0, .ref (g.2.2 100)), (1, .int (a1))]) hx hb dX12_wrong_23 rfl hl (by decide) rfl (fun ls hl => ?_)
      have j23_hI : IB (u13 1) := by
        rw [z13]
        exact hI
      have j23_hV : HV (u13 1) := by
        rw [z13]
        exact hV
      have j23_h2 : 0 ≤ (0 : Int32).toInt := by
        have : ((0 : Int32)).toInt = 0 := by decide
        have := isWall_ne hI.2.1.1 c_5
        have := ti_eq.mp c_16
        omega
      have j23_m : ((u13 1 4).toInt - (0 : Int32).toInt).toNat < 7 := by
        rw [z13]
        have : ((0 : Int32)).toInt = 0 := by decide
        have := isWall_ne hI.2.1.1 c_5
        have := ti_eq.mp c_16
        omega
      exact l_X12_wrong_24  C0   (7) u13 a1 (0 : Int32) j23_hI j23_hV j23_h2 j23_m hK hC (lv_sub hl [1, 2, 0] rfl) hT
    · have hT := hT_neg c_16 hT
      refine lv_bipush (v := (-5 : Int32)) hx hb dX12_wrong_19 (by decide) ?_
      exact ret_MI C0 hC hT dX12_wrong_21
  · have hT := hT_pos c_5 hT
    refine lv_iconst (v := (-1 : Int32)) hx hb dX12_wrong_8 (by decide) ?_
    exact ret_MI C0 hC hT dX12_wrong_9
