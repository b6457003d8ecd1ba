/-! THE LAW: its calls, one by one -/
theorem dL_188 : decode code 188 = .ok (.aload_n 1, 1) := by decide +kernel
theorem dL_189 : decode code 189 = .ok (.aload_n 0, 1) := by decide +kernel
theorem dL_190 : decode code 190 = .ok (.iload_n 3, 1) := by decide +kernel
theorem dL_191 : decode code 191 = .ok (.iconst 1, 1) := by decide +kernel
theorem dL_192 : decode code 192 = .ok (.iadd, 1) := by decide +kernel
theorem dL_193 : decode code 193 = .ok (.iaload, 1) := by decide +kernel
theorem dL_194 : decode code 194 = .ok (.invokevirtual 13, 3) := by decide +kernel
theorem dL_197 : decode code 197 = .ok (.aload_n 2, 1) := by decide +kernel
theorem dL_198 : decode code 198 = .ok (.aload_n 0, 1) := by decide +kernel
theorem dL_199 : decode code 199 = .ok (.iload_n 3, 1) := by decide +kernel
theorem dL_200 : decode code 200 = .ok (.iconst 1, 1) := by decide +kernel
theorem dL_201 : decode code 201 = .ok (.iadd, 1) := by decide +kernel
theorem dL_202 : decode code 202 = .ok (.iaload, 1) := by decide +kernel
theorem dL_203 : decode code 203 = .ok (.invokevirtual 17, 3) := by decide +kernel
theorem dL_206 : decode code 206 = .ok (.if_icmp .eq 1076, 3) := by decide +kernel
set_option maxRecDepth 20000 in
theorem w_260 : (Cond.methodLink RL 13 yX11_feed) ∈ TB := inTB (List.mem_of_getElem? (i := 260) (by decide +kernel)) (by decide +kernel)
set_option maxRecDepth 20000 in
theorem w_263 : (Cond.code yX11_feed cX11_feed 2 (some .int)) ∈ TB := inTB (List.mem_of_getElem? (i := 263) (by decide +kernel)) (by decide +kernel)
set_option maxRecDepth 20000 in
theorem w_261 : (Cond.instanceMethod yX11_feed) ∈ TB := inTB (List.mem_of_getElem? (i := 261) (by decide +kernel)) (by decide +kernel)
set_option maxRecDepth 20000 in
theorem w_262 : (Cond.selects RX11 yX11_feed yX11_feed) ∈ TB := inTB (List.mem_of_getElem? (i := 262) (by decide +kernel)) (by decide +kernel)
theorem cf_X11_feed : CF yX11_feed cX11_feed 2 (some .int) 1 := ⟨w_261, w_262, w_71, w_263, by decide +kernel, by decide +kernel, by decide +kernel⟩
set_option maxRecDepth 20000 in
theorem w_1056 : (Cond.methodLink RL 17 yX12_feed) ∈ TB := inTB (List.mem_of_getElem? (i := 1056) (by decide +kernel)) (by decide +kernel)
set_option maxRecDepth 20000 in
theorem w_1059 : (Cond.code yX12_feed cX12_feed 2 (some .int)) ∈ TB := inTB (List.mem_of_getElem? (i := 1059) (by decide +kernel)) (by decide +kernel)
set_option maxRecDepth 20000 in
theorem w_1057 : (Cond.instanceMethod yX12_feed) ∈ TB := inTB (List.mem_of_getElem? (i := 1057) (by decide +kernel)) (by decide +kernel)
set_option maxRecDepth 20000 in
theorem w_1058 : (Cond.selects RX12 yX12_feed yX12_feed) ∈ TB := inTB (List.mem_of_getElem? (i := 1058) (by decide +kernel)) (by decide +kernel)
theorem cf_X12_feed : CF yX12_feed cX12_feed 2 (some .int) 1 := ⟨w_1057, w_1058, w_75, w_1059, by decide +kernel, by decide +kernel, by decide +kernel⟩
set_option maxHeartbeats 1000000 in
set_option maxRecDepth 100000 in
theorem lc_feed {p : Program} {l : Launch} {e : Env} {s : State} {m : MethodId} {below : List Frame} {meth : Method} {c : Code} {Q : State → Prop} {b L : Nat} {xs : Nat → Int32} {g : GG} {f : Nat → Nat} {aK aV : Nat → Nat} (C0 : BC p s m #[Value.ref b] meth c code RL 4 ret) (E : LE g aK aV s) (hX : va_X b L xs s s.heap) (hbl : b < s.heap.size) {i : Int32} (hi : vp_in (i + 1) L ∧ vp_in (i + 2) L ∧ vp_in (i + 3) L ∧ vp_in (i + 4) L ∧ vp_in (i + 5) L) {x : X3} {σ : St} {H : Heap} {locs : List Loc} {cells slots : Nat} (hc : cells + 2 ≤ 600000) (hs : slots + 103 ≤ 7302250) {ls : Array Slot} (hl : lv_has ls 4 [(0, .ref b), (1, .ref (g.2.2 100)), (2, .ref (f 100)), (3, .int i)]) (h : LH g f s x σ H locs) (hR : RLL x.1 x.2.1 x.2.2 σ)
    (kk : ∀ (x' : X3) (σ' : St) (H' : Heap) (locs' : List Loc), LH g f s x' σ' H' locs' → RLL x'.1 x'.2.1 x'.2.2 σ' → W p l e room_1 s m #[Value.ref b] below meth c H' locs' (cells + 2) (slots + 103) Q (F0 m 1282 ls [])) : W p l e room_1 s m #[Value.ref b] below meth c H locs cells slots Q (F0 m 188 ls []) := by
  obtain ⟨hx, hb, -, -, -, -, -⟩ := id C0
  obtain ⟨ρ, dt, τ⟩ := x
  have hR : RLL ρ dt τ σ := hR
  refine lv_aload_n hx hb dL_188 rfl (lv_at hl 1 rfl) ?_
  refine law_arg (v := 1) hx hb hX hbl h (lv_at hl 0 rfl) (lv_at hl 3 rfl) hi.1 dL_189 dL_190 dL_191 (by decide) dL_192 dL_193 ?_
  refine h.cmi (run_V (rm := { frames := 0, cells := 0, slots := 0, locals := 0 }) (As := [.int (xs (ix (i + 1)))]) (rest := []) C0 cf_X11_feed w_260 ⟨Nat.le_of_ble_eq_true rfl, Nat.le_of_ble_eq_true rfl⟩ (k_X11_feed l g ρ dt τ (xs (ix (i + 1))) hR.ix) (h.px E) rfl hl.1 rfl (Nat.le_of_ble_eq_true rfl) dL_194 ⟨by show cells + 0 ≤ 600000; omega, by show slots + 0 ≤ 7302250; omega⟩) (fun H locs h => ?_)
  refine lv_aload_n hx hb dL_197 rfl (lv_at hl 2 rfl) ?_
  refine law_arg (v := 1) hx hb hX hbl h (lv_at hl 0 rfl) (lv_at hl 3 rfl) hi.1 dL_198 dL_199 dL_200 (by decide) dL_201 dL_202 ?_
  refine h.cmm (run_V (rm := { frames := 1, cells := 0, slots := 0, locals := 22 }) (As := [.int (xs (ix (i + 1)))]) (rest := [.int ((f_X11_feed τ (xs (ix (i + 1)))).1)]) C0 cf_X12_feed w_1056 ⟨Nat.le_of_ble_eq_true rfl, Nat.le_of_ble_eq_true rfl⟩ (k_X12_feed l (gA g f) σ (xs (ix (i + 1))) hR.ib) (h.pm E) rfl hl.1 rfl (Nat.le_of_ble_eq_true rfl) dL_203 ⟨by show cells + 0 ≤ 600000; omega, by show slots + 0 ≤ 7302250; omega⟩) (fun H locs h => ?_)
  have er := hR.q1 (c_feed hR.rn hR.ib (xs (ix (i + 1))))
  refine lv_icmp_eq (tgt := 1282) hx hb dL_206 (by decide) (fun _ => ?_) (fun n => absurd er.1 n)
  refine W.widen (k := cells + 2) (n := slots + 103) (by omega) (by omega) ?_
  exact kk _ _ H locs h er.2
theorem dL_211 : decode code 211 = .ok (.aload_n 1, 1) := by decide +kernel
theorem dL_212 : decode code 212 = .ok (.invokevirtual 18, 3) := by decide +kernel
theorem dL_215 : decode code 215 = .ok (.aload_n 2, 1) := by decide +kernel
theorem dL_216 : decode code 216 = .ok (.invokevirtual 22, 3) := by decide +kernel
theorem dL_219 : decode code 219 = .ok (.if_icmp .eq 1063, 3) := by decide +kernel
set_option maxRecDepth 20000 in
theorem w_264 : (Cond.methodLink RL 18 yX11_room) ∈ TB := inTB (List.mem_of_getElem? (i := 264) (by decide +kernel)) (by decide +kernel)
set_option maxRecDepth 20000 in
theorem w_267 : (Cond.code yX11_room cX11_room 2 (some .int)) ∈ TB := inTB (List.mem_of_getElem? (i := 267) (by decide +kernel)) (by decide +kernel)
set_option maxRecDepth 20000 in
theorem w_265 : (Cond.instanceMethod yX11_room) ∈ TB := inTB (List.mem_of_getElem? (i := 265) (by decide +kernel)) (by decide +kernel)
set_option maxRecDepth 20000 in
theorem w_266 : (Cond.selects RX11 yX11_room yX11_room) ∈ TB := inTB (List.mem_of_getElem? (i := 266) (by decide +kernel)) (by decide +kernel)
theorem cf_X11_room : CF yX11_room cX11_room 2 (some .int) 0 := ⟨w_265, w_266, w_71, w_267, by decide +kernel, by decide +kernel, by decide +kernel⟩
set_option maxRecDepth 20000 in
theorem w_1063 : (Cond.methodLink RL 22 yX12_room) ∈ TB := inTB (List.mem_of_getElem? (i := 1063) (by decide +kernel)) (by decide +kernel)
set_option maxRecDepth 20000 in
theorem w_1066 : (Cond.code yX12_room cX12_room 2 (some .int)) ∈ TB := inTB (List.mem_of_getElem? (i := 1066) (by decide +kernel)) (by decide +kernel)
set_option maxRecDepth 20000 in
theorem w_1064 : (Cond.instanceMethod yX12_room) ∈ TB := inTB (List.mem_of_getElem? (i := 1064) (by decide +kernel)) (by decide +kernel)
set_option maxRecDepth 20000 in
theorem w_1065 : (Cond.selects RX12 yX12_room yX12_room) ∈ TB := inTB (List.mem_of_getElem? (i := 1065) (by decide +kernel)) (by decide +kernel)
theorem cf_X12_room : CF yX12_room cX12_room 2 (some .int) 0 := ⟨w_1064, w_1065, w_75, w_1066, by decide +kernel, by decide +kernel, by decide +kernel⟩
set_option maxHeartbeats 1000000 in
set_option maxRecDepth 100000 in
theorem lc_room {p : Program} {l : Launch} {e : Env} {s : State} {m : MethodId} {below : List Frame} {meth : Method} {c : Code} {Q : State → Prop} {b L : Nat} {xs : Nat → Int32} {g : GG} {f : Nat → Nat} {aK aV : Nat → Nat} (C0 : BC p s m #[Value.ref b] meth c code RL 4 ret) (E : LE g aK aV s) (hX : va_X b L xs s s.heap) (hbl : b < s.heap.size) {i : Int32} (hi : vp_in (i + 1) L ∧ vp_in (i + 2) L ∧ vp_in (i + 3) L ∧ vp_in (i + 4) L ∧ vp_in (i + 5) L) {x : X3} {σ : St} {H : Heap} {locs : List Loc} {cells slots : Nat} (hc : cells + 2 ≤ 600000) (hs : slots + 103 ≤ 7302250) {ls : Array Slot} (hl : lv_has ls 4 [(0, .ref b), (1, .ref (g.2.2 100)), (2, .ref (f 100)), (3, .int i)]) (h : LH g f s x σ H locs) (hR : RLL x.1 x.2.1 x.2.2 σ)
    (kk : ∀ (x' : X3) (σ' : St) (H' : Heap) (locs' : List Loc), LH g f s x' σ' H' locs' → RLL x'.1 x'.2.1 x'.2.2 σ' → W p l e room_1 s m #[Value.ref b] below meth c H' locs' (cells + 2) (slots + 103) Q (F0 m 1282 ls [])) : W p l e room_1 s m #[Value.ref b] below meth c H locs cells slots Q (F0 m 211 ls []) := by
  obtain ⟨hx, hb, -, -, -, -, -⟩ := id C0
  have hfr := h.fr
  refine lv_aload_n hx hb dL_211 rfl (lv_at hl 1 rfl) ?_
  refine h.cxi (mc := 2) (ms := 103) (run_V (rm := { frames := 39, cells := 2, slots := 103, locals := 880 }) (As := []) (rest := []) C0 cf_X11_room w_264 ⟨Nat.le_of_ble_eq_true rfl, Nat.le_of_ble_eq_true rfl⟩ (k_X11_room l g aK aV x H.size hR.ix hR.2.2.2) (h.pxx E) rfl hl.1 rfl (Nat.le_of_ble_eq_true rfl) dL_212 ⟨by show cells + 2 ≤ 600000; omega, by show slots + 103 ≤ 7302250; omega⟩) (fun r u H1 hu hN => old_room hfr hu hN) (fun r u H locs hu h => ?_)
  refine lv_aload_n hx hb dL_215 rfl (lv_at hl 2 rfl) ?_
  refine h.cmm (run_V (rm := { frames := 40, cells := 0, slots := 0, locals := 856 }) (As := []) (rest := [.int (r)]) C0 cf_X12_room w_1063 ⟨Nat.le_of_ble_eq_true rfl, Nat.le_of_ble_eq_true rfl⟩ (k_X12_room l (gA g f) aK aV σ hR.ib) (h.pmb E) rfl hl.1 rfl (Nat.le_of_ble_eq_true rfl) dL_216 ⟨by show cells + 2 + 0 ≤ 600000; omega, by show slots + 103 + 0 ≤ 7302250; omega⟩) (fun H locs h => ?_)
  have er := room_ok hR hfr hu
  refine lv_icmp_eq (tgt := 1282) hx hb dL_219 (by decide) (fun _ => ?_) (fun n => absurd er.1 n)
  refine W.widen (k := cells + 2) (n := slots + 103) (by omega) (by omega) ?_
  exact kk _ _ H locs h er.2
theorem dL_224 : decode code 224 = .ok (.aload_n 1, 1) := by decide +kernel
theorem dL_225 : decode code 225 = .ok (.aload_n 0, 1) := by decide +kernel
theorem dL_226 : decode code 226 = .ok (.iload_n 3, 1) := by decide +kernel
theorem dL_227 : decode code 227 = .ok (.iconst 1, 1) := by decide +kernel
theorem dL_228 : decode code 228 = .ok (.iadd, 1) := by decide +kernel
theorem dL_229 : decode code 229 = .ok (.iaload, 1) := by decide +kernel
theorem dL_230 : decode code 230 = .ok (.aload_n 0, 1) := by decide +kernel
theorem dL_231 : decode code 231 = .ok (.iload_n 3, 1) := by decide +kernel
theorem dL_232 : decode code 232 = .ok (.iconst 2, 1) := by decide +kernel
theorem dL_233 : decode code 233 = .ok (.iadd, 1) := by decide +kernel
theorem dL_234 : decode code 234 = .ok (.iaload, 1) := by decide +kernel
theorem dL_235 : decode code 235 = .ok (.aload_n 0, 1) := by decide +kernel
theorem dL_236 : decode code 236 = .ok (.iload_n 3, 1) := by decide +kernel
theorem dL_237 : decode code 237 = .ok (.iconst 3, 1) := by decide +kernel
theorem dL_238 : decode code 238 = .ok (.iadd, 1) := by decide +kernel
theorem dL_239 : decode code 239 = .ok (.iaload, 1) := by decide +kernel
theorem dL_240 : decode code 240 = .ok (.invokevirtual 23, 3) := by decide +kernel
theorem dL_243 : decode code 243 = .ok (.aload_n 2, 1) := by decide +kernel
theorem dL_244 : decode code 244 = .ok (.aload_n 0, 1) := by decide +kernel
theorem dL_245 : decode code 245 = .ok (.iload_n 3, 1) := by decide +kernel
theorem dL_246 : decode code 246 = .ok (.iconst 1, 1) := by decide +kernel
theorem dL_247 : decode code 247 = .ok (.iadd, 1) := by decide +kernel
theorem dL_248 : decode code 248 = .ok (.iaload, 1) := by decide +kernel
theorem dL_249 : decode code 249 = .ok (.aload_n 0, 1) := by decide +kernel
theorem dL_250 : decode code 250 = .ok (.iload_n 3, 1) := by decide +kernel
theorem dL_251 : decode code 251 = .ok (.iconst 2, 1) := by decide +kernel
theorem dL_252 : decode code 252 = .ok (.iadd, 1) := by decide +kernel
theorem dL_253 : decode code 253 = .ok (.iaload, 1) := by decide +kernel
theorem dL_254 : decode code 254 = .ok (.aload_n 0, 1) := by decide +kernel
theorem dL_255 : decode code 255 = .ok (.iload_n 3, 1) := by decide +kernel
theorem dL_256 : decode code 256 = .ok (.iconst 3, 1) := by decide +kernel
theorem dL_257 : decode code 257 = .ok (.iadd, 1) := by decide +kernel
theorem dL_258 : decode code 258 = .ok (.iaload, 1) := by decide +kernel
theorem dL_259 : decode code 259 = .ok (.invokevirtual 27, 3) := by decide +kernel
theorem dL_262 : decode code 262 = .ok (.if_icmp .eq 1020, 3) := by decide +kernel
set_option maxRecDepth 20000 in
theorem w_460 : (Cond.methodLink RL 23 yX11_stick) ∈ TB := inTB (List.mem_of_getElem? (i := 460) (by decide +kernel)) (by decide +kernel)
set_option maxRecDepth 20000 in
theorem w_463 : (Cond.code yX11_stick cX11_stick 4 (some .int)) ∈ TB := inTB (List.mem_of_getElem? (i := 463) (by decide +kernel)) (by decide +kernel)
set_option maxRecDepth 20000 in
theorem w_461 : (Cond.instanceMethod yX11_stick) ∈ TB := inTB (List.mem_of_getElem? (i := 461) (by decide +kernel)) (by decide +kernel)
set_option maxRecDepth 20000 in
theorem w_462 : (Cond.selects RX11 yX11_stick yX11_stick) ∈ TB := inTB (List.mem_of_getElem? (i := 462) (by decide +kernel)) (by decide +kernel)
theorem cf_X11_stick : CF yX11_stick cX11_stick 4 (some .int) 3 := ⟨w_461, w_462, w_71, w_463, by decide +kernel, by decide +kernel, by decide +kernel⟩
set_option maxRecDepth 20000 in
theorem w_1123 : (Cond.methodLink RL 27 yX12_stick) ∈ TB := inTB (List.mem_of_getElem? (i := 1123) (by decide +kernel)) (by decide +kernel)
set_option maxRecDepth 20000 in
theorem w_1126 : (Cond.code yX12_stick cX12_stick 6 (some .int)) ∈ TB := inTB (List.mem_of_getElem? (i := 1126) (by decide +kernel)) (by decide +kernel)
set_option maxRecDepth 20000 in
theorem w_1124 : (Cond.instanceMethod yX12_stick) ∈ TB := inTB (List.mem_of_getElem? (i := 1124) (by decide +kernel)) (by decide +kernel)
set_option maxRecDepth 20000 in
theorem w_1125 : (Cond.selects RX12 yX12_stick yX12_stick) ∈ TB := inTB (List.mem_of_getElem? (i := 1125) (by decide +kernel)) (by decide +kernel)
theorem cf_X12_stick : CF yX12_stick cX12_stick 6 (some .int) 3 := ⟨w_1124, w_1125, w_75, w_1126, by decide +kernel, by decide +kernel, by decide +kernel⟩
set_option maxHeartbeats 1000000 in
set_option maxRecDepth 100000 in
theorem lc_stick {p : Program} {l : Launch} {e : Env} {s : State} {m : MethodId} {below : List Frame} {meth : Method} {c : Code} {Q : State → Prop} {b L : Nat} {xs : Nat → Int32} {g : GG} {f : Nat → Nat} {aK aV : Nat → Nat} (C0 : BC p s m #[Value.ref b] meth c code RL 4 ret) (E : LE g aK aV s) (hX : va_X b L xs s s.heap) (hbl : b < s.heap.size) {i : Int32} (hi : vp_in (i + 1) L ∧ vp_in (i + 2) L ∧ vp_in (i + 3) L ∧ vp_in (i + 4) L ∧ vp_in (i + 5) L) {x : X3} {σ : St} {H : Heap} {locs : List Loc} {cells slots : Nat} (hc : cells + 2 ≤ 600000) (hs : slots + 103 ≤ 7302250) {ls : Array Slot} (hl : lv_has ls 4 [(0, .ref b), (1, .ref (g.2.2 100)), (2, .ref (f 100)), (3, .int i)]) (h : LH g f s x σ H locs) (hR : RLL x.1 x.2.1 x.2.2 σ)
    (kk : ∀ (x' : X3) (σ' : St) (H' : Heap) (locs' : List Loc), LH g f s x' σ' H' locs' → RLL x'.1 x'.2.1 x'.2.2 σ' → W p l e room_1 s m #[Value.ref b] below meth c H' locs' (cells + 2) (slots + 103) Q (F0 m 1282 ls [])) : W p l e room_1 s m #[Value.ref b] below meth c H locs cells slots Q (F0 m 224 ls []) := by
  obtain ⟨hx, hb, -, -, -, -, -⟩ := id C0
  have hfr := h.fr
  refine lv_aload_n hx hb dL_224 rfl (lv_at hl 1 rfl) ?_
  refine law_arg (v := 1) hx hb hX hbl h (lv_at hl 0 rfl) (lv_at hl 3 rfl) hi.1 dL_225 dL_226 dL_227 (by decide) dL_228 dL_229 ?_
  refine law_arg (v := 2) hx hb hX hbl h (lv_at hl 0 rfl) (lv_at hl 3 rfl) hi.2.1 dL_230 dL_231 dL_232 (by decide) dL_233 dL_234 ?_
  refine law_arg (v := 3) hx hb hX hbl h (lv_at hl 0 rfl) (lv_at hl 3 rfl) hi.2.2.1 dL_235 dL_236 dL_237 (by decide) dL_238 dL_239 ?_
  refine h.cxi (mc := 2) (ms := 9) (run_V (rm := { frames := 6, cells := 2, slots := 9, locals := 123 }) (As := [.int (xs (ix (i + 1))), .int (xs (ix (i + 2))), .int (xs (ix (i + 3)))]) (rest := []) C0 cf_X11_stick w_460 ⟨Nat.le_of_ble_eq_true rfl, Nat.le_of_ble_eq_true rfl⟩ (k_X11_stick l g aK aV x H.size (xs (ix (i + 1))) (xs (ix (i + 2))) (xs (ix (i + 3))) hR.ix) (h.pxx E) rfl hl.1 rfl (Nat.le_of_ble_eq_true rfl) dL_240 ⟨by show cells + 2 ≤ 600000; omega, by show slots + 9 ≤ 7302250; omega⟩) (fun r u H1 hu hN => old_stick hfr hu hN) (fun r u H locs hu h => ?_)
  refine lv_aload_n hx hb dL_243 rfl (lv_at hl 2 rfl) ?_
  refine law_arg (v := 1) hx hb hX hbl h (lv_at hl 0 rfl) (lv_at hl 3 rfl) hi.1 dL_244 dL_245 dL_246 (by decide) dL_247 dL_248 ?_
  refine law_arg (v := 2) hx hb hX hbl h (lv_at hl 0 rfl) (lv_at hl 3 rfl) hi.2.1 dL_249 dL_250 dL_251 (by decide) dL_252 dL_253 ?_
  refine law_arg (v := 3) hx hb hX hbl h (lv_at hl 0 rfl) (lv_at hl 3 rfl) hi.2.2.1 dL_254 dL_255 dL_256 (by decide) dL_257 dL_258 ?_
  refine h.cmm (run_V (rm := { frames := 1, cells := 0, slots := 0, locals := 22 }) (As := [.int (xs (ix (i + 1))), .int (xs (ix (i + 2))), .int (xs (ix (i + 3)))]) (rest := [.int (r)]) C0 cf_X12_stick w_1123 ⟨Nat.le_of_ble_eq_true rfl, Nat.le_of_ble_eq_true rfl⟩ (k_X12_stick l (gA g f) σ (xs (ix (i + 1))) (xs (ix (i + 2))) (xs (ix (i + 3))) hR.ib) (h.pm E) rfl hl.1 rfl (Nat.le_of_ble_eq_true rfl) dL_259 ⟨by show cells + 2 + 0 ≤ 600000; omega, by show slots + 9 + 0 ≤ 7302250; omega⟩) (fun H locs h => ?_)
  have er := stick_ok hR hfr (xs (ix (i + 1))) (xs (ix (i + 2))) (xs (ix (i + 3))) hu
  refine lv_icmp_eq (tgt := 1282) hx hb dL_262 (by decide) (fun _ => ?_) (fun n => absurd er.1 n)
  refine W.widen (k := cells + 2) (n := slots + 103) (by omega) (by omega) ?_
  exact kk _ _ H locs h er.2
theorem dL_267 : decode code 267 = .ok (.aload_n 1, 1) := by decide +kernel
theorem dL_268 : decode code 268 = .ok (.aload_n 0, 1) := by decide +kernel
theorem dL_269 : decode code 269 = .ok (.iload_n 3, 1) := by decide +kernel
theorem dL_270 : decode code 270 = .ok (.iconst 1, 1) := by decide +kernel
theorem dL_271 : decode code 271 = .ok (.iadd, 1) := by decide +kernel
theorem dL_272 : decode code 272 = .ok (.iaload, 1) := by decide +kernel
theorem dL_273 : decode code 273 = .ok (.aload_n 0, 1) := by decide +kernel
theorem dL_274 : decode code 274 = .ok (.iload_n 3, 1) := by decide +kernel
theorem dL_275 : decode code 275 = .ok (.iconst 2, 1) := by decide +kernel
theorem dL_276 : decode code 276 = .ok (.iadd, 1) := by decide +kernel
theorem dL_277 : decode code 277 = .ok (.iaload, 1) := by decide +kernel
theorem dL_278 : decode code 278 = .ok (.invokevirtual 28, 3) := by decide +kernel
theorem dL_281 : decode code 281 = .ok (.aload_n 2, 1) := by decide +kernel
theorem dL_282 : decode code 282 = .ok (.aload_n 0, 1) := by decide +kernel
theorem dL_283 : decode code 283 = .ok (.iload_n 3, 1) := by decide +kernel
theorem dL_284 : decode code 284 = .ok (.iconst 1, 1) := by decide +kernel
theorem dL_285 : decode code 285 = .ok (.iadd, 1) := by decide +kernel
theorem dL_286 : decode code 286 = .ok (.iaload, 1) := by decide +kernel
theorem dL_287 : decode code 287 = .ok (.aload_n 0, 1) := by decide +kernel
theorem dL_288 : decode code 288 = .ok (.iload_n 3, 1) := by decide +kernel
theorem dL_289 : decode code 289 = .ok (.iconst 2, 1) := by decide +kernel
theorem dL_290 : decode code 290 = .ok (.iadd, 1) := by decide +kernel
theorem dL_291 : decode code 291 = .ok (.iaload, 1) := by decide +kernel
theorem dL_292 : decode code 292 = .ok (.invokevirtual 32, 3) := by decide +kernel
theorem dL_295 : decode code 295 = .ok (.if_icmp .eq 987, 3) := by decide +kernel
set_option maxRecDepth 20000 in
theorem w_582 : (Cond.methodLink RL 28 yX11_of) ∈ TB := inTB (List.mem_of_getElem? (i := 582) (by decide +kernel)) (by decide +kernel)
set_option maxRecDepth 20000 in
theorem w_585 : (Cond.code yX11_of cX11_of 4 (some .int)) ∈ TB := inTB (List.mem_of_getElem? (i := 585) (by decide +kernel)) (by decide +kernel)
set_option maxRecDepth 20000 in
theorem w_583 : (Cond.instanceMethod yX11_of) ∈ TB := inTB (List.mem_of_getElem? (i := 583) (by decide +kernel)) (by decide +kernel)
set_option maxRecDepth 20000 in
theorem w_584 : (Cond.selects RX11 yX11_of yX11_of) ∈ TB := inTB (List.mem_of_getElem? (i := 584) (by decide +kernel)) (by decide +kernel)
theorem cf_X11_of : CF yX11_of cX11_of 4 (some .int) 2 := ⟨w_583, w_584, w_71, w_585, by decide +kernel, by decide +kernel, by decide +kernel⟩
set_option maxRecDepth 20000 in
theorem w_1127 : (Cond.methodLink RL 32 yX12_of) ∈ TB := inTB (List.mem_of_getElem? (i := 1127) (by decide +kernel)) (by decide +kernel)
set_option maxRecDepth 20000 in
theorem w_1130 : (Cond.code yX12_of cX12_of 3 (some .int)) ∈ TB := inTB (List.mem_of_getElem? (i := 1130) (by decide +kernel)) (by decide +kernel)
set_option maxRecDepth 20000 in
theorem w_1128 : (Cond.instanceMethod yX12_of) ∈ TB := inTB (List.mem_of_getElem? (i := 1128) (by decide +kernel)) (by decide +kernel)
set_option maxRecDepth 20000 in
theorem w_1129 : (Cond.selects RX12 yX12_of yX12_of) ∈ TB := inTB (List.mem_of_getElem? (i := 1129) (by decide +kernel)) (by decide +kernel)
theorem cf_X12_of : CF yX12_of cX12_of 3 (some .int) 2 := ⟨w_1128, w_1129, w_75, w_1130, by decide +kernel, by decide +kernel, by decide +kernel⟩
set_option maxHeartbeats 1000000 in
set_option maxRecDepth 100000 in
theorem lc_of {p : Program} {l : Launch} {e : Env} {s : State} {m : MethodId} {below : List Frame} {meth : Method} {c : Code} {Q : State → Prop} {b L : Nat} {xs : Nat → Int32} {g : GG} {f : Nat → Nat} {aK aV : Nat → Nat} (C0 : BC p s m #[Value.ref b] meth c code RL 4 ret) (E : LE g aK aV s) (hX : va_X b L xs s s.heap) (hbl : b < s.heap.size) {i : Int32} (hi : vp_in (i + 1) L ∧ vp_in (i + 2) L ∧ vp_in (i + 3) L ∧ vp_in (i + 4) L ∧ vp_in (i + 5) L) {x : X3} {σ : St} {H : Heap} {locs : List Loc} {cells slots : Nat} (hc : cells + 2 ≤ 600000) (hs : slots + 103 ≤ 7302250) {ls : Array Slot} (hl : lv_has ls 4 [(0, .ref b), (1, .ref (g.2.2 100)), (2, .ref (f 100)), (3, .int i)]) (h : LH g f s x σ H locs) (hR : RLL x.1 x.2.1 x.2.2 σ)
    (kk : ∀ (x' : X3) (σ' : St) (H' : Heap) (locs' : List Loc), LH g f s x' σ' H' locs' → RLL x'.1 x'.2.1 x'.2.2 σ' → W p l e room_1 s m #[Value.ref b] below meth c H' locs' (cells + 2) (slots + 103) Q (F0 m 1282 ls [])) : W p l e room_1 s m #[Value.ref b] below meth c H locs cells slots Q (F0 m 267 ls []) := by
  obtain ⟨hx, hb, -, -, -, -, -⟩ := id C0
  obtain ⟨ρ, dt, τ⟩ := x
  have hR : RLL ρ dt τ σ := hR
  refine lv_aload_n hx hb dL_267 rfl (lv_at hl 1 rfl) ?_
  refine law_arg (v := 1) hx hb hX hbl h (lv_at hl 0 rfl) (lv_at hl 3 rfl) hi.1 dL_268 dL_269 dL_270 (by decide) dL_271 dL_272 ?_
  refine law_arg (v := 2) hx hb hX hbl h (lv_at hl 0 rfl) (lv_at hl 3 rfl) hi.2.1 dL_273 dL_274 dL_275 (by decide) dL_276 dL_277 ?_
  refine aft_i (run_V (rm := { frames := 1, cells := 0, slots := 0, locals := 21 }) (As := [.int (xs (ix (i + 1))), .int (xs (ix (i + 2)))]) (rest := []) C0 cf_X11_of w_582 ⟨Nat.le_of_ble_eq_true rfl, Nat.le_of_ble_eq_true rfl⟩ (k_X11_of l g ρ dt τ (xs (ix (i + 1))) (xs (ix (i + 2))) hR.ix) (h.px E) rfl hl.1 rfl (Nat.le_of_ble_eq_true rfl) dL_278 ⟨by show cells + 0 ≤ 600000; omega, by show slots + 0 ≤ 7302250; omega⟩) ?_
  refine lv_aload_n hx hb dL_281 rfl (lv_at hl 2 rfl) ?_
  refine law_arg (v := 1) hx hb hX hbl h (lv_at hl 0 rfl) (lv_at hl 3 rfl) hi.1 dL_282 dL_283 dL_284 (by decide) dL_285 dL_286 ?_
  refine law_arg (v := 2) hx hb hX hbl h (lv_at hl 0 rfl) (lv_at hl 3 rfl) hi.2.1 dL_287 dL_288 dL_289 (by decide) dL_290 dL_291 ?_
  refine aft_i (run_V (rm := { frames := 2, cells := 0, slots := 0, locals := 43 }) (As := [.int (xs (ix (i + 1))), .int (xs (ix (i + 2)))]) (rest := [.int (f_X11_of ρ dt τ (xs (ix (i + 1))) (xs (ix (i + 2))))]) C0 cf_X12_of w_1127 ⟨Nat.le_of_ble_eq_true rfl, Nat.le_of_ble_eq_true rfl⟩ (k_X12_of l (gA g f) σ (xs (ix (i + 1))) (xs (ix (i + 2))) hR.ib) (h.pm E) rfl hl.1 rfl (Nat.le_of_ble_eq_true rfl) dL_292 ⟨by show cells + 0 ≤ 600000; omega, by show slots + 0 ≤ 7302250; omega⟩) ?_
  have er := q_of hR.rn hR.rk hR.ib (xs (ix (i + 1))) (xs (ix (i + 2)))
  refine lv_icmp_eq (tgt := 1282) hx hb dL_295 (by decide) (fun _ => ?_) (fun n => absurd er n)
  refine W.widen (k := cells + 2) (n := slots + 103) (by omega) (by omega) ?_
  exact kk (ρ, dt, τ) σ H locs h hR
theorem dL_300 : decode code 300 = .ok (.aload_n 1, 1) := by decide +kernel
theorem dL_301 : decode code 301 = .ok (.aload_n 0, 1) := by decide +kernel
theorem dL_302 : decode code 302 = .ok (.iload_n 3, 1) := by decide +kernel
theorem dL_303 : decode code 303 = .ok (.iconst 1, 1) := by decide +kernel
theorem dL_304 : decode code 304 = .ok (.iadd, 1) := by decide +kernel
theorem dL_305 : decode code 305 = .ok (.iaload, 1) := by decide +kernel
theorem dL_306 : decode code 306 = .ok (.aload_n 0, 1) := by decide +kernel
theorem dL_307 : decode code 307 = .ok (.iload_n 3, 1) := by decide +kernel
theorem dL_308 : decode code 308 = .ok (.iconst 2, 1) := by decide +kernel
theorem dL_309 : decode code 309 = .ok (.iadd, 1) := by decide +kernel
theorem dL_310 : decode code 310 = .ok (.iaload, 1) := by decide +kernel
theorem dL_311 : decode code 311 = .ok (.aload_n 0, 1) := by decide +kernel
theorem dL_312 : decode code 312 = .ok (.iload_n 3, 1) := by decide +kernel
theorem dL_313 : decode code 313 = .ok (.iconst 3, 1) := by decide +kernel
theorem dL_314 : decode code 314 = .ok (.iadd, 1) := by decide +kernel
theorem dL_315 : decode code 315 = .ok (.iaload, 1) := by decide +kernel
theorem dL_316 : decode code 316 = .ok (.invokevirtual 33, 3) := by decide +kernel
theorem dL_319 : decode code 319 = .ok (.aload_n 2, 1) := by decide +kernel
theorem dL_320 : decode code 320 = .ok (.aload_n 0, 1) := by decide +kernel
theorem dL_321 : decode code 321 = .ok (.iload_n 3, 1) := by decide +kernel
theorem dL_322 : decode code 322 = .ok (.iconst 1, 1) := by decide +kernel
theorem dL_323 : decode code 323 = .ok (.iadd, 1) := by decide +kernel
theorem dL_324 : decode code 324 = .ok (.iaload, 1) := by decide +kernel
theorem dL_325 : decode code 325 = .ok (.aload_n 0, 1) := by decide +kernel
theorem dL_326 : decode code 326 = .ok (.iload_n 3, 1) := by decide +kernel
theorem dL_327 : decode code 327 = .ok (.iconst 2, 1) := by decide +kernel
theorem dL_328 : decode code 328 = .ok (.iadd, 1) := by decide +kernel
theorem dL_329 : decode code 329 = .ok (.iaload, 1) := by decide +kernel
theorem dL_330 : decode code 330 = .ok (.aload_n 0, 1) := by decide +kernel
theorem dL_331 : decode code 331 = .ok (.iload_n 3, 1) := by decide +kernel
theorem dL_332 : decode code 332 = .ok (.iconst 3, 1) := by decide +kernel
theorem dL_333 : decode code 333 = .ok (.iadd, 1) := by decide +kernel
theorem dL_334 : decode code 334 = .ok (.iaload, 1) := by decide +kernel
theorem dL_335 : decode code 335 = .ok (.invokevirtual 36, 3) := by decide +kernel
theorem dL_338 : decode code 338 = .ok (.if_icmp .eq 944, 3) := by decide +kernel
set_option maxRecDepth 20000 in
theorem w_590 : (Cond.methodLink RL 33 yX11_row) ∈ TB := inTB (List.mem_of_getElem? (i := 590) (by decide +kernel)) (by decide +kernel)
set_option maxRecDepth 20000 in
theorem w_593 : (Cond.code yX11_row cX11_row 6 (some .int)) ∈ TB := inTB (List.mem_of_getElem? (i := 593) (by decide +kernel)) (by decide +kernel)
set_option maxRecDepth 20000 in
theorem w_591 : (Cond.instanceMethod yX11_row) ∈ TB := inTB (List.mem_of_getElem? (i := 591) (by decide +kernel)) (by decide +kernel)
set_option maxRecDepth 20000 in
theorem w_592 : (Cond.selects RX11 yX11_row yX11_row) ∈ TB := inTB (List.mem_of_getElem? (i := 592) (by decide +kernel)) (by decide +kernel)
theorem cf_X11_row : CF yX11_row cX11_row 6 (some .int) 3 := ⟨w_591, w_592, w_71, w_593, by decide +kernel, by decide +kernel, by decide +kernel⟩
set_option maxRecDepth 20000 in
theorem w_1135 : (Cond.methodLink RL 36 yX12_row) ∈ TB := inTB (List.mem_of_getElem? (i := 1135) (by decide +kernel)) (by decide +kernel)
set_option maxRecDepth 20000 in
theorem w_1138 : (Cond.code yX12_row cX12_row 5 (some .int)) ∈ TB := inTB (List.mem_of_getElem? (i := 1138) (by decide +kernel)) (by decide +kernel)
set_option maxRecDepth 20000 in
theorem w_1136 : (Cond.instanceMethod yX12_row) ∈ TB := inTB (List.mem_of_getElem? (i := 1136) (by decide +kernel)) (by decide +kernel)
set_option maxRecDepth 20000 in
theorem w_1137 : (Cond.selects RX12 yX12_row yX12_row) ∈ TB := inTB (List.mem_of_getElem? (i := 1137) (by decide +kernel)) (by decide +kernel)
theorem cf_X12_row : CF yX12_row cX12_row 5 (some .int) 3 := ⟨w_1136, w_1137, w_75, w_1138, by decide +kernel, by decide +kernel, by decide +kernel⟩
set_option maxHeartbeats 1000000 in
set_option maxRecDepth 100000 in
theorem lc_row {p : Program} {l : Launch} {e : Env} {s : State} {m : MethodId} {below : List Frame} {meth : Method} {c : Code} {Q : State → Prop} {b L : Nat} {xs : Nat → Int32} {g : GG} {f : Nat → Nat} {aK aV : Nat → Nat} (C0 : BC p s m #[Value.ref b] meth c code RL 4 ret) (E : LE g aK aV s) (hX : va_X b L xs s s.heap) (hbl : b < s.heap.size) {i : Int32} (hi : vp_in (i + 1) L ∧ vp_in (i + 2) L ∧ vp_in (i + 3) L ∧ vp_in (i + 4) L ∧ vp_in (i + 5) L) {x : X3} {σ : St} {H : Heap} {locs : List Loc} {cells slots : Nat} (hc : cells + 2 ≤ 600000) (hs : slots + 103 ≤ 7302250) {ls : Array Slot} (hl : lv_has ls 4 [(0, .ref b), (1, .ref (g.2.2 100)), (2, .ref (f 100)), (3, .int i)]) (h : LH g f s x σ H locs) (hR : RLL x.1 x.2.1 x.2.2 σ)
    (kk : ∀ (x' : X3) (σ' : St) (H' : Heap) (locs' : List Loc), LH g f s x' σ' H' locs' → RLL x'.1 x'.2.1 x'.2.2 σ' → W p l e room_1 s m #[Value.ref b] below meth c H' locs' (cells + 2) (slots + 103) Q (F0 m 1282 ls [])) : W p l e room_1 s m #[Value.ref b] below meth c H locs cells slots Q (F0 m 300 ls []) := by
  obtain ⟨hx, hb, -, -, -, -, -⟩ := id C0
  have hfr := h.fr
  refine lv_aload_n hx hb dL_300 rfl (lv_at hl 1 rfl) ?_
  refine law_arg (v := 1) hx hb hX hbl h (lv_at hl 0 rfl) (lv_at hl 3 rfl) hi.1 dL_301 dL_302 dL_303 (by decide) dL_304 dL_305 ?_
  refine law_arg (v := 2) hx hb hX hbl h (lv_at hl 0 rfl) (lv_at hl 3 rfl) hi.2.1 dL_306 dL_307 dL_308 (by decide) dL_309 dL_310 ?_
  refine law_arg (v := 3) hx hb hX hbl h (lv_at hl 0 rfl) (lv_at hl 3 rfl) hi.2.2.1 dL_311 dL_312 dL_313 (by decide) dL_314 dL_315 ?_
  refine h.cxi (mc := 2) (ms := 9) (run_V (rm := { frames := 5, cells := 2, slots := 9, locals := 114 }) (As := [.int (xs (ix (i + 1))), .int (xs (ix (i + 2))), .int (xs (ix (i + 3)))]) (rest := []) C0 cf_X11_row w_590 ⟨Nat.le_of_ble_eq_true rfl, Nat.le_of_ble_eq_true rfl⟩ (k_X11_row l g aK aV x H.size (xs (ix (i + 1))) (xs (ix (i + 2))) (xs (ix (i + 3))) hR.ix) (h.pxr E) rfl hl.1 rfl (Nat.le_of_ble_eq_true rfl) dL_316 ⟨by show cells + 2 ≤ 600000; omega, by show slots + 9 ≤ 7302250; omega⟩) (fun r u H1 hu hN => old_row hfr hu hN) (fun r u H locs hu h => ?_)
  refine lv_aload_n hx hb dL_319 rfl (lv_at hl 2 rfl) ?_
  refine law_arg (v := 1) hx hb hX hbl h (lv_at hl 0 rfl) (lv_at hl 3 rfl) hi.1 dL_320 dL_321 dL_322 (by decide) dL_323 dL_324 ?_
  refine law_arg (v := 2) hx hb hX hbl h (lv_at hl 0 rfl) (lv_at hl 3 rfl) hi.2.1 dL_325 dL_326 dL_327 (by decide) dL_328 dL_329 ?_
  refine law_arg (v := 3) hx hb hX hbl h (lv_at hl 0 rfl) (lv_at hl 3 rfl) hi.2.2.1 dL_330 dL_331 dL_332 (by decide) dL_333 dL_334 ?_
  refine h.cmm (run_V (rm := { frames := 2, cells := 0, slots := 0, locals := 43 }) (As := [.int (xs (ix (i + 1))), .int (xs (ix (i + 2))), .int (xs (ix (i + 3)))]) (rest := [.int (r)]) C0 cf_X12_row w_1135 ⟨Nat.le_of_ble_eq_true rfl, Nat.le_of_ble_eq_true rfl⟩ (k_X12_row l (gA g f) σ (xs (ix (i + 1))) (xs (ix (i + 2))) (xs (ix (i + 3))) hR.ib) (h.pm E) rfl hl.1 rfl (Nat.le_of_ble_eq_true rfl) dL_335 ⟨by show cells + 2 + 0 ≤ 600000; omega, by show slots + 9 + 0 ≤ 7302250; omega⟩) (fun H locs h => ?_)
  have er := row_ok hR hfr (xs (ix (i + 1))) (xs (ix (i + 2))) (xs (ix (i + 3))) hu
  refine lv_icmp_eq (tgt := 1282) hx hb dL_338 (by decide) (fun _ => ?_) (fun n => absurd er.1 n)
  refine W.widen (k := cells + 2) (n := slots + 103) (by omega) (by omega) ?_
  exact kk _ _ H locs h er.2
theorem dL_343 : decode code 343 = .ok (.aload_n 1, 1) := by decide +kernel
theorem dL_344 : decode code 344 = .ok (.invokevirtual 37, 3) := by decide +kernel
theorem dL_347 : decode code 347 = .ok (.aload_n 2, 1) := by decide +kernel
theorem dL_348 : decode code 348 = .ok (.invokevirtual 40, 3) := by decide +kernel
theorem dL_351 : decode code 351 = .ok (.if_icmp .eq 931, 3) := by decide +kernel
set_option maxRecDepth 20000 in
theorem w_607 : (Cond.methodLink RL 37 yX11_wall) ∈ TB := inTB (List.mem_of_getElem? (i := 607) (by decide +kernel)) (by decide +kernel)
set_option maxRecDepth 20000 in
theorem w_610 : (Cond.code yX11_wall cX11_wall 1 (some .int)) ∈ TB := inTB (List.mem_of_getElem? (i := 610) (by decide +kernel)) (by decide +kernel)
set_option maxRecDepth 20000 in
theorem w_608 : (Cond.instanceMethod yX11_wall) ∈ TB := inTB (List.mem_of_getElem? (i := 608) (by decide +kernel)) (by decide +kernel)
set_option maxRecDepth 20000 in
theorem w_609 : (Cond.selects RX11 yX11_wall yX11_wall) ∈ TB := inTB (List.mem_of_getElem? (i := 609) (by decide +kernel)) (by decide +kernel)
theorem cf_X11_wall : CF yX11_wall cX11_wall 1 (some .int) 0 := ⟨w_608, w_609, w_71, w_610, by decide +kernel, by decide +kernel, by decide +kernel⟩
set_option maxRecDepth 20000 in
theorem w_1139 : (Cond.methodLink RL 40 yX12_wall) ∈ TB := inTB (List.mem_of_getElem? (i := 1139) (by decide +kernel)) (by decide +kernel)
set_option maxRecDepth 20000 in
theorem w_1142 : (Cond.code yX12_wall cX12_wall 2 (some .int)) ∈ TB := inTB (List.mem_of_getElem? (i := 1142) (by decide +kernel)) (by decide +kernel)
set_option maxRecDepth 20000 in
theorem w_1140 : (Cond.instanceMethod yX12_wall) ∈ TB := inTB (List.mem_of_getElem? (i := 1140) (by decide +kernel)) (by decide +kernel)
set_option maxRecDepth 20000 in
theorem w_1141 : (Cond.selects RX12 yX12_wall yX12_wall) ∈ TB := inTB (List.mem_of_getElem? (i := 1141) (by decide +kernel)) (by decide +kernel)
theorem cf_X12_wall : CF yX12_wall cX12_wall 2 (some .int) 0 := ⟨w_1140, w_1141, w_75, w_1142, by decide +kernel, by decide +kernel, by decide +kernel⟩
set_option maxHeartbeats 1000000 in
set_option maxRecDepth 100000 in
theorem lc_wall {p : Program} {l : Launch} {e : Env} {s : State} {m : MethodId} {below : List Frame} {meth : Method} {c : Code} {Q : State → Prop} {b L : Nat} {xs : Nat → Int32} {g : GG} {f : Nat → Nat} {aK aV : Nat → Nat} (C0 : BC p s m #[Value.ref b] meth c code RL 4 ret) (E : LE g aK aV s) (hX : va_X b L xs s s.heap) (hbl : b < s.heap.size) {i : Int32} (hi : vp_in (i + 1) L ∧ vp_in (i + 2) L ∧ vp_in (i + 3) L ∧ vp_in (i + 4) L ∧ vp_in (i + 5) L) {x : X3} {σ : St} {H : Heap} {locs : List Loc} {cells slots : Nat} (hc : cells + 2 ≤ 600000) (hs : slots + 103 ≤ 7302250) {ls : Array Slot} (hl : lv_has ls 4 [(0, .ref b), (1, .ref (g.2.2 100)), (2, .ref (f 100)), (3, .int i)]) (h : LH g f s x σ H locs) (hR : RLL x.1 x.2.1 x.2.2 σ)
    (kk : ∀ (x' : X3) (σ' : St) (H' : Heap) (locs' : List Loc), LH g f s x' σ' H' locs' → RLL x'.1 x'.2.1 x'.2.2 σ' → W p l e room_1 s m #[Value.ref b] below meth c H' locs' (cells + 2) (slots + 103) Q (F0 m 1282 ls [])) : W p l e room_1 s m #[Value.ref b] below meth c H locs cells slots Q (F0 m 343 ls []) := by
  obtain ⟨hx, hb, -, -, -, -, -⟩ := id C0
  obtain ⟨ρ, dt, τ⟩ := x
  have hR : RLL ρ dt τ σ := hR
  refine lv_aload_n hx hb dL_343 rfl (lv_at hl 1 rfl) ?_
  refine h.cmi (run_V (rm := { frames := 0, cells := 0, slots := 0, locals := 0 }) (As := []) (rest := []) C0 cf_X11_wall w_607 ⟨Nat.le_of_ble_eq_true rfl, Nat.le_of_ble_eq_true rfl⟩ (k_X11_wall l g ρ dt τ hR.ix) (h.px E) rfl hl.1 rfl (Nat.le_of_ble_eq_true rfl) dL_344 ⟨by show cells + 0 ≤ 600000; omega, by show slots + 0 ≤ 7302250; omega⟩) (fun H locs h => ?_)
  refine lv_aload_n hx hb dL_347 rfl (lv_at hl 2 rfl) ?_
  refine h.cmm (run_V (rm := { frames := 0, cells := 0, slots := 0, locals := 0 }) (As := []) (rest := [.int ((f_X11_wall τ).1)]) C0 cf_X12_wall w_1139 ⟨Nat.le_of_ble_eq_true rfl, Nat.le_of_ble_eq_true rfl⟩ (k_X12_wall l (gA g f) σ hR.ib) (h.pm E) rfl hl.1 rfl (Nat.le_of_ble_eq_true rfl) dL_348 ⟨by show cells + 0 ≤ 600000; omega, by show slots + 0 ≤ 7302250; omega⟩) (fun H locs h => ?_)
  have er := hR.q1 (c_wall hR.rn hR.ib)
  refine lv_icmp_eq (tgt := 1282) hx hb dL_351 (by decide) (fun _ => ?_) (fun n => absurd er.1 n)
  refine W.widen (k := cells + 2) (n := slots + 103) (by omega) (by omega) ?_
  exact kk _ _ H locs h er.2
