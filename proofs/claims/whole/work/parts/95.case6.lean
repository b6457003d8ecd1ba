/-! THE LAW: its calls, one by one -/
theorem dL_1177 : decode code 1177 = .ok (.aload_n 1, 1) := by decide +kernel
theorem dL_1178 : decode code 1178 = .ok (.aload_n 0, 1) := by decide +kernel
theorem dL_1179 : decode code 1179 = .ok (.iload_n 3, 1) := by decide +kernel
theorem dL_1180 : decode code 1180 = .ok (.iconst 1, 1) := by decide +kernel
theorem dL_1181 : decode code 1181 = .ok (.iadd, 1) := by decide +kernel
theorem dL_1182 : decode code 1182 = .ok (.iaload, 1) := by decide +kernel
theorem dL_1183 : decode code 1183 = .ok (.invokevirtual 142, 3) := by decide +kernel
theorem dL_1186 : decode code 1186 = .ok (.aload_n 2, 1) := by decide +kernel
theorem dL_1187 : decode code 1187 = .ok (.aload_n 0, 1) := by decide +kernel
theorem dL_1188 : decode code 1188 = .ok (.iload_n 3, 1) := by decide +kernel
theorem dL_1189 : decode code 1189 = .ok (.iconst 1, 1) := by decide +kernel
theorem dL_1190 : decode code 1190 = .ok (.iadd, 1) := by decide +kernel
theorem dL_1191 : decode code 1191 = .ok (.iaload, 1) := by decide +kernel
theorem dL_1192 : decode code 1192 = .ok (.invokevirtual 145, 3) := by decide +kernel
theorem dL_1195 : decode code 1195 = .ok (.if_icmp .eq 87, 3) := by decide +kernel
set_option maxRecDepth 20000 in
theorem w_935 : (Cond.methodLink RL 142 yX11_trace) ∈ TB := inTB (List.mem_of_getElem? (i := 935) (by decide +kernel)) (by decide +kernel)
set_option maxRecDepth 20000 in
theorem w_938 : (Cond.code yX11_trace cX11_trace 2 (some .int)) ∈ TB := inTB (List.mem_of_getElem? (i := 938) (by decide +kernel)) (by decide +kernel)
set_option maxRecDepth 20000 in
theorem w_936 : (Cond.instanceMethod yX11_trace) ∈ TB := inTB (List.mem_of_getElem? (i := 936) (by decide +kernel)) (by decide +kernel)
set_option maxRecDepth 20000 in
theorem w_937 : (Cond.selects RX11 yX11_trace yX11_trace) ∈ TB := inTB (List.mem_of_getElem? (i := 937) (by decide +kernel)) (by decide +kernel)
theorem cf_X11_trace : CF yX11_trace cX11_trace 2 (some .int) 1 := ⟨w_936, w_937, w_71, w_938, by decide +kernel, by decide +kernel, by decide +kernel⟩
set_option maxRecDepth 20000 in
theorem w_1335 : (Cond.methodLink RL 145 yX12_trace) ∈ TB := inTB (List.mem_of_getElem? (i := 1335) (by decide +kernel)) (by decide +kernel)
set_option maxRecDepth 20000 in
theorem w_1338 : (Cond.code yX12_trace cX12_trace 2 (some .int)) ∈ TB := inTB (List.mem_of_getElem? (i := 1338) (by decide +kernel)) (by decide +kernel)
set_option maxRecDepth 20000 in
theorem w_1336 : (Cond.instanceMethod yX12_trace) ∈ TB := inTB (List.mem_of_getElem? (i := 1336) (by decide +kernel)) (by decide +kernel)
set_option maxRecDepth 20000 in
theorem w_1337 : (Cond.selects RX12 yX12_trace yX12_trace) ∈ TB := inTB (List.mem_of_getElem? (i := 1337) (by decide +kernel)) (by decide +kernel)
theorem cf_X12_trace : CF yX12_trace cX12_trace 2 (some .int) 1 := ⟨w_1336, w_1337, w_75, w_1338, by decide +kernel, by decide +kernel, by decide +kernel⟩
set_option maxHeartbeats 1000000 in
set_option maxRecDepth 100000 in
theorem lc_trace {p : Program} {l : Launch} {e : Env} {s : State} {m : MethodId} {below : List Frame} {meth : Method} {c : Code} {Q : State → Prop} {b L : Nat} {xs : Nat → Int32} {g : GG} {f : Nat → Nat} {aK aV : Nat → Nat} (C0 : BC p s m #[Value.ref b] meth c code RL 4 ret) (E : LE g aK aV s) (hX : va_X b L xs s s.heap) (hbl : b < s.heap.size) {i : Int32} (hi : vp_in (i + 1) L ∧ vp_in (i + 2) L ∧ vp_in (i + 3) L ∧ vp_in (i + 4) L ∧ vp_in (i + 5) L) {x : X3} {σ : St} {H : Heap} {locs : List Loc} {cells slots : Nat} (hc : cells + 2 ≤ 600000) (hs : slots + 103 ≤ 7302250) {ls : Array Slot} (hl : lv_has ls 4 [(0, .ref b), (1, .ref (g.2.2 100)), (2, .ref (f 100)), (3, .int i)]) (h : LH g f s x σ H locs) (hR : RLL x.1 x.2.1 x.2.2 σ)
    (kk : ∀ (x' : X3) (σ' : St) (H' : Heap) (locs' : List Loc), LH g f s x' σ' H' locs' → RLL x'.1 x'.2.1 x'.2.2 σ' → W p l e room_1 s m #[Value.ref b] below meth c H' locs' (cells + 2) (slots + 103) Q (F0 m 1282 ls [])) : W p l e room_1 s m #[Value.ref b] below meth c H locs cells slots Q (F0 m 1177 ls []) := by
  obtain ⟨hx, hb, -, -, -, -, -⟩ := id C0
  obtain ⟨ρ, dt, τ⟩ := x
  have hR : RLL ρ dt τ σ := hR
  refine lv_aload_n hx hb dL_1177 rfl (lv_at hl 1 rfl) ?_
  refine law_arg (v := 1) hx hb hX hbl h (lv_at hl 0 rfl) (lv_at hl 3 rfl) hi.1 dL_1178 dL_1179 dL_1180 (by decide) dL_1181 dL_1182 ?_
  refine aft_i (run_V (rm := { frames := 0, cells := 0, slots := 0, locals := 0 }) (As := [.int (xs (ix (i + 1)))]) (rest := []) C0 cf_X11_trace w_935 ⟨Nat.le_of_ble_eq_true rfl, Nat.le_of_ble_eq_true rfl⟩ (k_X11_trace l g ρ dt τ (xs (ix (i + 1))) hR.ix) (h.px E) rfl hl.1 rfl (Nat.le_of_ble_eq_true rfl) dL_1183 ⟨by show cells + 0 ≤ 600000; omega, by show slots + 0 ≤ 7302250; omega⟩) ?_
  refine lv_aload_n hx hb dL_1186 rfl (lv_at hl 2 rfl) ?_
  refine law_arg (v := 1) hx hb hX hbl h (lv_at hl 0 rfl) (lv_at hl 3 rfl) hi.1 dL_1187 dL_1188 dL_1189 (by decide) dL_1190 dL_1191 ?_
  refine aft_i (run_V (rm := { frames := 1, cells := 0, slots := 0, locals := 22 }) (As := [.int (xs (ix (i + 1)))]) (rest := [.int (f_X11_trace τ (xs (ix (i + 1))))]) C0 cf_X12_trace w_1335 ⟨Nat.le_of_ble_eq_true rfl, Nat.le_of_ble_eq_true rfl⟩ (k_X12_trace l (gA g f) σ (xs (ix (i + 1))) hR.2.2.1.2.1) (h.pm E) rfl hl.1 rfl (Nat.le_of_ble_eq_true rfl) dL_1192 ⟨by show cells + 0 ≤ 600000; omega, by show slots + 0 ≤ 7302250; omega⟩) ?_
  have er := q_trace hR (xs (ix (i + 1)))
  refine lv_icmp_eq (tgt := 1282) hx hb dL_1195 (by decide) (fun _ => ?_) (fun n => absurd er n)
  refine W.widen (k := cells + 2) (n := slots + 103) (by omega) (by omega) ?_
  exact kk (ρ, dt, τ) σ H locs h hR
theorem dL_1200 : decode code 1200 = .ok (.aload_n 1, 1) := by decide +kernel
theorem dL_1201 : decode code 1201 = .ok (.aload_n 0, 1) := by decide +kernel
theorem dL_1202 : decode code 1202 = .ok (.iload_n 3, 1) := by decide +kernel
theorem dL_1203 : decode code 1203 = .ok (.iconst 1, 1) := by decide +kernel
theorem dL_1204 : decode code 1204 = .ok (.iadd, 1) := by decide +kernel
theorem dL_1205 : decode code 1205 = .ok (.iaload, 1) := by decide +kernel
theorem dL_1206 : decode code 1206 = .ok (.aload_n 0, 1) := by decide +kernel
theorem dL_1207 : decode code 1207 = .ok (.iload_n 3, 1) := by decide +kernel
theorem dL_1208 : decode code 1208 = .ok (.iconst 2, 1) := by decide +kernel
theorem dL_1209 : decode code 1209 = .ok (.iadd, 1) := by decide +kernel
theorem dL_1210 : decode code 1210 = .ok (.iaload, 1) := by decide +kernel
theorem dL_1211 : decode code 1211 = .ok (.invokevirtual 146, 3) := by decide +kernel
theorem dL_1214 : decode code 1214 = .ok (.aload_n 2, 1) := by decide +kernel
theorem dL_1215 : decode code 1215 = .ok (.aload_n 0, 1) := by decide +kernel
theorem dL_1216 : decode code 1216 = .ok (.iload_n 3, 1) := by decide +kernel
theorem dL_1217 : decode code 1217 = .ok (.iconst 1, 1) := by decide +kernel
theorem dL_1218 : decode code 1218 = .ok (.iadd, 1) := by decide +kernel
theorem dL_1219 : decode code 1219 = .ok (.iaload, 1) := by decide +kernel
theorem dL_1220 : decode code 1220 = .ok (.aload_n 0, 1) := by decide +kernel
theorem dL_1221 : decode code 1221 = .ok (.iload_n 3, 1) := by decide +kernel
theorem dL_1222 : decode code 1222 = .ok (.iconst 2, 1) := by decide +kernel
theorem dL_1223 : decode code 1223 = .ok (.iadd, 1) := by decide +kernel
theorem dL_1224 : decode code 1224 = .ok (.iaload, 1) := by decide +kernel
theorem dL_1225 : decode code 1225 = .ok (.invokevirtual 149, 3) := by decide +kernel
theorem dL_1228 : decode code 1228 = .ok (.if_icmp .eq 54, 3) := by decide +kernel
set_option maxRecDepth 20000 in
theorem w_939 : (Cond.methodLink RL 146 yX11_as) ∈ TB := inTB (List.mem_of_getElem? (i := 939) (by decide +kernel)) (by decide +kernel)
set_option maxRecDepth 20000 in
theorem w_942 : (Cond.code yX11_as cX11_as 6 (some .int)) ∈ TB := inTB (List.mem_of_getElem? (i := 942) (by decide +kernel)) (by decide +kernel)
set_option maxRecDepth 20000 in
theorem w_940 : (Cond.instanceMethod yX11_as) ∈ TB := inTB (List.mem_of_getElem? (i := 940) (by decide +kernel)) (by decide +kernel)
set_option maxRecDepth 20000 in
theorem w_941 : (Cond.selects RX11 yX11_as yX11_as) ∈ TB := inTB (List.mem_of_getElem? (i := 941) (by decide +kernel)) (by decide +kernel)
theorem cf_X11_as : CF yX11_as cX11_as 6 (some .int) 2 := ⟨w_940, w_941, w_71, w_942, by decide +kernel, by decide +kernel, by decide +kernel⟩
set_option maxRecDepth 20000 in
theorem w_1339 : (Cond.methodLink RL 149 yX12_as) ∈ TB := inTB (List.mem_of_getElem? (i := 1339) (by decide +kernel)) (by decide +kernel)
set_option maxRecDepth 20000 in
theorem w_1342 : (Cond.code yX12_as cX12_as 3 (some .int)) ∈ TB := inTB (List.mem_of_getElem? (i := 1342) (by decide +kernel)) (by decide +kernel)
set_option maxRecDepth 20000 in
theorem w_1340 : (Cond.instanceMethod yX12_as) ∈ TB := inTB (List.mem_of_getElem? (i := 1340) (by decide +kernel)) (by decide +kernel)
set_option maxRecDepth 20000 in
theorem w_1341 : (Cond.selects RX12 yX12_as yX12_as) ∈ TB := inTB (List.mem_of_getElem? (i := 1341) (by decide +kernel)) (by decide +kernel)
theorem cf_X12_as : CF yX12_as cX12_as 3 (some .int) 2 := ⟨w_1340, w_1341, w_75, w_1342, by decide +kernel, by decide +kernel, by decide +kernel⟩
set_option maxHeartbeats 1000000 in
set_option maxRecDepth 100000 in
theorem lc_as {p : Program} {l : Launch} {e : Env} {s : State} {m : MethodId} {below : List Frame} {meth : Method} {c : Code} {Q : State → Prop} {b L : Nat} {xs : Nat → Int32} {g : GG} {f : Nat → Nat} {aK aV : Nat → Nat} (C0 : BC p s m #[Value.ref b] meth c code RL 4 ret) (E : LE g aK aV s) (hX : va_X b L xs s s.heap) (hbl : b < s.heap.size) {i : Int32} (hi : vp_in (i + 1) L ∧ vp_in (i + 2) L ∧ vp_in (i + 3) L ∧ vp_in (i + 4) L ∧ vp_in (i + 5) L) {x : X3} {σ : St} {H : Heap} {locs : List Loc} {cells slots : Nat} (hc : cells + 2 ≤ 600000) (hs : slots + 103 ≤ 7302250) {ls : Array Slot} (hl : lv_has ls 4 [(0, .ref b), (1, .ref (g.2.2 100)), (2, .ref (f 100)), (3, .int i)]) (h : LH g f s x σ H locs) (hR : RLL x.1 x.2.1 x.2.2 σ)
    (kk : ∀ (x' : X3) (σ' : St) (H' : Heap) (locs' : List Loc), LH g f s x' σ' H' locs' → RLL x'.1 x'.2.1 x'.2.2 σ' → W p l e room_1 s m #[Value.ref b] below meth c H' locs' (cells + 2) (slots + 103) Q (F0 m 1282 ls [])) : W p l e room_1 s m #[Value.ref b] below meth c H locs cells slots Q (F0 m 1200 ls []) := by
  obtain ⟨hx, hb, -, -, -, -, -⟩ := id C0
  obtain ⟨ρ, dt, τ⟩ := x
  have hR : RLL ρ dt τ σ := hR
  refine lv_aload_n hx hb dL_1200 rfl (lv_at hl 1 rfl) ?_
  refine law_arg (v := 1) hx hb hX hbl h (lv_at hl 0 rfl) (lv_at hl 3 rfl) hi.1 dL_1201 dL_1202 dL_1203 (by decide) dL_1204 dL_1205 ?_
  refine law_arg (v := 2) hx hb hX hbl h (lv_at hl 0 rfl) (lv_at hl 3 rfl) hi.2.1 dL_1206 dL_1207 dL_1208 (by decide) dL_1209 dL_1210 ?_
  refine aft_i (run_V (rm := { frames := 1, cells := 0, slots := 0, locals := 21 }) (As := [.int (xs (ix (i + 1))), .int (xs (ix (i + 2)))]) (rest := []) C0 cf_X11_as w_939 ⟨Nat.le_of_ble_eq_true rfl, Nat.le_of_ble_eq_true rfl⟩ (k_X11_as l g ρ dt τ (xs (ix (i + 1))) (xs (ix (i + 2))) hR.ix) (h.pxa E) rfl hl.1 rfl (Nat.le_of_ble_eq_true rfl) dL_1211 ⟨by show cells + 0 ≤ 600000; omega, by show slots + 0 ≤ 7302250; omega⟩) ?_
  refine lv_aload_n hx hb dL_1214 rfl (lv_at hl 2 rfl) ?_
  refine law_arg (v := 1) hx hb hX hbl h (lv_at hl 0 rfl) (lv_at hl 3 rfl) hi.1 dL_1215 dL_1216 dL_1217 (by decide) dL_1218 dL_1219 ?_
  refine law_arg (v := 2) hx hb hX hbl h (lv_at hl 0 rfl) (lv_at hl 3 rfl) hi.2.1 dL_1220 dL_1221 dL_1222 (by decide) dL_1223 dL_1224 ?_
  refine aft_i (run_V (rm := { frames := 2, cells := 0, slots := 0, locals := 43 }) (As := [.int (xs (ix (i + 1))), .int (xs (ix (i + 2)))]) (rest := [.int (f_X11_as ρ dt τ (xs (ix (i + 1))) (xs (ix (i + 2))))]) C0 cf_X12_as w_1339 ⟨Nat.le_of_ble_eq_true rfl, Nat.le_of_ble_eq_true rfl⟩ (k_X12_as l (gA g f) σ (xs (ix (i + 1))) (xs (ix (i + 2))) hR.ib) (h.pm E) rfl hl.1 rfl (Nat.le_of_ble_eq_true rfl) dL_1225 ⟨by show cells + 0 ≤ 600000; omega, by show slots + 0 ≤ 7302250; omega⟩) ?_
  have er := q_as hR.rn hR.rk hR.ib (xs (ix (i + 1))) (xs (ix (i + 2)))
  refine lv_icmp_eq (tgt := 1282) hx hb dL_1228 (by decide) (fun _ => ?_) (fun n => absurd er n)
  refine W.widen (k := cells + 2) (n := slots + 103) (by omega) (by omega) ?_
  exact kk (ρ, dt, τ) σ H locs h hR
theorem dL_1233 : decode code 1233 = .ok (.aload_n 1, 1) := by decide +kernel
theorem dL_1234 : decode code 1234 = .ok (.invokevirtual 150, 3) := by decide +kernel
theorem dL_1237 : decode code 1237 = .ok (.aload_n 2, 1) := by decide +kernel
theorem dL_1238 : decode code 1238 = .ok (.invokevirtual 153, 3) := by decide +kernel
theorem dL_1241 : decode code 1241 = .ok (.if_icmp .eq 41, 3) := by decide +kernel
set_option maxRecDepth 20000 in
theorem w_945 : (Cond.methodLink RL 150 yX11_image) ∈ TB := inTB (List.mem_of_getElem? (i := 945) (by decide +kernel)) (by decide +kernel)
set_option maxRecDepth 20000 in
theorem w_948 : (Cond.code yX11_image cX11_image 1 (some .int)) ∈ TB := inTB (List.mem_of_getElem? (i := 948) (by decide +kernel)) (by decide +kernel)
set_option maxRecDepth 20000 in
theorem w_946 : (Cond.instanceMethod yX11_image) ∈ TB := inTB (List.mem_of_getElem? (i := 946) (by decide +kernel)) (by decide +kernel)
set_option maxRecDepth 20000 in
theorem w_947 : (Cond.selects RX11 yX11_image yX11_image) ∈ TB := inTB (List.mem_of_getElem? (i := 947) (by decide +kernel)) (by decide +kernel)
theorem cf_X11_image : CF yX11_image cX11_image 1 (some .int) 0 := ⟨w_946, w_947, w_71, w_948, by decide +kernel, by decide +kernel, by decide +kernel⟩
set_option maxRecDepth 20000 in
theorem w_1343 : (Cond.methodLink RL 153 yX12_image) ∈ TB := inTB (List.mem_of_getElem? (i := 1343) (by decide +kernel)) (by decide +kernel)
set_option maxRecDepth 20000 in
theorem w_1346 : (Cond.code yX12_image cX12_image 2 (some .int)) ∈ TB := inTB (List.mem_of_getElem? (i := 1346) (by decide +kernel)) (by decide +kernel)
set_option maxRecDepth 20000 in
theorem w_1344 : (Cond.instanceMethod yX12_image) ∈ TB := inTB (List.mem_of_getElem? (i := 1344) (by decide +kernel)) (by decide +kernel)
set_option maxRecDepth 20000 in
theorem w_1345 : (Cond.selects RX12 yX12_image yX12_image) ∈ TB := inTB (List.mem_of_getElem? (i := 1345) (by decide +kernel)) (by decide +kernel)
theorem cf_X12_image : CF yX12_image cX12_image 2 (some .int) 0 := ⟨w_1344, w_1345, w_75, w_1346, by decide +kernel, by decide +kernel, by decide +kernel⟩
set_option maxHeartbeats 1000000 in
set_option maxRecDepth 100000 in
theorem lc_image {p : Program} {l : Launch} {e : Env} {s : State} {m : MethodId} {below : List Frame} {meth : Method} {c : Code} {Q : State → Prop} {b L : Nat} {xs : Nat → Int32} {g : GG} {f : Nat → Nat} {aK aV : Nat → Nat} (C0 : BC p s m #[Value.ref b] meth c code RL 4 ret) (E : LE g aK aV s) (hX : va_X b L xs s s.heap) (hbl : b < s.heap.size) {i : Int32} (hi : vp_in (i + 1) L ∧ vp_in (i + 2) L ∧ vp_in (i + 3) L ∧ vp_in (i + 4) L ∧ vp_in (i + 5) L) {x : X3} {σ : St} {H : Heap} {locs : List Loc} {cells slots : Nat} (hc : cells + 2 ≤ 600000) (hs : slots + 103 ≤ 7302250) {ls : Array Slot} (hl : lv_has ls 4 [(0, .ref b), (1, .ref (g.2.2 100)), (2, .ref (f 100)), (3, .int i)]) (h : LH g f s x σ H locs) (hR : RLL x.1 x.2.1 x.2.2 σ)
    (kk : ∀ (x' : X3) (σ' : St) (H' : Heap) (locs' : List Loc), LH g f s x' σ' H' locs' → RLL x'.1 x'.2.1 x'.2.2 σ' → W p l e room_1 s m #[Value.ref b] below meth c H' locs' (cells + 2) (slots + 103) Q (F0 m 1282 ls [])) : W p l e room_1 s m #[Value.ref b] below meth c H locs cells slots Q (F0 m 1233 ls []) := by
  obtain ⟨hx, hb, -, -, -, -, -⟩ := id C0
  have hfr := h.fr
  refine lv_aload_n hx hb dL_1233 rfl (lv_at hl 1 rfl) ?_
  refine h.cxj (mc := 0) (ms := 0) (run_V (rm := { frames := 2, cells := 0, slots := 0, locals := 52 }) (As := []) (rest := []) C0 cf_X11_image w_945 ⟨Nat.le_of_ble_eq_true rfl, Nat.le_of_ble_eq_true rfl⟩ (k_X11_image l g aK aV x H.size) (h.pxx E) rfl hl.1 rfl (Nat.le_of_ble_eq_true rfl) dL_1234 ⟨by show cells + 0 ≤ 600000; omega, by show slots + 0 ≤ 7302250; omega⟩) (fun r u H1 hu => old_image hu) (fun r u H locs hu h => ?_)
  refine lv_aload_n hx hb dL_1237 rfl (lv_at hl 2 rfl) ?_
  refine h.cmm (run_V (rm := { frames := 0, cells := 0, slots := 0, locals := 0 }) (As := []) (rest := [.int (r)]) C0 cf_X12_image w_1343 ⟨Nat.le_of_ble_eq_true rfl, Nat.le_of_ble_eq_true rfl⟩ (k_X12_image l (gA g f) σ hR.ib) (h.pm E) rfl hl.1 rfl (Nat.le_of_ble_eq_true rfl) dL_1238 ⟨by show cells + 0 + 0 ≤ 600000; omega, by show slots + 0 + 0 ≤ 7302250; omega⟩) (fun H locs h => ?_)
  have er := image_ok hR hu
  refine lv_icmp_eq (tgt := 1282) hx hb dL_1241 (by decide) (fun _ => ?_) (fun n => absurd er.1 n)
  refine W.widen (k := cells + 2) (n := slots + 103) (by omega) (by omega) ?_
  exact kk _ _ H locs h er.2
theorem dL_1246 : decode code 1246 = .ok (.aload_n 1, 1) := by decide +kernel
theorem dL_1247 : decode code 1247 = .ok (.invokevirtual 154, 3) := by decide +kernel
theorem dL_1250 : decode code 1250 = .ok (.aload_n 2, 1) := by decide +kernel
theorem dL_1251 : decode code 1251 = .ok (.invokevirtual 157, 3) := by decide +kernel
theorem dL_1254 : decode code 1254 = .ok (.if_icmp .eq 28, 3) := by decide +kernel
set_option maxRecDepth 20000 in
theorem w_954 : (Cond.methodLink RL 154 yX11_undo) ∈ TB := inTB (List.mem_of_getElem? (i := 954) (by decide +kernel)) (by decide +kernel)
set_option maxRecDepth 20000 in
theorem w_957 : (Cond.code yX11_undo cX11_undo 1 (some .int)) ∈ TB := inTB (List.mem_of_getElem? (i := 957) (by decide +kernel)) (by decide +kernel)
set_option maxRecDepth 20000 in
theorem w_955 : (Cond.instanceMethod yX11_undo) ∈ TB := inTB (List.mem_of_getElem? (i := 955) (by decide +kernel)) (by decide +kernel)
set_option maxRecDepth 20000 in
theorem w_956 : (Cond.selects RX11 yX11_undo yX11_undo) ∈ TB := inTB (List.mem_of_getElem? (i := 956) (by decide +kernel)) (by decide +kernel)
theorem cf_X11_undo : CF yX11_undo cX11_undo 1 (some .int) 0 := ⟨w_955, w_956, w_71, w_957, by decide +kernel, by decide +kernel, by decide +kernel⟩
set_option maxRecDepth 20000 in
theorem w_1347 : (Cond.methodLink RL 157 yX12_undo) ∈ TB := inTB (List.mem_of_getElem? (i := 1347) (by decide +kernel)) (by decide +kernel)
set_option maxRecDepth 20000 in
theorem w_1350 : (Cond.code yX12_undo cX12_undo 2 (some .int)) ∈ TB := inTB (List.mem_of_getElem? (i := 1350) (by decide +kernel)) (by decide +kernel)
set_option maxRecDepth 20000 in
theorem w_1348 : (Cond.instanceMethod yX12_undo) ∈ TB := inTB (List.mem_of_getElem? (i := 1348) (by decide +kernel)) (by decide +kernel)
set_option maxRecDepth 20000 in
theorem w_1349 : (Cond.selects RX12 yX12_undo yX12_undo) ∈ TB := inTB (List.mem_of_getElem? (i := 1349) (by decide +kernel)) (by decide +kernel)
theorem cf_X12_undo : CF yX12_undo cX12_undo 2 (some .int) 0 := ⟨w_1348, w_1349, w_75, w_1350, by decide +kernel, by decide +kernel, by decide +kernel⟩
set_option maxHeartbeats 1000000 in
set_option maxRecDepth 100000 in
theorem lc_undo {p : Program} {l : Launch} {e : Env} {s : State} {m : MethodId} {below : List Frame} {meth : Method} {c : Code} {Q : State → Prop} {b L : Nat} {xs : Nat → Int32} {g : GG} {f : Nat → Nat} {aK aV : Nat → Nat} (C0 : BC p s m #[Value.ref b] meth c code RL 4 ret) (E : LE g aK aV s) (hX : va_X b L xs s s.heap) (hbl : b < s.heap.size) {i : Int32} (hi : vp_in (i + 1) L ∧ vp_in (i + 2) L ∧ vp_in (i + 3) L ∧ vp_in (i + 4) L ∧ vp_in (i + 5) L) {x : X3} {σ : St} {H : Heap} {locs : List Loc} {cells slots : Nat} (hc : cells + 2 ≤ 600000) (hs : slots + 103 ≤ 7302250) {ls : Array Slot} (hl : lv_has ls 4 [(0, .ref b), (1, .ref (g.2.2 100)), (2, .ref (f 100)), (3, .int i)]) (h : LH g f s x σ H locs) (hR : RLL x.1 x.2.1 x.2.2 σ)
    (kk : ∀ (x' : X3) (σ' : St) (H' : Heap) (locs' : List Loc), LH g f s x' σ' H' locs' → RLL x'.1 x'.2.1 x'.2.2 σ' → W p l e room_1 s m #[Value.ref b] below meth c H' locs' (cells + 2) (slots + 103) Q (F0 m 1282 ls [])) : W p l e room_1 s m #[Value.ref b] below meth c H locs cells slots Q (F0 m 1246 ls []) := by
  obtain ⟨hx, hb, -, -, -, -, -⟩ := id C0
  have hfr := h.fr
  refine lv_aload_n hx hb dL_1246 rfl (lv_at hl 1 rfl) ?_
  refine h.cxj (mc := 0) (ms := 0) (run_V (rm := { frames := 2, cells := 0, slots := 0, locals := 52 }) (As := []) (rest := []) C0 cf_X11_undo w_954 ⟨Nat.le_of_ble_eq_true rfl, Nat.le_of_ble_eq_true rfl⟩ (k_X11_undo l g aK aV x H.size) (h.pxx E) rfl hl.1 rfl (Nat.le_of_ble_eq_true rfl) dL_1247 ⟨by show cells + 0 ≤ 600000; omega, by show slots + 0 ≤ 7302250; omega⟩) (fun r u H1 hu => old_undo hu) (fun r u H locs hu h => ?_)
  refine lv_aload_n hx hb dL_1250 rfl (lv_at hl 2 rfl) ?_
  refine h.cmm (run_V (rm := { frames := 0, cells := 0, slots := 0, locals := 0 }) (As := []) (rest := [.int (r)]) C0 cf_X12_undo w_1347 ⟨Nat.le_of_ble_eq_true rfl, Nat.le_of_ble_eq_true rfl⟩ (k_X12_undo l (gA g f) σ) (h.pm E) rfl hl.1 rfl (Nat.le_of_ble_eq_true rfl) dL_1251 ⟨by show cells + 0 + 0 ≤ 600000; omega, by show slots + 0 + 0 ≤ 7302250; omega⟩) (fun H locs h => ?_)
  have er := undo_ok hR hu
  refine lv_icmp_eq (tgt := 1282) hx hb dL_1254 (by decide) (fun _ => ?_) (fun n => absurd er.1 n)
  refine W.widen (k := cells + 2) (n := slots + 103) (by omega) (by omega) ?_
  exact kk _ _ H locs h er.2
theorem dL_1259 : decode code 1259 = .ok (.aload_n 1, 1) := by decide +kernel
theorem dL_1260 : decode code 1260 = .ok (.aload_n 0, 1) := by decide +kernel
theorem dL_1261 : decode code 1261 = .ok (.iload_n 3, 1) := by decide +kernel
theorem dL_1262 : decode code 1262 = .ok (.iconst 1, 1) := by decide +kernel
theorem dL_1263 : decode code 1263 = .ok (.iadd, 1) := by decide +kernel
theorem dL_1264 : decode code 1264 = .ok (.iaload, 1) := by decide +kernel
theorem dL_1265 : decode code 1265 = .ok (.invokevirtual 158, 3) := by decide +kernel
theorem dL_1268 : decode code 1268 = .ok (.aload_n 2, 1) := by decide +kernel
theorem dL_1269 : decode code 1269 = .ok (.aload_n 0, 1) := by decide +kernel
theorem dL_1270 : decode code 1270 = .ok (.iload_n 3, 1) := by decide +kernel
theorem dL_1271 : decode code 1271 = .ok (.iconst 1, 1) := by decide +kernel
theorem dL_1272 : decode code 1272 = .ok (.iadd, 1) := by decide +kernel
theorem dL_1273 : decode code 1273 = .ok (.iaload, 1) := by decide +kernel
theorem dL_1274 : decode code 1274 = .ok (.invokevirtual 161, 3) := by decide +kernel
theorem dL_1277 : decode code 1277 = .ok (.if_icmp .eq 5, 3) := by decide +kernel
set_option maxRecDepth 20000 in
theorem w_958 : (Cond.methodLink RL 158 yX11_count) ∈ TB := inTB (List.mem_of_getElem? (i := 958) (by decide +kernel)) (by decide +kernel)
set_option maxRecDepth 20000 in
theorem w_961 : (Cond.code yX11_count cX11_count 2 (some .int)) ∈ TB := inTB (List.mem_of_getElem? (i := 961) (by decide +kernel)) (by decide +kernel)
set_option maxRecDepth 20000 in
theorem w_959 : (Cond.instanceMethod yX11_count) ∈ TB := inTB (List.mem_of_getElem? (i := 959) (by decide +kernel)) (by decide +kernel)
set_option maxRecDepth 20000 in
theorem w_960 : (Cond.selects RX11 yX11_count yX11_count) ∈ TB := inTB (List.mem_of_getElem? (i := 960) (by decide +kernel)) (by decide +kernel)
theorem cf_X11_count : CF yX11_count cX11_count 2 (some .int) 1 := ⟨w_959, w_960, w_71, w_961, by decide +kernel, by decide +kernel, by decide +kernel⟩
set_option maxRecDepth 20000 in
theorem w_1351 : (Cond.methodLink RL 161 yX12_count) ∈ TB := inTB (List.mem_of_getElem? (i := 1351) (by decide +kernel)) (by decide +kernel)
set_option maxRecDepth 20000 in
theorem w_1354 : (Cond.code yX12_count cX12_count 2 (some .int)) ∈ TB := inTB (List.mem_of_getElem? (i := 1354) (by decide +kernel)) (by decide +kernel)
set_option maxRecDepth 20000 in
theorem w_1352 : (Cond.instanceMethod yX12_count) ∈ TB := inTB (List.mem_of_getElem? (i := 1352) (by decide +kernel)) (by decide +kernel)
set_option maxRecDepth 20000 in
theorem w_1353 : (Cond.selects RX12 yX12_count yX12_count) ∈ TB := inTB (List.mem_of_getElem? (i := 1353) (by decide +kernel)) (by decide +kernel)
theorem cf_X12_count : CF yX12_count cX12_count 2 (some .int) 1 := ⟨w_1352, w_1353, w_75, w_1354, by decide +kernel, by decide +kernel, by decide +kernel⟩
set_option maxHeartbeats 1000000 in
set_option maxRecDepth 100000 in
theorem lc_count {p : Program} {l : Launch} {e : Env} {s : State} {m : MethodId} {below : List Frame} {meth : Method} {c : Code} {Q : State → Prop} {b L : Nat} {xs : Nat → Int32} {g : GG} {f : Nat → Nat} {aK aV : Nat → Nat} (C0 : BC p s m #[Value.ref b] meth c code RL 4 ret) (E : LE g aK aV s) (hX : va_X b L xs s s.heap) (hbl : b < s.heap.size) {i : Int32} (hi : vp_in (i + 1) L ∧ vp_in (i + 2) L ∧ vp_in (i + 3) L ∧ vp_in (i + 4) L ∧ vp_in (i + 5) L) {x : X3} {σ : St} {H : Heap} {locs : List Loc} {cells slots : Nat} (hc : cells + 2 ≤ 600000) (hs : slots + 103 ≤ 7302250) {ls : Array Slot} (hl : lv_has ls 4 [(0, .ref b), (1, .ref (g.2.2 100)), (2, .ref (f 100)), (3, .int i)]) (h : LH g f s x σ H locs) (hR : RLL x.1 x.2.1 x.2.2 σ)
    (kk : ∀ (x' : X3) (σ' : St) (H' : Heap) (locs' : List Loc), LH g f s x' σ' H' locs' → RLL x'.1 x'.2.1 x'.2.2 σ' → W p l e room_1 s m #[Value.ref b] below meth c H' locs' (cells + 2) (slots + 103) Q (F0 m 1282 ls [])) : W p l e room_1 s m #[Value.ref b] below meth c H locs cells slots Q (F0 m 1259 ls []) := by
  obtain ⟨hx, hb, -, -, -, -, -⟩ := id C0
  obtain ⟨ρ, dt, τ⟩ := x
  have hR : RLL ρ dt τ σ := hR
  refine lv_aload_n hx hb dL_1259 rfl (lv_at hl 1 rfl) ?_
  refine law_arg (v := 1) hx hb hX hbl h (lv_at hl 0 rfl) (lv_at hl 3 rfl) hi.1 dL_1260 dL_1261 dL_1262 (by decide) dL_1263 dL_1264 ?_
  refine aft_i (run_V (rm := { frames := 0, cells := 0, slots := 0, locals := 0 }) (As := [.int (xs (ix (i + 1)))]) (rest := []) C0 cf_X11_count w_958 ⟨Nat.le_of_ble_eq_true rfl, Nat.le_of_ble_eq_true rfl⟩ (k_X11_count l g ρ dt τ (xs (ix (i + 1))) hR.ix) (h.px E) rfl hl.1 rfl (Nat.le_of_ble_eq_true rfl) dL_1265 ⟨by show cells + 0 ≤ 600000; omega, by show slots + 0 ≤ 7302250; omega⟩) ?_
  refine lv_aload_n hx hb dL_1268 rfl (lv_at hl 2 rfl) ?_
  refine law_arg (v := 1) hx hb hX hbl h (lv_at hl 0 rfl) (lv_at hl 3 rfl) hi.1 dL_1269 dL_1270 dL_1271 (by decide) dL_1272 dL_1273 ?_
  refine aft_i (run_V (rm := { frames := 1, cells := 0, slots := 0, locals := 22 }) (As := [.int (xs (ix (i + 1)))]) (rest := [.int (f_X11_count τ (xs (ix (i + 1))))]) C0 cf_X12_count w_1351 ⟨Nat.le_of_ble_eq_true rfl, Nat.le_of_ble_eq_true rfl⟩ (k_X12_count l (gA g f) σ (xs (ix (i + 1))) hR.ib) (h.pm E) rfl hl.1 rfl (Nat.le_of_ble_eq_true rfl) dL_1274 ⟨by show cells + 0 ≤ 600000; omega, by show slots + 0 ≤ 7302250; omega⟩) ?_
  have er := q_count hR (xs (ix (i + 1)))
  refine lv_icmp_eq (tgt := 1282) hx hb dL_1277 (by decide) (fun _ => ?_) (fun n => absurd er n)
  refine W.widen (k := cells + 2) (n := slots + 103) (by omega) (by omega) ?_
  exact kk (ρ, dt, τ) σ H locs h hR
