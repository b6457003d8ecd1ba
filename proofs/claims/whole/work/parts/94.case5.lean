/-! THE LAW: its calls, one by one -/
theorem dL_1007 : decode code 1007 = .ok (.aload_n 1, 1) := by decide +kernel
theorem dL_1008 : decode code 1008 = .ok (.aload_n 0, 1) := by decide +kernel
theorem dL_1009 : decode code 1009 = .ok (.iload_n 3, 1) := by decide +kernel
theorem dL_1010 : decode code 1010 = .ok (.iconst 1, 1) := by decide +kernel
theorem dL_1011 : decode code 1011 = .ok (.iadd, 1) := by decide +kernel
theorem dL_1012 : decode code 1012 = .ok (.iaload, 1) := by decide +kernel
theorem dL_1013 : decode code 1013 = .ok (.aload_n 0, 1) := by decide +kernel
theorem dL_1014 : decode code 1014 = .ok (.iload_n 3, 1) := by decide +kernel
theorem dL_1015 : decode code 1015 = .ok (.iconst 2, 1) := by decide +kernel
theorem dL_1016 : decode code 1016 = .ok (.iadd, 1) := by decide +kernel
theorem dL_1017 : decode code 1017 = .ok (.iaload, 1) := by decide +kernel
theorem dL_1018 : decode code 1018 = .ok (.aload_n 0, 1) := by decide +kernel
theorem dL_1019 : decode code 1019 = .ok (.iload_n 3, 1) := by decide +kernel
theorem dL_1020 : decode code 1020 = .ok (.iconst 3, 1) := by decide +kernel
theorem dL_1021 : decode code 1021 = .ok (.iadd, 1) := by decide +kernel
theorem dL_1022 : decode code 1022 = .ok (.iaload, 1) := by decide +kernel
theorem dL_1023 : decode code 1023 = .ok (.invokevirtual 116, 3) := by decide +kernel
theorem dL_1026 : decode code 1026 = .ok (.aload_n 2, 1) := by decide +kernel
theorem dL_1027 : decode code 1027 = .ok (.aload_n 0, 1) := by decide +kernel
theorem dL_1028 : decode code 1028 = .ok (.iload_n 3, 1) := by decide +kernel
theorem dL_1029 : decode code 1029 = .ok (.iconst 1, 1) := by decide +kernel
theorem dL_1030 : decode code 1030 = .ok (.iadd, 1) := by decide +kernel
theorem dL_1031 : decode code 1031 = .ok (.iaload, 1) := by decide +kernel
theorem dL_1032 : decode code 1032 = .ok (.aload_n 0, 1) := by decide +kernel
theorem dL_1033 : decode code 1033 = .ok (.iload_n 3, 1) := by decide +kernel
theorem dL_1034 : decode code 1034 = .ok (.iconst 2, 1) := by decide +kernel
theorem dL_1035 : decode code 1035 = .ok (.iadd, 1) := by decide +kernel
theorem dL_1036 : decode code 1036 = .ok (.iaload, 1) := by decide +kernel
theorem dL_1037 : decode code 1037 = .ok (.aload_n 0, 1) := by decide +kernel
theorem dL_1038 : decode code 1038 = .ok (.iload_n 3, 1) := by decide +kernel
theorem dL_1039 : decode code 1039 = .ok (.iconst 3, 1) := by decide +kernel
theorem dL_1040 : decode code 1040 = .ok (.iadd, 1) := by decide +kernel
theorem dL_1041 : decode code 1041 = .ok (.iaload, 1) := by decide +kernel
theorem dL_1042 : decode code 1042 = .ok (.invokevirtual 120, 3) := by decide +kernel
theorem dL_1045 : decode code 1045 = .ok (.lcmp, 1) := by decide +kernel
theorem dL_1046 : decode code 1046 = .ok (.ifCond .eq 236, 3) := by decide +kernel
set_option maxRecDepth 20000 in
theorem w_838 : (Cond.methodLink RL 116 yX11_odds) ∈ TB := inTB (List.mem_of_getElem? (i := 838) (by decide +kernel)) (by decide +kernel)
set_option maxRecDepth 20000 in
theorem w_841 : (Cond.code yX11_odds cX11_odds 6 (some .long)) ∈ TB := inTB (List.mem_of_getElem? (i := 841) (by decide +kernel)) (by decide +kernel)
set_option maxRecDepth 20000 in
theorem w_839 : (Cond.instanceMethod yX11_odds) ∈ TB := inTB (List.mem_of_getElem? (i := 839) (by decide +kernel)) (by decide +kernel)
set_option maxRecDepth 20000 in
theorem w_840 : (Cond.selects RX11 yX11_odds yX11_odds) ∈ TB := inTB (List.mem_of_getElem? (i := 840) (by decide +kernel)) (by decide +kernel)
theorem cf_X11_odds : CF yX11_odds cX11_odds 6 (some .long) 3 := ⟨w_839, w_840, w_71, w_841, by decide +kernel, by decide +kernel, by decide +kernel⟩
set_option maxRecDepth 20000 in
theorem w_1279 : (Cond.methodLink RL 120 yX12_odds) ∈ TB := inTB (List.mem_of_getElem? (i := 1279) (by decide +kernel)) (by decide +kernel)
set_option maxRecDepth 20000 in
theorem w_1282 : (Cond.code yX12_odds cX12_odds 5 (some .long)) ∈ TB := inTB (List.mem_of_getElem? (i := 1282) (by decide +kernel)) (by decide +kernel)
set_option maxRecDepth 20000 in
theorem w_1280 : (Cond.instanceMethod yX12_odds) ∈ TB := inTB (List.mem_of_getElem? (i := 1280) (by decide +kernel)) (by decide +kernel)
set_option maxRecDepth 20000 in
theorem w_1281 : (Cond.selects RX12 yX12_odds yX12_odds) ∈ TB := inTB (List.mem_of_getElem? (i := 1281) (by decide +kernel)) (by decide +kernel)
theorem cf_X12_odds : CF yX12_odds cX12_odds 5 (some .long) 3 := ⟨w_1280, w_1281, w_75, w_1282, by decide +kernel, by decide +kernel, by decide +kernel⟩
set_option maxHeartbeats 1000000 in
set_option maxRecDepth 100000 in
theorem lc_odds {p : Program} {l : Launch} {e : Env} {s : State} {m : MethodId} {below : List Frame} {meth : Method} {c : Code} {Q : State → Prop} {b L : Nat} {xs : Nat → Int32} {g : GG} {f : Nat → Nat} {aK aV : Nat → Nat} (C0 : BC p s m #[Value.ref b] meth c code RL 4 ret) (E : LE g aK aV s) (hX : va_X b L xs s s.heap) (hbl : b < s.heap.size) {i : Int32} (hi : vp_in (i + 1) L ∧ vp_in (i + 2) L ∧ vp_in (i + 3) L ∧ vp_in (i + 4) L ∧ vp_in (i + 5) L) {x : X3} {σ : St} {H : Heap} {locs : List Loc} {cells slots : Nat} (hc : cells + 2 ≤ 600000) (hs : slots + 103 ≤ 7302250) {ls : Array Slot} (hl : lv_has ls 4 [(0, .ref b), (1, .ref (g.2.2 100)), (2, .ref (f 100)), (3, .int i)]) (h : LH g f s x σ H locs) (hR : RLL x.1 x.2.1 x.2.2 σ)
    (kk : ∀ (x' : X3) (σ' : St) (H' : Heap) (locs' : List Loc), LH g f s x' σ' H' locs' → RLL x'.1 x'.2.1 x'.2.2 σ' → W p l e room_1 s m #[Value.ref b] below meth c H' locs' (cells + 2) (slots + 103) Q (F0 m 1282 ls [])) : W p l e room_1 s m #[Value.ref b] below meth c H locs cells slots Q (F0 m 1007 ls []) := by
  obtain ⟨hx, hb, -, -, -, -, -⟩ := id C0
  obtain ⟨ρ, dt, τ⟩ := x
  have hR : RLL ρ dt τ σ := hR
  refine lv_aload_n hx hb dL_1007 rfl (lv_at hl 1 rfl) ?_
  refine law_arg (v := 1) hx hb hX hbl h (lv_at hl 0 rfl) (lv_at hl 3 rfl) hi.1 dL_1008 dL_1009 dL_1010 (by decide) dL_1011 dL_1012 ?_
  refine law_arg (v := 2) hx hb hX hbl h (lv_at hl 0 rfl) (lv_at hl 3 rfl) hi.2.1 dL_1013 dL_1014 dL_1015 (by decide) dL_1016 dL_1017 ?_
  refine law_arg (v := 3) hx hb hX hbl h (lv_at hl 0 rfl) (lv_at hl 3 rfl) hi.2.2.1 dL_1018 dL_1019 dL_1020 (by decide) dL_1021 dL_1022 ?_
  refine aft_l (run_V (rm := { frames := 1, cells := 0, slots := 0, locals := 31 }) (As := [.int (xs (ix (i + 1))), .int (xs (ix (i + 2))), .int (xs (ix (i + 3)))]) (rest := []) C0 cf_X11_odds w_838 ⟨Nat.le_of_ble_eq_true rfl, Nat.le_of_ble_eq_true rfl⟩ (k_X11_odds l g ρ dt τ (xs (ix (i + 1))) (xs (ix (i + 2))) (xs (ix (i + 3))) hR.ix) (h.px E) rfl hl.1 rfl (Nat.le_of_ble_eq_true rfl) dL_1023 ⟨by show cells + 0 ≤ 600000; omega, by show slots + 0 ≤ 7302250; omega⟩) ?_
  refine lv_aload_n hx hb dL_1026 rfl (lv_at hl 2 rfl) ?_
  refine law_arg (v := 1) hx hb hX hbl h (lv_at hl 0 rfl) (lv_at hl 3 rfl) hi.1 dL_1027 dL_1028 dL_1029 (by decide) dL_1030 dL_1031 ?_
  refine law_arg (v := 2) hx hb hX hbl h (lv_at hl 0 rfl) (lv_at hl 3 rfl) hi.2.1 dL_1032 dL_1033 dL_1034 (by decide) dL_1035 dL_1036 ?_
  refine law_arg (v := 3) hx hb hX hbl h (lv_at hl 0 rfl) (lv_at hl 3 rfl) hi.2.2.1 dL_1037 dL_1038 dL_1039 (by decide) dL_1040 dL_1041 ?_
  refine aft_l (run_V (rm := { frames := 2, cells := 0, slots := 0, locals := 43 }) (As := [.int (xs (ix (i + 1))), .int (xs (ix (i + 2))), .int (xs (ix (i + 3)))]) (rest := [.long (f_X11_odds τ (xs (ix (i + 1))) (xs (ix (i + 2))) (xs (ix (i + 3))))]) C0 cf_X12_odds w_1279 ⟨Nat.le_of_ble_eq_true rfl, Nat.le_of_ble_eq_true rfl⟩ (k_X12_odds l (gA g f) σ (xs (ix (i + 1))) (xs (ix (i + 2))) (xs (ix (i + 3))) hR.ib) (h.pm E) rfl hl.1 rfl (Nat.le_of_ble_eq_true rfl) dL_1042 ⟨by show cells + 0 ≤ 600000; omega, by show slots + 0 ≤ 7302250; omega⟩) ?_
  have er := q_odds hR.rn hR.ib (xs (ix (i + 1))) (xs (ix (i + 2))) (xs (ix (i + 3)))
  refine W.lcmp hx hb dL_1045 ?_
  refine lv_if_eq (tgt := 1282) hx hb dL_1046 (by decide) (fun _ => ?_) (fun n => absurd ((lg_cmp_eq _ _).mpr er) n)
  refine W.widen (k := cells + 2) (n := slots + 103) (by omega) (by omega) ?_
  exact kk (ρ, dt, τ) σ H locs h hR
theorem dL_1051 : decode code 1051 = .ok (.aload_n 1, 1) := by decide +kernel
theorem dL_1052 : decode code 1052 = .ok (.aload_n 0, 1) := by decide +kernel
theorem dL_1053 : decode code 1053 = .ok (.iload_n 3, 1) := by decide +kernel
theorem dL_1054 : decode code 1054 = .ok (.iconst 1, 1) := by decide +kernel
theorem dL_1055 : decode code 1055 = .ok (.iadd, 1) := by decide +kernel
theorem dL_1056 : decode code 1056 = .ok (.iaload, 1) := by decide +kernel
theorem dL_1057 : decode code 1057 = .ok (.invokevirtual 121, 3) := by decide +kernel
theorem dL_1060 : decode code 1060 = .ok (.aload_n 2, 1) := by decide +kernel
theorem dL_1061 : decode code 1061 = .ok (.aload_n 0, 1) := by decide +kernel
theorem dL_1062 : decode code 1062 = .ok (.iload_n 3, 1) := by decide +kernel
theorem dL_1063 : decode code 1063 = .ok (.iconst 1, 1) := by decide +kernel
theorem dL_1064 : decode code 1064 = .ok (.iadd, 1) := by decide +kernel
theorem dL_1065 : decode code 1065 = .ok (.iaload, 1) := by decide +kernel
theorem dL_1066 : decode code 1066 = .ok (.invokevirtual 125, 3) := by decide +kernel
theorem dL_1069 : decode code 1069 = .ok (.lcmp, 1) := by decide +kernel
theorem dL_1070 : decode code 1070 = .ok (.ifCond .eq 212, 3) := by decide +kernel
set_option maxRecDepth 20000 in
theorem w_842 : (Cond.methodLink RL 121 yX11_mean) ∈ TB := inTB (List.mem_of_getElem? (i := 842) (by decide +kernel)) (by decide +kernel)
set_option maxRecDepth 20000 in
theorem w_845 : (Cond.code yX11_mean cX11_mean 4 (some .long)) ∈ TB := inTB (List.mem_of_getElem? (i := 845) (by decide +kernel)) (by decide +kernel)
set_option maxRecDepth 20000 in
theorem w_843 : (Cond.instanceMethod yX11_mean) ∈ TB := inTB (List.mem_of_getElem? (i := 843) (by decide +kernel)) (by decide +kernel)
set_option maxRecDepth 20000 in
theorem w_844 : (Cond.selects RX11 yX11_mean yX11_mean) ∈ TB := inTB (List.mem_of_getElem? (i := 844) (by decide +kernel)) (by decide +kernel)
theorem cf_X11_mean : CF yX11_mean cX11_mean 4 (some .long) 1 := ⟨w_843, w_844, w_71, w_845, by decide +kernel, by decide +kernel, by decide +kernel⟩
set_option maxRecDepth 20000 in
theorem w_1283 : (Cond.methodLink RL 125 yX12_mean) ∈ TB := inTB (List.mem_of_getElem? (i := 1283) (by decide +kernel)) (by decide +kernel)
set_option maxRecDepth 20000 in
theorem w_1286 : (Cond.code yX12_mean cX12_mean 5 (some .long)) ∈ TB := inTB (List.mem_of_getElem? (i := 1286) (by decide +kernel)) (by decide +kernel)
set_option maxRecDepth 20000 in
theorem w_1284 : (Cond.instanceMethod yX12_mean) ∈ TB := inTB (List.mem_of_getElem? (i := 1284) (by decide +kernel)) (by decide +kernel)
set_option maxRecDepth 20000 in
theorem w_1285 : (Cond.selects RX12 yX12_mean yX12_mean) ∈ TB := inTB (List.mem_of_getElem? (i := 1285) (by decide +kernel)) (by decide +kernel)
theorem cf_X12_mean : CF yX12_mean cX12_mean 5 (some .long) 1 := ⟨w_1284, w_1285, w_75, w_1286, by decide +kernel, by decide +kernel, by decide +kernel⟩
set_option maxHeartbeats 1000000 in
set_option maxRecDepth 100000 in
theorem lc_mean {p : Program} {l : Launch} {e : Env} {s : State} {m : MethodId} {below : List Frame} {meth : Method} {c : Code} {Q : State → Prop} {b L : Nat} {xs : Nat → Int32} {g : GG} {f : Nat → Nat} {aK aV : Nat → Nat} (C0 : BC p s m #[Value.ref b] meth c code RL 4 ret) (E : LE g aK aV s) (hX : va_X b L xs s s.heap) (hbl : b < s.heap.size) {i : Int32} (hi : vp_in (i + 1) L ∧ vp_in (i + 2) L ∧ vp_in (i + 3) L ∧ vp_in (i + 4) L ∧ vp_in (i + 5) L) {x : X3} {σ : St} {H : Heap} {locs : List Loc} {cells slots : Nat} (hc : cells + 2 ≤ 600000) (hs : slots + 103 ≤ 7302250) {ls : Array Slot} (hl : lv_has ls 4 [(0, .ref b), (1, .ref (g.2.2 100)), (2, .ref (f 100)), (3, .int i)]) (h : LH g f s x σ H locs) (hR : RLL x.1 x.2.1 x.2.2 σ)
    (kk : ∀ (x' : X3) (σ' : St) (H' : Heap) (locs' : List Loc), LH g f s x' σ' H' locs' → RLL x'.1 x'.2.1 x'.2.2 σ' → W p l e room_1 s m #[Value.ref b] below meth c H' locs' (cells + 2) (slots + 103) Q (F0 m 1282 ls [])) : W p l e room_1 s m #[Value.ref b] below meth c H locs cells slots Q (F0 m 1051 ls []) := by
  obtain ⟨hx, hb, -, -, -, -, -⟩ := id C0
  obtain ⟨ρ, dt, τ⟩ := x
  have hR : RLL ρ dt τ σ := hR
  refine lv_aload_n hx hb dL_1051 rfl (lv_at hl 1 rfl) ?_
  refine law_arg (v := 1) hx hb hX hbl h (lv_at hl 0 rfl) (lv_at hl 3 rfl) hi.1 dL_1052 dL_1053 dL_1054 (by decide) dL_1055 dL_1056 ?_
  refine aft_l (run_V (rm := { frames := 1, cells := 0, slots := 0, locals := 31 }) (As := [.int (xs (ix (i + 1)))]) (rest := []) C0 cf_X11_mean w_842 ⟨Nat.le_of_ble_eq_true rfl, Nat.le_of_ble_eq_true rfl⟩ (k_X11_mean l g ρ dt τ (xs (ix (i + 1))) hR.ix) (h.px E) rfl hl.1 rfl (Nat.le_of_ble_eq_true rfl) dL_1057 ⟨by show cells + 0 ≤ 600000; omega, by show slots + 0 ≤ 7302250; omega⟩) ?_
  refine lv_aload_n hx hb dL_1060 rfl (lv_at hl 2 rfl) ?_
  refine law_arg (v := 1) hx hb hX hbl h (lv_at hl 0 rfl) (lv_at hl 3 rfl) hi.1 dL_1061 dL_1062 dL_1063 (by decide) dL_1064 dL_1065 ?_
  refine aft_l (run_V (rm := { frames := 1, cells := 0, slots := 0, locals := 30 }) (As := [.int (xs (ix (i + 1)))]) (rest := [.long (f_X11_mean τ (xs (ix (i + 1))))]) C0 cf_X12_mean w_1283 ⟨Nat.le_of_ble_eq_true rfl, Nat.le_of_ble_eq_true rfl⟩ (k_X12_mean l (gA g f) σ (xs (ix (i + 1))) hR.ib) (h.pm E) rfl hl.1 rfl (Nat.le_of_ble_eq_true rfl) dL_1066 ⟨by show cells + 0 ≤ 600000; omega, by show slots + 0 ≤ 7302250; omega⟩) ?_
  have er := q_mean hR.rn hR.ib (xs (ix (i + 1)))
  refine W.lcmp hx hb dL_1069 ?_
  refine lv_if_eq (tgt := 1282) hx hb dL_1070 (by decide) (fun _ => ?_) (fun n => absurd ((lg_cmp_eq _ _).mpr er) n)
  refine W.widen (k := cells + 2) (n := slots + 103) (by omega) (by omega) ?_
  exact kk (ρ, dt, τ) σ H locs h hR
theorem dL_1075 : decode code 1075 = .ok (.aload_n 1, 1) := by decide +kernel
theorem dL_1076 : decode code 1076 = .ok (.invokevirtual 126, 3) := by decide +kernel
theorem dL_1079 : decode code 1079 = .ok (.aload_n 2, 1) := by decide +kernel
theorem dL_1080 : decode code 1080 = .ok (.invokevirtual 129, 3) := by decide +kernel
theorem dL_1083 : decode code 1083 = .ok (.if_icmp .eq 199, 3) := by decide +kernel
set_option maxRecDepth 20000 in
theorem w_846 : (Cond.methodLink RL 126 yX11_spread) ∈ TB := inTB (List.mem_of_getElem? (i := 846) (by decide +kernel)) (by decide +kernel)
set_option maxRecDepth 20000 in
theorem w_849 : (Cond.code yX11_spread cX11_spread 4 (some .int)) ∈ TB := inTB (List.mem_of_getElem? (i := 849) (by decide +kernel)) (by decide +kernel)
set_option maxRecDepth 20000 in
theorem w_847 : (Cond.instanceMethod yX11_spread) ∈ TB := inTB (List.mem_of_getElem? (i := 847) (by decide +kernel)) (by decide +kernel)
set_option maxRecDepth 20000 in
theorem w_848 : (Cond.selects RX11 yX11_spread yX11_spread) ∈ TB := inTB (List.mem_of_getElem? (i := 848) (by decide +kernel)) (by decide +kernel)
theorem cf_X11_spread : CF yX11_spread cX11_spread 4 (some .int) 0 := ⟨w_847, w_848, w_71, w_849, by decide +kernel, by decide +kernel, by decide +kernel⟩
set_option maxRecDepth 20000 in
theorem w_1288 : (Cond.methodLink RL 129 yX12_spread) ∈ TB := inTB (List.mem_of_getElem? (i := 1288) (by decide +kernel)) (by decide +kernel)
set_option maxRecDepth 20000 in
theorem w_1291 : (Cond.code yX12_spread cX12_spread 3 (some .int)) ∈ TB := inTB (List.mem_of_getElem? (i := 1291) (by decide +kernel)) (by decide +kernel)
set_option maxRecDepth 20000 in
theorem w_1289 : (Cond.instanceMethod yX12_spread) ∈ TB := inTB (List.mem_of_getElem? (i := 1289) (by decide +kernel)) (by decide +kernel)
set_option maxRecDepth 20000 in
theorem w_1290 : (Cond.selects RX12 yX12_spread yX12_spread) ∈ TB := inTB (List.mem_of_getElem? (i := 1290) (by decide +kernel)) (by decide +kernel)
theorem cf_X12_spread : CF yX12_spread cX12_spread 3 (some .int) 0 := ⟨w_1289, w_1290, w_75, w_1291, by decide +kernel, by decide +kernel, by decide +kernel⟩
set_option maxHeartbeats 1000000 in
set_option maxRecDepth 100000 in
theorem lc_spread {p : Program} {l : Launch} {e : Env} {s : State} {m : MethodId} {below : List Frame} {meth : Method} {c : Code} {Q : State → Prop} {b L : Nat} {xs : Nat → Int32} {g : GG} {f : Nat → Nat} {aK aV : Nat → Nat} (C0 : BC p s m #[Value.ref b] meth c code RL 4 ret) (E : LE g aK aV s) (hX : va_X b L xs s s.heap) (hbl : b < s.heap.size) {i : Int32} (hi : vp_in (i + 1) L ∧ vp_in (i + 2) L ∧ vp_in (i + 3) L ∧ vp_in (i + 4) L ∧ vp_in (i + 5) L) {x : X3} {σ : St} {H : Heap} {locs : List Loc} {cells slots : Nat} (hc : cells + 2 ≤ 600000) (hs : slots + 103 ≤ 7302250) {ls : Array Slot} (hl : lv_has ls 4 [(0, .ref b), (1, .ref (g.2.2 100)), (2, .ref (f 100)), (3, .int i)]) (h : LH g f s x σ H locs) (hR : RLL x.1 x.2.1 x.2.2 σ)
    (kk : ∀ (x' : X3) (σ' : St) (H' : Heap) (locs' : List Loc), LH g f s x' σ' H' locs' → RLL x'.1 x'.2.1 x'.2.2 σ' → W p l e room_1 s m #[Value.ref b] below meth c H' locs' (cells + 2) (slots + 103) Q (F0 m 1282 ls [])) : W p l e room_1 s m #[Value.ref b] below meth c H locs cells slots Q (F0 m 1075 ls []) := by
  obtain ⟨hx, hb, -, -, -, -, -⟩ := id C0
  obtain ⟨ρ, dt, τ⟩ := x
  have hR : RLL ρ dt τ σ := hR
  refine lv_aload_n hx hb dL_1075 rfl (lv_at hl 1 rfl) ?_
  refine aft_i (run_V (rm := { frames := 1, cells := 0, slots := 0, locals := 21 }) (As := []) (rest := []) C0 cf_X11_spread w_846 ⟨Nat.le_of_ble_eq_true rfl, Nat.le_of_ble_eq_true rfl⟩ (k_X11_spread l g ρ dt τ hR.ix) (h.px E) rfl hl.1 rfl (Nat.le_of_ble_eq_true rfl) dL_1076 ⟨by show cells + 0 ≤ 600000; omega, by show slots + 0 ≤ 7302250; omega⟩) ?_
  refine lv_aload_n hx hb dL_1079 rfl (lv_at hl 2 rfl) ?_
  refine aft_i (run_V (rm := { frames := 1, cells := 0, slots := 0, locals := 21 }) (As := []) (rest := [.int (f_X11_spread τ)]) C0 cf_X12_spread w_1288 ⟨Nat.le_of_ble_eq_true rfl, Nat.le_of_ble_eq_true rfl⟩ (k_X12_spread l (gA g f) σ hR.ib) (h.pm E) rfl hl.1 rfl (Nat.le_of_ble_eq_true rfl) dL_1080 ⟨by show cells + 0 ≤ 600000; omega, by show slots + 0 ≤ 7302250; omega⟩) ?_
  have er := q_spread hR.rn hR.ib
  refine lv_icmp_eq (tgt := 1282) hx hb dL_1083 (by decide) (fun _ => ?_) (fun n => absurd er n)
  refine W.widen (k := cells + 2) (n := slots + 103) (by omega) (by omega) ?_
  exact kk (ρ, dt, τ) σ H locs h hR
theorem dL_1088 : decode code 1088 = .ok (.aload_n 1, 1) := by decide +kernel
theorem dL_1089 : decode code 1089 = .ok (.aload_n 0, 1) := by decide +kernel
theorem dL_1090 : decode code 1090 = .ok (.iload_n 3, 1) := by decide +kernel
theorem dL_1091 : decode code 1091 = .ok (.iconst 1, 1) := by decide +kernel
theorem dL_1092 : decode code 1092 = .ok (.iadd, 1) := by decide +kernel
theorem dL_1093 : decode code 1093 = .ok (.iaload, 1) := by decide +kernel
theorem dL_1094 : decode code 1094 = .ok (.aload_n 0, 1) := by decide +kernel
theorem dL_1095 : decode code 1095 = .ok (.iload_n 3, 1) := by decide +kernel
theorem dL_1096 : decode code 1096 = .ok (.iconst 2, 1) := by decide +kernel
theorem dL_1097 : decode code 1097 = .ok (.iadd, 1) := by decide +kernel
theorem dL_1098 : decode code 1098 = .ok (.iaload, 1) := by decide +kernel
theorem dL_1099 : decode code 1099 = .ok (.invokevirtual 130, 3) := by decide +kernel
theorem dL_1102 : decode code 1102 = .ok (.aload_n 2, 1) := by decide +kernel
theorem dL_1103 : decode code 1103 = .ok (.aload_n 0, 1) := by decide +kernel
theorem dL_1104 : decode code 1104 = .ok (.iload_n 3, 1) := by decide +kernel
theorem dL_1105 : decode code 1105 = .ok (.iconst 1, 1) := by decide +kernel
theorem dL_1106 : decode code 1106 = .ok (.iadd, 1) := by decide +kernel
theorem dL_1107 : decode code 1107 = .ok (.iaload, 1) := by decide +kernel
theorem dL_1108 : decode code 1108 = .ok (.aload_n 0, 1) := by decide +kernel
theorem dL_1109 : decode code 1109 = .ok (.iload_n 3, 1) := by decide +kernel
theorem dL_1110 : decode code 1110 = .ok (.iconst 2, 1) := by decide +kernel
theorem dL_1111 : decode code 1111 = .ok (.iadd, 1) := by decide +kernel
theorem dL_1112 : decode code 1112 = .ok (.iaload, 1) := by decide +kernel
theorem dL_1113 : decode code 1113 = .ok (.invokevirtual 133, 3) := by decide +kernel
theorem dL_1116 : decode code 1116 = .ok (.if_icmp .eq 166, 3) := by decide +kernel
set_option maxRecDepth 20000 in
theorem w_850 : (Cond.methodLink RL 130 yX11_book) ∈ TB := inTB (List.mem_of_getElem? (i := 850) (by decide +kernel)) (by decide +kernel)
set_option maxRecDepth 20000 in
theorem w_853 : (Cond.code yX11_book cX11_book 3 (some .int)) ∈ TB := inTB (List.mem_of_getElem? (i := 853) (by decide +kernel)) (by decide +kernel)
set_option maxRecDepth 20000 in
theorem w_851 : (Cond.instanceMethod yX11_book) ∈ TB := inTB (List.mem_of_getElem? (i := 851) (by decide +kernel)) (by decide +kernel)
set_option maxRecDepth 20000 in
theorem w_852 : (Cond.selects RX11 yX11_book yX11_book) ∈ TB := inTB (List.mem_of_getElem? (i := 852) (by decide +kernel)) (by decide +kernel)
theorem cf_X11_book : CF yX11_book cX11_book 3 (some .int) 2 := ⟨w_851, w_852, w_71, w_853, by decide +kernel, by decide +kernel, by decide +kernel⟩
set_option maxRecDepth 20000 in
theorem w_1292 : (Cond.methodLink RL 133 yX12_book) ∈ TB := inTB (List.mem_of_getElem? (i := 1292) (by decide +kernel)) (by decide +kernel)
set_option maxRecDepth 20000 in
theorem w_1295 : (Cond.code yX12_book cX12_book 3 (some .int)) ∈ TB := inTB (List.mem_of_getElem? (i := 1295) (by decide +kernel)) (by decide +kernel)
set_option maxRecDepth 20000 in
theorem w_1293 : (Cond.instanceMethod yX12_book) ∈ TB := inTB (List.mem_of_getElem? (i := 1293) (by decide +kernel)) (by decide +kernel)
set_option maxRecDepth 20000 in
theorem w_1294 : (Cond.selects RX12 yX12_book yX12_book) ∈ TB := inTB (List.mem_of_getElem? (i := 1294) (by decide +kernel)) (by decide +kernel)
theorem cf_X12_book : CF yX12_book cX12_book 3 (some .int) 2 := ⟨w_1293, w_1294, w_75, w_1295, by decide +kernel, by decide +kernel, by decide +kernel⟩
set_option maxHeartbeats 1000000 in
set_option maxRecDepth 100000 in
theorem lc_book {p : Program} {l : Launch} {e : Env} {s : State} {m : MethodId} {below : List Frame} {meth : Method} {c : Code} {Q : State → Prop} {b L : Nat} {xs : Nat → Int32} {g : GG} {f : Nat → Nat} {aK aV : Nat → Nat} (C0 : BC p s m #[Value.ref b] meth c code RL 4 ret) (E : LE g aK aV s) (hX : va_X b L xs s s.heap) (hbl : b < s.heap.size) {i : Int32} (hi : vp_in (i + 1) L ∧ vp_in (i + 2) L ∧ vp_in (i + 3) L ∧ vp_in (i + 4) L ∧ vp_in (i + 5) L) {x : X3} {σ : St} {H : Heap} {locs : List Loc} {cells slots : Nat} (hc : cells + 2 ≤ 600000) (hs : slots + 103 ≤ 7302250) {ls : Array Slot} (hl : lv_has ls 4 [(0, .ref b), (1, .ref (g.2.2 100)), (2, .ref (f 100)), (3, .int i)]) (h : LH g f s x σ H locs) (hR : RLL x.1 x.2.1 x.2.2 σ)
    (kk : ∀ (x' : X3) (σ' : St) (H' : Heap) (locs' : List Loc), LH g f s x' σ' H' locs' → RLL x'.1 x'.2.1 x'.2.2 σ' → W p l e room_1 s m #[Value.ref b] below meth c H' locs' (cells + 2) (slots + 103) Q (F0 m 1282 ls [])) : W p l e room_1 s m #[Value.ref b] below meth c H locs cells slots Q (F0 m 1088 ls []) := by
  obtain ⟨hx, hb, -, -, -, -, -⟩ := id C0
  obtain ⟨ρ, dt, τ⟩ := x
  have hR : RLL ρ dt τ σ := hR
  refine lv_aload_n hx hb dL_1088 rfl (lv_at hl 1 rfl) ?_
  refine law_arg (v := 1) hx hb hX hbl h (lv_at hl 0 rfl) (lv_at hl 3 rfl) hi.1 dL_1089 dL_1090 dL_1091 (by decide) dL_1092 dL_1093 ?_
  refine law_arg (v := 2) hx hb hX hbl h (lv_at hl 0 rfl) (lv_at hl 3 rfl) hi.2.1 dL_1094 dL_1095 dL_1096 (by decide) dL_1097 dL_1098 ?_
  refine h.cmi (run_V (rm := { frames := 1, cells := 0, slots := 0, locals := 21 }) (As := [.int (xs (ix (i + 1))), .int (xs (ix (i + 2)))]) (rest := []) C0 cf_X11_book w_850 ⟨Nat.le_of_ble_eq_true rfl, Nat.le_of_ble_eq_true rfl⟩ (k_X11_book l g ρ dt τ (xs (ix (i + 1))) (xs (ix (i + 2))) hR.ix) (h.px E) rfl hl.1 rfl (Nat.le_of_ble_eq_true rfl) dL_1099 ⟨by show cells + 0 ≤ 600000; omega, by show slots + 0 ≤ 7302250; omega⟩) (fun H locs h => ?_)
  refine lv_aload_n hx hb dL_1102 rfl (lv_at hl 2 rfl) ?_
  refine law_arg (v := 1) hx hb hX hbl h (lv_at hl 0 rfl) (lv_at hl 3 rfl) hi.1 dL_1103 dL_1104 dL_1105 (by decide) dL_1106 dL_1107 ?_
  refine law_arg (v := 2) hx hb hX hbl h (lv_at hl 0 rfl) (lv_at hl 3 rfl) hi.2.1 dL_1108 dL_1109 dL_1110 (by decide) dL_1111 dL_1112 ?_
  refine h.cmm (run_V (rm := { frames := 2, cells := 0, slots := 0, locals := 43 }) (As := [.int (xs (ix (i + 1))), .int (xs (ix (i + 2)))]) (rest := [.int ((f_X11_book τ (xs (ix (i + 1))) (xs (ix (i + 2)))).1)]) C0 cf_X12_book w_1292 ⟨Nat.le_of_ble_eq_true rfl, Nat.le_of_ble_eq_true rfl⟩ (k_X12_book l (gA g f) σ (xs (ix (i + 1))) (xs (ix (i + 2))) hR.ib) (h.pm E) rfl hl.1 rfl (Nat.le_of_ble_eq_true rfl) dL_1113 ⟨by show cells + 0 ≤ 600000; omega, by show slots + 0 ≤ 7302250; omega⟩) (fun H locs h => ?_)
  have er := hR.q1 (c_book hR.rn hR.ib (xs (ix (i + 1))) (xs (ix (i + 2))))
  refine lv_icmp_eq (tgt := 1282) hx hb dL_1116 (by decide) (fun _ => ?_) (fun n => absurd er.1 n)
  refine W.widen (k := cells + 2) (n := slots + 103) (by omega) (by omega) ?_
  exact kk _ _ H locs h er.2
theorem dL_1121 : decode code 1121 = .ok (.aload_n 1, 1) := by decide +kernel
theorem dL_1122 : decode code 1122 = .ok (.invokevirtual 134, 3) := by decide +kernel
theorem dL_1125 : decode code 1125 = .ok (.aload_n 2, 1) := by decide +kernel
theorem dL_1126 : decode code 1126 = .ok (.invokevirtual 137, 3) := by decide +kernel
theorem dL_1129 : decode code 1129 = .ok (.if_icmp .eq 153, 3) := by decide +kernel
set_option maxRecDepth 20000 in
theorem w_854 : (Cond.methodLink RL 134 yX11_looked) ∈ TB := inTB (List.mem_of_getElem? (i := 854) (by decide +kernel)) (by decide +kernel)
set_option maxRecDepth 20000 in
theorem w_857 : (Cond.code yX11_looked cX11_looked 3 (some .int)) ∈ TB := inTB (List.mem_of_getElem? (i := 857) (by decide +kernel)) (by decide +kernel)
set_option maxRecDepth 20000 in
theorem w_855 : (Cond.instanceMethod yX11_looked) ∈ TB := inTB (List.mem_of_getElem? (i := 855) (by decide +kernel)) (by decide +kernel)
set_option maxRecDepth 20000 in
theorem w_856 : (Cond.selects RX11 yX11_looked yX11_looked) ∈ TB := inTB (List.mem_of_getElem? (i := 856) (by decide +kernel)) (by decide +kernel)
theorem cf_X11_looked : CF yX11_looked cX11_looked 3 (some .int) 0 := ⟨w_855, w_856, w_71, w_857, by decide +kernel, by decide +kernel, by decide +kernel⟩
set_option maxRecDepth 20000 in
theorem w_1296 : (Cond.methodLink RL 137 yX12_looked) ∈ TB := inTB (List.mem_of_getElem? (i := 1296) (by decide +kernel)) (by decide +kernel)
set_option maxRecDepth 20000 in
theorem w_1299 : (Cond.code yX12_looked cX12_looked 3 (some .int)) ∈ TB := inTB (List.mem_of_getElem? (i := 1299) (by decide +kernel)) (by decide +kernel)
set_option maxRecDepth 20000 in
theorem w_1297 : (Cond.instanceMethod yX12_looked) ∈ TB := inTB (List.mem_of_getElem? (i := 1297) (by decide +kernel)) (by decide +kernel)
set_option maxRecDepth 20000 in
theorem w_1298 : (Cond.selects RX12 yX12_looked yX12_looked) ∈ TB := inTB (List.mem_of_getElem? (i := 1298) (by decide +kernel)) (by decide +kernel)
theorem cf_X12_looked : CF yX12_looked cX12_looked 3 (some .int) 0 := ⟨w_1297, w_1298, w_75, w_1299, by decide +kernel, by decide +kernel, by decide +kernel⟩
set_option maxHeartbeats 1000000 in
set_option maxRecDepth 100000 in
theorem lc_looked {p : Program} {l : Launch} {e : Env} {s : State} {m : MethodId} {below : List Frame} {meth : Method} {c : Code} {Q : State → Prop} {b L : Nat} {xs : Nat → Int32} {g : GG} {f : Nat → Nat} {aK aV : Nat → Nat} (C0 : BC p s m #[Value.ref b] meth c code RL 4 ret) (E : LE g aK aV s) (hX : va_X b L xs s s.heap) (hbl : b < s.heap.size) {i : Int32} (hi : vp_in (i + 1) L ∧ vp_in (i + 2) L ∧ vp_in (i + 3) L ∧ vp_in (i + 4) L ∧ vp_in (i + 5) L) {x : X3} {σ : St} {H : Heap} {locs : List Loc} {cells slots : Nat} (hc : cells + 2 ≤ 600000) (hs : slots + 103 ≤ 7302250) {ls : Array Slot} (hl : lv_has ls 4 [(0, .ref b), (1, .ref (g.2.2 100)), (2, .ref (f 100)), (3, .int i)]) (h : LH g f s x σ H locs) (hR : RLL x.1 x.2.1 x.2.2 σ)
    (kk : ∀ (x' : X3) (σ' : St) (H' : Heap) (locs' : List Loc), LH g f s x' σ' H' locs' → RLL x'.1 x'.2.1 x'.2.2 σ' → W p l e room_1 s m #[Value.ref b] below meth c H' locs' (cells + 2) (slots + 103) Q (F0 m 1282 ls [])) : W p l e room_1 s m #[Value.ref b] below meth c H locs cells slots Q (F0 m 1121 ls []) := by
  obtain ⟨hx, hb, -, -, -, -, -⟩ := id C0
  obtain ⟨ρ, dt, τ⟩ := x
  have hR : RLL ρ dt τ σ := hR
  refine lv_aload_n hx hb dL_1121 rfl (lv_at hl 1 rfl) ?_
  refine aft_i (run_V (rm := { frames := 1, cells := 0, slots := 0, locals := 21 }) (As := []) (rest := []) C0 cf_X11_looked w_854 ⟨Nat.le_of_ble_eq_true rfl, Nat.le_of_ble_eq_true rfl⟩ (k_X11_looked l g ρ dt τ hR.ix) (h.px E) rfl hl.1 rfl (Nat.le_of_ble_eq_true rfl) dL_1122 ⟨by show cells + 0 ≤ 600000; omega, by show slots + 0 ≤ 7302250; omega⟩) ?_
  refine lv_aload_n hx hb dL_1125 rfl (lv_at hl 2 rfl) ?_
  refine aft_i (run_V (rm := { frames := 1, cells := 0, slots := 0, locals := 22 }) (As := []) (rest := [.int (f_X11_looked τ)]) C0 cf_X12_looked w_1296 ⟨Nat.le_of_ble_eq_true rfl, Nat.le_of_ble_eq_true rfl⟩ (k_X12_looked l (gA g f) σ hR.ib) (h.pm E) rfl hl.1 rfl (Nat.le_of_ble_eq_true rfl) dL_1126 ⟨by show cells + 0 ≤ 600000; omega, by show slots + 0 ≤ 7302250; omega⟩) ?_
  have er := q_looked hR.rn hR.ib
  refine lv_icmp_eq (tgt := 1282) hx hb dL_1129 (by decide) (fun _ => ?_) (fun n => absurd er n)
  refine W.widen (k := cells + 2) (n := slots + 103) (by omega) (by omega) ?_
  exact kk (ρ, dt, τ) σ H locs h hR
theorem dL_1134 : decode code 1134 = .ok (.aload_n 1, 1) := by decide +kernel
theorem dL_1135 : decode code 1135 = .ok (.aload_n 0, 1) := by decide +kernel
theorem dL_1136 : decode code 1136 = .ok (.iload_n 3, 1) := by decide +kernel
theorem dL_1137 : decode code 1137 = .ok (.iconst 1, 1) := by decide +kernel
theorem dL_1138 : decode code 1138 = .ok (.iadd, 1) := by decide +kernel
theorem dL_1139 : decode code 1139 = .ok (.iaload, 1) := by decide +kernel
theorem dL_1140 : decode code 1140 = .ok (.aload_n 0, 1) := by decide +kernel
theorem dL_1141 : decode code 1141 = .ok (.iload_n 3, 1) := by decide +kernel
theorem dL_1142 : decode code 1142 = .ok (.iconst 2, 1) := by decide +kernel
theorem dL_1143 : decode code 1143 = .ok (.iadd, 1) := by decide +kernel
theorem dL_1144 : decode code 1144 = .ok (.iaload, 1) := by decide +kernel
theorem dL_1145 : decode code 1145 = .ok (.aload_n 0, 1) := by decide +kernel
theorem dL_1146 : decode code 1146 = .ok (.iload_n 3, 1) := by decide +kernel
theorem dL_1147 : decode code 1147 = .ok (.iconst 3, 1) := by decide +kernel
theorem dL_1148 : decode code 1148 = .ok (.iadd, 1) := by decide +kernel
theorem dL_1149 : decode code 1149 = .ok (.iaload, 1) := by decide +kernel
theorem dL_1150 : decode code 1150 = .ok (.invokevirtual 138, 3) := by decide +kernel
theorem dL_1153 : decode code 1153 = .ok (.aload_n 2, 1) := by decide +kernel
theorem dL_1154 : decode code 1154 = .ok (.aload_n 0, 1) := by decide +kernel
theorem dL_1155 : decode code 1155 = .ok (.iload_n 3, 1) := by decide +kernel
theorem dL_1156 : decode code 1156 = .ok (.iconst 1, 1) := by decide +kernel
theorem dL_1157 : decode code 1157 = .ok (.iadd, 1) := by decide +kernel
theorem dL_1158 : decode code 1158 = .ok (.iaload, 1) := by decide +kernel
theorem dL_1159 : decode code 1159 = .ok (.aload_n 0, 1) := by decide +kernel
theorem dL_1160 : decode code 1160 = .ok (.iload_n 3, 1) := by decide +kernel
theorem dL_1161 : decode code 1161 = .ok (.iconst 2, 1) := by decide +kernel
theorem dL_1162 : decode code 1162 = .ok (.iadd, 1) := by decide +kernel
theorem dL_1163 : decode code 1163 = .ok (.iaload, 1) := by decide +kernel
theorem dL_1164 : decode code 1164 = .ok (.aload_n 0, 1) := by decide +kernel
theorem dL_1165 : decode code 1165 = .ok (.iload_n 3, 1) := by decide +kernel
theorem dL_1166 : decode code 1166 = .ok (.iconst 3, 1) := by decide +kernel
theorem dL_1167 : decode code 1167 = .ok (.iadd, 1) := by decide +kernel
theorem dL_1168 : decode code 1168 = .ok (.iaload, 1) := by decide +kernel
theorem dL_1169 : decode code 1169 = .ok (.invokevirtual 141, 3) := by decide +kernel
theorem dL_1172 : decode code 1172 = .ok (.if_icmp .eq 110, 3) := by decide +kernel
set_option maxRecDepth 20000 in
theorem w_858 : (Cond.methodLink RL 138 yX11_act) ∈ TB := inTB (List.mem_of_getElem? (i := 858) (by decide +kernel)) (by decide +kernel)
set_option maxRecDepth 20000 in
theorem w_861 : (Cond.code yX11_act cX11_act 5 (some .int)) ∈ TB := inTB (List.mem_of_getElem? (i := 861) (by decide +kernel)) (by decide +kernel)
set_option maxRecDepth 20000 in
theorem w_859 : (Cond.instanceMethod yX11_act) ∈ TB := inTB (List.mem_of_getElem? (i := 859) (by decide +kernel)) (by decide +kernel)
set_option maxRecDepth 20000 in
theorem w_860 : (Cond.selects RX11 yX11_act yX11_act) ∈ TB := inTB (List.mem_of_getElem? (i := 860) (by decide +kernel)) (by decide +kernel)
theorem cf_X11_act : CF yX11_act cX11_act 5 (some .int) 3 := ⟨w_859, w_860, w_71, w_861, by decide +kernel, by decide +kernel, by decide +kernel⟩
set_option maxRecDepth 20000 in
theorem w_1300 : (Cond.methodLink RL 141 yX12_act) ∈ TB := inTB (List.mem_of_getElem? (i := 1300) (by decide +kernel)) (by decide +kernel)
set_option maxRecDepth 20000 in
theorem w_1303 : (Cond.code yX12_act cX12_act 4 (some .int)) ∈ TB := inTB (List.mem_of_getElem? (i := 1303) (by decide +kernel)) (by decide +kernel)
set_option maxRecDepth 20000 in
theorem w_1301 : (Cond.instanceMethod yX12_act) ∈ TB := inTB (List.mem_of_getElem? (i := 1301) (by decide +kernel)) (by decide +kernel)
set_option maxRecDepth 20000 in
theorem w_1302 : (Cond.selects RX12 yX12_act yX12_act) ∈ TB := inTB (List.mem_of_getElem? (i := 1302) (by decide +kernel)) (by decide +kernel)
theorem cf_X12_act : CF yX12_act cX12_act 4 (some .int) 3 := ⟨w_1301, w_1302, w_75, w_1303, by decide +kernel, by decide +kernel, by decide +kernel⟩
set_option maxHeartbeats 1000000 in
set_option maxRecDepth 100000 in
theorem lc_act {p : Program} {l : Launch} {e : Env} {s : State} {m : MethodId} {below : List Frame} {meth : Method} {c : Code} {Q : State → Prop} {b L : Nat} {xs : Nat → Int32} {g : GG} {f : Nat → Nat} {aK aV : Nat → Nat} (C0 : BC p s m #[Value.ref b] meth c code RL 4 ret) (E : LE g aK aV s) (hX : va_X b L xs s s.heap) (hbl : b < s.heap.size) {i : Int32} (hi : vp_in (i + 1) L ∧ vp_in (i + 2) L ∧ vp_in (i + 3) L ∧ vp_in (i + 4) L ∧ vp_in (i + 5) L) {x : X3} {σ : St} {H : Heap} {locs : List Loc} {cells slots : Nat} (hc : cells + 2 ≤ 600000) (hs : slots + 103 ≤ 7302250) {ls : Array Slot} (hl : lv_has ls 4 [(0, .ref b), (1, .ref (g.2.2 100)), (2, .ref (f 100)), (3, .int i)]) (h : LH g f s x σ H locs) (hR : RLL x.1 x.2.1 x.2.2 σ)
    (kk : ∀ (x' : X3) (σ' : St) (H' : Heap) (locs' : List Loc), LH g f s x' σ' H' locs' → RLL x'.1 x'.2.1 x'.2.2 σ' → W p l e room_1 s m #[Value.ref b] below meth c H' locs' (cells + 2) (slots + 103) Q (F0 m 1282 ls [])) : W p l e room_1 s m #[Value.ref b] below meth c H locs cells slots Q (F0 m 1134 ls []) := by
  obtain ⟨hx, hb, -, -, -, -, -⟩ := id C0
  obtain ⟨ρ, dt, τ⟩ := x
  have hR : RLL ρ dt τ σ := hR
  refine lv_aload_n hx hb dL_1134 rfl (lv_at hl 1 rfl) ?_
  refine law_arg (v := 1) hx hb hX hbl h (lv_at hl 0 rfl) (lv_at hl 3 rfl) hi.1 dL_1135 dL_1136 dL_1137 (by decide) dL_1138 dL_1139 ?_
  refine law_arg (v := 2) hx hb hX hbl h (lv_at hl 0 rfl) (lv_at hl 3 rfl) hi.2.1 dL_1140 dL_1141 dL_1142 (by decide) dL_1143 dL_1144 ?_
  refine law_arg (v := 3) hx hb hX hbl h (lv_at hl 0 rfl) (lv_at hl 3 rfl) hi.2.2.1 dL_1145 dL_1146 dL_1147 (by decide) dL_1148 dL_1149 ?_
  refine h.cmi (run_V (rm := { frames := 7, cells := 0, slots := 0, locals := 153 }) (As := [.int (xs (ix (i + 1))), .int (xs (ix (i + 2))), .int (xs (ix (i + 3)))]) (rest := []) C0 cf_X11_act w_858 ⟨Nat.le_of_ble_eq_true rfl, Nat.le_of_ble_eq_true rfl⟩ (k_X11_act l g ρ dt τ (xs (ix (i + 1))) (xs (ix (i + 2))) (xs (ix (i + 3))) hR.ix) (h.px E) rfl hl.1 rfl (Nat.le_of_ble_eq_true rfl) dL_1150 ⟨by show cells + 0 ≤ 600000; omega, by show slots + 0 ≤ 7302250; omega⟩) (fun H locs h => ?_)
  refine lv_aload_n hx hb dL_1153 rfl (lv_at hl 2 rfl) ?_
  refine law_arg (v := 1) hx hb hX hbl h (lv_at hl 0 rfl) (lv_at hl 3 rfl) hi.1 dL_1154 dL_1155 dL_1156 (by decide) dL_1157 dL_1158 ?_
  refine law_arg (v := 2) hx hb hX hbl h (lv_at hl 0 rfl) (lv_at hl 3 rfl) hi.2.1 dL_1159 dL_1160 dL_1161 (by decide) dL_1162 dL_1163 ?_
  refine law_arg (v := 3) hx hb hX hbl h (lv_at hl 0 rfl) (lv_at hl 3 rfl) hi.2.2.1 dL_1164 dL_1165 dL_1166 (by decide) dL_1167 dL_1168 ?_
  refine h.cmm (run_V (rm := { frames := 7, cells := 0, slots := 0, locals := 148 }) (As := [.int (xs (ix (i + 1))), .int (xs (ix (i + 2))), .int (xs (ix (i + 3)))]) (rest := [.int ((f_X11_act ρ dt τ (xs (ix (i + 1))) (xs (ix (i + 2))) (xs (ix (i + 3)))).1)]) C0 cf_X12_act w_1300 ⟨Nat.le_of_ble_eq_true rfl, Nat.le_of_ble_eq_true rfl⟩ (k_X12_act l (gA g f) σ (xs (ix (i + 1))) (xs (ix (i + 2))) (xs (ix (i + 3))) hR.ib) (h.pm E) rfl hl.1 rfl (Nat.le_of_ble_eq_true rfl) dL_1169 ⟨by show cells + 0 ≤ 600000; omega, by show slots + 0 ≤ 7302250; omega⟩) (fun H locs h => ?_)
  have er := c_act hR (xs (ix (i + 1))) (xs (ix (i + 2))) (xs (ix (i + 3)))
  refine lv_icmp_eq (tgt := 1282) hx hb dL_1172 (by decide) (fun _ => ?_) (fun n => absurd er.1 n)
  refine W.widen (k := cells + 2) (n := slots + 103) (by omega) (by omega) ?_
  exact kk _ _ H locs h er.2
