/-! THE LAW: its calls, one by one -/
theorem dL_356 : decode code 356 = .ok (.aload_n 1, 1) := by decide +kernel
theorem dL_357 : decode code 357 = .ok (.aload_n 0, 1) := by decide +kernel
theorem dL_358 : decode code 358 = .ok (.iload_n 3, 1) := by decide +kernel
theorem dL_359 : decode code 359 = .ok (.iconst 1, 1) := by decide +kernel
theorem dL_360 : decode code 360 = .ok (.iadd, 1) := by decide +kernel
theorem dL_361 : decode code 361 = .ok (.iaload, 1) := by decide +kernel
theorem dL_362 : decode code 362 = .ok (.aload_n 0, 1) := by decide +kernel
theorem dL_363 : decode code 363 = .ok (.iload_n 3, 1) := by decide +kernel
theorem dL_364 : decode code 364 = .ok (.iconst 2, 1) := by decide +kernel
theorem dL_365 : decode code 365 = .ok (.iadd, 1) := by decide +kernel
theorem dL_366 : decode code 366 = .ok (.iaload, 1) := by decide +kernel
theorem dL_367 : decode code 367 = .ok (.invokevirtual 41, 3) := by decide +kernel
theorem dL_370 : decode code 370 = .ok (.aload_n 2, 1) := by decide +kernel
theorem dL_371 : decode code 371 = .ok (.aload_n 0, 1) := by decide +kernel
theorem dL_372 : decode code 372 = .ok (.iload_n 3, 1) := by decide +kernel
theorem dL_373 : decode code 373 = .ok (.iconst 1, 1) := by decide +kernel
theorem dL_374 : decode code 374 = .ok (.iadd, 1) := by decide +kernel
theorem dL_375 : decode code 375 = .ok (.iaload, 1) := by decide +kernel
theorem dL_376 : decode code 376 = .ok (.aload_n 0, 1) := by decide +kernel
theorem dL_377 : decode code 377 = .ok (.iload_n 3, 1) := by decide +kernel
theorem dL_378 : decode code 378 = .ok (.iconst 2, 1) := by decide +kernel
theorem dL_379 : decode code 379 = .ok (.iadd, 1) := by decide +kernel
theorem dL_380 : decode code 380 = .ok (.iaload, 1) := by decide +kernel
theorem dL_381 : decode code 381 = .ok (.invokevirtual 44, 3) := by decide +kernel
theorem dL_384 : decode code 384 = .ok (.if_icmp .eq 898, 3) := by decide +kernel
set_option maxRecDepth 20000 in
theorem w_611 : (Cond.methodLink RL 41 yX11_at) ∈ TB := inTB (List.mem_of_getElem? (i := 611) (by decide +kernel)) (by decide +kernel)
set_option maxRecDepth 20000 in
theorem w_614 : (Cond.code yX11_at cX11_at 3 (some .int)) ∈ TB := inTB (List.mem_of_getElem? (i := 614) (by decide +kernel)) (by decide +kernel)
set_option maxRecDepth 20000 in
theorem w_612 : (Cond.instanceMethod yX11_at) ∈ TB := inTB (List.mem_of_getElem? (i := 612) (by decide +kernel)) (by decide +kernel)
set_option maxRecDepth 20000 in
theorem w_613 : (Cond.selects RX11 yX11_at yX11_at) ∈ TB := inTB (List.mem_of_getElem? (i := 613) (by decide +kernel)) (by decide +kernel)
theorem cf_X11_at : CF yX11_at cX11_at 3 (some .int) 2 := ⟨w_612, w_613, w_71, w_614, by decide +kernel, by decide +kernel, by decide +kernel⟩
set_option maxRecDepth 20000 in
theorem w_1143 : (Cond.methodLink RL 44 yX12_at) ∈ TB := inTB (List.mem_of_getElem? (i := 1143) (by decide +kernel)) (by decide +kernel)
set_option maxRecDepth 20000 in
theorem w_1146 : (Cond.code yX12_at cX12_at 3 (some .int)) ∈ TB := inTB (List.mem_of_getElem? (i := 1146) (by decide +kernel)) (by decide +kernel)
set_option maxRecDepth 20000 in
theorem w_1144 : (Cond.instanceMethod yX12_at) ∈ TB := inTB (List.mem_of_getElem? (i := 1144) (by decide +kernel)) (by decide +kernel)
set_option maxRecDepth 20000 in
theorem w_1145 : (Cond.selects RX12 yX12_at yX12_at) ∈ TB := inTB (List.mem_of_getElem? (i := 1145) (by decide +kernel)) (by decide +kernel)
theorem cf_X12_at : CF yX12_at cX12_at 3 (some .int) 2 := ⟨w_1144, w_1145, w_75, w_1146, by decide +kernel, by decide +kernel, by decide +kernel⟩
set_option maxHeartbeats 1000000 in
set_option maxRecDepth 100000 in
theorem lc_at {p : Program} {l : Launch} {e : Env} {s : State} {m : MethodId} {below : List Frame} {meth : Method} {c : Code} {Q : State → Prop} {b L : Nat} {xs : Nat → Int32} {g : GG} {f : Nat → Nat} {aK aV : Nat → Nat} (C0 : BC p s m #[Value.ref b] meth c code RL 4 ret) (E : LE g aK aV s) (hX : va_X b L xs s s.heap) (hbl : b < s.heap.size) {i : Int32} (hi : vp_in (i + 1) L ∧ vp_in (i + 2) L ∧ vp_in (i + 3) L ∧ vp_in (i + 4) L ∧ vp_in (i + 5) L) {x : X3} {σ : St} {H : Heap} {locs : List Loc} {cells slots : Nat} (hc : cells + 2 ≤ 600000) (hs : slots + 103 ≤ 7302250) {ls : Array Slot} (hl : lv_has ls 4 [(0, .ref b), (1, .ref (g.2.2 100)), (2, .ref (f 100)), (3, .int i)]) (h : LH g f s x σ H locs) (hR : RLL x.1 x.2.1 x.2.2 σ)
    (kk : ∀ (x' : X3) (σ' : St) (H' : Heap) (locs' : List Loc), LH g f s x' σ' H' locs' → RLL x'.1 x'.2.1 x'.2.2 σ' → W p l e room_1 s m #[Value.ref b] below meth c H' locs' (cells + 2) (slots + 103) Q (F0 m 1282 ls [])) : W p l e room_1 s m #[Value.ref b] below meth c H locs cells slots Q (F0 m 356 ls []) := by
  obtain ⟨hx, hb, -, -, -, -, -⟩ := id C0
  obtain ⟨ρ, dt, τ⟩ := x
  have hR : RLL ρ dt τ σ := hR
  refine lv_aload_n hx hb dL_356 rfl (lv_at hl 1 rfl) ?_
  refine law_arg (v := 1) hx hb hX hbl h (lv_at hl 0 rfl) (lv_at hl 3 rfl) hi.1 dL_357 dL_358 dL_359 (by decide) dL_360 dL_361 ?_
  refine law_arg (v := 2) hx hb hX hbl h (lv_at hl 0 rfl) (lv_at hl 3 rfl) hi.2.1 dL_362 dL_363 dL_364 (by decide) dL_365 dL_366 ?_
  refine aft_i (run_V (rm := { frames := 1, cells := 0, slots := 0, locals := 21 }) (As := [.int (xs (ix (i + 1))), .int (xs (ix (i + 2)))]) (rest := []) C0 cf_X11_at w_611 ⟨Nat.le_of_ble_eq_true rfl, Nat.le_of_ble_eq_true rfl⟩ (k_X11_at l g ρ dt τ (xs (ix (i + 1))) (xs (ix (i + 2))) hR.ix) (h.px E) rfl hl.1 rfl (Nat.le_of_ble_eq_true rfl) dL_367 ⟨by show cells + 0 ≤ 600000; omega, by show slots + 0 ≤ 7302250; omega⟩) ?_
  refine lv_aload_n hx hb dL_370 rfl (lv_at hl 2 rfl) ?_
  refine law_arg (v := 1) hx hb hX hbl h (lv_at hl 0 rfl) (lv_at hl 3 rfl) hi.1 dL_371 dL_372 dL_373 (by decide) dL_374 dL_375 ?_
  refine law_arg (v := 2) hx hb hX hbl h (lv_at hl 0 rfl) (lv_at hl 3 rfl) hi.2.1 dL_376 dL_377 dL_378 (by decide) dL_379 dL_380 ?_
  refine aft_i (run_V (rm := { frames := 2, cells := 0, slots := 0, locals := 43 }) (As := [.int (xs (ix (i + 1))), .int (xs (ix (i + 2)))]) (rest := [.int (f_X11_at τ (xs (ix (i + 1))) (xs (ix (i + 2))))]) C0 cf_X12_at w_1143 ⟨Nat.le_of_ble_eq_true rfl, Nat.le_of_ble_eq_true rfl⟩ (k_X12_at l (gA g f) σ (xs (ix (i + 1))) (xs (ix (i + 2))) hR.ib) (h.pm E) rfl hl.1 rfl (Nat.le_of_ble_eq_true rfl) dL_381 ⟨by show cells + 0 ≤ 600000; omega, by show slots + 0 ≤ 7302250; omega⟩) ?_
  have er := q_at hR.rn hR.ib (xs (ix (i + 1))) (xs (ix (i + 2)))
  refine lv_icmp_eq (tgt := 1282) hx hb dL_384 (by decide) (fun _ => ?_) (fun n => absurd er n)
  refine W.widen (k := cells + 2) (n := slots + 103) (by omega) (by omega) ?_
  exact kk (ρ, dt, τ) σ H locs h hR
theorem dL_389 : decode code 389 = .ok (.aload_n 1, 1) := by decide +kernel
theorem dL_390 : decode code 390 = .ok (.aload_n 0, 1) := by decide +kernel
theorem dL_391 : decode code 391 = .ok (.iload_n 3, 1) := by decide +kernel
theorem dL_392 : decode code 392 = .ok (.iconst 1, 1) := by decide +kernel
theorem dL_393 : decode code 393 = .ok (.iadd, 1) := by decide +kernel
theorem dL_394 : decode code 394 = .ok (.iaload, 1) := by decide +kernel
theorem dL_395 : decode code 395 = .ok (.aload_n 0, 1) := by decide +kernel
theorem dL_396 : decode code 396 = .ok (.iload_n 3, 1) := by decide +kernel
theorem dL_397 : decode code 397 = .ok (.iconst 2, 1) := by decide +kernel
theorem dL_398 : decode code 398 = .ok (.iadd, 1) := by decide +kernel
theorem dL_399 : decode code 399 = .ok (.iaload, 1) := by decide +kernel
theorem dL_400 : decode code 400 = .ok (.aload_n 0, 1) := by decide +kernel
theorem dL_401 : decode code 401 = .ok (.iload_n 3, 1) := by decide +kernel
theorem dL_402 : decode code 402 = .ok (.iconst 3, 1) := by decide +kernel
theorem dL_403 : decode code 403 = .ok (.iadd, 1) := by decide +kernel
theorem dL_404 : decode code 404 = .ok (.iaload, 1) := by decide +kernel
theorem dL_405 : decode code 405 = .ok (.invokevirtual 45, 3) := by decide +kernel
theorem dL_408 : decode code 408 = .ok (.aload_n 2, 1) := by decide +kernel
theorem dL_409 : decode code 409 = .ok (.aload_n 0, 1) := by decide +kernel
theorem dL_410 : decode code 410 = .ok (.iload_n 3, 1) := by decide +kernel
theorem dL_411 : decode code 411 = .ok (.iconst 1, 1) := by decide +kernel
theorem dL_412 : decode code 412 = .ok (.iadd, 1) := by decide +kernel
theorem dL_413 : decode code 413 = .ok (.iaload, 1) := by decide +kernel
theorem dL_414 : decode code 414 = .ok (.aload_n 0, 1) := by decide +kernel
theorem dL_415 : decode code 415 = .ok (.iload_n 3, 1) := by decide +kernel
theorem dL_416 : decode code 416 = .ok (.iconst 2, 1) := by decide +kernel
theorem dL_417 : decode code 417 = .ok (.iadd, 1) := by decide +kernel
theorem dL_418 : decode code 418 = .ok (.iaload, 1) := by decide +kernel
theorem dL_419 : decode code 419 = .ok (.aload_n 0, 1) := by decide +kernel
theorem dL_420 : decode code 420 = .ok (.iload_n 3, 1) := by decide +kernel
theorem dL_421 : decode code 421 = .ok (.iconst 3, 1) := by decide +kernel
theorem dL_422 : decode code 422 = .ok (.iadd, 1) := by decide +kernel
theorem dL_423 : decode code 423 = .ok (.iaload, 1) := by decide +kernel
theorem dL_424 : decode code 424 = .ok (.invokevirtual 48, 3) := by decide +kernel
theorem dL_427 : decode code 427 = .ok (.if_icmp .eq 855, 3) := by decide +kernel
set_option maxRecDepth 20000 in
theorem w_623 : (Cond.methodLink RL 45 yX11_known) ∈ TB := inTB (List.mem_of_getElem? (i := 623) (by decide +kernel)) (by decide +kernel)
set_option maxRecDepth 20000 in
theorem w_626 : (Cond.code yX11_known cX11_known 5 (some .int)) ∈ TB := inTB (List.mem_of_getElem? (i := 626) (by decide +kernel)) (by decide +kernel)
set_option maxRecDepth 20000 in
theorem w_624 : (Cond.instanceMethod yX11_known) ∈ TB := inTB (List.mem_of_getElem? (i := 624) (by decide +kernel)) (by decide +kernel)
set_option maxRecDepth 20000 in
theorem w_625 : (Cond.selects RX11 yX11_known yX11_known) ∈ TB := inTB (List.mem_of_getElem? (i := 625) (by decide +kernel)) (by decide +kernel)
theorem cf_X11_known : CF yX11_known cX11_known 5 (some .int) 3 := ⟨w_624, w_625, w_71, w_626, by decide +kernel, by decide +kernel, by decide +kernel⟩
set_option maxRecDepth 20000 in
theorem w_1155 : (Cond.methodLink RL 48 yX12_known) ∈ TB := inTB (List.mem_of_getElem? (i := 1155) (by decide +kernel)) (by decide +kernel)
set_option maxRecDepth 20000 in
theorem w_1158 : (Cond.code yX12_known cX12_known 5 (some .int)) ∈ TB := inTB (List.mem_of_getElem? (i := 1158) (by decide +kernel)) (by decide +kernel)
set_option maxRecDepth 20000 in
theorem w_1156 : (Cond.instanceMethod yX12_known) ∈ TB := inTB (List.mem_of_getElem? (i := 1156) (by decide +kernel)) (by decide +kernel)
set_option maxRecDepth 20000 in
theorem w_1157 : (Cond.selects RX12 yX12_known yX12_known) ∈ TB := inTB (List.mem_of_getElem? (i := 1157) (by decide +kernel)) (by decide +kernel)
theorem cf_X12_known : CF yX12_known cX12_known 5 (some .int) 3 := ⟨w_1156, w_1157, w_75, w_1158, by decide +kernel, by decide +kernel, by decide +kernel⟩
set_option maxHeartbeats 1000000 in
set_option maxRecDepth 100000 in
theorem lc_known {p : Program} {l : Launch} {e : Env} {s : State} {m : MethodId} {below : List Frame} {meth : Method} {c : Code} {Q : State → Prop} {b L : Nat} {xs : Nat → Int32} {g : GG} {f : Nat → Nat} {aK aV : Nat → Nat} (C0 : BC p s m #[Value.ref b] meth c code RL 4 ret) (E : LE g aK aV s) (hX : va_X b L xs s s.heap) (hbl : b < s.heap.size) {i : Int32} (hi : vp_in (i + 1) L ∧ vp_in (i + 2) L ∧ vp_in (i + 3) L ∧ vp_in (i + 4) L ∧ vp_in (i + 5) L) {x : X3} {σ : St} {H : Heap} {locs : List Loc} {cells slots : Nat} (hc : cells + 2 ≤ 600000) (hs : slots + 103 ≤ 7302250) {ls : Array Slot} (hl : lv_has ls 4 [(0, .ref b), (1, .ref (g.2.2 100)), (2, .ref (f 100)), (3, .int i)]) (h : LH g f s x σ H locs) (hR : RLL x.1 x.2.1 x.2.2 σ)
    (kk : ∀ (x' : X3) (σ' : St) (H' : Heap) (locs' : List Loc), LH g f s x' σ' H' locs' → RLL x'.1 x'.2.1 x'.2.2 σ' → W p l e room_1 s m #[Value.ref b] below meth c H' locs' (cells + 2) (slots + 103) Q (F0 m 1282 ls [])) : W p l e room_1 s m #[Value.ref b] below meth c H locs cells slots Q (F0 m 389 ls []) := by
  obtain ⟨hx, hb, -, -, -, -, -⟩ := id C0
  obtain ⟨ρ, dt, τ⟩ := x
  have hR : RLL ρ dt τ σ := hR
  refine lv_aload_n hx hb dL_389 rfl (lv_at hl 1 rfl) ?_
  refine law_arg (v := 1) hx hb hX hbl h (lv_at hl 0 rfl) (lv_at hl 3 rfl) hi.1 dL_390 dL_391 dL_392 (by decide) dL_393 dL_394 ?_
  refine law_arg (v := 2) hx hb hX hbl h (lv_at hl 0 rfl) (lv_at hl 3 rfl) hi.2.1 dL_395 dL_396 dL_397 (by decide) dL_398 dL_399 ?_
  refine law_arg (v := 3) hx hb hX hbl h (lv_at hl 0 rfl) (lv_at hl 3 rfl) hi.2.2.1 dL_400 dL_401 dL_402 (by decide) dL_403 dL_404 ?_
  refine h.cmi (run_V (rm := { frames := 1, cells := 0, slots := 0, locals := 21 }) (As := [.int (xs (ix (i + 1))), .int (xs (ix (i + 2))), .int (xs (ix (i + 3)))]) (rest := []) C0 cf_X11_known w_623 ⟨Nat.le_of_ble_eq_true rfl, Nat.le_of_ble_eq_true rfl⟩ (k_X11_known l g ρ dt τ (xs (ix (i + 1))) (xs (ix (i + 2))) (xs (ix (i + 3))) hR.ix) (h.px E) rfl hl.1 rfl (Nat.le_of_ble_eq_true rfl) dL_405 ⟨by show cells + 0 ≤ 600000; omega, by show slots + 0 ≤ 7302250; omega⟩) (fun H locs h => ?_)
  refine lv_aload_n hx hb dL_408 rfl (lv_at hl 2 rfl) ?_
  refine law_arg (v := 1) hx hb hX hbl h (lv_at hl 0 rfl) (lv_at hl 3 rfl) hi.1 dL_409 dL_410 dL_411 (by decide) dL_412 dL_413 ?_
  refine law_arg (v := 2) hx hb hX hbl h (lv_at hl 0 rfl) (lv_at hl 3 rfl) hi.2.1 dL_414 dL_415 dL_416 (by decide) dL_417 dL_418 ?_
  refine law_arg (v := 3) hx hb hX hbl h (lv_at hl 0 rfl) (lv_at hl 3 rfl) hi.2.2.1 dL_419 dL_420 dL_421 (by decide) dL_422 dL_423 ?_
  refine h.cmm (run_V (rm := { frames := 2, cells := 0, slots := 0, locals := 43 }) (As := [.int (xs (ix (i + 1))), .int (xs (ix (i + 2))), .int (xs (ix (i + 3)))]) (rest := [.int ((f_X11_known τ (xs (ix (i + 1))) (xs (ix (i + 2))) (xs (ix (i + 3)))).1)]) C0 cf_X12_known w_1155 ⟨Nat.le_of_ble_eq_true rfl, Nat.le_of_ble_eq_true rfl⟩ (k_X12_known l (gA g f) σ (xs (ix (i + 1))) (xs (ix (i + 2))) (xs (ix (i + 3))) hR.ib) (h.pm E) rfl hl.1 rfl (Nat.le_of_ble_eq_true rfl) dL_424 ⟨by show cells + 0 ≤ 600000; omega, by show slots + 0 ≤ 7302250; omega⟩) (fun H locs h => ?_)
  have er := hR.q1 (c_known hR.rn hR.ib (xs (ix (i + 1))) (xs (ix (i + 2))) (xs (ix (i + 3))))
  refine lv_icmp_eq (tgt := 1282) hx hb dL_427 (by decide) (fun _ => ?_) (fun n => absurd er.1 n)
  refine W.widen (k := cells + 2) (n := slots + 103) (by omega) (by omega) ?_
  exact kk _ _ H locs h er.2
theorem dL_432 : decode code 432 = .ok (.aload_n 1, 1) := by decide +kernel
theorem dL_433 : decode code 433 = .ok (.aload_n 0, 1) := by decide +kernel
theorem dL_434 : decode code 434 = .ok (.iload_n 3, 1) := by decide +kernel
theorem dL_435 : decode code 435 = .ok (.iconst 1, 1) := by decide +kernel
theorem dL_436 : decode code 436 = .ok (.iadd, 1) := by decide +kernel
theorem dL_437 : decode code 437 = .ok (.iaload, 1) := by decide +kernel
theorem dL_438 : decode code 438 = .ok (.invokevirtual 49, 3) := by decide +kernel
theorem dL_441 : decode code 441 = .ok (.aload_n 2, 1) := by decide +kernel
theorem dL_442 : decode code 442 = .ok (.aload_n 0, 1) := by decide +kernel
theorem dL_443 : decode code 443 = .ok (.iload_n 3, 1) := by decide +kernel
theorem dL_444 : decode code 444 = .ok (.iconst 1, 1) := by decide +kernel
theorem dL_445 : decode code 445 = .ok (.iadd, 1) := by decide +kernel
theorem dL_446 : decode code 446 = .ok (.iaload, 1) := by decide +kernel
theorem dL_447 : decode code 447 = .ok (.invokevirtual 52, 3) := by decide +kernel
theorem dL_450 : decode code 450 = .ok (.if_icmp .eq 832, 3) := by decide +kernel
set_option maxRecDepth 20000 in
theorem w_627 : (Cond.methodLink RL 49 yX11_told) ∈ TB := inTB (List.mem_of_getElem? (i := 627) (by decide +kernel)) (by decide +kernel)
set_option maxRecDepth 20000 in
theorem w_630 : (Cond.code yX11_told cX11_told 2 (some .int)) ∈ TB := inTB (List.mem_of_getElem? (i := 630) (by decide +kernel)) (by decide +kernel)
set_option maxRecDepth 20000 in
theorem w_628 : (Cond.instanceMethod yX11_told) ∈ TB := inTB (List.mem_of_getElem? (i := 628) (by decide +kernel)) (by decide +kernel)
set_option maxRecDepth 20000 in
theorem w_629 : (Cond.selects RX11 yX11_told yX11_told) ∈ TB := inTB (List.mem_of_getElem? (i := 629) (by decide +kernel)) (by decide +kernel)
theorem cf_X11_told : CF yX11_told cX11_told 2 (some .int) 1 := ⟨w_628, w_629, w_71, w_630, by decide +kernel, by decide +kernel, by decide +kernel⟩
set_option maxRecDepth 20000 in
theorem w_1159 : (Cond.methodLink RL 52 yX12_told) ∈ TB := inTB (List.mem_of_getElem? (i := 1159) (by decide +kernel)) (by decide +kernel)
set_option maxRecDepth 20000 in
theorem w_1162 : (Cond.code yX12_told cX12_told 2 (some .int)) ∈ TB := inTB (List.mem_of_getElem? (i := 1162) (by decide +kernel)) (by decide +kernel)
set_option maxRecDepth 20000 in
theorem w_1160 : (Cond.instanceMethod yX12_told) ∈ TB := inTB (List.mem_of_getElem? (i := 1160) (by decide +kernel)) (by decide +kernel)
set_option maxRecDepth 20000 in
theorem w_1161 : (Cond.selects RX12 yX12_told yX12_told) ∈ TB := inTB (List.mem_of_getElem? (i := 1161) (by decide +kernel)) (by decide +kernel)
theorem cf_X12_told : CF yX12_told cX12_told 2 (some .int) 1 := ⟨w_1160, w_1161, w_75, w_1162, by decide +kernel, by decide +kernel, by decide +kernel⟩
set_option maxHeartbeats 1000000 in
set_option maxRecDepth 100000 in
theorem lc_told {p : Program} {l : Launch} {e : Env} {s : State} {m : MethodId} {below : List Frame} {meth : Method} {c : Code} {Q : State → Prop} {b L : Nat} {xs : Nat → Int32} {g : GG} {f : Nat → Nat} {aK aV : Nat → Nat} (C0 : BC p s m #[Value.ref b] meth c code RL 4 ret) (E : LE g aK aV s) (hX : va_X b L xs s s.heap) (hbl : b < s.heap.size) {i : Int32} (hi : vp_in (i + 1) L ∧ vp_in (i + 2) L ∧ vp_in (i + 3) L ∧ vp_in (i + 4) L ∧ vp_in (i + 5) L) {x : X3} {σ : St} {H : Heap} {locs : List Loc} {cells slots : Nat} (hc : cells + 2 ≤ 600000) (hs : slots + 103 ≤ 7302250) {ls : Array Slot} (hl : lv_has ls 4 [(0, .ref b), (1, .ref (g.2.2 100)), (2, .ref (f 100)), (3, .int i)]) (h : LH g f s x σ H locs) (hR : RLL x.1 x.2.1 x.2.2 σ)
    (kk : ∀ (x' : X3) (σ' : St) (H' : Heap) (locs' : List Loc), LH g f s x' σ' H' locs' → RLL x'.1 x'.2.1 x'.2.2 σ' → W p l e room_1 s m #[Value.ref b] below meth c H' locs' (cells + 2) (slots + 103) Q (F0 m 1282 ls [])) : W p l e room_1 s m #[Value.ref b] below meth c H locs cells slots Q (F0 m 432 ls []) := by
  obtain ⟨hx, hb, -, -, -, -, -⟩ := id C0
  obtain ⟨ρ, dt, τ⟩ := x
  have hR : RLL ρ dt τ σ := hR
  refine lv_aload_n hx hb dL_432 rfl (lv_at hl 1 rfl) ?_
  refine law_arg (v := 1) hx hb hX hbl h (lv_at hl 0 rfl) (lv_at hl 3 rfl) hi.1 dL_433 dL_434 dL_435 (by decide) dL_436 dL_437 ?_
  refine aft_i (run_V (rm := { frames := 1, cells := 0, slots := 0, locals := 20 }) (As := [.int (xs (ix (i + 1)))]) (rest := []) C0 cf_X11_told w_627 ⟨Nat.le_of_ble_eq_true rfl, Nat.le_of_ble_eq_true rfl⟩ (k_X11_told l g ρ dt τ (xs (ix (i + 1)))) (h.px E) rfl hl.1 rfl (Nat.le_of_ble_eq_true rfl) dL_438 ⟨by show cells + 0 ≤ 600000; omega, by show slots + 0 ≤ 7302250; omega⟩) ?_
  refine lv_aload_n hx hb dL_441 rfl (lv_at hl 2 rfl) ?_
  refine law_arg (v := 1) hx hb hX hbl h (lv_at hl 0 rfl) (lv_at hl 3 rfl) hi.1 dL_442 dL_443 dL_444 (by decide) dL_445 dL_446 ?_
  refine aft_i (run_V (rm := { frames := 1, cells := 0, slots := 0, locals := 22 }) (As := [.int (xs (ix (i + 1)))]) (rest := [.int (f_X11_told ρ dt τ (xs (ix (i + 1))))]) C0 cf_X12_told w_1159 ⟨Nat.le_of_ble_eq_true rfl, Nat.le_of_ble_eq_true rfl⟩ (k_X12_told l (gA g f) σ (xs (ix (i + 1))) hR.ib) (h.pm E) rfl hl.1 rfl (Nat.le_of_ble_eq_true rfl) dL_447 ⟨by show cells + 0 ≤ 600000; omega, by show slots + 0 ≤ 7302250; omega⟩) ?_
  have er := q_told hR (xs (ix (i + 1)))
  refine lv_icmp_eq (tgt := 1282) hx hb dL_450 (by decide) (fun _ => ?_) (fun n => absurd er n)
  refine W.widen (k := cells + 2) (n := slots + 103) (by omega) (by omega) ?_
  exact kk (ρ, dt, τ) σ H locs h hR
theorem dL_455 : decode code 455 = .ok (.aload_n 1, 1) := by decide +kernel
theorem dL_456 : decode code 456 = .ok (.aload_n 0, 1) := by decide +kernel
theorem dL_457 : decode code 457 = .ok (.iload_n 3, 1) := by decide +kernel
theorem dL_458 : decode code 458 = .ok (.iconst 1, 1) := by decide +kernel
theorem dL_459 : decode code 459 = .ok (.iadd, 1) := by decide +kernel
theorem dL_460 : decode code 460 = .ok (.iaload, 1) := by decide +kernel
theorem dL_461 : decode code 461 = .ok (.aload_n 0, 1) := by decide +kernel
theorem dL_462 : decode code 462 = .ok (.iload_n 3, 1) := by decide +kernel
theorem dL_463 : decode code 463 = .ok (.iconst 2, 1) := by decide +kernel
theorem dL_464 : decode code 464 = .ok (.iadd, 1) := by decide +kernel
theorem dL_465 : decode code 465 = .ok (.iaload, 1) := by decide +kernel
theorem dL_466 : decode code 466 = .ok (.aload_n 0, 1) := by decide +kernel
theorem dL_467 : decode code 467 = .ok (.iload_n 3, 1) := by decide +kernel
theorem dL_468 : decode code 468 = .ok (.iconst 3, 1) := by decide +kernel
theorem dL_469 : decode code 469 = .ok (.iadd, 1) := by decide +kernel
theorem dL_470 : decode code 470 = .ok (.iaload, 1) := by decide +kernel
theorem dL_471 : decode code 471 = .ok (.aload_n 0, 1) := by decide +kernel
theorem dL_472 : decode code 472 = .ok (.iload_n 3, 1) := by decide +kernel
theorem dL_473 : decode code 473 = .ok (.iconst 4, 1) := by decide +kernel
theorem dL_474 : decode code 474 = .ok (.iadd, 1) := by decide +kernel
theorem dL_475 : decode code 475 = .ok (.iaload, 1) := by decide +kernel
theorem dL_476 : decode code 476 = .ok (.aload_n 0, 1) := by decide +kernel
theorem dL_477 : decode code 477 = .ok (.iload_n 3, 1) := by decide +kernel
theorem dL_478 : decode code 478 = .ok (.iconst 5, 1) := by decide +kernel
theorem dL_479 : decode code 479 = .ok (.iadd, 1) := by decide +kernel
theorem dL_480 : decode code 480 = .ok (.iaload, 1) := by decide +kernel
theorem dL_481 : decode code 481 = .ok (.ifCond .eq 7, 3) := by decide +kernel
theorem dL_484 : decode code 484 = .ok (.iconst 1, 1) := by decide +kernel
theorem dL_485 : decode code 485 = .ok (.goto 4, 3) := by decide +kernel
theorem dL_488 : decode code 488 = .ok (.iconst 0, 1) := by decide +kernel
theorem dL_489 : decode code 489 = .ok (.invokevirtual 53, 3) := by decide +kernel
theorem dL_492 : decode code 492 = .ok (.aload_n 2, 1) := by decide +kernel
theorem dL_493 : decode code 493 = .ok (.aload_n 0, 1) := by decide +kernel
theorem dL_494 : decode code 494 = .ok (.iload_n 3, 1) := by decide +kernel
theorem dL_495 : decode code 495 = .ok (.iconst 1, 1) := by decide +kernel
theorem dL_496 : decode code 496 = .ok (.iadd, 1) := by decide +kernel
theorem dL_497 : decode code 497 = .ok (.iaload, 1) := by decide +kernel
theorem dL_498 : decode code 498 = .ok (.aload_n 0, 1) := by decide +kernel
theorem dL_499 : decode code 499 = .ok (.iload_n 3, 1) := by decide +kernel
theorem dL_500 : decode code 500 = .ok (.iconst 2, 1) := by decide +kernel
theorem dL_501 : decode code 501 = .ok (.iadd, 1) := by decide +kernel
theorem dL_502 : decode code 502 = .ok (.iaload, 1) := by decide +kernel
theorem dL_503 : decode code 503 = .ok (.aload_n 0, 1) := by decide +kernel
theorem dL_504 : decode code 504 = .ok (.iload_n 3, 1) := by decide +kernel
theorem dL_505 : decode code 505 = .ok (.iconst 3, 1) := by decide +kernel
theorem dL_506 : decode code 506 = .ok (.iadd, 1) := by decide +kernel
theorem dL_507 : decode code 507 = .ok (.iaload, 1) := by decide +kernel
theorem dL_508 : decode code 508 = .ok (.aload_n 0, 1) := by decide +kernel
theorem dL_509 : decode code 509 = .ok (.iload_n 3, 1) := by decide +kernel
theorem dL_510 : decode code 510 = .ok (.iconst 4, 1) := by decide +kernel
theorem dL_511 : decode code 511 = .ok (.iadd, 1) := by decide +kernel
theorem dL_512 : decode code 512 = .ok (.iaload, 1) := by decide +kernel
theorem dL_513 : decode code 513 = .ok (.aload_n 0, 1) := by decide +kernel
theorem dL_514 : decode code 514 = .ok (.iload_n 3, 1) := by decide +kernel
theorem dL_515 : decode code 515 = .ok (.iconst 5, 1) := by decide +kernel
theorem dL_516 : decode code 516 = .ok (.iadd, 1) := by decide +kernel
theorem dL_517 : decode code 517 = .ok (.iaload, 1) := by decide +kernel
theorem dL_518 : decode code 518 = .ok (.ifCond .eq 7, 3) := by decide +kernel
theorem dL_521 : decode code 521 = .ok (.iconst 1, 1) := by decide +kernel
theorem dL_522 : decode code 522 = .ok (.goto 4, 3) := by decide +kernel
theorem dL_525 : decode code 525 = .ok (.iconst 0, 1) := by decide +kernel
theorem dL_526 : decode code 526 = .ok (.invokevirtual 57, 3) := by decide +kernel
theorem dL_529 : decode code 529 = .ok (.if_icmp .eq 753, 3) := by decide +kernel
set_option maxRecDepth 20000 in
theorem w_639 : (Cond.methodLink RL 53 yX11_measure) ∈ TB := inTB (List.mem_of_getElem? (i := 639) (by decide +kernel)) (by decide +kernel)
set_option maxRecDepth 20000 in
theorem w_642 : (Cond.code yX11_measure cX11_measure 10 (some .int)) ∈ TB := inTB (List.mem_of_getElem? (i := 642) (by decide +kernel)) (by decide +kernel)
set_option maxRecDepth 20000 in
theorem w_640 : (Cond.instanceMethod yX11_measure) ∈ TB := inTB (List.mem_of_getElem? (i := 640) (by decide +kernel)) (by decide +kernel)
set_option maxRecDepth 20000 in
theorem w_641 : (Cond.selects RX11 yX11_measure yX11_measure) ∈ TB := inTB (List.mem_of_getElem? (i := 641) (by decide +kernel)) (by decide +kernel)
theorem cf_X11_measure : CF yX11_measure cX11_measure 10 (some .int) 5 := ⟨w_640, w_641, w_71, w_642, by decide +kernel, by decide +kernel, by decide +kernel⟩
set_option maxRecDepth 20000 in
theorem w_1167 : (Cond.methodLink RL 57 yX12_measure) ∈ TB := inTB (List.mem_of_getElem? (i := 1167) (by decide +kernel)) (by decide +kernel)
set_option maxRecDepth 20000 in
theorem w_1170 : (Cond.code yX12_measure cX12_measure 9 (some .int)) ∈ TB := inTB (List.mem_of_getElem? (i := 1170) (by decide +kernel)) (by decide +kernel)
set_option maxRecDepth 20000 in
theorem w_1168 : (Cond.instanceMethod yX12_measure) ∈ TB := inTB (List.mem_of_getElem? (i := 1168) (by decide +kernel)) (by decide +kernel)
set_option maxRecDepth 20000 in
theorem w_1169 : (Cond.selects RX12 yX12_measure yX12_measure) ∈ TB := inTB (List.mem_of_getElem? (i := 1169) (by decide +kernel)) (by decide +kernel)
theorem cf_X12_measure : CF yX12_measure cX12_measure 9 (some .int) 5 := ⟨w_1168, w_1169, w_75, w_1170, by decide +kernel, by decide +kernel, by decide +kernel⟩
set_option maxHeartbeats 1000000 in
set_option maxRecDepth 100000 in
theorem lc_measure {p : Program} {l : Launch} {e : Env} {s : State} {m : MethodId} {below : List Frame} {meth : Method} {c : Code} {Q : State → Prop} {b L : Nat} {xs : Nat → Int32} {g : GG} {f : Nat → Nat} {aK aV : Nat → Nat} (C0 : BC p s m #[Value.ref b] meth c code RL 4 ret) (E : LE g aK aV s) (hX : va_X b L xs s s.heap) (hbl : b < s.heap.size) {i : Int32} (hi : vp_in (i + 1) L ∧ vp_in (i + 2) L ∧ vp_in (i + 3) L ∧ vp_in (i + 4) L ∧ vp_in (i + 5) L) {x : X3} {σ : St} {H : Heap} {locs : List Loc} {cells slots : Nat} (hc : cells + 2 ≤ 600000) (hs : slots + 103 ≤ 7302250) {ls : Array Slot} (hl : lv_has ls 4 [(0, .ref b), (1, .ref (g.2.2 100)), (2, .ref (f 100)), (3, .int i)]) (h : LH g f s x σ H locs) (hR : RLL x.1 x.2.1 x.2.2 σ)
    (kk : ∀ (x' : X3) (σ' : St) (H' : Heap) (locs' : List Loc), LH g f s x' σ' H' locs' → RLL x'.1 x'.2.1 x'.2.2 σ' → W p l e room_1 s m #[Value.ref b] below meth c H' locs' (cells + 2) (slots + 103) Q (F0 m 1282 ls [])) : W p l e room_1 s m #[Value.ref b] below meth c H locs cells slots Q (F0 m 455 ls []) := by
  obtain ⟨hx, hb, -, -, -, -, -⟩ := id C0
  obtain ⟨ρ, dt, τ⟩ := x
  have hR : RLL ρ dt τ σ := hR
  by_cases hz : xs (ix (i + 5)) = 0
  · refine lv_aload_n hx hb dL_455 rfl (lv_at hl 1 rfl) ?_
    refine law_arg (v := 1) hx hb hX hbl h (lv_at hl 0 rfl) (lv_at hl 3 rfl) hi.1 dL_456 dL_457 dL_458 (by decide) dL_459 dL_460 ?_
    refine law_arg (v := 2) hx hb hX hbl h (lv_at hl 0 rfl) (lv_at hl 3 rfl) hi.2.1 dL_461 dL_462 dL_463 (by decide) dL_464 dL_465 ?_
    refine law_arg (v := 3) hx hb hX hbl h (lv_at hl 0 rfl) (lv_at hl 3 rfl) hi.2.2.1 dL_466 dL_467 dL_468 (by decide) dL_469 dL_470 ?_
    refine law_arg (v := 4) hx hb hX hbl h (lv_at hl 0 rfl) (lv_at hl 3 rfl) hi.2.2.2.1 dL_471 dL_472 dL_473 (by decide) dL_474 dL_475 ?_
    refine law_arg (v := 5) hx hb hX hbl h (lv_at hl 0 rfl) (lv_at hl 3 rfl) hi.2.2.2.2 dL_476 dL_477 dL_478 (by decide) dL_479 dL_480 ?_
    refine lv_if_eq (tgt := 488) hx hb dL_481 (by decide) (fun _ => ?_) (fun n => absurd hz n)
    refine lv_iconst (v := 0) hx hb dL_488 (by decide) ?_
    refine h.cmi (run_V (rm := { frames := 4, cells := 0, slots := 0, locals := 102 }) (As := [.int (xs (ix (i + 1))), .int (xs (ix (i + 2))), .int (xs (ix (i + 3))), .int (xs (ix (i + 4))), .int (0)]) (rest := []) C0 cf_X11_measure w_639 ⟨Nat.le_of_ble_eq_true rfl, Nat.le_of_ble_eq_true rfl⟩ (k_X11_measure l g ρ dt τ (xs (ix (i + 1))) (xs (ix (i + 2))) (xs (ix (i + 3))) (xs (ix (i + 4))) (0) hR.ix) (h.px E) rfl hl.1 rfl (Nat.le_of_ble_eq_true rfl) dL_489 ⟨by show cells + 0 ≤ 600000; omega, by show slots + 0 ≤ 7302250; omega⟩) (fun H locs h => ?_)
    refine lv_aload_n hx hb dL_492 rfl (lv_at hl 2 rfl) ?_
    refine law_arg (v := 1) hx hb hX hbl h (lv_at hl 0 rfl) (lv_at hl 3 rfl) hi.1 dL_493 dL_494 dL_495 (by decide) dL_496 dL_497 ?_
    refine law_arg (v := 2) hx hb hX hbl h (lv_at hl 0 rfl) (lv_at hl 3 rfl) hi.2.1 dL_498 dL_499 dL_500 (by decide) dL_501 dL_502 ?_
    refine law_arg (v := 3) hx hb hX hbl h (lv_at hl 0 rfl) (lv_at hl 3 rfl) hi.2.2.1 dL_503 dL_504 dL_505 (by decide) dL_506 dL_507 ?_
    refine law_arg (v := 4) hx hb hX hbl h (lv_at hl 0 rfl) (lv_at hl 3 rfl) hi.2.2.2.1 dL_508 dL_509 dL_510 (by decide) dL_511 dL_512 ?_
    refine law_arg (v := 5) hx hb hX hbl h (lv_at hl 0 rfl) (lv_at hl 3 rfl) hi.2.2.2.2 dL_513 dL_514 dL_515 (by decide) dL_516 dL_517 ?_
    refine lv_if_eq (tgt := 525) hx hb dL_518 (by decide) (fun _ => ?_) (fun n => absurd hz n)
    refine lv_iconst (v := 0) hx hb dL_525 (by decide) ?_
    refine h.cmm (run_V (rm := { frames := 3, cells := 0, slots := 0, locals := 79 }) (As := [.int (xs (ix (i + 1))), .int (xs (ix (i + 2))), .int (xs (ix (i + 3))), .int (xs (ix (i + 4))), .int (0)]) (rest := [.int ((f_X11_measure ρ dt τ (xs (ix (i + 1))) (xs (ix (i + 2))) (xs (ix (i + 3))) (xs (ix (i + 4))) (0)).1)]) C0 cf_X12_measure w_1167 ⟨Nat.le_of_ble_eq_true rfl, Nat.le_of_ble_eq_true rfl⟩ (k_X12_measure l (gA g f) σ (xs (ix (i + 1))) (xs (ix (i + 2))) (xs (ix (i + 3))) (xs (ix (i + 4))) (0) hR.ib hR.hv) (h.pm E) rfl hl.1 rfl (Nat.le_of_ble_eq_true rfl) dL_526 ⟨by show cells + 0 ≤ 600000; omega, by show slots + 0 ≤ 7302250; omega⟩) (fun H locs h => ?_)
    have er := hR.q1 (c_measure hR.rn hR.rk hR.ib (xs (ix (i + 1))) (xs (ix (i + 2))) (xs (ix (i + 3))) (xs (ix (i + 4))) (0))
    refine lv_icmp_eq (tgt := 1282) hx hb dL_529 (by decide) (fun _ => ?_) (fun n => absurd er.1 n)
    refine W.widen (k := cells + 2) (n := slots + 103) (by omega) (by omega) ?_
    exact kk _ _ H locs h er.2
  · refine lv_aload_n hx hb dL_455 rfl (lv_at hl 1 rfl) ?_
    refine law_arg (v := 1) hx hb hX hbl h (lv_at hl 0 rfl) (lv_at hl 3 rfl) hi.1 dL_456 dL_457 dL_458 (by decide) dL_459 dL_460 ?_
    refine law_arg (v := 2) hx hb hX hbl h (lv_at hl 0 rfl) (lv_at hl 3 rfl) hi.2.1 dL_461 dL_462 dL_463 (by decide) dL_464 dL_465 ?_
    refine law_arg (v := 3) hx hb hX hbl h (lv_at hl 0 rfl) (lv_at hl 3 rfl) hi.2.2.1 dL_466 dL_467 dL_468 (by decide) dL_469 dL_470 ?_
    refine law_arg (v := 4) hx hb hX hbl h (lv_at hl 0 rfl) (lv_at hl 3 rfl) hi.2.2.2.1 dL_471 dL_472 dL_473 (by decide) dL_474 dL_475 ?_
    refine law_arg (v := 5) hx hb hX hbl h (lv_at hl 0 rfl) (lv_at hl 3 rfl) hi.2.2.2.2 dL_476 dL_477 dL_478 (by decide) dL_479 dL_480 ?_
    refine lv_if_eq (tgt := 488) hx hb dL_481 (by decide) (fun n => absurd n hz) (fun _ => ?_)
    refine lv_iconst (v := 1) hx hb dL_484 (by decide) ?_
    refine lv_goto (tgt := 489) hx hb dL_485 (by decide) ?_
    refine h.cmi (run_V (rm := { frames := 4, cells := 0, slots := 0, locals := 102 }) (As := [.int (xs (ix (i + 1))), .int (xs (ix (i + 2))), .int (xs (ix (i + 3))), .int (xs (ix (i + 4))), .int (1)]) (rest := []) C0 cf_X11_measure w_639 ⟨Nat.le_of_ble_eq_true rfl, Nat.le_of_ble_eq_true rfl⟩ (k_X11_measure l g ρ dt τ (xs (ix (i + 1))) (xs (ix (i + 2))) (xs (ix (i + 3))) (xs (ix (i + 4))) (1) hR.ix) (h.px E) rfl hl.1 rfl (Nat.le_of_ble_eq_true rfl) dL_489 ⟨by show cells + 0 ≤ 600000; omega, by show slots + 0 ≤ 7302250; omega⟩) (fun H locs h => ?_)
    refine lv_aload_n hx hb dL_492 rfl (lv_at hl 2 rfl) ?_
    refine law_arg (v := 1) hx hb hX hbl h (lv_at hl 0 rfl) (lv_at hl 3 rfl) hi.1 dL_493 dL_494 dL_495 (by decide) dL_496 dL_497 ?_
    refine law_arg (v := 2) hx hb hX hbl h (lv_at hl 0 rfl) (lv_at hl 3 rfl) hi.2.1 dL_498 dL_499 dL_500 (by decide) dL_501 dL_502 ?_
    refine law_arg (v := 3) hx hb hX hbl h (lv_at hl 0 rfl) (lv_at hl 3 rfl) hi.2.2.1 dL_503 dL_504 dL_505 (by decide) dL_506 dL_507 ?_
    refine law_arg (v := 4) hx hb hX hbl h (lv_at hl 0 rfl) (lv_at hl 3 rfl) hi.2.2.2.1 dL_508 dL_509 dL_510 (by decide) dL_511 dL_512 ?_
    refine law_arg (v := 5) hx hb hX hbl h (lv_at hl 0 rfl) (lv_at hl 3 rfl) hi.2.2.2.2 dL_513 dL_514 dL_515 (by decide) dL_516 dL_517 ?_
    refine lv_if_eq (tgt := 525) hx hb dL_518 (by decide) (fun n => absurd n hz) (fun _ => ?_)
    refine lv_iconst (v := 1) hx hb dL_521 (by decide) ?_
    refine lv_goto (tgt := 526) hx hb dL_522 (by decide) ?_
    refine h.cmm (run_V (rm := { frames := 3, cells := 0, slots := 0, locals := 79 }) (As := [.int (xs (ix (i + 1))), .int (xs (ix (i + 2))), .int (xs (ix (i + 3))), .int (xs (ix (i + 4))), .int (1)]) (rest := [.int ((f_X11_measure ρ dt τ (xs (ix (i + 1))) (xs (ix (i + 2))) (xs (ix (i + 3))) (xs (ix (i + 4))) (1)).1)]) C0 cf_X12_measure w_1167 ⟨Nat.le_of_ble_eq_true rfl, Nat.le_of_ble_eq_true rfl⟩ (k_X12_measure l (gA g f) σ (xs (ix (i + 1))) (xs (ix (i + 2))) (xs (ix (i + 3))) (xs (ix (i + 4))) (1) hR.ib hR.hv) (h.pm E) rfl hl.1 rfl (Nat.le_of_ble_eq_true rfl) dL_526 ⟨by show cells + 0 ≤ 600000; omega, by show slots + 0 ≤ 7302250; omega⟩) (fun H locs h => ?_)
    have er := hR.q1 (c_measure hR.rn hR.rk hR.ib (xs (ix (i + 1))) (xs (ix (i + 2))) (xs (ix (i + 3))) (xs (ix (i + 4))) (1))
    refine lv_icmp_eq (tgt := 1282) hx hb dL_529 (by decide) (fun _ => ?_) (fun n => absurd er.1 n)
    refine W.widen (k := cells + 2) (n := slots + 103) (by omega) (by omega) ?_
    exact kk _ _ H locs h er.2
theorem dL_534 : decode code 534 = .ok (.aload_n 1, 1) := by decide +kernel
theorem dL_535 : decode code 535 = .ok (.aload_n 0, 1) := by decide +kernel
theorem dL_536 : decode code 536 = .ok (.iload_n 3, 1) := by decide +kernel
theorem dL_537 : decode code 537 = .ok (.iconst 1, 1) := by decide +kernel
theorem dL_538 : decode code 538 = .ok (.iadd, 1) := by decide +kernel
theorem dL_539 : decode code 539 = .ok (.iaload, 1) := by decide +kernel
theorem dL_540 : decode code 540 = .ok (.aload_n 0, 1) := by decide +kernel
theorem dL_541 : decode code 541 = .ok (.iload_n 3, 1) := by decide +kernel
theorem dL_542 : decode code 542 = .ok (.iconst 2, 1) := by decide +kernel
theorem dL_543 : decode code 543 = .ok (.iadd, 1) := by decide +kernel
theorem dL_544 : decode code 544 = .ok (.iaload, 1) := by decide +kernel
theorem dL_545 : decode code 545 = .ok (.aload_n 0, 1) := by decide +kernel
theorem dL_546 : decode code 546 = .ok (.iload_n 3, 1) := by decide +kernel
theorem dL_547 : decode code 547 = .ok (.iconst 3, 1) := by decide +kernel
theorem dL_548 : decode code 548 = .ok (.iadd, 1) := by decide +kernel
theorem dL_549 : decode code 549 = .ok (.iaload, 1) := by decide +kernel
theorem dL_550 : decode code 550 = .ok (.aload_n 0, 1) := by decide +kernel
theorem dL_551 : decode code 551 = .ok (.iload_n 3, 1) := by decide +kernel
theorem dL_552 : decode code 552 = .ok (.iconst 4, 1) := by decide +kernel
theorem dL_553 : decode code 553 = .ok (.iadd, 1) := by decide +kernel
theorem dL_554 : decode code 554 = .ok (.iaload, 1) := by decide +kernel
theorem dL_555 : decode code 555 = .ok (.invokevirtual 58, 3) := by decide +kernel
theorem dL_558 : decode code 558 = .ok (.aload_n 2, 1) := by decide +kernel
theorem dL_559 : decode code 559 = .ok (.aload_n 0, 1) := by decide +kernel
theorem dL_560 : decode code 560 = .ok (.iload_n 3, 1) := by decide +kernel
theorem dL_561 : decode code 561 = .ok (.iconst 1, 1) := by decide +kernel
theorem dL_562 : decode code 562 = .ok (.iadd, 1) := by decide +kernel
theorem dL_563 : decode code 563 = .ok (.iaload, 1) := by decide +kernel
theorem dL_564 : decode code 564 = .ok (.aload_n 0, 1) := by decide +kernel
theorem dL_565 : decode code 565 = .ok (.iload_n 3, 1) := by decide +kernel
theorem dL_566 : decode code 566 = .ok (.iconst 2, 1) := by decide +kernel
theorem dL_567 : decode code 567 = .ok (.iadd, 1) := by decide +kernel
theorem dL_568 : decode code 568 = .ok (.iaload, 1) := by decide +kernel
theorem dL_569 : decode code 569 = .ok (.aload_n 0, 1) := by decide +kernel
theorem dL_570 : decode code 570 = .ok (.iload_n 3, 1) := by decide +kernel
theorem dL_571 : decode code 571 = .ok (.iconst 3, 1) := by decide +kernel
theorem dL_572 : decode code 572 = .ok (.iadd, 1) := by decide +kernel
theorem dL_573 : decode code 573 = .ok (.iaload, 1) := by decide +kernel
theorem dL_574 : decode code 574 = .ok (.aload_n 0, 1) := by decide +kernel
theorem dL_575 : decode code 575 = .ok (.iload_n 3, 1) := by decide +kernel
theorem dL_576 : decode code 576 = .ok (.iconst 4, 1) := by decide +kernel
theorem dL_577 : decode code 577 = .ok (.iadd, 1) := by decide +kernel
theorem dL_578 : decode code 578 = .ok (.iaload, 1) := by decide +kernel
theorem dL_579 : decode code 579 = .ok (.invokevirtual 62, 3) := by decide +kernel
theorem dL_582 : decode code 582 = .ok (.if_icmp .eq 700, 3) := by decide +kernel
set_option maxRecDepth 20000 in
theorem w_710 : (Cond.methodLink RL 58 yX11_between) ∈ TB := inTB (List.mem_of_getElem? (i := 710) (by decide +kernel)) (by decide +kernel)
set_option maxRecDepth 20000 in
theorem w_713 : (Cond.code yX11_between cX11_between 6 (some .int)) ∈ TB := inTB (List.mem_of_getElem? (i := 713) (by decide +kernel)) (by decide +kernel)
set_option maxRecDepth 20000 in
theorem w_711 : (Cond.instanceMethod yX11_between) ∈ TB := inTB (List.mem_of_getElem? (i := 711) (by decide +kernel)) (by decide +kernel)
set_option maxRecDepth 20000 in
theorem w_712 : (Cond.selects RX11 yX11_between yX11_between) ∈ TB := inTB (List.mem_of_getElem? (i := 712) (by decide +kernel)) (by decide +kernel)
theorem cf_X11_between : CF yX11_between cX11_between 6 (some .int) 4 := ⟨w_711, w_712, w_71, w_713, by decide +kernel, by decide +kernel, by decide +kernel⟩
set_option maxRecDepth 20000 in
theorem w_1185 : (Cond.methodLink RL 62 yX12_between) ∈ TB := inTB (List.mem_of_getElem? (i := 1185) (by decide +kernel)) (by decide +kernel)
set_option maxRecDepth 20000 in
theorem w_1188 : (Cond.code yX12_between cX12_between 5 (some .int)) ∈ TB := inTB (List.mem_of_getElem? (i := 1188) (by decide +kernel)) (by decide +kernel)
set_option maxRecDepth 20000 in
theorem w_1186 : (Cond.instanceMethod yX12_between) ∈ TB := inTB (List.mem_of_getElem? (i := 1186) (by decide +kernel)) (by decide +kernel)
set_option maxRecDepth 20000 in
theorem w_1187 : (Cond.selects RX12 yX12_between yX12_between) ∈ TB := inTB (List.mem_of_getElem? (i := 1187) (by decide +kernel)) (by decide +kernel)
theorem cf_X12_between : CF yX12_between cX12_between 5 (some .int) 4 := ⟨w_1186, w_1187, w_75, w_1188, by decide +kernel, by decide +kernel, by decide +kernel⟩
set_option maxHeartbeats 1000000 in
set_option maxRecDepth 100000 in
theorem lc_between {p : Program} {l : Launch} {e : Env} {s : State} {m : MethodId} {below : List Frame} {meth : Method} {c : Code} {Q : State → Prop} {b L : Nat} {xs : Nat → Int32} {g : GG} {f : Nat → Nat} {aK aV : Nat → Nat} (C0 : BC p s m #[Value.ref b] meth c code RL 4 ret) (E : LE g aK aV s) (hX : va_X b L xs s s.heap) (hbl : b < s.heap.size) {i : Int32} (hi : vp_in (i + 1) L ∧ vp_in (i + 2) L ∧ vp_in (i + 3) L ∧ vp_in (i + 4) L ∧ vp_in (i + 5) L) {x : X3} {σ : St} {H : Heap} {locs : List Loc} {cells slots : Nat} (hc : cells + 2 ≤ 600000) (hs : slots + 103 ≤ 7302250) {ls : Array Slot} (hl : lv_has ls 4 [(0, .ref b), (1, .ref (g.2.2 100)), (2, .ref (f 100)), (3, .int i)]) (h : LH g f s x σ H locs) (hR : RLL x.1 x.2.1 x.2.2 σ)
    (kk : ∀ (x' : X3) (σ' : St) (H' : Heap) (locs' : List Loc), LH g f s x' σ' H' locs' → RLL x'.1 x'.2.1 x'.2.2 σ' → W p l e room_1 s m #[Value.ref b] below meth c H' locs' (cells + 2) (slots + 103) Q (F0 m 1282 ls [])) : W p l e room_1 s m #[Value.ref b] below meth c H locs cells slots Q (F0 m 534 ls []) := by
  obtain ⟨hx, hb, -, -, -, -, -⟩ := id C0
  obtain ⟨ρ, dt, τ⟩ := x
  have hR : RLL ρ dt τ σ := hR
  refine lv_aload_n hx hb dL_534 rfl (lv_at hl 1 rfl) ?_
  refine law_arg (v := 1) hx hb hX hbl h (lv_at hl 0 rfl) (lv_at hl 3 rfl) hi.1 dL_535 dL_536 dL_537 (by decide) dL_538 dL_539 ?_
  refine law_arg (v := 2) hx hb hX hbl h (lv_at hl 0 rfl) (lv_at hl 3 rfl) hi.2.1 dL_540 dL_541 dL_542 (by decide) dL_543 dL_544 ?_
  refine law_arg (v := 3) hx hb hX hbl h (lv_at hl 0 rfl) (lv_at hl 3 rfl) hi.2.2.1 dL_545 dL_546 dL_547 (by decide) dL_548 dL_549 ?_
  refine law_arg (v := 4) hx hb hX hbl h (lv_at hl 0 rfl) (lv_at hl 3 rfl) hi.2.2.2.1 dL_550 dL_551 dL_552 (by decide) dL_553 dL_554 ?_
  refine aft_i (run_V (rm := { frames := 4, cells := 0, slots := 0, locals := 102 }) (As := [.int (xs (ix (i + 1))), .int (xs (ix (i + 2))), .int (xs (ix (i + 3))), .int (xs (ix (i + 4)))]) (rest := []) C0 cf_X11_between w_710 ⟨Nat.le_of_ble_eq_true rfl, Nat.le_of_ble_eq_true rfl⟩ (k_X11_between l g ρ dt τ (xs (ix (i + 1))) (xs (ix (i + 2))) (xs (ix (i + 3))) (xs (ix (i + 4))) hR.ix) (h.px E) rfl hl.1 rfl (Nat.le_of_ble_eq_true rfl) dL_555 ⟨by show cells + 0 ≤ 600000; omega, by show slots + 0 ≤ 7302250; omega⟩) ?_
  refine lv_aload_n hx hb dL_558 rfl (lv_at hl 2 rfl) ?_
  refine law_arg (v := 1) hx hb hX hbl h (lv_at hl 0 rfl) (lv_at hl 3 rfl) hi.1 dL_559 dL_560 dL_561 (by decide) dL_562 dL_563 ?_
  refine law_arg (v := 2) hx hb hX hbl h (lv_at hl 0 rfl) (lv_at hl 3 rfl) hi.2.1 dL_564 dL_565 dL_566 (by decide) dL_567 dL_568 ?_
  refine law_arg (v := 3) hx hb hX hbl h (lv_at hl 0 rfl) (lv_at hl 3 rfl) hi.2.2.1 dL_569 dL_570 dL_571 (by decide) dL_572 dL_573 ?_
  refine law_arg (v := 4) hx hb hX hbl h (lv_at hl 0 rfl) (lv_at hl 3 rfl) hi.2.2.2.1 dL_574 dL_575 dL_576 (by decide) dL_577 dL_578 ?_
  refine h.cmm (run_V (rm := { frames := 3, cells := 0, slots := 0, locals := 79 }) (As := [.int (xs (ix (i + 1))), .int (xs (ix (i + 2))), .int (xs (ix (i + 3))), .int (xs (ix (i + 4)))]) (rest := [.int (f_X11_between ρ dt τ (xs (ix (i + 1))) (xs (ix (i + 2))) (xs (ix (i + 3))) (xs (ix (i + 4))))]) C0 cf_X12_between w_1185 ⟨Nat.le_of_ble_eq_true rfl, Nat.le_of_ble_eq_true rfl⟩ (k_X12_between l (gA g f) σ (xs (ix (i + 1))) (xs (ix (i + 2))) (xs (ix (i + 3))) (xs (ix (i + 4))) hR.ib hR.hv) (h.pm E) rfl hl.1 rfl (Nat.le_of_ble_eq_true rfl) dL_579 ⟨by show cells + 0 ≤ 600000; omega, by show slots + 0 ≤ 7302250; omega⟩) (fun H locs h => ?_)
  have er := hR.q1 (c_between hR.rn hR.rk hR.ib (xs (ix (i + 1))) (xs (ix (i + 2))) (xs (ix (i + 3))) (xs (ix (i + 4))))
  refine lv_icmp_eq (tgt := 1282) hx hb dL_582 (by decide) (fun _ => ?_) (fun n => absurd er.1 n)
  refine W.widen (k := cells + 2) (n := slots + 103) (by omega) (by omega) ?_
  exact kk _ _ H locs h er.2
theorem dL_587 : decode code 587 = .ok (.aload_n 1, 1) := by decide +kernel
theorem dL_588 : decode code 588 = .ok (.aload_n 0, 1) := by decide +kernel
theorem dL_589 : decode code 589 = .ok (.iload_n 3, 1) := by decide +kernel
theorem dL_590 : decode code 590 = .ok (.iconst 1, 1) := by decide +kernel
theorem dL_591 : decode code 591 = .ok (.iadd, 1) := by decide +kernel
theorem dL_592 : decode code 592 = .ok (.iaload, 1) := by decide +kernel
theorem dL_593 : decode code 593 = .ok (.aload_n 0, 1) := by decide +kernel
theorem dL_594 : decode code 594 = .ok (.iload_n 3, 1) := by decide +kernel
theorem dL_595 : decode code 595 = .ok (.iconst 2, 1) := by decide +kernel
theorem dL_596 : decode code 596 = .ok (.iadd, 1) := by decide +kernel
theorem dL_597 : decode code 597 = .ok (.iaload, 1) := by decide +kernel
theorem dL_598 : decode code 598 = .ok (.aload_n 0, 1) := by decide +kernel
theorem dL_599 : decode code 599 = .ok (.iload_n 3, 1) := by decide +kernel
theorem dL_600 : decode code 600 = .ok (.iconst 3, 1) := by decide +kernel
theorem dL_601 : decode code 601 = .ok (.iadd, 1) := by decide +kernel
theorem dL_602 : decode code 602 = .ok (.iaload, 1) := by decide +kernel
theorem dL_603 : decode code 603 = .ok (.invokevirtual 63, 3) := by decide +kernel
theorem dL_606 : decode code 606 = .ok (.aload_n 2, 1) := by decide +kernel
theorem dL_607 : decode code 607 = .ok (.aload_n 0, 1) := by decide +kernel
theorem dL_608 : decode code 608 = .ok (.iload_n 3, 1) := by decide +kernel
theorem dL_609 : decode code 609 = .ok (.iconst 1, 1) := by decide +kernel
theorem dL_610 : decode code 610 = .ok (.iadd, 1) := by decide +kernel
theorem dL_611 : decode code 611 = .ok (.iaload, 1) := by decide +kernel
theorem dL_612 : decode code 612 = .ok (.aload_n 0, 1) := by decide +kernel
theorem dL_613 : decode code 613 = .ok (.iload_n 3, 1) := by decide +kernel
theorem dL_614 : decode code 614 = .ok (.iconst 2, 1) := by decide +kernel
theorem dL_615 : decode code 615 = .ok (.iadd, 1) := by decide +kernel
theorem dL_616 : decode code 616 = .ok (.iaload, 1) := by decide +kernel
theorem dL_617 : decode code 617 = .ok (.aload_n 0, 1) := by decide +kernel
theorem dL_618 : decode code 618 = .ok (.iload_n 3, 1) := by decide +kernel
theorem dL_619 : decode code 619 = .ok (.iconst 3, 1) := by decide +kernel
theorem dL_620 : decode code 620 = .ok (.iadd, 1) := by decide +kernel
theorem dL_621 : decode code 621 = .ok (.iaload, 1) := by decide +kernel
theorem dL_622 : decode code 622 = .ok (.invokevirtual 66, 3) := by decide +kernel
theorem dL_625 : decode code 625 = .ok (.if_icmp .eq 657, 3) := by decide +kernel
set_option maxRecDepth 20000 in
theorem w_716 : (Cond.methodLink RL 63 yX11_surest) ∈ TB := inTB (List.mem_of_getElem? (i := 716) (by decide +kernel)) (by decide +kernel)
set_option maxRecDepth 20000 in
theorem w_719 : (Cond.code yX11_surest cX11_surest 4 (some .int)) ∈ TB := inTB (List.mem_of_getElem? (i := 719) (by decide +kernel)) (by decide +kernel)
set_option maxRecDepth 20000 in
theorem w_717 : (Cond.instanceMethod yX11_surest) ∈ TB := inTB (List.mem_of_getElem? (i := 717) (by decide +kernel)) (by decide +kernel)
set_option maxRecDepth 20000 in
theorem w_718 : (Cond.selects RX11 yX11_surest yX11_surest) ∈ TB := inTB (List.mem_of_getElem? (i := 718) (by decide +kernel)) (by decide +kernel)
theorem cf_X11_surest : CF yX11_surest cX11_surest 4 (some .int) 3 := ⟨w_717, w_718, w_71, w_719, by decide +kernel, by decide +kernel, by decide +kernel⟩
set_option maxRecDepth 20000 in
theorem w_1189 : (Cond.methodLink RL 66 yX12_surest) ∈ TB := inTB (List.mem_of_getElem? (i := 1189) (by decide +kernel)) (by decide +kernel)
set_option maxRecDepth 20000 in
theorem w_1192 : (Cond.code yX12_surest cX12_surest 9 (some .int)) ∈ TB := inTB (List.mem_of_getElem? (i := 1192) (by decide +kernel)) (by decide +kernel)
set_option maxRecDepth 20000 in
theorem w_1190 : (Cond.instanceMethod yX12_surest) ∈ TB := inTB (List.mem_of_getElem? (i := 1190) (by decide +kernel)) (by decide +kernel)
set_option maxRecDepth 20000 in
theorem w_1191 : (Cond.selects RX12 yX12_surest yX12_surest) ∈ TB := inTB (List.mem_of_getElem? (i := 1191) (by decide +kernel)) (by decide +kernel)
theorem cf_X12_surest : CF yX12_surest cX12_surest 9 (some .int) 3 := ⟨w_1190, w_1191, w_75, w_1192, by decide +kernel, by decide +kernel, by decide +kernel⟩
set_option maxHeartbeats 1000000 in
set_option maxRecDepth 100000 in
theorem lc_surest {p : Program} {l : Launch} {e : Env} {s : State} {m : MethodId} {below : List Frame} {meth : Method} {c : Code} {Q : State → Prop} {b L : Nat} {xs : Nat → Int32} {g : GG} {f : Nat → Nat} {aK aV : Nat → Nat} (C0 : BC p s m #[Value.ref b] meth c code RL 4 ret) (E : LE g aK aV s) (hX : va_X b L xs s s.heap) (hbl : b < s.heap.size) {i : Int32} (hi : vp_in (i + 1) L ∧ vp_in (i + 2) L ∧ vp_in (i + 3) L ∧ vp_in (i + 4) L ∧ vp_in (i + 5) L) {x : X3} {σ : St} {H : Heap} {locs : List Loc} {cells slots : Nat} (hc : cells + 2 ≤ 600000) (hs : slots + 103 ≤ 7302250) {ls : Array Slot} (hl : lv_has ls 4 [(0, .ref b), (1, .ref (g.2.2 100)), (2, .ref (f 100)), (3, .int i)]) (h : LH g f s x σ H locs) (hR : RLL x.1 x.2.1 x.2.2 σ)
    (kk : ∀ (x' : X3) (σ' : St) (H' : Heap) (locs' : List Loc), LH g f s x' σ' H' locs' → RLL x'.1 x'.2.1 x'.2.2 σ' → W p l e room_1 s m #[Value.ref b] below meth c H' locs' (cells + 2) (slots + 103) Q (F0 m 1282 ls [])) : W p l e room_1 s m #[Value.ref b] below meth c H locs cells slots Q (F0 m 587 ls []) := by
  obtain ⟨hx, hb, -, -, -, -, -⟩ := id C0
  obtain ⟨ρ, dt, τ⟩ := x
  have hR : RLL ρ dt τ σ := hR
  refine lv_aload_n hx hb dL_587 rfl (lv_at hl 1 rfl) ?_
  refine law_arg (v := 1) hx hb hX hbl h (lv_at hl 0 rfl) (lv_at hl 3 rfl) hi.1 dL_588 dL_589 dL_590 (by decide) dL_591 dL_592 ?_
  refine law_arg (v := 2) hx hb hX hbl h (lv_at hl 0 rfl) (lv_at hl 3 rfl) hi.2.1 dL_593 dL_594 dL_595 (by decide) dL_596 dL_597 ?_
  refine law_arg (v := 3) hx hb hX hbl h (lv_at hl 0 rfl) (lv_at hl 3 rfl) hi.2.2.1 dL_598 dL_599 dL_600 (by decide) dL_601 dL_602 ?_
  refine h.cmi (run_V (rm := { frames := 5, cells := 0, slots := 0, locals := 130 }) (As := [.int (xs (ix (i + 1))), .int (xs (ix (i + 2))), .int (xs (ix (i + 3)))]) (rest := []) C0 cf_X11_surest w_716 ⟨Nat.le_of_ble_eq_true rfl, Nat.le_of_ble_eq_true rfl⟩ (k_X11_surest l g ρ dt τ (xs (ix (i + 1))) (xs (ix (i + 2))) (xs (ix (i + 3))) hR.ix hR.nn) (h.px E) rfl hl.1 rfl (Nat.le_of_ble_eq_true rfl) dL_603 ⟨by show cells + 0 ≤ 600000; omega, by show slots + 0 ≤ 7302250; omega⟩) (fun H locs h => ?_)
  refine lv_aload_n hx hb dL_606 rfl (lv_at hl 2 rfl) ?_
  refine law_arg (v := 1) hx hb hX hbl h (lv_at hl 0 rfl) (lv_at hl 3 rfl) hi.1 dL_607 dL_608 dL_609 (by decide) dL_610 dL_611 ?_
  refine law_arg (v := 2) hx hb hX hbl h (lv_at hl 0 rfl) (lv_at hl 3 rfl) hi.2.1 dL_612 dL_613 dL_614 (by decide) dL_615 dL_616 ?_
  refine law_arg (v := 3) hx hb hX hbl h (lv_at hl 0 rfl) (lv_at hl 3 rfl) hi.2.2.1 dL_617 dL_618 dL_619 (by decide) dL_620 dL_621 ?_
  refine h.cmm (run_V (rm := { frames := 3, cells := 0, slots := 0, locals := 79 }) (As := [.int (xs (ix (i + 1))), .int (xs (ix (i + 2))), .int (xs (ix (i + 3)))]) (rest := [.int ((f_X11_surest ρ dt τ (xs (ix (i + 1))) (xs (ix (i + 2))) (xs (ix (i + 3)))).1)]) C0 cf_X12_surest w_1189 ⟨Nat.le_of_ble_eq_true rfl, Nat.le_of_ble_eq_true rfl⟩ (k_X12_surest l (gA g f) σ (xs (ix (i + 1))) (xs (ix (i + 2))) (xs (ix (i + 3))) hR.ib hR.hv) (h.pm E) rfl hl.1 rfl (Nat.le_of_ble_eq_true rfl) dL_622 ⟨by show cells + 0 ≤ 600000; omega, by show slots + 0 ≤ 7302250; omega⟩) (fun H locs h => ?_)
  have er := hR.q1 (c_surest hR.rn hR.rk hR.ib (xs (ix (i + 1))) (xs (ix (i + 2))) (xs (ix (i + 3))))
  refine lv_icmp_eq (tgt := 1282) hx hb dL_625 (by decide) (fun _ => ?_) (fun n => absurd er.1 n)
  refine W.widen (k := cells + 2) (n := slots + 103) (by omega) (by omega) ?_
  exact kk _ _ H locs h er.2
