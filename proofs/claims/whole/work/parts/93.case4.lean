/-! THE LAW: its calls, one by one -/
theorem dL_838 : decode code 838 = .ok (.aload_n 1, 1) := by decide +kernel
theorem dL_839 : decode code 839 = .ok (.aload_n 0, 1) := by decide +kernel
theorem dL_840 : decode code 840 = .ok (.iload_n 3, 1) := by decide +kernel
theorem dL_841 : decode code 841 = .ok (.iconst 1, 1) := by decide +kernel
theorem dL_842 : decode code 842 = .ok (.iadd, 1) := by decide +kernel
theorem dL_843 : decode code 843 = .ok (.iaload, 1) := by decide +kernel
theorem dL_844 : decode code 844 = .ok (.invokevirtual 91, 3) := by decide +kernel
theorem dL_847 : decode code 847 = .ok (.aload_n 2, 1) := by decide +kernel
theorem dL_848 : decode code 848 = .ok (.aload_n 0, 1) := by decide +kernel
theorem dL_849 : decode code 849 = .ok (.iload_n 3, 1) := by decide +kernel
theorem dL_850 : decode code 850 = .ok (.iconst 1, 1) := by decide +kernel
theorem dL_851 : decode code 851 = .ok (.iadd, 1) := by decide +kernel
theorem dL_852 : decode code 852 = .ok (.iaload, 1) := by decide +kernel
theorem dL_853 : decode code 853 = .ok (.invokevirtual 94, 3) := by decide +kernel
theorem dL_856 : decode code 856 = .ok (.if_icmp .eq 426, 3) := by decide +kernel
set_option maxRecDepth 20000 in
theorem w_786 : (Cond.methodLink RL 91 yX11_cut) ∈ TB := inTB (List.mem_of_getElem? (i := 786) (by decide +kernel)) (by decide +kernel)
set_option maxRecDepth 20000 in
theorem w_789 : (Cond.code yX11_cut cX11_cut 2 (some .int)) ∈ TB := inTB (List.mem_of_getElem? (i := 789) (by decide +kernel)) (by decide +kernel)
set_option maxRecDepth 20000 in
theorem w_787 : (Cond.instanceMethod yX11_cut) ∈ TB := inTB (List.mem_of_getElem? (i := 787) (by decide +kernel)) (by decide +kernel)
set_option maxRecDepth 20000 in
theorem w_788 : (Cond.selects RX11 yX11_cut yX11_cut) ∈ TB := inTB (List.mem_of_getElem? (i := 788) (by decide +kernel)) (by decide +kernel)
theorem cf_X11_cut : CF yX11_cut cX11_cut 2 (some .int) 1 := ⟨w_787, w_788, w_71, w_789, by decide +kernel, by decide +kernel, by decide +kernel⟩
set_option maxRecDepth 20000 in
theorem w_1234 : (Cond.methodLink RL 94 yX12_cut) ∈ TB := inTB (List.mem_of_getElem? (i := 1234) (by decide +kernel)) (by decide +kernel)
set_option maxRecDepth 20000 in
theorem w_1237 : (Cond.code yX12_cut cX12_cut 2 (some .int)) ∈ TB := inTB (List.mem_of_getElem? (i := 1237) (by decide +kernel)) (by decide +kernel)
set_option maxRecDepth 20000 in
theorem w_1235 : (Cond.instanceMethod yX12_cut) ∈ TB := inTB (List.mem_of_getElem? (i := 1235) (by decide +kernel)) (by decide +kernel)
set_option maxRecDepth 20000 in
theorem w_1236 : (Cond.selects RX12 yX12_cut yX12_cut) ∈ TB := inTB (List.mem_of_getElem? (i := 1236) (by decide +kernel)) (by decide +kernel)
theorem cf_X12_cut : CF yX12_cut cX12_cut 2 (some .int) 1 := ⟨w_1235, w_1236, w_75, w_1237, by decide +kernel, by decide +kernel, by decide +kernel⟩
set_option maxHeartbeats 1000000 in
set_option maxRecDepth 100000 in
theorem lc_cut {p : Program} {l : Launch} {e : Env} {s : State} {m : MethodId} {below : List Frame} {meth : Method} {c : Code} {Q : State → Prop} {b L : Nat} {xs : Nat → Int32} {g : GG} {f : Nat → Nat} {aK aV : Nat → Nat} (C0 : BC p s m #[Value.ref b] meth c code RL 4 ret) (E : LE g aK aV s) (hX : va_X b L xs s s.heap) (hbl : b < s.heap.size) {i : Int32} (hi : vp_in (i + 1) L ∧ vp_in (i + 2) L ∧ vp_in (i + 3) L ∧ vp_in (i + 4) L ∧ vp_in (i + 5) L) {x : X3} {σ : St} {H : Heap} {locs : List Loc} {cells slots : Nat} (hc : cells + 2 ≤ 600000) (hs : slots + 103 ≤ 7302250) {ls : Array Slot} (hl : lv_has ls 4 [(0, .ref b), (1, .ref (g.2.2 100)), (2, .ref (f 100)), (3, .int i)]) (h : LH g f s x σ H locs) (hR : RLL x.1 x.2.1 x.2.2 σ)
    (kk : ∀ (x' : X3) (σ' : St) (H' : Heap) (locs' : List Loc), LH g f s x' σ' H' locs' → RLL x'.1 x'.2.1 x'.2.2 σ' → W p l e room_1 s m #[Value.ref b] below meth c H' locs' (cells + 2) (slots + 103) Q (F0 m 1282 ls [])) : W p l e room_1 s m #[Value.ref b] below meth c H locs cells slots Q (F0 m 838 ls []) := by
  obtain ⟨hx, hb, -, -, -, -, -⟩ := id C0
  obtain ⟨ρ, dt, τ⟩ := x
  have hR : RLL ρ dt τ σ := hR
  refine lv_aload_n hx hb dL_838 rfl (lv_at hl 1 rfl) ?_
  refine law_arg (v := 1) hx hb hX hbl h (lv_at hl 0 rfl) (lv_at hl 3 rfl) hi.1 dL_839 dL_840 dL_841 (by decide) dL_842 dL_843 ?_
  refine aft_i (run_V (rm := { frames := 3, cells := 0, slots := 0, locals := 74 }) (As := [.int (xs (ix (i + 1)))]) (rest := []) C0 cf_X11_cut w_786 ⟨Nat.le_of_ble_eq_true rfl, Nat.le_of_ble_eq_true rfl⟩ (k_X11_cut l g ρ dt τ (xs (ix (i + 1))) hR.ix) (h.px E) rfl hl.1 rfl (Nat.le_of_ble_eq_true rfl) dL_844 ⟨by show cells + 0 ≤ 600000; omega, by show slots + 0 ≤ 7302250; omega⟩) ?_
  refine lv_aload_n hx hb dL_847 rfl (lv_at hl 2 rfl) ?_
  refine law_arg (v := 1) hx hb hX hbl h (lv_at hl 0 rfl) (lv_at hl 3 rfl) hi.1 dL_848 dL_849 dL_850 (by decide) dL_851 dL_852 ?_
  refine h.cmm (run_V (rm := { frames := 3, cells := 0, slots := 0, locals := 70 }) (As := [.int (xs (ix (i + 1)))]) (rest := [.int (f_X11_cut ρ dt τ (xs (ix (i + 1))))]) C0 cf_X12_cut w_1234 ⟨Nat.le_of_ble_eq_true rfl, Nat.le_of_ble_eq_true rfl⟩ (k_X12_cut l (gA g f) σ (xs (ix (i + 1))) hR.ib) (h.pm E) rfl hl.1 rfl (Nat.le_of_ble_eq_true rfl) dL_853 ⟨by show cells + 0 ≤ 600000; omega, by show slots + 0 ≤ 7302250; omega⟩) (fun H locs h => ?_)
  have er := hR.q1 (c_cut hR.rn hR.rk hR.ib (xs (ix (i + 1))))
  refine lv_icmp_eq (tgt := 1282) hx hb dL_856 (by decide) (fun _ => ?_) (fun n => absurd er.1 n)
  refine W.widen (k := cells + 2) (n := slots + 103) (by omega) (by omega) ?_
  exact kk _ _ H locs h er.2
theorem dL_861 : decode code 861 = .ok (.aload_n 1, 1) := by decide +kernel
theorem dL_862 : decode code 862 = .ok (.aload_n 0, 1) := by decide +kernel
theorem dL_863 : decode code 863 = .ok (.iload_n 3, 1) := by decide +kernel
theorem dL_864 : decode code 864 = .ok (.iconst 1, 1) := by decide +kernel
theorem dL_865 : decode code 865 = .ok (.iadd, 1) := by decide +kernel
theorem dL_866 : decode code 866 = .ok (.iaload, 1) := by decide +kernel
theorem dL_867 : decode code 867 = .ok (.aload_n 0, 1) := by decide +kernel
theorem dL_868 : decode code 868 = .ok (.iload_n 3, 1) := by decide +kernel
theorem dL_869 : decode code 869 = .ok (.iconst 2, 1) := by decide +kernel
theorem dL_870 : decode code 870 = .ok (.iadd, 1) := by decide +kernel
theorem dL_871 : decode code 871 = .ok (.iaload, 1) := by decide +kernel
theorem dL_872 : decode code 872 = .ok (.invokevirtual 95, 3) := by decide +kernel
theorem dL_875 : decode code 875 = .ok (.aload_n 2, 1) := by decide +kernel
theorem dL_876 : decode code 876 = .ok (.aload_n 0, 1) := by decide +kernel
theorem dL_877 : decode code 877 = .ok (.iload_n 3, 1) := by decide +kernel
theorem dL_878 : decode code 878 = .ok (.iconst 1, 1) := by decide +kernel
theorem dL_879 : decode code 879 = .ok (.iadd, 1) := by decide +kernel
theorem dL_880 : decode code 880 = .ok (.iaload, 1) := by decide +kernel
theorem dL_881 : decode code 881 = .ok (.aload_n 0, 1) := by decide +kernel
theorem dL_882 : decode code 882 = .ok (.iload_n 3, 1) := by decide +kernel
theorem dL_883 : decode code 883 = .ok (.iconst 2, 1) := by decide +kernel
theorem dL_884 : decode code 884 = .ok (.iadd, 1) := by decide +kernel
theorem dL_885 : decode code 885 = .ok (.iaload, 1) := by decide +kernel
theorem dL_886 : decode code 886 = .ok (.invokevirtual 99, 3) := by decide +kernel
theorem dL_889 : decode code 889 = .ok (.lcmp, 1) := by decide +kernel
theorem dL_890 : decode code 890 = .ok (.ifCond .eq 392, 3) := by decide +kernel
set_option maxRecDepth 20000 in
theorem w_800 : (Cond.methodLink RL 95 yX11_cost) ∈ TB := inTB (List.mem_of_getElem? (i := 800) (by decide +kernel)) (by decide +kernel)
set_option maxRecDepth 20000 in
theorem w_803 : (Cond.code yX11_cost cX11_cost 3 (some .long)) ∈ TB := inTB (List.mem_of_getElem? (i := 803) (by decide +kernel)) (by decide +kernel)
set_option maxRecDepth 20000 in
theorem w_801 : (Cond.instanceMethod yX11_cost) ∈ TB := inTB (List.mem_of_getElem? (i := 801) (by decide +kernel)) (by decide +kernel)
set_option maxRecDepth 20000 in
theorem w_802 : (Cond.selects RX11 yX11_cost yX11_cost) ∈ TB := inTB (List.mem_of_getElem? (i := 802) (by decide +kernel)) (by decide +kernel)
theorem cf_X11_cost : CF yX11_cost cX11_cost 3 (some .long) 2 := ⟨w_801, w_802, w_71, w_803, by decide +kernel, by decide +kernel, by decide +kernel⟩
set_option maxRecDepth 20000 in
theorem w_1247 : (Cond.methodLink RL 99 yX12_cost) ∈ TB := inTB (List.mem_of_getElem? (i := 1247) (by decide +kernel)) (by decide +kernel)
set_option maxRecDepth 20000 in
theorem w_1250 : (Cond.code yX12_cost cX12_cost 3 (some .long)) ∈ TB := inTB (List.mem_of_getElem? (i := 1250) (by decide +kernel)) (by decide +kernel)
set_option maxRecDepth 20000 in
theorem w_1248 : (Cond.instanceMethod yX12_cost) ∈ TB := inTB (List.mem_of_getElem? (i := 1248) (by decide +kernel)) (by decide +kernel)
set_option maxRecDepth 20000 in
theorem w_1249 : (Cond.selects RX12 yX12_cost yX12_cost) ∈ TB := inTB (List.mem_of_getElem? (i := 1249) (by decide +kernel)) (by decide +kernel)
theorem cf_X12_cost : CF yX12_cost cX12_cost 3 (some .long) 2 := ⟨w_1248, w_1249, w_75, w_1250, by decide +kernel, by decide +kernel, by decide +kernel⟩
set_option maxHeartbeats 1000000 in
set_option maxRecDepth 100000 in
theorem lc_cost {p : Program} {l : Launch} {e : Env} {s : State} {m : MethodId} {below : List Frame} {meth : Method} {c : Code} {Q : State → Prop} {b L : Nat} {xs : Nat → Int32} {g : GG} {f : Nat → Nat} {aK aV : Nat → Nat} (C0 : BC p s m #[Value.ref b] meth c code RL 4 ret) (E : LE g aK aV s) (hX : va_X b L xs s s.heap) (hbl : b < s.heap.size) {i : Int32} (hi : vp_in (i + 1) L ∧ vp_in (i + 2) L ∧ vp_in (i + 3) L ∧ vp_in (i + 4) L ∧ vp_in (i + 5) L) {x : X3} {σ : St} {H : Heap} {locs : List Loc} {cells slots : Nat} (hc : cells + 2 ≤ 600000) (hs : slots + 103 ≤ 7302250) {ls : Array Slot} (hl : lv_has ls 4 [(0, .ref b), (1, .ref (g.2.2 100)), (2, .ref (f 100)), (3, .int i)]) (h : LH g f s x σ H locs) (hR : RLL x.1 x.2.1 x.2.2 σ)
    (kk : ∀ (x' : X3) (σ' : St) (H' : Heap) (locs' : List Loc), LH g f s x' σ' H' locs' → RLL x'.1 x'.2.1 x'.2.2 σ' → W p l e room_1 s m #[Value.ref b] below meth c H' locs' (cells + 2) (slots + 103) Q (F0 m 1282 ls [])) : W p l e room_1 s m #[Value.ref b] below meth c H locs cells slots Q (F0 m 861 ls []) := by
  obtain ⟨hx, hb, -, -, -, -, -⟩ := id C0
  obtain ⟨ρ, dt, τ⟩ := x
  have hR : RLL ρ dt τ σ := hR
  refine lv_aload_n hx hb dL_861 rfl (lv_at hl 1 rfl) ?_
  refine law_arg (v := 1) hx hb hX hbl h (lv_at hl 0 rfl) (lv_at hl 3 rfl) hi.1 dL_862 dL_863 dL_864 (by decide) dL_865 dL_866 ?_
  refine law_arg (v := 2) hx hb hX hbl h (lv_at hl 0 rfl) (lv_at hl 3 rfl) hi.2.1 dL_867 dL_868 dL_869 (by decide) dL_870 dL_871 ?_
  refine aft_l (run_V (rm := { frames := 3, cells := 0, slots := 0, locals := 74 }) (As := [.int (xs (ix (i + 1))), .int (xs (ix (i + 2)))]) (rest := []) C0 cf_X11_cost w_800 ⟨Nat.le_of_ble_eq_true rfl, Nat.le_of_ble_eq_true rfl⟩ (k_X11_cost l g ρ dt τ (xs (ix (i + 1))) (xs (ix (i + 2))) hR.ix) (h.px E) rfl hl.1 rfl (Nat.le_of_ble_eq_true rfl) dL_872 ⟨by show cells + 0 ≤ 600000; omega, by show slots + 0 ≤ 7302250; omega⟩) ?_
  refine lv_aload_n hx hb dL_875 rfl (lv_at hl 2 rfl) ?_
  refine law_arg (v := 1) hx hb hX hbl h (lv_at hl 0 rfl) (lv_at hl 3 rfl) hi.1 dL_876 dL_877 dL_878 (by decide) dL_879 dL_880 ?_
  refine law_arg (v := 2) hx hb hX hbl h (lv_at hl 0 rfl) (lv_at hl 3 rfl) hi.2.1 dL_881 dL_882 dL_883 (by decide) dL_884 dL_885 ?_
  refine h.cml (run_V (rm := { frames := 3, cells := 0, slots := 0, locals := 70 }) (As := [.int (xs (ix (i + 1))), .int (xs (ix (i + 2)))]) (rest := [.long (f_X11_cost ρ dt τ (xs (ix (i + 1))) (xs (ix (i + 2))))]) C0 cf_X12_cost w_1247 ⟨Nat.le_of_ble_eq_true rfl, Nat.le_of_ble_eq_true rfl⟩ (k_X12_cost l (gA g f) σ (xs (ix (i + 1))) (xs (ix (i + 2))) hR.ib) (h.pm E) rfl hl.1 rfl (Nat.le_of_ble_eq_true rfl) dL_886 ⟨by show cells + 0 ≤ 600000; omega, by show slots + 0 ≤ 7302250; omega⟩) (fun H locs h => ?_)
  have er := c_cost hR.rn hR.rk hR.ib (xs (ix (i + 1))) (xs (ix (i + 2)))
  refine W.lcmp hx hb dL_889 ?_
  refine lv_if_eq (tgt := 1282) hx hb dL_890 (by decide) (fun _ => ?_) (fun n => absurd ((lg_cmp_eq _ _).mpr er.1) n)
  refine W.widen (k := cells + 2) (n := slots + 103) (by omega) (by omega) ?_
  exact kk (ρ, dt, τ) _ H locs h (hR.om er.2)
theorem dL_895 : decode code 895 = .ok (.aload_n 1, 1) := by decide +kernel
theorem dL_896 : decode code 896 = .ok (.aload_n 0, 1) := by decide +kernel
theorem dL_897 : decode code 897 = .ok (.iload_n 3, 1) := by decide +kernel
theorem dL_898 : decode code 898 = .ok (.iconst 1, 1) := by decide +kernel
theorem dL_899 : decode code 899 = .ok (.iadd, 1) := by decide +kernel
theorem dL_900 : decode code 900 = .ok (.iaload, 1) := by decide +kernel
theorem dL_901 : decode code 901 = .ok (.aload_n 0, 1) := by decide +kernel
theorem dL_902 : decode code 902 = .ok (.iload_n 3, 1) := by decide +kernel
theorem dL_903 : decode code 903 = .ok (.iconst 2, 1) := by decide +kernel
theorem dL_904 : decode code 904 = .ok (.iadd, 1) := by decide +kernel
theorem dL_905 : decode code 905 = .ok (.iaload, 1) := by decide +kernel
theorem dL_906 : decode code 906 = .ok (.aload_n 0, 1) := by decide +kernel
theorem dL_907 : decode code 907 = .ok (.iload_n 3, 1) := by decide +kernel
theorem dL_908 : decode code 908 = .ok (.iconst 3, 1) := by decide +kernel
theorem dL_909 : decode code 909 = .ok (.iadd, 1) := by decide +kernel
theorem dL_910 : decode code 910 = .ok (.iaload, 1) := by decide +kernel
theorem dL_911 : decode code 911 = .ok (.invokevirtual 100, 3) := by decide +kernel
theorem dL_914 : decode code 914 = .ok (.aload_n 2, 1) := by decide +kernel
theorem dL_915 : decode code 915 = .ok (.aload_n 0, 1) := by decide +kernel
theorem dL_916 : decode code 916 = .ok (.iload_n 3, 1) := by decide +kernel
theorem dL_917 : decode code 917 = .ok (.iconst 1, 1) := by decide +kernel
theorem dL_918 : decode code 918 = .ok (.iadd, 1) := by decide +kernel
theorem dL_919 : decode code 919 = .ok (.iaload, 1) := by decide +kernel
theorem dL_920 : decode code 920 = .ok (.aload_n 0, 1) := by decide +kernel
theorem dL_921 : decode code 921 = .ok (.iload_n 3, 1) := by decide +kernel
theorem dL_922 : decode code 922 = .ok (.iconst 2, 1) := by decide +kernel
theorem dL_923 : decode code 923 = .ok (.iadd, 1) := by decide +kernel
theorem dL_924 : decode code 924 = .ok (.iaload, 1) := by decide +kernel
theorem dL_925 : decode code 925 = .ok (.aload_n 0, 1) := by decide +kernel
theorem dL_926 : decode code 926 = .ok (.iload_n 3, 1) := by decide +kernel
theorem dL_927 : decode code 927 = .ok (.iconst 3, 1) := by decide +kernel
theorem dL_928 : decode code 928 = .ok (.iadd, 1) := by decide +kernel
theorem dL_929 : decode code 929 = .ok (.iaload, 1) := by decide +kernel
theorem dL_930 : decode code 930 = .ok (.invokevirtual 103, 3) := by decide +kernel
theorem dL_933 : decode code 933 = .ok (.if_icmp .eq 349, 3) := by decide +kernel
set_option maxRecDepth 20000 in
theorem w_808 : (Cond.methodLink RL 100 yX11_cups) ∈ TB := inTB (List.mem_of_getElem? (i := 808) (by decide +kernel)) (by decide +kernel)
set_option maxRecDepth 20000 in
theorem w_811 : (Cond.code yX11_cups cX11_cups 10 (some .int)) ∈ TB := inTB (List.mem_of_getElem? (i := 811) (by decide +kernel)) (by decide +kernel)
set_option maxRecDepth 20000 in
theorem w_809 : (Cond.instanceMethod yX11_cups) ∈ TB := inTB (List.mem_of_getElem? (i := 809) (by decide +kernel)) (by decide +kernel)
set_option maxRecDepth 20000 in
theorem w_810 : (Cond.selects RX11 yX11_cups yX11_cups) ∈ TB := inTB (List.mem_of_getElem? (i := 810) (by decide +kernel)) (by decide +kernel)
theorem cf_X11_cups : CF yX11_cups cX11_cups 10 (some .int) 3 := ⟨w_809, w_810, w_71, w_811, by decide +kernel, by decide +kernel, by decide +kernel⟩
set_option maxRecDepth 20000 in
theorem w_1255 : (Cond.methodLink RL 103 yX12_cups) ∈ TB := inTB (List.mem_of_getElem? (i := 1255) (by decide +kernel)) (by decide +kernel)
set_option maxRecDepth 20000 in
theorem w_1258 : (Cond.code yX12_cups cX12_cups 10 (some .int)) ∈ TB := inTB (List.mem_of_getElem? (i := 1258) (by decide +kernel)) (by decide +kernel)
set_option maxRecDepth 20000 in
theorem w_1256 : (Cond.instanceMethod yX12_cups) ∈ TB := inTB (List.mem_of_getElem? (i := 1256) (by decide +kernel)) (by decide +kernel)
set_option maxRecDepth 20000 in
theorem w_1257 : (Cond.selects RX12 yX12_cups yX12_cups) ∈ TB := inTB (List.mem_of_getElem? (i := 1257) (by decide +kernel)) (by decide +kernel)
theorem cf_X12_cups : CF yX12_cups cX12_cups 10 (some .int) 3 := ⟨w_1256, w_1257, w_75, w_1258, by decide +kernel, by decide +kernel, by decide +kernel⟩
set_option maxHeartbeats 1000000 in
set_option maxRecDepth 100000 in
theorem lc_cups {p : Program} {l : Launch} {e : Env} {s : State} {m : MethodId} {below : List Frame} {meth : Method} {c : Code} {Q : State → Prop} {b L : Nat} {xs : Nat → Int32} {g : GG} {f : Nat → Nat} {aK aV : Nat → Nat} (C0 : BC p s m #[Value.ref b] meth c code RL 4 ret) (E : LE g aK aV s) (hX : va_X b L xs s s.heap) (hbl : b < s.heap.size) {i : Int32} (hi : vp_in (i + 1) L ∧ vp_in (i + 2) L ∧ vp_in (i + 3) L ∧ vp_in (i + 4) L ∧ vp_in (i + 5) L) {x : X3} {σ : St} {H : Heap} {locs : List Loc} {cells slots : Nat} (hc : cells + 2 ≤ 600000) (hs : slots + 103 ≤ 7302250) {ls : Array Slot} (hl : lv_has ls 4 [(0, .ref b), (1, .ref (g.2.2 100)), (2, .ref (f 100)), (3, .int i)]) (h : LH g f s x σ H locs) (hR : RLL x.1 x.2.1 x.2.2 σ)
    (kk : ∀ (x' : X3) (σ' : St) (H' : Heap) (locs' : List Loc), LH g f s x' σ' H' locs' → RLL x'.1 x'.2.1 x'.2.2 σ' → W p l e room_1 s m #[Value.ref b] below meth c H' locs' (cells + 2) (slots + 103) Q (F0 m 1282 ls [])) : W p l e room_1 s m #[Value.ref b] below meth c H locs cells slots Q (F0 m 895 ls []) := by
  obtain ⟨hx, hb, -, -, -, -, -⟩ := id C0
  obtain ⟨ρ, dt, τ⟩ := x
  have hR : RLL ρ dt τ σ := hR
  refine lv_aload_n hx hb dL_895 rfl (lv_at hl 1 rfl) ?_
  refine law_arg (v := 1) hx hb hX hbl h (lv_at hl 0 rfl) (lv_at hl 3 rfl) hi.1 dL_896 dL_897 dL_898 (by decide) dL_899 dL_900 ?_
  refine law_arg (v := 2) hx hb hX hbl h (lv_at hl 0 rfl) (lv_at hl 3 rfl) hi.2.1 dL_901 dL_902 dL_903 (by decide) dL_904 dL_905 ?_
  refine law_arg (v := 3) hx hb hX hbl h (lv_at hl 0 rfl) (lv_at hl 3 rfl) hi.2.2.1 dL_906 dL_907 dL_908 (by decide) dL_909 dL_910 ?_
  refine h.cmi (run_V (rm := { frames := 2, cells := 0, slots := 0, locals := 47 }) (As := [.int (xs (ix (i + 1))), .int (xs (ix (i + 2))), .int (xs (ix (i + 3)))]) (rest := []) C0 cf_X11_cups w_808 ⟨Nat.le_of_ble_eq_true rfl, Nat.le_of_ble_eq_true rfl⟩ (k_X11_cups l g ρ dt τ (xs (ix (i + 1))) (xs (ix (i + 2))) (xs (ix (i + 3)))) (h.px E) rfl hl.1 rfl (Nat.le_of_ble_eq_true rfl) dL_911 ⟨by show cells + 0 ≤ 600000; omega, by show slots + 0 ≤ 7302250; omega⟩) (fun H locs h => ?_)
  refine lv_aload_n hx hb dL_914 rfl (lv_at hl 2 rfl) ?_
  refine law_arg (v := 1) hx hb hX hbl h (lv_at hl 0 rfl) (lv_at hl 3 rfl) hi.1 dL_915 dL_916 dL_917 (by decide) dL_918 dL_919 ?_
  refine law_arg (v := 2) hx hb hX hbl h (lv_at hl 0 rfl) (lv_at hl 3 rfl) hi.2.1 dL_920 dL_921 dL_922 (by decide) dL_923 dL_924 ?_
  refine law_arg (v := 3) hx hb hX hbl h (lv_at hl 0 rfl) (lv_at hl 3 rfl) hi.2.2.1 dL_925 dL_926 dL_927 (by decide) dL_928 dL_929 ?_
  refine h.cmm (run_V (rm := { frames := 1, cells := 0, slots := 0, locals := 22 }) (As := [.int (xs (ix (i + 1))), .int (xs (ix (i + 2))), .int (xs (ix (i + 3)))]) (rest := [.int ((f_X11_cups τ (xs (ix (i + 1))) (xs (ix (i + 2))) (xs (ix (i + 3)))).1)]) C0 cf_X12_cups w_1255 ⟨Nat.le_of_ble_eq_true rfl, Nat.le_of_ble_eq_true rfl⟩ (k_X12_cups l (gA g f) σ (xs (ix (i + 1))) (xs (ix (i + 2))) (xs (ix (i + 3)))) (h.pm E) rfl hl.1 rfl (Nat.le_of_ble_eq_true rfl) dL_930 ⟨by show cells + 0 ≤ 600000; omega, by show slots + 0 ≤ 7302250; omega⟩) (fun H locs h => ?_)
  have er := hR.q1 (c_cups hR.rn hR.ib (xs (ix (i + 1))) (xs (ix (i + 2))) (xs (ix (i + 3))))
  refine lv_icmp_eq (tgt := 1282) hx hb dL_933 (by decide) (fun _ => ?_) (fun n => absurd er.1 n)
  refine W.widen (k := cells + 2) (n := slots + 103) (by omega) (by omega) ?_
  exact kk _ _ H locs h er.2
theorem dL_938 : decode code 938 = .ok (.aload_n 1, 1) := by decide +kernel
theorem dL_939 : decode code 939 = .ok (.aload_n 0, 1) := by decide +kernel
theorem dL_940 : decode code 940 = .ok (.iload_n 3, 1) := by decide +kernel
theorem dL_941 : decode code 941 = .ok (.iconst 1, 1) := by decide +kernel
theorem dL_942 : decode code 942 = .ok (.iadd, 1) := by decide +kernel
theorem dL_943 : decode code 943 = .ok (.iaload, 1) := by decide +kernel
theorem dL_944 : decode code 944 = .ok (.invokevirtual 104, 3) := by decide +kernel
theorem dL_947 : decode code 947 = .ok (.aload_n 2, 1) := by decide +kernel
theorem dL_948 : decode code 948 = .ok (.aload_n 0, 1) := by decide +kernel
theorem dL_949 : decode code 949 = .ok (.iload_n 3, 1) := by decide +kernel
theorem dL_950 : decode code 950 = .ok (.iconst 1, 1) := by decide +kernel
theorem dL_951 : decode code 951 = .ok (.iadd, 1) := by decide +kernel
theorem dL_952 : decode code 952 = .ok (.iaload, 1) := by decide +kernel
theorem dL_953 : decode code 953 = .ok (.invokevirtual 107, 3) := by decide +kernel
theorem dL_956 : decode code 956 = .ok (.if_icmp .eq 326, 3) := by decide +kernel
set_option maxRecDepth 20000 in
theorem w_818 : (Cond.methodLink RL 104 yX11_mark) ∈ TB := inTB (List.mem_of_getElem? (i := 818) (by decide +kernel)) (by decide +kernel)
set_option maxRecDepth 20000 in
theorem w_821 : (Cond.code yX11_mark cX11_mark 3 (some .int)) ∈ TB := inTB (List.mem_of_getElem? (i := 821) (by decide +kernel)) (by decide +kernel)
set_option maxRecDepth 20000 in
theorem w_819 : (Cond.instanceMethod yX11_mark) ∈ TB := inTB (List.mem_of_getElem? (i := 819) (by decide +kernel)) (by decide +kernel)
set_option maxRecDepth 20000 in
theorem w_820 : (Cond.selects RX11 yX11_mark yX11_mark) ∈ TB := inTB (List.mem_of_getElem? (i := 820) (by decide +kernel)) (by decide +kernel)
theorem cf_X11_mark : CF yX11_mark cX11_mark 3 (some .int) 1 := ⟨w_819, w_820, w_71, w_821, by decide +kernel, by decide +kernel, by decide +kernel⟩
set_option maxRecDepth 20000 in
theorem w_1263 : (Cond.methodLink RL 107 yX12_mark) ∈ TB := inTB (List.mem_of_getElem? (i := 1263) (by decide +kernel)) (by decide +kernel)
set_option maxRecDepth 20000 in
theorem w_1266 : (Cond.code yX12_mark cX12_mark 2 (some .int)) ∈ TB := inTB (List.mem_of_getElem? (i := 1266) (by decide +kernel)) (by decide +kernel)
set_option maxRecDepth 20000 in
theorem w_1264 : (Cond.instanceMethod yX12_mark) ∈ TB := inTB (List.mem_of_getElem? (i := 1264) (by decide +kernel)) (by decide +kernel)
set_option maxRecDepth 20000 in
theorem w_1265 : (Cond.selects RX12 yX12_mark yX12_mark) ∈ TB := inTB (List.mem_of_getElem? (i := 1265) (by decide +kernel)) (by decide +kernel)
theorem cf_X12_mark : CF yX12_mark cX12_mark 2 (some .int) 1 := ⟨w_1264, w_1265, w_75, w_1266, by decide +kernel, by decide +kernel, by decide +kernel⟩
set_option maxHeartbeats 1000000 in
set_option maxRecDepth 100000 in
theorem lc_mark {p : Program} {l : Launch} {e : Env} {s : State} {m : MethodId} {below : List Frame} {meth : Method} {c : Code} {Q : State → Prop} {b L : Nat} {xs : Nat → Int32} {g : GG} {f : Nat → Nat} {aK aV : Nat → Nat} (C0 : BC p s m #[Value.ref b] meth c code RL 4 ret) (E : LE g aK aV s) (hX : va_X b L xs s s.heap) (hbl : b < s.heap.size) {i : Int32} (hi : vp_in (i + 1) L ∧ vp_in (i + 2) L ∧ vp_in (i + 3) L ∧ vp_in (i + 4) L ∧ vp_in (i + 5) L) {x : X3} {σ : St} {H : Heap} {locs : List Loc} {cells slots : Nat} (hc : cells + 2 ≤ 600000) (hs : slots + 103 ≤ 7302250) {ls : Array Slot} (hl : lv_has ls 4 [(0, .ref b), (1, .ref (g.2.2 100)), (2, .ref (f 100)), (3, .int i)]) (h : LH g f s x σ H locs) (hR : RLL x.1 x.2.1 x.2.2 σ)
    (kk : ∀ (x' : X3) (σ' : St) (H' : Heap) (locs' : List Loc), LH g f s x' σ' H' locs' → RLL x'.1 x'.2.1 x'.2.2 σ' → W p l e room_1 s m #[Value.ref b] below meth c H' locs' (cells + 2) (slots + 103) Q (F0 m 1282 ls [])) : W p l e room_1 s m #[Value.ref b] below meth c H locs cells slots Q (F0 m 938 ls []) := by
  obtain ⟨hx, hb, -, -, -, -, -⟩ := id C0
  obtain ⟨ρ, dt, τ⟩ := x
  have hR : RLL ρ dt τ σ := hR
  refine lv_aload_n hx hb dL_938 rfl (lv_at hl 1 rfl) ?_
  refine law_arg (v := 1) hx hb hX hbl h (lv_at hl 0 rfl) (lv_at hl 3 rfl) hi.1 dL_939 dL_940 dL_941 (by decide) dL_942 dL_943 ?_
  refine h.cmi (run_V (rm := { frames := 0, cells := 0, slots := 0, locals := 0 }) (As := [.int (xs (ix (i + 1)))]) (rest := []) C0 cf_X11_mark w_818 ⟨Nat.le_of_ble_eq_true rfl, Nat.le_of_ble_eq_true rfl⟩ (k_X11_mark l g ρ dt τ (xs (ix (i + 1))) hR.ix) (h.px E) rfl hl.1 rfl (Nat.le_of_ble_eq_true rfl) dL_944 ⟨by show cells + 0 ≤ 600000; omega, by show slots + 0 ≤ 7302250; omega⟩) (fun H locs h => ?_)
  refine lv_aload_n hx hb dL_947 rfl (lv_at hl 2 rfl) ?_
  refine law_arg (v := 1) hx hb hX hbl h (lv_at hl 0 rfl) (lv_at hl 3 rfl) hi.1 dL_948 dL_949 dL_950 (by decide) dL_951 dL_952 ?_
  refine h.cmm (run_V (rm := { frames := 1, cells := 0, slots := 0, locals := 22 }) (As := [.int (xs (ix (i + 1)))]) (rest := [.int ((f_X11_mark τ (xs (ix (i + 1)))).1)]) C0 cf_X12_mark w_1263 ⟨Nat.le_of_ble_eq_true rfl, Nat.le_of_ble_eq_true rfl⟩ (k_X12_mark l (gA g f) σ (xs (ix (i + 1))) hR.ib) (h.pm E) rfl hl.1 rfl (Nat.le_of_ble_eq_true rfl) dL_953 ⟨by show cells + 0 ≤ 600000; omega, by show slots + 0 ≤ 7302250; omega⟩) (fun H locs h => ?_)
  have er := hR.q1 (c_mark hR.rn hR.ib (xs (ix (i + 1))))
  refine lv_icmp_eq (tgt := 1282) hx hb dL_956 (by decide) (fun _ => ?_) (fun n => absurd er.1 n)
  refine W.widen (k := cells + 2) (n := slots + 103) (by omega) (by omega) ?_
  exact kk _ _ H locs h er.2
theorem dL_961 : decode code 961 = .ok (.aload_n 1, 1) := by decide +kernel
theorem dL_962 : decode code 962 = .ok (.aload_n 0, 1) := by decide +kernel
theorem dL_963 : decode code 963 = .ok (.iload_n 3, 1) := by decide +kernel
theorem dL_964 : decode code 964 = .ok (.iconst 1, 1) := by decide +kernel
theorem dL_965 : decode code 965 = .ok (.iadd, 1) := by decide +kernel
theorem dL_966 : decode code 966 = .ok (.iaload, 1) := by decide +kernel
theorem dL_967 : decode code 967 = .ok (.invokevirtual 108, 3) := by decide +kernel
theorem dL_970 : decode code 970 = .ok (.aload_n 2, 1) := by decide +kernel
theorem dL_971 : decode code 971 = .ok (.aload_n 0, 1) := by decide +kernel
theorem dL_972 : decode code 972 = .ok (.iload_n 3, 1) := by decide +kernel
theorem dL_973 : decode code 973 = .ok (.iconst 1, 1) := by decide +kernel
theorem dL_974 : decode code 974 = .ok (.iadd, 1) := by decide +kernel
theorem dL_975 : decode code 975 = .ok (.iaload, 1) := by decide +kernel
theorem dL_976 : decode code 976 = .ok (.invokevirtual 111, 3) := by decide +kernel
theorem dL_979 : decode code 979 = .ok (.if_icmp .eq 303, 3) := by decide +kernel
set_option maxRecDepth 20000 in
theorem w_822 : (Cond.methodLink RL 108 yX11_whose) ∈ TB := inTB (List.mem_of_getElem? (i := 822) (by decide +kernel)) (by decide +kernel)
set_option maxRecDepth 20000 in
theorem w_825 : (Cond.code yX11_whose cX11_whose 2 (some .int)) ∈ TB := inTB (List.mem_of_getElem? (i := 825) (by decide +kernel)) (by decide +kernel)
set_option maxRecDepth 20000 in
theorem w_823 : (Cond.instanceMethod yX11_whose) ∈ TB := inTB (List.mem_of_getElem? (i := 823) (by decide +kernel)) (by decide +kernel)
set_option maxRecDepth 20000 in
theorem w_824 : (Cond.selects RX11 yX11_whose yX11_whose) ∈ TB := inTB (List.mem_of_getElem? (i := 824) (by decide +kernel)) (by decide +kernel)
theorem cf_X11_whose : CF yX11_whose cX11_whose 2 (some .int) 1 := ⟨w_823, w_824, w_71, w_825, by decide +kernel, by decide +kernel, by decide +kernel⟩
set_option maxRecDepth 20000 in
theorem w_1267 : (Cond.methodLink RL 111 yX12_whose) ∈ TB := inTB (List.mem_of_getElem? (i := 1267) (by decide +kernel)) (by decide +kernel)
set_option maxRecDepth 20000 in
theorem w_1270 : (Cond.code yX12_whose cX12_whose 2 (some .int)) ∈ TB := inTB (List.mem_of_getElem? (i := 1270) (by decide +kernel)) (by decide +kernel)
set_option maxRecDepth 20000 in
theorem w_1268 : (Cond.instanceMethod yX12_whose) ∈ TB := inTB (List.mem_of_getElem? (i := 1268) (by decide +kernel)) (by decide +kernel)
set_option maxRecDepth 20000 in
theorem w_1269 : (Cond.selects RX12 yX12_whose yX12_whose) ∈ TB := inTB (List.mem_of_getElem? (i := 1269) (by decide +kernel)) (by decide +kernel)
theorem cf_X12_whose : CF yX12_whose cX12_whose 2 (some .int) 1 := ⟨w_1268, w_1269, w_75, w_1270, by decide +kernel, by decide +kernel, by decide +kernel⟩
set_option maxHeartbeats 1000000 in
set_option maxRecDepth 100000 in
theorem lc_whose {p : Program} {l : Launch} {e : Env} {s : State} {m : MethodId} {below : List Frame} {meth : Method} {c : Code} {Q : State → Prop} {b L : Nat} {xs : Nat → Int32} {g : GG} {f : Nat → Nat} {aK aV : Nat → Nat} (C0 : BC p s m #[Value.ref b] meth c code RL 4 ret) (E : LE g aK aV s) (hX : va_X b L xs s s.heap) (hbl : b < s.heap.size) {i : Int32} (hi : vp_in (i + 1) L ∧ vp_in (i + 2) L ∧ vp_in (i + 3) L ∧ vp_in (i + 4) L ∧ vp_in (i + 5) L) {x : X3} {σ : St} {H : Heap} {locs : List Loc} {cells slots : Nat} (hc : cells + 2 ≤ 600000) (hs : slots + 103 ≤ 7302250) {ls : Array Slot} (hl : lv_has ls 4 [(0, .ref b), (1, .ref (g.2.2 100)), (2, .ref (f 100)), (3, .int i)]) (h : LH g f s x σ H locs) (hR : RLL x.1 x.2.1 x.2.2 σ)
    (kk : ∀ (x' : X3) (σ' : St) (H' : Heap) (locs' : List Loc), LH g f s x' σ' H' locs' → RLL x'.1 x'.2.1 x'.2.2 σ' → W p l e room_1 s m #[Value.ref b] below meth c H' locs' (cells + 2) (slots + 103) Q (F0 m 1282 ls [])) : W p l e room_1 s m #[Value.ref b] below meth c H locs cells slots Q (F0 m 961 ls []) := by
  obtain ⟨hx, hb, -, -, -, -, -⟩ := id C0
  obtain ⟨ρ, dt, τ⟩ := x
  have hR : RLL ρ dt τ σ := hR
  refine lv_aload_n hx hb dL_961 rfl (lv_at hl 1 rfl) ?_
  refine law_arg (v := 1) hx hb hX hbl h (lv_at hl 0 rfl) (lv_at hl 3 rfl) hi.1 dL_962 dL_963 dL_964 (by decide) dL_965 dL_966 ?_
  refine aft_i (run_V (rm := { frames := 6, cells := 0, slots := 0, locals := 152 }) (As := [.int (xs (ix (i + 1)))]) (rest := []) C0 cf_X11_whose w_822 ⟨Nat.le_of_ble_eq_true rfl, Nat.le_of_ble_eq_true rfl⟩ (k_X11_whose l g ρ dt τ (xs (ix (i + 1))) hR.ix hR.nn) (h.px E) rfl hl.1 rfl (Nat.le_of_ble_eq_true rfl) dL_967 ⟨by show cells + 0 ≤ 600000; omega, by show slots + 0 ≤ 7302250; omega⟩) ?_
  refine lv_aload_n hx hb dL_970 rfl (lv_at hl 2 rfl) ?_
  refine law_arg (v := 1) hx hb hX hbl h (lv_at hl 0 rfl) (lv_at hl 3 rfl) hi.1 dL_971 dL_972 dL_973 (by decide) dL_974 dL_975 ?_
  refine h.cmm (run_V (rm := { frames := 4, cells := 0, slots := 0, locals := 105 }) (As := [.int (xs (ix (i + 1)))]) (rest := [.int (f_X11_whose ρ dt τ (xs (ix (i + 1))))]) C0 cf_X12_whose w_1267 ⟨Nat.le_of_ble_eq_true rfl, Nat.le_of_ble_eq_true rfl⟩ (k_X12_whose l (gA g f) σ (xs (ix (i + 1))) hR.ib hR.hv) (h.pm E) rfl hl.1 rfl (Nat.le_of_ble_eq_true rfl) dL_976 ⟨by show cells + 0 ≤ 600000; omega, by show slots + 0 ≤ 7302250; omega⟩) (fun H locs h => ?_)
  have er := hR.q1 (c_whose hR.rn hR.rk hR.ib (xs (ix (i + 1))))
  refine lv_icmp_eq (tgt := 1282) hx hb dL_979 (by decide) (fun _ => ?_) (fun n => absurd er.1 n)
  refine W.widen (k := cells + 2) (n := slots + 103) (by omega) (by omega) ?_
  exact kk _ _ H locs h er.2
theorem dL_984 : decode code 984 = .ok (.aload_n 1, 1) := by decide +kernel
theorem dL_985 : decode code 985 = .ok (.aload_n 0, 1) := by decide +kernel
theorem dL_986 : decode code 986 = .ok (.iload_n 3, 1) := by decide +kernel
theorem dL_987 : decode code 987 = .ok (.iconst 1, 1) := by decide +kernel
theorem dL_988 : decode code 988 = .ok (.iadd, 1) := by decide +kernel
theorem dL_989 : decode code 989 = .ok (.iaload, 1) := by decide +kernel
theorem dL_990 : decode code 990 = .ok (.invokevirtual 112, 3) := by decide +kernel
theorem dL_993 : decode code 993 = .ok (.aload_n 2, 1) := by decide +kernel
theorem dL_994 : decode code 994 = .ok (.aload_n 0, 1) := by decide +kernel
theorem dL_995 : decode code 995 = .ok (.iload_n 3, 1) := by decide +kernel
theorem dL_996 : decode code 996 = .ok (.iconst 1, 1) := by decide +kernel
theorem dL_997 : decode code 997 = .ok (.iadd, 1) := by decide +kernel
theorem dL_998 : decode code 998 = .ok (.iaload, 1) := by decide +kernel
theorem dL_999 : decode code 999 = .ok (.invokevirtual 115, 3) := by decide +kernel
theorem dL_1002 : decode code 1002 = .ok (.if_icmp .eq 280, 3) := by decide +kernel
set_option maxRecDepth 20000 in
theorem w_834 : (Cond.methodLink RL 112 yX11_wrong) ∈ TB := inTB (List.mem_of_getElem? (i := 834) (by decide +kernel)) (by decide +kernel)
set_option maxRecDepth 20000 in
theorem w_837 : (Cond.code yX11_wrong cX11_wrong 3 (some .int)) ∈ TB := inTB (List.mem_of_getElem? (i := 837) (by decide +kernel)) (by decide +kernel)
set_option maxRecDepth 20000 in
theorem w_835 : (Cond.instanceMethod yX11_wrong) ∈ TB := inTB (List.mem_of_getElem? (i := 835) (by decide +kernel)) (by decide +kernel)
set_option maxRecDepth 20000 in
theorem w_836 : (Cond.selects RX11 yX11_wrong yX11_wrong) ∈ TB := inTB (List.mem_of_getElem? (i := 836) (by decide +kernel)) (by decide +kernel)
theorem cf_X11_wrong : CF yX11_wrong cX11_wrong 3 (some .int) 1 := ⟨w_835, w_836, w_71, w_837, by decide +kernel, by decide +kernel, by decide +kernel⟩
set_option maxRecDepth 20000 in
theorem w_1275 : (Cond.methodLink RL 115 yX12_wrong) ∈ TB := inTB (List.mem_of_getElem? (i := 1275) (by decide +kernel)) (by decide +kernel)
set_option maxRecDepth 20000 in
theorem w_1278 : (Cond.code yX12_wrong cX12_wrong 3 (some .int)) ∈ TB := inTB (List.mem_of_getElem? (i := 1278) (by decide +kernel)) (by decide +kernel)
set_option maxRecDepth 20000 in
theorem w_1276 : (Cond.instanceMethod yX12_wrong) ∈ TB := inTB (List.mem_of_getElem? (i := 1276) (by decide +kernel)) (by decide +kernel)
set_option maxRecDepth 20000 in
theorem w_1277 : (Cond.selects RX12 yX12_wrong yX12_wrong) ∈ TB := inTB (List.mem_of_getElem? (i := 1277) (by decide +kernel)) (by decide +kernel)
theorem cf_X12_wrong : CF yX12_wrong cX12_wrong 3 (some .int) 1 := ⟨w_1276, w_1277, w_75, w_1278, by decide +kernel, by decide +kernel, by decide +kernel⟩
set_option maxHeartbeats 1000000 in
set_option maxRecDepth 100000 in
theorem lc_wrong {p : Program} {l : Launch} {e : Env} {s : State} {m : MethodId} {below : List Frame} {meth : Method} {c : Code} {Q : State → Prop} {b L : Nat} {xs : Nat → Int32} {g : GG} {f : Nat → Nat} {aK aV : Nat → Nat} (C0 : BC p s m #[Value.ref b] meth c code RL 4 ret) (E : LE g aK aV s) (hX : va_X b L xs s s.heap) (hbl : b < s.heap.size) {i : Int32} (hi : vp_in (i + 1) L ∧ vp_in (i + 2) L ∧ vp_in (i + 3) L ∧ vp_in (i + 4) L ∧ vp_in (i + 5) L) {x : X3} {σ : St} {H : Heap} {locs : List Loc} {cells slots : Nat} (hc : cells + 2 ≤ 600000) (hs : slots + 103 ≤ 7302250) {ls : Array Slot} (hl : lv_has ls 4 [(0, .ref b), (1, .ref (g.2.2 100)), (2, .ref (f 100)), (3, .int i)]) (h : LH g f s x σ H locs) (hR : RLL x.1 x.2.1 x.2.2 σ)
    (kk : ∀ (x' : X3) (σ' : St) (H' : Heap) (locs' : List Loc), LH g f s x' σ' H' locs' → RLL x'.1 x'.2.1 x'.2.2 σ' → W p l e room_1 s m #[Value.ref b] below meth c H' locs' (cells + 2) (slots + 103) Q (F0 m 1282 ls [])) : W p l e room_1 s m #[Value.ref b] below meth c H locs cells slots Q (F0 m 984 ls []) := by
  obtain ⟨hx, hb, -, -, -, -, -⟩ := id C0
  obtain ⟨ρ, dt, τ⟩ := x
  have hR : RLL ρ dt τ σ := hR
  refine lv_aload_n hx hb dL_984 rfl (lv_at hl 1 rfl) ?_
  refine law_arg (v := 1) hx hb hX hbl h (lv_at hl 0 rfl) (lv_at hl 3 rfl) hi.1 dL_985 dL_986 dL_987 (by decide) dL_988 dL_989 ?_
  refine aft_i (run_V (rm := { frames := 6, cells := 0, slots := 0, locals := 152 }) (As := [.int (xs (ix (i + 1)))]) (rest := []) C0 cf_X11_wrong w_834 ⟨Nat.le_of_ble_eq_true rfl, Nat.le_of_ble_eq_true rfl⟩ (k_X11_wrong l g ρ dt τ (xs (ix (i + 1))) hR.ix hR.nn) (h.px E) rfl hl.1 rfl (Nat.le_of_ble_eq_true rfl) dL_990 ⟨by show cells + 0 ≤ 600000; omega, by show slots + 0 ≤ 7302250; omega⟩) ?_
  refine lv_aload_n hx hb dL_993 rfl (lv_at hl 2 rfl) ?_
  refine law_arg (v := 1) hx hb hX hbl h (lv_at hl 0 rfl) (lv_at hl 3 rfl) hi.1 dL_994 dL_995 dL_996 (by decide) dL_997 dL_998 ?_
  refine h.cmm (run_V (rm := { frames := 4, cells := 0, slots := 0, locals := 105 }) (As := [.int (xs (ix (i + 1)))]) (rest := [.int (f_X11_wrong ρ dt τ (xs (ix (i + 1))))]) C0 cf_X12_wrong w_1275 ⟨Nat.le_of_ble_eq_true rfl, Nat.le_of_ble_eq_true rfl⟩ (k_X12_wrong l (gA g f) σ (xs (ix (i + 1))) hR.ib hR.hv) (h.pm E) rfl hl.1 rfl (Nat.le_of_ble_eq_true rfl) dL_999 ⟨by show cells + 0 ≤ 600000; omega, by show slots + 0 ≤ 7302250; omega⟩) (fun H locs h => ?_)
  have er := hR.q1 (c_wrong hR.rn hR.rk hR.ib (xs (ix (i + 1))))
  refine lv_icmp_eq (tgt := 1282) hx hb dL_1002 (by decide) (fun _ => ?_) (fun n => absurd er.1 n)
  refine W.widen (k := cells + 2) (n := slots + 103) (by omega) (by omega) ?_
  exact kk _ _ H locs h er.2
