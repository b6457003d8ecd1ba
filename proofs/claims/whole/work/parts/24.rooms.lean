
abbrev RB (g : GG) (r rb rn a : Nat) (dr d : Nat → Int32) : State → Prop := fun U => KK g U ∧ va_at g.1 vwCl (r, .inr (2, [.int (dr 0), .int (dr 1), .ref rb])) U.heap ∧ va_at g.1 vwCl (rb, .inl (g.2.1 0, rn, .inl (fun j => dr (3 + j)))) U.heap ∧ rn ≤ 100 ∧ dr 2 = nI rn ∧ SKH g U.heap a d
theorem RB.sv {g : GG} {r rb rn a : Nat} {dr d : Nat → Int32} : SV (RB g r rb rn a dr d) := fun U U' hh hv h => ⟨h.1.same hv, by rw [← hh]; exact h.2.1, by rw [← hh]; exact h.2.2.1, h.2.2.2.1, h.2.2.2.2.1, by rw [← hh]; exact h.2.2.2.2.2⟩
theorem one_P {g : GG} {H : Heap} {q : Nat × va_E} (h : va_at g.1 vwCl q H) : va_P g.1 vwCl [q] H := fun j z hz => by
  match j, hz with
  | 0, hz => cases hz; exact h
  | j + 1, hz => simp at hz
section RMR
variable {p : Program} {l : Launch} {e : Env} {R : Room} {s : State} {m : MethodId} {args : Array Value} {below : List Frame} {meth : Method} {c : Code} {H : Heap} {locs : List Loc} {cells slots : Nat} {Q : State → Prop}
variable {cc : ByteArray} {own : String} {nL pc idx : Nat} {ret0 : Option FieldType} {ls : Array Slot} {rest st0 : List Value} {g : GG} {r rb rn a : Nat} {dr d : Nat → Int32}
theorem rm_get {v : Value} (k : Nat) (C0 : BC p s m args meth c cc own nL ret0) (hK : KK g s) (hR1 : va_at g.1 vwCl (r, .inr (2, [.int (dr 0), .int (dr 1), .ref rb])) H) (hk : k < 3) (hv : ([.int (dr 0), .int (dr 1), .ref rb] : List Value)[k]? = some v) (hw : Cond.fieldLink own idx RX2 (TX2 k).2.1 (TX2 k).2.2.1 ∈ TB) (hdg : decode cc pc = .ok (.getfield idx, 3)) (kk : W p l e R s m args below meth c H locs cells slots Q (F0 m (pc + 3) ls (v :: rest))) : W p l e R s m args below meth c H locs cells slots Q (F0 m pc ls (.ref r :: rest)) :=
  va_get (D := g.1) (ci := 2) (C := RX2) (T := TX2) (N := 3) C0.1 C0.2.1 C0.2.2.2.2.2.1 uw_2 C0.2.2.2.2.1 hK.1 (one_P hR1) 0 rfl rfl k hk (C0.2.2.2.2.2.1 _ hw) (fun x h => by
    have e1 : ∀ j, (TX2 j).1 = RX2 := fun j => by unfold TX2; split <;> rfl
    rw [← e1 k]; exact h) hv hdg kk
theorem rm_code (C0 : BC p s m args meth c cc own nL ret0) (hK : KK g s) (hR1 : va_at g.1 vwCl (r, .inr (2, [.int (dr 0), .int (dr 1), .ref rb])) H) (hw : Cond.fieldLink own idx RX2 (TX2 2).2.1 (TX2 2).2.2.1 ∈ TB) (hdg : decode cc pc = .ok (.getfield idx, 3)) (kk : W p l e R s m args below meth c H locs cells slots Q (F0 m (pc + 3) ls (.ref rb :: rest))) : W p l e R s m args below meth c H locs cells slots Q (F0 m pc ls (.ref r :: rest)) := rm_get 2 C0 hK hR1 (by decide) rfl hw hdg kk
theorem rm_len (C0 : BC p s m args meth c cc own nL ret0) (hK : KK g s) (hR2 : va_at g.1 vwCl (rb, .inl (g.2.1 0, rn, .inl (fun j => dr (3 + j)))) H) (hRd : dr 2 = nI rn) (hdg : decode cc pc = .ok (.arraylength, 1)) (kk : W p l e R s m args below meth c H locs cells slots Q (F0 m (pc + 1) ls (.int (dr 2) :: rest))) : W p l e R s m args below meth c H locs cells slots Q (F0 m pc ls (.ref rb :: rest)) :=
  va_alen C0.1 C0.2.1 hK.1 (one_P hR2) 0 0 rfl rfl hRd.symm hdg kk
theorem rm_ald {i : Int32} (C0 : BC p s m args meth c cc own nL ret0) (hK : KK g s) (hR2 : va_at g.1 vwCl (rb, .inl (g.2.1 0, rn, .inl (fun j => dr (3 + j)))) H) (hin : vp_in i rn) (hdg : decode cc pc = .ok (.iaload, 1)) (kk : W p l e R s m args below meth c H locs cells slots Q (F0 m (pc + 1) ls (.int (dr (3 + ix i)) :: rest))) : W p l e R s m args below meth c H locs cells slots Q (F0 m pc ls (.int i :: .ref rb :: rest)) :=
  va_iald C0.1 C0.2.1 hK.1 (one_P hR2) 0 0 rfl rfl hin hdg kk
variable {y : MethodName} {cy : ByteArray} {maxL n : Nat} {ret : Option FieldType} {fr lo : Nat} {As : List Value}
theorem sk_cs {F : Int32} (C0 : BC p s m args meth c cc own nL ret0) (hK : KK g s) (hSk : SKH g H a d) (hF : CG y cy maxL ret n) (hl : Cond.methodLink own idx y ∈ TB) (hM : PI l y (wsF y cy maxL ret) { frames := fr, cells := 0, slots := 0, locals := lo } As (SB g a d) F) (hR : fr + 1 ≤ R.frames ∧ 8 + (maxL + 11) + lo ≤ R.locals) (hsz : ls.size = nL) (hst : st0 = As.reverse ++ rest) (hn : As.length = n) (hW : (rest.map fun v => v.category).sum ≤ 8) (hdg : decode cc pc = .ok (.invokestatic idx, 3)) (kk : W p l e R s m args below meth c H locs 0 0 Q (F0 m (pc + 3) ls (.int F :: rest))) : W p l e R s m args below meth c H locs 0 0 Q (F0 m pc ls st0) :=
  aft_i (run_S C0 hF hl hR hM ⟨SB.sv.blind, fun U hU hW => ⟨rfl, hK.warm hW, by rw [hU]; exact hSk⟩⟩ hn hsz hst hW hdg ⟨Nat.zero_le _, Nat.zero_le _⟩) kk
/-- a room's total, called from the state -/
theorem rm_total {F : Int32} {sort w n' : Int32} (C0 : BC p s m args meth c cc own nL ret0) (hK : KK g s) (hRM : RMH g H r dr) (hSk : SKH g H a d) (hF : CF y cy maxL ret 4) {host : String} (hl : Cond.methodLinkNest own idx y host ∈ NB) (hy : y.cls = RX2) (hM : ∀ (rb rn : Nat), PI l y (wsF y cy maxL ret) { frames := fr, cells := 0, slots := 0, locals := lo } [.ref r, .int sort, .ref a, .int w, .int n'] (RB g r rb rn a dr d) F) (hR : fr + 1 ≤ R.frames ∧ 8 + (maxL + 11) + lo ≤ R.locals) (hsz : ls.size = nL) (hW : (rest.map fun v => v.category).sum ≤ 8) (hdg : decode cc pc = .ok (.invokevirtual idx, 3)) (kk : W p l e R s m args below meth c H locs 0 0 Q (F0 m (pc + 3) ls (.int F :: rest))) : W p l e R s m args below meth c H locs 0 0 Q (F0 m pc ls (.int n' :: .int w :: .ref a :: .int sort :: .ref r :: rest)) := by
  obtain ⟨h0, rb, rn, hb, hba, hn, hd2, h1, h2⟩ := hRM
  exact aft_i (run_VN (As := [.int sort, .ref a, .int w, .int n']) (rest := rest) C0 hF hK.2 hl hR (hM rb rn) ⟨RB.sv.blind, by rw [hy]; exact va_recv hK.1 (one_P h1) (ci := 2) (q0 := 0) rfl rfl, fun U hU hW => ⟨rfl, hK.warm hW, by rw [hU]; exact h1, by rw [hU]; exact h2, hn, hd2, by rw [hU]; exact hSk⟩⟩ rfl hsz rfl hW hdg ⟨Nat.zero_le _, Nat.zero_le _⟩) kk
end RMR
set_option maxRecDepth 20000 in
theorem w_481 : (Cond.fieldLink RX2 28 RX6 "number" "I") ∈ TB := inTB (List.mem_of_getElem? (i := 481) (by decide +kernel)) (by decide +kernel)
set_option maxRecDepth 20000 in
theorem w_483 : (Cond.fieldLink RX2 33 RX6 "kind" "I") ∈ TB := inTB (List.mem_of_getElem? (i := 483) (by decide +kernel)) (by decide +kernel)
set_option maxRecDepth 20000 in
theorem w_494 : (Cond.fieldLink RX2 36 RX6 "v" "I") ∈ TB := inTB (List.mem_of_getElem? (i := 494) (by decide +kernel)) (by decide +kernel)
set_option maxRecDepth 20000 in
theorem w_505 : (Cond.fieldLink RX2 39 RX6 "length" "I") ∈ TB := inTB (List.mem_of_getElem? (i := 505) (by decide +kernel)) (by decide +kernel)
/-! ThreeMeasures$Room.holds -/
theorem dX2_holds_0 : decode cX2_holds 0 = .ok (.iload_n 0, 1) := by decide +kernel
theorem dX2_holds_1 : decode cX2_holds 1 = .ok (.sipush 300, 3) := by decide +kernel
theorem dX2_holds_4 : decode cX2_holds 4 = .ok (.idiv, 1) := by decide +kernel
theorem dX2_holds_5 : decode cX2_holds 5 = .ok (.tableswitch 83 0 4 #[35, 44, 53, 62, 74], 35) := by decide +kernel
theorem dX2_holds_40 : decode cX2_holds 40 = .ok (.aload_n 1, 1) := by decide +kernel
theorem dX2_holds_41 : decode cX2_holds 41 = .ok (.getfield 28, 3) := by decide +kernel
theorem dX2_holds_44 : decode cX2_holds 44 = .ok (.istore 4, 2) := by decide +kernel
theorem dX2_holds_46 : decode cX2_holds 46 = .ok (.goto 45, 3) := by decide +kernel
theorem dX2_holds_49 : decode cX2_holds 49 = .ok (.aload_n 1, 1) := by decide +kernel
theorem dX2_holds_50 : decode cX2_holds 50 = .ok (.getfield 33, 3) := by decide +kernel
theorem dX2_holds_53 : decode cX2_holds 53 = .ok (.istore 4, 2) := by decide +kernel
theorem dX2_holds_55 : decode cX2_holds 55 = .ok (.goto 36, 3) := by decide +kernel
theorem dX2_holds_58 : decode cX2_holds 58 = .ok (.aload_n 1, 1) := by decide +kernel
theorem dX2_holds_59 : decode cX2_holds 59 = .ok (.getfield 36, 3) := by decide +kernel
theorem dX2_holds_62 : decode cX2_holds 62 = .ok (.istore 4, 2) := by decide +kernel
theorem dX2_holds_64 : decode cX2_holds 64 = .ok (.goto 27, 3) := by decide +kernel
theorem dX2_holds_67 : decode cX2_holds 67 = .ok (.aload_n 1, 1) := by decide +kernel
theorem dX2_holds_68 : decode cX2_holds 68 = .ok (.getfield 39, 3) := by decide +kernel
theorem dX2_holds_71 : decode cX2_holds 71 = .ok (.bipush 10, 2) := by decide +kernel
theorem dX2_holds_73 : decode cX2_holds 73 = .ok (.idiv, 1) := by decide +kernel
theorem dX2_holds_74 : decode cX2_holds 74 = .ok (.istore 4, 2) := by decide +kernel
theorem dX2_holds_76 : decode cX2_holds 76 = .ok (.goto 15, 3) := by decide +kernel
theorem dX2_holds_79 : decode cX2_holds 79 = .ok (.iload_n 3, 1) := by decide +kernel
theorem dX2_holds_80 : decode cX2_holds 80 = .ok (.bipush 10, 2) := by decide +kernel
theorem dX2_holds_82 : decode cX2_holds 82 = .ok (.irem, 1) := by decide +kernel
theorem dX2_holds_83 : decode cX2_holds 83 = .ok (.istore 4, 2) := by decide +kernel
theorem dX2_holds_85 : decode cX2_holds 85 = .ok (.goto 6, 3) := by decide +kernel
theorem dX2_holds_88 : decode cX2_holds 88 = .ok (.iload_n 2, 1) := by decide +kernel
theorem dX2_holds_89 : decode cX2_holds 89 = .ok (.istore 4, 2) := by decide +kernel
theorem dX2_holds_91 : decode cX2_holds 91 = .ok (.iload_n 0, 1) := by decide +kernel
theorem dX2_holds_92 : decode cX2_holds 92 = .ok (.bipush 100, 2) := by decide +kernel
theorem dX2_holds_94 : decode cX2_holds 94 = .ok (.irem, 1) := by decide +kernel
theorem dX2_holds_95 : decode cX2_holds 95 = .ok (.istore 5, 2) := by decide +kernel
theorem dX2_holds_97 : decode cX2_holds 97 = .ok (.iload_n 0, 1) := by decide +kernel
theorem dX2_holds_98 : decode cX2_holds 98 = .ok (.bipush 100, 2) := by decide +kernel
theorem dX2_holds_100 : decode cX2_holds 100 = .ok (.idiv, 1) := by decide +kernel
theorem dX2_holds_101 : decode cX2_holds 101 = .ok (.iconst 3, 1) := by decide +kernel
theorem dX2_holds_102 : decode cX2_holds 102 = .ok (.irem, 1) := by decide +kernel
theorem dX2_holds_103 : decode cX2_holds 103 = .ok (.lookupswitch 51 #[(0, 25), (1, 38)], 25) := by decide +kernel
theorem dX2_holds_128 : decode cX2_holds 128 = .ok (.iload 4, 2) := by decide +kernel
theorem dX2_holds_130 : decode cX2_holds 130 = .ok (.iload 5, 2) := by decide +kernel
theorem dX2_holds_132 : decode cX2_holds 132 = .ok (.if_icmp .ge 7, 3) := by decide +kernel
theorem dX2_holds_135 : decode cX2_holds 135 = .ok (.iconst 1, 1) := by decide +kernel
theorem dX2_holds_136 : decode cX2_holds 136 = .ok (.goto 4, 3) := by decide +kernel
theorem dX2_holds_139 : decode cX2_holds 139 = .ok (.iconst 0, 1) := by decide +kernel
theorem dX2_holds_140 : decode cX2_holds 140 = .ok (.ireturn, 1) := by decide +kernel
theorem dX2_holds_141 : decode cX2_holds 141 = .ok (.iload 4, 2) := by decide +kernel
theorem dX2_holds_143 : decode cX2_holds 143 = .ok (.iload 5, 2) := by decide +kernel
theorem dX2_holds_145 : decode cX2_holds 145 = .ok (.if_icmp .ne 7, 3) := by decide +kernel
theorem dX2_holds_148 : decode cX2_holds 148 = .ok (.iconst 1, 1) := by decide +kernel
theorem dX2_holds_149 : decode cX2_holds 149 = .ok (.goto 4, 3) := by decide +kernel
theorem dX2_holds_152 : decode cX2_holds 152 = .ok (.iconst 0, 1) := by decide +kernel
theorem dX2_holds_153 : decode cX2_holds 153 = .ok (.ireturn, 1) := by decide +kernel
theorem dX2_holds_154 : decode cX2_holds 154 = .ok (.iload 4, 2) := by decide +kernel
theorem dX2_holds_156 : decode cX2_holds 156 = .ok (.iload 5, 2) := by decide +kernel
theorem dX2_holds_158 : decode cX2_holds 158 = .ok (.if_icmp .le 7, 3) := by decide +kernel
theorem dX2_holds_161 : decode cX2_holds 161 = .ok (.iconst 1, 1) := by decide +kernel
theorem dX2_holds_162 : decode cX2_holds 162 = .ok (.goto 4, 3) := by decide +kernel
theorem dX2_holds_165 : decode cX2_holds 165 = .ok (.iconst 0, 1) := by decide +kernel
theorem dX2_holds_166 : decode cX2_holds 166 = .ok (.ireturn, 1) := by decide +kernel
def f_X2_holds_91  (d : Nat → Int32) (a0 : Int32) (a4 : Int32) : Int32 := (if ((a0 / (100 : Int32)) - (a0 / (100 : Int32)) / (3 : Int32) * (3 : Int32)) = (0 : Int32) then (if (a0 - a0 / (100 : Int32) * (100 : Int32)) ≤ a4 then (0 : Int32) else (1 : Int32)) else (if ((a0 / (100 : Int32)) - (a0 / (100 : Int32)) / (3 : Int32) * (3 : Int32)) = (1 : Int32) then (if a4 = (a0 - a0 / (100 : Int32) * (100 : Int32)) then (1 : Int32) else (0 : Int32)) else (if a4 ≤ (a0 - a0 / (100 : Int32) * (100 : Int32)) then (0 : Int32) else (1 : Int32))))
set_option maxHeartbeats 600000 in
set_option maxRecDepth 100000 in
theorem b_X2_holds_91 {g : GG} {a : Nat} {p : Program} {l : Launch} {e : Env} {s : State} {m : MethodId} {args : Array Value} {below : List Frame} {meth : Method} {c : Code}  {tgt : Int32}  (C0 : BC p s m args meth c cX2_holds RX2 6 (some .boolean))  {d : Nat → Int32} {a0 : Int32} {a4 : Int32}    (hK : KK g s) (hSk : SKH g s.heap a d) {ls : Array Slot} (hl : lv_has ls 6 [(0, .int (a0)), (4, .int (a4))]) (hT : f_X2_holds_91  d a0 a4 = tgt) : W p l e { frames := 0, cells := 0, slots := 0, locals := 0 } s m args below meth c s.heap [] 0 0 (QPI below args s tgt) (F0 m 91 ls []) := by
  obtain ⟨hx, hb, hr, hml, hown, hts, hlocks⟩ := id C0
  unfold f_X2_holds_91 at hT
  refine lv_iload_n hx hb dX2_holds_91 rfl (lv_at hl 0 rfl) ?_
  refine lv_bipush (v := (100 : Int32)) hx hb dX2_holds_92 (by decide) ?_
  refine lv_irem hx hb dX2_holds_94 (by decide) ?_
  refine lv_istore (lv' := [(5, .int ((a0 - a0 / (100 : Int32) * (100 : Int32)))), (0, .int (a0)), (4, .int (a4))]) hx hb dX2_holds_95 hl (by decide) rfl (fun ls hl => ?_)
  refine lv_iload_n hx hb dX2_holds_97 rfl (lv_at hl 1 rfl) ?_
  refine lv_bipush (v := (100 : Int32)) hx hb dX2_holds_98 (by decide) ?_
  refine lv_idiv hx hb dX2_holds_100 (by decide) ?_
  refine lv_iconst (v := (3 : Int32)) hx hb dX2_holds_101 (by decide) ?_
  refine lv_irem hx hb dX2_holds_102 (by decide) ?_
  by_cases c_103_0 : ((a0 / (100 : Int32)) - (a0 / (100 : Int32)) / (3 : Int32) * (3 : Int32)) = (0 : Int32)
  · have hT := hT_pos c_103_0 hT
    refine lv_lookup (tgt := 128) (off := 25) hx hb dX2_holds_103 (by decide) (by rw [c_103_0]; decide) (by decide) ?_
    refine lv_iload hx hb dX2_holds_128 (lv_at hl 2 rfl) ?_
    refine lv_iload hx hb dX2_holds_130 (lv_at hl 0 rfl) ?_
    have J132 : ∀ v : Int32, v = (if (a0 - a0 / (100 : Int32) * (100 : Int32)) ≤ a4 then (0 : Int32) else (1 : Int32)) → W p l e { frames := 0, cells := 0, slots := 0, locals := 0 } s m args below meth c s.heap [] 0 0 (QPI below args s tgt) (F0 m 140 ls [.int (v)]) := by
      intro v ev
      subst ev
      exact ret_PZ C0 (nz_of (by (repeat' split) <;> simp)) hT dX2_holds_140
    refine lv_icmp_ge (tgt := 139) hx hb dX2_holds_132 (by decide) (fun c_132 => ?_) (fun c_132 => ?_)
    · refine lv_iconst (v := (0 : Int32)) hx hb dX2_holds_139 (by decide) ?_
      exact J132 _ (iv_pos c_132 rfl)
    · refine lv_iconst (v := (1 : Int32)) hx hb dX2_holds_135 (by decide) ?_
      refine lv_goto (tgt := 140) hx hb dX2_holds_136 (by decide) ?_
      exact J132 _ (iv_neg c_132 rfl)
  have hT := hT_neg c_103_0 hT
  by_cases c_103_1 : ((a0 / (100 : Int32)) - (a0 / (100 : Int32)) / (3 : Int32) * (3 : Int32)) = (1 : Int32)
  · have hT := hT_pos c_103_1 hT
    refine lv_lookup (tgt := 141) (off := 38) hx hb dX2_holds_103 (by decide) (by rw [c_103_1]; decide) (by decide) ?_
    refine lv_iload hx hb dX2_holds_141 (lv_at hl 2 rfl) ?_
    refine lv_iload hx hb dX2_holds_143 (lv_at hl 0 rfl) ?_
    have J145 : ∀ v : Int32, v = (if a4 = (a0 - a0 / (100 : Int32) * (100 : Int32)) then (1 : Int32) else (0 : Int32)) → W p l e { frames := 0, cells := 0, slots := 0, locals := 0 } s m args below meth c s.heap [] 0 0 (QPI below args s tgt) (F0 m 153 ls [.int (v)]) := by
      intro v ev
      subst ev
      exact ret_PZ C0 (nz_of (by (repeat' split) <;> simp)) hT dX2_holds_153
    refine lv_icmp_ne (tgt := 152) hx hb dX2_holds_145 (by decide) (fun c_145 => ?_) (fun c_145 => ?_)
    · refine lv_iconst (v := (0 : Int32)) hx hb dX2_holds_152 (by decide) ?_
      exact J145 _ (iv_neg c_145 rfl)
    · refine lv_iconst (v := (1 : Int32)) hx hb dX2_holds_148 (by decide) ?_
      refine lv_goto (tgt := 153) hx hb dX2_holds_149 (by decide) ?_
      exact J145 _ (iv_pos c_145 rfl)
  have hT := hT_neg c_103_1 hT
  refine lv_lookup (tgt := 154) (off := 51) hx hb dX2_holds_103 (by decide) ((lv_osw c_103_0 (by decide)).trans ((lv_osw c_103_1 (by decide)).trans rfl)) (by decide) ?_
  refine lv_iload hx hb dX2_holds_154 (lv_at hl 2 rfl) ?_
  refine lv_iload hx hb dX2_holds_156 (lv_at hl 0 rfl) ?_
  have J158 : ∀ v : Int32, v = (if a4 ≤ (a0 - a0 / (100 : Int32) * (100 : Int32)) then (0 : Int32) else (1 : Int32)) → W p l e { frames := 0, cells := 0, slots := 0, locals := 0 } s m args below meth c s.heap [] 0 0 (QPI below args s tgt) (F0 m 166 ls [.int (v)]) := by
    intro v ev
    subst ev
    exact ret_PZ C0 (nz_of (by (repeat' split) <;> simp)) hT dX2_holds_166
  refine lv_icmp_le (tgt := 165) hx hb dX2_holds_158 (by decide) (fun c_158 => ?_) (fun c_158 => ?_)
  · refine lv_iconst (v := (0 : Int32)) hx hb dX2_holds_165 (by decide) ?_
    exact J158 _ (iv_pos c_158 rfl)
  · refine lv_iconst (v := (1 : Int32)) hx hb dX2_holds_161 (by decide) ?_
    refine lv_goto (tgt := 166) hx hb dX2_holds_162 (by decide) ?_
    exact J158 _ (iv_neg c_158 rfl)
def f_X2_holds (d : Nat → Int32) (a0 : Int32) (a2 : Int32) (a3 : Int32) : Int32 := (if (a0 / (300 : Int32)) = (0 : Int32) then (f_X2_holds_91  d a0 (d 0)) else (if (a0 / (300 : Int32)) = (1 : Int32) then (f_X2_holds_91  d a0 (d 1)) else (if (a0 / (300 : Int32)) = (2 : Int32) then (f_X2_holds_91  d a0 (d 2)) else (if (a0 / (300 : Int32)) = (3 : Int32) then (f_X2_holds_91  d a0 ((d 3) / (10 : Int32))) else (if (a0 / (300 : Int32)) = (4 : Int32) then (f_X2_holds_91  d a0 (a3 - a3 / (10 : Int32) * (10 : Int32))) else (f_X2_holds_91  d a0 a2))))))
set_option maxHeartbeats 600000 in
set_option maxRecDepth 100000 in
theorem k_X2_holds (l : Launch) (g : GG) (a : Nat) (d : Nat → Int32) (a0 : Int32) (a2 : Int32) (a3 : Int32)  : PI l yX2_holds (wsF yX2_holds cX2_holds 6 (some .boolean)) { frames := 0, cells := 0, slots := 0, locals := 0 } [.int (a0), .ref (a), .int (a2), .int (a3)] (SB g a d) (f_X2_holds d a0 a2 a3) := by
  refine start_PI (by decide) (Nat.le_of_ble_eq_true rfl) ?_
  intro p e s m args below meth c C0 hG ls hl
  obtain ⟨hK, hSk⟩ := hG
  obtain ⟨hx, hb, hr, hml, hown, hts, hlocks⟩ := id C0
  have hl : lv_has ls 6 [(0, .int (a0)), (1, .ref (a)), (2, .int (a2)), (3, .int (a3))] := hl
  generalize hT : (f_X2_holds d a0 a2 a3) = tgt
  unfold f_X2_holds at hT
  refine lv_iload_n hx hb dX2_holds_0 rfl (lv_at hl 0 rfl) ?_
  refine lv_sipush (v := (300 : Int32)) hx hb dX2_holds_1 (by decide) ?_
  refine lv_idiv hx hb dX2_holds_4 (by decide) ?_
  by_cases c_5_0 : (a0 / (300 : Int32)) = (0 : Int32)
  · have hT := hT_pos c_5_0 hT
    refine lv_tableIn (tgt := 40) hx hb dX2_holds_5 (by rw [c_5_0]; decide) (by rw [c_5_0]; decide) (by rw [c_5_0]; rfl) (by decide) ?_
    refine lv_aload_n hx hb dX2_holds_40 rfl (lv_at hl 1 rfl) ?_
    refine sk_get (d := d) 0 C0 hK hSk (by decide) w_481 (fun _ h => h) dX2_holds_41 ?_
    refine lv_istore (lv' := [(4, .int ((d 0))), (0, .int (a0)), (1, .ref (a)), (2, .int (a2)), (3, .int (a3))]) hx hb dX2_holds_44 hl (by decide) rfl (fun ls hl => ?_)
    refine lv_goto (tgt := 91) hx hb dX2_holds_46 (by decide) ?_
    exact b_X2_holds_91 (g := g) (a := a) (d := d) (a0 := a0) (a4 := (d 0)) C0   hK hSk (lv_sub hl [1, 0] rfl) hT
  have hT := hT_neg c_5_0 hT
  by_cases c_5_1 : (a0 / (300 : Int32)) = (1 : Int32)
  · have hT := hT_pos c_5_1 hT
    refine lv_tableIn (tgt := 49) hx hb dX2_holds_5 (by rw [c_5_1]; decide) (by rw [c_5_1]; decide) (by rw [c_5_1]; rfl) (by decide) ?_
    refine lv_aload_n hx hb dX2_holds_49 rfl (lv_at hl 1 rfl) ?_
    refine sk_get (d := d) 1 C0 hK hSk (by decide) w_483 (fun _ h => h) dX2_holds_50 ?_
    refine lv_istore (lv' := [(4, .int ((d 1))), (0, .int (a0)), (1, .ref (a)), (2, .int (a2)), (3, .int (a3))]) hx hb dX2_holds_53 hl (by decide) rfl (fun ls hl => ?_)
    refine lv_goto (tgt := 91) hx hb dX2_holds_55 (by decide) ?_
    exact b_X2_holds_91 (g := g) (a := a) (d := d) (a0 := a0) (a4 := (d 1)) C0   hK hSk (lv_sub hl [1, 0] rfl) hT
  have hT := hT_neg c_5_1 hT
  by_cases c_5_2 : (a0 / (300 : Int32)) = (2 : Int32)
  · have hT := hT_pos c_5_2 hT
    refine lv_tableIn (tgt := 58) hx hb dX2_holds_5 (by rw [c_5_2]; decide) (by rw [c_5_2]; decide) (by rw [c_5_2]; rfl) (by decide) ?_
    refine lv_aload_n hx hb dX2_holds_58 rfl (lv_at hl 1 rfl) ?_
    refine sk_get (d := d) 2 C0 hK hSk (by decide) w_494 (fun _ h => h) dX2_holds_59 ?_
    refine lv_istore (lv' := [(4, .int ((d 2))), (0, .int (a0)), (1, .ref (a)), (2, .int (a2)), (3, .int (a3))]) hx hb dX2_holds_62 hl (by decide) rfl (fun ls hl => ?_)
    refine lv_goto (tgt := 91) hx hb dX2_holds_64 (by decide) ?_
    exact b_X2_holds_91 (g := g) (a := a) (d := d) (a0 := a0) (a4 := (d 2)) C0   hK hSk (lv_sub hl [1, 0] rfl) hT
  have hT := hT_neg c_5_2 hT
  by_cases c_5_3 : (a0 / (300 : Int32)) = (3 : Int32)
  · have hT := hT_pos c_5_3 hT
    refine lv_tableIn (tgt := 67) hx hb dX2_holds_5 (by rw [c_5_3]; decide) (by rw [c_5_3]; decide) (by rw [c_5_3]; rfl) (by decide) ?_
    refine lv_aload_n hx hb dX2_holds_67 rfl (lv_at hl 1 rfl) ?_
    refine sk_get (d := d) 3 C0 hK hSk (by decide) w_505 (fun _ h => h) dX2_holds_68 ?_
    refine lv_bipush (v := (10 : Int32)) hx hb dX2_holds_71 (by decide) ?_
    refine lv_idiv hx hb dX2_holds_73 (by decide) ?_
    refine lv_istore (lv' := [(4, .int (((d 3) / (10 : Int32)))), (0, .int (a0)), (1, .ref (a)), (2, .int (a2)), (3, .int (a3))]) hx hb dX2_holds_74 hl (by decide) rfl (fun ls hl => ?_)
    refine lv_goto (tgt := 91) hx hb dX2_holds_76 (by decide) ?_
    exact b_X2_holds_91 (g := g) (a := a) (d := d) (a0 := a0) (a4 := ((d 3) / (10 : Int32))) C0   hK hSk (lv_sub hl [1, 0] rfl) hT
  have hT := hT_neg c_5_3 hT
  by_cases c_5_4 : (a0 / (300 : Int32)) = (4 : Int32)
  · have hT := hT_pos c_5_4 hT
    refine lv_tableIn (tgt := 79) hx hb dX2_holds_5 (by rw [c_5_4]; decide) (by rw [c_5_4]; decide) (by rw [c_5_4]; rfl) (by decide) ?_
    refine lv_iload_n hx hb dX2_holds_79 rfl (lv_at hl 3 rfl) ?_
    refine lv_bipush (v := (10 : Int32)) hx hb dX2_holds_80 (by decide) ?_
    refine lv_irem hx hb dX2_holds_82 (by decide) ?_
    refine lv_istore (lv' := [(4, .int ((a3 - a3 / (10 : Int32) * (10 : Int32)))), (0, .int (a0)), (1, .ref (a)), (2, .int (a2)), (3, .int (a3))]) hx hb dX2_holds_83 hl (by decide) rfl (fun ls hl => ?_)
    refine lv_goto (tgt := 91) hx hb dX2_holds_85 (by decide) ?_
    exact b_X2_holds_91 (g := g) (a := a) (d := d) (a0 := a0) (a4 := (a3 - a3 / (10 : Int32) * (10 : Int32))) C0   hK hSk (lv_sub hl [1, 0] rfl) hT
  have hT := hT_neg c_5_4 hT
  refine lv_tableOut (tgt := 88) hx hb dX2_holds_5 (sw_out (fun k h1 h2 => by
      rcases (show k = 0 ∨ k = 1 ∨ k = 2 ∨ k = 3 ∨ k = 4 by omega) with rfl | rfl | rfl | rfl | rfl <;> first | exact c_5_0 | exact c_5_1 | exact c_5_2 | exact c_5_3 | exact c_5_4)) (by decide) ?_
  refine lv_iload_n hx hb dX2_holds_88 rfl (lv_at hl 2 rfl) ?_
  refine lv_istore (lv' := [(4, .int (a2)), (0, .int (a0)), (1, .ref (a)), (2, .int (a2)), (3, .int (a3))]) hx hb dX2_holds_89 hl (by decide) rfl (fun ls hl => ?_)
  exact b_X2_holds_91 (g := g) (a := a) (d := d) (a0 := a0) (a4 := a2) C0   hK hSk (lv_sub hl [1, 0] rfl) hT
set_option maxRecDepth 20000 in
theorem w_451 : (Cond.fieldLink RX2 18 RX2 "code" "[I") ∈ TB := inTB (List.mem_of_getElem? (i := 451) (by decide +kernel)) (by decide +kernel)
set_option maxRecDepth 20000 in
theorem w_658 : (Cond.methodLink RX2 22 yX2_holds) ∈ TB := inTB (List.mem_of_getElem? (i := 658) (by decide +kernel)) (by decide +kernel)
set_option maxRecDepth 20000 in
theorem w_660 : (Cond.code yX2_holds cX2_holds 6 (some .boolean)) ∈ TB := inTB (List.mem_of_getElem? (i := 660) (by decide +kernel)) (by decide +kernel)
set_option maxRecDepth 20000 in
theorem w_659 : (Cond.static yX2_holds) ∈ TB := inTB (List.mem_of_getElem? (i := 659) (by decide +kernel)) (by decide +kernel)
set_option maxRecDepth 20000 in
theorem w_82 : (Cond.initialized RX2) ∈ TB := inTB (List.mem_of_getElem? (i := 82) (by decide +kernel)) (by decide +kernel)
theorem cf_X2_holds : CG yX2_holds cX2_holds 6 (some .boolean) 4 := ⟨w_659, w_82, w_660, by decide +kernel, by decide +kernel, by decide +kernel⟩
set_option maxRecDepth 20000 in
theorem w_661 : (Cond.constantLong RX2 26 (-2 : Int64)) ∈ TB := inTB (List.mem_of_getElem? (i := 661) (by decide +kernel)) (by decide +kernel)
/-! ThreeMeasures$Room.total -/
theorem dX2_total_0 : decode cX2_total 0 = .ok (.iconst 0, 1) := by decide +kernel
theorem dX2_total_1 : decode cX2_total 1 = .ok (.istore 5, 2) := by decide +kernel
theorem dX2_total_3 : decode cX2_total 3 = .ok (.lconst 0, 1) := by decide +kernel
theorem dX2_total_4 : decode cX2_total 4 = .ok (.lstore 6, 2) := by decide +kernel
theorem dX2_total_6 : decode cX2_total 6 = .ok (.iconst 0, 1) := by decide +kernel
theorem dX2_total_7 : decode cX2_total 7 = .ok (.istore 8, 2) := by decide +kernel
theorem dX2_total_9 : decode cX2_total 9 = .ok (.iload 8, 2) := by decide +kernel
theorem dX2_total_11 : decode cX2_total 11 = .ok (.aload_n 0, 1) := by decide +kernel
theorem dX2_total_12 : decode cX2_total 12 = .ok (.getfield 18, 3) := by decide +kernel
theorem dX2_total_15 : decode cX2_total 15 = .ok (.arraylength, 1) := by decide +kernel
theorem dX2_total_16 : decode cX2_total 16 = .ok (.if_icmp .ge 162, 3) := by decide +kernel
theorem dX2_total_19 : decode cX2_total 19 = .ok (.aload_n 0, 1) := by decide +kernel
theorem dX2_total_20 : decode cX2_total 20 = .ok (.getfield 18, 3) := by decide +kernel
theorem dX2_total_23 : decode cX2_total 23 = .ok (.iload 8, 2) := by decide +kernel
theorem dX2_total_25 : decode cX2_total 25 = .ok (.iaload, 1) := by decide +kernel
theorem dX2_total_26 : decode cX2_total 26 = .ok (.bipush 7, 2) := by decide +kernel
theorem dX2_total_28 : decode cX2_total 28 = .ok (.iand, 1) := by decide +kernel
theorem dX2_total_29 : decode cX2_total 29 = .ok (.istore 9, 2) := by decide +kernel
theorem dX2_total_31 : decode cX2_total 31 = .ok (.aload_n 0, 1) := by decide +kernel
theorem dX2_total_32 : decode cX2_total 32 = .ok (.getfield 18, 3) := by decide +kernel
theorem dX2_total_35 : decode cX2_total 35 = .ok (.iload 8, 2) := by decide +kernel
theorem dX2_total_37 : decode cX2_total 37 = .ok (.iaload, 1) := by decide +kernel
theorem dX2_total_38 : decode cX2_total 38 = .ok (.iconst 3, 1) := by decide +kernel
theorem dX2_total_39 : decode cX2_total 39 = .ok (.ishr, 1) := by decide +kernel
theorem dX2_total_40 : decode cX2_total 40 = .ok (.istore 10, 2) := by decide +kernel
theorem dX2_total_42 : decode cX2_total 42 = .ok (.iload 9, 2) := by decide +kernel
theorem dX2_total_44 : decode cX2_total 44 = .ok (.tableswitch 99 0 3 #[32, 60, 69, 85], 32) := by decide +kernel
theorem dX2_total_76 : decode cX2_total 76 = .ok (.lload 6, 2) := by decide +kernel
theorem dX2_total_78 : decode cX2_total 78 = .ok (.iconst 1, 1) := by decide +kernel
theorem dX2_total_79 : decode cX2_total 79 = .ok (.lshl, 1) := by decide +kernel
theorem dX2_total_80 : decode cX2_total 80 = .ok (.iload 10, 2) := by decide +kernel
theorem dX2_total_82 : decode cX2_total 82 = .ok (.aload_n 2, 1) := by decide +kernel
theorem dX2_total_83 : decode cX2_total 83 = .ok (.iload_n 3, 1) := by decide +kernel
theorem dX2_total_84 : decode cX2_total 84 = .ok (.iload 4, 2) := by decide +kernel
theorem dX2_total_86 : decode cX2_total 86 = .ok (.invokestatic 22, 3) := by decide +kernel
theorem dX2_total_89 : decode cX2_total 89 = .ok (.ifCond .eq 7, 3) := by decide +kernel
theorem dX2_total_92 : decode cX2_total 92 = .ok (.iconst 1, 1) := by decide +kernel
theorem dX2_total_93 : decode cX2_total 93 = .ok (.goto 4, 3) := by decide +kernel
theorem dX2_total_96 : decode cX2_total 96 = .ok (.iconst 0, 1) := by decide +kernel
theorem dX2_total_97 : decode cX2_total 97 = .ok (.i2l, 1) := by decide +kernel
theorem dX2_total_98 : decode cX2_total 98 = .ok (.lor, 1) := by decide +kernel
theorem dX2_total_99 : decode cX2_total 99 = .ok (.lstore 6, 2) := by decide +kernel
theorem dX2_total_101 : decode cX2_total 101 = .ok (.goto 71, 3) := by decide +kernel
theorem dX2_total_104 : decode cX2_total 104 = .ok (.lload 6, 2) := by decide +kernel
theorem dX2_total_106 : decode cX2_total 106 = .ok (.lconst 1, 1) := by decide +kernel
theorem dX2_total_107 : decode cX2_total 107 = .ok (.lxor, 1) := by decide +kernel
theorem dX2_total_108 : decode cX2_total 108 = .ok (.lstore 6, 2) := by decide +kernel
theorem dX2_total_110 : decode cX2_total 110 = .ok (.goto 62, 3) := by decide +kernel
theorem dX2_total_113 : decode cX2_total 113 = .ok (.lload 6, 2) := by decide +kernel
theorem dX2_total_115 : decode cX2_total 115 = .ok (.iconst 1, 1) := by decide +kernel
theorem dX2_total_116 : decode cX2_total 116 = .ok (.lshr, 1) := by decide +kernel
theorem dX2_total_117 : decode cX2_total 117 = .ok (.lload 6, 2) := by decide +kernel
theorem dX2_total_119 : decode cX2_total 119 = .ok (.ldc2_w 26, 3) := by decide +kernel
theorem dX2_total_122 : decode cX2_total 122 = .ok (.lor, 1) := by decide +kernel
theorem dX2_total_123 : decode cX2_total 123 = .ok (.land, 1) := by decide +kernel
theorem dX2_total_124 : decode cX2_total 124 = .ok (.lstore 6, 2) := by decide +kernel
theorem dX2_total_126 : decode cX2_total 126 = .ok (.goto 46, 3) := by decide +kernel
theorem dX2_total_129 : decode cX2_total 129 = .ok (.lload 6, 2) := by decide +kernel
theorem dX2_total_131 : decode cX2_total 131 = .ok (.iconst 1, 1) := by decide +kernel
theorem dX2_total_132 : decode cX2_total 132 = .ok (.lshr, 1) := by decide +kernel
theorem dX2_total_133 : decode cX2_total 133 = .ok (.lload 6, 2) := by decide +kernel
theorem dX2_total_135 : decode cX2_total 135 = .ok (.lconst 1, 1) := by decide +kernel
theorem dX2_total_136 : decode cX2_total 136 = .ok (.land, 1) := by decide +kernel
theorem dX2_total_137 : decode cX2_total 137 = .ok (.lor, 1) := by decide +kernel
theorem dX2_total_138 : decode cX2_total 138 = .ok (.lstore 6, 2) := by decide +kernel
theorem dX2_total_140 : decode cX2_total 140 = .ok (.goto 32, 3) := by decide +kernel
theorem dX2_total_143 : decode cX2_total 143 = .ok (.iload 5, 2) := by decide +kernel
theorem dX2_total_145 : decode cX2_total 145 = .ok (.iload 9, 2) := by decide +kernel
theorem dX2_total_147 : decode cX2_total 147 = .ok (.iload_n 1, 1) := by decide +kernel
theorem dX2_total_148 : decode cX2_total 148 = .ok (.if_icmp .ne 17, 3) := by decide +kernel
theorem dX2_total_151 : decode cX2_total 151 = .ok (.lload 6, 2) := by decide +kernel
theorem dX2_total_153 : decode cX2_total 153 = .ok (.lconst 1, 1) := by decide +kernel
theorem dX2_total_154 : decode cX2_total 154 = .ok (.land, 1) := by decide +kernel
theorem dX2_total_155 : decode cX2_total 155 = .ok (.lconst 1, 1) := by decide +kernel
theorem dX2_total_156 : decode cX2_total 156 = .ok (.lcmp, 1) := by decide +kernel
theorem dX2_total_157 : decode cX2_total 157 = .ok (.ifCond .ne 8, 3) := by decide +kernel
theorem dX2_total_160 : decode cX2_total 160 = .ok (.iload 10, 2) := by decide +kernel
theorem dX2_total_162 : decode cX2_total 162 = .ok (.goto 4, 3) := by decide +kernel
theorem dX2_total_165 : decode cX2_total 165 = .ok (.iconst 0, 1) := by decide +kernel
theorem dX2_total_166 : decode cX2_total 166 = .ok (.iadd, 1) := by decide +kernel
theorem dX2_total_167 : decode cX2_total 167 = .ok (.istore 5, 2) := by decide +kernel
theorem dX2_total_169 : decode cX2_total 169 = .ok (.lconst 0, 1) := by decide +kernel
theorem dX2_total_170 : decode cX2_total 170 = .ok (.lstore 6, 2) := by decide +kernel
theorem dX2_total_172 : decode cX2_total 172 = .ok (.iinc 8 1, 3) := by decide +kernel
theorem dX2_total_175 : decode cX2_total 175 = .ok (.goto (-166), 3) := by decide +kernel
theorem dX2_total_178 : decode cX2_total 178 = .ok (.iload 5, 2) := by decide +kernel
theorem dX2_total_180 : decode cX2_total 180 = .ok (.ireturn, 1) := by decide +kernel
def f_X2_total_172 (K9 : (Nat → Int32) → (Nat → Int32) → Int32 → Int32 → Int32 → Int32 → Int64 → Int32 → Int32) (dr : Nat → Int32) (d : Nat → Int32) (a1 : Int32) (a3 : Int32) (a4 : Int32) (a5 : Int32) (a6 : Int64) (a8 : Int32) : Int32 := (K9 dr d a1 a3 a4 a5 a6 (a8 + (1 : Int32)))
set_option maxHeartbeats 600000 in
set_option maxRecDepth 100000 in
theorem b_X2_total_172 {g : GG} {r rb rn a : Nat} {p : Program} {l : Launch} {e : Env} {s : State} {m : MethodId} {args : Array Value} {below : List Frame} {meth : Method} {c : Code}  {tgt : Int32} {K9 : (Nat → Int32) → (Nat → Int32) → Int32 → Int32 → Int32 → Int32 → Int64 → Int32 → Int32} {N9 : Nat} (C0 : BC p s m args meth c cX2_total RX2 11 (some .int)) (hK9 : ∀ (dr : Nat → Int32) (d : Nat → Int32) (a1 : Int32) (a3 : Int32) (a4 : Int32) (a5 : Int32) (a6 : Int64) (a8 : Int32), (0 ≤ a8.toInt) → ((dr 2).toInt - a8.toInt).toNat < N9 → KK g s → va_at g.1 vwCl (r, .inr (2, [.int (dr 0), .int (dr 1), .ref rb])) s.heap → va_at g.1 vwCl (rb, .inl (g.2.1 0, rn, .inl (fun j => dr (3 + j)))) s.heap → rn ≤ 100 → dr 2 = nI rn → SKH g s.heap a d → ∀ {ls : Array Slot}, lv_has ls 11 [(0, .ref (r)), (1, .int (a1)), (2, .ref (a)), (3, .int (a3)), (4, .int (a4)), (5, .int (a5)), (6, .long (a6)), (8, .int (a8))] → K9 dr d a1 a3 a4 a5 a6 a8 = tgt → W p l e { frames := 1, cells := 0, slots := 0, locals := 25 } s m args below meth c s.heap [] 0 0 (QPI below args s tgt) (F0 m 9 ls [])) {dr : Nat → Int32} {d : Nat → Int32} {a1 : Int32} {a3 : Int32} {a4 : Int32} {a5 : Int32} {a6 : Int64} {a8 : Int32}  (h8 : 0 ≤ a8.toInt) (h8b : a8.toInt < (dr 2).toInt) (hm9 : ((dr 2).toInt - a8.toInt).toNat < N9 + 1)  (hK : KK g s) (hR1 : va_at g.1 vwCl (r, .inr (2, [.int (dr 0), .int (dr 1), .ref rb])) s.heap) (hR2 : va_at g.1 vwCl (rb, .inl (g.2.1 0, rn, .inl (fun j => dr (3 + j)))) s.heap) (hRn : rn ≤ 100) (hRd : dr 2 = nI rn) (hSk : SKH g s.heap a d) {ls : Array Slot} (hl : lv_has ls 11 [(0, .ref (r)), (1, .int (a1)), (2, .ref (a)), (3, .int (a3)), (4, .int (a4)), (5, .int (a5)), (6, .long (a6)), (8, .int (a8))]) (hT : f_X2_total_172 K9 dr d a1 a3 a4 a5 a6 a8 = tgt) : W p l e { frames := 1, cells := 0, slots := 0, locals := 25 } s m args below meth c s.heap [] 0 0 (QPI below args s tgt) (F0 m 172 ls []) := by
  obtain ⟨hx, hb, hr, hml, hown, hts, hlocks⟩ := id C0
  unfold f_X2_total_172 at hT
  have hrd2 : (dr 2).toInt = rn := by rw [hRd]; exact nI_toInt (by omega)
  refine lv_iinc (v := (a8 + (1 : Int32))) (lv' := [(8, .int ((a8 + (1 : Int32)))), (0, .ref (r)), (1, .int (a1)), (2, .ref (a)), (3, .int (a3)), (4, .int (a4)), (5, .int (a5)), (6, .long (a6))]) hx hb dX2_total_172 hl (k := 7) rfl rfl (by decide) rfl (fun ls hl => ?_)
  refine lv_goto (tgt := 9) hx hb dX2_total_175 (by decide) ?_
  have j175_h8 : 0 ≤ (a8 + (1 : Int32)).toInt := by
    have : ((1 : Int32)).toInt = 1 := by decide
    try have := ti_add (a := a8) (b := (1 : Int32)) (by omega) (by omega)
    omega
  have j175_m : ((dr 2).toInt - (a8 + (1 : Int32)).toInt).toNat < N9 := by
    have : ((1 : Int32)).toInt = 1 := by decide
    try have := ti_add (a := a8) (b := (1 : Int32)) (by omega) (by omega)
    omega
  exact hK9 dr d a1 a3 a4 a5 a6 (a8 + (1 : Int32)) j175_h8 j175_m hK hR1 hR2 hRn hRd hSk (lv_sub hl [1, 2, 3, 4, 5, 6, 7, 0] rfl) hT
def f_X2_total_9 (K9 : (Nat → Int32) → (Nat → Int32) → Int32 → Int32 → Int32 → Int32 → Int64 → Int32 → Int32) (dr : Nat → Int32) (d : Nat → Int32) (a1 : Int32) (a3 : Int32) (a4 : Int32) (a5 : Int32) (a6 : Int64) (a8 : Int32) : Int32 := (if (dr 2) ≤ a8 then a5 else (if ((dr (3 + ix a8)) &&& (7 : Int32)) = (0 : Int32) then (f_X2_total_172 K9 dr d a1 a3 a4 a5 ((a6 <<< ((1 : Int32).toInt64 &&& 63)) ||| ((if (f_X2_holds d ((dr (3 + ix a8)) >>> ((3 : Int32) &&& 31)) a3 a4) = 0 then (0 : Int32) else (1 : Int32)).toInt64)) a8) else (if ((dr (3 + ix a8)) &&& (7 : Int32)) = (1 : Int32) then (f_X2_total_172 K9 dr d a1 a3 a4 a5 (a6 ^^^ (1 : Int64)) a8) else (if ((dr (3 + ix a8)) &&& (7 : Int32)) = (2 : Int32) then (f_X2_total_172 K9 dr d a1 a3 a4 a5 ((a6 >>> ((1 : Int32).toInt64 &&& 63)) &&& (a6 ||| (-2 : Int64))) a8) else (if ((dr (3 + ix a8)) &&& (7 : Int32)) = (3 : Int32) then (f_X2_total_172 K9 dr d a1 a3 a4 a5 ((a6 >>> ((1 : Int32).toInt64 &&& 63)) ||| (a6 &&& (1 : Int64))) a8) else (if ((dr (3 + ix a8)) &&& (7 : Int32)) = a1 then (f_X2_total_172 K9 dr d a1 a3 a4 (a5 + (if (lg_cmp (a6 &&& (1 : Int64)) (1 : Int64)) = 0 then ((dr (3 + ix a8)) >>> ((3 : Int32) &&& 31)) else (0 : Int32))) (0 : Int64) a8) else (f_X2_total_172 K9 dr d a1 a3 a4 (a5 + (0 : Int32)) (0 : Int64) a8)))))))
set_option maxHeartbeats 600000 in
set_option maxRecDepth 100000 in
theorem b_X2_total_9 {g : GG} {r rb rn a : Nat} {p : Program} {l : Launch} {e : Env} {s : State} {m : MethodId} {args : Array Value} {below : List Frame} {meth : Method} {c : Code}  {tgt : Int32} {K9 : (Nat → Int32) → (Nat → Int32) → Int32 → Int32 → Int32 → Int32 → Int64 → Int32 → Int32} {N9 : Nat} (C0 : BC p s m args meth c cX2_total RX2 11 (some .int)) (hK9 : ∀ (dr : Nat → Int32) (d : Nat → Int32) (a1 : Int32) (a3 : Int32) (a4 : Int32) (a5 : Int32) (a6 : Int64) (a8 : Int32), (0 ≤ a8.toInt) → ((dr 2).toInt - a8.toInt).toNat < N9 → KK g s → va_at g.1 vwCl (r, .inr (2, [.int (dr 0), .int (dr 1), .ref rb])) s.heap → va_at g.1 vwCl (rb, .inl (g.2.1 0, rn, .inl (fun j => dr (3 + j)))) s.heap → rn ≤ 100 → dr 2 = nI rn → SKH g s.heap a d → ∀ {ls : Array Slot}, lv_has ls 11 [(0, .ref (r)), (1, .int (a1)), (2, .ref (a)), (3, .int (a3)), (4, .int (a4)), (5, .int (a5)), (6, .long (a6)), (8, .int (a8))] → K9 dr d a1 a3 a4 a5 a6 a8 = tgt → W p l e { frames := 1, cells := 0, slots := 0, locals := 25 } s m args below meth c s.heap [] 0 0 (QPI below args s tgt) (F0 m 9 ls [])) {dr : Nat → Int32} {d : Nat → Int32} {a1 : Int32} {a3 : Int32} {a4 : Int32} {a5 : Int32} {a6 : Int64} {a8 : Int32}  (h8 : 0 ≤ a8.toInt) (hm : ((dr 2).toInt - a8.toInt).toNat < N9 + 1) (hK : KK g s) (hR1 : va_at g.1 vwCl (r, .inr (2, [.int (dr 0), .int (dr 1), .ref rb])) s.heap) (hR2 : va_at g.1 vwCl (rb, .inl (g.2.1 0, rn, .inl (fun j => dr (3 + j)))) s.heap) (hRn : rn ≤ 100) (hRd : dr 2 = nI rn) (hSk : SKH g s.heap a d) {ls : Array Slot} (hl : lv_has ls 11 [(0, .ref (r)), (1, .int (a1)), (2, .ref (a)), (3, .int (a3)), (4, .int (a4)), (5, .int (a5)), (6, .long (a6)), (8, .int (a8))]) (hT : f_X2_total_9 K9 dr d a1 a3 a4 a5 a6 a8 = tgt) : W p l e { frames := 1, cells := 0, slots := 0, locals := 25 } s m args below meth c s.heap [] 0 0 (QPI below args s tgt) (F0 m 9 ls []) := by
  obtain ⟨hx, hb, hr, hml, hown, hts, hlocks⟩ := id C0
  unfold f_X2_total_9 at hT
  have hrd2 : (dr 2).toInt = rn := by rw [hRd]; exact nI_toInt (by omega)
  refine lv_iload hx hb dX2_total_9 (lv_at hl 7 rfl) ?_
  refine lv_aload_n hx hb dX2_total_11 rfl (lv_at hl 0 rfl) ?_
  refine rm_code C0 hK hR1 w_451 dX2_total_12 ?_
  refine rm_len C0 hK hR2 hRd dX2_total_15 ?_
  refine lv_icmp_ge (tgt := 178) hx hb dX2_total_16 (by decide) (fun c_16 => ?_) (fun c_16 => ?_)
  · have hT := hT_pos c_16 hT
    refine lv_iload hx hb dX2_total_178 (lv_at hl 5 rfl) ?_
    exact ret_PI C0 hT dX2_total_180
  · have hT := hT_neg c_16 hT
    refine lv_aload_n hx hb dX2_total_19 rfl (lv_at hl 0 rfl) ?_
    refine rm_code C0 hK hR1 w_451 dX2_total_20 ?_
    refine lv_iload hx hb dX2_total_23 (lv_at hl 7 rfl) ?_
    have o_25 : vp_in a8 rn := by
      have := mt ti_le.mpr c_16
      exact vin (by omega) (by omega)
    refine rm_ald C0 hK hR2 o_25 dX2_total_25 ?_
    refine lv_bipush (v := (7 : Int32)) hx hb dX2_total_26 (by decide) ?_
    refine lv_iand hx hb dX2_total_28 ?_
    refine lv_istore (lv' := [(9, .int (((dr (3 + ix a8)) &&& (7 : Int32)))), (0, .ref (r)), (1, .int (a1)), (2, .ref (a)), (3, .int (a3)), (4, .int (a4)), (5, .int (a5)), (6, .long (a6)), (8, .int (a8))]) hx hb dX2_total_29 hl (by decide) rfl (fun ls hl => ?_)
    refine lv_aload_n hx hb dX2_total_31 rfl (lv_at hl 1 rfl) ?_
    refine rm_code C0 hK hR1 w_451 dX2_total_32 ?_
    refine lv_iload hx hb dX2_total_35 (lv_at hl 8 rfl) ?_
    have o_37 : vp_in a8 rn := by
      have := mt ti_le.mpr c_16
      exact vin (by omega) (by omega)
    refine rm_ald C0 hK hR2 o_37 dX2_total_37 ?_
    refine lv_iconst (v := (3 : Int32)) hx hb dX2_total_38 (by decide) ?_
    refine lv_ishr hx hb dX2_total_39 ?_
    refine lv_istore (lv' := [(10, .int (((dr (3 + ix a8)) >>> ((3 : Int32) &&& 31)))), (9, .int (((dr (3 + ix a8)) &&& (7 : Int32)))), (0, .ref (r)), (1, .int (a1)), (2, .ref (a)), (3, .int (a3)), (4, .int (a4)), (5, .int (a5)), (6, .long (a6)), (8, .int (a8))]) hx hb dX2_total_40 hl (by decide) rfl (fun ls hl => ?_)
    refine lv_iload hx hb dX2_total_42 (lv_at hl 1 rfl) ?_
    by_cases c_44_0 : ((dr (3 + ix a8)) &&& (7 : Int32)) = (0 : Int32)
    · have hT := hT_pos c_44_0 hT
      refine lv_tableIn (tgt := 76) hx hb dX2_total_44 (by rw [c_44_0]; decide) (by rw [c_44_0]; decide) (by rw [c_44_0]; rfl) (by decide) ?_
      refine lv_lload hx hb dX2_total_76 (lv_at hl 8 rfl) ?_
      refine lv_iconst (v := (1 : Int32)) hx hb dX2_total_78 (by decide) ?_
      refine lv_lshl (v := (a6 <<< ((1 : Int32).toInt64 &&& 63))) hx hb dX2_total_79 rfl ?_
      refine lv_iload hx hb dX2_total_80 (lv_at hl 0 rfl) ?_
      refine lv_aload_n hx hb dX2_total_82 rfl (lv_at hl 4 rfl) ?_
      refine lv_iload_n hx hb dX2_total_83 rfl (lv_at hl 5 rfl) ?_
      refine lv_iload hx hb dX2_total_84 (lv_at hl 6 rfl) ?_
      refine sk_cs (rest := [.long ((a6 <<< ((1 : Int32).toInt64 &&& 63)))]) (As := [.int (((dr (3 + ix a8)) >>> ((3 : Int32) &&& 31))), .ref (a), .int (a3), .int (a4)]) C0 hK hSk cf_X2_holds w_658 (k_X2_holds l g a d ((dr (3 + ix a8)) >>> ((3 : Int32) &&& 31)) a3 a4) ⟨by decide, by decide⟩ hl.1 rfl rfl (Nat.le_of_ble_eq_true rfl) dX2_total_86 ?_
      have J89 : ∀ v : Int32, v = (if (f_X2_holds d ((dr (3 + ix a8)) >>> ((3 : Int32) &&& 31)) a3 a4) = 0 then (0 : Int32) else (1 : Int32)) → W p l e { frames := 1, cells := 0, slots := 0, locals := 25 } s m args below meth c s.heap [] 0 0 (QPI below args s tgt) (F0 m 97 ls [.int (v), .long ((a6 <<< ((1 : Int32).toInt64 &&& 63)))]) := by
        intro v ev
        subst ev
        refine lv_i2l (v := ((if (f_X2_holds d ((dr (3 + ix a8)) >>> ((3 : Int32) &&& 31)) a3 a4) = 0 then (0 : Int32) else (1 : Int32)).toInt64)) hx hb dX2_total_97 rfl ?_
        refine lv_lor hx hb dX2_total_98 ?_
        refine lv_lstore (lv' := [(6, .long (((a6 <<< ((1 : Int32).toInt64 &&& 63)) ||| ((if (f_X2_holds d ((dr (3 + ix a8)) >>> ((3 : Int32) &&& 31)) a3 a4) = 0 then (0 : Int32) else (1 : Int32)).toInt64)))), (10, .int (((dr (3 + ix a8)) >>> ((3 : Int32) &&& 31)))), (9, .int (((dr (3 + ix a8)) &&& (7 : Int32)))), (0, .ref (r)), (1, .int (a1)), (2, .ref (a)), (3, .int (a3)), (4, .int (a4)), (5, .int (a5)), (8, .int (a8))]) hx hb dX2_total_99 hl (by decide) rfl (fun ls hl => ?_)
        refine lv_goto (tgt := 172) hx hb dX2_total_101 (by decide) ?_
        have j101_h8b : a8.toInt < (dr 2).toInt := by
          have : ((0 : Int32)).toInt = 0 := by decide
          have := mt ti_le.mpr c_16
          have := ti_eq.mp c_44_0
          omega
        have j101_hm9 : ((dr 2).toInt - a8.toInt).toNat < N9 + 1 := by
          have : ((0 : Int32)).toInt = 0 := by decide
          have := mt ti_le.mpr c_16
          have := ti_eq.mp c_44_0
          omega
        exact b_X2_total_172 (g := g) (r := r) (rb := rb) (rn := rn) (a := a) (dr := dr) (d := d) (a1 := a1) (a3 := a3) (a4 := a4) (a5 := a5) (a6 := ((a6 <<< ((1 : Int32).toInt64 &&& 63)) ||| ((if (f_X2_holds d ((dr (3 + ix a8)) >>> ((3 : Int32) &&& 31)) a3 a4) = 0 then (0 : Int32) else (1 : Int32)).toInt64))) (a8 := a8) C0 hK9 h8 j101_h8b j101_hm9 hK hR1 hR2 hRn hRd hSk (lv_sub hl [3, 4, 5, 6, 7, 8, 0, 9] rfl) hT
      refine lv_if_eq (tgt := 96) hx hb dX2_total_89 (by decide) (fun c_89 => ?_) (fun c_89 => ?_)
      · refine lv_iconst (v := (0 : Int32)) hx hb dX2_total_96 (by decide) ?_
        exact J89 _ (iv_pos c_89 rfl)
      · refine lv_iconst (v := (1 : Int32)) hx hb dX2_total_92 (by decide) ?_
        refine lv_goto (tgt := 97) hx hb dX2_total_93 (by decide) ?_
        exact J89 _ (iv_neg c_89 rfl)
    have hT := hT_neg c_44_0 hT
    by_cases c_44_1 : ((dr (3 + ix a8)) &&& (7 : Int32)) = (1 : Int32)
    · have hT := hT_pos c_44_1 hT
      refine lv_tableIn (tgt := 104) hx hb dX2_total_44 (by rw [c_44_1]; decide) (by rw [c_44_1]; decide) (by rw [c_44_1]; rfl) (by decide) ?_
      refine lv_lload hx hb dX2_total_104 (lv_at hl 8 rfl) ?_
      refine lv_lconst (v := (1 : Int64)) hx hb dX2_total_106 (by decide) ?_
      refine lv_lxor hx hb dX2_total_107 ?_
      refine lv_lstore (lv' := [(6, .long ((a6 ^^^ (1 : Int64)))), (10, .int (((dr (3 + ix a8)) >>> ((3 : Int32) &&& 31)))), (9, .int (((dr (3 + ix a8)) &&& (7 : Int32)))), (0, .ref (r)), (1, .int (a1)), (2, .ref (a)), (3, .int (a3)), (4, .int (a4)), (5, .int (a5)), (8, .int (a8))]) hx hb dX2_total_108 hl (by decide) rfl (fun ls hl => ?_)
      refine lv_goto (tgt := 172) hx hb dX2_total_110 (by decide) ?_
      have j110_h8b : a8.toInt < (dr 2).toInt := by
        have : ((1 : Int32)).toInt = 1 := by decide
        have := mt ti_le.mpr c_16
        have := ti_eq.mp c_44_1
        omega
      have j110_hm9 : ((dr 2).toInt - a8.toInt).toNat < N9 + 1 := by
        have : ((1 : Int32)).toInt = 1 := by decide
        have := mt ti_le.mpr c_16
        have := ti_eq.mp c_44_1
        omega
      exact b_X2_total_172 (g := g) (r := r) (rb := rb) (rn := rn) (a := a) (dr := dr) (d := d) (a1 := a1) (a3 := a3) (a4 := a4) (a5 := a5) (a6 := (a6 ^^^ (1 : Int64))) (a8 := a8) C0 hK9 h8 j110_h8b j110_hm9 hK hR1 hR2 hRn hRd hSk (lv_sub hl [3, 4, 5, 6, 7, 8, 0, 9] rfl) hT
    have hT := hT_neg c_44_1 hT
    by_cases c_44_2 : ((dr (3 + ix a8)) &&& (7 : Int32)) = (2 : Int32)
    · have hT := hT_pos c_44_2 hT
      refine lv_tableIn (tgt := 113) hx hb dX2_total_44 (by rw [c_44_2]; decide) (by rw [c_44_2]; decide) (by rw [c_44_2]; rfl) (by decide) ?_
      refine lv_lload hx hb dX2_total_113 (lv_at hl 8 rfl) ?_
      refine lv_iconst (v := (1 : Int32)) hx hb dX2_total_115 (by decide) ?_
      refine lv_lshr (v := (a6 >>> ((1 : Int32).toInt64 &&& 63))) hx hb dX2_total_116 rfl ?_
      refine lv_lload hx hb dX2_total_117 (lv_at hl 8 rfl) ?_
      refine lv_ldc2 (v := (-2 : Int64)) hx hb C0.2.2.2.2.1 (C0.2.2.2.2.2.1 _ w_661) dX2_total_119 ?_
      refine lv_lor hx hb dX2_total_122 ?_
      refine lv_land hx hb dX2_total_123 ?_
      refine lv_lstore (lv' := [(6, .long (((a6 >>> ((1 : Int32).toInt64 &&& 63)) &&& (a6 ||| (-2 : Int64))))), (10, .int (((dr (3 + ix a8)) >>> ((3 : Int32) &&& 31)))), (9, .int (((dr (3 + ix a8)) &&& (7 : Int32)))), (0, .ref (r)), (1, .int (a1)), (2, .ref (a)), (3, .int (a3)), (4, .int (a4)), (5, .int (a5)), (8, .int (a8))]) hx hb dX2_total_124 hl (by decide) rfl (fun ls hl => ?_)
      refine lv_goto (tgt := 172) hx hb dX2_total_126 (by decide) ?_
      have j126_h8b : a8.toInt < (dr 2).toInt := by
        have : ((2 : Int32)).toInt = 2 := by decide
        have := mt ti_le.mpr c_16
        have := ti_eq.mp c_44_2
        omega
      have j126_hm9 : ((dr 2).toInt - a8.toInt).toNat < N9 + 1 := by
        have : ((2 : Int32)).toInt = 2 := by decide
        have := mt ti_le.mpr c_16
        have := ti_eq.mp c_44_2
        omega
      exact b_X2_total_172 (g := g) (r := r) (rb := rb) (rn := rn) (a := a) (dr := dr) (d := d) (a1 := a1) (a3 := a3) (a4 := a4) (a5 := a5) (a6 := ((a6 >>> ((1 : Int32).toInt64 &&& 63)) &&& (a6 ||| (-2 : Int64)))) (a8 := a8) C0 hK9 h8 j126_h8b j126_hm9 hK hR1 hR2 hRn hRd hSk (lv_sub hl [3, 4, 5, 6, 7, 8, 0, 9] rfl) hT
    have hT := hT_neg c_44_2 hT
    by_cases c_44_3 : ((dr (3 + ix a8)) &&& (7 : Int32)) = (3 : Int32)
    · have hT := hT_pos c_44_3 hT
      refine lv_tableIn (tgt := 129) hx hb dX2_total_44 (by rw [c_44_3]; decide) (by rw [c_44_3]; decide) (by rw [c_44_3]; rfl) (by decide) ?_
      refine lv_lload hx hb dX2_total_129 (lv_at hl 8 rfl) ?_
      refine lv_iconst (v := (1 : Int32)) hx hb dX2_total_131 (by decide) ?_
      refine lv_lshr (v := (a6 >>> ((1 : Int32).toInt64 &&& 63))) hx hb dX2_total_132 rfl ?_
      refine lv_lload hx hb dX2_total_133 (lv_at hl 8 rfl) ?_
      refine lv_lconst (v := (1 : Int64)) hx hb dX2_total_135 (by decide) ?_
      refine lv_land hx hb dX2_total_136 ?_
      refine lv_lor hx hb dX2_total_137 ?_
      refine lv_lstore (lv' := [(6, .long (((a6 >>> ((1 : Int32).toInt64 &&& 63)) ||| (a6 &&& (1 : Int64))))), (10, .int (((dr (3 + ix a8)) >>> ((3 : Int32) &&& 31)))), (9, .int (((dr (3 + ix a8)) &&& (7 : Int32)))), (0, .ref (r)), (1, .int (a1)), (2, .ref (a)), (3, .int (a3)), (4, .int (a4)), (5, .int (a5)), (8, .int (a8))]) hx hb dX2_total_138 hl (by decide) rfl (fun ls hl => ?_)
      refine lv_goto (tgt := 172) hx hb dX2_total_140 (by decide) ?_
      have j140_h8b : a8.toInt < (dr 2).toInt := by
        have : ((3 : Int32)).toInt = 3 := by decide
        have := mt ti_le.mpr c_16
        have := ti_eq.mp c_44_3
        omega
      have j140_hm9 : ((dr 2).toInt - a8.toInt).toNat < N9 + 1 := by
        have : ((3 : Int32)).toInt = 3 := by decide
        have := mt ti_le.mpr c_16
        have := ti_eq.mp c_44_3
        omega
      exact b_X2_total_172 (g := g) (r := r) (rb := rb) (rn := rn) (a := a) (dr := dr) (d := d) (a1 := a1) (a3 := a3) (a4 := a4) (a5 := a5) (a6 := ((a6 >>> ((1 : Int32).toInt64 &&& 63)) ||| (a6 &&& (1 : Int64)))) (a8 := a8) C0 hK9 h8 j140_h8b j140_hm9 hK hR1 hR2 hRn hRd hSk (lv_sub hl [3, 4, 5, 6, 7, 8, 0, 9] rfl) hT
    have hT := hT_neg c_44_3 hT
    refine lv_tableOut (tgt := 143) hx hb dX2_total_44 (sw_out (fun k h1 h2 => by
        rcases (show k = 0 ∨ k = 1 ∨ k = 2 ∨ k = 3 by omega) with rfl | rfl | rfl | rfl <;> first | exact c_44_0 | exact c_44_1 | exact c_44_2 | exact c_44_3)) (by decide) ?_
    refine lv_iload hx hb dX2_total_143 (lv_at hl 7 rfl) ?_
    refine lv_iload hx hb dX2_total_145 (lv_at hl 1 rfl) ?_
    refine lv_iload_n hx hb dX2_total_147 rfl (lv_at hl 3 rfl) ?_
    refine lv_icmp_ne (tgt := 165) hx hb dX2_total_148 (by decide) (fun c_148 => ?_) (fun c_148 => ?_)
    · have hT := hT_neg c_148 hT
      refine lv_iconst (v := (0 : Int32)) hx hb dX2_total_165 (by decide) ?_
      refine lv_iadd hx hb dX2_total_166 ?_
      refine lv_istore (lv' := [(5, .int ((a5 + (0 : Int32)))), (10, .int (((dr (3 + ix a8)) >>> ((3 : Int32) &&& 31)))), (9, .int (((dr (3 + ix a8)) &&& (7 : Int32)))), (0, .ref (r)), (1, .int (a1)), (2, .ref (a)), (3, .int (a3)), (4, .int (a4)), (6, .long (a6)), (8, .int (a8))]) hx hb dX2_total_167 hl (by decide) rfl (fun ls hl => ?_)
      refine lv_lconst (v := (0 : Int64)) hx hb dX2_total_169 (by decide) ?_
      refine lv_lstore (lv' := [(6, .long ((0 : Int64))), (5, .int ((a5 + (0 : Int32)))), (10, .int (((dr (3 + ix a8)) >>> ((3 : Int32) &&& 31)))), (9, .int (((dr (3 + ix a8)) &&& (7 : Int32)))), (0, .ref (r)), (1, .int (a1)), (2, .ref (a)), (3, .int (a3)), (4, .int (a4)), (8, .int (a8))]) hx hb dX2_total_170 hl (by decide) rfl (fun ls hl => ?_)
      have j170_h8b : a8.toInt < (dr 2).toInt := by
        have : ((0 : Int32)).toInt = 0 := by decide
        have : ((1 : Int32)).toInt = 1 := by decide
        have : ((2 : Int32)).toInt = 2 := by decide
        have : ((3 : Int32)).toInt = 3 := by decide
        have := mt ti_le.mpr c_16
        have := mt ti_eq.mpr c_44_0
        have := mt ti_eq.mpr c_44_1
        have := mt ti_eq.mpr c_44_2
        have := mt ti_eq.mpr c_44_3
        have := mt ti_eq.mpr c_148
        try have := ti_add (a := a5) (b := (0 : Int32)) (by omega) (by omega)
        omega
      have j170_hm9 : ((dr 2).toInt - a8.toInt).toNat < N9 + 1 := by
        have : ((0 : Int32)).toInt = 0 := by decide
        have : ((1 : Int32)).toInt = 1 := by decide
        have : ((2 : Int32)).toInt = 2 := by decide
        have : ((3 : Int32)).toInt = 3 := by decide
        have := mt ti_le.mpr c_16
        have := mt ti_eq.mpr c_44_0
        have := mt ti_eq.mpr c_44_1
        have := mt ti_eq.mpr c_44_2
        have := mt ti_eq.mpr c_44_3
        have := mt ti_eq.mpr c_148
        try have := ti_add (a := a5) (b := (0 : Int32)) (by omega) (by omega)
        omega
      exact b_X2_total_172 (g := g) (r := r) (rb := rb) (rn := rn) (a := a) (dr := dr) (d := d) (a1 := a1) (a3 := a3) (a4 := a4) (a5 := (a5 + (0 : Int32))) (a6 := (0 : Int64)) (a8 := a8) C0 hK9 h8 j170_h8b j170_hm9 hK hR1 hR2 hRn hRd hSk (lv_sub hl [4, 5, 6, 7, 8, 1, 0, 9] rfl) hT
    · have hT := hT_pos c_148 hT
      refine lv_lload hx hb dX2_total_151 (lv_at hl 8 rfl) ?_
      refine lv_lconst (v := (1 : Int64)) hx hb dX2_total_153 (by decide) ?_
      refine lv_land hx hb dX2_total_154 ?_
      refine lv_lconst (v := (1 : Int64)) hx hb dX2_total_155 (by decide) ?_
      refine W.lcmp hx hb dX2_total_156 ?_
      have J157 : ∀ v : Int32, v = (if (lg_cmp (a6 &&& (1 : Int64)) (1 : Int64)) = 0 then ((dr (3 + ix a8)) >>> ((3 : Int32) &&& 31)) else (0 : Int32)) → W p l e { frames := 1, cells := 0, slots := 0, locals := 25 } s m args below meth c s.heap [] 0 0 (QPI below args s tgt) (F0 m 166 ls [.int (v), .int (a5)]) := by
        intro v ev
        subst ev
        refine lv_iadd hx hb dX2_total_166 ?_
        refine lv_istore (lv' := [(5, .int ((a5 + (if (lg_cmp (a6 &&& (1 : Int64)) (1 : Int64)) = 0 then ((dr (3 + ix a8)) >>> ((3 : Int32) &&& 31)) else (0 : Int32))))), (10, .int (((dr (3 + ix a8)) >>> ((3 : Int32) &&& 31)))), (9, .int (((dr (3 + ix a8)) &&& (7 : Int32)))), (0, .ref (r)), (1, .int (a1)), (2, .ref (a)), (3, .int (a3)), (4, .int (a4)), (6, .long (a6)), (8, .int (a8))]) hx hb dX2_total_167 hl (by decide) rfl (fun ls hl => ?_)
        refine lv_lconst (v := (0 : Int64)) hx hb dX2_total_169 (by decide) ?_
        refine lv_lstore (lv' := [(6, .long ((0 : Int64))), (5, .int ((a5 + (if (lg_cmp (a6 &&& (1 : Int64)) (1 : Int64)) = 0 then ((dr (3 + ix a8)) >>> ((3 : Int32) &&& 31)) else (0 : Int32))))), (10, .int (((dr (3 + ix a8)) >>> ((3 : Int32) &&& 31)))), (9, .int (((dr (3 + ix a8)) &&& (7 : Int32)))), (0, .ref (r)), (1, .int (a1)), (2, .ref (a)), (3, .int (a3)), (4, .int (a4)), (8, .int (a8))]) hx hb dX2_total_170 hl (by decide) rfl (fun ls hl => ?_)
        have j170_h8b : a8.toInt < (dr 2).toInt := by
          have : ((0 : Int32)).toInt = 0 := by decide
          have : ((1 : Int32)).toInt = 1 := by decide
          have : ((2 : Int32)).toInt = 2 := by decide
          have : ((3 : Int32)).toInt = 3 := by decide
          have := mt ti_le.mpr c_16
          have := mt ti_eq.mpr c_44_0
          have := mt ti_eq.mpr c_44_1
          have := mt ti_eq.mpr c_44_2
          have := mt ti_eq.mpr c_44_3
          have := ti_eq.mp c_148
          try have := ti_add (a := a5) (b := (if (lg_cmp (a6 &&& (1 : Int64)) (1 : Int64)) = 0 then ((dr (3 + ix a8)) >>> ((3 : Int32) &&& 31)) else (0 : Int32))) (by omega) (by omega)
          omega
        have j170_hm9 : ((dr 2).toInt - a8.toInt).toNat < N9 + 1 := by
          have : ((0 : Int32)).toInt = 0 := by decide
          have : ((1 : Int32)).toInt = 1 := by decide
          have : ((2 : Int32)).toInt = 2 := by decide
          have : ((3 : Int32)).toInt = 3 := by decide
          have := mt ti_le.mpr c_16
          have := mt ti_eq.mpr c_44_0
          have := mt ti_eq.mpr c_44_1
          have := mt ti_eq.mpr c_44_2
          have := mt ti_eq.mpr c_44_3
          have := ti_eq.mp c_148
          try have := ti_add (a := a5) (b := (if (lg_cmp (a6 &&& (1 : Int64)) (1 : Int64)) = 0 then ((dr (3 + ix a8)) >>> ((3 : Int32) &&& 31)) else (0 : Int32))) (by omega) (by omega)
          omega
        exact b_X2_total_172 (g := g) (r := r) (rb := rb) (rn := rn) (a := a) (dr := dr) (d := d) (a1 := a1) (a3 := a3) (a4 := a4) (a5 := (a5 + (if (lg_cmp (a6 &&& (1 : Int64)) (1 : Int64)) = 0 then ((dr (3 + ix a8)) >>> ((3 : Int32) &&& 31)) else (0 : Int32)))) (a6 := (0 : Int64)) (a8 := a8) C0 hK9 h8 j170_h8b j170_hm9 hK hR1 hR2 hRn hRd hSk (lv_sub hl [4, 5, 6, 7, 8, 1, 0, 9] rfl) hT
      refine lv_if_ne (tgt := 165) hx hb dX2_total_157 (by decide) (fun c_157 => ?_) (fun c_157 => ?_)
      · refine lv_iconst (v := (0 : Int32)) hx hb dX2_total_165 (by decide) ?_
        exact J157 _ (iv_neg c_157 rfl)
      · refine lv_iload hx hb dX2_total_160 (lv_at hl 0 rfl) ?_
        refine lv_goto (tgt := 166) hx hb dX2_total_162 (by decide) ?_
        exact J157 _ (iv_pos c_157 rfl)
def g_X2_total_9  : Nat → (Nat → Int32) → (Nat → Int32) → Int32 → Int32 → Int32 → Int32 → Int64 → Int32 → Int32
  | 0 => fun dr d a1 a3 a4 a5 a6 a8 => 0
  | n + 1 => fun dr d a1 a3 a4 a5 a6 a8 => f_X2_total_9  (g_X2_total_9  n) dr d a1 a3 a4 a5 a6 a8
theorem l_X2_total_9 {g : GG} {r rb rn a : Nat} {p : Program} {l : Launch} {e : Env} {s : State} {m : MethodId} {args : Array Value} {below : List Frame} {meth : Method} {c : Code}  {tgt : Int32}  (C0 : BC p s m args meth c cX2_total RX2 11 (some .int))  : ∀ (n : Nat) (dr : Nat → Int32) (d : Nat → Int32) (a1 : Int32) (a3 : Int32) (a4 : Int32) (a5 : Int32) (a6 : Int64) (a8 : Int32), (0 ≤ a8.toInt) → ((dr 2).toInt - a8.toInt).toNat < n → KK g s → va_at g.1 vwCl (r, .inr (2, [.int (dr 0), .int (dr 1), .ref rb])) s.heap → va_at g.1 vwCl (rb, .inl (g.2.1 0, rn, .inl (fun j => dr (3 + j)))) s.heap → rn ≤ 100 → dr 2 = nI rn → SKH g s.heap a d → ∀ {ls : Array Slot}, lv_has ls 11 [(0, .ref (r)), (1, .int (a1)), (2, .ref (a)), (3, .int (a3)), (4, .int (a4)), (5, .int (a5)), (6, .long (a6)), (8, .int (a8))] → g_X2_total_9  n dr d a1 a3 a4 a5 a6 a8 = tgt → W p l e { frames := 1, cells := 0, slots := 0, locals := 25 } s m args below meth c s.heap [] 0 0 (QPI below args s tgt) (F0 m 9 ls []) := by
  intro n
  induction n with
  | zero => intro dr d a1 a3 a4 a5 a6 a8 h8 hm; exact absurd hm (Nat.not_lt_zero _)
  | succ n ih =>
    intro dr d a1 a3 a4 a5 a6 a8 h8 hm  hK hR1 hR2 hRn hRd hSk ls hl hT
    exact b_X2_total_9 (g := g) (r := r) (rb := rb) (rn := rn) (a := a) (K9 := g_X2_total_9  n) (N9 := n) C0  (fun dr d a1 a3 a4 a5 a6 a8 h8 hm2 => ih dr d a1 a3 a4 a5 a6 a8 h8 hm2) h8 hm hK hR1 hR2 hRn hRd hSk hl hT
def f_X2_total (dr : Nat → Int32) (d : Nat → Int32) (a1 : Int32) (a3 : Int32) (a4 : Int32) : Int32 := (g_X2_total_9  (101) dr d a1 a3 a4 (0 : Int32) (0 : Int64) (0 : Int32))
set_option maxHeartbeats 600000 in
set_option maxRecDepth 100000 in
theorem k_X2_total (l : Launch) (g : GG) (r rb rn a : Nat) (dr : Nat → Int32) (d : Nat → Int32) (a1 : Int32) (a3 : Int32) (a4 : Int32)  : PI l yX2_total (wsF yX2_total cX2_total 11 (some .int)) { frames := 1, cells := 0, slots := 0, locals := 25 } [.ref (r), .int (a1), .ref (a), .int (a3), .int (a4)] (RB g r rb rn a dr d) (f_X2_total dr d a1 a3 a4) := by
  refine start_PI (by decide) (Nat.le_of_ble_eq_true rfl) ?_
  intro p e s m args below meth c C0 hG ls hl
  obtain ⟨hK, hR1, hR2, hRn, hRd, hSk⟩ := hG
  obtain ⟨hx, hb, hr, hml, hown, hts, hlocks⟩ := id C0
  have hl : lv_has ls 11 [(0, .ref (r)), (1, .int (a1)), (2, .ref (a)), (3, .int (a3)), (4, .int (a4))] := hl
  generalize hT : (f_X2_total dr d a1 a3 a4) = tgt
  unfold f_X2_total at hT
  have hrd2 : (dr 2).toInt = rn := by rw [hRd]; exact nI_toInt (by omega)
  refine lv_iconst (v := (0 : Int32)) hx hb dX2_total_0 (by decide) ?_
  refine lv_istore (lv' := [(5, .int ((0 : Int32))), (0, .ref (r)), (1, .int (a1)), (2, .ref (a)), (3, .int (a3)), (4, .int (a4))]) hx hb dX2_total_1 hl (by decide) rfl (fun ls hl => ?_)
  refine lv_lconst (v := (0 : Int64)) hx hb dX2_total_3 (by decide) ?_
  refine lv_lstore (lv' := [(6, .long ((0 : Int64))), (5, .int ((0 : Int32))), (0, .ref (r)), (1, .int (a1)), (2, .ref (a)), (3, .int (a3)), (4, .int (a4))]) hx hb dX2_total_4 hl (by decide) rfl (fun ls hl => ?_)
  refine lv_iconst (v := (0 : Int32)) hx hb dX2_total_6 (by decide) ?_
  refine lv_istore (lv' := [(8, .int ((0 : Int32))), (6, .long ((0 : Int64))), (5, .int ((0 : Int32))), (0, .ref (r)), (1, .int (a1)), (2, .ref (a)), (3, .int (a3)), (4, .int (a4))]) hx hb dX2_total_7 hl (by decide) rfl (fun ls hl => ?_)
  have j7_h8 : 0 ≤ (0 : Int32).toInt := by
    have : ((0 : Int32)).toInt = 0 := by decide
    omega
  have j7_m : ((dr 2).toInt - (0 : Int32).toInt).toNat < 101 := by
    have : ((0 : Int32)).toInt = 0 := by decide
    omega
  exact l_X2_total_9 (g := g) (r := r) (rb := rb) (rn := rn) (a := a) C0   (101) dr d a1 a3 a4 (0 : Int32) (0 : Int64) (0 : Int32) j7_h8 j7_m hK hR1 hR2 hRn hRd hSk (lv_sub hl [3, 4, 5, 6, 7, 2, 1, 0] rfl) hT
