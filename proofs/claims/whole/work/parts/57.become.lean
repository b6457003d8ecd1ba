
/-! THE CLASS'S IMAGE -/
theorem SKH.any {g : GG} {s : State} {H : Heap} {a : Nat} {d : Nat → Int32} (hK : KK g s) (h : SKH g H a d) : va_Any "ThreeMeasures$Stick" s H a := by
  rcases h.2 with ⟨e, h⟩ | ⟨e, h⟩ | ⟨e, h⟩ | ⟨e, h⟩ | ⟨e, h⟩ | ⟨e, h⟩ | ⟨e, b, hb, hba, h, h'⟩
  · exact va_rAny (r := (RX6, TX6, 4)) hK.1 (va_P1 h) (q0 := 0) rfl rfl (fun comp c0 h1 h2 => by cases h1.symm.trans h2; exact va_asg _ _)
  · exact va_rAny (r := (RX10, TX10, 4)) hK.1 (va_P1 h) (q0 := 0) rfl rfl (cast_asg hK.2 w_1355)
  · exact va_rAny (r := (RX7, TX7, 4)) hK.1 (va_P1 h) (q0 := 0) rfl rfl (cast_asg hK.2 w_1356)
  · exact va_rAny (r := (RX0, TX0, 4)) hK.1 (va_P1 h) (q0 := 0) rfl rfl (cast_asg hK.2 w_1357)
  · exact va_rAny (r := (RX4, TX4, 4)) hK.1 (va_P1 h) (q0 := 0) rfl rfl (cast_asg hK.2 w_1358)
  · exact va_rAny (r := (RX3, TX3, 4)) hK.1 (va_P1 h) (q0 := 0) rfl rfl (cast_asg hK.2 w_1359)
  · exact va_rAny (r := (RX8, TX8, 5)) hK.1 (va_P1 h) (q0 := 0) rfl rfl (cast_asg hK.2 w_1360)
def mixO (f h : Nat → Option Nat) (k : Nat) : Nat → Option Nat := fun j => if j < k then f j else h j
theorem mixO_0 (f h : Nat → Option Nat) : mixO f h 0 = h := rfl
theorem mixO_s (f h : Nat → Option Nat) (k : Nat) : va_up (mixO f h k) k (f k) = mixO f h (k + 1) := by
  funext j
  show (if j = k then f k else if j < k then f j else h j) = if j < k + 1 then f j else h j
  by_cases e : j = k
  · rw [if_pos e, if_pos (by omega), e]
  · rw [if_neg e]
    by_cases e2 : j < k
    · rw [if_pos e2, if_pos (by omega)]
    · rw [if_neg e2, if_neg (by omega)]
theorem nar_rf {C : String} (r : Option Nat) : narrow (.object C) (va_rf r) = va_rf r ∧ fits (.object C) (va_rf r) = true := by
  cases r <;> exact ⟨rfl, rfl⟩
theorem xR_h20 (g : GG) (ρ : RR) (σ : St) (r : Option Nat) : (xW g ρ σ).set 1 (g.2.2 101, .inr (5, (xF1 g ρ σ).set 2 (va_rf r))) = xW g (upR ρ 22 (fun _ => r)) σ := rfl
theorem xR_s20 (g : GG) (ρ : RR) (σ : St) (f : Nat → Option Nat) : (xW g ρ σ).set 28 (g.2.2 24, .inl (g.2.1 2, 6, .inr (.inr (.inr (.inr f))))) = xW g (upR ρ 24 f) σ := rfl
theorem xR_h40 (g : GG) (ρ : RR) (σ : St) (r : Option Nat) : (xW g ρ σ).set 2 (g.2.2 102, .inr (5, (xF2 g ρ σ).set 2 (va_rf r))) = xW g (upR ρ 42 (fun _ => r)) σ := rfl
theorem xR_s40 (g : GG) (ρ : RR) (σ : St) (f : Nat → Option Nat) : (xW g ρ σ).set 29 (g.2.2 44, .inl (g.2.1 2, 6, .inr (.inr (.inr (.inr f))))) = xW g (upR ρ 44 f) σ := rfl

theorem dX5_become_0 : decode cX5_become 0 = .ok (.aload_n 1, 1) := by decide +kernel
theorem dX5_become_1 : decode cX5_become 1 = .ok (.getfield 9, 3) := by decide +kernel
theorem dX5_become_4 : decode cX5_become 4 = .ok (.iconst 0, 1) := by decide +kernel
theorem dX5_become_5 : decode cX5_become 5 = .ok (.aload_n 0, 1) := by decide +kernel
theorem dX5_become_6 : decode cX5_become 6 = .ok (.getfield 9, 3) := by decide +kernel
theorem dX5_become_9 : decode cX5_become 9 = .ok (.iconst 0, 1) := by decide +kernel
theorem dX5_become_10 : decode cX5_become 10 = .ok (.bipush 100, 2) := by decide +kernel
theorem dX5_become_12 : decode cX5_become 12 = .ok (.invokestatic 42, 3) := by decide +kernel
theorem dX5_become_15 : decode cX5_become 15 = .ok (.aload_n 0, 1) := by decide +kernel
theorem dX5_become_16 : decode cX5_become 16 = .ok (.aload_n 1, 1) := by decide +kernel
theorem dX5_become_17 : decode cX5_become 17 = .ok (.getfield 48, 3) := by decide +kernel
theorem dX5_become_20 : decode cX5_become 20 = .ok (.putfield 48, 3) := by decide +kernel
theorem dX5_become_23 : decode cX5_become 23 = .ok (.aload_n 0, 1) := by decide +kernel
theorem dX5_become_24 : decode cX5_become 24 = .ok (.aload_n 1, 1) := by decide +kernel
theorem dX5_become_25 : decode cX5_become 25 = .ok (.getfield 52, 3) := by decide +kernel
theorem dX5_become_28 : decode cX5_become 28 = .ok (.putfield 52, 3) := by decide +kernel
theorem dX5_become_31 : decode cX5_become 31 = .ok (.aload_n 0, 1) := by decide +kernel
theorem dX5_become_32 : decode cX5_become 32 = .ok (.aload_n 1, 1) := by decide +kernel
theorem dX5_become_33 : decode cX5_become 33 = .ok (.getfield 56, 3) := by decide +kernel
theorem dX5_become_36 : decode cX5_become 36 = .ok (.putfield 56, 3) := by decide +kernel
theorem dX5_become_39 : decode cX5_become 39 = .ok (.iconst 0, 1) := by decide +kernel
theorem dX5_become_40 : decode cX5_become 40 = .ok (.istore_n 2, 1) := by decide +kernel
theorem dX5_become_41 : decode cX5_become 41 = .ok (.iload_n 2, 1) := by decide +kernel
theorem dX5_become_42 : decode cX5_become 42 = .ok (.bipush 6, 2) := by decide +kernel
theorem dX5_become_44 : decode cX5_become 44 = .ok (.if_icmp .ge 21, 3) := by decide +kernel
theorem dX5_become_47 : decode cX5_become 47 = .ok (.aload_n 0, 1) := by decide +kernel
theorem dX5_become_48 : decode cX5_become 48 = .ok (.getfield 17, 3) := by decide +kernel
theorem dX5_become_51 : decode cX5_become 51 = .ok (.iload_n 2, 1) := by decide +kernel
theorem dX5_become_52 : decode cX5_become 52 = .ok (.aload_n 1, 1) := by decide +kernel
theorem dX5_become_53 : decode cX5_become 53 = .ok (.getfield 17, 3) := by decide +kernel
theorem dX5_become_56 : decode cX5_become 56 = .ok (.iload_n 2, 1) := by decide +kernel
theorem dX5_become_57 : decode cX5_become 57 = .ok (.aaload, 1) := by decide +kernel
theorem dX5_become_58 : decode cX5_become 58 = .ok (.aastore, 1) := by decide +kernel
theorem dX5_become_59 : decode cX5_become 59 = .ok (.iinc 2 1, 3) := by decide +kernel
theorem dX5_become_62 : decode cX5_become 62 = .ok (.goto (-21), 3) := by decide +kernel
theorem dX5_become_65 : decode cX5_become 65 = .ok (.aload_n 0, 1) := by decide +kernel
theorem dX5_become_66 : decode cX5_become 66 = .ok (.aload_n 1, 1) := by decide +kernel
theorem dX5_become_67 : decode cX5_become 67 = .ok (.getfield 59, 3) := by decide +kernel
theorem dX5_become_70 : decode cX5_become 70 = .ok (.putfield 59, 3) := by decide +kernel
theorem dX5_become_73 : decode cX5_become 73 = .ok (.aload_n 1, 1) := by decide +kernel
theorem dX5_become_74 : decode cX5_become 74 = .ok (.getfield 21, 3) := by decide +kernel
theorem dX5_become_77 : decode cX5_become 77 = .ok (.iconst 0, 1) := by decide +kernel
theorem dX5_become_78 : decode cX5_become 78 = .ok (.aload_n 0, 1) := by decide +kernel
theorem dX5_become_79 : decode cX5_become 79 = .ok (.getfield 21, 3) := by decide +kernel
theorem dX5_become_82 : decode cX5_become 82 = .ok (.iconst 0, 1) := by decide +kernel
theorem dX5_become_83 : decode cX5_become 83 = .ok (.bipush 6, 2) := by decide +kernel
theorem dX5_become_85 : decode cX5_become 85 = .ok (.invokestatic 42, 3) := by decide +kernel
theorem dX5_become_88 : decode cX5_become 88 = .ok (.aload_n 1, 1) := by decide +kernel
theorem dX5_become_89 : decode cX5_become 89 = .ok (.getfield 24, 3) := by decide +kernel
theorem dX5_become_92 : decode cX5_become 92 = .ok (.iconst 0, 1) := by decide +kernel
theorem dX5_become_93 : decode cX5_become 93 = .ok (.aload_n 0, 1) := by decide +kernel
theorem dX5_become_94 : decode cX5_become 94 = .ok (.getfield 24, 3) := by decide +kernel
theorem dX5_become_97 : decode cX5_become 97 = .ok (.iconst 0, 1) := by decide +kernel
theorem dX5_become_98 : decode cX5_become 98 = .ok (.bipush 6, 2) := by decide +kernel
theorem dX5_become_100 : decode cX5_become 100 = .ok (.invokestatic 42, 3) := by decide +kernel
theorem dX5_become_103 : decode cX5_become 103 = .ok (.aload_n 0, 1) := by decide +kernel
theorem dX5_become_104 : decode cX5_become 104 = .ok (.aload_n 1, 1) := by decide +kernel
theorem dX5_become_105 : decode cX5_become 105 = .ok (.getfield 62, 3) := by decide +kernel
theorem dX5_become_108 : decode cX5_become 108 = .ok (.putfield 62, 3) := by decide +kernel
theorem dX5_become_111 : decode cX5_become 111 = .ok (.aload_n 0, 1) := by decide +kernel
theorem dX5_become_112 : decode cX5_become 112 = .ok (.aload_n 1, 1) := by decide +kernel
theorem dX5_become_113 : decode cX5_become 113 = .ok (.getfield 65, 3) := by decide +kernel
theorem dX5_become_116 : decode cX5_become 116 = .ok (.putfield 65, 3) := by decide +kernel
theorem dX5_become_119 : decode cX5_become 119 = .ok (.aload_n 1, 1) := by decide +kernel
theorem dX5_become_120 : decode cX5_become 120 = .ok (.getfield 27, 3) := by decide +kernel
theorem dX5_become_123 : decode cX5_become 123 = .ok (.iconst 0, 1) := by decide +kernel
theorem dX5_become_124 : decode cX5_become 124 = .ok (.aload_n 0, 1) := by decide +kernel
theorem dX5_become_125 : decode cX5_become 125 = .ok (.getfield 27, 3) := by decide +kernel
theorem dX5_become_128 : decode cX5_become 128 = .ok (.iconst 0, 1) := by decide +kernel
theorem dX5_become_129 : decode cX5_become 129 = .ok (.bipush 8, 2) := by decide +kernel
theorem dX5_become_131 : decode cX5_become 131 = .ok (.invokestatic 42, 3) := by decide +kernel
theorem dX5_become_134 : decode cX5_become 134 = .ok (.aload_n 1, 1) := by decide +kernel
theorem dX5_become_135 : decode cX5_become 135 = .ok (.getfield 30, 3) := by decide +kernel
theorem dX5_become_138 : decode cX5_become 138 = .ok (.iconst 0, 1) := by decide +kernel
theorem dX5_become_139 : decode cX5_become 139 = .ok (.aload_n 0, 1) := by decide +kernel
theorem dX5_become_140 : decode cX5_become 140 = .ok (.getfield 30, 3) := by decide +kernel
theorem dX5_become_143 : decode cX5_become 143 = .ok (.iconst 0, 1) := by decide +kernel
theorem dX5_become_144 : decode cX5_become 144 = .ok (.bipush 8, 2) := by decide +kernel
theorem dX5_become_146 : decode cX5_become 146 = .ok (.invokestatic 42, 3) := by decide +kernel
theorem dX5_become_149 : decode cX5_become 149 = .ok (.aload_n 0, 1) := by decide +kernel
theorem dX5_become_150 : decode cX5_become 150 = .ok (.aload_n 1, 1) := by decide +kernel
theorem dX5_become_151 : decode cX5_become 151 = .ok (.getfield 68, 3) := by decide +kernel
theorem dX5_become_154 : decode cX5_become 154 = .ok (.putfield 68, 3) := by decide +kernel
theorem dX5_become_157 : decode cX5_become 157 = .ok (.aload_n 1, 1) := by decide +kernel
theorem dX5_become_158 : decode cX5_become 158 = .ok (.getfield 33, 3) := by decide +kernel
theorem dX5_become_161 : decode cX5_become 161 = .ok (.iconst 0, 1) := by decide +kernel
theorem dX5_become_162 : decode cX5_become 162 = .ok (.aload_n 0, 1) := by decide +kernel
theorem dX5_become_163 : decode cX5_become 163 = .ok (.getfield 33, 3) := by decide +kernel
theorem dX5_become_166 : decode cX5_become 166 = .ok (.iconst 0, 1) := by decide +kernel
theorem dX5_become_167 : decode cX5_become 167 = .ok (.bipush 6, 2) := by decide +kernel
theorem dX5_become_169 : decode cX5_become 169 = .ok (.invokestatic 42, 3) := by decide +kernel
theorem dX5_become_172 : decode cX5_become 172 = .ok (.aload_n 0, 1) := by decide +kernel
theorem dX5_become_173 : decode cX5_become 173 = .ok (.aload_n 1, 1) := by decide +kernel
theorem dX5_become_174 : decode cX5_become 174 = .ok (.getfield 71, 3) := by decide +kernel
theorem dX5_become_177 : decode cX5_become 177 = .ok (.putfield 71, 3) := by decide +kernel
theorem dX5_become_180 : decode cX5_become 180 = .ok (.aload_n 1, 1) := by decide +kernel
theorem dX5_become_181 : decode cX5_become 181 = .ok (.getfield 36, 3) := by decide +kernel
theorem dX5_become_184 : decode cX5_become 184 = .ok (.iconst 0, 1) := by decide +kernel
theorem dX5_become_185 : decode cX5_become 185 = .ok (.aload_n 0, 1) := by decide +kernel
theorem dX5_become_186 : decode cX5_become 186 = .ok (.getfield 36, 3) := by decide +kernel
theorem dX5_become_189 : decode cX5_become 189 = .ok (.iconst 0, 1) := by decide +kernel
theorem dX5_become_190 : decode cX5_become 190 = .ok (.bipush 8, 2) := by decide +kernel
theorem dX5_become_192 : decode cX5_become 192 = .ok (.invokestatic 42, 3) := by decide +kernel
theorem dX5_become_195 : decode cX5_become 195 = .ok (.aload_n 1, 1) := by decide +kernel
theorem dX5_become_196 : decode cX5_become 196 = .ok (.getfield 39, 3) := by decide +kernel
theorem dX5_become_199 : decode cX5_become 199 = .ok (.iconst 0, 1) := by decide +kernel
theorem dX5_become_200 : decode cX5_become 200 = .ok (.aload_n 0, 1) := by decide +kernel
theorem dX5_become_201 : decode cX5_become 201 = .ok (.getfield 39, 3) := by decide +kernel
theorem dX5_become_204 : decode cX5_become 204 = .ok (.iconst 0, 1) := by decide +kernel
theorem dX5_become_205 : decode cX5_become 205 = .ok (.bipush 8, 2) := by decide +kernel
theorem dX5_become_207 : decode cX5_become 207 = .ok (.invokestatic 42, 3) := by decide +kernel
theorem dX5_become_210 : decode cX5_become 210 = .ok (.aload_n 0, 1) := by decide +kernel
theorem dX5_become_211 : decode cX5_become 211 = .ok (.aload_n 1, 1) := by decide +kernel
theorem dX5_become_212 : decode cX5_become 212 = .ok (.getfield 74, 3) := by decide +kernel
theorem dX5_become_215 : decode cX5_become 215 = .ok (.putfield 74, 3) := by decide +kernel
theorem dX5_become_218 : decode cX5_become 218 = .ok (.return_, 1) := by decide +kernel
set_option maxRecDepth 20000 in
theorem w_953 : (Cond.methodLink RX5 42 arraycopyName) ∈ TB := inTB (List.mem_of_getElem? (i := 953) (by decide +kernel)) (by decide +kernel)
set_option maxRecDepth 20000 in
theorem w_108 : (Cond.fieldLink RX5 9 RX5 "signs" "[I") ∈ TB := inTB (List.mem_of_getElem? (i := 108) (by decide +kernel)) (by decide +kernel)
set_option maxRecDepth 20000 in
theorem w_111 : (Cond.fieldLink RX5 48 RX5 "signCount" "I") ∈ TB := inTB (List.mem_of_getElem? (i := 111) (by decide +kernel)) (by decide +kernel)
set_option maxRecDepth 20000 in
theorem w_114 : (Cond.fieldLink RX5 56 RX5 "roomCount" "I") ∈ TB := inTB (List.mem_of_getElem? (i := 114) (by decide +kernel)) (by decide +kernel)
set_option maxRecDepth 20000 in
theorem w_126 : (Cond.fieldLink RX5 65 RX5 "goes" "I") ∈ TB := inTB (List.mem_of_getElem? (i := 126) (by decide +kernel)) (by decide +kernel)
set_option maxRecDepth 20000 in
theorem w_128 : (Cond.fieldLink RX5 27 RX5 "stepWays" "[I") ∈ TB := inTB (List.mem_of_getElem? (i := 128) (by decide +kernel)) (by decide +kernel)
set_option maxRecDepth 20000 in
theorem w_130 : (Cond.fieldLink RX5 30 RX5 "stepLengths" "[I") ∈ TB := inTB (List.mem_of_getElem? (i := 130) (by decide +kernel)) (by decide +kernel)
set_option maxRecDepth 20000 in
theorem w_132 : (Cond.fieldLink RX5 68 RX5 "stepCount" "I") ∈ TB := inTB (List.mem_of_getElem? (i := 132) (by decide +kernel)) (by decide +kernel)
set_option maxRecDepth 20000 in
theorem w_134 : (Cond.fieldLink RX5 33 RX5 "marks" "[I") ∈ TB := inTB (List.mem_of_getElem? (i := 134) (by decide +kernel)) (by decide +kernel)
set_option maxRecDepth 20000 in
theorem w_136 : (Cond.fieldLink RX5 71 RX5 "markCount" "I") ∈ TB := inTB (List.mem_of_getElem? (i := 136) (by decide +kernel)) (by decide +kernel)
set_option maxRecDepth 20000 in
theorem w_138 : (Cond.fieldLink RX5 36 RX5 "rowWalls" "[I") ∈ TB := inTB (List.mem_of_getElem? (i := 138) (by decide +kernel)) (by decide +kernel)
set_option maxRecDepth 20000 in
theorem w_140 : (Cond.fieldLink RX5 39 RX5 "rowLengths" "[I") ∈ TB := inTB (List.mem_of_getElem? (i := 140) (by decide +kernel)) (by decide +kernel)
set_option maxRecDepth 20000 in
theorem w_142 : (Cond.fieldLink RX5 74 RX5 "rowCount" "I") ∈ TB := inTB (List.mem_of_getElem? (i := 142) (by decide +kernel)) (by decide +kernel)

def f_bc40 (σ : St) : St := (up2 (upC (upC (up2 (upC (up2 (upC (upC (up2 (up2 (upC (upC (up2 (up2 (up2 (upC σ 40 (va_cpy (σ 20) (σ 40) 0 0 100)) 41 0 (σ 21 0)) 43 0 (σ 23 0)) 45 0 (σ 25 0)) 46 (va_cpy (σ 26) (σ 46) 0 0 6)) 47 (va_cpy (σ 27) (σ 47) 0 0 6)) 48 0 (σ 28 0)) 49 0 (σ 29 0)) 50 (va_cpy (σ 30) (σ 50) 0 0 8)) 51 (va_cpy (σ 31) (σ 51) 0 0 8)) 52 0 (σ 32 0)) 53 (va_cpy (σ 33) (σ 53) 0 0 6)) 54 0 (σ 34 0)) 55 (va_cpy (σ 35) (σ 55) 0 0 8)) 56 (va_cpy (σ 36) (σ 56) 0 0 8)) 57 0 (σ 37 0))
def r_bc40 (ρ : RR) : RR := (upR (upR ρ 42 (fun _ => ρ 22 0)) 44 (mixO (ρ 24) (ρ 44) 6))
set_option maxHeartbeats 4000000 in
set_option maxRecDepth 20000 in
theorem k_X5_become_40 (l : Launch) (g : GG) (ρ : RR) (dt : Nat → Nat → Int32) (σ : St) : Met l yX5_become (wsF yX5_become cX5_become 3 none) { frames := 1, cells := 0, slots := 0, locals := 30 } (va_Pc [.ref (g.2.2 102), .ref (g.2.2 101)] (GB g (xW g ρ) (XB g ρ dt) σ)) (va_Qv (fun _ : Unit => True) (fun _ t => va_P g.1 vwCl (xW g (r_bc40 ρ) (f_bc40 σ)) t.heap) (AX g)) 0 0 (AX g) := by
  refine start_X (by decide) (Nat.le_of_ble_eq_true rfl) ?_
  intro p e s m args below meth c C0 hin hB0 ls hl
  obtain ⟨hx, hb, hr, hml, hown, hts, hlocks⟩ := id C0
  obtain ⟨hK, hP, hDD, hB⟩ := hB0
  have hB : XH g ρ dt s.heap := hB
  have hl : lv_has ls 3 [(0, .ref (g.2.2 102)), (1, .ref (g.2.2 101))] := hl
  have hS : va_S (AX g) s.heap s.heap [] := va_S.rf
  have hD : va_D (AX g) (xW g ρ σ) := AX_D hDD (fun _ h => h)
  have tail : ∀ (ls : Array Slot) (H : Heap) (locs : List Loc), lv_has ls 3 [(0, .ref (g.2.2 102)), (1, .ref (g.2.2 101))] → va_P g.1 vwCl (xW g (upR (upR ρ 42 (fun _ => ρ 22 0)) 44 (mixO (ρ 24) (ρ 44) 6)) (up2 (up2 (upC σ 40 (va_cpy (σ 20) (σ 40) 0 0 100)) 41 0 (σ 21 0)) 43 0 (σ 23 0))) H → va_D (AX g) (xW g (upR (upR ρ 42 (fun _ => ρ 22 0)) 44 (mixO (ρ 24) (ρ 44) 6)) (up2 (up2 (upC σ 40 (va_cpy (σ 20) (σ 40) 0 0 100)) 41 0 (σ 21 0)) 43 0 (σ 23 0))) → va_S (AX g) s.heap H locs → W p l e { frames := 1, cells := 0, slots := 0, locals := 30 } s m args below meth c H locs 0 0 (MQ below (va_Qv (fun _ : Unit => True) (fun _ t => va_P g.1 vwCl (xW g (r_bc40 ρ) (f_bc40 σ)) t.heap) (AX g)) args s 0 0 (AX g)) (F0 m 65 ls []) := fun ls H locs hl hP hD hS => by
    refine lv_aload_n hx hb dX5_become_65 rfl (lv_at hl 0 rfl) ?_
    refine lv_aload_n hx hb dX5_become_66 rfl (lv_at hl 1 rfl) ?_
    refine x_get (σ := (up2 (up2 (upC σ 40 (va_cpy (σ 20) (σ 40) 0 0 100)) 41 0 (σ 21 0)) 43 0 (σ 23 0))) (v := .int (σ 25 0)) (fs := xF1 g (upR (upR ρ 42 (fun _ => ρ 22 0)) 44 (mixO (ρ 24) (ρ 44) 6)) (up2 (up2 (upC σ 40 (va_cpy (σ 20) (σ 40) 0 0 100)) 41 0 (σ 21 0)) 43 0 (σ 23 0))) 5 1 C0 uw_5 dc_5 hK hP rfl rfl 5 (by decide) rfl w_118 dX5_become_67 ?_
    refine va_put (D := g.1) (ci := 5) (v := .int (σ 25 0)) (ty := .int) (C := RX5) (T := TX5) (N := 18) (fs := xF2 g (upR (upR ρ 42 (fun _ => ρ 22 0)) 44 (mixO (ρ 24) (ρ 44) 6)) (up2 (up2 (upC σ 40 (va_cpy (σ 20) (σ 40) 0 0 100)) 41 0 (σ 21 0)) 43 0 (σ 23 0))) hx hb hts uw_5 tyX5 tyX5_ok nmX5 hown hK.1 hP hD hS 2 rfl rfl 5 (by decide) (hts _ w_118) (fun x h => by rw [← dc_5 5]; exact h) rfl rfl rfl rfl (Nat.le_of_ble_eq_true rfl) dX5_become_70 (fun H locs hP hD hS => ?_)
    have hP : va_P g.1 vwCl (xW g (upR (upR ρ 42 (fun _ => ρ 22 0)) 44 (mixO (ρ 24) (ρ 44) 6)) (up2 (up2 (up2 (upC σ 40 (va_cpy (σ 20) (σ 40) 0 0 100)) 41 0 (σ 21 0)) 43 0 (σ 23 0)) 45 0 (σ 25 0))) H := hP
    have hD : va_D (AX g) (xW g (upR (upR ρ 42 (fun _ => ρ 22 0)) 44 (mixO (ρ 24) (ρ 44) 6)) (up2 (up2 (up2 (upC σ 40 (va_cpy (σ 20) (σ 40) 0 0 100)) 41 0 (σ 21 0)) 43 0 (σ 23 0)) 45 0 (σ 25 0))) := hD
    refine lv_aload_n hx hb dX5_become_73 rfl (lv_at hl 1 rfl) ?_
    refine x_get (σ := (up2 (up2 (up2 (upC σ 40 (va_cpy (σ 20) (σ 40) 0 0 100)) 41 0 (σ 21 0)) 43 0 (σ 23 0)) 45 0 (σ 25 0))) (v := .ref (g.2.2 26)) (fs := xF1 g (upR (upR ρ 42 (fun _ => ρ 22 0)) 44 (mixO (ρ 24) (ρ 44) 6)) (up2 (up2 (up2 (upC σ 40 (va_cpy (σ 20) (σ 40) 0 0 100)) 41 0 (σ 21 0)) 43 0 (σ 23 0)) 45 0 (σ 25 0))) 5 1 C0 uw_5 dc_5 hK hP rfl rfl 6 (by decide) rfl w_120 dX5_become_74 ?_
    refine lv_iconst (v := 0) hx hb dX5_become_77 (by decide) ?_
    refine lv_aload_n hx hb dX5_become_78 rfl (lv_at hl 0 rfl) ?_
    refine x_get (σ := (up2 (up2 (up2 (upC σ 40 (va_cpy (σ 20) (σ 40) 0 0 100)) 41 0 (σ 21 0)) 43 0 (σ 23 0)) 45 0 (σ 25 0))) (v := .ref (g.2.2 46)) (fs := xF2 g (upR (upR ρ 42 (fun _ => ρ 22 0)) 44 (mixO (ρ 24) (ρ 44) 6)) (up2 (up2 (up2 (upC σ 40 (va_cpy (σ 20) (σ 40) 0 0 100)) 41 0 (σ 21 0)) 43 0 (σ 23 0)) 45 0 (σ 25 0))) 5 2 C0 uw_5 dc_5 hK hP rfl rfl 6 (by decide) rfl w_120 dX5_become_79 ?_
    refine lv_iconst (v := 0) hx hb dX5_become_82 (by decide) ?_
    refine lv_bipush (v := 6) hx hb dX5_become_83 (by decide) ?_
    refine va_copyi hx hb (hml.trans hl.1.symm) hown (hts _ w_953) (hts _ w_442) (hts _ w_441) (hts _ w_84) hK.1 hP hD hS 11 19 0 0 (n0 := 6) (n1 := 6) (f := σ 26) (g := σ 46) rfl rfl rfl rfl rfl (by decide) (by decide) (by decide) (by decide) (by decide) (fun i hi => rfl) (Nat.le_refl 1) (Nat.le_of_ble_eq_true rfl) dX5_become_85 (fun H locs hP hD hS => ?_)
    have hP : va_P g.1 vwCl (xW g (upR (upR ρ 42 (fun _ => ρ 22 0)) 44 (mixO (ρ 24) (ρ 44) 6)) (upC (up2 (up2 (up2 (upC σ 40 (va_cpy (σ 20) (σ 40) 0 0 100)) 41 0 (σ 21 0)) 43 0 (σ 23 0)) 45 0 (σ 25 0)) 46 (va_cpy (σ 26) (σ 46) 0 0 6))) H := hP
    have hD : va_D (AX g) (xW g (upR (upR ρ 42 (fun _ => ρ 22 0)) 44 (mixO (ρ 24) (ρ 44) 6)) (upC (up2 (up2 (up2 (upC σ 40 (va_cpy (σ 20) (σ 40) 0 0 100)) 41 0 (σ 21 0)) 43 0 (σ 23 0)) 45 0 (σ 25 0)) 46 (va_cpy (σ 26) (σ 46) 0 0 6))) := hD
    refine lv_aload_n hx hb dX5_become_88 rfl (lv_at hl 1 rfl) ?_
    refine x_get (σ := (upC (up2 (up2 (up2 (upC σ 40 (va_cpy (σ 20) (σ 40) 0 0 100)) 41 0 (σ 21 0)) 43 0 (σ 23 0)) 45 0 (σ 25 0)) 46 (va_cpy (σ 26) (σ 46) 0 0 6))) (v := .ref (g.2.2 27)) (fs := xF1 g (upR (upR ρ 42 (fun _ => ρ 22 0)) 44 (mixO (ρ 24) (ρ 44) 6)) (upC (up2 (up2 (up2 (upC σ 40 (va_cpy (σ 20) (σ 40) 0 0 100)) 41 0 (σ 21 0)) 43 0 (σ 23 0)) 45 0 (σ 25 0)) 46 (va_cpy (σ 26) (σ 46) 0 0 6))) 5 1 C0 uw_5 dc_5 hK hP rfl rfl 7 (by decide) rfl w_122 dX5_become_89 ?_
    refine lv_iconst (v := 0) hx hb dX5_become_92 (by decide) ?_
    refine lv_aload_n hx hb dX5_become_93 rfl (lv_at hl 0 rfl) ?_
    refine x_get (σ := (upC (up2 (up2 (up2 (upC σ 40 (va_cpy (σ 20) (σ 40) 0 0 100)) 41 0 (σ 21 0)) 43 0 (σ 23 0)) 45 0 (σ 25 0)) 46 (va_cpy (σ 26) (σ 46) 0 0 6))) (v := .ref (g.2.2 47)) (fs := xF2 g (upR (upR ρ 42 (fun _ => ρ 22 0)) 44 (mixO (ρ 24) (ρ 44) 6)) (upC (up2 (up2 (up2 (upC σ 40 (va_cpy (σ 20) (σ 40) 0 0 100)) 41 0 (σ 21 0)) 43 0 (σ 23 0)) 45 0 (σ 25 0)) 46 (va_cpy (σ 26) (σ 46) 0 0 6))) 5 2 C0 uw_5 dc_5 hK hP rfl rfl 7 (by decide) rfl w_122 dX5_become_94 ?_
    refine lv_iconst (v := 0) hx hb dX5_become_97 (by decide) ?_
    refine lv_bipush (v := 6) hx hb dX5_become_98 (by decide) ?_
    refine va_copyi hx hb (hml.trans hl.1.symm) hown (hts _ w_953) (hts _ w_442) (hts _ w_441) (hts _ w_84) hK.1 hP hD hS 12 20 0 0 (n0 := 6) (n1 := 6) (f := σ 27) (g := σ 47) rfl rfl rfl rfl rfl (by decide) (by decide) (by decide) (by decide) (by decide) (fun i hi => rfl) (Nat.le_refl 1) (Nat.le_of_ble_eq_true rfl) dX5_become_100 (fun H locs hP hD hS => ?_)
    have hP : va_P g.1 vwCl (xW g (upR (upR ρ 42 (fun _ => ρ 22 0)) 44 (mixO (ρ 24) (ρ 44) 6)) (upC (upC (up2 (up2 (up2 (upC σ 40 (va_cpy (σ 20) (σ 40) 0 0 100)) 41 0 (σ 21 0)) 43 0 (σ 23 0)) 45 0 (σ 25 0)) 46 (va_cpy (σ 26) (σ 46) 0 0 6)) 47 (va_cpy (σ 27) (σ 47) 0 0 6))) H := hP
    have hD : va_D (AX g) (xW g (upR (upR ρ 42 (fun _ => ρ 22 0)) 44 (mixO (ρ 24) (ρ 44) 6)) (upC (upC (up2 (up2 (up2 (upC σ 40 (va_cpy (σ 20) (σ 40) 0 0 100)) 41 0 (σ 21 0)) 43 0 (σ 23 0)) 45 0 (σ 25 0)) 46 (va_cpy (σ 26) (σ 46) 0 0 6)) 47 (va_cpy (σ 27) (σ 47) 0 0 6))) := hD
    refine lv_aload_n hx hb dX5_become_103 rfl (lv_at hl 0 rfl) ?_
    refine lv_aload_n hx hb dX5_become_104 rfl (lv_at hl 1 rfl) ?_
    refine x_get (σ := (upC (upC (up2 (up2 (up2 (upC σ 40 (va_cpy (σ 20) (σ 40) 0 0 100)) 41 0 (σ 21 0)) 43 0 (σ 23 0)) 45 0 (σ 25 0)) 46 (va_cpy (σ 26) (σ 46) 0 0 6)) 47 (va_cpy (σ 27) (σ 47) 0 0 6))) (v := .int (σ 28 0)) (fs := xF1 g (upR (upR ρ 42 (fun _ => ρ 22 0)) 44 (mixO (ρ 24) (ρ 44) 6)) (upC (upC (up2 (up2 (up2 (upC σ 40 (va_cpy (σ 20) (σ 40) 0 0 100)) 41 0 (σ 21 0)) 43 0 (σ 23 0)) 45 0 (σ 25 0)) 46 (va_cpy (σ 26) (σ 46) 0 0 6)) 47 (va_cpy (σ 27) (σ 47) 0 0 6))) 5 1 C0 uw_5 dc_5 hK hP rfl rfl 8 (by decide) rfl w_124 dX5_become_105 ?_
    refine va_put (D := g.1) (ci := 5) (v := .int (σ 28 0)) (ty := .int) (C := RX5) (T := TX5) (N := 18) (fs := xF2 g (upR (upR ρ 42 (fun _ => ρ 22 0)) 44 (mixO (ρ 24) (ρ 44) 6)) (upC (upC (up2 (up2 (up2 (upC σ 40 (va_cpy (σ 20) (σ 40) 0 0 100)) 41 0 (σ 21 0)) 43 0 (σ 23 0)) 45 0 (σ 25 0)) 46 (va_cpy (σ 26) (σ 46) 0 0 6)) 47 (va_cpy (σ 27) (σ 47) 0 0 6))) hx hb hts uw_5 tyX5 tyX5_ok nmX5 hown hK.1 hP hD hS 2 rfl rfl 8 (by decide) (hts _ w_124) (fun x h => by rw [← dc_5 8]; exact h) rfl rfl rfl rfl (Nat.le_of_ble_eq_true rfl) dX5_become_108 (fun H locs hP hD hS => ?_)
    have hP : va_P g.1 vwCl (xW g (upR (upR ρ 42 (fun _ => ρ 22 0)) 44 (mixO (ρ 24) (ρ 44) 6)) (up2 (upC (upC (up2 (up2 (up2 (upC σ 40 (va_cpy (σ 20) (σ 40) 0 0 100)) 41 0 (σ 21 0)) 43 0 (σ 23 0)) 45 0 (σ 25 0)) 46 (va_cpy (σ 26) (σ 46) 0 0 6)) 47 (va_cpy (σ 27) (σ 47) 0 0 6)) 48 0 (σ 28 0))) H := hP
    have hD : va_D (AX g) (xW g (upR (upR ρ 42 (fun _ => ρ 22 0)) 44 (mixO (ρ 24) (ρ 44) 6)) (up2 (upC (upC (up2 (up2 (up2 (upC σ 40 (va_cpy (σ 20) (σ 40) 0 0 100)) 41 0 (σ 21 0)) 43 0 (σ 23 0)) 45 0 (σ 25 0)) 46 (va_cpy (σ 26) (σ 46) 0 0 6)) 47 (va_cpy (σ 27) (σ 47) 0 0 6)) 48 0 (σ 28 0))) := hD
    refine lv_aload_n hx hb dX5_become_111 rfl (lv_at hl 0 rfl) ?_
    refine lv_aload_n hx hb dX5_become_112 rfl (lv_at hl 1 rfl) ?_
    refine x_get (σ := (up2 (upC (upC (up2 (up2 (up2 (upC σ 40 (va_cpy (σ 20) (σ 40) 0 0 100)) 41 0 (σ 21 0)) 43 0 (σ 23 0)) 45 0 (σ 25 0)) 46 (va_cpy (σ 26) (σ 46) 0 0 6)) 47 (va_cpy (σ 27) (σ 47) 0 0 6)) 48 0 (σ 28 0))) (v := .int (σ 29 0)) (fs := xF1 g (upR (upR ρ 42 (fun _ => ρ 22 0)) 44 (mixO (ρ 24) (ρ 44) 6)) (up2 (upC (upC (up2 (up2 (up2 (upC σ 40 (va_cpy (σ 20) (σ 40) 0 0 100)) 41 0 (σ 21 0)) 43 0 (σ 23 0)) 45 0 (σ 25 0)) 46 (va_cpy (σ 26) (σ 46) 0 0 6)) 47 (va_cpy (σ 27) (σ 47) 0 0 6)) 48 0 (σ 28 0))) 5 1 C0 uw_5 dc_5 hK hP rfl rfl 9 (by decide) rfl w_126 dX5_become_113 ?_
    refine va_put (D := g.1) (ci := 5) (v := .int (σ 29 0)) (ty := .int) (C := RX5) (T := TX5) (N := 18) (fs := xF2 g (upR (upR ρ 42 (fun _ => ρ 22 0)) 44 (mixO (ρ 24) (ρ 44) 6)) (up2 (upC (upC (up2 (up2 (up2 (upC σ 40 (va_cpy (σ 20) (σ 40) 0 0 100)) 41 0 (σ 21 0)) 43 0 (σ 23 0)) 45 0 (σ 25 0)) 46 (va_cpy (σ 26) (σ 46) 0 0 6)) 47 (va_cpy (σ 27) (σ 47) 0 0 6)) 48 0 (σ 28 0))) hx hb hts uw_5 tyX5 tyX5_ok nmX5 hown hK.1 hP hD hS 2 rfl rfl 9 (by decide) (hts _ w_126) (fun x h => by rw [← dc_5 9]; exact h) rfl rfl rfl rfl (Nat.le_of_ble_eq_true rfl) dX5_become_116 (fun H locs hP hD hS => ?_)
    have hP : va_P g.1 vwCl (xW g (upR (upR ρ 42 (fun _ => ρ 22 0)) 44 (mixO (ρ 24) (ρ 44) 6)) (up2 (up2 (upC (upC (up2 (up2 (up2 (upC σ 40 (va_cpy (σ 20) (σ 40) 0 0 100)) 41 0 (σ 21 0)) 43 0 (σ 23 0)) 45 0 (σ 25 0)) 46 (va_cpy (σ 26) (σ 46) 0 0 6)) 47 (va_cpy (σ 27) (σ 47) 0 0 6)) 48 0 (σ 28 0)) 49 0 (σ 29 0))) H := hP
    have hD : va_D (AX g) (xW g (upR (upR ρ 42 (fun _ => ρ 22 0)) 44 (mixO (ρ 24) (ρ 44) 6)) (up2 (up2 (upC (upC (up2 (up2 (up2 (upC σ 40 (va_cpy (σ 20) (σ 40) 0 0 100)) 41 0 (σ 21 0)) 43 0 (σ 23 0)) 45 0 (σ 25 0)) 46 (va_cpy (σ 26) (σ 46) 0 0 6)) 47 (va_cpy (σ 27) (σ 47) 0 0 6)) 48 0 (σ 28 0)) 49 0 (σ 29 0))) := hD
    refine lv_aload_n hx hb dX5_become_119 rfl (lv_at hl 1 rfl) ?_
    refine x_get (σ := (up2 (up2 (upC (upC (up2 (up2 (up2 (upC σ 40 (va_cpy (σ 20) (σ 40) 0 0 100)) 41 0 (σ 21 0)) 43 0 (σ 23 0)) 45 0 (σ 25 0)) 46 (va_cpy (σ 26) (σ 46) 0 0 6)) 47 (va_cpy (σ 27) (σ 47) 0 0 6)) 48 0 (σ 28 0)) 49 0 (σ 29 0))) (v := .ref (g.2.2 30)) (fs := xF1 g (upR (upR ρ 42 (fun _ => ρ 22 0)) 44 (mixO (ρ 24) (ρ 44) 6)) (up2 (up2 (upC (upC (up2 (up2 (up2 (upC σ 40 (va_cpy (σ 20) (σ 40) 0 0 100)) 41 0 (σ 21 0)) 43 0 (σ 23 0)) 45 0 (σ 25 0)) 46 (va_cpy (σ 26) (σ 46) 0 0 6)) 47 (va_cpy (σ 27) (σ 47) 0 0 6)) 48 0 (σ 28 0)) 49 0 (σ 29 0))) 5 1 C0 uw_5 dc_5 hK hP rfl rfl 10 (by decide) rfl w_128 dX5_become_120 ?_
    refine lv_iconst (v := 0) hx hb dX5_become_123 (by decide) ?_
    refine lv_aload_n hx hb dX5_become_124 rfl (lv_at hl 0 rfl) ?_
    refine x_get (σ := (up2 (up2 (upC (upC (up2 (up2 (up2 (upC σ 40 (va_cpy (σ 20) (σ 40) 0 0 100)) 41 0 (σ 21 0)) 43 0 (σ 23 0)) 45 0 (σ 25 0)) 46 (va_cpy (σ 26) (σ 46) 0 0 6)) 47 (va_cpy (σ 27) (σ 47) 0 0 6)) 48 0 (σ 28 0)) 49 0 (σ 29 0))) (v := .ref (g.2.2 50)) (fs := xF2 g (upR (upR ρ 42 (fun _ => ρ 22 0)) 44 (mixO (ρ 24) (ρ 44) 6)) (up2 (up2 (upC (upC (up2 (up2 (up2 (upC σ 40 (va_cpy (σ 20) (σ 40) 0 0 100)) 41 0 (σ 21 0)) 43 0 (σ 23 0)) 45 0 (σ 25 0)) 46 (va_cpy (σ 26) (σ 46) 0 0 6)) 47 (va_cpy (σ 27) (σ 47) 0 0 6)) 48 0 (σ 28 0)) 49 0 (σ 29 0))) 5 2 C0 uw_5 dc_5 hK hP rfl rfl 10 (by decide) rfl w_128 dX5_become_125 ?_
    refine lv_iconst (v := 0) hx hb dX5_become_128 (by decide) ?_
    refine lv_bipush (v := 8) hx hb dX5_become_129 (by decide) ?_
    refine va_copyi hx hb (hml.trans hl.1.symm) hown (hts _ w_953) (hts _ w_442) (hts _ w_441) (hts _ w_84) hK.1 hP hD hS 13 21 0 0 (n0 := 8) (n1 := 8) (f := σ 30) (g := σ 50) rfl rfl rfl rfl rfl (by decide) (by decide) (by decide) (by decide) (by decide) (fun i hi => rfl) (Nat.le_refl 1) (Nat.le_of_ble_eq_true rfl) dX5_become_131 (fun H locs hP hD hS => ?_)
    have hP : va_P g.1 vwCl (xW g (upR (upR ρ 42 (fun _ => ρ 22 0)) 44 (mixO (ρ 24) (ρ 44) 6)) (upC (up2 (up2 (upC (upC (up2 (up2 (up2 (upC σ 40 (va_cpy (σ 20) (σ 40) 0 0 100)) 41 0 (σ 21 0)) 43 0 (σ 23 0)) 45 0 (σ 25 0)) 46 (va_cpy (σ 26) (σ 46) 0 0 6)) 47 (va_cpy (σ 27) (σ 47) 0 0 6)) 48 0 (σ 28 0)) 49 0 (σ 29 0)) 50 (va_cpy (σ 30) (σ 50) 0 0 8))) H := hP
    have hD : va_D (AX g) (xW g (upR (upR ρ 42 (fun _ => ρ 22 0)) 44 (mixO (ρ 24) (ρ 44) 6)) (upC (up2 (up2 (upC (upC (up2 (up2 (up2 (upC σ 40 (va_cpy (σ 20) (σ 40) 0 0 100)) 41 0 (σ 21 0)) 43 0 (σ 23 0)) 45 0 (σ 25 0)) 46 (va_cpy (σ 26) (σ 46) 0 0 6)) 47 (va_cpy (σ 27) (σ 47) 0 0 6)) 48 0 (σ 28 0)) 49 0 (σ 29 0)) 50 (va_cpy (σ 30) (σ 50) 0 0 8))) := hD
    refine lv_aload_n hx hb dX5_become_134 rfl (lv_at hl 1 rfl) ?_
    refine x_get (σ := (upC (up2 (up2 (upC (upC (up2 (up2 (up2 (upC σ 40 (va_cpy (σ 20) (σ 40) 0 0 100)) 41 0 (σ 21 0)) 43 0 (σ 23 0)) 45 0 (σ 25 0)) 46 (va_cpy (σ 26) (σ 46) 0 0 6)) 47 (va_cpy (σ 27) (σ 47) 0 0 6)) 48 0 (σ 28 0)) 49 0 (σ 29 0)) 50 (va_cpy (σ 30) (σ 50) 0 0 8))) (v := .ref (g.2.2 31)) (fs := xF1 g (upR (upR ρ 42 (fun _ => ρ 22 0)) 44 (mixO (ρ 24) (ρ 44) 6)) (upC (up2 (up2 (upC (upC (up2 (up2 (up2 (upC σ 40 (va_cpy (σ 20) (σ 40) 0 0 100)) 41 0 (σ 21 0)) 43 0 (σ 23 0)) 45 0 (σ 25 0)) 46 (va_cpy (σ 26) (σ 46) 0 0 6)) 47 (va_cpy (σ 27) (σ 47) 0 0 6)) 48 0 (σ 28 0)) 49 0 (σ 29 0)) 50 (va_cpy (σ 30) (σ 50) 0 0 8))) 5 1 C0 uw_5 dc_5 hK hP rfl rfl 11 (by decide) rfl w_130 dX5_become_135 ?_
    refine lv_iconst (v := 0) hx hb dX5_become_138 (by decide) ?_
    refine lv_aload_n hx hb dX5_become_139 rfl (lv_at hl 0 rfl) ?_
    refine x_get (σ := (upC (up2 (up2 (upC (upC (up2 (up2 (up2 (upC σ 40 (va_cpy (σ 20) (σ 40) 0 0 100)) 41 0 (σ 21 0)) 43 0 (σ 23 0)) 45 0 (σ 25 0)) 46 (va_cpy (σ 26) (σ 46) 0 0 6)) 47 (va_cpy (σ 27) (σ 47) 0 0 6)) 48 0 (σ 28 0)) 49 0 (σ 29 0)) 50 (va_cpy (σ 30) (σ 50) 0 0 8))) (v := .ref (g.2.2 51)) (fs := xF2 g (upR (upR ρ 42 (fun _ => ρ 22 0)) 44 (mixO (ρ 24) (ρ 44) 6)) (upC (up2 (up2 (upC (upC (up2 (up2 (up2 (upC σ 40 (va_cpy (σ 20) (σ 40) 0 0 100)) 41 0 (σ 21 0)) 43 0 (σ 23 0)) 45 0 (σ 25 0)) 46 (va_cpy (σ 26) (σ 46) 0 0 6)) 47 (va_cpy (σ 27) (σ 47) 0 0 6)) 48 0 (σ 28 0)) 49 0 (σ 29 0)) 50 (va_cpy (σ 30) (σ 50) 0 0 8))) 5 2 C0 uw_5 dc_5 hK hP rfl rfl 11 (by decide) rfl w_130 dX5_become_140 ?_
    refine lv_iconst (v := 0) hx hb dX5_become_143 (by decide) ?_
    refine lv_bipush (v := 8) hx hb dX5_become_144 (by decide) ?_
    refine va_copyi hx hb (hml.trans hl.1.symm) hown (hts _ w_953) (hts _ w_442) (hts _ w_441) (hts _ w_84) hK.1 hP hD hS 14 22 0 0 (n0 := 8) (n1 := 8) (f := σ 31) (g := σ 51) rfl rfl rfl rfl rfl (by decide) (by decide) (by decide) (by decide) (by decide) (fun i hi => rfl) (Nat.le_refl 1) (Nat.le_of_ble_eq_true rfl) dX5_become_146 (fun H locs hP hD hS => ?_)
    have hP : va_P g.1 vwCl (xW g (upR (upR ρ 42 (fun _ => ρ 22 0)) 44 (mixO (ρ 24) (ρ 44) 6)) (upC (upC (up2 (up2 (upC (upC (up2 (up2 (up2 (upC σ 40 (va_cpy (σ 20) (σ 40) 0 0 100)) 41 0 (σ 21 0)) 43 0 (σ 23 0)) 45 0 (σ 25 0)) 46 (va_cpy (σ 26) (σ 46) 0 0 6)) 47 (va_cpy (σ 27) (σ 47) 0 0 6)) 48 0 (σ 28 0)) 49 0 (σ 29 0)) 50 (va_cpy (σ 30) (σ 50) 0 0 8)) 51 (va_cpy (σ 31) (σ 51) 0 0 8))) H := hP
    have hD : va_D (AX g) (xW g (upR (upR ρ 42 (fun _ => ρ 22 0)) 44 (mixO (ρ 24) (ρ 44) 6)) (upC (upC (up2 (up2 (upC (upC (up2 (up2 (up2 (upC σ 40 (va_cpy (σ 20) (σ 40) 0 0 100)) 41 0 (σ 21 0)) 43 0 (σ 23 0)) 45 0 (σ 25 0)) 46 (va_cpy (σ 26) (σ 46) 0 0 6)) 47 (va_cpy (σ 27) (σ 47) 0 0 6)) 48 0 (σ 28 0)) 49 0 (σ 29 0)) 50 (va_cpy (σ 30) (σ 50) 0 0 8)) 51 (va_cpy (σ 31) (σ 51) 0 0 8))) := hD
    refine lv_aload_n hx hb dX5_become_149 rfl (lv_at hl 0 rfl) ?_
    refine lv_aload_n hx hb dX5_become_150 rfl (lv_at hl 1 rfl) ?_
    refine x_get (σ := (upC (upC (up2 (up2 (upC (upC (up2 (up2 (up2 (upC σ 40 (va_cpy (σ 20) (σ 40) 0 0 100)) 41 0 (σ 21 0)) 43 0 (σ 23 0)) 45 0 (σ 25 0)) 46 (va_cpy (σ 26) (σ 46) 0 0 6)) 47 (va_cpy (σ 27) (σ 47) 0 0 6)) 48 0 (σ 28 0)) 49 0 (σ 29 0)) 50 (va_cpy (σ 30) (σ 50) 0 0 8)) 51 (va_cpy (σ 31) (σ 51) 0 0 8))) (v := .int (σ 32 0)) (fs := xF1 g (upR (upR ρ 42 (fun _ => ρ 22 0)) 44 (mixO (ρ 24) (ρ 44) 6)) (upC (upC (up2 (up2 (upC (upC (up2 (up2 (up2 (upC σ 40 (va_cpy (σ 20) (σ 40) 0 0 100)) 41 0 (σ 21 0)) 43 0 (σ 23 0)) 45 0 (σ 25 0)) 46 (va_cpy (σ 26) (σ 46) 0 0 6)) 47 (va_cpy (σ 27) (σ 47) 0 0 6)) 48 0 (σ 28 0)) 49 0 (σ 29 0)) 50 (va_cpy (σ 30) (σ 50) 0 0 8)) 51 (va_cpy (σ 31) (σ 51) 0 0 8))) 5 1 C0 uw_5 dc_5 hK hP rfl rfl 12 (by decide) rfl w_132 dX5_become_151 ?_
    refine va_put (D := g.1) (ci := 5) (v := .int (σ 32 0)) (ty := .int) (C := RX5) (T := TX5) (N := 18) (fs := xF2 g (upR (upR ρ 42 (fun _ => ρ 22 0)) 44 (mixO (ρ 24) (ρ 44) 6)) (upC (upC (up2 (up2 (upC (upC (up2 (up2 (up2 (upC σ 40 (va_cpy (σ 20) (σ 40) 0 0 100)) 41 0 (σ 21 0)) 43 0 (σ 23 0)) 45 0 (σ 25 0)) 46 (va_cpy (σ 26) (σ 46) 0 0 6)) 47 (va_cpy (σ 27) (σ 47) 0 0 6)) 48 0 (σ 28 0)) 49 0 (σ 29 0)) 50 (va_cpy (σ 30) (σ 50) 0 0 8)) 51 (va_cpy (σ 31) (σ 51) 0 0 8))) hx hb hts uw_5 tyX5 tyX5_ok nmX5 hown hK.1 hP hD hS 2 rfl rfl 12 (by decide) (hts _ w_132) (fun x h => by rw [← dc_5 12]; exact h) rfl rfl rfl rfl (Nat.le_of_ble_eq_true rfl) dX5_become_154 (fun H locs hP hD hS => ?_)
    have hP : va_P g.1 vwCl (xW g (upR (upR ρ 42 (fun _ => ρ 22 0)) 44 (mixO (ρ 24) (ρ 44) 6)) (up2 (upC (upC (up2 (up2 (upC (upC (up2 (up2 (up2 (upC σ 40 (va_cpy (σ 20) (σ 40) 0 0 100)) 41 0 (σ 21 0)) 43 0 (σ 23 0)) 45 0 (σ 25 0)) 46 (va_cpy (σ 26) (σ 46) 0 0 6)) 47 (va_cpy (σ 27) (σ 47) 0 0 6)) 48 0 (σ 28 0)) 49 0 (σ 29 0)) 50 (va_cpy (σ 30) (σ 50) 0 0 8)) 51 (va_cpy (σ 31) (σ 51) 0 0 8)) 52 0 (σ 32 0))) H := hP
    have hD : va_D (AX g) (xW g (upR (upR ρ 42 (fun _ => ρ 22 0)) 44 (mixO (ρ 24) (ρ 44) 6)) (up2 (upC (upC (up2 (up2 (upC (upC (up2 (up2 (up2 (upC σ 40 (va_cpy (σ 20) (σ 40) 0 0 100)) 41 0 (σ 21 0)) 43 0 (σ 23 0)) 45 0 (σ 25 0)) 46 (va_cpy (σ 26) (σ 46) 0 0 6)) 47 (va_cpy (σ 27) (σ 47) 0 0 6)) 48 0 (σ 28 0)) 49 0 (σ 29 0)) 50 (va_cpy (σ 30) (σ 50) 0 0 8)) 51 (va_cpy (σ 31) (σ 51) 0 0 8)) 52 0 (σ 32 0))) := hD
    refine lv_aload_n hx hb dX5_become_157 rfl (lv_at hl 1 rfl) ?_
    refine x_get (σ := (up2 (upC (upC (up2 (up2 (upC (upC (up2 (up2 (up2 (upC σ 40 (va_cpy (σ 20) (σ 40) 0 0 100)) 41 0 (σ 21 0)) 43 0 (σ 23 0)) 45 0 (σ 25 0)) 46 (va_cpy (σ 26) (σ 46) 0 0 6)) 47 (va_cpy (σ 27) (σ 47) 0 0 6)) 48 0 (σ 28 0)) 49 0 (σ 29 0)) 50 (va_cpy (σ 30) (σ 50) 0 0 8)) 51 (va_cpy (σ 31) (σ 51) 0 0 8)) 52 0 (σ 32 0))) (v := .ref (g.2.2 33)) (fs := xF1 g (upR (upR ρ 42 (fun _ => ρ 22 0)) 44 (mixO (ρ 24) (ρ 44) 6)) (up2 (upC (upC (up2 (up2 (upC (upC (up2 (up2 (up2 (upC σ 40 (va_cpy (σ 20) (σ 40) 0 0 100)) 41 0 (σ 21 0)) 43 0 (σ 23 0)) 45 0 (σ 25 0)) 46 (va_cpy (σ 26) (σ 46) 0 0 6)) 47 (va_cpy (σ 27) (σ 47) 0 0 6)) 48 0 (σ 28 0)) 49 0 (σ 29 0)) 50 (va_cpy (σ 30) (σ 50) 0 0 8)) 51 (va_cpy (σ 31) (σ 51) 0 0 8)) 52 0 (σ 32 0))) 5 1 C0 uw_5 dc_5 hK hP rfl rfl 13 (by decide) rfl w_134 dX5_become_158 ?_
    refine lv_iconst (v := 0) hx hb dX5_become_161 (by decide) ?_
    refine lv_aload_n hx hb dX5_become_162 rfl (lv_at hl 0 rfl) ?_
    refine x_get (σ := (up2 (upC (upC (up2 (up2 (upC (upC (up2 (up2 (up2 (upC σ 40 (va_cpy (σ 20) (σ 40) 0 0 100)) 41 0 (σ 21 0)) 43 0 (σ 23 0)) 45 0 (σ 25 0)) 46 (va_cpy (σ 26) (σ 46) 0 0 6)) 47 (va_cpy (σ 27) (σ 47) 0 0 6)) 48 0 (σ 28 0)) 49 0 (σ 29 0)) 50 (va_cpy (σ 30) (σ 50) 0 0 8)) 51 (va_cpy (σ 31) (σ 51) 0 0 8)) 52 0 (σ 32 0))) (v := .ref (g.2.2 53)) (fs := xF2 g (upR (upR ρ 42 (fun _ => ρ 22 0)) 44 (mixO (ρ 24) (ρ 44) 6)) (up2 (upC (upC (up2 (up2 (upC (upC (up2 (up2 (up2 (upC σ 40 (va_cpy (σ 20) (σ 40) 0 0 100)) 41 0 (σ 21 0)) 43 0 (σ 23 0)) 45 0 (σ 25 0)) 46 (va_cpy (σ 26) (σ 46) 0 0 6)) 47 (va_cpy (σ 27) (σ 47) 0 0 6)) 48 0 (σ 28 0)) 49 0 (σ 29 0)) 50 (va_cpy (σ 30) (σ 50) 0 0 8)) 51 (va_cpy (σ 31) (σ 51) 0 0 8)) 52 0 (σ 32 0))) 5 2 C0 uw_5 dc_5 hK hP rfl rfl 13 (by decide) rfl w_134 dX5_become_163 ?_
    refine lv_iconst (v := 0) hx hb dX5_become_166 (by decide) ?_
    refine lv_bipush (v := 6) hx hb dX5_become_167 (by decide) ?_
    refine va_copyi hx hb (hml.trans hl.1.symm) hown (hts _ w_953) (hts _ w_442) (hts _ w_441) (hts _ w_84) hK.1 hP hD hS 15 23 0 0 (n0 := 6) (n1 := 6) (f := σ 33) (g := σ 53) rfl rfl rfl rfl rfl (by decide) (by decide) (by decide) (by decide) (by decide) (fun i hi => rfl) (Nat.le_refl 1) (Nat.le_of_ble_eq_true rfl) dX5_become_169 (fun H locs hP hD hS => ?_)
    have hP : va_P g.1 vwCl (xW g (upR (upR ρ 42 (fun _ => ρ 22 0)) 44 (mixO (ρ 24) (ρ 44) 6)) (upC (up2 (upC (upC (up2 (up2 (upC (upC (up2 (up2 (up2 (upC σ 40 (va_cpy (σ 20) (σ 40) 0 0 100)) 41 0 (σ 21 0)) 43 0 (σ 23 0)) 45 0 (σ 25 0)) 46 (va_cpy (σ 26) (σ 46) 0 0 6)) 47 (va_cpy (σ 27) (σ 47) 0 0 6)) 48 0 (σ 28 0)) 49 0 (σ 29 0)) 50 (va_cpy (σ 30) (σ 50) 0 0 8)) 51 (va_cpy (σ 31) (σ 51) 0 0 8)) 52 0 (σ 32 0)) 53 (va_cpy (σ 33) (σ 53) 0 0 6))) H := hP
    have hD : va_D (AX g) (xW g (upR (upR ρ 42 (fun _ => ρ 22 0)) 44 (mixO (ρ 24) (ρ 44) 6)) (upC (up2 (upC (upC (up2 (up2 (upC (upC (up2 (up2 (up2 (upC σ 40 (va_cpy (σ 20) (σ 40) 0 0 100)) 41 0 (σ 21 0)) 43 0 (σ 23 0)) 45 0 (σ 25 0)) 46 (va_cpy (σ 26) (σ 46) 0 0 6)) 47 (va_cpy (σ 27) (σ 47) 0 0 6)) 48 0 (σ 28 0)) 49 0 (σ 29 0)) 50 (va_cpy (σ 30) (σ 50) 0 0 8)) 51 (va_cpy (σ 31) (σ 51) 0 0 8)) 52 0 (σ 32 0)) 53 (va_cpy (σ 33) (σ 53) 0 0 6))) := hD
    refine lv_aload_n hx hb dX5_become_172 rfl (lv_at hl 0 rfl) ?_
    refine lv_aload_n hx hb dX5_become_173 rfl (lv_at hl 1 rfl) ?_
    refine x_get (σ := (upC (up2 (upC (upC (up2 (up2 (upC (upC (up2 (up2 (up2 (upC σ 40 (va_cpy (σ 20) (σ 40) 0 0 100)) 41 0 (σ 21 0)) 43 0 (σ 23 0)) 45 0 (σ 25 0)) 46 (va_cpy (σ 26) (σ 46) 0 0 6)) 47 (va_cpy (σ 27) (σ 47) 0 0 6)) 48 0 (σ 28 0)) 49 0 (σ 29 0)) 50 (va_cpy (σ 30) (σ 50) 0 0 8)) 51 (va_cpy (σ 31) (σ 51) 0 0 8)) 52 0 (σ 32 0)) 53 (va_cpy (σ 33) (σ 53) 0 0 6))) (v := .int (σ 34 0)) (fs := xF1 g (upR (upR ρ 42 (fun _ => ρ 22 0)) 44 (mixO (ρ 24) (ρ 44) 6)) (upC (up2 (upC (upC (up2 (up2 (upC (upC (up2 (up2 (up2 (upC σ 40 (va_cpy (σ 20) (σ 40) 0 0 100)) 41 0 (σ 21 0)) 43 0 (σ 23 0)) 45 0 (σ 25 0)) 46 (va_cpy (σ 26) (σ 46) 0 0 6)) 47 (va_cpy (σ 27) (σ 47) 0 0 6)) 48 0 (σ 28 0)) 49 0 (σ 29 0)) 50 (va_cpy (σ 30) (σ 50) 0 0 8)) 51 (va_cpy (σ 31) (σ 51) 0 0 8)) 52 0 (σ 32 0)) 53 (va_cpy (σ 33) (σ 53) 0 0 6))) 5 1 C0 uw_5 dc_5 hK hP rfl rfl 14 (by decide) rfl w_136 dX5_become_174 ?_
    refine va_put (D := g.1) (ci := 5) (v := .int (σ 34 0)) (ty := .int) (C := RX5) (T := TX5) (N := 18) (fs := xF2 g (upR (upR ρ 42 (fun _ => ρ 22 0)) 44 (mixO (ρ 24) (ρ 44) 6)) (upC (up2 (upC (upC (up2 (up2 (upC (upC (up2 (up2 (up2 (upC σ 40 (va_cpy (σ 20) (σ 40) 0 0 100)) 41 0 (σ 21 0)) 43 0 (σ 23 0)) 45 0 (σ 25 0)) 46 (va_cpy (σ 26) (σ 46) 0 0 6)) 47 (va_cpy (σ 27) (σ 47) 0 0 6)) 48 0 (σ 28 0)) 49 0 (σ 29 0)) 50 (va_cpy (σ 30) (σ 50) 0 0 8)) 51 (va_cpy (σ 31) (σ 51) 0 0 8)) 52 0 (σ 32 0)) 53 (va_cpy (σ 33) (σ 53) 0 0 6))) hx hb hts uw_5 tyX5 tyX5_ok nmX5 hown hK.1 hP hD hS 2 rfl rfl 14 (by decide) (hts _ w_136) (fun x h => by rw [← dc_5 14]; exact h) rfl rfl rfl rfl (Nat.le_of_ble_eq_true rfl) dX5_become_177 (fun H locs hP hD hS => ?_)
    have hP : va_P g.1 vwCl (xW g (upR (upR ρ 42 (fun _ => ρ 22 0)) 44 (mixO (ρ 24) (ρ 44) 6)) (up2 (upC (up2 (upC (upC (up2 (up2 (upC (upC (up2 (up2 (up2 (upC σ 40 (va_cpy (σ 20) (σ 40) 0 0 100)) 41 0 (σ 21 0)) 43 0 (σ 23 0)) 45 0 (σ 25 0)) 46 (va_cpy (σ 26) (σ 46) 0 0 6)) 47 (va_cpy (σ 27) (σ 47) 0 0 6)) 48 0 (σ 28 0)) 49 0 (σ 29 0)) 50 (va_cpy (σ 30) (σ 50) 0 0 8)) 51 (va_cpy (σ 31) (σ 51) 0 0 8)) 52 0 (σ 32 0)) 53 (va_cpy (σ 33) (σ 53) 0 0 6)) 54 0 (σ 34 0))) H := hP
    have hD : va_D (AX g) (xW g (upR (upR ρ 42 (fun _ => ρ 22 0)) 44 (mixO (ρ 24) (ρ 44) 6)) (up2 (upC (up2 (upC (upC (up2 (up2 (upC (upC (up2 (up2 (up2 (upC σ 40 (va_cpy (σ 20) (σ 40) 0 0 100)) 41 0 (σ 21 0)) 43 0 (σ 23 0)) 45 0 (σ 25 0)) 46 (va_cpy (σ 26) (σ 46) 0 0 6)) 47 (va_cpy (σ 27) (σ 47) 0 0 6)) 48 0 (σ 28 0)) 49 0 (σ 29 0)) 50 (va_cpy (σ 30) (σ 50) 0 0 8)) 51 (va_cpy (σ 31) (σ 51) 0 0 8)) 52 0 (σ 32 0)) 53 (va_cpy (σ 33) (σ 53) 0 0 6)) 54 0 (σ 34 0))) := hD
    refine lv_aload_n hx hb dX5_become_180 rfl (lv_at hl 1 rfl) ?_
    refine x_get (σ := (up2 (upC (up2 (upC (upC (up2 (up2 (upC (upC (up2 (up2 (up2 (upC σ 40 (va_cpy (σ 20) (σ 40) 0 0 100)) 41 0 (σ 21 0)) 43 0 (σ 23 0)) 45 0 (σ 25 0)) 46 (va_cpy (σ 26) (σ 46) 0 0 6)) 47 (va_cpy (σ 27) (σ 47) 0 0 6)) 48 0 (σ 28 0)) 49 0 (σ 29 0)) 50 (va_cpy (σ 30) (σ 50) 0 0 8)) 51 (va_cpy (σ 31) (σ 51) 0 0 8)) 52 0 (σ 32 0)) 53 (va_cpy (σ 33) (σ 53) 0 0 6)) 54 0 (σ 34 0))) (v := .ref (g.2.2 35)) (fs := xF1 g (upR (upR ρ 42 (fun _ => ρ 22 0)) 44 (mixO (ρ 24) (ρ 44) 6)) (up2 (upC (up2 (upC (upC (up2 (up2 (upC (upC (up2 (up2 (up2 (upC σ 40 (va_cpy (σ 20) (σ 40) 0 0 100)) 41 0 (σ 21 0)) 43 0 (σ 23 0)) 45 0 (σ 25 0)) 46 (va_cpy (σ 26) (σ 46) 0 0 6)) 47 (va_cpy (σ 27) (σ 47) 0 0 6)) 48 0 (σ 28 0)) 49 0 (σ 29 0)) 50 (va_cpy (σ 30) (σ 50) 0 0 8)) 51 (va_cpy (σ 31) (σ 51) 0 0 8)) 52 0 (σ 32 0)) 53 (va_cpy (σ 33) (σ 53) 0 0 6)) 54 0 (σ 34 0))) 5 1 C0 uw_5 dc_5 hK hP rfl rfl 15 (by decide) rfl w_138 dX5_become_181 ?_
    refine lv_iconst (v := 0) hx hb dX5_become_184 (by decide) ?_
    refine lv_aload_n hx hb dX5_become_185 rfl (lv_at hl 0 rfl) ?_
    refine x_get (σ := (up2 (upC (up2 (upC (upC (up2 (up2 (upC (upC (up2 (up2 (up2 (upC σ 40 (va_cpy (σ 20) (σ 40) 0 0 100)) 41 0 (σ 21 0)) 43 0 (σ 23 0)) 45 0 (σ 25 0)) 46 (va_cpy (σ 26) (σ 46) 0 0 6)) 47 (va_cpy (σ 27) (σ 47) 0 0 6)) 48 0 (σ 28 0)) 49 0 (σ 29 0)) 50 (va_cpy (σ 30) (σ 50) 0 0 8)) 51 (va_cpy (σ 31) (σ 51) 0 0 8)) 52 0 (σ 32 0)) 53 (va_cpy (σ 33) (σ 53) 0 0 6)) 54 0 (σ 34 0))) (v := .ref (g.2.2 55)) (fs := xF2 g (upR (upR ρ 42 (fun _ => ρ 22 0)) 44 (mixO (ρ 24) (ρ 44) 6)) (up2 (upC (up2 (upC (upC (up2 (up2 (upC (upC (up2 (up2 (up2 (upC σ 40 (va_cpy (σ 20) (σ 40) 0 0 100)) 41 0 (σ 21 0)) 43 0 (σ 23 0)) 45 0 (σ 25 0)) 46 (va_cpy (σ 26) (σ 46) 0 0 6)) 47 (va_cpy (σ 27) (σ 47) 0 0 6)) 48 0 (σ 28 0)) 49 0 (σ 29 0)) 50 (va_cpy (σ 30) (σ 50) 0 0 8)) 51 (va_cpy (σ 31) (σ 51) 0 0 8)) 52 0 (σ 32 0)) 53 (va_cpy (σ 33) (σ 53) 0 0 6)) 54 0 (σ 34 0))) 5 2 C0 uw_5 dc_5 hK hP rfl rfl 15 (by decide) rfl w_138 dX5_become_186 ?_
    refine lv_iconst (v := 0) hx hb dX5_become_189 (by decide) ?_
    refine lv_bipush (v := 8) hx hb dX5_become_190 (by decide) ?_
    refine va_copyi hx hb (hml.trans hl.1.symm) hown (hts _ w_953) (hts _ w_442) (hts _ w_441) (hts _ w_84) hK.1 hP hD hS 16 24 0 0 (n0 := 8) (n1 := 8) (f := σ 35) (g := σ 55) rfl rfl rfl rfl rfl (by decide) (by decide) (by decide) (by decide) (by decide) (fun i hi => rfl) (Nat.le_refl 1) (Nat.le_of_ble_eq_true rfl) dX5_become_192 (fun H locs hP hD hS => ?_)
    have hP : va_P g.1 vwCl (xW g (upR (upR ρ 42 (fun _ => ρ 22 0)) 44 (mixO (ρ 24) (ρ 44) 6)) (upC (up2 (upC (up2 (upC (upC (up2 (up2 (upC (upC (up2 (up2 (up2 (upC σ 40 (va_cpy (σ 20) (σ 40) 0 0 100)) 41 0 (σ 21 0)) 43 0 (σ 23 0)) 45 0 (σ 25 0)) 46 (va_cpy (σ 26) (σ 46) 0 0 6)) 47 (va_cpy (σ 27) (σ 47) 0 0 6)) 48 0 (σ 28 0)) 49 0 (σ 29 0)) 50 (va_cpy (σ 30) (σ 50) 0 0 8)) 51 (va_cpy (σ 31) (σ 51) 0 0 8)) 52 0 (σ 32 0)) 53 (va_cpy (σ 33) (σ 53) 0 0 6)) 54 0 (σ 34 0)) 55 (va_cpy (σ 35) (σ 55) 0 0 8))) H := hP
    have hD : va_D (AX g) (xW g (upR (upR ρ 42 (fun _ => ρ 22 0)) 44 (mixO (ρ 24) (ρ 44) 6)) (upC (up2 (upC (up2 (upC (upC (up2 (up2 (upC (upC (up2 (up2 (up2 (upC σ 40 (va_cpy (σ 20) (σ 40) 0 0 100)) 41 0 (σ 21 0)) 43 0 (σ 23 0)) 45 0 (σ 25 0)) 46 (va_cpy (σ 26) (σ 46) 0 0 6)) 47 (va_cpy (σ 27) (σ 47) 0 0 6)) 48 0 (σ 28 0)) 49 0 (σ 29 0)) 50 (va_cpy (σ 30) (σ 50) 0 0 8)) 51 (va_cpy (σ 31) (σ 51) 0 0 8)) 52 0 (σ 32 0)) 53 (va_cpy (σ 33) (σ 53) 0 0 6)) 54 0 (σ 34 0)) 55 (va_cpy (σ 35) (σ 55) 0 0 8))) := hD
    refine lv_aload_n hx hb dX5_become_195 rfl (lv_at hl 1 rfl) ?_
    refine x_get (σ := (upC (up2 (upC (up2 (upC (upC (up2 (up2 (upC (upC (up2 (up2 (up2 (upC σ 40 (va_cpy (σ 20) (σ 40) 0 0 100)) 41 0 (σ 21 0)) 43 0 (σ 23 0)) 45 0 (σ 25 0)) 46 (va_cpy (σ 26) (σ 46) 0 0 6)) 47 (va_cpy (σ 27) (σ 47) 0 0 6)) 48 0 (σ 28 0)) 49 0 (σ 29 0)) 50 (va_cpy (σ 30) (σ 50) 0 0 8)) 51 (va_cpy (σ 31) (σ 51) 0 0 8)) 52 0 (σ 32 0)) 53 (va_cpy (σ 33) (σ 53) 0 0 6)) 54 0 (σ 34 0)) 55 (va_cpy (σ 35) (σ 55) 0 0 8))) (v := .ref (g.2.2 36)) (fs := xF1 g (upR (upR ρ 42 (fun _ => ρ 22 0)) 44 (mixO (ρ 24) (ρ 44) 6)) (upC (up2 (upC (up2 (upC (upC (up2 (up2 (upC (upC (up2 (up2 (up2 (upC σ 40 (va_cpy (σ 20) (σ 40) 0 0 100)) 41 0 (σ 21 0)) 43 0 (σ 23 0)) 45 0 (σ 25 0)) 46 (va_cpy (σ 26) (σ 46) 0 0 6)) 47 (va_cpy (σ 27) (σ 47) 0 0 6)) 48 0 (σ 28 0)) 49 0 (σ 29 0)) 50 (va_cpy (σ 30) (σ 50) 0 0 8)) 51 (va_cpy (σ 31) (σ 51) 0 0 8)) 52 0 (σ 32 0)) 53 (va_cpy (σ 33) (σ 53) 0 0 6)) 54 0 (σ 34 0)) 55 (va_cpy (σ 35) (σ 55) 0 0 8))) 5 1 C0 uw_5 dc_5 hK hP rfl rfl 16 (by decide) rfl w_140 dX5_become_196 ?_
    refine lv_iconst (v := 0) hx hb dX5_become_199 (by decide) ?_
    refine lv_aload_n hx hb dX5_become_200 rfl (lv_at hl 0 rfl) ?_
    refine x_get (σ := (upC (up2 (upC (up2 (upC (upC (up2 (up2 (upC (upC (up2 (up2 (up2 (upC σ 40 (va_cpy (σ 20) (σ 40) 0 0 100)) 41 0 (σ 21 0)) 43 0 (σ 23 0)) 45 0 (σ 25 0)) 46 (va_cpy (σ 26) (σ 46) 0 0 6)) 47 (va_cpy (σ 27) (σ 47) 0 0 6)) 48 0 (σ 28 0)) 49 0 (σ 29 0)) 50 (va_cpy (σ 30) (σ 50) 0 0 8)) 51 (va_cpy (σ 31) (σ 51) 0 0 8)) 52 0 (σ 32 0)) 53 (va_cpy (σ 33) (σ 53) 0 0 6)) 54 0 (σ 34 0)) 55 (va_cpy (σ 35) (σ 55) 0 0 8))) (v := .ref (g.2.2 56)) (fs := xF2 g (upR (upR ρ 42 (fun _ => ρ 22 0)) 44 (mixO (ρ 24) (ρ 44) 6)) (upC (up2 (upC (up2 (upC (upC (up2 (up2 (upC (upC (up2 (up2 (up2 (upC σ 40 (va_cpy (σ 20) (σ 40) 0 0 100)) 41 0 (σ 21 0)) 43 0 (σ 23 0)) 45 0 (σ 25 0)) 46 (va_cpy (σ 26) (σ 46) 0 0 6)) 47 (va_cpy (σ 27) (σ 47) 0 0 6)) 48 0 (σ 28 0)) 49 0 (σ 29 0)) 50 (va_cpy (σ 30) (σ 50) 0 0 8)) 51 (va_cpy (σ 31) (σ 51) 0 0 8)) 52 0 (σ 32 0)) 53 (va_cpy (σ 33) (σ 53) 0 0 6)) 54 0 (σ 34 0)) 55 (va_cpy (σ 35) (σ 55) 0 0 8))) 5 2 C0 uw_5 dc_5 hK hP rfl rfl 16 (by decide) rfl w_140 dX5_become_201 ?_
    refine lv_iconst (v := 0) hx hb dX5_become_204 (by decide) ?_
    refine lv_bipush (v := 8) hx hb dX5_become_205 (by decide) ?_
    refine va_copyi hx hb (hml.trans hl.1.symm) hown (hts _ w_953) (hts _ w_442) (hts _ w_441) (hts _ w_84) hK.1 hP hD hS 17 25 0 0 (n0 := 8) (n1 := 8) (f := σ 36) (g := σ 56) rfl rfl rfl rfl rfl (by decide) (by decide) (by decide) (by decide) (by decide) (fun i hi => rfl) (Nat.le_refl 1) (Nat.le_of_ble_eq_true rfl) dX5_become_207 (fun H locs hP hD hS => ?_)
    have hP : va_P g.1 vwCl (xW g (upR (upR ρ 42 (fun _ => ρ 22 0)) 44 (mixO (ρ 24) (ρ 44) 6)) (upC (upC (up2 (upC (up2 (upC (upC (up2 (up2 (upC (upC (up2 (up2 (up2 (upC σ 40 (va_cpy (σ 20) (σ 40) 0 0 100)) 41 0 (σ 21 0)) 43 0 (σ 23 0)) 45 0 (σ 25 0)) 46 (va_cpy (σ 26) (σ 46) 0 0 6)) 47 (va_cpy (σ 27) (σ 47) 0 0 6)) 48 0 (σ 28 0)) 49 0 (σ 29 0)) 50 (va_cpy (σ 30) (σ 50) 0 0 8)) 51 (va_cpy (σ 31) (σ 51) 0 0 8)) 52 0 (σ 32 0)) 53 (va_cpy (σ 33) (σ 53) 0 0 6)) 54 0 (σ 34 0)) 55 (va_cpy (σ 35) (σ 55) 0 0 8)) 56 (va_cpy (σ 36) (σ 56) 0 0 8))) H := hP
    have hD : va_D (AX g) (xW g (upR (upR ρ 42 (fun _ => ρ 22 0)) 44 (mixO (ρ 24) (ρ 44) 6)) (upC (upC (up2 (upC (up2 (upC (upC (up2 (up2 (upC (upC (up2 (up2 (up2 (upC σ 40 (va_cpy (σ 20) (σ 40) 0 0 100)) 41 0 (σ 21 0)) 43 0 (σ 23 0)) 45 0 (σ 25 0)) 46 (va_cpy (σ 26) (σ 46) 0 0 6)) 47 (va_cpy (σ 27) (σ 47) 0 0 6)) 48 0 (σ 28 0)) 49 0 (σ 29 0)) 50 (va_cpy (σ 30) (σ 50) 0 0 8)) 51 (va_cpy (σ 31) (σ 51) 0 0 8)) 52 0 (σ 32 0)) 53 (va_cpy (σ 33) (σ 53) 0 0 6)) 54 0 (σ 34 0)) 55 (va_cpy (σ 35) (σ 55) 0 0 8)) 56 (va_cpy (σ 36) (σ 56) 0 0 8))) := hD
    refine lv_aload_n hx hb dX5_become_210 rfl (lv_at hl 0 rfl) ?_
    refine lv_aload_n hx hb dX5_become_211 rfl (lv_at hl 1 rfl) ?_
    refine x_get (σ := (upC (upC (up2 (upC (up2 (upC (upC (up2 (up2 (upC (upC (up2 (up2 (up2 (upC σ 40 (va_cpy (σ 20) (σ 40) 0 0 100)) 41 0 (σ 21 0)) 43 0 (σ 23 0)) 45 0 (σ 25 0)) 46 (va_cpy (σ 26) (σ 46) 0 0 6)) 47 (va_cpy (σ 27) (σ 47) 0 0 6)) 48 0 (σ 28 0)) 49 0 (σ 29 0)) 50 (va_cpy (σ 30) (σ 50) 0 0 8)) 51 (va_cpy (σ 31) (σ 51) 0 0 8)) 52 0 (σ 32 0)) 53 (va_cpy (σ 33) (σ 53) 0 0 6)) 54 0 (σ 34 0)) 55 (va_cpy (σ 35) (σ 55) 0 0 8)) 56 (va_cpy (σ 36) (σ 56) 0 0 8))) (v := .int (σ 37 0)) (fs := xF1 g (upR (upR ρ 42 (fun _ => ρ 22 0)) 44 (mixO (ρ 24) (ρ 44) 6)) (upC (upC (up2 (upC (up2 (upC (upC (up2 (up2 (upC (upC (up2 (up2 (up2 (upC σ 40 (va_cpy (σ 20) (σ 40) 0 0 100)) 41 0 (σ 21 0)) 43 0 (σ 23 0)) 45 0 (σ 25 0)) 46 (va_cpy (σ 26) (σ 46) 0 0 6)) 47 (va_cpy (σ 27) (σ 47) 0 0 6)) 48 0 (σ 28 0)) 49 0 (σ 29 0)) 50 (va_cpy (σ 30) (σ 50) 0 0 8)) 51 (va_cpy (σ 31) (σ 51) 0 0 8)) 52 0 (σ 32 0)) 53 (va_cpy (σ 33) (σ 53) 0 0 6)) 54 0 (σ 34 0)) 55 (va_cpy (σ 35) (σ 55) 0 0 8)) 56 (va_cpy (σ 36) (σ 56) 0 0 8))) 5 1 C0 uw_5 dc_5 hK hP rfl rfl 17 (by decide) rfl w_142 dX5_become_212 ?_
    refine va_put (D := g.1) (ci := 5) (v := .int (σ 37 0)) (ty := .int) (C := RX5) (T := TX5) (N := 18) (fs := xF2 g (upR (upR ρ 42 (fun _ => ρ 22 0)) 44 (mixO (ρ 24) (ρ 44) 6)) (upC (upC (up2 (upC (up2 (upC (upC (up2 (up2 (upC (upC (up2 (up2 (up2 (upC σ 40 (va_cpy (σ 20) (σ 40) 0 0 100)) 41 0 (σ 21 0)) 43 0 (σ 23 0)) 45 0 (σ 25 0)) 46 (va_cpy (σ 26) (σ 46) 0 0 6)) 47 (va_cpy (σ 27) (σ 47) 0 0 6)) 48 0 (σ 28 0)) 49 0 (σ 29 0)) 50 (va_cpy (σ 30) (σ 50) 0 0 8)) 51 (va_cpy (σ 31) (σ 51) 0 0 8)) 52 0 (σ 32 0)) 53 (va_cpy (σ 33) (σ 53) 0 0 6)) 54 0 (σ 34 0)) 55 (va_cpy (σ 35) (σ 55) 0 0 8)) 56 (va_cpy (σ 36) (σ 56) 0 0 8))) hx hb hts uw_5 tyX5 tyX5_ok nmX5 hown hK.1 hP hD hS 2 rfl rfl 17 (by decide) (hts _ w_142) (fun x h => by rw [← dc_5 17]; exact h) rfl rfl rfl rfl (Nat.le_of_ble_eq_true rfl) dX5_become_215 (fun H locs hP hD hS => ?_)
    have hP : va_P g.1 vwCl (xW g (upR (upR ρ 42 (fun _ => ρ 22 0)) 44 (mixO (ρ 24) (ρ 44) 6)) (up2 (upC (upC (up2 (upC (up2 (upC (upC (up2 (up2 (upC (upC (up2 (up2 (up2 (upC σ 40 (va_cpy (σ 20) (σ 40) 0 0 100)) 41 0 (σ 21 0)) 43 0 (σ 23 0)) 45 0 (σ 25 0)) 46 (va_cpy (σ 26) (σ 46) 0 0 6)) 47 (va_cpy (σ 27) (σ 47) 0 0 6)) 48 0 (σ 28 0)) 49 0 (σ 29 0)) 50 (va_cpy (σ 30) (σ 50) 0 0 8)) 51 (va_cpy (σ 31) (σ 51) 0 0 8)) 52 0 (σ 32 0)) 53 (va_cpy (σ 33) (σ 53) 0 0 6)) 54 0 (σ 34 0)) 55 (va_cpy (σ 35) (σ 55) 0 0 8)) 56 (va_cpy (σ 36) (σ 56) 0 0 8)) 57 0 (σ 37 0))) H := hP
    have hD : va_D (AX g) (xW g (upR (upR ρ 42 (fun _ => ρ 22 0)) 44 (mixO (ρ 24) (ρ 44) 6)) (up2 (upC (upC (up2 (upC (up2 (upC (upC (up2 (up2 (upC (upC (up2 (up2 (up2 (upC σ 40 (va_cpy (σ 20) (σ 40) 0 0 100)) 41 0 (σ 21 0)) 43 0 (σ 23 0)) 45 0 (σ 25 0)) 46 (va_cpy (σ 26) (σ 46) 0 0 6)) 47 (va_cpy (σ 27) (σ 47) 0 0 6)) 48 0 (σ 28 0)) 49 0 (σ 29 0)) 50 (va_cpy (σ 30) (σ 50) 0 0 8)) 51 (va_cpy (σ 31) (σ 51) 0 0 8)) 52 0 (σ 32 0)) 53 (va_cpy (σ 33) (σ 53) 0 0 6)) 54 0 (σ 34 0)) 55 (va_cpy (σ 35) (σ 55) 0 0 8)) 56 (va_cpy (σ 36) (σ 56) 0 0 8)) 57 0 (σ 37 0))) := hD
    exact W.vret hx hb hr (fun t ht _ => ⟨⟨(), rfl, trivial, by show va_P g.1 vwCl _ t.heap; rw [ht]; exact hP⟩, hS.F ht⟩) hS.2.2 dX5_become_218 hlocks
  have loop : ∀ (j k : Nat), k + j = 6 → ∀ (ls : Array Slot) (H : Heap) (locs : List Loc), lv_has ls 3 [(2, .int (nI k)), (0, .ref (g.2.2 102)), (1, .ref (g.2.2 101))] → va_P g.1 vwCl (xW g (upR (upR ρ 42 (fun _ => ρ 22 0)) 44 (mixO (ρ 24) (ρ 44) k)) (up2 (up2 (upC σ 40 (va_cpy (σ 20) (σ 40) 0 0 100)) 41 0 (σ 21 0)) 43 0 (σ 23 0))) H → va_D (AX g) (xW g (upR (upR ρ 42 (fun _ => ρ 22 0)) 44 (mixO (ρ 24) (ρ 44) k)) (up2 (up2 (upC σ 40 (va_cpy (σ 20) (σ 40) 0 0 100)) 41 0 (σ 21 0)) 43 0 (σ 23 0))) → va_S (AX g) s.heap H locs → W p l e { frames := 1, cells := 0, slots := 0, locals := 30 } s m args below meth c H locs 0 0 (MQ below (va_Qv (fun _ : Unit => True) (fun _ t => va_P g.1 vwCl (xW g (r_bc40 ρ) (f_bc40 σ)) t.heap) (AX g)) args s 0 0 (AX g)) (F0 m 41 ls []) := by
    intro j
    induction j with
    | zero =>
      intro k hk ls H locs hl hP hD hS
      have hk : k = 6 := by omega
      subst hk
      refine lv_iload_n hx hb dX5_become_41 rfl (lv_at hl 0 rfl) ?_
      refine lv_bipush (v := 6) hx hb dX5_become_42 (by decide) ?_
      refine lv_icmp_ge (tgt := 65) hx hb dX5_become_44 (by decide) (fun _ => ?_) (fun z => absurd (show (6 : Int32) ≤ nI 6 by decide) z)
      exact tail ls H locs (lv_sub hl [1, 2] rfl) hP hD hS
    | succ j ih =>
      intro k hk ls H locs hl hP hD hS
      refine lv_iload_n hx hb dX5_become_41 rfl (lv_at hl 0 rfl) ?_
      refine lv_bipush (v := 6) hx hb dX5_become_42 (by decide) ?_
      have hk6 : (nI k).toInt = k := nI_toInt (by omega)
      have hcl : (nI k).toNatClampNeg = k := nI_clamp (by omega)
      refine lv_icmp_ge (tgt := 65) hx hb dX5_become_44 (by decide) (fun z => absurd (ti_le.mp z) (by rw [hk6]; have e : (6 : Int32).toInt = 6 := rfl; omega)) (fun _ => ?_)
      refine lv_aload_n hx hb dX5_become_47 rfl (lv_at hl 1 rfl) ?_
      refine x_get (σ := (up2 (up2 (upC σ 40 (va_cpy (σ 20) (σ 40) 0 0 100)) 41 0 (σ 21 0)) 43 0 (σ 23 0))) (v := .ref (g.2.2 44)) (fs := xF2 g (upR (upR ρ 42 (fun _ => ρ 22 0)) 44 (mixO (ρ 24) (ρ 44) k)) (up2 (up2 (upC σ 40 (va_cpy (σ 20) (σ 40) 0 0 100)) 41 0 (σ 21 0)) 43 0 (σ 23 0))) 5 2 C0 uw_5 dc_5 hK hP rfl rfl 4 (by decide) rfl w_116 dX5_become_48 ?_
      refine lv_iload_n hx hb dX5_become_51 rfl (lv_at hl 0 rfl) ?_
      refine lv_aload_n hx hb dX5_become_52 rfl (lv_at hl 2 rfl) ?_
      refine x_get (σ := (up2 (up2 (upC σ 40 (va_cpy (σ 20) (σ 40) 0 0 100)) 41 0 (σ 21 0)) 43 0 (σ 23 0))) (v := .ref (g.2.2 24)) (fs := xF1 g (upR (upR ρ 42 (fun _ => ρ 22 0)) 44 (mixO (ρ 24) (ρ 44) k)) (up2 (up2 (upC σ 40 (va_cpy (σ 20) (σ 40) 0 0 100)) 41 0 (σ 21 0)) 43 0 (σ 23 0))) 5 1 C0 uw_5 dc_5 hK hP rfl rfl 4 (by decide) rfl w_116 dX5_become_53 ?_
      refine lv_iload_n hx hb dX5_become_56 rfl (lv_at hl 0 rfl) ?_
      have hin : vp_in (nI k) 6 := vp_in_nI (by omega) (by omega)
      refine va_aldq hx hb hK.1 hP 28 2 (n := 6) (f := ρ 24) rfl rfl hin dX5_become_57 ?_
      rw [hcl]
      have fin : ∀ (H : Heap) (locs : List Loc), va_P g.1 vwCl ((xW g (upR (upR ρ 42 (fun _ => ρ 22 0)) 44 (mixO (ρ 24) (ρ 44) k)) (up2 (up2 (upC σ 40 (va_cpy (σ 20) (σ 40) 0 0 100)) 41 0 (σ 21 0)) 43 0 (σ 23 0))).set 29 (g.2.2 44, .inl (g.2.1 2, 6, .inr (.inr (.inr (.inr (va_up (mixO (ρ 24) (ρ 44) k) k (ρ 24 k)))))))) H → va_D (AX g) ((xW g (upR (upR ρ 42 (fun _ => ρ 22 0)) 44 (mixO (ρ 24) (ρ 44) k)) (up2 (up2 (upC σ 40 (va_cpy (σ 20) (σ 40) 0 0 100)) 41 0 (σ 21 0)) 43 0 (σ 23 0))).set 29 (g.2.2 44, .inl (g.2.1 2, 6, .inr (.inr (.inr (.inr (va_up (mixO (ρ 24) (ρ 44) k) k (ρ 24 k)))))))) → va_S (AX g) s.heap H locs → W p l e { frames := 1, cells := 0, slots := 0, locals := 30 } s m args below meth c H locs 0 0 (MQ below (va_Qv (fun _ : Unit => True) (fun _ t => va_P g.1 vwCl (xW g (r_bc40 ρ) (f_bc40 σ)) t.heap) (AX g)) args s 0 0 (AX g)) (F0 m 59 ls []) := fun H locs hP hD hS => by
        rw [xR_s40, mixO_s] at hP hD
        refine lv_iinc (v := nI (k + 1)) (lv' := [(2, .int (nI (k + 1))), (0, .ref (g.2.2 102)), (1, .ref (g.2.2 101))]) hx hb dX5_become_59 hl (k := 0) rfl (nI_1 k) (by decide) rfl (fun ls hl => ?_)
        refine lv_goto (tgt := 41) hx hb dX5_become_62 (by decide) ?_
        exact ih (k + 1) (by omega) ls H locs hl hP hD hS
      have hXH : XH g ρ dt H := hB.kept (fun q h1 h2 => hS.2.1 q h1 h2)
      by_cases cn : ρ 24 k = none
      · rw [va_rf_none cn]
        rw [cn] at fin
        exact va_astqN (C := "ThreeMeasures$Stick") hx hb hK.1 hP hD hS 29 2 rfl rfl hin dX5_become_58 (fun H locs hP hD hS => fin H locs (by rw [hcl] at hP; exact hP) (by rw [hcl] at hD; exact hD) hS)
      · obtain ⟨a, ha⟩ := Option.ne_none_iff_exists'.mp cn
        rw [ha] at fin ⊢
        exact va_astqM (E := "ThreeMeasures$Stick") hx hb hK.1 hP hD hS 29 2 rfl rfl ((hXH.1 k a (Or.inl ha)).any hK) hin dX5_become_58 (fun H locs hP hD hS => fin H locs (by rw [hcl] at hP; exact hP) (by rw [hcl] at hD; exact hD) hS)
  refine lv_aload_n hx hb dX5_become_0 rfl (lv_at hl 1 rfl) ?_
  refine x_get (σ := σ) (v := .ref (g.2.2 20)) (fs := xF1 g ρ σ) 5 1 C0 uw_5 dc_5 hK hP rfl rfl 0 (by decide) rfl w_108 dX5_become_1 ?_
  refine lv_iconst (v := 0) hx hb dX5_become_4 (by decide) ?_
  refine lv_aload_n hx hb dX5_become_5 rfl (lv_at hl 0 rfl) ?_
  refine x_get (σ := σ) (v := .ref (g.2.2 40)) (fs := xF2 g ρ σ) 5 2 C0 uw_5 dc_5 hK hP rfl rfl 0 (by decide) rfl w_108 dX5_become_6 ?_
  refine lv_iconst (v := 0) hx hb dX5_become_9 (by decide) ?_
  refine lv_bipush (v := 100) hx hb dX5_become_10 (by decide) ?_
  refine va_copyi hx hb (hml.trans hl.1.symm) hown (hts _ w_953) (hts _ w_442) (hts _ w_441) (hts _ w_84) hK.1 hP hD hS 10 18 0 0 (n0 := 100) (n1 := 100) (f := σ 20) (g := σ 40) rfl rfl rfl rfl rfl (by decide) (by decide) (by decide) (by decide) (by decide) (fun i hi => rfl) (Nat.le_refl 1) (Nat.le_of_ble_eq_true rfl) dX5_become_12 (fun H locs hP hD hS => ?_)
  have hP : va_P g.1 vwCl (xW g ρ (upC σ 40 (va_cpy (σ 20) (σ 40) 0 0 100))) H := hP
  have hD : va_D (AX g) (xW g ρ (upC σ 40 (va_cpy (σ 20) (σ 40) 0 0 100))) := hD
  refine lv_aload_n hx hb dX5_become_15 rfl (lv_at hl 0 rfl) ?_
  refine lv_aload_n hx hb dX5_become_16 rfl (lv_at hl 1 rfl) ?_
  refine x_get (σ := (upC σ 40 (va_cpy (σ 20) (σ 40) 0 0 100))) (v := .int (σ 21 0)) (fs := xF1 g ρ (upC σ 40 (va_cpy (σ 20) (σ 40) 0 0 100))) 5 1 C0 uw_5 dc_5 hK hP rfl rfl 1 (by decide) rfl w_111 dX5_become_17 ?_
  refine va_put (D := g.1) (ci := 5) (v := .int (σ 21 0)) (ty := .int) (C := RX5) (T := TX5) (N := 18) (fs := xF2 g ρ (upC σ 40 (va_cpy (σ 20) (σ 40) 0 0 100))) hx hb hts uw_5 tyX5 tyX5_ok nmX5 hown hK.1 hP hD hS 2 rfl rfl 1 (by decide) (hts _ w_111) (fun x h => by rw [← dc_5 1]; exact h) rfl rfl rfl rfl (Nat.le_of_ble_eq_true rfl) dX5_become_20 (fun H locs hP hD hS => ?_)
  have hP : va_P g.1 vwCl (xW g ρ (up2 (upC σ 40 (va_cpy (σ 20) (σ 40) 0 0 100)) 41 0 (σ 21 0))) H := hP
  have hD : va_D (AX g) (xW g ρ (up2 (upC σ 40 (va_cpy (σ 20) (σ 40) 0 0 100)) 41 0 (σ 21 0))) := hD
  refine lv_aload_n hx hb dX5_become_23 rfl (lv_at hl 0 rfl) ?_
  refine lv_aload_n hx hb dX5_become_24 rfl (lv_at hl 1 rfl) ?_
  refine x_get (σ := (up2 (upC σ 40 (va_cpy (σ 20) (σ 40) 0 0 100)) 41 0 (σ 21 0))) (v := va_rf (ρ 22 0)) (fs := xF1 g ρ (up2 (upC σ 40 (va_cpy (σ 20) (σ 40) 0 0 100)) 41 0 (σ 21 0))) 5 1 C0 uw_5 dc_5 hK hP rfl rfl 2 (by decide) rfl w_112 dX5_become_25 ?_
  refine va_put (D := g.1) (ci := 5) (v := va_rf (ρ 22 0)) (ty := .object "ThreeMeasures$Room") (C := RX5) (T := TX5) (N := 18) (fs := xF2 g ρ (up2 (upC σ 40 (va_cpy (σ 20) (σ 40) 0 0 100)) 41 0 (σ 21 0))) hx hb hts uw_5 tyX5 tyX5_ok nmX5 hown hK.1 hP hD hS 2 rfl rfl 2 (by decide) (hts _ w_112) (fun x h => by rw [← dc_5 2]; exact h) rfl rfl (nar_rf _).1 (nar_rf _).2 (Nat.le_of_ble_eq_true rfl) dX5_become_28 (fun H locs hP hD hS => ?_)
  rw [xR_h40] at hP hD
  refine lv_aload_n hx hb dX5_become_31 rfl (lv_at hl 0 rfl) ?_
  refine lv_aload_n hx hb dX5_become_32 rfl (lv_at hl 1 rfl) ?_
  refine x_get (σ := (up2 (upC σ 40 (va_cpy (σ 20) (σ 40) 0 0 100)) 41 0 (σ 21 0))) (v := .int (σ 23 0)) (fs := xF1 g (upR ρ 42 (fun _ => ρ 22 0)) (up2 (upC σ 40 (va_cpy (σ 20) (σ 40) 0 0 100)) 41 0 (σ 21 0))) 5 1 C0 uw_5 dc_5 hK hP rfl rfl 3 (by decide) rfl w_114 dX5_become_33 ?_
  refine va_put (D := g.1) (ci := 5) (v := .int (σ 23 0)) (ty := .int) (C := RX5) (T := TX5) (N := 18) (fs := xF2 g (upR ρ 42 (fun _ => ρ 22 0)) (up2 (upC σ 40 (va_cpy (σ 20) (σ 40) 0 0 100)) 41 0 (σ 21 0))) hx hb hts uw_5 tyX5 tyX5_ok nmX5 hown hK.1 hP hD hS 2 rfl rfl 3 (by decide) (hts _ w_114) (fun x h => by rw [← dc_5 3]; exact h) rfl rfl rfl rfl (Nat.le_of_ble_eq_true rfl) dX5_become_36 (fun H locs hP hD hS => ?_)
  have hP : va_P g.1 vwCl (xW g (upR ρ 42 (fun _ => ρ 22 0)) (up2 (up2 (upC σ 40 (va_cpy (σ 20) (σ 40) 0 0 100)) 41 0 (σ 21 0)) 43 0 (σ 23 0))) H := hP
  have hD : va_D (AX g) (xW g (upR ρ 42 (fun _ => ρ 22 0)) (up2 (up2 (upC σ 40 (va_cpy (σ 20) (σ 40) 0 0 100)) 41 0 (σ 21 0)) 43 0 (σ 23 0))) := hD
  refine lv_iconst (v := 0) hx hb dX5_become_39 (by decide) ?_
  refine lv_istore_n (lv' := [(2, .int (nI 0)), (0, .ref (g.2.2 102)), (1, .ref (g.2.2 101))]) hx hb dX5_become_40 rfl hl (by decide) rfl (fun ls hl => ?_)
  exact loop 6 0 rfl ls _ _ hl (by rw [mixO_0]; exact hP) (by rw [mixO_0]; exact hD) hS


def f_bc20 (σ : St) : St := (up2 (upC (upC (up2 (upC (up2 (upC (upC (up2 (up2 (upC (upC (up2 (up2 (up2 (upC σ 20 (va_cpy (σ 40) (σ 20) 0 0 100)) 21 0 (σ 41 0)) 23 0 (σ 43 0)) 25 0 (σ 45 0)) 26 (va_cpy (σ 46) (σ 26) 0 0 6)) 27 (va_cpy (σ 47) (σ 27) 0 0 6)) 28 0 (σ 48 0)) 29 0 (σ 49 0)) 30 (va_cpy (σ 50) (σ 30) 0 0 8)) 31 (va_cpy (σ 51) (σ 31) 0 0 8)) 32 0 (σ 52 0)) 33 (va_cpy (σ 53) (σ 33) 0 0 6)) 34 0 (σ 54 0)) 35 (va_cpy (σ 55) (σ 35) 0 0 8)) 36 (va_cpy (σ 56) (σ 36) 0 0 8)) 37 0 (σ 57 0))
def r_bc20 (ρ : RR) : RR := (upR (upR ρ 22 (fun _ => ρ 42 0)) 24 (mixO (ρ 44) (ρ 24) 6))
set_option maxHeartbeats 4000000 in
set_option maxRecDepth 20000 in
theorem k_X5_become_20 (l : Launch) (g : GG) (ρ : RR) (dt : Nat → Nat → Int32) (σ : St) : Met l yX5_become (wsF yX5_become cX5_become 3 none) { frames := 1, cells := 0, slots := 0, locals := 30 } (va_Pc [.ref (g.2.2 101), .ref (g.2.2 102)] (GB g (xW g ρ) (XB g ρ dt) σ)) (va_Qv (fun _ : Unit => True) (fun _ t => va_P g.1 vwCl (xW g (r_bc20 ρ) (f_bc20 σ)) t.heap) (AX g)) 0 0 (AX g) := by
  refine start_X (by decide) (Nat.le_of_ble_eq_true rfl) ?_
  intro p e s m args below meth c C0 hin hB0 ls hl
  obtain ⟨hx, hb, hr, hml, hown, hts, hlocks⟩ := id C0
  obtain ⟨hK, hP, hDD, hB⟩ := hB0
  have hB : XH g ρ dt s.heap := hB
  have hl : lv_has ls 3 [(0, .ref (g.2.2 101)), (1, .ref (g.2.2 102))] := hl
  have hS : va_S (AX g) s.heap s.heap [] := va_S.rf
  have hD : va_D (AX g) (xW g ρ σ) := AX_D hDD (fun _ h => h)
  have tail : ∀ (ls : Array Slot) (H : Heap) (locs : List Loc), lv_has ls 3 [(0, .ref (g.2.2 101)), (1, .ref (g.2.2 102))] → va_P g.1 vwCl (xW g (upR (upR ρ 22 (fun _ => ρ 42 0)) 24 (mixO (ρ 44) (ρ 24) 6)) (up2 (up2 (upC σ 20 (va_cpy (σ 40) (σ 20) 0 0 100)) 21 0 (σ 41 0)) 23 0 (σ 43 0))) H → va_D (AX g) (xW g (upR (upR ρ 22 (fun _ => ρ 42 0)) 24 (mixO (ρ 44) (ρ 24) 6)) (up2 (up2 (upC σ 20 (va_cpy (σ 40) (σ 20) 0 0 100)) 21 0 (σ 41 0)) 23 0 (σ 43 0))) → va_S (AX g) s.heap H locs → W p l e { frames := 1, cells := 0, slots := 0, locals := 30 } s m args below meth c H locs 0 0 (MQ below (va_Qv (fun _ : Unit => True) (fun _ t => va_P g.1 vwCl (xW g (r_bc20 ρ) (f_bc20 σ)) t.heap) (AX g)) args s 0 0 (AX g)) (F0 m 65 ls []) := fun ls H locs hl hP hD hS => by
    refine lv_aload_n hx hb dX5_become_65 rfl (lv_at hl 0 rfl) ?_
    refine lv_aload_n hx hb dX5_become_66 rfl (lv_at hl 1 rfl) ?_
    refine x_get (σ := (up2 (up2 (upC σ 20 (va_cpy (σ 40) (σ 20) 0 0 100)) 21 0 (σ 41 0)) 23 0 (σ 43 0))) (v := .int (σ 45 0)) (fs := xF2 g (upR (upR ρ 22 (fun _ => ρ 42 0)) 24 (mixO (ρ 44) (ρ 24) 6)) (up2 (up2 (upC σ 20 (va_cpy (σ 40) (σ 20) 0 0 100)) 21 0 (σ 41 0)) 23 0 (σ 43 0))) 5 2 C0 uw_5 dc_5 hK hP rfl rfl 5 (by decide) rfl w_118 dX5_become_67 ?_
    refine va_put (D := g.1) (ci := 5) (v := .int (σ 45 0)) (ty := .int) (C := RX5) (T := TX5) (N := 18) (fs := xF1 g (upR (upR ρ 22 (fun _ => ρ 42 0)) 24 (mixO (ρ 44) (ρ 24) 6)) (up2 (up2 (upC σ 20 (va_cpy (σ 40) (σ 20) 0 0 100)) 21 0 (σ 41 0)) 23 0 (σ 43 0))) hx hb hts uw_5 tyX5 tyX5_ok nmX5 hown hK.1 hP hD hS 1 rfl rfl 5 (by decide) (hts _ w_118) (fun x h => by rw [← dc_5 5]; exact h) rfl rfl rfl rfl (Nat.le_of_ble_eq_true rfl) dX5_become_70 (fun H locs hP hD hS => ?_)
    have hP : va_P g.1 vwCl (xW g (upR (upR ρ 22 (fun _ => ρ 42 0)) 24 (mixO (ρ 44) (ρ 24) 6)) (up2 (up2 (up2 (upC σ 20 (va_cpy (σ 40) (σ 20) 0 0 100)) 21 0 (σ 41 0)) 23 0 (σ 43 0)) 25 0 (σ 45 0))) H := hP
    have hD : va_D (AX g) (xW g (upR (upR ρ 22 (fun _ => ρ 42 0)) 24 (mixO (ρ 44) (ρ 24) 6)) (up2 (up2 (up2 (upC σ 20 (va_cpy (σ 40) (σ 20) 0 0 100)) 21 0 (σ 41 0)) 23 0 (σ 43 0)) 25 0 (σ 45 0))) := hD
    refine lv_aload_n hx hb dX5_become_73 rfl (lv_at hl 1 rfl) ?_
    refine x_get (σ := (up2 (up2 (up2 (upC σ 20 (va_cpy (σ 40) (σ 20) 0 0 100)) 21 0 (σ 41 0)) 23 0 (σ 43 0)) 25 0 (σ 45 0))) (v := .ref (g.2.2 46)) (fs := xF2 g (upR (upR ρ 22 (fun _ => ρ 42 0)) 24 (mixO (ρ 44) (ρ 24) 6)) (up2 (up2 (up2 (upC σ 20 (va_cpy (σ 40) (σ 20) 0 0 100)) 21 0 (σ 41 0)) 23 0 (σ 43 0)) 25 0 (σ 45 0))) 5 2 C0 uw_5 dc_5 hK hP rfl rfl 6 (by decide) rfl w_120 dX5_become_74 ?_
    refine lv_iconst (v := 0) hx hb dX5_become_77 (by decide) ?_
    refine lv_aload_n hx hb dX5_become_78 rfl (lv_at hl 0 rfl) ?_
    refine x_get (σ := (up2 (up2 (up2 (upC σ 20 (va_cpy (σ 40) (σ 20) 0 0 100)) 21 0 (σ 41 0)) 23 0 (σ 43 0)) 25 0 (σ 45 0))) (v := .ref (g.2.2 26)) (fs := xF1 g (upR (upR ρ 22 (fun _ => ρ 42 0)) 24 (mixO (ρ 44) (ρ 24) 6)) (up2 (up2 (up2 (upC σ 20 (va_cpy (σ 40) (σ 20) 0 0 100)) 21 0 (σ 41 0)) 23 0 (σ 43 0)) 25 0 (σ 45 0))) 5 1 C0 uw_5 dc_5 hK hP rfl rfl 6 (by decide) rfl w_120 dX5_become_79 ?_
    refine lv_iconst (v := 0) hx hb dX5_become_82 (by decide) ?_
    refine lv_bipush (v := 6) hx hb dX5_become_83 (by decide) ?_
    refine va_copyi hx hb (hml.trans hl.1.symm) hown (hts _ w_953) (hts _ w_442) (hts _ w_441) (hts _ w_84) hK.1 hP hD hS 19 11 0 0 (n0 := 6) (n1 := 6) (f := σ 46) (g := σ 26) rfl rfl rfl rfl rfl (by decide) (by decide) (by decide) (by decide) (by decide) (fun i hi => rfl) (Nat.le_refl 1) (Nat.le_of_ble_eq_true rfl) dX5_become_85 (fun H locs hP hD hS => ?_)
    have hP : va_P g.1 vwCl (xW g (upR (upR ρ 22 (fun _ => ρ 42 0)) 24 (mixO (ρ 44) (ρ 24) 6)) (upC (up2 (up2 (up2 (upC σ 20 (va_cpy (σ 40) (σ 20) 0 0 100)) 21 0 (σ 41 0)) 23 0 (σ 43 0)) 25 0 (σ 45 0)) 26 (va_cpy (σ 46) (σ 26) 0 0 6))) H := hP
    have hD : va_D (AX g) (xW g (upR (upR ρ 22 (fun _ => ρ 42 0)) 24 (mixO (ρ 44) (ρ 24) 6)) (upC (up2 (up2 (up2 (upC σ 20 (va_cpy (σ 40) (σ 20) 0 0 100)) 21 0 (σ 41 0)) 23 0 (σ 43 0)) 25 0 (σ 45 0)) 26 (va_cpy (σ 46) (σ 26) 0 0 6))) := hD
    refine lv_aload_n hx hb dX5_become_88 rfl (lv_at hl 1 rfl) ?_
    refine x_get (σ := (upC (up2 (up2 (up2 (upC σ 20 (va_cpy (σ 40) (σ 20) 0 0 100)) 21 0 (σ 41 0)) 23 0 (σ 43 0)) 25 0 (σ 45 0)) 26 (va_cpy (σ 46) (σ 26) 0 0 6))) (v := .ref (g.2.2 47)) (fs := xF2 g (upR (upR ρ 22 (fun _ => ρ 42 0)) 24 (mixO (ρ 44) (ρ 24) 6)) (upC (up2 (up2 (up2 (upC σ 20 (va_cpy (σ 40) (σ 20) 0 0 100)) 21 0 (σ 41 0)) 23 0 (σ 43 0)) 25 0 (σ 45 0)) 26 (va_cpy (σ 46) (σ 26) 0 0 6))) 5 2 C0 uw_5 dc_5 hK hP rfl rfl 7 (by decide) rfl w_122 dX5_become_89 ?_
    refine lv_iconst (v := 0) hx hb dX5_become_92 (by decide) ?_
    refine lv_aload_n hx hb dX5_become_93 rfl (lv_at hl 0 rfl) ?_
    refine x_get (σ := (upC (up2 (up2 (up2 (upC σ 20 (va_cpy (σ 40) (σ 20) 0 0 100)) 21 0 (σ 41 0)) 23 0 (σ 43 0)) 25 0 (σ 45 0)) 26 (va_cpy (σ 46) (σ 26) 0 0 6))) (v := .ref (g.2.2 27)) (fs := xF1 g (upR (upR ρ 22 (fun _ => ρ 42 0)) 24 (mixO (ρ 44) (ρ 24) 6)) (upC (up2 (up2 (up2 (upC σ 20 (va_cpy (σ 40) (σ 20) 0 0 100)) 21 0 (σ 41 0)) 23 0 (σ 43 0)) 25 0 (σ 45 0)) 26 (va_cpy (σ 46) (σ 26) 0 0 6))) 5 1 C0 uw_5 dc_5 hK hP rfl rfl 7 (by decide) rfl w_122 dX5_become_94 ?_
    refine lv_iconst (v := 0) hx hb dX5_become_97 (by decide) ?_
    refine lv_bipush (v := 6) hx hb dX5_become_98 (by decide) ?_
    refine va_copyi hx hb (hml.trans hl.1.symm) hown (hts _ w_953) (hts _ w_442) (hts _ w_441) (hts _ w_84) hK.1 hP hD hS 20 12 0 0 (n0 := 6) (n1 := 6) (f := σ 47) (g := σ 27) rfl rfl rfl rfl rfl (by decide) (by decide) (by decide) (by decide) (by decide) (fun i hi => rfl) (Nat.le_refl 1) (Nat.le_of_ble_eq_true rfl) dX5_become_100 (fun H locs hP hD hS => ?_)
    have hP : va_P g.1 vwCl (xW g (upR (upR ρ 22 (fun _ => ρ 42 0)) 24 (mixO (ρ 44) (ρ 24) 6)) (upC (upC (up2 (up2 (up2 (upC σ 20 (va_cpy (σ 40) (σ 20) 0 0 100)) 21 0 (σ 41 0)) 23 0 (σ 43 0)) 25 0 (σ 45 0)) 26 (va_cpy (σ 46) (σ 26) 0 0 6)) 27 (va_cpy (σ 47) (σ 27) 0 0 6))) H := hP
    have hD : va_D (AX g) (xW g (upR (upR ρ 22 (fun _ => ρ 42 0)) 24 (mixO (ρ 44) (ρ 24) 6)) (upC (upC (up2 (up2 (up2 (upC σ 20 (va_cpy (σ 40) (σ 20) 0 0 100)) 21 0 (σ 41 0)) 23 0 (σ 43 0)) 25 0 (σ 45 0)) 26 (va_cpy (σ 46) (σ 26) 0 0 6)) 27 (va_cpy (σ 47) (σ 27) 0 0 6))) := hD
    refine lv_aload_n hx hb dX5_become_103 rfl (lv_at hl 0 rfl) ?_
    refine lv_aload_n hx hb dX5_become_104 rfl (lv_at hl 1 rfl) ?_
    refine x_get (σ := (upC (upC (up2 (up2 (up2 (upC σ 20 (va_cpy (σ 40) (σ 20) 0 0 100)) 21 0 (σ 41 0)) 23 0 (σ 43 0)) 25 0 (σ 45 0)) 26 (va_cpy (σ 46) (σ 26) 0 0 6)) 27 (va_cpy (σ 47) (σ 27) 0 0 6))) (v := .int (σ 48 0)) (fs := xF2 g (upR (upR ρ 22 (fun _ => ρ 42 0)) 24 (mixO (ρ 44) (ρ 24) 6)) (upC (upC (up2 (up2 (up2 (upC σ 20 (va_cpy (σ 40) (σ 20) 0 0 100)) 21 0 (σ 41 0)) 23 0 (σ 43 0)) 25 0 (σ 45 0)) 26 (va_cpy (σ 46) (σ 26) 0 0 6)) 27 (va_cpy (σ 47) (σ 27) 0 0 6))) 5 2 C0 uw_5 dc_5 hK hP rfl rfl 8 (by decide) rfl w_124 dX5_become_105 ?_
    refine va_put (D := g.1) (ci := 5) (v := .int (σ 48 0)) (ty := .int) (C := RX5) (T := TX5) (N := 18) (fs := xF1 g (upR (upR ρ 22 (fun _ => ρ 42 0)) 24 (mixO (ρ 44) (ρ 24) 6)) (upC (upC (up2 (up2 (up2 (upC σ 20 (va_cpy (σ 40) (σ 20) 0 0 100)) 21 0 (σ 41 0)) 23 0 (σ 43 0)) 25 0 (σ 45 0)) 26 (va_cpy (σ 46) (σ 26) 0 0 6)) 27 (va_cpy (σ 47) (σ 27) 0 0 6))) hx hb hts uw_5 tyX5 tyX5_ok nmX5 hown hK.1 hP hD hS 1 rfl rfl 8 (by decide) (hts _ w_124) (fun x h => by rw [← dc_5 8]; exact h) rfl rfl rfl rfl (Nat.le_of_ble_eq_true rfl) dX5_become_108 (fun H locs hP hD hS => ?_)
    have hP : va_P g.1 vwCl (xW g (upR (upR ρ 22 (fun _ => ρ 42 0)) 24 (mixO (ρ 44) (ρ 24) 6)) (up2 (upC (upC (up2 (up2 (up2 (upC σ 20 (va_cpy (σ 40) (σ 20) 0 0 100)) 21 0 (σ 41 0)) 23 0 (σ 43 0)) 25 0 (σ 45 0)) 26 (va_cpy (σ 46) (σ 26) 0 0 6)) 27 (va_cpy (σ 47) (σ 27) 0 0 6)) 28 0 (σ 48 0))) H := hP
    have hD : va_D (AX g) (xW g (upR (upR ρ 22 (fun _ => ρ 42 0)) 24 (mixO (ρ 44) (ρ 24) 6)) (up2 (upC (upC (up2 (up2 (up2 (upC σ 20 (va_cpy (σ 40) (σ 20) 0 0 100)) 21 0 (σ 41 0)) 23 0 (σ 43 0)) 25 0 (σ 45 0)) 26 (va_cpy (σ 46) (σ 26) 0 0 6)) 27 (va_cpy (σ 47) (σ 27) 0 0 6)) 28 0 (σ 48 0))) := hD
    refine lv_aload_n hx hb dX5_become_111 rfl (lv_at hl 0 rfl) ?_
    refine lv_aload_n hx hb dX5_become_112 rfl (lv_at hl 1 rfl) ?_
    refine x_get (σ := (up2 (upC (upC (up2 (up2 (up2 (upC σ 20 (va_cpy (σ 40) (σ 20) 0 0 100)) 21 0 (σ 41 0)) 23 0 (σ 43 0)) 25 0 (σ 45 0)) 26 (va_cpy (σ 46) (σ 26) 0 0 6)) 27 (va_cpy (σ 47) (σ 27) 0 0 6)) 28 0 (σ 48 0))) (v := .int (σ 49 0)) (fs := xF2 g (upR (upR ρ 22 (fun _ => ρ 42 0)) 24 (mixO (ρ 44) (ρ 24) 6)) (up2 (upC (upC (up2 (up2 (up2 (upC σ 20 (va_cpy (σ 40) (σ 20) 0 0 100)) 21 0 (σ 41 0)) 23 0 (σ 43 0)) 25 0 (σ 45 0)) 26 (va_cpy (σ 46) (σ 26) 0 0 6)) 27 (va_cpy (σ 47) (σ 27) 0 0 6)) 28 0 (σ 48 0))) 5 2 C0 uw_5 dc_5 hK hP rfl rfl 9 (by decide) rfl w_126 dX5_become_113 ?_
    refine va_put (D := g.1) (ci := 5) (v := .int (σ 49 0)) (ty := .int) (C := RX5) (T := TX5) (N := 18) (fs := xF1 g (upR (upR ρ 22 (fun _ => ρ 42 0)) 24 (mixO (ρ 44) (ρ 24) 6)) (up2 (upC (upC (up2 (up2 (up2 (upC σ 20 (va_cpy (σ 40) (σ 20) 0 0 100)) 21 0 (σ 41 0)) 23 0 (σ 43 0)) 25 0 (σ 45 0)) 26 (va_cpy (σ 46) (σ 26) 0 0 6)) 27 (va_cpy (σ 47) (σ 27) 0 0 6)) 28 0 (σ 48 0))) hx hb hts uw_5 tyX5 tyX5_ok nmX5 hown hK.1 hP hD hS 1 rfl rfl 9 (by decide) (hts _ w_126) (fun x h => by rw [← dc_5 9]; exact h) rfl rfl rfl rfl (Nat.le_of_ble_eq_true rfl) dX5_become_116 (fun H locs hP hD hS => ?_)
    have hP : va_P g.1 vwCl (xW g (upR (upR ρ 22 (fun _ => ρ 42 0)) 24 (mixO (ρ 44) (ρ 24) 6)) (up2 (up2 (upC (upC (up2 (up2 (up2 (upC σ 20 (va_cpy (σ 40) (σ 20) 0 0 100)) 21 0 (σ 41 0)) 23 0 (σ 43 0)) 25 0 (σ 45 0)) 26 (va_cpy (σ 46) (σ 26) 0 0 6)) 27 (va_cpy (σ 47) (σ 27) 0 0 6)) 28 0 (σ 48 0)) 29 0 (σ 49 0))) H := hP
    have hD : va_D (AX g) (xW g (upR (upR ρ 22 (fun _ => ρ 42 0)) 24 (mixO (ρ 44) (ρ 24) 6)) (up2 (up2 (upC (upC (up2 (up2 (up2 (upC σ 20 (va_cpy (σ 40) (σ 20) 0 0 100)) 21 0 (σ 41 0)) 23 0 (σ 43 0)) 25 0 (σ 45 0)) 26 (va_cpy (σ 46) (σ 26) 0 0 6)) 27 (va_cpy (σ 47) (σ 27) 0 0 6)) 28 0 (σ 48 0)) 29 0 (σ 49 0))) := hD
    refine lv_aload_n hx hb dX5_become_119 rfl (lv_at hl 1 rfl) ?_
    refine x_get (σ := (up2 (up2 (upC (upC (up2 (up2 (up2 (upC σ 20 (va_cpy (σ 40) (σ 20) 0 0 100)) 21 0 (σ 41 0)) 23 0 (σ 43 0)) 25 0 (σ 45 0)) 26 (va_cpy (σ 46) (σ 26) 0 0 6)) 27 (va_cpy (σ 47) (σ 27) 0 0 6)) 28 0 (σ 48 0)) 29 0 (σ 49 0))) (v := .ref (g.2.2 50)) (fs := xF2 g (upR (upR ρ 22 (fun _ => ρ 42 0)) 24 (mixO (ρ 44) (ρ 24) 6)) (up2 (up2 (upC (upC (up2 (up2 (up2 (upC σ 20 (va_cpy (σ 40) (σ 20) 0 0 100)) 21 0 (σ 41 0)) 23 0 (σ 43 0)) 25 0 (σ 45 0)) 26 (va_cpy (σ 46) (σ 26) 0 0 6)) 27 (va_cpy (σ 47) (σ 27) 0 0 6)) 28 0 (σ 48 0)) 29 0 (σ 49 0))) 5 2 C0 uw_5 dc_5 hK hP rfl rfl 10 (by decide) rfl w_128 dX5_become_120 ?_
    refine lv_iconst (v := 0) hx hb dX5_become_123 (by decide) ?_
    refine lv_aload_n hx hb dX5_become_124 rfl (lv_at hl 0 rfl) ?_
    refine x_get (σ := (up2 (up2 (upC (upC (up2 (up2 (up2 (upC σ 20 (va_cpy (σ 40) (σ 20) 0 0 100)) 21 0 (σ 41 0)) 23 0 (σ 43 0)) 25 0 (σ 45 0)) 26 (va_cpy (σ 46) (σ 26) 0 0 6)) 27 (va_cpy (σ 47) (σ 27) 0 0 6)) 28 0 (σ 48 0)) 29 0 (σ 49 0))) (v := .ref (g.2.2 30)) (fs := xF1 g (upR (upR ρ 22 (fun _ => ρ 42 0)) 24 (mixO (ρ 44) (ρ 24) 6)) (up2 (up2 (upC (upC (up2 (up2 (up2 (upC σ 20 (va_cpy (σ 40) (σ 20) 0 0 100)) 21 0 (σ 41 0)) 23 0 (σ 43 0)) 25 0 (σ 45 0)) 26 (va_cpy (σ 46) (σ 26) 0 0 6)) 27 (va_cpy (σ 47) (σ 27) 0 0 6)) 28 0 (σ 48 0)) 29 0 (σ 49 0))) 5 1 C0 uw_5 dc_5 hK hP rfl rfl 10 (by decide) rfl w_128 dX5_become_125 ?_
    refine lv_iconst (v := 0) hx hb dX5_become_128 (by decide) ?_
    refine lv_bipush (v := 8) hx hb dX5_become_129 (by decide) ?_
    refine va_copyi hx hb (hml.trans hl.1.symm) hown (hts _ w_953) (hts _ w_442) (hts _ w_441) (hts _ w_84) hK.1 hP hD hS 21 13 0 0 (n0 := 8) (n1 := 8) (f := σ 50) (g := σ 30) rfl rfl rfl rfl rfl (by decide) (by decide) (by decide) (by decide) (by decide) (fun i hi => rfl) (Nat.le_refl 1) (Nat.le_of_ble_eq_true rfl) dX5_become_131 (fun H locs hP hD hS => ?_)
    have hP : va_P g.1 vwCl (xW g (upR (upR ρ 22 (fun _ => ρ 42 0)) 24 (mixO (ρ 44) (ρ 24) 6)) (upC (up2 (up2 (upC (upC (up2 (up2 (up2 (upC σ 20 (va_cpy (σ 40) (σ 20) 0 0 100)) 21 0 (σ 41 0)) 23 0 (σ 43 0)) 25 0 (σ 45 0)) 26 (va_cpy (σ 46) (σ 26) 0 0 6)) 27 (va_cpy (σ 47) (σ 27) 0 0 6)) 28 0 (σ 48 0)) 29 0 (σ 49 0)) 30 (va_cpy (σ 50) (σ 30) 0 0 8))) H := hP
    have hD : va_D (AX g) (xW g (upR (upR ρ 22 (fun _ => ρ 42 0)) 24 (mixO (ρ 44) (ρ 24) 6)) (upC (up2 (up2 (upC (upC (up2 (up2 (up2 (upC σ 20 (va_cpy (σ 40) (σ 20) 0 0 100)) 21 0 (σ 41 0)) 23 0 (σ 43 0)) 25 0 (σ 45 0)) 26 (va_cpy (σ 46) (σ 26) 0 0 6)) 27 (va_cpy (σ 47) (σ 27) 0 0 6)) 28 0 (σ 48 0)) 29 0 (σ 49 0)) 30 (va_cpy (σ 50) (σ 30) 0 0 8))) := hD
    refine lv_aload_n hx hb dX5_become_134 rfl (lv_at hl 1 rfl) ?_
    refine x_get (σ := (upC (up2 (up2 (upC (upC (up2 (up2 (up2 (upC σ 20 (va_cpy (σ 40) (σ 20) 0 0 100)) 21 0 (σ 41 0)) 23 0 (σ 43 0)) 25 0 (σ 45 0)) 26 (va_cpy (σ 46) (σ 26) 0 0 6)) 27 (va_cpy (σ 47) (σ 27) 0 0 6)) 28 0 (σ 48 0)) 29 0 (σ 49 0)) 30 (va_cpy (σ 50) (σ 30) 0 0 8))) (v := .ref (g.2.2 51)) (fs := xF2 g (upR (upR ρ 22 (fun _ => ρ 42 0)) 24 (mixO (ρ 44) (ρ 24) 6)) (upC (up2 (up2 (upC (upC (up2 (up2 (up2 (upC σ 20 (va_cpy (σ 40) (σ 20) 0 0 100)) 21 0 (σ 41 0)) 23 0 (σ 43 0)) 25 0 (σ 45 0)) 26 (va_cpy (σ 46) (σ 26) 0 0 6)) 27 (va_cpy (σ 47) (σ 27) 0 0 6)) 28 0 (σ 48 0)) 29 0 (σ 49 0)) 30 (va_cpy (σ 50) (σ 30) 0 0 8))) 5 2 C0 uw_5 dc_5 hK hP rfl rfl 11 (by decide) rfl w_130 dX5_become_135 ?_
    refine lv_iconst (v := 0) hx hb dX5_become_138 (by decide) ?_
    refine lv_aload_n hx hb dX5_become_139 rfl (lv_at hl 0 rfl) ?_
    refine x_get (σ := (upC (up2 (up2 (upC (upC (up2 (up2 (up2 (upC σ 20 (va_cpy (σ 40) (σ 20) 0 0 100)) 21 0 (σ 41 0)) 23 0 (σ 43 0)) 25 0 (σ 45 0)) 26 (va_cpy (σ 46) (σ 26) 0 0 6)) 27 (va_cpy (σ 47) (σ 27) 0 0 6)) 28 0 (σ 48 0)) 29 0 (σ 49 0)) 30 (va_cpy (σ 50) (σ 30) 0 0 8))) (v := .ref (g.2.2 31)) (fs := xF1 g (upR (upR ρ 22 (fun _ => ρ 42 0)) 24 (mixO (ρ 44) (ρ 24) 6)) (upC (up2 (up2 (upC (upC (up2 (up2 (up2 (upC σ 20 (va_cpy (σ 40) (σ 20) 0 0 100)) 21 0 (σ 41 0)) 23 0 (σ 43 0)) 25 0 (σ 45 0)) 26 (va_cpy (σ 46) (σ 26) 0 0 6)) 27 (va_cpy (σ 47) (σ 27) 0 0 6)) 28 0 (σ 48 0)) 29 0 (σ 49 0)) 30 (va_cpy (σ 50) (σ 30) 0 0 8))) 5 1 C0 uw_5 dc_5 hK hP rfl rfl 11 (by decide) rfl w_130 dX5_become_140 ?_
    refine lv_iconst (v := 0) hx hb dX5_become_143 (by decide) ?_
    refine lv_bipush (v := 8) hx hb dX5_become_144 (by decide) ?_
    refine va_copyi hx hb (hml.trans hl.1.symm) hown (hts _ w_953) (hts _ w_442) (hts _ w_441) (hts _ w_84) hK.1 hP hD hS 22 14 0 0 (n0 := 8) (n1 := 8) (f := σ 51) (g := σ 31) rfl rfl rfl rfl rfl (by decide) (by decide) (by decide) (by decide) (by decide) (fun i hi => rfl) (Nat.le_refl 1) (Nat.le_of_ble_eq_true rfl) dX5_become_146 (fun H locs hP hD hS => ?_)
    have hP : va_P g.1 vwCl (xW g (upR (upR ρ 22 (fun _ => ρ 42 0)) 24 (mixO (ρ 44) (ρ 24) 6)) (upC (upC (up2 (up2 (upC (upC (up2 (up2 (up2 (upC σ 20 (va_cpy (σ 40) (σ 20) 0 0 100)) 21 0 (σ 41 0)) 23 0 (σ 43 0)) 25 0 (σ 45 0)) 26 (va_cpy (σ 46) (σ 26) 0 0 6)) 27 (va_cpy (σ 47) (σ 27) 0 0 6)) 28 0 (σ 48 0)) 29 0 (σ 49 0)) 30 (va_cpy (σ 50) (σ 30) 0 0 8)) 31 (va_cpy (σ 51) (σ 31) 0 0 8))) H := hP
    have hD : va_D (AX g) (xW g (upR (upR ρ 22 (fun _ => ρ 42 0)) 24 (mixO (ρ 44) (ρ 24) 6)) (upC (upC (up2 (up2 (upC (upC (up2 (up2 (up2 (upC σ 20 (va_cpy (σ 40) (σ 20) 0 0 100)) 21 0 (σ 41 0)) 23 0 (σ 43 0)) 25 0 (σ 45 0)) 26 (va_cpy (σ 46) (σ 26) 0 0 6)) 27 (va_cpy (σ 47) (σ 27) 0 0 6)) 28 0 (σ 48 0)) 29 0 (σ 49 0)) 30 (va_cpy (σ 50) (σ 30) 0 0 8)) 31 (va_cpy (σ 51) (σ 31) 0 0 8))) := hD
    refine lv_aload_n hx hb dX5_become_149 rfl (lv_at hl 0 rfl) ?_
    refine lv_aload_n hx hb dX5_become_150 rfl (lv_at hl 1 rfl) ?_
    refine x_get (σ := (upC (upC (up2 (up2 (upC (upC (up2 (up2 (up2 (upC σ 20 (va_cpy (σ 40) (σ 20) 0 0 100)) 21 0 (σ 41 0)) 23 0 (σ 43 0)) 25 0 (σ 45 0)) 26 (va_cpy (σ 46) (σ 26) 0 0 6)) 27 (va_cpy (σ 47) (σ 27) 0 0 6)) 28 0 (σ 48 0)) 29 0 (σ 49 0)) 30 (va_cpy (σ 50) (σ 30) 0 0 8)) 31 (va_cpy (σ 51) (σ 31) 0 0 8))) (v := .int (σ 52 0)) (fs := xF2 g (upR (upR ρ 22 (fun _ => ρ 42 0)) 24 (mixO (ρ 44) (ρ 24) 6)) (upC (upC (up2 (up2 (upC (upC (up2 (up2 (up2 (upC σ 20 (va_cpy (σ 40) (σ 20) 0 0 100)) 21 0 (σ 41 0)) 23 0 (σ 43 0)) 25 0 (σ 45 0)) 26 (va_cpy (σ 46) (σ 26) 0 0 6)) 27 (va_cpy (σ 47) (σ 27) 0 0 6)) 28 0 (σ 48 0)) 29 0 (σ 49 0)) 30 (va_cpy (σ 50) (σ 30) 0 0 8)) 31 (va_cpy (σ 51) (σ 31) 0 0 8))) 5 2 C0 uw_5 dc_5 hK hP rfl rfl 12 (by decide) rfl w_132 dX5_become_151 ?_
    refine va_put (D := g.1) (ci := 5) (v := .int (σ 52 0)) (ty := .int) (C := RX5) (T := TX5) (N := 18) (fs := xF1 g (upR (upR ρ 22 (fun _ => ρ 42 0)) 24 (mixO (ρ 44) (ρ 24) 6)) (upC (upC (up2 (up2 (upC (upC (up2 (up2 (up2 (upC σ 20 (va_cpy (σ 40) (σ 20) 0 0 100)) 21 0 (σ 41 0)) 23 0 (σ 43 0)) 25 0 (σ 45 0)) 26 (va_cpy (σ 46) (σ 26) 0 0 6)) 27 (va_cpy (σ 47) (σ 27) 0 0 6)) 28 0 (σ 48 0)) 29 0 (σ 49 0)) 30 (va_cpy (σ 50) (σ 30) 0 0 8)) 31 (va_cpy (σ 51) (σ 31) 0 0 8))) hx hb hts uw_5 tyX5 tyX5_ok nmX5 hown hK.1 hP hD hS 1 rfl rfl 12 (by decide) (hts _ w_132) (fun x h => by rw [← dc_5 12]; exact h) rfl rfl rfl rfl (Nat.le_of_ble_eq_true rfl) dX5_become_154 (fun H locs hP hD hS => ?_)
    have hP : va_P g.1 vwCl (xW g (upR (upR ρ 22 (fun _ => ρ 42 0)) 24 (mixO (ρ 44) (ρ 24) 6)) (up2 (upC (upC (up2 (up2 (upC (upC (up2 (up2 (up2 (upC σ 20 (va_cpy (σ 40) (σ 20) 0 0 100)) 21 0 (σ 41 0)) 23 0 (σ 43 0)) 25 0 (σ 45 0)) 26 (va_cpy (σ 46) (σ 26) 0 0 6)) 27 (va_cpy (σ 47) (σ 27) 0 0 6)) 28 0 (σ 48 0)) 29 0 (σ 49 0)) 30 (va_cpy (σ 50) (σ 30) 0 0 8)) 31 (va_cpy (σ 51) (σ 31) 0 0 8)) 32 0 (σ 52 0))) H := hP
    have hD : va_D (AX g) (xW g (upR (upR ρ 22 (fun _ => ρ 42 0)) 24 (mixO (ρ 44) (ρ 24) 6)) (up2 (upC (upC (up2 (up2 (upC (upC (up2 (up2 (up2 (upC σ 20 (va_cpy (σ 40) (σ 20) 0 0 100)) 21 0 (σ 41 0)) 23 0 (σ 43 0)) 25 0 (σ 45 0)) 26 (va_cpy (σ 46) (σ 26) 0 0 6)) 27 (va_cpy (σ 47) (σ 27) 0 0 6)) 28 0 (σ 48 0)) 29 0 (σ 49 0)) 30 (va_cpy (σ 50) (σ 30) 0 0 8)) 31 (va_cpy (σ 51) (σ 31) 0 0 8)) 32 0 (σ 52 0))) := hD
    refine lv_aload_n hx hb dX5_become_157 rfl (lv_at hl 1 rfl) ?_
    refine x_get (σ := (up2 (upC (upC (up2 (up2 (upC (upC (up2 (up2 (up2 (upC σ 20 (va_cpy (σ 40) (σ 20) 0 0 100)) 21 0 (σ 41 0)) 23 0 (σ 43 0)) 25 0 (σ 45 0)) 26 (va_cpy (σ 46) (σ 26) 0 0 6)) 27 (va_cpy (σ 47) (σ 27) 0 0 6)) 28 0 (σ 48 0)) 29 0 (σ 49 0)) 30 (va_cpy (σ 50) (σ 30) 0 0 8)) 31 (va_cpy (σ 51) (σ 31) 0 0 8)) 32 0 (σ 52 0))) (v := .ref (g.2.2 53)) (fs := xF2 g (upR (upR ρ 22 (fun _ => ρ 42 0)) 24 (mixO (ρ 44) (ρ 24) 6)) (up2 (upC (upC (up2 (up2 (upC (upC (up2 (up2 (up2 (upC σ 20 (va_cpy (σ 40) (σ 20) 0 0 100)) 21 0 (σ 41 0)) 23 0 (σ 43 0)) 25 0 (σ 45 0)) 26 (va_cpy (σ 46) (σ 26) 0 0 6)) 27 (va_cpy (σ 47) (σ 27) 0 0 6)) 28 0 (σ 48 0)) 29 0 (σ 49 0)) 30 (va_cpy (σ 50) (σ 30) 0 0 8)) 31 (va_cpy (σ 51) (σ 31) 0 0 8)) 32 0 (σ 52 0))) 5 2 C0 uw_5 dc_5 hK hP rfl rfl 13 (by decide) rfl w_134 dX5_become_158 ?_
    refine lv_iconst (v := 0) hx hb dX5_become_161 (by decide) ?_
    refine lv_aload_n hx hb dX5_become_162 rfl (lv_at hl 0 rfl) ?_
    refine x_get (σ := (up2 (upC (upC (up2 (up2 (upC (upC (up2 (up2 (up2 (upC σ 20 (va_cpy (σ 40) (σ 20) 0 0 100)) 21 0 (σ 41 0)) 23 0 (σ 43 0)) 25 0 (σ 45 0)) 26 (va_cpy (σ 46) (σ 26) 0 0 6)) 27 (va_cpy (σ 47) (σ 27) 0 0 6)) 28 0 (σ 48 0)) 29 0 (σ 49 0)) 30 (va_cpy (σ 50) (σ 30) 0 0 8)) 31 (va_cpy (σ 51) (σ 31) 0 0 8)) 32 0 (σ 52 0))) (v := .ref (g.2.2 33)) (fs := xF1 g (upR (upR ρ 22 (fun _ => ρ 42 0)) 24 (mixO (ρ 44) (ρ 24) 6)) (up2 (upC (upC (up2 (up2 (upC (upC (up2 (up2 (up2 (upC σ 20 (va_cpy (σ 40) (σ 20) 0 0 100)) 21 0 (σ 41 0)) 23 0 (σ 43 0)) 25 0 (σ 45 0)) 26 (va_cpy (σ 46) (σ 26) 0 0 6)) 27 (va_cpy (σ 47) (σ 27) 0 0 6)) 28 0 (σ 48 0)) 29 0 (σ 49 0)) 30 (va_cpy (σ 50) (σ 30) 0 0 8)) 31 (va_cpy (σ 51) (σ 31) 0 0 8)) 32 0 (σ 52 0))) 5 1 C0 uw_5 dc_5 hK hP rfl rfl 13 (by decide) rfl w_134 dX5_become_163 ?_
    refine lv_iconst (v := 0) hx hb dX5_become_166 (by decide) ?_
    refine lv_bipush (v := 6) hx hb dX5_become_167 (by decide) ?_
    refine va_copyi hx hb (hml.trans hl.1.symm) hown (hts _ w_953) (hts _ w_442) (hts _ w_441) (hts _ w_84) hK.1 hP hD hS 23 15 0 0 (n0 := 6) (n1 := 6) (f := σ 53) (g := σ 33) rfl rfl rfl rfl rfl (by decide) (by decide) (by decide) (by decide) (by decide) (fun i hi => rfl) (Nat.le_refl 1) (Nat.le_of_ble_eq_true rfl) dX5_become_169 (fun H locs hP hD hS => ?_)
    have hP : va_P g.1 vwCl (xW g (upR (upR ρ 22 (fun _ => ρ 42 0)) 24 (mixO (ρ 44) (ρ 24) 6)) (upC (up2 (upC (upC (up2 (up2 (upC (upC (up2 (up2 (up2 (upC σ 20 (va_cpy (σ 40) (σ 20) 0 0 100)) 21 0 (σ 41 0)) 23 0 (σ 43 0)) 25 0 (σ 45 0)) 26 (va_cpy (σ 46) (σ 26) 0 0 6)) 27 (va_cpy (σ 47) (σ 27) 0 0 6)) 28 0 (σ 48 0)) 29 0 (σ 49 0)) 30 (va_cpy (σ 50) (σ 30) 0 0 8)) 31 (va_cpy (σ 51) (σ 31) 0 0 8)) 32 0 (σ 52 0)) 33 (va_cpy (σ 53) (σ 33) 0 0 6))) H := hP
    have hD : va_D (AX g) (xW g (upR (upR ρ 22 (fun _ => ρ 42 0)) 24 (mixO (ρ 44) (ρ 24) 6)) (upC (up2 (upC (upC (up2 (up2 (upC (upC (up2 (up2 (up2 (upC σ 20 (va_cpy (σ 40) (σ 20) 0 0 100)) 21 0 (σ 41 0)) 23 0 (σ 43 0)) 25 0 (σ 45 0)) 26 (va_cpy (σ 46) (σ 26) 0 0 6)) 27 (va_cpy (σ 47) (σ 27) 0 0 6)) 28 0 (σ 48 0)) 29 0 (σ 49 0)) 30 (va_cpy (σ 50) (σ 30) 0 0 8)) 31 (va_cpy (σ 51) (σ 31) 0 0 8)) 32 0 (σ 52 0)) 33 (va_cpy (σ 53) (σ 33) 0 0 6))) := hD
    refine lv_aload_n hx hb dX5_become_172 rfl (lv_at hl 0 rfl) ?_
    refine lv_aload_n hx hb dX5_become_173 rfl (lv_at hl 1 rfl) ?_
    refine x_get (σ := (upC (up2 (upC (upC (up2 (up2 (upC (upC (up2 (up2 (up2 (upC σ 20 (va_cpy (σ 40) (σ 20) 0 0 100)) 21 0 (σ 41 0)) 23 0 (σ 43 0)) 25 0 (σ 45 0)) 26 (va_cpy (σ 46) (σ 26) 0 0 6)) 27 (va_cpy (σ 47) (σ 27) 0 0 6)) 28 0 (σ 48 0)) 29 0 (σ 49 0)) 30 (va_cpy (σ 50) (σ 30) 0 0 8)) 31 (va_cpy (σ 51) (σ 31) 0 0 8)) 32 0 (σ 52 0)) 33 (va_cpy (σ 53) (σ 33) 0 0 6))) (v := .int (σ 54 0)) (fs := xF2 g (upR (upR ρ 22 (fun _ => ρ 42 0)) 24 (mixO (ρ 44) (ρ 24) 6)) (upC (up2 (upC (upC (up2 (up2 (upC (upC (up2 (up2 (up2 (upC σ 20 (va_cpy (σ 40) (σ 20) 0 0 100)) 21 0 (σ 41 0)) 23 0 (σ 43 0)) 25 0 (σ 45 0)) 26 (va_cpy (σ 46) (σ 26) 0 0 6)) 27 (va_cpy (σ 47) (σ 27) 0 0 6)) 28 0 (σ 48 0)) 29 0 (σ 49 0)) 30 (va_cpy (σ 50) (σ 30) 0 0 8)) 31 (va_cpy (σ 51) (σ 31) 0 0 8)) 32 0 (σ 52 0)) 33 (va_cpy (σ 53) (σ 33) 0 0 6))) 5 2 C0 uw_5 dc_5 hK hP rfl rfl 14 (by decide) rfl w_136 dX5_become_174 ?_
    refine va_put (D := g.1) (ci := 5) (v := .int (σ 54 0)) (ty := .int) (C := RX5) (T := TX5) (N := 18) (fs := xF1 g (upR (upR ρ 22 (fun _ => ρ 42 0)) 24 (mixO (ρ 44) (ρ 24) 6)) (upC (up2 (upC (upC (up2 (up2 (upC (upC (up2 (up2 (up2 (upC σ 20 (va_cpy (σ 40) (σ 20) 0 0 100)) 21 0 (σ 41 0)) 23 0 (σ 43 0)) 25 0 (σ 45 0)) 26 (va_cpy (σ 46) (σ 26) 0 0 6)) 27 (va_cpy (σ 47) (σ 27) 0 0 6)) 28 0 (σ 48 0)) 29 0 (σ 49 0)) 30 (va_cpy (σ 50) (σ 30) 0 0 8)) 31 (va_cpy (σ 51) (σ 31) 0 0 8)) 32 0 (σ 52 0)) 33 (va_cpy (σ 53) (σ 33) 0 0 6))) hx hb hts uw_5 tyX5 tyX5_ok nmX5 hown hK.1 hP hD hS 1 rfl rfl 14 (by decide) (hts _ w_136) (fun x h => by rw [← dc_5 14]; exact h) rfl rfl rfl rfl (Nat.le_of_ble_eq_true rfl) dX5_become_177 (fun H locs hP hD hS => ?_)
    have hP : va_P g.1 vwCl (xW g (upR (upR ρ 22 (fun _ => ρ 42 0)) 24 (mixO (ρ 44) (ρ 24) 6)) (up2 (upC (up2 (upC (upC (up2 (up2 (upC (upC (up2 (up2 (up2 (upC σ 20 (va_cpy (σ 40) (σ 20) 0 0 100)) 21 0 (σ 41 0)) 23 0 (σ 43 0)) 25 0 (σ 45 0)) 26 (va_cpy (σ 46) (σ 26) 0 0 6)) 27 (va_cpy (σ 47) (σ 27) 0 0 6)) 28 0 (σ 48 0)) 29 0 (σ 49 0)) 30 (va_cpy (σ 50) (σ 30) 0 0 8)) 31 (va_cpy (σ 51) (σ 31) 0 0 8)) 32 0 (σ 52 0)) 33 (va_cpy (σ 53) (σ 33) 0 0 6)) 34 0 (σ 54 0))) H := hP
    have hD : va_D (AX g) (xW g (upR (upR ρ 22 (fun _ => ρ 42 0)) 24 (mixO (ρ 44) (ρ 24) 6)) (up2 (upC (up2 (upC (upC (up2 (up2 (upC (upC (up2 (up2 (up2 (upC σ 20 (va_cpy (σ 40) (σ 20) 0 0 100)) 21 0 (σ 41 0)) 23 0 (σ 43 0)) 25 0 (σ 45 0)) 26 (va_cpy (σ 46) (σ 26) 0 0 6)) 27 (va_cpy (σ 47) (σ 27) 0 0 6)) 28 0 (σ 48 0)) 29 0 (σ 49 0)) 30 (va_cpy (σ 50) (σ 30) 0 0 8)) 31 (va_cpy (σ 51) (σ 31) 0 0 8)) 32 0 (σ 52 0)) 33 (va_cpy (σ 53) (σ 33) 0 0 6)) 34 0 (σ 54 0))) := hD
    refine lv_aload_n hx hb dX5_become_180 rfl (lv_at hl 1 rfl) ?_
    refine x_get (σ := (up2 (upC (up2 (upC (upC (up2 (up2 (upC (upC (up2 (up2 (up2 (upC σ 20 (va_cpy (σ 40) (σ 20) 0 0 100)) 21 0 (σ 41 0)) 23 0 (σ 43 0)) 25 0 (σ 45 0)) 26 (va_cpy (σ 46) (σ 26) 0 0 6)) 27 (va_cpy (σ 47) (σ 27) 0 0 6)) 28 0 (σ 48 0)) 29 0 (σ 49 0)) 30 (va_cpy (σ 50) (σ 30) 0 0 8)) 31 (va_cpy (σ 51) (σ 31) 0 0 8)) 32 0 (σ 52 0)) 33 (va_cpy (σ 53) (σ 33) 0 0 6)) 34 0 (σ 54 0))) (v := .ref (g.2.2 55)) (fs := xF2 g (upR (upR ρ 22 (fun _ => ρ 42 0)) 24 (mixO (ρ 44) (ρ 24) 6)) (up2 (upC (up2 (upC (upC (up2 (up2 (upC (upC (up2 (up2 (up2 (upC σ 20 (va_cpy (σ 40) (σ 20) 0 0 100)) 21 0 (σ 41 0)) 23 0 (σ 43 0)) 25 0 (σ 45 0)) 26 (va_cpy (σ 46) (σ 26) 0 0 6)) 27 (va_cpy (σ 47) (σ 27) 0 0 6)) 28 0 (σ 48 0)) 29 0 (σ 49 0)) 30 (va_cpy (σ 50) (σ 30) 0 0 8)) 31 (va_cpy (σ 51) (σ 31) 0 0 8)) 32 0 (σ 52 0)) 33 (va_cpy (σ 53) (σ 33) 0 0 6)) 34 0 (σ 54 0))) 5 2 C0 uw_5 dc_5 hK hP rfl rfl 15 (by decide) rfl w_138 dX5_become_181 ?_
    refine lv_iconst (v := 0) hx hb dX5_become_184 (by decide) ?_
    refine lv_aload_n hx hb dX5_become_185 rfl (lv_at hl 0 rfl) ?_
    refine x_get (σ := (up2 (upC (up2 (upC (upC (up2 (up2 (upC (upC (up2 (up2 (up2 (upC σ 20 (va_cpy (σ 40) (σ 20) 0 0 100)) 21 0 (σ 41 0)) 23 0 (σ 43 0)) 25 0 (σ 45 0)) 26 (va_cpy (σ 46) (σ 26) 0 0 6)) 27 (va_cpy (σ 47) (σ 27) 0 0 6)) 28 0 (σ 48 0)) 29 0 (σ 49 0)) 30 (va_cpy (σ 50) (σ 30) 0 0 8)) 31 (va_cpy (σ 51) (σ 31) 0 0 8)) 32 0 (σ 52 0)) 33 (va_cpy (σ 53) (σ 33) 0 0 6)) 34 0 (σ 54 0))) (v := .ref (g.2.2 35)) (fs := xF1 g (upR (upR ρ 22 (fun _ => ρ 42 0)) 24 (mixO (ρ 44) (ρ 24) 6)) (up2 (upC (up2 (upC (upC (up2 (up2 (upC (upC (up2 (up2 (up2 (upC σ 20 (va_cpy (σ 40) (σ 20) 0 0 100)) 21 0 (σ 41 0)) 23 0 (σ 43 0)) 25 0 (σ 45 0)) 26 (va_cpy (σ 46) (σ 26) 0 0 6)) 27 (va_cpy (σ 47) (σ 27) 0 0 6)) 28 0 (σ 48 0)) 29 0 (σ 49 0)) 30 (va_cpy (σ 50) (σ 30) 0 0 8)) 31 (va_cpy (σ 51) (σ 31) 0 0 8)) 32 0 (σ 52 0)) 33 (va_cpy (σ 53) (σ 33) 0 0 6)) 34 0 (σ 54 0))) 5 1 C0 uw_5 dc_5 hK hP rfl rfl 15 (by decide) rfl w_138 dX5_become_186 ?_
    refine lv_iconst (v := 0) hx hb dX5_become_189 (by decide) ?_
    refine lv_bipush (v := 8) hx hb dX5_become_190 (by decide) ?_
    refine va_copyi hx hb (hml.trans hl.1.symm) hown (hts _ w_953) (hts _ w_442) (hts _ w_441) (hts _ w_84) hK.1 hP hD hS 24 16 0 0 (n0 := 8) (n1 := 8) (f := σ 55) (g := σ 35) rfl rfl rfl rfl rfl (by decide) (by decide) (by decide) (by decide) (by decide) (fun i hi => rfl) (Nat.le_refl 1) (Nat.le_of_ble_eq_true rfl) dX5_become_192 (fun H locs hP hD hS => ?_)
    have hP : va_P g.1 vwCl (xW g (upR (upR ρ 22 (fun _ => ρ 42 0)) 24 (mixO (ρ 44) (ρ 24) 6)) (upC (up2 (upC (up2 (upC (upC (up2 (up2 (upC (upC (up2 (up2 (up2 (upC σ 20 (va_cpy (σ 40) (σ 20) 0 0 100)) 21 0 (σ 41 0)) 23 0 (σ 43 0)) 25 0 (σ 45 0)) 26 (va_cpy (σ 46) (σ 26) 0 0 6)) 27 (va_cpy (σ 47) (σ 27) 0 0 6)) 28 0 (σ 48 0)) 29 0 (σ 49 0)) 30 (va_cpy (σ 50) (σ 30) 0 0 8)) 31 (va_cpy (σ 51) (σ 31) 0 0 8)) 32 0 (σ 52 0)) 33 (va_cpy (σ 53) (σ 33) 0 0 6)) 34 0 (σ 54 0)) 35 (va_cpy (σ 55) (σ 35) 0 0 8))) H := hP
    have hD : va_D (AX g) (xW g (upR (upR ρ 22 (fun _ => ρ 42 0)) 24 (mixO (ρ 44) (ρ 24) 6)) (upC (up2 (upC (up2 (upC (upC (up2 (up2 (upC (upC (up2 (up2 (up2 (upC σ 20 (va_cpy (σ 40) (σ 20) 0 0 100)) 21 0 (σ 41 0)) 23 0 (σ 43 0)) 25 0 (σ 45 0)) 26 (va_cpy (σ 46) (σ 26) 0 0 6)) 27 (va_cpy (σ 47) (σ 27) 0 0 6)) 28 0 (σ 48 0)) 29 0 (σ 49 0)) 30 (va_cpy (σ 50) (σ 30) 0 0 8)) 31 (va_cpy (σ 51) (σ 31) 0 0 8)) 32 0 (σ 52 0)) 33 (va_cpy (σ 53) (σ 33) 0 0 6)) 34 0 (σ 54 0)) 35 (va_cpy (σ 55) (σ 35) 0 0 8))) := hD
    refine lv_aload_n hx hb dX5_become_195 rfl (lv_at hl 1 rfl) ?_
    refine x_get (σ := (upC (up2 (upC (up2 (upC (upC (up2 (up2 (upC (upC (up2 (up2 (up2 (upC σ 20 (va_cpy (σ 40) (σ 20) 0 0 100)) 21 0 (σ 41 0)) 23 0 (σ 43 0)) 25 0 (σ 45 0)) 26 (va_cpy (σ 46) (σ 26) 0 0 6)) 27 (va_cpy (σ 47) (σ 27) 0 0 6)) 28 0 (σ 48 0)) 29 0 (σ 49 0)) 30 (va_cpy (σ 50) (σ 30) 0 0 8)) 31 (va_cpy (σ 51) (σ 31) 0 0 8)) 32 0 (σ 52 0)) 33 (va_cpy (σ 53) (σ 33) 0 0 6)) 34 0 (σ 54 0)) 35 (va_cpy (σ 55) (σ 35) 0 0 8))) (v := .ref (g.2.2 56)) (fs := xF2 g (upR (upR ρ 22 (fun _ => ρ 42 0)) 24 (mixO (ρ 44) (ρ 24) 6)) (upC (up2 (upC (up2 (upC (upC (up2 (up2 (upC (upC (up2 (up2 (up2 (upC σ 20 (va_cpy (σ 40) (σ 20) 0 0 100)) 21 0 (σ 41 0)) 23 0 (σ 43 0)) 25 0 (σ 45 0)) 26 (va_cpy (σ 46) (σ 26) 0 0 6)) 27 (va_cpy (σ 47) (σ 27) 0 0 6)) 28 0 (σ 48 0)) 29 0 (σ 49 0)) 30 (va_cpy (σ 50) (σ 30) 0 0 8)) 31 (va_cpy (σ 51) (σ 31) 0 0 8)) 32 0 (σ 52 0)) 33 (va_cpy (σ 53) (σ 33) 0 0 6)) 34 0 (σ 54 0)) 35 (va_cpy (σ 55) (σ 35) 0 0 8))) 5 2 C0 uw_5 dc_5 hK hP rfl rfl 16 (by decide) rfl w_140 dX5_become_196 ?_
    refine lv_iconst (v := 0) hx hb dX5_become_199 (by decide) ?_
    refine lv_aload_n hx hb dX5_become_200 rfl (lv_at hl 0 rfl) ?_
    refine x_get (σ := (upC (up2 (upC (up2 (upC (upC (up2 (up2 (upC (upC (up2 (up2 (up2 (upC σ 20 (va_cpy (σ 40) (σ 20) 0 0 100)) 21 0 (σ 41 0)) 23 0 (σ 43 0)) 25 0 (σ 45 0)) 26 (va_cpy (σ 46) (σ 26) 0 0 6)) 27 (va_cpy (σ 47) (σ 27) 0 0 6)) 28 0 (σ 48 0)) 29 0 (σ 49 0)) 30 (va_cpy (σ 50) (σ 30) 0 0 8)) 31 (va_cpy (σ 51) (σ 31) 0 0 8)) 32 0 (σ 52 0)) 33 (va_cpy (σ 53) (σ 33) 0 0 6)) 34 0 (σ 54 0)) 35 (va_cpy (σ 55) (σ 35) 0 0 8))) (v := .ref (g.2.2 36)) (fs := xF1 g (upR (upR ρ 22 (fun _ => ρ 42 0)) 24 (mixO (ρ 44) (ρ 24) 6)) (upC (up2 (upC (up2 (upC (upC (up2 (up2 (upC (upC (up2 (up2 (up2 (upC σ 20 (va_cpy (σ 40) (σ 20) 0 0 100)) 21 0 (σ 41 0)) 23 0 (σ 43 0)) 25 0 (σ 45 0)) 26 (va_cpy (σ 46) (σ 26) 0 0 6)) 27 (va_cpy (σ 47) (σ 27) 0 0 6)) 28 0 (σ 48 0)) 29 0 (σ 49 0)) 30 (va_cpy (σ 50) (σ 30) 0 0 8)) 31 (va_cpy (σ 51) (σ 31) 0 0 8)) 32 0 (σ 52 0)) 33 (va_cpy (σ 53) (σ 33) 0 0 6)) 34 0 (σ 54 0)) 35 (va_cpy (σ 55) (σ 35) 0 0 8))) 5 1 C0 uw_5 dc_5 hK hP rfl rfl 16 (by decide) rfl w_140 dX5_become_201 ?_
    refine lv_iconst (v := 0) hx hb dX5_become_204 (by decide) ?_
    refine lv_bipush (v := 8) hx hb dX5_become_205 (by decide) ?_
    refine va_copyi hx hb (hml.trans hl.1.symm) hown (hts _ w_953) (hts _ w_442) (hts _ w_441) (hts _ w_84) hK.1 hP hD hS 25 17 0 0 (n0 := 8) (n1 := 8) (f := σ 56) (g := σ 36) rfl rfl rfl rfl rfl (by decide) (by decide) (by decide) (by decide) (by decide) (fun i hi => rfl) (Nat.le_refl 1) (Nat.le_of_ble_eq_true rfl) dX5_become_207 (fun H locs hP hD hS => ?_)
    have hP : va_P g.1 vwCl (xW g (upR (upR ρ 22 (fun _ => ρ 42 0)) 24 (mixO (ρ 44) (ρ 24) 6)) (upC (upC (up2 (upC (up2 (upC (upC (up2 (up2 (upC (upC (up2 (up2 (up2 (upC σ 20 (va_cpy (σ 40) (σ 20) 0 0 100)) 21 0 (σ 41 0)) 23 0 (σ 43 0)) 25 0 (σ 45 0)) 26 (va_cpy (σ 46) (σ 26) 0 0 6)) 27 (va_cpy (σ 47) (σ 27) 0 0 6)) 28 0 (σ 48 0)) 29 0 (σ 49 0)) 30 (va_cpy (σ 50) (σ 30) 0 0 8)) 31 (va_cpy (σ 51) (σ 31) 0 0 8)) 32 0 (σ 52 0)) 33 (va_cpy (σ 53) (σ 33) 0 0 6)) 34 0 (σ 54 0)) 35 (va_cpy (σ 55) (σ 35) 0 0 8)) 36 (va_cpy (σ 56) (σ 36) 0 0 8))) H := hP
    have hD : va_D (AX g) (xW g (upR (upR ρ 22 (fun _ => ρ 42 0)) 24 (mixO (ρ 44) (ρ 24) 6)) (upC (upC (up2 (upC (up2 (upC (upC (up2 (up2 (upC (upC (up2 (up2 (up2 (upC σ 20 (va_cpy (σ 40) (σ 20) 0 0 100)) 21 0 (σ 41 0)) 23 0 (σ 43 0)) 25 0 (σ 45 0)) 26 (va_cpy (σ 46) (σ 26) 0 0 6)) 27 (va_cpy (σ 47) (σ 27) 0 0 6)) 28 0 (σ 48 0)) 29 0 (σ 49 0)) 30 (va_cpy (σ 50) (σ 30) 0 0 8)) 31 (va_cpy (σ 51) (σ 31) 0 0 8)) 32 0 (σ 52 0)) 33 (va_cpy (σ 53) (σ 33) 0 0 6)) 34 0 (σ 54 0)) 35 (va_cpy (σ 55) (σ 35) 0 0 8)) 36 (va_cpy (σ 56) (σ 36) 0 0 8))) := hD
    refine lv_aload_n hx hb dX5_become_210 rfl (lv_at hl 0 rfl) ?_
    refine lv_aload_n hx hb dX5_become_211 rfl (lv_at hl 1 rfl) ?_
    refine x_get (σ := (upC (upC (up2 (upC (up2 (upC (upC (up2 (up2 (upC (upC (up2 (up2 (up2 (upC σ 20 (va_cpy (σ 40) (σ 20) 0 0 100)) 21 0 (σ 41 0)) 23 0 (σ 43 0)) 25 0 (σ 45 0)) 26 (va_cpy (σ 46) (σ 26) 0 0 6)) 27 (va_cpy (σ 47) (σ 27) 0 0 6)) 28 0 (σ 48 0)) 29 0 (σ 49 0)) 30 (va_cpy (σ 50) (σ 30) 0 0 8)) 31 (va_cpy (σ 51) (σ 31) 0 0 8)) 32 0 (σ 52 0)) 33 (va_cpy (σ 53) (σ 33) 0 0 6)) 34 0 (σ 54 0)) 35 (va_cpy (σ 55) (σ 35) 0 0 8)) 36 (va_cpy (σ 56) (σ 36) 0 0 8))) (v := .int (σ 57 0)) (fs := xF2 g (upR (upR ρ 22 (fun _ => ρ 42 0)) 24 (mixO (ρ 44) (ρ 24) 6)) (upC (upC (up2 (upC (up2 (upC (upC (up2 (up2 (upC (upC (up2 (up2 (up2 (upC σ 20 (va_cpy (σ 40) (σ 20) 0 0 100)) 21 0 (σ 41 0)) 23 0 (σ 43 0)) 25 0 (σ 45 0)) 26 (va_cpy (σ 46) (σ 26) 0 0 6)) 27 (va_cpy (σ 47) (σ 27) 0 0 6)) 28 0 (σ 48 0)) 29 0 (σ 49 0)) 30 (va_cpy (σ 50) (σ 30) 0 0 8)) 31 (va_cpy (σ 51) (σ 31) 0 0 8)) 32 0 (σ 52 0)) 33 (va_cpy (σ 53) (σ 33) 0 0 6)) 34 0 (σ 54 0)) 35 (va_cpy (σ 55) (σ 35) 0 0 8)) 36 (va_cpy (σ 56) (σ 36) 0 0 8))) 5 2 C0 uw_5 dc_5 hK hP rfl rfl 17 (by decide) rfl w_142 dX5_become_212 ?_
    refine va_put (D := g.1) (ci := 5) (v := .int (σ 57 0)) (ty := .int) (C := RX5) (T := TX5) (N := 18) (fs := xF1 g (upR (upR ρ 22 (fun _ => ρ 42 0)) 24 (mixO (ρ 44) (ρ 24) 6)) (upC (upC (up2 (upC (up2 (upC (upC (up2 (up2 (upC (upC (up2 (up2 (up2 (upC σ 20 (va_cpy (σ 40) (σ 20) 0 0 100)) 21 0 (σ 41 0)) 23 0 (σ 43 0)) 25 0 (σ 45 0)) 26 (va_cpy (σ 46) (σ 26) 0 0 6)) 27 (va_cpy (σ 47) (σ 27) 0 0 6)) 28 0 (σ 48 0)) 29 0 (σ 49 0)) 30 (va_cpy (σ 50) (σ 30) 0 0 8)) 31 (va_cpy (σ 51) (σ 31) 0 0 8)) 32 0 (σ 52 0)) 33 (va_cpy (σ 53) (σ 33) 0 0 6)) 34 0 (σ 54 0)) 35 (va_cpy (σ 55) (σ 35) 0 0 8)) 36 (va_cpy (σ 56) (σ 36) 0 0 8))) hx hb hts uw_5 tyX5 tyX5_ok nmX5 hown hK.1 hP hD hS 1 rfl rfl 17 (by decide) (hts _ w_142) (fun x h => by rw [← dc_5 17]; exact h) rfl rfl rfl rfl (Nat.le_of_ble_eq_true rfl) dX5_become_215 (fun H locs hP hD hS => ?_)
    have hP : va_P g.1 vwCl (xW g (upR (upR ρ 22 (fun _ => ρ 42 0)) 24 (mixO (ρ 44) (ρ 24) 6)) (up2 (upC (upC (up2 (upC (up2 (upC (upC (up2 (up2 (upC (upC (up2 (up2 (up2 (upC σ 20 (va_cpy (σ 40) (σ 20) 0 0 100)) 21 0 (σ 41 0)) 23 0 (σ 43 0)) 25 0 (σ 45 0)) 26 (va_cpy (σ 46) (σ 26) 0 0 6)) 27 (va_cpy (σ 47) (σ 27) 0 0 6)) 28 0 (σ 48 0)) 29 0 (σ 49 0)) 30 (va_cpy (σ 50) (σ 30) 0 0 8)) 31 (va_cpy (σ 51) (σ 31) 0 0 8)) 32 0 (σ 52 0)) 33 (va_cpy (σ 53) (σ 33) 0 0 6)) 34 0 (σ 54 0)) 35 (va_cpy (σ 55) (σ 35) 0 0 8)) 36 (va_cpy (σ 56) (σ 36) 0 0 8)) 37 0 (σ 57 0))) H := hP
    have hD : va_D (AX g) (xW g (upR (upR ρ 22 (fun _ => ρ 42 0)) 24 (mixO (ρ 44) (ρ 24) 6)) (up2 (upC (upC (up2 (upC (up2 (upC (upC (up2 (up2 (upC (upC (up2 (up2 (up2 (upC σ 20 (va_cpy (σ 40) (σ 20) 0 0 100)) 21 0 (σ 41 0)) 23 0 (σ 43 0)) 25 0 (σ 45 0)) 26 (va_cpy (σ 46) (σ 26) 0 0 6)) 27 (va_cpy (σ 47) (σ 27) 0 0 6)) 28 0 (σ 48 0)) 29 0 (σ 49 0)) 30 (va_cpy (σ 50) (σ 30) 0 0 8)) 31 (va_cpy (σ 51) (σ 31) 0 0 8)) 32 0 (σ 52 0)) 33 (va_cpy (σ 53) (σ 33) 0 0 6)) 34 0 (σ 54 0)) 35 (va_cpy (σ 55) (σ 35) 0 0 8)) 36 (va_cpy (σ 56) (σ 36) 0 0 8)) 37 0 (σ 57 0))) := hD
    exact W.vret hx hb hr (fun t ht _ => ⟨⟨(), rfl, trivial, by show va_P g.1 vwCl _ t.heap; rw [ht]; exact hP⟩, hS.F ht⟩) hS.2.2 dX5_become_218 hlocks
  have loop : ∀ (j k : Nat), k + j = 6 → ∀ (ls : Array Slot) (H : Heap) (locs : List Loc), lv_has ls 3 [(2, .int (nI k)), (0, .ref (g.2.2 101)), (1, .ref (g.2.2 102))] → va_P g.1 vwCl (xW g (upR (upR ρ 22 (fun _ => ρ 42 0)) 24 (mixO (ρ 44) (ρ 24) k)) (up2 (up2 (upC σ 20 (va_cpy (σ 40) (σ 20) 0 0 100)) 21 0 (σ 41 0)) 23 0 (σ 43 0))) H → va_D (AX g) (xW g (upR (upR ρ 22 (fun _ => ρ 42 0)) 24 (mixO (ρ 44) (ρ 24) k)) (up2 (up2 (upC σ 20 (va_cpy (σ 40) (σ 20) 0 0 100)) 21 0 (σ 41 0)) 23 0 (σ 43 0))) → va_S (AX g) s.heap H locs → W p l e { frames := 1, cells := 0, slots := 0, locals := 30 } s m args below meth c H locs 0 0 (MQ below (va_Qv (fun _ : Unit => True) (fun _ t => va_P g.1 vwCl (xW g (r_bc20 ρ) (f_bc20 σ)) t.heap) (AX g)) args s 0 0 (AX g)) (F0 m 41 ls []) := by
    intro j
    induction j with
    | zero =>
      intro k hk ls H locs hl hP hD hS
      have hk : k = 6 := by omega
      subst hk
      refine lv_iload_n hx hb dX5_become_41 rfl (lv_at hl 0 rfl) ?_
      refine lv_bipush (v := 6) hx hb dX5_become_42 (by decide) ?_
      refine lv_icmp_ge (tgt := 65) hx hb dX5_become_44 (by decide) (fun _ => ?_) (fun z => absurd (show (6 : Int32) ≤ nI 6 by decide) z)
      exact tail ls H locs (lv_sub hl [1, 2] rfl) hP hD hS
    | succ j ih =>
      intro k hk ls H locs hl hP hD hS
      refine lv_iload_n hx hb dX5_become_41 rfl (lv_at hl 0 rfl) ?_
      refine lv_bipush (v := 6) hx hb dX5_become_42 (by decide) ?_
      have hk6 : (nI k).toInt = k := nI_toInt (by omega)
      have hcl : (nI k).toNatClampNeg = k := nI_clamp (by omega)
      refine lv_icmp_ge (tgt := 65) hx hb dX5_become_44 (by decide) (fun z => absurd (ti_le.mp z) (by rw [hk6]; have e : (6 : Int32).toInt = 6 := rfl; omega)) (fun _ => ?_)
      refine lv_aload_n hx hb dX5_become_47 rfl (lv_at hl 1 rfl) ?_
      refine x_get (σ := (up2 (up2 (upC σ 20 (va_cpy (σ 40) (σ 20) 0 0 100)) 21 0 (σ 41 0)) 23 0 (σ 43 0))) (v := .ref (g.2.2 24)) (fs := xF1 g (upR (upR ρ 22 (fun _ => ρ 42 0)) 24 (mixO (ρ 44) (ρ 24) k)) (up2 (up2 (upC σ 20 (va_cpy (σ 40) (σ 20) 0 0 100)) 21 0 (σ 41 0)) 23 0 (σ 43 0))) 5 1 C0 uw_5 dc_5 hK hP rfl rfl 4 (by decide) rfl w_116 dX5_become_48 ?_
      refine lv_iload_n hx hb dX5_become_51 rfl (lv_at hl 0 rfl) ?_
      refine lv_aload_n hx hb dX5_become_52 rfl (lv_at hl 2 rfl) ?_
      refine x_get (σ := (up2 (up2 (upC σ 20 (va_cpy (σ 40) (σ 20) 0 0 100)) 21 0 (σ 41 0)) 23 0 (σ 43 0))) (v := .ref (g.2.2 44)) (fs := xF2 g (upR (upR ρ 22 (fun _ => ρ 42 0)) 24 (mixO (ρ 44) (ρ 24) k)) (up2 (up2 (upC σ 20 (va_cpy (σ 40) (σ 20) 0 0 100)) 21 0 (σ 41 0)) 23 0 (σ 43 0))) 5 2 C0 uw_5 dc_5 hK hP rfl rfl 4 (by decide) rfl w_116 dX5_become_53 ?_
      refine lv_iload_n hx hb dX5_become_56 rfl (lv_at hl 0 rfl) ?_
      have hin : vp_in (nI k) 6 := vp_in_nI (by omega) (by omega)
      refine va_aldq hx hb hK.1 hP 29 2 (n := 6) (f := ρ 44) rfl rfl hin dX5_become_57 ?_
      rw [hcl]
      have fin : ∀ (H : Heap) (locs : List Loc), va_P g.1 vwCl ((xW g (upR (upR ρ 22 (fun _ => ρ 42 0)) 24 (mixO (ρ 44) (ρ 24) k)) (up2 (up2 (upC σ 20 (va_cpy (σ 40) (σ 20) 0 0 100)) 21 0 (σ 41 0)) 23 0 (σ 43 0))).set 28 (g.2.2 24, .inl (g.2.1 2, 6, .inr (.inr (.inr (.inr (va_up (mixO (ρ 44) (ρ 24) k) k (ρ 44 k)))))))) H → va_D (AX g) ((xW g (upR (upR ρ 22 (fun _ => ρ 42 0)) 24 (mixO (ρ 44) (ρ 24) k)) (up2 (up2 (upC σ 20 (va_cpy (σ 40) (σ 20) 0 0 100)) 21 0 (σ 41 0)) 23 0 (σ 43 0))).set 28 (g.2.2 24, .inl (g.2.1 2, 6, .inr (.inr (.inr (.inr (va_up (mixO (ρ 44) (ρ 24) k) k (ρ 44 k)))))))) → va_S (AX g) s.heap H locs → W p l e { frames := 1, cells := 0, slots := 0, locals := 30 } s m args below meth c H locs 0 0 (MQ below (va_Qv (fun _ : Unit => True) (fun _ t => va_P g.1 vwCl (xW g (r_bc20 ρ) (f_bc20 σ)) t.heap) (AX g)) args s 0 0 (AX g)) (F0 m 59 ls []) := fun H locs hP hD hS => by
        rw [xR_s20, mixO_s] at hP hD
        refine lv_iinc (v := nI (k + 1)) (lv' := [(2, .int (nI (k + 1))), (0, .ref (g.2.2 101)), (1, .ref (g.2.2 102))]) hx hb dX5_become_59 hl (k := 0) rfl (nI_1 k) (by decide) rfl (fun ls hl => ?_)
        refine lv_goto (tgt := 41) hx hb dX5_become_62 (by decide) ?_
        exact ih (k + 1) (by omega) ls H locs hl hP hD hS
      have hXH : XH g ρ dt H := hB.kept (fun q h1 h2 => hS.2.1 q h1 h2)
      by_cases cn : ρ 44 k = none
      · rw [va_rf_none cn]
        rw [cn] at fin
        exact va_astqN (C := "ThreeMeasures$Stick") hx hb hK.1 hP hD hS 28 2 rfl rfl hin dX5_become_58 (fun H locs hP hD hS => fin H locs (by rw [hcl] at hP; exact hP) (by rw [hcl] at hD; exact hD) hS)
      · obtain ⟨a, ha⟩ := Option.ne_none_iff_exists'.mp cn
        rw [ha] at fin ⊢
        exact va_astqM (E := "ThreeMeasures$Stick") hx hb hK.1 hP hD hS 28 2 rfl rfl ((hXH.1 k a (Or.inr ha)).any hK) hin dX5_become_58 (fun H locs hP hD hS => fin H locs (by rw [hcl] at hP; exact hP) (by rw [hcl] at hD; exact hD) hS)
  refine lv_aload_n hx hb dX5_become_0 rfl (lv_at hl 1 rfl) ?_
  refine x_get (σ := σ) (v := .ref (g.2.2 40)) (fs := xF2 g ρ σ) 5 2 C0 uw_5 dc_5 hK hP rfl rfl 0 (by decide) rfl w_108 dX5_become_1 ?_
  refine lv_iconst (v := 0) hx hb dX5_become_4 (by decide) ?_
  refine lv_aload_n hx hb dX5_become_5 rfl (lv_at hl 0 rfl) ?_
  refine x_get (σ := σ) (v := .ref (g.2.2 20)) (fs := xF1 g ρ σ) 5 1 C0 uw_5 dc_5 hK hP rfl rfl 0 (by decide) rfl w_108 dX5_become_6 ?_
  refine lv_iconst (v := 0) hx hb dX5_become_9 (by decide) ?_
  refine lv_bipush (v := 100) hx hb dX5_become_10 (by decide) ?_
  refine va_copyi hx hb (hml.trans hl.1.symm) hown (hts _ w_953) (hts _ w_442) (hts _ w_441) (hts _ w_84) hK.1 hP hD hS 18 10 0 0 (n0 := 100) (n1 := 100) (f := σ 40) (g := σ 20) rfl rfl rfl rfl rfl (by decide) (by decide) (by decide) (by decide) (by decide) (fun i hi => rfl) (Nat.le_refl 1) (Nat.le_of_ble_eq_true rfl) dX5_become_12 (fun H locs hP hD hS => ?_)
  have hP : va_P g.1 vwCl (xW g ρ (upC σ 20 (va_cpy (σ 40) (σ 20) 0 0 100))) H := hP
  have hD : va_D (AX g) (xW g ρ (upC σ 20 (va_cpy (σ 40) (σ 20) 0 0 100))) := hD
  refine lv_aload_n hx hb dX5_become_15 rfl (lv_at hl 0 rfl) ?_
  refine lv_aload_n hx hb dX5_become_16 rfl (lv_at hl 1 rfl) ?_
  refine x_get (σ := (upC σ 20 (va_cpy (σ 40) (σ 20) 0 0 100))) (v := .int (σ 41 0)) (fs := xF2 g ρ (upC σ 20 (va_cpy (σ 40) (σ 20) 0 0 100))) 5 2 C0 uw_5 dc_5 hK hP rfl rfl 1 (by decide) rfl w_111 dX5_become_17 ?_
  refine va_put (D := g.1) (ci := 5) (v := .int (σ 41 0)) (ty := .int) (C := RX5) (T := TX5) (N := 18) (fs := xF1 g ρ (upC σ 20 (va_cpy (σ 40) (σ 20) 0 0 100))) hx hb hts uw_5 tyX5 tyX5_ok nmX5 hown hK.1 hP hD hS 1 rfl rfl 1 (by decide) (hts _ w_111) (fun x h => by rw [← dc_5 1]; exact h) rfl rfl rfl rfl (Nat.le_of_ble_eq_true rfl) dX5_become_20 (fun H locs hP hD hS => ?_)
  have hP : va_P g.1 vwCl (xW g ρ (up2 (upC σ 20 (va_cpy (σ 40) (σ 20) 0 0 100)) 21 0 (σ 41 0))) H := hP
  have hD : va_D (AX g) (xW g ρ (up2 (upC σ 20 (va_cpy (σ 40) (σ 20) 0 0 100)) 21 0 (σ 41 0))) := hD
  refine lv_aload_n hx hb dX5_become_23 rfl (lv_at hl 0 rfl) ?_
  refine lv_aload_n hx hb dX5_become_24 rfl (lv_at hl 1 rfl) ?_
  refine x_get (σ := (up2 (upC σ 20 (va_cpy (σ 40) (σ 20) 0 0 100)) 21 0 (σ 41 0))) (v := va_rf (ρ 42 0)) (fs := xF2 g ρ (up2 (upC σ 20 (va_cpy (σ 40) (σ 20) 0 0 100)) 21 0 (σ 41 0))) 5 2 C0 uw_5 dc_5 hK hP rfl rfl 2 (by decide) rfl w_112 dX5_become_25 ?_
  refine va_put (D := g.1) (ci := 5) (v := va_rf (ρ 42 0)) (ty := .object "ThreeMeasures$Room") (C := RX5) (T := TX5) (N := 18) (fs := xF1 g ρ (up2 (upC σ 20 (va_cpy (σ 40) (σ 20) 0 0 100)) 21 0 (σ 41 0))) hx hb hts uw_5 tyX5 tyX5_ok nmX5 hown hK.1 hP hD hS 1 rfl rfl 2 (by decide) (hts _ w_112) (fun x h => by rw [← dc_5 2]; exact h) rfl rfl (nar_rf _).1 (nar_rf _).2 (Nat.le_of_ble_eq_true rfl) dX5_become_28 (fun H locs hP hD hS => ?_)
  rw [xR_h20] at hP hD
  refine lv_aload_n hx hb dX5_become_31 rfl (lv_at hl 0 rfl) ?_
  refine lv_aload_n hx hb dX5_become_32 rfl (lv_at hl 1 rfl) ?_
  refine x_get (σ := (up2 (upC σ 20 (va_cpy (σ 40) (σ 20) 0 0 100)) 21 0 (σ 41 0))) (v := .int (σ 43 0)) (fs := xF2 g (upR ρ 22 (fun _ => ρ 42 0)) (up2 (upC σ 20 (va_cpy (σ 40) (σ 20) 0 0 100)) 21 0 (σ 41 0))) 5 2 C0 uw_5 dc_5 hK hP rfl rfl 3 (by decide) rfl w_114 dX5_become_33 ?_
  refine va_put (D := g.1) (ci := 5) (v := .int (σ 43 0)) (ty := .int) (C := RX5) (T := TX5) (N := 18) (fs := xF1 g (upR ρ 22 (fun _ => ρ 42 0)) (up2 (upC σ 20 (va_cpy (σ 40) (σ 20) 0 0 100)) 21 0 (σ 41 0))) hx hb hts uw_5 tyX5 tyX5_ok nmX5 hown hK.1 hP hD hS 1 rfl rfl 3 (by decide) (hts _ w_114) (fun x h => by rw [← dc_5 3]; exact h) rfl rfl rfl rfl (Nat.le_of_ble_eq_true rfl) dX5_become_36 (fun H locs hP hD hS => ?_)
  have hP : va_P g.1 vwCl (xW g (upR ρ 22 (fun _ => ρ 42 0)) (up2 (up2 (upC σ 20 (va_cpy (σ 40) (σ 20) 0 0 100)) 21 0 (σ 41 0)) 23 0 (σ 43 0))) H := hP
  have hD : va_D (AX g) (xW g (upR ρ 22 (fun _ => ρ 42 0)) (up2 (up2 (upC σ 20 (va_cpy (σ 40) (σ 20) 0 0 100)) 21 0 (σ 41 0)) 23 0 (σ 43 0))) := hD
  refine lv_iconst (v := 0) hx hb dX5_become_39 (by decide) ?_
  refine lv_istore_n (lv' := [(2, .int (nI 0)), (0, .ref (g.2.2 101)), (1, .ref (g.2.2 102))]) hx hb dX5_become_40 rfl hl (by decide) rfl (fun ls hl => ?_)
  exact loop 6 0 rfl ls _ _ hl (by rw [mixO_0]; exact hP) (by rw [mixO_0]; exact hD) hS

