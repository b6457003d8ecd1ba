/-! BASE: worlds as functions of a state, contracts, and the rows over them -/
abbrev St : Type := Nat → Nat → Int32
def upC (σ : St) (k : Nat) (f : Nat → Int32) : St := fun k' => if k' = k then f else σ k'
abbrev up2 (σ : St) (k j : Nat) (v : Int32) : St := upC σ k (upd (σ k) j v)
abbrev ix (i : Int32) : Nat := i.toNatClampNeg
abbrev GG : Type := va_G × (Nat → ClassId) × (Nat → Nat)
abbrev tyT (g : GG) : List (ClassId × FieldType) := [(g.2.1 0, .int), (g.2.1 1, .boolean), (g.2.1 2, .object "ThreeMeasures$Stick")]
theorem nb_on {w : Cond} (h : nbOK w = true) : w.onTables = true := by cases w <;> first | rfl | (simp [nbOK] at h)
theorem nb_warm {w : Cond} (h : nbOK w = true) {s U : State} (hW : s.WarmedH U.vm) (hZ : va_Nw w s) : va_Nw w U := by
  cases w <;> first | exact hZ.warmM hW | exact hZ.warmF hW | exact hZ.warmD hW | exact hZ.warmC hW | (simp [nbOK] at h)
def NW (U : State) : Prop := ∀ w ∈ NB, va_Nw w U
theorem NW.warm {s U : State} (hW : s.WarmedH U.vm) (h : NW s) : NW U := fun w hw => nb_warm (List.mem_filter.mp hw).2 hW (h w hw)
theorem NW.same {s U : State} (hv : s.vm = U.vm) (h : NW s) : NW U := fun w hw => (h w hw).same (nb_on (List.mem_filter.mp hw).2) hv
def KK (g : GG) (U : State) : Prop := va_K g.1 vwCl (tyT g) U ∧ NW U
theorem KK.warm {g : GG} {s U : State} (hW : s.WarmedH U.vm) (h : KK g s) : KK g U := ⟨va_K.moved hW.alike h.1, h.2.warm hW⟩
theorem KK.same {g : GG} {s U : State} (hv : s.vm = U.vm) (h : KK g s) : KK g U := ⟨va_K.moved (by rw [hv]; exact Vm.Alike.refl _) h.1, h.2.same hv⟩
/-- B looks at the heap and the tables alone -/
def SV (B : State → Prop) : Prop := ∀ U U' : State, U.heap = U'.heap → U.vm = U'.vm → B U → B U'
theorem SV.blind {av : List Value} {B : State → Prop} (h : SV B) : FrameBlind (va_Pc av B) := fun _ U _ _ q => ⟨q.1, h U _ rfl rfl q.2⟩
theorem SV.tt : SV (fun _ => True) := fun _ _ _ _ _ => trivial
abbrev adrs (w : va_W) : List Nat := w.map (·.1)
def aA (w : va_W) : Nat → Prop := fun q => q ∈ adrs w
theorem adrs_at {w : va_W} {k : Nat} {q : Nat × va_E} (h : w[k]? = some q) : (adrs w)[k]? = some q.1 := by simp [adrs, h]
theorem va_D_adrs {A : Nat → Prop} {w w' : va_W} (h : adrs w' = adrs w) (hD : va_D A w) : va_D A w' := by
  have key : ∀ (k : Nat) (q : Nat × va_E), w'[k]? = some q → ∃ p, w[k]? = some p ∧ p.1 = q.1 := by
    intro k q hq
    have h1 := adrs_at hq
    rw [h] at h1
    simp only [adrs, List.getElem?_map, Option.map_eq_some_iff] at h1
    exact h1
  refine ⟨fun i j p q hp hq e => ?_, fun k q hq => ?_⟩
  · obtain ⟨p', a1, b1⟩ := key i p hp
    obtain ⟨q', a2, b2⟩ := key j q hq
    exact hD.1 i j p' q' a1 a2 (by rw [b1, b2]; exact e)
  · obtain ⟨q', a2, b2⟩ := key k q hq
    rw [← b2]
    exact hD.2 k q' a2
theorem va_D_aA {B : Nat → Prop} {w : va_W} (hD : va_D B w) : va_D (aA w) w := ⟨hD.1, fun k q hq => by
  have := adrs_at hq
  exact List.mem_of_getElem? this⟩
theorem aA_in {A : Nat → Prop} {w : va_W} (hD : va_D A w) {q : Nat} (h : aA w q) : A q := by
  obtain ⟨k, hk⟩ := List.getElem?_of_mem h
  simp only [adrs, List.getElem?_map, Option.map_eq_some_iff] at hk
  obtain ⟨p, hp, rfl⟩ := hk
  exact hD.2 k p hp
/-- what a method asks of its start -/
def GB {S : Type} (g : GG) (wd : S → va_W) (Bg : State → Prop) (σ : S) : State → Prop := fun U => KK g U ∧ va_P g.1 vwCl (wd σ) U.heap ∧ va_D (fun _ => True) (wd σ) ∧ Bg U
theorem GB.sv {S : Type} {g : GG} {wd : S → va_W} {Bg : State → Prop} {σ : S} (h : SV Bg) : SV (GB g wd Bg σ) := fun U U' hh hv q => ⟨q.1.same hv, by rw [← hh]; exact q.2.1, q.2.2.1, h U U' hh hv q.2.2.2⟩
def wsF (y : MethodName) (cy : ByteArray) (n : Nat) (ret : Option FieldType) : List Cond := .code y cy n ret :: TB
/-- a method that writes nothing and makes nothing -/
def PI (l : Launch) (y : MethodName) (ws : List Cond) (rm : Room) (av : List Value) (B : State → Prop) (F : Int32) : Prop := Met l y ws rm (va_Pc av B) (vp_Si (fun r => r = F)) 0 0 (fun _ => False)
def PL (l : Launch) (y : MethodName) (ws : List Cond) (rm : Room) (av : List Value) (B : State → Prop) (F : Int64) : Prop := Met l y ws rm (va_Pc av B) (vp_Sl (fun r => r = F)) 0 0 (fun _ => False)
/-- a method that writes in its world alone -/
def MI {S : Type} (l : Launch) (y : MethodName) (ws : List Cond) (rm : Room) (av : List Value) (g : GG) (wd : S → va_W) (Bg : State → Prop) (σ : S) (F : Int32 × S) : Prop := Met l y ws rm (va_Pc av (GB g wd Bg σ)) (va_Qi (fun r u => (r, u) = F) (fun u t => va_P g.1 vwCl (wd u) t.heap) (aA (wd σ))) 0 0 (aA (wd σ))
def MV {S : Type} (l : Launch) (y : MethodName) (ws : List Cond) (rm : Room) (av : List Value) (g : GG) (wd : S → va_W) (Bg : State → Prop) (σ : S) (F : S) : Prop := Met l y ws rm (va_Pc av (GB g wd Bg σ)) (va_Qv (fun u => u = F) (fun u t => va_P g.1 vwCl (wd u) t.heap) (aA (wd σ))) 0 0 (aA (wd σ))
def ML {S : Type} (l : Launch) (y : MethodName) (ws : List Cond) (rm : Room) (av : List Value) (g : GG) (wd : S → va_W) (Bg : State → Prop) (σ : S) (F : Int64 × S) : Prop := Met l y ws rm (va_Pc av (GB g wd Bg σ)) (va_Ql (fun r u => (r, u) = F) (fun u t => va_P g.1 vwCl (wd u) t.heap) (aA (wd σ))) 0 0 (aA (wd σ))
/-- inside a body: the machine, the code, the words -/
def BC (p : Program) (s : State) (m : MethodId) (args : Array Value) (meth : Method) (c : Code) (cc : ByteArray) (own : String) (nL : Nat) (ret : Option FieldType) : Prop :=
  p.tables.exec = Jvm.exec ∧ c.code = cc ∧ meth.sig.returnType = ret ∧ c.maxLocals = nL ∧ s.vm.findClass own = some m.cls ∧ (∀ w ∈ TB, w.before args s = true) ∧ meth.locks = false
/-- inside a body that writes: its world now -/
def WC {S : Type} (g : GG) (wd : S → va_W) (A : Nat → Prop) (H0 : Heap) (σ : S) (H : Heap) (locs : List Loc) : Prop := va_P g.1 vwCl (wd σ) H ∧ va_D A (wd σ) ∧ va_S A H0 H locs
theorem hT_pos {C : Prop} {inst : Decidable C} {α : Type} {A B t : α} (c : C) (h : (if C then A else B) = t) : A = t := (if_pos c).symm.trans h
theorem hT_neg {C : Prop} {inst : Decidable C} {α : Type} {A B t : α} (c : ¬ C) (h : (if C then A else B) = t) : B = t := (if_neg c).symm.trans h
def bd {α β γ : Type} (q : α × β) (k : α → β → γ) : γ := k q.1 q.2
theorem bd_e {α β γ : Type} {q : α × β} {k : α → β → γ} {t : γ} {r : α} {u : β} (e : (r, u) = q) (h : bd q k = t) : k r u = t := by subst e; exact h
def bd1 {β γ : Type} (q : β) (k : β → γ) : γ := k q
theorem bd1_e {β γ : Type} {q : β} {k : β → γ} {t : γ} {u : β} (e : u = q) (h : bd1 q k = t) : k u = t := by subst e; exact h
section START
variable {l : Launch} {y : MethodName} {cy : ByteArray} {maxL : Nat} {ret : Option FieldType} {rm : Room} {av : List Value}
theorem start_PI {B : State → Prop} {F : Int32} (hy : plainName y.cls = true) (hlen : (lg_sl av).length ≤ maxL)
    (body : ∀ (p : Program) (e : Env) (s : State) (m : MethodId) (args : Array Value) (below : List Frame) (meth : Method) (c : Code), BC p s m args meth c cy y.cls maxL ret → B s → ∀ ls : Array Slot, lv_has ls maxL (lv_args 0 av) →
      W p l e rm s m args below meth c s.heap [] 0 0 (MQ below (vp_Si (fun r => r = F)) args s 0 0 (fun _ => False)) (F0 m 0 ls [])) : PI l y (wsF y cy maxL ret) rm av B F := by
  refine Met.ofW (cc := cy) (maxL := maxL) (ret := ret) hy rfl ?_
  intro p e s m args below meth c s₁ Bd hml hv
  obtain ⟨rfl, hB⟩ := hv
  have hts := atoms_spec (ws := wsF y cy maxL ret) Bd.pre
  rw [lg_entry_eq]
  exact body p e s m _ below meth c ⟨Bd.exec, Bd.bytes, Bd.returns, hml, findClass_of_methodNamed Bd.named, fun w hw => hts w (List.mem_cons_of_mem _ hw), Bd.notSynchronized⟩ hB _ (lv_entry av hlen)
theorem start_PL {B : State → Prop} {F : Int64} (hy : plainName y.cls = true) (hlen : (lg_sl av).length ≤ maxL)
    (body : ∀ (p : Program) (e : Env) (s : State) (m : MethodId) (args : Array Value) (below : List Frame) (meth : Method) (c : Code), BC p s m args meth c cy y.cls maxL ret → B s → ∀ ls : Array Slot, lv_has ls maxL (lv_args 0 av) →
      W p l e rm s m args below meth c s.heap [] 0 0 (MQ below (vp_Sl (fun r => r = F)) args s 0 0 (fun _ => False)) (F0 m 0 ls [])) : PL l y (wsF y cy maxL ret) rm av B F := by
  refine Met.ofW (cc := cy) (maxL := maxL) (ret := ret) hy rfl ?_
  intro p e s m args below meth c s₁ Bd hml hv
  obtain ⟨rfl, hB⟩ := hv
  have hts := atoms_spec (ws := wsF y cy maxL ret) Bd.pre
  rw [lg_entry_eq]
  exact body p e s m _ below meth c ⟨Bd.exec, Bd.bytes, Bd.returns, hml, findClass_of_methodNamed Bd.named, fun w hw => hts w (List.mem_cons_of_mem _ hw), Bd.notSynchronized⟩ hB _ (lv_entry av hlen)
variable {S : Type} {g : GG} {wd : S → va_W} {Bg : State → Prop} {σ : S}
theorem start_MI {F : Int32 × S} (hy : plainName y.cls = true) (hlen : (lg_sl av).length ≤ maxL)
    (body : ∀ (p : Program) (e : Env) (s : State) (m : MethodId) (args : Array Value) (below : List Frame) (meth : Method) (c : Code), BC p s m args meth c cy y.cls maxL ret → KK g s → Bg s → WC g wd (aA (wd σ)) s.heap σ s.heap [] → ∀ ls : Array Slot, lv_has ls maxL (lv_args 0 av) →
      W p l e rm s m args below meth c s.heap [] 0 0 (MQ below (va_Qi (fun r u => (r, u) = F) (fun u t => va_P g.1 vwCl (wd u) t.heap) (aA (wd σ))) args s 0 0 (aA (wd σ))) (F0 m 0 ls [])) : MI l y (wsF y cy maxL ret) rm av g wd Bg σ F := by
  refine Met.ofW (cc := cy) (maxL := maxL) (ret := ret) hy rfl ?_
  intro p e s m args below meth c s₁ Bd hml hv
  obtain ⟨rfl, hK, hP, hD, hB⟩ := hv
  have hts := atoms_spec (ws := wsF y cy maxL ret) Bd.pre
  rw [lg_entry_eq]
  exact body p e s m _ below meth c ⟨Bd.exec, Bd.bytes, Bd.returns, hml, findClass_of_methodNamed Bd.named, fun w hw => hts w (List.mem_cons_of_mem _ hw), Bd.notSynchronized⟩ hK hB ⟨hP, va_D_aA hD, va_S.rf⟩ _ (lv_entry av hlen)
theorem start_ML {F : Int64 × S} (hy : plainName y.cls = true) (hlen : (lg_sl av).length ≤ maxL)
    (body : ∀ (p : Program) (e : Env) (s : State) (m : MethodId) (args : Array Value) (below : List Frame) (meth : Method) (c : Code), BC p s m args meth c cy y.cls maxL ret → KK g s → Bg s → WC g wd (aA (wd σ)) s.heap σ s.heap [] → ∀ ls : Array Slot, lv_has ls maxL (lv_args 0 av) →
      W p l e rm s m args below meth c s.heap [] 0 0 (MQ below (va_Ql (fun r u => (r, u) = F) (fun u t => va_P g.1 vwCl (wd u) t.heap) (aA (wd σ))) args s 0 0 (aA (wd σ))) (F0 m 0 ls [])) : ML l y (wsF y cy maxL ret) rm av g wd Bg σ F := by
  refine Met.ofW (cc := cy) (maxL := maxL) (ret := ret) hy rfl ?_
  intro p e s m args below meth c s₁ Bd hml hv
  obtain ⟨rfl, hK, hP, hD, hB⟩ := hv
  have hts := atoms_spec (ws := wsF y cy maxL ret) Bd.pre
  rw [lg_entry_eq]
  exact body p e s m _ below meth c ⟨Bd.exec, Bd.bytes, Bd.returns, hml, findClass_of_methodNamed Bd.named, fun w hw => hts w (List.mem_cons_of_mem _ hw), Bd.notSynchronized⟩ hK hB ⟨hP, va_D_aA hD, va_S.rf⟩ _ (lv_entry av hlen)
theorem start_MV {F : S} (hy : plainName y.cls = true) (hlen : (lg_sl av).length ≤ maxL)
    (body : ∀ (p : Program) (e : Env) (s : State) (m : MethodId) (args : Array Value) (below : List Frame) (meth : Method) (c : Code), BC p s m args meth c cy y.cls maxL ret → KK g s → Bg s → WC g wd (aA (wd σ)) s.heap σ s.heap [] → ∀ ls : Array Slot, lv_has ls maxL (lv_args 0 av) →
      W p l e rm s m args below meth c s.heap [] 0 0 (MQ below (va_Qv (fun u => u = F) (fun u t => va_P g.1 vwCl (wd u) t.heap) (aA (wd σ))) args s 0 0 (aA (wd σ))) (F0 m 0 ls [])) : MV l y (wsF y cy maxL ret) rm av g wd Bg σ F := by
  refine Met.ofW (cc := cy) (maxL := maxL) (ret := ret) hy rfl ?_
  intro p e s m args below meth c s₁ Bd hml hv
  obtain ⟨rfl, hK, hP, hD, hB⟩ := hv
  have hts := atoms_spec (ws := wsF y cy maxL ret) Bd.pre
  rw [lg_entry_eq]
  exact body p e s m _ below meth c ⟨Bd.exec, Bd.bytes, Bd.returns, hml, findClass_of_methodNamed Bd.named, fun w hw => hts w (List.mem_cons_of_mem _ hw), Bd.notSynchronized⟩ hK hB ⟨hP, va_D_aA hD, va_S.rf⟩ _ (lv_entry av hlen)
end START
section ROWS
variable {p : Program} {l : Launch} {e : Env} {R : Room} {s : State} {m : MethodId} {args : Array Value} {below : List Frame} {meth : Method} {c : Code} {H : Heap} {locs : List Loc} {cells slots : Nat} {Q : State → Prop}
variable {cc : ByteArray} {own : String} {nL pc : Nat} {ret0 : Option FieldType} {ls : Array Slot} {rest st0 : List Value}
theorem ret_PI {F v : Int32} (C0 : BC p s m args meth c cc own nL (some .int)) (hT : v = F) (hdg : decode cc pc = .ok (.ireturn, 1)) : W p l e R s m args below meth c s.heap [] 0 0 (MQ below (vp_Si (fun r => r = F)) args s 0 0 (fun _ => False)) (F0 m pc ls [.int v]) :=
  W.iret C0.1 C0.2.1 C0.2.2.1 (fun t ht _ => ⟨v, rfl, hT, ht⟩) (fun q h => by cases h) hdg C0.2.2.2.2.2.2
theorem ret_PZ {ty : FieldType} {F v : Int32} (C0 : BC p s m args meth c cc own nL (some ty)) (hn : narrow ty (.int v) = .int v) (hT : v = F) (hdg : decode cc pc = .ok (.ireturn, 1)) : W p l e R s m args below meth c s.heap [] 0 0 (MQ below (vp_Si (fun r => r = F)) args s 0 0 (fun _ => False)) (F0 m pc ls [.int v]) :=
  W.zret C0.1 C0.2.1 C0.2.2.1 hn (fun t ht _ => ⟨v, rfl, hT, ht⟩) (fun q h => by cases h) hdg C0.2.2.2.2.2.2
theorem ret_PL {F v : Int64} (C0 : BC p s m args meth c cc own nL (some .long)) (hT : v = F) (hdg : decode cc pc = .ok (.lreturn, 1)) : W p l e R s m args below meth c s.heap [] 0 0 (MQ below (vp_Sl (fun r => r = F)) args s 0 0 (fun _ => False)) (F0 m pc ls [.long v]) :=
  W.lret C0.1 C0.2.1 C0.2.2.1 (fun t ht _ => ⟨v, rfl, hT, ht⟩) (fun q h => by cases h) hdg C0.2.2.2.2.2.2
section RW
variable {S : Type} {g : GG} {wd : S → va_W} {A : Nat → Prop} {σ : S}
theorem ret_MI {F : Int32 × S} {v : Int32} (C0 : BC p s m args meth c cc own nL (some .int)) (hC : WC g wd A s.heap σ H locs) (hT : (v, σ) = F) (hdg : decode cc pc = .ok (.ireturn, 1)) : W p l e R s m args below meth c H locs 0 0 (MQ below (va_Qi (fun r u => (r, u) = F) (fun u t => va_P g.1 vwCl (wd u) t.heap) A) args s 0 0 A) (F0 m pc ls [.int v]) :=
  W.iret C0.1 C0.2.1 C0.2.2.1 (fun t ht _ => ⟨⟨v, σ, rfl, hT, (show va_P g.1 vwCl (wd σ) t.heap by rw [ht]; exact hC.1)⟩, hC.2.2.F ht⟩) hC.2.2.2.2 hdg C0.2.2.2.2.2.2
theorem ret_MZ {ty : FieldType} {F : Int32 × S} {v : Int32} (C0 : BC p s m args meth c cc own nL (some ty)) (hn : narrow ty (.int v) = .int v) (hC : WC g wd A s.heap σ H locs) (hT : (v, σ) = F) (hdg : decode cc pc = .ok (.ireturn, 1)) : W p l e R s m args below meth c H locs 0 0 (MQ below (va_Qi (fun r u => (r, u) = F) (fun u t => va_P g.1 vwCl (wd u) t.heap) A) args s 0 0 A) (F0 m pc ls [.int v]) :=
  W.zret C0.1 C0.2.1 C0.2.2.1 hn (fun t ht _ => ⟨⟨v, σ, rfl, hT, (show va_P g.1 vwCl (wd σ) t.heap by rw [ht]; exact hC.1)⟩, hC.2.2.F ht⟩) hC.2.2.2.2 hdg C0.2.2.2.2.2.2
theorem ret_ML {F : Int64 × S} {v : Int64} (C0 : BC p s m args meth c cc own nL (some .long)) (hC : WC g wd A s.heap σ H locs) (hT : (v, σ) = F) (hdg : decode cc pc = .ok (.lreturn, 1)) : W p l e R s m args below meth c H locs 0 0 (MQ below (va_Ql (fun r u => (r, u) = F) (fun u t => va_P g.1 vwCl (wd u) t.heap) A) args s 0 0 A) (F0 m pc ls [.long v]) :=
  W.lret C0.1 C0.2.1 C0.2.2.1 (fun t ht _ => ⟨⟨v, σ, rfl, hT, (show va_P g.1 vwCl (wd σ) t.heap by rw [ht]; exact hC.1)⟩, hC.2.2.F ht⟩) hC.2.2.2.2 hdg C0.2.2.2.2.2.2
theorem ret_MV {F : S} (C0 : BC p s m args meth c cc own nL none) (hC : WC g wd A s.heap σ H locs) (hT : σ = F) (hdg : decode cc pc = .ok (.return_, 1)) : W p l e R s m args below meth c H locs 0 0 (MQ below (va_Qv (fun u => u = F) (fun u t => va_P g.1 vwCl (wd u) t.heap) A) args s 0 0 A) (F0 m pc ls []) :=
  W.vret C0.1 C0.2.1 C0.2.2.1 (fun t ht _ => ⟨⟨σ, rfl, hT, (show va_P g.1 vwCl (wd σ) t.heap by rw [ht]; exact hC.1)⟩, hC.2.2.F ht⟩) hC.2.2.2.2 hdg C0.2.2.2.2.2.2
end RW
/-- a run that keeps what it says of the tables, without that -/
theorem run_of_va {mc ms : Nat} {gf : JFrame} {Qa : State → Outcome → State → Prop} {free : Addr → Prop} (h : va_Run p l e R s m args below meth c H locs cells slots mc ms gf rest Qa free) : CallRun p l e R s m args below meth c H locs cells slots mc ms gf rest Qa free := by
  intro T hT X
  obtain ⟨v, st₀, t, T', L, h0, X', hL, e1, e2, hq, st⟩ := h T hT X
  exact ⟨v, st₀, t, T', L, h0, X', hL, e1, hq, st⟩
/-- the facts of a method that is called, an instance's -/
def CF (y : MethodName) (cy : ByteArray) (maxL : Nat) (ret : Option FieldType) (n : Nat) : Prop :=
  Cond.instanceMethod y ∈ TB ∧ Cond.selects y.cls y y ∈ TB ∧ Cond.initialized y.cls ∈ TB ∧ Cond.code y cy maxL ret ∈ TB ∧ y.cls ≠ "java/lang/invoke/MethodHandle" ∧ y.cls ≠ "java/lang/invoke/VarHandle" ∧ (parseMethodDescriptor y.desc).map (fun d => d.parameters.length) = some n
/-- a static one's -/
def CG (y : MethodName) (cy : ByteArray) (maxL : Nat) (ret : Option FieldType) (n : Nat) : Prop :=
  Cond.static y ∈ TB ∧ Cond.initialized y.cls ∈ TB ∧ Cond.code y cy maxL ret ∈ TB ∧ y.cls ≠ "java/lang/invoke/MethodHandle" ∧ y.cls ≠ "java/lang/invoke/VarHandle" ∧ (parseMethodDescriptor y.desc).map (fun d => d.parameters.length) = some n
theorem good_wsF {y : MethodName} {cy : ByteArray} {n : Nat} {ret : Option FieldType} (h : Cond.code y cy n ret ∈ TB) : GoodIn TB (wsF y cy n ret) := fun w hw => by
  rcases List.mem_cons.mp hw with rfl | h2
  · exact ⟨h, goodTB h⟩
  · exact ⟨h2, goodTB h2⟩
section CALLS
variable {y : MethodName} {cy : ByteArray} {maxL n idx : Nat} {ret : Option FieldType} {rm : Room} {Pc : Array Value → State → Prop} {Qc : Array Value → State → Outcome → State → Prop} {mc ms : Nat} {free : Addr → Prop} {b : Addr} {As : List Value}
theorem cw_V (C0 : BC p s m args meth c cc own nL ret0) (hF : CF y cy maxL ret n) (hl : Cond.methodLink own idx y ∈ TB) (hrc : rm.cells = mc) (hrs : rm.slots = ms) (hR : rm.frames + 1 ≤ R.frames ∧ 8 + (maxL + 11) + rm.locals ≤ R.locals) : CallW R s args own y.cls idx y cy maxL ret (wsF y cy maxL ret) rm mc ms n := by
  obtain ⟨-, -, -, -, -, hts, -⟩ := C0
  obtain ⟨h1, h2, h3, h4, h5, h6, h7⟩ := hF
  exact ⟨callB_of n hts (good_wsF h4) rfl hrc hrs (hts _ h3) (hts _ hl) ⟨h5, h6, h7⟩ hR, hts _ h1, hts _ h2⟩
theorem cw_S (C0 : BC p s m args meth c cc own nL ret0) (hF : CG y cy maxL ret n) (hl : Cond.methodLink own idx y ∈ TB) (hrc : rm.cells = mc) (hrs : rm.slots = ms) (hR : rm.frames + 1 ≤ R.frames ∧ 8 + (maxL + 11) + rm.locals ≤ R.locals) : CallB R s args own idx y cy maxL ret (wsF y cy maxL ret) rm mc ms n ∧ (Cond.static y).before args s = true := by
  obtain ⟨-, -, -, -, -, hts, -⟩ := C0
  obtain ⟨h1, h3, h4, h5, h6, h7⟩ := hF
  exact ⟨callB_of n hts (good_wsF h4) rfl hrc hrs (hts _ h3) (hts _ hl) ⟨h5, h6, h7⟩ hR, hts _ h1⟩
theorem cw_N (C0 : BC p s m args meth c cc own nL ret0) {host : String} (hc : Cond.code y cy maxL ret ∈ TB) (hi : Cond.initialized y.cls ∈ TB) (hd : y.cls ≠ "java/lang/invoke/MethodHandle" ∧ y.cls ≠ "java/lang/invoke/VarHandle" ∧ (parseMethodDescriptor y.desc).map (fun d => d.parameters.length) = some n) (hN : NW s) (hl : Cond.methodLinkNest own idx y host ∈ NB) (hrc : rm.cells = mc) (hrs : rm.slots = ms) (hR : rm.frames + 1 ≤ R.frames ∧ 8 + (maxL + 11) + rm.locals ≤ R.locals) : va_CN R s args own idx y host cy maxL ret (wsF y cy maxL ret) rm mc ms n := by
  obtain ⟨-, -, -, -, -, hts, -⟩ := C0
  exact va_cnB n hts (good_wsF hc) rfl hrc hrs (hN _ hl) (hts _ hi) hd hR
/-- invokevirtual, the receiver's own method -/
theorem run_V (C0 : BC p s m args meth c cc own nL ret0) (hF : CF y cy maxL ret n) (hl : Cond.methodLink own idx y ∈ TB) (hR : rm.frames + 1 ≤ R.frames ∧ 8 + (maxL + 11) + rm.locals ≤ R.locals) (hM : Met l y (wsF y cy maxL ret) rm Pc Qc rm.cells rm.slots free) (hp : PreV s H y.cls b Pc As) (hn : As.length = n) (hsz : ls.size = nL) (hst : st0 = As.reverse ++ .ref b :: rest) (hW : (rest.map fun v => v.category).sum ≤ 8) (hdg : decode cc pc = .ok (.invokevirtual idx, 3)) (hf : cells + rm.cells ≤ R.cells ∧ slots + rm.slots ≤ R.slots) : va_Run p l e R s m args below meth c H locs cells slots rm.cells rm.slots (F0 m pc ls st0) rest (Qc (Value.ref b :: As).toArray) free :=
  va_runV (g := F0 m pc ls st0) ⟨C0.1, C0.2.1, C0.2.2.2.1, C0.2.2.2.2.1, C0.2.2.2.2.2.1⟩ hM (cw_V C0 hF hl rfl rfl hR) hp rfl hn hsz hst (lv_room hW) hdg hf
/-- invokevirtual of a nest mate's private method -/
theorem run_VN (C0 : BC p s m args meth c cc own nL ret0) (hF : CF y cy maxL ret n) {host : String} (hN : NW s) (hl : Cond.methodLinkNest own idx y host ∈ NB) (hR : rm.frames + 1 ≤ R.frames ∧ 8 + (maxL + 11) + rm.locals ≤ R.locals) (hM : Met l y (wsF y cy maxL ret) rm Pc Qc rm.cells rm.slots free) (hp : PreV s H y.cls b Pc As) (hn : As.length = n) (hsz : ls.size = nL) (hst : st0 = As.reverse ++ .ref b :: rest) (hW : (rest.map fun v => v.category).sum ≤ 8) (hdg : decode cc pc = .ok (.invokevirtual idx, 3)) (hf : cells + rm.cells ≤ R.cells ∧ slots + rm.slots ≤ R.slots) : va_Run p l e R s m args below meth c H locs cells slots rm.cells rm.slots (F0 m pc ls st0) rest (Qc (Value.ref b :: As).toArray) free :=
  va_runVN (g := F0 m pc ls st0) ⟨C0.1, C0.2.1, C0.2.2.2.1, C0.2.2.2.2.1, C0.2.2.2.2.2.1⟩ hM ⟨cw_N C0 hF.2.2.2.1 hF.2.2.1 hF.2.2.2.2 hN hl rfl rfl hR, C0.2.2.2.2.2.1 _ hF.1, C0.2.2.2.2.2.1 _ hF.2.1⟩ hp rfl hn hsz hst (lv_room hW) hdg hf
theorem run_S (C0 : BC p s m args meth c cc own nL ret0) (hF : CG y cy maxL ret n) (hl : Cond.methodLink own idx y ∈ TB) (hR : rm.frames + 1 ≤ R.frames ∧ 8 + (maxL + 11) + rm.locals ≤ R.locals) (hM : Met l y (wsF y cy maxL ret) rm Pc Qc rm.cells rm.slots free) (hp : PreS s H Pc As) (hn : As.length = n) (hsz : ls.size = nL) (hst : st0 = As.reverse ++ rest) (hW : (rest.map fun v => v.category).sum ≤ 8) (hdg : decode cc pc = .ok (.invokestatic idx, 3)) (hf : cells + rm.cells ≤ R.cells ∧ slots + rm.slots ≤ R.slots) : va_Run p l e R s m args below meth c H locs cells slots rm.cells rm.slots (F0 m pc ls st0) rest (Qc As.toArray) free :=
  va_runS (g := F0 m pc ls st0) ⟨C0.1, C0.2.1, C0.2.2.2.1, C0.2.2.2.2.1, C0.2.2.2.2.2.1⟩ hM (cw_S C0 hF hl rfl rfl hR) hp rfl hn hsz hst (lv_room hW) hdg hf
theorem run_SN (C0 : BC p s m args meth c cc own nL ret0) (hF : CG y cy maxL ret n) {host : String} (hN : NW s) (hl : Cond.methodLinkNest own idx y host ∈ NB) (hR : rm.frames + 1 ≤ R.frames ∧ 8 + (maxL + 11) + rm.locals ≤ R.locals) (hM : Met l y (wsF y cy maxL ret) rm Pc Qc rm.cells rm.slots free) (hp : PreS s H Pc As) (hn : As.length = n) (hsz : ls.size = nL) (hst : st0 = As.reverse ++ rest) (hW : (rest.map fun v => v.category).sum ≤ 8) (hdg : decode cc pc = .ok (.invokestatic idx, 3)) (hf : cells + rm.cells ≤ R.cells ∧ slots + rm.slots ≤ R.slots) : va_Run p l e R s m args below meth c H locs cells slots rm.cells rm.slots (F0 m pc ls st0) rest (Qc As.toArray) free :=
  va_runSN (g := F0 m pc ls st0) ⟨C0.1, C0.2.1, C0.2.2.2.1, C0.2.2.2.2.1, C0.2.2.2.2.2.1⟩ hM ⟨cw_N C0 hF.2.2.1 hF.2.1 hF.2.2.2 hN hl rfl rfl hR, C0.2.2.2.2.2.1 _ hF.1, trivial⟩ hp rfl hn hsz hst (lv_room hW) hdg hf
/-- behind a call that writes nothing -/
theorem aft_i {F : Int32} {a : Array Value} (hr : va_Run p l e R s m args below meth c H locs cells slots 0 0 (F0 m pc ls st0) rest (vp_Si (fun r => r = F) a) (fun _ => False)) (kk : W p l e R s m args below meth c H locs cells slots Q (F0 m (pc + 3) ls (.int F :: rest))) : W p l e R s m args below meth c H locs cells slots Q (F0 m pc ls st0) :=
  vp_callSi (run_of_va hr) (fun r er => by subst er; exact kk)
theorem aft_l {F : Int64} {a : Array Value} (hr : va_Run p l e R s m args below meth c H locs cells slots 0 0 (F0 m pc ls st0) rest (vp_Sl (fun r => r = F) a) (fun _ => False)) (kk : W p l e R s m args below meth c H locs cells slots Q (F0 m (pc + 3) ls (.long F :: rest))) : W p l e R s m args below meth c H locs cells slots Q (F0 m pc ls st0) :=
  vp_callSl (run_of_va hr) (fun r er => by subst er; exact kk)
section AFT
variable {S : Type} {g : GG} {wd : S → va_W} {A : Nat → Prop} {H0 : Heap} {σ : S} {a : Array Value}
theorem wc_after {u : S} {H1 : Heap} {locs1 : List Loc} (hC : WC g wd A H0 σ H locs) (hadr : adrs (wd u) = adrs (wd σ)) (hp : va_P g.1 vwCl (wd u) H1) (hS : va_S A H0 H1 locs1) : WC g wd A H0 u H1 locs1 := ⟨hp, va_D_adrs hadr hC.2.1, hS⟩
theorem aft_mi {F : Int32 × S} (hC : WC g wd A H0 σ H locs) (hadr : ∀ u, adrs (wd u) = adrs (wd σ)) (hr : va_Run p l e R s m args below meth c H locs cells slots 0 0 (F0 m pc ls st0) rest (va_Qi (fun r u => (r, u) = F) (fun u t => va_P g.1 vwCl (wd u) t.heap) (aA (wd σ)) a) (aA (wd σ))) (kk : ∀ (r : Int32) (u : S) (H1 : Heap) (locs1 : List Loc), (r, u) = F → WC g wd A H0 u H1 locs1 → W p l e R s m args below meth c H1 locs1 cells slots Q (F0 m (pc + 3) ls (.int r :: rest))) : W p l e R s m args below meth c H locs cells slots Q (F0 m pc ls st0) :=
  va_calli hr hC.2.2 (fun q _ h => aA_in hC.2.1 h) (fun q h => aA_in hC.2.1 h) (fun r u t H1 locs1 ht _ hw hB _ _ hS => kk r u H1 locs1 hw (wc_after hC (hadr u) (by rw [← ht]; exact hB) hS))
theorem aft_ml {F : Int64 × S} (hC : WC g wd A H0 σ H locs) (hadr : ∀ u, adrs (wd u) = adrs (wd σ)) (hr : va_Run p l e R s m args below meth c H locs cells slots 0 0 (F0 m pc ls st0) rest (va_Ql (fun r u => (r, u) = F) (fun u t => va_P g.1 vwCl (wd u) t.heap) (aA (wd σ)) a) (aA (wd σ))) (kk : ∀ (r : Int64) (u : S) (H1 : Heap) (locs1 : List Loc), (r, u) = F → WC g wd A H0 u H1 locs1 → W p l e R s m args below meth c H1 locs1 cells slots Q (F0 m (pc + 3) ls (.long r :: rest))) : W p l e R s m args below meth c H locs cells slots Q (F0 m pc ls st0) :=
  va_calll hr hC.2.2 (fun q _ h => aA_in hC.2.1 h) (fun q h => aA_in hC.2.1 h) (fun r u t H1 locs1 ht _ hw hB _ _ hS => kk r u H1 locs1 hw (wc_after hC (hadr u) (by rw [← ht]; exact hB) hS))
theorem aft_mv {F : S} (hC : WC g wd A H0 σ H locs) (hadr : ∀ u, adrs (wd u) = adrs (wd σ)) (hr : va_Run p l e R s m args below meth c H locs cells slots 0 0 (F0 m pc ls st0) rest (va_Qv (fun u => u = F) (fun u t => va_P g.1 vwCl (wd u) t.heap) (aA (wd σ)) a) (aA (wd σ))) (kk : ∀ (u : S) (H1 : Heap) (locs1 : List Loc), u = F → WC g wd A H0 u H1 locs1 → W p l e R s m args below meth c H1 locs1 cells slots Q (F0 m (pc + 3) ls rest)) : W p l e R s m args below meth c H locs cells slots Q (F0 m pc ls st0) :=
  va_callv hr hC.2.2 (fun q _ h => aA_in hC.2.1 h) (fun q h => aA_in hC.2.1 h) (fun u t H1 locs1 ht _ hw hB _ _ hS => kk u H1 locs1 hw (wc_after hC (hadr u) (by rw [← ht]; exact hB) hS))
end AFT
end CALLS
end ROWS
theorem ti_lt {a b : Int32} : a < b ↔ a.toInt < b.toInt := Int32.lt_iff_toInt_lt
theorem ti_le {a b : Int32} : a ≤ b ↔ a.toInt ≤ b.toInt := Int32.le_iff_toInt_le
theorem ti_eq {a b : Int32} : a = b ↔ a.toInt = b.toInt := Int32.toInt_inj.symm
theorem ti_bm {z : Int} (h1 : -2147483648 ≤ z) (h2 : z ≤ 2147483647) : z.bmod (2 ^ 32) = z := Int.bmod_eq_of_le (by omega) (by omega)
theorem ti_add {a b : Int32} (h1 : -2147483648 ≤ a.toInt + b.toInt) (h2 : a.toInt + b.toInt ≤ 2147483647) : (a + b).toInt = a.toInt + b.toInt := by rw [Int32.toInt_add]; exact ti_bm h1 h2
theorem ti_sub {a b : Int32} (h1 : -2147483648 ≤ a.toInt - b.toInt) (h2 : a.toInt - b.toInt ≤ 2147483647) : (a - b).toInt = a.toInt - b.toInt := by rw [Int32.toInt_sub]; exact ti_bm h1 h2
theorem ti_mul {a b : Int32} (h1 : -2147483648 ≤ a.toInt * b.toInt) (h2 : a.toInt * b.toInt ≤ 2147483647) : (a * b).toInt = a.toInt * b.toInt := by rw [Int32.toInt_mul]; exact ti_bm h1 h2
theorem ti_neg {a : Int32} (h1 : -2147483648 < a.toInt) : (-a).toInt = -a.toInt := by
  rw [Int32.toInt_neg]
  have := a.toInt_lt
  exact ti_bm (by omega) (by omega)
theorem ti_rng (a : Int32) : -2147483648 ≤ a.toInt ∧ a.toInt ≤ 2147483647 := by
  have h1 := a.toInt_lt
  have h2 := a.le_toInt
  constructor <;> omega
theorem ti_nI {n : Nat} (h : n < 2147483648) : (nI n).toInt = n := nI_toInt (by omega)
theorem vin {i : Int32} {n : Nat} (h1 : 0 ≤ i.toInt) (h2 : i.toInt < n) : vp_in i n := vp_in_iff.mpr ⟨h1, h2⟩
theorem vin_l {i : Int32} {n : Nat} (h : (decide (0 ≤ i.toInt) && decide (i.toInt < n)) = true) : vp_in i n := by
  simp only [Bool.and_eq_true, decide_eq_true_eq] at h
  exact vin h.1 h.2
theorem ti_ix {i : Int32} (h : 0 ≤ i.toInt) : ((ix i : Nat) : Int) = i.toInt := Int.toNat_of_nonneg h
theorem iv_pos {C : Prop} {inst : Decidable C} {A B u : Int32} (c : C) (h : u = A) : u = if C then A else B := h.trans (if_pos c).symm
theorem iv_neg {C : Prop} {inst : Decidable C} {A B u : Int32} (c : ¬ C) (h : u = B) : u = if C then A else B := h.trans (if_neg c).symm
theorem nz_of {x : Int32} (h : x = 0 ∨ x = 1) : narrow .boolean (.int x) = .int x := by rcases h with rfl | rfl <;> rfl
theorem nz_ite {C : Prop} {inst : Decidable C} : narrow .boolean (.int (if C then (1 : Int32) else 0)) = .int (if C then 1 else 0) := nz_of (by split <;> simp)
theorem nz_ite2 {C : Prop} {inst : Decidable C} : narrow .boolean (.int (if C then (0 : Int32) else 1)) = .int (if C then 0 else 1) := nz_of (by split <;> simp)
theorem nr_of {x : Int32} (h : x = 0 ∨ x = 1) : vp_nar .boolean x = x := by rcases h with rfl | rfl <;> rfl
theorem nr_ite {C : Prop} {inst : Decidable C} : vp_nar .boolean (if C then (1 : Int32) else 0) = if C then 1 else 0 := nr_of (by split <;> simp)
theorem nr_ite2 {C : Prop} {inst : Decidable C} : vp_nar .boolean (if C then (0 : Int32) else 1) = if C then 0 else 1 := nr_of (by split <;> simp)
theorem sw_out {x : Int32} {lo hi : Int} (h : ∀ k : Int, lo ≤ k → k ≤ hi → ¬ x = Int32.ofInt k) : x.toInt < lo ∨ hi < x.toInt := by
  by_cases h1 : x.toInt < lo
  · exact Or.inl h1
  by_cases h2 : hi < x.toInt
  · exact Or.inr h2
  exact absurd (by simp) (h x.toInt (by omega) (by omega))
theorem ti_mulL {a b : Int32} {n : Int} (hb : b.toInt = n) (h1 : -2147483648 ≤ a.toInt * n) (h2 : a.toInt * n ≤ 2147483647) : (a * b).toInt = a.toInt * n := by rw [ti_mul (by rw [hb]; exact h1) (by rw [hb]; exact h2), hb]
theorem ti_mulR {a b : Int32} {n : Int} (ha : a.toInt = n) (h1 : -2147483648 ≤ n * b.toInt) (h2 : n * b.toInt ≤ 2147483647) : (a * b).toInt = n * b.toInt := by rw [ti_mul (by rw [ha]; exact h1) (by rw [ha]; exact h2), ha]
abbrev QPI (below : List Frame) (args : Array Value) (s : State) (F : Int32) : State → Prop := MQ below (vp_Si (fun r => r = F)) args s 0 0 (fun _ => False)
abbrev QPL (below : List Frame) (args : Array Value) (s : State) (F : Int64) : State → Prop := MQ below (vp_Sl (fun r => r = F)) args s 0 0 (fun _ => False)
abbrev QMI {S : Type} (below : List Frame) (args : Array Value) (s : State) (g : GG) (wd : S → va_W) (A : Nat → Prop) (F : Int32 × S) : State → Prop := MQ below (va_Qi (fun r u => (r, u) = F) (fun u t => va_P g.1 vwCl (wd u) t.heap) A) args s 0 0 A
abbrev QML {S : Type} (below : List Frame) (args : Array Value) (s : State) (g : GG) (wd : S → va_W) (A : Nat → Prop) (F : Int64 × S) : State → Prop := MQ below (va_Ql (fun r u => (r, u) = F) (fun u t => va_P g.1 vwCl (wd u) t.heap) A) args s 0 0 A
abbrev QMV {S : Type} (below : List Frame) (args : Array Value) (s : State) (g : GG) (wd : S → va_W) (A : Nat → Prop) (F : S) : State → Prop := MQ below (va_Qv (fun u => u = F) (fun u t => va_P g.1 vwCl (wd u) t.heap) A) args s 0 0 A
theorem up2_ne {σ : St} {k j j' : Nat} {v : Int32} (h : j' ≠ j) : up2 σ k j v k j' = σ k j' := by simp [up2, upC, upd, h]
theorem up2_eq {σ : St} {k j : Nat} {v : Int32} : up2 σ k j v k j = v := by simp [up2, upC, upd]
theorem up2_ge {σ : St} {k j : Nat} {E v : Int32} (h : (j : Int) < E.toInt) : up2 σ k (ix E) v k j = σ k j := up2_ne (by
  have := ti_ix (i := E) (by omega)
  omega)
theorem up2_geI {σ : St} {k j : Nat} {E v : Int32} (h : (j : Int) < E.toInt) : (up2 σ k (ix E) v k j).toInt = (σ k j).toInt := by rw [up2_ge h]
