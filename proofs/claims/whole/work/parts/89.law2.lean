/-! THE LAW'S ROWS -/
section LAWR
variable {p : Program} {l : Launch} {e : Env} {R : Room} {s : State} {m : MethodId} {args : Array Value} {below : List Frame} {meth : Method} {c : Code} {H : Heap} {locs : List Loc} {cells slots : Nat} {Q : State → Prop}
variable {pc : Nat} {ls : Array Slot} {rest st0 : List Value} {a : Array Value} {g : GG} {f : Nat → Nat} {aK aV : Nat → Nat} {x : X3} {ρ : RR} {dt : Nat → Nat → Int32} {τ σ : St}
/-- an int of the script is pushed -/
theorem law_arg {cc : ByteArray} {b L : Nat} {xs : Nat → Int32} {i v : Int32} {z : Int} (hx : p.tables.exec = Jvm.exec) (hb : c.code = cc) (hX : va_X b L xs s s.heap) (hbl : b < s.heap.size) (h : LH g f s x σ H locs) (h0 : ls[0]? = some (.val (.ref b))) (h3 : ls[3]? = some (.val (.int i))) (hin : vp_in (i + v) L)
    (d1 : decode cc pc = .ok (.aload_n 0, 1)) (d2 : decode cc (pc + 1) = .ok (.iload_n 3, 1)) (d3 : decode cc (pc + 1 + 1) = .ok (.iconst z, 1)) (hv : Int32.ofInt z = v) (d4 : decode cc (pc + 1 + 1 + 1) = .ok (.iadd, 1)) (d5 : decode cc (pc + 1 + 1 + 1 + 1) = .ok (.iaload, 1))
    (kk : W p l e R s m args below meth c H locs cells slots Q (F0 m (pc + 5) ls (.int (xs (ix (i + v))) :: rest))) : W p l e R s m args below meth c H locs cells slots Q (F0 m pc ls rest) := by
  refine lv_aload_n hx hb d1 rfl h0 ?_
  refine lv_iload_n hx hb d2 rfl h3 ?_
  refine lv_iconst hx hb d3 hv ?_
  refine lv_iadd hx hb d4 ?_
  exact va_sld hx hb hX hbl (Nat.not_le.mpr hbl) h.2.2.2.1 hin d5 kk
theorem LH.cmi {F : Int32 × St} (h : LH g f s (ρ, dt, τ) σ H locs) (hr : va_Run p l e R s m args below meth c H locs cells slots 0 0 (F0 m pc ls st0) rest (va_Qi (fun r u => (r, u) = F) (fun u t => va_P g.1 vwCl (xW g ρ u) t.heap) (aA (xW g ρ τ)) a) (aA (xW g ρ τ)))
    (kk : ∀ (H1 : Heap) (locs1 : List Loc), LH g f s (ρ, dt, F.2) σ H1 locs1 → W p l e R s m args below meth c H1 locs1 cells slots Q (F0 m (pc + 3) ls (.int F.1 :: rest))) : W p l e R s m args below meth c H locs cells slots Q (F0 m pc ls st0) :=
  va_calli hr h.2.2.2.1 (fun q _ z => (h.ax z).2.1) (fun q z => (h.ax z).2.1) (fun r u t H1 locs1 ht _ hw hB _ hk hS => by
    subst hw
    exact kk H1 locs1 (h.xmi (by rw [← ht]; exact hB) hk hS))
theorem LH.cmm {F : Int32 × St} (h : LH g f s x σ H locs) (hr : va_Run p l e R s m args below meth c H locs cells slots 0 0 (F0 m pc ls st0) rest (va_Qi (fun r u => (r, u) = F) (fun u t => va_P g.1 vwCl (mW (gA g f) u) t.heap) (aA (mW (gA g f) σ)) a) (aA (mW (gA g f) σ)))
    (kk : ∀ (H1 : Heap) (locs1 : List Loc), LH g f s x F.2 H1 locs1 → W p l e R s m args below meth c H1 locs1 cells slots Q (F0 m (pc + 3) ls (.int F.1 :: rest))) : W p l e R s m args below meth c H locs cells slots Q (F0 m pc ls st0) :=
  va_calli hr h.2.2.2.1 (fun q _ z => (h.am z).2.1) (fun q z => (h.am z).2.1) (fun r u t H1 locs1 ht _ hw hB _ hk hS => by
    subst hw
    exact kk H1 locs1 (h.mmi (by rw [← ht]; exact hB) hk hS))
theorem LH.cml {F : Int64 × St} (h : LH g f s x σ H locs) (hr : va_Run p l e R s m args below meth c H locs cells slots 0 0 (F0 m pc ls st0) rest (va_Ql (fun r u => (r, u) = F) (fun u t => va_P g.1 vwCl (mW (gA g f) u) t.heap) (aA (mW (gA g f) σ)) a) (aA (mW (gA g f) σ)))
    (kk : ∀ (H1 : Heap) (locs1 : List Loc), LH g f s x F.2 H1 locs1 → W p l e R s m args below meth c H1 locs1 cells slots Q (F0 m (pc + 3) ls (.long F.1 :: rest))) : W p l e R s m args below meth c H locs cells slots Q (F0 m pc ls st0) :=
  va_calll hr h.2.2.2.1 (fun q _ z => (h.am z).2.1) (fun q z => (h.am z).2.1) (fun r u t H1 locs1 ht _ hw hB _ hk hS => by
    subst hw
    exact kk H1 locs1 (h.mmi (by rw [← ht]; exact hB) hk hS))
theorem LH.cxi {mc ms : Nat} {post : Int32 → X3 → Prop} {N : X3 → Heap → Prop} (h : LH g f s x σ H locs) (hr : va_Run p l e R s m args below meth c H locs cells slots mc ms (F0 m pc ls st0) rest (va_Qi post (fun u t => va_P g.1 vwCl (xW g u.1 u.2.2) t.heap ∧ XH g u.1 u.2.1 t.heap ∧ N u t.heap) (AX g) a) (fun z => AX g z ∨ H.size ≤ z))
    (ho : ∀ r u H1, post r u → N u H1 → (∀ i a, (u.1 24 i = some a ∨ u.1 44 i = some a) → ((∃ j, x.1 24 j = some a ∨ x.1 44 j = some a) ∧ u.2.1 a = x.2.1 a) ∨ SKF g H.size H1 a (u.2.1 a)) ∧ ∀ a, (u.1 22 0 = some a ∨ u.1 42 0 = some a) → ((x.1 22 0 = some a ∨ x.1 42 0 = some a) ∧ u.2.1 a = x.2.1 a) ∨ RMF g H.size H1 a (u.2.1 a))
    (kk : ∀ (r : Int32) (u : X3) (H1 : Heap) (locs1 : List Loc), post r u → LH g f s u σ H1 locs1 → W p l e R s m args below meth c H1 locs1 (cells + mc) (slots + ms) Q (F0 m (pc + 3) ls (.int r :: rest))) : W p l e R s m args below meth c H locs cells slots Q (F0 m pc ls st0) :=
  va_calli hr h.2.2.2.1 (fun q _ z => (h.ax z).2.1) (fun q z => by
    rcases z with z | z
    · exact (h.ax z).2.1
    · exact Nat.le_trans h.2.2.2.1.1 z) (fun r u t H1 locs1 ht _ hw hB _ hk hS => by
    rw [ht] at hB
    exact kk r u H1 locs1 hw (h.xxi hB.1 hk hS (ho r u H1 hw hB.2.2).1 (ho r u H1 hw hB.2.2).2))
theorem LH.cxj {mc ms : Nat} {post : Int32 → X3 → Prop} (h : LH g f s x σ H locs) (hr : va_Run p l e R s m args below meth c H locs cells slots mc ms (F0 m pc ls st0) rest (va_Qi post (fun u t => va_P g.1 vwCl (xW g u.1 u.2.2) t.heap ∧ XH g u.1 u.2.1 t.heap) (AX g) a) (fun z => AX g z ∨ H.size ≤ z))
    (ho : ∀ r u H1, post r u → (∀ i a, (u.1 24 i = some a ∨ u.1 44 i = some a) → ((∃ j, x.1 24 j = some a ∨ x.1 44 j = some a) ∧ u.2.1 a = x.2.1 a) ∨ SKF g H.size H1 a (u.2.1 a)) ∧ ∀ a, (u.1 22 0 = some a ∨ u.1 42 0 = some a) → ((x.1 22 0 = some a ∨ x.1 42 0 = some a) ∧ u.2.1 a = x.2.1 a) ∨ RMF g H.size H1 a (u.2.1 a))
    (kk : ∀ (r : Int32) (u : X3) (H1 : Heap) (locs1 : List Loc), post r u → LH g f s u σ H1 locs1 → W p l e R s m args below meth c H1 locs1 (cells + mc) (slots + ms) Q (F0 m (pc + 3) ls (.int r :: rest))) : W p l e R s m args below meth c H locs cells slots Q (F0 m pc ls st0) :=
  va_calli hr h.2.2.2.1 (fun q _ z => (h.ax z).2.1) (fun q z => by
    rcases z with z | z
    · exact (h.ax z).2.1
    · exact Nat.le_trans h.2.2.2.1.1 z) (fun r u t H1 locs1 ht _ hw hB _ hk hS => by
    rw [ht] at hB
    exact kk r u H1 locs1 hw (h.xxi hB.1 hk hS (ho r u H1 hw).1 (ho r u H1 hw).2))
end LAWR
/-! what each making call leaves of the old -/
section OLD
variable {g : GG} {x u : X3} {H1 : Heap} {h0 : Nat} {v : Int32}
theorem old_stick {a1 a2 a3 : Int32} (hf : FR x.1 h0) (hu : f_X11_stick h0 a1 a2 a3 x v u) (hN : SKN g h0 u H1) : (∀ i a, (u.1 24 i = some a ∨ u.1 44 i = some a) → ((∃ j, x.1 24 j = some a ∨ x.1 44 j = some a) ∧ u.2.1 a = x.2.1 a) ∨ SKF g h0 H1 a (u.2.1 a)) ∧ ∀ a, (u.1 22 0 = some a ∨ u.1 42 0 = some a) → ((x.1 22 0 = some a ∨ x.1 42 0 = some a) ∧ u.2.1 a = x.2.1 a) ∨ RMF g h0 H1 a (u.2.1 a) := by
  rcases hu with ⟨_, _, rfl⟩ | ⟨_, _, _, rfl⟩ | ⟨_, _, _, _, rfl⟩ | ⟨_, _, _, q, hq, _, rfl⟩
  · exact ⟨fun i a e => Or.inl ⟨⟨i, e⟩, rfl⟩, fun a e => Or.inl ⟨e, rfl⟩⟩
  · exact ⟨fun i a e => Or.inl ⟨⟨i, e⟩, rfl⟩, fun a e => Or.inl ⟨e, rfl⟩⟩
  · exact ⟨fun i a e => Or.inl ⟨⟨i, e⟩, rfl⟩, fun a e => Or.inl ⟨e, rfl⟩⟩
  · refine ⟨fun i a e => ?_, fun a e => ?_⟩
    · rcases e with e | e
      · by_cases z : h0 ≤ a
        · exact Or.inr (hN i a z e)
        · have e' : va_up (x.1 24) (ix (x.2.2 25 0)) (some q) i = some a := e
          unfold va_up at e'
          split at e'
          · cases e'; omega
          · exact Or.inl ⟨⟨i, Or.inl e'⟩, upD_ne (by omega)⟩
      · have e' : x.1 44 i = some a := e
        have := hf a (Or.inr (Or.inl ⟨i, e'⟩))
        exact Or.inl ⟨⟨i, Or.inr e'⟩, upD_ne (by omega)⟩
    · have e' : x.1 22 0 = some a ∨ x.1 42 0 = some a := e
      have := hf a (Or.inr (Or.inr e'))
      exact Or.inl ⟨e', upD_ne (by omega)⟩
theorem old_row {a1 a2 a3 : Int32} (hf : FR x.1 h0) (hu : f_X11_row h0 a1 a2 a3 x v u) (hN : SKN g h0 u H1) : (∀ i a, (u.1 24 i = some a ∨ u.1 44 i = some a) → ((∃ j, x.1 24 j = some a ∨ x.1 44 j = some a) ∧ u.2.1 a = x.2.1 a) ∨ SKF g h0 H1 a (u.2.1 a)) ∧ ∀ a, (u.1 22 0 = some a ∨ u.1 42 0 = some a) → ((x.1 22 0 = some a ∨ x.1 42 0 = some a) ∧ u.2.1 a = x.2.1 a) ∨ RMF g h0 H1 a (u.2.1 a) := by
  rcases hu with ⟨_, _, rfl⟩ | ⟨_, _, _, _, rfl⟩ | ⟨_, _, _, _, _, rfl⟩ | ⟨_, _, _, _, q, hq, _, rfl⟩
  · exact ⟨fun i a e => Or.inl ⟨⟨i, e⟩, rfl⟩, fun a e => Or.inl ⟨e, rfl⟩⟩
  · exact ⟨fun i a e => Or.inl ⟨⟨i, e⟩, rfl⟩, fun a e => Or.inl ⟨e, rfl⟩⟩
  · exact ⟨fun i a e => Or.inl ⟨⟨i, e⟩, rfl⟩, fun a e => Or.inl ⟨e, rfl⟩⟩
  · refine ⟨fun i a e => ?_, fun a e => ?_⟩
    · rcases e with e | e
      · by_cases z : h0 ≤ a
        · exact Or.inr (hN i a z e)
        · have e' : va_up (x.1 24) (ix a1) (some q) i = some a := e
          unfold va_up at e'
          split at e'
          · cases e'; omega
          · exact Or.inl ⟨⟨i, Or.inl e'⟩, upD_ne (by omega)⟩
      · have e' : x.1 44 i = some a := e
        have := hf a (Or.inr (Or.inl ⟨i, e'⟩))
        exact Or.inl ⟨⟨i, Or.inr e'⟩, upD_ne (by omega)⟩
    · have e' : x.1 22 0 = some a ∨ x.1 42 0 = some a := e
      have := hf a (Or.inr (Or.inr e'))
      exact Or.inl ⟨e', upD_ne (by omega)⟩
theorem old_room (hf : FR x.1 h0) (hu : f_X11_room g h0 x v u) (hN : RMN g h0 u H1) : (∀ i a, (u.1 24 i = some a ∨ u.1 44 i = some a) → ((∃ j, x.1 24 j = some a ∨ x.1 44 j = some a) ∧ u.2.1 a = x.2.1 a) ∨ SKF g h0 H1 a (u.2.1 a)) ∧ ∀ a, (u.1 22 0 = some a ∨ u.1 42 0 = some a) → ((x.1 22 0 = some a ∨ x.1 42 0 = some a) ∧ u.2.1 a = x.2.1 a) ∨ RMF g h0 H1 a (u.2.1 a) := by
  rcases hu with ⟨_, _, rfl⟩ | ⟨_, _, _, rfl⟩ | ⟨_, _, q, hq, _, rfl⟩
  · exact ⟨fun i a e => Or.inl ⟨⟨i, e⟩, rfl⟩, fun a e => Or.inl ⟨e, rfl⟩⟩
  · exact ⟨fun i a e => Or.inl ⟨⟨i, e⟩, rfl⟩, fun a e => Or.inl ⟨e, rfl⟩⟩
  · refine ⟨fun i a e => ?_, fun a e => ?_⟩
    · have e' : x.1 24 i = some a ∨ x.1 44 i = some a := e
      have := hf a (by rcases e' with e' | e'; exact Or.inl ⟨i, e'⟩; exact Or.inr (Or.inl ⟨i, e'⟩))
      exact Or.inl ⟨⟨i, e'⟩, upD_ne (by omega)⟩
    · by_cases z : h0 ≤ a
      · rcases e with e | e
        · exact Or.inr (hN a z e)
        · have e' : x.1 42 0 = some a := e
          have := hf a (Or.inr (Or.inr (Or.inr e')))
          omega
      · rcases e with e | e
        · have e' : some q = some a := e
          cases e'
          omega
        · have e' : x.1 42 0 = some a := e
          exact Or.inl ⟨Or.inr e', upD_ne (by omega)⟩
theorem old_image (hu : f_X11_image x v u) : (∀ i a, (u.1 24 i = some a ∨ u.1 44 i = some a) → ((∃ j, x.1 24 j = some a ∨ x.1 44 j = some a) ∧ u.2.1 a = x.2.1 a) ∨ SKF g h0 H1 a (u.2.1 a)) ∧ ∀ a, (u.1 22 0 = some a ∨ u.1 42 0 = some a) → ((x.1 22 0 = some a ∨ x.1 42 0 = some a) ∧ u.2.1 a = x.2.1 a) ∨ RMF g h0 H1 a (u.2.1 a) := by
  obtain ⟨_, rfl⟩ := hu
  refine ⟨fun i a e => ?_, fun a e => ?_⟩
  · have e : x.1 24 i = some a ∨ (if i < 6 then x.1 24 i else x.1 44 i) = some a := e
    refine Or.inl ⟨⟨i, ?_⟩, rfl⟩
    rcases e with e | e
    · exact Or.inl e
    · split at e
      · exact Or.inl e
      · exact Or.inr e
  · have e : x.1 22 0 = some a ∨ x.1 22 0 = some a := e
    exact Or.inl ⟨Or.inl (by rcases e with e | e <;> exact e), rfl⟩
theorem old_undo (hu : f_X11_undo x v u) : (∀ i a, (u.1 24 i = some a ∨ u.1 44 i = some a) → ((∃ j, x.1 24 j = some a ∨ x.1 44 j = some a) ∧ u.2.1 a = x.2.1 a) ∨ SKF g h0 H1 a (u.2.1 a)) ∧ ∀ a, (u.1 22 0 = some a ∨ u.1 42 0 = some a) → ((x.1 22 0 = some a ∨ x.1 42 0 = some a) ∧ u.2.1 a = x.2.1 a) ∨ RMF g h0 H1 a (u.2.1 a) := by
  rcases hu with ⟨_, _, rfl⟩ | ⟨_, _, rfl⟩
  · exact ⟨fun i a e => Or.inl ⟨⟨i, e⟩, rfl⟩, fun a e => Or.inl ⟨e, rfl⟩⟩
  refine ⟨fun i a e => ?_, fun a e => ?_⟩
  · have e : (if i < 6 then x.1 44 i else x.1 24 i) = some a ∨ x.1 44 i = some a := e
    refine Or.inl ⟨⟨i, ?_⟩, rfl⟩
    rcases e with e | e
    · split at e
      · exact Or.inr e
      · exact Or.inl e
    · exact Or.inr e
  · have e : x.1 42 0 = some a ∨ x.1 42 0 = some a := e
    exact Or.inl ⟨Or.inr (by rcases e with e | e <;> exact e), rfl⟩
end OLD
/-! what the relation gives for the contracts -/
section RELS
variable {ρ : RR} {dt : Nat → Nat → Int32} {τ σ : St}
theorem RLL.ib (h : RLL ρ dt τ σ) : IB (σ 1) := h.1.2.2.1
theorem RLL.hv (h : RLL ρ dt τ σ) : HV (σ 1) := h.1.2.2.2.1
theorem RLL.rn (h : RLL ρ dt τ σ) : RN 20 τ (σ 1) := h.1.1
theorem RLL.rk (h : RLL ρ dt τ σ) : RK 20 ρ dt (σ 1) := h.1.2.1
theorem RLL.ix (h : RLL ρ dt τ σ) : IX τ := by
  obtain ⟨⟨n, _, b, _⟩, _, ⟨g1, g2, _⟩, _⟩ := h
  obtain ⟨h1, h2, h3, h4, h5, h6, h7, h8, h9, _, _, _, _, h14, _⟩ := b
  refine ⟨?_, ?_, ?_, ?_, ?_, ?_, ?_, ?_, ?_, fun i hi => ?_⟩
  · rw [show τ 21 0 = σ 1 6 from n.n6]; exact h7
  · rw [show τ 23 0 = σ 1 2 from n.n2]; exact h3
  · rw [show τ 25 0 = σ 1 0 from n.n0]; exact h1
  · rw [show τ 28 0 = σ 1 1 from n.n1]; exact h2
  · rw [show τ 29 0 = σ 1 8 from n.n8]; exact h9
  · rw [show τ 32 0 = σ 1 3 from n.n3]; exact h4
  · rw [show τ 34 0 = σ 1 4 from n.n4]; exact h5
  · rw [show τ 37 0 = σ 1 5 from n.n5]; exact h6
  · rw [g1]; exact g2
  · rw [show τ 26 i = σ 1 (51 + i) from n.lo i hi, show τ 27 i = σ 1 (57 + i) from n.hi i hi]; exact h14 i hi
theorem RLL.nn (h : RLL ρ dt τ σ) : NN ρ (τ 25) := fun i hi => by
  rw [show τ 25 0 = σ 1 0 from h.1.1.n0] at hi
  obtain ⟨a, h1, _⟩ := h.1.2.1.1 i hi
  have h1 : ρ 24 i = some a := h1
  rw [h1]
  simp
theorem RLL.om (h : RLL ρ dt τ σ) {u : St} (o : OM σ u) : RLL ρ dt τ u := (h.q1 (Q1.om (v := 0) h.rn h.ib OX.rf o)).2
end RELS
