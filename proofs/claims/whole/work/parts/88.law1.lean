/-! THE LAW'S WORLD: the class's cells and the model's, apart, and beside them what the class made -/
def SKP (A : Nat → Prop) (g : GG) (H : Heap) (a : Nat) (d : Nat → Int32) : Prop := ¬ A a ∧
  ((d 1 = 0 ∧ va_at g.1 vwCl (a, .inr (6, [.int (d 0), .int 0, .int (d 2), .int (d 3)])) H) ∨
   (d 1 = 1 ∧ va_at g.1 vwCl (a, .inr (10, [.int (d 0), .int 1, .int (d 2), .int (d 3)])) H) ∨
   (d 1 = 2 ∧ va_at g.1 vwCl (a, .inr (7, [.int (d 0), .int 2, .int (d 2), .int (d 3)])) H) ∨
   (d 1 = 3 ∧ va_at g.1 vwCl (a, .inr (0, [.int (d 0), .int 3, .int (d 2), .int (d 3)])) H) ∨
   (d 1 = 4 ∧ va_at g.1 vwCl (a, .inr (4, [.int (d 0), .int 4, .int (d 2), .int (d 3)])) H) ∨
   (d 1 = 5 ∧ va_at g.1 vwCl (a, .inr (3, [.int (d 0), .int 5, .int (d 2), .int (d 3)])) H) ∨
   (d 1 = 6 ∧ ∃ b : Nat, ¬ A b ∧ b ≠ a ∧ va_at g.1 vwCl (a, .inr (8, [.int (d 0), .int 6, .int (d 2), .int (d 3), .ref b])) H ∧ va_at g.1 vwCl (b, .inl (g.2.1 0, 4, .inl (fun j => d (4 + j)))) H))
def RMP (A : Nat → Prop) (g : GG) (H : Heap) (a : Nat) (d : Nat → Int32) : Prop := ¬ A a ∧ ∃ (b n : Nat), ¬ A b ∧ b ≠ a ∧ n ≤ 100 ∧ d 2 = nI n ∧ va_at g.1 vwCl (a, .inr (2, [.int (d 0), .int (d 1), .ref b])) H ∧ va_at g.1 vwCl (b, .inl (g.2.1 0, n, .inl (fun j => d (3 + j)))) H
section APART
variable {A : Nat → Prop} {g : GG} {H H1 : Heap} {a h0 : Nat} {d : Nat → Int32}
theorem SKP.skh (h : SKP A g H a d) (hA : ∀ q, AX g q → A q) : SKH g H a d := by
  obtain ⟨h0, h⟩ := h
  refine ⟨fun z => h0 (hA _ z), ?_⟩
  rcases h with h | h | h | h | h | h | ⟨e, b, hb, hba, h, h'⟩
  · exact Or.inl h
  · exact Or.inr (Or.inl h)
  · exact Or.inr (Or.inr (Or.inl h))
  · exact Or.inr (Or.inr (Or.inr (Or.inl h)))
  · exact Or.inr (Or.inr (Or.inr (Or.inr (Or.inl h))))
  · exact Or.inr (Or.inr (Or.inr (Or.inr (Or.inr (Or.inl h)))))
  · exact Or.inr (Or.inr (Or.inr (Or.inr (Or.inr (Or.inr ⟨e, b, fun z => hb (hA _ z), hba, h, h'⟩)))))
theorem SKF.skp (h : SKF g h0 H a d) (hw : ∀ q, A q → q < h0) : SKP A g H a d := by
  obtain ⟨h1, h⟩ := h
  refine ⟨fun z => by have := hw _ z; omega, ?_⟩
  rcases h with h | h | h | h | h | h | ⟨e, b, hb, hba, h, h'⟩
  · exact Or.inl h
  · exact Or.inr (Or.inl h)
  · exact Or.inr (Or.inr (Or.inl h))
  · exact Or.inr (Or.inr (Or.inr (Or.inl h)))
  · exact Or.inr (Or.inr (Or.inr (Or.inr (Or.inl h))))
  · exact Or.inr (Or.inr (Or.inr (Or.inr (Or.inr (Or.inl h)))))
  · exact Or.inr (Or.inr (Or.inr (Or.inr (Or.inr (Or.inr ⟨e, b, fun z => by have := hw _ z; omega, hba, h, h'⟩)))))
theorem SKP.kept (h : SKP A g H a d) (hk : ∀ q, q < H.size → ¬ A q → H1[q]? = H[q]?) : SKP A g H1 a d := by
  obtain ⟨h0, h⟩ := h
  refine ⟨h0, ?_⟩
  rcases h with ⟨e, h⟩ | ⟨e, h⟩ | ⟨e, h⟩ | ⟨e, h⟩ | ⟨e, h⟩ | ⟨e, h⟩ | ⟨e, b, hb, hba, h, h'⟩
  · exact Or.inl ⟨e, h.kept (hk a h.lt h0)⟩
  · exact Or.inr (Or.inl ⟨e, h.kept (hk a h.lt h0)⟩)
  · exact Or.inr (Or.inr (Or.inl ⟨e, h.kept (hk a h.lt h0)⟩))
  · exact Or.inr (Or.inr (Or.inr (Or.inl ⟨e, h.kept (hk a h.lt h0)⟩)))
  · exact Or.inr (Or.inr (Or.inr (Or.inr (Or.inl ⟨e, h.kept (hk a h.lt h0)⟩))))
  · exact Or.inr (Or.inr (Or.inr (Or.inr (Or.inr (Or.inl ⟨e, h.kept (hk a h.lt h0)⟩)))))
  · exact Or.inr (Or.inr (Or.inr (Or.inr (Or.inr (Or.inr ⟨e, b, hb, hba, h.kept (hk a h.lt h0), h'.kept (hk b h'.lt hb)⟩)))))
theorem RMP.rmh (h : RMP A g H a d) (hA : ∀ q, AX g q → A q) : RMH g H a d := by
  obtain ⟨h0, b, n, hb, hba, hn, e, h, h'⟩ := h
  exact ⟨fun z => h0 (hA _ z), b, n, fun z => hb (hA _ z), hba, hn, e, h, h'⟩
theorem RMF.rmp (h : RMF g h0 H a d) (hw : ∀ q, A q → q < h0) : RMP A g H a d := by
  obtain ⟨h1, b, n, hb, hba, hn, e, h, h'⟩ := h
  exact ⟨fun z => by have := hw _ z; omega, b, n, fun z => by have := hw _ z; omega, hba, hn, e, h, h'⟩
theorem RMP.kept (h : RMP A g H a d) (hk : ∀ q, q < H.size → ¬ A q → H1[q]? = H[q]?) : RMP A g H1 a d := by
  obtain ⟨h0, b, n, hb, hba, hn, e, h, h'⟩ := h
  exact ⟨h0, b, n, hb, hba, hn, e, h.kept (hk a h.lt h0), h'.kept (hk b h'.lt hb)⟩
/-- what the class made, all of it apart from A -/
def XL (A : Nat → Prop) (g : GG) (x : X3) (H : Heap) : Prop := (∀ (i a : Nat), x.1 24 i = some a ∨ x.1 44 i = some a → SKP A g H a (x.2.1 a)) ∧ ∀ a : Nat, x.1 22 0 = some a ∨ x.1 42 0 = some a → RMP A g H a (x.2.1 a)
theorem XL.xh {x : X3} (h : XL A g x H) (hA : ∀ q, AX g q → A q) : XH g x.1 x.2.1 H := ⟨fun i a e => (h.1 i a e).skh hA, fun a e => (h.2 a e).rmh hA⟩
theorem XL.kept {x : X3} {u : St} (h : XL A g x H) (hk : ∀ q, q < H.size → ¬ A q → H1[q]? = H[q]?) : XL A g (x.1, x.2.1, u) H1 := ⟨fun i a e => (h.1 i a e).kept hk, fun a e => (h.2 a e).kept hk⟩
theorem XL.step {x u : X3} (h : XL A g x H) (hw : ∀ q, A q → q < H.size) (hk : ∀ q, q < H.size → ¬ A q → H1[q]? = H[q]?)
    (hs : ∀ i a, (u.1 24 i = some a ∨ u.1 44 i = some a) → ((∃ j, x.1 24 j = some a ∨ x.1 44 j = some a) ∧ u.2.1 a = x.2.1 a) ∨ SKF g H.size H1 a (u.2.1 a))
    (hr : ∀ a, (u.1 22 0 = some a ∨ u.1 42 0 = some a) → ((x.1 22 0 = some a ∨ x.1 42 0 = some a) ∧ u.2.1 a = x.2.1 a) ∨ RMF g H.size H1 a (u.2.1 a)) : XL A g u H1 := by
  refine ⟨fun i a e => ?_, fun a e => ?_⟩
  · rcases hs i a e with ⟨⟨j, h1⟩, h2⟩ | h1
    · rw [h2]; exact (h.1 j a h1).kept hk
    · exact h1.skp hw
  · rcases hr a e with ⟨h1, h2⟩ | h1
    · rw [h2]; exact (h.2 a h1).kept hk
    · exact h1.rmp hw
theorem XL.fr {x : X3} (h : XL A g x H) (hA : ∀ q, AX g q → A q) : FR x.1 H.size := fun a e => by
  have hx := h.xh hA
  rcases e with ⟨i, e⟩ | ⟨i, e⟩ | e | e
  · exact (hx.1 i a (Or.inl e)).lt
  · exact (hx.1 i a (Or.inr e)).lt
  · exact (hx.2 a (Or.inl e)).lt
  · exact (hx.2 a (Or.inr e)).lt
end APART
theorem va_Dl {A : Nat → Prop} {w1 w2 : va_W} (h : va_D A (w1 ++ w2)) : va_D A w1 := ⟨fun i j p q hp hq e => h.1 i j p q (by rw [List.getElem?_append_left (List.getElem?_eq_some_iff.mp hp).1]; exact hp) (by rw [List.getElem?_append_left (List.getElem?_eq_some_iff.mp hq).1]; exact hq) e, fun k q hq => h.2 k q (by rw [List.getElem?_append_left (List.getElem?_eq_some_iff.mp hq).1]; exact hq)⟩
theorem va_Dr {A : Nat → Prop} {w1 w2 : va_W} (h : va_D A (w1 ++ w2)) : va_D A w2 := by
  have key : ∀ (k : Nat) (q : Nat × va_E), w2[k]? = some q → (w1 ++ w2)[w1.length + k]? = some q := fun k q hq => by
    rw [List.getElem?_append_right (by omega), Nat.add_sub_cancel_left]; exact hq
  refine ⟨fun i j p q hp hq e => ?_, fun k q hq => h.2 _ q (key k q hq)⟩
  have := h.1 _ _ p q (key i p hp) (key j q hq) e
  omega
theorem va_Dx {A : Nat → Prop} {w1 w2 : va_W} (h : va_D A (w1 ++ w2)) {q : Nat} (h1 : q ∈ adrs w1) (h2 : q ∈ adrs w2) : False := by
  obtain ⟨i, hi⟩ := List.getElem?_of_mem h1
  obtain ⟨j, hj⟩ := List.getElem?_of_mem h2
  simp only [adrs, List.getElem?_map, Option.map_eq_some_iff] at hi hj
  obtain ⟨p, hp, rfl⟩ := hi
  obtain ⟨p', hp', e⟩ := hj
  have l1 := (List.getElem?_eq_some_iff.mp hp).1
  have := h.1 i (w1.length + j) p p' (by rw [List.getElem?_append_left l1]; exact hp) (by rw [List.getElem?_append_right (by omega), Nat.add_sub_cancel_left]; exact hp') e.symm
  omega
theorem va_Plt {D : va_G} {w : va_W} {H : Heap} (h : va_P D vwCl w H) {q : Nat} (hq : q ∈ adrs w) : q < H.size := by
  obtain ⟨k, hk⟩ := List.getElem?_of_mem hq
  simp only [adrs, List.getElem?_map, Option.map_eq_some_iff] at hk
  obtain ⟨pp, hp, e⟩ := hk
  rw [← e]
  exact (h k pp hp).lt
theorem va_Pk {D : va_G} {w : va_W} {H H1 : Heap} {A : Nat → Prop} (h : va_P D vwCl w H) (hk : ∀ q, q < H.size → ¬ A q → H1[q]? = H[q]?) (hA : ∀ q, q ∈ adrs w → ¬ A q) : va_P D vwCl w H1 := h.kept (fun k q hq => hk q.1 (h k q hq).lt (hA _ (List.mem_of_getElem? (adrs_at hq))))
/-- all that the class and the model write in -/
def AL (g : GG) (f : Nat → Nat) : Nat → Prop := fun q => AX g q ∨ AM (gA g f) q
/-- what the heap is between two calls of the law -/
def LH (g : GG) (f : Nat → Nat) (s : State) (x : X3) (σ : St) (H : Heap) (locs : List Loc) : Prop :=
  va_P g.1 vwCl (xW g x.1 x.2.2) H ∧ va_P g.1 vwCl (mW (gA g f) σ) H ∧ va_D (fun q => s.heap.size ≤ q) (xW g x.1 x.2.2 ++ mW (gA g f) σ) ∧ va_S (fun q => s.heap.size ≤ q) s.heap H locs ∧ XL (AL g f) g x H
/-- what the start gives -/
def LE (g : GG) (aK aV : Nat → Nat) (s : State) : Prop := KK g s ∧ ZB aK aV (fun q => s.heap.size ≤ q) s ∧ (vk_R RX1 103 "skvlnw" (aK 0) s ∧ vk_R RX1 109 "<=>" (aK 1) s ∧ vk_R RX1 76 "board " (aK 2) s ∧ vk_R RX1 78 "step " (aK 3) s ∧ vk_R RX1 80 "off " (aK 4) s ∧ vk_R RX1 82 "wear " (aK 5) s) ∧ (vk_R RX12 93 "skvlnw" (aK 0) s ∧ vk_R RX12 99 "<=>" (aK 1) s ∧ vk_R RX12 111 "board " (aK 2) s ∧ vk_R RX12 117 "step " (aK 3) s ∧ vk_R RX12 119 "off " (aK 4) s ∧ vk_R RX12 124 "wear " (aK 5) s) ∧ SA0 s ∧ NCS s
theorem NCS.moved {s U : State} (ha : s.vm.Alike U.vm) (h : NCS s) : NCS U := ⟨h.1.moved ha, h.2.1.moved ha, h.2.2.1.moved ha, h.2.2.2.1.moved ha, h.2.2.2.2.1.moved ha, h.2.2.2.2.2.moved ha⟩
section LAWW
variable {g : GG} {f : Nat → Nat} {aK aV : Nat → Nat} {s : State} {x : X3} {ρ : RR} {dt : Nat → Nat → Int32} {τ σ : St} {H : Heap} {locs : List Loc} {As : List Value}
theorem LH.ax (h : LH g f s x σ H locs) {q : Nat} (hq : AX g q) : q < H.size ∧ s.heap.size ≤ q ∧ ¬ AM (gA g f) q := by
  have hq' : q ∈ adrs (xW g x.1 x.2.2) := hq
  refine ⟨va_Plt h.1 hq', ?_, fun z => va_Dx h.2.2.1 hq' (show q ∈ adrs (mW (gA g f) σ) from z)⟩
  obtain ⟨k, hk⟩ := List.getElem?_of_mem hq'
  simp only [adrs, List.getElem?_map, Option.map_eq_some_iff] at hk
  obtain ⟨pp, hp, e⟩ := hk
  rw [← e]
  exact (va_Dl h.2.2.1).2 k pp hp
theorem LH.am (h : LH g f s x σ H locs) {q : Nat} (hq : AM (gA g f) q) : q < H.size ∧ s.heap.size ≤ q ∧ ¬ AX g q := by
  have hq' : q ∈ adrs (mW (gA g f) σ) := hq
  refine ⟨va_Plt h.2.1 hq', ?_, fun z => va_Dx h.2.2.1 (show q ∈ adrs (xW g x.1 x.2.2) from z) hq'⟩
  obtain ⟨k, hk⟩ := List.getElem?_of_mem hq'
  simp only [adrs, List.getElem?_map, Option.map_eq_some_iff] at hk
  obtain ⟨pp, hp, e⟩ := hk
  rw [← e]
  exact (va_Dr h.2.2.1).2 k pp hp
theorem LH.al (h : LH g f s x σ H locs) {q : Nat} (hq : AL g f q) : q < H.size := by
  rcases hq with hq | hq
  · exact (h.ax hq).1
  · exact (h.am hq).1
theorem LH.xh (h : LH g f s x σ H locs) : XH g x.1 x.2.1 H := h.2.2.2.2.xh (fun _ z => Or.inl z)
theorem LH.fr (h : LH g f s x σ H locs) : FR x.1 H.size := h.2.2.2.2.fr (fun _ z => Or.inl z)
theorem LH.adr (h : LH g f s x σ H locs) (x' : X3) (u : St) : va_D (fun q => s.heap.size ≤ q) (xW g x'.1 x'.2.2 ++ mW (gA g f) u) := va_D_adrs (show adrs (xW g x'.1 x'.2.2 ++ mW (gA g f) u) = adrs (xW g x.1 x.2.2 ++ mW (gA g f) σ) from rfl) h.2.2.1
/-- behind a call of the class that makes nothing -/
theorem LH.xmi (h : LH g f s (ρ, dt, τ) σ H locs) {u : St} {H1 : Heap} {locs1 : List Loc} (hp : va_P g.1 vwCl (xW g ρ u) H1) (hk : ∀ q, q < H.size → ¬ AX g q → H1[q]? = H[q]?) (hS : va_S (fun q => s.heap.size ≤ q) s.heap H1 locs1) : LH g f s (ρ, dt, u) σ H1 locs1 :=
  ⟨hp, va_Pk h.2.1 hk (fun q hq => (h.am hq).2.2), h.adr (ρ, dt, u) σ, hS, h.2.2.2.2.kept (x := (ρ, dt, τ)) (u := u) (fun q h1 h2 => hk q h1 (fun z => h2 (Or.inl z)))⟩
/-- behind a call of the model -/
theorem LH.mmi (h : LH g f s x σ H locs) {u : St} {H1 : Heap} {locs1 : List Loc} (hp : va_P g.1 vwCl (mW (gA g f) u) H1) (hk : ∀ q, q < H.size → ¬ AM (gA g f) q → H1[q]? = H[q]?) (hS : va_S (fun q => s.heap.size ≤ q) s.heap H1 locs1) : LH g f s x u H1 locs1 :=
  ⟨va_Pk h.1 hk (fun q hq => (h.ax hq).2.2), hp, h.adr x u, hS, h.2.2.2.2.kept (u := x.2.2) (fun q h1 h2 => hk q h1 (fun z => h2 (Or.inr z)))⟩
/-- behind a call of the class that makes things -/
theorem LH.xxi (h : LH g f s x σ H locs) {u : X3} {H1 : Heap} {locs1 : List Loc} (hp : va_P g.1 vwCl (xW g u.1 u.2.2) H1) (hk : ∀ q, q < H.size → ¬ AX g q → H1[q]? = H[q]?) (hS : va_S (fun q => s.heap.size ≤ q) s.heap H1 locs1)
    (hs : ∀ i a, (u.1 24 i = some a ∨ u.1 44 i = some a) → ((∃ j, x.1 24 j = some a ∨ x.1 44 j = some a) ∧ u.2.1 a = x.2.1 a) ∨ SKF g H.size H1 a (u.2.1 a))
    (hr : ∀ a, (u.1 22 0 = some a ∨ u.1 42 0 = some a) → ((x.1 22 0 = some a ∨ x.1 42 0 = some a) ∧ u.2.1 a = x.2.1 a) ∨ RMF g H.size H1 a (u.2.1 a)) : LH g f s u σ H1 locs1 :=
  ⟨hp, va_Pk h.2.1 hk (fun q hq => (h.am hq).2.2), h.adr u σ, hS, h.2.2.2.2.step (fun _ z => h.al z) (fun q h1 h2 => hk q h1 (fun z => h2 (Or.inl z))) hs hr⟩
theorem LH.yb (E : LE g aK aV s) (h : LH g f s x σ H locs) {U : State} (hU : U.heap = H) (hW : s.WarmedH U.vm) : YB g x.1 x.2.1 aK aV U := by
  obtain ⟨-, hZ, ⟨r0, r1, r2, r3, r4, r5⟩, -, -, -⟩ := E
  exact ⟨by rw [hU]; exact h.xh, (hZ.to h.2.2.2.1 hU hW).narrow (fun q z => (h.ax z).2.1), r0.warm hW, r1.warm hW, r2.warm hW, r3.warm hW, r4.warm hW, r5.warm hW⟩
theorem LH.mb (E : LE g aK aV s) (h : LH g f s x σ H locs) {U : State} (hU : U.heap = H) (hW : s.WarmedH U.vm) : MB aK aV (AM (gA g f)) U := by
  obtain ⟨-, hZ, -, ⟨r0, r1, r2, r3, r4, r5⟩, -, -⟩ := E
  exact ⟨(hZ.to h.2.2.2.1 hU hW).narrow (fun q z => (h.am z).2.1), r0.warm hW, r1.warm hW, r2.warm hW, r3.warm hW, r4.warm hW, r5.warm hW⟩
theorem LH.sa (E : LE g aK aV s) (h : LH g f s x σ H locs) {U : State} (hU : U.heap = H) (hW : s.WarmedH U.vm) : SA0 U :=
  E.2.2.2.2.1.warm hW.alike (fun a ha => by rw [hU]; exact h.2.2.2.1.2.1 a ha (by omega))
theorem LH.rx (E : LE g aK aV s) (h : LH g f s x σ H locs) : ∃ cell : Cell, H[g.2.2 100]? = some cell ∧ cell.vm.isStatics = false ∧ s.vm.findClass RX11 = some cell.cls := va_recv E.1.1 h.1 (ci := 11) (q0 := 0) rfl rfl
theorem LH.rm (E : LE g aK aV s) (h : LH g f s x σ H locs) : ∃ cell : Cell, H[f 100]? = some cell ∧ cell.vm.isStatics = false ∧ s.vm.findClass RX12 = some cell.cls := va_recv E.1.1 h.2.1 (ci := 12) (q0 := 0) rfl rfl
theorem LH.px (E : LE g aK aV s) (h : LH g f s (ρ, dt, τ) σ H locs) : PreV s H RX11 (g.2.2 100) (va_Pc (.ref (g.2.2 100) :: As) (GB g (xW g ρ) (XB g ρ dt) τ)) As :=
  ⟨(GB.sv XB.sv).blind, h.rx E, fun U hU hW => ⟨rfl, E.1.warm hW, by rw [hU]; exact h.1, (va_Dl h.2.2.1).weaken (fun _ _ _ _ => trivial), by show XH g ρ dt U.heap; rw [hU]; exact h.xh⟩⟩
theorem LH.pxa (E : LE g aK aV s) (h : LH g f s (ρ, dt, τ) σ H locs) : PreV s H RX11 (g.2.2 100) (va_Pc (.ref (g.2.2 100) :: As) (GB g (xW g ρ) (XA g ρ dt) τ)) As :=
  ⟨(GB.sv XA.sv).blind, h.rx E, fun U hU hW => ⟨rfl, E.1.warm hW, by rw [hU]; exact h.1, (va_Dl h.2.2.1).weaken (fun _ _ _ _ => trivial), by rw [hU]; exact h.xh, h.sa E hU hW⟩⟩
theorem LH.pm (E : LE g aK aV s) (h : LH g f s x σ H locs) : PreV s H RX12 (f 100) (va_Pc (.ref (f 100) :: As) (GB (gA g f) (mW (gA g f)) (fun _ => True) σ)) As :=
  ⟨(GB.sv SV.tt).blind, h.rm E, fun U hU hW => ⟨rfl, E.1.warm hW, by rw [hU]; exact h.2.1, (va_Dr h.2.2.1).weaken (fun _ _ _ _ => trivial), trivial⟩⟩
theorem LH.pmb (E : LE g aK aV s) (h : LH g f s x σ H locs) : PreV s H RX12 (f 100) (va_Pc (.ref (f 100) :: As) (GB (gA g f) (mW (gA g f)) (MB aK aV (AM (gA g f))) σ)) As :=
  ⟨(GB.sv MB.sv).blind, h.rm E, fun U hU hW => ⟨rfl, E.1.warm hW, by rw [hU]; exact h.2.1, (va_Dr h.2.2.1).weaken (fun _ _ _ _ => trivial), h.mb E hU hW⟩⟩
theorem LH.xs (E : LE g aK aV s) (h : LH g f s x σ H locs) {U : State} (hU : U.heap = H) (hW : s.WarmedH U.vm) : XS g aK aV x U ∧ U.heap.size = H.size :=
  ⟨⟨E.1.warm hW, by rw [hU]; exact h.1, (va_Dl h.2.2.1).weaken (fun _ _ _ _ => trivial), h.yb E hU hW⟩, by rw [hU]⟩
theorem LH.pxx (E : LE g aK aV s) (h : LH g f s x σ H locs) : PreV s H RX11 (g.2.2 100) (va_Pc (.ref (g.2.2 100) :: As) (fun U => XS g aK aV x U ∧ U.heap.size = H.size)) As :=
  ⟨(show SV (fun U => XS g aK aV x U ∧ U.heap.size = H.size) from fun U U' hh hv q => ⟨XS.sv U U' hh hv q.1, by rw [← hh]; exact q.2⟩).blind, h.rx E, fun U hU hW => ⟨rfl, h.xs E hU hW⟩⟩
theorem LH.pxr (E : LE g aK aV s) (h : LH g f s x σ H locs) : PreV s H RX11 (g.2.2 100) (va_Pc (.ref (g.2.2 100) :: As) (fun U => (XS g aK aV x U ∧ U.heap.size = H.size) ∧ NCS U)) As :=
  ⟨(show SV (fun U => (XS g aK aV x U ∧ U.heap.size = H.size) ∧ NCS U) from fun U U' hh hv q => ⟨⟨XS.sv U U' hh hv q.1.1, by rw [← hh]; exact q.1.2⟩, q.2.same hv⟩).blind, h.rx E, fun U hU hW => ⟨rfl, h.xs E hU hW, E.2.2.2.2.2.moved hW.alike⟩⟩
end LAWW
