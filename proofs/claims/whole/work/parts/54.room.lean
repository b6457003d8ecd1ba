
/-! THE CLASS'S CALLS THAT MAKE THINGS -/
def upR (ρ : RR) (k : Nat) (f : Nat → Option Nat) : RR := fun k' => if k' = k then f else ρ k'
def upD (dt : Nat → Nat → Int32) (a : Nat) (d : Nat → Int32) : Nat → Nat → Int32 := fun a' => if a' = a then d else dt a'
theorem xR_62 (g : GG) (ρ : RR) (σ : St) (a : Nat) : (xW g ρ σ).set 3 (g.2.2 103, .inr (1, (xF3 g ρ σ).set 2 (.ref a))) = xW g (upR ρ 62 (fun _ => some a)) σ := rfl
theorem xR_22 (g : GG) (ρ : RR) (σ : St) (a : Nat) : (xW g ρ σ).set 1 (g.2.2 101, .inr (5, (xF1 g ρ σ).set 2 (.ref a))) = xW g (upR ρ 22 (fun _ => some a)) σ := rfl
theorem xR_24 (g : GG) (ρ : RR) (σ : St) (f : Nat → Option Nat) : (xW g ρ σ).set 28 (g.2.2 24, .inl (g.2.1 2, 6, .inr (.inr (.inr (.inr f))))) = xW g (upR ρ 24 f) σ := rfl
abbrev X3 : Type := RR × (Nat → Nat → Int32) × St
def XS (g : GG) (aK aV : Nat → Nat) (x : X3) : State → Prop := fun U => KK g U ∧ va_P g.1 vwCl (xW g x.1 x.2.2) U.heap ∧ va_D (fun _ => True) (xW g x.1 x.2.2) ∧ YB g x.1 x.2.1 aK aV U
theorem XS.sv {g : GG} {aK aV : Nat → Nat} {x : X3} : SV (XS g aK aV x) := fun U U' hh hv h => ⟨h.1.same hv, by rw [← hh]; exact h.2.1, h.2.2.1, YB.sv U U' hh hv h.2.2.2⟩
/-- a call of the class, from x on: what it answers and leaves is in post -/
def XI (l : Launch) (y : MethodName) (ws : List Cond) (rm : Room) (av : List Value) (g : GG) (aK aV : Nat → Nat) (x : X3) (h0 : Nat) (post : Int32 → X3 → Prop) : Prop := Met l y ws rm (va_Pc av (fun U => XS g aK aV x U ∧ U.heap.size = h0)) (va_Qi post (fun u t => va_P g.1 vwCl (xW g u.1 u.2.2) t.heap ∧ XH g u.1 u.2.1 t.heap) (AX g)) rm.cells rm.slots (fun z => AX g z ∨ h0 ≤ z)
theorem va_Dapp {A : Nat → Prop} {w1 w2 : va_W} (h1 : va_D A w1) (h2 : va_D A w2) (hd : ∀ (i j : Nat) (p q : Nat × va_E), w1[i]? = some p → w2[j]? = some q → p.1 ≠ q.1) : va_D A (w1 ++ w2) := by
  have key : ∀ (k : Nat) (p : Nat × va_E), (w1 ++ w2)[k]? = some p → (k < w1.length ∧ w1[k]? = some p) ∨ (w1.length ≤ k ∧ w2[k - w1.length]? = some p) := fun k p h => by
    by_cases hk : k < w1.length
    · exact Or.inl ⟨hk, by rw [List.getElem?_append_left hk] at h; exact h⟩
    · exact Or.inr ⟨by omega, by rw [List.getElem?_append_right (by omega)] at h; exact h⟩
  refine ⟨fun i j p q hp hq e => ?_, fun k q hq => ?_⟩
  · rcases key i p hp with ⟨a1, a2⟩ | ⟨a1, a2⟩ <;> rcases key j q hq with ⟨b1, b2⟩ | ⟨b1, b2⟩
    · exact h1.1 i j p q a2 b2 e
    · exact absurd e (hd _ _ p q a2 b2)
    · exact absurd e.symm (hd _ _ q p b2 a2)
    · have := h2.1 _ _ p q a2 b2 e
      omega
  · rcases key k q hq with ⟨a1, a2⟩ | ⟨a1, a2⟩
    · exact h1.2 _ q a2
    · exact h2.2 _ q a2
theorem va_Pr {D : va_G} {cl : List vw_C} {w1 w2 : va_W} {H : Heap} (h : va_P D cl (w1 ++ w2) H) : va_P D cl w2 H := fun k q hk => h (w1.length + k) q (by
  rw [List.getElem?_append_right (by omega), show w1.length + k - w1.length = k by omega]
  exact hk)
section TROWS
variable {p : Program} {l : Launch} {e : Env} {R : Room} {s : State} {m : MethodId} {args : Array Value} {below : List Frame} {meth : Method} {c : Code} {H : Heap} {locs : List Loc} {cells slots : Nat} {Q : State → Prop}
variable {cc : ByteArray} {own C : String} {nL pc : Nat} {ret0 : Option FieldType} {ls : Array Slot} {rest st0 : List Value} {g : GG} {ρ : RR} {dt : Nat → Nat → Int32} {σ : St} {idx N : Nat} {T : u_T} {A : Nat → Prop} {H0 : Heap} {a : Nat} {aK aV : Nat → Nat} {TL : va_W}
/-- a field of a nest mate's thing is put; what stands behind the world stays -/
theorem x_putT {v : Value} {fs : List Value} {ty : FieldType} {ρ' : RR} {u : St} {host : String} (ci q0 : Nat) (C0 : BC p s m args meth c cc own nL ret0) (hu : ∀ w ∈ u_ws C T N, w ∈ TB) (hd : ∀ j, (T j).1 = C) (ty0 : Nat → FieldType) (hty : ∀ k, k < N → parseFieldDescriptor (T k).2.2.1 = some (ty0 k)) (hnm : ∀ a, a < N → ∀ b, b < N → a ≠ b → (T a).2.1 ≠ (T b).2.1) (hK : KK g s) (hP : va_P g.1 vwCl (xW g ρ σ ++ TL) H) (hD : va_D A (xW g ρ σ ++ TL)) (hS : va_S A H0 H locs) (he : (xW g ρ σ)[q0]? = some (a, .inr (ci, fs))) (hc : vwCl[ci]? = some (C, T, N)) (k : Nat) (hk : k < N) (hfin : (T k).2.2.2 = false) (hde : parseFieldDescriptor (T k).2.2.1 = some ty) (hn : narrow ty v = v) (hfit : fits ty v = true) (hl : k < fs.length) (hset : (xW g ρ σ).set q0 (a, .inr (ci, fs.set k v)) = xW g ρ' u) (hw : Cond.fieldLinkNest own idx C (T k).2.1 (T k).2.2.1 host ∈ NB) (hdg : decode cc pc = .ok (.putfield idx, 3))
    (kk : ∀ (H1 : Heap) (locs1 : List Loc), va_P g.1 vwCl (xW g ρ' u ++ TL) H1 → va_D A (xW g ρ' u ++ TL) → va_S A H0 H1 locs1 → W p l e R s m args below meth c H1 locs1 cells slots Q (F0 m (pc + 3) ls rest)) : W p l e R s m args below meth c H locs cells slots Q (F0 m pc ls (v :: .ref a :: rest)) := by
  have hq : q0 < (xW g ρ σ).length := (List.getElem?_eq_some_iff.mp he).1
  have hset2 : (xW g ρ σ ++ TL).set q0 (a, .inr (ci, fs.set k v)) = xW g ρ' u ++ TL := by rw [List.set_append_left _ _ hq, hset]
  exact va_putN (D := g.1) (ci := ci) (v := v) (ty := ty) (C := C) (T := T) (N := N) C0.1 C0.2.1 C0.2.2.2.2.2.1 hu ty0 hty hnm C0.2.2.2.2.1 hK.1 hP hD hS q0 (by rw [List.getElem?_append_left hq]; exact he) hc k hk (va_Nw.use rfl (hK.2 _ hw)) (fun x h => by rw [← hd k]; exact h) hfin hde hn hfit hl hdg (fun H1 locs1 hP hD hS => kk H1 locs1 (by rw [hset2] at hP; exact hP) (by rw [hset2] at hD; exact hD) hS)
theorem va_callo {h0 : Nat} {A0 A1 : Nat → Prop} {F : Int32 × St} {a1 : Array Value} (hr : va_Run p l e R s m args below meth c H locs cells slots 2 103 (F0 m pc ls st0) rest (QRo g ρ h0 A1 F a1) (fun z => A1 z ∨ h0 ≤ z)) (hS : va_S A0 H0 H locs) (hA : ∀ q, A1 q → A0 q) (hA0 : ∀ q, h0 ≤ q → A0 q)
    (kk : ∀ (r : Option Nat) (H1 : Heap) (locs1 : List Loc), va_P g.1 vwCl (xW g ρ F.2) H1 → (F.1 = 0 → r = none) → (¬ F.1 = 0 → ∃ a, r = some a ∧ RMF g h0 H1 a (dR F.2)) → va_S A0 H0 H1 locs1 → W p l e R s m args below meth c H1 locs1 (cells + 2) (slots + 103) Q (F0 m (pc + 3) ls (va_rf r :: rest))) : W p l e R s m args below meth c H locs cells slots Q (F0 m pc ls st0) := by
  intro T hT X
  obtain ⟨v, st₀, t, T', L, h1, X', hL, e1, e2, ⟨⟨r, hv, hp, hb1, hb2⟩, hz, hk⟩, st⟩ := hr T hT X
  cases hv
  rw [h1] at hz hk
  obtain ⟨t2, a1, b1⟩ := kk r T'.heap (locs ++ L) (by rw [e1]; exact hp) hb1 (by rw [e1]; exact hb2)
    ⟨Nat.le_trans hS.1 (by rw [e1]; exact hz), fun q h1 h2 => by rw [e1, hk q (Nat.lt_of_lt_of_le h1 hS.1) (fun z => h2 (hA q z))]; exact hS.2.1 q h1 h2, fun q hq => by
      rcases List.mem_append.mp hq with h | h
      · exact hS.2.2 q h
      · rcases hL q h with h | h
        · exact hA _ h
        · exact hA0 _ h⟩ T' rfl X'
  exact ⟨t2, st t2 a1, b1⟩
end TROWS
theorem AX_lt {g : GG} {ρ : RR} {σ : St} {H : Heap} (h : va_P g.1 vwCl (xW g ρ σ) H) {q : Nat} (hq : AX g q) : q < H.size := by
  obtain ⟨k, hk⟩ := List.getElem?_of_mem (show q ∈ adrs (xW g ρ σ) from hq)
  simp only [adrs, List.getElem?_map, Option.map_eq_some_iff] at hk
  obtain ⟨pp, hp, e⟩ := hk
  rw [← e]
  exact (h k pp hp).lt
theorem AX_D {g : GG} {ρ : RR} {σ : St} (h : va_D (fun _ => True) (xW g ρ σ)) {A : Nat → Prop} (hA : ∀ q, AX g q → A q) : va_D A (xW g ρ σ) := ⟨h.1, fun k q hk => hA _ (show AX g q.1 from List.mem_of_getElem? (show (adrs (xW g ρ σ))[k]? = some q.1 from adrs_at hk))⟩
theorem AX_app {g : GG} {ρ : RR} {σ : St} {H : Heap} (h0 : Nat) (hP : va_P g.1 vwCl (xW g ρ σ) H) (hh : H.size = h0) {ρ' : RR} {u : St} {TL : va_W} (hD : va_D (fun z => AX g z ∨ h0 ≤ z) (xW g ρ' u)) (hT : va_D (fun z => h0 ≤ z) TL) : va_D (fun z => AX g z ∨ h0 ≤ z) (xW g ρ' u ++ TL) :=
  va_Dapp hD (hT.weaken (fun _ _ _ h => Or.inr h)) (fun i j p q hp hq e => by
    have h1 : AX g p.1 := List.mem_of_getElem? (show (adrs (xW g ρ' u))[i]? = some p.1 from adrs_at hp)
    have := AX_lt hP h1
    have := hT.2 j q hq
    omega)
/-- the cells of a room that is new -/
theorem RMF.tl {g : GG} {h0 : Nat} {H : Heap} {a : Nat} {d : Nat → Int32} (h : RMF g h0 H a d) : ∃ TL : va_W, va_P g.1 vwCl TL H ∧ va_D (fun z => h0 ≤ z) TL ∧ ∀ H' : Heap, va_P g.1 vwCl TL H' → RMF g h0 H' a d := by
  obtain ⟨h1, b, n, hb, hba, hn, e, h, h'⟩ := h
  refine ⟨[(a, .inr (2, [.int (d 0), .int (d 1), .ref b])), (b, .inl (g.2.1 0, n, .inl (fun j => d (3 + j))))], (va_P1 h).app (va_P1 h'), va_D2 h1 hb (fun z => hba z.symm), fun H' hP => ⟨h1, b, n, hb, hba, hn, e, hP 0 _ rfl, hP 1 _ rfl⟩⟩


def rd0 (σ : St) (n : Int32) : St := up2 (up2 (up2 (up2 (up2 σ 63 0 n) 64 0 0) 61 0 0) 66 0 40) 67 0 1
def f_X1_read (σ : St) (n : Int32) : Int32 × St := g_X1_read_33 11 (rd0 σ n) 0
theorem k_X1_read (l : Launch) (g : GG) (ρ : RR) (dt : Nat → Nat → Int32) (aK aV : Nat → Nat) (σ : St) (a2 : Int32) (h0 : Nat) (hn : 0 ≤ a2.toInt ∧ a2.toInt ≤ 100) (h65 : 0 ≤ (σ 65 0).toInt ∧ (σ 65 0).toInt ≤ 99) : Met l yX1_read (wsF yX1_read cX1_read 4 (some (.object "ThreeMeasures$Room"))) { frames := 38, cells := 2, slots := 103, locals := 855 } (va_Pc [.ref (g.2.2 103), .ref (g.2.2 20), .int a2] (fun U => GB g (xW g ρ) (YB g ρ dt aK aV) σ U ∧ U.heap.size = h0)) (QRo g (upR ρ 62 (fun _ => some (g.2.2 20))) h0 (AX g) (f_X1_read σ a2)) 2 103 (fun z => AX g z ∨ h0 ≤ z) := by
  refine start_X (by decide) (Nat.le_of_ble_eq_true rfl) ?_
  intro p e s m args below meth c C0 hin hB0 ls hl
  obtain ⟨hx, hb, hr, hml, hown, hts, hlocks⟩ := id C0
  obtain ⟨⟨hK, hP, hDD, hB⟩, hsz⟩ := hB0
  have hl : lv_has ls 4 [(0, .ref (g.2.2 103)), (1, .ref (g.2.2 20)), (2, .int a2)] := hl
  have hS : va_S (AX g) s.heap s.heap [] := va_S.rf
  have hD : va_D (AX g) (xW g ρ σ) := AX_D hDD (fun _ h => h)
  refine lv_aload_n hx hb dX1_read_0 rfl (lv_at hl 0 rfl) ?_
  refine lv_aload_n hx hb dX1_read_1 rfl (lv_at hl 1 rfl) ?_
  refine va_put (D := g.1) (ci := 1) (v := .ref (g.2.2 20)) (ty := .array .int) (C := RX1) (T := TX1) (N := 8) (fs := xF3 g ρ σ) hx hb hts uw_1 tyX1 tyX1_ok nmX1 hown hK.1 hP hD hS 3 rfl rfl 2 (by decide) (hts _ w_190) (fun x h => by rw [← dc_1 2]; exact h) rfl rfl rfl rfl (Nat.le_of_ble_eq_true rfl) dX1_read_2 (fun H locs hP hD hS => ?_)
  rw [xR_62] at hP hD
  have hTx : (upR ρ 62 (fun _ => some (g.2.2 20))) 62 0 = some (g.2.2 20) := rfl
  have hB : YB g (upR ρ 62 (fun _ => some (g.2.2 20))) dt aK aV s := ⟨⟨fun i a e => hB.1.1 i a e, fun a e => hB.1.2 a e⟩, hB.2⟩
  generalize (upR ρ 62 (fun _ => some (g.2.2 20))) = ρ1 at hP hD hTx hB ⊢
  have hC : WC g (xW g ρ1) (AX g) s.heap σ H locs := ⟨hP, hD, hS⟩
  refine lv_aload_n hx hb dX1_read_5 rfl (lv_at hl 0 rfl) ?_
  refine lv_iload_n hx hb dX1_read_6 rfl (lv_at hl 2 rfl) ?_
  refine x_put (σ := σ) (ty := .int) (fs := xF3 g ρ1 σ) 1 3 C0 uw_1 dc_1 tyX1 tyX1_ok nmX1 hK hC rfl rfl 3 (by decide) rfl rfl rfl rfl (Nat.le_of_ble_eq_true rfl) (xs_63 g ρ1 _ _) w_191 dX1_read_7 (fun H locs hC => ?_)
  refine lv_aload_n hx hb dX1_read_10 rfl (lv_at hl 0 rfl) ?_
  refine lv_iconst (v := 0) hx hb dX1_read_11 (by decide) ?_
  refine x_put (σ := (up2 σ 63 0 a2)) (ty := .int) (fs := xF3 g ρ1 (up2 σ 63 0 a2)) 1 3 C0 uw_1 dc_1 tyX1 tyX1_ok nmX1 hK hC rfl rfl 4 (by decide) rfl rfl rfl rfl (Nat.le_of_ble_eq_true rfl) (xs_64 g ρ1 _ _) w_192 dX1_read_12 (fun H locs hC => ?_)
  refine lv_aload_n hx hb dX1_read_15 rfl (lv_at hl 0 rfl) ?_
  refine lv_iconst (v := 0) hx hb dX1_read_16 (by decide) ?_
  refine x_put (σ := (up2 (up2 σ 63 0 a2) 64 0 0)) (ty := .int) (fs := xF3 g ρ1 (up2 (up2 σ 63 0 a2) 64 0 0)) 1 3 C0 uw_1 dc_1 tyX1 tyX1_ok nmX1 hK hC rfl rfl 1 (by decide) rfl rfl rfl rfl (Nat.le_of_ble_eq_true rfl) (xs_61 g ρ1 _ _) w_189 dX1_read_17 (fun H locs hC => ?_)
  refine lv_aload_n hx hb dX1_read_20 rfl (lv_at hl 0 rfl) ?_
  refine lv_bipush (v := 40) hx hb dX1_read_21 (by decide) ?_
  refine x_put (σ := (up2 (up2 (up2 σ 63 0 a2) 64 0 0) 61 0 0)) (ty := .int) (fs := xF3 g ρ1 (up2 (up2 (up2 σ 63 0 a2) 64 0 0) 61 0 0)) 1 3 C0 uw_1 dc_1 tyX1 tyX1_ok nmX1 hK hC rfl rfl 6 (by decide) rfl rfl rfl rfl (Nat.le_of_ble_eq_true rfl) (xs_66 g ρ1 _ _) w_195 dX1_read_23 (fun H locs hC => ?_)
  refine lv_aload_n hx hb dX1_read_26 rfl (lv_at hl 0 rfl) ?_
  refine lv_iconst (v := 1) hx hb dX1_read_27 (by decide) ?_
  refine x_put (σ := (up2 (up2 (up2 (up2 σ 63 0 a2) 64 0 0) 61 0 0) 66 0 40)) (ty := .int) (fs := xF3 g ρ1 (up2 (up2 (up2 (up2 σ 63 0 a2) 64 0 0) 61 0 0) 66 0 40)) 1 3 C0 uw_1 dc_1 tyX1 tyX1_ok nmX1 hK hC rfl rfl 7 (by decide) rfl rfl rfl rfl (Nat.le_of_ble_eq_true rfl) (xs_67 g ρ1 _ _) w_196 dX1_read_28 (fun H locs hC => ?_)
  refine lv_iconst (v := 0) hx hb dX1_read_31 (by decide) ?_
  refine lv_istore_n (lv' := [(3, .int 0), (0, .ref (g.2.2 103)), (1, .ref (g.2.2 20)), (2, .int a2)]) hx hb dX1_read_32 rfl hl (by decide) rfl (fun ls hl => ?_)
  have e0 : (0 : Int32).toInt = 0 := rfl
  have hRC : RC (rd0 σ a2) := ⟨by show 0 ≤ (0 : Int32).toInt; decide, by show (0 : Int32).toInt ≤ a2.toInt; omega, hn.2, by show 0 ≤ (0 : Int32).toInt; decide, by show (0 : Int32).toInt ≤ 100; decide, h65.1, h65.2⟩
  exact l_X1_read_33 (g := g) (ρ := ρ1) (dt := dt) (aK := aK) (aV := aV) h0 hsz (fun _ h => h) C0 11 (rd0 σ a2) 0 hTx hRC (by unfold BX; show 0 ≤ (40 : Int32).toInt ∧ (40 : Int32).toInt ≤ 99 ∧ 0 ≤ (1 : Int32).toInt ∧ (1 : Int32).toInt ≤ 99; decide) (by show (0 : Int) ≤ (0 : Int32).toInt - (0 : Int32).toInt; decide) (by decide) (by decide) (by decide) hK hC hB (fun _ h => h) (lv_sub hl [1, 0] rfl) rfl


theorem SKH.lt {g : GG} {H : Heap} {a : Nat} {d : Nat → Int32} (h : SKH g H a d) : a < H.size := by
  rcases h.2 with ⟨e, h⟩ | ⟨e, h⟩ | ⟨e, h⟩ | ⟨e, h⟩ | ⟨e, h⟩ | ⟨e, h⟩ | ⟨e, b, hb, hba, h, h'⟩ <;> exact h.lt
theorem RMH.lt {g : GG} {H : Heap} {a : Nat} {d : Nat → Int32} (h : RMH g H a d) : a < H.size := by
  obtain ⟨h0, b, n, hb, hba, hn, e, h, h'⟩ := h
  exact h.lt

set_option maxRecDepth 20000 in
theorem w_271 : (Cond.code yX1_read cX1_read 4 (some (.object "ThreeMeasures$Room"))) ∈ TB := inTB (List.mem_of_getElem? (i := 271) (by decide +kernel)) (by decide +kernel)
set_option maxRecDepth 20000 in
theorem w_270 : (Cond.instanceMethod yX1_read) ∈ TB := inTB (List.mem_of_getElem? (i := 270) (by decide +kernel)) (by decide +kernel)
set_option maxRecDepth 20000 in
theorem w_0 : (Cond.selects RX1 yX1_read yX1_read) ∈ TB := inTB (List.mem_of_getElem? (i := 0) (by decide +kernel)) (by decide +kernel)
theorem cf_X1_read : CF yX1_read cX1_read 4 (some (.object "ThreeMeasures$Room")) 2 := ⟨w_270, w_0, w_73, w_271, by decide +kernel, by decide +kernel, by decide +kernel⟩
set_option maxRecDepth 20000 in
theorem w_268 : (Cond.methodLinkNest RX11 65 yX1_read RX11) ∈ NB := inNB (List.mem_of_getElem? (i := 268) (by decide +kernel)) (by decide +kernel)
set_option maxRecDepth 20000 in
theorem w_113 : (Cond.fieldLinkNest RX11 72 RX5 "holding" "LThreeMeasures$Room;" RX11) ∈ NB := inNB (List.mem_of_getElem? (i := 113) (by decide +kernel)) (by decide +kernel)
set_option maxRecDepth 20000 in
theorem w_232 : (Cond.fieldLink RX11 28 RX11 "reader" "LThreeMeasures$Reader;") ∈ TB := inTB (List.mem_of_getElem? (i := 232) (by decide +kernel)) (by decide +kernel)
set_option maxRecDepth 20000 in
theorem w_193 : (Cond.fieldLinkNest RX11 69 RX1 "place" "I" RX11) ∈ NB := inNB (List.mem_of_getElem? (i := 193) (by decide +kernel)) (by decide +kernel)
theorem dX11_room_0 : decode cX11_room 0 = .ok (.aload_n 0, 1) := by decide +kernel
theorem dX11_room_1 : decode cX11_room 1 = .ok (.getfield 12, 3) := by decide +kernel
theorem dX11_room_4 : decode cX11_room 4 = .ok (.getfield 62, 3) := by decide +kernel
theorem dX11_room_7 : decode cX11_room 7 = .ok (.iconst 5, 1) := by decide +kernel
theorem dX11_room_8 : decode cX11_room 8 = .ok (.if_icmp .lt 6, 3) := by decide +kernel
theorem dX11_room_11 : decode cX11_room 11 = .ok (.bipush (-4), 2) := by decide +kernel
theorem dX11_room_13 : decode cX11_room 13 = .ok (.ireturn, 1) := by decide +kernel
theorem dX11_room_14 : decode cX11_room 14 = .ok (.aload_n 0, 1) := by decide +kernel
theorem dX11_room_15 : decode cX11_room 15 = .ok (.getfield 28, 3) := by decide +kernel
theorem dX11_room_18 : decode cX11_room 18 = .ok (.aload_n 0, 1) := by decide +kernel
theorem dX11_room_19 : decode cX11_room 19 = .ok (.getfield 12, 3) := by decide +kernel
theorem dX11_room_22 : decode cX11_room 22 = .ok (.getfield 59, 3) := by decide +kernel
theorem dX11_room_25 : decode cX11_room 25 = .ok (.aload_n 0, 1) := by decide +kernel
theorem dX11_room_26 : decode cX11_room 26 = .ok (.getfield 12, 3) := by decide +kernel
theorem dX11_room_29 : decode cX11_room 29 = .ok (.getfield 55, 3) := by decide +kernel
theorem dX11_room_32 : decode cX11_room 32 = .ok (.invokevirtual 65, 3) := by decide +kernel
theorem dX11_room_35 : decode cX11_room 35 = .ok (.astore_n 1, 1) := by decide +kernel
theorem dX11_room_36 : decode cX11_room 36 = .ok (.aload_n 0, 1) := by decide +kernel
theorem dX11_room_37 : decode cX11_room 37 = .ok (.getfield 12, 3) := by decide +kernel
theorem dX11_room_40 : decode cX11_room 40 = .ok (.iconst 0, 1) := by decide +kernel
theorem dX11_room_41 : decode cX11_room 41 = .ok (.putfield 55, 3) := by decide +kernel
theorem dX11_room_44 : decode cX11_room 44 = .ok (.aload_n 1, 1) := by decide +kernel
theorem dX11_room_45 : decode cX11_room 45 = .ok (.ifnonnull 14, 3) := by decide +kernel
theorem dX11_room_48 : decode cX11_room 48 = .ok (.bipush (-10), 2) := by decide +kernel
theorem dX11_room_50 : decode cX11_room 50 = .ok (.aload_n 0, 1) := by decide +kernel
theorem dX11_room_51 : decode cX11_room 51 = .ok (.getfield 28, 3) := by decide +kernel
theorem dX11_room_54 : decode cX11_room 54 = .ok (.getfield 69, 3) := by decide +kernel
theorem dX11_room_57 : decode cX11_room 57 = .ok (.isub, 1) := by decide +kernel
theorem dX11_room_58 : decode cX11_room 58 = .ok (.ireturn, 1) := by decide +kernel
theorem dX11_room_59 : decode cX11_room 59 = .ok (.aload_n 0, 1) := by decide +kernel
theorem dX11_room_60 : decode cX11_room 60 = .ok (.getfield 12, 3) := by decide +kernel
theorem dX11_room_63 : decode cX11_room 63 = .ok (.aload_n 1, 1) := by decide +kernel
theorem dX11_room_64 : decode cX11_room 64 = .ok (.putfield 72, 3) := by decide +kernel
theorem dX11_room_67 : decode cX11_room 67 = .ok (.aload_n 0, 1) := by decide +kernel
theorem dX11_room_68 : decode cX11_room 68 = .ok (.getfield 12, 3) := by decide +kernel
theorem dX11_room_71 : decode cX11_room 71 = .ok (.dup, 1) := by decide +kernel
theorem dX11_room_72 : decode cX11_room 72 = .ok (.getfield 62, 3) := by decide +kernel
theorem dX11_room_75 : decode cX11_room 75 = .ok (.iconst 1, 1) := by decide +kernel
theorem dX11_room_76 : decode cX11_room 76 = .ok (.iadd, 1) := by decide +kernel
theorem dX11_room_77 : decode cX11_room 77 = .ok (.putfield 62, 3) := by decide +kernel
theorem dX11_room_80 : decode cX11_room 80 = .ok (.aload_n 0, 1) := by decide +kernel
theorem dX11_room_81 : decode cX11_room 81 = .ok (.getfield 12, 3) := by decide +kernel
theorem dX11_room_84 : decode cX11_room 84 = .ok (.getfield 62, 3) := by decide +kernel
theorem dX11_room_87 : decode cX11_room 87 = .ok (.iconst 1, 1) := by decide +kernel
theorem dX11_room_88 : decode cX11_room 88 = .ok (.isub, 1) := by decide +kernel
theorem dX11_room_89 : decode cX11_room 89 = .ok (.ireturn, 1) := by decide +kernel
/-- what a call of room comes to: no more rooms; none read; one read, at a -/
def f_X11_room (g : GG) (h0 : Nat) (x : X3) (v : Int32) (u : X3) : Prop :=
  (5 ≤ x.2.2 23 0 ∧ v = -4 ∧ u = x) ∨
  (¬ 5 ≤ x.2.2 23 0 ∧ (f_X1_read x.2.2 (x.2.2 21 0)).1 = 0 ∧ v = -10 - (f_X1_read x.2.2 (x.2.2 21 0)).2 64 0 ∧ u = (upR x.1 62 (fun _ => some (g.2.2 20)), x.2.1, up2 (f_X1_read x.2.2 (x.2.2 21 0)).2 21 0 0)) ∨
  (¬ 5 ≤ x.2.2 23 0 ∧ ¬ (f_X1_read x.2.2 (x.2.2 21 0)).1 = 0 ∧ ∃ a : Nat, h0 ≤ a ∧ v = ((f_X1_read x.2.2 (x.2.2 21 0)).2 23 0 + 1) - 1 ∧ u = (upR (upR x.1 62 (fun _ => some (g.2.2 20))) 22 (fun _ => some a), upD x.2.1 a (dR (f_X1_read x.2.2 (x.2.2 21 0)).2), up2 (up2 (f_X1_read x.2.2 (x.2.2 21 0)).2 21 0 0) 23 0 ((f_X1_read x.2.2 (x.2.2 21 0)).2 23 0 + 1)))
/-- a room that is made is new -/
def RMN (g : GG) (h0 : Nat) (u : X3) (H : Heap) : Prop := ∀ a, h0 ≤ a → u.1 22 0 = some a → RMF g h0 H a (u.2.1 a)
theorem RMN.old {g : GG} {h0 : Nat} {ρ : RR} {dt : Nat → Nat → Int32} {u : X3} {H H' : Heap} (h : XH g ρ dt H') (hh : H'.size = h0) (e : u.1 22 0 = ρ 22 0) : RMN g h0 u H := fun a ha hu => by
  have := (h.2 a (Or.inl (e.symm.trans hu))).lt
  omega
set_option maxHeartbeats 1000000 in
theorem k_X11_room (l : Launch) (g : GG) (aK aV : Nat → Nat) (x : X3) (h0 : Nat) (hX : IX x.2.2) (h65 : 0 ≤ (x.2.2 65 0).toInt ∧ (x.2.2 65 0).toInt ≤ 99) : Met l yX11_room (wsF yX11_room cX11_room 2 (some .int)) { frames := 39, cells := 2, slots := 103, locals := 880 } (va_Pc [.ref (g.2.2 100)] (fun U => XS g aK aV x U ∧ U.heap.size = h0)) (va_Qi (f_X11_room g h0 x) (fun u t => va_P g.1 vwCl (xW g u.1 u.2.2) t.heap ∧ XH g u.1 u.2.1 t.heap ∧ RMN g h0 u t.heap) (AX g)) 2 103 (fun z => AX g z ∨ h0 ≤ z) := by
  obtain ⟨ρ, dt, σ⟩ := x
  refine start_X (by decide) (Nat.le_of_ble_eq_true rfl) ?_
  intro p e s m args below meth c C0 hin hB0 ls hl
  obtain ⟨hx, hb, hr, hml, hown, hts, hlocks⟩ := id C0
  obtain ⟨⟨hK, hP, hDD, hB⟩, hsz⟩ := hB0
  have hP : va_P g.1 vwCl (xW g ρ σ) s.heap := hP
  have hDD : va_D (fun _ => True) (xW g ρ σ) := hDD
  have hB : YB g ρ dt aK aV s := hB
  have hX : IX σ := hX
  have h65 : 0 ≤ (σ 65 0).toInt ∧ (σ 65 0).toInt ≤ 99 := h65
  have hP0 := hP
  obtain ⟨⟨j1, j1'⟩, -⟩ := id hX
  have hl : lv_has ls 2 [(0, .ref (g.2.2 100))] := hl
  have hS : va_S (fun z => AX g z ∨ h0 ≤ z) s.heap s.heap [] := va_S.rf
  have hFF : ∀ {t : State} {H : Heap} {locs : List Loc}, va_S (fun z => AX g z ∨ h0 ≤ z) s.heap H locs → t.heap = H → va_F (AX g) s t := fun hS ht => ⟨by rw [ht]; exact hS.1, fun z h1 h2 => by rw [ht]; exact hS.2.1 z h1 (fun w => by rcases w with w | w; exact h2 w; omega)⟩
  have hKX : ∀ {H : Heap} {locs : List Loc}, va_S (fun z => AX g z ∨ h0 ≤ z) s.heap H locs → XH g ρ dt H := fun hS => hB.1.kept (fun q h1 h2 => hS.2.1 q h1 (fun w => by rcases w with w | w; exact h2 w; omega))
  refine lv_aload_n hx hb dX11_room_0 rfl (lv_at hl 0 rfl) ?_
  refine x_get (σ := σ) (v := .ref (g.2.2 101)) (fs := xF0 g ρ σ) 11 0 C0 uw_11 dc_11 hK hP rfl rfl 0 (by decide) rfl w_229 dX11_room_1 ?_
  refine x_getN (σ := σ) (v := .int (σ 23 0)) (fs := xF1 g ρ σ) 5 1 C0 uw_5 dc_5 hK hP rfl rfl 3 (by decide) rfl w_115 dX11_room_4 ?_
  refine lv_iconst (v := 5) hx hb dX11_room_7 (by decide) ?_
  refine lv_icmp_lt (tgt := 14) hx hb dX11_room_8 (by decide) (fun c1 => ?_) (fun c1 => ?_)
  rotate_left
  · refine lv_bipush (v := -4) hx hb dX11_room_11 (by decide) ?_
    refine W.widen (k := 2) (n := 103) (by decide) (by decide) ?_
    have c2 : (5 : Int32) ≤ σ 23 0 := by rw [ti_le]; have := mt ti_lt.mpr c1; omega
    exact W.iret hx hb hr (fun t ht _ => ⟨⟨-4, (ρ, dt, σ), rfl, Or.inl ⟨c2, rfl, rfl⟩, by show va_P g.1 vwCl (xW g ρ σ) t.heap ∧ XH g ρ dt t.heap ∧ RMN g h0 (ρ, dt, σ) t.heap; rw [ht]; exact ⟨hP, hB.1, RMN.old hB.1 hsz rfl⟩⟩, hFF hS ht⟩) hS.2.2 dX11_room_13 hlocks
  have c2 : ¬ (5 : Int32) ≤ σ 23 0 := by rw [ti_le]; have := ti_lt.mp c1; omega
  refine lv_aload_n hx hb dX11_room_14 rfl (lv_at hl 0 rfl) ?_
  refine x_get (σ := σ) (v := .ref (g.2.2 103)) (fs := xF0 g ρ σ) 11 0 C0 uw_11 dc_11 hK hP rfl rfl 3 (by decide) rfl w_232 dX11_room_15 ?_
  refine lv_aload_n hx hb dX11_room_18 rfl (lv_at hl 0 rfl) ?_
  refine x_get (σ := σ) (v := .ref (g.2.2 101)) (fs := xF0 g ρ σ) 11 0 C0 uw_11 dc_11 hK hP rfl rfl 0 (by decide) rfl w_229 dX11_room_19 ?_
  refine x_getN (σ := σ) (v := .ref (g.2.2 20)) (fs := xF1 g ρ σ) 5 1 C0 uw_5 dc_5 hK hP rfl rfl 0 (by decide) rfl w_109 dX11_room_22 ?_
  refine lv_aload_n hx hb dX11_room_25 rfl (lv_at hl 0 rfl) ?_
  refine x_get (σ := σ) (v := .ref (g.2.2 101)) (fs := xF0 g ρ σ) 11 0 C0 uw_11 dc_11 hK hP rfl rfl 0 (by decide) rfl w_229 dX11_room_26 ?_
  refine x_getN (σ := σ) (v := .int (σ 21 0)) (fs := xF1 g ρ σ) 5 1 C0 uw_5 dc_5 hK hP rfl rfl 1 (by decide) rfl w_110 dX11_room_29 ?_
  refine va_callo (A1 := AX g) (ρ := upR ρ 62 (fun _ => some (g.2.2 20))) (F := f_X1_read σ (σ 21 0)) (h0 := h0) (run_VN (rm := { frames := 38, cells := 2, slots := 103, locals := 855 }) (As := [.ref (g.2.2 20), .int (σ 21 0)]) (rest := []) C0 cf_X1_read hK.2 w_268 ⟨by decide, by decide⟩ (k_X1_read l g ρ dt aK aV σ (σ 21 0) h0 ⟨j1, j1'⟩ h65) ⟨(show SV (fun U => GB g (xW g ρ) (YB g ρ dt aK aV) σ U ∧ U.heap.size = h0) from fun U U' hh hv h => ⟨GB.sv YB.sv U U' hh hv h.1, by rw [← hh]; exact h.2⟩).blind, va_recv hK.1 hP (ci := 1) (q0 := 3) rfl rfl, fun U hU hW => ⟨rfl, ⟨hK.warm hW, by rw [hU]; exact hP, hDD, hB.to (va_S.rf) hU hW⟩, by rw [hU]; exact hsz⟩⟩ rfl hl.1 rfl (Nat.le_of_ble_eq_true rfl) dX11_room_32 ⟨by decide, by decide⟩) hS (fun q h => Or.inl h) (fun q h => Or.inr h) (fun r H locs hP hr0 hr1 hS => ?_)
  have hD : va_D (fun z => AX g z ∨ h0 ≤ z) (xW g (upR ρ 62 (fun _ => some (g.2.2 20))) (f_X1_read σ (σ 21 0)).2) := AX_D (va_D_adrs (xW_adr g ρ _ σ _) hDD) (fun _ h => Or.inl h)
  have hXR : ∀ H, XH g ρ dt H → XH g (upR ρ 62 (fun _ => some (g.2.2 20))) dt H := fun H h => ⟨fun i a e => h.1 i a e, fun a e => h.2 a e⟩
  by_cases cq : (f_X1_read σ (σ 21 0)).1 = 0
  · have e0 := hr0 cq
    subst e0
    generalize hq : (f_X1_read σ (σ 21 0)).2 = w at hP hD
    generalize hρ : (upR ρ 62 (fun _ => some (g.2.2 20))) = ρ1 at hP hD hXR
    refine lv_astore_nN (lv' := [(1, .null), (0, .ref (g.2.2 100))]) hx hb dX11_room_35 rfl hl (by decide) rfl (fun ls hl => ?_)
    refine lv_aload_n hx hb dX11_room_36 rfl (lv_at hl 1 rfl) ?_
    refine x_get (σ := w) (v := .ref (g.2.2 101)) (fs := xF0 g ρ1 w) 11 0 C0 uw_11 dc_11 hK hP rfl rfl 0 (by decide) rfl w_229 dX11_room_37 ?_
    refine lv_iconst (v := 0) hx hb dX11_room_40 (by decide) ?_
    refine x_putT (TL := []) (σ := w) (ρ := ρ1) (ty := .int) (fs := xF1 g ρ1 w) 5 1 C0 uw_5 dc_5 tyX5 tyX5_ok nmX5 hK (by rw [List.append_nil]; exact hP) (by rw [List.append_nil]; exact hD) hS rfl rfl 1 (by decide) rfl rfl rfl rfl (Nat.le_of_ble_eq_true rfl) (xs_21 g ρ1 w 0) w_110 dX11_room_41 (fun H locs hP hD hS => ?_)
    rw [List.append_nil] at hP hD
    refine lv_aload_nN hx hb dX11_room_44 rfl (lv_at hl 0 rfl) ?_
    refine lv_ifnonnullN hx hb dX11_room_45 ?_
    refine lv_bipush (v := -10) hx hb dX11_room_48 (by decide) ?_
    refine lv_aload_n hx hb dX11_room_50 rfl (lv_at hl 1 rfl) ?_
    refine x_get (σ := (up2 w 21 0 0)) (v := .ref (g.2.2 103)) (fs := xF0 g ρ1 (up2 w 21 0 0)) 11 0 C0 uw_11 dc_11 hK hP rfl rfl 3 (by decide) rfl w_232 dX11_room_51 ?_
    refine x_getN (σ := (up2 w 21 0 0)) (v := .int (w 64 0)) (fs := xF3 g ρ1 (up2 w 21 0 0)) 1 3 C0 uw_1 dc_1 hK hP rfl rfl 4 (by decide) rfl w_193 dX11_room_54 ?_
    refine lv_isub hx hb dX11_room_57 ?_
    have hpost : f_X11_room g h0 (ρ, dt, σ) (-10 - w 64 0) (ρ1, dt, up2 w 21 0 0) := by
      unfold f_X11_room
      dsimp only
      rw [hq, hρ]
      exact Or.inr (Or.inl ⟨c2, cq, rfl, rfl⟩)
    exact W.iret hx hb hr (fun t ht _ => ⟨⟨-10 - w 64 0, (ρ1, dt, up2 w 21 0 0), rfl, hpost, by show va_P g.1 vwCl (xW g ρ1 (up2 w 21 0 0)) t.heap ∧ XH g ρ1 dt t.heap ∧ RMN g h0 (ρ1, dt, up2 w 21 0 0) t.heap; rw [ht]; exact ⟨hP, hXR _ (hKX hS), RMN.old hB.1 hsz (by rw [← hρ]; rfl)⟩⟩, hFF hS ht⟩) hS.2.2 dX11_room_58 hlocks
  · obtain ⟨a, ea, hRM⟩ := hr1 cq
    subst ea
    obtain ⟨TL, hTP, hTD, hTR⟩ := hRM.tl
    have hah : h0 ≤ a := hRM.1
    have hD := AX_app h0 hP0 hsz hD hTD
    have hP := hP.app hTP
    generalize hq : (f_X1_read σ (σ 21 0)).2 = w at hP hD hTR
    generalize hρ : (upR ρ 62 (fun _ => some (g.2.2 20))) = ρ1 at hP hD hXR
    refine lv_astore_n (lv' := [(1, .ref a), (0, .ref (g.2.2 100))]) hx hb dX11_room_35 rfl hl (by decide) rfl (fun ls hl => ?_)
    refine lv_aload_n hx hb dX11_room_36 rfl (lv_at hl 1 rfl) ?_
    refine x_get (σ := w) (v := .ref (g.2.2 101)) (fs := xF0 g ρ1 w) 11 0 C0 uw_11 dc_11 hK (va_Pl hP) rfl rfl 0 (by decide) rfl w_229 dX11_room_37 ?_
    refine lv_iconst (v := 0) hx hb dX11_room_40 (by decide) ?_
    refine x_putT (TL := TL) (σ := w) (ρ := ρ1) (ty := .int) (fs := xF1 g ρ1 w) 5 1 C0 uw_5 dc_5 tyX5 tyX5_ok nmX5 hK hP hD hS rfl rfl 1 (by decide) rfl rfl rfl rfl (Nat.le_of_ble_eq_true rfl) (xs_21 g ρ1 w 0) w_110 dX11_room_41 (fun H locs hP hD hS => ?_)
    refine lv_aload_n hx hb dX11_room_44 rfl (lv_at hl 0 rfl) ?_
    refine lv_ifnonnull (tgt := 59) hx hb dX11_room_45 (by decide) ?_
    refine lv_aload_n hx hb dX11_room_59 rfl (lv_at hl 1 rfl) ?_
    refine x_get (σ := (up2 w 21 0 0)) (v := .ref (g.2.2 101)) (fs := xF0 g ρ1 (up2 w 21 0 0)) 11 0 C0 uw_11 dc_11 hK (va_Pl hP) rfl rfl 0 (by decide) rfl w_229 dX11_room_60 ?_
    refine lv_aload_n hx hb dX11_room_63 rfl (lv_at hl 0 rfl) ?_
    refine x_putT (TL := TL) (σ := (up2 w 21 0 0)) (ρ := ρ1) (ty := .object "ThreeMeasures$Room") (fs := xF1 g ρ1 (up2 w 21 0 0)) 5 1 C0 uw_5 dc_5 tyX5 tyX5_ok nmX5 hK hP hD hS rfl rfl 2 (by decide) rfl rfl rfl rfl (Nat.le_of_ble_eq_true rfl) (xR_22 g ρ1 (up2 w 21 0 0) a) w_113 dX11_room_64 (fun H locs hP hD hS => ?_)
    refine lv_aload_n hx hb dX11_room_67 rfl (lv_at hl 1 rfl) ?_
    refine x_get (σ := (up2 w 21 0 0)) (v := .ref (g.2.2 101)) (fs := xF0 g (upR ρ1 22 (fun _ => some a)) (up2 w 21 0 0)) 11 0 C0 uw_11 dc_11 hK (va_Pl hP) rfl rfl 0 (by decide) rfl w_229 dX11_room_68 ?_
    refine lv_dup hx hb dX11_room_71 rfl ?_
    refine x_getN (σ := (up2 w 21 0 0)) (v := .int (w 23 0)) (fs := xF1 g (upR ρ1 22 (fun _ => some a)) (up2 w 21 0 0)) 5 1 C0 uw_5 dc_5 hK (va_Pl hP) rfl rfl 3 (by decide) rfl w_115 dX11_room_72 ?_
    refine lv_iconst (v := 1) hx hb dX11_room_75 (by decide) ?_
    refine lv_iadd hx hb dX11_room_76 ?_
    refine x_putT (TL := TL) (σ := (up2 w 21 0 0)) (ρ := (upR ρ1 22 (fun _ => some a))) (ty := .int) (fs := xF1 g (upR ρ1 22 (fun _ => some a)) (up2 w 21 0 0)) 5 1 C0 uw_5 dc_5 tyX5 tyX5_ok nmX5 hK hP hD hS rfl rfl 3 (by decide) rfl rfl rfl rfl (Nat.le_of_ble_eq_true rfl) (xs_23 g (upR ρ1 22 (fun _ => some a)) (up2 w 21 0 0) _) w_115 dX11_room_77 (fun H locs hP hD hS => ?_)
    refine lv_aload_n hx hb dX11_room_80 rfl (lv_at hl 1 rfl) ?_
    refine x_get (σ := (up2 (up2 w 21 0 0) 23 0 (w 23 0 + 1))) (v := .ref (g.2.2 101)) (fs := xF0 g (upR ρ1 22 (fun _ => some a)) (up2 (up2 w 21 0 0) 23 0 (w 23 0 + 1))) 11 0 C0 uw_11 dc_11 hK (va_Pl hP) rfl rfl 0 (by decide) rfl w_229 dX11_room_81 ?_
    refine x_getN (σ := (up2 (up2 w 21 0 0) 23 0 (w 23 0 + 1))) (v := .int (w 23 0 + 1)) (fs := xF1 g (upR ρ1 22 (fun _ => some a)) (up2 (up2 w 21 0 0) 23 0 (w 23 0 + 1))) 5 1 C0 uw_5 dc_5 hK (va_Pl hP) rfl rfl 3 (by decide) rfl w_115 dX11_room_84 ?_
    refine lv_iconst (v := 1) hx hb dX11_room_87 (by decide) ?_
    refine lv_isub hx hb dX11_room_88 ?_
    refine W.widen (k := 2) (n := 103) (by decide) (by decide) ?_
    have hRn : RMH g H a (dR w) := (hTR H (va_Pr hP)).rmh (fun q h => by have := AX_lt hP0 h; omega)
    have hXn : XH g (upR ρ1 22 (fun _ => some a)) (upD dt a (dR w)) H := by
      have hk := hKX hS
      have hlt : ∀ {a' : Nat}, a' < h0 → upD dt a (dR w) a' = dt a' := fun h => if_neg (by omega)
      rw [← hρ]
      refine ⟨fun i a' e => ?_, fun a' e => ?_⟩
      · have e : ρ 24 i = some a' ∨ ρ 44 i = some a' := e
        have h1 := hB.1.1 i a' e
        rw [hlt (by rw [← hsz]; exact h1.lt)]
        exact hk.1 i a' e
      · by_cases ea : a' = a
        · rw [ea, show upD dt a (dR w) a = dR w from if_pos rfl]
          exact hRn
        · have e : ρ 22 0 = some a' ∨ ρ 42 0 = some a' := by
            rcases e with e | e
            · exact absurd (Option.some.inj (show some a = some a' from e)).symm ea
            · exact Or.inr e
          have h1 := hB.1.2 a' e
          rw [hlt (by rw [← hsz]; exact h1.lt)]
          exact hk.2 a' e
    have hpost : f_X11_room g h0 (ρ, dt, σ) ((w 23 0 + 1) - 1) ((upR ρ1 22 (fun _ => some a)), upD dt a (dR w), (up2 (up2 w 21 0 0) 23 0 (w 23 0 + 1))) := by
      unfold f_X11_room
      dsimp only
      rw [hq, hρ]
      exact Or.inr (Or.inr ⟨c2, cq, a, hah, rfl, rfl⟩)
    exact W.iret hx hb hr (fun t ht _ => ⟨⟨(w 23 0 + 1) - 1, ((upR ρ1 22 (fun _ => some a)), upD dt a (dR w), (up2 (up2 w 21 0 0) 23 0 (w 23 0 + 1))), rfl, hpost, by show va_P g.1 vwCl (xW g (upR ρ1 22 (fun _ => some a)) (up2 (up2 w 21 0 0) 23 0 (w 23 0 + 1))) t.heap ∧ XH g (upR ρ1 22 (fun _ => some a)) (upD dt a (dR w)) t.heap ∧ RMN g h0 ((upR ρ1 22 (fun _ => some a)), upD dt a (dR w), (up2 (up2 w 21 0 0) 23 0 (w 23 0 + 1))) t.heap; rw [ht]; exact ⟨va_Pl hP, hXn, fun a' _ e' => by
      have : a = a' := Option.some.inj e'
      subst this
      show RMF g h0 H a (upD dt a (dR w) a)
      rw [show upD dt a (dR w) a = dR w from if_pos rfl]
      exact hTR H (va_Pr hP)⟩⟩, hFF hS ht⟩) hS.2.2 dX11_room_89 hlocks

