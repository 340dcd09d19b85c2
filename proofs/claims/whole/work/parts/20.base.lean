/-! the words of the pure programs: a let, a call, an index, a divisor, a boolean; and what each gives in a walk -/
def px_lt {α β : Type} (a : α) (f : α → Option β) : Option β := f a
def px_b {α β : Type} (x : Option α) (f : α → Option β) : Option β := match x with
  | some a => f a
  | none => none
def px_i {β : Type} (i : Int32) (n : Nat) (k : Option β) : Option β := if i < 0 ∨ n ≤ i.toNatClampNeg then none else k
def px_z {β : Type} (y : Int32) (k : Option β) : Option β := if y = 0 then none else k
def px_zl {β : Type} (y : Int64) (k : Option β) : Option β := if y = 0 then none else k
def px_o {β : Type} (y : Int32) (k : Option β) : Option β := if y = 0 ∨ y = 1 then k else none
def px_FU : Nat := 5000
theorem px_lt_at {α β : Type} {a x : α} {f : α → Option β} {r : β} (h : px_lt a f = some r) (e : x = a) : f x = some r := by subst e; exact h
theorem px_b_at {α β : Type} {x : Option α} {f : α → Option β} {r : β} (h : px_b x f = some r) : ∃ a, x = some a ∧ f a = some r := by
  cases x with
  | none => cases h
  | some a => exact ⟨a, rfl, h⟩
theorem px_i_at {β : Type} {i : Int32} {n : Nat} {k : Option β} {r : β} (h : px_i i n k = some r) : vp_in i n ∧ k = some r := by
  unfold px_i at h
  split at h
  · cases h
  · rename_i q; exact ⟨q, h⟩
theorem px_z_at {β : Type} {y : Int32} {k : Option β} {r : β} (h : px_z y k = some r) : ¬ y = 0 ∧ k = some r := by
  unfold px_z at h
  split at h
  · cases h
  · rename_i q; exact ⟨q, h⟩
theorem px_zl_at {β : Type} {y : Int64} {k : Option β} {r : β} (h : px_zl y k = some r) : ¬ y = 0 ∧ k = some r := by
  unfold px_zl at h
  split at h
  · cases h
  · rename_i q; exact ⟨q, h⟩
theorem px_o_at {β : Type} {y : Int32} {k : Option β} {r : β} (h : px_o y k = some r) : narrow .boolean (.int y) = .int y ∧ k = some r := by
  unfold px_o at h
  split at h
  · rename_i q
    refine ⟨?_, h⟩
    rcases q with rfl | rfl
    · exact narrow_b0
    · exact narrow_b1
  · cases h
theorem px_t {c : Prop} [Decidable c] {β : Type} {A B : Option β} {r : β} (h : (if c then A else B) = some r) (hc : c) : A = some r := by rw [if_pos hc] at h; exact h
theorem px_f {c : Prop} [Decidable c] {β : Type} {A B : Option β} {r : β} (h : (if c then A else B) = some r) (hc : ¬ c) : B = some r := by rw [if_neg hc] at h; exact h
theorem px_s {β : Type} {a r : β} (h : some a = some r) : a = r := Option.some.inj h
/-! the nest's links -/
def px_NW (U : State) : Prop :=
  va_Nw (.methodLinkNest RX6 26 yX10_within RX10) U ∧ va_Nw (.methodLinkNest RX0 38 yX10_lowBits RX10) U ∧ va_Nw (.methodLinkNest RX7 35 yX10_within RX10) U ∧ va_Nw (.methodLinkNest RX8 91 yX10_within RX10) U ∧ va_Nw (.methodLinkNest RX1 24 yX10_within RX10) U ∧ va_Nw (.methodLinkNest RX1 45 yX10_slotOf RX10) U ∧ va_Nw (.methodLinkNest RX2 22 yX10_slotOf RX10) U ∧ va_Nw (.methodLinkNest RX5 22 yX10_within RX10) U
theorem px_NW.same {u U : State} (h : u.vm = U.vm) (w : px_NW u) : px_NW U := by
  obtain ⟨w0, w1, w2, w3, w4, w5, w6, w7⟩ := w
  exact ⟨w0.same rfl h, w1.same rfl h, w2.same rfl h, w3.same rfl h, w4.same rfl h, w5.same rfl h, w6.same rfl h, w7.same rfl h⟩
theorem px_NW.warm {s U : State} (hW : s.WarmedH U.vm) (w : px_NW s) : px_NW U := by
  obtain ⟨w0, w1, w2, w3, w4, w5, w6, w7⟩ := w
  exact ⟨w0.warmM hW, w1.warmM hW, w2.warmM hW, w3.warmM hW, w4.warmM hW, w5.warmM hW, w6.warmM hW, w7.warmM hW⟩
/-! contracts in one form: a method that only reads; a method that writes -/
def px_TY (cyI cyZ cyJ cyB cyO : ClassId) : List (ClassId × FieldType) := [(cyI, .int), (cyZ, .boolean), (cyJ, .long), (cyB, .byte), (cyO, .object "TagReader$Sheet")]
def px_QR (v : Value) : Array Value → State → Outcome → State → Prop := fun _ st o t => o = .returned (some v) ∧ t.heap = st.heap
def px_PR (D : va_G) (tys : List (ClassId × FieldType)) (As : List Value) (wc : va_W) : Array Value → State → Prop := va_Pc As (fun U => va_P D vwCl wc U.heap ∧ va_K D vwCl tys U ∧ px_NW U)
def px_PW (D : va_G) (tys : List (ClassId × FieldType)) (As : List Value) (wc : va_W) (sz : Nat) : Array Value → State → Prop := va_Pc As (fun U => U.heap.size = sz ∧ va_P D vwCl wc U.heap ∧ va_K D vwCl tys U ∧ va_D (fun _ => True) wc ∧ px_NW U)
def px_QW (v : Option Value) (D : va_G) (wc w1 : va_W) (sz : Nat) : Array Value → State → Outcome → State → Prop := fun _ st o t => o = .returned v ∧ va_P D vwCl w1 t.heap ∧ va_D (va_A wc sz) w1 ∧ va_F (va_A wc sz) st t
section PXC
variable {p : Program} {l : Launch} {e : Env} {R : Room} {s : State} {m : MethodId} {args : Array Value} {below : List Frame} {meth : Method} {c : Code} {H : Heap} {locs : List Loc} {cells slots : Nat} {Q : State → Prop}
variable {pc : Nat} {ls : Array Slot} {st0 rest : List Value} {A : Nat → Prop} {H0 : Heap} {D : va_G} {tys : List (ClassId × FieldType)} {a : Array Value}
theorem px_callR {v : Value} (hr : va_Run p l e R s m args below meth c H locs cells slots 0 0 (F0 m pc ls st0) rest (px_QR v a) (fun _ => False)) (kk : W p l e R s m args below meth c H locs cells slots Q (F0 m (pc + 3) ls (v :: rest))) : W p l e R s m args below meth c H locs cells slots Q (F0 m pc ls st0) := by
  refine W.callX hr.run (fun _ h => h.elim) (fun v' st₀ t h0 hq => ?_)
  obtain ⟨hv, ht⟩ := hq
  cases hv
  rw [ht, h0]
  exact kk
theorem px_preR {As : List Value} {ws wc : va_W} (hK : va_K D vwCl tys s) (hN : px_NW s) (hP : va_P D vwCl ws H) (is : List Nat) (hs : is.filterMap (fun i => ws[i]?) = wc) : PreS s H (px_PR D tys As wc) As :=
  ⟨fun a U g mk q => by
    obtain ⟨q0, qP, qK, qN⟩ := q
    exact ⟨q0, qP, va_K.moved (u := U) (U := U.calling g mk a) (Vm.Alike.refl U.vm) qK, qN.same rfl⟩,
   fun U hU hW => ⟨rfl, by rw [hU]; exact hP.sub is hs, va_K.moved hW.alike hK, hN.warm hW⟩⟩
theorem px_preRV {b ci q0 : Nat} {q : vw_C} {fs : List Value} {As : List Value} {ws wc : va_W} (hK : va_K D vwCl tys s) (hN : px_NW s) (hP : va_P D vwCl ws H) (is : List Nat) (hs : is.filterMap (fun i => ws[i]?) = wc) (hc : vwCl[ci]? = some q) (he : ws[q0]? = some (b, .inr (ci, fs))) : PreV s H q.1 b (px_PR D tys (.ref b :: As) wc) As :=
  ⟨(px_preR hK hN hP is hs).1, va_recv hK hP hc he, (px_preR hK hN hP is hs).2⟩
theorem px_preW {As : List Value} {ws wc : va_W} (hK : va_K D vwCl tys s) (hN : px_NW s) (hP : va_P D vwCl ws H) (hD : va_D A ws) (is : List Nat) (hn : va_nd is = true) (hs : is.map (fun i => ws[i]?) = wc.map some) : PreS s H (px_PW D tys As wc H.size) As :=
  ⟨fun a U g mk q => by
    obtain ⟨q0, q1, qP, qK, qD, qN⟩ := q
    exact ⟨q0, q1, qP, va_K.moved (u := U) (U := U.calling g mk a) (Vm.Alike.refl U.vm) qK, qD, qN.same rfl⟩,
   fun U hU hW => ⟨rfl, by rw [hU], by
      rw [hU]
      exact hP.sub is (by
        have : is.filterMap (fun i => ws[i]?) = (is.map (fun i => ws[i]?)).filterMap id := by rw [List.filterMap_map]; rfl
        rw [this, hs, List.filterMap_map]
        exact List.filterMap_some), va_K.moved hW.alike hK, (hD.sub is hn hs).weaken (fun _ _ _ _ => trivial), hN.warm hW⟩⟩
theorem px_preWV {b ci q0 : Nat} {q : vw_C} {fs : List Value} {As : List Value} {ws wc : va_W} (hK : va_K D vwCl tys s) (hN : px_NW s) (hP : va_P D vwCl ws H) (hD : va_D A ws) (is : List Nat) (hn : va_nd is = true) (hs : is.map (fun i => ws[i]?) = wc.map some) (hc : vwCl[ci]? = some q) (he : ws[q0]? = some (b, .inr (ci, fs))) : PreV s H q.1 b (px_PW D tys (.ref b :: As) wc H.size) As :=
  ⟨(px_preW hK hN hP hD is hn hs).1, va_recv hK hP hc he, (px_preW hK hN hP hD is hn hs).2⟩
/-- a call of a method that writes: the callee's cells come back written, the rest as it was, all in the caller's order -/
theorem px_callW {v : Option Value} {ws wc wr w1 ws2 : va_W} (hr : va_Run p l e R s m args below meth c H locs cells slots 0 0 (F0 m pc ls st0) rest (px_QW v D wc w1 H.size a) (va_A wc H.size))
    (hP : va_P D vwCl ws H) (hD : va_D A ws) (hS : va_S A H0 H locs) (hA : ∀ q, H0.size ≤ q → A q) (isC isR is2 : List Nat) (hC : isC.map (fun i => ws[i]?) = wc.map some) (hR : isR.map (fun i => ws[i]?) = wr.map some) (hn : va_nd isR = true) (hdis : ∀ i ∈ isR, i ∉ isC) (hn2 : va_nd is2 = true) (h2 : is2.map (fun i => (wr ++ w1)[i]?) = ws2.map some)
    (kk : ∀ (H1 : Heap) (locs1 : List Loc), va_P D vwCl ws2 H1 → va_D A ws2 → va_S A H0 H1 locs1 → W p l e R s m args below meth c H1 locs1 cells slots Q (F0 m (pc + 3) ls (v.toList ++ rest))) : W p l e R s m args below meth c H locs cells slots Q (F0 m pc ls st0) := by
  intro T hT X
  obtain ⟨v', st₀, t, T', L, h0, X', hL, e1, e2, ⟨hv, hp1, hd1, hz, hk⟩, st⟩ := hr T hT X
  cases hv
  rw [h0] at hz hk
  have hF := va_free (wc := wc) hD hS hA isC hC
  rw [← e1] at hp1
  obtain ⟨jP, jD⟩ := va_join (wr := wr) (w1 := w1) hP hD isC isR hC hR hn hdis (H1 := T'.heap) (fun q h1 h2 => by rw [e1]; exact hk q h1 h2) hF hp1 hd1
  have hPn := jP.sub (ws' := ws2) is2 (by
    have : is2.filterMap (fun i => (wr ++ w1)[i]?) = (is2.map (fun i => (wr ++ w1)[i]?)).filterMap id := by rw [List.filterMap_map]; rfl
    rw [this, h2, List.filterMap_map]
    exact List.filterMap_some)
  have hDn := jD.sub (ws' := ws2) is2 hn2 h2
  obtain ⟨t2, a1, b1⟩ := kk T'.heap (locs ++ L) hPn hDn
    ⟨Nat.le_trans hS.1 (by rw [e1]; exact hz), fun q h1 h2 => by rw [e1, hk q (Nat.lt_of_lt_of_le h1 hS.1) (fun z => h2 (hF q z))]; exact hS.2.1 q h1 h2, fun q hq => by
      rcases List.mem_append.mp hq with h | h
      · exact hS.2.2 q h
      · exact hF _ (hL q h)⟩ T' rfl X'
  exact ⟨t2, st t2 a1, b1⟩
end PXC
theorem px_callWi {r : Int32} {p : Program} {l : Launch} {e : Env} {R : Room} {s : State} {m : MethodId} {args : Array Value} {below : List Frame} {meth : Method} {c : Code} {H : Heap} {locs : List Loc} {cells slots : Nat} {Q : State → Prop} {pc : Nat} {ls : Array Slot} {st0 rest : List Value} {A : Nat → Prop} {H0 : Heap} {D : va_G} {a : Array Value} {ws wc wr w1 ws2 : va_W} (hr : va_Run p l e R s m args below meth c H locs cells slots 0 0 (F0 m pc ls st0) rest (px_QW (some (.int r)) D wc w1 H.size a) (va_A wc H.size))
    (hP : va_P D vwCl ws H) (hD : va_D A ws) (hS : va_S A H0 H locs) (hA : ∀ q, H0.size ≤ q → A q) (isC isR is2 : List Nat) (hC : isC.map (fun i => ws[i]?) = wc.map some) (hR : isR.map (fun i => ws[i]?) = wr.map some) (hn : va_nd isR = true) (hdis : ∀ i ∈ isR, i ∉ isC) (hn2 : va_nd is2 = true) (h2 : is2.map (fun i => (wr ++ w1)[i]?) = ws2.map some)
    (kk : ∀ (H1 : Heap) (locs1 : List Loc), va_P D vwCl ws2 H1 → va_D A ws2 → va_S A H0 H1 locs1 → W p l e R s m args below meth c H1 locs1 cells slots Q (F0 m (pc + 3) ls (.int r :: rest))) : W p l e R s m args below meth c H locs cells slots Q (F0 m pc ls st0) := px_callW hr hP hD hS hA isC isR is2 hC hR hn hdis hn2 h2 kk
theorem px_callWl {r : Int64} {p : Program} {l : Launch} {e : Env} {R : Room} {s : State} {m : MethodId} {args : Array Value} {below : List Frame} {meth : Method} {c : Code} {H : Heap} {locs : List Loc} {cells slots : Nat} {Q : State → Prop} {pc : Nat} {ls : Array Slot} {st0 rest : List Value} {A : Nat → Prop} {H0 : Heap} {D : va_G} {a : Array Value} {ws wc wr w1 ws2 : va_W} (hr : va_Run p l e R s m args below meth c H locs cells slots 0 0 (F0 m pc ls st0) rest (px_QW (some (.long r)) D wc w1 H.size a) (va_A wc H.size))
    (hP : va_P D vwCl ws H) (hD : va_D A ws) (hS : va_S A H0 H locs) (hA : ∀ q, H0.size ≤ q → A q) (isC isR is2 : List Nat) (hC : isC.map (fun i => ws[i]?) = wc.map some) (hR : isR.map (fun i => ws[i]?) = wr.map some) (hn : va_nd isR = true) (hdis : ∀ i ∈ isR, i ∉ isC) (hn2 : va_nd is2 = true) (h2 : is2.map (fun i => (wr ++ w1)[i]?) = ws2.map some)
    (kk : ∀ (H1 : Heap) (locs1 : List Loc), va_P D vwCl ws2 H1 → va_D A ws2 → va_S A H0 H1 locs1 → W p l e R s m args below meth c H1 locs1 cells slots Q (F0 m (pc + 3) ls (.long r :: rest))) : W p l e R s m args below meth c H locs cells slots Q (F0 m pc ls st0) := px_callW hr hP hD hS hA isC isR is2 hC hR hn hdis hn2 h2 kk
theorem px_callWv {p : Program} {l : Launch} {e : Env} {R : Room} {s : State} {m : MethodId} {args : Array Value} {below : List Frame} {meth : Method} {c : Code} {H : Heap} {locs : List Loc} {cells slots : Nat} {Q : State → Prop} {pc : Nat} {ls : Array Slot} {st0 rest : List Value} {A : Nat → Prop} {H0 : Heap} {D : va_G} {a : Array Value} {ws wc wr w1 ws2 : va_W} (hr : va_Run p l e R s m args below meth c H locs cells slots 0 0 (F0 m pc ls st0) rest (px_QW none D wc w1 H.size a) (va_A wc H.size))
    (hP : va_P D vwCl ws H) (hD : va_D A ws) (hS : va_S A H0 H locs) (hA : ∀ q, H0.size ≤ q → A q) (isC isR is2 : List Nat) (hC : isC.map (fun i => ws[i]?) = wc.map some) (hR : isR.map (fun i => ws[i]?) = wr.map some) (hn : va_nd isR = true) (hdis : ∀ i ∈ isR, i ∉ isC) (hn2 : va_nd is2 = true) (h2 : is2.map (fun i => (wr ++ w1)[i]?) = ws2.map some)
    (kk : ∀ (H1 : Heap) (locs1 : List Loc), va_P D vwCl ws2 H1 → va_D A ws2 → va_S A H0 H1 locs1 → W p l e R s m args below meth c H1 locs1 cells slots Q (F0 m (pc + 3) ls rest)) : W p l e R s m args below meth c H locs cells slots Q (F0 m pc ls st0) := px_callW hr hP hD hS hA isC isR is2 hC hR hn hdis hn2 h2 kk
theorem px_QWe {v : Option Value} {D : va_G} {wc w1 : va_W} {A : Nat → Prop} {st : State} (hAe : va_A wc st.heap.size = A) : ∀ (a : Array Value) (t : State), va_P D vwCl w1 t.heap → va_D A w1 → va_F A st t → px_QW v D wc w1 st.heap.size a st (.returned v) t := by
  subst hAe
  intro a t h1 h2 h3
  exact ⟨rfl, h1, h2, h3⟩
def px_sh (a b c d : Nat) : Nat → Option Nat := fun j => match j with
  | 0 => some a
  | 1 => some b
  | 2 => some c
  | 3 => some d
  | _ => none
def px_4 {β : Type} (i : Int32) (a b c d : Option β) : Option β := if i = 0 then a else if i = 1 then b else if i = 2 then c else if i = 3 then d else none
theorem px_4_at {β : Type} {i : Int32} {a b c d : Option β} {r : β} (h : px_4 i a b c d = some r) : (i = 0 ∧ a = some r) ∨ (i = 1 ∧ b = some r) ∨ (i = 2 ∧ c = some r) ∨ (i = 3 ∧ d = some r) := by
  unfold px_4 at h
  split at h
  · exact Or.inl ⟨‹_›, h⟩
  · split at h
    · exact Or.inr (Or.inl ⟨‹_›, h⟩)
    · split at h
      · exact Or.inr (Or.inr (Or.inl ⟨‹_›, h⟩))
      · split at h
        · exact Or.inr (Or.inr (Or.inr ⟨‹_›, h⟩))
        · cases h
theorem px_ne {x k : Int32} (h : ¬ x = k) : ¬ x.toInt = k.toInt := fun q => h (Int32.toInt_inj.mp q)
theorem px_sw2 {x : Int32} (h0 : ¬ x = 0) (h1 : ¬ x = 1) : x.toInt < 0 ∨ 1 < x.toInt := by
  have a0 : ¬ x.toInt = 0 := px_ne h0
  have a1 : ¬ x.toInt = 1 := px_ne h1
  omega
theorem px_sw3 {x : Int32} (h0 : ¬ x = 0) (h1 : ¬ x = 1) (h2 : ¬ x = 2) : x.toInt < 0 ∨ 2 < x.toInt := by
  have a0 : ¬ x.toInt = 0 := px_ne h0
  have a1 : ¬ x.toInt = 1 := px_ne h1
  have a2 : ¬ x.toInt = 2 := px_ne h2
  omega
theorem px_sw6 {x : Int32} (h0 : ¬ x = 0) (h1 : ¬ x = 1) (h2 : ¬ x = 2) (h3 : ¬ x = 3) (h4 : ¬ x = 4) (h5 : ¬ x = 5) : x.toInt < 0 ∨ 5 < x.toInt := by
  have a0 : ¬ x.toInt = 0 := px_ne h0
  have a1 : ¬ x.toInt = 1 := px_ne h1
  have a2 : ¬ x.toInt = 2 := px_ne h2
  have a3 : ¬ x.toInt = 3 := px_ne h3
  have a4 : ¬ x.toInt = 4 := px_ne h4
  have a5 : ¬ x.toInt = 5 := px_ne h5
  omega
theorem px_sw8 {x : Int32} (h0 : ¬ x = 0) (h1 : ¬ x = 1) (h2 : ¬ x = 2) (h3 : ¬ x = 3) (h4 : ¬ x = 4) (h5 : ¬ x = 5) (h6 : ¬ x = 6) (h7 : ¬ x = 7) : x.toInt < 0 ∨ 7 < x.toInt := by
  have a0 : ¬ x.toInt = 0 := px_ne h0
  have a1 : ¬ x.toInt = 1 := px_ne h1
  have a2 : ¬ x.toInt = 2 := px_ne h2
  have a3 : ¬ x.toInt = 3 := px_ne h3
  have a4 : ¬ x.toInt = 4 := px_ne h4
  have a5 : ¬ x.toInt = 5 := px_ne h5
  have a6 : ¬ x.toInt = 6 := px_ne h6
  have a7 : ¬ x.toInt = 7 := px_ne h7
  omega
theorem px_in0_4 : vp_in (0 : Int32) 4 := by unfold vp_in; decide
theorem px_in0_5 : vp_in (0 : Int32) 5 := by unfold vp_in; decide
theorem px_in0_9 : vp_in (0 : Int32) 9 := by unfold vp_in; decide
theorem px_in0_32 : vp_in (0 : Int32) 32 := by unfold vp_in; decide
theorem px_in0_221 : vp_in (0 : Int32) 221 := by unfold vp_in; decide
theorem px_in1_4 : vp_in (1 : Int32) 4 := by unfold vp_in; decide
theorem px_in1_5 : vp_in (1 : Int32) 5 := by unfold vp_in; decide
theorem px_in1_9 : vp_in (1 : Int32) 9 := by unfold vp_in; decide
theorem px_in1_64 : vp_in (1 : Int32) 64 := by unfold vp_in; decide
theorem px_in2_4 : vp_in (2 : Int32) 4 := by unfold vp_in; decide
theorem px_in2_5 : vp_in (2 : Int32) 5 := by unfold vp_in; decide
theorem px_in2_9 : vp_in (2 : Int32) 9 := by unfold vp_in; decide
theorem px_in3_4 : vp_in (3 : Int32) 4 := by unfold vp_in; decide
theorem px_in3_5 : vp_in (3 : Int32) 5 := by unfold vp_in; decide
theorem px_in3_9 : vp_in (3 : Int32) 9 := by unfold vp_in; decide
theorem px_in4_5 : vp_in (4 : Int32) 5 := by unfold vp_in; decide
theorem px_in4_9 : vp_in (4 : Int32) 9 := by unfold vp_in; decide
theorem px_in5_9 : vp_in (5 : Int32) 9 := by unfold vp_in; decide
theorem px_in6_9 : vp_in (6 : Int32) 9 := by unfold vp_in; decide
theorem px_in7_9 : vp_in (7 : Int32) 9 := by unfold vp_in; decide
theorem px_in8_9 : vp_in (8 : Int32) 9 := by unfold vp_in; decide
