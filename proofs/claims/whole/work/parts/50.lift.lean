/-! contracts lifted to a greater world, and calls in a world of two blocks (the class's, the reference's) -/
theorem px_conseq {l : Launch} {y : MethodName} {ws : List Cond} {rm : Room} {Pc Pc' : Array Value → State → Prop} {Qc Qc' : Array Value → State → Outcome → State → Prop} {mc ms : Nat} {free free' : Addr → Prop} (hM : Met l y ws rm Pc Qc mc ms free) (hP : ∀ a s, Pc' a s → Pc a s) (hQ : ∀ a s o t, Pc' a s → Qc a s o t → Qc' a s o t) (hf : ∀ q, free q → free' q) : Met l y ws rm Pc' Qc' mc ms free' := by
  intro p e ha hc hk s m args below hfr hap hP' hfree
  obtain ⟨k, o, h1, h2, h3, hq, L, hL, hLf⟩ := hM p e ha hc hk s m args below hfr hap (hP args s hP') trivial
  exact ⟨k, o, h1, h2, h3, hQ _ _ _ _ hP' hq, L, hL, fun q h => hf _ (hLf q h)⟩
theorem px_fm {ws wc : va_W} {is : List Nat} (hs : is.map (fun i => ws[i]?) = wc.map some) : is.filterMap (fun i => ws[i]?) = wc := by
  have : is.filterMap (fun i => ws[i]?) = (is.map (fun i => ws[i]?)).filterMap id := by rw [List.filterMap_map]; rfl
  rw [this, hs, List.filterMap_map]
  exact List.filterMap_some
theorem px_inA {ws wc : va_W} {is : List Nat} {sz : Nat} (hs : is.map (fun i => ws[i]?) = wc.map some) : ∀ q, va_A wc sz q → va_A ws sz q := by
  intro q h
  rcases h with ⟨k, e, hk⟩ | h
  · have h1 : (wc.map some)[k]? = some (some (q, e)) := by rw [List.getElem?_map, hk]; rfl
    rw [← hs, List.getElem?_map] at h1
    cases hi : is[k]? with
    | none => rw [hi] at h1; cases h1
    | some i =>
      rw [hi] at h1
      exact Or.inl ⟨i, e, Option.some.inj h1⟩
  · exact Or.inr h
theorem px_lift {l : Launch} {y : MethodName} {w : List Cond} {rm : Room} {D : va_G} {tys : List (ClassId × FieldType)} {As : List Value} {v : Option Value} {wc wr w1 ws ws2 : va_W} {sz : Nat} (hM : Met l y w rm (px_PW D tys As wc sz) (px_QW v D wc w1 sz) 0 0 (va_A wc sz)) (isC isR is2 : List Nat) (hC : isC.map (fun i => ws[i]?) = wc.map some) (hnC : va_nd isC = true) (hR : isR.map (fun i => ws[i]?) = wr.map some) (hn : va_nd isR = true) (hdis : ∀ i ∈ isR, i ∉ isC) (hn2 : va_nd is2 = true) (h2 : is2.map (fun i => (wr ++ w1)[i]?) = ws2.map some) : Met l y w rm (px_PW D tys As ws sz) (px_QW v D ws ws2 sz) 0 0 (va_A ws sz) := by
  refine px_conseq hM (fun a s h => ?_) (fun a s o t h hq => ?_) (px_inA hC)
  · obtain ⟨h0, h1, hP, hK, hD, hN⟩ := h
    exact ⟨h0, h1, hP.sub isC (px_fm hC), hK, (hD.sub isC hnC hC).weaken (fun _ _ _ _ => trivial), hN⟩
  · obtain ⟨h0, h1, hP, hK, hD, hN⟩ := h
    obtain ⟨q0, q1, q2, q3⟩ := hq
    have hD' := hD.self (sz := sz)
    subst h1
    obtain ⟨jP, jD⟩ := va_join (wr := wr) (w1 := w1) hP hD' isC isR hC hR hn hdis (H1 := t.heap) (fun q a b => q3.2 q a b) (px_inA hC) q1 q2
    exact ⟨q0, jP.sub is2 (px_fm h2), jD.sub is2 hn2 h2, q3.1, fun q a b => q3.2 q a (fun z => b (px_inA hC q z))⟩
theorem px_liftR {l : Launch} {y : MethodName} {w : List Cond} {rm : Room} {D : va_G} {tys : List (ClassId × FieldType)} {As : List Value} {v : Value} {wc ws : va_W} {sz : Nat} (hM : Met l y w rm (px_PR D tys As wc) (px_QR v) 0 0 (fun _ => False)) (isC : List Nat) (hC : isC.map (fun i => ws[i]?) = wc.map some) : Met l y w rm (px_PW D tys As ws sz) (px_QW (some v) D ws ws sz) 0 0 (va_A ws sz) := by
  refine px_conseq hM (fun a s h => ?_) (fun a s o t h hq => ?_) (fun _ h => h.elim)
  · obtain ⟨h0, h1, hP, hK, hD, hN⟩ := h
    exact ⟨h0, hP.sub isC (px_fm hC), hK, hN⟩
  · obtain ⟨h0, h1, hP, hK, hD, hN⟩ := h
    obtain ⟨q0, q1⟩ := hq
    exact ⟨q0, by rw [q1]; exact hP, hD.self, by rw [q1]; exact Nat.le_refl _, fun q a b => by rw [q1]⟩
theorem px_liftS {l : Launch} {y : MethodName} {w : List Cond} {rm : Room} {sK sV tS : Nat → Nat} {D : va_G} {tys : List (ClassId × FieldType)} {As : List Value} {v : Option Value} {wc wr w1 ws ws2 : va_W} {sz : Nat} (hM : Met l y w rm (px_PWs sK sV tS D tys As wc sz) (px_QW v D wc w1 sz) 0 0 (va_A wc sz)) (isC isR is2 : List Nat) (hC : isC.map (fun i => ws[i]?) = wc.map some) (hnC : va_nd isC = true) (hR : isR.map (fun i => ws[i]?) = wr.map some) (hn : va_nd isR = true) (hdis : ∀ i ∈ isR, i ∉ isC) (hn2 : va_nd is2 = true) (h2 : is2.map (fun i => (wr ++ w1)[i]?) = ws2.map some) : Met l y w rm (px_PWs sK sV tS D tys As ws sz) (px_QW v D ws ws2 sz) 0 0 (va_A ws sz) := by
  refine px_conseq hM (fun a s h => ?_) (fun a s o t h hq => ?_) (px_inA hC)
  · obtain ⟨h0, ⟨h1, hP, hK, hD, hN⟩, g1, g2, g3, g4, g5⟩ := h
    refine ⟨h0, ⟨h1, hP.sub isC (px_fm hC), hK, (hD.sub isC hnC hC).weaken (fun _ _ _ _ => trivial), hN⟩, g1, g2.narrow (px_inA hC), g3.narrow (px_inA hC), g4.narrow (px_inA hC), fun k hk => ?_⟩
    obtain ⟨a1, a2, a3, a4, a5⟩ := g5 k hk
    exact ⟨a1.narrow (px_inA hC), a2, a3, fun z => a4 (px_inA hC _ z), a5⟩
  · obtain ⟨h0, ⟨h1, hP, hK, hD, hN⟩, -⟩ := h
    obtain ⟨q0, q1, q2, q3⟩ := hq
    have hD' := hD.self (sz := sz)
    subst h1
    obtain ⟨jP, jD⟩ := va_join (wr := wr) (w1 := w1) hP hD' isC isR hC hR hn hdis (H1 := t.heap) (fun q a b => q3.2 q a b) (px_inA hC) q1 q2
    exact ⟨q0, jP.sub is2 (px_fm h2), jD.sub is2 hn2 h2, q3.1, fun q a b => q3.2 q a (fun z => b (px_inA hC q z))⟩
theorem px_rg (w : va_W) (a b : va_W) : (List.range w.length).map (fun i => (a ++ w ++ b)[a.length + i]?) = w.map some := by
  apply List.ext_getElem?
  intro i
  rw [List.getElem?_map, List.getElem?_map]
  by_cases h : i < w.length
  · rw [List.getElem?_range h]
    simp only [Option.map_some]
    rw [List.append_assoc, List.getElem?_append_right (by omega), Nat.add_sub_cancel_left, List.getElem?_append_left h, List.getElem?_eq_getElem h]
    rfl
  · rw [List.getElem?_eq_none (by rw [List.length_range]; omega), List.getElem?_eq_none (by omega)]
    rfl
theorem px_nd : ∀ l : List Nat, l.Nodup → va_nd l = true
  | [], _ => rfl
  | a :: l, h => by
    rw [List.nodup_cons] at h
    simp [va_nd, h.1, px_nd l h.2]
theorem px_ndr (n k : Nat) : va_nd ((List.range n).map (fun i => k + i)) = true := by
  apply px_nd
  rw [List.nodup_iff_pairwise_ne, List.pairwise_map]
  have h := List.nodup_range (n := n)
  rw [List.nodup_iff_pairwise_ne] at h
  exact h.imp (fun hab q => hab (by omega))
theorem px_ra (w1 w2 : va_W) : ((List.range w1.length).map (fun i => 0 + i)).map (fun i => (w1 ++ w2)[i]?) = w1.map some := by
  rw [List.map_map]
  have h := px_rg w1 [] w2
  simp only [List.nil_append, List.length_nil] at h
  exact h
theorem px_rb (w1 w2 : va_W) : ((List.range w2.length).map (fun i => w1.length + i)).map (fun i => (w1 ++ w2)[i]?) = w2.map some := by
  rw [List.map_map]
  have h := px_rg w2 w1 []
  simp only [List.append_nil] at h
  exact h
theorem px_rd (a b : Nat) : ∀ i ∈ (List.range b).map (fun i => a + i), i ∉ (List.range a).map (fun i => 0 + i) := by
  intro i h1 h2
  rw [List.mem_map] at h1 h2
  obtain ⟨x, hx, rfl⟩ := h1
  obtain ⟨y, hy, e⟩ := h2
  rw [List.mem_range] at hx hy
  omega
theorem px_rd' (a b : Nat) : ∀ i ∈ (List.range a).map (fun i => 0 + i), i ∉ (List.range b).map (fun i => a + i) := fun i h1 h2 => px_rd a b i h2 h1
section PXB
variable {p : Program} {l : Launch} {e : Env} {R : Room} {s : State} {m : MethodId} {args : Array Value} {below : List Frame} {meth : Method} {c : Code} {H : Heap} {locs : List Loc} {cells slots : Nat} {Q : State → Prop}
variable {pc : Nat} {ls : Array Slot} {st0 rest : List Value} {A : Nat → Prop} {H0 : Heap} {D : va_G} {tys : List (ClassId × FieldType)} {a : Array Value} {sK sV tS : Nat → Nat}
theorem px_callL {v : Option Value} {w1 w2 w1' : va_W} (hr : va_Run p l e R s m args below meth c H locs cells slots 0 0 (F0 m pc ls st0) rest (px_QW v D w1 w1' H.size a) (va_A w1 H.size))
    (hP : va_P D vwCl (w1 ++ w2) H) (hD : va_D A (w1 ++ w2)) (hS : va_S A H0 H locs) (hA : ∀ q, H0.size ≤ q → A q)
    (kk : ∀ (H1 : Heap) (locs1 : List Loc), va_P D vwCl (w1' ++ w2) H1 → va_D A (w1' ++ w2) → va_S A H0 H1 locs1 → W p l e R s m args below meth c H1 locs1 cells slots Q (F0 m (pc + 3) ls (v.toList ++ rest))) : W p l e R s m args below meth c H locs cells slots Q (F0 m pc ls st0) := by
  refine px_callW (wr := w2) (w1 := w1') (ws2 := w2 ++ w1') hr hP hD hS hA ((List.range w1.length).map (fun i => 0 + i)) ((List.range w2.length).map (fun i => w1.length + i)) ((List.range (w2 ++ w1').length).map (fun i => 0 + i)) (px_ra w1 w2) (px_rb w1 w2) (px_ndr _ _) (px_rd _ _) (px_ndr _ _) ?_ (fun H1 locs1 h1 h2 h3 => kk H1 locs1 ?_ ?_ h3)
  · have h := px_ra (w2 ++ w1') []
    rwa [List.append_nil] at h
  · have h := va_P.swap (a := []) (b := w2) (c := w1') (D := D) (cl := vwCl) (H := H1) h1
    exact h
  · have h := va_D.swap (a := []) (b := w2) (c := w1') (A := A) h2
    exact h
theorem px_callY {v : Option Value} {w1 w2 w2' : va_W} (hr : va_Run p l e R s m args below meth c H locs cells slots 0 0 (F0 m pc ls st0) rest (px_QW v D w2 w2' H.size a) (va_A w2 H.size))
    (hP : va_P D vwCl (w1 ++ w2) H) (hD : va_D A (w1 ++ w2)) (hS : va_S A H0 H locs) (hA : ∀ q, H0.size ≤ q → A q)
    (kk : ∀ (H1 : Heap) (locs1 : List Loc), va_P D vwCl (w1 ++ w2') H1 → va_D A (w1 ++ w2') → va_S A H0 H1 locs1 → W p l e R s m args below meth c H1 locs1 cells slots Q (F0 m (pc + 3) ls (v.toList ++ rest))) : W p l e R s m args below meth c H locs cells slots Q (F0 m pc ls st0) := by
  refine px_callW (wr := w1) (w1 := w2') (ws2 := w1 ++ w2') hr hP hD hS hA ((List.range w2.length).map (fun i => w1.length + i)) ((List.range w1.length).map (fun i => 0 + i)) ((List.range (w1 ++ w2').length).map (fun i => 0 + i)) (px_rb w1 w2) (px_ra w1 w2) (px_ndr _ _) (px_rd' _ _) (px_ndr _ _) ?_ kk
  have h := px_ra (w1 ++ w2') []
  rwa [List.append_nil] at h
theorem px_preL {b ci : Nat} {q : vw_C} {fs : List Value} {As : List Value} {w1 w2 : va_W} (hK : va_K D vwCl tys s) (hN : px_NW s) (hP : va_P D vwCl (w1 ++ w2) H) (hD : va_D A (w1 ++ w2)) (hc : vwCl[ci]? = some q) (he : w1[0]? = some (b, .inr (ci, fs))) : PreV s H q.1 b (px_PW D tys (.ref b :: As) w1 H.size) As :=
  px_preWV (q0 := 0) hK hN hP hD ((List.range w1.length).map (fun i => 0 + i)) (px_ndr _ _) (px_ra w1 w2) hc (by rw [List.getElem?_append_left (List.getElem?_eq_some_iff.mp he).1]; exact he)
theorem px_preY {b ci : Nat} {q : vw_C} {fs : List Value} {As : List Value} {w1 w2 : va_W} (hK : va_K D vwCl tys s) (hN : px_NW s) (hP : va_P D vwCl (w1 ++ w2) H) (hD : va_D A (w1 ++ w2)) (hc : vwCl[ci]? = some q) (he : w2[0]? = some (b, .inr (ci, fs))) : PreV s H q.1 b (px_PW D tys (.ref b :: As) w2 H.size) As :=
  px_preWV (q0 := w1.length) hK hN hP hD ((List.range w2.length).map (fun i => w1.length + i)) (px_ndr _ _) (px_rb w1 w2) hc (by rw [List.getElem?_append_right (Nat.le_refl _), Nat.sub_self]; exact he)
theorem px_preLs {b ci : Nat} {q : vw_C} {fs : List Value} {As : List Value} {w1 w2 : va_W} (hG : px_SG sK sV tS A s s.heap) (hS : va_S A s.heap H locs) (hA : ∀ q, s.heap.size ≤ q → A q) (hK : va_K D vwCl tys s) (hN : px_NW s) (hP : va_P D vwCl (w1 ++ w2) H) (hD : va_D A (w1 ++ w2)) (hc : vwCl[ci]? = some q) (he : w1[0]? = some (b, .inr (ci, fs))) : PreV s H q.1 b (px_PWs sK sV tS D tys (.ref b :: As) w1 H.size) As :=
  px_preWVs (q0 := 0) hG hS hA hK hN hP hD ((List.range w1.length).map (fun i => 0 + i)) (px_ndr _ _) (px_ra w1 w2) hc (by rw [List.getElem?_append_left (List.getElem?_eq_some_iff.mp he).1]; exact he)
end PXB
/-- what a call does to a block of cells, at every size of the heap -/
def px_St (l : Launch) (D : va_G) (tys : List (ClassId × FieldType)) (y : MethodName) (w : List Cond) (rm : Room) (As : List Value) (v : Value) (w1 w1' : va_W) : Prop := ∀ sz : Nat, Met l y w rm (px_PW D tys As w1 sz) (px_QW (some v) D w1 w1' sz) 0 0 (va_A w1 sz)
def px_Ss (l : Launch) (sK sV tS : Nat → Nat) (D : va_G) (tys : List (ClassId × FieldType)) (y : MethodName) (w : List Cond) (rm : Room) (As : List Value) (v : Value) (w1 w1' : va_W) : Prop := ∀ sz : Nat, Met l y w rm (px_PWs sK sV tS D tys As w1 sz) (px_QW (some v) D w1 w1' sz) 0 0 (va_A w1 sz)
