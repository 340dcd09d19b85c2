/-! the static arrays and the String constants that the class reads, and what the JDK's own statics hold -/
def px_LEN : List Nat := [5, 5, 4, 4, 6, 5, 6]
def px_BYT : List (List Int32) := [[102, 114, 97, 109, 101], [108, 101, 97, 115, 116], [109, 111, 115, 116], [103, 114, 111, 119], [115, 104, 114, 105, 110, 107], [97, 98, 111, 118, 101], [114, 111, 117, 110, 100, 115]]
def px_TX : List String := ["frame", "least", "most", "grow", "shrink", "above", "rounds"]
def px_SNm : List String := ["RULES_AT_FIRST", "LINE_NUMBERS", "LINE_RULE", "RULES_LEAST", "RULES_MOST"]
def px_SIx : List Nat := [9, 75, 78, 98, 101]
def px_SLn : List Nat := [9, 7, 7, 9, 9]
def px_SV : List (List Int32) := [[8, 1, 64, 60, 200, 60, 50, 0, 20], [1, 1, 1, 2, 2, 1, 1], [0, 1, 2, 3, 5, 7, 8], [1, 1, 1, 1, 100, 1, 10, 0, 1], [64, 64, 64, 100, 400, 100, 100, 99, 40]]
def px_ST (k : Nat) : Nat → Int32 := fun j => (px_SV.getD k []).getD j 0
def px_SG (sK sV tS : Nat → Nat) (A : Nat → Prop) (U : State) (H : Heap) : Prop :=
  (∀ k : Nat, k < 7 → vk_R RX7 (69 + 2 * k) (px_TX.getD k "") (sK k) U) ∧ vk_S 7 px_LEN px_BYT sK sV A U H ∧ va_Z "java/lang/String" "COMPACT_STRINGS" "Z" (.int 1) A U H ∧ va_Zq "jdk/internal/util/Preconditions" "SIOOBE_FORMATTER" "Ljava/util/function/BiFunction;" A U H ∧
  ∀ k : Nat, k < 5 → va_Z "TagReader" (px_SNm.getD k "") "[I" (.ref (tS k)) A U H ∧ va_X (tS k) (px_SLn.getD k 0) (px_ST k) U H ∧ tS k < H.size ∧ ¬ A (tS k) ∧ va_Nw (.fieldLinkNest RX8 (px_SIx.getD k 0) RX10 (px_SNm.getD k "") "[I" RX10) U
theorem px_SG.go {sK sV tS : Nat → Nat} {A B : Nat → Prop} {s U : State} {H : Heap} {locs : List Loc} (hG : px_SG sK sV tS A s s.heap) (hS : va_S A s.heap H locs) (hU : U.heap = H) (hW : s.WarmedH U.vm) (hAB : ∀ q, B q → A q) : px_SG sK sV tS B U U.heap := by
  obtain ⟨g1, g2, g3, g4, g5⟩ := hG
  rw [hU]
  refine ⟨fun k hk => (g1 k hk).warm hW, ((g2.moved hW.alike).kept hS.2.1).narrow hAB, ((g3.moved hW.alike).kept hS.2.1).narrow hAB, ((g4.moved hW.alike).kept hS.2.1).narrow hAB, fun k hk => ?_⟩
  obtain ⟨a1, a2, a3, a4, a5⟩ := g5 k hk
  exact ⟨((a1.moved hW.alike).kept hS.2.1).narrow hAB, (a2.moved hW.alike).kept (hS.2.1 _ a3 a4), Nat.lt_of_lt_of_le a3 hS.1, fun h => a4 (hAB _ h), a5.warmF hW⟩
theorem px_SG.same {sK sV tS : Nat → Nat} {A : Nat → Prop} {u U : State} {H : Heap} (h : u.vm = U.vm) (hG : px_SG sK sV tS A u H) : px_SG sK sV tS A U H := by
  have hA : u.vm.Alike U.vm := by rw [h]; exact Vm.Alike.refl _
  obtain ⟨g1, g2, g3, g4, g5⟩ := hG
  refine ⟨fun k hk => (g1 k hk).same h.symm, g2.moved hA, g3.moved hA, g4.moved hA, fun k hk => ?_⟩
  obtain ⟨a1, a2, a3, a4, a5⟩ := g5 k hk
  exact ⟨a1.moved hA, a2.moved hA, a3, a4, a5.same rfl h⟩
def px_PRs (sK sV tS : Nat → Nat) (D : va_G) (tys : List (ClassId × FieldType)) (As : List Value) (wc : va_W) : Array Value → State → Prop := va_Pc As (fun U => (va_P D vwCl wc U.heap ∧ va_K D vwCl tys U ∧ px_NW U) ∧ px_SG sK sV tS (fun _ => False) U U.heap)
def px_PWs (sK sV tS : Nat → Nat) (D : va_G) (tys : List (ClassId × FieldType)) (As : List Value) (wc : va_W) (sz : Nat) : Array Value → State → Prop := va_Pc As (fun U => (U.heap.size = sz ∧ va_P D vwCl wc U.heap ∧ va_K D vwCl tys U ∧ va_D (fun _ => True) wc ∧ px_NW U) ∧ px_SG sK sV tS (va_A wc sz) U U.heap)
def px_QV : Array Value → State → Outcome → State → Prop := fun _ st o t => o = .returned none ∧ t.heap = st.heap
def px_j {β : Type} (j : Nat) (k : Option β) : Option β := if j < 7 then k else none
theorem px_j_at {β : Type} {j : Nat} {k : Option β} {r : β} (h : px_j j k = some r) : j < 7 ∧ k = some r := by
  unfold px_j at h
  split at h
  · exact ⟨‹_›, h⟩
  · cases h
def px_c {β : Type} (y : Int32) (k : Option β) : Option β := if vp_nar .char y = y then k else none
theorem px_c_at {β : Type} {y : Int32} {k : Option β} {r : β} (h : px_c y k = some r) : narrow .char (.int y) = .int y ∧ k = some r := by
  unfold px_c at h
  split at h
  · rename_i q
    have e : narrow .char (.int y) = .int (vp_nar .char y) := rfl
    exact ⟨by rw [e, q], h⟩
  · cases h
section PXS
variable {p : Program} {l : Launch} {e : Env} {R : Room} {s : State} {m : MethodId} {args : Array Value} {below : List Frame} {meth : Method} {c : Code} {H : Heap} {locs : List Loc} {cells slots : Nat} {Q : State → Prop}
variable {pc : Nat} {ls : Array Slot} {st0 rest : List Value} {A : Nat → Prop} {H0 : Heap} {D : va_G} {tys : List (ClassId × FieldType)} {a : Array Value} {sK sV tS : Nat → Nat}
theorem px_callRv (hr : va_Run p l e R s m args below meth c H locs cells slots 0 0 (F0 m pc ls st0) rest (px_QV a) (fun _ => False)) (kk : W p l e R s m args below meth c H locs cells slots Q (F0 m (pc + 3) ls rest)) : W p l e R s m args below meth c H locs cells slots Q (F0 m pc ls st0) := by
  refine W.callX hr.run (fun _ h => h.elim) (fun v' st₀ t h0 hq => ?_)
  obtain ⟨hv, ht⟩ := hq
  cases hv
  rw [ht, h0]
  exact kk
theorem px_preRs {As : List Value} {ws wc : va_W} (hG : px_SG sK sV tS A s s.heap) (hS : va_S A s.heap H locs) (hK : va_K D vwCl tys s) (hN : px_NW s) (hP : va_P D vwCl ws H) (is : List Nat) (hs : is.filterMap (fun i => ws[i]?) = wc) : PreS s H (px_PRs sK sV tS D tys As wc) As :=
  ⟨fun a U g mk q => by
    obtain ⟨q0, ⟨qP, qK, qN⟩, qG⟩ := q
    exact ⟨q0, ⟨qP, va_K.moved (u := U) (U := U.calling g mk a) (Vm.Alike.refl U.vm) qK, qN.same rfl⟩, qG.same rfl⟩,
   fun U hU hW => ⟨rfl, ⟨by rw [hU]; exact hP.sub is hs, va_K.moved hW.alike hK, hN.warm hW⟩, hG.go hS hU hW (fun _ h => h.elim)⟩⟩
theorem px_preRVs {b ci q0 : Nat} {q : vw_C} {fs : List Value} {As : List Value} {ws wc : va_W} (hG : px_SG sK sV tS A s s.heap) (hS : va_S A s.heap H locs) (hK : va_K D vwCl tys s) (hN : px_NW s) (hP : va_P D vwCl ws H) (is : List Nat) (hs : is.filterMap (fun i => ws[i]?) = wc) (hc : vwCl[ci]? = some q) (he : ws[q0]? = some (b, .inr (ci, fs))) : PreV s H q.1 b (px_PRs sK sV tS D tys (.ref b :: As) wc) As :=
  ⟨(px_preRs hG hS hK hN hP is hs).1, va_recv hK hP hc he, (px_preRs hG hS hK hN hP is hs).2⟩
theorem px_preRVk {j : Nat} {As : List Value} {ws wc : va_W} (hG : px_SG sK sV tS A s s.heap) (hS : va_S A s.heap H locs) (hK : va_K D vwCl tys s) (hN : px_NW s) (hP : va_P D vwCl ws H) (hj : j < 7) (is : List Nat) (hs : is.filterMap (fun i => ws[i]?) = wc) : PreV s H RJ0 (sK j) (px_PRs sK sV tS D tys (.ref (sK j) :: As) wc) As :=
  ⟨(px_preRs hG hS hK hN hP is hs).1, vk_recv hG.2.1 hj hS, (px_preRs hG hS hK hN hP is hs).2⟩
theorem px_preWs {As : List Value} {ws wc : va_W} (hG : px_SG sK sV tS A s s.heap) (hS : va_S A s.heap H locs) (hA : ∀ q, s.heap.size ≤ q → A q) (hK : va_K D vwCl tys s) (hN : px_NW s) (hP : va_P D vwCl ws H) (hD : va_D A ws) (is : List Nat) (hn : va_nd is = true) (hs : is.map (fun i => ws[i]?) = wc.map some) : PreS s H (px_PWs sK sV tS D tys As wc H.size) As :=
  ⟨fun a U g mk q => by
    obtain ⟨q0, ⟨q1, qP, qK, qD, qN⟩, qG⟩ := q
    exact ⟨q0, ⟨q1, qP, va_K.moved (u := U) (U := U.calling g mk a) (Vm.Alike.refl U.vm) qK, qD, qN.same rfl⟩, qG.same rfl⟩,
   fun U hU hW => ⟨rfl, ((px_preW (As := As) hK hN hP hD is hn hs).2 U hU hW).2, hG.go hS hU hW (va_free hD hS hA is hs)⟩⟩
theorem px_preWVs {b ci q0 : Nat} {q : vw_C} {fs : List Value} {As : List Value} {ws wc : va_W} (hG : px_SG sK sV tS A s s.heap) (hS : va_S A s.heap H locs) (hA : ∀ q, s.heap.size ≤ q → A q) (hK : va_K D vwCl tys s) (hN : px_NW s) (hP : va_P D vwCl ws H) (hD : va_D A ws) (is : List Nat) (hn : va_nd is = true) (hs : is.map (fun i => ws[i]?) = wc.map some) (hc : vwCl[ci]? = some q) (he : ws[q0]? = some (b, .inr (ci, fs))) : PreV s H q.1 b (px_PWs sK sV tS D tys (.ref b :: As) wc H.size) As :=
  ⟨(px_preWs hG hS hA hK hN hP hD is hn hs).1, va_recv hK hP hc he, (px_preWs hG hS hA hK hN hP hD is hn hs).2⟩
end PXS
