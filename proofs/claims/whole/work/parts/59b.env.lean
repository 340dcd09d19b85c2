theorem px_sz {a b : Nat} (ha : a < 2 ^ 31) (hb : b < 2 ^ 31) (h : a.toInt32 = Int32.ofNat b) : a = b := (nI_eq ha hb).mp h
theorem px_Xof {args : Array Value} {s : State} {tm : Term} {N : Nat} {f : Nat → Int32} (hN : N < 2 ^ 31) (harr : (Cond.arrayOf tm .int).before args s = true) (hlen : (Cond.eq (.length tm) (.int (Int32.ofNat N))).before args s = true) (hel : ∀ j : Nat, j < N → (Cond.eq (.elem tm (.int (Int32.ofNat j))) (.int (f j))).before args s = true) : ∃ t : Nat, tm.eval args s none [] s = some (.ref t) ∧ va_X t N f s s.heap ∧ t < s.heap.size := by
  have hl := va_eqt hlen
  obtain ⟨t, ht, cell, hc, hof, hvm, hle, hsz, hval, -⟩ := va_Tof (f := fun j => .int (f j)) (A := fun _ => False) hN harr hl (fun j hj => va_eqt (hel j hj)) (fun _ _ h => h)
  refine ⟨t, ht, ⟨cell, hc, hof, hvm, ?_, hval⟩, (Array.getElem?_eq_some_iff.mp hc).1⟩
  rw [Term.eval, ht] at hl
  cases h2 : s.arrayAt? t with
  | none => simp [h2] at hl
  | some c2 =>
    have e : c2 = cell := Option.some.inj ((State.arrayAt?_spec h2).1.symm.trans hc)
    subst e
    simp only [Option.bind_eq_bind, Option.bind_some, h2] at hl
    by_cases q : c2.slots.size < 2 ^ 31
    · exact px_sz q hN hsz
    · simp [q] at hl
theorem px_arr {args : Array Value} {s : State} {ty : FieldType} (h : (Cond.arrayClass ty).before args s = true) : ∃ cA : ClassId, ArrOfT s cA ty ∧ s.vm.findClass ("[" ++ ty.toString) = some cA := by
  obtain ⟨c, k, comp, h1, h2, h3⟩ := Cond.arrayClass_spec h
  exact ⟨c, fun n z => ⟨fun k h => (by cases h), k, h2, comp, h3⟩, h1⟩
theorem px_arrO {args : Array Value} {s : State} {C : String} (h : (Cond.arrayOver (.object C)).before args s = true) : ∃ cA : ClassId, ArrOfT s cA (.object C) ∧ va_RA s cA (.object C) := by
  obtain ⟨comp, c, k, h1, -, h2, h3, h4⟩ := Cond.arrayOver_spec h
  exact ⟨c, fun n z => ⟨fun k h => (by cases h), k, h2, comp, h3⟩, k, comp, h2, h3, h1, h4⟩
set_option maxRecDepth 100000 in
theorem lw_nw {s : State} {b : Nat} (hts : ∀ w ∈ lw_tbl, w.before #[Value.ref b] s = true) : px_NW s := ⟨va_Nw.of rfl (hts (.methodLinkNest RX6 26 yX10_within RX10) (List.mem_of_getElem? (i := 426) (by decide +kernel))), va_Nw.of rfl (hts (.methodLinkNest RX0 38 yX10_lowBits RX10) (List.mem_of_getElem? (i := 467) (by decide +kernel))), va_Nw.of rfl (hts (.methodLinkNest RX7 35 yX10_within RX10) (List.mem_of_getElem? (i := 597) (by decide +kernel))), va_Nw.of rfl (hts (.methodLinkNest RX8 91 yX10_within RX10) (List.mem_of_getElem? (i := 688) (by decide +kernel))), va_Nw.of rfl (hts (.methodLinkNest RX1 24 yX10_within RX10) (List.mem_of_getElem? (i := 726) (by decide +kernel))), va_Nw.of rfl (hts (.methodLinkNest RX1 45 yX10_slotOf RX10) (List.mem_of_getElem? (i := 731) (by decide +kernel))), va_Nw.of rfl (hts (.methodLinkNest RX2 22 yX10_slotOf RX10) (List.mem_of_getElem? (i := 864) (by decide +kernel))), va_Nw.of rfl (hts (.methodLinkNest RX5 22 yX10_within RX10) (List.mem_of_getElem? (i := 895) (by decide +kernel)))⟩
set_option maxRecDepth 100000 in
theorem lw_nc {s : State} {b : Nat} (hts : ∀ w ∈ lw_tbl, w.before #[Value.ref b] s = true) : px_NC s := ⟨va_Nw.of rfl (hts (.methodLinkNest RX10 24 yX6_init RX10) (List.mem_of_getElem? (i := 86) (by decide +kernel))), va_Nw.of rfl (hts (.methodLinkNest RX10 31 yX0_init RX10) (List.mem_of_getElem? (i := 115) (by decide +kernel))), va_Nw.of rfl (hts (.methodLinkNest RX10 38 yX9_init RX10) (List.mem_of_getElem? (i := 159) (by decide +kernel))), va_Nw.of rfl (hts (.methodLinkNest RX10 52 yX7_init RX10) (List.mem_of_getElem? (i := 191) (by decide +kernel))), va_Nw.of rfl (hts (.methodLinkNest RX10 59 yX8_init RX10) (List.mem_of_getElem? (i := 222) (by decide +kernel))), va_Nw.of rfl (hts (.methodLinkNest RX10 66 yX1_init RX10) (List.mem_of_getElem? (i := 258) (by decide +kernel))), va_Nw.of rfl (hts (.methodLinkNest RX10 73 yX4_init RX10) (List.mem_of_getElem? (i := 279) (by decide +kernel))), va_Nw.of rfl (hts (.methodLinkNest RX10 80 yX3_init RX10) (List.mem_of_getElem? (i := 290) (by decide +kernel))), va_Nw.of rfl (hts (.methodLinkNest RX10 87 yX2_init RX10) (List.mem_of_getElem? (i := 301) (by decide +kernel))), va_Nw.of rfl (hts (.methodLinkNest RX10 98 yX5_init RX10) (List.mem_of_getElem? (i := 319) (by decide +kernel))), va_AO.of (hts (.arrayOver (.object "TagReader$Sheet")) (List.mem_of_getElem? (i := 317) (by decide +kernel)))⟩
set_option maxRecDepth 100000 in
theorem lw_k {s : State} {b : Nat} (hts : ∀ w ∈ lw_tbl, w.before #[Value.ref b] s = true) : ∃ (dC : Nat → ClassId) (dI : Nat → Nat → Nat) (cyI cyZ cyJ cyB cyO : ClassId), va_K (dC, dI) vwCl (px_TY cyI cyZ cyJ cyB cyO) s := by
  obtain ⟨c0, i0, hK0⟩ := u_known (C := RX0) (T := TX0) (N := 9) (n := 9) hts (fun w h => wsL_law_in w (inlX0 w h)) (hts (.instantiable RX0 9) (List.mem_of_getElem? (i := 114) (by decide +kernel)))
  obtain ⟨c1, i1, hK1⟩ := u_known (C := RX1) (T := TX1) (N := 4) (n := 4) hts (fun w h => wsL_law_in w (inlX1 w h)) (hts (.instantiable RX1 4) (List.mem_of_getElem? (i := 257) (by decide +kernel)))
  obtain ⟨c2, i2, hK2⟩ := u_known (C := RX2) (T := TX2) (N := 3) (n := 3) hts (fun w h => wsL_law_in w (inlX2 w h)) (hts (.instantiable RX2 3) (List.mem_of_getElem? (i := 300) (by decide +kernel)))
  obtain ⟨c3, i3, hK3⟩ := u_known (C := RX3) (T := TX3) (N := 1) (n := 1) hts (fun w h => wsL_law_in w (inlX3 w h)) (hts (.instantiable RX3 1) (List.mem_of_getElem? (i := 289) (by decide +kernel)))
  obtain ⟨c4, i4, hK4⟩ := u_known (C := RX4) (T := TX4) (N := 1) (n := 1) hts (fun w h => wsL_law_in w (inlX4 w h)) (hts (.instantiable RX4 1) (List.mem_of_getElem? (i := 278) (by decide +kernel)))
  obtain ⟨c5, i5, hK5⟩ := u_known (C := RX5) (T := TX5) (N := 3) (n := 3) hts (fun w h => wsL_law_in w (inlX5 w h)) (hts (.instantiable RX5 3) (List.mem_of_getElem? (i := 318) (by decide +kernel)))
  obtain ⟨c6, i6, hK6⟩ := u_known (C := RX6) (T := TX6) (N := 4) (n := 4) hts (fun w h => wsL_law_in w (inlX6 w h)) (hts (.instantiable RX6 4) (List.mem_of_getElem? (i := 85) (by decide +kernel)))
  obtain ⟨c7, i7, hK7⟩ := u_known (C := RX7) (T := TX7) (N := 6) (n := 6) hts (fun w h => wsL_law_in w (inlX7 w h)) (hts (.instantiable RX7 6) (List.mem_of_getElem? (i := 190) (by decide +kernel)))
  obtain ⟨c8, i8, hK8⟩ := u_known (C := RX8) (T := TX8) (N := 6) (n := 6) hts (fun w h => wsL_law_in w (inlX8 w h)) (hts (.instantiable RX8 6) (List.mem_of_getElem? (i := 221) (by decide +kernel)))
  obtain ⟨c9, i9, hK9⟩ := u_known (C := RX9) (T := TX9) (N := 7) (n := 7) hts (fun w h => wsL_law_in w (inlX9 w h)) (hts (.instantiable RX9 7) (List.mem_of_getElem? (i := 158) (by decide +kernel)))
  obtain ⟨c10, i10, hK10⟩ := u_known (C := RX10) (T := TX10) (N := 16) (n := 16) hts (fun w h => wsL_law_in w (inlX10 w h)) (hts (.instantiable RX10 16) (List.mem_of_getElem? (i := 77) (by decide +kernel)))
  obtain ⟨c11, i11, hK11⟩ := u_known (C := RX11) (T := TX11) (N := 48) (n := 48) hts (fun w h => wsL_law_in w (inlX11 w h)) (hts (.instantiable RX11 48) (List.mem_of_getElem? (i := 930) (by decide +kernel)))
  obtain ⟨cyI, hI1, hI2⟩ := px_arr (hts (.arrayClass .int) (List.mem_of_getElem? (i := 111) (by decide +kernel)))
  obtain ⟨cyZ, hZ1, hZ2⟩ := px_arr (hts (.arrayClass .boolean) (List.mem_of_getElem? (i := 112) (by decide +kernel)))
  obtain ⟨cyJ, hJ1, hJ2⟩ := px_arr (hts (.arrayClass .long) (List.mem_of_getElem? (i := 298) (by decide +kernel)))
  obtain ⟨cyB, hB1, hB2⟩ := px_arr (hts (.arrayClass .byte) (List.mem_of_getElem? (i := 219) (by decide +kernel)))
  obtain ⟨cyO, hO1, hO2⟩ := px_arrO (hts (.arrayOver (.object "TagReader$Sheet")) (List.mem_of_getElem? (i := 317) (by decide +kernel)))
  refine ⟨(fun k => match k with
    | 0 => c0
    | 1 => c1
    | 2 => c2
    | 3 => c3
    | 4 => c4
    | 5 => c5
    | 6 => c6
    | 7 => c7
    | 8 => c8
    | 9 => c9
    | 10 => c10
    | _ => c11), (fun k => match k with
    | 0 => i0
    | 1 => i1
    | 2 => i2
    | 3 => i3
    | 4 => i4
    | 5 => i5
    | 6 => i6
    | 7 => i7
    | 8 => i8
    | 9 => i9
    | 10 => i10
    | _ => i11), cyI, cyZ, cyJ, cyB, cyO, ?_, ?_⟩
  · intro k q hq
    match k, hq with
    | 0, hq => cases hq; exact hK0
    | 1, hq => cases hq; exact hK1
    | 2, hq => cases hq; exact hK2
    | 3, hq => cases hq; exact hK3
    | 4, hq => cases hq; exact hK4
    | 5, hq => cases hq; exact hK5
    | 6, hq => cases hq; exact hK6
    | 7, hq => cases hq; exact hK7
    | 8, hq => cases hq; exact hK8
    | 9, hq => cases hq; exact hK9
    | 10, hq => cases hq; exact hK10
    | 11, hq => cases hq; exact hK11
    | k + 12, hq => simp [vwCl] at hq
  · intro k q hq
    match k, hq with
    | 0, hq => cases hq; exact ⟨hI1, hI2⟩
    | 1, hq => cases hq; exact ⟨hZ1, hZ2⟩
    | 2, hq => cases hq; exact ⟨hJ1, hJ2⟩
    | 3, hq => cases hq; exact ⟨hB1, hB2⟩
    | 4, hq => cases hq; exact ⟨hO1, hO2⟩
    | k + 5, hq => simp [px_TY] at hq
set_option maxHeartbeats 4000000 in
set_option maxRecDepth 100000 in
theorem lw_str {s : State} {b : Nat} {A : Nat → Prop} (hgv : (Jvm.Cond.and given_1 narrow_1).before #[Value.ref b] s = true) (hA : ∀ a : Nat, a < s.heap.size → ¬ A a) : ∃ sK sV : Nat → Nat, vk_S 7 px_LEN px_BYT sK sV A s s.heap ∧ ∀ i : Nat, i < 7 → (Term.string "TagReader$Tape" (69 + 2 * i)).eval #[Value.ref b] s none [] s = some (.ref (sK i)) := by
  have hs := flat_of_before _ hgv
  refine vk_Sof (tm := fun i => .string "TagReader$Tape" (69 + 2 * i)) (fun i hi => by rcases (show i = 0 ∨ i = 1 ∨ i = 2 ∨ i = 3 ∨ i = 4 ∨ i = 5 ∨ i = 6 by omega) with rfl | rfl | rfl | rfl | rfl | rfl | rfl <;> decide) (fun i hi => by rcases (show i = 0 ∨ i = 1 ∨ i = 2 ∨ i = 3 ∨ i = 4 ∨ i = 5 ∨ i = 6 by omega) with rfl | rfl | rfl | rfl | rfl | rfl | rfl <;> exact hs _ (by decide +kernel)) (fun i hi => by rcases (show i = 0 ∨ i = 1 ∨ i = 2 ∨ i = 3 ∨ i = 4 ∨ i = 5 ∨ i = 6 by omega) with rfl | rfl | rfl | rfl | rfl | rfl | rfl <;> exact hs _ (by decide +kernel)) (fun i hi => by rcases (show i = 0 ∨ i = 1 ∨ i = 2 ∨ i = 3 ∨ i = 4 ∨ i = 5 ∨ i = 6 by omega) with rfl | rfl | rfl | rfl | rfl | rfl | rfl <;> exact hs _ (by decide +kernel)) (fun i hi => by rcases (show i = 0 ∨ i = 1 ∨ i = 2 ∨ i = 3 ∨ i = 4 ∨ i = 5 ∨ i = 6 by omega) with rfl | rfl | rfl | rfl | rfl | rfl | rfl <;> exact hs _ (by decide +kernel)) ?_ ?_ hA
  · intro i hi j hj
    rcases (show i = 0 ∨ i = 1 ∨ i = 2 ∨ i = 3 ∨ i = 4 ∨ i = 5 ∨ i = 6 by omega) with rfl | rfl | rfl | rfl | rfl | rfl | rfl
    · have hj : j < 5 := hj
      rcases (show j = 0 ∨ j = 1 ∨ j = 2 ∨ j = 3 ∨ j = 4 by omega) with rfl | rfl | rfl | rfl | rfl <;> exact hs _ (by decide +kernel)
    · have hj : j < 5 := hj
      rcases (show j = 0 ∨ j = 1 ∨ j = 2 ∨ j = 3 ∨ j = 4 by omega) with rfl | rfl | rfl | rfl | rfl <;> exact hs _ (by decide +kernel)
    · have hj : j < 4 := hj
      rcases (show j = 0 ∨ j = 1 ∨ j = 2 ∨ j = 3 by omega) with rfl | rfl | rfl | rfl <;> exact hs _ (by decide +kernel)
    · have hj : j < 4 := hj
      rcases (show j = 0 ∨ j = 1 ∨ j = 2 ∨ j = 3 by omega) with rfl | rfl | rfl | rfl <;> exact hs _ (by decide +kernel)
    · have hj : j < 6 := hj
      rcases (show j = 0 ∨ j = 1 ∨ j = 2 ∨ j = 3 ∨ j = 4 ∨ j = 5 by omega) with rfl | rfl | rfl | rfl | rfl | rfl <;> exact hs _ (by decide +kernel)
    · have hj : j < 5 := hj
      rcases (show j = 0 ∨ j = 1 ∨ j = 2 ∨ j = 3 ∨ j = 4 by omega) with rfl | rfl | rfl | rfl | rfl <;> exact hs _ (by decide +kernel)
    · have hj : j < 6 := hj
      rcases (show j = 0 ∨ j = 1 ∨ j = 2 ∨ j = 3 ∨ j = 4 ∨ j = 5 by omega) with rfl | rfl | rfl | rfl | rfl | rfl <;> exact hs _ (by decide +kernel)
  · intro i j hi hj hij
    rcases (show i = 0 ∨ i = 1 ∨ i = 2 ∨ i = 3 ∨ i = 4 ∨ i = 5 ∨ i = 6 by omega) with rfl | rfl | rfl | rfl | rfl | rfl | rfl <;> rcases (show j = 0 ∨ j = 1 ∨ j = 2 ∨ j = 3 ∨ j = 4 ∨ j = 5 ∨ j = 6 by omega) with rfl | rfl | rfl | rfl | rfl | rfl | rfl <;> first | exact absurd rfl hij | exact Or.inl (hs _ (by decide +kernel)) | exact Or.inr (hs _ (by decide +kernel))
set_option maxHeartbeats 4000000 in
set_option maxRecDepth 100000 in
theorem lw_sg {s : State} {b : Nat} (hts : ∀ w ∈ lw_tbl, w.before #[Value.ref b] s = true) (hgv : (Jvm.Cond.and given_1 narrow_1).before #[Value.ref b] s = true) : ∃ sK sV tS : Nat → Nat, px_SG sK sV tS (fun q : Nat => s.heap.size ≤ q) s s.heap := by
  have hs := flat_of_before _ hgv
  have hA : ∀ a : Nat, a < s.heap.size → ¬ (fun q : Nat => s.heap.size ≤ q) a := fun a h => Nat.not_le.mpr h
  obtain ⟨sK, sV, hS1, hS2⟩ := lw_str hgv hA
  obtain ⟨t0, e0, x0, z0⟩ := px_Xof (tm := .static "TagReader" "RULES_AT_FIRST" "[I") (N := 9) (f := px_ST 0) (by decide) (hs _ (by decide +kernel)) (hs _ (by decide +kernel)) (fun j hj => by rcases (show j = 0 ∨ j = 1 ∨ j = 2 ∨ j = 3 ∨ j = 4 ∨ j = 5 ∨ j = 6 ∨ j = 7 ∨ j = 8 by omega) with rfl | rfl | rfl | rfl | rfl | rfl | rfl | rfl | rfl <;> exact hs _ (by decide +kernel))
  obtain ⟨t1, e1, x1, z1⟩ := px_Xof (tm := .static "TagReader" "LINE_NUMBERS" "[I") (N := 7) (f := px_ST 1) (by decide) (hs _ (by decide +kernel)) (hs _ (by decide +kernel)) (fun j hj => by rcases (show j = 0 ∨ j = 1 ∨ j = 2 ∨ j = 3 ∨ j = 4 ∨ j = 5 ∨ j = 6 by omega) with rfl | rfl | rfl | rfl | rfl | rfl | rfl <;> exact hs _ (by decide +kernel))
  obtain ⟨t2, e2, x2, z2⟩ := px_Xof (tm := .static "TagReader" "LINE_RULE" "[I") (N := 7) (f := px_ST 2) (by decide) (hs _ (by decide +kernel)) (hs _ (by decide +kernel)) (fun j hj => by rcases (show j = 0 ∨ j = 1 ∨ j = 2 ∨ j = 3 ∨ j = 4 ∨ j = 5 ∨ j = 6 by omega) with rfl | rfl | rfl | rfl | rfl | rfl | rfl <;> exact hs _ (by decide +kernel))
  obtain ⟨t3, e3, x3, z3⟩ := px_Xof (tm := .static "TagReader" "RULES_LEAST" "[I") (N := 9) (f := px_ST 3) (by decide) (hs _ (by decide +kernel)) (hs _ (by decide +kernel)) (fun j hj => by rcases (show j = 0 ∨ j = 1 ∨ j = 2 ∨ j = 3 ∨ j = 4 ∨ j = 5 ∨ j = 6 ∨ j = 7 ∨ j = 8 by omega) with rfl | rfl | rfl | rfl | rfl | rfl | rfl | rfl | rfl <;> exact hs _ (by decide +kernel))
  obtain ⟨t4, e4, x4, z4⟩ := px_Xof (tm := .static "TagReader" "RULES_MOST" "[I") (N := 9) (f := px_ST 4) (by decide) (hs _ (by decide +kernel)) (hs _ (by decide +kernel)) (fun j hj => by rcases (show j = 0 ∨ j = 1 ∨ j = 2 ∨ j = 3 ∨ j = 4 ∨ j = 5 ∨ j = 6 ∨ j = 7 ∨ j = 8 by omega) with rfl | rfl | rfl | rfl | rfl | rfl | rfl | rfl | rfl <;> exact hs _ (by decide +kernel))
  refine ⟨sK, sV, (fun k => match k with
    | 0 => t0
    | 1 => t1
    | 2 => t2
    | 3 => t3
    | _ => t4), ?_, hS1, va_Zof (hts (.laysStatic "java/lang/String" "COMPACT_STRINGS" "Z") (List.mem_of_getElem? (i := 625) (by decide +kernel))) (hts (.initialized "java/lang/String") (List.mem_of_getElem? (i := 71) (by decide +kernel))) (va_eqi (hs _ (by decide +kernel))) hA, va_Zqof (hts (.laysStatic "jdk/internal/util/Preconditions" "SIOOBE_FORMATTER" "Ljava/util/function/BiFunction;") (List.mem_of_getElem? (i := 641) (by decide +kernel))) (hts (.initialized "jdk/internal/util/Preconditions") (List.mem_of_getElem? (i := 73) (by decide +kernel))) (hs _ (by decide +kernel)) hA, ?_⟩
  · intro k hk
    rcases (show k = 0 ∨ k = 1 ∨ k = 2 ∨ k = 3 ∨ k = 4 ∨ k = 5 ∨ k = 6 by omega) with rfl | rfl | rfl | rfl | rfl | rfl | rfl
    · exact vk_R.of (hts (.stringRef RX7 69 "frame") (List.mem_of_getElem? (i := 605) (by decide +kernel))) (hS2 0 (by decide))
    · exact vk_R.of (hts (.stringRef RX7 71 "least") (List.mem_of_getElem? (i := 606) (by decide +kernel))) (hS2 1 (by decide))
    · exact vk_R.of (hts (.stringRef RX7 73 "most") (List.mem_of_getElem? (i := 607) (by decide +kernel))) (hS2 2 (by decide))
    · exact vk_R.of (hts (.stringRef RX7 75 "grow") (List.mem_of_getElem? (i := 608) (by decide +kernel))) (hS2 3 (by decide))
    · exact vk_R.of (hts (.stringRef RX7 77 "shrink") (List.mem_of_getElem? (i := 609) (by decide +kernel))) (hS2 4 (by decide))
    · exact vk_R.of (hts (.stringRef RX7 79 "above") (List.mem_of_getElem? (i := 610) (by decide +kernel))) (hS2 5 (by decide))
    · exact vk_R.of (hts (.stringRef RX7 81 "rounds") (List.mem_of_getElem? (i := 611) (by decide +kernel))) (hS2 6 (by decide))
  · intro k hk
    rcases (show k = 0 ∨ k = 1 ∨ k = 2 ∨ k = 3 ∨ k = 4 by omega) with rfl | rfl | rfl | rfl | rfl
    · exact ⟨va_Zref (hts (.laysStatic "TagReader" "RULES_AT_FIRST" "[I") (List.mem_of_getElem? (i := 227) (by decide +kernel))) (hts (.initialized "TagReader") (List.mem_of_getElem? (i := 57) (by decide +kernel))) e0 hA, x0, z0, hA _ z0, va_Nw.of rfl (hts (.fieldLinkNest RX8 9 RX10 "RULES_AT_FIRST" "[I" RX10) (List.mem_of_getElem? (i := 226) (by decide +kernel)))⟩
    · exact ⟨va_Zref (hts (.laysStatic "TagReader" "LINE_NUMBERS" "[I") (List.mem_of_getElem? (i := 690) (by decide +kernel))) (hts (.initialized "TagReader") (List.mem_of_getElem? (i := 57) (by decide +kernel))) e1 hA, x1, z1, hA _ z1, va_Nw.of rfl (hts (.fieldLinkNest RX8 75 RX10 "LINE_NUMBERS" "[I" RX10) (List.mem_of_getElem? (i := 689) (by decide +kernel)))⟩
    · exact ⟨va_Zref (hts (.laysStatic "TagReader" "LINE_RULE" "[I") (List.mem_of_getElem? (i := 692) (by decide +kernel))) (hts (.initialized "TagReader") (List.mem_of_getElem? (i := 57) (by decide +kernel))) e2 hA, x2, z2, hA _ z2, va_Nw.of rfl (hts (.fieldLinkNest RX8 78 RX10 "LINE_RULE" "[I" RX10) (List.mem_of_getElem? (i := 691) (by decide +kernel)))⟩
    · exact ⟨va_Zref (hts (.laysStatic "TagReader" "RULES_LEAST" "[I") (List.mem_of_getElem? (i := 698) (by decide +kernel))) (hts (.initialized "TagReader") (List.mem_of_getElem? (i := 57) (by decide +kernel))) e3 hA, x3, z3, hA _ z3, va_Nw.of rfl (hts (.fieldLinkNest RX8 98 RX10 "RULES_LEAST" "[I" RX10) (List.mem_of_getElem? (i := 697) (by decide +kernel)))⟩
    · exact ⟨va_Zref (hts (.laysStatic "TagReader" "RULES_MOST" "[I") (List.mem_of_getElem? (i := 700) (by decide +kernel))) (hts (.initialized "TagReader") (List.mem_of_getElem? (i := 57) (by decide +kernel))) e4 hA, x4, z4, hA _ z4, va_Nw.of rfl (hts (.fieldLinkNest RX8 101 RX10 "RULES_MOST" "[I" RX10) (List.mem_of_getElem? (i := 699) (by decide +kernel)))⟩
