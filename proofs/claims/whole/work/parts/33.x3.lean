/-! TagReader.alone(IIII)J -/
def pX10_alone (v1 : Int32) (v2 : Int32) (v3 : Int32) (v4 : Int32) (od_row : Nat → Int64) : Option (Int64 × (Nat → Int64)) := px_b (pX10_within v1 (1 : Int32) (12 : Int32)) (fun o_1 => (if o_1 = (0 : Int32) then some ((-1 : Int64), od_row) else px_b (pX10_within v2 (1 : Int32) (12 : Int32)) (fun o_3 => (if o_3 = (0 : Int32) then some ((-1 : Int64), od_row) else px_b (pX10_within v3 (0 : Int32) (12 : Int32)) (fun o_5 => (if o_5 = (0 : Int32) then some ((-1 : Int64), od_row) else px_b (pX10_within v4 (0 : Int32) (1 : Int32)) (fun o_7 => (if o_7 = (0 : Int32) then some ((-1 : Int64), od_row) else px_b (pX3_waysWithAlone v1 v2 v3 od_row) (fun o_9 => px_b (pX10_power (Int32.toInt64 v1) v2) (fun o_10 => px_b (pX10_partOfFraction o_9.1 o_10 v4) (fun o_11 => some (o_11, o_9.2))))))))))))
abbrev wdX10_alone (cyI cyZ cyJ cyB cyO : ClassId) (h_x h_tg h_cr h_la h_sp a_x_splitRow h_tp h_tx h_fr h_se h_od h_kn a_x_sheets a_od_row : Nat) (x_n : Int32) (x_blocker : Int32) (x_blockerBits : Int32) (x_tornBy : Int32) (od_row : Nat → Int64) (r_la r_sp : Nat) : va_W := [(h_x, .inr (10, [.int x_n, .int x_blocker, .int x_blockerBits, .int x_tornBy, .ref h_tg, .ref h_cr, .ref (r_la), .ref (r_sp), .ref a_x_splitRow, .ref h_tp, .ref h_tx, .ref h_fr, .ref h_se, .ref h_od, .ref h_kn, .ref a_x_sheets])), (h_od, .inr (3, [.ref a_od_row])), (a_od_row, .inl (cyJ, 17, .inr (.inl od_row)))]
/-! TagReader.mean(III)J -/
def pX10_mean (v1 : Int32) (v2 : Int32) (v3 : Int32) : Option (Int64) := px_b (pX10_within v1 (1 : Int32) (12 : Int32)) (fun o_1 => (if o_1 = (0 : Int32) then some (-1 : Int64) else px_b (pX10_within v2 (1 : Int32) (12 : Int32)) (fun o_3 => (if o_3 = (0 : Int32) then some (-1 : Int64) else px_b (pX10_within v3 (0 : Int32) (1 : Int32)) (fun o_5 => (if o_5 = (0 : Int32) then some (-1 : Int64) else px_b (pX10_power (Int32.toInt64 (v1 - (1 : Int32))) (v2 - (1 : Int32))) (fun o_7 => px_b (pX10_power (Int32.toInt64 v1) (v2 - (1 : Int32))) (fun o_8 => px_b (pX10_partOfFraction ((Int32.toInt64 v2) * o_7) o_8 v3) (fun o_9 => some o_9)))))))))
abbrev wdX10_mean (cyI cyZ cyJ cyB cyO : ClassId) (h_x h_tg h_cr h_la h_sp a_x_splitRow h_tp h_tx h_fr h_se h_od h_kn a_x_sheets : Nat) (x_n : Int32) (x_blocker : Int32) (x_blockerBits : Int32) (x_tornBy : Int32) (r_la r_sp : Nat) : va_W := [(h_x, .inr (10, [.int x_n, .int x_blocker, .int x_blockerBits, .int x_tornBy, .ref h_tg, .ref h_cr, .ref (r_la), .ref (r_sp), .ref a_x_splitRow, .ref h_tp, .ref h_tx, .ref h_fr, .ref h_se, .ref h_od, .ref h_kn, .ref a_x_sheets]))]
/-! TagReader.best(I)I -/
def pX10_best_15B (v1 : Int32) (K_15 : Int32 → Int32 → Option (Int32)) (v2 : Int32) (v3 : Int32) : Option (Int32) := (if (64 : Int32) < v3 then some v2 else px_b (pX10_power (Int32.toInt64 (v3 - (1 : Int32))) (v1 - (1 : Int32))) (fun o_4 => px_b (pX10_power (Int32.toInt64 v2) v1) (fun o_5 => px_b (pX10_power (Int32.toInt64 (v2 - (1 : Int32))) (v1 - (1 : Int32))) (fun o_6 => px_b (pX10_power (Int32.toInt64 v3) v1) (fun o_7 => (if (lg_cmp (o_4 * o_5) (o_6 * o_7)) ≤ (0 : Int32) then K_15 v2 (v3 + (1 : Int32)) else K_15 v3 (v3 + (1 : Int32))))))))
def pX10_best_15 (v1 : Int32) : Nat → Int32 → Int32 → Option (Int32)
  | 0, _, _ => none
  | n + 1, v2, v3 => pX10_best_15B v1 (pX10_best_15 v1 n) v2 v3
def pX10_best (v1 : Int32) : Option (Int32) := px_b (pX10_within v1 (1 : Int32) (5 : Int32)) (fun o_1 => (if o_1 = (0 : Int32) then some (-1 : Int32) else pX10_best_15 v1 px_FU (1 : Int32) (2 : Int32)))
abbrev wdX10_best (cyI cyZ cyJ cyB cyO : ClassId) (h_x h_tg h_cr h_la h_sp a_x_splitRow h_tp h_tx h_fr h_se h_od h_kn a_x_sheets : Nat) (x_n : Int32) (x_blocker : Int32) (x_blockerBits : Int32) (x_tornBy : Int32) (r_la r_sp : Nat) : va_W := [(h_x, .inr (10, [.int x_n, .int x_blocker, .int x_blockerBits, .int x_tornBy, .ref h_tg, .ref h_cr, .ref (r_la), .ref (r_sp), .ref a_x_splitRow, .ref h_tp, .ref h_tx, .ref h_fr, .ref h_se, .ref h_od, .ref h_kn, .ref a_x_sheets]))]
/-! TagReader.guess(III)I -/
def pX10_guess (v1 : Int32) (v2 : Int32) (v3 : Int32) (od_row : Nat → Int64) : Option (Int32 × (Nat → Int64)) := px_b (pX10_isShow v1 v2 v3) (fun o_1 => (if o_1 = (0 : Int32) then some ((-1 : Int32), od_row) else px_b (pX3_likeliest v1 v2 v3 od_row) (fun o_3 => some (o_3.1, o_3.2))))
abbrev wdX10_guess (cyI cyZ cyJ cyB cyO : ClassId) (h_x h_tg h_cr h_la h_sp a_x_splitRow h_tp h_tx h_fr h_se h_od h_kn a_x_sheets a_od_row : Nat) (x_n : Int32) (x_blocker : Int32) (x_blockerBits : Int32) (x_tornBy : Int32) (od_row : Nat → Int64) (r_la r_sp : Nat) : va_W := [(h_x, .inr (10, [.int x_n, .int x_blocker, .int x_blockerBits, .int x_tornBy, .ref h_tg, .ref h_cr, .ref (r_la), .ref (r_sp), .ref a_x_splitRow, .ref h_tp, .ref h_tx, .ref h_fr, .ref h_se, .ref h_od, .ref h_kn, .ref a_x_sheets])), (h_od, .inr (3, [.ref a_od_row])), (a_od_row, .inl (cyJ, 17, .inr (.inl od_row)))]
/-! TagReader.ways(IIII)J -/
def pX10_ways (v1 : Int32) (v2 : Int32) (v3 : Int32) (v4 : Int32) (od_row : Nat → Int64) : Option (Int64 × (Nat → Int64)) := px_b (pX10_within v1 (0 : Int32) (16 : Int32)) (fun o_1 => (if o_1 = (0 : Int32) then some ((-1 : Int64), od_row) else px_b (pX10_isShow v2 v3 v4) (fun o_3 => (if o_3 = (0 : Int32) then some ((-1 : Int64), od_row) else px_b (pX3_fillRow v4 v1 (0 : Int32) od_row) (fun o_5 => px_b (pX3_waysToShow v1 v2 v3 v4 o_5) (fun o_6 => some (o_6, o_5)))))))
abbrev wdX10_ways (cyI cyZ cyJ cyB cyO : ClassId) (h_x h_tg h_cr h_la h_sp a_x_splitRow h_tp h_tx h_fr h_se h_od h_kn a_x_sheets a_od_row : Nat) (x_n : Int32) (x_blocker : Int32) (x_blockerBits : Int32) (x_tornBy : Int32) (od_row : Nat → Int64) (r_la r_sp : Nat) : va_W := [(h_x, .inr (10, [.int x_n, .int x_blocker, .int x_blockerBits, .int x_tornBy, .ref h_tg, .ref h_cr, .ref (r_la), .ref (r_sp), .ref a_x_splitRow, .ref h_tp, .ref h_tx, .ref h_fr, .ref h_se, .ref h_od, .ref h_kn, .ref a_x_sheets])), (h_od, .inr (3, [.ref a_od_row])), (a_od_row, .inl (cyJ, 17, .inr (.inl od_row)))]
/-! TagReader.know(I)I -/
def pX10_know (v1 : Int32) (x_n : Int32) (kn_size : Int32) (kn_numbers : Nat → Int32) : Option (Int32 × Int32 × (Nat → Int32)) := px_b (pX10_isNumber v1 x_n) (fun o_1 => (if o_1 = (0 : Int32) then some ((-1 : Int32), kn_size, kn_numbers) else px_b (pX2_has v1 kn_size kn_numbers) (fun o_3 => (if o_3 = (0 : Int32) then (if kn_size < (16 : Int32) then px_b (pX2_add v1 kn_size kn_numbers) (fun o_6 => some (o_6.1, o_6.1, o_6.2)) else some ((-3 : Int32), kn_size, kn_numbers)) else some ((-1 : Int32), kn_size, kn_numbers)))))
abbrev wdX10_know (cyI cyZ cyJ cyB cyO : ClassId) (h_x h_tg h_cr h_la h_sp a_x_splitRow h_tp h_tx h_fr h_se h_od h_kn a_x_sheets a_kn_numbers a_kn_slots : Nat) (x_n : Int32) (x_blocker : Int32) (x_blockerBits : Int32) (x_tornBy : Int32) (kn_size : Int32) (kn_numbers : Nat → Int32) (kn_slots : Nat → Int32) (r_la r_sp : Nat) : va_W := [(h_x, .inr (10, [.int x_n, .int x_blocker, .int x_blockerBits, .int x_tornBy, .ref h_tg, .ref h_cr, .ref (r_la), .ref (r_sp), .ref a_x_splitRow, .ref h_tp, .ref h_tx, .ref h_fr, .ref h_se, .ref h_od, .ref h_kn, .ref a_x_sheets])), (h_kn, .inr (2, [.ref a_kn_numbers, .ref a_kn_slots, .int kn_size])), (a_kn_numbers, .inl (cyI, 16, .inl kn_numbers)), (a_kn_slots, .inl (cyI, 16, .inl kn_slots))]
/-! TagReader.forget()I -/
def pX10_forget (kn_size : Int32) : Option (Int32 × Int32) := some (kn_size, (0 : Int32))
abbrev wdX10_forget (cyI cyZ cyJ cyB cyO : ClassId) (h_x h_tg h_cr h_la h_sp a_x_splitRow h_tp h_tx h_fr h_se h_od h_kn a_x_sheets a_kn_numbers a_kn_slots : Nat) (x_n : Int32) (x_blocker : Int32) (x_blockerBits : Int32) (x_tornBy : Int32) (kn_size : Int32) (kn_numbers : Nat → Int32) (kn_slots : Nat → Int32) (r_la r_sp : Nat) : va_W := [(h_x, .inr (10, [.int x_n, .int x_blocker, .int x_blockerBits, .int x_tornBy, .ref h_tg, .ref h_cr, .ref (r_la), .ref (r_sp), .ref a_x_splitRow, .ref h_tp, .ref h_tx, .ref h_fr, .ref h_se, .ref h_od, .ref h_kn, .ref a_x_sheets])), (h_kn, .inr (2, [.ref a_kn_numbers, .ref a_kn_slots, .int kn_size])), (a_kn_numbers, .inl (cyI, 16, .inl kn_numbers)), (a_kn_slots, .inl (cyI, 16, .inl kn_slots))]
/-! TagReader.missing(III)I -/
def pX10_missing (v1 : Int32) (v2 : Int32) (v3 : Int32) (kn_size : Int32) (kn_numbers : Nat → Int32) : Option (Int32) := px_b (pX10_within v1 (1 : Int32) (30 : Int32)) (fun o_1 => (if o_1 = (0 : Int32) then some (-1 : Int32) else px_b (pX10_lowBits v1) (fun o_3 => px_b (pX10_within v3 (0 : Int32) o_3) (fun o_4 => (if o_4 = (0 : Int32) then some (-1 : Int32) else px_b (pX2_notIn v3 v1 v2 kn_size kn_numbers) (fun o_6 => some o_6))))))
abbrev wdX10_missing (cyI cyZ cyJ cyB cyO : ClassId) (h_x h_tg h_cr h_la h_sp a_x_splitRow h_tp h_tx h_fr h_se h_od h_kn a_x_sheets a_kn_numbers a_kn_slots : Nat) (x_n : Int32) (x_blocker : Int32) (x_blockerBits : Int32) (x_tornBy : Int32) (kn_size : Int32) (kn_numbers : Nat → Int32) (kn_slots : Nat → Int32) (r_la r_sp : Nat) : va_W := [(h_x, .inr (10, [.int x_n, .int x_blocker, .int x_blockerBits, .int x_tornBy, .ref h_tg, .ref h_cr, .ref (r_la), .ref (r_sp), .ref a_x_splitRow, .ref h_tp, .ref h_tx, .ref h_fr, .ref h_se, .ref h_od, .ref h_kn, .ref a_x_sheets])), (h_kn, .inr (2, [.ref a_kn_numbers, .ref a_kn_slots, .int kn_size])), (a_kn_numbers, .inl (cyI, 16, .inl kn_numbers)), (a_kn_slots, .inl (cyI, 16, .inl kn_slots))]
/-! TagReader.seen(II)I -/
def pX10_seen (v1 : Int32) (v2 : Int32) (kn_size : Int32) (kn_numbers : Nat → Int32) (kn_slots : Nat → Int32) : Option (Int32 × (Nat → Int32)) := px_b (pX10_within v1 (1 : Int32) (64 : Int32)) (fun o_1 => (if o_1 = (0 : Int32) then some ((-1 : Int32), kn_slots) else px_b (pX2_aloneOnes v1 v2 kn_size kn_numbers kn_slots) (fun o_3 => some (o_3.1, o_3.2))))
abbrev wdX10_seen (cyI cyZ cyJ cyB cyO : ClassId) (h_x h_tg h_cr h_la h_sp a_x_splitRow h_tp h_tx h_fr h_se h_od h_kn a_x_sheets a_kn_numbers a_kn_slots : Nat) (x_n : Int32) (x_blocker : Int32) (x_blockerBits : Int32) (x_tornBy : Int32) (kn_size : Int32) (kn_numbers : Nat → Int32) (kn_slots : Nat → Int32) (r_la r_sp : Nat) : va_W := [(h_x, .inr (10, [.int x_n, .int x_blocker, .int x_blockerBits, .int x_tornBy, .ref h_tg, .ref h_cr, .ref (r_la), .ref (r_sp), .ref a_x_splitRow, .ref h_tp, .ref h_tx, .ref h_fr, .ref h_se, .ref h_od, .ref h_kn, .ref a_x_sheets])), (h_kn, .inr (2, [.ref a_kn_numbers, .ref a_kn_slots, .int kn_size])), (a_kn_numbers, .inl (cyI, 16, .inl kn_numbers)), (a_kn_slots, .inl (cyI, 16, .inl kn_slots))]
/-! TagReader.alone(IIII)J -/
theorem hvX10_alone : yX10_alone.cls = RX10 ∧ yX10_alone.cls ≠ "java/lang/invoke/MethodHandle" ∧ yX10_alone.cls ≠ "java/lang/invoke/VarHandle" ∧ (parseMethodDescriptor yX10_alone.desc).map (fun d => d.parameters.length) = some 4 := by decide +kernel
theorem kX10_alone_1 : (.constantLong RX10 236 (-1) : Cond) ∈ wsX10_alone := List.mem_of_getElem? (i := 1) rfl
theorem fX10_alone_X10 : ∀ w ∈ u_ws RX10 TX10 16, w ∈ wsX10_alone := fun _ h => List.mem_cons_of_mem _ (List.mem_append_left _ (List.mem_append_right _ h))
theorem kX10_alone_2 : (.fieldLink RX10 81 "TagReader" "odds" "LTagReader$Odds;" : Cond) ∈ wsX10_alone := List.mem_of_getElem? (i := 2) rfl
set_option maxHeartbeats 4000000 in
set_option maxRecDepth 100000 in
theorem ccX10_alone (l : Launch) (dC : Nat → ClassId) (dI : Nat → Nat → Nat) (cyI cyZ cyJ cyB cyO : ClassId) (sz : Nat) (h_x h_tg h_cr h_la h_sp a_x_splitRow h_tp h_tx h_fr h_se h_od h_kn a_x_sheets a_od_row : Nat) (x_n : Int32) (x_blocker : Int32) (x_blockerBits : Int32) (x_tornBy : Int32) (od_row : Nat → Int64) (v1 : Int32) (v2 : Int32) (v3 : Int32) (v4 : Int32) (out : Int64 × (Nat → Int64)) (hp : pX10_alone v1 v2 v3 v4 od_row = some out) : Met l yX10_alone wsX10_alone ({ frames := 4, cells := 0, slots := 0, locals := 97 } : Room) (px_PW (dC, dI) (px_TY cyI cyZ cyJ cyB cyO) [.ref h_x, .int v1, .int v2, .int v3, .int v4] (wdX10_alone cyI cyZ cyJ cyB cyO h_x h_tg h_cr h_la h_sp a_x_splitRow h_tp h_tx h_fr h_se h_od h_kn a_x_sheets a_od_row x_n x_blocker x_blockerBits x_tornBy od_row h_la h_sp) sz) (px_QW (some (.long out.1)) (dC, dI) (wdX10_alone cyI cyZ cyJ cyB cyO h_x h_tg h_cr h_la h_sp a_x_splitRow h_tp h_tx h_fr h_se h_od h_kn a_x_sheets a_od_row x_n x_blocker x_blockerBits x_tornBy od_row h_la h_sp) (wdX10_alone cyI cyZ cyJ cyB cyO h_x h_tg h_cr h_la h_sp a_x_splitRow h_tp h_tx h_fr h_se h_od h_kn a_x_sheets a_od_row x_n x_blocker x_blockerBits x_tornBy out.2 h_la h_sp) sz) 0 0 (va_A (wdX10_alone cyI cyZ cyJ cyB cyO h_x h_tg h_cr h_la h_sp a_x_splitRow h_tp h_tx h_fr h_se h_od h_kn a_x_sheets a_od_row x_n x_blocker x_blockerBits x_tornBy od_row h_la h_sp) sz) := by
  refine Met.ofW (cc := cX10_alone) (maxL := 5) (ret := (some .long)) (by decide) rfl ?_
  intro p e s m args below meth c s₁ B hml hv
  obtain ⟨rfl, hsz, hP, hK, hD0, hN⟩ := hv
  have hx := B.exec
  have hb := B.bytes
  have hr := B.returns
  have hts := atoms_spec (ws := wsX10_alone) B.pre
  have hown : s.vm.findClass RX10 = some m.cls := findClass_of_methodNamed B.named
  have hlocks := B.notSynchronized
  subst hsz
  have hD := hD0.self (sz := s.heap.size)
  generalize hAe : va_A (wdX10_alone cyI cyZ cyJ cyB cyO h_x h_tg h_cr h_la h_sp a_x_splitRow h_tp h_tx h_fr h_se h_od h_kn a_x_sheets a_od_row x_n x_blocker x_blockerBits x_tornBy od_row h_la h_sp) s.heap.size = A at hD ⊢
  have hA : ∀ q : Nat, s.heap.size ≤ q → A q := fun q h => by rw [← hAe]; exact Or.inr h
  have hS : va_S A s.heap s.heap [] := va_S.rf
  have hq := px_QWe (v := (some (.long out.1))) (D := (dC, dI)) (w1 := (wdX10_alone cyI cyZ cyJ cyB cyO h_x h_tg h_cr h_la h_sp a_x_splitRow h_tp h_tx h_fr h_se h_od h_kn a_x_sheets a_od_row x_n x_blocker x_blockerBits x_tornBy out.2 h_la h_sp)) (st := s) hAe
  generalize px_QW (some (.long out.1)) (dC, dI) (wdX10_alone cyI cyZ cyJ cyB cyO h_x h_tg h_cr h_la h_sp a_x_splitRow h_tp h_tx h_fr h_se h_od h_kn a_x_sheets a_od_row x_n x_blocker x_blockerBits x_tornBy od_row h_la h_sp) (wdX10_alone cyI cyZ cyJ cyB cyO h_x h_tg h_cr h_la h_sp a_x_splitRow h_tp h_tx h_fr h_se h_od h_kn a_x_sheets a_od_row x_n x_blocker x_blockerBits x_tornBy out.2 h_la h_sp) s.heap.size = Qc at hq ⊢
  have hQ : ∀ (H : Heap) (locs : List Loc) (pc : Nat) (ls : Array Slot), va_P (dC, dI) vwCl (wdX10_alone cyI cyZ cyJ cyB cyO h_x h_tg h_cr h_la h_sp a_x_splitRow h_tp h_tx h_fr h_se h_od h_kn a_x_sheets a_od_row x_n x_blocker x_blockerBits x_tornBy out.2 h_la h_sp) H → va_D A (wdX10_alone cyI cyZ cyJ cyB cyO h_x h_tg h_cr h_la h_sp a_x_splitRow h_tp h_tx h_fr h_se h_od h_kn a_x_sheets a_od_row x_n x_blocker x_blockerBits x_tornBy out.2 h_la h_sp) → va_S A s.heap H locs → decode cX10_alone pc = .ok (.lreturn, 1) → W p l e ({ frames := 4, cells := 0, slots := 0, locals := 97 } : Room) s m (([.ref h_x, .int v1, .int v2, .int v3, .int v4] : List Value).toArray) below meth c H locs 0 0 (MQ below Qc (([.ref h_x, .int v1, .int v2, .int v3, .int v4] : List Value).toArray) s 0 0 A) (F0 m pc ls [.long out.1]) := fun H locs pc ls hP hD hS hd => W.lret hx hb hr (fun t ht hW => hq _ t (by rw [ht]; exact hP) hD (hS.F ht)) hS.2.2 hd
  generalize MQ below Qc (([.ref h_x, .int v1, .int v2, .int v3, .int v4] : List Value).toArray) s 0 0 A = Q at hQ ⊢
  have hl := lv_entry [.ref h_x, .int v1, .int v2, .int v3, .int v4] (n := 5) (Nat.le_of_ble_eq_true rfl)
  rw [lg_entry_eq]
  generalize (lg_sl [.ref h_x, .int v1, .int v2, .int v3, .int v4] ++ List.replicate (5 - (lg_sl [.ref h_x, .int v1, .int v2, .int v3, .int v4]).length) Slot.unset).toArray = ls at hl ⊢
  have hl : lv_has ls 5 [(0, .ref h_x), (1, .int v1), (2, .int v2), (3, .int v3), (4, .int v4)] := hl
  unfold pX10_alone at hp
  refine lv_iload_n hx hb dX10_alone_0 rfl (lv_at hl 1 rfl) ?_
  refine lv_iconst (v := (1 : Int32)) hx hb dX10_alone_1 (by decide) ?_
  refine lv_bipush (v := (12 : Int32)) hx hb dX10_alone_2 (by decide) ?_
  obtain ⟨o_1, ho_1, hp⟩ := px_b_at hp
  refine px_callR (v := .int o_1) (va_runS (As := [.int v1, .int (1 : Int32), .int (12 : Int32)]) (rest := []) ⟨hx, hb, hml, hown, hts⟩ (ccX10_within l dC dI cyI cyZ cyJ cyB cyO v1 (1 : Int32) (12 : Int32) o_1 ho_1) (va_cwS 3 hts gX10_alone_X10_within rfl rfl rfl hsX10_within ⟨Nat.le_of_ble_eq_true rfl, Nat.le_of_ble_eq_true rfl⟩) (px_preR (wc := []) hK hN hP [] rfl) rfl rfl hl.1 rfl (lv_room (Nat.le_of_ble_eq_true rfl)) dX10_alone_4 ⟨Nat.zero_le _, Nat.zero_le _⟩) ?_
  refine lv_if_eq (tgt := 40) hx hb dX10_alone_7 (by decide) (fun c_2 => ?_) (fun c_2 => ?_)
  · have hp := px_t hp c_2
    refine lv_ldc2 (v := (-1 : Int64)) hx hb hown (hts _ kX10_alone_1) dX10_alone_40 ?_
    have ho := px_s hp
    subst ho
    exact hQ _ _ _ _ hP hD hS dX10_alone_43
  · have hp := px_f hp c_2
    refine lv_iload_n hx hb dX10_alone_10 rfl (lv_at hl 2 rfl) ?_
    refine lv_iconst (v := (1 : Int32)) hx hb dX10_alone_11 (by decide) ?_
    refine lv_bipush (v := (12 : Int32)) hx hb dX10_alone_12 (by decide) ?_
    obtain ⟨o_3, ho_3, hp⟩ := px_b_at hp
    refine px_callR (v := .int o_3) (va_runS (As := [.int v2, .int (1 : Int32), .int (12 : Int32)]) (rest := []) ⟨hx, hb, hml, hown, hts⟩ (ccX10_within l dC dI cyI cyZ cyJ cyB cyO v2 (1 : Int32) (12 : Int32) o_3 ho_3) (va_cwS 3 hts gX10_alone_X10_within rfl rfl rfl hsX10_within ⟨Nat.le_of_ble_eq_true rfl, Nat.le_of_ble_eq_true rfl⟩) (px_preR (wc := []) hK hN hP [] rfl) rfl rfl hl.1 rfl (lv_room (Nat.le_of_ble_eq_true rfl)) dX10_alone_14 ⟨Nat.zero_le _, Nat.zero_le _⟩) ?_
    refine lv_if_eq (tgt := 40) hx hb dX10_alone_17 (by decide) (fun c_4 => ?_) (fun c_4 => ?_)
    · have hp := px_t hp c_4
      refine lv_ldc2 (v := (-1 : Int64)) hx hb hown (hts _ kX10_alone_1) dX10_alone_40 ?_
      have ho := px_s hp
      subst ho
      exact hQ _ _ _ _ hP hD hS dX10_alone_43
    · have hp := px_f hp c_4
      refine lv_iload_n hx hb dX10_alone_20 rfl (lv_at hl 3 rfl) ?_
      refine lv_iconst (v := (0 : Int32)) hx hb dX10_alone_21 (by decide) ?_
      refine lv_bipush (v := (12 : Int32)) hx hb dX10_alone_22 (by decide) ?_
      obtain ⟨o_5, ho_5, hp⟩ := px_b_at hp
      refine px_callR (v := .int o_5) (va_runS (As := [.int v3, .int (0 : Int32), .int (12 : Int32)]) (rest := []) ⟨hx, hb, hml, hown, hts⟩ (ccX10_within l dC dI cyI cyZ cyJ cyB cyO v3 (0 : Int32) (12 : Int32) o_5 ho_5) (va_cwS 3 hts gX10_alone_X10_within rfl rfl rfl hsX10_within ⟨Nat.le_of_ble_eq_true rfl, Nat.le_of_ble_eq_true rfl⟩) (px_preR (wc := []) hK hN hP [] rfl) rfl rfl hl.1 rfl (lv_room (Nat.le_of_ble_eq_true rfl)) dX10_alone_24 ⟨Nat.zero_le _, Nat.zero_le _⟩) ?_
      refine lv_if_eq (tgt := 40) hx hb dX10_alone_27 (by decide) (fun c_6 => ?_) (fun c_6 => ?_)
      · have hp := px_t hp c_6
        refine lv_ldc2 (v := (-1 : Int64)) hx hb hown (hts _ kX10_alone_1) dX10_alone_40 ?_
        have ho := px_s hp
        subst ho
        exact hQ _ _ _ _ hP hD hS dX10_alone_43
      · have hp := px_f hp c_6
        refine lv_iload hx hb dX10_alone_30 (lv_at hl 4 rfl) ?_
        refine lv_iconst (v := (0 : Int32)) hx hb dX10_alone_32 (by decide) ?_
        refine lv_iconst (v := (1 : Int32)) hx hb dX10_alone_33 (by decide) ?_
        obtain ⟨o_7, ho_7, hp⟩ := px_b_at hp
        refine px_callR (v := .int o_7) (va_runS (As := [.int v4, .int (0 : Int32), .int (1 : Int32)]) (rest := []) ⟨hx, hb, hml, hown, hts⟩ (ccX10_within l dC dI cyI cyZ cyJ cyB cyO v4 (0 : Int32) (1 : Int32) o_7 ho_7) (va_cwS 3 hts gX10_alone_X10_within rfl rfl rfl hsX10_within ⟨Nat.le_of_ble_eq_true rfl, Nat.le_of_ble_eq_true rfl⟩) (px_preR (wc := []) hK hN hP [] rfl) rfl rfl hl.1 rfl (lv_room (Nat.le_of_ble_eq_true rfl)) dX10_alone_34 ⟨Nat.zero_le _, Nat.zero_le _⟩) ?_
        refine lv_if_ne (tgt := 44) hx hb dX10_alone_37 (by decide) (fun c_8 => ?_) (fun c_8 => ?_)
        · have hp := px_f hp c_8
          refine lv_aload_n hx hb dX10_alone_44 rfl (lv_at hl 0 rfl) ?_
          refine va_get (D := (dC, dI)) (ci := 10) (v := .ref h_od) (C := RX10) (T := TX10) (N := 16) hx hb hts fX10_alone_X10 hown hK hP 0 rfl rfl 13 (by decide) (hts _ kX10_alone_2) (fun _ h9 => h9) rfl dX10_alone_45 ?_
          refine lv_iload_n hx hb dX10_alone_48 rfl (lv_at hl 1 rfl) ?_
          refine lv_iload_n hx hb dX10_alone_49 rfl (lv_at hl 2 rfl) ?_
          refine lv_iload_n hx hb dX10_alone_50 rfl (lv_at hl 3 rfl) ?_
          obtain ⟨o_9, ho_9, hp⟩ := px_b_at hp
          refine px_callWl (r := o_9.1) (wc := (wdX3_waysWithAlone cyI cyZ cyJ cyB cyO h_od a_od_row od_row)) (wr := [(h_x, .inr (10, [.int x_n, .int x_blocker, .int x_blockerBits, .int x_tornBy, .ref h_tg, .ref h_cr, .ref h_la, .ref h_sp, .ref a_x_splitRow, .ref h_tp, .ref h_tx, .ref h_fr, .ref h_se, .ref h_od, .ref h_kn, .ref a_x_sheets]))]) (w1 := (wdX3_waysWithAlone cyI cyZ cyJ cyB cyO h_od a_od_row o_9.2)) (ws2 := (wdX10_alone cyI cyZ cyJ cyB cyO h_x h_tg h_cr h_la h_sp a_x_splitRow h_tp h_tx h_fr h_se h_od h_kn a_x_sheets a_od_row x_n x_blocker x_blockerBits x_tornBy o_9.2 h_la h_sp)) (va_runV (As := [.int v1, .int v2, .int v3]) (rest := []) ⟨hx, hb, hml, hown, hts⟩ (ccX3_waysWithAlone l dC dI cyI cyZ cyJ cyB cyO _ h_od a_od_row od_row v1 v2 v3 o_9 ho_9) (cwV 3 hts gX10_alone_X3_waysWithAlone rfl rfl rfl hvX3_waysWithAlone ⟨Nat.le_of_ble_eq_true rfl, Nat.le_of_ble_eq_true rfl⟩) (px_preWV (wc := (wdX3_waysWithAlone cyI cyZ cyJ cyB cyO h_od a_od_row od_row)) (ci := 3) (q0 := 1) hK hN hP hD [1, 2] (by decide) rfl rfl rfl) rfl rfl hl.1 rfl (lv_room (Nat.le_of_ble_eq_true rfl)) dX10_alone_51 ⟨Nat.zero_le _, Nat.zero_le _⟩) hP hD hS hA [1, 2] [0] [0, 1, 2] rfl rfl (by decide) (by decide) (by decide) rfl (fun H locs hP hD hS => ?_)
          refine lv_iload_n hx hb dX10_alone_54 rfl (lv_at hl 1 rfl) ?_
          refine lv_i2l hx hb dX10_alone_55 rfl ?_
          refine lv_iload_n hx hb dX10_alone_56 rfl (lv_at hl 2 rfl) ?_
          obtain ⟨o_10, ho_10, hp⟩ := px_b_at hp
          refine px_callR (v := .long o_10) (va_runS (As := [.long (Int32.toInt64 v1), .int v2]) (rest := [.long o_9.1]) ⟨hx, hb, hml, hown, hts⟩ (ccX10_power l dC dI cyI cyZ cyJ cyB cyO (Int32.toInt64 v1) v2 o_10 ho_10) (va_cwS 2 hts gX10_alone_X10_power rfl rfl rfl hsX10_power ⟨Nat.le_of_ble_eq_true rfl, Nat.le_of_ble_eq_true rfl⟩) (px_preR (wc := []) hK hN hP [] rfl) rfl rfl hl.1 rfl (lv_room (Nat.le_of_ble_eq_true rfl)) dX10_alone_57 ⟨Nat.zero_le _, Nat.zero_le _⟩) ?_
          refine lv_iload hx hb dX10_alone_60 (lv_at hl 4 rfl) ?_
          obtain ⟨o_11, ho_11, hp⟩ := px_b_at hp
          refine px_callR (v := .long o_11) (va_runS (As := [.long o_9.1, .long o_10, .int v4]) (rest := []) ⟨hx, hb, hml, hown, hts⟩ (ccX10_partOfFraction l dC dI cyI cyZ cyJ cyB cyO o_9.1 o_10 v4 o_11 ho_11) (va_cwS 3 hts gX10_alone_X10_partOfFraction rfl rfl rfl hsX10_partOfFraction ⟨Nat.le_of_ble_eq_true rfl, Nat.le_of_ble_eq_true rfl⟩) (px_preR (wc := []) hK hN hP [] rfl) rfl rfl hl.1 rfl (lv_room (Nat.le_of_ble_eq_true rfl)) dX10_alone_62 ⟨Nat.zero_le _, Nat.zero_le _⟩) ?_
          have ho := px_s hp
          subst ho
          exact hQ _ _ _ _ hP hD hS dX10_alone_65
        · have hp := px_t hp c_8
          refine lv_ldc2 (v := (-1 : Int64)) hx hb hown (hts _ kX10_alone_1) dX10_alone_40 ?_
          have ho := px_s hp
          subst ho
          exact hQ _ _ _ _ hP hD hS dX10_alone_43
/-! TagReader.mean(III)J -/
theorem hvX10_mean : yX10_mean.cls = RX10 ∧ yX10_mean.cls ≠ "java/lang/invoke/MethodHandle" ∧ yX10_mean.cls ≠ "java/lang/invoke/VarHandle" ∧ (parseMethodDescriptor yX10_mean.desc).map (fun d => d.parameters.length) = some 3 := by decide +kernel
theorem kX10_mean_1 : (.constantLong RX10 236 (-1) : Cond) ∈ wsX10_mean := List.mem_of_getElem? (i := 1) rfl
set_option maxHeartbeats 4000000 in
set_option maxRecDepth 100000 in
theorem ccX10_mean (l : Launch) (dC : Nat → ClassId) (dI : Nat → Nat → Nat) (cyI cyZ cyJ cyB cyO : ClassId) (h_x h_tg h_cr h_la h_sp a_x_splitRow h_tp h_tx h_fr h_se h_od h_kn a_x_sheets : Nat) (x_n : Int32) (x_blocker : Int32) (x_blockerBits : Int32) (x_tornBy : Int32) (v1 : Int32) (v2 : Int32) (v3 : Int32) (out : Int64) (hp : pX10_mean v1 v2 v3 = some out) : Met l yX10_mean wsX10_mean ({ frames := 2, cells := 0, slots := 0, locals := 56 } : Room) (px_PR (dC, dI) (px_TY cyI cyZ cyJ cyB cyO) [.ref h_x, .int v1, .int v2, .int v3] (wdX10_mean cyI cyZ cyJ cyB cyO h_x h_tg h_cr h_la h_sp a_x_splitRow h_tp h_tx h_fr h_se h_od h_kn a_x_sheets x_n x_blocker x_blockerBits x_tornBy h_la h_sp)) (px_QR (.long out)) 0 0 (fun _ => False) := by
  refine Met.ofW (cc := cX10_mean) (maxL := 4) (ret := (some .long)) (by decide) rfl ?_
  intro p e s m args below meth c s₁ B hml hv
  obtain ⟨rfl, hP, hK, hN⟩ := hv
  have hx := B.exec
  have hb := B.bytes
  have hr := B.returns
  have hts := atoms_spec (ws := wsX10_mean) B.pre
  have hown : s.vm.findClass RX10 = some m.cls := findClass_of_methodNamed B.named
  have hlocks := B.notSynchronized
  have hQ : ∀ (pc : Nat) (ls : Array Slot), decode cX10_mean pc = .ok (.lreturn, 1) → W p l e ({ frames := 2, cells := 0, slots := 0, locals := 56 } : Room) s m (([.ref h_x, .int v1, .int v2, .int v3] : List Value).toArray) below meth c s.heap [] 0 0 (MQ below (px_QR (.long out)) (([.ref h_x, .int v1, .int v2, .int v3] : List Value).toArray) s 0 0 (fun _ => False)) (F0 m pc ls [.long out]) := fun pc ls hd => W.lret hx hb hr (fun t ht hW => ⟨rfl, ht⟩) (fun q h => by cases h) hd
  generalize MQ below (px_QR (.long out)) (([.ref h_x, .int v1, .int v2, .int v3] : List Value).toArray) s 0 0 (fun _ => False) = Q at hQ ⊢
  have hl := lv_entry [.ref h_x, .int v1, .int v2, .int v3] (n := 4) (Nat.le_of_ble_eq_true rfl)
  rw [lg_entry_eq]
  generalize (lg_sl [.ref h_x, .int v1, .int v2, .int v3] ++ List.replicate (4 - (lg_sl [.ref h_x, .int v1, .int v2, .int v3]).length) Slot.unset).toArray = ls at hl ⊢
  have hl : lv_has ls 4 [(0, .ref h_x), (1, .int v1), (2, .int v2), (3, .int v3)] := hl
  unfold pX10_mean at hp
  refine lv_iload_n hx hb dX10_mean_0 rfl (lv_at hl 1 rfl) ?_
  refine lv_iconst (v := (1 : Int32)) hx hb dX10_mean_1 (by decide) ?_
  refine lv_bipush (v := (12 : Int32)) hx hb dX10_mean_2 (by decide) ?_
  obtain ⟨o_1, ho_1, hp⟩ := px_b_at hp
  refine px_callR (v := .int o_1) (va_runS (As := [.int v1, .int (1 : Int32), .int (12 : Int32)]) (rest := []) ⟨hx, hb, hml, hown, hts⟩ (ccX10_within l dC dI cyI cyZ cyJ cyB cyO v1 (1 : Int32) (12 : Int32) o_1 ho_1) (va_cwS 3 hts gX10_mean_X10_within rfl rfl rfl hsX10_within ⟨Nat.le_of_ble_eq_true rfl, Nat.le_of_ble_eq_true rfl⟩) (px_preR (wc := []) hK hN hP [] rfl) rfl rfl hl.1 rfl (lv_room (Nat.le_of_ble_eq_true rfl)) dX10_mean_4 ⟨Nat.zero_le _, Nat.zero_le _⟩) ?_
  refine lv_if_eq (tgt := 29) hx hb dX10_mean_7 (by decide) (fun c_2 => ?_) (fun c_2 => ?_)
  · have hp := px_t hp c_2
    refine lv_ldc2 (v := (-1 : Int64)) hx hb hown (hts _ kX10_mean_1) dX10_mean_29 ?_
    have ho := px_s hp
    subst ho
    exact hQ _ _ dX10_mean_32
  · have hp := px_f hp c_2
    refine lv_iload_n hx hb dX10_mean_10 rfl (lv_at hl 2 rfl) ?_
    refine lv_iconst (v := (1 : Int32)) hx hb dX10_mean_11 (by decide) ?_
    refine lv_bipush (v := (12 : Int32)) hx hb dX10_mean_12 (by decide) ?_
    obtain ⟨o_3, ho_3, hp⟩ := px_b_at hp
    refine px_callR (v := .int o_3) (va_runS (As := [.int v2, .int (1 : Int32), .int (12 : Int32)]) (rest := []) ⟨hx, hb, hml, hown, hts⟩ (ccX10_within l dC dI cyI cyZ cyJ cyB cyO v2 (1 : Int32) (12 : Int32) o_3 ho_3) (va_cwS 3 hts gX10_mean_X10_within rfl rfl rfl hsX10_within ⟨Nat.le_of_ble_eq_true rfl, Nat.le_of_ble_eq_true rfl⟩) (px_preR (wc := []) hK hN hP [] rfl) rfl rfl hl.1 rfl (lv_room (Nat.le_of_ble_eq_true rfl)) dX10_mean_14 ⟨Nat.zero_le _, Nat.zero_le _⟩) ?_
    refine lv_if_eq (tgt := 29) hx hb dX10_mean_17 (by decide) (fun c_4 => ?_) (fun c_4 => ?_)
    · have hp := px_t hp c_4
      refine lv_ldc2 (v := (-1 : Int64)) hx hb hown (hts _ kX10_mean_1) dX10_mean_29 ?_
      have ho := px_s hp
      subst ho
      exact hQ _ _ dX10_mean_32
    · have hp := px_f hp c_4
      refine lv_iload_n hx hb dX10_mean_20 rfl (lv_at hl 3 rfl) ?_
      refine lv_iconst (v := (0 : Int32)) hx hb dX10_mean_21 (by decide) ?_
      refine lv_iconst (v := (1 : Int32)) hx hb dX10_mean_22 (by decide) ?_
      obtain ⟨o_5, ho_5, hp⟩ := px_b_at hp
      refine px_callR (v := .int o_5) (va_runS (As := [.int v3, .int (0 : Int32), .int (1 : Int32)]) (rest := []) ⟨hx, hb, hml, hown, hts⟩ (ccX10_within l dC dI cyI cyZ cyJ cyB cyO v3 (0 : Int32) (1 : Int32) o_5 ho_5) (va_cwS 3 hts gX10_mean_X10_within rfl rfl rfl hsX10_within ⟨Nat.le_of_ble_eq_true rfl, Nat.le_of_ble_eq_true rfl⟩) (px_preR (wc := []) hK hN hP [] rfl) rfl rfl hl.1 rfl (lv_room (Nat.le_of_ble_eq_true rfl)) dX10_mean_23 ⟨Nat.zero_le _, Nat.zero_le _⟩) ?_
      refine lv_if_ne (tgt := 33) hx hb dX10_mean_26 (by decide) (fun c_6 => ?_) (fun c_6 => ?_)
      · have hp := px_f hp c_6
        refine lv_iload_n hx hb dX10_mean_33 rfl (lv_at hl 2 rfl) ?_
        refine lv_i2l hx hb dX10_mean_34 rfl ?_
        refine lv_iload_n hx hb dX10_mean_35 rfl (lv_at hl 1 rfl) ?_
        refine lv_iconst (v := (1 : Int32)) hx hb dX10_mean_36 (by decide) ?_
        refine lv_isub hx hb dX10_mean_37 ?_
        refine lv_i2l hx hb dX10_mean_38 rfl ?_
        refine lv_iload_n hx hb dX10_mean_39 rfl (lv_at hl 2 rfl) ?_
        refine lv_iconst (v := (1 : Int32)) hx hb dX10_mean_40 (by decide) ?_
        refine lv_isub hx hb dX10_mean_41 ?_
        obtain ⟨o_7, ho_7, hp⟩ := px_b_at hp
        refine px_callR (v := .long o_7) (va_runS (As := [.long (Int32.toInt64 (v1 - (1 : Int32))), .int (v2 - (1 : Int32))]) (rest := [.long (Int32.toInt64 v2)]) ⟨hx, hb, hml, hown, hts⟩ (ccX10_power l dC dI cyI cyZ cyJ cyB cyO (Int32.toInt64 (v1 - (1 : Int32))) (v2 - (1 : Int32)) o_7 ho_7) (va_cwS 2 hts gX10_mean_X10_power rfl rfl rfl hsX10_power ⟨Nat.le_of_ble_eq_true rfl, Nat.le_of_ble_eq_true rfl⟩) (px_preR (wc := []) hK hN hP [] rfl) rfl rfl hl.1 rfl (lv_room (Nat.le_of_ble_eq_true rfl)) dX10_mean_42 ⟨Nat.zero_le _, Nat.zero_le _⟩) ?_
        refine lv_lmul hx hb dX10_mean_45 ?_
        refine lv_iload_n hx hb dX10_mean_46 rfl (lv_at hl 1 rfl) ?_
        refine lv_i2l hx hb dX10_mean_47 rfl ?_
        refine lv_iload_n hx hb dX10_mean_48 rfl (lv_at hl 2 rfl) ?_
        refine lv_iconst (v := (1 : Int32)) hx hb dX10_mean_49 (by decide) ?_
        refine lv_isub hx hb dX10_mean_50 ?_
        obtain ⟨o_8, ho_8, hp⟩ := px_b_at hp
        refine px_callR (v := .long o_8) (va_runS (As := [.long (Int32.toInt64 v1), .int (v2 - (1 : Int32))]) (rest := [.long ((Int32.toInt64 v2) * o_7)]) ⟨hx, hb, hml, hown, hts⟩ (ccX10_power l dC dI cyI cyZ cyJ cyB cyO (Int32.toInt64 v1) (v2 - (1 : Int32)) o_8 ho_8) (va_cwS 2 hts gX10_mean_X10_power rfl rfl rfl hsX10_power ⟨Nat.le_of_ble_eq_true rfl, Nat.le_of_ble_eq_true rfl⟩) (px_preR (wc := []) hK hN hP [] rfl) rfl rfl hl.1 rfl (lv_room (Nat.le_of_ble_eq_true rfl)) dX10_mean_51 ⟨Nat.zero_le _, Nat.zero_le _⟩) ?_
        refine lv_iload_n hx hb dX10_mean_54 rfl (lv_at hl 3 rfl) ?_
        obtain ⟨o_9, ho_9, hp⟩ := px_b_at hp
        refine px_callR (v := .long o_9) (va_runS (As := [.long ((Int32.toInt64 v2) * o_7), .long o_8, .int v3]) (rest := []) ⟨hx, hb, hml, hown, hts⟩ (ccX10_partOfFraction l dC dI cyI cyZ cyJ cyB cyO ((Int32.toInt64 v2) * o_7) o_8 v3 o_9 ho_9) (va_cwS 3 hts gX10_mean_X10_partOfFraction rfl rfl rfl hsX10_partOfFraction ⟨Nat.le_of_ble_eq_true rfl, Nat.le_of_ble_eq_true rfl⟩) (px_preR (wc := []) hK hN hP [] rfl) rfl rfl hl.1 rfl (lv_room (Nat.le_of_ble_eq_true rfl)) dX10_mean_55 ⟨Nat.zero_le _, Nat.zero_le _⟩) ?_
        have ho := px_s hp
        subst ho
        exact hQ _ _ dX10_mean_58
      · have hp := px_t hp c_6
        refine lv_ldc2 (v := (-1 : Int64)) hx hb hown (hts _ kX10_mean_1) dX10_mean_29 ?_
        have ho := px_s hp
        subst ho
        exact hQ _ _ dX10_mean_32
/-! TagReader.best(I)I -/
theorem hvX10_best : yX10_best.cls = RX10 ∧ yX10_best.cls ≠ "java/lang/invoke/MethodHandle" ∧ yX10_best.cls ≠ "java/lang/invoke/VarHandle" ∧ (parseMethodDescriptor yX10_best.desc).map (fun d => d.parameters.length) = some 1 := by decide +kernel
set_option maxHeartbeats 4000000 in
set_option maxRecDepth 100000 in
theorem lcX10_best_15B {p : Program} {l : Launch} {e : Env} {s : State} {m : MethodId} {args : Array Value} {below : List Frame} {meth : Method} {c : Code} {Q : State → Prop} (dC : Nat → ClassId) (dI : Nat → Nat → Nat) (cyI cyZ cyJ cyB cyO : ClassId) (h_x h_tg h_cr h_la h_sp a_x_splitRow h_tp h_tx h_fr h_se h_od h_kn a_x_sheets : Nat) (x_n : Int32) (x_blocker : Int32) (x_blockerBits : Int32) (x_tornBy : Int32) (v1 : Int32) (out : Int32) (hx : p.tables.exec = Jvm.exec) (hb : c.code = cX10_best) (hml : c.maxLocals = 8) (hts : ∀ w ∈ wsX10_best, w.before args s = true) (hown : s.vm.findClass RX10 = some m.cls) (hK : va_K (dC, dI) vwCl (px_TY cyI cyZ cyJ cyB cyO) s) (hN : px_NW s) (hP : va_P (dC, dI) vwCl (wdX10_best cyI cyZ cyJ cyB cyO h_x h_tg h_cr h_la h_sp a_x_splitRow h_tp h_tx h_fr h_se h_od h_kn a_x_sheets x_n x_blocker x_blockerBits x_tornBy h_la h_sp) s.heap) (hQ : ∀ (pc : Nat) (ls : Array Slot), decode cX10_best pc = .ok (.ireturn, 1) → W p l e ({ frames := 1, cells := 0, slots := 0, locals := 25 } : Room) s m args below meth c s.heap [] 0 0 Q (F0 m pc ls [.int out]))  (K_15 : Int32 → Int32 → Option (Int32)) (hK_15 : ∀ (v2 : Int32) (v3 : Int32) (ls : Array Slot), K_15 v2 v3 = some out → lv_has ls 8 [(1, .int v1), (2, .int v2), (3, .int v3)] → W p l e ({ frames := 1, cells := 0, slots := 0, locals := 25 } : Room) s m args below meth c s.heap [] 0 0 Q (F0 m 15 ls [])) : ∀ (v2 : Int32) (v3 : Int32) (ls : Array Slot), pX10_best_15B v1 K_15 v2 v3 = some out → lv_has ls 8 [(1, .int v1), (2, .int v2), (3, .int v3)] → W p l e ({ frames := 1, cells := 0, slots := 0, locals := 25 } : Room) s m args below meth c s.heap [] 0 0 Q (F0 m 15 ls []) := by
  intro v2 v3 ls hp hl
  unfold pX10_best_15B at hp
  refine lv_iload_n hx hb dX10_best_15 rfl (lv_at hl 2 rfl) ?_
  refine lv_bipush (v := (64 : Int32)) hx hb dX10_best_16 (by decide) ?_
  refine lv_icmp_gt (tgt := 75) hx hb dX10_best_18 (by decide) (fun c_3 => ?_) (fun c_3 => ?_)
  · have hp := px_t hp c_3
    refine lv_iload_n hx hb dX10_best_75 rfl (lv_at hl 1 rfl) ?_
    have ho := px_s hp
    subst ho
    exact hQ _ _ dX10_best_76
  · have hp := px_f hp c_3
    refine lv_iload_n hx hb dX10_best_21 rfl (lv_at hl 2 rfl) ?_
    refine lv_iconst (v := (1 : Int32)) hx hb dX10_best_22 (by decide) ?_
    refine lv_isub hx hb dX10_best_23 ?_
    refine lv_i2l hx hb dX10_best_24 rfl ?_
    refine lv_iload_n hx hb dX10_best_25 rfl (lv_at hl 0 rfl) ?_
    refine lv_iconst (v := (1 : Int32)) hx hb dX10_best_26 (by decide) ?_
    refine lv_isub hx hb dX10_best_27 ?_
    obtain ⟨o_4, ho_4, hp⟩ := px_b_at hp
    refine px_callR (v := .long o_4) (va_runS (As := [.long (Int32.toInt64 (v3 - (1 : Int32))), .int (v1 - (1 : Int32))]) (rest := []) ⟨hx, hb, hml, hown, hts⟩ (ccX10_power l dC dI cyI cyZ cyJ cyB cyO (Int32.toInt64 (v3 - (1 : Int32))) (v1 - (1 : Int32)) o_4 ho_4) (va_cwS 2 hts gX10_best_X10_power rfl rfl rfl hsX10_power ⟨Nat.le_of_ble_eq_true rfl, Nat.le_of_ble_eq_true rfl⟩) (px_preR (wc := []) hK hN hP [] rfl) rfl rfl hl.1 rfl (lv_room (Nat.le_of_ble_eq_true rfl)) dX10_best_28 ⟨Nat.zero_le _, Nat.zero_le _⟩) ?_
    refine lv_iload_n hx hb dX10_best_31 rfl (lv_at hl 1 rfl) ?_
    refine lv_i2l hx hb dX10_best_32 rfl ?_
    refine lv_iload_n hx hb dX10_best_33 rfl (lv_at hl 0 rfl) ?_
    obtain ⟨o_5, ho_5, hp⟩ := px_b_at hp
    refine px_callR (v := .long o_5) (va_runS (As := [.long (Int32.toInt64 v2), .int v1]) (rest := [.long o_4]) ⟨hx, hb, hml, hown, hts⟩ (ccX10_power l dC dI cyI cyZ cyJ cyB cyO (Int32.toInt64 v2) v1 o_5 ho_5) (va_cwS 2 hts gX10_best_X10_power rfl rfl rfl hsX10_power ⟨Nat.le_of_ble_eq_true rfl, Nat.le_of_ble_eq_true rfl⟩) (px_preR (wc := []) hK hN hP [] rfl) rfl rfl hl.1 rfl (lv_room (Nat.le_of_ble_eq_true rfl)) dX10_best_34 ⟨Nat.zero_le _, Nat.zero_le _⟩) ?_
    refine lv_lmul hx hb dX10_best_37 ?_
    refine lv_lstore (lv' := [(4, .long (o_4 * o_5)), (1, .int v1), (2, .int v2), (3, .int v3)]) hx hb dX10_best_38 hl (by decide) rfl (fun ls hl => ?_)
    refine lv_iload_n hx hb dX10_best_40 rfl (lv_at hl 2 rfl) ?_
    refine lv_iconst (v := (1 : Int32)) hx hb dX10_best_41 (by decide) ?_
    refine lv_isub hx hb dX10_best_42 ?_
    refine lv_i2l hx hb dX10_best_43 rfl ?_
    refine lv_iload_n hx hb dX10_best_44 rfl (lv_at hl 1 rfl) ?_
    refine lv_iconst (v := (1 : Int32)) hx hb dX10_best_45 (by decide) ?_
    refine lv_isub hx hb dX10_best_46 ?_
    obtain ⟨o_6, ho_6, hp⟩ := px_b_at hp
    refine px_callR (v := .long o_6) (va_runS (As := [.long (Int32.toInt64 (v2 - (1 : Int32))), .int (v1 - (1 : Int32))]) (rest := []) ⟨hx, hb, hml, hown, hts⟩ (ccX10_power l dC dI cyI cyZ cyJ cyB cyO (Int32.toInt64 (v2 - (1 : Int32))) (v1 - (1 : Int32)) o_6 ho_6) (va_cwS 2 hts gX10_best_X10_power rfl rfl rfl hsX10_power ⟨Nat.le_of_ble_eq_true rfl, Nat.le_of_ble_eq_true rfl⟩) (px_preR (wc := []) hK hN hP [] rfl) rfl rfl hl.1 rfl (lv_room (Nat.le_of_ble_eq_true rfl)) dX10_best_47 ⟨Nat.zero_le _, Nat.zero_le _⟩) ?_
    refine lv_iload_n hx hb dX10_best_50 rfl (lv_at hl 3 rfl) ?_
    refine lv_i2l hx hb dX10_best_51 rfl ?_
    refine lv_iload_n hx hb dX10_best_52 rfl (lv_at hl 1 rfl) ?_
    obtain ⟨o_7, ho_7, hp⟩ := px_b_at hp
    refine px_callR (v := .long o_7) (va_runS (As := [.long (Int32.toInt64 v3), .int v1]) (rest := [.long o_6]) ⟨hx, hb, hml, hown, hts⟩ (ccX10_power l dC dI cyI cyZ cyJ cyB cyO (Int32.toInt64 v3) v1 o_7 ho_7) (va_cwS 2 hts gX10_best_X10_power rfl rfl rfl hsX10_power ⟨Nat.le_of_ble_eq_true rfl, Nat.le_of_ble_eq_true rfl⟩) (px_preR (wc := []) hK hN hP [] rfl) rfl rfl hl.1 rfl (lv_room (Nat.le_of_ble_eq_true rfl)) dX10_best_53 ⟨Nat.zero_le _, Nat.zero_le _⟩) ?_
    refine lv_lmul hx hb dX10_best_56 ?_
    refine lv_lstore (lv' := [(6, .long (o_6 * o_7)), (4, .long (o_4 * o_5)), (1, .int v1), (2, .int v2), (3, .int v3)]) hx hb dX10_best_57 hl (by decide) rfl (fun ls hl => ?_)
    refine lv_lload hx hb dX10_best_59 (lv_at hl 1 rfl) ?_
    refine lv_lload hx hb dX10_best_61 (lv_at hl 0 rfl) ?_
    refine W.lcmp hx hb dX10_best_63 ?_
    refine lv_if_le (tgt := 69) hx hb dX10_best_64 (by decide) (fun c_8 => ?_) (fun c_8 => ?_)
    · have hp := px_t hp c_8
      refine lv_iinc (v := (v3 + (1 : Int32))) (lv' := [(3, .int (v3 + (1 : Int32))), (6, .long (o_6 * o_7)), (4, .long (o_4 * o_5)), (1, .int v1), (2, .int v2)]) hx hb dX10_best_69 hl (k := 4) rfl rfl (by decide) rfl (fun ls hl => ?_)
      refine lv_goto (tgt := 15) hx hb dX10_best_72 (by decide) ?_
      exact hK_15 v2 (v3 + (1 : Int32)) ls hp (lv_sub hl [3, 4, 0] rfl)
    · have hp := px_f hp c_8
      refine lv_iload_n hx hb dX10_best_67 rfl (lv_at hl 4 rfl) ?_
      refine lv_istore_n (lv' := [(2, .int v3), (6, .long (o_6 * o_7)), (4, .long (o_4 * o_5)), (1, .int v1), (3, .int v3)]) hx hb dX10_best_68 rfl hl (by decide) rfl (fun ls hl => ?_)
      refine lv_iinc (v := (v3 + (1 : Int32))) (lv' := [(3, .int (v3 + (1 : Int32))), (2, .int v3), (6, .long (o_6 * o_7)), (4, .long (o_4 * o_5)), (1, .int v1)]) hx hb dX10_best_69 hl (k := 4) rfl rfl (by decide) rfl (fun ls hl => ?_)
      refine lv_goto (tgt := 15) hx hb dX10_best_72 (by decide) ?_
      exact hK_15 v3 (v3 + (1 : Int32)) ls hp (lv_sub hl [4, 1, 0] rfl)
theorem lcX10_best_15 {p : Program} {l : Launch} {e : Env} {s : State} {m : MethodId} {args : Array Value} {below : List Frame} {meth : Method} {c : Code} {Q : State → Prop} (dC : Nat → ClassId) (dI : Nat → Nat → Nat) (cyI cyZ cyJ cyB cyO : ClassId) (h_x h_tg h_cr h_la h_sp a_x_splitRow h_tp h_tx h_fr h_se h_od h_kn a_x_sheets : Nat) (x_n : Int32) (x_blocker : Int32) (x_blockerBits : Int32) (x_tornBy : Int32) (v1 : Int32) (out : Int32) (hx : p.tables.exec = Jvm.exec) (hb : c.code = cX10_best) (hml : c.maxLocals = 8) (hts : ∀ w ∈ wsX10_best, w.before args s = true) (hown : s.vm.findClass RX10 = some m.cls) (hK : va_K (dC, dI) vwCl (px_TY cyI cyZ cyJ cyB cyO) s) (hN : px_NW s) (hP : va_P (dC, dI) vwCl (wdX10_best cyI cyZ cyJ cyB cyO h_x h_tg h_cr h_la h_sp a_x_splitRow h_tp h_tx h_fr h_se h_od h_kn a_x_sheets x_n x_blocker x_blockerBits x_tornBy h_la h_sp) s.heap) (hQ : ∀ (pc : Nat) (ls : Array Slot), decode cX10_best pc = .ok (.ireturn, 1) → W p l e ({ frames := 1, cells := 0, slots := 0, locals := 25 } : Room) s m args below meth c s.heap [] 0 0 Q (F0 m pc ls [.int out]))  : ∀ n : Nat, ∀ (v2 : Int32) (v3 : Int32) (ls : Array Slot), pX10_best_15 v1 n v2 v3 = some out → lv_has ls 8 [(1, .int v1), (2, .int v2), (3, .int v3)] → W p l e ({ frames := 1, cells := 0, slots := 0, locals := 25 } : Room) s m args below meth c s.heap [] 0 0 Q (F0 m 15 ls []) := by
  intro n
  induction n with
  | zero =>
    intro v2 v3 ls hp hl
    exact nomatch hp
  | succ n ih => exact lcX10_best_15B dC dI cyI cyZ cyJ cyB cyO h_x h_tg h_cr h_la h_sp a_x_splitRow h_tp h_tx h_fr h_se h_od h_kn a_x_sheets x_n x_blocker x_blockerBits x_tornBy v1 out hx hb hml hts hown hK hN hP hQ (pX10_best_15 v1 n) ih
set_option maxHeartbeats 4000000 in
set_option maxRecDepth 100000 in
theorem ccX10_best (l : Launch) (dC : Nat → ClassId) (dI : Nat → Nat → Nat) (cyI cyZ cyJ cyB cyO : ClassId) (h_x h_tg h_cr h_la h_sp a_x_splitRow h_tp h_tx h_fr h_se h_od h_kn a_x_sheets : Nat) (x_n : Int32) (x_blocker : Int32) (x_blockerBits : Int32) (x_tornBy : Int32) (v1 : Int32) (out : Int32) (hp : pX10_best v1 = some out) : Met l yX10_best wsX10_best ({ frames := 1, cells := 0, slots := 0, locals := 25 } : Room) (px_PR (dC, dI) (px_TY cyI cyZ cyJ cyB cyO) [.ref h_x, .int v1] (wdX10_best cyI cyZ cyJ cyB cyO h_x h_tg h_cr h_la h_sp a_x_splitRow h_tp h_tx h_fr h_se h_od h_kn a_x_sheets x_n x_blocker x_blockerBits x_tornBy h_la h_sp)) (px_QR (.int out)) 0 0 (fun _ => False) := by
  refine Met.ofW (cc := cX10_best) (maxL := 8) (ret := (some .int)) (by decide) rfl ?_
  intro p e s m args below meth c s₁ B hml hv
  obtain ⟨rfl, hP, hK, hN⟩ := hv
  have hx := B.exec
  have hb := B.bytes
  have hr := B.returns
  have hts := atoms_spec (ws := wsX10_best) B.pre
  have hown : s.vm.findClass RX10 = some m.cls := findClass_of_methodNamed B.named
  have hlocks := B.notSynchronized
  have hQ : ∀ (pc : Nat) (ls : Array Slot), decode cX10_best pc = .ok (.ireturn, 1) → W p l e ({ frames := 1, cells := 0, slots := 0, locals := 25 } : Room) s m (([.ref h_x, .int v1] : List Value).toArray) below meth c s.heap [] 0 0 (MQ below (px_QR (.int out)) (([.ref h_x, .int v1] : List Value).toArray) s 0 0 (fun _ => False)) (F0 m pc ls [.int out]) := fun pc ls hd => W.iret hx hb hr (fun t ht hW => ⟨rfl, ht⟩) (fun q h => by cases h) hd
  generalize MQ below (px_QR (.int out)) (([.ref h_x, .int v1] : List Value).toArray) s 0 0 (fun _ => False) = Q at hQ ⊢
  have hl := lv_entry [.ref h_x, .int v1] (n := 8) (Nat.le_of_ble_eq_true rfl)
  rw [lg_entry_eq]
  generalize (lg_sl [.ref h_x, .int v1] ++ List.replicate (8 - (lg_sl [.ref h_x, .int v1]).length) Slot.unset).toArray = ls at hl ⊢
  have hl : lv_has ls 8 [(0, .ref h_x), (1, .int v1)] := hl
  unfold pX10_best at hp
  refine lv_iload_n hx hb dX10_best_0 rfl (lv_at hl 1 rfl) ?_
  refine lv_iconst (v := (1 : Int32)) hx hb dX10_best_1 (by decide) ?_
  refine lv_iconst (v := (5 : Int32)) hx hb dX10_best_2 (by decide) ?_
  obtain ⟨o_1, ho_1, hp⟩ := px_b_at hp
  refine px_callR (v := .int o_1) (va_runS (As := [.int v1, .int (1 : Int32), .int (5 : Int32)]) (rest := []) ⟨hx, hb, hml, hown, hts⟩ (ccX10_within l dC dI cyI cyZ cyJ cyB cyO v1 (1 : Int32) (5 : Int32) o_1 ho_1) (va_cwS 3 hts gX10_best_X10_within rfl rfl rfl hsX10_within ⟨Nat.le_of_ble_eq_true rfl, Nat.le_of_ble_eq_true rfl⟩) (px_preR (wc := []) hK hN hP [] rfl) rfl rfl hl.1 rfl (lv_room (Nat.le_of_ble_eq_true rfl)) dX10_best_3 ⟨Nat.zero_le _, Nat.zero_le _⟩) ?_
  refine lv_if_ne (tgt := 11) hx hb dX10_best_6 (by decide) (fun c_2 => ?_) (fun c_2 => ?_)
  · have hp := px_f hp c_2
    refine lv_iconst (v := (1 : Int32)) hx hb dX10_best_11 (by decide) ?_
    refine lv_istore_n (lv' := [(2, .int (1 : Int32)), (0, .ref h_x), (1, .int v1)]) hx hb dX10_best_12 rfl hl (by decide) rfl (fun ls hl => ?_)
    refine lv_iconst (v := (2 : Int32)) hx hb dX10_best_13 (by decide) ?_
    refine lv_istore_n (lv' := [(3, .int (2 : Int32)), (2, .int (1 : Int32)), (0, .ref h_x), (1, .int v1)]) hx hb dX10_best_14 rfl hl (by decide) rfl (fun ls hl => ?_)
    exact lcX10_best_15 dC dI cyI cyZ cyJ cyB cyO h_x h_tg h_cr h_la h_sp a_x_splitRow h_tp h_tx h_fr h_se h_od h_kn a_x_sheets x_n x_blocker x_blockerBits x_tornBy v1 out hx hb hml hts hown hK hN hP hQ px_FU (1 : Int32) (2 : Int32) ls hp (lv_sub hl [3, 1, 0] rfl)
  · have hp := px_t hp c_2
    refine lv_iconst (v := (-1 : Int32)) hx hb dX10_best_9 (by decide) ?_
    have ho := px_s hp
    subst ho
    exact hQ _ _ dX10_best_10
/-! TagReader.guess(III)I -/
theorem hvX10_guess : yX10_guess.cls = RX10 ∧ yX10_guess.cls ≠ "java/lang/invoke/MethodHandle" ∧ yX10_guess.cls ≠ "java/lang/invoke/VarHandle" ∧ (parseMethodDescriptor yX10_guess.desc).map (fun d => d.parameters.length) = some 3 := by decide +kernel
theorem fX10_guess_X10 : ∀ w ∈ u_ws RX10 TX10 16, w ∈ wsX10_guess := fun _ h => List.mem_cons_of_mem _ (List.mem_append_left _ (List.mem_append_right _ h))
theorem kX10_guess_1 : (.fieldLink RX10 81 "TagReader" "odds" "LTagReader$Odds;" : Cond) ∈ wsX10_guess := List.mem_of_getElem? (i := 1) rfl
set_option maxHeartbeats 4000000 in
set_option maxRecDepth 100000 in
theorem ccX10_guess (l : Launch) (dC : Nat → ClassId) (dI : Nat → Nat → Nat) (cyI cyZ cyJ cyB cyO : ClassId) (sz : Nat) (h_x h_tg h_cr h_la h_sp a_x_splitRow h_tp h_tx h_fr h_se h_od h_kn a_x_sheets a_od_row : Nat) (x_n : Int32) (x_blocker : Int32) (x_blockerBits : Int32) (x_tornBy : Int32) (od_row : Nat → Int64) (v1 : Int32) (v2 : Int32) (v3 : Int32) (out : Int32 × (Nat → Int64)) (hp : pX10_guess v1 v2 v3 od_row = some out) : Met l yX10_guess wsX10_guess ({ frames := 4, cells := 0, slots := 0, locals := 103 } : Room) (px_PW (dC, dI) (px_TY cyI cyZ cyJ cyB cyO) [.ref h_x, .int v1, .int v2, .int v3] (wdX10_guess cyI cyZ cyJ cyB cyO h_x h_tg h_cr h_la h_sp a_x_splitRow h_tp h_tx h_fr h_se h_od h_kn a_x_sheets a_od_row x_n x_blocker x_blockerBits x_tornBy od_row h_la h_sp) sz) (px_QW (some (.int out.1)) (dC, dI) (wdX10_guess cyI cyZ cyJ cyB cyO h_x h_tg h_cr h_la h_sp a_x_splitRow h_tp h_tx h_fr h_se h_od h_kn a_x_sheets a_od_row x_n x_blocker x_blockerBits x_tornBy od_row h_la h_sp) (wdX10_guess cyI cyZ cyJ cyB cyO h_x h_tg h_cr h_la h_sp a_x_splitRow h_tp h_tx h_fr h_se h_od h_kn a_x_sheets a_od_row x_n x_blocker x_blockerBits x_tornBy out.2 h_la h_sp) sz) 0 0 (va_A (wdX10_guess cyI cyZ cyJ cyB cyO h_x h_tg h_cr h_la h_sp a_x_splitRow h_tp h_tx h_fr h_se h_od h_kn a_x_sheets a_od_row x_n x_blocker x_blockerBits x_tornBy od_row h_la h_sp) sz) := by
  refine Met.ofW (cc := cX10_guess) (maxL := 4) (ret := (some .int)) (by decide) rfl ?_
  intro p e s m args below meth c s₁ B hml hv
  obtain ⟨rfl, hsz, hP, hK, hD0, hN⟩ := hv
  have hx := B.exec
  have hb := B.bytes
  have hr := B.returns
  have hts := atoms_spec (ws := wsX10_guess) B.pre
  have hown : s.vm.findClass RX10 = some m.cls := findClass_of_methodNamed B.named
  have hlocks := B.notSynchronized
  subst hsz
  have hD := hD0.self (sz := s.heap.size)
  generalize hAe : va_A (wdX10_guess cyI cyZ cyJ cyB cyO h_x h_tg h_cr h_la h_sp a_x_splitRow h_tp h_tx h_fr h_se h_od h_kn a_x_sheets a_od_row x_n x_blocker x_blockerBits x_tornBy od_row h_la h_sp) s.heap.size = A at hD ⊢
  have hA : ∀ q : Nat, s.heap.size ≤ q → A q := fun q h => by rw [← hAe]; exact Or.inr h
  have hS : va_S A s.heap s.heap [] := va_S.rf
  have hq := px_QWe (v := (some (.int out.1))) (D := (dC, dI)) (w1 := (wdX10_guess cyI cyZ cyJ cyB cyO h_x h_tg h_cr h_la h_sp a_x_splitRow h_tp h_tx h_fr h_se h_od h_kn a_x_sheets a_od_row x_n x_blocker x_blockerBits x_tornBy out.2 h_la h_sp)) (st := s) hAe
  generalize px_QW (some (.int out.1)) (dC, dI) (wdX10_guess cyI cyZ cyJ cyB cyO h_x h_tg h_cr h_la h_sp a_x_splitRow h_tp h_tx h_fr h_se h_od h_kn a_x_sheets a_od_row x_n x_blocker x_blockerBits x_tornBy od_row h_la h_sp) (wdX10_guess cyI cyZ cyJ cyB cyO h_x h_tg h_cr h_la h_sp a_x_splitRow h_tp h_tx h_fr h_se h_od h_kn a_x_sheets a_od_row x_n x_blocker x_blockerBits x_tornBy out.2 h_la h_sp) s.heap.size = Qc at hq ⊢
  have hQ : ∀ (H : Heap) (locs : List Loc) (pc : Nat) (ls : Array Slot), va_P (dC, dI) vwCl (wdX10_guess cyI cyZ cyJ cyB cyO h_x h_tg h_cr h_la h_sp a_x_splitRow h_tp h_tx h_fr h_se h_od h_kn a_x_sheets a_od_row x_n x_blocker x_blockerBits x_tornBy out.2 h_la h_sp) H → va_D A (wdX10_guess cyI cyZ cyJ cyB cyO h_x h_tg h_cr h_la h_sp a_x_splitRow h_tp h_tx h_fr h_se h_od h_kn a_x_sheets a_od_row x_n x_blocker x_blockerBits x_tornBy out.2 h_la h_sp) → va_S A s.heap H locs → decode cX10_guess pc = .ok (.ireturn, 1) → W p l e ({ frames := 4, cells := 0, slots := 0, locals := 103 } : Room) s m (([.ref h_x, .int v1, .int v2, .int v3] : List Value).toArray) below meth c H locs 0 0 (MQ below Qc (([.ref h_x, .int v1, .int v2, .int v3] : List Value).toArray) s 0 0 A) (F0 m pc ls [.int out.1]) := fun H locs pc ls hP hD hS hd => W.iret hx hb hr (fun t ht hW => hq _ t (by rw [ht]; exact hP) hD (hS.F ht)) hS.2.2 hd
  generalize MQ below Qc (([.ref h_x, .int v1, .int v2, .int v3] : List Value).toArray) s 0 0 A = Q at hQ ⊢
  have hl := lv_entry [.ref h_x, .int v1, .int v2, .int v3] (n := 4) (Nat.le_of_ble_eq_true rfl)
  rw [lg_entry_eq]
  generalize (lg_sl [.ref h_x, .int v1, .int v2, .int v3] ++ List.replicate (4 - (lg_sl [.ref h_x, .int v1, .int v2, .int v3]).length) Slot.unset).toArray = ls at hl ⊢
  have hl : lv_has ls 4 [(0, .ref h_x), (1, .int v1), (2, .int v2), (3, .int v3)] := hl
  unfold pX10_guess at hp
  refine lv_iload_n hx hb dX10_guess_0 rfl (lv_at hl 1 rfl) ?_
  refine lv_iload_n hx hb dX10_guess_1 rfl (lv_at hl 2 rfl) ?_
  refine lv_iload_n hx hb dX10_guess_2 rfl (lv_at hl 3 rfl) ?_
  obtain ⟨o_1, ho_1, hp⟩ := px_b_at hp
  refine px_callR (v := .int o_1) (va_runS (As := [.int v1, .int v2, .int v3]) (rest := []) ⟨hx, hb, hml, hown, hts⟩ (ccX10_isShow l dC dI cyI cyZ cyJ cyB cyO v1 v2 v3 o_1 ho_1) (va_cwS 3 hts gX10_guess_X10_isShow rfl rfl rfl hsX10_isShow ⟨Nat.le_of_ble_eq_true rfl, Nat.le_of_ble_eq_true rfl⟩) (px_preR (wc := []) hK hN hP [] rfl) rfl rfl hl.1 rfl (lv_room (Nat.le_of_ble_eq_true rfl)) dX10_guess_3 ⟨Nat.zero_le _, Nat.zero_le _⟩) ?_
  refine lv_if_eq (tgt := 22) hx hb dX10_guess_6 (by decide) (fun c_2 => ?_) (fun c_2 => ?_)
  · have hp := px_t hp c_2
    refine lv_iconst (v := (-1 : Int32)) hx hb dX10_guess_22 (by decide) ?_
    have ho := px_s hp
    subst ho
    exact hQ _ _ _ _ hP hD hS dX10_guess_23
  · have hp := px_f hp c_2
    refine lv_aload_n hx hb dX10_guess_9 rfl (lv_at hl 0 rfl) ?_
    refine va_get (D := (dC, dI)) (ci := 10) (v := .ref h_od) (C := RX10) (T := TX10) (N := 16) hx hb hts fX10_guess_X10 hown hK hP 0 rfl rfl 13 (by decide) (hts _ kX10_guess_1) (fun _ h9 => h9) rfl dX10_guess_10 ?_
    refine lv_iload_n hx hb dX10_guess_13 rfl (lv_at hl 1 rfl) ?_
    refine lv_iload_n hx hb dX10_guess_14 rfl (lv_at hl 2 rfl) ?_
    refine lv_iload_n hx hb dX10_guess_15 rfl (lv_at hl 3 rfl) ?_
    obtain ⟨o_3, ho_3, hp⟩ := px_b_at hp
    refine px_callWi (r := o_3.1) (wc := (wdX3_likeliest cyI cyZ cyJ cyB cyO h_od a_od_row od_row)) (wr := [(h_x, .inr (10, [.int x_n, .int x_blocker, .int x_blockerBits, .int x_tornBy, .ref h_tg, .ref h_cr, .ref h_la, .ref h_sp, .ref a_x_splitRow, .ref h_tp, .ref h_tx, .ref h_fr, .ref h_se, .ref h_od, .ref h_kn, .ref a_x_sheets]))]) (w1 := (wdX3_likeliest cyI cyZ cyJ cyB cyO h_od a_od_row o_3.2)) (ws2 := (wdX10_guess cyI cyZ cyJ cyB cyO h_x h_tg h_cr h_la h_sp a_x_splitRow h_tp h_tx h_fr h_se h_od h_kn a_x_sheets a_od_row x_n x_blocker x_blockerBits x_tornBy o_3.2 h_la h_sp)) (va_runV (As := [.int v1, .int v2, .int v3]) (rest := []) ⟨hx, hb, hml, hown, hts⟩ (ccX3_likeliest l dC dI cyI cyZ cyJ cyB cyO _ h_od a_od_row od_row v1 v2 v3 o_3 ho_3) (cwV 3 hts gX10_guess_X3_likeliest rfl rfl rfl hvX3_likeliest ⟨Nat.le_of_ble_eq_true rfl, Nat.le_of_ble_eq_true rfl⟩) (px_preWV (wc := (wdX3_likeliest cyI cyZ cyJ cyB cyO h_od a_od_row od_row)) (ci := 3) (q0 := 1) hK hN hP hD [1, 2] (by decide) rfl rfl rfl) rfl rfl hl.1 rfl (lv_room (Nat.le_of_ble_eq_true rfl)) dX10_guess_16 ⟨Nat.zero_le _, Nat.zero_le _⟩) hP hD hS hA [1, 2] [0] [0, 1, 2] rfl rfl (by decide) (by decide) (by decide) rfl (fun H locs hP hD hS => ?_)
    refine lv_goto (tgt := 23) hx hb dX10_guess_19 (by decide) ?_
    have ho := px_s hp
    subst ho
    exact hQ _ _ _ _ hP hD hS dX10_guess_23
/-! TagReader.ways(IIII)J -/
theorem hvX10_ways : yX10_ways.cls = RX10 ∧ yX10_ways.cls ≠ "java/lang/invoke/MethodHandle" ∧ yX10_ways.cls ≠ "java/lang/invoke/VarHandle" ∧ (parseMethodDescriptor yX10_ways.desc).map (fun d => d.parameters.length) = some 4 := by decide +kernel
theorem kX10_ways_1 : (.constantLong RX10 236 (-1) : Cond) ∈ wsX10_ways := List.mem_of_getElem? (i := 1) rfl
theorem fX10_ways_X10 : ∀ w ∈ u_ws RX10 TX10 16, w ∈ wsX10_ways := fun _ h => List.mem_cons_of_mem _ (List.mem_append_left _ (List.mem_append_right _ h))
theorem kX10_ways_2 : (.fieldLink RX10 81 "TagReader" "odds" "LTagReader$Odds;" : Cond) ∈ wsX10_ways := List.mem_of_getElem? (i := 2) rfl
set_option maxHeartbeats 4000000 in
set_option maxRecDepth 100000 in
theorem ccX10_ways (l : Launch) (dC : Nat → ClassId) (dI : Nat → Nat → Nat) (cyI cyZ cyJ cyB cyO : ClassId) (sz : Nat) (h_x h_tg h_cr h_la h_sp a_x_splitRow h_tp h_tx h_fr h_se h_od h_kn a_x_sheets a_od_row : Nat) (x_n : Int32) (x_blocker : Int32) (x_blockerBits : Int32) (x_tornBy : Int32) (od_row : Nat → Int64) (v1 : Int32) (v2 : Int32) (v3 : Int32) (v4 : Int32) (out : Int64 × (Nat → Int64)) (hp : pX10_ways v1 v2 v3 v4 od_row = some out) : Met l yX10_ways wsX10_ways ({ frames := 3, cells := 0, slots := 0, locals := 74 } : Room) (px_PW (dC, dI) (px_TY cyI cyZ cyJ cyB cyO) [.ref h_x, .int v1, .int v2, .int v3, .int v4] (wdX10_ways cyI cyZ cyJ cyB cyO h_x h_tg h_cr h_la h_sp a_x_splitRow h_tp h_tx h_fr h_se h_od h_kn a_x_sheets a_od_row x_n x_blocker x_blockerBits x_tornBy od_row h_la h_sp) sz) (px_QW (some (.long out.1)) (dC, dI) (wdX10_ways cyI cyZ cyJ cyB cyO h_x h_tg h_cr h_la h_sp a_x_splitRow h_tp h_tx h_fr h_se h_od h_kn a_x_sheets a_od_row x_n x_blocker x_blockerBits x_tornBy od_row h_la h_sp) (wdX10_ways cyI cyZ cyJ cyB cyO h_x h_tg h_cr h_la h_sp a_x_splitRow h_tp h_tx h_fr h_se h_od h_kn a_x_sheets a_od_row x_n x_blocker x_blockerBits x_tornBy out.2 h_la h_sp) sz) 0 0 (va_A (wdX10_ways cyI cyZ cyJ cyB cyO h_x h_tg h_cr h_la h_sp a_x_splitRow h_tp h_tx h_fr h_se h_od h_kn a_x_sheets a_od_row x_n x_blocker x_blockerBits x_tornBy od_row h_la h_sp) sz) := by
  refine Met.ofW (cc := cX10_ways) (maxL := 5) (ret := (some .long)) (by decide) rfl ?_
  intro p e s m args below meth c s₁ B hml hv
  obtain ⟨rfl, hsz, hP, hK, hD0, hN⟩ := hv
  have hx := B.exec
  have hb := B.bytes
  have hr := B.returns
  have hts := atoms_spec (ws := wsX10_ways) B.pre
  have hown : s.vm.findClass RX10 = some m.cls := findClass_of_methodNamed B.named
  have hlocks := B.notSynchronized
  subst hsz
  have hD := hD0.self (sz := s.heap.size)
  generalize hAe : va_A (wdX10_ways cyI cyZ cyJ cyB cyO h_x h_tg h_cr h_la h_sp a_x_splitRow h_tp h_tx h_fr h_se h_od h_kn a_x_sheets a_od_row x_n x_blocker x_blockerBits x_tornBy od_row h_la h_sp) s.heap.size = A at hD ⊢
  have hA : ∀ q : Nat, s.heap.size ≤ q → A q := fun q h => by rw [← hAe]; exact Or.inr h
  have hS : va_S A s.heap s.heap [] := va_S.rf
  have hq := px_QWe (v := (some (.long out.1))) (D := (dC, dI)) (w1 := (wdX10_ways cyI cyZ cyJ cyB cyO h_x h_tg h_cr h_la h_sp a_x_splitRow h_tp h_tx h_fr h_se h_od h_kn a_x_sheets a_od_row x_n x_blocker x_blockerBits x_tornBy out.2 h_la h_sp)) (st := s) hAe
  generalize px_QW (some (.long out.1)) (dC, dI) (wdX10_ways cyI cyZ cyJ cyB cyO h_x h_tg h_cr h_la h_sp a_x_splitRow h_tp h_tx h_fr h_se h_od h_kn a_x_sheets a_od_row x_n x_blocker x_blockerBits x_tornBy od_row h_la h_sp) (wdX10_ways cyI cyZ cyJ cyB cyO h_x h_tg h_cr h_la h_sp a_x_splitRow h_tp h_tx h_fr h_se h_od h_kn a_x_sheets a_od_row x_n x_blocker x_blockerBits x_tornBy out.2 h_la h_sp) s.heap.size = Qc at hq ⊢
  have hQ : ∀ (H : Heap) (locs : List Loc) (pc : Nat) (ls : Array Slot), va_P (dC, dI) vwCl (wdX10_ways cyI cyZ cyJ cyB cyO h_x h_tg h_cr h_la h_sp a_x_splitRow h_tp h_tx h_fr h_se h_od h_kn a_x_sheets a_od_row x_n x_blocker x_blockerBits x_tornBy out.2 h_la h_sp) H → va_D A (wdX10_ways cyI cyZ cyJ cyB cyO h_x h_tg h_cr h_la h_sp a_x_splitRow h_tp h_tx h_fr h_se h_od h_kn a_x_sheets a_od_row x_n x_blocker x_blockerBits x_tornBy out.2 h_la h_sp) → va_S A s.heap H locs → decode cX10_ways pc = .ok (.lreturn, 1) → W p l e ({ frames := 3, cells := 0, slots := 0, locals := 74 } : Room) s m (([.ref h_x, .int v1, .int v2, .int v3, .int v4] : List Value).toArray) below meth c H locs 0 0 (MQ below Qc (([.ref h_x, .int v1, .int v2, .int v3, .int v4] : List Value).toArray) s 0 0 A) (F0 m pc ls [.long out.1]) := fun H locs pc ls hP hD hS hd => W.lret hx hb hr (fun t ht hW => hq _ t (by rw [ht]; exact hP) hD (hS.F ht)) hS.2.2 hd
  generalize MQ below Qc (([.ref h_x, .int v1, .int v2, .int v3, .int v4] : List Value).toArray) s 0 0 A = Q at hQ ⊢
  have hl := lv_entry [.ref h_x, .int v1, .int v2, .int v3, .int v4] (n := 5) (Nat.le_of_ble_eq_true rfl)
  rw [lg_entry_eq]
  generalize (lg_sl [.ref h_x, .int v1, .int v2, .int v3, .int v4] ++ List.replicate (5 - (lg_sl [.ref h_x, .int v1, .int v2, .int v3, .int v4]).length) Slot.unset).toArray = ls at hl ⊢
  have hl : lv_has ls 5 [(0, .ref h_x), (1, .int v1), (2, .int v2), (3, .int v3), (4, .int v4)] := hl
  unfold pX10_ways at hp
  refine lv_iload_n hx hb dX10_ways_0 rfl (lv_at hl 1 rfl) ?_
  refine lv_iconst (v := (0 : Int32)) hx hb dX10_ways_1 (by decide) ?_
  refine lv_bipush (v := (16 : Int32)) hx hb dX10_ways_2 (by decide) ?_
  obtain ⟨o_1, ho_1, hp⟩ := px_b_at hp
  refine px_callR (v := .int o_1) (va_runS (As := [.int v1, .int (0 : Int32), .int (16 : Int32)]) (rest := []) ⟨hx, hb, hml, hown, hts⟩ (ccX10_within l dC dI cyI cyZ cyJ cyB cyO v1 (0 : Int32) (16 : Int32) o_1 ho_1) (va_cwS 3 hts gX10_ways_X10_within rfl rfl rfl hsX10_within ⟨Nat.le_of_ble_eq_true rfl, Nat.le_of_ble_eq_true rfl⟩) (px_preR (wc := []) hK hN hP [] rfl) rfl rfl hl.1 rfl (lv_room (Nat.le_of_ble_eq_true rfl)) dX10_ways_4 ⟨Nat.zero_le _, Nat.zero_le _⟩) ?_
  refine lv_if_eq (tgt := 20) hx hb dX10_ways_7 (by decide) (fun c_2 => ?_) (fun c_2 => ?_)
  · have hp := px_t hp c_2
    refine lv_ldc2 (v := (-1 : Int64)) hx hb hown (hts _ kX10_ways_1) dX10_ways_20 ?_
    have ho := px_s hp
    subst ho
    exact hQ _ _ _ _ hP hD hS dX10_ways_23
  · have hp := px_f hp c_2
    refine lv_iload_n hx hb dX10_ways_10 rfl (lv_at hl 2 rfl) ?_
    refine lv_iload_n hx hb dX10_ways_11 rfl (lv_at hl 3 rfl) ?_
    refine lv_iload hx hb dX10_ways_12 (lv_at hl 4 rfl) ?_
    obtain ⟨o_3, ho_3, hp⟩ := px_b_at hp
    refine px_callR (v := .int o_3) (va_runS (As := [.int v2, .int v3, .int v4]) (rest := []) ⟨hx, hb, hml, hown, hts⟩ (ccX10_isShow l dC dI cyI cyZ cyJ cyB cyO v2 v3 v4 o_3 ho_3) (va_cwS 3 hts gX10_ways_X10_isShow rfl rfl rfl hsX10_isShow ⟨Nat.le_of_ble_eq_true rfl, Nat.le_of_ble_eq_true rfl⟩) (px_preR (wc := []) hK hN hP [] rfl) rfl rfl hl.1 rfl (lv_room (Nat.le_of_ble_eq_true rfl)) dX10_ways_14 ⟨Nat.zero_le _, Nat.zero_le _⟩) ?_
    refine lv_if_ne (tgt := 24) hx hb dX10_ways_17 (by decide) (fun c_4 => ?_) (fun c_4 => ?_)
    · have hp := px_f hp c_4
      refine lv_aload_n hx hb dX10_ways_24 rfl (lv_at hl 0 rfl) ?_
      refine va_get (D := (dC, dI)) (ci := 10) (v := .ref h_od) (C := RX10) (T := TX10) (N := 16) hx hb hts fX10_ways_X10 hown hK hP 0 rfl rfl 13 (by decide) (hts _ kX10_ways_2) (fun _ h9 => h9) rfl dX10_ways_25 ?_
      refine lv_iload hx hb dX10_ways_28 (lv_at hl 4 rfl) ?_
      refine lv_iload_n hx hb dX10_ways_30 rfl (lv_at hl 1 rfl) ?_
      refine lv_iconst (v := (0 : Int32)) hx hb dX10_ways_31 (by decide) ?_
      obtain ⟨o_5, ho_5, hp⟩ := px_b_at hp
      refine px_callWv (wc := (wdX3_fillRow cyI cyZ cyJ cyB cyO h_od a_od_row od_row)) (wr := [(h_x, .inr (10, [.int x_n, .int x_blocker, .int x_blockerBits, .int x_tornBy, .ref h_tg, .ref h_cr, .ref h_la, .ref h_sp, .ref a_x_splitRow, .ref h_tp, .ref h_tx, .ref h_fr, .ref h_se, .ref h_od, .ref h_kn, .ref a_x_sheets]))]) (w1 := (wdX3_fillRow cyI cyZ cyJ cyB cyO h_od a_od_row o_5)) (ws2 := (wdX10_ways cyI cyZ cyJ cyB cyO h_x h_tg h_cr h_la h_sp a_x_splitRow h_tp h_tx h_fr h_se h_od h_kn a_x_sheets a_od_row x_n x_blocker x_blockerBits x_tornBy o_5 h_la h_sp)) (va_runV (As := [.int v4, .int v1, .int (0 : Int32)]) (rest := []) ⟨hx, hb, hml, hown, hts⟩ (ccX3_fillRow l dC dI cyI cyZ cyJ cyB cyO _ h_od a_od_row od_row v4 v1 (0 : Int32) o_5 ho_5) (cwV 3 hts gX10_ways_X3_fillRow rfl rfl rfl hvX3_fillRow ⟨Nat.le_of_ble_eq_true rfl, Nat.le_of_ble_eq_true rfl⟩) (px_preWV (wc := (wdX3_fillRow cyI cyZ cyJ cyB cyO h_od a_od_row od_row)) (ci := 3) (q0 := 1) hK hN hP hD [1, 2] (by decide) rfl rfl rfl) rfl rfl hl.1 rfl (lv_room (Nat.le_of_ble_eq_true rfl)) dX10_ways_32 ⟨Nat.zero_le _, Nat.zero_le _⟩) hP hD hS hA [1, 2] [0] [0, 1, 2] rfl rfl (by decide) (by decide) (by decide) rfl (fun H locs hP hD hS => ?_)
      refine lv_aload_n hx hb dX10_ways_35 rfl (lv_at hl 0 rfl) ?_
      refine va_get (D := (dC, dI)) (ci := 10) (v := .ref h_od) (C := RX10) (T := TX10) (N := 16) hx hb hts fX10_ways_X10 hown hK hP 0 rfl rfl 13 (by decide) (hts _ kX10_ways_2) (fun _ h9 => h9) rfl dX10_ways_36 ?_
      refine lv_iload_n hx hb dX10_ways_39 rfl (lv_at hl 1 rfl) ?_
      refine lv_iload_n hx hb dX10_ways_40 rfl (lv_at hl 2 rfl) ?_
      refine lv_iload_n hx hb dX10_ways_41 rfl (lv_at hl 3 rfl) ?_
      refine lv_iload hx hb dX10_ways_42 (lv_at hl 4 rfl) ?_
      obtain ⟨o_6, ho_6, hp⟩ := px_b_at hp
      refine px_callR (v := .long o_6) (va_runV (As := [.int v1, .int v2, .int v3, .int v4]) (rest := []) ⟨hx, hb, hml, hown, hts⟩ (ccX3_waysToShow l dC dI cyI cyZ cyJ cyB cyO h_od a_od_row o_5 v1 v2 v3 v4 o_6 ho_6) (cwV 4 hts gX10_ways_X3_waysToShow rfl rfl rfl hvX3_waysToShow ⟨Nat.le_of_ble_eq_true rfl, Nat.le_of_ble_eq_true rfl⟩) (px_preRV (wc := (wdX3_waysToShow cyI cyZ cyJ cyB cyO h_od a_od_row o_5)) (ci := 3) (q0 := 1) hK hN hP [1, 2] rfl rfl rfl) rfl rfl hl.1 rfl (lv_room (Nat.le_of_ble_eq_true rfl)) dX10_ways_44 ⟨Nat.zero_le _, Nat.zero_le _⟩) ?_
      have ho := px_s hp
      subst ho
      exact hQ _ _ _ _ hP hD hS dX10_ways_47
    · have hp := px_t hp c_4
      refine lv_ldc2 (v := (-1 : Int64)) hx hb hown (hts _ kX10_ways_1) dX10_ways_20 ?_
      have ho := px_s hp
      subst ho
      exact hQ _ _ _ _ hP hD hS dX10_ways_23
/-! TagReader.know(I)I -/
theorem hvX10_know : yX10_know.cls = RX10 ∧ yX10_know.cls ≠ "java/lang/invoke/MethodHandle" ∧ yX10_know.cls ≠ "java/lang/invoke/VarHandle" ∧ (parseMethodDescriptor yX10_know.desc).map (fun d => d.parameters.length) = some 1 := by decide +kernel
theorem fX10_know_X10 : ∀ w ∈ u_ws RX10 TX10 16, w ∈ wsX10_know := fun _ h => List.mem_cons_of_mem _ (List.mem_append_left _ (List.mem_append_right _ h))
theorem kX10_know_1 : (.fieldLink RX10 88 "TagReader" "known" "LTagReader$Known;" : Cond) ∈ wsX10_know := List.mem_of_getElem? (i := 1) rfl
theorem fX10_know_X2 : ∀ w ∈ u_ws RX2 TX2 3, w ∈ wsX10_know := fun _ h => List.mem_cons_of_mem _ (List.mem_append_right _ h)
theorem kX10_know_2 : (.fieldLink RX10 106 "TagReader$Known" "size" "I" : Cond) ∈ wsX10_know := List.mem_of_getElem? (i := 2) rfl
set_option maxHeartbeats 4000000 in
set_option maxRecDepth 100000 in
theorem ccX10_know (l : Launch) (dC : Nat → ClassId) (dI : Nat → Nat → Nat) (cyI cyZ cyJ cyB cyO : ClassId) (sz : Nat) (h_x h_tg h_cr h_la h_sp a_x_splitRow h_tp h_tx h_fr h_se h_od h_kn a_x_sheets a_kn_numbers a_kn_slots : Nat) (x_n : Int32) (x_blocker : Int32) (x_blockerBits : Int32) (x_tornBy : Int32) (kn_size : Int32) (kn_numbers : Nat → Int32) (kn_slots : Nat → Int32) (v1 : Int32) (out : Int32 × Int32 × (Nat → Int32)) (hp : pX10_know v1 x_n kn_size kn_numbers = some out) : Met l yX10_know wsX10_know ({ frames := 2, cells := 0, slots := 0, locals := 43 } : Room) (px_PW (dC, dI) (px_TY cyI cyZ cyJ cyB cyO) [.ref h_x, .int v1] (wdX10_know cyI cyZ cyJ cyB cyO h_x h_tg h_cr h_la h_sp a_x_splitRow h_tp h_tx h_fr h_se h_od h_kn a_x_sheets a_kn_numbers a_kn_slots x_n x_blocker x_blockerBits x_tornBy kn_size kn_numbers kn_slots h_la h_sp) sz) (px_QW (some (.int out.1)) (dC, dI) (wdX10_know cyI cyZ cyJ cyB cyO h_x h_tg h_cr h_la h_sp a_x_splitRow h_tp h_tx h_fr h_se h_od h_kn a_x_sheets a_kn_numbers a_kn_slots x_n x_blocker x_blockerBits x_tornBy kn_size kn_numbers kn_slots h_la h_sp) (wdX10_know cyI cyZ cyJ cyB cyO h_x h_tg h_cr h_la h_sp a_x_splitRow h_tp h_tx h_fr h_se h_od h_kn a_x_sheets a_kn_numbers a_kn_slots x_n x_blocker x_blockerBits x_tornBy out.2.1 out.2.2 kn_slots h_la h_sp) sz) 0 0 (va_A (wdX10_know cyI cyZ cyJ cyB cyO h_x h_tg h_cr h_la h_sp a_x_splitRow h_tp h_tx h_fr h_se h_od h_kn a_x_sheets a_kn_numbers a_kn_slots x_n x_blocker x_blockerBits x_tornBy kn_size kn_numbers kn_slots h_la h_sp) sz) := by
  refine Met.ofW (cc := cX10_know) (maxL := 2) (ret := (some .int)) (by decide) rfl ?_
  intro p e s m args below meth c s₁ B hml hv
  obtain ⟨rfl, hsz, hP, hK, hD0, hN⟩ := hv
  have hx := B.exec
  have hb := B.bytes
  have hr := B.returns
  have hts := atoms_spec (ws := wsX10_know) B.pre
  have hown : s.vm.findClass RX10 = some m.cls := findClass_of_methodNamed B.named
  have hlocks := B.notSynchronized
  subst hsz
  have hD := hD0.self (sz := s.heap.size)
  generalize hAe : va_A (wdX10_know cyI cyZ cyJ cyB cyO h_x h_tg h_cr h_la h_sp a_x_splitRow h_tp h_tx h_fr h_se h_od h_kn a_x_sheets a_kn_numbers a_kn_slots x_n x_blocker x_blockerBits x_tornBy kn_size kn_numbers kn_slots h_la h_sp) s.heap.size = A at hD ⊢
  have hA : ∀ q : Nat, s.heap.size ≤ q → A q := fun q h => by rw [← hAe]; exact Or.inr h
  have hS : va_S A s.heap s.heap [] := va_S.rf
  have hq := px_QWe (v := (some (.int out.1))) (D := (dC, dI)) (w1 := (wdX10_know cyI cyZ cyJ cyB cyO h_x h_tg h_cr h_la h_sp a_x_splitRow h_tp h_tx h_fr h_se h_od h_kn a_x_sheets a_kn_numbers a_kn_slots x_n x_blocker x_blockerBits x_tornBy out.2.1 out.2.2 kn_slots h_la h_sp)) (st := s) hAe
  generalize px_QW (some (.int out.1)) (dC, dI) (wdX10_know cyI cyZ cyJ cyB cyO h_x h_tg h_cr h_la h_sp a_x_splitRow h_tp h_tx h_fr h_se h_od h_kn a_x_sheets a_kn_numbers a_kn_slots x_n x_blocker x_blockerBits x_tornBy kn_size kn_numbers kn_slots h_la h_sp) (wdX10_know cyI cyZ cyJ cyB cyO h_x h_tg h_cr h_la h_sp a_x_splitRow h_tp h_tx h_fr h_se h_od h_kn a_x_sheets a_kn_numbers a_kn_slots x_n x_blocker x_blockerBits x_tornBy out.2.1 out.2.2 kn_slots h_la h_sp) s.heap.size = Qc at hq ⊢
  have hQ : ∀ (H : Heap) (locs : List Loc) (pc : Nat) (ls : Array Slot), va_P (dC, dI) vwCl (wdX10_know cyI cyZ cyJ cyB cyO h_x h_tg h_cr h_la h_sp a_x_splitRow h_tp h_tx h_fr h_se h_od h_kn a_x_sheets a_kn_numbers a_kn_slots x_n x_blocker x_blockerBits x_tornBy out.2.1 out.2.2 kn_slots h_la h_sp) H → va_D A (wdX10_know cyI cyZ cyJ cyB cyO h_x h_tg h_cr h_la h_sp a_x_splitRow h_tp h_tx h_fr h_se h_od h_kn a_x_sheets a_kn_numbers a_kn_slots x_n x_blocker x_blockerBits x_tornBy out.2.1 out.2.2 kn_slots h_la h_sp) → va_S A s.heap H locs → decode cX10_know pc = .ok (.ireturn, 1) → W p l e ({ frames := 2, cells := 0, slots := 0, locals := 43 } : Room) s m (([.ref h_x, .int v1] : List Value).toArray) below meth c H locs 0 0 (MQ below Qc (([.ref h_x, .int v1] : List Value).toArray) s 0 0 A) (F0 m pc ls [.int out.1]) := fun H locs pc ls hP hD hS hd => W.iret hx hb hr (fun t ht hW => hq _ t (by rw [ht]; exact hP) hD (hS.F ht)) hS.2.2 hd
  generalize MQ below Qc (([.ref h_x, .int v1] : List Value).toArray) s 0 0 A = Q at hQ ⊢
  have hl := lv_entry [.ref h_x, .int v1] (n := 2) (Nat.le_of_ble_eq_true rfl)
  rw [lg_entry_eq]
  generalize (lg_sl [.ref h_x, .int v1] ++ List.replicate (2 - (lg_sl [.ref h_x, .int v1]).length) Slot.unset).toArray = ls at hl ⊢
  have hl : lv_has ls 2 [(0, .ref h_x), (1, .int v1)] := hl
  unfold pX10_know at hp
  refine lv_aload_n hx hb dX10_know_0 rfl (lv_at hl 0 rfl) ?_
  refine lv_iload_n hx hb dX10_know_1 rfl (lv_at hl 1 rfl) ?_
  obtain ⟨o_1, ho_1, hp⟩ := px_b_at hp
  refine px_callR (v := .int o_1) (va_runV (As := [.int v1]) (rest := []) ⟨hx, hb, hml, hown, hts⟩ (ccX10_isNumber l dC dI cyI cyZ cyJ cyB cyO h_x h_tg h_cr h_la h_sp a_x_splitRow h_tp h_tx h_fr h_se h_od h_kn a_x_sheets x_n x_blocker x_blockerBits x_tornBy v1 o_1 ho_1) (cwV 1 hts gX10_know_X10_isNumber rfl rfl rfl hvX10_isNumber ⟨Nat.le_of_ble_eq_true rfl, Nat.le_of_ble_eq_true rfl⟩) (px_preRV (wc := (wdX10_isNumber cyI cyZ cyJ cyB cyO h_x h_tg h_cr h_la h_sp a_x_splitRow h_tp h_tx h_fr h_se h_od h_kn a_x_sheets x_n x_blocker x_blockerBits x_tornBy h_la h_sp)) (ci := 10) (q0 := 0) hK hN hP [0] rfl rfl rfl) rfl rfl hl.1 rfl (lv_room (Nat.le_of_ble_eq_true rfl)) dX10_know_2 ⟨Nat.zero_le _, Nat.zero_le _⟩) ?_
  refine lv_if_eq (tgt := 19) hx hb dX10_know_5 (by decide) (fun c_2 => ?_) (fun c_2 => ?_)
  · have hp := px_t hp c_2
    refine lv_iconst (v := (-1 : Int32)) hx hb dX10_know_19 (by decide) ?_
    have ho := px_s hp
    subst ho
    exact hQ _ _ _ _ hP hD hS dX10_know_20
  · have hp := px_f hp c_2
    refine lv_aload_n hx hb dX10_know_8 rfl (lv_at hl 0 rfl) ?_
    refine va_get (D := (dC, dI)) (ci := 10) (v := .ref h_kn) (C := RX10) (T := TX10) (N := 16) hx hb hts fX10_know_X10 hown hK hP 0 rfl rfl 14 (by decide) (hts _ kX10_know_1) (fun _ h9 => h9) rfl dX10_know_9 ?_
    refine lv_iload_n hx hb dX10_know_12 rfl (lv_at hl 1 rfl) ?_
    obtain ⟨o_3, ho_3, hp⟩ := px_b_at hp
    refine px_callR (v := .int o_3) (va_runV (As := [.int v1]) (rest := []) ⟨hx, hb, hml, hown, hts⟩ (ccX2_has l dC dI cyI cyZ cyJ cyB cyO h_kn a_kn_numbers a_kn_slots kn_size kn_numbers kn_slots v1 o_3 ho_3) (cwV 1 hts gX10_know_X2_has rfl rfl rfl hvX2_has ⟨Nat.le_of_ble_eq_true rfl, Nat.le_of_ble_eq_true rfl⟩) (px_preRV (wc := (wdX2_has cyI cyZ cyJ cyB cyO h_kn a_kn_numbers a_kn_slots kn_size kn_numbers kn_slots)) (ci := 2) (q0 := 1) hK hN hP [1, 2, 3] rfl rfl rfl) rfl rfl hl.1 rfl (lv_room (Nat.le_of_ble_eq_true rfl)) dX10_know_13 ⟨Nat.zero_le _, Nat.zero_le _⟩) ?_
    refine lv_if_eq (tgt := 21) hx hb dX10_know_16 (by decide) (fun c_4 => ?_) (fun c_4 => ?_)
    · have hp := px_t hp c_4
      refine lv_aload_n hx hb dX10_know_21 rfl (lv_at hl 0 rfl) ?_
      refine va_get (D := (dC, dI)) (ci := 10) (v := .ref h_kn) (C := RX10) (T := TX10) (N := 16) hx hb hts fX10_know_X10 hown hK hP 0 rfl rfl 14 (by decide) (hts _ kX10_know_1) (fun _ h9 => h9) rfl dX10_know_22 ?_
      refine va_get (D := (dC, dI)) (ci := 2) (v := .int kn_size) (C := RX2) (T := TX2) (N := 3) hx hb hts fX10_know_X2 hown hK hP 1 rfl rfl 2 (by decide) (hts _ kX10_know_2) (fun _ h9 => h9) rfl dX10_know_25 ?_
      refine lv_bipush (v := (16 : Int32)) hx hb dX10_know_28 (by decide) ?_
      refine lv_icmp_lt (tgt := 36) hx hb dX10_know_30 (by decide) (fun c_5 => ?_) (fun c_5 => ?_)
      · have hp := px_t hp c_5
        refine lv_aload_n hx hb dX10_know_36 rfl (lv_at hl 0 rfl) ?_
        refine va_get (D := (dC, dI)) (ci := 10) (v := .ref h_kn) (C := RX10) (T := TX10) (N := 16) hx hb hts fX10_know_X10 hown hK hP 0 rfl rfl 14 (by decide) (hts _ kX10_know_1) (fun _ h9 => h9) rfl dX10_know_37 ?_
        refine lv_iload_n hx hb dX10_know_40 rfl (lv_at hl 1 rfl) ?_
        obtain ⟨o_6, ho_6, hp⟩ := px_b_at hp
        refine px_callWv (wc := (wdX2_add cyI cyZ cyJ cyB cyO h_kn a_kn_numbers a_kn_slots kn_size kn_numbers kn_slots)) (wr := [(h_x, .inr (10, [.int x_n, .int x_blocker, .int x_blockerBits, .int x_tornBy, .ref h_tg, .ref h_cr, .ref h_la, .ref h_sp, .ref a_x_splitRow, .ref h_tp, .ref h_tx, .ref h_fr, .ref h_se, .ref h_od, .ref h_kn, .ref a_x_sheets]))]) (w1 := (wdX2_add cyI cyZ cyJ cyB cyO h_kn a_kn_numbers a_kn_slots o_6.1 o_6.2 kn_slots)) (ws2 := (wdX10_know cyI cyZ cyJ cyB cyO h_x h_tg h_cr h_la h_sp a_x_splitRow h_tp h_tx h_fr h_se h_od h_kn a_x_sheets a_kn_numbers a_kn_slots x_n x_blocker x_blockerBits x_tornBy o_6.1 o_6.2 kn_slots h_la h_sp)) (va_runV (As := [.int v1]) (rest := []) ⟨hx, hb, hml, hown, hts⟩ (ccX2_add l dC dI cyI cyZ cyJ cyB cyO _ h_kn a_kn_numbers a_kn_slots kn_size kn_numbers kn_slots v1 o_6 ho_6) (cwV 1 hts gX10_know_X2_add rfl rfl rfl hvX2_add ⟨Nat.le_of_ble_eq_true rfl, Nat.le_of_ble_eq_true rfl⟩) (px_preWV (wc := (wdX2_add cyI cyZ cyJ cyB cyO h_kn a_kn_numbers a_kn_slots kn_size kn_numbers kn_slots)) (ci := 2) (q0 := 1) hK hN hP hD [1, 2, 3] (by decide) rfl rfl rfl) rfl rfl hl.1 rfl (lv_room (Nat.le_of_ble_eq_true rfl)) dX10_know_41 ⟨Nat.zero_le _, Nat.zero_le _⟩) hP hD hS hA [1, 2, 3] [0] [0, 1, 2, 3] rfl rfl (by decide) (by decide) (by decide) rfl (fun H locs hP hD hS => ?_)
        refine lv_aload_n hx hb dX10_know_44 rfl (lv_at hl 0 rfl) ?_
        refine va_get (D := (dC, dI)) (ci := 10) (v := .ref h_kn) (C := RX10) (T := TX10) (N := 16) hx hb hts fX10_know_X10 hown hK hP 0 rfl rfl 14 (by decide) (hts _ kX10_know_1) (fun _ h9 => h9) rfl dX10_know_45 ?_
        refine va_get (D := (dC, dI)) (ci := 2) (v := .int o_6.1) (C := RX2) (T := TX2) (N := 3) hx hb hts fX10_know_X2 hown hK hP 1 rfl rfl 2 (by decide) (hts _ kX10_know_2) (fun _ h9 => h9) rfl dX10_know_48 ?_
        have ho := px_s hp
        subst ho
        exact hQ _ _ _ _ hP hD hS dX10_know_51
      · have hp := px_f hp c_5
        refine lv_bipush (v := (-3 : Int32)) hx hb dX10_know_33 (by decide) ?_
        have ho := px_s hp
        subst ho
        exact hQ _ _ _ _ hP hD hS dX10_know_35
    · have hp := px_f hp c_4
      refine lv_iconst (v := (-1 : Int32)) hx hb dX10_know_19 (by decide) ?_
      have ho := px_s hp
      subst ho
      exact hQ _ _ _ _ hP hD hS dX10_know_20
/-! TagReader.forget()I -/
theorem hvX10_forget : yX10_forget.cls = RX10 ∧ yX10_forget.cls ≠ "java/lang/invoke/MethodHandle" ∧ yX10_forget.cls ≠ "java/lang/invoke/VarHandle" ∧ (parseMethodDescriptor yX10_forget.desc).map (fun d => d.parameters.length) = some 0 := by decide +kernel
theorem fX10_forget_X10 : ∀ w ∈ u_ws RX10 TX10 16, w ∈ wsX10_forget := fun _ h => List.mem_cons_of_mem _ (List.mem_append_left _ (List.mem_append_right _ h))
theorem kX10_forget_1 : (.fieldLink RX10 88 "TagReader" "known" "LTagReader$Known;" : Cond) ∈ wsX10_forget := List.mem_of_getElem? (i := 1) rfl
theorem fX10_forget_X2 : ∀ w ∈ u_ws RX2 TX2 3, w ∈ wsX10_forget := fun _ h => List.mem_cons_of_mem _ (List.mem_append_right _ h)
theorem kX10_forget_2 : (.fieldLink RX10 106 "TagReader$Known" "size" "I" : Cond) ∈ wsX10_forget := List.mem_of_getElem? (i := 2) rfl
set_option maxHeartbeats 4000000 in
set_option maxRecDepth 100000 in
theorem ccX10_forget (l : Launch) (dC : Nat → ClassId) (dI : Nat → Nat → Nat) (cyI cyZ cyJ cyB cyO : ClassId) (sz : Nat) (h_x h_tg h_cr h_la h_sp a_x_splitRow h_tp h_tx h_fr h_se h_od h_kn a_x_sheets a_kn_numbers a_kn_slots : Nat) (x_n : Int32) (x_blocker : Int32) (x_blockerBits : Int32) (x_tornBy : Int32) (kn_size : Int32) (kn_numbers : Nat → Int32) (kn_slots : Nat → Int32) (out : Int32 × Int32) (hp : pX10_forget kn_size = some out) : Met l yX10_forget wsX10_forget ({ frames := 0, cells := 0, slots := 0, locals := 0 } : Room) (px_PW (dC, dI) (px_TY cyI cyZ cyJ cyB cyO) [.ref h_x] (wdX10_forget cyI cyZ cyJ cyB cyO h_x h_tg h_cr h_la h_sp a_x_splitRow h_tp h_tx h_fr h_se h_od h_kn a_x_sheets a_kn_numbers a_kn_slots x_n x_blocker x_blockerBits x_tornBy kn_size kn_numbers kn_slots h_la h_sp) sz) (px_QW (some (.int out.1)) (dC, dI) (wdX10_forget cyI cyZ cyJ cyB cyO h_x h_tg h_cr h_la h_sp a_x_splitRow h_tp h_tx h_fr h_se h_od h_kn a_x_sheets a_kn_numbers a_kn_slots x_n x_blocker x_blockerBits x_tornBy kn_size kn_numbers kn_slots h_la h_sp) (wdX10_forget cyI cyZ cyJ cyB cyO h_x h_tg h_cr h_la h_sp a_x_splitRow h_tp h_tx h_fr h_se h_od h_kn a_x_sheets a_kn_numbers a_kn_slots x_n x_blocker x_blockerBits x_tornBy out.2 kn_numbers kn_slots h_la h_sp) sz) 0 0 (va_A (wdX10_forget cyI cyZ cyJ cyB cyO h_x h_tg h_cr h_la h_sp a_x_splitRow h_tp h_tx h_fr h_se h_od h_kn a_x_sheets a_kn_numbers a_kn_slots x_n x_blocker x_blockerBits x_tornBy kn_size kn_numbers kn_slots h_la h_sp) sz) := by
  refine Met.ofW (cc := cX10_forget) (maxL := 2) (ret := (some .int)) (by decide) rfl ?_
  intro p e s m args below meth c s₁ B hml hv
  obtain ⟨rfl, hsz, hP, hK, hD0, hN⟩ := hv
  have hx := B.exec
  have hb := B.bytes
  have hr := B.returns
  have hts := atoms_spec (ws := wsX10_forget) B.pre
  have hown : s.vm.findClass RX10 = some m.cls := findClass_of_methodNamed B.named
  have hlocks := B.notSynchronized
  subst hsz
  have hD := hD0.self (sz := s.heap.size)
  generalize hAe : va_A (wdX10_forget cyI cyZ cyJ cyB cyO h_x h_tg h_cr h_la h_sp a_x_splitRow h_tp h_tx h_fr h_se h_od h_kn a_x_sheets a_kn_numbers a_kn_slots x_n x_blocker x_blockerBits x_tornBy kn_size kn_numbers kn_slots h_la h_sp) s.heap.size = A at hD ⊢
  have hA : ∀ q : Nat, s.heap.size ≤ q → A q := fun q h => by rw [← hAe]; exact Or.inr h
  have hS : va_S A s.heap s.heap [] := va_S.rf
  have hq := px_QWe (v := (some (.int out.1))) (D := (dC, dI)) (w1 := (wdX10_forget cyI cyZ cyJ cyB cyO h_x h_tg h_cr h_la h_sp a_x_splitRow h_tp h_tx h_fr h_se h_od h_kn a_x_sheets a_kn_numbers a_kn_slots x_n x_blocker x_blockerBits x_tornBy out.2 kn_numbers kn_slots h_la h_sp)) (st := s) hAe
  generalize px_QW (some (.int out.1)) (dC, dI) (wdX10_forget cyI cyZ cyJ cyB cyO h_x h_tg h_cr h_la h_sp a_x_splitRow h_tp h_tx h_fr h_se h_od h_kn a_x_sheets a_kn_numbers a_kn_slots x_n x_blocker x_blockerBits x_tornBy kn_size kn_numbers kn_slots h_la h_sp) (wdX10_forget cyI cyZ cyJ cyB cyO h_x h_tg h_cr h_la h_sp a_x_splitRow h_tp h_tx h_fr h_se h_od h_kn a_x_sheets a_kn_numbers a_kn_slots x_n x_blocker x_blockerBits x_tornBy out.2 kn_numbers kn_slots h_la h_sp) s.heap.size = Qc at hq ⊢
  have hQ : ∀ (H : Heap) (locs : List Loc) (pc : Nat) (ls : Array Slot), va_P (dC, dI) vwCl (wdX10_forget cyI cyZ cyJ cyB cyO h_x h_tg h_cr h_la h_sp a_x_splitRow h_tp h_tx h_fr h_se h_od h_kn a_x_sheets a_kn_numbers a_kn_slots x_n x_blocker x_blockerBits x_tornBy out.2 kn_numbers kn_slots h_la h_sp) H → va_D A (wdX10_forget cyI cyZ cyJ cyB cyO h_x h_tg h_cr h_la h_sp a_x_splitRow h_tp h_tx h_fr h_se h_od h_kn a_x_sheets a_kn_numbers a_kn_slots x_n x_blocker x_blockerBits x_tornBy out.2 kn_numbers kn_slots h_la h_sp) → va_S A s.heap H locs → decode cX10_forget pc = .ok (.ireturn, 1) → W p l e ({ frames := 0, cells := 0, slots := 0, locals := 0 } : Room) s m (([.ref h_x] : List Value).toArray) below meth c H locs 0 0 (MQ below Qc (([.ref h_x] : List Value).toArray) s 0 0 A) (F0 m pc ls [.int out.1]) := fun H locs pc ls hP hD hS hd => W.iret hx hb hr (fun t ht hW => hq _ t (by rw [ht]; exact hP) hD (hS.F ht)) hS.2.2 hd
  generalize MQ below Qc (([.ref h_x] : List Value).toArray) s 0 0 A = Q at hQ ⊢
  have hl := lv_entry [.ref h_x] (n := 2) (Nat.le_of_ble_eq_true rfl)
  rw [lg_entry_eq]
  generalize (lg_sl [.ref h_x] ++ List.replicate (2 - (lg_sl [.ref h_x]).length) Slot.unset).toArray = ls at hl ⊢
  have hl : lv_has ls 2 [(0, .ref h_x)] := hl
  unfold pX10_forget at hp
  refine lv_aload_n hx hb dX10_forget_0 rfl (lv_at hl 0 rfl) ?_
  refine va_get (D := (dC, dI)) (ci := 10) (v := .ref h_kn) (C := RX10) (T := TX10) (N := 16) hx hb hts fX10_forget_X10 hown hK hP 0 rfl rfl 14 (by decide) (hts _ kX10_forget_1) (fun _ h9 => h9) rfl dX10_forget_1 ?_
  refine va_get (D := (dC, dI)) (ci := 2) (v := .int kn_size) (C := RX2) (T := TX2) (N := 3) hx hb hts fX10_forget_X2 hown hK hP 1 rfl rfl 2 (by decide) (hts _ kX10_forget_2) (fun _ h9 => h9) rfl dX10_forget_4 ?_
  refine lv_istore_n (lv' := [(1, .int kn_size), (0, .ref h_x)]) hx hb dX10_forget_7 rfl hl (by decide) rfl (fun ls hl => ?_)
  refine lv_aload_n hx hb dX10_forget_8 rfl (lv_at hl 1 rfl) ?_
  refine va_get (D := (dC, dI)) (ci := 10) (v := .ref h_kn) (C := RX10) (T := TX10) (N := 16) hx hb hts fX10_forget_X10 hown hK hP 0 rfl rfl 14 (by decide) (hts _ kX10_forget_1) (fun _ h9 => h9) rfl dX10_forget_9 ?_
  refine lv_iconst (v := (0 : Int32)) hx hb dX10_forget_12 (by decide) ?_
  refine va_put (D := (dC, dI)) (ci := 2) (v := .int (0 : Int32)) (ty := .int) (C := RX2) (T := TX2) (N := 3) hx hb hts fX10_forget_X2 tyX2 tyX2_ok nmX2 hown hK hP hD hS 1 rfl rfl 2 (by decide) (hts _ kX10_forget_2) (fun _ h9 => h9) rfl (tyX2_ok 2 (by decide)) rfl rfl (Nat.le_of_ble_eq_true rfl) dX10_forget_13 (fun H locs hP hD hS => ?_)
  have hP : va_P (dC, dI) vwCl (wdX10_forget cyI cyZ cyJ cyB cyO h_x h_tg h_cr h_la h_sp a_x_splitRow h_tp h_tx h_fr h_se h_od h_kn a_x_sheets a_kn_numbers a_kn_slots x_n x_blocker x_blockerBits x_tornBy (0 : Int32) kn_numbers kn_slots h_la h_sp) H := hP
  have hD : va_D A (wdX10_forget cyI cyZ cyJ cyB cyO h_x h_tg h_cr h_la h_sp a_x_splitRow h_tp h_tx h_fr h_se h_od h_kn a_x_sheets a_kn_numbers a_kn_slots x_n x_blocker x_blockerBits x_tornBy (0 : Int32) kn_numbers kn_slots h_la h_sp) := hD
  refine lv_iload_n hx hb dX10_forget_16 rfl (lv_at hl 0 rfl) ?_
  have ho := px_s hp
  subst ho
  exact hQ _ _ _ _ hP hD hS dX10_forget_17
/-! TagReader.missing(III)I -/
theorem hvX10_missing : yX10_missing.cls = RX10 ∧ yX10_missing.cls ≠ "java/lang/invoke/MethodHandle" ∧ yX10_missing.cls ≠ "java/lang/invoke/VarHandle" ∧ (parseMethodDescriptor yX10_missing.desc).map (fun d => d.parameters.length) = some 3 := by decide +kernel
theorem fX10_missing_X10 : ∀ w ∈ u_ws RX10 TX10 16, w ∈ wsX10_missing := fun _ h => List.mem_cons_of_mem _ (List.mem_append_left _ (List.mem_append_right _ h))
theorem kX10_missing_1 : (.fieldLink RX10 88 "TagReader" "known" "LTagReader$Known;" : Cond) ∈ wsX10_missing := List.mem_of_getElem? (i := 1) rfl
set_option maxHeartbeats 4000000 in
set_option maxRecDepth 100000 in
theorem ccX10_missing (l : Launch) (dC : Nat → ClassId) (dI : Nat → Nat → Nat) (cyI cyZ cyJ cyB cyO : ClassId) (h_x h_tg h_cr h_la h_sp a_x_splitRow h_tp h_tx h_fr h_se h_od h_kn a_x_sheets a_kn_numbers a_kn_slots : Nat) (x_n : Int32) (x_blocker : Int32) (x_blockerBits : Int32) (x_tornBy : Int32) (kn_size : Int32) (kn_numbers : Nat → Int32) (kn_slots : Nat → Int32) (v1 : Int32) (v2 : Int32) (v3 : Int32) (out : Int32) (hp : pX10_missing v1 v2 v3 kn_size kn_numbers = some out) : Met l yX10_missing wsX10_missing ({ frames := 2, cells := 0, slots := 0, locals := 48 } : Room) (px_PR (dC, dI) (px_TY cyI cyZ cyJ cyB cyO) [.ref h_x, .int v1, .int v2, .int v3] (wdX10_missing cyI cyZ cyJ cyB cyO h_x h_tg h_cr h_la h_sp a_x_splitRow h_tp h_tx h_fr h_se h_od h_kn a_x_sheets a_kn_numbers a_kn_slots x_n x_blocker x_blockerBits x_tornBy kn_size kn_numbers kn_slots h_la h_sp)) (px_QR (.int out)) 0 0 (fun _ => False) := by
  refine Met.ofW (cc := cX10_missing) (maxL := 4) (ret := (some .int)) (by decide) rfl ?_
  intro p e s m args below meth c s₁ B hml hv
  obtain ⟨rfl, hP, hK, hN⟩ := hv
  have hx := B.exec
  have hb := B.bytes
  have hr := B.returns
  have hts := atoms_spec (ws := wsX10_missing) B.pre
  have hown : s.vm.findClass RX10 = some m.cls := findClass_of_methodNamed B.named
  have hlocks := B.notSynchronized
  have hQ : ∀ (pc : Nat) (ls : Array Slot), decode cX10_missing pc = .ok (.ireturn, 1) → W p l e ({ frames := 2, cells := 0, slots := 0, locals := 48 } : Room) s m (([.ref h_x, .int v1, .int v2, .int v3] : List Value).toArray) below meth c s.heap [] 0 0 (MQ below (px_QR (.int out)) (([.ref h_x, .int v1, .int v2, .int v3] : List Value).toArray) s 0 0 (fun _ => False)) (F0 m pc ls [.int out]) := fun pc ls hd => W.iret hx hb hr (fun t ht hW => ⟨rfl, ht⟩) (fun q h => by cases h) hd
  generalize MQ below (px_QR (.int out)) (([.ref h_x, .int v1, .int v2, .int v3] : List Value).toArray) s 0 0 (fun _ => False) = Q at hQ ⊢
  have hl := lv_entry [.ref h_x, .int v1, .int v2, .int v3] (n := 4) (Nat.le_of_ble_eq_true rfl)
  rw [lg_entry_eq]
  generalize (lg_sl [.ref h_x, .int v1, .int v2, .int v3] ++ List.replicate (4 - (lg_sl [.ref h_x, .int v1, .int v2, .int v3]).length) Slot.unset).toArray = ls at hl ⊢
  have hl : lv_has ls 4 [(0, .ref h_x), (1, .int v1), (2, .int v2), (3, .int v3)] := hl
  unfold pX10_missing at hp
  refine lv_iload_n hx hb dX10_missing_0 rfl (lv_at hl 1 rfl) ?_
  refine lv_iconst (v := (1 : Int32)) hx hb dX10_missing_1 (by decide) ?_
  refine lv_bipush (v := (30 : Int32)) hx hb dX10_missing_2 (by decide) ?_
  obtain ⟨o_1, ho_1, hp⟩ := px_b_at hp
  refine px_callR (v := .int o_1) (va_runS (As := [.int v1, .int (1 : Int32), .int (30 : Int32)]) (rest := []) ⟨hx, hb, hml, hown, hts⟩ (ccX10_within l dC dI cyI cyZ cyJ cyB cyO v1 (1 : Int32) (30 : Int32) o_1 ho_1) (va_cwS 3 hts gX10_missing_X10_within rfl rfl rfl hsX10_within ⟨Nat.le_of_ble_eq_true rfl, Nat.le_of_ble_eq_true rfl⟩) (px_preR (wc := []) hK hN hP [] rfl) rfl rfl hl.1 rfl (lv_room (Nat.le_of_ble_eq_true rfl)) dX10_missing_4 ⟨Nat.zero_le _, Nat.zero_le _⟩) ?_
  refine lv_if_eq (tgt := 22) hx hb dX10_missing_7 (by decide) (fun c_2 => ?_) (fun c_2 => ?_)
  · have hp := px_t hp c_2
    refine lv_iconst (v := (-1 : Int32)) hx hb dX10_missing_22 (by decide) ?_
    have ho := px_s hp
    subst ho
    exact hQ _ _ dX10_missing_23
  · have hp := px_f hp c_2
    refine lv_iload_n hx hb dX10_missing_10 rfl (lv_at hl 3 rfl) ?_
    refine lv_iconst (v := (0 : Int32)) hx hb dX10_missing_11 (by decide) ?_
    refine lv_iload_n hx hb dX10_missing_12 rfl (lv_at hl 1 rfl) ?_
    obtain ⟨o_3, ho_3, hp⟩ := px_b_at hp
    refine px_callR (v := .int o_3) (va_runS (As := [.int v1]) (rest := [.int (0 : Int32), .int v3]) ⟨hx, hb, hml, hown, hts⟩ (ccX10_lowBits l dC dI cyI cyZ cyJ cyB cyO v1 o_3 ho_3) (va_cwS 1 hts gX10_missing_X10_lowBits rfl rfl rfl hsX10_lowBits ⟨Nat.le_of_ble_eq_true rfl, Nat.le_of_ble_eq_true rfl⟩) (px_preR (wc := []) hK hN hP [] rfl) rfl rfl hl.1 rfl (lv_room (Nat.le_of_ble_eq_true rfl)) dX10_missing_13 ⟨Nat.zero_le _, Nat.zero_le _⟩) ?_
    obtain ⟨o_4, ho_4, hp⟩ := px_b_at hp
    refine px_callR (v := .int o_4) (va_runS (As := [.int v3, .int (0 : Int32), .int o_3]) (rest := []) ⟨hx, hb, hml, hown, hts⟩ (ccX10_within l dC dI cyI cyZ cyJ cyB cyO v3 (0 : Int32) o_3 o_4 ho_4) (va_cwS 3 hts gX10_missing_X10_within rfl rfl rfl hsX10_within ⟨Nat.le_of_ble_eq_true rfl, Nat.le_of_ble_eq_true rfl⟩) (px_preR (wc := []) hK hN hP [] rfl) rfl rfl hl.1 rfl (lv_room (Nat.le_of_ble_eq_true rfl)) dX10_missing_16 ⟨Nat.zero_le _, Nat.zero_le _⟩) ?_
    refine lv_if_ne (tgt := 24) hx hb dX10_missing_19 (by decide) (fun c_5 => ?_) (fun c_5 => ?_)
    · have hp := px_f hp c_5
      refine lv_aload_n hx hb dX10_missing_24 rfl (lv_at hl 0 rfl) ?_
      refine va_get (D := (dC, dI)) (ci := 10) (v := .ref h_kn) (C := RX10) (T := TX10) (N := 16) hx hb hts fX10_missing_X10 hown hK hP 0 rfl rfl 14 (by decide) (hts _ kX10_missing_1) (fun _ h9 => h9) rfl dX10_missing_25 ?_
      refine lv_iload_n hx hb dX10_missing_28 rfl (lv_at hl 3 rfl) ?_
      refine lv_iload_n hx hb dX10_missing_29 rfl (lv_at hl 1 rfl) ?_
      refine lv_iload_n hx hb dX10_missing_30 rfl (lv_at hl 2 rfl) ?_
      obtain ⟨o_6, ho_6, hp⟩ := px_b_at hp
      refine px_callR (v := .int o_6) (va_runV (As := [.int v3, .int v1, .int v2]) (rest := []) ⟨hx, hb, hml, hown, hts⟩ (ccX2_notIn l dC dI cyI cyZ cyJ cyB cyO h_kn a_kn_numbers a_kn_slots kn_size kn_numbers kn_slots v3 v1 v2 o_6 ho_6) (cwV 3 hts gX10_missing_X2_notIn rfl rfl rfl hvX2_notIn ⟨Nat.le_of_ble_eq_true rfl, Nat.le_of_ble_eq_true rfl⟩) (px_preRV (wc := (wdX2_notIn cyI cyZ cyJ cyB cyO h_kn a_kn_numbers a_kn_slots kn_size kn_numbers kn_slots)) (ci := 2) (q0 := 1) hK hN hP [1, 2, 3] rfl rfl rfl) rfl rfl hl.1 rfl (lv_room (Nat.le_of_ble_eq_true rfl)) dX10_missing_31 ⟨Nat.zero_le _, Nat.zero_le _⟩) ?_
      have ho := px_s hp
      subst ho
      exact hQ _ _ dX10_missing_34
    · have hp := px_t hp c_5
      refine lv_iconst (v := (-1 : Int32)) hx hb dX10_missing_22 (by decide) ?_
      have ho := px_s hp
      subst ho
      exact hQ _ _ dX10_missing_23
/-! TagReader.seen(II)I -/
theorem hvX10_seen : yX10_seen.cls = RX10 ∧ yX10_seen.cls ≠ "java/lang/invoke/MethodHandle" ∧ yX10_seen.cls ≠ "java/lang/invoke/VarHandle" ∧ (parseMethodDescriptor yX10_seen.desc).map (fun d => d.parameters.length) = some 2 := by decide +kernel
theorem fX10_seen_X10 : ∀ w ∈ u_ws RX10 TX10 16, w ∈ wsX10_seen := fun _ h => List.mem_cons_of_mem _ (List.mem_append_left _ (List.mem_append_right _ h))
theorem kX10_seen_1 : (.fieldLink RX10 88 "TagReader" "known" "LTagReader$Known;" : Cond) ∈ wsX10_seen := List.mem_of_getElem? (i := 1) rfl
set_option maxHeartbeats 4000000 in
set_option maxRecDepth 100000 in
theorem ccX10_seen (l : Launch) (dC : Nat → ClassId) (dI : Nat → Nat → Nat) (cyI cyZ cyJ cyB cyO : ClassId) (sz : Nat) (h_x h_tg h_cr h_la h_sp a_x_splitRow h_tp h_tx h_fr h_se h_od h_kn a_x_sheets a_kn_numbers a_kn_slots : Nat) (x_n : Int32) (x_blocker : Int32) (x_blockerBits : Int32) (x_tornBy : Int32) (kn_size : Int32) (kn_numbers : Nat → Int32) (kn_slots : Nat → Int32) (v1 : Int32) (v2 : Int32) (out : Int32 × (Nat → Int32)) (hp : pX10_seen v1 v2 kn_size kn_numbers kn_slots = some out) : Met l yX10_seen wsX10_seen ({ frames := 2, cells := 0, slots := 0, locals := 47 } : Room) (px_PW (dC, dI) (px_TY cyI cyZ cyJ cyB cyO) [.ref h_x, .int v1, .int v2] (wdX10_seen cyI cyZ cyJ cyB cyO h_x h_tg h_cr h_la h_sp a_x_splitRow h_tp h_tx h_fr h_se h_od h_kn a_x_sheets a_kn_numbers a_kn_slots x_n x_blocker x_blockerBits x_tornBy kn_size kn_numbers kn_slots h_la h_sp) sz) (px_QW (some (.int out.1)) (dC, dI) (wdX10_seen cyI cyZ cyJ cyB cyO h_x h_tg h_cr h_la h_sp a_x_splitRow h_tp h_tx h_fr h_se h_od h_kn a_x_sheets a_kn_numbers a_kn_slots x_n x_blocker x_blockerBits x_tornBy kn_size kn_numbers kn_slots h_la h_sp) (wdX10_seen cyI cyZ cyJ cyB cyO h_x h_tg h_cr h_la h_sp a_x_splitRow h_tp h_tx h_fr h_se h_od h_kn a_x_sheets a_kn_numbers a_kn_slots x_n x_blocker x_blockerBits x_tornBy kn_size kn_numbers out.2 h_la h_sp) sz) 0 0 (va_A (wdX10_seen cyI cyZ cyJ cyB cyO h_x h_tg h_cr h_la h_sp a_x_splitRow h_tp h_tx h_fr h_se h_od h_kn a_x_sheets a_kn_numbers a_kn_slots x_n x_blocker x_blockerBits x_tornBy kn_size kn_numbers kn_slots h_la h_sp) sz) := by
  refine Met.ofW (cc := cX10_seen) (maxL := 3) (ret := (some .int)) (by decide) rfl ?_
  intro p e s m args below meth c s₁ B hml hv
  obtain ⟨rfl, hsz, hP, hK, hD0, hN⟩ := hv
  have hx := B.exec
  have hb := B.bytes
  have hr := B.returns
  have hts := atoms_spec (ws := wsX10_seen) B.pre
  have hown : s.vm.findClass RX10 = some m.cls := findClass_of_methodNamed B.named
  have hlocks := B.notSynchronized
  subst hsz
  have hD := hD0.self (sz := s.heap.size)
  generalize hAe : va_A (wdX10_seen cyI cyZ cyJ cyB cyO h_x h_tg h_cr h_la h_sp a_x_splitRow h_tp h_tx h_fr h_se h_od h_kn a_x_sheets a_kn_numbers a_kn_slots x_n x_blocker x_blockerBits x_tornBy kn_size kn_numbers kn_slots h_la h_sp) s.heap.size = A at hD ⊢
  have hA : ∀ q : Nat, s.heap.size ≤ q → A q := fun q h => by rw [← hAe]; exact Or.inr h
  have hS : va_S A s.heap s.heap [] := va_S.rf
  have hq := px_QWe (v := (some (.int out.1))) (D := (dC, dI)) (w1 := (wdX10_seen cyI cyZ cyJ cyB cyO h_x h_tg h_cr h_la h_sp a_x_splitRow h_tp h_tx h_fr h_se h_od h_kn a_x_sheets a_kn_numbers a_kn_slots x_n x_blocker x_blockerBits x_tornBy kn_size kn_numbers out.2 h_la h_sp)) (st := s) hAe
  generalize px_QW (some (.int out.1)) (dC, dI) (wdX10_seen cyI cyZ cyJ cyB cyO h_x h_tg h_cr h_la h_sp a_x_splitRow h_tp h_tx h_fr h_se h_od h_kn a_x_sheets a_kn_numbers a_kn_slots x_n x_blocker x_blockerBits x_tornBy kn_size kn_numbers kn_slots h_la h_sp) (wdX10_seen cyI cyZ cyJ cyB cyO h_x h_tg h_cr h_la h_sp a_x_splitRow h_tp h_tx h_fr h_se h_od h_kn a_x_sheets a_kn_numbers a_kn_slots x_n x_blocker x_blockerBits x_tornBy kn_size kn_numbers out.2 h_la h_sp) s.heap.size = Qc at hq ⊢
  have hQ : ∀ (H : Heap) (locs : List Loc) (pc : Nat) (ls : Array Slot), va_P (dC, dI) vwCl (wdX10_seen cyI cyZ cyJ cyB cyO h_x h_tg h_cr h_la h_sp a_x_splitRow h_tp h_tx h_fr h_se h_od h_kn a_x_sheets a_kn_numbers a_kn_slots x_n x_blocker x_blockerBits x_tornBy kn_size kn_numbers out.2 h_la h_sp) H → va_D A (wdX10_seen cyI cyZ cyJ cyB cyO h_x h_tg h_cr h_la h_sp a_x_splitRow h_tp h_tx h_fr h_se h_od h_kn a_x_sheets a_kn_numbers a_kn_slots x_n x_blocker x_blockerBits x_tornBy kn_size kn_numbers out.2 h_la h_sp) → va_S A s.heap H locs → decode cX10_seen pc = .ok (.ireturn, 1) → W p l e ({ frames := 2, cells := 0, slots := 0, locals := 47 } : Room) s m (([.ref h_x, .int v1, .int v2] : List Value).toArray) below meth c H locs 0 0 (MQ below Qc (([.ref h_x, .int v1, .int v2] : List Value).toArray) s 0 0 A) (F0 m pc ls [.int out.1]) := fun H locs pc ls hP hD hS hd => W.iret hx hb hr (fun t ht hW => hq _ t (by rw [ht]; exact hP) hD (hS.F ht)) hS.2.2 hd
  generalize MQ below Qc (([.ref h_x, .int v1, .int v2] : List Value).toArray) s 0 0 A = Q at hQ ⊢
  have hl := lv_entry [.ref h_x, .int v1, .int v2] (n := 3) (Nat.le_of_ble_eq_true rfl)
  rw [lg_entry_eq]
  generalize (lg_sl [.ref h_x, .int v1, .int v2] ++ List.replicate (3 - (lg_sl [.ref h_x, .int v1, .int v2]).length) Slot.unset).toArray = ls at hl ⊢
  have hl : lv_has ls 3 [(0, .ref h_x), (1, .int v1), (2, .int v2)] := hl
  unfold pX10_seen at hp
  refine lv_iload_n hx hb dX10_seen_0 rfl (lv_at hl 1 rfl) ?_
  refine lv_iconst (v := (1 : Int32)) hx hb dX10_seen_1 (by decide) ?_
  refine lv_bipush (v := (64 : Int32)) hx hb dX10_seen_2 (by decide) ?_
  obtain ⟨o_1, ho_1, hp⟩ := px_b_at hp
  refine px_callR (v := .int o_1) (va_runS (As := [.int v1, .int (1 : Int32), .int (64 : Int32)]) (rest := []) ⟨hx, hb, hml, hown, hts⟩ (ccX10_within l dC dI cyI cyZ cyJ cyB cyO v1 (1 : Int32) (64 : Int32) o_1 ho_1) (va_cwS 3 hts gX10_seen_X10_within rfl rfl rfl hsX10_within ⟨Nat.le_of_ble_eq_true rfl, Nat.le_of_ble_eq_true rfl⟩) (px_preR (wc := []) hK hN hP [] rfl) rfl rfl hl.1 rfl (lv_room (Nat.le_of_ble_eq_true rfl)) dX10_seen_4 ⟨Nat.zero_le _, Nat.zero_le _⟩) ?_
  refine lv_if_eq (tgt := 22) hx hb dX10_seen_7 (by decide) (fun c_2 => ?_) (fun c_2 => ?_)
  · have hp := px_t hp c_2
    refine lv_iconst (v := (-1 : Int32)) hx hb dX10_seen_22 (by decide) ?_
    have ho := px_s hp
    subst ho
    exact hQ _ _ _ _ hP hD hS dX10_seen_23
  · have hp := px_f hp c_2
    refine lv_aload_n hx hb dX10_seen_10 rfl (lv_at hl 0 rfl) ?_
    refine va_get (D := (dC, dI)) (ci := 10) (v := .ref h_kn) (C := RX10) (T := TX10) (N := 16) hx hb hts fX10_seen_X10 hown hK hP 0 rfl rfl 14 (by decide) (hts _ kX10_seen_1) (fun _ h9 => h9) rfl dX10_seen_11 ?_
    refine lv_iload_n hx hb dX10_seen_14 rfl (lv_at hl 1 rfl) ?_
    refine lv_iload_n hx hb dX10_seen_15 rfl (lv_at hl 2 rfl) ?_
    obtain ⟨o_3, ho_3, hp⟩ := px_b_at hp
    refine px_callWi (r := o_3.1) (wc := (wdX2_aloneOnes cyI cyZ cyJ cyB cyO h_kn a_kn_numbers a_kn_slots kn_size kn_numbers kn_slots)) (wr := [(h_x, .inr (10, [.int x_n, .int x_blocker, .int x_blockerBits, .int x_tornBy, .ref h_tg, .ref h_cr, .ref h_la, .ref h_sp, .ref a_x_splitRow, .ref h_tp, .ref h_tx, .ref h_fr, .ref h_se, .ref h_od, .ref h_kn, .ref a_x_sheets]))]) (w1 := (wdX2_aloneOnes cyI cyZ cyJ cyB cyO h_kn a_kn_numbers a_kn_slots kn_size kn_numbers o_3.2)) (ws2 := (wdX10_seen cyI cyZ cyJ cyB cyO h_x h_tg h_cr h_la h_sp a_x_splitRow h_tp h_tx h_fr h_se h_od h_kn a_x_sheets a_kn_numbers a_kn_slots x_n x_blocker x_blockerBits x_tornBy kn_size kn_numbers o_3.2 h_la h_sp)) (va_runV (As := [.int v1, .int v2]) (rest := []) ⟨hx, hb, hml, hown, hts⟩ (ccX2_aloneOnes l dC dI cyI cyZ cyJ cyB cyO _ h_kn a_kn_numbers a_kn_slots kn_size kn_numbers kn_slots v1 v2 o_3 ho_3) (cwV 2 hts gX10_seen_X2_aloneOnes rfl rfl rfl hvX2_aloneOnes ⟨Nat.le_of_ble_eq_true rfl, Nat.le_of_ble_eq_true rfl⟩) (px_preWV (wc := (wdX2_aloneOnes cyI cyZ cyJ cyB cyO h_kn a_kn_numbers a_kn_slots kn_size kn_numbers kn_slots)) (ci := 2) (q0 := 1) hK hN hP hD [1, 2, 3] (by decide) rfl rfl rfl) rfl rfl hl.1 rfl (lv_room (Nat.le_of_ble_eq_true rfl)) dX10_seen_16 ⟨Nat.zero_le _, Nat.zero_le _⟩) hP hD hS hA [1, 2, 3] [0] [0, 1, 2, 3] rfl rfl (by decide) (by decide) (by decide) rfl (fun H locs hP hD hS => ?_)
    refine lv_goto (tgt := 23) hx hb dX10_seen_19 (by decide) ?_
    have ho := px_s hp
    subst ho
    exact hQ _ _ _ _ hP hD hS dX10_seen_23
