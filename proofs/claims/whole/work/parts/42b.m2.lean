/-! TagReaderModel.ask(III)I -/
def pX11_ask (v1 : Int32) (v2 : Int32) (v3 : Int32) (m_bits : Int32) (m_tags : Int32) (m_blockBits : Int32) (m_blocked : Int32) (m_number : Nat → Int32) (m_isSilent : Nat → Int32) (m_answers : Int32) (m_blockAnswers : Int32) (m_ones : Int32) (m_zeros : Int32) (m_lone : Int32) : Option (Int32 × Int32 × Int32 × Int32 × Int32 × Int32) := px_b (pX11_in (Int32.toInt64 v1) (0 : Int64) (Int32.toInt64 m_bits)) (fun o_1 => (if o_1 = (0 : Int32) then some ((-1 : Int32), m_answers, m_blockAnswers, m_ones, m_zeros, m_lone) else px_b (pX11_in (Int32.toInt64 v2) (0 : Int64) (Int32.toInt64 (((1 : Int32) <<< (v1 &&& (31 : Int32))) - (1 : Int32)))) (fun o_3 => (if o_3 = (0 : Int32) then some ((-1 : Int32), m_answers, m_blockAnswers, m_ones, m_zeros, m_lone) else px_b (pX11_in (Int32.toInt64 v3) (0 : Int64) (2 : Int64)) (fun o_5 => (if o_5 = (0 : Int32) then some ((-1 : Int32), m_answers, m_blockAnswers, m_ones, m_zeros, m_lone) else px_b (pX11_asks v1 v2 m_bits m_tags m_blockBits m_blocked m_number m_isSilent m_answers m_blockAnswers m_ones m_zeros m_lone) (fun o_7 => (if v3 = (0 : Int32) then some ((o_7.1 + o_7.2.1), o_7.1, o_7.2.1, o_7.2.2.1, o_7.2.2.2.1, o_7.2.2.2.2) else (if v3 = (1 : Int32) then some ((o_7.2.2.1 &&& (o_7.2.2.2.1 ^^^ (-1 : Int32))), o_7.1, o_7.2.1, o_7.2.2.1, o_7.2.2.2.1, o_7.2.2.2.2) else some ((o_7.2.2.1 &&& o_7.2.2.2.1), o_7.1, o_7.2.1, o_7.2.2.1, o_7.2.2.2.1, o_7.2.2.2.2))))))))))
abbrev wdX11_ask (cyI cyZ cyJ cyB cyO : ClassId) (h_m a_m_number a_m_strength a_m_isSilent a_m_keptBits a_m_keptBegin a_m_grown a_m_waitBits a_m_waitBegin a_m_growing a_m_askedBits a_m_askedBegin a_m_wasSilent a_m_costs a_m_extreme a_m_rules a_m_draft a_m_isTold a_m_tape a_m_shown a_m_went a_m_choose a_m_fills a_m_knownNumber a_m_lanes a_m_sizes a_m_cells : Nat) (m_bits : Int32) (m_tags : Int32) (m_blockBits : Int32) (m_blocked : Int32) (m_answers : Int32) (m_blockAnswers : Int32) (m_ones : Int32) (m_zeros : Int32) (m_lone : Int32) (m_hasTree : Int32) (m_kept : Int32) (m_taped : Int32) (m_pos : Int32) (m_from : Int32) (m_sort : Int32) (m_value : Int32) (m_fault : Int32) (m_wrongAt : Int32) (m_hasFrame : Int32) (m_hasAll : Int32) (m_known : Int32) (m_torn : Int32) (m_number : Nat → Int32) (m_isSilent : Nat → Int32) : va_W := [(h_m, .inr (11, [.int m_bits, .int m_tags, .ref a_m_number, .ref a_m_strength, .ref a_m_isSilent, .int m_blockBits, .int m_blocked, .int m_answers, .int m_blockAnswers, .int m_ones, .int m_zeros, .int m_lone, .int m_hasTree, .int m_kept, .ref a_m_keptBits, .ref a_m_keptBegin, .ref a_m_grown, .ref a_m_waitBits, .ref a_m_waitBegin, .ref a_m_growing, .ref a_m_askedBits, .ref a_m_askedBegin, .ref a_m_wasSilent, .ref a_m_costs, .ref a_m_extreme, .ref a_m_rules, .ref a_m_draft, .ref a_m_isTold, .ref a_m_tape, .int m_taped, .int m_pos, .int m_from, .int m_sort, .int m_value, .int m_fault, .int m_wrongAt, .int m_hasFrame, .ref a_m_shown, .int m_hasAll, .ref a_m_went, .ref a_m_choose, .ref a_m_fills, .int m_known, .ref a_m_knownNumber, .ref a_m_lanes, .ref a_m_sizes, .ref a_m_cells, .int m_torn])), (a_m_number, .inl (cyI, 16, .inl m_number)), (a_m_isSilent, .inl (cyZ, 16, .inl m_isSilent))]
/-! TagReaderModel.aheadOfClash(I)I -/
def pX11_aheadOfClash_2B (v1 : Int32) (m_bits : Int32) (m_ones : Int32) (m_zeros : Int32) (K_2 : Int32 → Option (Int32)) (v2 : Int32) : Option (Int32) := (if ((m_ones &&& m_zeros) >>> ((((m_bits - v1) - (1 : Int32)) - v2) &&& (31 : Int32))) = (0 : Int32) then K_2 (v2 + (1 : Int32)) else some v2)
def pX11_aheadOfClash_2 (v1 : Int32) (m_bits : Int32) (m_ones : Int32) (m_zeros : Int32) : Nat → Int32 → Option (Int32)
  | 0, _ => none
  | n + 1, v2 => pX11_aheadOfClash_2B v1 m_bits m_ones m_zeros (pX11_aheadOfClash_2 v1 m_bits m_ones m_zeros n) v2
def pX11_aheadOfClash (v1 : Int32) (m_bits : Int32) (m_ones : Int32) (m_zeros : Int32) : Option (Int32) := pX11_aheadOfClash_2 v1 m_bits m_ones m_zeros px_FU (0 : Int32)
abbrev wdX11_aheadOfClash (cyI cyZ cyJ cyB cyO : ClassId) (h_m a_m_number a_m_strength a_m_isSilent a_m_keptBits a_m_keptBegin a_m_grown a_m_waitBits a_m_waitBegin a_m_growing a_m_askedBits a_m_askedBegin a_m_wasSilent a_m_costs a_m_extreme a_m_rules a_m_draft a_m_isTold a_m_tape a_m_shown a_m_went a_m_choose a_m_fills a_m_knownNumber a_m_lanes a_m_sizes a_m_cells : Nat) (m_bits : Int32) (m_tags : Int32) (m_blockBits : Int32) (m_blocked : Int32) (m_answers : Int32) (m_blockAnswers : Int32) (m_ones : Int32) (m_zeros : Int32) (m_lone : Int32) (m_hasTree : Int32) (m_kept : Int32) (m_taped : Int32) (m_pos : Int32) (m_from : Int32) (m_sort : Int32) (m_value : Int32) (m_fault : Int32) (m_wrongAt : Int32) (m_hasFrame : Int32) (m_hasAll : Int32) (m_known : Int32) (m_torn : Int32) : va_W := [(h_m, .inr (11, [.int m_bits, .int m_tags, .ref a_m_number, .ref a_m_strength, .ref a_m_isSilent, .int m_blockBits, .int m_blocked, .int m_answers, .int m_blockAnswers, .int m_ones, .int m_zeros, .int m_lone, .int m_hasTree, .int m_kept, .ref a_m_keptBits, .ref a_m_keptBegin, .ref a_m_grown, .ref a_m_waitBits, .ref a_m_waitBegin, .ref a_m_growing, .ref a_m_askedBits, .ref a_m_askedBegin, .ref a_m_wasSilent, .ref a_m_costs, .ref a_m_extreme, .ref a_m_rules, .ref a_m_draft, .ref a_m_isTold, .ref a_m_tape, .int m_taped, .int m_pos, .int m_from, .int m_sort, .int m_value, .int m_fault, .int m_wrongAt, .int m_hasFrame, .ref a_m_shown, .int m_hasAll, .ref a_m_went, .ref a_m_choose, .ref a_m_fills, .int m_known, .ref a_m_knownNumber, .ref a_m_lanes, .ref a_m_sizes, .ref a_m_cells, .int m_torn]))]
/-! TagReaderModel.ask(III)I -/
theorem hvX11_ask : yX11_ask.cls = RX11 ∧ yX11_ask.cls ≠ "java/lang/invoke/MethodHandle" ∧ yX11_ask.cls ≠ "java/lang/invoke/VarHandle" ∧ (parseMethodDescriptor yX11_ask.desc).map (fun d => d.parameters.length) = some 3 := by decide +kernel
theorem fX11_ask_X11 : ∀ w ∈ u_ws RX11 TX11 48, w ∈ wsX11_ask := fun _ h => List.mem_cons_of_mem _ (List.mem_append_right _ h)
theorem kX11_ask_1 : (.fieldLink RX11 7 "TagReaderModel" "bits" "I" : Cond) ∈ wsX11_ask := List.mem_of_getElem? (i := 1) rfl
theorem kX11_ask_2 : (.constantLong RX11 110 (2) : Cond) ∈ wsX11_ask := List.mem_of_getElem? (i := 2) rfl
theorem kX11_ask_5 : (.fieldLink RX11 159 "TagReaderModel" "ones" "I" : Cond) ∈ wsX11_ask := List.mem_of_getElem? (i := 5) rfl
theorem kX11_ask_6 : (.fieldLink RX11 162 "TagReaderModel" "zeros" "I" : Cond) ∈ wsX11_ask := List.mem_of_getElem? (i := 6) rfl
theorem kX11_ask_3 : (.fieldLink RX11 153 "TagReaderModel" "answers" "I" : Cond) ∈ wsX11_ask := List.mem_of_getElem? (i := 3) rfl
theorem kX11_ask_4 : (.fieldLink RX11 156 "TagReaderModel" "blockAnswers" "I" : Cond) ∈ wsX11_ask := List.mem_of_getElem? (i := 4) rfl
set_option maxHeartbeats 4000000 in
set_option maxRecDepth 100000 in
theorem ccX11_ask (l : Launch) (dC : Nat → ClassId) (dI : Nat → Nat → Nat) (cyI cyZ cyJ cyB cyO : ClassId) (sz : Nat) (h_m a_m_number a_m_strength a_m_isSilent a_m_keptBits a_m_keptBegin a_m_grown a_m_waitBits a_m_waitBegin a_m_growing a_m_askedBits a_m_askedBegin a_m_wasSilent a_m_costs a_m_extreme a_m_rules a_m_draft a_m_isTold a_m_tape a_m_shown a_m_went a_m_choose a_m_fills a_m_knownNumber a_m_lanes a_m_sizes a_m_cells : Nat) (m_bits : Int32) (m_tags : Int32) (m_blockBits : Int32) (m_blocked : Int32) (m_answers : Int32) (m_blockAnswers : Int32) (m_ones : Int32) (m_zeros : Int32) (m_lone : Int32) (m_hasTree : Int32) (m_kept : Int32) (m_taped : Int32) (m_pos : Int32) (m_from : Int32) (m_sort : Int32) (m_value : Int32) (m_fault : Int32) (m_wrongAt : Int32) (m_hasFrame : Int32) (m_hasAll : Int32) (m_known : Int32) (m_torn : Int32) (m_number : Nat → Int32) (m_isSilent : Nat → Int32) (v1 : Int32) (v2 : Int32) (v3 : Int32) (out : Int32 × Int32 × Int32 × Int32 × Int32 × Int32) (hp : pX11_ask v1 v2 v3 m_bits m_tags m_blockBits m_blocked m_number m_isSilent m_answers m_blockAnswers m_ones m_zeros m_lone = some out) : Met l yX11_ask wsX11_ask ({ frames := 1, cells := 0, slots := 0, locals := 26 } : Room) (px_PW (dC, dI) (px_TY cyI cyZ cyJ cyB cyO) [.ref h_m, .int v1, .int v2, .int v3] (wdX11_ask cyI cyZ cyJ cyB cyO h_m a_m_number a_m_strength a_m_isSilent a_m_keptBits a_m_keptBegin a_m_grown a_m_waitBits a_m_waitBegin a_m_growing a_m_askedBits a_m_askedBegin a_m_wasSilent a_m_costs a_m_extreme a_m_rules a_m_draft a_m_isTold a_m_tape a_m_shown a_m_went a_m_choose a_m_fills a_m_knownNumber a_m_lanes a_m_sizes a_m_cells m_bits m_tags m_blockBits m_blocked m_answers m_blockAnswers m_ones m_zeros m_lone m_hasTree m_kept m_taped m_pos m_from m_sort m_value m_fault m_wrongAt m_hasFrame m_hasAll m_known m_torn m_number m_isSilent) sz) (px_QW (some (.int out.1)) (dC, dI) (wdX11_ask cyI cyZ cyJ cyB cyO h_m a_m_number a_m_strength a_m_isSilent a_m_keptBits a_m_keptBegin a_m_grown a_m_waitBits a_m_waitBegin a_m_growing a_m_askedBits a_m_askedBegin a_m_wasSilent a_m_costs a_m_extreme a_m_rules a_m_draft a_m_isTold a_m_tape a_m_shown a_m_went a_m_choose a_m_fills a_m_knownNumber a_m_lanes a_m_sizes a_m_cells m_bits m_tags m_blockBits m_blocked m_answers m_blockAnswers m_ones m_zeros m_lone m_hasTree m_kept m_taped m_pos m_from m_sort m_value m_fault m_wrongAt m_hasFrame m_hasAll m_known m_torn m_number m_isSilent) (wdX11_ask cyI cyZ cyJ cyB cyO h_m a_m_number a_m_strength a_m_isSilent a_m_keptBits a_m_keptBegin a_m_grown a_m_waitBits a_m_waitBegin a_m_growing a_m_askedBits a_m_askedBegin a_m_wasSilent a_m_costs a_m_extreme a_m_rules a_m_draft a_m_isTold a_m_tape a_m_shown a_m_went a_m_choose a_m_fills a_m_knownNumber a_m_lanes a_m_sizes a_m_cells m_bits m_tags m_blockBits m_blocked out.2.1 out.2.2.1 out.2.2.2.1 out.2.2.2.2.1 out.2.2.2.2.2 m_hasTree m_kept m_taped m_pos m_from m_sort m_value m_fault m_wrongAt m_hasFrame m_hasAll m_known m_torn m_number m_isSilent) sz) 0 0 (va_A (wdX11_ask cyI cyZ cyJ cyB cyO h_m a_m_number a_m_strength a_m_isSilent a_m_keptBits a_m_keptBegin a_m_grown a_m_waitBits a_m_waitBegin a_m_growing a_m_askedBits a_m_askedBegin a_m_wasSilent a_m_costs a_m_extreme a_m_rules a_m_draft a_m_isTold a_m_tape a_m_shown a_m_went a_m_choose a_m_fills a_m_knownNumber a_m_lanes a_m_sizes a_m_cells m_bits m_tags m_blockBits m_blocked m_answers m_blockAnswers m_ones m_zeros m_lone m_hasTree m_kept m_taped m_pos m_from m_sort m_value m_fault m_wrongAt m_hasFrame m_hasAll m_known m_torn m_number m_isSilent) sz) := by
  refine Met.ofW (cc := cX11_ask) (maxL := 4) (ret := (some .int)) (by decide) rfl ?_
  intro p e s m args below meth c s₁ B hml hv
  obtain ⟨rfl, hsz, hP, hK, hD0, hN⟩ := hv
  have hx := B.exec
  have hb := B.bytes
  have hr := B.returns
  have hts := atoms_spec (ws := wsX11_ask) B.pre
  have hown : s.vm.findClass RX11 = some m.cls := findClass_of_methodNamed B.named
  have hlocks := B.notSynchronized
  subst hsz
  have hD := hD0.self (sz := s.heap.size)
  generalize hAe : va_A (wdX11_ask cyI cyZ cyJ cyB cyO h_m a_m_number a_m_strength a_m_isSilent a_m_keptBits a_m_keptBegin a_m_grown a_m_waitBits a_m_waitBegin a_m_growing a_m_askedBits a_m_askedBegin a_m_wasSilent a_m_costs a_m_extreme a_m_rules a_m_draft a_m_isTold a_m_tape a_m_shown a_m_went a_m_choose a_m_fills a_m_knownNumber a_m_lanes a_m_sizes a_m_cells m_bits m_tags m_blockBits m_blocked m_answers m_blockAnswers m_ones m_zeros m_lone m_hasTree m_kept m_taped m_pos m_from m_sort m_value m_fault m_wrongAt m_hasFrame m_hasAll m_known m_torn m_number m_isSilent) s.heap.size = A at hD ⊢
  have hA : ∀ q : Nat, s.heap.size ≤ q → A q := fun q h => by rw [← hAe]; exact Or.inr h
  have hS : va_S A s.heap s.heap [] := va_S.rf
  have hq := px_QWe (v := (some (.int out.1))) (D := (dC, dI)) (w1 := (wdX11_ask cyI cyZ cyJ cyB cyO h_m a_m_number a_m_strength a_m_isSilent a_m_keptBits a_m_keptBegin a_m_grown a_m_waitBits a_m_waitBegin a_m_growing a_m_askedBits a_m_askedBegin a_m_wasSilent a_m_costs a_m_extreme a_m_rules a_m_draft a_m_isTold a_m_tape a_m_shown a_m_went a_m_choose a_m_fills a_m_knownNumber a_m_lanes a_m_sizes a_m_cells m_bits m_tags m_blockBits m_blocked out.2.1 out.2.2.1 out.2.2.2.1 out.2.2.2.2.1 out.2.2.2.2.2 m_hasTree m_kept m_taped m_pos m_from m_sort m_value m_fault m_wrongAt m_hasFrame m_hasAll m_known m_torn m_number m_isSilent)) (st := s) hAe
  generalize px_QW (some (.int out.1)) (dC, dI) (wdX11_ask cyI cyZ cyJ cyB cyO h_m a_m_number a_m_strength a_m_isSilent a_m_keptBits a_m_keptBegin a_m_grown a_m_waitBits a_m_waitBegin a_m_growing a_m_askedBits a_m_askedBegin a_m_wasSilent a_m_costs a_m_extreme a_m_rules a_m_draft a_m_isTold a_m_tape a_m_shown a_m_went a_m_choose a_m_fills a_m_knownNumber a_m_lanes a_m_sizes a_m_cells m_bits m_tags m_blockBits m_blocked m_answers m_blockAnswers m_ones m_zeros m_lone m_hasTree m_kept m_taped m_pos m_from m_sort m_value m_fault m_wrongAt m_hasFrame m_hasAll m_known m_torn m_number m_isSilent) (wdX11_ask cyI cyZ cyJ cyB cyO h_m a_m_number a_m_strength a_m_isSilent a_m_keptBits a_m_keptBegin a_m_grown a_m_waitBits a_m_waitBegin a_m_growing a_m_askedBits a_m_askedBegin a_m_wasSilent a_m_costs a_m_extreme a_m_rules a_m_draft a_m_isTold a_m_tape a_m_shown a_m_went a_m_choose a_m_fills a_m_knownNumber a_m_lanes a_m_sizes a_m_cells m_bits m_tags m_blockBits m_blocked out.2.1 out.2.2.1 out.2.2.2.1 out.2.2.2.2.1 out.2.2.2.2.2 m_hasTree m_kept m_taped m_pos m_from m_sort m_value m_fault m_wrongAt m_hasFrame m_hasAll m_known m_torn m_number m_isSilent) s.heap.size = Qc at hq ⊢
  have hQ : ∀ (H : Heap) (locs : List Loc) (pc : Nat) (ls : Array Slot), va_P (dC, dI) vwCl (wdX11_ask cyI cyZ cyJ cyB cyO h_m a_m_number a_m_strength a_m_isSilent a_m_keptBits a_m_keptBegin a_m_grown a_m_waitBits a_m_waitBegin a_m_growing a_m_askedBits a_m_askedBegin a_m_wasSilent a_m_costs a_m_extreme a_m_rules a_m_draft a_m_isTold a_m_tape a_m_shown a_m_went a_m_choose a_m_fills a_m_knownNumber a_m_lanes a_m_sizes a_m_cells m_bits m_tags m_blockBits m_blocked out.2.1 out.2.2.1 out.2.2.2.1 out.2.2.2.2.1 out.2.2.2.2.2 m_hasTree m_kept m_taped m_pos m_from m_sort m_value m_fault m_wrongAt m_hasFrame m_hasAll m_known m_torn m_number m_isSilent) H → va_D A (wdX11_ask cyI cyZ cyJ cyB cyO h_m a_m_number a_m_strength a_m_isSilent a_m_keptBits a_m_keptBegin a_m_grown a_m_waitBits a_m_waitBegin a_m_growing a_m_askedBits a_m_askedBegin a_m_wasSilent a_m_costs a_m_extreme a_m_rules a_m_draft a_m_isTold a_m_tape a_m_shown a_m_went a_m_choose a_m_fills a_m_knownNumber a_m_lanes a_m_sizes a_m_cells m_bits m_tags m_blockBits m_blocked out.2.1 out.2.2.1 out.2.2.2.1 out.2.2.2.2.1 out.2.2.2.2.2 m_hasTree m_kept m_taped m_pos m_from m_sort m_value m_fault m_wrongAt m_hasFrame m_hasAll m_known m_torn m_number m_isSilent) → va_S A s.heap H locs → decode cX11_ask pc = .ok (.ireturn, 1) → W p l e ({ frames := 1, cells := 0, slots := 0, locals := 26 } : Room) s m (([.ref h_m, .int v1, .int v2, .int v3] : List Value).toArray) below meth c H locs 0 0 (MQ below Qc (([.ref h_m, .int v1, .int v2, .int v3] : List Value).toArray) s 0 0 A) (F0 m pc ls [.int out.1]) := fun H locs pc ls hP hD hS hd => W.iret hx hb hr (fun t ht hW => hq _ t (by rw [ht]; exact hP) hD (hS.F ht)) hS.2.2 hd
  generalize MQ below Qc (([.ref h_m, .int v1, .int v2, .int v3] : List Value).toArray) s 0 0 A = Q at hQ ⊢
  have hl := lv_entry [.ref h_m, .int v1, .int v2, .int v3] (n := 4) (Nat.le_of_ble_eq_true rfl)
  rw [lg_entry_eq]
  generalize (lg_sl [.ref h_m, .int v1, .int v2, .int v3] ++ List.replicate (4 - (lg_sl [.ref h_m, .int v1, .int v2, .int v3]).length) Slot.unset).toArray = ls at hl ⊢
  have hl : lv_has ls 4 [(0, .ref h_m), (1, .int v1), (2, .int v2), (3, .int v3)] := hl
  unfold pX11_ask at hp
  refine lv_iload_n hx hb dX11_ask_0 rfl (lv_at hl 1 rfl) ?_
  refine lv_i2l hx hb dX11_ask_1 rfl ?_
  refine lv_lconst (v := (0 : Int64)) hx hb dX11_ask_2 (by decide) ?_
  refine lv_aload_n hx hb dX11_ask_3 rfl (lv_at hl 0 rfl) ?_
  refine va_get (D := (dC, dI)) (ci := 11) (v := .int m_bits) (C := RX11) (T := TX11) (N := 48) hx hb hts fX11_ask_X11 hown hK hP 0 rfl rfl 0 (by decide) (hts _ kX11_ask_1) (fun _ h9 => h9) rfl dX11_ask_4 ?_
  refine lv_i2l hx hb dX11_ask_7 rfl ?_
  obtain ⟨o_1, ho_1, hp⟩ := px_b_at hp
  refine px_callR (v := .int o_1) (va_runS (As := [.long (Int32.toInt64 v1), .long (0 : Int64), .long (Int32.toInt64 m_bits)]) (rest := []) ⟨hx, hb, hml, hown, hts⟩ (ccX11_in l dC dI cyI cyZ cyJ cyB cyO (Int32.toInt64 v1) (0 : Int64) (Int32.toInt64 m_bits) o_1 ho_1) (va_cwS 3 hts gX11_ask_X11_in rfl rfl rfl hsX11_in ⟨Nat.le_of_ble_eq_true rfl, Nat.le_of_ble_eq_true rfl⟩) (px_preR (wc := []) hK hN hP [] rfl) rfl rfl hl.1 rfl (lv_room (Nat.le_of_ble_eq_true rfl)) dX11_ask_8 ⟨Nat.zero_le _, Nat.zero_le _⟩) ?_
  refine lv_if_eq (tgt := 41) hx hb dX11_ask_11 (by decide) (fun c_2 => ?_) (fun c_2 => ?_)
  · have hp := px_t hp c_2
    refine lv_iconst (v := (-1 : Int32)) hx hb dX11_ask_41 (by decide) ?_
    have ho := px_s hp
    subst ho
    exact hQ _ _ _ _ hP hD hS dX11_ask_42
  · have hp := px_f hp c_2
    refine lv_iload_n hx hb dX11_ask_14 rfl (lv_at hl 2 rfl) ?_
    refine lv_i2l hx hb dX11_ask_15 rfl ?_
    refine lv_lconst (v := (0 : Int64)) hx hb dX11_ask_16 (by decide) ?_
    refine lv_iconst (v := (1 : Int32)) hx hb dX11_ask_17 (by decide) ?_
    refine lv_iload_n hx hb dX11_ask_18 rfl (lv_at hl 1 rfl) ?_
    refine lv_ishl hx hb dX11_ask_19 ?_
    refine lv_iconst (v := (1 : Int32)) hx hb dX11_ask_20 (by decide) ?_
    refine lv_isub hx hb dX11_ask_21 ?_
    refine lv_i2l hx hb dX11_ask_22 rfl ?_
    obtain ⟨o_3, ho_3, hp⟩ := px_b_at hp
    refine px_callR (v := .int o_3) (va_runS (As := [.long (Int32.toInt64 v2), .long (0 : Int64), .long (Int32.toInt64 (((1 : Int32) <<< (v1 &&& (31 : Int32))) - (1 : Int32)))]) (rest := []) ⟨hx, hb, hml, hown, hts⟩ (ccX11_in l dC dI cyI cyZ cyJ cyB cyO (Int32.toInt64 v2) (0 : Int64) (Int32.toInt64 (((1 : Int32) <<< (v1 &&& (31 : Int32))) - (1 : Int32))) o_3 ho_3) (va_cwS 3 hts gX11_ask_X11_in rfl rfl rfl hsX11_in ⟨Nat.le_of_ble_eq_true rfl, Nat.le_of_ble_eq_true rfl⟩) (px_preR (wc := []) hK hN hP [] rfl) rfl rfl hl.1 rfl (lv_room (Nat.le_of_ble_eq_true rfl)) dX11_ask_23 ⟨Nat.zero_le _, Nat.zero_le _⟩) ?_
    refine lv_if_eq (tgt := 41) hx hb dX11_ask_26 (by decide) (fun c_4 => ?_) (fun c_4 => ?_)
    · have hp := px_t hp c_4
      refine lv_iconst (v := (-1 : Int32)) hx hb dX11_ask_41 (by decide) ?_
      have ho := px_s hp
      subst ho
      exact hQ _ _ _ _ hP hD hS dX11_ask_42
    · have hp := px_f hp c_4
      refine lv_iload_n hx hb dX11_ask_29 rfl (lv_at hl 3 rfl) ?_
      refine lv_i2l hx hb dX11_ask_30 rfl ?_
      refine lv_lconst (v := (0 : Int64)) hx hb dX11_ask_31 (by decide) ?_
      refine lv_ldc2 (v := (2 : Int64)) hx hb hown (hts _ kX11_ask_2) dX11_ask_32 ?_
      obtain ⟨o_5, ho_5, hp⟩ := px_b_at hp
      refine px_callR (v := .int o_5) (va_runS (As := [.long (Int32.toInt64 v3), .long (0 : Int64), .long (2 : Int64)]) (rest := []) ⟨hx, hb, hml, hown, hts⟩ (ccX11_in l dC dI cyI cyZ cyJ cyB cyO (Int32.toInt64 v3) (0 : Int64) (2 : Int64) o_5 ho_5) (va_cwS 3 hts gX11_ask_X11_in rfl rfl rfl hsX11_in ⟨Nat.le_of_ble_eq_true rfl, Nat.le_of_ble_eq_true rfl⟩) (px_preR (wc := []) hK hN hP [] rfl) rfl rfl hl.1 rfl (lv_room (Nat.le_of_ble_eq_true rfl)) dX11_ask_35 ⟨Nat.zero_le _, Nat.zero_le _⟩) ?_
      refine lv_if_ne (tgt := 43) hx hb dX11_ask_38 (by decide) (fun c_6 => ?_) (fun c_6 => ?_)
      · have hp := px_f hp c_6
        refine lv_aload_n hx hb dX11_ask_43 rfl (lv_at hl 0 rfl) ?_
        refine lv_iload_n hx hb dX11_ask_44 rfl (lv_at hl 1 rfl) ?_
        refine lv_iload_n hx hb dX11_ask_45 rfl (lv_at hl 2 rfl) ?_
        obtain ⟨o_7, ho_7, hp⟩ := px_b_at hp
        refine px_callWv (wc := (wdX11_asks cyI cyZ cyJ cyB cyO h_m a_m_number a_m_strength a_m_isSilent a_m_keptBits a_m_keptBegin a_m_grown a_m_waitBits a_m_waitBegin a_m_growing a_m_askedBits a_m_askedBegin a_m_wasSilent a_m_costs a_m_extreme a_m_rules a_m_draft a_m_isTold a_m_tape a_m_shown a_m_went a_m_choose a_m_fills a_m_knownNumber a_m_lanes a_m_sizes a_m_cells m_bits m_tags m_blockBits m_blocked m_answers m_blockAnswers m_ones m_zeros m_lone m_hasTree m_kept m_taped m_pos m_from m_sort m_value m_fault m_wrongAt m_hasFrame m_hasAll m_known m_torn m_number m_isSilent)) (wr := []) (w1 := (wdX11_asks cyI cyZ cyJ cyB cyO h_m a_m_number a_m_strength a_m_isSilent a_m_keptBits a_m_keptBegin a_m_grown a_m_waitBits a_m_waitBegin a_m_growing a_m_askedBits a_m_askedBegin a_m_wasSilent a_m_costs a_m_extreme a_m_rules a_m_draft a_m_isTold a_m_tape a_m_shown a_m_went a_m_choose a_m_fills a_m_knownNumber a_m_lanes a_m_sizes a_m_cells m_bits m_tags m_blockBits m_blocked o_7.1 o_7.2.1 o_7.2.2.1 o_7.2.2.2.1 o_7.2.2.2.2 m_hasTree m_kept m_taped m_pos m_from m_sort m_value m_fault m_wrongAt m_hasFrame m_hasAll m_known m_torn m_number m_isSilent)) (ws2 := (wdX11_ask cyI cyZ cyJ cyB cyO h_m a_m_number a_m_strength a_m_isSilent a_m_keptBits a_m_keptBegin a_m_grown a_m_waitBits a_m_waitBegin a_m_growing a_m_askedBits a_m_askedBegin a_m_wasSilent a_m_costs a_m_extreme a_m_rules a_m_draft a_m_isTold a_m_tape a_m_shown a_m_went a_m_choose a_m_fills a_m_knownNumber a_m_lanes a_m_sizes a_m_cells m_bits m_tags m_blockBits m_blocked o_7.1 o_7.2.1 o_7.2.2.1 o_7.2.2.2.1 o_7.2.2.2.2 m_hasTree m_kept m_taped m_pos m_from m_sort m_value m_fault m_wrongAt m_hasFrame m_hasAll m_known m_torn m_number m_isSilent)) (va_runV (As := [.int v1, .int v2]) (rest := []) ⟨hx, hb, hml, hown, hts⟩ (ccX11_asks l dC dI cyI cyZ cyJ cyB cyO _ h_m a_m_number a_m_strength a_m_isSilent a_m_keptBits a_m_keptBegin a_m_grown a_m_waitBits a_m_waitBegin a_m_growing a_m_askedBits a_m_askedBegin a_m_wasSilent a_m_costs a_m_extreme a_m_rules a_m_draft a_m_isTold a_m_tape a_m_shown a_m_went a_m_choose a_m_fills a_m_knownNumber a_m_lanes a_m_sizes a_m_cells m_bits m_tags m_blockBits m_blocked m_answers m_blockAnswers m_ones m_zeros m_lone m_hasTree m_kept m_taped m_pos m_from m_sort m_value m_fault m_wrongAt m_hasFrame m_hasAll m_known m_torn m_number m_isSilent v1 v2 o_7 ho_7) (cwV 2 hts gX11_ask_X11_asks rfl rfl rfl hvX11_asks ⟨Nat.le_of_ble_eq_true rfl, Nat.le_of_ble_eq_true rfl⟩) (px_preWV (wc := (wdX11_asks cyI cyZ cyJ cyB cyO h_m a_m_number a_m_strength a_m_isSilent a_m_keptBits a_m_keptBegin a_m_grown a_m_waitBits a_m_waitBegin a_m_growing a_m_askedBits a_m_askedBegin a_m_wasSilent a_m_costs a_m_extreme a_m_rules a_m_draft a_m_isTold a_m_tape a_m_shown a_m_went a_m_choose a_m_fills a_m_knownNumber a_m_lanes a_m_sizes a_m_cells m_bits m_tags m_blockBits m_blocked m_answers m_blockAnswers m_ones m_zeros m_lone m_hasTree m_kept m_taped m_pos m_from m_sort m_value m_fault m_wrongAt m_hasFrame m_hasAll m_known m_torn m_number m_isSilent)) (ci := 11) (q0 := 0) hK hN hP hD [0, 1, 2] (by decide) rfl rfl rfl) rfl rfl hl.1 rfl (lv_room (Nat.le_of_ble_eq_true rfl)) dX11_ask_46 ⟨Nat.zero_le _, Nat.zero_le _⟩) hP hD hS hA [0, 1, 2] [] [0, 1, 2] rfl rfl (by decide) (by decide) (by decide) rfl (fun H locs hP hD hS => ?_)
        refine lv_iload_n hx hb dX11_ask_49 rfl (lv_at hl 3 rfl) ?_
        refine lv_if_ne (tgt := 65) hx hb dX11_ask_50 (by decide) (fun c_8 => ?_) (fun c_8 => ?_)
        · have hp := px_f hp c_8
          refine lv_iload_n hx hb dX11_ask_65 rfl (lv_at hl 3 rfl) ?_
          refine lv_iconst (v := (1 : Int32)) hx hb dX11_ask_66 (by decide) ?_
          refine lv_icmp_ne (tgt := 84) hx hb dX11_ask_67 (by decide) (fun c_9 => ?_) (fun c_9 => ?_)
          · have hp := px_f hp c_9
            refine lv_aload_n hx hb dX11_ask_84 rfl (lv_at hl 0 rfl) ?_
            refine va_get (D := (dC, dI)) (ci := 11) (v := .int o_7.2.2.1) (C := RX11) (T := TX11) (N := 48) hx hb hts fX11_ask_X11 hown hK hP 0 rfl rfl 9 (by decide) (hts _ kX11_ask_5) (fun _ h9 => h9) rfl dX11_ask_85 ?_
            refine lv_aload_n hx hb dX11_ask_88 rfl (lv_at hl 0 rfl) ?_
            refine va_get (D := (dC, dI)) (ci := 11) (v := .int o_7.2.2.2.1) (C := RX11) (T := TX11) (N := 48) hx hb hts fX11_ask_X11 hown hK hP 0 rfl rfl 10 (by decide) (hts _ kX11_ask_6) (fun _ h9 => h9) rfl dX11_ask_89 ?_
            refine lv_iand hx hb dX11_ask_92 ?_
            have ho := px_s hp
            subst ho
            exact hQ _ _ _ _ hP hD hS dX11_ask_93
          · have hp := px_t hp c_9
            refine lv_aload_n hx hb dX11_ask_70 rfl (lv_at hl 0 rfl) ?_
            refine va_get (D := (dC, dI)) (ci := 11) (v := .int o_7.2.2.1) (C := RX11) (T := TX11) (N := 48) hx hb hts fX11_ask_X11 hown hK hP 0 rfl rfl 9 (by decide) (hts _ kX11_ask_5) (fun _ h9 => h9) rfl dX11_ask_71 ?_
            refine lv_aload_n hx hb dX11_ask_74 rfl (lv_at hl 0 rfl) ?_
            refine va_get (D := (dC, dI)) (ci := 11) (v := .int o_7.2.2.2.1) (C := RX11) (T := TX11) (N := 48) hx hb hts fX11_ask_X11 hown hK hP 0 rfl rfl 10 (by decide) (hts _ kX11_ask_6) (fun _ h9 => h9) rfl dX11_ask_75 ?_
            refine lv_iconst (v := (-1 : Int32)) hx hb dX11_ask_78 (by decide) ?_
            refine lv_ixor hx hb dX11_ask_79 ?_
            refine lv_iand hx hb dX11_ask_80 ?_
            refine lv_goto (tgt := 93) hx hb dX11_ask_81 (by decide) ?_
            have ho := px_s hp
            subst ho
            exact hQ _ _ _ _ hP hD hS dX11_ask_93
        · have hp := px_t hp c_8
          refine lv_aload_n hx hb dX11_ask_53 rfl (lv_at hl 0 rfl) ?_
          refine va_get (D := (dC, dI)) (ci := 11) (v := .int o_7.1) (C := RX11) (T := TX11) (N := 48) hx hb hts fX11_ask_X11 hown hK hP 0 rfl rfl 7 (by decide) (hts _ kX11_ask_3) (fun _ h9 => h9) rfl dX11_ask_54 ?_
          refine lv_aload_n hx hb dX11_ask_57 rfl (lv_at hl 0 rfl) ?_
          refine va_get (D := (dC, dI)) (ci := 11) (v := .int o_7.2.1) (C := RX11) (T := TX11) (N := 48) hx hb hts fX11_ask_X11 hown hK hP 0 rfl rfl 8 (by decide) (hts _ kX11_ask_4) (fun _ h9 => h9) rfl dX11_ask_58 ?_
          refine lv_iadd hx hb dX11_ask_61 ?_
          refine lv_goto (tgt := 93) hx hb dX11_ask_62 (by decide) ?_
          have ho := px_s hp
          subst ho
          exact hQ _ _ _ _ hP hD hS dX11_ask_93
      · have hp := px_t hp c_6
        refine lv_iconst (v := (-1 : Int32)) hx hb dX11_ask_41 (by decide) ?_
        have ho := px_s hp
        subst ho
        exact hQ _ _ _ _ hP hD hS dX11_ask_42
/-! TagReaderModel.aheadOfClash(I)I -/
theorem hvX11_aheadOfClash : yX11_aheadOfClash.cls = RX11 ∧ yX11_aheadOfClash.cls ≠ "java/lang/invoke/MethodHandle" ∧ yX11_aheadOfClash.cls ≠ "java/lang/invoke/VarHandle" ∧ (parseMethodDescriptor yX11_aheadOfClash.desc).map (fun d => d.parameters.length) = some 1 := by decide +kernel
theorem fX11_aheadOfClash_X11 : ∀ w ∈ u_ws RX11 TX11 48, w ∈ wsX11_aheadOfClash := fun _ h => List.mem_cons_of_mem _ (List.mem_append_right _ h)
theorem kX11_aheadOfClash_1 : (.fieldLink RX11 159 "TagReaderModel" "ones" "I" : Cond) ∈ wsX11_aheadOfClash := List.mem_of_getElem? (i := 1) rfl
theorem kX11_aheadOfClash_2 : (.fieldLink RX11 162 "TagReaderModel" "zeros" "I" : Cond) ∈ wsX11_aheadOfClash := List.mem_of_getElem? (i := 2) rfl
theorem kX11_aheadOfClash_3 : (.fieldLink RX11 7 "TagReaderModel" "bits" "I" : Cond) ∈ wsX11_aheadOfClash := List.mem_of_getElem? (i := 3) rfl
set_option maxHeartbeats 4000000 in
set_option maxRecDepth 100000 in
theorem lcX11_aheadOfClash_2B {p : Program} {l : Launch} {e : Env} {s : State} {m : MethodId} {args : Array Value} {below : List Frame} {meth : Method} {c : Code} {Q : State → Prop} (dC : Nat → ClassId) (dI : Nat → Nat → Nat) (cyI cyZ cyJ cyB cyO : ClassId) (h_m a_m_number a_m_strength a_m_isSilent a_m_keptBits a_m_keptBegin a_m_grown a_m_waitBits a_m_waitBegin a_m_growing a_m_askedBits a_m_askedBegin a_m_wasSilent a_m_costs a_m_extreme a_m_rules a_m_draft a_m_isTold a_m_tape a_m_shown a_m_went a_m_choose a_m_fills a_m_knownNumber a_m_lanes a_m_sizes a_m_cells : Nat) (m_bits : Int32) (m_tags : Int32) (m_blockBits : Int32) (m_blocked : Int32) (m_answers : Int32) (m_blockAnswers : Int32) (m_ones : Int32) (m_zeros : Int32) (m_lone : Int32) (m_hasTree : Int32) (m_kept : Int32) (m_taped : Int32) (m_pos : Int32) (m_from : Int32) (m_sort : Int32) (m_value : Int32) (m_fault : Int32) (m_wrongAt : Int32) (m_hasFrame : Int32) (m_hasAll : Int32) (m_known : Int32) (m_torn : Int32) (v1 : Int32) (out : Int32) (hx : p.tables.exec = Jvm.exec) (hb : c.code = cX11_aheadOfClash) (hml : c.maxLocals = 3) (hts : ∀ w ∈ wsX11_aheadOfClash, w.before args s = true) (hown : s.vm.findClass RX11 = some m.cls) (hK : va_K (dC, dI) vwCl (px_TY cyI cyZ cyJ cyB cyO) s) (hN : px_NW s) (hP : va_P (dC, dI) vwCl (wdX11_aheadOfClash cyI cyZ cyJ cyB cyO h_m a_m_number a_m_strength a_m_isSilent a_m_keptBits a_m_keptBegin a_m_grown a_m_waitBits a_m_waitBegin a_m_growing a_m_askedBits a_m_askedBegin a_m_wasSilent a_m_costs a_m_extreme a_m_rules a_m_draft a_m_isTold a_m_tape a_m_shown a_m_went a_m_choose a_m_fills a_m_knownNumber a_m_lanes a_m_sizes a_m_cells m_bits m_tags m_blockBits m_blocked m_answers m_blockAnswers m_ones m_zeros m_lone m_hasTree m_kept m_taped m_pos m_from m_sort m_value m_fault m_wrongAt m_hasFrame m_hasAll m_known m_torn) s.heap) (hQ : ∀ (pc : Nat) (ls : Array Slot), decode cX11_aheadOfClash pc = .ok (.ireturn, 1) → W p l e ({ frames := 0, cells := 0, slots := 0, locals := 0 } : Room) s m args below meth c s.heap [] 0 0 Q (F0 m pc ls [.int out]))  (K_2 : Int32 → Option (Int32)) (hK_2 : ∀ (v2 : Int32) (ls : Array Slot), K_2 v2 = some out → lv_has ls 3 [(0, .ref h_m), (1, .int v1), (2, .int v2)] → W p l e ({ frames := 0, cells := 0, slots := 0, locals := 0 } : Room) s m args below meth c s.heap [] 0 0 Q (F0 m 2 ls [])) : ∀ (v2 : Int32) (ls : Array Slot), pX11_aheadOfClash_2B v1 m_bits m_ones m_zeros K_2 v2 = some out → lv_has ls 3 [(0, .ref h_m), (1, .int v1), (2, .int v2)] → W p l e ({ frames := 0, cells := 0, slots := 0, locals := 0 } : Room) s m args below meth c s.heap [] 0 0 Q (F0 m 2 ls []) := by
  intro v2 ls hp hl
  unfold pX11_aheadOfClash_2B at hp
  refine lv_aload_n hx hb dX11_aheadOfClash_2 rfl (lv_at hl 0 rfl) ?_
  refine va_get (D := (dC, dI)) (ci := 11) (v := .int m_ones) (C := RX11) (T := TX11) (N := 48) hx hb hts fX11_aheadOfClash_X11 hown hK hP 0 rfl rfl 9 (by decide) (hts _ kX11_aheadOfClash_1) (fun _ h9 => h9) rfl dX11_aheadOfClash_3 ?_
  refine lv_aload_n hx hb dX11_aheadOfClash_6 rfl (lv_at hl 0 rfl) ?_
  refine va_get (D := (dC, dI)) (ci := 11) (v := .int m_zeros) (C := RX11) (T := TX11) (N := 48) hx hb hts fX11_aheadOfClash_X11 hown hK hP 0 rfl rfl 10 (by decide) (hts _ kX11_aheadOfClash_2) (fun _ h9 => h9) rfl dX11_aheadOfClash_7 ?_
  refine lv_iand hx hb dX11_aheadOfClash_10 ?_
  refine lv_aload_n hx hb dX11_aheadOfClash_11 rfl (lv_at hl 0 rfl) ?_
  refine va_get (D := (dC, dI)) (ci := 11) (v := .int m_bits) (C := RX11) (T := TX11) (N := 48) hx hb hts fX11_aheadOfClash_X11 hown hK hP 0 rfl rfl 0 (by decide) (hts _ kX11_aheadOfClash_3) (fun _ h9 => h9) rfl dX11_aheadOfClash_12 ?_
  refine lv_iload_n hx hb dX11_aheadOfClash_15 rfl (lv_at hl 1 rfl) ?_
  refine lv_isub hx hb dX11_aheadOfClash_16 ?_
  refine lv_iconst (v := (1 : Int32)) hx hb dX11_aheadOfClash_17 (by decide) ?_
  refine lv_isub hx hb dX11_aheadOfClash_18 ?_
  refine lv_iload_n hx hb dX11_aheadOfClash_19 rfl (lv_at hl 2 rfl) ?_
  refine lv_isub hx hb dX11_aheadOfClash_20 ?_
  refine lv_ishr hx hb dX11_aheadOfClash_21 ?_
  refine lv_if_ne (tgt := 31) hx hb dX11_aheadOfClash_22 (by decide) (fun c_1 => ?_) (fun c_1 => ?_)
  · have hp := px_f hp c_1
    refine lv_iload_n hx hb dX11_aheadOfClash_31 rfl (lv_at hl 2 rfl) ?_
    have ho := px_s hp
    subst ho
    exact hQ _ _ dX11_aheadOfClash_32
  · have hp := px_t hp c_1
    refine lv_iinc (v := (v2 + (1 : Int32))) (lv' := [(2, .int (v2 + (1 : Int32))), (0, .ref h_m), (1, .int v1)]) hx hb dX11_aheadOfClash_25 hl (k := 2) rfl rfl (by decide) rfl (fun ls hl => ?_)
    refine lv_goto (tgt := 2) hx hb dX11_aheadOfClash_28 (by decide) ?_
    exact hK_2 (v2 + (1 : Int32)) ls hp (lv_sub hl [1, 2, 0] rfl)
theorem lcX11_aheadOfClash_2 {p : Program} {l : Launch} {e : Env} {s : State} {m : MethodId} {args : Array Value} {below : List Frame} {meth : Method} {c : Code} {Q : State → Prop} (dC : Nat → ClassId) (dI : Nat → Nat → Nat) (cyI cyZ cyJ cyB cyO : ClassId) (h_m a_m_number a_m_strength a_m_isSilent a_m_keptBits a_m_keptBegin a_m_grown a_m_waitBits a_m_waitBegin a_m_growing a_m_askedBits a_m_askedBegin a_m_wasSilent a_m_costs a_m_extreme a_m_rules a_m_draft a_m_isTold a_m_tape a_m_shown a_m_went a_m_choose a_m_fills a_m_knownNumber a_m_lanes a_m_sizes a_m_cells : Nat) (m_bits : Int32) (m_tags : Int32) (m_blockBits : Int32) (m_blocked : Int32) (m_answers : Int32) (m_blockAnswers : Int32) (m_ones : Int32) (m_zeros : Int32) (m_lone : Int32) (m_hasTree : Int32) (m_kept : Int32) (m_taped : Int32) (m_pos : Int32) (m_from : Int32) (m_sort : Int32) (m_value : Int32) (m_fault : Int32) (m_wrongAt : Int32) (m_hasFrame : Int32) (m_hasAll : Int32) (m_known : Int32) (m_torn : Int32) (v1 : Int32) (out : Int32) (hx : p.tables.exec = Jvm.exec) (hb : c.code = cX11_aheadOfClash) (hml : c.maxLocals = 3) (hts : ∀ w ∈ wsX11_aheadOfClash, w.before args s = true) (hown : s.vm.findClass RX11 = some m.cls) (hK : va_K (dC, dI) vwCl (px_TY cyI cyZ cyJ cyB cyO) s) (hN : px_NW s) (hP : va_P (dC, dI) vwCl (wdX11_aheadOfClash cyI cyZ cyJ cyB cyO h_m a_m_number a_m_strength a_m_isSilent a_m_keptBits a_m_keptBegin a_m_grown a_m_waitBits a_m_waitBegin a_m_growing a_m_askedBits a_m_askedBegin a_m_wasSilent a_m_costs a_m_extreme a_m_rules a_m_draft a_m_isTold a_m_tape a_m_shown a_m_went a_m_choose a_m_fills a_m_knownNumber a_m_lanes a_m_sizes a_m_cells m_bits m_tags m_blockBits m_blocked m_answers m_blockAnswers m_ones m_zeros m_lone m_hasTree m_kept m_taped m_pos m_from m_sort m_value m_fault m_wrongAt m_hasFrame m_hasAll m_known m_torn) s.heap) (hQ : ∀ (pc : Nat) (ls : Array Slot), decode cX11_aheadOfClash pc = .ok (.ireturn, 1) → W p l e ({ frames := 0, cells := 0, slots := 0, locals := 0 } : Room) s m args below meth c s.heap [] 0 0 Q (F0 m pc ls [.int out]))  : ∀ n : Nat, ∀ (v2 : Int32) (ls : Array Slot), pX11_aheadOfClash_2 v1 m_bits m_ones m_zeros n v2 = some out → lv_has ls 3 [(0, .ref h_m), (1, .int v1), (2, .int v2)] → W p l e ({ frames := 0, cells := 0, slots := 0, locals := 0 } : Room) s m args below meth c s.heap [] 0 0 Q (F0 m 2 ls []) := by
  intro n
  induction n with
  | zero =>
    intro v2 ls hp hl
    exact nomatch hp
  | succ n ih => exact lcX11_aheadOfClash_2B dC dI cyI cyZ cyJ cyB cyO h_m a_m_number a_m_strength a_m_isSilent a_m_keptBits a_m_keptBegin a_m_grown a_m_waitBits a_m_waitBegin a_m_growing a_m_askedBits a_m_askedBegin a_m_wasSilent a_m_costs a_m_extreme a_m_rules a_m_draft a_m_isTold a_m_tape a_m_shown a_m_went a_m_choose a_m_fills a_m_knownNumber a_m_lanes a_m_sizes a_m_cells m_bits m_tags m_blockBits m_blocked m_answers m_blockAnswers m_ones m_zeros m_lone m_hasTree m_kept m_taped m_pos m_from m_sort m_value m_fault m_wrongAt m_hasFrame m_hasAll m_known m_torn v1 out hx hb hml hts hown hK hN hP hQ (pX11_aheadOfClash_2 v1 m_bits m_ones m_zeros n) ih
set_option maxHeartbeats 4000000 in
set_option maxRecDepth 100000 in
theorem ccX11_aheadOfClash (l : Launch) (dC : Nat → ClassId) (dI : Nat → Nat → Nat) (cyI cyZ cyJ cyB cyO : ClassId) (h_m a_m_number a_m_strength a_m_isSilent a_m_keptBits a_m_keptBegin a_m_grown a_m_waitBits a_m_waitBegin a_m_growing a_m_askedBits a_m_askedBegin a_m_wasSilent a_m_costs a_m_extreme a_m_rules a_m_draft a_m_isTold a_m_tape a_m_shown a_m_went a_m_choose a_m_fills a_m_knownNumber a_m_lanes a_m_sizes a_m_cells : Nat) (m_bits : Int32) (m_tags : Int32) (m_blockBits : Int32) (m_blocked : Int32) (m_answers : Int32) (m_blockAnswers : Int32) (m_ones : Int32) (m_zeros : Int32) (m_lone : Int32) (m_hasTree : Int32) (m_kept : Int32) (m_taped : Int32) (m_pos : Int32) (m_from : Int32) (m_sort : Int32) (m_value : Int32) (m_fault : Int32) (m_wrongAt : Int32) (m_hasFrame : Int32) (m_hasAll : Int32) (m_known : Int32) (m_torn : Int32) (v1 : Int32) (out : Int32) (hp : pX11_aheadOfClash v1 m_bits m_ones m_zeros = some out) : Met l yX11_aheadOfClash wsX11_aheadOfClash ({ frames := 0, cells := 0, slots := 0, locals := 0 } : Room) (px_PR (dC, dI) (px_TY cyI cyZ cyJ cyB cyO) [.ref h_m, .int v1] (wdX11_aheadOfClash cyI cyZ cyJ cyB cyO h_m a_m_number a_m_strength a_m_isSilent a_m_keptBits a_m_keptBegin a_m_grown a_m_waitBits a_m_waitBegin a_m_growing a_m_askedBits a_m_askedBegin a_m_wasSilent a_m_costs a_m_extreme a_m_rules a_m_draft a_m_isTold a_m_tape a_m_shown a_m_went a_m_choose a_m_fills a_m_knownNumber a_m_lanes a_m_sizes a_m_cells m_bits m_tags m_blockBits m_blocked m_answers m_blockAnswers m_ones m_zeros m_lone m_hasTree m_kept m_taped m_pos m_from m_sort m_value m_fault m_wrongAt m_hasFrame m_hasAll m_known m_torn)) (px_QR (.int out)) 0 0 (fun _ => False) := by
  refine Met.ofW (cc := cX11_aheadOfClash) (maxL := 3) (ret := (some .int)) (by decide) rfl ?_
  intro p e s m args below meth c s₁ B hml hv
  obtain ⟨rfl, hP, hK, hN⟩ := hv
  have hx := B.exec
  have hb := B.bytes
  have hr := B.returns
  have hts := atoms_spec (ws := wsX11_aheadOfClash) B.pre
  have hown : s.vm.findClass RX11 = some m.cls := findClass_of_methodNamed B.named
  have hlocks := B.notSynchronized
  have hQ : ∀ (pc : Nat) (ls : Array Slot), decode cX11_aheadOfClash pc = .ok (.ireturn, 1) → W p l e ({ frames := 0, cells := 0, slots := 0, locals := 0 } : Room) s m (([.ref h_m, .int v1] : List Value).toArray) below meth c s.heap [] 0 0 (MQ below (px_QR (.int out)) (([.ref h_m, .int v1] : List Value).toArray) s 0 0 (fun _ => False)) (F0 m pc ls [.int out]) := fun pc ls hd => W.iret hx hb hr (fun t ht hW => ⟨rfl, ht⟩) (fun q h => by cases h) hd
  generalize MQ below (px_QR (.int out)) (([.ref h_m, .int v1] : List Value).toArray) s 0 0 (fun _ => False) = Q at hQ ⊢
  have hl := lv_entry [.ref h_m, .int v1] (n := 3) (Nat.le_of_ble_eq_true rfl)
  rw [lg_entry_eq]
  generalize (lg_sl [.ref h_m, .int v1] ++ List.replicate (3 - (lg_sl [.ref h_m, .int v1]).length) Slot.unset).toArray = ls at hl ⊢
  have hl : lv_has ls 3 [(0, .ref h_m), (1, .int v1)] := hl
  unfold pX11_aheadOfClash at hp
  refine lv_iconst (v := (0 : Int32)) hx hb dX11_aheadOfClash_0 (by decide) ?_
  refine lv_istore_n (lv' := [(2, .int (0 : Int32)), (0, .ref h_m), (1, .int v1)]) hx hb dX11_aheadOfClash_1 rfl hl (by decide) rfl (fun ls hl => ?_)
  exact lcX11_aheadOfClash_2 dC dI cyI cyZ cyJ cyB cyO h_m a_m_number a_m_strength a_m_isSilent a_m_keptBits a_m_keptBegin a_m_grown a_m_waitBits a_m_waitBegin a_m_growing a_m_askedBits a_m_askedBegin a_m_wasSilent a_m_costs a_m_extreme a_m_rules a_m_draft a_m_isTold a_m_tape a_m_shown a_m_went a_m_choose a_m_fills a_m_knownNumber a_m_lanes a_m_sizes a_m_cells m_bits m_tags m_blockBits m_blocked m_answers m_blockAnswers m_ones m_zeros m_lone m_hasTree m_kept m_taped m_pos m_from m_sort m_value m_fault m_wrongAt m_hasFrame m_hasAll m_known m_torn v1 out hx hb hml hts hown hK hN hP hQ px_FU (0 : Int32) ls hp (lv_sub hl [1, 2, 0] rfl)
