/-! java/lang/Integer.bitCount(I)I -/
def pJ6_bitCount_0f7a4 (v0 : Int32) : Option (Int32) := px_lt (v0 - (((Int32.toUInt32 v0 >>> (Int32.toUInt32 (1 : Int32) &&& Int32.toUInt32 31)).toInt32) &&& (1431655765 : Int32))) (fun x_1 => px_lt ((x_1 &&& (858993459 : Int32)) + (((Int32.toUInt32 x_1 >>> (Int32.toUInt32 (2 : Int32) &&& Int32.toUInt32 31)).toInt32) &&& (858993459 : Int32))) (fun x_2 => px_lt ((x_2 + ((Int32.toUInt32 x_2 >>> (Int32.toUInt32 (4 : Int32) &&& Int32.toUInt32 31)).toInt32)) &&& (252645135 : Int32)) (fun x_3 => px_lt (x_3 + ((Int32.toUInt32 x_3 >>> (Int32.toUInt32 (8 : Int32) &&& Int32.toUInt32 31)).toInt32)) (fun x_4 => px_lt (x_4 + ((Int32.toUInt32 x_4 >>> (Int32.toUInt32 (16 : Int32) &&& Int32.toUInt32 31)).toInt32)) (fun x_5 => some (x_5 &&& (63 : Int32)))))))
/-! TagReader.seed(II)I -/
def pX10_seed_20B (v1 : Int32) (v2 : Int32) (kn_size : Int32) (kn_numbers : Nat → Int32) (K_20 : Int32 → Int32 → Int32 → (Nat → Int32) → Option (Int32 × (Nat → Int32))) (v3 : Int32) (v4 : Int32) (v5 : Int32) (kn_slots : Nat → Int32) : Option (Int32 × (Nat → Int32)) := (if (100 : Int32) ≤ v5 then some (v3, kn_slots) else px_b (pX2_aloneOnes v1 (v2 + v5) kn_size kn_numbers kn_slots) (fun o_4 => px_b (pJ6_bitCount_0f7a4 o_4.1) (fun o_5 => (if o_5 ≤ v4 then K_20 v3 v4 (v5 + (1 : Int32)) o_4.2 else K_20 (v2 + v5) o_5 (v5 + (1 : Int32)) o_4.2))))
def pX10_seed_20 (v1 : Int32) (v2 : Int32) (kn_size : Int32) (kn_numbers : Nat → Int32) : Nat → Int32 → Int32 → Int32 → (Nat → Int32) → Option (Int32 × (Nat → Int32))
  | 0, _, _, _, _ => none
  | n + 1, v3, v4, v5, kn_slots => pX10_seed_20B v1 v2 kn_size kn_numbers (pX10_seed_20 v1 v2 kn_size kn_numbers n) v3 v4 v5 kn_slots
def pX10_seed (v1 : Int32) (v2 : Int32) (kn_size : Int32) (kn_numbers : Nat → Int32) (kn_slots : Nat → Int32) : Option (Int32 × (Nat → Int32)) := px_b (pX10_within v1 (1 : Int32) (64 : Int32)) (fun o_1 => (if o_1 = (0 : Int32) then some ((-1 : Int32), kn_slots) else pX10_seed_20 v1 v2 kn_size kn_numbers px_FU v2 (-1 : Int32) (0 : Int32) kn_slots))
abbrev wdX10_seed (cyI cyZ cyJ cyB cyO : ClassId) (h_x h_tg h_cr h_la h_sp a_x_splitRow h_tp h_tx h_fr h_se h_od h_kn a_x_sheets a_kn_numbers a_kn_slots : Nat) (x_n : Int32) (x_blocker : Int32) (x_blockerBits : Int32) (x_tornBy : Int32) (kn_size : Int32) (kn_numbers : Nat → Int32) (kn_slots : Nat → Int32) (r_la r_sp : Nat) : va_W := [(h_x, .inr (10, [.int x_n, .int x_blocker, .int x_blockerBits, .int x_tornBy, .ref h_tg, .ref h_cr, .ref (r_la), .ref (r_sp), .ref a_x_splitRow, .ref h_tp, .ref h_tx, .ref h_fr, .ref h_se, .ref h_od, .ref h_kn, .ref a_x_sheets])), (h_kn, .inr (2, [.ref a_kn_numbers, .ref a_kn_slots, .int kn_size])), (a_kn_numbers, .inl (cyI, 16, .inl kn_numbers)), (a_kn_slots, .inl (cyI, 16, .inl kn_slots))]
/-! java/lang/Integer.bitCount(I)I -/
theorem hsJ6_bitCount_0f7a4 : yJ6_bitCount_0f7a4.cls ≠ "java/lang/invoke/MethodHandle" ∧ yJ6_bitCount_0f7a4.cls ≠ "java/lang/invoke/VarHandle" ∧ (parseMethodDescriptor yJ6_bitCount_0f7a4.desc).map (fun d => d.parameters.length) = some 1 := by decide +kernel
theorem kJ6_bitCount_0f7a4_1 : (.constant RJ6 265 (1431655765) : Cond) ∈ wsJ6_bitCount_0f7a4 := List.mem_of_getElem? (i := 1) rfl
theorem kJ6_bitCount_0f7a4_2 : (.constant RJ6 266 (858993459) : Cond) ∈ wsJ6_bitCount_0f7a4 := List.mem_of_getElem? (i := 2) rfl
theorem kJ6_bitCount_0f7a4_3 : (.constant RJ6 267 (252645135) : Cond) ∈ wsJ6_bitCount_0f7a4 := List.mem_of_getElem? (i := 3) rfl
set_option maxHeartbeats 4000000 in
set_option maxRecDepth 100000 in
theorem ccJ6_bitCount_0f7a4 (l : Launch) (dC : Nat → ClassId) (dI : Nat → Nat → Nat) (cyI cyZ cyJ cyB cyO : ClassId) (v0 : Int32) (out : Int32) (hp : pJ6_bitCount_0f7a4 v0 = some out) : Met l yJ6_bitCount_0f7a4 wsJ6_bitCount_0f7a4 ({ frames := 0, cells := 0, slots := 0, locals := 0 } : Room) (px_PR (dC, dI) (px_TY cyI cyZ cyJ cyB cyO) [.int v0] []) (px_QR (.int out)) 0 0 (fun _ => False) := by
  refine Met.ofW (cc := cJ6_bitCount_0f7a4) (maxL := 1) (ret := (some .int)) (by decide) rfl ?_
  intro p e s m args below meth c s₁ B hml hv
  obtain ⟨rfl, hP, hK, hN⟩ := hv
  have hx := B.exec
  have hb := B.bytes
  have hr := B.returns
  have hts := atoms_spec (ws := wsJ6_bitCount_0f7a4) B.pre
  have hown : s.vm.findClass RJ6 = some m.cls := findClass_of_methodNamed B.named
  have hlocks := B.notSynchronized
  have hQ : ∀ (pc : Nat) (ls : Array Slot), decode cJ6_bitCount_0f7a4 pc = .ok (.ireturn, 1) → W p l e ({ frames := 0, cells := 0, slots := 0, locals := 0 } : Room) s m (([.int v0] : List Value).toArray) below meth c s.heap [] 0 0 (MQ below (px_QR (.int out)) (([.int v0] : List Value).toArray) s 0 0 (fun _ => False)) (F0 m pc ls [.int out]) := fun pc ls hd => W.iret hx hb hr (fun t ht hW => ⟨rfl, ht⟩) (fun q h => by cases h) hd
  generalize MQ below (px_QR (.int out)) (([.int v0] : List Value).toArray) s 0 0 (fun _ => False) = Q at hQ ⊢
  have hl := lv_entry [.int v0] (n := 1) (Nat.le_of_ble_eq_true rfl)
  rw [lg_entry_eq]
  generalize (lg_sl [.int v0] ++ List.replicate (1 - (lg_sl [.int v0]).length) Slot.unset).toArray = ls at hl ⊢
  have hl : lv_has ls 1 [(0, .int v0)] := hl
  unfold pJ6_bitCount_0f7a4 at hp
  refine lv_iload_n hx hb dJ6_bitCount_0f7a4_0 rfl (lv_at hl 0 rfl) ?_
  refine lv_iload_n hx hb dJ6_bitCount_0f7a4_1 rfl (lv_at hl 0 rfl) ?_
  refine lv_iconst (v := (1 : Int32)) hx hb dJ6_bitCount_0f7a4_2 (by decide) ?_
  refine lv_iushr hx hb dJ6_bitCount_0f7a4_3 rfl ?_
  refine lv_ldcw (v := (1431655765 : Int32)) hx hb hown (hts _ kJ6_bitCount_0f7a4_1) dJ6_bitCount_0f7a4_4 ?_
  refine lv_iand hx hb dJ6_bitCount_0f7a4_7 ?_
  refine lv_isub hx hb dJ6_bitCount_0f7a4_8 ?_
  refine lv_topi (fun x_1 ex_1 => ?_)
  have hp := px_lt_at hp ex_1
  refine lv_istore_n (lv' := [(0, .int x_1)]) hx hb dJ6_bitCount_0f7a4_9 rfl hl (by decide) rfl (fun ls hl => ?_)
  refine lv_iload_n hx hb dJ6_bitCount_0f7a4_10 rfl (lv_at hl 0 rfl) ?_
  refine lv_ldcw (v := (858993459 : Int32)) hx hb hown (hts _ kJ6_bitCount_0f7a4_2) dJ6_bitCount_0f7a4_11 ?_
  refine lv_iand hx hb dJ6_bitCount_0f7a4_14 ?_
  refine lv_iload_n hx hb dJ6_bitCount_0f7a4_15 rfl (lv_at hl 0 rfl) ?_
  refine lv_iconst (v := (2 : Int32)) hx hb dJ6_bitCount_0f7a4_16 (by decide) ?_
  refine lv_iushr hx hb dJ6_bitCount_0f7a4_17 rfl ?_
  refine lv_ldcw (v := (858993459 : Int32)) hx hb hown (hts _ kJ6_bitCount_0f7a4_2) dJ6_bitCount_0f7a4_18 ?_
  refine lv_iand hx hb dJ6_bitCount_0f7a4_21 ?_
  refine lv_iadd hx hb dJ6_bitCount_0f7a4_22 ?_
  refine lv_topi (fun x_2 ex_2 => ?_)
  have hp := px_lt_at hp ex_2
  refine lv_istore_n (lv' := [(0, .int x_2)]) hx hb dJ6_bitCount_0f7a4_23 rfl hl (by decide) rfl (fun ls hl => ?_)
  refine lv_iload_n hx hb dJ6_bitCount_0f7a4_24 rfl (lv_at hl 0 rfl) ?_
  refine lv_iload_n hx hb dJ6_bitCount_0f7a4_25 rfl (lv_at hl 0 rfl) ?_
  refine lv_iconst (v := (4 : Int32)) hx hb dJ6_bitCount_0f7a4_26 (by decide) ?_
  refine lv_iushr hx hb dJ6_bitCount_0f7a4_27 rfl ?_
  refine lv_iadd hx hb dJ6_bitCount_0f7a4_28 ?_
  refine lv_ldcw (v := (252645135 : Int32)) hx hb hown (hts _ kJ6_bitCount_0f7a4_3) dJ6_bitCount_0f7a4_29 ?_
  refine lv_iand hx hb dJ6_bitCount_0f7a4_32 ?_
  refine lv_topi (fun x_3 ex_3 => ?_)
  have hp := px_lt_at hp ex_3
  refine lv_istore_n (lv' := [(0, .int x_3)]) hx hb dJ6_bitCount_0f7a4_33 rfl hl (by decide) rfl (fun ls hl => ?_)
  refine lv_iload_n hx hb dJ6_bitCount_0f7a4_34 rfl (lv_at hl 0 rfl) ?_
  refine lv_iload_n hx hb dJ6_bitCount_0f7a4_35 rfl (lv_at hl 0 rfl) ?_
  refine lv_bipush (v := (8 : Int32)) hx hb dJ6_bitCount_0f7a4_36 (by decide) ?_
  refine lv_iushr hx hb dJ6_bitCount_0f7a4_38 rfl ?_
  refine lv_iadd hx hb dJ6_bitCount_0f7a4_39 ?_
  refine lv_topi (fun x_4 ex_4 => ?_)
  have hp := px_lt_at hp ex_4
  refine lv_istore_n (lv' := [(0, .int x_4)]) hx hb dJ6_bitCount_0f7a4_40 rfl hl (by decide) rfl (fun ls hl => ?_)
  refine lv_iload_n hx hb dJ6_bitCount_0f7a4_41 rfl (lv_at hl 0 rfl) ?_
  refine lv_iload_n hx hb dJ6_bitCount_0f7a4_42 rfl (lv_at hl 0 rfl) ?_
  refine lv_bipush (v := (16 : Int32)) hx hb dJ6_bitCount_0f7a4_43 (by decide) ?_
  refine lv_iushr hx hb dJ6_bitCount_0f7a4_45 rfl ?_
  refine lv_iadd hx hb dJ6_bitCount_0f7a4_46 ?_
  refine lv_topi (fun x_5 ex_5 => ?_)
  have hp := px_lt_at hp ex_5
  refine lv_istore_n (lv' := [(0, .int x_5)]) hx hb dJ6_bitCount_0f7a4_47 rfl hl (by decide) rfl (fun ls hl => ?_)
  refine lv_iload_n hx hb dJ6_bitCount_0f7a4_48 rfl (lv_at hl 0 rfl) ?_
  refine lv_bipush (v := (63 : Int32)) hx hb dJ6_bitCount_0f7a4_49 (by decide) ?_
  refine lv_iand hx hb dJ6_bitCount_0f7a4_51 ?_
  have ho := px_s hp
  subst ho
  exact hQ _ _ dJ6_bitCount_0f7a4_52
/-! TagReader.seed(II)I -/
theorem hvX10_seed : yX10_seed.cls = RX10 ∧ yX10_seed.cls ≠ "java/lang/invoke/MethodHandle" ∧ yX10_seed.cls ≠ "java/lang/invoke/VarHandle" ∧ (parseMethodDescriptor yX10_seed.desc).map (fun d => d.parameters.length) = some 2 := by decide +kernel
theorem fX10_seed_X10 : ∀ w ∈ u_ws RX10 TX10 16, w ∈ wsX10_seed := fun _ h => List.mem_cons_of_mem _ (List.mem_append_left _ (List.mem_append_right _ h))
theorem kX10_seed_1 : (.fieldLink RX10 88 "TagReader" "known" "LTagReader$Known;" : Cond) ∈ wsX10_seed := List.mem_of_getElem? (i := 1) rfl
set_option maxHeartbeats 4000000 in
set_option maxRecDepth 100000 in
theorem lcX10_seed_20B {p : Program} {l : Launch} {e : Env} {s : State} {m : MethodId} {args : Array Value} {below : List Frame} {meth : Method} {c : Code} {Q : State → Prop} {A : Nat → Prop} (dC : Nat → ClassId) (dI : Nat → Nat → Nat) (cyI cyZ cyJ cyB cyO : ClassId) (h_x h_tg h_cr h_la h_sp a_x_splitRow h_tp h_tx h_fr h_se h_od h_kn a_x_sheets a_kn_numbers a_kn_slots : Nat) (x_n : Int32) (x_blocker : Int32) (x_blockerBits : Int32) (x_tornBy : Int32) (kn_size : Int32) (kn_numbers : Nat → Int32) (kn_slots : Nat → Int32) (v1 : Int32) (v2 : Int32) (out : Int32 × (Nat → Int32)) (hx : p.tables.exec = Jvm.exec) (hb : c.code = cX10_seed) (hml : c.maxLocals = 7) (hts : ∀ w ∈ wsX10_seed, w.before args s = true) (hown : s.vm.findClass RX10 = some m.cls) (hK : va_K (dC, dI) vwCl (px_TY cyI cyZ cyJ cyB cyO) s) (hN : px_NW s) (hA : ∀ q : Nat, s.heap.size ≤ q → A q) (hQ : ∀ (H : Heap) (locs : List Loc) (pc : Nat) (ls : Array Slot), va_P (dC, dI) vwCl (wdX10_seed cyI cyZ cyJ cyB cyO h_x h_tg h_cr h_la h_sp a_x_splitRow h_tp h_tx h_fr h_se h_od h_kn a_x_sheets a_kn_numbers a_kn_slots x_n x_blocker x_blockerBits x_tornBy kn_size kn_numbers out.2 h_la h_sp) H → va_D A (wdX10_seed cyI cyZ cyJ cyB cyO h_x h_tg h_cr h_la h_sp a_x_splitRow h_tp h_tx h_fr h_se h_od h_kn a_x_sheets a_kn_numbers a_kn_slots x_n x_blocker x_blockerBits x_tornBy kn_size kn_numbers out.2 h_la h_sp) → va_S A s.heap H locs → decode cX10_seed pc = .ok (.ireturn, 1) → W p l e ({ frames := 2, cells := 0, slots := 0, locals := 47 } : Room) s m args below meth c H locs 0 0 Q (F0 m pc ls [.int out.1]))  (K_20 : Int32 → Int32 → Int32 → (Nat → Int32) → Option (Int32 × (Nat → Int32))) (hK_20 : ∀ (v3 : Int32) (v4 : Int32) (v5 : Int32) (kn_slots : Nat → Int32) (H : Heap) (locs : List Loc) (ls : Array Slot), K_20 v3 v4 v5 kn_slots = some out → va_P (dC, dI) vwCl (wdX10_seed cyI cyZ cyJ cyB cyO h_x h_tg h_cr h_la h_sp a_x_splitRow h_tp h_tx h_fr h_se h_od h_kn a_x_sheets a_kn_numbers a_kn_slots x_n x_blocker x_blockerBits x_tornBy kn_size kn_numbers kn_slots h_la h_sp) H → va_D A (wdX10_seed cyI cyZ cyJ cyB cyO h_x h_tg h_cr h_la h_sp a_x_splitRow h_tp h_tx h_fr h_se h_od h_kn a_x_sheets a_kn_numbers a_kn_slots x_n x_blocker x_blockerBits x_tornBy kn_size kn_numbers kn_slots h_la h_sp) → va_S A s.heap H locs → lv_has ls 7 [(0, .ref h_x), (1, .int v1), (2, .int v2), (3, .int v3), (4, .int v4), (5, .int v5)] → W p l e ({ frames := 2, cells := 0, slots := 0, locals := 47 } : Room) s m args below meth c H locs 0 0 Q (F0 m 20 ls [])) : ∀ (v3 : Int32) (v4 : Int32) (v5 : Int32) (kn_slots : Nat → Int32) (H : Heap) (locs : List Loc) (ls : Array Slot), pX10_seed_20B v1 v2 kn_size kn_numbers K_20 v3 v4 v5 kn_slots = some out → va_P (dC, dI) vwCl (wdX10_seed cyI cyZ cyJ cyB cyO h_x h_tg h_cr h_la h_sp a_x_splitRow h_tp h_tx h_fr h_se h_od h_kn a_x_sheets a_kn_numbers a_kn_slots x_n x_blocker x_blockerBits x_tornBy kn_size kn_numbers kn_slots h_la h_sp) H → va_D A (wdX10_seed cyI cyZ cyJ cyB cyO h_x h_tg h_cr h_la h_sp a_x_splitRow h_tp h_tx h_fr h_se h_od h_kn a_x_sheets a_kn_numbers a_kn_slots x_n x_blocker x_blockerBits x_tornBy kn_size kn_numbers kn_slots h_la h_sp) → va_S A s.heap H locs → lv_has ls 7 [(0, .ref h_x), (1, .int v1), (2, .int v2), (3, .int v3), (4, .int v4), (5, .int v5)] → W p l e ({ frames := 2, cells := 0, slots := 0, locals := 47 } : Room) s m args below meth c H locs 0 0 Q (F0 m 20 ls []) := by
  intro v3 v4 v5 kn_slots H locs ls hp hP hD hS hl
  unfold pX10_seed_20B at hp
  refine lv_iload hx hb dX10_seed_20 (lv_at hl 5 rfl) ?_
  refine lv_bipush (v := (100 : Int32)) hx hb dX10_seed_22 (by decide) ?_
  refine lv_icmp_ge (tgt := 66) hx hb dX10_seed_24 (by decide) (fun c_3 => ?_) (fun c_3 => ?_)
  · have hp := px_t hp c_3
    refine lv_iload_n hx hb dX10_seed_66 rfl (lv_at hl 3 rfl) ?_
    have ho := px_s hp
    subst ho
    exact hQ _ _ _ _ hP hD hS dX10_seed_67
  · have hp := px_f hp c_3
    refine lv_aload_n hx hb dX10_seed_27 rfl (lv_at hl 0 rfl) ?_
    refine va_get (D := (dC, dI)) (ci := 10) (v := .ref h_kn) (C := RX10) (T := TX10) (N := 16) hx hb hts fX10_seed_X10 hown hK hP 0 rfl rfl 14 (by decide) (hts _ kX10_seed_1) (fun _ h9 => h9) rfl dX10_seed_28 ?_
    refine lv_iload_n hx hb dX10_seed_31 rfl (lv_at hl 1 rfl) ?_
    refine lv_iload_n hx hb dX10_seed_32 rfl (lv_at hl 2 rfl) ?_
    refine lv_iload hx hb dX10_seed_33 (lv_at hl 5 rfl) ?_
    refine lv_iadd hx hb dX10_seed_35 ?_
    obtain ⟨o_4, ho_4, hp⟩ := px_b_at hp
    refine px_callWi (r := o_4.1) (wc := (wdX2_aloneOnes cyI cyZ cyJ cyB cyO h_kn a_kn_numbers a_kn_slots kn_size kn_numbers kn_slots)) (wr := [(h_x, .inr (10, [.int x_n, .int x_blocker, .int x_blockerBits, .int x_tornBy, .ref h_tg, .ref h_cr, .ref h_la, .ref h_sp, .ref a_x_splitRow, .ref h_tp, .ref h_tx, .ref h_fr, .ref h_se, .ref h_od, .ref h_kn, .ref a_x_sheets]))]) (w1 := (wdX2_aloneOnes cyI cyZ cyJ cyB cyO h_kn a_kn_numbers a_kn_slots kn_size kn_numbers o_4.2)) (ws2 := (wdX10_seed cyI cyZ cyJ cyB cyO h_x h_tg h_cr h_la h_sp a_x_splitRow h_tp h_tx h_fr h_se h_od h_kn a_x_sheets a_kn_numbers a_kn_slots x_n x_blocker x_blockerBits x_tornBy kn_size kn_numbers o_4.2 h_la h_sp)) (va_runV (As := [.int v1, .int (v2 + v5)]) (rest := []) ⟨hx, hb, hml, hown, hts⟩ (ccX2_aloneOnes l dC dI cyI cyZ cyJ cyB cyO _ h_kn a_kn_numbers a_kn_slots kn_size kn_numbers kn_slots v1 (v2 + v5) o_4 ho_4) (cwV 2 hts gX10_seed_X2_aloneOnes rfl rfl rfl hvX2_aloneOnes ⟨Nat.le_of_ble_eq_true rfl, Nat.le_of_ble_eq_true rfl⟩) (px_preWV (wc := (wdX2_aloneOnes cyI cyZ cyJ cyB cyO h_kn a_kn_numbers a_kn_slots kn_size kn_numbers kn_slots)) (ci := 2) (q0 := 1) hK hN hP hD [1, 2, 3] (by decide) rfl rfl rfl) rfl rfl hl.1 rfl (lv_room (Nat.le_of_ble_eq_true rfl)) dX10_seed_36 ⟨Nat.zero_le _, Nat.zero_le _⟩) hP hD hS hA [1, 2, 3] [0] [0, 1, 2, 3] rfl rfl (by decide) (by decide) (by decide) rfl (fun H locs hP hD hS => ?_)
    obtain ⟨o_5, ho_5, hp⟩ := px_b_at hp
    refine px_callR (v := .int o_5) (va_runS (As := [.int o_4.1]) (rest := []) ⟨hx, hb, hml, hown, hts⟩ (ccJ6_bitCount_0f7a4 l dC dI cyI cyZ cyJ cyB cyO o_4.1 o_5 ho_5) (va_cwS 1 hts gX10_seed_J6_bitCount_0f7a4 rfl rfl rfl hsJ6_bitCount_0f7a4 ⟨Nat.le_of_ble_eq_true rfl, Nat.le_of_ble_eq_true rfl⟩) (px_preR (wc := []) hK hN hP [] rfl) rfl rfl hl.1 rfl (lv_room (Nat.le_of_ble_eq_true rfl)) dX10_seed_39 ⟨Nat.zero_le _, Nat.zero_le _⟩) ?_
    refine lv_istore (lv' := [(6, .int o_5), (0, .ref h_x), (1, .int v1), (2, .int v2), (3, .int v3), (4, .int v4), (5, .int v5)]) hx hb dX10_seed_42 hl (by decide) rfl (fun ls hl => ?_)
    refine lv_iload hx hb dX10_seed_44 (lv_at hl 0 rfl) ?_
    refine lv_iload hx hb dX10_seed_46 (lv_at hl 5 rfl) ?_
    refine lv_icmp_le (tgt := 60) hx hb dX10_seed_48 (by decide) (fun c_6 => ?_) (fun c_6 => ?_)
    · have hp := px_t hp c_6
      refine lv_iinc (v := (v5 + (1 : Int32))) (lv' := [(5, .int (v5 + (1 : Int32))), (6, .int o_5), (0, .ref h_x), (1, .int v1), (2, .int v2), (3, .int v3), (4, .int v4)]) hx hb dX10_seed_60 hl (k := 6) rfl rfl (by decide) rfl (fun ls hl => ?_)
      refine lv_goto (tgt := 20) hx hb dX10_seed_63 (by decide) ?_
      exact hK_20 v3 v4 (v5 + (1 : Int32)) o_4.2 _ _ ls hp hP hD hS (lv_sub hl [2, 3, 4, 5, 6, 0] rfl)
    · have hp := px_f hp c_6
      refine lv_iload_n hx hb dX10_seed_51 rfl (lv_at hl 3 rfl) ?_
      refine lv_iload hx hb dX10_seed_52 (lv_at hl 6 rfl) ?_
      refine lv_iadd hx hb dX10_seed_54 ?_
      refine lv_istore_n (lv' := [(3, .int (v2 + v5)), (6, .int o_5), (0, .ref h_x), (1, .int v1), (2, .int v2), (4, .int v4), (5, .int v5)]) hx hb dX10_seed_55 rfl hl (by decide) rfl (fun ls hl => ?_)
      refine lv_iload hx hb dX10_seed_56 (lv_at hl 1 rfl) ?_
      refine lv_istore (lv' := [(4, .int o_5), (3, .int (v2 + v5)), (6, .int o_5), (0, .ref h_x), (1, .int v1), (2, .int v2), (5, .int v5)]) hx hb dX10_seed_58 hl (by decide) rfl (fun ls hl => ?_)
      refine lv_iinc (v := (v5 + (1 : Int32))) (lv' := [(5, .int (v5 + (1 : Int32))), (4, .int o_5), (3, .int (v2 + v5)), (6, .int o_5), (0, .ref h_x), (1, .int v1), (2, .int v2)]) hx hb dX10_seed_60 hl (k := 6) rfl rfl (by decide) rfl (fun ls hl => ?_)
      refine lv_goto (tgt := 20) hx hb dX10_seed_63 (by decide) ?_
      exact hK_20 (v2 + v5) o_5 (v5 + (1 : Int32)) o_4.2 _ _ ls hp hP hD hS (lv_sub hl [4, 5, 6, 2, 1, 0] rfl)
theorem lcX10_seed_20 {p : Program} {l : Launch} {e : Env} {s : State} {m : MethodId} {args : Array Value} {below : List Frame} {meth : Method} {c : Code} {Q : State → Prop} {A : Nat → Prop} (dC : Nat → ClassId) (dI : Nat → Nat → Nat) (cyI cyZ cyJ cyB cyO : ClassId) (h_x h_tg h_cr h_la h_sp a_x_splitRow h_tp h_tx h_fr h_se h_od h_kn a_x_sheets a_kn_numbers a_kn_slots : Nat) (x_n : Int32) (x_blocker : Int32) (x_blockerBits : Int32) (x_tornBy : Int32) (kn_size : Int32) (kn_numbers : Nat → Int32) (kn_slots : Nat → Int32) (v1 : Int32) (v2 : Int32) (out : Int32 × (Nat → Int32)) (hx : p.tables.exec = Jvm.exec) (hb : c.code = cX10_seed) (hml : c.maxLocals = 7) (hts : ∀ w ∈ wsX10_seed, w.before args s = true) (hown : s.vm.findClass RX10 = some m.cls) (hK : va_K (dC, dI) vwCl (px_TY cyI cyZ cyJ cyB cyO) s) (hN : px_NW s) (hA : ∀ q : Nat, s.heap.size ≤ q → A q) (hQ : ∀ (H : Heap) (locs : List Loc) (pc : Nat) (ls : Array Slot), va_P (dC, dI) vwCl (wdX10_seed cyI cyZ cyJ cyB cyO h_x h_tg h_cr h_la h_sp a_x_splitRow h_tp h_tx h_fr h_se h_od h_kn a_x_sheets a_kn_numbers a_kn_slots x_n x_blocker x_blockerBits x_tornBy kn_size kn_numbers out.2 h_la h_sp) H → va_D A (wdX10_seed cyI cyZ cyJ cyB cyO h_x h_tg h_cr h_la h_sp a_x_splitRow h_tp h_tx h_fr h_se h_od h_kn a_x_sheets a_kn_numbers a_kn_slots x_n x_blocker x_blockerBits x_tornBy kn_size kn_numbers out.2 h_la h_sp) → va_S A s.heap H locs → decode cX10_seed pc = .ok (.ireturn, 1) → W p l e ({ frames := 2, cells := 0, slots := 0, locals := 47 } : Room) s m args below meth c H locs 0 0 Q (F0 m pc ls [.int out.1]))  : ∀ n : Nat, ∀ (v3 : Int32) (v4 : Int32) (v5 : Int32) (kn_slots : Nat → Int32) (H : Heap) (locs : List Loc) (ls : Array Slot), pX10_seed_20 v1 v2 kn_size kn_numbers n v3 v4 v5 kn_slots = some out → va_P (dC, dI) vwCl (wdX10_seed cyI cyZ cyJ cyB cyO h_x h_tg h_cr h_la h_sp a_x_splitRow h_tp h_tx h_fr h_se h_od h_kn a_x_sheets a_kn_numbers a_kn_slots x_n x_blocker x_blockerBits x_tornBy kn_size kn_numbers kn_slots h_la h_sp) H → va_D A (wdX10_seed cyI cyZ cyJ cyB cyO h_x h_tg h_cr h_la h_sp a_x_splitRow h_tp h_tx h_fr h_se h_od h_kn a_x_sheets a_kn_numbers a_kn_slots x_n x_blocker x_blockerBits x_tornBy kn_size kn_numbers kn_slots h_la h_sp) → va_S A s.heap H locs → lv_has ls 7 [(0, .ref h_x), (1, .int v1), (2, .int v2), (3, .int v3), (4, .int v4), (5, .int v5)] → W p l e ({ frames := 2, cells := 0, slots := 0, locals := 47 } : Room) s m args below meth c H locs 0 0 Q (F0 m 20 ls []) := by
  intro n
  induction n with
  | zero =>
    intro v3 v4 v5 kn_slots H locs ls hp hP hD hS hl
    exact nomatch hp
  | succ n ih => exact lcX10_seed_20B dC dI cyI cyZ cyJ cyB cyO h_x h_tg h_cr h_la h_sp a_x_splitRow h_tp h_tx h_fr h_se h_od h_kn a_x_sheets a_kn_numbers a_kn_slots x_n x_blocker x_blockerBits x_tornBy kn_size kn_numbers kn_slots v1 v2 out hx hb hml hts hown hK hN hA hQ (pX10_seed_20 v1 v2 kn_size kn_numbers n) ih
set_option maxHeartbeats 4000000 in
set_option maxRecDepth 100000 in
theorem ccX10_seed (l : Launch) (dC : Nat → ClassId) (dI : Nat → Nat → Nat) (cyI cyZ cyJ cyB cyO : ClassId) (sz : Nat) (h_x h_tg h_cr h_la h_sp a_x_splitRow h_tp h_tx h_fr h_se h_od h_kn a_x_sheets a_kn_numbers a_kn_slots : Nat) (x_n : Int32) (x_blocker : Int32) (x_blockerBits : Int32) (x_tornBy : Int32) (kn_size : Int32) (kn_numbers : Nat → Int32) (kn_slots : Nat → Int32) (v1 : Int32) (v2 : Int32) (out : Int32 × (Nat → Int32)) (hp : pX10_seed v1 v2 kn_size kn_numbers kn_slots = some out) : Met l yX10_seed wsX10_seed ({ frames := 2, cells := 0, slots := 0, locals := 47 } : Room) (px_PW (dC, dI) (px_TY cyI cyZ cyJ cyB cyO) [.ref h_x, .int v1, .int v2] (wdX10_seed cyI cyZ cyJ cyB cyO h_x h_tg h_cr h_la h_sp a_x_splitRow h_tp h_tx h_fr h_se h_od h_kn a_x_sheets a_kn_numbers a_kn_slots x_n x_blocker x_blockerBits x_tornBy kn_size kn_numbers kn_slots h_la h_sp) sz) (px_QW (some (.int out.1)) (dC, dI) (wdX10_seed cyI cyZ cyJ cyB cyO h_x h_tg h_cr h_la h_sp a_x_splitRow h_tp h_tx h_fr h_se h_od h_kn a_x_sheets a_kn_numbers a_kn_slots x_n x_blocker x_blockerBits x_tornBy kn_size kn_numbers kn_slots h_la h_sp) (wdX10_seed cyI cyZ cyJ cyB cyO h_x h_tg h_cr h_la h_sp a_x_splitRow h_tp h_tx h_fr h_se h_od h_kn a_x_sheets a_kn_numbers a_kn_slots x_n x_blocker x_blockerBits x_tornBy kn_size kn_numbers out.2 h_la h_sp) sz) 0 0 (va_A (wdX10_seed cyI cyZ cyJ cyB cyO h_x h_tg h_cr h_la h_sp a_x_splitRow h_tp h_tx h_fr h_se h_od h_kn a_x_sheets a_kn_numbers a_kn_slots x_n x_blocker x_blockerBits x_tornBy kn_size kn_numbers kn_slots h_la h_sp) sz) := by
  refine Met.ofW (cc := cX10_seed) (maxL := 7) (ret := (some .int)) (by decide) rfl ?_
  intro p e s m args below meth c s₁ B hml hv
  obtain ⟨rfl, hsz, hP, hK, hD0, hN⟩ := hv
  have hx := B.exec
  have hb := B.bytes
  have hr := B.returns
  have hts := atoms_spec (ws := wsX10_seed) B.pre
  have hown : s.vm.findClass RX10 = some m.cls := findClass_of_methodNamed B.named
  have hlocks := B.notSynchronized
  subst hsz
  have hD := hD0.self (sz := s.heap.size)
  generalize hAe : va_A (wdX10_seed cyI cyZ cyJ cyB cyO h_x h_tg h_cr h_la h_sp a_x_splitRow h_tp h_tx h_fr h_se h_od h_kn a_x_sheets a_kn_numbers a_kn_slots x_n x_blocker x_blockerBits x_tornBy kn_size kn_numbers kn_slots h_la h_sp) s.heap.size = A at hD ⊢
  have hA : ∀ q : Nat, s.heap.size ≤ q → A q := fun q h => by rw [← hAe]; exact Or.inr h
  have hS : va_S A s.heap s.heap [] := va_S.rf
  have hq := px_QWe (v := (some (.int out.1))) (D := (dC, dI)) (w1 := (wdX10_seed cyI cyZ cyJ cyB cyO h_x h_tg h_cr h_la h_sp a_x_splitRow h_tp h_tx h_fr h_se h_od h_kn a_x_sheets a_kn_numbers a_kn_slots x_n x_blocker x_blockerBits x_tornBy kn_size kn_numbers out.2 h_la h_sp)) (st := s) hAe
  generalize px_QW (some (.int out.1)) (dC, dI) (wdX10_seed cyI cyZ cyJ cyB cyO h_x h_tg h_cr h_la h_sp a_x_splitRow h_tp h_tx h_fr h_se h_od h_kn a_x_sheets a_kn_numbers a_kn_slots x_n x_blocker x_blockerBits x_tornBy kn_size kn_numbers kn_slots h_la h_sp) (wdX10_seed cyI cyZ cyJ cyB cyO h_x h_tg h_cr h_la h_sp a_x_splitRow h_tp h_tx h_fr h_se h_od h_kn a_x_sheets a_kn_numbers a_kn_slots x_n x_blocker x_blockerBits x_tornBy kn_size kn_numbers out.2 h_la h_sp) s.heap.size = Qc at hq ⊢
  have hQ : ∀ (H : Heap) (locs : List Loc) (pc : Nat) (ls : Array Slot), va_P (dC, dI) vwCl (wdX10_seed cyI cyZ cyJ cyB cyO h_x h_tg h_cr h_la h_sp a_x_splitRow h_tp h_tx h_fr h_se h_od h_kn a_x_sheets a_kn_numbers a_kn_slots x_n x_blocker x_blockerBits x_tornBy kn_size kn_numbers out.2 h_la h_sp) H → va_D A (wdX10_seed cyI cyZ cyJ cyB cyO h_x h_tg h_cr h_la h_sp a_x_splitRow h_tp h_tx h_fr h_se h_od h_kn a_x_sheets a_kn_numbers a_kn_slots x_n x_blocker x_blockerBits x_tornBy kn_size kn_numbers out.2 h_la h_sp) → va_S A s.heap H locs → decode cX10_seed pc = .ok (.ireturn, 1) → W p l e ({ frames := 2, cells := 0, slots := 0, locals := 47 } : Room) s m (([.ref h_x, .int v1, .int v2] : List Value).toArray) below meth c H locs 0 0 (MQ below Qc (([.ref h_x, .int v1, .int v2] : List Value).toArray) s 0 0 A) (F0 m pc ls [.int out.1]) := fun H locs pc ls hP hD hS hd => W.iret hx hb hr (fun t ht hW => hq _ t (by rw [ht]; exact hP) hD (hS.F ht)) hS.2.2 hd
  generalize MQ below Qc (([.ref h_x, .int v1, .int v2] : List Value).toArray) s 0 0 A = Q at hQ ⊢
  have hl := lv_entry [.ref h_x, .int v1, .int v2] (n := 7) (Nat.le_of_ble_eq_true rfl)
  rw [lg_entry_eq]
  generalize (lg_sl [.ref h_x, .int v1, .int v2] ++ List.replicate (7 - (lg_sl [.ref h_x, .int v1, .int v2]).length) Slot.unset).toArray = ls at hl ⊢
  have hl : lv_has ls 7 [(0, .ref h_x), (1, .int v1), (2, .int v2)] := hl
  unfold pX10_seed at hp
  refine lv_iload_n hx hb dX10_seed_0 rfl (lv_at hl 1 rfl) ?_
  refine lv_iconst (v := (1 : Int32)) hx hb dX10_seed_1 (by decide) ?_
  refine lv_bipush (v := (64 : Int32)) hx hb dX10_seed_2 (by decide) ?_
  obtain ⟨o_1, ho_1, hp⟩ := px_b_at hp
  refine px_callR (v := .int o_1) (va_runS (As := [.int v1, .int (1 : Int32), .int (64 : Int32)]) (rest := []) ⟨hx, hb, hml, hown, hts⟩ (ccX10_within l dC dI cyI cyZ cyJ cyB cyO v1 (1 : Int32) (64 : Int32) o_1 ho_1) (va_cwS 3 hts gX10_seed_X10_within rfl rfl rfl hsX10_within ⟨Nat.le_of_ble_eq_true rfl, Nat.le_of_ble_eq_true rfl⟩) (px_preR (wc := []) hK hN hP [] rfl) rfl rfl hl.1 rfl (lv_room (Nat.le_of_ble_eq_true rfl)) dX10_seed_4 ⟨Nat.zero_le _, Nat.zero_le _⟩) ?_
  refine lv_if_ne (tgt := 12) hx hb dX10_seed_7 (by decide) (fun c_2 => ?_) (fun c_2 => ?_)
  · have hp := px_f hp c_2
    refine lv_iload_n hx hb dX10_seed_12 rfl (lv_at hl 2 rfl) ?_
    refine lv_istore_n (lv' := [(3, .int v2), (0, .ref h_x), (1, .int v1), (2, .int v2)]) hx hb dX10_seed_13 rfl hl (by decide) rfl (fun ls hl => ?_)
    refine lv_iconst (v := (-1 : Int32)) hx hb dX10_seed_14 (by decide) ?_
    refine lv_istore (lv' := [(4, .int (-1 : Int32)), (3, .int v2), (0, .ref h_x), (1, .int v1), (2, .int v2)]) hx hb dX10_seed_15 hl (by decide) rfl (fun ls hl => ?_)
    refine lv_iconst (v := (0 : Int32)) hx hb dX10_seed_17 (by decide) ?_
    refine lv_istore (lv' := [(5, .int (0 : Int32)), (4, .int (-1 : Int32)), (3, .int v2), (0, .ref h_x), (1, .int v1), (2, .int v2)]) hx hb dX10_seed_18 hl (by decide) rfl (fun ls hl => ?_)
    exact lcX10_seed_20 dC dI cyI cyZ cyJ cyB cyO h_x h_tg h_cr h_la h_sp a_x_splitRow h_tp h_tx h_fr h_se h_od h_kn a_x_sheets a_kn_numbers a_kn_slots x_n x_blocker x_blockerBits x_tornBy kn_size kn_numbers kn_slots v1 v2 out hx hb hml hts hown hK hN hA hQ px_FU v2 (-1 : Int32) (0 : Int32) kn_slots _ _ ls hp hP hD hS (lv_sub hl [3, 4, 5, 2, 1, 0] rfl)
  · have hp := px_t hp c_2
    refine lv_iconst (v := (-1 : Int32)) hx hb dX10_seed_10 (by decide) ?_
    have ho := px_s hp
    subst ho
    exact hQ _ _ _ _ hP hD hS dX10_seed_11
