/-! TagReader.within(III)Z -/
def pX10_within (v0 : Int32) (v1 : Int32) (v2 : Int32) : Option (Int32) := (if v0 < v1 then some (0 : Int32) else (if v2 < v0 then some (0 : Int32) else some (1 : Int32)))
/-! TagReader.lowBits(I)I -/
def pX10_lowBits (v0 : Int32) : Option (Int32) := some (((1 : Int32) <<< (v0 &&& (31 : Int32))) - (1 : Int32))
/-! TagReader.slotOf(III)I -/
def pX10_slotOf (v0 : Int32) (v1 : Int32) (v2 : Int32) : Option (Int32) := (if (1 : Int32) ≤ v1 then px_lt (((v2 + ((40503 : Int32) * v0)) * (1103515245 : Int32)) + (12345 : Int32)) (fun x_2 => px_z v1 (some ((((Int32.toUInt32 x_2 >>> (Int32.toUInt32 (16 : Int32) &&& Int32.toUInt32 31)).toInt32) &&& (32767 : Int32)) - (((Int32.toUInt32 x_2 >>> (Int32.toUInt32 (16 : Int32) &&& Int32.toUInt32 31)).toInt32) &&& (32767 : Int32)) / v1 * v1))) else some (0 : Int32))
/-! TagReader.power(JI)J -/
def pX10_power_5B (v0 : Int64) (v2 : Int32) (K_5 : Int64 → Int32 → Option (Int64)) (v3 : Int64) (v5 : Int32) : Option (Int64) := (if v2 ≤ v5 then some v3 else K_5 (v3 * v0) (v5 + (1 : Int32)))
def pX10_power_5 (v0 : Int64) (v2 : Int32) : Nat → Int64 → Int32 → Option (Int64)
  | 0, _, _ => none
  | n + 1, v3, v5 => pX10_power_5B v0 v2 (pX10_power_5 v0 v2 n) v3 v5
def pX10_power (v0 : Int64) (v2 : Int32) : Option (Int64) := pX10_power_5 v0 v2 px_FU (1 : Int64) (0 : Int32)
/-! TagReader.greatestCommonDivisor(JJ)J -/
def pX10_greatestCommonDivisor_9B (v0 : Int64) (v2 : Int64) (K_9 : Int64 → Int64 → Int32 → Option (Int64)) (v4 : Int64) (v6 : Int64) (v8 : Int32) : Option (Int64) := (if (100 : Int32) ≤ v8 then some v4 else (if (lg_cmp v6 (0 : Int64)) = (0 : Int32) then some v4 else px_zl v6 (K_9 v6 (v4 - v4 / v6 * v6) (v8 + (1 : Int32)))))
def pX10_greatestCommonDivisor_9 (v0 : Int64) (v2 : Int64) : Nat → Int64 → Int64 → Int32 → Option (Int64)
  | 0, _, _, _ => none
  | n + 1, v4, v6, v8 => pX10_greatestCommonDivisor_9B v0 v2 (pX10_greatestCommonDivisor_9 v0 v2 n) v4 v6 v8
def pX10_greatestCommonDivisor (v0 : Int64) (v2 : Int64) : Option (Int64) := pX10_greatestCommonDivisor_9 v0 v2 px_FU v0 v2 (0 : Int32)
/-! TagReader.partOfFraction(JJI)J -/
def pX10_partOfFraction (v0 : Int64) (v2 : Int64) (v4 : Int32) : Option (Int64) := px_b (pX10_greatestCommonDivisor v0 v2) (fun o_1 => (if (0 : Int32) ≤ (lg_cmp o_1 (1 : Int64)) then (if v4 = (0 : Int32) then px_zl o_1 (some (v0 / o_1)) else px_zl o_1 (some (v2 / o_1))) else some (0 : Int64)))
/-! TagReader.isShow(III)Z -/
def pX10_isShow (v0 : Int32) (v1 : Int32) (v2 : Int32) : Option (Int32) := px_b (pX10_within v0 (0 : Int32) (8 : Int32)) (fun o_1 => (if o_1 = (0 : Int32) then some (0 : Int32) else px_b (pX10_within v1 (0 : Int32) (8 : Int32)) (fun o_3 => (if o_3 = (0 : Int32) then some (0 : Int32) else px_b (pX10_within v2 (0 : Int32) (8 : Int32)) (fun o_5 => (if o_5 = (0 : Int32) then some (0 : Int32) else px_b (pX10_within ((v0 + v1) + v2) (1 : Int32) (8 : Int32)) (fun o_7 => (if o_7 = (0 : Int32) then some (0 : Int32) else some (1 : Int32)))))))))
/-! TagReader.within(III)Z -/
theorem hsX10_within : yX10_within.cls ≠ "java/lang/invoke/MethodHandle" ∧ yX10_within.cls ≠ "java/lang/invoke/VarHandle" ∧ (parseMethodDescriptor yX10_within.desc).map (fun d => d.parameters.length) = some 3 := by decide +kernel
set_option maxHeartbeats 4000000 in
set_option maxRecDepth 100000 in
theorem ccX10_within (l : Launch) (dC : Nat → ClassId) (dI : Nat → Nat → Nat) (cyI cyZ cyJ cyB cyO : ClassId) (v0 : Int32) (v1 : Int32) (v2 : Int32) (out : Int32) (hp : pX10_within v0 v1 v2 = some out) : Met l yX10_within wsX10_within ({ frames := 0, cells := 0, slots := 0, locals := 0 } : Room) (px_PR (dC, dI) (px_TY cyI cyZ cyJ cyB cyO) [.int v0, .int v1, .int v2] []) (px_QR (.int out)) 0 0 (fun _ => False) := by
  refine Met.ofW (cc := cX10_within) (maxL := 3) (ret := (some .boolean)) (by decide) rfl ?_
  intro p e s m args below meth c s₁ B hml hv
  obtain ⟨rfl, hP, hK, hN⟩ := hv
  have hx := B.exec
  have hb := B.bytes
  have hr := B.returns
  have hts := atoms_spec (ws := wsX10_within) B.pre
  have hown : s.vm.findClass RX10 = some m.cls := findClass_of_methodNamed B.named
  have hlocks := B.notSynchronized
  have hQ : ∀ (pc : Nat) (ls : Array Slot), narrow .boolean (.int out) = .int out → decode cX10_within pc = .ok (.ireturn, 1) → W p l e ({ frames := 0, cells := 0, slots := 0, locals := 0 } : Room) s m (([.int v0, .int v1, .int v2] : List Value).toArray) below meth c s.heap [] 0 0 (MQ below (px_QR (.int out)) (([.int v0, .int v1, .int v2] : List Value).toArray) s 0 0 (fun _ => False)) (F0 m pc ls [.int out]) := fun pc ls hz hd => W.zret hx hb hr hz (fun t ht hW => ⟨rfl, ht⟩) (fun q h => by cases h) hd
  generalize MQ below (px_QR (.int out)) (([.int v0, .int v1, .int v2] : List Value).toArray) s 0 0 (fun _ => False) = Q at hQ ⊢
  have hl := lv_entry [.int v0, .int v1, .int v2] (n := 3) (Nat.le_of_ble_eq_true rfl)
  rw [lg_entry_eq]
  generalize (lg_sl [.int v0, .int v1, .int v2] ++ List.replicate (3 - (lg_sl [.int v0, .int v1, .int v2]).length) Slot.unset).toArray = ls at hl ⊢
  have hl : lv_has ls 3 [(0, .int v0), (1, .int v1), (2, .int v2)] := hl
  unfold pX10_within at hp
  refine lv_iload_n hx hb dX10_within_0 rfl (lv_at hl 0 rfl) ?_
  refine lv_iload_n hx hb dX10_within_1 rfl (lv_at hl 1 rfl) ?_
  refine lv_icmp_lt (tgt := 14) hx hb dX10_within_2 (by decide) (fun c_1 => ?_) (fun c_1 => ?_)
  · have hp := px_t hp c_1
    refine lv_iconst (v := (0 : Int32)) hx hb dX10_within_14 (by decide) ?_
    have ho := px_s hp
    subst ho
    exact hQ _ _ narrow_b0 dX10_within_15
  · have hp := px_f hp c_1
    refine lv_iload_n hx hb dX10_within_5 rfl (lv_at hl 0 rfl) ?_
    refine lv_iload_n hx hb dX10_within_6 rfl (lv_at hl 2 rfl) ?_
    refine lv_icmp_gt (tgt := 14) hx hb dX10_within_7 (by decide) (fun c_2 => ?_) (fun c_2 => ?_)
    · have hp := px_t hp c_2
      refine lv_iconst (v := (0 : Int32)) hx hb dX10_within_14 (by decide) ?_
      have ho := px_s hp
      subst ho
      exact hQ _ _ narrow_b0 dX10_within_15
    · have hp := px_f hp c_2
      refine lv_iconst (v := (1 : Int32)) hx hb dX10_within_10 (by decide) ?_
      refine lv_goto (tgt := 15) hx hb dX10_within_11 (by decide) ?_
      have ho := px_s hp
      subst ho
      exact hQ _ _ narrow_b1 dX10_within_15
/-! TagReader.lowBits(I)I -/
theorem hsX10_lowBits : yX10_lowBits.cls ≠ "java/lang/invoke/MethodHandle" ∧ yX10_lowBits.cls ≠ "java/lang/invoke/VarHandle" ∧ (parseMethodDescriptor yX10_lowBits.desc).map (fun d => d.parameters.length) = some 1 := by decide +kernel
set_option maxHeartbeats 4000000 in
set_option maxRecDepth 100000 in
theorem ccX10_lowBits (l : Launch) (dC : Nat → ClassId) (dI : Nat → Nat → Nat) (cyI cyZ cyJ cyB cyO : ClassId) (v0 : Int32) (out : Int32) (hp : pX10_lowBits v0 = some out) : Met l yX10_lowBits wsX10_lowBits ({ frames := 0, cells := 0, slots := 0, locals := 0 } : Room) (px_PR (dC, dI) (px_TY cyI cyZ cyJ cyB cyO) [.int v0] []) (px_QR (.int out)) 0 0 (fun _ => False) := by
  refine Met.ofW (cc := cX10_lowBits) (maxL := 1) (ret := (some .int)) (by decide) rfl ?_
  intro p e s m args below meth c s₁ B hml hv
  obtain ⟨rfl, hP, hK, hN⟩ := hv
  have hx := B.exec
  have hb := B.bytes
  have hr := B.returns
  have hts := atoms_spec (ws := wsX10_lowBits) B.pre
  have hown : s.vm.findClass RX10 = some m.cls := findClass_of_methodNamed B.named
  have hlocks := B.notSynchronized
  have hQ : ∀ (pc : Nat) (ls : Array Slot), decode cX10_lowBits pc = .ok (.ireturn, 1) → W p l e ({ frames := 0, cells := 0, slots := 0, locals := 0 } : Room) s m (([.int v0] : List Value).toArray) below meth c s.heap [] 0 0 (MQ below (px_QR (.int out)) (([.int v0] : List Value).toArray) s 0 0 (fun _ => False)) (F0 m pc ls [.int out]) := fun pc ls hd => W.iret hx hb hr (fun t ht hW => ⟨rfl, ht⟩) (fun q h => by cases h) hd
  generalize MQ below (px_QR (.int out)) (([.int v0] : List Value).toArray) s 0 0 (fun _ => False) = Q at hQ ⊢
  have hl := lv_entry [.int v0] (n := 1) (Nat.le_of_ble_eq_true rfl)
  rw [lg_entry_eq]
  generalize (lg_sl [.int v0] ++ List.replicate (1 - (lg_sl [.int v0]).length) Slot.unset).toArray = ls at hl ⊢
  have hl : lv_has ls 1 [(0, .int v0)] := hl
  unfold pX10_lowBits at hp
  refine lv_iconst (v := (1 : Int32)) hx hb dX10_lowBits_0 (by decide) ?_
  refine lv_iload_n hx hb dX10_lowBits_1 rfl (lv_at hl 0 rfl) ?_
  refine lv_ishl hx hb dX10_lowBits_2 ?_
  refine lv_iconst (v := (1 : Int32)) hx hb dX10_lowBits_3 (by decide) ?_
  refine lv_isub hx hb dX10_lowBits_4 ?_
  have ho := px_s hp
  subst ho
  exact hQ _ _ dX10_lowBits_5
/-! TagReader.slotOf(III)I -/
theorem hsX10_slotOf : yX10_slotOf.cls ≠ "java/lang/invoke/MethodHandle" ∧ yX10_slotOf.cls ≠ "java/lang/invoke/VarHandle" ∧ (parseMethodDescriptor yX10_slotOf.desc).map (fun d => d.parameters.length) = some 3 := by decide +kernel
theorem kX10_slotOf_1 : (.constant RX10 314 (40503) : Cond) ∈ wsX10_slotOf := List.mem_of_getElem? (i := 1) rfl
theorem kX10_slotOf_2 : (.constant RX10 315 (1103515245) : Cond) ∈ wsX10_slotOf := List.mem_of_getElem? (i := 2) rfl
set_option maxHeartbeats 4000000 in
set_option maxRecDepth 100000 in
theorem ccX10_slotOf (l : Launch) (dC : Nat → ClassId) (dI : Nat → Nat → Nat) (cyI cyZ cyJ cyB cyO : ClassId) (v0 : Int32) (v1 : Int32) (v2 : Int32) (out : Int32) (hp : pX10_slotOf v0 v1 v2 = some out) : Met l yX10_slotOf wsX10_slotOf ({ frames := 0, cells := 0, slots := 0, locals := 0 } : Room) (px_PR (dC, dI) (px_TY cyI cyZ cyJ cyB cyO) [.int v0, .int v1, .int v2] []) (px_QR (.int out)) 0 0 (fun _ => False) := by
  refine Met.ofW (cc := cX10_slotOf) (maxL := 4) (ret := (some .int)) (by decide) rfl ?_
  intro p e s m args below meth c s₁ B hml hv
  obtain ⟨rfl, hP, hK, hN⟩ := hv
  have hx := B.exec
  have hb := B.bytes
  have hr := B.returns
  have hts := atoms_spec (ws := wsX10_slotOf) B.pre
  have hown : s.vm.findClass RX10 = some m.cls := findClass_of_methodNamed B.named
  have hlocks := B.notSynchronized
  have hQ : ∀ (pc : Nat) (ls : Array Slot), decode cX10_slotOf pc = .ok (.ireturn, 1) → W p l e ({ frames := 0, cells := 0, slots := 0, locals := 0 } : Room) s m (([.int v0, .int v1, .int v2] : List Value).toArray) below meth c s.heap [] 0 0 (MQ below (px_QR (.int out)) (([.int v0, .int v1, .int v2] : List Value).toArray) s 0 0 (fun _ => False)) (F0 m pc ls [.int out]) := fun pc ls hd => W.iret hx hb hr (fun t ht hW => ⟨rfl, ht⟩) (fun q h => by cases h) hd
  generalize MQ below (px_QR (.int out)) (([.int v0, .int v1, .int v2] : List Value).toArray) s 0 0 (fun _ => False) = Q at hQ ⊢
  have hl := lv_entry [.int v0, .int v1, .int v2] (n := 4) (Nat.le_of_ble_eq_true rfl)
  rw [lg_entry_eq]
  generalize (lg_sl [.int v0, .int v1, .int v2] ++ List.replicate (4 - (lg_sl [.int v0, .int v1, .int v2]).length) Slot.unset).toArray = ls at hl ⊢
  have hl : lv_has ls 4 [(0, .int v0), (1, .int v1), (2, .int v2)] := hl
  unfold pX10_slotOf at hp
  refine lv_iload_n hx hb dX10_slotOf_0 rfl (lv_at hl 1 rfl) ?_
  refine lv_iconst (v := (1 : Int32)) hx hb dX10_slotOf_1 (by decide) ?_
  refine lv_icmp_ge (tgt := 7) hx hb dX10_slotOf_2 (by decide) (fun c_1 => ?_) (fun c_1 => ?_)
  · have hp := px_t hp c_1
    refine lv_iload_n hx hb dX10_slotOf_7 rfl (lv_at hl 2 rfl) ?_
    refine lv_ldcw (v := (40503 : Int32)) hx hb hown (hts _ kX10_slotOf_1) dX10_slotOf_8 ?_
    refine lv_iload_n hx hb dX10_slotOf_11 rfl (lv_at hl 0 rfl) ?_
    refine lv_imul hx hb dX10_slotOf_12 ?_
    refine lv_iadd hx hb dX10_slotOf_13 ?_
    refine lv_istore_n (lv' := [(3, .int (v2 + ((40503 : Int32) * v0))), (0, .int v0), (1, .int v1), (2, .int v2)]) hx hb dX10_slotOf_14 rfl hl (by decide) rfl (fun ls hl => ?_)
    refine lv_iload_n hx hb dX10_slotOf_15 rfl (lv_at hl 0 rfl) ?_
    refine lv_ldcw (v := (1103515245 : Int32)) hx hb hown (hts _ kX10_slotOf_2) dX10_slotOf_16 ?_
    refine lv_imul hx hb dX10_slotOf_19 ?_
    refine lv_sipush (v := (12345 : Int32)) hx hb dX10_slotOf_20 (by decide) ?_
    refine lv_iadd hx hb dX10_slotOf_23 ?_
    refine lv_topi (fun x_2 ex_2 => ?_)
    have hp := px_lt_at hp ex_2
    refine lv_istore_n (lv' := [(3, .int x_2), (0, .int v0), (1, .int v1), (2, .int v2)]) hx hb dX10_slotOf_24 rfl hl (by decide) rfl (fun ls hl => ?_)
    refine lv_iload_n hx hb dX10_slotOf_25 rfl (lv_at hl 0 rfl) ?_
    refine lv_bipush (v := (16 : Int32)) hx hb dX10_slotOf_26 (by decide) ?_
    refine lv_iushr hx hb dX10_slotOf_28 rfl ?_
    refine lv_sipush (v := (32767 : Int32)) hx hb dX10_slotOf_29 (by decide) ?_
    refine lv_iand hx hb dX10_slotOf_32 ?_
    refine lv_iload_n hx hb dX10_slotOf_33 rfl (lv_at hl 2 rfl) ?_
    obtain ⟨g_3, hp⟩ := px_z_at hp
    refine lv_irem hx hb dX10_slotOf_34 g_3 ?_
    have ho := px_s hp
    subst ho
    exact hQ _ _ dX10_slotOf_35
  · have hp := px_f hp c_1
    refine lv_iconst (v := (0 : Int32)) hx hb dX10_slotOf_5 (by decide) ?_
    have ho := px_s hp
    subst ho
    exact hQ _ _ dX10_slotOf_6
/-! TagReader.power(JI)J -/
theorem hsX10_power : yX10_power.cls ≠ "java/lang/invoke/MethodHandle" ∧ yX10_power.cls ≠ "java/lang/invoke/VarHandle" ∧ (parseMethodDescriptor yX10_power.desc).map (fun d => d.parameters.length) = some 2 := by decide +kernel
set_option maxHeartbeats 4000000 in
set_option maxRecDepth 100000 in
theorem lcX10_power_5B {p : Program} {l : Launch} {e : Env} {s : State} {m : MethodId} {args : Array Value} {below : List Frame} {meth : Method} {c : Code} {Q : State → Prop} (dC : Nat → ClassId) (dI : Nat → Nat → Nat) (cyI cyZ cyJ cyB cyO : ClassId) (v0 : Int64) (v2 : Int32) (out : Int64) (hx : p.tables.exec = Jvm.exec) (hb : c.code = cX10_power) (hml : c.maxLocals = 6) (hts : ∀ w ∈ wsX10_power, w.before args s = true) (hown : s.vm.findClass RX10 = some m.cls) (hK : va_K (dC, dI) vwCl (px_TY cyI cyZ cyJ cyB cyO) s) (hN : px_NW s) (hP : va_P (dC, dI) vwCl [] s.heap) (hQ : ∀ (pc : Nat) (ls : Array Slot), decode cX10_power pc = .ok (.lreturn, 1) → W p l e ({ frames := 0, cells := 0, slots := 0, locals := 0 } : Room) s m args below meth c s.heap [] 0 0 Q (F0 m pc ls [.long out]))  (K_5 : Int64 → Int32 → Option (Int64)) (hK_5 : ∀ (v3 : Int64) (v5 : Int32) (ls : Array Slot), K_5 v3 v5 = some out → lv_has ls 6 [(0, .long v0), (2, .int v2), (3, .long v3), (5, .int v5)] → W p l e ({ frames := 0, cells := 0, slots := 0, locals := 0 } : Room) s m args below meth c s.heap [] 0 0 Q (F0 m 5 ls [])) : ∀ (v3 : Int64) (v5 : Int32) (ls : Array Slot), pX10_power_5B v0 v2 K_5 v3 v5 = some out → lv_has ls 6 [(0, .long v0), (2, .int v2), (3, .long v3), (5, .int v5)] → W p l e ({ frames := 0, cells := 0, slots := 0, locals := 0 } : Room) s m args below meth c s.heap [] 0 0 Q (F0 m 5 ls []) := by
  intro v3 v5 ls hp hl
  unfold pX10_power_5B at hp
  refine lv_iload hx hb dX10_power_5 (lv_at hl 3 rfl) ?_
  refine lv_iload_n hx hb dX10_power_7 rfl (lv_at hl 1 rfl) ?_
  refine lv_icmp_ge (tgt := 21) hx hb dX10_power_8 (by decide) (fun c_1 => ?_) (fun c_1 => ?_)
  · have hp := px_t hp c_1
    refine lv_lload_n hx hb dX10_power_21 rfl (lv_at hl 2 rfl) ?_
    have ho := px_s hp
    subst ho
    exact hQ _ _ dX10_power_22
  · have hp := px_f hp c_1
    refine lv_lload_n hx hb dX10_power_11 rfl (lv_at hl 2 rfl) ?_
    refine lv_lload_n hx hb dX10_power_12 rfl (lv_at hl 0 rfl) ?_
    refine lv_lmul hx hb dX10_power_13 ?_
    refine lv_lstore_n (lv' := [(3, .long (v3 * v0)), (0, .long v0), (2, .int v2), (5, .int v5)]) hx hb dX10_power_14 rfl hl (by decide) rfl (fun ls hl => ?_)
    refine lv_iinc (v := (v5 + (1 : Int32))) (lv' := [(5, .int (v5 + (1 : Int32))), (3, .long (v3 * v0)), (0, .long v0), (2, .int v2)]) hx hb dX10_power_15 hl (k := 3) rfl rfl (by decide) rfl (fun ls hl => ?_)
    refine lv_goto (tgt := 5) hx hb dX10_power_18 (by decide) ?_
    exact hK_5 (v3 * v0) (v5 + (1 : Int32)) ls hp (lv_sub hl [2, 3, 1, 0] rfl)
theorem lcX10_power_5 {p : Program} {l : Launch} {e : Env} {s : State} {m : MethodId} {args : Array Value} {below : List Frame} {meth : Method} {c : Code} {Q : State → Prop} (dC : Nat → ClassId) (dI : Nat → Nat → Nat) (cyI cyZ cyJ cyB cyO : ClassId) (v0 : Int64) (v2 : Int32) (out : Int64) (hx : p.tables.exec = Jvm.exec) (hb : c.code = cX10_power) (hml : c.maxLocals = 6) (hts : ∀ w ∈ wsX10_power, w.before args s = true) (hown : s.vm.findClass RX10 = some m.cls) (hK : va_K (dC, dI) vwCl (px_TY cyI cyZ cyJ cyB cyO) s) (hN : px_NW s) (hP : va_P (dC, dI) vwCl [] s.heap) (hQ : ∀ (pc : Nat) (ls : Array Slot), decode cX10_power pc = .ok (.lreturn, 1) → W p l e ({ frames := 0, cells := 0, slots := 0, locals := 0 } : Room) s m args below meth c s.heap [] 0 0 Q (F0 m pc ls [.long out]))  : ∀ n : Nat, ∀ (v3 : Int64) (v5 : Int32) (ls : Array Slot), pX10_power_5 v0 v2 n v3 v5 = some out → lv_has ls 6 [(0, .long v0), (2, .int v2), (3, .long v3), (5, .int v5)] → W p l e ({ frames := 0, cells := 0, slots := 0, locals := 0 } : Room) s m args below meth c s.heap [] 0 0 Q (F0 m 5 ls []) := by
  intro n
  induction n with
  | zero =>
    intro v3 v5 ls hp hl
    exact nomatch hp
  | succ n ih => exact lcX10_power_5B dC dI cyI cyZ cyJ cyB cyO v0 v2 out hx hb hml hts hown hK hN hP hQ (pX10_power_5 v0 v2 n) ih
set_option maxHeartbeats 4000000 in
set_option maxRecDepth 100000 in
theorem ccX10_power (l : Launch) (dC : Nat → ClassId) (dI : Nat → Nat → Nat) (cyI cyZ cyJ cyB cyO : ClassId) (v0 : Int64) (v2 : Int32) (out : Int64) (hp : pX10_power v0 v2 = some out) : Met l yX10_power wsX10_power ({ frames := 0, cells := 0, slots := 0, locals := 0 } : Room) (px_PR (dC, dI) (px_TY cyI cyZ cyJ cyB cyO) [.long v0, .int v2] []) (px_QR (.long out)) 0 0 (fun _ => False) := by
  refine Met.ofW (cc := cX10_power) (maxL := 6) (ret := (some .long)) (by decide) rfl ?_
  intro p e s m args below meth c s₁ B hml hv
  obtain ⟨rfl, hP, hK, hN⟩ := hv
  have hx := B.exec
  have hb := B.bytes
  have hr := B.returns
  have hts := atoms_spec (ws := wsX10_power) B.pre
  have hown : s.vm.findClass RX10 = some m.cls := findClass_of_methodNamed B.named
  have hlocks := B.notSynchronized
  have hQ : ∀ (pc : Nat) (ls : Array Slot), decode cX10_power pc = .ok (.lreturn, 1) → W p l e ({ frames := 0, cells := 0, slots := 0, locals := 0 } : Room) s m (([.long v0, .int v2] : List Value).toArray) below meth c s.heap [] 0 0 (MQ below (px_QR (.long out)) (([.long v0, .int v2] : List Value).toArray) s 0 0 (fun _ => False)) (F0 m pc ls [.long out]) := fun pc ls hd => W.lret hx hb hr (fun t ht hW => ⟨rfl, ht⟩) (fun q h => by cases h) hd
  generalize MQ below (px_QR (.long out)) (([.long v0, .int v2] : List Value).toArray) s 0 0 (fun _ => False) = Q at hQ ⊢
  have hl := lv_entry [.long v0, .int v2] (n := 6) (Nat.le_of_ble_eq_true rfl)
  rw [lg_entry_eq]
  generalize (lg_sl [.long v0, .int v2] ++ List.replicate (6 - (lg_sl [.long v0, .int v2]).length) Slot.unset).toArray = ls at hl ⊢
  have hl : lv_has ls 6 [(0, .long v0), (2, .int v2)] := hl
  unfold pX10_power at hp
  refine lv_lconst (v := (1 : Int64)) hx hb dX10_power_0 (by decide) ?_
  refine lv_lstore_n (lv' := [(3, .long (1 : Int64)), (0, .long v0), (2, .int v2)]) hx hb dX10_power_1 rfl hl (by decide) rfl (fun ls hl => ?_)
  refine lv_iconst (v := (0 : Int32)) hx hb dX10_power_2 (by decide) ?_
  refine lv_istore (lv' := [(5, .int (0 : Int32)), (3, .long (1 : Int64)), (0, .long v0), (2, .int v2)]) hx hb dX10_power_3 hl (by decide) rfl (fun ls hl => ?_)
  exact lcX10_power_5 dC dI cyI cyZ cyJ cyB cyO v0 v2 out hx hb hml hts hown hK hN hP hQ px_FU (1 : Int64) (0 : Int32) ls hp (lv_sub hl [2, 3, 1, 0] rfl)
/-! TagReader.greatestCommonDivisor(JJ)J -/
theorem hsX10_greatestCommonDivisor : yX10_greatestCommonDivisor.cls ≠ "java/lang/invoke/MethodHandle" ∧ yX10_greatestCommonDivisor.cls ≠ "java/lang/invoke/VarHandle" ∧ (parseMethodDescriptor yX10_greatestCommonDivisor.desc).map (fun d => d.parameters.length) = some 2 := by decide +kernel
set_option maxHeartbeats 4000000 in
set_option maxRecDepth 100000 in
theorem lcX10_greatestCommonDivisor_9B {p : Program} {l : Launch} {e : Env} {s : State} {m : MethodId} {args : Array Value} {below : List Frame} {meth : Method} {c : Code} {Q : State → Prop} (dC : Nat → ClassId) (dI : Nat → Nat → Nat) (cyI cyZ cyJ cyB cyO : ClassId) (v0 : Int64) (v2 : Int64) (out : Int64) (hx : p.tables.exec = Jvm.exec) (hb : c.code = cX10_greatestCommonDivisor) (hml : c.maxLocals = 11) (hts : ∀ w ∈ wsX10_greatestCommonDivisor, w.before args s = true) (hown : s.vm.findClass RX10 = some m.cls) (hK : va_K (dC, dI) vwCl (px_TY cyI cyZ cyJ cyB cyO) s) (hN : px_NW s) (hP : va_P (dC, dI) vwCl [] s.heap) (hQ : ∀ (pc : Nat) (ls : Array Slot), decode cX10_greatestCommonDivisor pc = .ok (.lreturn, 1) → W p l e ({ frames := 0, cells := 0, slots := 0, locals := 0 } : Room) s m args below meth c s.heap [] 0 0 Q (F0 m pc ls [.long out]))  (K_9 : Int64 → Int64 → Int32 → Option (Int64)) (hK_9 : ∀ (v4 : Int64) (v6 : Int64) (v8 : Int32) (ls : Array Slot), K_9 v4 v6 v8 = some out → lv_has ls 11 [(4, .long v4), (6, .long v6), (8, .int v8)] → W p l e ({ frames := 0, cells := 0, slots := 0, locals := 0 } : Room) s m args below meth c s.heap [] 0 0 Q (F0 m 9 ls [])) : ∀ (v4 : Int64) (v6 : Int64) (v8 : Int32) (ls : Array Slot), pX10_greatestCommonDivisor_9B v0 v2 K_9 v4 v6 v8 = some out → lv_has ls 11 [(4, .long v4), (6, .long v6), (8, .int v8)] → W p l e ({ frames := 0, cells := 0, slots := 0, locals := 0 } : Room) s m args below meth c s.heap [] 0 0 Q (F0 m 9 ls []) := by
  intro v4 v6 v8 ls hp hl
  unfold pX10_greatestCommonDivisor_9B at hp
  refine lv_iload hx hb dX10_greatestCommonDivisor_9 (lv_at hl 2 rfl) ?_
  refine lv_bipush (v := (100 : Int32)) hx hb dX10_greatestCommonDivisor_11 (by decide) ?_
  refine lv_icmp_ge (tgt := 44) hx hb dX10_greatestCommonDivisor_13 (by decide) (fun c_1 => ?_) (fun c_1 => ?_)
  · have hp := px_t hp c_1
    refine lv_lload hx hb dX10_greatestCommonDivisor_44 (lv_at hl 0 rfl) ?_
    have ho := px_s hp
    subst ho
    exact hQ _ _ dX10_greatestCommonDivisor_46
  · have hp := px_f hp c_1
    refine lv_lload hx hb dX10_greatestCommonDivisor_16 (lv_at hl 1 rfl) ?_
    refine lv_lconst (v := (0 : Int64)) hx hb dX10_greatestCommonDivisor_18 (by decide) ?_
    refine W.lcmp hx hb dX10_greatestCommonDivisor_19 ?_
    refine lv_if_eq (tgt := 44) hx hb dX10_greatestCommonDivisor_20 (by decide) (fun c_2 => ?_) (fun c_2 => ?_)
    · have hp := px_t hp c_2
      refine lv_lload hx hb dX10_greatestCommonDivisor_44 (lv_at hl 0 rfl) ?_
      have ho := px_s hp
      subst ho
      exact hQ _ _ dX10_greatestCommonDivisor_46
    · have hp := px_f hp c_2
      refine lv_lload hx hb dX10_greatestCommonDivisor_23 (lv_at hl 0 rfl) ?_
      refine lv_lload hx hb dX10_greatestCommonDivisor_25 (lv_at hl 1 rfl) ?_
      obtain ⟨g_3, hp⟩ := px_zl_at hp
      refine lv_lrem hx hb dX10_greatestCommonDivisor_27 g_3 ?_
      refine lv_lstore (lv' := [(9, .long (v4 - v4 / v6 * v6)), (4, .long v4), (6, .long v6), (8, .int v8)]) hx hb dX10_greatestCommonDivisor_28 hl (by decide) rfl (fun ls hl => ?_)
      refine lv_lload hx hb dX10_greatestCommonDivisor_30 (lv_at hl 2 rfl) ?_
      refine lv_lstore (lv' := [(4, .long v6), (9, .long (v4 - v4 / v6 * v6)), (6, .long v6), (8, .int v8)]) hx hb dX10_greatestCommonDivisor_32 hl (by decide) rfl (fun ls hl => ?_)
      refine lv_lload hx hb dX10_greatestCommonDivisor_34 (lv_at hl 1 rfl) ?_
      refine lv_lstore (lv' := [(6, .long (v4 - v4 / v6 * v6)), (4, .long v6), (9, .long (v4 - v4 / v6 * v6)), (8, .int v8)]) hx hb dX10_greatestCommonDivisor_36 hl (by decide) rfl (fun ls hl => ?_)
      refine lv_iinc (v := (v8 + (1 : Int32))) (lv' := [(8, .int (v8 + (1 : Int32))), (6, .long (v4 - v4 / v6 * v6)), (4, .long v6), (9, .long (v4 - v4 / v6 * v6))]) hx hb dX10_greatestCommonDivisor_38 hl (k := 3) rfl rfl (by decide) rfl (fun ls hl => ?_)
      refine lv_goto (tgt := 9) hx hb dX10_greatestCommonDivisor_41 (by decide) ?_
      exact hK_9 v6 (v4 - v4 / v6 * v6) (v8 + (1 : Int32)) ls hp (lv_sub hl [2, 1, 0] rfl)
theorem lcX10_greatestCommonDivisor_9 {p : Program} {l : Launch} {e : Env} {s : State} {m : MethodId} {args : Array Value} {below : List Frame} {meth : Method} {c : Code} {Q : State → Prop} (dC : Nat → ClassId) (dI : Nat → Nat → Nat) (cyI cyZ cyJ cyB cyO : ClassId) (v0 : Int64) (v2 : Int64) (out : Int64) (hx : p.tables.exec = Jvm.exec) (hb : c.code = cX10_greatestCommonDivisor) (hml : c.maxLocals = 11) (hts : ∀ w ∈ wsX10_greatestCommonDivisor, w.before args s = true) (hown : s.vm.findClass RX10 = some m.cls) (hK : va_K (dC, dI) vwCl (px_TY cyI cyZ cyJ cyB cyO) s) (hN : px_NW s) (hP : va_P (dC, dI) vwCl [] s.heap) (hQ : ∀ (pc : Nat) (ls : Array Slot), decode cX10_greatestCommonDivisor pc = .ok (.lreturn, 1) → W p l e ({ frames := 0, cells := 0, slots := 0, locals := 0 } : Room) s m args below meth c s.heap [] 0 0 Q (F0 m pc ls [.long out]))  : ∀ n : Nat, ∀ (v4 : Int64) (v6 : Int64) (v8 : Int32) (ls : Array Slot), pX10_greatestCommonDivisor_9 v0 v2 n v4 v6 v8 = some out → lv_has ls 11 [(4, .long v4), (6, .long v6), (8, .int v8)] → W p l e ({ frames := 0, cells := 0, slots := 0, locals := 0 } : Room) s m args below meth c s.heap [] 0 0 Q (F0 m 9 ls []) := by
  intro n
  induction n with
  | zero =>
    intro v4 v6 v8 ls hp hl
    exact nomatch hp
  | succ n ih => exact lcX10_greatestCommonDivisor_9B dC dI cyI cyZ cyJ cyB cyO v0 v2 out hx hb hml hts hown hK hN hP hQ (pX10_greatestCommonDivisor_9 v0 v2 n) ih
set_option maxHeartbeats 4000000 in
set_option maxRecDepth 100000 in
theorem ccX10_greatestCommonDivisor (l : Launch) (dC : Nat → ClassId) (dI : Nat → Nat → Nat) (cyI cyZ cyJ cyB cyO : ClassId) (v0 : Int64) (v2 : Int64) (out : Int64) (hp : pX10_greatestCommonDivisor v0 v2 = some out) : Met l yX10_greatestCommonDivisor wsX10_greatestCommonDivisor ({ frames := 0, cells := 0, slots := 0, locals := 0 } : Room) (px_PR (dC, dI) (px_TY cyI cyZ cyJ cyB cyO) [.long v0, .long v2] []) (px_QR (.long out)) 0 0 (fun _ => False) := by
  refine Met.ofW (cc := cX10_greatestCommonDivisor) (maxL := 11) (ret := (some .long)) (by decide) rfl ?_
  intro p e s m args below meth c s₁ B hml hv
  obtain ⟨rfl, hP, hK, hN⟩ := hv
  have hx := B.exec
  have hb := B.bytes
  have hr := B.returns
  have hts := atoms_spec (ws := wsX10_greatestCommonDivisor) B.pre
  have hown : s.vm.findClass RX10 = some m.cls := findClass_of_methodNamed B.named
  have hlocks := B.notSynchronized
  have hQ : ∀ (pc : Nat) (ls : Array Slot), decode cX10_greatestCommonDivisor pc = .ok (.lreturn, 1) → W p l e ({ frames := 0, cells := 0, slots := 0, locals := 0 } : Room) s m (([.long v0, .long v2] : List Value).toArray) below meth c s.heap [] 0 0 (MQ below (px_QR (.long out)) (([.long v0, .long v2] : List Value).toArray) s 0 0 (fun _ => False)) (F0 m pc ls [.long out]) := fun pc ls hd => W.lret hx hb hr (fun t ht hW => ⟨rfl, ht⟩) (fun q h => by cases h) hd
  generalize MQ below (px_QR (.long out)) (([.long v0, .long v2] : List Value).toArray) s 0 0 (fun _ => False) = Q at hQ ⊢
  have hl := lv_entry [.long v0, .long v2] (n := 11) (Nat.le_of_ble_eq_true rfl)
  rw [lg_entry_eq]
  generalize (lg_sl [.long v0, .long v2] ++ List.replicate (11 - (lg_sl [.long v0, .long v2]).length) Slot.unset).toArray = ls at hl ⊢
  have hl : lv_has ls 11 [(0, .long v0), (2, .long v2)] := hl
  unfold pX10_greatestCommonDivisor at hp
  refine lv_lload_n hx hb dX10_greatestCommonDivisor_0 rfl (lv_at hl 0 rfl) ?_
  refine lv_lstore (lv' := [(4, .long v0), (0, .long v0), (2, .long v2)]) hx hb dX10_greatestCommonDivisor_1 hl (by decide) rfl (fun ls hl => ?_)
  refine lv_lload_n hx hb dX10_greatestCommonDivisor_3 rfl (lv_at hl 2 rfl) ?_
  refine lv_lstore (lv' := [(6, .long v2), (4, .long v0), (0, .long v0), (2, .long v2)]) hx hb dX10_greatestCommonDivisor_4 hl (by decide) rfl (fun ls hl => ?_)
  refine lv_iconst (v := (0 : Int32)) hx hb dX10_greatestCommonDivisor_6 (by decide) ?_
  refine lv_istore (lv' := [(8, .int (0 : Int32)), (6, .long v2), (4, .long v0), (0, .long v0), (2, .long v2)]) hx hb dX10_greatestCommonDivisor_7 hl (by decide) rfl (fun ls hl => ?_)
  exact lcX10_greatestCommonDivisor_9 dC dI cyI cyZ cyJ cyB cyO v0 v2 out hx hb hml hts hown hK hN hP hQ px_FU v0 v2 (0 : Int32) ls hp (lv_sub hl [2, 1, 0] rfl)
/-! TagReader.partOfFraction(JJI)J -/
theorem hsX10_partOfFraction : yX10_partOfFraction.cls ≠ "java/lang/invoke/MethodHandle" ∧ yX10_partOfFraction.cls ≠ "java/lang/invoke/VarHandle" ∧ (parseMethodDescriptor yX10_partOfFraction.desc).map (fun d => d.parameters.length) = some 3 := by decide +kernel
set_option maxHeartbeats 4000000 in
set_option maxRecDepth 100000 in
theorem ccX10_partOfFraction (l : Launch) (dC : Nat → ClassId) (dI : Nat → Nat → Nat) (cyI cyZ cyJ cyB cyO : ClassId) (v0 : Int64) (v2 : Int64) (v4 : Int32) (out : Int64) (hp : pX10_partOfFraction v0 v2 v4 = some out) : Met l yX10_partOfFraction wsX10_partOfFraction ({ frames := 1, cells := 0, slots := 0, locals := 30 } : Room) (px_PR (dC, dI) (px_TY cyI cyZ cyJ cyB cyO) [.long v0, .long v2, .int v4] []) (px_QR (.long out)) 0 0 (fun _ => False) := by
  refine Met.ofW (cc := cX10_partOfFraction) (maxL := 7) (ret := (some .long)) (by decide) rfl ?_
  intro p e s m args below meth c s₁ B hml hv
  obtain ⟨rfl, hP, hK, hN⟩ := hv
  have hx := B.exec
  have hb := B.bytes
  have hr := B.returns
  have hts := atoms_spec (ws := wsX10_partOfFraction) B.pre
  have hown : s.vm.findClass RX10 = some m.cls := findClass_of_methodNamed B.named
  have hlocks := B.notSynchronized
  have hQ : ∀ (pc : Nat) (ls : Array Slot), decode cX10_partOfFraction pc = .ok (.lreturn, 1) → W p l e ({ frames := 1, cells := 0, slots := 0, locals := 30 } : Room) s m (([.long v0, .long v2, .int v4] : List Value).toArray) below meth c s.heap [] 0 0 (MQ below (px_QR (.long out)) (([.long v0, .long v2, .int v4] : List Value).toArray) s 0 0 (fun _ => False)) (F0 m pc ls [.long out]) := fun pc ls hd => W.lret hx hb hr (fun t ht hW => ⟨rfl, ht⟩) (fun q h => by cases h) hd
  generalize MQ below (px_QR (.long out)) (([.long v0, .long v2, .int v4] : List Value).toArray) s 0 0 (fun _ => False) = Q at hQ ⊢
  have hl := lv_entry [.long v0, .long v2, .int v4] (n := 7) (Nat.le_of_ble_eq_true rfl)
  rw [lg_entry_eq]
  generalize (lg_sl [.long v0, .long v2, .int v4] ++ List.replicate (7 - (lg_sl [.long v0, .long v2, .int v4]).length) Slot.unset).toArray = ls at hl ⊢
  have hl : lv_has ls 7 [(0, .long v0), (2, .long v2), (4, .int v4)] := hl
  unfold pX10_partOfFraction at hp
  refine lv_lload_n hx hb dX10_partOfFraction_0 rfl (lv_at hl 0 rfl) ?_
  refine lv_lload_n hx hb dX10_partOfFraction_1 rfl (lv_at hl 1 rfl) ?_
  obtain ⟨o_1, ho_1, hp⟩ := px_b_at hp
  refine px_callR (v := .long o_1) (va_runS (As := [.long v0, .long v2]) (rest := []) ⟨hx, hb, hml, hown, hts⟩ (ccX10_greatestCommonDivisor l dC dI cyI cyZ cyJ cyB cyO v0 v2 o_1 ho_1) (va_cwS 2 hts gX10_partOfFraction_X10_greatestCommonDivisor rfl rfl rfl hsX10_greatestCommonDivisor ⟨Nat.le_of_ble_eq_true rfl, Nat.le_of_ble_eq_true rfl⟩) (px_preR (wc := []) hK hN hP [] rfl) rfl rfl hl.1 rfl (lv_room (Nat.le_of_ble_eq_true rfl)) dX10_partOfFraction_2 ⟨Nat.zero_le _, Nat.zero_le _⟩) ?_
  refine lv_lstore (lv' := [(5, .long o_1), (0, .long v0), (2, .long v2), (4, .int v4)]) hx hb dX10_partOfFraction_5 hl (by decide) rfl (fun ls hl => ?_)
  refine lv_lload hx hb dX10_partOfFraction_7 (lv_at hl 0 rfl) ?_
  refine lv_lconst (v := (1 : Int64)) hx hb dX10_partOfFraction_9 (by decide) ?_
  refine W.lcmp hx hb dX10_partOfFraction_10 ?_
  refine lv_if_ge (tgt := 16) hx hb dX10_partOfFraction_11 (by decide) (fun c_2 => ?_) (fun c_2 => ?_)
  · have hp := px_t hp c_2
    refine lv_iload hx hb dX10_partOfFraction_16 (lv_at hl 3 rfl) ?_
    refine lv_if_ne (tgt := 25) hx hb dX10_partOfFraction_18 (by decide) (fun c_3 => ?_) (fun c_3 => ?_)
    · have hp := px_f hp c_3
      refine lv_lload_n hx hb dX10_partOfFraction_25 rfl (lv_at hl 2 rfl) ?_
      refine lv_lload hx hb dX10_partOfFraction_26 (lv_at hl 0 rfl) ?_
      obtain ⟨g_4, hp⟩ := px_zl_at hp
      refine lv_ldiv hx hb dX10_partOfFraction_28 g_4 ?_
      have ho := px_s hp
      subst ho
      exact hQ _ _ dX10_partOfFraction_29
    · have hp := px_t hp c_3
      refine lv_lload_n hx hb dX10_partOfFraction_21 rfl (lv_at hl 1 rfl) ?_
      refine lv_goto (tgt := 26) hx hb dX10_partOfFraction_22 (by decide) ?_
      refine lv_lload hx hb dX10_partOfFraction_26 (lv_at hl 0 rfl) ?_
      obtain ⟨g_5, hp⟩ := px_zl_at hp
      refine lv_ldiv hx hb dX10_partOfFraction_28 g_5 ?_
      have ho := px_s hp
      subst ho
      exact hQ _ _ dX10_partOfFraction_29
  · have hp := px_f hp c_2
    refine lv_lconst (v := (0 : Int64)) hx hb dX10_partOfFraction_14 (by decide) ?_
    have ho := px_s hp
    subst ho
    exact hQ _ _ dX10_partOfFraction_15
/-! TagReader.isShow(III)Z -/
theorem hsX10_isShow : yX10_isShow.cls ≠ "java/lang/invoke/MethodHandle" ∧ yX10_isShow.cls ≠ "java/lang/invoke/VarHandle" ∧ (parseMethodDescriptor yX10_isShow.desc).map (fun d => d.parameters.length) = some 3 := by decide +kernel
set_option maxHeartbeats 4000000 in
set_option maxRecDepth 100000 in
theorem ccX10_isShow (l : Launch) (dC : Nat → ClassId) (dI : Nat → Nat → Nat) (cyI cyZ cyJ cyB cyO : ClassId) (v0 : Int32) (v1 : Int32) (v2 : Int32) (out : Int32) (hp : pX10_isShow v0 v1 v2 = some out) : Met l yX10_isShow wsX10_isShow ({ frames := 1, cells := 0, slots := 0, locals := 22 } : Room) (px_PR (dC, dI) (px_TY cyI cyZ cyJ cyB cyO) [.int v0, .int v1, .int v2] []) (px_QR (.int out)) 0 0 (fun _ => False) := by
  refine Met.ofW (cc := cX10_isShow) (maxL := 3) (ret := (some .boolean)) (by decide) rfl ?_
  intro p e s m args below meth c s₁ B hml hv
  obtain ⟨rfl, hP, hK, hN⟩ := hv
  have hx := B.exec
  have hb := B.bytes
  have hr := B.returns
  have hts := atoms_spec (ws := wsX10_isShow) B.pre
  have hown : s.vm.findClass RX10 = some m.cls := findClass_of_methodNamed B.named
  have hlocks := B.notSynchronized
  have hQ : ∀ (pc : Nat) (ls : Array Slot), narrow .boolean (.int out) = .int out → decode cX10_isShow pc = .ok (.ireturn, 1) → W p l e ({ frames := 1, cells := 0, slots := 0, locals := 22 } : Room) s m (([.int v0, .int v1, .int v2] : List Value).toArray) below meth c s.heap [] 0 0 (MQ below (px_QR (.int out)) (([.int v0, .int v1, .int v2] : List Value).toArray) s 0 0 (fun _ => False)) (F0 m pc ls [.int out]) := fun pc ls hz hd => W.zret hx hb hr hz (fun t ht hW => ⟨rfl, ht⟩) (fun q h => by cases h) hd
  generalize MQ below (px_QR (.int out)) (([.int v0, .int v1, .int v2] : List Value).toArray) s 0 0 (fun _ => False) = Q at hQ ⊢
  have hl := lv_entry [.int v0, .int v1, .int v2] (n := 3) (Nat.le_of_ble_eq_true rfl)
  rw [lg_entry_eq]
  generalize (lg_sl [.int v0, .int v1, .int v2] ++ List.replicate (3 - (lg_sl [.int v0, .int v1, .int v2]).length) Slot.unset).toArray = ls at hl ⊢
  have hl : lv_has ls 3 [(0, .int v0), (1, .int v1), (2, .int v2)] := hl
  unfold pX10_isShow at hp
  refine lv_iload_n hx hb dX10_isShow_0 rfl (lv_at hl 0 rfl) ?_
  refine lv_iconst (v := (0 : Int32)) hx hb dX10_isShow_1 (by decide) ?_
  refine lv_bipush (v := (8 : Int32)) hx hb dX10_isShow_2 (by decide) ?_
  obtain ⟨o_1, ho_1, hp⟩ := px_b_at hp
  refine px_callR (v := .int o_1) (va_runS (As := [.int v0, .int (0 : Int32), .int (8 : Int32)]) (rest := []) ⟨hx, hb, hml, hown, hts⟩ (ccX10_within l dC dI cyI cyZ cyJ cyB cyO v0 (0 : Int32) (8 : Int32) o_1 ho_1) (va_cwS 3 hts gX10_isShow_X10_within rfl rfl rfl hsX10_within ⟨Nat.le_of_ble_eq_true rfl, Nat.le_of_ble_eq_true rfl⟩) (px_preR (wc := []) hK hN hP [] rfl) rfl rfl hl.1 rfl (lv_room (Nat.le_of_ble_eq_true rfl)) dX10_isShow_4 ⟨Nat.zero_le _, Nat.zero_le _⟩) ?_
  refine lv_if_eq (tgt := 48) hx hb dX10_isShow_7 (by decide) (fun c_2 => ?_) (fun c_2 => ?_)
  · have hp := px_t hp c_2
    refine lv_iconst (v := (0 : Int32)) hx hb dX10_isShow_48 (by decide) ?_
    have ho := px_s hp
    subst ho
    exact hQ _ _ narrow_b0 dX10_isShow_49
  · have hp := px_f hp c_2
    refine lv_iload_n hx hb dX10_isShow_10 rfl (lv_at hl 1 rfl) ?_
    refine lv_iconst (v := (0 : Int32)) hx hb dX10_isShow_11 (by decide) ?_
    refine lv_bipush (v := (8 : Int32)) hx hb dX10_isShow_12 (by decide) ?_
    obtain ⟨o_3, ho_3, hp⟩ := px_b_at hp
    refine px_callR (v := .int o_3) (va_runS (As := [.int v1, .int (0 : Int32), .int (8 : Int32)]) (rest := []) ⟨hx, hb, hml, hown, hts⟩ (ccX10_within l dC dI cyI cyZ cyJ cyB cyO v1 (0 : Int32) (8 : Int32) o_3 ho_3) (va_cwS 3 hts gX10_isShow_X10_within rfl rfl rfl hsX10_within ⟨Nat.le_of_ble_eq_true rfl, Nat.le_of_ble_eq_true rfl⟩) (px_preR (wc := []) hK hN hP [] rfl) rfl rfl hl.1 rfl (lv_room (Nat.le_of_ble_eq_true rfl)) dX10_isShow_14 ⟨Nat.zero_le _, Nat.zero_le _⟩) ?_
    refine lv_if_eq (tgt := 48) hx hb dX10_isShow_17 (by decide) (fun c_4 => ?_) (fun c_4 => ?_)
    · have hp := px_t hp c_4
      refine lv_iconst (v := (0 : Int32)) hx hb dX10_isShow_48 (by decide) ?_
      have ho := px_s hp
      subst ho
      exact hQ _ _ narrow_b0 dX10_isShow_49
    · have hp := px_f hp c_4
      refine lv_iload_n hx hb dX10_isShow_20 rfl (lv_at hl 2 rfl) ?_
      refine lv_iconst (v := (0 : Int32)) hx hb dX10_isShow_21 (by decide) ?_
      refine lv_bipush (v := (8 : Int32)) hx hb dX10_isShow_22 (by decide) ?_
      obtain ⟨o_5, ho_5, hp⟩ := px_b_at hp
      refine px_callR (v := .int o_5) (va_runS (As := [.int v2, .int (0 : Int32), .int (8 : Int32)]) (rest := []) ⟨hx, hb, hml, hown, hts⟩ (ccX10_within l dC dI cyI cyZ cyJ cyB cyO v2 (0 : Int32) (8 : Int32) o_5 ho_5) (va_cwS 3 hts gX10_isShow_X10_within rfl rfl rfl hsX10_within ⟨Nat.le_of_ble_eq_true rfl, Nat.le_of_ble_eq_true rfl⟩) (px_preR (wc := []) hK hN hP [] rfl) rfl rfl hl.1 rfl (lv_room (Nat.le_of_ble_eq_true rfl)) dX10_isShow_24 ⟨Nat.zero_le _, Nat.zero_le _⟩) ?_
      refine lv_if_eq (tgt := 48) hx hb dX10_isShow_27 (by decide) (fun c_6 => ?_) (fun c_6 => ?_)
      · have hp := px_t hp c_6
        refine lv_iconst (v := (0 : Int32)) hx hb dX10_isShow_48 (by decide) ?_
        have ho := px_s hp
        subst ho
        exact hQ _ _ narrow_b0 dX10_isShow_49
      · have hp := px_f hp c_6
        refine lv_iload_n hx hb dX10_isShow_30 rfl (lv_at hl 0 rfl) ?_
        refine lv_iload_n hx hb dX10_isShow_31 rfl (lv_at hl 1 rfl) ?_
        refine lv_iadd hx hb dX10_isShow_32 ?_
        refine lv_iload_n hx hb dX10_isShow_33 rfl (lv_at hl 2 rfl) ?_
        refine lv_iadd hx hb dX10_isShow_34 ?_
        refine lv_iconst (v := (1 : Int32)) hx hb dX10_isShow_35 (by decide) ?_
        refine lv_bipush (v := (8 : Int32)) hx hb dX10_isShow_36 (by decide) ?_
        obtain ⟨o_7, ho_7, hp⟩ := px_b_at hp
        refine px_callR (v := .int o_7) (va_runS (As := [.int ((v0 + v1) + v2), .int (1 : Int32), .int (8 : Int32)]) (rest := []) ⟨hx, hb, hml, hown, hts⟩ (ccX10_within l dC dI cyI cyZ cyJ cyB cyO ((v0 + v1) + v2) (1 : Int32) (8 : Int32) o_7 ho_7) (va_cwS 3 hts gX10_isShow_X10_within rfl rfl rfl hsX10_within ⟨Nat.le_of_ble_eq_true rfl, Nat.le_of_ble_eq_true rfl⟩) (px_preR (wc := []) hK hN hP [] rfl) rfl rfl hl.1 rfl (lv_room (Nat.le_of_ble_eq_true rfl)) dX10_isShow_38 ⟨Nat.zero_le _, Nat.zero_le _⟩) ?_
        refine lv_if_eq (tgt := 48) hx hb dX10_isShow_41 (by decide) (fun c_8 => ?_) (fun c_8 => ?_)
        · have hp := px_t hp c_8
          refine lv_iconst (v := (0 : Int32)) hx hb dX10_isShow_48 (by decide) ?_
          have ho := px_s hp
          subst ho
          exact hQ _ _ narrow_b0 dX10_isShow_49
        · have hp := px_f hp c_8
          refine lv_iconst (v := (1 : Int32)) hx hb dX10_isShow_44 (by decide) ?_
          refine lv_goto (tgt := 49) hx hb dX10_isShow_45 (by decide) ?_
          have ho := px_s hp
          subst ho
          exact hQ _ _ narrow_b1 dX10_isShow_49
