/-! TagReader$Known.has(I)Z -/
def pX2_has_2B (v1 : Int32) (kn_size : Int32) (kn_numbers : Nat → Int32) (K_2 : Int32 → Option (Int32)) (v2 : Int32) : Option (Int32) := (if kn_size ≤ v2 then some (0 : Int32) else px_i v2 16 ((if (kn_numbers (Int32.toNatClampNeg v2)) = v1 then some (1 : Int32) else K_2 (v2 + (1 : Int32)))))
def pX2_has_2 (v1 : Int32) (kn_size : Int32) (kn_numbers : Nat → Int32) : Nat → Int32 → Option (Int32)
  | 0, _ => none
  | n + 1, v2 => pX2_has_2B v1 kn_size kn_numbers (pX2_has_2 v1 kn_size kn_numbers n) v2
def pX2_has (v1 : Int32) (kn_size : Int32) (kn_numbers : Nat → Int32) : Option (Int32) := pX2_has_2 v1 kn_size kn_numbers px_FU (0 : Int32)
abbrev wdX2_has (cyI cyZ cyJ cyB cyO : ClassId) (h_kn a_kn_numbers a_kn_slots : Nat) (kn_size : Int32) (kn_numbers : Nat → Int32) (kn_slots : Nat → Int32) : va_W := [(h_kn, .inr (2, [.ref a_kn_numbers, .ref a_kn_slots, .int kn_size])), (a_kn_numbers, .inl (cyI, 16, .inl kn_numbers)), (a_kn_slots, .inl (cyI, 16, .inl kn_slots))]
/-! TagReader$Known.add(I)V -/
def pX2_add (v1 : Int32) (kn_size : Int32) (kn_numbers : Nat → Int32) : Option (Int32 × (Nat → Int32)) := (if (16 : Int32) ≤ kn_size then some (kn_size, kn_numbers) else px_i kn_size 16 (some ((kn_size + (1 : Int32)), (upd kn_numbers (Int32.toNatClampNeg kn_size) v1))))
abbrev wdX2_add (cyI cyZ cyJ cyB cyO : ClassId) (h_kn a_kn_numbers a_kn_slots : Nat) (kn_size : Int32) (kn_numbers : Nat → Int32) (kn_slots : Nat → Int32) : va_W := [(h_kn, .inr (2, [.ref a_kn_numbers, .ref a_kn_slots, .int kn_size])), (a_kn_numbers, .inl (cyI, 16, .inl kn_numbers)), (a_kn_slots, .inl (cyI, 16, .inl kn_slots))]
/-! TagReader$Known.notIn(III)I -/
def pX2_notIn_6B (v1 : Int32) (v2 : Int32) (v3 : Int32) (kn_size : Int32) (kn_numbers : Nat → Int32) (K_6 : Int32 → Int32 → Option (Int32)) (v4 : Int32) (v5 : Int32) : Option (Int32) := (if kn_size ≤ v5 then some v4 else px_i v5 16 (px_b (pX10_slotOf (kn_numbers (Int32.toNatClampNeg v5)) v2 v3) (fun o_3 => (if ((v1 >>> (o_3 &&& (31 : Int32))) &&& (1 : Int32)) = (0 : Int32) then K_6 (v4 ||| ((1 : Int32) <<< (v5 &&& (31 : Int32)))) (v5 + (1 : Int32)) else K_6 v4 (v5 + (1 : Int32))))))
def pX2_notIn_6 (v1 : Int32) (v2 : Int32) (v3 : Int32) (kn_size : Int32) (kn_numbers : Nat → Int32) : Nat → Int32 → Int32 → Option (Int32)
  | 0, _, _ => none
  | n + 1, v4, v5 => pX2_notIn_6B v1 v2 v3 kn_size kn_numbers (pX2_notIn_6 v1 v2 v3 kn_size kn_numbers n) v4 v5
def pX2_notIn (v1 : Int32) (v2 : Int32) (v3 : Int32) (kn_size : Int32) (kn_numbers : Nat → Int32) : Option (Int32) := pX2_notIn_6 v1 v2 v3 kn_size kn_numbers px_FU (0 : Int32) (0 : Int32)
abbrev wdX2_notIn (cyI cyZ cyJ cyB cyO : ClassId) (h_kn a_kn_numbers a_kn_slots : Nat) (kn_size : Int32) (kn_numbers : Nat → Int32) (kn_slots : Nat → Int32) : va_W := [(h_kn, .inr (2, [.ref a_kn_numbers, .ref a_kn_slots, .int kn_size])), (a_kn_numbers, .inl (cyI, 16, .inl kn_numbers)), (a_kn_slots, .inl (cyI, 16, .inl kn_slots))]
/-! TagReader$Known.isAlone(I)Z -/
def pX2_isAlone_2B (v1 : Int32) (kn_size : Int32) (kn_slots : Nat → Int32) (K_2 : Int32 → Option (Int32)) (v2 : Int32) : Option (Int32) := (if kn_size ≤ v2 then some (1 : Int32) else (if v2 = v1 then K_2 (v2 + (1 : Int32)) else px_i v2 16 (px_i v1 16 ((if (kn_slots (Int32.toNatClampNeg v2)) = (kn_slots (Int32.toNatClampNeg v1)) then some (0 : Int32) else K_2 (v2 + (1 : Int32)))))))
def pX2_isAlone_2 (v1 : Int32) (kn_size : Int32) (kn_slots : Nat → Int32) : Nat → Int32 → Option (Int32)
  | 0, _ => none
  | n + 1, v2 => pX2_isAlone_2B v1 kn_size kn_slots (pX2_isAlone_2 v1 kn_size kn_slots n) v2
def pX2_isAlone (v1 : Int32) (kn_size : Int32) (kn_slots : Nat → Int32) : Option (Int32) := pX2_isAlone_2 v1 kn_size kn_slots px_FU (0 : Int32)
abbrev wdX2_isAlone (cyI cyZ cyJ cyB cyO : ClassId) (h_kn a_kn_numbers a_kn_slots : Nat) (kn_size : Int32) (kn_numbers : Nat → Int32) (kn_slots : Nat → Int32) : va_W := [(h_kn, .inr (2, [.ref a_kn_numbers, .ref a_kn_slots, .int kn_size])), (a_kn_numbers, .inl (cyI, 16, .inl kn_numbers)), (a_kn_slots, .inl (cyI, 16, .inl kn_slots))]
/-! TagReader$Known.aloneOnes(II)I -/
def pX2_aloneOnes_38B (v1 : Int32) (v2 : Int32) (kn_size : Int32) (kn_numbers : Nat → Int32) (K_38 : Int32 → Int32 → (Nat → Int32) → Option (Int32 × (Nat → Int32))) (v3 : Int32) (v4 : Int32) (kn_slots : Nat → Int32) : Option (Int32 × (Nat → Int32)) := (if kn_size ≤ v4 then some (v3, kn_slots) else px_b (pX2_isAlone v4 kn_size kn_slots) (fun o_3 => (if o_3 = (0 : Int32) then K_38 v3 (v4 + (1 : Int32)) kn_slots else K_38 (v3 ||| ((1 : Int32) <<< (v4 &&& (31 : Int32)))) (v4 + (1 : Int32)) kn_slots)))
def pX2_aloneOnes_38 (v1 : Int32) (v2 : Int32) (kn_size : Int32) (kn_numbers : Nat → Int32) : Nat → Int32 → Int32 → (Nat → Int32) → Option (Int32 × (Nat → Int32))
  | 0, _, _, _ => none
  | n + 1, v3, v4, kn_slots => pX2_aloneOnes_38B v1 v2 kn_size kn_numbers (pX2_aloneOnes_38 v1 v2 kn_size kn_numbers n) v3 v4 kn_slots
def pX2_aloneOnes_2B (v1 : Int32) (v2 : Int32) (kn_size : Int32) (kn_numbers : Nat → Int32) (K_2 : Int32 → (Nat → Int32) → Option (Int32 × (Nat → Int32))) (v3 : Int32) (kn_slots : Nat → Int32) : Option (Int32 × (Nat → Int32)) := (if kn_size ≤ v3 then pX2_aloneOnes_38 v1 v2 kn_size kn_numbers px_FU (0 : Int32) (0 : Int32) kn_slots else px_i v3 16 (px_b (pX10_slotOf (kn_numbers (Int32.toNatClampNeg v3)) v1 v2) (fun o_6 => px_i v3 16 (K_2 (v3 + (1 : Int32)) (upd kn_slots (Int32.toNatClampNeg v3) o_6)))))
def pX2_aloneOnes_2 (v1 : Int32) (v2 : Int32) (kn_size : Int32) (kn_numbers : Nat → Int32) : Nat → Int32 → (Nat → Int32) → Option (Int32 × (Nat → Int32))
  | 0, _, _ => none
  | n + 1, v3, kn_slots => pX2_aloneOnes_2B v1 v2 kn_size kn_numbers (pX2_aloneOnes_2 v1 v2 kn_size kn_numbers n) v3 kn_slots
def pX2_aloneOnes (v1 : Int32) (v2 : Int32) (kn_size : Int32) (kn_numbers : Nat → Int32) (kn_slots : Nat → Int32) : Option (Int32 × (Nat → Int32)) := pX2_aloneOnes_2 v1 v2 kn_size kn_numbers px_FU (0 : Int32) kn_slots
abbrev wdX2_aloneOnes (cyI cyZ cyJ cyB cyO : ClassId) (h_kn a_kn_numbers a_kn_slots : Nat) (kn_size : Int32) (kn_numbers : Nat → Int32) (kn_slots : Nat → Int32) : va_W := [(h_kn, .inr (2, [.ref a_kn_numbers, .ref a_kn_slots, .int kn_size])), (a_kn_numbers, .inl (cyI, 16, .inl kn_numbers)), (a_kn_slots, .inl (cyI, 16, .inl kn_slots))]
/-! TagReader$Sheet.renew(II)V -/
def pX5_renew_23B (v1 : Int32) (v2 : Int32) (K_23 : Int32 → Int32 → Int32 → (Nat → Int32) → Option (Int32 × Int32 × (Nat → Int32))) (v3 : Int32) (sh_lane : Int32) (sh_size : Int32) (sh_cells : Nat → Int32) : Option (Int32 × Int32 × (Nat → Int32)) := (if v2 ≤ v3 then some (sh_lane, sh_size, sh_cells) else px_i v3 40 (K_23 (v3 + (1 : Int32)) sh_lane sh_size (upd sh_cells (Int32.toNatClampNeg v3) (0 : Int32))))
def pX5_renew_23 (v1 : Int32) (v2 : Int32) : Nat → Int32 → Int32 → Int32 → (Nat → Int32) → Option (Int32 × Int32 × (Nat → Int32))
  | 0, _, _, _, _ => none
  | n + 1, v3, sh_lane, sh_size, sh_cells => pX5_renew_23B v1 v2 (pX5_renew_23 v1 v2 n) v3 sh_lane sh_size sh_cells
def pX5_renew (v1 : Int32) (v2 : Int32) (sh_lane : Int32) (sh_size : Int32) (sh_cells : Nat → Int32) : Option (Int32 × Int32 × (Nat → Int32)) := px_b (pX10_within v2 (0 : Int32) (40 : Int32)) (fun o_1 => (if o_1 = (0 : Int32) then some (sh_lane, sh_size, sh_cells) else pX5_renew_23 v1 v2 px_FU (0 : Int32) v1 v2 sh_cells))
abbrev wdX5_renew (cyI cyZ cyJ cyB cyO : ClassId) (h_sh a_sh_cells : Nat) (sh_lane : Int32) (sh_size : Int32) (sh_cells : Nat → Int32) : va_W := [(h_sh, .inr (5, [.ref a_sh_cells, .int sh_lane, .int sh_size])), (a_sh_cells, .inl (cyI, 40, .inl sh_cells))]
/-! TagReader$Sheet.faultOfCell(I)I -/
def pX5_faultOfCell (v1 : Int32) (sh_size : Int32) : Option (Int32) := (if (0 : Int32) ≤ sh_size then px_b (pX10_within v1 (0 : Int32) (sh_size - (1 : Int32))) (fun o_2 => (if o_2 = (0 : Int32) then some (2 : Int32) else some (0 : Int32))) else some (1 : Int32))
abbrev wdX5_faultOfCell (cyI cyZ cyJ cyB cyO : ClassId) (h_sh a_sh_cells : Nat) (sh_lane : Int32) (sh_size : Int32) (sh_cells : Nat → Int32) : va_W := [(h_sh, .inr (5, [.ref a_sh_cells, .int sh_lane, .int sh_size])), (a_sh_cells, .inl (cyI, 40, .inl sh_cells))]
/-! TagReader$Sheet.faultOfPair(II)I -/
def pX5_faultOfPair_17 (v1 : Int32) (v2 : Int32) (sh_lane : Int32) (sh_size : Int32) : Option (Int32) := px_b (pX5_faultOfCell v2 sh_size) (fun o_2 => (if o_2 = (0 : Int32) then px_b (pX5_faultOfCell (v2 + (1 : Int32)) sh_size) (fun o_4 => some o_4) else some o_2))
def pX5_faultOfPair (v1 : Int32) (v2 : Int32) (sh_lane : Int32) (sh_size : Int32) : Option (Int32) := (if sh_size < (0 : Int32) then pX5_faultOfPair_17 v1 v2 sh_lane sh_size else (if v1 = sh_lane then pX5_faultOfPair_17 v1 v2 sh_lane sh_size else some (3 : Int32)))
abbrev wdX5_faultOfPair (cyI cyZ cyJ cyB cyO : ClassId) (h_sh a_sh_cells : Nat) (sh_lane : Int32) (sh_size : Int32) (sh_cells : Nat → Int32) : va_W := [(h_sh, .inr (5, [.ref a_sh_cells, .int sh_lane, .int sh_size])), (a_sh_cells, .inl (cyI, 40, .inl sh_cells))]
/-! TagReader$Sheet.put(II)V -/
def pX5_put (v1 : Int32) (v2 : Int32) (sh_lane : Int32) (sh_size : Int32) (sh_cells : Nat → Int32) : Option ((Nat → Int32)) := px_b (pX5_faultOfCell v1 sh_size) (fun o_1 => (if o_1 = (0 : Int32) then (if sh_lane = (0 : Int32) then px_i v1 40 (some (upd sh_cells (Int32.toNatClampNeg v1) (Int8.toInt32 (Int32.toInt8 v2)))) else (if sh_lane = (1 : Int32) then px_i v1 40 (some (upd sh_cells (Int32.toNatClampNeg v1) (Int16.toInt32 (Int32.toInt16 v2)))) else px_i v1 40 (some (upd sh_cells (Int32.toNatClampNeg v1) v2)))) else some sh_cells))
abbrev wdX5_put (cyI cyZ cyJ cyB cyO : ClassId) (h_sh a_sh_cells : Nat) (sh_lane : Int32) (sh_size : Int32) (sh_cells : Nat → Int32) : va_W := [(h_sh, .inr (5, [.ref a_sh_cells, .int sh_lane, .int sh_size])), (a_sh_cells, .inl (cyI, 40, .inl sh_cells))]
/-! TagReader$Known.has(I)Z -/
theorem hvX2_has : yX2_has.cls = RX2 ∧ yX2_has.cls ≠ "java/lang/invoke/MethodHandle" ∧ yX2_has.cls ≠ "java/lang/invoke/VarHandle" ∧ (parseMethodDescriptor yX2_has.desc).map (fun d => d.parameters.length) = some 1 := by decide +kernel
theorem fX2_has_X2 : ∀ w ∈ u_ws RX2 TX2 3, w ∈ wsX2_has := fun _ h => List.mem_cons_of_mem _ (List.mem_append_right _ h)
theorem kX2_has_1 : (.fieldLink RX2 18 "TagReader$Known" "size" "I" : Cond) ∈ wsX2_has := List.mem_of_getElem? (i := 1) rfl
theorem kX2_has_2 : (.fieldLink RX2 9 "TagReader$Known" "numbers" "[I" : Cond) ∈ wsX2_has := List.mem_of_getElem? (i := 2) rfl
set_option maxHeartbeats 4000000 in
set_option maxRecDepth 100000 in
theorem lcX2_has_2B {p : Program} {l : Launch} {e : Env} {s : State} {m : MethodId} {args : Array Value} {below : List Frame} {meth : Method} {c : Code} {Q : State → Prop} (dC : Nat → ClassId) (dI : Nat → Nat → Nat) (cyI cyZ cyJ cyB cyO : ClassId) (h_kn a_kn_numbers a_kn_slots : Nat) (kn_size : Int32) (kn_numbers : Nat → Int32) (kn_slots : Nat → Int32) (v1 : Int32) (out : Int32) (hx : p.tables.exec = Jvm.exec) (hb : c.code = cX2_has) (hml : c.maxLocals = 3) (hts : ∀ w ∈ wsX2_has, w.before args s = true) (hown : s.vm.findClass RX2 = some m.cls) (hK : va_K (dC, dI) vwCl (px_TY cyI cyZ cyJ cyB cyO) s) (hN : px_NW s) (hP : va_P (dC, dI) vwCl (wdX2_has cyI cyZ cyJ cyB cyO h_kn a_kn_numbers a_kn_slots kn_size kn_numbers kn_slots) s.heap) (hQ : ∀ (pc : Nat) (ls : Array Slot), narrow .boolean (.int out) = .int out → decode cX2_has pc = .ok (.ireturn, 1) → W p l e ({ frames := 0, cells := 0, slots := 0, locals := 0 } : Room) s m args below meth c s.heap [] 0 0 Q (F0 m pc ls [.int out]))  (K_2 : Int32 → Option (Int32)) (hK_2 : ∀ (v2 : Int32) (ls : Array Slot), K_2 v2 = some out → lv_has ls 3 [(0, .ref h_kn), (1, .int v1), (2, .int v2)] → W p l e ({ frames := 0, cells := 0, slots := 0, locals := 0 } : Room) s m args below meth c s.heap [] 0 0 Q (F0 m 2 ls [])) : ∀ (v2 : Int32) (ls : Array Slot), pX2_has_2B v1 kn_size kn_numbers K_2 v2 = some out → lv_has ls 3 [(0, .ref h_kn), (1, .int v1), (2, .int v2)] → W p l e ({ frames := 0, cells := 0, slots := 0, locals := 0 } : Room) s m args below meth c s.heap [] 0 0 Q (F0 m 2 ls []) := by
  intro v2 ls hp hl
  unfold pX2_has_2B at hp
  refine lv_iload_n hx hb dX2_has_2 rfl (lv_at hl 2 rfl) ?_
  refine lv_aload_n hx hb dX2_has_3 rfl (lv_at hl 0 rfl) ?_
  refine va_get (D := (dC, dI)) (ci := 2) (v := .int kn_size) (C := RX2) (T := TX2) (N := 3) hx hb hts fX2_has_X2 hown hK hP 0 rfl rfl 2 (by decide) (hts _ kX2_has_1) (fun _ h9 => h9) rfl dX2_has_4 ?_
  refine lv_icmp_ge (tgt := 28) hx hb dX2_has_7 (by decide) (fun c_1 => ?_) (fun c_1 => ?_)
  · have hp := px_t hp c_1
    refine lv_iconst (v := (0 : Int32)) hx hb dX2_has_28 (by decide) ?_
    have ho := px_s hp
    subst ho
    exact hQ _ _ narrow_b0 dX2_has_29
  · have hp := px_f hp c_1
    refine lv_aload_n hx hb dX2_has_10 rfl (lv_at hl 0 rfl) ?_
    refine va_get (D := (dC, dI)) (ci := 2) (v := .ref a_kn_numbers) (C := RX2) (T := TX2) (N := 3) hx hb hts fX2_has_X2 hown hK hP 0 rfl rfl 0 (by decide) (hts _ kX2_has_2) (fun _ h9 => h9) rfl dX2_has_11 ?_
    refine lv_iload_n hx hb dX2_has_14 rfl (lv_at hl 2 rfl) ?_
    obtain ⟨g_2, hp⟩ := px_i_at hp
    refine va_iald (D := (dC, dI)) hx hb hK hP 1 0 rfl rfl g_2 dX2_has_15 ?_
    refine lv_iload_n hx hb dX2_has_16 rfl (lv_at hl 1 rfl) ?_
    refine lv_icmp_ne (tgt := 22) hx hb dX2_has_17 (by decide) (fun c_3 => ?_) (fun c_3 => ?_)
    · have hp := px_f hp c_3
      refine lv_iinc (v := (v2 + (1 : Int32))) (lv' := [(2, .int (v2 + (1 : Int32))), (0, .ref h_kn), (1, .int v1)]) hx hb dX2_has_22 hl (k := 2) rfl rfl (by decide) rfl (fun ls hl => ?_)
      refine lv_goto (tgt := 2) hx hb dX2_has_25 (by decide) ?_
      exact hK_2 (v2 + (1 : Int32)) ls hp (lv_sub hl [1, 2, 0] rfl)
    · have hp := px_t hp c_3
      refine lv_iconst (v := (1 : Int32)) hx hb dX2_has_20 (by decide) ?_
      have ho := px_s hp
      subst ho
      exact hQ _ _ narrow_b1 dX2_has_21
theorem lcX2_has_2 {p : Program} {l : Launch} {e : Env} {s : State} {m : MethodId} {args : Array Value} {below : List Frame} {meth : Method} {c : Code} {Q : State → Prop} (dC : Nat → ClassId) (dI : Nat → Nat → Nat) (cyI cyZ cyJ cyB cyO : ClassId) (h_kn a_kn_numbers a_kn_slots : Nat) (kn_size : Int32) (kn_numbers : Nat → Int32) (kn_slots : Nat → Int32) (v1 : Int32) (out : Int32) (hx : p.tables.exec = Jvm.exec) (hb : c.code = cX2_has) (hml : c.maxLocals = 3) (hts : ∀ w ∈ wsX2_has, w.before args s = true) (hown : s.vm.findClass RX2 = some m.cls) (hK : va_K (dC, dI) vwCl (px_TY cyI cyZ cyJ cyB cyO) s) (hN : px_NW s) (hP : va_P (dC, dI) vwCl (wdX2_has cyI cyZ cyJ cyB cyO h_kn a_kn_numbers a_kn_slots kn_size kn_numbers kn_slots) s.heap) (hQ : ∀ (pc : Nat) (ls : Array Slot), narrow .boolean (.int out) = .int out → decode cX2_has pc = .ok (.ireturn, 1) → W p l e ({ frames := 0, cells := 0, slots := 0, locals := 0 } : Room) s m args below meth c s.heap [] 0 0 Q (F0 m pc ls [.int out]))  : ∀ n : Nat, ∀ (v2 : Int32) (ls : Array Slot), pX2_has_2 v1 kn_size kn_numbers n v2 = some out → lv_has ls 3 [(0, .ref h_kn), (1, .int v1), (2, .int v2)] → W p l e ({ frames := 0, cells := 0, slots := 0, locals := 0 } : Room) s m args below meth c s.heap [] 0 0 Q (F0 m 2 ls []) := by
  intro n
  induction n with
  | zero =>
    intro v2 ls hp hl
    exact nomatch hp
  | succ n ih => exact lcX2_has_2B dC dI cyI cyZ cyJ cyB cyO h_kn a_kn_numbers a_kn_slots kn_size kn_numbers kn_slots v1 out hx hb hml hts hown hK hN hP hQ (pX2_has_2 v1 kn_size kn_numbers n) ih
set_option maxHeartbeats 4000000 in
set_option maxRecDepth 100000 in
theorem ccX2_has (l : Launch) (dC : Nat → ClassId) (dI : Nat → Nat → Nat) (cyI cyZ cyJ cyB cyO : ClassId) (h_kn a_kn_numbers a_kn_slots : Nat) (kn_size : Int32) (kn_numbers : Nat → Int32) (kn_slots : Nat → Int32) (v1 : Int32) (out : Int32) (hp : pX2_has v1 kn_size kn_numbers = some out) : Met l yX2_has wsX2_has ({ frames := 0, cells := 0, slots := 0, locals := 0 } : Room) (px_PR (dC, dI) (px_TY cyI cyZ cyJ cyB cyO) [.ref h_kn, .int v1] (wdX2_has cyI cyZ cyJ cyB cyO h_kn a_kn_numbers a_kn_slots kn_size kn_numbers kn_slots)) (px_QR (.int out)) 0 0 (fun _ => False) := by
  refine Met.ofW (cc := cX2_has) (maxL := 3) (ret := (some .boolean)) (by decide) rfl ?_
  intro p e s m args below meth c s₁ B hml hv
  obtain ⟨rfl, hP, hK, hN⟩ := hv
  have hx := B.exec
  have hb := B.bytes
  have hr := B.returns
  have hts := atoms_spec (ws := wsX2_has) B.pre
  have hown : s.vm.findClass RX2 = some m.cls := findClass_of_methodNamed B.named
  have hlocks := B.notSynchronized
  have hQ : ∀ (pc : Nat) (ls : Array Slot), narrow .boolean (.int out) = .int out → decode cX2_has pc = .ok (.ireturn, 1) → W p l e ({ frames := 0, cells := 0, slots := 0, locals := 0 } : Room) s m (([.ref h_kn, .int v1] : List Value).toArray) below meth c s.heap [] 0 0 (MQ below (px_QR (.int out)) (([.ref h_kn, .int v1] : List Value).toArray) s 0 0 (fun _ => False)) (F0 m pc ls [.int out]) := fun pc ls hz hd => W.zret hx hb hr hz (fun t ht hW => ⟨rfl, ht⟩) (fun q h => by cases h) hd
  generalize MQ below (px_QR (.int out)) (([.ref h_kn, .int v1] : List Value).toArray) s 0 0 (fun _ => False) = Q at hQ ⊢
  have hl := lv_entry [.ref h_kn, .int v1] (n := 3) (Nat.le_of_ble_eq_true rfl)
  rw [lg_entry_eq]
  generalize (lg_sl [.ref h_kn, .int v1] ++ List.replicate (3 - (lg_sl [.ref h_kn, .int v1]).length) Slot.unset).toArray = ls at hl ⊢
  have hl : lv_has ls 3 [(0, .ref h_kn), (1, .int v1)] := hl
  unfold pX2_has at hp
  refine lv_iconst (v := (0 : Int32)) hx hb dX2_has_0 (by decide) ?_
  refine lv_istore_n (lv' := [(2, .int (0 : Int32)), (0, .ref h_kn), (1, .int v1)]) hx hb dX2_has_1 rfl hl (by decide) rfl (fun ls hl => ?_)
  exact lcX2_has_2 dC dI cyI cyZ cyJ cyB cyO h_kn a_kn_numbers a_kn_slots kn_size kn_numbers kn_slots v1 out hx hb hml hts hown hK hN hP hQ px_FU (0 : Int32) ls hp (lv_sub hl [1, 2, 0] rfl)
/-! TagReader$Known.add(I)V -/
theorem hvX2_add : yX2_add.cls = RX2 ∧ yX2_add.cls ≠ "java/lang/invoke/MethodHandle" ∧ yX2_add.cls ≠ "java/lang/invoke/VarHandle" ∧ (parseMethodDescriptor yX2_add.desc).map (fun d => d.parameters.length) = some 1 := by decide +kernel
theorem fX2_add_X2 : ∀ w ∈ u_ws RX2 TX2 3, w ∈ wsX2_add := fun _ h => List.mem_cons_of_mem _ (List.mem_append_right _ h)
theorem kX2_add_1 : (.fieldLink RX2 18 "TagReader$Known" "size" "I" : Cond) ∈ wsX2_add := List.mem_of_getElem? (i := 1) rfl
theorem kX2_add_2 : (.fieldLink RX2 9 "TagReader$Known" "numbers" "[I" : Cond) ∈ wsX2_add := List.mem_of_getElem? (i := 2) rfl
set_option maxHeartbeats 4000000 in
set_option maxRecDepth 100000 in
theorem ccX2_add (l : Launch) (dC : Nat → ClassId) (dI : Nat → Nat → Nat) (cyI cyZ cyJ cyB cyO : ClassId) (sz : Nat) (h_kn a_kn_numbers a_kn_slots : Nat) (kn_size : Int32) (kn_numbers : Nat → Int32) (kn_slots : Nat → Int32) (v1 : Int32) (out : Int32 × (Nat → Int32)) (hp : pX2_add v1 kn_size kn_numbers = some out) : Met l yX2_add wsX2_add ({ frames := 0, cells := 0, slots := 0, locals := 0 } : Room) (px_PW (dC, dI) (px_TY cyI cyZ cyJ cyB cyO) [.ref h_kn, .int v1] (wdX2_add cyI cyZ cyJ cyB cyO h_kn a_kn_numbers a_kn_slots kn_size kn_numbers kn_slots) sz) (px_QW none (dC, dI) (wdX2_add cyI cyZ cyJ cyB cyO h_kn a_kn_numbers a_kn_slots kn_size kn_numbers kn_slots) (wdX2_add cyI cyZ cyJ cyB cyO h_kn a_kn_numbers a_kn_slots out.1 out.2 kn_slots) sz) 0 0 (va_A (wdX2_add cyI cyZ cyJ cyB cyO h_kn a_kn_numbers a_kn_slots kn_size kn_numbers kn_slots) sz) := by
  refine Met.ofW (cc := cX2_add) (maxL := 2) (ret := none) (by decide) rfl ?_
  intro p e s m args below meth c s₁ B hml hv
  obtain ⟨rfl, hsz, hP, hK, hD0, hN⟩ := hv
  have hx := B.exec
  have hb := B.bytes
  have hr := B.returns
  have hts := atoms_spec (ws := wsX2_add) B.pre
  have hown : s.vm.findClass RX2 = some m.cls := findClass_of_methodNamed B.named
  have hlocks := B.notSynchronized
  subst hsz
  have hD := hD0.self (sz := s.heap.size)
  generalize hAe : va_A (wdX2_add cyI cyZ cyJ cyB cyO h_kn a_kn_numbers a_kn_slots kn_size kn_numbers kn_slots) s.heap.size = A at hD ⊢
  have hA : ∀ q : Nat, s.heap.size ≤ q → A q := fun q h => by rw [← hAe]; exact Or.inr h
  have hS : va_S A s.heap s.heap [] := va_S.rf
  have hq := px_QWe (v := none) (D := (dC, dI)) (w1 := (wdX2_add cyI cyZ cyJ cyB cyO h_kn a_kn_numbers a_kn_slots out.1 out.2 kn_slots)) (st := s) hAe
  generalize px_QW none (dC, dI) (wdX2_add cyI cyZ cyJ cyB cyO h_kn a_kn_numbers a_kn_slots kn_size kn_numbers kn_slots) (wdX2_add cyI cyZ cyJ cyB cyO h_kn a_kn_numbers a_kn_slots out.1 out.2 kn_slots) s.heap.size = Qc at hq ⊢
  have hQ : ∀ (H : Heap) (locs : List Loc) (pc : Nat) (ls : Array Slot), va_P (dC, dI) vwCl (wdX2_add cyI cyZ cyJ cyB cyO h_kn a_kn_numbers a_kn_slots out.1 out.2 kn_slots) H → va_D A (wdX2_add cyI cyZ cyJ cyB cyO h_kn a_kn_numbers a_kn_slots out.1 out.2 kn_slots) → va_S A s.heap H locs → decode cX2_add pc = .ok (.return_, 1) → W p l e ({ frames := 0, cells := 0, slots := 0, locals := 0 } : Room) s m (([.ref h_kn, .int v1] : List Value).toArray) below meth c H locs 0 0 (MQ below Qc (([.ref h_kn, .int v1] : List Value).toArray) s 0 0 A) (F0 m pc ls []) := fun H locs pc ls hP hD hS hd => W.vret hx hb hr (fun t ht hW => hq _ t (by rw [ht]; exact hP) hD (hS.F ht)) hS.2.2 hd
  generalize MQ below Qc (([.ref h_kn, .int v1] : List Value).toArray) s 0 0 A = Q at hQ ⊢
  have hl := lv_entry [.ref h_kn, .int v1] (n := 2) (Nat.le_of_ble_eq_true rfl)
  rw [lg_entry_eq]
  generalize (lg_sl [.ref h_kn, .int v1] ++ List.replicate (2 - (lg_sl [.ref h_kn, .int v1]).length) Slot.unset).toArray = ls at hl ⊢
  have hl : lv_has ls 2 [(0, .ref h_kn), (1, .int v1)] := hl
  unfold pX2_add at hp
  refine lv_aload_n hx hb dX2_add_0 rfl (lv_at hl 0 rfl) ?_
  refine va_get (D := (dC, dI)) (ci := 2) (v := .int kn_size) (C := RX2) (T := TX2) (N := 3) hx hb hts fX2_add_X2 hown hK hP 0 rfl rfl 2 (by decide) (hts _ kX2_add_1) (fun _ h9 => h9) rfl dX2_add_1 ?_
  refine lv_bipush (v := (16 : Int32)) hx hb dX2_add_4 (by decide) ?_
  refine lv_icmp_ge (tgt := 29) hx hb dX2_add_6 (by decide) (fun c_1 => ?_) (fun c_1 => ?_)
  · have hp := px_t hp c_1
    have ho := px_s hp
    subst ho
    exact hQ _ _ _ _ hP hD hS dX2_add_29
  · have hp := px_f hp c_1
    refine lv_aload_n hx hb dX2_add_9 rfl (lv_at hl 0 rfl) ?_
    refine va_get (D := (dC, dI)) (ci := 2) (v := .ref a_kn_numbers) (C := RX2) (T := TX2) (N := 3) hx hb hts fX2_add_X2 hown hK hP 0 rfl rfl 0 (by decide) (hts _ kX2_add_2) (fun _ h9 => h9) rfl dX2_add_10 ?_
    refine lv_aload_n hx hb dX2_add_13 rfl (lv_at hl 0 rfl) ?_
    refine va_get (D := (dC, dI)) (ci := 2) (v := .int kn_size) (C := RX2) (T := TX2) (N := 3) hx hb hts fX2_add_X2 hown hK hP 0 rfl rfl 2 (by decide) (hts _ kX2_add_1) (fun _ h9 => h9) rfl dX2_add_14 ?_
    refine lv_iload_n hx hb dX2_add_17 rfl (lv_at hl 1 rfl) ?_
    obtain ⟨g_2, hp⟩ := px_i_at hp
    refine va_iast (D := (dC, dI)) hx hb hK hP hD hS 1 0 rfl rfl g_2 dX2_add_18 (fun H locs hP hD hS => ?_)
    have hP : va_P (dC, dI) vwCl (wdX2_add cyI cyZ cyJ cyB cyO h_kn a_kn_numbers a_kn_slots kn_size (upd kn_numbers (Int32.toNatClampNeg kn_size) v1) kn_slots) H := hP
    have hD : va_D A (wdX2_add cyI cyZ cyJ cyB cyO h_kn a_kn_numbers a_kn_slots kn_size (upd kn_numbers (Int32.toNatClampNeg kn_size) v1) kn_slots) := hD
    refine lv_aload_n hx hb dX2_add_19 rfl (lv_at hl 0 rfl) ?_
    refine lv_dup hx hb dX2_add_20 rfl ?_
    refine va_get (D := (dC, dI)) (ci := 2) (v := .int kn_size) (C := RX2) (T := TX2) (N := 3) hx hb hts fX2_add_X2 hown hK hP 0 rfl rfl 2 (by decide) (hts _ kX2_add_1) (fun _ h9 => h9) rfl dX2_add_21 ?_
    refine lv_iconst (v := (1 : Int32)) hx hb dX2_add_24 (by decide) ?_
    refine lv_iadd hx hb dX2_add_25 ?_
    refine va_put (D := (dC, dI)) (ci := 2) (v := .int (kn_size + (1 : Int32))) (ty := .int) (C := RX2) (T := TX2) (N := 3) hx hb hts fX2_add_X2 tyX2 tyX2_ok nmX2 hown hK hP hD hS 0 rfl rfl 2 (by decide) (hts _ kX2_add_1) (fun _ h9 => h9) rfl (tyX2_ok 2 (by decide)) rfl rfl (Nat.le_of_ble_eq_true rfl) dX2_add_26 (fun H locs hP hD hS => ?_)
    have hP : va_P (dC, dI) vwCl (wdX2_add cyI cyZ cyJ cyB cyO h_kn a_kn_numbers a_kn_slots (kn_size + (1 : Int32)) (upd kn_numbers (Int32.toNatClampNeg kn_size) v1) kn_slots) H := hP
    have hD : va_D A (wdX2_add cyI cyZ cyJ cyB cyO h_kn a_kn_numbers a_kn_slots (kn_size + (1 : Int32)) (upd kn_numbers (Int32.toNatClampNeg kn_size) v1) kn_slots) := hD
    have ho := px_s hp
    subst ho
    exact hQ _ _ _ _ hP hD hS dX2_add_29
/-! TagReader$Known.notIn(III)I -/
theorem hvX2_notIn : yX2_notIn.cls = RX2 ∧ yX2_notIn.cls ≠ "java/lang/invoke/MethodHandle" ∧ yX2_notIn.cls ≠ "java/lang/invoke/VarHandle" ∧ (parseMethodDescriptor yX2_notIn.desc).map (fun d => d.parameters.length) = some 3 := by decide +kernel
theorem fX2_notIn_X2 : ∀ w ∈ u_ws RX2 TX2 3, w ∈ wsX2_notIn := fun _ h => List.mem_cons_of_mem _ (List.mem_append_right _ h)
theorem kX2_notIn_1 : (.fieldLink RX2 18 "TagReader$Known" "size" "I" : Cond) ∈ wsX2_notIn := List.mem_of_getElem? (i := 1) rfl
theorem kX2_notIn_2 : (.fieldLink RX2 9 "TagReader$Known" "numbers" "[I" : Cond) ∈ wsX2_notIn := List.mem_of_getElem? (i := 2) rfl
theorem kX2_notIn_4 : (.initialized RX10 : Cond) ∈ wsX2_notIn := List.mem_of_getElem? (i := 4) rfl
theorem kX2_notIn_3 : (.static yX10_slotOf : Cond) ∈ wsX2_notIn := List.mem_of_getElem? (i := 3) rfl
set_option maxHeartbeats 4000000 in
set_option maxRecDepth 100000 in
theorem lcX2_notIn_6B {p : Program} {l : Launch} {e : Env} {s : State} {m : MethodId} {args : Array Value} {below : List Frame} {meth : Method} {c : Code} {Q : State → Prop} (dC : Nat → ClassId) (dI : Nat → Nat → Nat) (cyI cyZ cyJ cyB cyO : ClassId) (h_kn a_kn_numbers a_kn_slots : Nat) (kn_size : Int32) (kn_numbers : Nat → Int32) (kn_slots : Nat → Int32) (v1 : Int32) (v2 : Int32) (v3 : Int32) (out : Int32) (hx : p.tables.exec = Jvm.exec) (hb : c.code = cX2_notIn) (hml : c.maxLocals = 6) (hts : ∀ w ∈ wsX2_notIn, w.before args s = true) (hown : s.vm.findClass RX2 = some m.cls) (hK : va_K (dC, dI) vwCl (px_TY cyI cyZ cyJ cyB cyO) s) (hN : px_NW s) (hP : va_P (dC, dI) vwCl (wdX2_notIn cyI cyZ cyJ cyB cyO h_kn a_kn_numbers a_kn_slots kn_size kn_numbers kn_slots) s.heap) (hQ : ∀ (pc : Nat) (ls : Array Slot), decode cX2_notIn pc = .ok (.ireturn, 1) → W p l e ({ frames := 1, cells := 0, slots := 0, locals := 23 } : Room) s m args below meth c s.heap [] 0 0 Q (F0 m pc ls [.int out]))  (K_6 : Int32 → Int32 → Option (Int32)) (hK_6 : ∀ (v4 : Int32) (v5 : Int32) (ls : Array Slot), K_6 v4 v5 = some out → lv_has ls 6 [(0, .ref h_kn), (1, .int v1), (2, .int v2), (3, .int v3), (4, .int v4), (5, .int v5)] → W p l e ({ frames := 1, cells := 0, slots := 0, locals := 23 } : Room) s m args below meth c s.heap [] 0 0 Q (F0 m 6 ls [])) : ∀ (v4 : Int32) (v5 : Int32) (ls : Array Slot), pX2_notIn_6B v1 v2 v3 kn_size kn_numbers K_6 v4 v5 = some out → lv_has ls 6 [(0, .ref h_kn), (1, .int v1), (2, .int v2), (3, .int v3), (4, .int v4), (5, .int v5)] → W p l e ({ frames := 1, cells := 0, slots := 0, locals := 23 } : Room) s m args below meth c s.heap [] 0 0 Q (F0 m 6 ls []) := by
  intro v4 v5 ls hp hl
  unfold pX2_notIn_6B at hp
  refine lv_iload hx hb dX2_notIn_6 (lv_at hl 5 rfl) ?_
  refine lv_aload_n hx hb dX2_notIn_8 rfl (lv_at hl 0 rfl) ?_
  refine va_get (D := (dC, dI)) (ci := 2) (v := .int kn_size) (C := RX2) (T := TX2) (N := 3) hx hb hts fX2_notIn_X2 hown hK hP 0 rfl rfl 2 (by decide) (hts _ kX2_notIn_1) (fun _ h9 => h9) rfl dX2_notIn_9 ?_
  refine lv_icmp_ge (tgt := 49) hx hb dX2_notIn_12 (by decide) (fun c_1 => ?_) (fun c_1 => ?_)
  · have hp := px_t hp c_1
    refine lv_iload hx hb dX2_notIn_49 (lv_at hl 4 rfl) ?_
    have ho := px_s hp
    subst ho
    exact hQ _ _ dX2_notIn_51
  · have hp := px_f hp c_1
    refine lv_iload_n hx hb dX2_notIn_15 rfl (lv_at hl 1 rfl) ?_
    refine lv_aload_n hx hb dX2_notIn_16 rfl (lv_at hl 0 rfl) ?_
    refine va_get (D := (dC, dI)) (ci := 2) (v := .ref a_kn_numbers) (C := RX2) (T := TX2) (N := 3) hx hb hts fX2_notIn_X2 hown hK hP 0 rfl rfl 0 (by decide) (hts _ kX2_notIn_2) (fun _ h9 => h9) rfl dX2_notIn_17 ?_
    refine lv_iload hx hb dX2_notIn_20 (lv_at hl 5 rfl) ?_
    obtain ⟨g_2, hp⟩ := px_i_at hp
    refine va_iald (D := (dC, dI)) hx hb hK hP 1 0 rfl rfl g_2 dX2_notIn_22 ?_
    refine lv_iload_n hx hb dX2_notIn_23 rfl (lv_at hl 2 rfl) ?_
    refine lv_iload_n hx hb dX2_notIn_24 rfl (lv_at hl 3 rfl) ?_
    obtain ⟨o_3, ho_3, hp⟩ := px_b_at hp
    refine px_callR (v := .int o_3) (va_runSN (host := RX10) (As := [.int (kn_numbers (Int32.toNatClampNeg v5)), .int v2, .int v3]) (rest := [.int v1]) ⟨hx, hb, hml, hown, hts⟩ (ccX10_slotOf l dC dI cyI cyZ cyJ cyB cyO (kn_numbers (Int32.toNatClampNeg v5)) v2 v3 o_3 ho_3) ⟨va_cnB 3 hts gX2_notIn_X10_slotOf_n22 rfl rfl rfl hN.2.2.2.2.2.2.1 (hts _ kX2_notIn_4) hsX10_slotOf ⟨Nat.le_of_ble_eq_true rfl, Nat.le_of_ble_eq_true rfl⟩, hts _ kX2_notIn_3, trivial⟩ (px_preR (wc := []) hK hN hP [] rfl) rfl rfl hl.1 rfl (lv_room (Nat.le_of_ble_eq_true rfl)) dX2_notIn_25 ⟨Nat.zero_le _, Nat.zero_le _⟩) ?_
    refine lv_ishr hx hb dX2_notIn_28 ?_
    refine lv_iconst (v := (1 : Int32)) hx hb dX2_notIn_29 (by decide) ?_
    refine lv_iand hx hb dX2_notIn_30 ?_
    refine lv_if_ne (tgt := 43) hx hb dX2_notIn_31 (by decide) (fun c_4 => ?_) (fun c_4 => ?_)
    · have hp := px_f hp c_4
      refine lv_iinc (v := (v5 + (1 : Int32))) (lv' := [(5, .int (v5 + (1 : Int32))), (0, .ref h_kn), (1, .int v1), (2, .int v2), (3, .int v3), (4, .int v4)]) hx hb dX2_notIn_43 hl (k := 5) rfl rfl (by decide) rfl (fun ls hl => ?_)
      refine lv_goto (tgt := 6) hx hb dX2_notIn_46 (by decide) ?_
      exact hK_6 v4 (v5 + (1 : Int32)) ls hp (lv_sub hl [1, 2, 3, 4, 5, 0] rfl)
    · have hp := px_t hp c_4
      refine lv_iload hx hb dX2_notIn_34 (lv_at hl 4 rfl) ?_
      refine lv_iconst (v := (1 : Int32)) hx hb dX2_notIn_36 (by decide) ?_
      refine lv_iload hx hb dX2_notIn_37 (lv_at hl 5 rfl) ?_
      refine lv_ishl hx hb dX2_notIn_39 ?_
      refine lv_ior hx hb dX2_notIn_40 ?_
      refine lv_istore (lv' := [(4, .int (v4 ||| ((1 : Int32) <<< (v5 &&& (31 : Int32))))), (0, .ref h_kn), (1, .int v1), (2, .int v2), (3, .int v3), (5, .int v5)]) hx hb dX2_notIn_41 hl (by decide) rfl (fun ls hl => ?_)
      refine lv_iinc (v := (v5 + (1 : Int32))) (lv' := [(5, .int (v5 + (1 : Int32))), (4, .int (v4 ||| ((1 : Int32) <<< (v5 &&& (31 : Int32))))), (0, .ref h_kn), (1, .int v1), (2, .int v2), (3, .int v3)]) hx hb dX2_notIn_43 hl (k := 5) rfl rfl (by decide) rfl (fun ls hl => ?_)
      refine lv_goto (tgt := 6) hx hb dX2_notIn_46 (by decide) ?_
      exact hK_6 (v4 ||| ((1 : Int32) <<< (v5 &&& (31 : Int32)))) (v5 + (1 : Int32)) ls hp (lv_sub hl [2, 3, 4, 5, 1, 0] rfl)
theorem lcX2_notIn_6 {p : Program} {l : Launch} {e : Env} {s : State} {m : MethodId} {args : Array Value} {below : List Frame} {meth : Method} {c : Code} {Q : State → Prop} (dC : Nat → ClassId) (dI : Nat → Nat → Nat) (cyI cyZ cyJ cyB cyO : ClassId) (h_kn a_kn_numbers a_kn_slots : Nat) (kn_size : Int32) (kn_numbers : Nat → Int32) (kn_slots : Nat → Int32) (v1 : Int32) (v2 : Int32) (v3 : Int32) (out : Int32) (hx : p.tables.exec = Jvm.exec) (hb : c.code = cX2_notIn) (hml : c.maxLocals = 6) (hts : ∀ w ∈ wsX2_notIn, w.before args s = true) (hown : s.vm.findClass RX2 = some m.cls) (hK : va_K (dC, dI) vwCl (px_TY cyI cyZ cyJ cyB cyO) s) (hN : px_NW s) (hP : va_P (dC, dI) vwCl (wdX2_notIn cyI cyZ cyJ cyB cyO h_kn a_kn_numbers a_kn_slots kn_size kn_numbers kn_slots) s.heap) (hQ : ∀ (pc : Nat) (ls : Array Slot), decode cX2_notIn pc = .ok (.ireturn, 1) → W p l e ({ frames := 1, cells := 0, slots := 0, locals := 23 } : Room) s m args below meth c s.heap [] 0 0 Q (F0 m pc ls [.int out]))  : ∀ n : Nat, ∀ (v4 : Int32) (v5 : Int32) (ls : Array Slot), pX2_notIn_6 v1 v2 v3 kn_size kn_numbers n v4 v5 = some out → lv_has ls 6 [(0, .ref h_kn), (1, .int v1), (2, .int v2), (3, .int v3), (4, .int v4), (5, .int v5)] → W p l e ({ frames := 1, cells := 0, slots := 0, locals := 23 } : Room) s m args below meth c s.heap [] 0 0 Q (F0 m 6 ls []) := by
  intro n
  induction n with
  | zero =>
    intro v4 v5 ls hp hl
    exact nomatch hp
  | succ n ih => exact lcX2_notIn_6B dC dI cyI cyZ cyJ cyB cyO h_kn a_kn_numbers a_kn_slots kn_size kn_numbers kn_slots v1 v2 v3 out hx hb hml hts hown hK hN hP hQ (pX2_notIn_6 v1 v2 v3 kn_size kn_numbers n) ih
set_option maxHeartbeats 4000000 in
set_option maxRecDepth 100000 in
theorem ccX2_notIn (l : Launch) (dC : Nat → ClassId) (dI : Nat → Nat → Nat) (cyI cyZ cyJ cyB cyO : ClassId) (h_kn a_kn_numbers a_kn_slots : Nat) (kn_size : Int32) (kn_numbers : Nat → Int32) (kn_slots : Nat → Int32) (v1 : Int32) (v2 : Int32) (v3 : Int32) (out : Int32) (hp : pX2_notIn v1 v2 v3 kn_size kn_numbers = some out) : Met l yX2_notIn wsX2_notIn ({ frames := 1, cells := 0, slots := 0, locals := 23 } : Room) (px_PR (dC, dI) (px_TY cyI cyZ cyJ cyB cyO) [.ref h_kn, .int v1, .int v2, .int v3] (wdX2_notIn cyI cyZ cyJ cyB cyO h_kn a_kn_numbers a_kn_slots kn_size kn_numbers kn_slots)) (px_QR (.int out)) 0 0 (fun _ => False) := by
  refine Met.ofW (cc := cX2_notIn) (maxL := 6) (ret := (some .int)) (by decide) rfl ?_
  intro p e s m args below meth c s₁ B hml hv
  obtain ⟨rfl, hP, hK, hN⟩ := hv
  have hx := B.exec
  have hb := B.bytes
  have hr := B.returns
  have hts := atoms_spec (ws := wsX2_notIn) B.pre
  have hown : s.vm.findClass RX2 = some m.cls := findClass_of_methodNamed B.named
  have hlocks := B.notSynchronized
  have hQ : ∀ (pc : Nat) (ls : Array Slot), decode cX2_notIn pc = .ok (.ireturn, 1) → W p l e ({ frames := 1, cells := 0, slots := 0, locals := 23 } : Room) s m (([.ref h_kn, .int v1, .int v2, .int v3] : List Value).toArray) below meth c s.heap [] 0 0 (MQ below (px_QR (.int out)) (([.ref h_kn, .int v1, .int v2, .int v3] : List Value).toArray) s 0 0 (fun _ => False)) (F0 m pc ls [.int out]) := fun pc ls hd => W.iret hx hb hr (fun t ht hW => ⟨rfl, ht⟩) (fun q h => by cases h) hd
  generalize MQ below (px_QR (.int out)) (([.ref h_kn, .int v1, .int v2, .int v3] : List Value).toArray) s 0 0 (fun _ => False) = Q at hQ ⊢
  have hl := lv_entry [.ref h_kn, .int v1, .int v2, .int v3] (n := 6) (Nat.le_of_ble_eq_true rfl)
  rw [lg_entry_eq]
  generalize (lg_sl [.ref h_kn, .int v1, .int v2, .int v3] ++ List.replicate (6 - (lg_sl [.ref h_kn, .int v1, .int v2, .int v3]).length) Slot.unset).toArray = ls at hl ⊢
  have hl : lv_has ls 6 [(0, .ref h_kn), (1, .int v1), (2, .int v2), (3, .int v3)] := hl
  unfold pX2_notIn at hp
  refine lv_iconst (v := (0 : Int32)) hx hb dX2_notIn_0 (by decide) ?_
  refine lv_istore (lv' := [(4, .int (0 : Int32)), (0, .ref h_kn), (1, .int v1), (2, .int v2), (3, .int v3)]) hx hb dX2_notIn_1 hl (by decide) rfl (fun ls hl => ?_)
  refine lv_iconst (v := (0 : Int32)) hx hb dX2_notIn_3 (by decide) ?_
  refine lv_istore (lv' := [(5, .int (0 : Int32)), (4, .int (0 : Int32)), (0, .ref h_kn), (1, .int v1), (2, .int v2), (3, .int v3)]) hx hb dX2_notIn_4 hl (by decide) rfl (fun ls hl => ?_)
  exact lcX2_notIn_6 dC dI cyI cyZ cyJ cyB cyO h_kn a_kn_numbers a_kn_slots kn_size kn_numbers kn_slots v1 v2 v3 out hx hb hml hts hown hK hN hP hQ px_FU (0 : Int32) (0 : Int32) ls hp (lv_sub hl [2, 3, 4, 5, 1, 0] rfl)
/-! TagReader$Known.isAlone(I)Z -/
theorem hvX2_isAlone : yX2_isAlone.cls = RX2 ∧ yX2_isAlone.cls ≠ "java/lang/invoke/MethodHandle" ∧ yX2_isAlone.cls ≠ "java/lang/invoke/VarHandle" ∧ (parseMethodDescriptor yX2_isAlone.desc).map (fun d => d.parameters.length) = some 1 := by decide +kernel
theorem fX2_isAlone_X2 : ∀ w ∈ u_ws RX2 TX2 3, w ∈ wsX2_isAlone := fun _ h => List.mem_cons_of_mem _ (List.mem_append_right _ h)
theorem kX2_isAlone_1 : (.fieldLink RX2 18 "TagReader$Known" "size" "I" : Cond) ∈ wsX2_isAlone := List.mem_of_getElem? (i := 1) rfl
theorem kX2_isAlone_2 : (.fieldLink RX2 15 "TagReader$Known" "slots" "[I" : Cond) ∈ wsX2_isAlone := List.mem_of_getElem? (i := 2) rfl
set_option maxHeartbeats 4000000 in
set_option maxRecDepth 100000 in
theorem lcX2_isAlone_2B {p : Program} {l : Launch} {e : Env} {s : State} {m : MethodId} {args : Array Value} {below : List Frame} {meth : Method} {c : Code} {Q : State → Prop} (dC : Nat → ClassId) (dI : Nat → Nat → Nat) (cyI cyZ cyJ cyB cyO : ClassId) (h_kn a_kn_numbers a_kn_slots : Nat) (kn_size : Int32) (kn_numbers : Nat → Int32) (kn_slots : Nat → Int32) (v1 : Int32) (out : Int32) (hx : p.tables.exec = Jvm.exec) (hb : c.code = cX2_isAlone) (hml : c.maxLocals = 3) (hts : ∀ w ∈ wsX2_isAlone, w.before args s = true) (hown : s.vm.findClass RX2 = some m.cls) (hK : va_K (dC, dI) vwCl (px_TY cyI cyZ cyJ cyB cyO) s) (hN : px_NW s) (hP : va_P (dC, dI) vwCl (wdX2_isAlone cyI cyZ cyJ cyB cyO h_kn a_kn_numbers a_kn_slots kn_size kn_numbers kn_slots) s.heap) (hQ : ∀ (pc : Nat) (ls : Array Slot), narrow .boolean (.int out) = .int out → decode cX2_isAlone pc = .ok (.ireturn, 1) → W p l e ({ frames := 0, cells := 0, slots := 0, locals := 0 } : Room) s m args below meth c s.heap [] 0 0 Q (F0 m pc ls [.int out]))  (K_2 : Int32 → Option (Int32)) (hK_2 : ∀ (v2 : Int32) (ls : Array Slot), K_2 v2 = some out → lv_has ls 3 [(0, .ref h_kn), (1, .int v1), (2, .int v2)] → W p l e ({ frames := 0, cells := 0, slots := 0, locals := 0 } : Room) s m args below meth c s.heap [] 0 0 Q (F0 m 2 ls [])) : ∀ (v2 : Int32) (ls : Array Slot), pX2_isAlone_2B v1 kn_size kn_slots K_2 v2 = some out → lv_has ls 3 [(0, .ref h_kn), (1, .int v1), (2, .int v2)] → W p l e ({ frames := 0, cells := 0, slots := 0, locals := 0 } : Room) s m args below meth c s.heap [] 0 0 Q (F0 m 2 ls []) := by
  intro v2 ls hp hl
  unfold pX2_isAlone_2B at hp
  refine lv_iload_n hx hb dX2_isAlone_2 rfl (lv_at hl 2 rfl) ?_
  refine lv_aload_n hx hb dX2_isAlone_3 rfl (lv_at hl 0 rfl) ?_
  refine va_get (D := (dC, dI)) (ci := 2) (v := .int kn_size) (C := RX2) (T := TX2) (N := 3) hx hb hts fX2_isAlone_X2 hown hK hP 0 rfl rfl 2 (by decide) (hts _ kX2_isAlone_1) (fun _ h9 => h9) rfl dX2_isAlone_4 ?_
  refine lv_icmp_ge (tgt := 38) hx hb dX2_isAlone_7 (by decide) (fun c_1 => ?_) (fun c_1 => ?_)
  · have hp := px_t hp c_1
    refine lv_iconst (v := (1 : Int32)) hx hb dX2_isAlone_38 (by decide) ?_
    have ho := px_s hp
    subst ho
    exact hQ _ _ narrow_b1 dX2_isAlone_39
  · have hp := px_f hp c_1
    refine lv_iload_n hx hb dX2_isAlone_10 rfl (lv_at hl 2 rfl) ?_
    refine lv_iload_n hx hb dX2_isAlone_11 rfl (lv_at hl 1 rfl) ?_
    refine lv_icmp_eq (tgt := 32) hx hb dX2_isAlone_12 (by decide) (fun c_2 => ?_) (fun c_2 => ?_)
    · have hp := px_t hp c_2
      refine lv_iinc (v := (v2 + (1 : Int32))) (lv' := [(2, .int (v2 + (1 : Int32))), (0, .ref h_kn), (1, .int v1)]) hx hb dX2_isAlone_32 hl (k := 2) rfl rfl (by decide) rfl (fun ls hl => ?_)
      refine lv_goto (tgt := 2) hx hb dX2_isAlone_35 (by decide) ?_
      exact hK_2 (v2 + (1 : Int32)) ls hp (lv_sub hl [1, 2, 0] rfl)
    · have hp := px_f hp c_2
      refine lv_aload_n hx hb dX2_isAlone_15 rfl (lv_at hl 0 rfl) ?_
      refine va_get (D := (dC, dI)) (ci := 2) (v := .ref a_kn_slots) (C := RX2) (T := TX2) (N := 3) hx hb hts fX2_isAlone_X2 hown hK hP 0 rfl rfl 1 (by decide) (hts _ kX2_isAlone_2) (fun _ h9 => h9) rfl dX2_isAlone_16 ?_
      refine lv_iload_n hx hb dX2_isAlone_19 rfl (lv_at hl 2 rfl) ?_
      obtain ⟨g_3, hp⟩ := px_i_at hp
      refine va_iald (D := (dC, dI)) hx hb hK hP 2 0 rfl rfl g_3 dX2_isAlone_20 ?_
      refine lv_aload_n hx hb dX2_isAlone_21 rfl (lv_at hl 0 rfl) ?_
      refine va_get (D := (dC, dI)) (ci := 2) (v := .ref a_kn_slots) (C := RX2) (T := TX2) (N := 3) hx hb hts fX2_isAlone_X2 hown hK hP 0 rfl rfl 1 (by decide) (hts _ kX2_isAlone_2) (fun _ h9 => h9) rfl dX2_isAlone_22 ?_
      refine lv_iload_n hx hb dX2_isAlone_25 rfl (lv_at hl 1 rfl) ?_
      obtain ⟨g_4, hp⟩ := px_i_at hp
      refine va_iald (D := (dC, dI)) hx hb hK hP 2 0 rfl rfl g_4 dX2_isAlone_26 ?_
      refine lv_icmp_ne (tgt := 32) hx hb dX2_isAlone_27 (by decide) (fun c_5 => ?_) (fun c_5 => ?_)
      · have hp := px_f hp c_5
        refine lv_iinc (v := (v2 + (1 : Int32))) (lv' := [(2, .int (v2 + (1 : Int32))), (0, .ref h_kn), (1, .int v1)]) hx hb dX2_isAlone_32 hl (k := 2) rfl rfl (by decide) rfl (fun ls hl => ?_)
        refine lv_goto (tgt := 2) hx hb dX2_isAlone_35 (by decide) ?_
        exact hK_2 (v2 + (1 : Int32)) ls hp (lv_sub hl [1, 2, 0] rfl)
      · have hp := px_t hp c_5
        refine lv_iconst (v := (0 : Int32)) hx hb dX2_isAlone_30 (by decide) ?_
        have ho := px_s hp
        subst ho
        exact hQ _ _ narrow_b0 dX2_isAlone_31
theorem lcX2_isAlone_2 {p : Program} {l : Launch} {e : Env} {s : State} {m : MethodId} {args : Array Value} {below : List Frame} {meth : Method} {c : Code} {Q : State → Prop} (dC : Nat → ClassId) (dI : Nat → Nat → Nat) (cyI cyZ cyJ cyB cyO : ClassId) (h_kn a_kn_numbers a_kn_slots : Nat) (kn_size : Int32) (kn_numbers : Nat → Int32) (kn_slots : Nat → Int32) (v1 : Int32) (out : Int32) (hx : p.tables.exec = Jvm.exec) (hb : c.code = cX2_isAlone) (hml : c.maxLocals = 3) (hts : ∀ w ∈ wsX2_isAlone, w.before args s = true) (hown : s.vm.findClass RX2 = some m.cls) (hK : va_K (dC, dI) vwCl (px_TY cyI cyZ cyJ cyB cyO) s) (hN : px_NW s) (hP : va_P (dC, dI) vwCl (wdX2_isAlone cyI cyZ cyJ cyB cyO h_kn a_kn_numbers a_kn_slots kn_size kn_numbers kn_slots) s.heap) (hQ : ∀ (pc : Nat) (ls : Array Slot), narrow .boolean (.int out) = .int out → decode cX2_isAlone pc = .ok (.ireturn, 1) → W p l e ({ frames := 0, cells := 0, slots := 0, locals := 0 } : Room) s m args below meth c s.heap [] 0 0 Q (F0 m pc ls [.int out]))  : ∀ n : Nat, ∀ (v2 : Int32) (ls : Array Slot), pX2_isAlone_2 v1 kn_size kn_slots n v2 = some out → lv_has ls 3 [(0, .ref h_kn), (1, .int v1), (2, .int v2)] → W p l e ({ frames := 0, cells := 0, slots := 0, locals := 0 } : Room) s m args below meth c s.heap [] 0 0 Q (F0 m 2 ls []) := by
  intro n
  induction n with
  | zero =>
    intro v2 ls hp hl
    exact nomatch hp
  | succ n ih => exact lcX2_isAlone_2B dC dI cyI cyZ cyJ cyB cyO h_kn a_kn_numbers a_kn_slots kn_size kn_numbers kn_slots v1 out hx hb hml hts hown hK hN hP hQ (pX2_isAlone_2 v1 kn_size kn_slots n) ih
set_option maxHeartbeats 4000000 in
set_option maxRecDepth 100000 in
theorem ccX2_isAlone (l : Launch) (dC : Nat → ClassId) (dI : Nat → Nat → Nat) (cyI cyZ cyJ cyB cyO : ClassId) (h_kn a_kn_numbers a_kn_slots : Nat) (kn_size : Int32) (kn_numbers : Nat → Int32) (kn_slots : Nat → Int32) (v1 : Int32) (out : Int32) (hp : pX2_isAlone v1 kn_size kn_slots = some out) : Met l yX2_isAlone wsX2_isAlone ({ frames := 0, cells := 0, slots := 0, locals := 0 } : Room) (px_PR (dC, dI) (px_TY cyI cyZ cyJ cyB cyO) [.ref h_kn, .int v1] (wdX2_isAlone cyI cyZ cyJ cyB cyO h_kn a_kn_numbers a_kn_slots kn_size kn_numbers kn_slots)) (px_QR (.int out)) 0 0 (fun _ => False) := by
  refine Met.ofW (cc := cX2_isAlone) (maxL := 3) (ret := (some .boolean)) (by decide) rfl ?_
  intro p e s m args below meth c s₁ B hml hv
  obtain ⟨rfl, hP, hK, hN⟩ := hv
  have hx := B.exec
  have hb := B.bytes
  have hr := B.returns
  have hts := atoms_spec (ws := wsX2_isAlone) B.pre
  have hown : s.vm.findClass RX2 = some m.cls := findClass_of_methodNamed B.named
  have hlocks := B.notSynchronized
  have hQ : ∀ (pc : Nat) (ls : Array Slot), narrow .boolean (.int out) = .int out → decode cX2_isAlone pc = .ok (.ireturn, 1) → W p l e ({ frames := 0, cells := 0, slots := 0, locals := 0 } : Room) s m (([.ref h_kn, .int v1] : List Value).toArray) below meth c s.heap [] 0 0 (MQ below (px_QR (.int out)) (([.ref h_kn, .int v1] : List Value).toArray) s 0 0 (fun _ => False)) (F0 m pc ls [.int out]) := fun pc ls hz hd => W.zret hx hb hr hz (fun t ht hW => ⟨rfl, ht⟩) (fun q h => by cases h) hd
  generalize MQ below (px_QR (.int out)) (([.ref h_kn, .int v1] : List Value).toArray) s 0 0 (fun _ => False) = Q at hQ ⊢
  have hl := lv_entry [.ref h_kn, .int v1] (n := 3) (Nat.le_of_ble_eq_true rfl)
  rw [lg_entry_eq]
  generalize (lg_sl [.ref h_kn, .int v1] ++ List.replicate (3 - (lg_sl [.ref h_kn, .int v1]).length) Slot.unset).toArray = ls at hl ⊢
  have hl : lv_has ls 3 [(0, .ref h_kn), (1, .int v1)] := hl
  unfold pX2_isAlone at hp
  refine lv_iconst (v := (0 : Int32)) hx hb dX2_isAlone_0 (by decide) ?_
  refine lv_istore_n (lv' := [(2, .int (0 : Int32)), (0, .ref h_kn), (1, .int v1)]) hx hb dX2_isAlone_1 rfl hl (by decide) rfl (fun ls hl => ?_)
  exact lcX2_isAlone_2 dC dI cyI cyZ cyJ cyB cyO h_kn a_kn_numbers a_kn_slots kn_size kn_numbers kn_slots v1 out hx hb hml hts hown hK hN hP hQ px_FU (0 : Int32) ls hp (lv_sub hl [1, 2, 0] rfl)
/-! TagReader$Known.aloneOnes(II)I -/
theorem hvX2_aloneOnes : yX2_aloneOnes.cls = RX2 ∧ yX2_aloneOnes.cls ≠ "java/lang/invoke/MethodHandle" ∧ yX2_aloneOnes.cls ≠ "java/lang/invoke/VarHandle" ∧ (parseMethodDescriptor yX2_aloneOnes.desc).map (fun d => d.parameters.length) = some 2 := by decide +kernel
theorem fX2_aloneOnes_X2 : ∀ w ∈ u_ws RX2 TX2 3, w ∈ wsX2_aloneOnes := fun _ h => List.mem_cons_of_mem _ (List.mem_append_right _ h)
theorem kX2_aloneOnes_1 : (.fieldLink RX2 18 "TagReader$Known" "size" "I" : Cond) ∈ wsX2_aloneOnes := List.mem_of_getElem? (i := 1) rfl
theorem kX2_aloneOnes_2 : (.fieldLink RX2 15 "TagReader$Known" "slots" "[I" : Cond) ∈ wsX2_aloneOnes := List.mem_of_getElem? (i := 2) rfl
theorem kX2_aloneOnes_3 : (.fieldLink RX2 9 "TagReader$Known" "numbers" "[I" : Cond) ∈ wsX2_aloneOnes := List.mem_of_getElem? (i := 3) rfl
theorem kX2_aloneOnes_5 : (.initialized RX10 : Cond) ∈ wsX2_aloneOnes := List.mem_of_getElem? (i := 5) rfl
theorem kX2_aloneOnes_4 : (.static yX10_slotOf : Cond) ∈ wsX2_aloneOnes := List.mem_of_getElem? (i := 4) rfl
set_option maxHeartbeats 4000000 in
set_option maxRecDepth 100000 in
theorem lcX2_aloneOnes_38B {p : Program} {l : Launch} {e : Env} {s : State} {m : MethodId} {args : Array Value} {below : List Frame} {meth : Method} {c : Code} {Q : State → Prop} {A : Nat → Prop} (dC : Nat → ClassId) (dI : Nat → Nat → Nat) (cyI cyZ cyJ cyB cyO : ClassId) (h_kn a_kn_numbers a_kn_slots : Nat) (kn_size : Int32) (kn_numbers : Nat → Int32) (kn_slots : Nat → Int32) (v1 : Int32) (v2 : Int32) (out : Int32 × (Nat → Int32)) (hx : p.tables.exec = Jvm.exec) (hb : c.code = cX2_aloneOnes) (hml : c.maxLocals = 5) (hts : ∀ w ∈ wsX2_aloneOnes, w.before args s = true) (hown : s.vm.findClass RX2 = some m.cls) (hK : va_K (dC, dI) vwCl (px_TY cyI cyZ cyJ cyB cyO) s) (hN : px_NW s) (hA : ∀ q : Nat, s.heap.size ≤ q → A q) (hQ : ∀ (H : Heap) (locs : List Loc) (pc : Nat) (ls : Array Slot), va_P (dC, dI) vwCl (wdX2_aloneOnes cyI cyZ cyJ cyB cyO h_kn a_kn_numbers a_kn_slots kn_size kn_numbers out.2) H → va_D A (wdX2_aloneOnes cyI cyZ cyJ cyB cyO h_kn a_kn_numbers a_kn_slots kn_size kn_numbers out.2) → va_S A s.heap H locs → decode cX2_aloneOnes pc = .ok (.ireturn, 1) → W p l e ({ frames := 1, cells := 0, slots := 0, locals := 23 } : Room) s m args below meth c H locs 0 0 Q (F0 m pc ls [.int out.1]))  (K_38 : Int32 → Int32 → (Nat → Int32) → Option (Int32 × (Nat → Int32))) (hK_38 : ∀ (v3 : Int32) (v4 : Int32) (kn_slots : Nat → Int32) (H : Heap) (locs : List Loc) (ls : Array Slot), K_38 v3 v4 kn_slots = some out → va_P (dC, dI) vwCl (wdX2_aloneOnes cyI cyZ cyJ cyB cyO h_kn a_kn_numbers a_kn_slots kn_size kn_numbers kn_slots) H → va_D A (wdX2_aloneOnes cyI cyZ cyJ cyB cyO h_kn a_kn_numbers a_kn_slots kn_size kn_numbers kn_slots) → va_S A s.heap H locs → lv_has ls 5 [(0, .ref h_kn), (3, .int v3), (4, .int v4)] → W p l e ({ frames := 1, cells := 0, slots := 0, locals := 23 } : Room) s m args below meth c H locs 0 0 Q (F0 m 38 ls [])) : ∀ (v3 : Int32) (v4 : Int32) (kn_slots : Nat → Int32) (H : Heap) (locs : List Loc) (ls : Array Slot), pX2_aloneOnes_38B v1 v2 kn_size kn_numbers K_38 v3 v4 kn_slots = some out → va_P (dC, dI) vwCl (wdX2_aloneOnes cyI cyZ cyJ cyB cyO h_kn a_kn_numbers a_kn_slots kn_size kn_numbers kn_slots) H → va_D A (wdX2_aloneOnes cyI cyZ cyJ cyB cyO h_kn a_kn_numbers a_kn_slots kn_size kn_numbers kn_slots) → va_S A s.heap H locs → lv_has ls 5 [(0, .ref h_kn), (3, .int v3), (4, .int v4)] → W p l e ({ frames := 1, cells := 0, slots := 0, locals := 23 } : Room) s m args below meth c H locs 0 0 Q (F0 m 38 ls []) := by
  intro v3 v4 kn_slots H locs ls hp hP hD hS hl
  unfold pX2_aloneOnes_38B at hp
  refine lv_iload hx hb dX2_aloneOnes_38 (lv_at hl 2 rfl) ?_
  refine lv_aload_n hx hb dX2_aloneOnes_40 rfl (lv_at hl 0 rfl) ?_
  refine va_get (D := (dC, dI)) (ci := 2) (v := .int kn_size) (C := RX2) (T := TX2) (N := 3) hx hb hts fX2_aloneOnes_X2 hown hK hP 0 rfl rfl 2 (by decide) (hts _ kX2_aloneOnes_1) (fun _ h9 => h9) rfl dX2_aloneOnes_41 ?_
  refine lv_icmp_ge (tgt := 69) hx hb dX2_aloneOnes_44 (by decide) (fun c_2 => ?_) (fun c_2 => ?_)
  · have hp := px_t hp c_2
    refine lv_iload_n hx hb dX2_aloneOnes_69 rfl (lv_at hl 1 rfl) ?_
    have ho := px_s hp
    subst ho
    exact hQ _ _ _ _ hP hD hS dX2_aloneOnes_70
  · have hp := px_f hp c_2
    refine lv_aload_n hx hb dX2_aloneOnes_47 rfl (lv_at hl 0 rfl) ?_
    refine lv_iload hx hb dX2_aloneOnes_48 (lv_at hl 2 rfl) ?_
    obtain ⟨o_3, ho_3, hp⟩ := px_b_at hp
    refine px_callR (v := .int o_3) (va_runV (As := [.int v4]) (rest := []) ⟨hx, hb, hml, hown, hts⟩ (ccX2_isAlone l dC dI cyI cyZ cyJ cyB cyO h_kn a_kn_numbers a_kn_slots kn_size kn_numbers kn_slots v4 o_3 ho_3) (cwV 1 hts gX2_aloneOnes_X2_isAlone rfl rfl rfl hvX2_isAlone ⟨Nat.le_of_ble_eq_true rfl, Nat.le_of_ble_eq_true rfl⟩) (px_preRV (wc := (wdX2_isAlone cyI cyZ cyJ cyB cyO h_kn a_kn_numbers a_kn_slots kn_size kn_numbers kn_slots)) (ci := 2) (q0 := 0) hK hN hP [0, 1, 2] rfl rfl rfl) rfl rfl hl.1 rfl (lv_room (Nat.le_of_ble_eq_true rfl)) dX2_aloneOnes_50 ⟨Nat.zero_le _, Nat.zero_le _⟩) ?_
    refine lv_if_eq (tgt := 63) hx hb dX2_aloneOnes_53 (by decide) (fun c_4 => ?_) (fun c_4 => ?_)
    · have hp := px_t hp c_4
      refine lv_iinc (v := (v4 + (1 : Int32))) (lv' := [(4, .int (v4 + (1 : Int32))), (0, .ref h_kn), (3, .int v3)]) hx hb dX2_aloneOnes_63 hl (k := 2) rfl rfl (by decide) rfl (fun ls hl => ?_)
      refine lv_goto (tgt := 38) hx hb dX2_aloneOnes_66 (by decide) ?_
      exact hK_38 v3 (v4 + (1 : Int32)) kn_slots _ _ ls hp hP hD hS (lv_sub hl [1, 2, 0] rfl)
    · have hp := px_f hp c_4
      refine lv_iload_n hx hb dX2_aloneOnes_56 rfl (lv_at hl 1 rfl) ?_
      refine lv_iconst (v := (1 : Int32)) hx hb dX2_aloneOnes_57 (by decide) ?_
      refine lv_iload hx hb dX2_aloneOnes_58 (lv_at hl 2 rfl) ?_
      refine lv_ishl hx hb dX2_aloneOnes_60 ?_
      refine lv_ior hx hb dX2_aloneOnes_61 ?_
      refine lv_istore_n (lv' := [(3, .int (v3 ||| ((1 : Int32) <<< (v4 &&& (31 : Int32))))), (0, .ref h_kn), (4, .int v4)]) hx hb dX2_aloneOnes_62 rfl hl (by decide) rfl (fun ls hl => ?_)
      refine lv_iinc (v := (v4 + (1 : Int32))) (lv' := [(4, .int (v4 + (1 : Int32))), (3, .int (v3 ||| ((1 : Int32) <<< (v4 &&& (31 : Int32))))), (0, .ref h_kn)]) hx hb dX2_aloneOnes_63 hl (k := 2) rfl rfl (by decide) rfl (fun ls hl => ?_)
      refine lv_goto (tgt := 38) hx hb dX2_aloneOnes_66 (by decide) ?_
      exact hK_38 (v3 ||| ((1 : Int32) <<< (v4 &&& (31 : Int32)))) (v4 + (1 : Int32)) kn_slots _ _ ls hp hP hD hS (lv_sub hl [2, 1, 0] rfl)
theorem lcX2_aloneOnes_38 {p : Program} {l : Launch} {e : Env} {s : State} {m : MethodId} {args : Array Value} {below : List Frame} {meth : Method} {c : Code} {Q : State → Prop} {A : Nat → Prop} (dC : Nat → ClassId) (dI : Nat → Nat → Nat) (cyI cyZ cyJ cyB cyO : ClassId) (h_kn a_kn_numbers a_kn_slots : Nat) (kn_size : Int32) (kn_numbers : Nat → Int32) (kn_slots : Nat → Int32) (v1 : Int32) (v2 : Int32) (out : Int32 × (Nat → Int32)) (hx : p.tables.exec = Jvm.exec) (hb : c.code = cX2_aloneOnes) (hml : c.maxLocals = 5) (hts : ∀ w ∈ wsX2_aloneOnes, w.before args s = true) (hown : s.vm.findClass RX2 = some m.cls) (hK : va_K (dC, dI) vwCl (px_TY cyI cyZ cyJ cyB cyO) s) (hN : px_NW s) (hA : ∀ q : Nat, s.heap.size ≤ q → A q) (hQ : ∀ (H : Heap) (locs : List Loc) (pc : Nat) (ls : Array Slot), va_P (dC, dI) vwCl (wdX2_aloneOnes cyI cyZ cyJ cyB cyO h_kn a_kn_numbers a_kn_slots kn_size kn_numbers out.2) H → va_D A (wdX2_aloneOnes cyI cyZ cyJ cyB cyO h_kn a_kn_numbers a_kn_slots kn_size kn_numbers out.2) → va_S A s.heap H locs → decode cX2_aloneOnes pc = .ok (.ireturn, 1) → W p l e ({ frames := 1, cells := 0, slots := 0, locals := 23 } : Room) s m args below meth c H locs 0 0 Q (F0 m pc ls [.int out.1]))  : ∀ n : Nat, ∀ (v3 : Int32) (v4 : Int32) (kn_slots : Nat → Int32) (H : Heap) (locs : List Loc) (ls : Array Slot), pX2_aloneOnes_38 v1 v2 kn_size kn_numbers n v3 v4 kn_slots = some out → va_P (dC, dI) vwCl (wdX2_aloneOnes cyI cyZ cyJ cyB cyO h_kn a_kn_numbers a_kn_slots kn_size kn_numbers kn_slots) H → va_D A (wdX2_aloneOnes cyI cyZ cyJ cyB cyO h_kn a_kn_numbers a_kn_slots kn_size kn_numbers kn_slots) → va_S A s.heap H locs → lv_has ls 5 [(0, .ref h_kn), (3, .int v3), (4, .int v4)] → W p l e ({ frames := 1, cells := 0, slots := 0, locals := 23 } : Room) s m args below meth c H locs 0 0 Q (F0 m 38 ls []) := by
  intro n
  induction n with
  | zero =>
    intro v3 v4 kn_slots H locs ls hp hP hD hS hl
    exact nomatch hp
  | succ n ih => exact lcX2_aloneOnes_38B dC dI cyI cyZ cyJ cyB cyO h_kn a_kn_numbers a_kn_slots kn_size kn_numbers kn_slots v1 v2 out hx hb hml hts hown hK hN hA hQ (pX2_aloneOnes_38 v1 v2 kn_size kn_numbers n) ih
set_option maxHeartbeats 4000000 in
set_option maxRecDepth 100000 in
theorem lcX2_aloneOnes_2B {p : Program} {l : Launch} {e : Env} {s : State} {m : MethodId} {args : Array Value} {below : List Frame} {meth : Method} {c : Code} {Q : State → Prop} {A : Nat → Prop} (dC : Nat → ClassId) (dI : Nat → Nat → Nat) (cyI cyZ cyJ cyB cyO : ClassId) (h_kn a_kn_numbers a_kn_slots : Nat) (kn_size : Int32) (kn_numbers : Nat → Int32) (kn_slots : Nat → Int32) (v1 : Int32) (v2 : Int32) (out : Int32 × (Nat → Int32)) (hx : p.tables.exec = Jvm.exec) (hb : c.code = cX2_aloneOnes) (hml : c.maxLocals = 5) (hts : ∀ w ∈ wsX2_aloneOnes, w.before args s = true) (hown : s.vm.findClass RX2 = some m.cls) (hK : va_K (dC, dI) vwCl (px_TY cyI cyZ cyJ cyB cyO) s) (hN : px_NW s) (hA : ∀ q : Nat, s.heap.size ≤ q → A q) (hQ : ∀ (H : Heap) (locs : List Loc) (pc : Nat) (ls : Array Slot), va_P (dC, dI) vwCl (wdX2_aloneOnes cyI cyZ cyJ cyB cyO h_kn a_kn_numbers a_kn_slots kn_size kn_numbers out.2) H → va_D A (wdX2_aloneOnes cyI cyZ cyJ cyB cyO h_kn a_kn_numbers a_kn_slots kn_size kn_numbers out.2) → va_S A s.heap H locs → decode cX2_aloneOnes pc = .ok (.ireturn, 1) → W p l e ({ frames := 1, cells := 0, slots := 0, locals := 23 } : Room) s m args below meth c H locs 0 0 Q (F0 m pc ls [.int out.1]))  (K_2 : Int32 → (Nat → Int32) → Option (Int32 × (Nat → Int32))) (hK_2 : ∀ (v3 : Int32) (kn_slots : Nat → Int32) (H : Heap) (locs : List Loc) (ls : Array Slot), K_2 v3 kn_slots = some out → va_P (dC, dI) vwCl (wdX2_aloneOnes cyI cyZ cyJ cyB cyO h_kn a_kn_numbers a_kn_slots kn_size kn_numbers kn_slots) H → va_D A (wdX2_aloneOnes cyI cyZ cyJ cyB cyO h_kn a_kn_numbers a_kn_slots kn_size kn_numbers kn_slots) → va_S A s.heap H locs → lv_has ls 5 [(0, .ref h_kn), (1, .int v1), (2, .int v2), (3, .int v3)] → W p l e ({ frames := 1, cells := 0, slots := 0, locals := 23 } : Room) s m args below meth c H locs 0 0 Q (F0 m 2 ls [])) : ∀ (v3 : Int32) (kn_slots : Nat → Int32) (H : Heap) (locs : List Loc) (ls : Array Slot), pX2_aloneOnes_2B v1 v2 kn_size kn_numbers K_2 v3 kn_slots = some out → va_P (dC, dI) vwCl (wdX2_aloneOnes cyI cyZ cyJ cyB cyO h_kn a_kn_numbers a_kn_slots kn_size kn_numbers kn_slots) H → va_D A (wdX2_aloneOnes cyI cyZ cyJ cyB cyO h_kn a_kn_numbers a_kn_slots kn_size kn_numbers kn_slots) → va_S A s.heap H locs → lv_has ls 5 [(0, .ref h_kn), (1, .int v1), (2, .int v2), (3, .int v3)] → W p l e ({ frames := 1, cells := 0, slots := 0, locals := 23 } : Room) s m args below meth c H locs 0 0 Q (F0 m 2 ls []) := by
  intro v3 kn_slots H locs ls hp hP hD hS hl
  unfold pX2_aloneOnes_2B at hp
  refine lv_iload_n hx hb dX2_aloneOnes_2 rfl (lv_at hl 3 rfl) ?_
  refine lv_aload_n hx hb dX2_aloneOnes_3 rfl (lv_at hl 0 rfl) ?_
  refine va_get (D := (dC, dI)) (ci := 2) (v := .int kn_size) (C := RX2) (T := TX2) (N := 3) hx hb hts fX2_aloneOnes_X2 hown hK hP 0 rfl rfl 2 (by decide) (hts _ kX2_aloneOnes_1) (fun _ h9 => h9) rfl dX2_aloneOnes_4 ?_
  refine lv_icmp_ge (tgt := 33) hx hb dX2_aloneOnes_7 (by decide) (fun c_1 => ?_) (fun c_1 => ?_)
  · have hp := px_t hp c_1
    refine lv_iconst (v := (0 : Int32)) hx hb dX2_aloneOnes_33 (by decide) ?_
    refine lv_istore_n (lv' := [(3, .int (0 : Int32)), (0, .ref h_kn), (1, .int v1), (2, .int v2)]) hx hb dX2_aloneOnes_34 rfl hl (by decide) rfl (fun ls hl => ?_)
    refine lv_iconst (v := (0 : Int32)) hx hb dX2_aloneOnes_35 (by decide) ?_
    refine lv_istore (lv' := [(4, .int (0 : Int32)), (3, .int (0 : Int32)), (0, .ref h_kn), (1, .int v1), (2, .int v2)]) hx hb dX2_aloneOnes_36 hl (by decide) rfl (fun ls hl => ?_)
    exact lcX2_aloneOnes_38 dC dI cyI cyZ cyJ cyB cyO h_kn a_kn_numbers a_kn_slots kn_size kn_numbers kn_slots v1 v2 out hx hb hml hts hown hK hN hA hQ px_FU (0 : Int32) (0 : Int32) kn_slots _ _ ls hp hP hD hS (lv_sub hl [2, 1, 0] rfl)
  · have hp := px_f hp c_1
    refine lv_aload_n hx hb dX2_aloneOnes_10 rfl (lv_at hl 0 rfl) ?_
    refine va_get (D := (dC, dI)) (ci := 2) (v := .ref a_kn_slots) (C := RX2) (T := TX2) (N := 3) hx hb hts fX2_aloneOnes_X2 hown hK hP 0 rfl rfl 1 (by decide) (hts _ kX2_aloneOnes_2) (fun _ h9 => h9) rfl dX2_aloneOnes_11 ?_
    refine lv_iload_n hx hb dX2_aloneOnes_14 rfl (lv_at hl 3 rfl) ?_
    refine lv_aload_n hx hb dX2_aloneOnes_15 rfl (lv_at hl 0 rfl) ?_
    refine va_get (D := (dC, dI)) (ci := 2) (v := .ref a_kn_numbers) (C := RX2) (T := TX2) (N := 3) hx hb hts fX2_aloneOnes_X2 hown hK hP 0 rfl rfl 0 (by decide) (hts _ kX2_aloneOnes_3) (fun _ h9 => h9) rfl dX2_aloneOnes_16 ?_
    refine lv_iload_n hx hb dX2_aloneOnes_19 rfl (lv_at hl 3 rfl) ?_
    obtain ⟨g_5, hp⟩ := px_i_at hp
    refine va_iald (D := (dC, dI)) hx hb hK hP 1 0 rfl rfl g_5 dX2_aloneOnes_20 ?_
    refine lv_iload_n hx hb dX2_aloneOnes_21 rfl (lv_at hl 1 rfl) ?_
    refine lv_iload_n hx hb dX2_aloneOnes_22 rfl (lv_at hl 2 rfl) ?_
    obtain ⟨o_6, ho_6, hp⟩ := px_b_at hp
    refine px_callR (v := .int o_6) (va_runSN (host := RX10) (As := [.int (kn_numbers (Int32.toNatClampNeg v3)), .int v1, .int v2]) (rest := [.int v3, .ref a_kn_slots]) ⟨hx, hb, hml, hown, hts⟩ (ccX10_slotOf l dC dI cyI cyZ cyJ cyB cyO (kn_numbers (Int32.toNatClampNeg v3)) v1 v2 o_6 ho_6) ⟨va_cnB 3 hts gX2_aloneOnes_X10_slotOf_n22 rfl rfl rfl hN.2.2.2.2.2.2.1 (hts _ kX2_aloneOnes_5) hsX10_slotOf ⟨Nat.le_of_ble_eq_true rfl, Nat.le_of_ble_eq_true rfl⟩, hts _ kX2_aloneOnes_4, trivial⟩ (px_preR (wc := []) hK hN hP [] rfl) rfl rfl hl.1 rfl (lv_room (Nat.le_of_ble_eq_true rfl)) dX2_aloneOnes_23 ⟨Nat.zero_le _, Nat.zero_le _⟩) ?_
    obtain ⟨g_7, hp⟩ := px_i_at hp
    refine va_iast (D := (dC, dI)) hx hb hK hP hD hS 2 0 rfl rfl g_7 dX2_aloneOnes_26 (fun H locs hP hD hS => ?_)
    have hP : va_P (dC, dI) vwCl (wdX2_aloneOnes cyI cyZ cyJ cyB cyO h_kn a_kn_numbers a_kn_slots kn_size kn_numbers (upd kn_slots (Int32.toNatClampNeg v3) o_6)) H := hP
    have hD : va_D A (wdX2_aloneOnes cyI cyZ cyJ cyB cyO h_kn a_kn_numbers a_kn_slots kn_size kn_numbers (upd kn_slots (Int32.toNatClampNeg v3) o_6)) := hD
    refine lv_iinc (v := (v3 + (1 : Int32))) (lv' := [(3, .int (v3 + (1 : Int32))), (0, .ref h_kn), (1, .int v1), (2, .int v2)]) hx hb dX2_aloneOnes_27 hl (k := 3) rfl rfl (by decide) rfl (fun ls hl => ?_)
    refine lv_goto (tgt := 2) hx hb dX2_aloneOnes_30 (by decide) ?_
    exact hK_2 (v3 + (1 : Int32)) (upd kn_slots (Int32.toNatClampNeg v3) o_6) _ _ ls hp hP hD hS (lv_sub hl [1, 2, 3, 0] rfl)
theorem lcX2_aloneOnes_2 {p : Program} {l : Launch} {e : Env} {s : State} {m : MethodId} {args : Array Value} {below : List Frame} {meth : Method} {c : Code} {Q : State → Prop} {A : Nat → Prop} (dC : Nat → ClassId) (dI : Nat → Nat → Nat) (cyI cyZ cyJ cyB cyO : ClassId) (h_kn a_kn_numbers a_kn_slots : Nat) (kn_size : Int32) (kn_numbers : Nat → Int32) (kn_slots : Nat → Int32) (v1 : Int32) (v2 : Int32) (out : Int32 × (Nat → Int32)) (hx : p.tables.exec = Jvm.exec) (hb : c.code = cX2_aloneOnes) (hml : c.maxLocals = 5) (hts : ∀ w ∈ wsX2_aloneOnes, w.before args s = true) (hown : s.vm.findClass RX2 = some m.cls) (hK : va_K (dC, dI) vwCl (px_TY cyI cyZ cyJ cyB cyO) s) (hN : px_NW s) (hA : ∀ q : Nat, s.heap.size ≤ q → A q) (hQ : ∀ (H : Heap) (locs : List Loc) (pc : Nat) (ls : Array Slot), va_P (dC, dI) vwCl (wdX2_aloneOnes cyI cyZ cyJ cyB cyO h_kn a_kn_numbers a_kn_slots kn_size kn_numbers out.2) H → va_D A (wdX2_aloneOnes cyI cyZ cyJ cyB cyO h_kn a_kn_numbers a_kn_slots kn_size kn_numbers out.2) → va_S A s.heap H locs → decode cX2_aloneOnes pc = .ok (.ireturn, 1) → W p l e ({ frames := 1, cells := 0, slots := 0, locals := 23 } : Room) s m args below meth c H locs 0 0 Q (F0 m pc ls [.int out.1]))  : ∀ n : Nat, ∀ (v3 : Int32) (kn_slots : Nat → Int32) (H : Heap) (locs : List Loc) (ls : Array Slot), pX2_aloneOnes_2 v1 v2 kn_size kn_numbers n v3 kn_slots = some out → va_P (dC, dI) vwCl (wdX2_aloneOnes cyI cyZ cyJ cyB cyO h_kn a_kn_numbers a_kn_slots kn_size kn_numbers kn_slots) H → va_D A (wdX2_aloneOnes cyI cyZ cyJ cyB cyO h_kn a_kn_numbers a_kn_slots kn_size kn_numbers kn_slots) → va_S A s.heap H locs → lv_has ls 5 [(0, .ref h_kn), (1, .int v1), (2, .int v2), (3, .int v3)] → W p l e ({ frames := 1, cells := 0, slots := 0, locals := 23 } : Room) s m args below meth c H locs 0 0 Q (F0 m 2 ls []) := by
  intro n
  induction n with
  | zero =>
    intro v3 kn_slots H locs ls hp hP hD hS hl
    exact nomatch hp
  | succ n ih => exact lcX2_aloneOnes_2B dC dI cyI cyZ cyJ cyB cyO h_kn a_kn_numbers a_kn_slots kn_size kn_numbers kn_slots v1 v2 out hx hb hml hts hown hK hN hA hQ (pX2_aloneOnes_2 v1 v2 kn_size kn_numbers n) ih
set_option maxHeartbeats 4000000 in
set_option maxRecDepth 100000 in
theorem ccX2_aloneOnes (l : Launch) (dC : Nat → ClassId) (dI : Nat → Nat → Nat) (cyI cyZ cyJ cyB cyO : ClassId) (sz : Nat) (h_kn a_kn_numbers a_kn_slots : Nat) (kn_size : Int32) (kn_numbers : Nat → Int32) (kn_slots : Nat → Int32) (v1 : Int32) (v2 : Int32) (out : Int32 × (Nat → Int32)) (hp : pX2_aloneOnes v1 v2 kn_size kn_numbers kn_slots = some out) : Met l yX2_aloneOnes wsX2_aloneOnes ({ frames := 1, cells := 0, slots := 0, locals := 23 } : Room) (px_PW (dC, dI) (px_TY cyI cyZ cyJ cyB cyO) [.ref h_kn, .int v1, .int v2] (wdX2_aloneOnes cyI cyZ cyJ cyB cyO h_kn a_kn_numbers a_kn_slots kn_size kn_numbers kn_slots) sz) (px_QW (some (.int out.1)) (dC, dI) (wdX2_aloneOnes cyI cyZ cyJ cyB cyO h_kn a_kn_numbers a_kn_slots kn_size kn_numbers kn_slots) (wdX2_aloneOnes cyI cyZ cyJ cyB cyO h_kn a_kn_numbers a_kn_slots kn_size kn_numbers out.2) sz) 0 0 (va_A (wdX2_aloneOnes cyI cyZ cyJ cyB cyO h_kn a_kn_numbers a_kn_slots kn_size kn_numbers kn_slots) sz) := by
  refine Met.ofW (cc := cX2_aloneOnes) (maxL := 5) (ret := (some .int)) (by decide) rfl ?_
  intro p e s m args below meth c s₁ B hml hv
  obtain ⟨rfl, hsz, hP, hK, hD0, hN⟩ := hv
  have hx := B.exec
  have hb := B.bytes
  have hr := B.returns
  have hts := atoms_spec (ws := wsX2_aloneOnes) B.pre
  have hown : s.vm.findClass RX2 = some m.cls := findClass_of_methodNamed B.named
  have hlocks := B.notSynchronized
  subst hsz
  have hD := hD0.self (sz := s.heap.size)
  generalize hAe : va_A (wdX2_aloneOnes cyI cyZ cyJ cyB cyO h_kn a_kn_numbers a_kn_slots kn_size kn_numbers kn_slots) s.heap.size = A at hD ⊢
  have hA : ∀ q : Nat, s.heap.size ≤ q → A q := fun q h => by rw [← hAe]; exact Or.inr h
  have hS : va_S A s.heap s.heap [] := va_S.rf
  have hq := px_QWe (v := (some (.int out.1))) (D := (dC, dI)) (w1 := (wdX2_aloneOnes cyI cyZ cyJ cyB cyO h_kn a_kn_numbers a_kn_slots kn_size kn_numbers out.2)) (st := s) hAe
  generalize px_QW (some (.int out.1)) (dC, dI) (wdX2_aloneOnes cyI cyZ cyJ cyB cyO h_kn a_kn_numbers a_kn_slots kn_size kn_numbers kn_slots) (wdX2_aloneOnes cyI cyZ cyJ cyB cyO h_kn a_kn_numbers a_kn_slots kn_size kn_numbers out.2) s.heap.size = Qc at hq ⊢
  have hQ : ∀ (H : Heap) (locs : List Loc) (pc : Nat) (ls : Array Slot), va_P (dC, dI) vwCl (wdX2_aloneOnes cyI cyZ cyJ cyB cyO h_kn a_kn_numbers a_kn_slots kn_size kn_numbers out.2) H → va_D A (wdX2_aloneOnes cyI cyZ cyJ cyB cyO h_kn a_kn_numbers a_kn_slots kn_size kn_numbers out.2) → va_S A s.heap H locs → decode cX2_aloneOnes pc = .ok (.ireturn, 1) → W p l e ({ frames := 1, cells := 0, slots := 0, locals := 23 } : Room) s m (([.ref h_kn, .int v1, .int v2] : List Value).toArray) below meth c H locs 0 0 (MQ below Qc (([.ref h_kn, .int v1, .int v2] : List Value).toArray) s 0 0 A) (F0 m pc ls [.int out.1]) := fun H locs pc ls hP hD hS hd => W.iret hx hb hr (fun t ht hW => hq _ t (by rw [ht]; exact hP) hD (hS.F ht)) hS.2.2 hd
  generalize MQ below Qc (([.ref h_kn, .int v1, .int v2] : List Value).toArray) s 0 0 A = Q at hQ ⊢
  have hl := lv_entry [.ref h_kn, .int v1, .int v2] (n := 5) (Nat.le_of_ble_eq_true rfl)
  rw [lg_entry_eq]
  generalize (lg_sl [.ref h_kn, .int v1, .int v2] ++ List.replicate (5 - (lg_sl [.ref h_kn, .int v1, .int v2]).length) Slot.unset).toArray = ls at hl ⊢
  have hl : lv_has ls 5 [(0, .ref h_kn), (1, .int v1), (2, .int v2)] := hl
  unfold pX2_aloneOnes at hp
  refine lv_iconst (v := (0 : Int32)) hx hb dX2_aloneOnes_0 (by decide) ?_
  refine lv_istore_n (lv' := [(3, .int (0 : Int32)), (0, .ref h_kn), (1, .int v1), (2, .int v2)]) hx hb dX2_aloneOnes_1 rfl hl (by decide) rfl (fun ls hl => ?_)
  exact lcX2_aloneOnes_2 dC dI cyI cyZ cyJ cyB cyO h_kn a_kn_numbers a_kn_slots kn_size kn_numbers kn_slots v1 v2 out hx hb hml hts hown hK hN hA hQ px_FU (0 : Int32) kn_slots _ _ ls hp hP hD hS (lv_sub hl [1, 2, 3, 0] rfl)
/-! TagReader$Sheet.renew(II)V -/
theorem hvX5_renew : yX5_renew.cls = RX5 ∧ yX5_renew.cls ≠ "java/lang/invoke/MethodHandle" ∧ yX5_renew.cls ≠ "java/lang/invoke/VarHandle" ∧ (parseMethodDescriptor yX5_renew.desc).map (fun d => d.parameters.length) = some 2 := by decide +kernel
theorem kX5_renew_5 : (.initialized RX10 : Cond) ∈ wsX5_renew := List.mem_of_getElem? (i := 5) rfl
theorem kX5_renew_4 : (.static yX10_within : Cond) ∈ wsX5_renew := List.mem_of_getElem? (i := 4) rfl
theorem fX5_renew_X5 : ∀ w ∈ u_ws RX5 TX5 3, w ∈ wsX5_renew := fun _ h => List.mem_cons_of_mem _ (List.mem_append_right _ h)
theorem kX5_renew_1 : (.fieldLink RX5 15 "TagReader$Sheet" "lane" "I" : Cond) ∈ wsX5_renew := List.mem_of_getElem? (i := 1) rfl
theorem kX5_renew_2 : (.fieldLink RX5 19 "TagReader$Sheet" "size" "I" : Cond) ∈ wsX5_renew := List.mem_of_getElem? (i := 2) rfl
theorem kX5_renew_3 : (.fieldLink RX5 9 "TagReader$Sheet" "cells" "[I" : Cond) ∈ wsX5_renew := List.mem_of_getElem? (i := 3) rfl
set_option maxHeartbeats 4000000 in
set_option maxRecDepth 100000 in
theorem lcX5_renew_23B {p : Program} {l : Launch} {e : Env} {s : State} {m : MethodId} {args : Array Value} {below : List Frame} {meth : Method} {c : Code} {Q : State → Prop} {A : Nat → Prop} (dC : Nat → ClassId) (dI : Nat → Nat → Nat) (cyI cyZ cyJ cyB cyO : ClassId) (h_sh a_sh_cells : Nat) (sh_lane : Int32) (sh_size : Int32) (sh_cells : Nat → Int32) (v1 : Int32) (v2 : Int32) (out : Int32 × Int32 × (Nat → Int32)) (hx : p.tables.exec = Jvm.exec) (hb : c.code = cX5_renew) (hml : c.maxLocals = 4) (hts : ∀ w ∈ wsX5_renew, w.before args s = true) (hown : s.vm.findClass RX5 = some m.cls) (hK : va_K (dC, dI) vwCl (px_TY cyI cyZ cyJ cyB cyO) s) (hN : px_NW s) (hA : ∀ q : Nat, s.heap.size ≤ q → A q) (hQ : ∀ (H : Heap) (locs : List Loc) (pc : Nat) (ls : Array Slot), va_P (dC, dI) vwCl (wdX5_renew cyI cyZ cyJ cyB cyO h_sh a_sh_cells out.1 out.2.1 out.2.2) H → va_D A (wdX5_renew cyI cyZ cyJ cyB cyO h_sh a_sh_cells out.1 out.2.1 out.2.2) → va_S A s.heap H locs → decode cX5_renew pc = .ok (.return_, 1) → W p l e ({ frames := 1, cells := 0, slots := 0, locals := 22 } : Room) s m args below meth c H locs 0 0 Q (F0 m pc ls []))  (K_23 : Int32 → Int32 → Int32 → (Nat → Int32) → Option (Int32 × Int32 × (Nat → Int32))) (hK_23 : ∀ (v3 : Int32) (sh_lane : Int32) (sh_size : Int32) (sh_cells : Nat → Int32) (H : Heap) (locs : List Loc) (ls : Array Slot), K_23 v3 sh_lane sh_size sh_cells = some out → va_P (dC, dI) vwCl (wdX5_renew cyI cyZ cyJ cyB cyO h_sh a_sh_cells sh_lane sh_size sh_cells) H → va_D A (wdX5_renew cyI cyZ cyJ cyB cyO h_sh a_sh_cells sh_lane sh_size sh_cells) → va_S A s.heap H locs → lv_has ls 4 [(0, .ref h_sh), (2, .int v2), (3, .int v3)] → W p l e ({ frames := 1, cells := 0, slots := 0, locals := 22 } : Room) s m args below meth c H locs 0 0 Q (F0 m 23 ls [])) : ∀ (v3 : Int32) (sh_lane : Int32) (sh_size : Int32) (sh_cells : Nat → Int32) (H : Heap) (locs : List Loc) (ls : Array Slot), pX5_renew_23B v1 v2 K_23 v3 sh_lane sh_size sh_cells = some out → va_P (dC, dI) vwCl (wdX5_renew cyI cyZ cyJ cyB cyO h_sh a_sh_cells sh_lane sh_size sh_cells) H → va_D A (wdX5_renew cyI cyZ cyJ cyB cyO h_sh a_sh_cells sh_lane sh_size sh_cells) → va_S A s.heap H locs → lv_has ls 4 [(0, .ref h_sh), (2, .int v2), (3, .int v3)] → W p l e ({ frames := 1, cells := 0, slots := 0, locals := 22 } : Room) s m args below meth c H locs 0 0 Q (F0 m 23 ls []) := by
  intro v3 sh_lane sh_size sh_cells H locs ls hp hP hD hS hl
  unfold pX5_renew_23B at hp
  refine lv_iload_n hx hb dX5_renew_23 rfl (lv_at hl 2 rfl) ?_
  refine lv_iload_n hx hb dX5_renew_24 rfl (lv_at hl 1 rfl) ?_
  refine lv_icmp_ge (tgt := 41) hx hb dX5_renew_25 (by decide) (fun c_3 => ?_) (fun c_3 => ?_)
  · have hp := px_t hp c_3
    have ho := px_s hp
    subst ho
    exact hQ _ _ _ _ hP hD hS dX5_renew_41
  · have hp := px_f hp c_3
    refine lv_aload_n hx hb dX5_renew_28 rfl (lv_at hl 0 rfl) ?_
    refine va_get (D := (dC, dI)) (ci := 5) (v := .ref a_sh_cells) (C := RX5) (T := TX5) (N := 3) hx hb hts fX5_renew_X5 hown hK hP 0 rfl rfl 0 (by decide) (hts _ kX5_renew_3) (fun _ h9 => h9) rfl dX5_renew_29 ?_
    refine lv_iload_n hx hb dX5_renew_32 rfl (lv_at hl 2 rfl) ?_
    refine lv_iconst (v := (0 : Int32)) hx hb dX5_renew_33 (by decide) ?_
    obtain ⟨g_4, hp⟩ := px_i_at hp
    refine va_iast (D := (dC, dI)) hx hb hK hP hD hS 1 0 rfl rfl g_4 dX5_renew_34 (fun H locs hP hD hS => ?_)
    have hP : va_P (dC, dI) vwCl (wdX5_renew cyI cyZ cyJ cyB cyO h_sh a_sh_cells sh_lane sh_size (upd sh_cells (Int32.toNatClampNeg v3) (0 : Int32))) H := hP
    have hD : va_D A (wdX5_renew cyI cyZ cyJ cyB cyO h_sh a_sh_cells sh_lane sh_size (upd sh_cells (Int32.toNatClampNeg v3) (0 : Int32))) := hD
    refine lv_iinc (v := (v3 + (1 : Int32))) (lv' := [(3, .int (v3 + (1 : Int32))), (0, .ref h_sh), (2, .int v2)]) hx hb dX5_renew_35 hl (k := 2) rfl rfl (by decide) rfl (fun ls hl => ?_)
    refine lv_goto (tgt := 23) hx hb dX5_renew_38 (by decide) ?_
    exact hK_23 (v3 + (1 : Int32)) sh_lane sh_size (upd sh_cells (Int32.toNatClampNeg v3) (0 : Int32)) _ _ ls hp hP hD hS (lv_sub hl [1, 2, 0] rfl)
theorem lcX5_renew_23 {p : Program} {l : Launch} {e : Env} {s : State} {m : MethodId} {args : Array Value} {below : List Frame} {meth : Method} {c : Code} {Q : State → Prop} {A : Nat → Prop} (dC : Nat → ClassId) (dI : Nat → Nat → Nat) (cyI cyZ cyJ cyB cyO : ClassId) (h_sh a_sh_cells : Nat) (sh_lane : Int32) (sh_size : Int32) (sh_cells : Nat → Int32) (v1 : Int32) (v2 : Int32) (out : Int32 × Int32 × (Nat → Int32)) (hx : p.tables.exec = Jvm.exec) (hb : c.code = cX5_renew) (hml : c.maxLocals = 4) (hts : ∀ w ∈ wsX5_renew, w.before args s = true) (hown : s.vm.findClass RX5 = some m.cls) (hK : va_K (dC, dI) vwCl (px_TY cyI cyZ cyJ cyB cyO) s) (hN : px_NW s) (hA : ∀ q : Nat, s.heap.size ≤ q → A q) (hQ : ∀ (H : Heap) (locs : List Loc) (pc : Nat) (ls : Array Slot), va_P (dC, dI) vwCl (wdX5_renew cyI cyZ cyJ cyB cyO h_sh a_sh_cells out.1 out.2.1 out.2.2) H → va_D A (wdX5_renew cyI cyZ cyJ cyB cyO h_sh a_sh_cells out.1 out.2.1 out.2.2) → va_S A s.heap H locs → decode cX5_renew pc = .ok (.return_, 1) → W p l e ({ frames := 1, cells := 0, slots := 0, locals := 22 } : Room) s m args below meth c H locs 0 0 Q (F0 m pc ls []))  : ∀ n : Nat, ∀ (v3 : Int32) (sh_lane : Int32) (sh_size : Int32) (sh_cells : Nat → Int32) (H : Heap) (locs : List Loc) (ls : Array Slot), pX5_renew_23 v1 v2 n v3 sh_lane sh_size sh_cells = some out → va_P (dC, dI) vwCl (wdX5_renew cyI cyZ cyJ cyB cyO h_sh a_sh_cells sh_lane sh_size sh_cells) H → va_D A (wdX5_renew cyI cyZ cyJ cyB cyO h_sh a_sh_cells sh_lane sh_size sh_cells) → va_S A s.heap H locs → lv_has ls 4 [(0, .ref h_sh), (2, .int v2), (3, .int v3)] → W p l e ({ frames := 1, cells := 0, slots := 0, locals := 22 } : Room) s m args below meth c H locs 0 0 Q (F0 m 23 ls []) := by
  intro n
  induction n with
  | zero =>
    intro v3 sh_lane sh_size sh_cells H locs ls hp hP hD hS hl
    exact nomatch hp
  | succ n ih => exact lcX5_renew_23B dC dI cyI cyZ cyJ cyB cyO h_sh a_sh_cells sh_lane sh_size sh_cells v1 v2 out hx hb hml hts hown hK hN hA hQ (pX5_renew_23 v1 v2 n) ih
set_option maxHeartbeats 4000000 in
set_option maxRecDepth 100000 in
theorem ccX5_renew (l : Launch) (dC : Nat → ClassId) (dI : Nat → Nat → Nat) (cyI cyZ cyJ cyB cyO : ClassId) (sz : Nat) (h_sh a_sh_cells : Nat) (sh_lane : Int32) (sh_size : Int32) (sh_cells : Nat → Int32) (v1 : Int32) (v2 : Int32) (out : Int32 × Int32 × (Nat → Int32)) (hp : pX5_renew v1 v2 sh_lane sh_size sh_cells = some out) : Met l yX5_renew wsX5_renew ({ frames := 1, cells := 0, slots := 0, locals := 22 } : Room) (px_PW (dC, dI) (px_TY cyI cyZ cyJ cyB cyO) [.ref h_sh, .int v1, .int v2] (wdX5_renew cyI cyZ cyJ cyB cyO h_sh a_sh_cells sh_lane sh_size sh_cells) sz) (px_QW none (dC, dI) (wdX5_renew cyI cyZ cyJ cyB cyO h_sh a_sh_cells sh_lane sh_size sh_cells) (wdX5_renew cyI cyZ cyJ cyB cyO h_sh a_sh_cells out.1 out.2.1 out.2.2) sz) 0 0 (va_A (wdX5_renew cyI cyZ cyJ cyB cyO h_sh a_sh_cells sh_lane sh_size sh_cells) sz) := by
  refine Met.ofW (cc := cX5_renew) (maxL := 4) (ret := none) (by decide) rfl ?_
  intro p e s m args below meth c s₁ B hml hv
  obtain ⟨rfl, hsz, hP, hK, hD0, hN⟩ := hv
  have hx := B.exec
  have hb := B.bytes
  have hr := B.returns
  have hts := atoms_spec (ws := wsX5_renew) B.pre
  have hown : s.vm.findClass RX5 = some m.cls := findClass_of_methodNamed B.named
  have hlocks := B.notSynchronized
  subst hsz
  have hD := hD0.self (sz := s.heap.size)
  generalize hAe : va_A (wdX5_renew cyI cyZ cyJ cyB cyO h_sh a_sh_cells sh_lane sh_size sh_cells) s.heap.size = A at hD ⊢
  have hA : ∀ q : Nat, s.heap.size ≤ q → A q := fun q h => by rw [← hAe]; exact Or.inr h
  have hS : va_S A s.heap s.heap [] := va_S.rf
  have hq := px_QWe (v := none) (D := (dC, dI)) (w1 := (wdX5_renew cyI cyZ cyJ cyB cyO h_sh a_sh_cells out.1 out.2.1 out.2.2)) (st := s) hAe
  generalize px_QW none (dC, dI) (wdX5_renew cyI cyZ cyJ cyB cyO h_sh a_sh_cells sh_lane sh_size sh_cells) (wdX5_renew cyI cyZ cyJ cyB cyO h_sh a_sh_cells out.1 out.2.1 out.2.2) s.heap.size = Qc at hq ⊢
  have hQ : ∀ (H : Heap) (locs : List Loc) (pc : Nat) (ls : Array Slot), va_P (dC, dI) vwCl (wdX5_renew cyI cyZ cyJ cyB cyO h_sh a_sh_cells out.1 out.2.1 out.2.2) H → va_D A (wdX5_renew cyI cyZ cyJ cyB cyO h_sh a_sh_cells out.1 out.2.1 out.2.2) → va_S A s.heap H locs → decode cX5_renew pc = .ok (.return_, 1) → W p l e ({ frames := 1, cells := 0, slots := 0, locals := 22 } : Room) s m (([.ref h_sh, .int v1, .int v2] : List Value).toArray) below meth c H locs 0 0 (MQ below Qc (([.ref h_sh, .int v1, .int v2] : List Value).toArray) s 0 0 A) (F0 m pc ls []) := fun H locs pc ls hP hD hS hd => W.vret hx hb hr (fun t ht hW => hq _ t (by rw [ht]; exact hP) hD (hS.F ht)) hS.2.2 hd
  generalize MQ below Qc (([.ref h_sh, .int v1, .int v2] : List Value).toArray) s 0 0 A = Q at hQ ⊢
  have hl := lv_entry [.ref h_sh, .int v1, .int v2] (n := 4) (Nat.le_of_ble_eq_true rfl)
  rw [lg_entry_eq]
  generalize (lg_sl [.ref h_sh, .int v1, .int v2] ++ List.replicate (4 - (lg_sl [.ref h_sh, .int v1, .int v2]).length) Slot.unset).toArray = ls at hl ⊢
  have hl : lv_has ls 4 [(0, .ref h_sh), (1, .int v1), (2, .int v2)] := hl
  unfold pX5_renew at hp
  refine lv_iload_n hx hb dX5_renew_0 rfl (lv_at hl 2 rfl) ?_
  refine lv_iconst (v := (0 : Int32)) hx hb dX5_renew_1 (by decide) ?_
  refine lv_bipush (v := (40 : Int32)) hx hb dX5_renew_2 (by decide) ?_
  obtain ⟨o_1, ho_1, hp⟩ := px_b_at hp
  refine px_callR (v := .int o_1) (va_runSN (host := RX10) (As := [.int v2, .int (0 : Int32), .int (40 : Int32)]) (rest := []) ⟨hx, hb, hml, hown, hts⟩ (ccX10_within l dC dI cyI cyZ cyJ cyB cyO v2 (0 : Int32) (40 : Int32) o_1 ho_1) ⟨va_cnB 3 hts gX5_renew_X10_within_n22 rfl rfl rfl hN.2.2.2.2.2.2.2 (hts _ kX5_renew_5) hsX10_within ⟨Nat.le_of_ble_eq_true rfl, Nat.le_of_ble_eq_true rfl⟩, hts _ kX5_renew_4, trivial⟩ (px_preR (wc := []) hK hN hP [] rfl) rfl rfl hl.1 rfl (lv_room (Nat.le_of_ble_eq_true rfl)) dX5_renew_4 ⟨Nat.zero_le _, Nat.zero_le _⟩) ?_
  refine lv_if_ne (tgt := 11) hx hb dX5_renew_7 (by decide) (fun c_2 => ?_) (fun c_2 => ?_)
  · have hp := px_f hp c_2
    refine lv_aload_n hx hb dX5_renew_11 rfl (lv_at hl 0 rfl) ?_
    refine lv_iload_n hx hb dX5_renew_12 rfl (lv_at hl 1 rfl) ?_
    refine va_put (D := (dC, dI)) (ci := 5) (v := .int v1) (ty := .int) (C := RX5) (T := TX5) (N := 3) hx hb hts fX5_renew_X5 tyX5 tyX5_ok nmX5 hown hK hP hD hS 0 rfl rfl 1 (by decide) (hts _ kX5_renew_1) (fun _ h9 => h9) rfl (tyX5_ok 1 (by decide)) rfl rfl (Nat.le_of_ble_eq_true rfl) dX5_renew_13 (fun H locs hP hD hS => ?_)
    have hP : va_P (dC, dI) vwCl (wdX5_renew cyI cyZ cyJ cyB cyO h_sh a_sh_cells v1 sh_size sh_cells) H := hP
    have hD : va_D A (wdX5_renew cyI cyZ cyJ cyB cyO h_sh a_sh_cells v1 sh_size sh_cells) := hD
    refine lv_aload_n hx hb dX5_renew_16 rfl (lv_at hl 0 rfl) ?_
    refine lv_iload_n hx hb dX5_renew_17 rfl (lv_at hl 2 rfl) ?_
    refine va_put (D := (dC, dI)) (ci := 5) (v := .int v2) (ty := .int) (C := RX5) (T := TX5) (N := 3) hx hb hts fX5_renew_X5 tyX5 tyX5_ok nmX5 hown hK hP hD hS 0 rfl rfl 2 (by decide) (hts _ kX5_renew_2) (fun _ h9 => h9) rfl (tyX5_ok 2 (by decide)) rfl rfl (Nat.le_of_ble_eq_true rfl) dX5_renew_18 (fun H locs hP hD hS => ?_)
    have hP : va_P (dC, dI) vwCl (wdX5_renew cyI cyZ cyJ cyB cyO h_sh a_sh_cells v1 v2 sh_cells) H := hP
    have hD : va_D A (wdX5_renew cyI cyZ cyJ cyB cyO h_sh a_sh_cells v1 v2 sh_cells) := hD
    refine lv_iconst (v := (0 : Int32)) hx hb dX5_renew_21 (by decide) ?_
    refine lv_istore_n (lv' := [(3, .int (0 : Int32)), (0, .ref h_sh), (1, .int v1), (2, .int v2)]) hx hb dX5_renew_22 rfl hl (by decide) rfl (fun ls hl => ?_)
    exact lcX5_renew_23 dC dI cyI cyZ cyJ cyB cyO h_sh a_sh_cells sh_lane sh_size sh_cells v1 v2 out hx hb hml hts hown hK hN hA hQ px_FU (0 : Int32) v1 v2 sh_cells _ _ ls hp hP hD hS (lv_sub hl [1, 3, 0] rfl)
  · have hp := px_t hp c_2
    have ho := px_s hp
    subst ho
    exact hQ _ _ _ _ hP hD hS dX5_renew_10
/-! TagReader$Sheet.faultOfCell(I)I -/
theorem hvX5_faultOfCell : yX5_faultOfCell.cls = RX5 ∧ yX5_faultOfCell.cls ≠ "java/lang/invoke/MethodHandle" ∧ yX5_faultOfCell.cls ≠ "java/lang/invoke/VarHandle" ∧ (parseMethodDescriptor yX5_faultOfCell.desc).map (fun d => d.parameters.length) = some 1 := by decide +kernel
theorem fX5_faultOfCell_X5 : ∀ w ∈ u_ws RX5 TX5 3, w ∈ wsX5_faultOfCell := fun _ h => List.mem_cons_of_mem _ (List.mem_append_right _ h)
theorem kX5_faultOfCell_1 : (.fieldLink RX5 19 "TagReader$Sheet" "size" "I" : Cond) ∈ wsX5_faultOfCell := List.mem_of_getElem? (i := 1) rfl
theorem kX5_faultOfCell_3 : (.initialized RX10 : Cond) ∈ wsX5_faultOfCell := List.mem_of_getElem? (i := 3) rfl
theorem kX5_faultOfCell_2 : (.static yX10_within : Cond) ∈ wsX5_faultOfCell := List.mem_of_getElem? (i := 2) rfl
set_option maxHeartbeats 4000000 in
set_option maxRecDepth 100000 in
theorem ccX5_faultOfCell (l : Launch) (dC : Nat → ClassId) (dI : Nat → Nat → Nat) (cyI cyZ cyJ cyB cyO : ClassId) (h_sh a_sh_cells : Nat) (sh_lane : Int32) (sh_size : Int32) (sh_cells : Nat → Int32) (v1 : Int32) (out : Int32) (hp : pX5_faultOfCell v1 sh_size = some out) : Met l yX5_faultOfCell wsX5_faultOfCell ({ frames := 1, cells := 0, slots := 0, locals := 22 } : Room) (px_PR (dC, dI) (px_TY cyI cyZ cyJ cyB cyO) [.ref h_sh, .int v1] (wdX5_faultOfCell cyI cyZ cyJ cyB cyO h_sh a_sh_cells sh_lane sh_size sh_cells)) (px_QR (.int out)) 0 0 (fun _ => False) := by
  refine Met.ofW (cc := cX5_faultOfCell) (maxL := 2) (ret := (some .int)) (by decide) rfl ?_
  intro p e s m args below meth c s₁ B hml hv
  obtain ⟨rfl, hP, hK, hN⟩ := hv
  have hx := B.exec
  have hb := B.bytes
  have hr := B.returns
  have hts := atoms_spec (ws := wsX5_faultOfCell) B.pre
  have hown : s.vm.findClass RX5 = some m.cls := findClass_of_methodNamed B.named
  have hlocks := B.notSynchronized
  have hQ : ∀ (pc : Nat) (ls : Array Slot), decode cX5_faultOfCell pc = .ok (.ireturn, 1) → W p l e ({ frames := 1, cells := 0, slots := 0, locals := 22 } : Room) s m (([.ref h_sh, .int v1] : List Value).toArray) below meth c s.heap [] 0 0 (MQ below (px_QR (.int out)) (([.ref h_sh, .int v1] : List Value).toArray) s 0 0 (fun _ => False)) (F0 m pc ls [.int out]) := fun pc ls hd => W.iret hx hb hr (fun t ht hW => ⟨rfl, ht⟩) (fun q h => by cases h) hd
  generalize MQ below (px_QR (.int out)) (([.ref h_sh, .int v1] : List Value).toArray) s 0 0 (fun _ => False) = Q at hQ ⊢
  have hl := lv_entry [.ref h_sh, .int v1] (n := 2) (Nat.le_of_ble_eq_true rfl)
  rw [lg_entry_eq]
  generalize (lg_sl [.ref h_sh, .int v1] ++ List.replicate (2 - (lg_sl [.ref h_sh, .int v1]).length) Slot.unset).toArray = ls at hl ⊢
  have hl : lv_has ls 2 [(0, .ref h_sh), (1, .int v1)] := hl
  unfold pX5_faultOfCell at hp
  refine lv_aload_n hx hb dX5_faultOfCell_0 rfl (lv_at hl 0 rfl) ?_
  refine va_get (D := (dC, dI)) (ci := 5) (v := .int sh_size) (C := RX5) (T := TX5) (N := 3) hx hb hts fX5_faultOfCell_X5 hown hK hP 0 rfl rfl 2 (by decide) (hts _ kX5_faultOfCell_1) (fun _ h9 => h9) rfl dX5_faultOfCell_1 ?_
  refine lv_if_ge (tgt := 9) hx hb dX5_faultOfCell_4 (by decide) (fun c_1 => ?_) (fun c_1 => ?_)
  · have hp := px_t hp c_1
    refine lv_iload_n hx hb dX5_faultOfCell_9 rfl (lv_at hl 1 rfl) ?_
    refine lv_iconst (v := (0 : Int32)) hx hb dX5_faultOfCell_10 (by decide) ?_
    refine lv_aload_n hx hb dX5_faultOfCell_11 rfl (lv_at hl 0 rfl) ?_
    refine va_get (D := (dC, dI)) (ci := 5) (v := .int sh_size) (C := RX5) (T := TX5) (N := 3) hx hb hts fX5_faultOfCell_X5 hown hK hP 0 rfl rfl 2 (by decide) (hts _ kX5_faultOfCell_1) (fun _ h9 => h9) rfl dX5_faultOfCell_12 ?_
    refine lv_iconst (v := (1 : Int32)) hx hb dX5_faultOfCell_15 (by decide) ?_
    refine lv_isub hx hb dX5_faultOfCell_16 ?_
    obtain ⟨o_2, ho_2, hp⟩ := px_b_at hp
    refine px_callR (v := .int o_2) (va_runSN (host := RX10) (As := [.int v1, .int (0 : Int32), .int (sh_size - (1 : Int32))]) (rest := []) ⟨hx, hb, hml, hown, hts⟩ (ccX10_within l dC dI cyI cyZ cyJ cyB cyO v1 (0 : Int32) (sh_size - (1 : Int32)) o_2 ho_2) ⟨va_cnB 3 hts gX5_faultOfCell_X10_within_n22 rfl rfl rfl hN.2.2.2.2.2.2.2 (hts _ kX5_faultOfCell_3) hsX10_within ⟨Nat.le_of_ble_eq_true rfl, Nat.le_of_ble_eq_true rfl⟩, hts _ kX5_faultOfCell_2, trivial⟩ (px_preR (wc := []) hK hN hP [] rfl) rfl rfl hl.1 rfl (lv_room (Nat.le_of_ble_eq_true rfl)) dX5_faultOfCell_17 ⟨Nat.zero_le _, Nat.zero_le _⟩) ?_
    refine lv_if_eq (tgt := 27) hx hb dX5_faultOfCell_20 (by decide) (fun c_3 => ?_) (fun c_3 => ?_)
    · have hp := px_t hp c_3
      refine lv_iconst (v := (2 : Int32)) hx hb dX5_faultOfCell_27 (by decide) ?_
      have ho := px_s hp
      subst ho
      exact hQ _ _ dX5_faultOfCell_28
    · have hp := px_f hp c_3
      refine lv_iconst (v := (0 : Int32)) hx hb dX5_faultOfCell_23 (by decide) ?_
      refine lv_goto (tgt := 28) hx hb dX5_faultOfCell_24 (by decide) ?_
      have ho := px_s hp
      subst ho
      exact hQ _ _ dX5_faultOfCell_28
  · have hp := px_f hp c_1
    refine lv_iconst (v := (1 : Int32)) hx hb dX5_faultOfCell_7 (by decide) ?_
    have ho := px_s hp
    subst ho
    exact hQ _ _ dX5_faultOfCell_8
/-! TagReader$Sheet.faultOfPair(II)I -/
theorem hvX5_faultOfPair : yX5_faultOfPair.cls = RX5 ∧ yX5_faultOfPair.cls ≠ "java/lang/invoke/MethodHandle" ∧ yX5_faultOfPair.cls ≠ "java/lang/invoke/VarHandle" ∧ (parseMethodDescriptor yX5_faultOfPair.desc).map (fun d => d.parameters.length) = some 2 := by decide +kernel
theorem fX5_faultOfPair_X5 : ∀ w ∈ u_ws RX5 TX5 3, w ∈ wsX5_faultOfPair := fun _ h => List.mem_cons_of_mem _ (List.mem_append_right _ h)
theorem kX5_faultOfPair_1 : (.fieldLink RX5 19 "TagReader$Sheet" "size" "I" : Cond) ∈ wsX5_faultOfPair := List.mem_of_getElem? (i := 1) rfl
theorem kX5_faultOfPair_2 : (.fieldLink RX5 15 "TagReader$Sheet" "lane" "I" : Cond) ∈ wsX5_faultOfPair := List.mem_of_getElem? (i := 2) rfl
set_option maxHeartbeats 4000000 in
set_option maxRecDepth 100000 in
theorem lcX5_faultOfPair_17 {p : Program} {l : Launch} {e : Env} {s : State} {m : MethodId} {args : Array Value} {below : List Frame} {meth : Method} {c : Code} {Q : State → Prop} (dC : Nat → ClassId) (dI : Nat → Nat → Nat) (cyI cyZ cyJ cyB cyO : ClassId) (h_sh a_sh_cells : Nat) (sh_lane : Int32) (sh_size : Int32) (sh_cells : Nat → Int32) (v1 : Int32) (v2 : Int32) (out : Int32) (hx : p.tables.exec = Jvm.exec) (hb : c.code = cX5_faultOfPair) (hml : c.maxLocals = 4) (hts : ∀ w ∈ wsX5_faultOfPair, w.before args s = true) (hown : s.vm.findClass RX5 = some m.cls) (hK : va_K (dC, dI) vwCl (px_TY cyI cyZ cyJ cyB cyO) s) (hN : px_NW s) (hP : va_P (dC, dI) vwCl (wdX5_faultOfPair cyI cyZ cyJ cyB cyO h_sh a_sh_cells sh_lane sh_size sh_cells) s.heap) (hQ : ∀ (pc : Nat) (ls : Array Slot), decode cX5_faultOfPair pc = .ok (.ireturn, 1) → W p l e ({ frames := 2, cells := 0, slots := 0, locals := 43 } : Room) s m args below meth c s.heap [] 0 0 Q (F0 m pc ls [.int out]))  : ∀  (ls : Array Slot), pX5_faultOfPair_17 v1 v2 sh_lane sh_size = some out → lv_has ls 4 [(0, .ref h_sh), (2, .int v2)] → W p l e ({ frames := 2, cells := 0, slots := 0, locals := 43 } : Room) s m args below meth c s.heap [] 0 0 Q (F0 m 17 ls []) := by
  intro ls hp hl
  unfold pX5_faultOfPair_17 at hp
  refine lv_aload_n hx hb dX5_faultOfPair_17 rfl (lv_at hl 0 rfl) ?_
  refine lv_iload_n hx hb dX5_faultOfPair_18 rfl (lv_at hl 1 rfl) ?_
  obtain ⟨o_2, ho_2, hp⟩ := px_b_at hp
  refine px_callR (v := .int o_2) (va_runV (As := [.int v2]) (rest := []) ⟨hx, hb, hml, hown, hts⟩ (ccX5_faultOfCell l dC dI cyI cyZ cyJ cyB cyO h_sh a_sh_cells sh_lane sh_size sh_cells v2 o_2 ho_2) (cwV 1 hts gX5_faultOfPair_X5_faultOfCell rfl rfl rfl hvX5_faultOfCell ⟨Nat.le_of_ble_eq_true rfl, Nat.le_of_ble_eq_true rfl⟩) (px_preRV (wc := (wdX5_faultOfCell cyI cyZ cyJ cyB cyO h_sh a_sh_cells sh_lane sh_size sh_cells)) (ci := 5) (q0 := 0) hK hN hP [0, 1] rfl rfl rfl) rfl rfl hl.1 rfl (lv_room (Nat.le_of_ble_eq_true rfl)) dX5_faultOfPair_19 ⟨Nat.zero_le _, Nat.zero_le _⟩) ?_
  refine lv_istore_n (lv' := [(3, .int o_2), (0, .ref h_sh), (2, .int v2)]) hx hb dX5_faultOfPair_22 rfl hl (by decide) rfl (fun ls hl => ?_)
  refine lv_iload_n hx hb dX5_faultOfPair_23 rfl (lv_at hl 0 rfl) ?_
  refine lv_if_eq (tgt := 31) hx hb dX5_faultOfPair_24 (by decide) (fun c_3 => ?_) (fun c_3 => ?_)
  · have hp := px_t hp c_3
    refine lv_aload_n hx hb dX5_faultOfPair_31 rfl (lv_at hl 1 rfl) ?_
    refine lv_iload_n hx hb dX5_faultOfPair_32 rfl (lv_at hl 2 rfl) ?_
    refine lv_iconst (v := (1 : Int32)) hx hb dX5_faultOfPair_33 (by decide) ?_
    refine lv_iadd hx hb dX5_faultOfPair_34 ?_
    obtain ⟨o_4, ho_4, hp⟩ := px_b_at hp
    refine px_callR (v := .int o_4) (va_runV (As := [.int (v2 + (1 : Int32))]) (rest := []) ⟨hx, hb, hml, hown, hts⟩ (ccX5_faultOfCell l dC dI cyI cyZ cyJ cyB cyO h_sh a_sh_cells sh_lane sh_size sh_cells (v2 + (1 : Int32)) o_4 ho_4) (cwV 1 hts gX5_faultOfPair_X5_faultOfCell rfl rfl rfl hvX5_faultOfCell ⟨Nat.le_of_ble_eq_true rfl, Nat.le_of_ble_eq_true rfl⟩) (px_preRV (wc := (wdX5_faultOfCell cyI cyZ cyJ cyB cyO h_sh a_sh_cells sh_lane sh_size sh_cells)) (ci := 5) (q0 := 0) hK hN hP [0, 1] rfl rfl rfl) rfl rfl hl.1 rfl (lv_room (Nat.le_of_ble_eq_true rfl)) dX5_faultOfPair_35 ⟨Nat.zero_le _, Nat.zero_le _⟩) ?_
    have ho := px_s hp
    subst ho
    exact hQ _ _ dX5_faultOfPair_38
  · have hp := px_f hp c_3
    refine lv_iload_n hx hb dX5_faultOfPair_27 rfl (lv_at hl 0 rfl) ?_
    refine lv_goto (tgt := 38) hx hb dX5_faultOfPair_28 (by decide) ?_
    have ho := px_s hp
    subst ho
    exact hQ _ _ dX5_faultOfPair_38
set_option maxHeartbeats 4000000 in
set_option maxRecDepth 100000 in
theorem ccX5_faultOfPair (l : Launch) (dC : Nat → ClassId) (dI : Nat → Nat → Nat) (cyI cyZ cyJ cyB cyO : ClassId) (h_sh a_sh_cells : Nat) (sh_lane : Int32) (sh_size : Int32) (sh_cells : Nat → Int32) (v1 : Int32) (v2 : Int32) (out : Int32) (hp : pX5_faultOfPair v1 v2 sh_lane sh_size = some out) : Met l yX5_faultOfPair wsX5_faultOfPair ({ frames := 2, cells := 0, slots := 0, locals := 43 } : Room) (px_PR (dC, dI) (px_TY cyI cyZ cyJ cyB cyO) [.ref h_sh, .int v1, .int v2] (wdX5_faultOfPair cyI cyZ cyJ cyB cyO h_sh a_sh_cells sh_lane sh_size sh_cells)) (px_QR (.int out)) 0 0 (fun _ => False) := by
  refine Met.ofW (cc := cX5_faultOfPair) (maxL := 4) (ret := (some .int)) (by decide) rfl ?_
  intro p e s m args below meth c s₁ B hml hv
  obtain ⟨rfl, hP, hK, hN⟩ := hv
  have hx := B.exec
  have hb := B.bytes
  have hr := B.returns
  have hts := atoms_spec (ws := wsX5_faultOfPair) B.pre
  have hown : s.vm.findClass RX5 = some m.cls := findClass_of_methodNamed B.named
  have hlocks := B.notSynchronized
  have hQ : ∀ (pc : Nat) (ls : Array Slot), decode cX5_faultOfPair pc = .ok (.ireturn, 1) → W p l e ({ frames := 2, cells := 0, slots := 0, locals := 43 } : Room) s m (([.ref h_sh, .int v1, .int v2] : List Value).toArray) below meth c s.heap [] 0 0 (MQ below (px_QR (.int out)) (([.ref h_sh, .int v1, .int v2] : List Value).toArray) s 0 0 (fun _ => False)) (F0 m pc ls [.int out]) := fun pc ls hd => W.iret hx hb hr (fun t ht hW => ⟨rfl, ht⟩) (fun q h => by cases h) hd
  generalize MQ below (px_QR (.int out)) (([.ref h_sh, .int v1, .int v2] : List Value).toArray) s 0 0 (fun _ => False) = Q at hQ ⊢
  have hl := lv_entry [.ref h_sh, .int v1, .int v2] (n := 4) (Nat.le_of_ble_eq_true rfl)
  rw [lg_entry_eq]
  generalize (lg_sl [.ref h_sh, .int v1, .int v2] ++ List.replicate (4 - (lg_sl [.ref h_sh, .int v1, .int v2]).length) Slot.unset).toArray = ls at hl ⊢
  have hl : lv_has ls 4 [(0, .ref h_sh), (1, .int v1), (2, .int v2)] := hl
  unfold pX5_faultOfPair at hp
  refine lv_aload_n hx hb dX5_faultOfPair_0 rfl (lv_at hl 0 rfl) ?_
  refine va_get (D := (dC, dI)) (ci := 5) (v := .int sh_size) (C := RX5) (T := TX5) (N := 3) hx hb hts fX5_faultOfPair_X5 hown hK hP 0 rfl rfl 2 (by decide) (hts _ kX5_faultOfPair_1) (fun _ h9 => h9) rfl dX5_faultOfPair_1 ?_
  refine lv_if_lt (tgt := 17) hx hb dX5_faultOfPair_4 (by decide) (fun c_1 => ?_) (fun c_1 => ?_)
  · have hp := px_t hp c_1
    exact lcX5_faultOfPair_17 dC dI cyI cyZ cyJ cyB cyO h_sh a_sh_cells sh_lane sh_size sh_cells v1 v2 out hx hb hml hts hown hK hN hP hQ ls hp (lv_sub hl [0, 2] rfl)
  · have hp := px_f hp c_1
    refine lv_iload_n hx hb dX5_faultOfPair_7 rfl (lv_at hl 1 rfl) ?_
    refine lv_aload_n hx hb dX5_faultOfPair_8 rfl (lv_at hl 0 rfl) ?_
    refine va_get (D := (dC, dI)) (ci := 5) (v := .int sh_lane) (C := RX5) (T := TX5) (N := 3) hx hb hts fX5_faultOfPair_X5 hown hK hP 0 rfl rfl 1 (by decide) (hts _ kX5_faultOfPair_2) (fun _ h9 => h9) rfl dX5_faultOfPair_9 ?_
    refine lv_icmp_eq (tgt := 17) hx hb dX5_faultOfPair_12 (by decide) (fun c_5 => ?_) (fun c_5 => ?_)
    · have hp := px_t hp c_5
      exact lcX5_faultOfPair_17 dC dI cyI cyZ cyJ cyB cyO h_sh a_sh_cells sh_lane sh_size sh_cells v1 v2 out hx hb hml hts hown hK hN hP hQ ls hp (lv_sub hl [0, 2] rfl)
    · have hp := px_f hp c_5
      refine lv_iconst (v := (3 : Int32)) hx hb dX5_faultOfPair_15 (by decide) ?_
      have ho := px_s hp
      subst ho
      exact hQ _ _ dX5_faultOfPair_16
/-! TagReader$Sheet.put(II)V -/
theorem hvX5_put : yX5_put.cls = RX5 ∧ yX5_put.cls ≠ "java/lang/invoke/MethodHandle" ∧ yX5_put.cls ≠ "java/lang/invoke/VarHandle" ∧ (parseMethodDescriptor yX5_put.desc).map (fun d => d.parameters.length) = some 2 := by decide +kernel
theorem fX5_put_X5 : ∀ w ∈ u_ws RX5 TX5 3, w ∈ wsX5_put := fun _ h => List.mem_cons_of_mem _ (List.mem_append_right _ h)
theorem kX5_put_1 : (.fieldLink RX5 15 "TagReader$Sheet" "lane" "I" : Cond) ∈ wsX5_put := List.mem_of_getElem? (i := 1) rfl
theorem kX5_put_2 : (.fieldLink RX5 9 "TagReader$Sheet" "cells" "[I" : Cond) ∈ wsX5_put := List.mem_of_getElem? (i := 2) rfl
set_option maxHeartbeats 4000000 in
set_option maxRecDepth 100000 in
theorem ccX5_put (l : Launch) (dC : Nat → ClassId) (dI : Nat → Nat → Nat) (cyI cyZ cyJ cyB cyO : ClassId) (sz : Nat) (h_sh a_sh_cells : Nat) (sh_lane : Int32) (sh_size : Int32) (sh_cells : Nat → Int32) (v1 : Int32) (v2 : Int32) (out : (Nat → Int32)) (hp : pX5_put v1 v2 sh_lane sh_size sh_cells = some out) : Met l yX5_put wsX5_put ({ frames := 2, cells := 0, slots := 0, locals := 43 } : Room) (px_PW (dC, dI) (px_TY cyI cyZ cyJ cyB cyO) [.ref h_sh, .int v1, .int v2] (wdX5_put cyI cyZ cyJ cyB cyO h_sh a_sh_cells sh_lane sh_size sh_cells) sz) (px_QW none (dC, dI) (wdX5_put cyI cyZ cyJ cyB cyO h_sh a_sh_cells sh_lane sh_size sh_cells) (wdX5_put cyI cyZ cyJ cyB cyO h_sh a_sh_cells sh_lane sh_size out) sz) 0 0 (va_A (wdX5_put cyI cyZ cyJ cyB cyO h_sh a_sh_cells sh_lane sh_size sh_cells) sz) := by
  refine Met.ofW (cc := cX5_put) (maxL := 3) (ret := none) (by decide) rfl ?_
  intro p e s m args below meth c s₁ B hml hv
  obtain ⟨rfl, hsz, hP, hK, hD0, hN⟩ := hv
  have hx := B.exec
  have hb := B.bytes
  have hr := B.returns
  have hts := atoms_spec (ws := wsX5_put) B.pre
  have hown : s.vm.findClass RX5 = some m.cls := findClass_of_methodNamed B.named
  have hlocks := B.notSynchronized
  subst hsz
  have hD := hD0.self (sz := s.heap.size)
  generalize hAe : va_A (wdX5_put cyI cyZ cyJ cyB cyO h_sh a_sh_cells sh_lane sh_size sh_cells) s.heap.size = A at hD ⊢
  have hA : ∀ q : Nat, s.heap.size ≤ q → A q := fun q h => by rw [← hAe]; exact Or.inr h
  have hS : va_S A s.heap s.heap [] := va_S.rf
  have hq := px_QWe (v := none) (D := (dC, dI)) (w1 := (wdX5_put cyI cyZ cyJ cyB cyO h_sh a_sh_cells sh_lane sh_size out)) (st := s) hAe
  generalize px_QW none (dC, dI) (wdX5_put cyI cyZ cyJ cyB cyO h_sh a_sh_cells sh_lane sh_size sh_cells) (wdX5_put cyI cyZ cyJ cyB cyO h_sh a_sh_cells sh_lane sh_size out) s.heap.size = Qc at hq ⊢
  have hQ : ∀ (H : Heap) (locs : List Loc) (pc : Nat) (ls : Array Slot), va_P (dC, dI) vwCl (wdX5_put cyI cyZ cyJ cyB cyO h_sh a_sh_cells sh_lane sh_size out) H → va_D A (wdX5_put cyI cyZ cyJ cyB cyO h_sh a_sh_cells sh_lane sh_size out) → va_S A s.heap H locs → decode cX5_put pc = .ok (.return_, 1) → W p l e ({ frames := 2, cells := 0, slots := 0, locals := 43 } : Room) s m (([.ref h_sh, .int v1, .int v2] : List Value).toArray) below meth c H locs 0 0 (MQ below Qc (([.ref h_sh, .int v1, .int v2] : List Value).toArray) s 0 0 A) (F0 m pc ls []) := fun H locs pc ls hP hD hS hd => W.vret hx hb hr (fun t ht hW => hq _ t (by rw [ht]; exact hP) hD (hS.F ht)) hS.2.2 hd
  generalize MQ below Qc (([.ref h_sh, .int v1, .int v2] : List Value).toArray) s 0 0 A = Q at hQ ⊢
  have hl := lv_entry [.ref h_sh, .int v1, .int v2] (n := 3) (Nat.le_of_ble_eq_true rfl)
  rw [lg_entry_eq]
  generalize (lg_sl [.ref h_sh, .int v1, .int v2] ++ List.replicate (3 - (lg_sl [.ref h_sh, .int v1, .int v2]).length) Slot.unset).toArray = ls at hl ⊢
  have hl : lv_has ls 3 [(0, .ref h_sh), (1, .int v1), (2, .int v2)] := hl
  unfold pX5_put at hp
  refine lv_aload_n hx hb dX5_put_0 rfl (lv_at hl 0 rfl) ?_
  refine lv_iload_n hx hb dX5_put_1 rfl (lv_at hl 1 rfl) ?_
  obtain ⟨o_1, ho_1, hp⟩ := px_b_at hp
  refine px_callR (v := .int o_1) (va_runV (As := [.int v1]) (rest := []) ⟨hx, hb, hml, hown, hts⟩ (ccX5_faultOfCell l dC dI cyI cyZ cyJ cyB cyO h_sh a_sh_cells sh_lane sh_size sh_cells v1 o_1 ho_1) (cwV 1 hts gX5_put_X5_faultOfCell rfl rfl rfl hvX5_faultOfCell ⟨Nat.le_of_ble_eq_true rfl, Nat.le_of_ble_eq_true rfl⟩) (px_preRV (wc := (wdX5_faultOfCell cyI cyZ cyJ cyB cyO h_sh a_sh_cells sh_lane sh_size sh_cells)) (ci := 5) (q0 := 0) hK hN hP [0, 1] rfl rfl rfl) rfl rfl hl.1 rfl (lv_room (Nat.le_of_ble_eq_true rfl)) dX5_put_2 ⟨Nat.zero_le _, Nat.zero_le _⟩) ?_
  refine lv_if_eq (tgt := 9) hx hb dX5_put_5 (by decide) (fun c_2 => ?_) (fun c_2 => ?_)
  · have hp := px_t hp c_2
    refine lv_aload_n hx hb dX5_put_9 rfl (lv_at hl 0 rfl) ?_
    refine va_get (D := (dC, dI)) (ci := 5) (v := .int sh_lane) (C := RX5) (T := TX5) (N := 3) hx hb hts fX5_put_X5 hown hK hP 0 rfl rfl 1 (by decide) (hts _ kX5_put_1) (fun _ h9 => h9) rfl dX5_put_10 ?_
    refine lv_if_ne (tgt := 27) hx hb dX5_put_13 (by decide) (fun c_3 => ?_) (fun c_3 => ?_)
    · have hp := px_f hp c_3
      refine lv_aload_n hx hb dX5_put_27 rfl (lv_at hl 0 rfl) ?_
      refine va_get (D := (dC, dI)) (ci := 5) (v := .int sh_lane) (C := RX5) (T := TX5) (N := 3) hx hb hts fX5_put_X5 hown hK hP 0 rfl rfl 1 (by decide) (hts _ kX5_put_1) (fun _ h9 => h9) rfl dX5_put_28 ?_
      refine lv_iconst (v := (1 : Int32)) hx hb dX5_put_31 (by decide) ?_
      refine lv_icmp_ne (tgt := 46) hx hb dX5_put_32 (by decide) (fun c_4 => ?_) (fun c_4 => ?_)
      · have hp := px_f hp c_4
        refine lv_aload_n hx hb dX5_put_46 rfl (lv_at hl 0 rfl) ?_
        refine va_get (D := (dC, dI)) (ci := 5) (v := .ref a_sh_cells) (C := RX5) (T := TX5) (N := 3) hx hb hts fX5_put_X5 hown hK hP 0 rfl rfl 0 (by decide) (hts _ kX5_put_2) (fun _ h9 => h9) rfl dX5_put_47 ?_
        refine lv_iload_n hx hb dX5_put_50 rfl (lv_at hl 1 rfl) ?_
        refine lv_iload_n hx hb dX5_put_51 rfl (lv_at hl 2 rfl) ?_
        obtain ⟨g_5, hp⟩ := px_i_at hp
        refine va_iast (D := (dC, dI)) hx hb hK hP hD hS 1 0 rfl rfl g_5 dX5_put_52 (fun H locs hP hD hS => ?_)
        have hP : va_P (dC, dI) vwCl (wdX5_put cyI cyZ cyJ cyB cyO h_sh a_sh_cells sh_lane sh_size (upd sh_cells (Int32.toNatClampNeg v1) v2)) H := hP
        have hD : va_D A (wdX5_put cyI cyZ cyJ cyB cyO h_sh a_sh_cells sh_lane sh_size (upd sh_cells (Int32.toNatClampNeg v1) v2)) := hD
        have ho := px_s hp
        subst ho
        exact hQ _ _ _ _ hP hD hS dX5_put_53
      · have hp := px_t hp c_4
        refine lv_aload_n hx hb dX5_put_35 rfl (lv_at hl 0 rfl) ?_
        refine va_get (D := (dC, dI)) (ci := 5) (v := .ref a_sh_cells) (C := RX5) (T := TX5) (N := 3) hx hb hts fX5_put_X5 hown hK hP 0 rfl rfl 0 (by decide) (hts _ kX5_put_2) (fun _ h9 => h9) rfl dX5_put_36 ?_
        refine lv_iload_n hx hb dX5_put_39 rfl (lv_at hl 1 rfl) ?_
        refine lv_iload_n hx hb dX5_put_40 rfl (lv_at hl 2 rfl) ?_
        refine lv_i2s hx hb dX5_put_41 rfl ?_
        obtain ⟨g_6, hp⟩ := px_i_at hp
        refine va_iast (D := (dC, dI)) hx hb hK hP hD hS 1 0 rfl rfl g_6 dX5_put_42 (fun H locs hP hD hS => ?_)
        have hP : va_P (dC, dI) vwCl (wdX5_put cyI cyZ cyJ cyB cyO h_sh a_sh_cells sh_lane sh_size (upd sh_cells (Int32.toNatClampNeg v1) (Int16.toInt32 (Int32.toInt16 v2)))) H := hP
        have hD : va_D A (wdX5_put cyI cyZ cyJ cyB cyO h_sh a_sh_cells sh_lane sh_size (upd sh_cells (Int32.toNatClampNeg v1) (Int16.toInt32 (Int32.toInt16 v2)))) := hD
        refine lv_goto (tgt := 53) hx hb dX5_put_43 (by decide) ?_
        have ho := px_s hp
        subst ho
        exact hQ _ _ _ _ hP hD hS dX5_put_53
    · have hp := px_t hp c_3
      refine lv_aload_n hx hb dX5_put_16 rfl (lv_at hl 0 rfl) ?_
      refine va_get (D := (dC, dI)) (ci := 5) (v := .ref a_sh_cells) (C := RX5) (T := TX5) (N := 3) hx hb hts fX5_put_X5 hown hK hP 0 rfl rfl 0 (by decide) (hts _ kX5_put_2) (fun _ h9 => h9) rfl dX5_put_17 ?_
      refine lv_iload_n hx hb dX5_put_20 rfl (lv_at hl 1 rfl) ?_
      refine lv_iload_n hx hb dX5_put_21 rfl (lv_at hl 2 rfl) ?_
      refine lv_i2b hx hb dX5_put_22 rfl ?_
      obtain ⟨g_7, hp⟩ := px_i_at hp
      refine va_iast (D := (dC, dI)) hx hb hK hP hD hS 1 0 rfl rfl g_7 dX5_put_23 (fun H locs hP hD hS => ?_)
      have hP : va_P (dC, dI) vwCl (wdX5_put cyI cyZ cyJ cyB cyO h_sh a_sh_cells sh_lane sh_size (upd sh_cells (Int32.toNatClampNeg v1) (Int8.toInt32 (Int32.toInt8 v2)))) H := hP
      have hD : va_D A (wdX5_put cyI cyZ cyJ cyB cyO h_sh a_sh_cells sh_lane sh_size (upd sh_cells (Int32.toNatClampNeg v1) (Int8.toInt32 (Int32.toInt8 v2)))) := hD
      refine lv_goto (tgt := 53) hx hb dX5_put_24 (by decide) ?_
      have ho := px_s hp
      subst ho
      exact hQ _ _ _ _ hP hD hS dX5_put_53
  · have hp := px_f hp c_2
    have ho := px_s hp
    subst ho
    exact hQ _ _ _ _ hP hD hS dX5_put_8
