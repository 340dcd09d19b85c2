/-! TagReader$Tape.add(J)V -/
def pX7_add_3B (v1 : Int64) (K_3 : Int32 → Int32 → (Nat → Int32) → Option (Int32 × (Nat → Int32))) (v3 : Int32) (tp_length : Int32) (tp_bytes : Nat → Int32) : Option (Int32 × (Nat → Int32)) := (if v3 < (0 : Int32) then some (tp_length, tp_bytes) else (if (200 : Int32) ≤ tp_length then some (tp_length, tp_bytes) else px_lt (Int8.toInt32 (Int32.toInt8 (Int64.toInt32 (v1 >>> (Int32.toInt64 v3 &&& (63 : Int64)))))) (fun x_3 => px_i tp_length 200 (K_3 (v3 + (-8 : Int32)) (tp_length + (1 : Int32)) (upd tp_bytes (Int32.toNatClampNeg tp_length) (vp_nar .byte x_3))))))
def pX7_add_3 (v1 : Int64) : Nat → Int32 → Int32 → (Nat → Int32) → Option (Int32 × (Nat → Int32))
  | 0, _, _, _ => none
  | n + 1, v3, tp_length, tp_bytes => pX7_add_3B v1 (pX7_add_3 v1 n) v3 tp_length tp_bytes
def pX7_add (v1 : Int64) (tp_length : Int32) (tp_bytes : Nat → Int32) : Option (Int32 × (Nat → Int32)) := pX7_add_3 v1 px_FU (56 : Int32) tp_length tp_bytes
abbrev wdX7_add (cyI cyZ cyJ cyB cyO : ClassId) (h_tp a_tp_bytes : Nat) (tp_length : Int32) (tp_kind : Int32) (tp_start : Int32) (tp_value : Int32) (tp_place : Int32) (tp_bytes : Nat → Int32) : va_W := [(h_tp, .inr (7, [.ref a_tp_bytes, .int tp_length, .int tp_kind, .int tp_start, .int tp_value, .int tp_place])), (a_tp_bytes, .inl (cyB, 200, .inl tp_bytes))]
/-! TagReader$Tape.rewind()V -/
def pX7_rewind (tp_place : Int32) : Option (Int32) := some (0 : Int32)
abbrev wdX7_rewind (cyI cyZ cyJ cyB cyO : ClassId) (h_tp a_tp_bytes : Nat) (tp_length : Int32) (tp_kind : Int32) (tp_start : Int32) (tp_value : Int32) (tp_place : Int32) (tp_bytes : Nat → Int32) : va_W := [(h_tp, .inr (7, [.ref a_tp_bytes, .int tp_length, .int tp_kind, .int tp_start, .int tp_value, .int tp_place])), (a_tp_bytes, .inl (cyB, 200, .inl tp_bytes))]
/-! TagReader$Tape.byteAt(I)I -/
def pX7_byteAt (v1 : Int32) (tp_length : Int32) (tp_bytes : Nat → Int32) : Option (Int32) := (if v1 < (0 : Int32) then some (0 : Int32) else (if tp_length ≤ v1 then some (0 : Int32) else (if (200 : Int32) ≤ v1 then some (0 : Int32) else px_i v1 200 (some (tp_bytes (Int32.toNatClampNeg v1))))))
abbrev wdX7_byteAt (cyI cyZ cyJ cyB cyO : ClassId) (h_tp a_tp_bytes : Nat) (tp_length : Int32) (tp_kind : Int32) (tp_start : Int32) (tp_value : Int32) (tp_place : Int32) (tp_bytes : Nat → Int32) : va_W := [(h_tp, .inr (7, [.ref a_tp_bytes, .int tp_length, .int tp_kind, .int tp_start, .int tp_value, .int tp_place])), (a_tp_bytes, .inl (cyB, 200, .inl tp_bytes))]
/-! TagReader$Tape.isLetterAt(I)Z -/
def pX7_isLetterAt (v1 : Int32) (tp_length : Int32) (tp_bytes : Nat → Int32) : Option (Int32) := px_b (pX7_byteAt v1 tp_length tp_bytes) (fun o_1 => px_b (pX10_within o_1 (97 : Int32) (122 : Int32)) (fun o_2 => px_o o_2 (some o_2)))
abbrev wdX7_isLetterAt (cyI cyZ cyJ cyB cyO : ClassId) (h_tp a_tp_bytes : Nat) (tp_length : Int32) (tp_kind : Int32) (tp_start : Int32) (tp_value : Int32) (tp_place : Int32) (tp_bytes : Nat → Int32) : va_W := [(h_tp, .inr (7, [.ref a_tp_bytes, .int tp_length, .int tp_kind, .int tp_start, .int tp_value, .int tp_place])), (a_tp_bytes, .inl (cyB, 200, .inl tp_bytes))]
/-! TagReader$Tape.isFigureAt(I)Z -/
def pX7_isFigureAt (v1 : Int32) (tp_length : Int32) (tp_bytes : Nat → Int32) : Option (Int32) := px_b (pX7_byteAt v1 tp_length tp_bytes) (fun o_1 => px_b (pX10_within o_1 (48 : Int32) (57 : Int32)) (fun o_2 => px_o o_2 (some o_2)))
abbrev wdX7_isFigureAt (cyI cyZ cyJ cyB cyO : ClassId) (h_tp a_tp_bytes : Nat) (tp_length : Int32) (tp_kind : Int32) (tp_start : Int32) (tp_value : Int32) (tp_place : Int32) (tp_bytes : Nat → Int32) : va_W := [(h_tp, .inr (7, [.ref a_tp_bytes, .int tp_length, .int tp_kind, .int tp_start, .int tp_value, .int tp_place])), (a_tp_bytes, .inl (cyB, 200, .inl tp_bytes))]
/-! TagReader$Tape.readNumber()V -/
def pX7_readNumber_63 (tp_length : Int32) (tp_start : Int32) (tp_bytes : Nat → Int32) (tp_kind : Int32) (tp_value : Int32) (tp_place : Int32) : Option (Int32 × Int32 × Int32) := (if (tp_place - tp_start) ≤ (4 : Int32) then some ((2 : Int32), tp_value, tp_place) else some ((0 : Int32), tp_value, tp_place))
def pX7_readNumber_5B (tp_length : Int32) (tp_start : Int32) (tp_bytes : Nat → Int32) (K_5 : Int32 → Int32 → Int32 → Option (Int32 × Int32 × Int32)) (tp_kind : Int32) (tp_value : Int32) (tp_place : Int32) : Option (Int32 × Int32 × Int32) := (if tp_length ≤ tp_place then pX7_readNumber_63 tp_length tp_start tp_bytes tp_kind tp_value tp_place else px_b (pX7_isFigureAt tp_place tp_length tp_bytes) (fun o_3 => (if o_3 = (0 : Int32) then pX7_readNumber_63 tp_length tp_start tp_bytes tp_kind tp_value tp_place else px_b (pX7_byteAt tp_place tp_length tp_bytes) (fun o_5 => K_5 tp_kind (((tp_value * (10 : Int32)) + o_5) - (48 : Int32)) (tp_place + (1 : Int32))))))
def pX7_readNumber_5 (tp_length : Int32) (tp_start : Int32) (tp_bytes : Nat → Int32) : Nat → Int32 → Int32 → Int32 → Option (Int32 × Int32 × Int32)
  | 0, _, _, _ => none
  | n + 1, tp_kind, tp_value, tp_place => pX7_readNumber_5B tp_length tp_start tp_bytes (pX7_readNumber_5 tp_length tp_start tp_bytes n) tp_kind tp_value tp_place
def pX7_readNumber (tp_length : Int32) (tp_start : Int32) (tp_bytes : Nat → Int32) (tp_kind : Int32) (tp_value : Int32) (tp_place : Int32) : Option (Int32 × Int32 × Int32) := pX7_readNumber_5 tp_length tp_start tp_bytes px_FU tp_kind (0 : Int32) tp_place
abbrev wdX7_readNumber (cyI cyZ cyJ cyB cyO : ClassId) (h_tp a_tp_bytes : Nat) (tp_length : Int32) (tp_kind : Int32) (tp_start : Int32) (tp_value : Int32) (tp_place : Int32) (tp_bytes : Nat → Int32) : va_W := [(h_tp, .inr (7, [.ref a_tp_bytes, .int tp_length, .int tp_kind, .int tp_start, .int tp_value, .int tp_place])), (a_tp_bytes, .inl (cyB, 200, .inl tp_bytes))]
/-! TagReader$Tape.add(J)V -/
theorem hvX7_add : yX7_add.cls = RX7 ∧ yX7_add.cls ≠ "java/lang/invoke/MethodHandle" ∧ yX7_add.cls ≠ "java/lang/invoke/VarHandle" ∧ (parseMethodDescriptor yX7_add.desc).map (fun d => d.parameters.length) = some 1 := by decide +kernel
theorem fX7_add_X7 : ∀ w ∈ u_ws RX7 TX7 6, w ∈ wsX7_add := fun _ h => List.mem_cons_of_mem _ (List.mem_append_right _ h)
theorem kX7_add_1 : (.fieldLink RX7 15 "TagReader$Tape" "length" "I" : Cond) ∈ wsX7_add := List.mem_of_getElem? (i := 1) rfl
theorem kX7_add_2 : (.fieldLink RX7 9 "TagReader$Tape" "bytes" "[B" : Cond) ∈ wsX7_add := List.mem_of_getElem? (i := 2) rfl
set_option maxHeartbeats 4000000 in
set_option maxRecDepth 100000 in
theorem lcX7_add_3B {p : Program} {l : Launch} {e : Env} {s : State} {m : MethodId} {args : Array Value} {below : List Frame} {meth : Method} {c : Code} {Q : State → Prop} {A : Nat → Prop} (dC : Nat → ClassId) (dI : Nat → Nat → Nat) (cyI cyZ cyJ cyB cyO : ClassId) (h_tp a_tp_bytes : Nat) (tp_length : Int32) (tp_kind : Int32) (tp_start : Int32) (tp_value : Int32) (tp_place : Int32) (tp_bytes : Nat → Int32) (v1 : Int64) (out : Int32 × (Nat → Int32)) (hx : p.tables.exec = Jvm.exec) (hb : c.code = cX7_add) (hml : c.maxLocals = 4) (hts : ∀ w ∈ wsX7_add, w.before args s = true) (hown : s.vm.findClass RX7 = some m.cls) (hK : va_K (dC, dI) vwCl (px_TY cyI cyZ cyJ cyB cyO) s) (hN : px_NW s) (hA : ∀ q : Nat, s.heap.size ≤ q → A q) (hQ : ∀ (H : Heap) (locs : List Loc) (pc : Nat) (ls : Array Slot), va_P (dC, dI) vwCl (wdX7_add cyI cyZ cyJ cyB cyO h_tp a_tp_bytes out.1 tp_kind tp_start tp_value tp_place out.2) H → va_D A (wdX7_add cyI cyZ cyJ cyB cyO h_tp a_tp_bytes out.1 tp_kind tp_start tp_value tp_place out.2) → va_S A s.heap H locs → decode cX7_add pc = .ok (.return_, 1) → W p l e ({ frames := 0, cells := 0, slots := 0, locals := 0 } : Room) s m args below meth c H locs 0 0 Q (F0 m pc ls []))  (K_3 : Int32 → Int32 → (Nat → Int32) → Option (Int32 × (Nat → Int32))) (hK_3 : ∀ (v3 : Int32) (tp_length : Int32) (tp_bytes : Nat → Int32) (H : Heap) (locs : List Loc) (ls : Array Slot), K_3 v3 tp_length tp_bytes = some out → va_P (dC, dI) vwCl (wdX7_add cyI cyZ cyJ cyB cyO h_tp a_tp_bytes tp_length tp_kind tp_start tp_value tp_place tp_bytes) H → va_D A (wdX7_add cyI cyZ cyJ cyB cyO h_tp a_tp_bytes tp_length tp_kind tp_start tp_value tp_place tp_bytes) → va_S A s.heap H locs → lv_has ls 4 [(0, .ref h_tp), (1, .long v1), (3, .int v3)] → W p l e ({ frames := 0, cells := 0, slots := 0, locals := 0 } : Room) s m args below meth c H locs 0 0 Q (F0 m 3 ls [])) : ∀ (v3 : Int32) (tp_length : Int32) (tp_bytes : Nat → Int32) (H : Heap) (locs : List Loc) (ls : Array Slot), pX7_add_3B v1 K_3 v3 tp_length tp_bytes = some out → va_P (dC, dI) vwCl (wdX7_add cyI cyZ cyJ cyB cyO h_tp a_tp_bytes tp_length tp_kind tp_start tp_value tp_place tp_bytes) H → va_D A (wdX7_add cyI cyZ cyJ cyB cyO h_tp a_tp_bytes tp_length tp_kind tp_start tp_value tp_place tp_bytes) → va_S A s.heap H locs → lv_has ls 4 [(0, .ref h_tp), (1, .long v1), (3, .int v3)] → W p l e ({ frames := 0, cells := 0, slots := 0, locals := 0 } : Room) s m args below meth c H locs 0 0 Q (F0 m 3 ls []) := by
  intro v3 tp_length tp_bytes H locs ls hp hP hD hS hl
  unfold pX7_add_3B at hp
  refine lv_iload_n hx hb dX7_add_3 rfl (lv_at hl 2 rfl) ?_
  refine lv_if_lt (tgt := 47) hx hb dX7_add_4 (by decide) (fun c_1 => ?_) (fun c_1 => ?_)
  · have hp := px_t hp c_1
    have ho := px_s hp
    subst ho
    exact hQ _ _ _ _ hP hD hS dX7_add_47
  · have hp := px_f hp c_1
    refine lv_aload_n hx hb dX7_add_7 rfl (lv_at hl 0 rfl) ?_
    refine va_get (D := (dC, dI)) (ci := 7) (v := .int tp_length) (C := RX7) (T := TX7) (N := 6) hx hb hts fX7_add_X7 hown hK hP 0 rfl rfl 1 (by decide) (hts _ kX7_add_1) (fun _ h9 => h9) rfl dX7_add_8 ?_
    refine lv_sipush (v := (200 : Int32)) hx hb dX7_add_11 (by decide) ?_
    refine lv_icmp_ge (tgt := 47) hx hb dX7_add_14 (by decide) (fun c_2 => ?_) (fun c_2 => ?_)
    · have hp := px_t hp c_2
      have ho := px_s hp
      subst ho
      exact hQ _ _ _ _ hP hD hS dX7_add_47
    · have hp := px_f hp c_2
      refine lv_aload_n hx hb dX7_add_17 rfl (lv_at hl 0 rfl) ?_
      refine va_get (D := (dC, dI)) (ci := 7) (v := .ref a_tp_bytes) (C := RX7) (T := TX7) (N := 6) hx hb hts fX7_add_X7 hown hK hP 0 rfl rfl 0 (by decide) (hts _ kX7_add_2) (fun _ h9 => h9) rfl dX7_add_18 ?_
      refine lv_aload_n hx hb dX7_add_21 rfl (lv_at hl 0 rfl) ?_
      refine va_get (D := (dC, dI)) (ci := 7) (v := .int tp_length) (C := RX7) (T := TX7) (N := 6) hx hb hts fX7_add_X7 hown hK hP 0 rfl rfl 1 (by decide) (hts _ kX7_add_1) (fun _ h9 => h9) rfl dX7_add_22 ?_
      refine lv_lload_n hx hb dX7_add_25 rfl (lv_at hl 1 rfl) ?_
      refine lv_iload_n hx hb dX7_add_26 rfl (lv_at hl 2 rfl) ?_
      refine lv_lshr hx hb dX7_add_27 rfl ?_
      refine lv_l2i hx hb dX7_add_28 rfl ?_
      refine lv_i2b hx hb dX7_add_29 rfl ?_
      refine lv_topi (fun x_3 ex_3 => ?_)
      have hp := px_lt_at hp ex_3
      obtain ⟨g_4, hp⟩ := px_i_at hp
      refine va_bast (D := (dC, dI)) hx hb hK hP hD hS 1 3 rfl rfl g_4 dX7_add_30 (fun H locs hP hD hS => ?_)
      have hP : va_P (dC, dI) vwCl (wdX7_add cyI cyZ cyJ cyB cyO h_tp a_tp_bytes tp_length tp_kind tp_start tp_value tp_place (upd tp_bytes (Int32.toNatClampNeg tp_length) (vp_nar .byte x_3))) H := hP
      have hD : va_D A (wdX7_add cyI cyZ cyJ cyB cyO h_tp a_tp_bytes tp_length tp_kind tp_start tp_value tp_place (upd tp_bytes (Int32.toNatClampNeg tp_length) (vp_nar .byte x_3))) := hD
      refine lv_aload_n hx hb dX7_add_31 rfl (lv_at hl 0 rfl) ?_
      refine lv_dup hx hb dX7_add_32 rfl ?_
      refine va_get (D := (dC, dI)) (ci := 7) (v := .int tp_length) (C := RX7) (T := TX7) (N := 6) hx hb hts fX7_add_X7 hown hK hP 0 rfl rfl 1 (by decide) (hts _ kX7_add_1) (fun _ h9 => h9) rfl dX7_add_33 ?_
      refine lv_iconst (v := (1 : Int32)) hx hb dX7_add_36 (by decide) ?_
      refine lv_iadd hx hb dX7_add_37 ?_
      refine va_put (D := (dC, dI)) (ci := 7) (v := .int (tp_length + (1 : Int32))) (ty := .int) (C := RX7) (T := TX7) (N := 6) hx hb hts fX7_add_X7 tyX7 tyX7_ok nmX7 hown hK hP hD hS 0 rfl rfl 1 (by decide) (hts _ kX7_add_1) (fun _ h9 => h9) rfl (tyX7_ok 1 (by decide)) rfl rfl (Nat.le_of_ble_eq_true rfl) dX7_add_38 (fun H locs hP hD hS => ?_)
      have hP : va_P (dC, dI) vwCl (wdX7_add cyI cyZ cyJ cyB cyO h_tp a_tp_bytes (tp_length + (1 : Int32)) tp_kind tp_start tp_value tp_place (upd tp_bytes (Int32.toNatClampNeg tp_length) (vp_nar .byte x_3))) H := hP
      have hD : va_D A (wdX7_add cyI cyZ cyJ cyB cyO h_tp a_tp_bytes (tp_length + (1 : Int32)) tp_kind tp_start tp_value tp_place (upd tp_bytes (Int32.toNatClampNeg tp_length) (vp_nar .byte x_3))) := hD
      refine lv_iinc (v := (v3 + (-8 : Int32))) (lv' := [(3, .int (v3 + (-8 : Int32))), (0, .ref h_tp), (1, .long v1)]) hx hb dX7_add_41 hl (k := 2) rfl rfl (by decide) rfl (fun ls hl => ?_)
      refine lv_goto (tgt := 3) hx hb dX7_add_44 (by decide) ?_
      exact hK_3 (v3 + (-8 : Int32)) (tp_length + (1 : Int32)) (upd tp_bytes (Int32.toNatClampNeg tp_length) (vp_nar .byte x_3)) _ _ ls hp hP hD hS (lv_sub hl [1, 2, 0] rfl)
theorem lcX7_add_3 {p : Program} {l : Launch} {e : Env} {s : State} {m : MethodId} {args : Array Value} {below : List Frame} {meth : Method} {c : Code} {Q : State → Prop} {A : Nat → Prop} (dC : Nat → ClassId) (dI : Nat → Nat → Nat) (cyI cyZ cyJ cyB cyO : ClassId) (h_tp a_tp_bytes : Nat) (tp_length : Int32) (tp_kind : Int32) (tp_start : Int32) (tp_value : Int32) (tp_place : Int32) (tp_bytes : Nat → Int32) (v1 : Int64) (out : Int32 × (Nat → Int32)) (hx : p.tables.exec = Jvm.exec) (hb : c.code = cX7_add) (hml : c.maxLocals = 4) (hts : ∀ w ∈ wsX7_add, w.before args s = true) (hown : s.vm.findClass RX7 = some m.cls) (hK : va_K (dC, dI) vwCl (px_TY cyI cyZ cyJ cyB cyO) s) (hN : px_NW s) (hA : ∀ q : Nat, s.heap.size ≤ q → A q) (hQ : ∀ (H : Heap) (locs : List Loc) (pc : Nat) (ls : Array Slot), va_P (dC, dI) vwCl (wdX7_add cyI cyZ cyJ cyB cyO h_tp a_tp_bytes out.1 tp_kind tp_start tp_value tp_place out.2) H → va_D A (wdX7_add cyI cyZ cyJ cyB cyO h_tp a_tp_bytes out.1 tp_kind tp_start tp_value tp_place out.2) → va_S A s.heap H locs → decode cX7_add pc = .ok (.return_, 1) → W p l e ({ frames := 0, cells := 0, slots := 0, locals := 0 } : Room) s m args below meth c H locs 0 0 Q (F0 m pc ls []))  : ∀ n : Nat, ∀ (v3 : Int32) (tp_length : Int32) (tp_bytes : Nat → Int32) (H : Heap) (locs : List Loc) (ls : Array Slot), pX7_add_3 v1 n v3 tp_length tp_bytes = some out → va_P (dC, dI) vwCl (wdX7_add cyI cyZ cyJ cyB cyO h_tp a_tp_bytes tp_length tp_kind tp_start tp_value tp_place tp_bytes) H → va_D A (wdX7_add cyI cyZ cyJ cyB cyO h_tp a_tp_bytes tp_length tp_kind tp_start tp_value tp_place tp_bytes) → va_S A s.heap H locs → lv_has ls 4 [(0, .ref h_tp), (1, .long v1), (3, .int v3)] → W p l e ({ frames := 0, cells := 0, slots := 0, locals := 0 } : Room) s m args below meth c H locs 0 0 Q (F0 m 3 ls []) := by
  intro n
  induction n with
  | zero =>
    intro v3 tp_length tp_bytes H locs ls hp hP hD hS hl
    exact nomatch hp
  | succ n ih => exact lcX7_add_3B dC dI cyI cyZ cyJ cyB cyO h_tp a_tp_bytes tp_length tp_kind tp_start tp_value tp_place tp_bytes v1 out hx hb hml hts hown hK hN hA hQ (pX7_add_3 v1 n) ih
set_option maxHeartbeats 4000000 in
set_option maxRecDepth 100000 in
theorem ccX7_add (l : Launch) (dC : Nat → ClassId) (dI : Nat → Nat → Nat) (cyI cyZ cyJ cyB cyO : ClassId) (sz : Nat) (h_tp a_tp_bytes : Nat) (tp_length : Int32) (tp_kind : Int32) (tp_start : Int32) (tp_value : Int32) (tp_place : Int32) (tp_bytes : Nat → Int32) (v1 : Int64) (out : Int32 × (Nat → Int32)) (hp : pX7_add v1 tp_length tp_bytes = some out) : Met l yX7_add wsX7_add ({ frames := 0, cells := 0, slots := 0, locals := 0 } : Room) (px_PW (dC, dI) (px_TY cyI cyZ cyJ cyB cyO) [.ref h_tp, .long v1] (wdX7_add cyI cyZ cyJ cyB cyO h_tp a_tp_bytes tp_length tp_kind tp_start tp_value tp_place tp_bytes) sz) (px_QW none (dC, dI) (wdX7_add cyI cyZ cyJ cyB cyO h_tp a_tp_bytes tp_length tp_kind tp_start tp_value tp_place tp_bytes) (wdX7_add cyI cyZ cyJ cyB cyO h_tp a_tp_bytes out.1 tp_kind tp_start tp_value tp_place out.2) sz) 0 0 (va_A (wdX7_add cyI cyZ cyJ cyB cyO h_tp a_tp_bytes tp_length tp_kind tp_start tp_value tp_place tp_bytes) sz) := by
  refine Met.ofW (cc := cX7_add) (maxL := 4) (ret := none) (by decide) rfl ?_
  intro p e s m args below meth c s₁ B hml hv
  obtain ⟨rfl, hsz, hP, hK, hD0, hN⟩ := hv
  have hx := B.exec
  have hb := B.bytes
  have hr := B.returns
  have hts := atoms_spec (ws := wsX7_add) B.pre
  have hown : s.vm.findClass RX7 = some m.cls := findClass_of_methodNamed B.named
  have hlocks := B.notSynchronized
  subst hsz
  have hD := hD0.self (sz := s.heap.size)
  generalize hAe : va_A (wdX7_add cyI cyZ cyJ cyB cyO h_tp a_tp_bytes tp_length tp_kind tp_start tp_value tp_place tp_bytes) s.heap.size = A at hD ⊢
  have hA : ∀ q : Nat, s.heap.size ≤ q → A q := fun q h => by rw [← hAe]; exact Or.inr h
  have hS : va_S A s.heap s.heap [] := va_S.rf
  have hq := px_QWe (v := none) (D := (dC, dI)) (w1 := (wdX7_add cyI cyZ cyJ cyB cyO h_tp a_tp_bytes out.1 tp_kind tp_start tp_value tp_place out.2)) (st := s) hAe
  generalize px_QW none (dC, dI) (wdX7_add cyI cyZ cyJ cyB cyO h_tp a_tp_bytes tp_length tp_kind tp_start tp_value tp_place tp_bytes) (wdX7_add cyI cyZ cyJ cyB cyO h_tp a_tp_bytes out.1 tp_kind tp_start tp_value tp_place out.2) s.heap.size = Qc at hq ⊢
  have hQ : ∀ (H : Heap) (locs : List Loc) (pc : Nat) (ls : Array Slot), va_P (dC, dI) vwCl (wdX7_add cyI cyZ cyJ cyB cyO h_tp a_tp_bytes out.1 tp_kind tp_start tp_value tp_place out.2) H → va_D A (wdX7_add cyI cyZ cyJ cyB cyO h_tp a_tp_bytes out.1 tp_kind tp_start tp_value tp_place out.2) → va_S A s.heap H locs → decode cX7_add pc = .ok (.return_, 1) → W p l e ({ frames := 0, cells := 0, slots := 0, locals := 0 } : Room) s m (([.ref h_tp, .long v1] : List Value).toArray) below meth c H locs 0 0 (MQ below Qc (([.ref h_tp, .long v1] : List Value).toArray) s 0 0 A) (F0 m pc ls []) := fun H locs pc ls hP hD hS hd => W.vret hx hb hr (fun t ht hW => hq _ t (by rw [ht]; exact hP) hD (hS.F ht)) hS.2.2 hd
  generalize MQ below Qc (([.ref h_tp, .long v1] : List Value).toArray) s 0 0 A = Q at hQ ⊢
  have hl := lv_entry [.ref h_tp, .long v1] (n := 4) (Nat.le_of_ble_eq_true rfl)
  rw [lg_entry_eq]
  generalize (lg_sl [.ref h_tp, .long v1] ++ List.replicate (4 - (lg_sl [.ref h_tp, .long v1]).length) Slot.unset).toArray = ls at hl ⊢
  have hl : lv_has ls 4 [(0, .ref h_tp), (1, .long v1)] := hl
  unfold pX7_add at hp
  refine lv_bipush (v := (56 : Int32)) hx hb dX7_add_0 (by decide) ?_
  refine lv_istore_n (lv' := [(3, .int (56 : Int32)), (0, .ref h_tp), (1, .long v1)]) hx hb dX7_add_2 rfl hl (by decide) rfl (fun ls hl => ?_)
  exact lcX7_add_3 dC dI cyI cyZ cyJ cyB cyO h_tp a_tp_bytes tp_length tp_kind tp_start tp_value tp_place tp_bytes v1 out hx hb hml hts hown hK hN hA hQ px_FU (56 : Int32) tp_length tp_bytes _ _ ls hp hP hD hS (lv_sub hl [1, 2, 0] rfl)
/-! TagReader$Tape.rewind()V -/
theorem hvX7_rewind : yX7_rewind.cls = RX7 ∧ yX7_rewind.cls ≠ "java/lang/invoke/MethodHandle" ∧ yX7_rewind.cls ≠ "java/lang/invoke/VarHandle" ∧ (parseMethodDescriptor yX7_rewind.desc).map (fun d => d.parameters.length) = some 0 := by decide +kernel
theorem fX7_rewind_X7 : ∀ w ∈ u_ws RX7 TX7 6, w ∈ wsX7_rewind := fun _ h => List.mem_cons_of_mem _ (List.mem_append_right _ h)
theorem kX7_rewind_1 : (.fieldLink RX7 28 "TagReader$Tape" "place" "I" : Cond) ∈ wsX7_rewind := List.mem_of_getElem? (i := 1) rfl
set_option maxHeartbeats 4000000 in
set_option maxRecDepth 100000 in
theorem ccX7_rewind (l : Launch) (dC : Nat → ClassId) (dI : Nat → Nat → Nat) (cyI cyZ cyJ cyB cyO : ClassId) (sz : Nat) (h_tp a_tp_bytes : Nat) (tp_length : Int32) (tp_kind : Int32) (tp_start : Int32) (tp_value : Int32) (tp_place : Int32) (tp_bytes : Nat → Int32) (out : Int32) (hp : pX7_rewind tp_place = some out) : Met l yX7_rewind wsX7_rewind ({ frames := 0, cells := 0, slots := 0, locals := 0 } : Room) (px_PW (dC, dI) (px_TY cyI cyZ cyJ cyB cyO) [.ref h_tp] (wdX7_rewind cyI cyZ cyJ cyB cyO h_tp a_tp_bytes tp_length tp_kind tp_start tp_value tp_place tp_bytes) sz) (px_QW none (dC, dI) (wdX7_rewind cyI cyZ cyJ cyB cyO h_tp a_tp_bytes tp_length tp_kind tp_start tp_value tp_place tp_bytes) (wdX7_rewind cyI cyZ cyJ cyB cyO h_tp a_tp_bytes tp_length tp_kind tp_start tp_value out tp_bytes) sz) 0 0 (va_A (wdX7_rewind cyI cyZ cyJ cyB cyO h_tp a_tp_bytes tp_length tp_kind tp_start tp_value tp_place tp_bytes) sz) := by
  refine Met.ofW (cc := cX7_rewind) (maxL := 1) (ret := none) (by decide) rfl ?_
  intro p e s m args below meth c s₁ B hml hv
  obtain ⟨rfl, hsz, hP, hK, hD0, hN⟩ := hv
  have hx := B.exec
  have hb := B.bytes
  have hr := B.returns
  have hts := atoms_spec (ws := wsX7_rewind) B.pre
  have hown : s.vm.findClass RX7 = some m.cls := findClass_of_methodNamed B.named
  have hlocks := B.notSynchronized
  subst hsz
  have hD := hD0.self (sz := s.heap.size)
  generalize hAe : va_A (wdX7_rewind cyI cyZ cyJ cyB cyO h_tp a_tp_bytes tp_length tp_kind tp_start tp_value tp_place tp_bytes) s.heap.size = A at hD ⊢
  have hA : ∀ q : Nat, s.heap.size ≤ q → A q := fun q h => by rw [← hAe]; exact Or.inr h
  have hS : va_S A s.heap s.heap [] := va_S.rf
  have hq := px_QWe (v := none) (D := (dC, dI)) (w1 := (wdX7_rewind cyI cyZ cyJ cyB cyO h_tp a_tp_bytes tp_length tp_kind tp_start tp_value out tp_bytes)) (st := s) hAe
  generalize px_QW none (dC, dI) (wdX7_rewind cyI cyZ cyJ cyB cyO h_tp a_tp_bytes tp_length tp_kind tp_start tp_value tp_place tp_bytes) (wdX7_rewind cyI cyZ cyJ cyB cyO h_tp a_tp_bytes tp_length tp_kind tp_start tp_value out tp_bytes) s.heap.size = Qc at hq ⊢
  have hQ : ∀ (H : Heap) (locs : List Loc) (pc : Nat) (ls : Array Slot), va_P (dC, dI) vwCl (wdX7_rewind cyI cyZ cyJ cyB cyO h_tp a_tp_bytes tp_length tp_kind tp_start tp_value out tp_bytes) H → va_D A (wdX7_rewind cyI cyZ cyJ cyB cyO h_tp a_tp_bytes tp_length tp_kind tp_start tp_value out tp_bytes) → va_S A s.heap H locs → decode cX7_rewind pc = .ok (.return_, 1) → W p l e ({ frames := 0, cells := 0, slots := 0, locals := 0 } : Room) s m (([.ref h_tp] : List Value).toArray) below meth c H locs 0 0 (MQ below Qc (([.ref h_tp] : List Value).toArray) s 0 0 A) (F0 m pc ls []) := fun H locs pc ls hP hD hS hd => W.vret hx hb hr (fun t ht hW => hq _ t (by rw [ht]; exact hP) hD (hS.F ht)) hS.2.2 hd
  generalize MQ below Qc (([.ref h_tp] : List Value).toArray) s 0 0 A = Q at hQ ⊢
  have hl := lv_entry [.ref h_tp] (n := 1) (Nat.le_of_ble_eq_true rfl)
  rw [lg_entry_eq]
  generalize (lg_sl [.ref h_tp] ++ List.replicate (1 - (lg_sl [.ref h_tp]).length) Slot.unset).toArray = ls at hl ⊢
  have hl : lv_has ls 1 [(0, .ref h_tp)] := hl
  unfold pX7_rewind at hp
  refine lv_aload_n hx hb dX7_rewind_0 rfl (lv_at hl 0 rfl) ?_
  refine lv_iconst (v := (0 : Int32)) hx hb dX7_rewind_1 (by decide) ?_
  refine va_put (D := (dC, dI)) (ci := 7) (v := .int (0 : Int32)) (ty := .int) (C := RX7) (T := TX7) (N := 6) hx hb hts fX7_rewind_X7 tyX7 tyX7_ok nmX7 hown hK hP hD hS 0 rfl rfl 5 (by decide) (hts _ kX7_rewind_1) (fun _ h9 => h9) rfl (tyX7_ok 5 (by decide)) rfl rfl (Nat.le_of_ble_eq_true rfl) dX7_rewind_2 (fun H locs hP hD hS => ?_)
  have hP : va_P (dC, dI) vwCl (wdX7_rewind cyI cyZ cyJ cyB cyO h_tp a_tp_bytes tp_length tp_kind tp_start tp_value (0 : Int32) tp_bytes) H := hP
  have hD : va_D A (wdX7_rewind cyI cyZ cyJ cyB cyO h_tp a_tp_bytes tp_length tp_kind tp_start tp_value (0 : Int32) tp_bytes) := hD
  have ho := px_s hp
  subst ho
  exact hQ _ _ _ _ hP hD hS dX7_rewind_5
/-! TagReader$Tape.byteAt(I)I -/
theorem hvX7_byteAt : yX7_byteAt.cls = RX7 ∧ yX7_byteAt.cls ≠ "java/lang/invoke/MethodHandle" ∧ yX7_byteAt.cls ≠ "java/lang/invoke/VarHandle" ∧ (parseMethodDescriptor yX7_byteAt.desc).map (fun d => d.parameters.length) = some 1 := by decide +kernel
theorem fX7_byteAt_X7 : ∀ w ∈ u_ws RX7 TX7 6, w ∈ wsX7_byteAt := fun _ h => List.mem_cons_of_mem _ (List.mem_append_right _ h)
theorem kX7_byteAt_1 : (.fieldLink RX7 15 "TagReader$Tape" "length" "I" : Cond) ∈ wsX7_byteAt := List.mem_of_getElem? (i := 1) rfl
theorem kX7_byteAt_2 : (.fieldLink RX7 9 "TagReader$Tape" "bytes" "[B" : Cond) ∈ wsX7_byteAt := List.mem_of_getElem? (i := 2) rfl
set_option maxHeartbeats 4000000 in
set_option maxRecDepth 100000 in
theorem ccX7_byteAt (l : Launch) (dC : Nat → ClassId) (dI : Nat → Nat → Nat) (cyI cyZ cyJ cyB cyO : ClassId) (h_tp a_tp_bytes : Nat) (tp_length : Int32) (tp_kind : Int32) (tp_start : Int32) (tp_value : Int32) (tp_place : Int32) (tp_bytes : Nat → Int32) (v1 : Int32) (out : Int32) (hp : pX7_byteAt v1 tp_length tp_bytes = some out) : Met l yX7_byteAt wsX7_byteAt ({ frames := 0, cells := 0, slots := 0, locals := 0 } : Room) (px_PR (dC, dI) (px_TY cyI cyZ cyJ cyB cyO) [.ref h_tp, .int v1] (wdX7_byteAt cyI cyZ cyJ cyB cyO h_tp a_tp_bytes tp_length tp_kind tp_start tp_value tp_place tp_bytes)) (px_QR (.int out)) 0 0 (fun _ => False) := by
  refine Met.ofW (cc := cX7_byteAt) (maxL := 2) (ret := (some .int)) (by decide) rfl ?_
  intro p e s m args below meth c s₁ B hml hv
  obtain ⟨rfl, hP, hK, hN⟩ := hv
  have hx := B.exec
  have hb := B.bytes
  have hr := B.returns
  have hts := atoms_spec (ws := wsX7_byteAt) B.pre
  have hown : s.vm.findClass RX7 = some m.cls := findClass_of_methodNamed B.named
  have hlocks := B.notSynchronized
  have hQ : ∀ (pc : Nat) (ls : Array Slot), decode cX7_byteAt pc = .ok (.ireturn, 1) → W p l e ({ frames := 0, cells := 0, slots := 0, locals := 0 } : Room) s m (([.ref h_tp, .int v1] : List Value).toArray) below meth c s.heap [] 0 0 (MQ below (px_QR (.int out)) (([.ref h_tp, .int v1] : List Value).toArray) s 0 0 (fun _ => False)) (F0 m pc ls [.int out]) := fun pc ls hd => W.iret hx hb hr (fun t ht hW => ⟨rfl, ht⟩) (fun q h => by cases h) hd
  generalize MQ below (px_QR (.int out)) (([.ref h_tp, .int v1] : List Value).toArray) s 0 0 (fun _ => False) = Q at hQ ⊢
  have hl := lv_entry [.ref h_tp, .int v1] (n := 2) (Nat.le_of_ble_eq_true rfl)
  rw [lg_entry_eq]
  generalize (lg_sl [.ref h_tp, .int v1] ++ List.replicate (2 - (lg_sl [.ref h_tp, .int v1]).length) Slot.unset).toArray = ls at hl ⊢
  have hl : lv_has ls 2 [(0, .ref h_tp), (1, .int v1)] := hl
  unfold pX7_byteAt at hp
  refine lv_iload_n hx hb dX7_byteAt_0 rfl (lv_at hl 1 rfl) ?_
  refine lv_if_lt (tgt := 28) hx hb dX7_byteAt_1 (by decide) (fun c_1 => ?_) (fun c_1 => ?_)
  · have hp := px_t hp c_1
    refine lv_iconst (v := (0 : Int32)) hx hb dX7_byteAt_28 (by decide) ?_
    have ho := px_s hp
    subst ho
    exact hQ _ _ dX7_byteAt_29
  · have hp := px_f hp c_1
    refine lv_iload_n hx hb dX7_byteAt_4 rfl (lv_at hl 1 rfl) ?_
    refine lv_aload_n hx hb dX7_byteAt_5 rfl (lv_at hl 0 rfl) ?_
    refine va_get (D := (dC, dI)) (ci := 7) (v := .int tp_length) (C := RX7) (T := TX7) (N := 6) hx hb hts fX7_byteAt_X7 hown hK hP 0 rfl rfl 1 (by decide) (hts _ kX7_byteAt_1) (fun _ h9 => h9) rfl dX7_byteAt_6 ?_
    refine lv_icmp_ge (tgt := 28) hx hb dX7_byteAt_9 (by decide) (fun c_2 => ?_) (fun c_2 => ?_)
    · have hp := px_t hp c_2
      refine lv_iconst (v := (0 : Int32)) hx hb dX7_byteAt_28 (by decide) ?_
      have ho := px_s hp
      subst ho
      exact hQ _ _ dX7_byteAt_29
    · have hp := px_f hp c_2
      refine lv_iload_n hx hb dX7_byteAt_12 rfl (lv_at hl 1 rfl) ?_
      refine lv_sipush (v := (200 : Int32)) hx hb dX7_byteAt_13 (by decide) ?_
      refine lv_icmp_ge (tgt := 28) hx hb dX7_byteAt_16 (by decide) (fun c_3 => ?_) (fun c_3 => ?_)
      · have hp := px_t hp c_3
        refine lv_iconst (v := (0 : Int32)) hx hb dX7_byteAt_28 (by decide) ?_
        have ho := px_s hp
        subst ho
        exact hQ _ _ dX7_byteAt_29
      · have hp := px_f hp c_3
        refine lv_aload_n hx hb dX7_byteAt_19 rfl (lv_at hl 0 rfl) ?_
        refine va_get (D := (dC, dI)) (ci := 7) (v := .ref a_tp_bytes) (C := RX7) (T := TX7) (N := 6) hx hb hts fX7_byteAt_X7 hown hK hP 0 rfl rfl 0 (by decide) (hts _ kX7_byteAt_2) (fun _ h9 => h9) rfl dX7_byteAt_20 ?_
        refine lv_iload_n hx hb dX7_byteAt_23 rfl (lv_at hl 1 rfl) ?_
        obtain ⟨g_4, hp⟩ := px_i_at hp
        refine va_bald (D := (dC, dI)) hx hb hK hP 1 3 rfl rfl g_4 dX7_byteAt_24 ?_
        refine lv_goto (tgt := 29) hx hb dX7_byteAt_25 (by decide) ?_
        have ho := px_s hp
        subst ho
        exact hQ _ _ dX7_byteAt_29
/-! TagReader$Tape.isLetterAt(I)Z -/
theorem hvX7_isLetterAt : yX7_isLetterAt.cls = RX7 ∧ yX7_isLetterAt.cls ≠ "java/lang/invoke/MethodHandle" ∧ yX7_isLetterAt.cls ≠ "java/lang/invoke/VarHandle" ∧ (parseMethodDescriptor yX7_isLetterAt.desc).map (fun d => d.parameters.length) = some 1 := by decide +kernel
theorem kX7_isLetterAt_9 : (.initialized RX10 : Cond) ∈ wsX7_isLetterAt := List.mem_of_getElem? (i := 9) rfl
theorem kX7_isLetterAt_8 : (.static yX10_within : Cond) ∈ wsX7_isLetterAt := List.mem_of_getElem? (i := 8) rfl
set_option maxHeartbeats 4000000 in
set_option maxRecDepth 100000 in
theorem ccX7_isLetterAt (l : Launch) (dC : Nat → ClassId) (dI : Nat → Nat → Nat) (cyI cyZ cyJ cyB cyO : ClassId) (h_tp a_tp_bytes : Nat) (tp_length : Int32) (tp_kind : Int32) (tp_start : Int32) (tp_value : Int32) (tp_place : Int32) (tp_bytes : Nat → Int32) (v1 : Int32) (out : Int32) (hp : pX7_isLetterAt v1 tp_length tp_bytes = some out) : Met l yX7_isLetterAt wsX7_isLetterAt ({ frames := 1, cells := 0, slots := 0, locals := 22 } : Room) (px_PR (dC, dI) (px_TY cyI cyZ cyJ cyB cyO) [.ref h_tp, .int v1] (wdX7_isLetterAt cyI cyZ cyJ cyB cyO h_tp a_tp_bytes tp_length tp_kind tp_start tp_value tp_place tp_bytes)) (px_QR (.int out)) 0 0 (fun _ => False) := by
  refine Met.ofW (cc := cX7_isLetterAt) (maxL := 2) (ret := (some .boolean)) (by decide) rfl ?_
  intro p e s m args below meth c s₁ B hml hv
  obtain ⟨rfl, hP, hK, hN⟩ := hv
  have hx := B.exec
  have hb := B.bytes
  have hr := B.returns
  have hts := atoms_spec (ws := wsX7_isLetterAt) B.pre
  have hown : s.vm.findClass RX7 = some m.cls := findClass_of_methodNamed B.named
  have hlocks := B.notSynchronized
  have hQ : ∀ (pc : Nat) (ls : Array Slot), narrow .boolean (.int out) = .int out → decode cX7_isLetterAt pc = .ok (.ireturn, 1) → W p l e ({ frames := 1, cells := 0, slots := 0, locals := 22 } : Room) s m (([.ref h_tp, .int v1] : List Value).toArray) below meth c s.heap [] 0 0 (MQ below (px_QR (.int out)) (([.ref h_tp, .int v1] : List Value).toArray) s 0 0 (fun _ => False)) (F0 m pc ls [.int out]) := fun pc ls hz hd => W.zret hx hb hr hz (fun t ht hW => ⟨rfl, ht⟩) (fun q h => by cases h) hd
  generalize MQ below (px_QR (.int out)) (([.ref h_tp, .int v1] : List Value).toArray) s 0 0 (fun _ => False) = Q at hQ ⊢
  have hl := lv_entry [.ref h_tp, .int v1] (n := 2) (Nat.le_of_ble_eq_true rfl)
  rw [lg_entry_eq]
  generalize (lg_sl [.ref h_tp, .int v1] ++ List.replicate (2 - (lg_sl [.ref h_tp, .int v1]).length) Slot.unset).toArray = ls at hl ⊢
  have hl : lv_has ls 2 [(0, .ref h_tp), (1, .int v1)] := hl
  unfold pX7_isLetterAt at hp
  refine lv_aload_n hx hb dX7_isLetterAt_0 rfl (lv_at hl 0 rfl) ?_
  refine lv_iload_n hx hb dX7_isLetterAt_1 rfl (lv_at hl 1 rfl) ?_
  obtain ⟨o_1, ho_1, hp⟩ := px_b_at hp
  refine px_callR (v := .int o_1) (va_runV (As := [.int v1]) (rest := []) ⟨hx, hb, hml, hown, hts⟩ (ccX7_byteAt l dC dI cyI cyZ cyJ cyB cyO h_tp a_tp_bytes tp_length tp_kind tp_start tp_value tp_place tp_bytes v1 o_1 ho_1) (cwV 1 hts gX7_isLetterAt_X7_byteAt rfl rfl rfl hvX7_byteAt ⟨Nat.le_of_ble_eq_true rfl, Nat.le_of_ble_eq_true rfl⟩) (px_preRV (wc := (wdX7_byteAt cyI cyZ cyJ cyB cyO h_tp a_tp_bytes tp_length tp_kind tp_start tp_value tp_place tp_bytes)) (ci := 7) (q0 := 0) hK hN hP [0, 1] rfl rfl rfl) rfl rfl hl.1 rfl (lv_room (Nat.le_of_ble_eq_true rfl)) dX7_isLetterAt_2 ⟨Nat.zero_le _, Nat.zero_le _⟩) ?_
  refine lv_bipush (v := (97 : Int32)) hx hb dX7_isLetterAt_5 (by decide) ?_
  refine lv_bipush (v := (122 : Int32)) hx hb dX7_isLetterAt_7 (by decide) ?_
  obtain ⟨o_2, ho_2, hp⟩ := px_b_at hp
  refine px_callR (v := .int o_2) (va_runSN (host := RX10) (As := [.int o_1, .int (97 : Int32), .int (122 : Int32)]) (rest := []) ⟨hx, hb, hml, hown, hts⟩ (ccX10_within l dC dI cyI cyZ cyJ cyB cyO o_1 (97 : Int32) (122 : Int32) o_2 ho_2) ⟨va_cnB 3 hts gX7_isLetterAt_X10_within_n35 rfl rfl rfl hN.2.2.1 (hts _ kX7_isLetterAt_9) hsX10_within ⟨Nat.le_of_ble_eq_true rfl, Nat.le_of_ble_eq_true rfl⟩, hts _ kX7_isLetterAt_8, trivial⟩ (px_preR (wc := []) hK hN hP [] rfl) rfl rfl hl.1 rfl (lv_room (Nat.le_of_ble_eq_true rfl)) dX7_isLetterAt_9 ⟨Nat.zero_le _, Nat.zero_le _⟩) ?_
  obtain ⟨g_3, hp⟩ := px_o_at hp
  have ho := px_s hp
  subst ho
  exact hQ _ _ g_3 dX7_isLetterAt_12
/-! TagReader$Tape.isFigureAt(I)Z -/
theorem hvX7_isFigureAt : yX7_isFigureAt.cls = RX7 ∧ yX7_isFigureAt.cls ≠ "java/lang/invoke/MethodHandle" ∧ yX7_isFigureAt.cls ≠ "java/lang/invoke/VarHandle" ∧ (parseMethodDescriptor yX7_isFigureAt.desc).map (fun d => d.parameters.length) = some 1 := by decide +kernel
theorem kX7_isFigureAt_9 : (.initialized RX10 : Cond) ∈ wsX7_isFigureAt := List.mem_of_getElem? (i := 9) rfl
theorem kX7_isFigureAt_8 : (.static yX10_within : Cond) ∈ wsX7_isFigureAt := List.mem_of_getElem? (i := 8) rfl
set_option maxHeartbeats 4000000 in
set_option maxRecDepth 100000 in
theorem ccX7_isFigureAt (l : Launch) (dC : Nat → ClassId) (dI : Nat → Nat → Nat) (cyI cyZ cyJ cyB cyO : ClassId) (h_tp a_tp_bytes : Nat) (tp_length : Int32) (tp_kind : Int32) (tp_start : Int32) (tp_value : Int32) (tp_place : Int32) (tp_bytes : Nat → Int32) (v1 : Int32) (out : Int32) (hp : pX7_isFigureAt v1 tp_length tp_bytes = some out) : Met l yX7_isFigureAt wsX7_isFigureAt ({ frames := 1, cells := 0, slots := 0, locals := 22 } : Room) (px_PR (dC, dI) (px_TY cyI cyZ cyJ cyB cyO) [.ref h_tp, .int v1] (wdX7_isFigureAt cyI cyZ cyJ cyB cyO h_tp a_tp_bytes tp_length tp_kind tp_start tp_value tp_place tp_bytes)) (px_QR (.int out)) 0 0 (fun _ => False) := by
  refine Met.ofW (cc := cX7_isFigureAt) (maxL := 2) (ret := (some .boolean)) (by decide) rfl ?_
  intro p e s m args below meth c s₁ B hml hv
  obtain ⟨rfl, hP, hK, hN⟩ := hv
  have hx := B.exec
  have hb := B.bytes
  have hr := B.returns
  have hts := atoms_spec (ws := wsX7_isFigureAt) B.pre
  have hown : s.vm.findClass RX7 = some m.cls := findClass_of_methodNamed B.named
  have hlocks := B.notSynchronized
  have hQ : ∀ (pc : Nat) (ls : Array Slot), narrow .boolean (.int out) = .int out → decode cX7_isFigureAt pc = .ok (.ireturn, 1) → W p l e ({ frames := 1, cells := 0, slots := 0, locals := 22 } : Room) s m (([.ref h_tp, .int v1] : List Value).toArray) below meth c s.heap [] 0 0 (MQ below (px_QR (.int out)) (([.ref h_tp, .int v1] : List Value).toArray) s 0 0 (fun _ => False)) (F0 m pc ls [.int out]) := fun pc ls hz hd => W.zret hx hb hr hz (fun t ht hW => ⟨rfl, ht⟩) (fun q h => by cases h) hd
  generalize MQ below (px_QR (.int out)) (([.ref h_tp, .int v1] : List Value).toArray) s 0 0 (fun _ => False) = Q at hQ ⊢
  have hl := lv_entry [.ref h_tp, .int v1] (n := 2) (Nat.le_of_ble_eq_true rfl)
  rw [lg_entry_eq]
  generalize (lg_sl [.ref h_tp, .int v1] ++ List.replicate (2 - (lg_sl [.ref h_tp, .int v1]).length) Slot.unset).toArray = ls at hl ⊢
  have hl : lv_has ls 2 [(0, .ref h_tp), (1, .int v1)] := hl
  unfold pX7_isFigureAt at hp
  refine lv_aload_n hx hb dX7_isFigureAt_0 rfl (lv_at hl 0 rfl) ?_
  refine lv_iload_n hx hb dX7_isFigureAt_1 rfl (lv_at hl 1 rfl) ?_
  obtain ⟨o_1, ho_1, hp⟩ := px_b_at hp
  refine px_callR (v := .int o_1) (va_runV (As := [.int v1]) (rest := []) ⟨hx, hb, hml, hown, hts⟩ (ccX7_byteAt l dC dI cyI cyZ cyJ cyB cyO h_tp a_tp_bytes tp_length tp_kind tp_start tp_value tp_place tp_bytes v1 o_1 ho_1) (cwV 1 hts gX7_isFigureAt_X7_byteAt rfl rfl rfl hvX7_byteAt ⟨Nat.le_of_ble_eq_true rfl, Nat.le_of_ble_eq_true rfl⟩) (px_preRV (wc := (wdX7_byteAt cyI cyZ cyJ cyB cyO h_tp a_tp_bytes tp_length tp_kind tp_start tp_value tp_place tp_bytes)) (ci := 7) (q0 := 0) hK hN hP [0, 1] rfl rfl rfl) rfl rfl hl.1 rfl (lv_room (Nat.le_of_ble_eq_true rfl)) dX7_isFigureAt_2 ⟨Nat.zero_le _, Nat.zero_le _⟩) ?_
  refine lv_bipush (v := (48 : Int32)) hx hb dX7_isFigureAt_5 (by decide) ?_
  refine lv_bipush (v := (57 : Int32)) hx hb dX7_isFigureAt_7 (by decide) ?_
  obtain ⟨o_2, ho_2, hp⟩ := px_b_at hp
  refine px_callR (v := .int o_2) (va_runSN (host := RX10) (As := [.int o_1, .int (48 : Int32), .int (57 : Int32)]) (rest := []) ⟨hx, hb, hml, hown, hts⟩ (ccX10_within l dC dI cyI cyZ cyJ cyB cyO o_1 (48 : Int32) (57 : Int32) o_2 ho_2) ⟨va_cnB 3 hts gX7_isFigureAt_X10_within_n35 rfl rfl rfl hN.2.2.1 (hts _ kX7_isFigureAt_9) hsX10_within ⟨Nat.le_of_ble_eq_true rfl, Nat.le_of_ble_eq_true rfl⟩, hts _ kX7_isFigureAt_8, trivial⟩ (px_preR (wc := []) hK hN hP [] rfl) rfl rfl hl.1 rfl (lv_room (Nat.le_of_ble_eq_true rfl)) dX7_isFigureAt_9 ⟨Nat.zero_le _, Nat.zero_le _⟩) ?_
  obtain ⟨g_3, hp⟩ := px_o_at hp
  have ho := px_s hp
  subst ho
  exact hQ _ _ g_3 dX7_isFigureAt_12
/-! TagReader$Tape.readNumber()V -/
theorem hvX7_readNumber : yX7_readNumber.cls = RX7 ∧ yX7_readNumber.cls ≠ "java/lang/invoke/MethodHandle" ∧ yX7_readNumber.cls ≠ "java/lang/invoke/VarHandle" ∧ (parseMethodDescriptor yX7_readNumber.desc).map (fun d => d.parameters.length) = some 0 := by decide +kernel
theorem fX7_readNumber_X7 : ∀ w ∈ u_ws RX7 TX7 6, w ∈ wsX7_readNumber := fun _ h => List.mem_cons_of_mem _ (List.mem_append_right _ h)
theorem kX7_readNumber_1 : (.fieldLink RX7 25 "TagReader$Tape" "value" "I" : Cond) ∈ wsX7_readNumber := List.mem_of_getElem? (i := 1) rfl
theorem kX7_readNumber_2 : (.fieldLink RX7 28 "TagReader$Tape" "place" "I" : Cond) ∈ wsX7_readNumber := List.mem_of_getElem? (i := 2) rfl
theorem kX7_readNumber_3 : (.fieldLink RX7 15 "TagReader$Tape" "length" "I" : Cond) ∈ wsX7_readNumber := List.mem_of_getElem? (i := 3) rfl
theorem kX7_readNumber_4 : (.fieldLink RX7 22 "TagReader$Tape" "start" "I" : Cond) ∈ wsX7_readNumber := List.mem_of_getElem? (i := 4) rfl
theorem kX7_readNumber_5 : (.fieldLink RX7 19 "TagReader$Tape" "kind" "I" : Cond) ∈ wsX7_readNumber := List.mem_of_getElem? (i := 5) rfl
set_option maxHeartbeats 4000000 in
set_option maxRecDepth 100000 in
theorem lcX7_readNumber_63 {p : Program} {l : Launch} {e : Env} {s : State} {m : MethodId} {args : Array Value} {below : List Frame} {meth : Method} {c : Code} {Q : State → Prop} {A : Nat → Prop} (dC : Nat → ClassId) (dI : Nat → Nat → Nat) (cyI cyZ cyJ cyB cyO : ClassId) (h_tp a_tp_bytes : Nat) (tp_length : Int32) (tp_kind : Int32) (tp_start : Int32) (tp_value : Int32) (tp_place : Int32) (tp_bytes : Nat → Int32) (out : Int32 × Int32 × Int32) (hx : p.tables.exec = Jvm.exec) (hb : c.code = cX7_readNumber) (hml : c.maxLocals = 1) (hts : ∀ w ∈ wsX7_readNumber, w.before args s = true) (hown : s.vm.findClass RX7 = some m.cls) (hK : va_K (dC, dI) vwCl (px_TY cyI cyZ cyJ cyB cyO) s) (hN : px_NW s) (hA : ∀ q : Nat, s.heap.size ≤ q → A q) (hQ : ∀ (H : Heap) (locs : List Loc) (pc : Nat) (ls : Array Slot), va_P (dC, dI) vwCl (wdX7_readNumber cyI cyZ cyJ cyB cyO h_tp a_tp_bytes tp_length out.1 tp_start out.2.1 out.2.2 tp_bytes) H → va_D A (wdX7_readNumber cyI cyZ cyJ cyB cyO h_tp a_tp_bytes tp_length out.1 tp_start out.2.1 out.2.2 tp_bytes) → va_S A s.heap H locs → decode cX7_readNumber pc = .ok (.return_, 1) → W p l e ({ frames := 2, cells := 0, slots := 0, locals := 43 } : Room) s m args below meth c H locs 0 0 Q (F0 m pc ls []))  : ∀ (tp_kind : Int32) (tp_value : Int32) (tp_place : Int32) (H : Heap) (locs : List Loc) (ls : Array Slot), pX7_readNumber_63 tp_length tp_start tp_bytes tp_kind tp_value tp_place = some out → va_P (dC, dI) vwCl (wdX7_readNumber cyI cyZ cyJ cyB cyO h_tp a_tp_bytes tp_length tp_kind tp_start tp_value tp_place tp_bytes) H → va_D A (wdX7_readNumber cyI cyZ cyJ cyB cyO h_tp a_tp_bytes tp_length tp_kind tp_start tp_value tp_place tp_bytes) → va_S A s.heap H locs → lv_has ls 1 [(0, .ref h_tp)] → W p l e ({ frames := 2, cells := 0, slots := 0, locals := 43 } : Room) s m args below meth c H locs 0 0 Q (F0 m 63 ls []) := by
  intro tp_kind tp_value tp_place H locs ls hp hP hD hS hl
  unfold pX7_readNumber_63 at hp
  refine lv_aload_n hx hb dX7_readNumber_63 rfl (lv_at hl 0 rfl) ?_
  refine lv_aload_n hx hb dX7_readNumber_64 rfl (lv_at hl 0 rfl) ?_
  refine va_get (D := (dC, dI)) (ci := 7) (v := .int tp_place) (C := RX7) (T := TX7) (N := 6) hx hb hts fX7_readNumber_X7 hown hK hP 0 rfl rfl 5 (by decide) (hts _ kX7_readNumber_2) (fun _ h9 => h9) rfl dX7_readNumber_65 ?_
  refine lv_aload_n hx hb dX7_readNumber_68 rfl (lv_at hl 0 rfl) ?_
  refine va_get (D := (dC, dI)) (ci := 7) (v := .int tp_start) (C := RX7) (T := TX7) (N := 6) hx hb hts fX7_readNumber_X7 hown hK hP 0 rfl rfl 3 (by decide) (hts _ kX7_readNumber_4) (fun _ h9 => h9) rfl dX7_readNumber_69 ?_
  refine lv_isub hx hb dX7_readNumber_72 ?_
  refine lv_iconst (v := (4 : Int32)) hx hb dX7_readNumber_73 (by decide) ?_
  refine lv_icmp_le (tgt := 81) hx hb dX7_readNumber_74 (by decide) (fun c_2 => ?_) (fun c_2 => ?_)
  · have hp := px_t hp c_2
    refine lv_iconst (v := (2 : Int32)) hx hb dX7_readNumber_81 (by decide) ?_
    refine va_put (D := (dC, dI)) (ci := 7) (v := .int (2 : Int32)) (ty := .int) (C := RX7) (T := TX7) (N := 6) hx hb hts fX7_readNumber_X7 tyX7 tyX7_ok nmX7 hown hK hP hD hS 0 rfl rfl 2 (by decide) (hts _ kX7_readNumber_5) (fun _ h9 => h9) rfl (tyX7_ok 2 (by decide)) rfl rfl (Nat.le_of_ble_eq_true rfl) dX7_readNumber_82 (fun H locs hP hD hS => ?_)
    have hP : va_P (dC, dI) vwCl (wdX7_readNumber cyI cyZ cyJ cyB cyO h_tp a_tp_bytes tp_length (2 : Int32) tp_start tp_value tp_place tp_bytes) H := hP
    have hD : va_D A (wdX7_readNumber cyI cyZ cyJ cyB cyO h_tp a_tp_bytes tp_length (2 : Int32) tp_start tp_value tp_place tp_bytes) := hD
    have ho := px_s hp
    subst ho
    exact hQ _ _ _ _ hP hD hS dX7_readNumber_85
  · have hp := px_f hp c_2
    refine lv_iconst (v := (0 : Int32)) hx hb dX7_readNumber_77 (by decide) ?_
    refine lv_goto (tgt := 82) hx hb dX7_readNumber_78 (by decide) ?_
    refine va_put (D := (dC, dI)) (ci := 7) (v := .int (0 : Int32)) (ty := .int) (C := RX7) (T := TX7) (N := 6) hx hb hts fX7_readNumber_X7 tyX7 tyX7_ok nmX7 hown hK hP hD hS 0 rfl rfl 2 (by decide) (hts _ kX7_readNumber_5) (fun _ h9 => h9) rfl (tyX7_ok 2 (by decide)) rfl rfl (Nat.le_of_ble_eq_true rfl) dX7_readNumber_82 (fun H locs hP hD hS => ?_)
    have hP : va_P (dC, dI) vwCl (wdX7_readNumber cyI cyZ cyJ cyB cyO h_tp a_tp_bytes tp_length (0 : Int32) tp_start tp_value tp_place tp_bytes) H := hP
    have hD : va_D A (wdX7_readNumber cyI cyZ cyJ cyB cyO h_tp a_tp_bytes tp_length (0 : Int32) tp_start tp_value tp_place tp_bytes) := hD
    have ho := px_s hp
    subst ho
    exact hQ _ _ _ _ hP hD hS dX7_readNumber_85
set_option maxHeartbeats 4000000 in
set_option maxRecDepth 100000 in
theorem lcX7_readNumber_5B {p : Program} {l : Launch} {e : Env} {s : State} {m : MethodId} {args : Array Value} {below : List Frame} {meth : Method} {c : Code} {Q : State → Prop} {A : Nat → Prop} (dC : Nat → ClassId) (dI : Nat → Nat → Nat) (cyI cyZ cyJ cyB cyO : ClassId) (h_tp a_tp_bytes : Nat) (tp_length : Int32) (tp_kind : Int32) (tp_start : Int32) (tp_value : Int32) (tp_place : Int32) (tp_bytes : Nat → Int32) (out : Int32 × Int32 × Int32) (hx : p.tables.exec = Jvm.exec) (hb : c.code = cX7_readNumber) (hml : c.maxLocals = 1) (hts : ∀ w ∈ wsX7_readNumber, w.before args s = true) (hown : s.vm.findClass RX7 = some m.cls) (hK : va_K (dC, dI) vwCl (px_TY cyI cyZ cyJ cyB cyO) s) (hN : px_NW s) (hA : ∀ q : Nat, s.heap.size ≤ q → A q) (hQ : ∀ (H : Heap) (locs : List Loc) (pc : Nat) (ls : Array Slot), va_P (dC, dI) vwCl (wdX7_readNumber cyI cyZ cyJ cyB cyO h_tp a_tp_bytes tp_length out.1 tp_start out.2.1 out.2.2 tp_bytes) H → va_D A (wdX7_readNumber cyI cyZ cyJ cyB cyO h_tp a_tp_bytes tp_length out.1 tp_start out.2.1 out.2.2 tp_bytes) → va_S A s.heap H locs → decode cX7_readNumber pc = .ok (.return_, 1) → W p l e ({ frames := 2, cells := 0, slots := 0, locals := 43 } : Room) s m args below meth c H locs 0 0 Q (F0 m pc ls []))  (K_5 : Int32 → Int32 → Int32 → Option (Int32 × Int32 × Int32)) (hK_5 : ∀ (tp_kind : Int32) (tp_value : Int32) (tp_place : Int32) (H : Heap) (locs : List Loc) (ls : Array Slot), K_5 tp_kind tp_value tp_place = some out → va_P (dC, dI) vwCl (wdX7_readNumber cyI cyZ cyJ cyB cyO h_tp a_tp_bytes tp_length tp_kind tp_start tp_value tp_place tp_bytes) H → va_D A (wdX7_readNumber cyI cyZ cyJ cyB cyO h_tp a_tp_bytes tp_length tp_kind tp_start tp_value tp_place tp_bytes) → va_S A s.heap H locs → lv_has ls 1 [(0, .ref h_tp)] → W p l e ({ frames := 2, cells := 0, slots := 0, locals := 43 } : Room) s m args below meth c H locs 0 0 Q (F0 m 5 ls [])) : ∀ (tp_kind : Int32) (tp_value : Int32) (tp_place : Int32) (H : Heap) (locs : List Loc) (ls : Array Slot), pX7_readNumber_5B tp_length tp_start tp_bytes K_5 tp_kind tp_value tp_place = some out → va_P (dC, dI) vwCl (wdX7_readNumber cyI cyZ cyJ cyB cyO h_tp a_tp_bytes tp_length tp_kind tp_start tp_value tp_place tp_bytes) H → va_D A (wdX7_readNumber cyI cyZ cyJ cyB cyO h_tp a_tp_bytes tp_length tp_kind tp_start tp_value tp_place tp_bytes) → va_S A s.heap H locs → lv_has ls 1 [(0, .ref h_tp)] → W p l e ({ frames := 2, cells := 0, slots := 0, locals := 43 } : Room) s m args below meth c H locs 0 0 Q (F0 m 5 ls []) := by
  intro tp_kind tp_value tp_place H locs ls hp hP hD hS hl
  unfold pX7_readNumber_5B at hp
  refine lv_aload_n hx hb dX7_readNumber_5 rfl (lv_at hl 0 rfl) ?_
  refine va_get (D := (dC, dI)) (ci := 7) (v := .int tp_place) (C := RX7) (T := TX7) (N := 6) hx hb hts fX7_readNumber_X7 hown hK hP 0 rfl rfl 5 (by decide) (hts _ kX7_readNumber_2) (fun _ h9 => h9) rfl dX7_readNumber_6 ?_
  refine lv_aload_n hx hb dX7_readNumber_9 rfl (lv_at hl 0 rfl) ?_
  refine va_get (D := (dC, dI)) (ci := 7) (v := .int tp_length) (C := RX7) (T := TX7) (N := 6) hx hb hts fX7_readNumber_X7 hown hK hP 0 rfl rfl 1 (by decide) (hts _ kX7_readNumber_3) (fun _ h9 => h9) rfl dX7_readNumber_10 ?_
  refine lv_icmp_ge (tgt := 63) hx hb dX7_readNumber_13 (by decide) (fun c_1 => ?_) (fun c_1 => ?_)
  · have hp := px_t hp c_1
    exact lcX7_readNumber_63 dC dI cyI cyZ cyJ cyB cyO h_tp a_tp_bytes tp_length tp_kind tp_start tp_value tp_place tp_bytes out hx hb hml hts hown hK hN hA hQ tp_kind tp_value tp_place _ _ ls hp hP hD hS (lv_sub hl [0] rfl)
  · have hp := px_f hp c_1
    refine lv_aload_n hx hb dX7_readNumber_16 rfl (lv_at hl 0 rfl) ?_
    refine lv_aload_n hx hb dX7_readNumber_17 rfl (lv_at hl 0 rfl) ?_
    refine va_get (D := (dC, dI)) (ci := 7) (v := .int tp_place) (C := RX7) (T := TX7) (N := 6) hx hb hts fX7_readNumber_X7 hown hK hP 0 rfl rfl 5 (by decide) (hts _ kX7_readNumber_2) (fun _ h9 => h9) rfl dX7_readNumber_18 ?_
    obtain ⟨o_3, ho_3, hp⟩ := px_b_at hp
    refine px_callR (v := .int o_3) (va_runV (As := [.int tp_place]) (rest := []) ⟨hx, hb, hml, hown, hts⟩ (ccX7_isFigureAt l dC dI cyI cyZ cyJ cyB cyO h_tp a_tp_bytes tp_length tp_kind tp_start tp_value tp_place tp_bytes tp_place o_3 ho_3) (cwV 1 hts gX7_readNumber_X7_isFigureAt rfl rfl rfl hvX7_isFigureAt ⟨Nat.le_of_ble_eq_true rfl, Nat.le_of_ble_eq_true rfl⟩) (px_preRV (wc := (wdX7_isFigureAt cyI cyZ cyJ cyB cyO h_tp a_tp_bytes tp_length tp_kind tp_start tp_value tp_place tp_bytes)) (ci := 7) (q0 := 0) hK hN hP [0, 1] rfl rfl rfl) rfl rfl hl.1 rfl (lv_room (Nat.le_of_ble_eq_true rfl)) dX7_readNumber_21 ⟨Nat.zero_le _, Nat.zero_le _⟩) ?_
    refine lv_if_eq (tgt := 63) hx hb dX7_readNumber_24 (by decide) (fun c_4 => ?_) (fun c_4 => ?_)
    · have hp := px_t hp c_4
      exact lcX7_readNumber_63 dC dI cyI cyZ cyJ cyB cyO h_tp a_tp_bytes tp_length tp_kind tp_start tp_value tp_place tp_bytes out hx hb hml hts hown hK hN hA hQ tp_kind tp_value tp_place _ _ ls hp hP hD hS (lv_sub hl [0] rfl)
    · have hp := px_f hp c_4
      refine lv_aload_n hx hb dX7_readNumber_27 rfl (lv_at hl 0 rfl) ?_
      refine lv_aload_n hx hb dX7_readNumber_28 rfl (lv_at hl 0 rfl) ?_
      refine va_get (D := (dC, dI)) (ci := 7) (v := .int tp_value) (C := RX7) (T := TX7) (N := 6) hx hb hts fX7_readNumber_X7 hown hK hP 0 rfl rfl 4 (by decide) (hts _ kX7_readNumber_1) (fun _ h9 => h9) rfl dX7_readNumber_29 ?_
      refine lv_bipush (v := (10 : Int32)) hx hb dX7_readNumber_32 (by decide) ?_
      refine lv_imul hx hb dX7_readNumber_34 ?_
      refine lv_aload_n hx hb dX7_readNumber_35 rfl (lv_at hl 0 rfl) ?_
      refine lv_aload_n hx hb dX7_readNumber_36 rfl (lv_at hl 0 rfl) ?_
      refine va_get (D := (dC, dI)) (ci := 7) (v := .int tp_place) (C := RX7) (T := TX7) (N := 6) hx hb hts fX7_readNumber_X7 hown hK hP 0 rfl rfl 5 (by decide) (hts _ kX7_readNumber_2) (fun _ h9 => h9) rfl dX7_readNumber_37 ?_
      obtain ⟨o_5, ho_5, hp⟩ := px_b_at hp
      refine px_callR (v := .int o_5) (va_runV (As := [.int tp_place]) (rest := [.int (tp_value * (10 : Int32)), .ref h_tp]) ⟨hx, hb, hml, hown, hts⟩ (ccX7_byteAt l dC dI cyI cyZ cyJ cyB cyO h_tp a_tp_bytes tp_length tp_kind tp_start tp_value tp_place tp_bytes tp_place o_5 ho_5) (cwV 1 hts gX7_readNumber_X7_byteAt rfl rfl rfl hvX7_byteAt ⟨Nat.le_of_ble_eq_true rfl, Nat.le_of_ble_eq_true rfl⟩) (px_preRV (wc := (wdX7_byteAt cyI cyZ cyJ cyB cyO h_tp a_tp_bytes tp_length tp_kind tp_start tp_value tp_place tp_bytes)) (ci := 7) (q0 := 0) hK hN hP [0, 1] rfl rfl rfl) rfl rfl hl.1 rfl (lv_room (Nat.le_of_ble_eq_true rfl)) dX7_readNumber_40 ⟨Nat.zero_le _, Nat.zero_le _⟩) ?_
      refine lv_iadd hx hb dX7_readNumber_43 ?_
      refine lv_bipush (v := (48 : Int32)) hx hb dX7_readNumber_44 (by decide) ?_
      refine lv_isub hx hb dX7_readNumber_46 ?_
      refine va_put (D := (dC, dI)) (ci := 7) (v := .int (((tp_value * (10 : Int32)) + o_5) - (48 : Int32))) (ty := .int) (C := RX7) (T := TX7) (N := 6) hx hb hts fX7_readNumber_X7 tyX7 tyX7_ok nmX7 hown hK hP hD hS 0 rfl rfl 4 (by decide) (hts _ kX7_readNumber_1) (fun _ h9 => h9) rfl (tyX7_ok 4 (by decide)) rfl rfl (Nat.le_of_ble_eq_true rfl) dX7_readNumber_47 (fun H locs hP hD hS => ?_)
      have hP : va_P (dC, dI) vwCl (wdX7_readNumber cyI cyZ cyJ cyB cyO h_tp a_tp_bytes tp_length tp_kind tp_start (((tp_value * (10 : Int32)) + o_5) - (48 : Int32)) tp_place tp_bytes) H := hP
      have hD : va_D A (wdX7_readNumber cyI cyZ cyJ cyB cyO h_tp a_tp_bytes tp_length tp_kind tp_start (((tp_value * (10 : Int32)) + o_5) - (48 : Int32)) tp_place tp_bytes) := hD
      refine lv_aload_n hx hb dX7_readNumber_50 rfl (lv_at hl 0 rfl) ?_
      refine lv_dup hx hb dX7_readNumber_51 rfl ?_
      refine va_get (D := (dC, dI)) (ci := 7) (v := .int tp_place) (C := RX7) (T := TX7) (N := 6) hx hb hts fX7_readNumber_X7 hown hK hP 0 rfl rfl 5 (by decide) (hts _ kX7_readNumber_2) (fun _ h9 => h9) rfl dX7_readNumber_52 ?_
      refine lv_iconst (v := (1 : Int32)) hx hb dX7_readNumber_55 (by decide) ?_
      refine lv_iadd hx hb dX7_readNumber_56 ?_
      refine va_put (D := (dC, dI)) (ci := 7) (v := .int (tp_place + (1 : Int32))) (ty := .int) (C := RX7) (T := TX7) (N := 6) hx hb hts fX7_readNumber_X7 tyX7 tyX7_ok nmX7 hown hK hP hD hS 0 rfl rfl 5 (by decide) (hts _ kX7_readNumber_2) (fun _ h9 => h9) rfl (tyX7_ok 5 (by decide)) rfl rfl (Nat.le_of_ble_eq_true rfl) dX7_readNumber_57 (fun H locs hP hD hS => ?_)
      have hP : va_P (dC, dI) vwCl (wdX7_readNumber cyI cyZ cyJ cyB cyO h_tp a_tp_bytes tp_length tp_kind tp_start (((tp_value * (10 : Int32)) + o_5) - (48 : Int32)) (tp_place + (1 : Int32)) tp_bytes) H := hP
      have hD : va_D A (wdX7_readNumber cyI cyZ cyJ cyB cyO h_tp a_tp_bytes tp_length tp_kind tp_start (((tp_value * (10 : Int32)) + o_5) - (48 : Int32)) (tp_place + (1 : Int32)) tp_bytes) := hD
      refine lv_goto (tgt := 5) hx hb dX7_readNumber_60 (by decide) ?_
      exact hK_5 tp_kind (((tp_value * (10 : Int32)) + o_5) - (48 : Int32)) (tp_place + (1 : Int32)) _ _ ls hp hP hD hS (lv_sub hl [0] rfl)
theorem lcX7_readNumber_5 {p : Program} {l : Launch} {e : Env} {s : State} {m : MethodId} {args : Array Value} {below : List Frame} {meth : Method} {c : Code} {Q : State → Prop} {A : Nat → Prop} (dC : Nat → ClassId) (dI : Nat → Nat → Nat) (cyI cyZ cyJ cyB cyO : ClassId) (h_tp a_tp_bytes : Nat) (tp_length : Int32) (tp_kind : Int32) (tp_start : Int32) (tp_value : Int32) (tp_place : Int32) (tp_bytes : Nat → Int32) (out : Int32 × Int32 × Int32) (hx : p.tables.exec = Jvm.exec) (hb : c.code = cX7_readNumber) (hml : c.maxLocals = 1) (hts : ∀ w ∈ wsX7_readNumber, w.before args s = true) (hown : s.vm.findClass RX7 = some m.cls) (hK : va_K (dC, dI) vwCl (px_TY cyI cyZ cyJ cyB cyO) s) (hN : px_NW s) (hA : ∀ q : Nat, s.heap.size ≤ q → A q) (hQ : ∀ (H : Heap) (locs : List Loc) (pc : Nat) (ls : Array Slot), va_P (dC, dI) vwCl (wdX7_readNumber cyI cyZ cyJ cyB cyO h_tp a_tp_bytes tp_length out.1 tp_start out.2.1 out.2.2 tp_bytes) H → va_D A (wdX7_readNumber cyI cyZ cyJ cyB cyO h_tp a_tp_bytes tp_length out.1 tp_start out.2.1 out.2.2 tp_bytes) → va_S A s.heap H locs → decode cX7_readNumber pc = .ok (.return_, 1) → W p l e ({ frames := 2, cells := 0, slots := 0, locals := 43 } : Room) s m args below meth c H locs 0 0 Q (F0 m pc ls []))  : ∀ n : Nat, ∀ (tp_kind : Int32) (tp_value : Int32) (tp_place : Int32) (H : Heap) (locs : List Loc) (ls : Array Slot), pX7_readNumber_5 tp_length tp_start tp_bytes n tp_kind tp_value tp_place = some out → va_P (dC, dI) vwCl (wdX7_readNumber cyI cyZ cyJ cyB cyO h_tp a_tp_bytes tp_length tp_kind tp_start tp_value tp_place tp_bytes) H → va_D A (wdX7_readNumber cyI cyZ cyJ cyB cyO h_tp a_tp_bytes tp_length tp_kind tp_start tp_value tp_place tp_bytes) → va_S A s.heap H locs → lv_has ls 1 [(0, .ref h_tp)] → W p l e ({ frames := 2, cells := 0, slots := 0, locals := 43 } : Room) s m args below meth c H locs 0 0 Q (F0 m 5 ls []) := by
  intro n
  induction n with
  | zero =>
    intro tp_kind tp_value tp_place H locs ls hp hP hD hS hl
    exact nomatch hp
  | succ n ih => exact lcX7_readNumber_5B dC dI cyI cyZ cyJ cyB cyO h_tp a_tp_bytes tp_length tp_kind tp_start tp_value tp_place tp_bytes out hx hb hml hts hown hK hN hA hQ (pX7_readNumber_5 tp_length tp_start tp_bytes n) ih
set_option maxHeartbeats 4000000 in
set_option maxRecDepth 100000 in
theorem ccX7_readNumber (l : Launch) (dC : Nat → ClassId) (dI : Nat → Nat → Nat) (cyI cyZ cyJ cyB cyO : ClassId) (sz : Nat) (h_tp a_tp_bytes : Nat) (tp_length : Int32) (tp_kind : Int32) (tp_start : Int32) (tp_value : Int32) (tp_place : Int32) (tp_bytes : Nat → Int32) (out : Int32 × Int32 × Int32) (hp : pX7_readNumber tp_length tp_start tp_bytes tp_kind tp_value tp_place = some out) : Met l yX7_readNumber wsX7_readNumber ({ frames := 2, cells := 0, slots := 0, locals := 43 } : Room) (px_PW (dC, dI) (px_TY cyI cyZ cyJ cyB cyO) [.ref h_tp] (wdX7_readNumber cyI cyZ cyJ cyB cyO h_tp a_tp_bytes tp_length tp_kind tp_start tp_value tp_place tp_bytes) sz) (px_QW none (dC, dI) (wdX7_readNumber cyI cyZ cyJ cyB cyO h_tp a_tp_bytes tp_length tp_kind tp_start tp_value tp_place tp_bytes) (wdX7_readNumber cyI cyZ cyJ cyB cyO h_tp a_tp_bytes tp_length out.1 tp_start out.2.1 out.2.2 tp_bytes) sz) 0 0 (va_A (wdX7_readNumber cyI cyZ cyJ cyB cyO h_tp a_tp_bytes tp_length tp_kind tp_start tp_value tp_place tp_bytes) sz) := by
  refine Met.ofW (cc := cX7_readNumber) (maxL := 1) (ret := none) (by decide) rfl ?_
  intro p e s m args below meth c s₁ B hml hv
  obtain ⟨rfl, hsz, hP, hK, hD0, hN⟩ := hv
  have hx := B.exec
  have hb := B.bytes
  have hr := B.returns
  have hts := atoms_spec (ws := wsX7_readNumber) B.pre
  have hown : s.vm.findClass RX7 = some m.cls := findClass_of_methodNamed B.named
  have hlocks := B.notSynchronized
  subst hsz
  have hD := hD0.self (sz := s.heap.size)
  generalize hAe : va_A (wdX7_readNumber cyI cyZ cyJ cyB cyO h_tp a_tp_bytes tp_length tp_kind tp_start tp_value tp_place tp_bytes) s.heap.size = A at hD ⊢
  have hA : ∀ q : Nat, s.heap.size ≤ q → A q := fun q h => by rw [← hAe]; exact Or.inr h
  have hS : va_S A s.heap s.heap [] := va_S.rf
  have hq := px_QWe (v := none) (D := (dC, dI)) (w1 := (wdX7_readNumber cyI cyZ cyJ cyB cyO h_tp a_tp_bytes tp_length out.1 tp_start out.2.1 out.2.2 tp_bytes)) (st := s) hAe
  generalize px_QW none (dC, dI) (wdX7_readNumber cyI cyZ cyJ cyB cyO h_tp a_tp_bytes tp_length tp_kind tp_start tp_value tp_place tp_bytes) (wdX7_readNumber cyI cyZ cyJ cyB cyO h_tp a_tp_bytes tp_length out.1 tp_start out.2.1 out.2.2 tp_bytes) s.heap.size = Qc at hq ⊢
  have hQ : ∀ (H : Heap) (locs : List Loc) (pc : Nat) (ls : Array Slot), va_P (dC, dI) vwCl (wdX7_readNumber cyI cyZ cyJ cyB cyO h_tp a_tp_bytes tp_length out.1 tp_start out.2.1 out.2.2 tp_bytes) H → va_D A (wdX7_readNumber cyI cyZ cyJ cyB cyO h_tp a_tp_bytes tp_length out.1 tp_start out.2.1 out.2.2 tp_bytes) → va_S A s.heap H locs → decode cX7_readNumber pc = .ok (.return_, 1) → W p l e ({ frames := 2, cells := 0, slots := 0, locals := 43 } : Room) s m (([.ref h_tp] : List Value).toArray) below meth c H locs 0 0 (MQ below Qc (([.ref h_tp] : List Value).toArray) s 0 0 A) (F0 m pc ls []) := fun H locs pc ls hP hD hS hd => W.vret hx hb hr (fun t ht hW => hq _ t (by rw [ht]; exact hP) hD (hS.F ht)) hS.2.2 hd
  generalize MQ below Qc (([.ref h_tp] : List Value).toArray) s 0 0 A = Q at hQ ⊢
  have hl := lv_entry [.ref h_tp] (n := 1) (Nat.le_of_ble_eq_true rfl)
  rw [lg_entry_eq]
  generalize (lg_sl [.ref h_tp] ++ List.replicate (1 - (lg_sl [.ref h_tp]).length) Slot.unset).toArray = ls at hl ⊢
  have hl : lv_has ls 1 [(0, .ref h_tp)] := hl
  unfold pX7_readNumber at hp
  refine lv_aload_n hx hb dX7_readNumber_0 rfl (lv_at hl 0 rfl) ?_
  refine lv_iconst (v := (0 : Int32)) hx hb dX7_readNumber_1 (by decide) ?_
  refine va_put (D := (dC, dI)) (ci := 7) (v := .int (0 : Int32)) (ty := .int) (C := RX7) (T := TX7) (N := 6) hx hb hts fX7_readNumber_X7 tyX7 tyX7_ok nmX7 hown hK hP hD hS 0 rfl rfl 4 (by decide) (hts _ kX7_readNumber_1) (fun _ h9 => h9) rfl (tyX7_ok 4 (by decide)) rfl rfl (Nat.le_of_ble_eq_true rfl) dX7_readNumber_2 (fun H locs hP hD hS => ?_)
  have hP : va_P (dC, dI) vwCl (wdX7_readNumber cyI cyZ cyJ cyB cyO h_tp a_tp_bytes tp_length tp_kind tp_start (0 : Int32) tp_place tp_bytes) H := hP
  have hD : va_D A (wdX7_readNumber cyI cyZ cyJ cyB cyO h_tp a_tp_bytes tp_length tp_kind tp_start (0 : Int32) tp_place tp_bytes) := hD
  exact lcX7_readNumber_5 dC dI cyI cyZ cyJ cyB cyO h_tp a_tp_bytes tp_length tp_kind tp_start tp_value tp_place tp_bytes out hx hb hml hts hown hK hN hA hQ px_FU tp_kind (0 : Int32) tp_place _ _ ls hp hP hD hS (lv_sub hl [0] rfl)
