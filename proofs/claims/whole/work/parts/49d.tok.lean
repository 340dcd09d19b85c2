/-! TagReader$Tape.readName()V -/
def pX7_readName_42B (tp_length : Int32) (tp_start : Int32) (tp_bytes : Nat → Int32) (K_42 : Int32 → Int32 → Int32 → Int32 → Option (Int32 × Int32 × Int32)) (v1 : Int32) (tp_kind : Int32) (tp_value : Int32) (tp_place : Int32) : Option (Int32 × Int32 × Int32) := (if (7 : Int32) ≤ v1 then some (tp_kind, tp_value, tp_place) else px_b (pX7_lineName v1) (fun o_3 => px_j o_3 (px_b (pX7_isSpelled o_3 tp_length tp_start tp_place tp_bytes) (fun o_4 => (if o_4 = (0 : Int32) then K_42 (v1 + (1 : Int32)) tp_kind tp_value tp_place else K_42 (v1 + (1 : Int32)) (1 : Int32) v1 tp_place)))))
def pX7_readName_42 (tp_length : Int32) (tp_start : Int32) (tp_bytes : Nat → Int32) : Nat → Int32 → Int32 → Int32 → Int32 → Option (Int32 × Int32 × Int32)
  | 0, _, _, _, _ => none
  | n + 1, v1, tp_kind, tp_value, tp_place => pX7_readName_42B tp_length tp_start tp_bytes (pX7_readName_42 tp_length tp_start tp_bytes n) v1 tp_kind tp_value tp_place
def pX7_readName_0B (tp_length : Int32) (tp_start : Int32) (tp_bytes : Nat → Int32) (K_0 : Int32 → Int32 → Int32 → Option (Int32 × Int32 × Int32)) (tp_kind : Int32) (tp_value : Int32) (tp_place : Int32) : Option (Int32 × Int32 × Int32) := (if tp_length ≤ tp_place then pX7_readName_42 tp_length tp_start tp_bytes px_FU (0 : Int32) (0 : Int32) tp_value tp_place else px_b (pX7_isLetterAt tp_place tp_length tp_bytes) (fun o_10 => (if o_10 = (0 : Int32) then pX7_readName_42 tp_length tp_start tp_bytes px_FU (0 : Int32) (0 : Int32) tp_value tp_place else K_0 tp_kind tp_value (tp_place + (1 : Int32)))))
def pX7_readName_0 (tp_length : Int32) (tp_start : Int32) (tp_bytes : Nat → Int32) : Nat → Int32 → Int32 → Int32 → Option (Int32 × Int32 × Int32)
  | 0, _, _, _ => none
  | n + 1, tp_kind, tp_value, tp_place => pX7_readName_0B tp_length tp_start tp_bytes (pX7_readName_0 tp_length tp_start tp_bytes n) tp_kind tp_value tp_place
def pX7_readName (tp_length : Int32) (tp_start : Int32) (tp_bytes : Nat → Int32) (tp_kind : Int32) (tp_value : Int32) (tp_place : Int32) : Option (Int32 × Int32 × Int32) := (if tp_length ≤ tp_place then pX7_readName_42 tp_length tp_start tp_bytes px_FU (0 : Int32) (0 : Int32) tp_value tp_place else px_b (pX7_isLetterAt tp_place tp_length tp_bytes) (fun o_7 => (if o_7 = (0 : Int32) then pX7_readName_42 tp_length tp_start tp_bytes px_FU (0 : Int32) (0 : Int32) tp_value tp_place else pX7_readName_0 tp_length tp_start tp_bytes px_FU tp_kind tp_value (tp_place + (1 : Int32)))))
abbrev wdX7_readName (cyI cyZ cyJ cyB cyO : ClassId) (h_tp a_tp_bytes : Nat) (tp_length : Int32) (tp_kind : Int32) (tp_start : Int32) (tp_value : Int32) (tp_place : Int32) (tp_bytes : Nat → Int32) : va_W := [(h_tp, .inr (7, [.ref a_tp_bytes, .int tp_length, .int tp_kind, .int tp_start, .int tp_value, .int tp_place])), (a_tp_bytes, .inl (cyB, 200, .inl tp_bytes))]
/-! TagReader$Tape.readToken()V -/
def pX7_readToken_119 (tp_length : Int32) (tp_bytes : Nat → Int32) (t0 : Int32) (tp_kind : Int32) (tp_start : Int32) (tp_value : Int32) (tp_place : Int32) : Option (Int32 × Int32 × Int32 × Int32) := some (t0, tp_start, tp_value, (tp_place + (1 : Int32)))
def pX7_readToken_37 (tp_length : Int32) (tp_bytes : Nat → Int32) (tp_kind : Int32) (tp_start : Int32) (tp_value : Int32) (tp_place : Int32) : Option (Int32 × Int32 × Int32 × Int32) := (if tp_place < tp_length then px_b (pX7_isLetterAt tp_place tp_length tp_bytes) (fun o_3 => (if o_3 = (0 : Int32) then px_b (pX7_isFigureAt tp_place tp_length tp_bytes) (fun o_5 => (if o_5 = (0 : Int32) then px_b (pX7_byteAt tp_place tp_length tp_bytes) (fun o_7 => (if o_7 = (59 : Int32) then pX7_readToken_119 tp_length tp_bytes (3 : Int32) tp_kind tp_place tp_value tp_place else pX7_readToken_119 tp_length tp_bytes (0 : Int32) tp_kind tp_place tp_value tp_place)) else px_b (pX7_readNumber tp_length tp_place tp_bytes tp_kind tp_value tp_place) (fun o_9 => some (o_9.1, tp_place, o_9.2.1, o_9.2.2)))) else px_b (pX7_readName tp_length tp_place tp_bytes tp_kind tp_value tp_place) (fun o_10 => some (o_10.1, tp_place, o_10.2.1, o_10.2.2)))) else some ((4 : Int32), tp_place, tp_value, tp_place))
def pX7_readToken_0B (tp_length : Int32) (tp_bytes : Nat → Int32) (K_0 : Int32 → Int32 → Int32 → Int32 → Option (Int32 × Int32 × Int32 × Int32)) (tp_kind : Int32) (tp_start : Int32) (tp_value : Int32) (tp_place : Int32) : Option (Int32 × Int32 × Int32 × Int32) := (if tp_length ≤ tp_place then pX7_readToken_37 tp_length tp_bytes tp_kind tp_start tp_value tp_place else px_b (pX7_byteAt tp_place tp_length tp_bytes) (fun o_14 => (if o_14 = (32 : Int32) then K_0 tp_kind tp_start tp_value (tp_place + (1 : Int32)) else pX7_readToken_37 tp_length tp_bytes tp_kind tp_start tp_value tp_place)))
def pX7_readToken_0 (tp_length : Int32) (tp_bytes : Nat → Int32) : Nat → Int32 → Int32 → Int32 → Int32 → Option (Int32 × Int32 × Int32 × Int32)
  | 0, _, _, _, _ => none
  | n + 1, tp_kind, tp_start, tp_value, tp_place => pX7_readToken_0B tp_length tp_bytes (pX7_readToken_0 tp_length tp_bytes n) tp_kind tp_start tp_value tp_place
def pX7_readToken (tp_length : Int32) (tp_bytes : Nat → Int32) (tp_kind : Int32) (tp_start : Int32) (tp_value : Int32) (tp_place : Int32) : Option (Int32 × Int32 × Int32 × Int32) := (if tp_length ≤ tp_place then pX7_readToken_37 tp_length tp_bytes tp_kind tp_start tp_value tp_place else px_b (pX7_byteAt tp_place tp_length tp_bytes) (fun o_11 => (if o_11 = (32 : Int32) then pX7_readToken_0 tp_length tp_bytes px_FU tp_kind tp_start tp_value (tp_place + (1 : Int32)) else pX7_readToken_37 tp_length tp_bytes tp_kind tp_start tp_value tp_place)))
abbrev wdX7_readToken (cyI cyZ cyJ cyB cyO : ClassId) (h_tp a_tp_bytes : Nat) (tp_length : Int32) (tp_kind : Int32) (tp_start : Int32) (tp_value : Int32) (tp_place : Int32) (tp_bytes : Nat → Int32) : va_W := [(h_tp, .inr (7, [.ref a_tp_bytes, .int tp_length, .int tp_kind, .int tp_start, .int tp_value, .int tp_place])), (a_tp_bytes, .inl (cyB, 200, .inl tp_bytes))]
/-! TagReader$Tape.readName()V -/
theorem hvX7_readName : yX7_readName.cls = RX7 ∧ yX7_readName.cls ≠ "java/lang/invoke/MethodHandle" ∧ yX7_readName.cls ≠ "java/lang/invoke/VarHandle" ∧ (parseMethodDescriptor yX7_readName.desc).map (fun d => d.parameters.length) = some 0 := by decide +kernel
theorem fX7_readName_X7 : ∀ w ∈ u_ws RX7 TX7 6, w ∈ wsX7_readName := fun _ h => List.mem_cons_of_mem _ (List.mem_append_right _ h)
theorem kX7_readName_1 : (.fieldLink RX7 28 "TagReader$Tape" "place" "I" : Cond) ∈ wsX7_readName := List.mem_of_getElem? (i := 1) rfl
theorem kX7_readName_2 : (.fieldLink RX7 15 "TagReader$Tape" "length" "I" : Cond) ∈ wsX7_readName := List.mem_of_getElem? (i := 2) rfl
theorem kX7_readName_3 : (.fieldLink RX7 19 "TagReader$Tape" "kind" "I" : Cond) ∈ wsX7_readName := List.mem_of_getElem? (i := 3) rfl
theorem kX7_readName_4 : (.fieldLink RX7 25 "TagReader$Tape" "value" "I" : Cond) ∈ wsX7_readName := List.mem_of_getElem? (i := 4) rfl
set_option maxHeartbeats 4000000 in
set_option maxRecDepth 100000 in
theorem lcX7_readName_42B {p : Program} {l : Launch} {e : Env} {s : State} {m : MethodId} {args : Array Value} {below : List Frame} {meth : Method} {c : Code} {Q : State → Prop} {A : Nat → Prop} (dC : Nat → ClassId) (dI : Nat → Nat → Nat) (cyI cyZ cyJ cyB cyO : ClassId) (sK sV tS : Nat → Nat) (h_tp a_tp_bytes : Nat) (tp_length : Int32) (tp_kind : Int32) (tp_start : Int32) (tp_value : Int32) (tp_place : Int32) (tp_bytes : Nat → Int32) (out : Int32 × Int32 × Int32) (hx : p.tables.exec = Jvm.exec) (hb : c.code = cX7_readName) (hml : c.maxLocals = 2) (hts : ∀ w ∈ wsX7_readName, w.before args s = true) (hown : s.vm.findClass RX7 = some m.cls) (hK : va_K (dC, dI) vwCl (px_TY cyI cyZ cyJ cyB cyO) s) (hN : px_NW s) (hG : px_SG sK sV tS A s s.heap) (hA : ∀ q : Nat, s.heap.size ≤ q → A q) (hQ : ∀ (H : Heap) (locs : List Loc) (pc : Nat) (ls : Array Slot), va_P (dC, dI) vwCl (wdX7_readName cyI cyZ cyJ cyB cyO h_tp a_tp_bytes tp_length out.1 tp_start out.2.1 out.2.2 tp_bytes) H → va_D A (wdX7_readName cyI cyZ cyJ cyB cyO h_tp a_tp_bytes tp_length out.1 tp_start out.2.1 out.2.2 tp_bytes) → va_S A s.heap H locs → decode cX7_readName pc = .ok (.return_, 1) → W p l e ({ frames := 5, cells := 0, slots := 0, locals := 108 } : Room) s m args below meth c H locs 0 0 Q (F0 m pc ls []))  (K_42 : Int32 → Int32 → Int32 → Int32 → Option (Int32 × Int32 × Int32)) (hK_42 : ∀ (v1 : Int32) (tp_kind : Int32) (tp_value : Int32) (tp_place : Int32) (H : Heap) (locs : List Loc) (ls : Array Slot), K_42 v1 tp_kind tp_value tp_place = some out → va_P (dC, dI) vwCl (wdX7_readName cyI cyZ cyJ cyB cyO h_tp a_tp_bytes tp_length tp_kind tp_start tp_value tp_place tp_bytes) H → va_D A (wdX7_readName cyI cyZ cyJ cyB cyO h_tp a_tp_bytes tp_length tp_kind tp_start tp_value tp_place tp_bytes) → va_S A s.heap H locs → lv_has ls 2 [(0, .ref h_tp), (1, .int v1)] → W p l e ({ frames := 5, cells := 0, slots := 0, locals := 108 } : Room) s m args below meth c H locs 0 0 Q (F0 m 42 ls [])) : ∀ (v1 : Int32) (tp_kind : Int32) (tp_value : Int32) (tp_place : Int32) (H : Heap) (locs : List Loc) (ls : Array Slot), pX7_readName_42B tp_length tp_start tp_bytes K_42 v1 tp_kind tp_value tp_place = some out → va_P (dC, dI) vwCl (wdX7_readName cyI cyZ cyJ cyB cyO h_tp a_tp_bytes tp_length tp_kind tp_start tp_value tp_place tp_bytes) H → va_D A (wdX7_readName cyI cyZ cyJ cyB cyO h_tp a_tp_bytes tp_length tp_kind tp_start tp_value tp_place tp_bytes) → va_S A s.heap H locs → lv_has ls 2 [(0, .ref h_tp), (1, .int v1)] → W p l e ({ frames := 5, cells := 0, slots := 0, locals := 108 } : Room) s m args below meth c H locs 0 0 Q (F0 m 42 ls []) := by
  intro v1 tp_kind tp_value tp_place H locs ls hp hP hD hS hl
  unfold pX7_readName_42B at hp
  refine lv_iload_n hx hb dX7_readName_42 rfl (lv_at hl 1 rfl) ?_
  refine lv_bipush (v := (7 : Int32)) hx hb dX7_readName_43 (by decide) ?_
  refine lv_icmp_ge (tgt := 75) hx hb dX7_readName_45 (by decide) (fun c_2 => ?_) (fun c_2 => ?_)
  · have hp := px_t hp c_2
    have ho := px_s hp
    subst ho
    exact hQ _ _ _ _ hP hD hS dX7_readName_75
  · have hp := px_f hp c_2
    refine lv_aload_n hx hb dX7_readName_48 rfl (lv_at hl 0 rfl) ?_
    refine lv_iload_n hx hb dX7_readName_49 rfl (lv_at hl 1 rfl) ?_
    obtain ⟨o_3, ho_3, hp⟩ := px_b_at hp
    refine px_callR (v := .ref (sK o_3)) (va_runS (As := [.int v1]) (rest := [.ref h_tp]) ⟨hx, hb, hml, hown, hts⟩ (ccX7_lineName l dC dI cyI cyZ cyJ cyB cyO sK sV tS v1 o_3 ho_3) (va_cwS 1 hts gX7_readName_X7_lineName rfl rfl rfl hsX7_lineName ⟨Nat.le_of_ble_eq_true rfl, Nat.le_of_ble_eq_true rfl⟩) (px_preRs (wc := []) hG hS hK hN hP [] rfl) rfl rfl hl.1 rfl (lv_room (Nat.le_of_ble_eq_true rfl)) dX7_readName_50 ⟨Nat.zero_le _, Nat.zero_le _⟩) ?_
    obtain ⟨hj_5, hp⟩ := px_j_at hp
    obtain ⟨o_4, ho_4, hp⟩ := px_b_at hp
    refine px_callR (v := .int o_4) (va_runV (As := [.ref (sK o_3)]) (rest := []) ⟨hx, hb, hml, hown, hts⟩ (ccX7_isSpelled l dC dI cyI cyZ cyJ cyB cyO sK sV tS h_tp a_tp_bytes tp_length tp_kind tp_start tp_value tp_place tp_bytes o_3 hj_5 o_4 ho_4) (cwV 1 hts gX7_readName_X7_isSpelled rfl rfl rfl hvX7_isSpelled ⟨Nat.le_of_ble_eq_true rfl, Nat.le_of_ble_eq_true rfl⟩) (px_preRVs (wc := (wdX7_isSpelled cyI cyZ cyJ cyB cyO h_tp a_tp_bytes tp_length tp_kind tp_start tp_value tp_place tp_bytes)) (ci := 7) (q0 := 0) hG hS hK hN hP [0, 1] rfl rfl rfl) rfl rfl hl.1 rfl (lv_room (Nat.le_of_ble_eq_true rfl)) dX7_readName_53 ⟨Nat.zero_le _, Nat.zero_le _⟩) ?_
    refine lv_if_eq (tgt := 69) hx hb dX7_readName_56 (by decide) (fun c_6 => ?_) (fun c_6 => ?_)
    · have hp := px_t hp c_6
      refine lv_iinc (v := (v1 + (1 : Int32))) (lv' := [(1, .int (v1 + (1 : Int32))), (0, .ref h_tp)]) hx hb dX7_readName_69 hl (k := 1) rfl rfl (by decide) rfl (fun ls hl => ?_)
      refine lv_goto (tgt := 42) hx hb dX7_readName_72 (by decide) ?_
      exact hK_42 (v1 + (1 : Int32)) tp_kind tp_value tp_place _ _ ls hp hP hD hS (lv_sub hl [1, 0] rfl)
    · have hp := px_f hp c_6
      refine lv_aload_n hx hb dX7_readName_59 rfl (lv_at hl 0 rfl) ?_
      refine lv_iconst (v := (1 : Int32)) hx hb dX7_readName_60 (by decide) ?_
      refine va_put (D := (dC, dI)) (ci := 7) (v := .int (1 : Int32)) (ty := .int) (C := RX7) (T := TX7) (N := 6) hx hb hts fX7_readName_X7 tyX7 tyX7_ok nmX7 hown hK hP hD hS 0 rfl rfl 2 (by decide) (hts _ kX7_readName_3) (fun _ h9 => h9) rfl (tyX7_ok 2 (by decide)) rfl rfl (Nat.le_of_ble_eq_true rfl) dX7_readName_61 (fun H locs hP hD hS => ?_)
      have hP : va_P (dC, dI) vwCl (wdX7_readName cyI cyZ cyJ cyB cyO h_tp a_tp_bytes tp_length (1 : Int32) tp_start tp_value tp_place tp_bytes) H := hP
      have hD : va_D A (wdX7_readName cyI cyZ cyJ cyB cyO h_tp a_tp_bytes tp_length (1 : Int32) tp_start tp_value tp_place tp_bytes) := hD
      refine lv_aload_n hx hb dX7_readName_64 rfl (lv_at hl 0 rfl) ?_
      refine lv_iload_n hx hb dX7_readName_65 rfl (lv_at hl 1 rfl) ?_
      refine va_put (D := (dC, dI)) (ci := 7) (v := .int v1) (ty := .int) (C := RX7) (T := TX7) (N := 6) hx hb hts fX7_readName_X7 tyX7 tyX7_ok nmX7 hown hK hP hD hS 0 rfl rfl 4 (by decide) (hts _ kX7_readName_4) (fun _ h9 => h9) rfl (tyX7_ok 4 (by decide)) rfl rfl (Nat.le_of_ble_eq_true rfl) dX7_readName_66 (fun H locs hP hD hS => ?_)
      have hP : va_P (dC, dI) vwCl (wdX7_readName cyI cyZ cyJ cyB cyO h_tp a_tp_bytes tp_length (1 : Int32) tp_start v1 tp_place tp_bytes) H := hP
      have hD : va_D A (wdX7_readName cyI cyZ cyJ cyB cyO h_tp a_tp_bytes tp_length (1 : Int32) tp_start v1 tp_place tp_bytes) := hD
      refine lv_iinc (v := (v1 + (1 : Int32))) (lv' := [(1, .int (v1 + (1 : Int32))), (0, .ref h_tp)]) hx hb dX7_readName_69 hl (k := 1) rfl rfl (by decide) rfl (fun ls hl => ?_)
      refine lv_goto (tgt := 42) hx hb dX7_readName_72 (by decide) ?_
      exact hK_42 (v1 + (1 : Int32)) (1 : Int32) v1 tp_place _ _ ls hp hP hD hS (lv_sub hl [1, 0] rfl)
theorem lcX7_readName_42 {p : Program} {l : Launch} {e : Env} {s : State} {m : MethodId} {args : Array Value} {below : List Frame} {meth : Method} {c : Code} {Q : State → Prop} {A : Nat → Prop} (dC : Nat → ClassId) (dI : Nat → Nat → Nat) (cyI cyZ cyJ cyB cyO : ClassId) (sK sV tS : Nat → Nat) (h_tp a_tp_bytes : Nat) (tp_length : Int32) (tp_kind : Int32) (tp_start : Int32) (tp_value : Int32) (tp_place : Int32) (tp_bytes : Nat → Int32) (out : Int32 × Int32 × Int32) (hx : p.tables.exec = Jvm.exec) (hb : c.code = cX7_readName) (hml : c.maxLocals = 2) (hts : ∀ w ∈ wsX7_readName, w.before args s = true) (hown : s.vm.findClass RX7 = some m.cls) (hK : va_K (dC, dI) vwCl (px_TY cyI cyZ cyJ cyB cyO) s) (hN : px_NW s) (hG : px_SG sK sV tS A s s.heap) (hA : ∀ q : Nat, s.heap.size ≤ q → A q) (hQ : ∀ (H : Heap) (locs : List Loc) (pc : Nat) (ls : Array Slot), va_P (dC, dI) vwCl (wdX7_readName cyI cyZ cyJ cyB cyO h_tp a_tp_bytes tp_length out.1 tp_start out.2.1 out.2.2 tp_bytes) H → va_D A (wdX7_readName cyI cyZ cyJ cyB cyO h_tp a_tp_bytes tp_length out.1 tp_start out.2.1 out.2.2 tp_bytes) → va_S A s.heap H locs → decode cX7_readName pc = .ok (.return_, 1) → W p l e ({ frames := 5, cells := 0, slots := 0, locals := 108 } : Room) s m args below meth c H locs 0 0 Q (F0 m pc ls []))  : ∀ n : Nat, ∀ (v1 : Int32) (tp_kind : Int32) (tp_value : Int32) (tp_place : Int32) (H : Heap) (locs : List Loc) (ls : Array Slot), pX7_readName_42 tp_length tp_start tp_bytes n v1 tp_kind tp_value tp_place = some out → va_P (dC, dI) vwCl (wdX7_readName cyI cyZ cyJ cyB cyO h_tp a_tp_bytes tp_length tp_kind tp_start tp_value tp_place tp_bytes) H → va_D A (wdX7_readName cyI cyZ cyJ cyB cyO h_tp a_tp_bytes tp_length tp_kind tp_start tp_value tp_place tp_bytes) → va_S A s.heap H locs → lv_has ls 2 [(0, .ref h_tp), (1, .int v1)] → W p l e ({ frames := 5, cells := 0, slots := 0, locals := 108 } : Room) s m args below meth c H locs 0 0 Q (F0 m 42 ls []) := by
  intro n
  induction n with
  | zero =>
    intro v1 tp_kind tp_value tp_place H locs ls hp hP hD hS hl
    exact nomatch hp
  | succ n ih => exact lcX7_readName_42B dC dI cyI cyZ cyJ cyB cyO sK sV tS h_tp a_tp_bytes tp_length tp_kind tp_start tp_value tp_place tp_bytes out hx hb hml hts hown hK hN hG hA hQ (pX7_readName_42 tp_length tp_start tp_bytes n) ih
set_option maxHeartbeats 4000000 in
set_option maxRecDepth 100000 in
theorem lcX7_readName_0B {p : Program} {l : Launch} {e : Env} {s : State} {m : MethodId} {args : Array Value} {below : List Frame} {meth : Method} {c : Code} {Q : State → Prop} {A : Nat → Prop} (dC : Nat → ClassId) (dI : Nat → Nat → Nat) (cyI cyZ cyJ cyB cyO : ClassId) (sK sV tS : Nat → Nat) (h_tp a_tp_bytes : Nat) (tp_length : Int32) (tp_kind : Int32) (tp_start : Int32) (tp_value : Int32) (tp_place : Int32) (tp_bytes : Nat → Int32) (out : Int32 × Int32 × Int32) (hx : p.tables.exec = Jvm.exec) (hb : c.code = cX7_readName) (hml : c.maxLocals = 2) (hts : ∀ w ∈ wsX7_readName, w.before args s = true) (hown : s.vm.findClass RX7 = some m.cls) (hK : va_K (dC, dI) vwCl (px_TY cyI cyZ cyJ cyB cyO) s) (hN : px_NW s) (hG : px_SG sK sV tS A s s.heap) (hA : ∀ q : Nat, s.heap.size ≤ q → A q) (hQ : ∀ (H : Heap) (locs : List Loc) (pc : Nat) (ls : Array Slot), va_P (dC, dI) vwCl (wdX7_readName cyI cyZ cyJ cyB cyO h_tp a_tp_bytes tp_length out.1 tp_start out.2.1 out.2.2 tp_bytes) H → va_D A (wdX7_readName cyI cyZ cyJ cyB cyO h_tp a_tp_bytes tp_length out.1 tp_start out.2.1 out.2.2 tp_bytes) → va_S A s.heap H locs → decode cX7_readName pc = .ok (.return_, 1) → W p l e ({ frames := 5, cells := 0, slots := 0, locals := 108 } : Room) s m args below meth c H locs 0 0 Q (F0 m pc ls []))  (K_0 : Int32 → Int32 → Int32 → Option (Int32 × Int32 × Int32)) (hK_0 : ∀ (tp_kind : Int32) (tp_value : Int32) (tp_place : Int32) (H : Heap) (locs : List Loc) (ls : Array Slot), K_0 tp_kind tp_value tp_place = some out → va_P (dC, dI) vwCl (wdX7_readName cyI cyZ cyJ cyB cyO h_tp a_tp_bytes tp_length tp_kind tp_start tp_value tp_place tp_bytes) H → va_D A (wdX7_readName cyI cyZ cyJ cyB cyO h_tp a_tp_bytes tp_length tp_kind tp_start tp_value tp_place tp_bytes) → va_S A s.heap H locs → lv_has ls 2 [(0, .ref h_tp)] → W p l e ({ frames := 5, cells := 0, slots := 0, locals := 108 } : Room) s m args below meth c H locs 0 0 Q (F0 m 0 ls [])) : ∀ (tp_kind : Int32) (tp_value : Int32) (tp_place : Int32) (H : Heap) (locs : List Loc) (ls : Array Slot), pX7_readName_0B tp_length tp_start tp_bytes K_0 tp_kind tp_value tp_place = some out → va_P (dC, dI) vwCl (wdX7_readName cyI cyZ cyJ cyB cyO h_tp a_tp_bytes tp_length tp_kind tp_start tp_value tp_place tp_bytes) H → va_D A (wdX7_readName cyI cyZ cyJ cyB cyO h_tp a_tp_bytes tp_length tp_kind tp_start tp_value tp_place tp_bytes) → va_S A s.heap H locs → lv_has ls 2 [(0, .ref h_tp)] → W p l e ({ frames := 5, cells := 0, slots := 0, locals := 108 } : Room) s m args below meth c H locs 0 0 Q (F0 m 0 ls []) := by
  intro tp_kind tp_value tp_place H locs ls hp hP hD hS hl
  unfold pX7_readName_0B at hp
  refine lv_aload_n hx hb dX7_readName_0 rfl (lv_at hl 0 rfl) ?_
  refine va_get (D := (dC, dI)) (ci := 7) (v := .int tp_place) (C := RX7) (T := TX7) (N := 6) hx hb hts fX7_readName_X7 hown hK hP 0 rfl rfl 5 (by decide) (hts _ kX7_readName_1) (fun _ h9 => h9) rfl dX7_readName_1 ?_
  refine lv_aload_n hx hb dX7_readName_4 rfl (lv_at hl 0 rfl) ?_
  refine va_get (D := (dC, dI)) (ci := 7) (v := .int tp_length) (C := RX7) (T := TX7) (N := 6) hx hb hts fX7_readName_X7 hown hK hP 0 rfl rfl 1 (by decide) (hts _ kX7_readName_2) (fun _ h9 => h9) rfl dX7_readName_5 ?_
  refine lv_icmp_ge (tgt := 35) hx hb dX7_readName_8 (by decide) (fun c_9 => ?_) (fun c_9 => ?_)
  · have hp := px_t hp c_9
    refine lv_aload_n hx hb dX7_readName_35 rfl (lv_at hl 0 rfl) ?_
    refine lv_iconst (v := (0 : Int32)) hx hb dX7_readName_36 (by decide) ?_
    refine va_put (D := (dC, dI)) (ci := 7) (v := .int (0 : Int32)) (ty := .int) (C := RX7) (T := TX7) (N := 6) hx hb hts fX7_readName_X7 tyX7 tyX7_ok nmX7 hown hK hP hD hS 0 rfl rfl 2 (by decide) (hts _ kX7_readName_3) (fun _ h9 => h9) rfl (tyX7_ok 2 (by decide)) rfl rfl (Nat.le_of_ble_eq_true rfl) dX7_readName_37 (fun H locs hP hD hS => ?_)
    have hP : va_P (dC, dI) vwCl (wdX7_readName cyI cyZ cyJ cyB cyO h_tp a_tp_bytes tp_length (0 : Int32) tp_start tp_value tp_place tp_bytes) H := hP
    have hD : va_D A (wdX7_readName cyI cyZ cyJ cyB cyO h_tp a_tp_bytes tp_length (0 : Int32) tp_start tp_value tp_place tp_bytes) := hD
    refine lv_iconst (v := (0 : Int32)) hx hb dX7_readName_40 (by decide) ?_
    refine lv_istore_n (lv' := [(1, .int (0 : Int32)), (0, .ref h_tp)]) hx hb dX7_readName_41 rfl hl (by decide) rfl (fun ls hl => ?_)
    exact lcX7_readName_42 dC dI cyI cyZ cyJ cyB cyO sK sV tS h_tp a_tp_bytes tp_length tp_kind tp_start tp_value tp_place tp_bytes out hx hb hml hts hown hK hN hG hA hQ px_FU (0 : Int32) (0 : Int32) tp_value tp_place _ _ ls hp hP hD hS (lv_sub hl [1, 0] rfl)
  · have hp := px_f hp c_9
    refine lv_aload_n hx hb dX7_readName_11 rfl (lv_at hl 0 rfl) ?_
    refine lv_aload_n hx hb dX7_readName_12 rfl (lv_at hl 0 rfl) ?_
    refine va_get (D := (dC, dI)) (ci := 7) (v := .int tp_place) (C := RX7) (T := TX7) (N := 6) hx hb hts fX7_readName_X7 hown hK hP 0 rfl rfl 5 (by decide) (hts _ kX7_readName_1) (fun _ h9 => h9) rfl dX7_readName_13 ?_
    obtain ⟨o_10, ho_10, hp⟩ := px_b_at hp
    refine px_callR (v := .int o_10) (va_runV (As := [.int tp_place]) (rest := []) ⟨hx, hb, hml, hown, hts⟩ (ccX7_isLetterAt l dC dI cyI cyZ cyJ cyB cyO h_tp a_tp_bytes tp_length tp_kind tp_start tp_value tp_place tp_bytes tp_place o_10 ho_10) (cwV 1 hts gX7_readName_X7_isLetterAt rfl rfl rfl hvX7_isLetterAt ⟨Nat.le_of_ble_eq_true rfl, Nat.le_of_ble_eq_true rfl⟩) (px_preRV (wc := (wdX7_isLetterAt cyI cyZ cyJ cyB cyO h_tp a_tp_bytes tp_length tp_kind tp_start tp_value tp_place tp_bytes)) (ci := 7) (q0 := 0) hK hN hP [0, 1] rfl rfl rfl) rfl rfl hl.1 rfl (lv_room (Nat.le_of_ble_eq_true rfl)) dX7_readName_16 ⟨Nat.zero_le _, Nat.zero_le _⟩) ?_
    refine lv_if_eq (tgt := 35) hx hb dX7_readName_19 (by decide) (fun c_11 => ?_) (fun c_11 => ?_)
    · have hp := px_t hp c_11
      refine lv_aload_n hx hb dX7_readName_35 rfl (lv_at hl 0 rfl) ?_
      refine lv_iconst (v := (0 : Int32)) hx hb dX7_readName_36 (by decide) ?_
      refine va_put (D := (dC, dI)) (ci := 7) (v := .int (0 : Int32)) (ty := .int) (C := RX7) (T := TX7) (N := 6) hx hb hts fX7_readName_X7 tyX7 tyX7_ok nmX7 hown hK hP hD hS 0 rfl rfl 2 (by decide) (hts _ kX7_readName_3) (fun _ h9 => h9) rfl (tyX7_ok 2 (by decide)) rfl rfl (Nat.le_of_ble_eq_true rfl) dX7_readName_37 (fun H locs hP hD hS => ?_)
      have hP : va_P (dC, dI) vwCl (wdX7_readName cyI cyZ cyJ cyB cyO h_tp a_tp_bytes tp_length (0 : Int32) tp_start tp_value tp_place tp_bytes) H := hP
      have hD : va_D A (wdX7_readName cyI cyZ cyJ cyB cyO h_tp a_tp_bytes tp_length (0 : Int32) tp_start tp_value tp_place tp_bytes) := hD
      refine lv_iconst (v := (0 : Int32)) hx hb dX7_readName_40 (by decide) ?_
      refine lv_istore_n (lv' := [(1, .int (0 : Int32)), (0, .ref h_tp)]) hx hb dX7_readName_41 rfl hl (by decide) rfl (fun ls hl => ?_)
      exact lcX7_readName_42 dC dI cyI cyZ cyJ cyB cyO sK sV tS h_tp a_tp_bytes tp_length tp_kind tp_start tp_value tp_place tp_bytes out hx hb hml hts hown hK hN hG hA hQ px_FU (0 : Int32) (0 : Int32) tp_value tp_place _ _ ls hp hP hD hS (lv_sub hl [1, 0] rfl)
    · have hp := px_f hp c_11
      refine lv_aload_n hx hb dX7_readName_22 rfl (lv_at hl 0 rfl) ?_
      refine lv_dup hx hb dX7_readName_23 rfl ?_
      refine va_get (D := (dC, dI)) (ci := 7) (v := .int tp_place) (C := RX7) (T := TX7) (N := 6) hx hb hts fX7_readName_X7 hown hK hP 0 rfl rfl 5 (by decide) (hts _ kX7_readName_1) (fun _ h9 => h9) rfl dX7_readName_24 ?_
      refine lv_iconst (v := (1 : Int32)) hx hb dX7_readName_27 (by decide) ?_
      refine lv_iadd hx hb dX7_readName_28 ?_
      refine va_put (D := (dC, dI)) (ci := 7) (v := .int (tp_place + (1 : Int32))) (ty := .int) (C := RX7) (T := TX7) (N := 6) hx hb hts fX7_readName_X7 tyX7 tyX7_ok nmX7 hown hK hP hD hS 0 rfl rfl 5 (by decide) (hts _ kX7_readName_1) (fun _ h9 => h9) rfl (tyX7_ok 5 (by decide)) rfl rfl (Nat.le_of_ble_eq_true rfl) dX7_readName_29 (fun H locs hP hD hS => ?_)
      have hP : va_P (dC, dI) vwCl (wdX7_readName cyI cyZ cyJ cyB cyO h_tp a_tp_bytes tp_length tp_kind tp_start tp_value (tp_place + (1 : Int32)) tp_bytes) H := hP
      have hD : va_D A (wdX7_readName cyI cyZ cyJ cyB cyO h_tp a_tp_bytes tp_length tp_kind tp_start tp_value (tp_place + (1 : Int32)) tp_bytes) := hD
      refine lv_goto (tgt := 0) hx hb dX7_readName_32 (by decide) ?_
      exact hK_0 tp_kind tp_value (tp_place + (1 : Int32)) _ _ ls hp hP hD hS (lv_sub hl [0] rfl)
theorem lcX7_readName_0 {p : Program} {l : Launch} {e : Env} {s : State} {m : MethodId} {args : Array Value} {below : List Frame} {meth : Method} {c : Code} {Q : State → Prop} {A : Nat → Prop} (dC : Nat → ClassId) (dI : Nat → Nat → Nat) (cyI cyZ cyJ cyB cyO : ClassId) (sK sV tS : Nat → Nat) (h_tp a_tp_bytes : Nat) (tp_length : Int32) (tp_kind : Int32) (tp_start : Int32) (tp_value : Int32) (tp_place : Int32) (tp_bytes : Nat → Int32) (out : Int32 × Int32 × Int32) (hx : p.tables.exec = Jvm.exec) (hb : c.code = cX7_readName) (hml : c.maxLocals = 2) (hts : ∀ w ∈ wsX7_readName, w.before args s = true) (hown : s.vm.findClass RX7 = some m.cls) (hK : va_K (dC, dI) vwCl (px_TY cyI cyZ cyJ cyB cyO) s) (hN : px_NW s) (hG : px_SG sK sV tS A s s.heap) (hA : ∀ q : Nat, s.heap.size ≤ q → A q) (hQ : ∀ (H : Heap) (locs : List Loc) (pc : Nat) (ls : Array Slot), va_P (dC, dI) vwCl (wdX7_readName cyI cyZ cyJ cyB cyO h_tp a_tp_bytes tp_length out.1 tp_start out.2.1 out.2.2 tp_bytes) H → va_D A (wdX7_readName cyI cyZ cyJ cyB cyO h_tp a_tp_bytes tp_length out.1 tp_start out.2.1 out.2.2 tp_bytes) → va_S A s.heap H locs → decode cX7_readName pc = .ok (.return_, 1) → W p l e ({ frames := 5, cells := 0, slots := 0, locals := 108 } : Room) s m args below meth c H locs 0 0 Q (F0 m pc ls []))  : ∀ n : Nat, ∀ (tp_kind : Int32) (tp_value : Int32) (tp_place : Int32) (H : Heap) (locs : List Loc) (ls : Array Slot), pX7_readName_0 tp_length tp_start tp_bytes n tp_kind tp_value tp_place = some out → va_P (dC, dI) vwCl (wdX7_readName cyI cyZ cyJ cyB cyO h_tp a_tp_bytes tp_length tp_kind tp_start tp_value tp_place tp_bytes) H → va_D A (wdX7_readName cyI cyZ cyJ cyB cyO h_tp a_tp_bytes tp_length tp_kind tp_start tp_value tp_place tp_bytes) → va_S A s.heap H locs → lv_has ls 2 [(0, .ref h_tp)] → W p l e ({ frames := 5, cells := 0, slots := 0, locals := 108 } : Room) s m args below meth c H locs 0 0 Q (F0 m 0 ls []) := by
  intro n
  induction n with
  | zero =>
    intro tp_kind tp_value tp_place H locs ls hp hP hD hS hl
    exact nomatch hp
  | succ n ih => exact lcX7_readName_0B dC dI cyI cyZ cyJ cyB cyO sK sV tS h_tp a_tp_bytes tp_length tp_kind tp_start tp_value tp_place tp_bytes out hx hb hml hts hown hK hN hG hA hQ (pX7_readName_0 tp_length tp_start tp_bytes n) ih
set_option maxHeartbeats 4000000 in
set_option maxRecDepth 100000 in
theorem ccX7_readName (l : Launch) (dC : Nat → ClassId) (dI : Nat → Nat → Nat) (cyI cyZ cyJ cyB cyO : ClassId) (sK sV tS : Nat → Nat) (sz : Nat) (h_tp a_tp_bytes : Nat) (tp_length : Int32) (tp_kind : Int32) (tp_start : Int32) (tp_value : Int32) (tp_place : Int32) (tp_bytes : Nat → Int32) (out : Int32 × Int32 × Int32) (hp : pX7_readName tp_length tp_start tp_bytes tp_kind tp_value tp_place = some out) : Met l yX7_readName wsX7_readName ({ frames := 5, cells := 0, slots := 0, locals := 108 } : Room) (px_PWs sK sV tS (dC, dI) (px_TY cyI cyZ cyJ cyB cyO) [.ref h_tp] (wdX7_readName cyI cyZ cyJ cyB cyO h_tp a_tp_bytes tp_length tp_kind tp_start tp_value tp_place tp_bytes) sz) (px_QW none (dC, dI) (wdX7_readName cyI cyZ cyJ cyB cyO h_tp a_tp_bytes tp_length tp_kind tp_start tp_value tp_place tp_bytes) (wdX7_readName cyI cyZ cyJ cyB cyO h_tp a_tp_bytes tp_length out.1 tp_start out.2.1 out.2.2 tp_bytes) sz) 0 0 (va_A (wdX7_readName cyI cyZ cyJ cyB cyO h_tp a_tp_bytes tp_length tp_kind tp_start tp_value tp_place tp_bytes) sz) := by
  refine Met.ofW (cc := cX7_readName) (maxL := 2) (ret := none) (by decide) rfl ?_
  intro p e s m args below meth c s₁ B hml hv
  obtain ⟨rfl, ⟨hsz, hP, hK, hD0, hN⟩, hG⟩ := hv
  have hx := B.exec
  have hb := B.bytes
  have hr := B.returns
  have hts := atoms_spec (ws := wsX7_readName) B.pre
  have hown : s.vm.findClass RX7 = some m.cls := findClass_of_methodNamed B.named
  have hlocks := B.notSynchronized
  subst hsz
  have hD := hD0.self (sz := s.heap.size)
  generalize hAe : va_A (wdX7_readName cyI cyZ cyJ cyB cyO h_tp a_tp_bytes tp_length tp_kind tp_start tp_value tp_place tp_bytes) s.heap.size = A at hD hG ⊢
  have hA : ∀ q : Nat, s.heap.size ≤ q → A q := fun q h => by rw [← hAe]; exact Or.inr h
  have hS : va_S A s.heap s.heap [] := va_S.rf
  have hq := px_QWe (v := none) (D := (dC, dI)) (w1 := (wdX7_readName cyI cyZ cyJ cyB cyO h_tp a_tp_bytes tp_length out.1 tp_start out.2.1 out.2.2 tp_bytes)) (st := s) hAe
  generalize px_QW none (dC, dI) (wdX7_readName cyI cyZ cyJ cyB cyO h_tp a_tp_bytes tp_length tp_kind tp_start tp_value tp_place tp_bytes) (wdX7_readName cyI cyZ cyJ cyB cyO h_tp a_tp_bytes tp_length out.1 tp_start out.2.1 out.2.2 tp_bytes) s.heap.size = Qc at hq ⊢
  have hQ : ∀ (H : Heap) (locs : List Loc) (pc : Nat) (ls : Array Slot), va_P (dC, dI) vwCl (wdX7_readName cyI cyZ cyJ cyB cyO h_tp a_tp_bytes tp_length out.1 tp_start out.2.1 out.2.2 tp_bytes) H → va_D A (wdX7_readName cyI cyZ cyJ cyB cyO h_tp a_tp_bytes tp_length out.1 tp_start out.2.1 out.2.2 tp_bytes) → va_S A s.heap H locs → decode cX7_readName pc = .ok (.return_, 1) → W p l e ({ frames := 5, cells := 0, slots := 0, locals := 108 } : Room) s m (([.ref h_tp] : List Value).toArray) below meth c H locs 0 0 (MQ below Qc (([.ref h_tp] : List Value).toArray) s 0 0 A) (F0 m pc ls []) := fun H locs pc ls hP hD hS hd => W.vret hx hb hr (fun t ht hW => hq _ t (by rw [ht]; exact hP) hD (hS.F ht)) hS.2.2 hd
  generalize MQ below Qc (([.ref h_tp] : List Value).toArray) s 0 0 A = Q at hQ ⊢
  have hl := lv_entry [.ref h_tp] (n := 2) (Nat.le_of_ble_eq_true rfl)
  rw [lg_entry_eq]
  generalize (lg_sl [.ref h_tp] ++ List.replicate (2 - (lg_sl [.ref h_tp]).length) Slot.unset).toArray = ls at hl ⊢
  have hl : lv_has ls 2 [(0, .ref h_tp)] := hl
  unfold pX7_readName at hp
  refine lv_aload_n hx hb dX7_readName_0 rfl (lv_at hl 0 rfl) ?_
  refine va_get (D := (dC, dI)) (ci := 7) (v := .int tp_place) (C := RX7) (T := TX7) (N := 6) hx hb hts fX7_readName_X7 hown hK hP 0 rfl rfl 5 (by decide) (hts _ kX7_readName_1) (fun _ h9 => h9) rfl dX7_readName_1 ?_
  refine lv_aload_n hx hb dX7_readName_4 rfl (lv_at hl 0 rfl) ?_
  refine va_get (D := (dC, dI)) (ci := 7) (v := .int tp_length) (C := RX7) (T := TX7) (N := 6) hx hb hts fX7_readName_X7 hown hK hP 0 rfl rfl 1 (by decide) (hts _ kX7_readName_2) (fun _ h9 => h9) rfl dX7_readName_5 ?_
  refine lv_icmp_ge (tgt := 35) hx hb dX7_readName_8 (by decide) (fun c_1 => ?_) (fun c_1 => ?_)
  · have hp := px_t hp c_1
    refine lv_aload_n hx hb dX7_readName_35 rfl (lv_at hl 0 rfl) ?_
    refine lv_iconst (v := (0 : Int32)) hx hb dX7_readName_36 (by decide) ?_
    refine va_put (D := (dC, dI)) (ci := 7) (v := .int (0 : Int32)) (ty := .int) (C := RX7) (T := TX7) (N := 6) hx hb hts fX7_readName_X7 tyX7 tyX7_ok nmX7 hown hK hP hD hS 0 rfl rfl 2 (by decide) (hts _ kX7_readName_3) (fun _ h9 => h9) rfl (tyX7_ok 2 (by decide)) rfl rfl (Nat.le_of_ble_eq_true rfl) dX7_readName_37 (fun H locs hP hD hS => ?_)
    have hP : va_P (dC, dI) vwCl (wdX7_readName cyI cyZ cyJ cyB cyO h_tp a_tp_bytes tp_length (0 : Int32) tp_start tp_value tp_place tp_bytes) H := hP
    have hD : va_D A (wdX7_readName cyI cyZ cyJ cyB cyO h_tp a_tp_bytes tp_length (0 : Int32) tp_start tp_value tp_place tp_bytes) := hD
    refine lv_iconst (v := (0 : Int32)) hx hb dX7_readName_40 (by decide) ?_
    refine lv_istore_n (lv' := [(1, .int (0 : Int32)), (0, .ref h_tp)]) hx hb dX7_readName_41 rfl hl (by decide) rfl (fun ls hl => ?_)
    exact lcX7_readName_42 dC dI cyI cyZ cyJ cyB cyO sK sV tS h_tp a_tp_bytes tp_length tp_kind tp_start tp_value tp_place tp_bytes out hx hb hml hts hown hK hN hG hA hQ px_FU (0 : Int32) (0 : Int32) tp_value tp_place _ _ ls hp hP hD hS (lv_sub hl [1, 0] rfl)
  · have hp := px_f hp c_1
    refine lv_aload_n hx hb dX7_readName_11 rfl (lv_at hl 0 rfl) ?_
    refine lv_aload_n hx hb dX7_readName_12 rfl (lv_at hl 0 rfl) ?_
    refine va_get (D := (dC, dI)) (ci := 7) (v := .int tp_place) (C := RX7) (T := TX7) (N := 6) hx hb hts fX7_readName_X7 hown hK hP 0 rfl rfl 5 (by decide) (hts _ kX7_readName_1) (fun _ h9 => h9) rfl dX7_readName_13 ?_
    obtain ⟨o_7, ho_7, hp⟩ := px_b_at hp
    refine px_callR (v := .int o_7) (va_runV (As := [.int tp_place]) (rest := []) ⟨hx, hb, hml, hown, hts⟩ (ccX7_isLetterAt l dC dI cyI cyZ cyJ cyB cyO h_tp a_tp_bytes tp_length tp_kind tp_start tp_value tp_place tp_bytes tp_place o_7 ho_7) (cwV 1 hts gX7_readName_X7_isLetterAt rfl rfl rfl hvX7_isLetterAt ⟨Nat.le_of_ble_eq_true rfl, Nat.le_of_ble_eq_true rfl⟩) (px_preRV (wc := (wdX7_isLetterAt cyI cyZ cyJ cyB cyO h_tp a_tp_bytes tp_length tp_kind tp_start tp_value tp_place tp_bytes)) (ci := 7) (q0 := 0) hK hN hP [0, 1] rfl rfl rfl) rfl rfl hl.1 rfl (lv_room (Nat.le_of_ble_eq_true rfl)) dX7_readName_16 ⟨Nat.zero_le _, Nat.zero_le _⟩) ?_
    refine lv_if_eq (tgt := 35) hx hb dX7_readName_19 (by decide) (fun c_8 => ?_) (fun c_8 => ?_)
    · have hp := px_t hp c_8
      refine lv_aload_n hx hb dX7_readName_35 rfl (lv_at hl 0 rfl) ?_
      refine lv_iconst (v := (0 : Int32)) hx hb dX7_readName_36 (by decide) ?_
      refine va_put (D := (dC, dI)) (ci := 7) (v := .int (0 : Int32)) (ty := .int) (C := RX7) (T := TX7) (N := 6) hx hb hts fX7_readName_X7 tyX7 tyX7_ok nmX7 hown hK hP hD hS 0 rfl rfl 2 (by decide) (hts _ kX7_readName_3) (fun _ h9 => h9) rfl (tyX7_ok 2 (by decide)) rfl rfl (Nat.le_of_ble_eq_true rfl) dX7_readName_37 (fun H locs hP hD hS => ?_)
      have hP : va_P (dC, dI) vwCl (wdX7_readName cyI cyZ cyJ cyB cyO h_tp a_tp_bytes tp_length (0 : Int32) tp_start tp_value tp_place tp_bytes) H := hP
      have hD : va_D A (wdX7_readName cyI cyZ cyJ cyB cyO h_tp a_tp_bytes tp_length (0 : Int32) tp_start tp_value tp_place tp_bytes) := hD
      refine lv_iconst (v := (0 : Int32)) hx hb dX7_readName_40 (by decide) ?_
      refine lv_istore_n (lv' := [(1, .int (0 : Int32)), (0, .ref h_tp)]) hx hb dX7_readName_41 rfl hl (by decide) rfl (fun ls hl => ?_)
      exact lcX7_readName_42 dC dI cyI cyZ cyJ cyB cyO sK sV tS h_tp a_tp_bytes tp_length tp_kind tp_start tp_value tp_place tp_bytes out hx hb hml hts hown hK hN hG hA hQ px_FU (0 : Int32) (0 : Int32) tp_value tp_place _ _ ls hp hP hD hS (lv_sub hl [1, 0] rfl)
    · have hp := px_f hp c_8
      refine lv_aload_n hx hb dX7_readName_22 rfl (lv_at hl 0 rfl) ?_
      refine lv_dup hx hb dX7_readName_23 rfl ?_
      refine va_get (D := (dC, dI)) (ci := 7) (v := .int tp_place) (C := RX7) (T := TX7) (N := 6) hx hb hts fX7_readName_X7 hown hK hP 0 rfl rfl 5 (by decide) (hts _ kX7_readName_1) (fun _ h9 => h9) rfl dX7_readName_24 ?_
      refine lv_iconst (v := (1 : Int32)) hx hb dX7_readName_27 (by decide) ?_
      refine lv_iadd hx hb dX7_readName_28 ?_
      refine va_put (D := (dC, dI)) (ci := 7) (v := .int (tp_place + (1 : Int32))) (ty := .int) (C := RX7) (T := TX7) (N := 6) hx hb hts fX7_readName_X7 tyX7 tyX7_ok nmX7 hown hK hP hD hS 0 rfl rfl 5 (by decide) (hts _ kX7_readName_1) (fun _ h9 => h9) rfl (tyX7_ok 5 (by decide)) rfl rfl (Nat.le_of_ble_eq_true rfl) dX7_readName_29 (fun H locs hP hD hS => ?_)
      have hP : va_P (dC, dI) vwCl (wdX7_readName cyI cyZ cyJ cyB cyO h_tp a_tp_bytes tp_length tp_kind tp_start tp_value (tp_place + (1 : Int32)) tp_bytes) H := hP
      have hD : va_D A (wdX7_readName cyI cyZ cyJ cyB cyO h_tp a_tp_bytes tp_length tp_kind tp_start tp_value (tp_place + (1 : Int32)) tp_bytes) := hD
      refine lv_goto (tgt := 0) hx hb dX7_readName_32 (by decide) ?_
      exact lcX7_readName_0 dC dI cyI cyZ cyJ cyB cyO sK sV tS h_tp a_tp_bytes tp_length tp_kind tp_start tp_value tp_place tp_bytes out hx hb hml hts hown hK hN hG hA hQ px_FU tp_kind tp_value (tp_place + (1 : Int32)) _ _ ls hp hP hD hS (lv_sub hl [0] rfl)
/-! TagReader$Tape.readToken()V -/
theorem hvX7_readToken : yX7_readToken.cls = RX7 ∧ yX7_readToken.cls ≠ "java/lang/invoke/MethodHandle" ∧ yX7_readToken.cls ≠ "java/lang/invoke/VarHandle" ∧ (parseMethodDescriptor yX7_readToken.desc).map (fun d => d.parameters.length) = some 0 := by decide +kernel
theorem fX7_readToken_X7 : ∀ w ∈ u_ws RX7 TX7 6, w ∈ wsX7_readToken := fun _ h => List.mem_cons_of_mem _ (List.mem_append_right _ h)
theorem kX7_readToken_1 : (.fieldLink RX7 28 "TagReader$Tape" "place" "I" : Cond) ∈ wsX7_readToken := List.mem_of_getElem? (i := 1) rfl
theorem kX7_readToken_2 : (.fieldLink RX7 15 "TagReader$Tape" "length" "I" : Cond) ∈ wsX7_readToken := List.mem_of_getElem? (i := 2) rfl
theorem kX7_readToken_3 : (.fieldLink RX7 22 "TagReader$Tape" "start" "I" : Cond) ∈ wsX7_readToken := List.mem_of_getElem? (i := 3) rfl
theorem kX7_readToken_4 : (.fieldLink RX7 19 "TagReader$Tape" "kind" "I" : Cond) ∈ wsX7_readToken := List.mem_of_getElem? (i := 4) rfl
set_option maxHeartbeats 4000000 in
set_option maxRecDepth 100000 in
theorem lcX7_readToken_119 {p : Program} {l : Launch} {e : Env} {s : State} {m : MethodId} {args : Array Value} {below : List Frame} {meth : Method} {c : Code} {Q : State → Prop} {A : Nat → Prop} (dC : Nat → ClassId) (dI : Nat → Nat → Nat) (cyI cyZ cyJ cyB cyO : ClassId) (sK sV tS : Nat → Nat) (h_tp a_tp_bytes : Nat) (tp_length : Int32) (tp_kind : Int32) (tp_start : Int32) (tp_value : Int32) (tp_place : Int32) (tp_bytes : Nat → Int32) (out : Int32 × Int32 × Int32 × Int32) (hx : p.tables.exec = Jvm.exec) (hb : c.code = cX7_readToken) (hml : c.maxLocals = 1) (hts : ∀ w ∈ wsX7_readToken, w.before args s = true) (hown : s.vm.findClass RX7 = some m.cls) (hK : va_K (dC, dI) vwCl (px_TY cyI cyZ cyJ cyB cyO) s) (hN : px_NW s) (hG : px_SG sK sV tS A s s.heap) (hA : ∀ q : Nat, s.heap.size ≤ q → A q) (hQ : ∀ (H : Heap) (locs : List Loc) (pc : Nat) (ls : Array Slot), va_P (dC, dI) vwCl (wdX7_readToken cyI cyZ cyJ cyB cyO h_tp a_tp_bytes tp_length out.1 out.2.1 out.2.2.1 out.2.2.2 tp_bytes) H → va_D A (wdX7_readToken cyI cyZ cyJ cyB cyO h_tp a_tp_bytes tp_length out.1 out.2.1 out.2.2.1 out.2.2.2 tp_bytes) → va_S A s.heap H locs → decode cX7_readToken pc = .ok (.return_, 1) → W p l e ({ frames := 6, cells := 0, slots := 0, locals := 129 } : Room) s m args below meth c H locs 0 0 Q (F0 m pc ls []))  : ∀ (t0 : Int32) (tp_kind : Int32) (tp_start : Int32) (tp_value : Int32) (tp_place : Int32) (H : Heap) (locs : List Loc) (ls : Array Slot), pX7_readToken_119 tp_length tp_bytes t0 tp_kind tp_start tp_value tp_place = some out → va_P (dC, dI) vwCl (wdX7_readToken cyI cyZ cyJ cyB cyO h_tp a_tp_bytes tp_length tp_kind tp_start tp_value tp_place tp_bytes) H → va_D A (wdX7_readToken cyI cyZ cyJ cyB cyO h_tp a_tp_bytes tp_length tp_kind tp_start tp_value tp_place tp_bytes) → va_S A s.heap H locs → lv_has ls 1 [(0, .ref h_tp)] → W p l e ({ frames := 6, cells := 0, slots := 0, locals := 129 } : Room) s m args below meth c H locs 0 0 Q (F0 m 119 ls [.int t0, .ref h_tp]) := by
  intro t0 tp_kind tp_start tp_value tp_place H locs ls hp hP hD hS hl
  unfold pX7_readToken_119 at hp
  refine va_put (D := (dC, dI)) (ci := 7) (v := .int t0) (ty := .int) (C := RX7) (T := TX7) (N := 6) hx hb hts fX7_readToken_X7 tyX7 tyX7_ok nmX7 hown hK hP hD hS 0 rfl rfl 2 (by decide) (hts _ kX7_readToken_4) (fun _ h9 => h9) rfl (tyX7_ok 2 (by decide)) rfl rfl (Nat.le_of_ble_eq_true rfl) dX7_readToken_119 (fun H locs hP hD hS => ?_)
  have hP : va_P (dC, dI) vwCl (wdX7_readToken cyI cyZ cyJ cyB cyO h_tp a_tp_bytes tp_length t0 tp_start tp_value tp_place tp_bytes) H := hP
  have hD : va_D A (wdX7_readToken cyI cyZ cyJ cyB cyO h_tp a_tp_bytes tp_length t0 tp_start tp_value tp_place tp_bytes) := hD
  refine lv_aload_n hx hb dX7_readToken_122 rfl (lv_at hl 0 rfl) ?_
  refine lv_dup hx hb dX7_readToken_123 rfl ?_
  refine va_get (D := (dC, dI)) (ci := 7) (v := .int tp_place) (C := RX7) (T := TX7) (N := 6) hx hb hts fX7_readToken_X7 hown hK hP 0 rfl rfl 5 (by decide) (hts _ kX7_readToken_1) (fun _ h9 => h9) rfl dX7_readToken_124 ?_
  refine lv_iconst (v := (1 : Int32)) hx hb dX7_readToken_127 (by decide) ?_
  refine lv_iadd hx hb dX7_readToken_128 ?_
  refine va_put (D := (dC, dI)) (ci := 7) (v := .int (tp_place + (1 : Int32))) (ty := .int) (C := RX7) (T := TX7) (N := 6) hx hb hts fX7_readToken_X7 tyX7 tyX7_ok nmX7 hown hK hP hD hS 0 rfl rfl 5 (by decide) (hts _ kX7_readToken_1) (fun _ h9 => h9) rfl (tyX7_ok 5 (by decide)) rfl rfl (Nat.le_of_ble_eq_true rfl) dX7_readToken_129 (fun H locs hP hD hS => ?_)
  have hP : va_P (dC, dI) vwCl (wdX7_readToken cyI cyZ cyJ cyB cyO h_tp a_tp_bytes tp_length t0 tp_start tp_value (tp_place + (1 : Int32)) tp_bytes) H := hP
  have hD : va_D A (wdX7_readToken cyI cyZ cyJ cyB cyO h_tp a_tp_bytes tp_length t0 tp_start tp_value (tp_place + (1 : Int32)) tp_bytes) := hD
  have ho := px_s hp
  subst ho
  exact hQ _ _ _ _ hP hD hS dX7_readToken_132
set_option maxHeartbeats 4000000 in
set_option maxRecDepth 100000 in
theorem lcX7_readToken_37 {p : Program} {l : Launch} {e : Env} {s : State} {m : MethodId} {args : Array Value} {below : List Frame} {meth : Method} {c : Code} {Q : State → Prop} {A : Nat → Prop} (dC : Nat → ClassId) (dI : Nat → Nat → Nat) (cyI cyZ cyJ cyB cyO : ClassId) (sK sV tS : Nat → Nat) (h_tp a_tp_bytes : Nat) (tp_length : Int32) (tp_kind : Int32) (tp_start : Int32) (tp_value : Int32) (tp_place : Int32) (tp_bytes : Nat → Int32) (out : Int32 × Int32 × Int32 × Int32) (hx : p.tables.exec = Jvm.exec) (hb : c.code = cX7_readToken) (hml : c.maxLocals = 1) (hts : ∀ w ∈ wsX7_readToken, w.before args s = true) (hown : s.vm.findClass RX7 = some m.cls) (hK : va_K (dC, dI) vwCl (px_TY cyI cyZ cyJ cyB cyO) s) (hN : px_NW s) (hG : px_SG sK sV tS A s s.heap) (hA : ∀ q : Nat, s.heap.size ≤ q → A q) (hQ : ∀ (H : Heap) (locs : List Loc) (pc : Nat) (ls : Array Slot), va_P (dC, dI) vwCl (wdX7_readToken cyI cyZ cyJ cyB cyO h_tp a_tp_bytes tp_length out.1 out.2.1 out.2.2.1 out.2.2.2 tp_bytes) H → va_D A (wdX7_readToken cyI cyZ cyJ cyB cyO h_tp a_tp_bytes tp_length out.1 out.2.1 out.2.2.1 out.2.2.2 tp_bytes) → va_S A s.heap H locs → decode cX7_readToken pc = .ok (.return_, 1) → W p l e ({ frames := 6, cells := 0, slots := 0, locals := 129 } : Room) s m args below meth c H locs 0 0 Q (F0 m pc ls []))  : ∀ (tp_kind : Int32) (tp_start : Int32) (tp_value : Int32) (tp_place : Int32) (H : Heap) (locs : List Loc) (ls : Array Slot), pX7_readToken_37 tp_length tp_bytes tp_kind tp_start tp_value tp_place = some out → va_P (dC, dI) vwCl (wdX7_readToken cyI cyZ cyJ cyB cyO h_tp a_tp_bytes tp_length tp_kind tp_start tp_value tp_place tp_bytes) H → va_D A (wdX7_readToken cyI cyZ cyJ cyB cyO h_tp a_tp_bytes tp_length tp_kind tp_start tp_value tp_place tp_bytes) → va_S A s.heap H locs → lv_has ls 1 [(0, .ref h_tp)] → W p l e ({ frames := 6, cells := 0, slots := 0, locals := 129 } : Room) s m args below meth c H locs 0 0 Q (F0 m 37 ls []) := by
  intro tp_kind tp_start tp_value tp_place H locs ls hp hP hD hS hl
  unfold pX7_readToken_37 at hp
  refine lv_aload_n hx hb dX7_readToken_37 rfl (lv_at hl 0 rfl) ?_
  refine lv_aload_n hx hb dX7_readToken_38 rfl (lv_at hl 0 rfl) ?_
  refine va_get (D := (dC, dI)) (ci := 7) (v := .int tp_place) (C := RX7) (T := TX7) (N := 6) hx hb hts fX7_readToken_X7 hown hK hP 0 rfl rfl 5 (by decide) (hts _ kX7_readToken_1) (fun _ h9 => h9) rfl dX7_readToken_39 ?_
  refine va_put (D := (dC, dI)) (ci := 7) (v := .int tp_place) (ty := .int) (C := RX7) (T := TX7) (N := 6) hx hb hts fX7_readToken_X7 tyX7 tyX7_ok nmX7 hown hK hP hD hS 0 rfl rfl 3 (by decide) (hts _ kX7_readToken_3) (fun _ h9 => h9) rfl (tyX7_ok 3 (by decide)) rfl rfl (Nat.le_of_ble_eq_true rfl) dX7_readToken_42 (fun H locs hP hD hS => ?_)
  have hP : va_P (dC, dI) vwCl (wdX7_readToken cyI cyZ cyJ cyB cyO h_tp a_tp_bytes tp_length tp_kind tp_place tp_value tp_place tp_bytes) H := hP
  have hD : va_D A (wdX7_readToken cyI cyZ cyJ cyB cyO h_tp a_tp_bytes tp_length tp_kind tp_place tp_value tp_place tp_bytes) := hD
  refine lv_aload_n hx hb dX7_readToken_45 rfl (lv_at hl 0 rfl) ?_
  refine va_get (D := (dC, dI)) (ci := 7) (v := .int tp_place) (C := RX7) (T := TX7) (N := 6) hx hb hts fX7_readToken_X7 hown hK hP 0 rfl rfl 5 (by decide) (hts _ kX7_readToken_1) (fun _ h9 => h9) rfl dX7_readToken_46 ?_
  refine lv_aload_n hx hb dX7_readToken_49 rfl (lv_at hl 0 rfl) ?_
  refine va_get (D := (dC, dI)) (ci := 7) (v := .int tp_length) (C := RX7) (T := TX7) (N := 6) hx hb hts fX7_readToken_X7 hown hK hP 0 rfl rfl 1 (by decide) (hts _ kX7_readToken_2) (fun _ h9 => h9) rfl dX7_readToken_50 ?_
  refine lv_icmp_lt (tgt := 64) hx hb dX7_readToken_53 (by decide) (fun c_2 => ?_) (fun c_2 => ?_)
  · have hp := px_t hp c_2
    refine lv_aload_n hx hb dX7_readToken_64 rfl (lv_at hl 0 rfl) ?_
    refine lv_aload_n hx hb dX7_readToken_65 rfl (lv_at hl 0 rfl) ?_
    refine va_get (D := (dC, dI)) (ci := 7) (v := .int tp_place) (C := RX7) (T := TX7) (N := 6) hx hb hts fX7_readToken_X7 hown hK hP 0 rfl rfl 5 (by decide) (hts _ kX7_readToken_1) (fun _ h9 => h9) rfl dX7_readToken_66 ?_
    obtain ⟨o_3, ho_3, hp⟩ := px_b_at hp
    refine px_callR (v := .int o_3) (va_runV (As := [.int tp_place]) (rest := []) ⟨hx, hb, hml, hown, hts⟩ (ccX7_isLetterAt l dC dI cyI cyZ cyJ cyB cyO h_tp a_tp_bytes tp_length tp_kind tp_place tp_value tp_place tp_bytes tp_place o_3 ho_3) (cwV 1 hts gX7_readToken_X7_isLetterAt rfl rfl rfl hvX7_isLetterAt ⟨Nat.le_of_ble_eq_true rfl, Nat.le_of_ble_eq_true rfl⟩) (px_preRV (wc := (wdX7_isLetterAt cyI cyZ cyJ cyB cyO h_tp a_tp_bytes tp_length tp_kind tp_place tp_value tp_place tp_bytes)) (ci := 7) (q0 := 0) hK hN hP [0, 1] rfl rfl rfl) rfl rfl hl.1 rfl (lv_room (Nat.le_of_ble_eq_true rfl)) dX7_readToken_69 ⟨Nat.zero_le _, Nat.zero_le _⟩) ?_
    refine lv_if_eq (tgt := 82) hx hb dX7_readToken_72 (by decide) (fun c_4 => ?_) (fun c_4 => ?_)
    · have hp := px_t hp c_4
      refine lv_aload_n hx hb dX7_readToken_82 rfl (lv_at hl 0 rfl) ?_
      refine lv_aload_n hx hb dX7_readToken_83 rfl (lv_at hl 0 rfl) ?_
      refine va_get (D := (dC, dI)) (ci := 7) (v := .int tp_place) (C := RX7) (T := TX7) (N := 6) hx hb hts fX7_readToken_X7 hown hK hP 0 rfl rfl 5 (by decide) (hts _ kX7_readToken_1) (fun _ h9 => h9) rfl dX7_readToken_84 ?_
      obtain ⟨o_5, ho_5, hp⟩ := px_b_at hp
      refine px_callR (v := .int o_5) (va_runV (As := [.int tp_place]) (rest := []) ⟨hx, hb, hml, hown, hts⟩ (ccX7_isFigureAt l dC dI cyI cyZ cyJ cyB cyO h_tp a_tp_bytes tp_length tp_kind tp_place tp_value tp_place tp_bytes tp_place o_5 ho_5) (cwV 1 hts gX7_readToken_X7_isFigureAt rfl rfl rfl hvX7_isFigureAt ⟨Nat.le_of_ble_eq_true rfl, Nat.le_of_ble_eq_true rfl⟩) (px_preRV (wc := (wdX7_isFigureAt cyI cyZ cyJ cyB cyO h_tp a_tp_bytes tp_length tp_kind tp_place tp_value tp_place tp_bytes)) (ci := 7) (q0 := 0) hK hN hP [0, 1] rfl rfl rfl) rfl rfl hl.1 rfl (lv_room (Nat.le_of_ble_eq_true rfl)) dX7_readToken_87 ⟨Nat.zero_le _, Nat.zero_le _⟩) ?_
      refine lv_if_eq (tgt := 100) hx hb dX7_readToken_90 (by decide) (fun c_6 => ?_) (fun c_6 => ?_)
      · have hp := px_t hp c_6
        refine lv_aload_n hx hb dX7_readToken_100 rfl (lv_at hl 0 rfl) ?_
        refine lv_aload_n hx hb dX7_readToken_101 rfl (lv_at hl 0 rfl) ?_
        refine lv_aload_n hx hb dX7_readToken_102 rfl (lv_at hl 0 rfl) ?_
        refine va_get (D := (dC, dI)) (ci := 7) (v := .int tp_place) (C := RX7) (T := TX7) (N := 6) hx hb hts fX7_readToken_X7 hown hK hP 0 rfl rfl 5 (by decide) (hts _ kX7_readToken_1) (fun _ h9 => h9) rfl dX7_readToken_103 ?_
        obtain ⟨o_7, ho_7, hp⟩ := px_b_at hp
        refine px_callR (v := .int o_7) (va_runV (As := [.int tp_place]) (rest := [.ref h_tp]) ⟨hx, hb, hml, hown, hts⟩ (ccX7_byteAt l dC dI cyI cyZ cyJ cyB cyO h_tp a_tp_bytes tp_length tp_kind tp_place tp_value tp_place tp_bytes tp_place o_7 ho_7) (cwV 1 hts gX7_readToken_X7_byteAt rfl rfl rfl hvX7_byteAt ⟨Nat.le_of_ble_eq_true rfl, Nat.le_of_ble_eq_true rfl⟩) (px_preRV (wc := (wdX7_byteAt cyI cyZ cyJ cyB cyO h_tp a_tp_bytes tp_length tp_kind tp_place tp_value tp_place tp_bytes)) (ci := 7) (q0 := 0) hK hN hP [0, 1] rfl rfl rfl) rfl rfl hl.1 rfl (lv_room (Nat.le_of_ble_eq_true rfl)) dX7_readToken_106 ⟨Nat.zero_le _, Nat.zero_le _⟩) ?_
        refine lv_bipush (v := (59 : Int32)) hx hb dX7_readToken_109 (by decide) ?_
        refine lv_icmp_ne (tgt := 118) hx hb dX7_readToken_111 (by decide) (fun c_8 => ?_) (fun c_8 => ?_)
        · have hp := px_f hp c_8
          refine lv_iconst (v := (0 : Int32)) hx hb dX7_readToken_118 (by decide) ?_
          exact lcX7_readToken_119 dC dI cyI cyZ cyJ cyB cyO sK sV tS h_tp a_tp_bytes tp_length tp_kind tp_start tp_value tp_place tp_bytes out hx hb hml hts hown hK hN hG hA hQ (0 : Int32) tp_kind tp_place tp_value tp_place _ _ ls hp hP hD hS (lv_sub hl [0] rfl)
        · have hp := px_t hp c_8
          refine lv_iconst (v := (3 : Int32)) hx hb dX7_readToken_114 (by decide) ?_
          refine lv_goto (tgt := 119) hx hb dX7_readToken_115 (by decide) ?_
          exact lcX7_readToken_119 dC dI cyI cyZ cyJ cyB cyO sK sV tS h_tp a_tp_bytes tp_length tp_kind tp_start tp_value tp_place tp_bytes out hx hb hml hts hown hK hN hG hA hQ (3 : Int32) tp_kind tp_place tp_value tp_place _ _ ls hp hP hD hS (lv_sub hl [0] rfl)
      · have hp := px_f hp c_6
        refine lv_aload_n hx hb dX7_readToken_93 rfl (lv_at hl 0 rfl) ?_
        obtain ⟨o_9, ho_9, hp⟩ := px_b_at hp
        refine px_callWv (wc := (wdX7_readNumber cyI cyZ cyJ cyB cyO h_tp a_tp_bytes tp_length tp_kind tp_place tp_value tp_place tp_bytes)) (wr := []) (w1 := (wdX7_readNumber cyI cyZ cyJ cyB cyO h_tp a_tp_bytes tp_length o_9.1 tp_place o_9.2.1 o_9.2.2 tp_bytes)) (ws2 := (wdX7_readToken cyI cyZ cyJ cyB cyO h_tp a_tp_bytes tp_length o_9.1 tp_place o_9.2.1 o_9.2.2 tp_bytes)) (va_runV (As := []) (rest := []) ⟨hx, hb, hml, hown, hts⟩ (ccX7_readNumber l dC dI cyI cyZ cyJ cyB cyO _ h_tp a_tp_bytes tp_length tp_kind tp_place tp_value tp_place tp_bytes o_9 ho_9) (cwV 0 hts gX7_readToken_X7_readNumber rfl rfl rfl hvX7_readNumber ⟨Nat.le_of_ble_eq_true rfl, Nat.le_of_ble_eq_true rfl⟩) (px_preWV (wc := (wdX7_readNumber cyI cyZ cyJ cyB cyO h_tp a_tp_bytes tp_length tp_kind tp_place tp_value tp_place tp_bytes)) (ci := 7) (q0 := 0) hK hN hP hD [0, 1] (by decide) rfl rfl rfl) rfl rfl hl.1 rfl (lv_room (Nat.le_of_ble_eq_true rfl)) dX7_readToken_94 ⟨Nat.zero_le _, Nat.zero_le _⟩) hP hD hS hA [0, 1] [] [0, 1] rfl rfl (by decide) (by decide) (by decide) rfl (fun H locs hP hD hS => ?_)
        refine lv_goto (tgt := 132) hx hb dX7_readToken_97 (by decide) ?_
        have ho := px_s hp
        subst ho
        exact hQ _ _ _ _ hP hD hS dX7_readToken_132
    · have hp := px_f hp c_4
      refine lv_aload_n hx hb dX7_readToken_75 rfl (lv_at hl 0 rfl) ?_
      obtain ⟨o_10, ho_10, hp⟩ := px_b_at hp
      refine px_callWv (wc := (wdX7_readName cyI cyZ cyJ cyB cyO h_tp a_tp_bytes tp_length tp_kind tp_place tp_value tp_place tp_bytes)) (wr := []) (w1 := (wdX7_readName cyI cyZ cyJ cyB cyO h_tp a_tp_bytes tp_length o_10.1 tp_place o_10.2.1 o_10.2.2 tp_bytes)) (ws2 := (wdX7_readToken cyI cyZ cyJ cyB cyO h_tp a_tp_bytes tp_length o_10.1 tp_place o_10.2.1 o_10.2.2 tp_bytes)) (va_runV (As := []) (rest := []) ⟨hx, hb, hml, hown, hts⟩ (ccX7_readName l dC dI cyI cyZ cyJ cyB cyO sK sV tS _ h_tp a_tp_bytes tp_length tp_kind tp_place tp_value tp_place tp_bytes o_10 ho_10) (cwV 0 hts gX7_readToken_X7_readName rfl rfl rfl hvX7_readName ⟨Nat.le_of_ble_eq_true rfl, Nat.le_of_ble_eq_true rfl⟩) (px_preWVs (wc := (wdX7_readName cyI cyZ cyJ cyB cyO h_tp a_tp_bytes tp_length tp_kind tp_place tp_value tp_place tp_bytes)) (ci := 7) (q0 := 0) hG hS hA hK hN hP hD [0, 1] (by decide) rfl rfl rfl) rfl rfl hl.1 rfl (lv_room (Nat.le_of_ble_eq_true rfl)) dX7_readToken_76 ⟨Nat.zero_le _, Nat.zero_le _⟩) hP hD hS hA [0, 1] [] [0, 1] rfl rfl (by decide) (by decide) (by decide) rfl (fun H locs hP hD hS => ?_)
      refine lv_goto (tgt := 132) hx hb dX7_readToken_79 (by decide) ?_
      have ho := px_s hp
      subst ho
      exact hQ _ _ _ _ hP hD hS dX7_readToken_132
  · have hp := px_f hp c_2
    refine lv_aload_n hx hb dX7_readToken_56 rfl (lv_at hl 0 rfl) ?_
    refine lv_iconst (v := (4 : Int32)) hx hb dX7_readToken_57 (by decide) ?_
    refine va_put (D := (dC, dI)) (ci := 7) (v := .int (4 : Int32)) (ty := .int) (C := RX7) (T := TX7) (N := 6) hx hb hts fX7_readToken_X7 tyX7 tyX7_ok nmX7 hown hK hP hD hS 0 rfl rfl 2 (by decide) (hts _ kX7_readToken_4) (fun _ h9 => h9) rfl (tyX7_ok 2 (by decide)) rfl rfl (Nat.le_of_ble_eq_true rfl) dX7_readToken_58 (fun H locs hP hD hS => ?_)
    have hP : va_P (dC, dI) vwCl (wdX7_readToken cyI cyZ cyJ cyB cyO h_tp a_tp_bytes tp_length (4 : Int32) tp_place tp_value tp_place tp_bytes) H := hP
    have hD : va_D A (wdX7_readToken cyI cyZ cyJ cyB cyO h_tp a_tp_bytes tp_length (4 : Int32) tp_place tp_value tp_place tp_bytes) := hD
    refine lv_goto (tgt := 132) hx hb dX7_readToken_61 (by decide) ?_
    have ho := px_s hp
    subst ho
    exact hQ _ _ _ _ hP hD hS dX7_readToken_132
set_option maxHeartbeats 4000000 in
set_option maxRecDepth 100000 in
theorem lcX7_readToken_0B {p : Program} {l : Launch} {e : Env} {s : State} {m : MethodId} {args : Array Value} {below : List Frame} {meth : Method} {c : Code} {Q : State → Prop} {A : Nat → Prop} (dC : Nat → ClassId) (dI : Nat → Nat → Nat) (cyI cyZ cyJ cyB cyO : ClassId) (sK sV tS : Nat → Nat) (h_tp a_tp_bytes : Nat) (tp_length : Int32) (tp_kind : Int32) (tp_start : Int32) (tp_value : Int32) (tp_place : Int32) (tp_bytes : Nat → Int32) (out : Int32 × Int32 × Int32 × Int32) (hx : p.tables.exec = Jvm.exec) (hb : c.code = cX7_readToken) (hml : c.maxLocals = 1) (hts : ∀ w ∈ wsX7_readToken, w.before args s = true) (hown : s.vm.findClass RX7 = some m.cls) (hK : va_K (dC, dI) vwCl (px_TY cyI cyZ cyJ cyB cyO) s) (hN : px_NW s) (hG : px_SG sK sV tS A s s.heap) (hA : ∀ q : Nat, s.heap.size ≤ q → A q) (hQ : ∀ (H : Heap) (locs : List Loc) (pc : Nat) (ls : Array Slot), va_P (dC, dI) vwCl (wdX7_readToken cyI cyZ cyJ cyB cyO h_tp a_tp_bytes tp_length out.1 out.2.1 out.2.2.1 out.2.2.2 tp_bytes) H → va_D A (wdX7_readToken cyI cyZ cyJ cyB cyO h_tp a_tp_bytes tp_length out.1 out.2.1 out.2.2.1 out.2.2.2 tp_bytes) → va_S A s.heap H locs → decode cX7_readToken pc = .ok (.return_, 1) → W p l e ({ frames := 6, cells := 0, slots := 0, locals := 129 } : Room) s m args below meth c H locs 0 0 Q (F0 m pc ls []))  (K_0 : Int32 → Int32 → Int32 → Int32 → Option (Int32 × Int32 × Int32 × Int32)) (hK_0 : ∀ (tp_kind : Int32) (tp_start : Int32) (tp_value : Int32) (tp_place : Int32) (H : Heap) (locs : List Loc) (ls : Array Slot), K_0 tp_kind tp_start tp_value tp_place = some out → va_P (dC, dI) vwCl (wdX7_readToken cyI cyZ cyJ cyB cyO h_tp a_tp_bytes tp_length tp_kind tp_start tp_value tp_place tp_bytes) H → va_D A (wdX7_readToken cyI cyZ cyJ cyB cyO h_tp a_tp_bytes tp_length tp_kind tp_start tp_value tp_place tp_bytes) → va_S A s.heap H locs → lv_has ls 1 [(0, .ref h_tp)] → W p l e ({ frames := 6, cells := 0, slots := 0, locals := 129 } : Room) s m args below meth c H locs 0 0 Q (F0 m 0 ls [])) : ∀ (tp_kind : Int32) (tp_start : Int32) (tp_value : Int32) (tp_place : Int32) (H : Heap) (locs : List Loc) (ls : Array Slot), pX7_readToken_0B tp_length tp_bytes K_0 tp_kind tp_start tp_value tp_place = some out → va_P (dC, dI) vwCl (wdX7_readToken cyI cyZ cyJ cyB cyO h_tp a_tp_bytes tp_length tp_kind tp_start tp_value tp_place tp_bytes) H → va_D A (wdX7_readToken cyI cyZ cyJ cyB cyO h_tp a_tp_bytes tp_length tp_kind tp_start tp_value tp_place tp_bytes) → va_S A s.heap H locs → lv_has ls 1 [(0, .ref h_tp)] → W p l e ({ frames := 6, cells := 0, slots := 0, locals := 129 } : Room) s m args below meth c H locs 0 0 Q (F0 m 0 ls []) := by
  intro tp_kind tp_start tp_value tp_place H locs ls hp hP hD hS hl
  unfold pX7_readToken_0B at hp
  refine lv_aload_n hx hb dX7_readToken_0 rfl (lv_at hl 0 rfl) ?_
  refine va_get (D := (dC, dI)) (ci := 7) (v := .int tp_place) (C := RX7) (T := TX7) (N := 6) hx hb hts fX7_readToken_X7 hown hK hP 0 rfl rfl 5 (by decide) (hts _ kX7_readToken_1) (fun _ h9 => h9) rfl dX7_readToken_1 ?_
  refine lv_aload_n hx hb dX7_readToken_4 rfl (lv_at hl 0 rfl) ?_
  refine va_get (D := (dC, dI)) (ci := 7) (v := .int tp_length) (C := RX7) (T := TX7) (N := 6) hx hb hts fX7_readToken_X7 hown hK hP 0 rfl rfl 1 (by decide) (hts _ kX7_readToken_2) (fun _ h9 => h9) rfl dX7_readToken_5 ?_
  refine lv_icmp_ge (tgt := 37) hx hb dX7_readToken_8 (by decide) (fun c_13 => ?_) (fun c_13 => ?_)
  · have hp := px_t hp c_13
    exact lcX7_readToken_37 dC dI cyI cyZ cyJ cyB cyO sK sV tS h_tp a_tp_bytes tp_length tp_kind tp_start tp_value tp_place tp_bytes out hx hb hml hts hown hK hN hG hA hQ tp_kind tp_start tp_value tp_place _ _ ls hp hP hD hS (lv_sub hl [0] rfl)
  · have hp := px_f hp c_13
    refine lv_aload_n hx hb dX7_readToken_11 rfl (lv_at hl 0 rfl) ?_
    refine lv_aload_n hx hb dX7_readToken_12 rfl (lv_at hl 0 rfl) ?_
    refine va_get (D := (dC, dI)) (ci := 7) (v := .int tp_place) (C := RX7) (T := TX7) (N := 6) hx hb hts fX7_readToken_X7 hown hK hP 0 rfl rfl 5 (by decide) (hts _ kX7_readToken_1) (fun _ h9 => h9) rfl dX7_readToken_13 ?_
    obtain ⟨o_14, ho_14, hp⟩ := px_b_at hp
    refine px_callR (v := .int o_14) (va_runV (As := [.int tp_place]) (rest := []) ⟨hx, hb, hml, hown, hts⟩ (ccX7_byteAt l dC dI cyI cyZ cyJ cyB cyO h_tp a_tp_bytes tp_length tp_kind tp_start tp_value tp_place tp_bytes tp_place o_14 ho_14) (cwV 1 hts gX7_readToken_X7_byteAt rfl rfl rfl hvX7_byteAt ⟨Nat.le_of_ble_eq_true rfl, Nat.le_of_ble_eq_true rfl⟩) (px_preRV (wc := (wdX7_byteAt cyI cyZ cyJ cyB cyO h_tp a_tp_bytes tp_length tp_kind tp_start tp_value tp_place tp_bytes)) (ci := 7) (q0 := 0) hK hN hP [0, 1] rfl rfl rfl) rfl rfl hl.1 rfl (lv_room (Nat.le_of_ble_eq_true rfl)) dX7_readToken_16 ⟨Nat.zero_le _, Nat.zero_le _⟩) ?_
    refine lv_bipush (v := (32 : Int32)) hx hb dX7_readToken_19 (by decide) ?_
    refine lv_icmp_ne (tgt := 37) hx hb dX7_readToken_21 (by decide) (fun c_15 => ?_) (fun c_15 => ?_)
    · have hp := px_f hp c_15
      exact lcX7_readToken_37 dC dI cyI cyZ cyJ cyB cyO sK sV tS h_tp a_tp_bytes tp_length tp_kind tp_start tp_value tp_place tp_bytes out hx hb hml hts hown hK hN hG hA hQ tp_kind tp_start tp_value tp_place _ _ ls hp hP hD hS (lv_sub hl [0] rfl)
    · have hp := px_t hp c_15
      refine lv_aload_n hx hb dX7_readToken_24 rfl (lv_at hl 0 rfl) ?_
      refine lv_dup hx hb dX7_readToken_25 rfl ?_
      refine va_get (D := (dC, dI)) (ci := 7) (v := .int tp_place) (C := RX7) (T := TX7) (N := 6) hx hb hts fX7_readToken_X7 hown hK hP 0 rfl rfl 5 (by decide) (hts _ kX7_readToken_1) (fun _ h9 => h9) rfl dX7_readToken_26 ?_
      refine lv_iconst (v := (1 : Int32)) hx hb dX7_readToken_29 (by decide) ?_
      refine lv_iadd hx hb dX7_readToken_30 ?_
      refine va_put (D := (dC, dI)) (ci := 7) (v := .int (tp_place + (1 : Int32))) (ty := .int) (C := RX7) (T := TX7) (N := 6) hx hb hts fX7_readToken_X7 tyX7 tyX7_ok nmX7 hown hK hP hD hS 0 rfl rfl 5 (by decide) (hts _ kX7_readToken_1) (fun _ h9 => h9) rfl (tyX7_ok 5 (by decide)) rfl rfl (Nat.le_of_ble_eq_true rfl) dX7_readToken_31 (fun H locs hP hD hS => ?_)
      have hP : va_P (dC, dI) vwCl (wdX7_readToken cyI cyZ cyJ cyB cyO h_tp a_tp_bytes tp_length tp_kind tp_start tp_value (tp_place + (1 : Int32)) tp_bytes) H := hP
      have hD : va_D A (wdX7_readToken cyI cyZ cyJ cyB cyO h_tp a_tp_bytes tp_length tp_kind tp_start tp_value (tp_place + (1 : Int32)) tp_bytes) := hD
      refine lv_goto (tgt := 0) hx hb dX7_readToken_34 (by decide) ?_
      exact hK_0 tp_kind tp_start tp_value (tp_place + (1 : Int32)) _ _ ls hp hP hD hS (lv_sub hl [0] rfl)
theorem lcX7_readToken_0 {p : Program} {l : Launch} {e : Env} {s : State} {m : MethodId} {args : Array Value} {below : List Frame} {meth : Method} {c : Code} {Q : State → Prop} {A : Nat → Prop} (dC : Nat → ClassId) (dI : Nat → Nat → Nat) (cyI cyZ cyJ cyB cyO : ClassId) (sK sV tS : Nat → Nat) (h_tp a_tp_bytes : Nat) (tp_length : Int32) (tp_kind : Int32) (tp_start : Int32) (tp_value : Int32) (tp_place : Int32) (tp_bytes : Nat → Int32) (out : Int32 × Int32 × Int32 × Int32) (hx : p.tables.exec = Jvm.exec) (hb : c.code = cX7_readToken) (hml : c.maxLocals = 1) (hts : ∀ w ∈ wsX7_readToken, w.before args s = true) (hown : s.vm.findClass RX7 = some m.cls) (hK : va_K (dC, dI) vwCl (px_TY cyI cyZ cyJ cyB cyO) s) (hN : px_NW s) (hG : px_SG sK sV tS A s s.heap) (hA : ∀ q : Nat, s.heap.size ≤ q → A q) (hQ : ∀ (H : Heap) (locs : List Loc) (pc : Nat) (ls : Array Slot), va_P (dC, dI) vwCl (wdX7_readToken cyI cyZ cyJ cyB cyO h_tp a_tp_bytes tp_length out.1 out.2.1 out.2.2.1 out.2.2.2 tp_bytes) H → va_D A (wdX7_readToken cyI cyZ cyJ cyB cyO h_tp a_tp_bytes tp_length out.1 out.2.1 out.2.2.1 out.2.2.2 tp_bytes) → va_S A s.heap H locs → decode cX7_readToken pc = .ok (.return_, 1) → W p l e ({ frames := 6, cells := 0, slots := 0, locals := 129 } : Room) s m args below meth c H locs 0 0 Q (F0 m pc ls []))  : ∀ n : Nat, ∀ (tp_kind : Int32) (tp_start : Int32) (tp_value : Int32) (tp_place : Int32) (H : Heap) (locs : List Loc) (ls : Array Slot), pX7_readToken_0 tp_length tp_bytes n tp_kind tp_start tp_value tp_place = some out → va_P (dC, dI) vwCl (wdX7_readToken cyI cyZ cyJ cyB cyO h_tp a_tp_bytes tp_length tp_kind tp_start tp_value tp_place tp_bytes) H → va_D A (wdX7_readToken cyI cyZ cyJ cyB cyO h_tp a_tp_bytes tp_length tp_kind tp_start tp_value tp_place tp_bytes) → va_S A s.heap H locs → lv_has ls 1 [(0, .ref h_tp)] → W p l e ({ frames := 6, cells := 0, slots := 0, locals := 129 } : Room) s m args below meth c H locs 0 0 Q (F0 m 0 ls []) := by
  intro n
  induction n with
  | zero =>
    intro tp_kind tp_start tp_value tp_place H locs ls hp hP hD hS hl
    exact nomatch hp
  | succ n ih => exact lcX7_readToken_0B dC dI cyI cyZ cyJ cyB cyO sK sV tS h_tp a_tp_bytes tp_length tp_kind tp_start tp_value tp_place tp_bytes out hx hb hml hts hown hK hN hG hA hQ (pX7_readToken_0 tp_length tp_bytes n) ih
set_option maxHeartbeats 4000000 in
set_option maxRecDepth 100000 in
theorem ccX7_readToken (l : Launch) (dC : Nat → ClassId) (dI : Nat → Nat → Nat) (cyI cyZ cyJ cyB cyO : ClassId) (sK sV tS : Nat → Nat) (sz : Nat) (h_tp a_tp_bytes : Nat) (tp_length : Int32) (tp_kind : Int32) (tp_start : Int32) (tp_value : Int32) (tp_place : Int32) (tp_bytes : Nat → Int32) (out : Int32 × Int32 × Int32 × Int32) (hp : pX7_readToken tp_length tp_bytes tp_kind tp_start tp_value tp_place = some out) : Met l yX7_readToken wsX7_readToken ({ frames := 6, cells := 0, slots := 0, locals := 129 } : Room) (px_PWs sK sV tS (dC, dI) (px_TY cyI cyZ cyJ cyB cyO) [.ref h_tp] (wdX7_readToken cyI cyZ cyJ cyB cyO h_tp a_tp_bytes tp_length tp_kind tp_start tp_value tp_place tp_bytes) sz) (px_QW none (dC, dI) (wdX7_readToken cyI cyZ cyJ cyB cyO h_tp a_tp_bytes tp_length tp_kind tp_start tp_value tp_place tp_bytes) (wdX7_readToken cyI cyZ cyJ cyB cyO h_tp a_tp_bytes tp_length out.1 out.2.1 out.2.2.1 out.2.2.2 tp_bytes) sz) 0 0 (va_A (wdX7_readToken cyI cyZ cyJ cyB cyO h_tp a_tp_bytes tp_length tp_kind tp_start tp_value tp_place tp_bytes) sz) := by
  refine Met.ofW (cc := cX7_readToken) (maxL := 1) (ret := none) (by decide) rfl ?_
  intro p e s m args below meth c s₁ B hml hv
  obtain ⟨rfl, ⟨hsz, hP, hK, hD0, hN⟩, hG⟩ := hv
  have hx := B.exec
  have hb := B.bytes
  have hr := B.returns
  have hts := atoms_spec (ws := wsX7_readToken) B.pre
  have hown : s.vm.findClass RX7 = some m.cls := findClass_of_methodNamed B.named
  have hlocks := B.notSynchronized
  subst hsz
  have hD := hD0.self (sz := s.heap.size)
  generalize hAe : va_A (wdX7_readToken cyI cyZ cyJ cyB cyO h_tp a_tp_bytes tp_length tp_kind tp_start tp_value tp_place tp_bytes) s.heap.size = A at hD hG ⊢
  have hA : ∀ q : Nat, s.heap.size ≤ q → A q := fun q h => by rw [← hAe]; exact Or.inr h
  have hS : va_S A s.heap s.heap [] := va_S.rf
  have hq := px_QWe (v := none) (D := (dC, dI)) (w1 := (wdX7_readToken cyI cyZ cyJ cyB cyO h_tp a_tp_bytes tp_length out.1 out.2.1 out.2.2.1 out.2.2.2 tp_bytes)) (st := s) hAe
  generalize px_QW none (dC, dI) (wdX7_readToken cyI cyZ cyJ cyB cyO h_tp a_tp_bytes tp_length tp_kind tp_start tp_value tp_place tp_bytes) (wdX7_readToken cyI cyZ cyJ cyB cyO h_tp a_tp_bytes tp_length out.1 out.2.1 out.2.2.1 out.2.2.2 tp_bytes) s.heap.size = Qc at hq ⊢
  have hQ : ∀ (H : Heap) (locs : List Loc) (pc : Nat) (ls : Array Slot), va_P (dC, dI) vwCl (wdX7_readToken cyI cyZ cyJ cyB cyO h_tp a_tp_bytes tp_length out.1 out.2.1 out.2.2.1 out.2.2.2 tp_bytes) H → va_D A (wdX7_readToken cyI cyZ cyJ cyB cyO h_tp a_tp_bytes tp_length out.1 out.2.1 out.2.2.1 out.2.2.2 tp_bytes) → va_S A s.heap H locs → decode cX7_readToken pc = .ok (.return_, 1) → W p l e ({ frames := 6, cells := 0, slots := 0, locals := 129 } : Room) s m (([.ref h_tp] : List Value).toArray) below meth c H locs 0 0 (MQ below Qc (([.ref h_tp] : List Value).toArray) s 0 0 A) (F0 m pc ls []) := fun H locs pc ls hP hD hS hd => W.vret hx hb hr (fun t ht hW => hq _ t (by rw [ht]; exact hP) hD (hS.F ht)) hS.2.2 hd
  generalize MQ below Qc (([.ref h_tp] : List Value).toArray) s 0 0 A = Q at hQ ⊢
  have hl := lv_entry [.ref h_tp] (n := 1) (Nat.le_of_ble_eq_true rfl)
  rw [lg_entry_eq]
  generalize (lg_sl [.ref h_tp] ++ List.replicate (1 - (lg_sl [.ref h_tp]).length) Slot.unset).toArray = ls at hl ⊢
  have hl : lv_has ls 1 [(0, .ref h_tp)] := hl
  unfold pX7_readToken at hp
  refine lv_aload_n hx hb dX7_readToken_0 rfl (lv_at hl 0 rfl) ?_
  refine va_get (D := (dC, dI)) (ci := 7) (v := .int tp_place) (C := RX7) (T := TX7) (N := 6) hx hb hts fX7_readToken_X7 hown hK hP 0 rfl rfl 5 (by decide) (hts _ kX7_readToken_1) (fun _ h9 => h9) rfl dX7_readToken_1 ?_
  refine lv_aload_n hx hb dX7_readToken_4 rfl (lv_at hl 0 rfl) ?_
  refine va_get (D := (dC, dI)) (ci := 7) (v := .int tp_length) (C := RX7) (T := TX7) (N := 6) hx hb hts fX7_readToken_X7 hown hK hP 0 rfl rfl 1 (by decide) (hts _ kX7_readToken_2) (fun _ h9 => h9) rfl dX7_readToken_5 ?_
  refine lv_icmp_ge (tgt := 37) hx hb dX7_readToken_8 (by decide) (fun c_1 => ?_) (fun c_1 => ?_)
  · have hp := px_t hp c_1
    exact lcX7_readToken_37 dC dI cyI cyZ cyJ cyB cyO sK sV tS h_tp a_tp_bytes tp_length tp_kind tp_start tp_value tp_place tp_bytes out hx hb hml hts hown hK hN hG hA hQ tp_kind tp_start tp_value tp_place _ _ ls hp hP hD hS (lv_sub hl [0] rfl)
  · have hp := px_f hp c_1
    refine lv_aload_n hx hb dX7_readToken_11 rfl (lv_at hl 0 rfl) ?_
    refine lv_aload_n hx hb dX7_readToken_12 rfl (lv_at hl 0 rfl) ?_
    refine va_get (D := (dC, dI)) (ci := 7) (v := .int tp_place) (C := RX7) (T := TX7) (N := 6) hx hb hts fX7_readToken_X7 hown hK hP 0 rfl rfl 5 (by decide) (hts _ kX7_readToken_1) (fun _ h9 => h9) rfl dX7_readToken_13 ?_
    obtain ⟨o_11, ho_11, hp⟩ := px_b_at hp
    refine px_callR (v := .int o_11) (va_runV (As := [.int tp_place]) (rest := []) ⟨hx, hb, hml, hown, hts⟩ (ccX7_byteAt l dC dI cyI cyZ cyJ cyB cyO h_tp a_tp_bytes tp_length tp_kind tp_start tp_value tp_place tp_bytes tp_place o_11 ho_11) (cwV 1 hts gX7_readToken_X7_byteAt rfl rfl rfl hvX7_byteAt ⟨Nat.le_of_ble_eq_true rfl, Nat.le_of_ble_eq_true rfl⟩) (px_preRV (wc := (wdX7_byteAt cyI cyZ cyJ cyB cyO h_tp a_tp_bytes tp_length tp_kind tp_start tp_value tp_place tp_bytes)) (ci := 7) (q0 := 0) hK hN hP [0, 1] rfl rfl rfl) rfl rfl hl.1 rfl (lv_room (Nat.le_of_ble_eq_true rfl)) dX7_readToken_16 ⟨Nat.zero_le _, Nat.zero_le _⟩) ?_
    refine lv_bipush (v := (32 : Int32)) hx hb dX7_readToken_19 (by decide) ?_
    refine lv_icmp_ne (tgt := 37) hx hb dX7_readToken_21 (by decide) (fun c_12 => ?_) (fun c_12 => ?_)
    · have hp := px_f hp c_12
      exact lcX7_readToken_37 dC dI cyI cyZ cyJ cyB cyO sK sV tS h_tp a_tp_bytes tp_length tp_kind tp_start tp_value tp_place tp_bytes out hx hb hml hts hown hK hN hG hA hQ tp_kind tp_start tp_value tp_place _ _ ls hp hP hD hS (lv_sub hl [0] rfl)
    · have hp := px_t hp c_12
      refine lv_aload_n hx hb dX7_readToken_24 rfl (lv_at hl 0 rfl) ?_
      refine lv_dup hx hb dX7_readToken_25 rfl ?_
      refine va_get (D := (dC, dI)) (ci := 7) (v := .int tp_place) (C := RX7) (T := TX7) (N := 6) hx hb hts fX7_readToken_X7 hown hK hP 0 rfl rfl 5 (by decide) (hts _ kX7_readToken_1) (fun _ h9 => h9) rfl dX7_readToken_26 ?_
      refine lv_iconst (v := (1 : Int32)) hx hb dX7_readToken_29 (by decide) ?_
      refine lv_iadd hx hb dX7_readToken_30 ?_
      refine va_put (D := (dC, dI)) (ci := 7) (v := .int (tp_place + (1 : Int32))) (ty := .int) (C := RX7) (T := TX7) (N := 6) hx hb hts fX7_readToken_X7 tyX7 tyX7_ok nmX7 hown hK hP hD hS 0 rfl rfl 5 (by decide) (hts _ kX7_readToken_1) (fun _ h9 => h9) rfl (tyX7_ok 5 (by decide)) rfl rfl (Nat.le_of_ble_eq_true rfl) dX7_readToken_31 (fun H locs hP hD hS => ?_)
      have hP : va_P (dC, dI) vwCl (wdX7_readToken cyI cyZ cyJ cyB cyO h_tp a_tp_bytes tp_length tp_kind tp_start tp_value (tp_place + (1 : Int32)) tp_bytes) H := hP
      have hD : va_D A (wdX7_readToken cyI cyZ cyJ cyB cyO h_tp a_tp_bytes tp_length tp_kind tp_start tp_value (tp_place + (1 : Int32)) tp_bytes) := hD
      refine lv_goto (tgt := 0) hx hb dX7_readToken_34 (by decide) ?_
      exact lcX7_readToken_0 dC dI cyI cyZ cyJ cyB cyO sK sV tS h_tp a_tp_bytes tp_length tp_kind tp_start tp_value tp_place tp_bytes out hx hb hml hts hown hK hN hG hA hQ px_FU tp_kind tp_start tp_value (tp_place + (1 : Int32)) _ _ ls hp hP hD hS (lv_sub hl [0] rfl)
