/-! TagReader$Tags.has(I)Z -/
def pX6_has (v1 : Int32) (tg_size : Int32) : Option (Int32) := px_b (pX10_within v1 (0 : Int32) (tg_size - (1 : Int32))) (fun o_1 => px_o o_1 (some o_1))
abbrev wdX6_has (cyI cyZ cyJ cyB cyO : ClassId) (h_tg a_tg_numbers a_tg_strengths a_tg_silent : Nat) (tg_size : Int32) (tg_numbers : Nat → Int32) (tg_strengths : Nat → Int32) (tg_silent : Nat → Int32) : va_W := [(h_tg, .inr (6, [.ref a_tg_numbers, .ref a_tg_strengths, .ref a_tg_silent, .int tg_size])), (a_tg_numbers, .inl (cyI, 16, .inl tg_numbers)), (a_tg_strengths, .inl (cyI, 16, .inl tg_strengths)), (a_tg_silent, .inl (cyZ, 16, .inl tg_silent))]
/-! TagReader$Tags.hasNumber(I)Z -/
def pX6_hasNumber_2B (v1 : Int32) (tg_size : Int32) (tg_numbers : Nat → Int32) (K_2 : Int32 → Option (Int32)) (v2 : Int32) : Option (Int32) := (if tg_size ≤ v2 then some (0 : Int32) else px_i v2 16 ((if (tg_numbers (Int32.toNatClampNeg v2)) = v1 then some (1 : Int32) else K_2 (v2 + (1 : Int32)))))
def pX6_hasNumber_2 (v1 : Int32) (tg_size : Int32) (tg_numbers : Nat → Int32) : Nat → Int32 → Option (Int32)
  | 0, _ => none
  | n + 1, v2 => pX6_hasNumber_2B v1 tg_size tg_numbers (pX6_hasNumber_2 v1 tg_size tg_numbers n) v2
def pX6_hasNumber (v1 : Int32) (tg_size : Int32) (tg_numbers : Nat → Int32) : Option (Int32) := pX6_hasNumber_2 v1 tg_size tg_numbers px_FU (0 : Int32)
abbrev wdX6_hasNumber (cyI cyZ cyJ cyB cyO : ClassId) (h_tg a_tg_numbers a_tg_strengths a_tg_silent : Nat) (tg_size : Int32) (tg_numbers : Nat → Int32) (tg_strengths : Nat → Int32) (tg_silent : Nat → Int32) : va_W := [(h_tg, .inr (6, [.ref a_tg_numbers, .ref a_tg_strengths, .ref a_tg_silent, .int tg_size])), (a_tg_numbers, .inl (cyI, 16, .inl tg_numbers)), (a_tg_strengths, .inl (cyI, 16, .inl tg_strengths)), (a_tg_silent, .inl (cyZ, 16, .inl tg_silent))]
/-! TagReader$Tags.add(II)V -/
def pX6_add (v1 : Int32) (v2 : Int32) (tg_size : Int32) (tg_numbers : Nat → Int32) (tg_strengths : Nat → Int32) (tg_silent : Nat → Int32) : Option (Int32 × (Nat → Int32) × (Nat → Int32) × (Nat → Int32)) := (if tg_size < (16 : Int32) then px_i tg_size 16 (px_i tg_size 16 (px_i tg_size 16 (some ((tg_size + (1 : Int32)), (upd tg_numbers (Int32.toNatClampNeg tg_size) v1), (upd tg_strengths (Int32.toNatClampNeg tg_size) v2), (upd tg_silent (Int32.toNatClampNeg tg_size) (vp_nar .boolean (0 : Int32))))))) else some (tg_size, tg_numbers, tg_strengths, tg_silent))
abbrev wdX6_add (cyI cyZ cyJ cyB cyO : ClassId) (h_tg a_tg_numbers a_tg_strengths a_tg_silent : Nat) (tg_size : Int32) (tg_numbers : Nat → Int32) (tg_strengths : Nat → Int32) (tg_silent : Nat → Int32) : va_W := [(h_tg, .inr (6, [.ref a_tg_numbers, .ref a_tg_strengths, .ref a_tg_silent, .int tg_size])), (a_tg_numbers, .inl (cyI, 16, .inl tg_numbers)), (a_tg_strengths, .inl (cyI, 16, .inl tg_strengths)), (a_tg_silent, .inl (cyZ, 16, .inl tg_silent))]
/-! TagReader$Tags.silentOnes()I -/
def pX6_silentOnes_4B (tg_size : Int32) (tg_silent : Nat → Int32) (K_4 : Int32 → Int32 → Option (Int32)) (v1 : Int32) (v2 : Int32) : Option (Int32) := (if tg_size ≤ v2 then some v1 else px_i v2 16 ((if (tg_silent (Int32.toNatClampNeg v2)) = (0 : Int32) then K_4 v1 (v2 + (1 : Int32)) else K_4 (v1 + (1 : Int32)) (v2 + (1 : Int32)))))
def pX6_silentOnes_4 (tg_size : Int32) (tg_silent : Nat → Int32) : Nat → Int32 → Int32 → Option (Int32)
  | 0, _, _ => none
  | n + 1, v1, v2 => pX6_silentOnes_4B tg_size tg_silent (pX6_silentOnes_4 tg_size tg_silent n) v1 v2
def pX6_silentOnes (tg_size : Int32) (tg_silent : Nat → Int32) : Option (Int32) := pX6_silentOnes_4 tg_size tg_silent px_FU (0 : Int32) (0 : Int32)
abbrev wdX6_silentOnes (cyI cyZ cyJ cyB cyO : ClassId) (h_tg a_tg_numbers a_tg_strengths a_tg_silent : Nat) (tg_size : Int32) (tg_numbers : Nat → Int32) (tg_strengths : Nat → Int32) (tg_silent : Nat → Int32) : va_W := [(h_tg, .inr (6, [.ref a_tg_numbers, .ref a_tg_strengths, .ref a_tg_silent, .int tg_size])), (a_tg_numbers, .inl (cyI, 16, .inl tg_numbers)), (a_tg_strengths, .inl (cyI, 16, .inl tg_strengths)), (a_tg_silent, .inl (cyZ, 16, .inl tg_silent))]
/-! TagReader$Tags.silenceAll(Z)V -/
def pX6_silenceAll_2B (v1 : Int32) (tg_size : Int32) (K_2 : Int32 → (Nat → Int32) → Option ((Nat → Int32))) (v2 : Int32) (tg_silent : Nat → Int32) : Option ((Nat → Int32)) := (if tg_size ≤ v2 then some tg_silent else px_i v2 16 (K_2 (v2 + (1 : Int32)) (upd tg_silent (Int32.toNatClampNeg v2) (vp_nar .boolean v1))))
def pX6_silenceAll_2 (v1 : Int32) (tg_size : Int32) : Nat → Int32 → (Nat → Int32) → Option ((Nat → Int32))
  | 0, _, _ => none
  | n + 1, v2, tg_silent => pX6_silenceAll_2B v1 tg_size (pX6_silenceAll_2 v1 tg_size n) v2 tg_silent
def pX6_silenceAll (v1 : Int32) (tg_size : Int32) (tg_silent : Nat → Int32) : Option ((Nat → Int32)) := pX6_silenceAll_2 v1 tg_size px_FU (0 : Int32) tg_silent
abbrev wdX6_silenceAll (cyI cyZ cyJ cyB cyO : ClassId) (h_tg a_tg_numbers a_tg_strengths a_tg_silent : Nat) (tg_size : Int32) (tg_numbers : Nat → Int32) (tg_strengths : Nat → Int32) (tg_silent : Nat → Int32) : va_W := [(h_tg, .inr (6, [.ref a_tg_numbers, .ref a_tg_strengths, .ref a_tg_silent, .int tg_size])), (a_tg_numbers, .inl (cyI, 16, .inl tg_numbers)), (a_tg_strengths, .inl (cyI, 16, .inl tg_strengths)), (a_tg_silent, .inl (cyZ, 16, .inl tg_silent))]
/-! TagReader$Tags.has(I)Z -/
theorem hvX6_has : yX6_has.cls = RX6 ∧ yX6_has.cls ≠ "java/lang/invoke/MethodHandle" ∧ yX6_has.cls ≠ "java/lang/invoke/VarHandle" ∧ (parseMethodDescriptor yX6_has.desc).map (fun d => d.parameters.length) = some 1 := by decide +kernel
theorem fX6_has_X6 : ∀ w ∈ u_ws RX6 TX6 4, w ∈ wsX6_has := fun _ h => List.mem_cons_of_mem _ (List.mem_append_right _ h)
theorem kX6_has_1 : (.fieldLink RX6 22 "TagReader$Tags" "size" "I" : Cond) ∈ wsX6_has := List.mem_of_getElem? (i := 1) rfl
theorem kX6_has_3 : (.initialized RX10 : Cond) ∈ wsX6_has := List.mem_of_getElem? (i := 3) rfl
theorem kX6_has_2 : (.static yX10_within : Cond) ∈ wsX6_has := List.mem_of_getElem? (i := 2) rfl
set_option maxHeartbeats 4000000 in
set_option maxRecDepth 100000 in
theorem ccX6_has (l : Launch) (dC : Nat → ClassId) (dI : Nat → Nat → Nat) (cyI cyZ cyJ cyB cyO : ClassId) (h_tg a_tg_numbers a_tg_strengths a_tg_silent : Nat) (tg_size : Int32) (tg_numbers : Nat → Int32) (tg_strengths : Nat → Int32) (tg_silent : Nat → Int32) (v1 : Int32) (out : Int32) (hp : pX6_has v1 tg_size = some out) : Met l yX6_has wsX6_has ({ frames := 1, cells := 0, slots := 0, locals := 22 } : Room) (px_PR (dC, dI) (px_TY cyI cyZ cyJ cyB cyO) [.ref h_tg, .int v1] (wdX6_has cyI cyZ cyJ cyB cyO h_tg a_tg_numbers a_tg_strengths a_tg_silent tg_size tg_numbers tg_strengths tg_silent)) (px_QR (.int out)) 0 0 (fun _ => False) := by
  refine Met.ofW (cc := cX6_has) (maxL := 2) (ret := (some .boolean)) (by decide) rfl ?_
  intro p e s m args below meth c s₁ B hml hv
  obtain ⟨rfl, hP, hK, hN⟩ := hv
  have hx := B.exec
  have hb := B.bytes
  have hr := B.returns
  have hts := atoms_spec (ws := wsX6_has) B.pre
  have hown : s.vm.findClass RX6 = some m.cls := findClass_of_methodNamed B.named
  have hlocks := B.notSynchronized
  have hQ : ∀ (pc : Nat) (ls : Array Slot), narrow .boolean (.int out) = .int out → decode cX6_has pc = .ok (.ireturn, 1) → W p l e ({ frames := 1, cells := 0, slots := 0, locals := 22 } : Room) s m (([.ref h_tg, .int v1] : List Value).toArray) below meth c s.heap [] 0 0 (MQ below (px_QR (.int out)) (([.ref h_tg, .int v1] : List Value).toArray) s 0 0 (fun _ => False)) (F0 m pc ls [.int out]) := fun pc ls hz hd => W.zret hx hb hr hz (fun t ht hW => ⟨rfl, ht⟩) (fun q h => by cases h) hd
  generalize MQ below (px_QR (.int out)) (([.ref h_tg, .int v1] : List Value).toArray) s 0 0 (fun _ => False) = Q at hQ ⊢
  have hl := lv_entry [.ref h_tg, .int v1] (n := 2) (Nat.le_of_ble_eq_true rfl)
  rw [lg_entry_eq]
  generalize (lg_sl [.ref h_tg, .int v1] ++ List.replicate (2 - (lg_sl [.ref h_tg, .int v1]).length) Slot.unset).toArray = ls at hl ⊢
  have hl : lv_has ls 2 [(0, .ref h_tg), (1, .int v1)] := hl
  unfold pX6_has at hp
  refine lv_iload_n hx hb dX6_has_0 rfl (lv_at hl 1 rfl) ?_
  refine lv_iconst (v := (0 : Int32)) hx hb dX6_has_1 (by decide) ?_
  refine lv_aload_n hx hb dX6_has_2 rfl (lv_at hl 0 rfl) ?_
  refine va_get (D := (dC, dI)) (ci := 6) (v := .int tg_size) (C := RX6) (T := TX6) (N := 4) hx hb hts fX6_has_X6 hown hK hP 0 rfl rfl 3 (by decide) (hts _ kX6_has_1) (fun _ h9 => h9) rfl dX6_has_3 ?_
  refine lv_iconst (v := (1 : Int32)) hx hb dX6_has_6 (by decide) ?_
  refine lv_isub hx hb dX6_has_7 ?_
  obtain ⟨o_1, ho_1, hp⟩ := px_b_at hp
  refine px_callR (v := .int o_1) (va_runSN (host := RX10) (As := [.int v1, .int (0 : Int32), .int (tg_size - (1 : Int32))]) (rest := []) ⟨hx, hb, hml, hown, hts⟩ (ccX10_within l dC dI cyI cyZ cyJ cyB cyO v1 (0 : Int32) (tg_size - (1 : Int32)) o_1 ho_1) ⟨va_cnB 3 hts gX6_has_X10_within_n26 rfl rfl rfl hN.1 (hts _ kX6_has_3) hsX10_within ⟨Nat.le_of_ble_eq_true rfl, Nat.le_of_ble_eq_true rfl⟩, hts _ kX6_has_2, trivial⟩ (px_preR (wc := []) hK hN hP [] rfl) rfl rfl hl.1 rfl (lv_room (Nat.le_of_ble_eq_true rfl)) dX6_has_8 ⟨Nat.zero_le _, Nat.zero_le _⟩) ?_
  obtain ⟨g_2, hp⟩ := px_o_at hp
  have ho := px_s hp
  subst ho
  exact hQ _ _ g_2 dX6_has_11
/-! TagReader$Tags.hasNumber(I)Z -/
theorem hvX6_hasNumber : yX6_hasNumber.cls = RX6 ∧ yX6_hasNumber.cls ≠ "java/lang/invoke/MethodHandle" ∧ yX6_hasNumber.cls ≠ "java/lang/invoke/VarHandle" ∧ (parseMethodDescriptor yX6_hasNumber.desc).map (fun d => d.parameters.length) = some 1 := by decide +kernel
theorem fX6_hasNumber_X6 : ∀ w ∈ u_ws RX6 TX6 4, w ∈ wsX6_hasNumber := fun _ h => List.mem_cons_of_mem _ (List.mem_append_right _ h)
theorem kX6_hasNumber_1 : (.fieldLink RX6 22 "TagReader$Tags" "size" "I" : Cond) ∈ wsX6_hasNumber := List.mem_of_getElem? (i := 1) rfl
theorem kX6_hasNumber_2 : (.fieldLink RX6 9 "TagReader$Tags" "numbers" "[I" : Cond) ∈ wsX6_hasNumber := List.mem_of_getElem? (i := 2) rfl
set_option maxHeartbeats 4000000 in
set_option maxRecDepth 100000 in
theorem lcX6_hasNumber_2B {p : Program} {l : Launch} {e : Env} {s : State} {m : MethodId} {args : Array Value} {below : List Frame} {meth : Method} {c : Code} {Q : State → Prop} (dC : Nat → ClassId) (dI : Nat → Nat → Nat) (cyI cyZ cyJ cyB cyO : ClassId) (h_tg a_tg_numbers a_tg_strengths a_tg_silent : Nat) (tg_size : Int32) (tg_numbers : Nat → Int32) (tg_strengths : Nat → Int32) (tg_silent : Nat → Int32) (v1 : Int32) (out : Int32) (hx : p.tables.exec = Jvm.exec) (hb : c.code = cX6_hasNumber) (hml : c.maxLocals = 3) (hts : ∀ w ∈ wsX6_hasNumber, w.before args s = true) (hown : s.vm.findClass RX6 = some m.cls) (hK : va_K (dC, dI) vwCl (px_TY cyI cyZ cyJ cyB cyO) s) (hN : px_NW s) (hP : va_P (dC, dI) vwCl (wdX6_hasNumber cyI cyZ cyJ cyB cyO h_tg a_tg_numbers a_tg_strengths a_tg_silent tg_size tg_numbers tg_strengths tg_silent) s.heap) (hQ : ∀ (pc : Nat) (ls : Array Slot), narrow .boolean (.int out) = .int out → decode cX6_hasNumber pc = .ok (.ireturn, 1) → W p l e ({ frames := 0, cells := 0, slots := 0, locals := 0 } : Room) s m args below meth c s.heap [] 0 0 Q (F0 m pc ls [.int out]))  (K_2 : Int32 → Option (Int32)) (hK_2 : ∀ (v2 : Int32) (ls : Array Slot), K_2 v2 = some out → lv_has ls 3 [(0, .ref h_tg), (1, .int v1), (2, .int v2)] → W p l e ({ frames := 0, cells := 0, slots := 0, locals := 0 } : Room) s m args below meth c s.heap [] 0 0 Q (F0 m 2 ls [])) : ∀ (v2 : Int32) (ls : Array Slot), pX6_hasNumber_2B v1 tg_size tg_numbers K_2 v2 = some out → lv_has ls 3 [(0, .ref h_tg), (1, .int v1), (2, .int v2)] → W p l e ({ frames := 0, cells := 0, slots := 0, locals := 0 } : Room) s m args below meth c s.heap [] 0 0 Q (F0 m 2 ls []) := by
  intro v2 ls hp hl
  unfold pX6_hasNumber_2B at hp
  refine lv_iload_n hx hb dX6_hasNumber_2 rfl (lv_at hl 2 rfl) ?_
  refine lv_aload_n hx hb dX6_hasNumber_3 rfl (lv_at hl 0 rfl) ?_
  refine va_get (D := (dC, dI)) (ci := 6) (v := .int tg_size) (C := RX6) (T := TX6) (N := 4) hx hb hts fX6_hasNumber_X6 hown hK hP 0 rfl rfl 3 (by decide) (hts _ kX6_hasNumber_1) (fun _ h9 => h9) rfl dX6_hasNumber_4 ?_
  refine lv_icmp_ge (tgt := 28) hx hb dX6_hasNumber_7 (by decide) (fun c_1 => ?_) (fun c_1 => ?_)
  · have hp := px_t hp c_1
    refine lv_iconst (v := (0 : Int32)) hx hb dX6_hasNumber_28 (by decide) ?_
    have ho := px_s hp
    subst ho
    exact hQ _ _ narrow_b0 dX6_hasNumber_29
  · have hp := px_f hp c_1
    refine lv_aload_n hx hb dX6_hasNumber_10 rfl (lv_at hl 0 rfl) ?_
    refine va_get (D := (dC, dI)) (ci := 6) (v := .ref a_tg_numbers) (C := RX6) (T := TX6) (N := 4) hx hb hts fX6_hasNumber_X6 hown hK hP 0 rfl rfl 0 (by decide) (hts _ kX6_hasNumber_2) (fun _ h9 => h9) rfl dX6_hasNumber_11 ?_
    refine lv_iload_n hx hb dX6_hasNumber_14 rfl (lv_at hl 2 rfl) ?_
    obtain ⟨g_2, hp⟩ := px_i_at hp
    refine va_iald (D := (dC, dI)) hx hb hK hP 1 0 rfl rfl g_2 dX6_hasNumber_15 ?_
    refine lv_iload_n hx hb dX6_hasNumber_16 rfl (lv_at hl 1 rfl) ?_
    refine lv_icmp_ne (tgt := 22) hx hb dX6_hasNumber_17 (by decide) (fun c_3 => ?_) (fun c_3 => ?_)
    · have hp := px_f hp c_3
      refine lv_iinc (v := (v2 + (1 : Int32))) (lv' := [(2, .int (v2 + (1 : Int32))), (0, .ref h_tg), (1, .int v1)]) hx hb dX6_hasNumber_22 hl (k := 2) rfl rfl (by decide) rfl (fun ls hl => ?_)
      refine lv_goto (tgt := 2) hx hb dX6_hasNumber_25 (by decide) ?_
      exact hK_2 (v2 + (1 : Int32)) ls hp (lv_sub hl [1, 2, 0] rfl)
    · have hp := px_t hp c_3
      refine lv_iconst (v := (1 : Int32)) hx hb dX6_hasNumber_20 (by decide) ?_
      have ho := px_s hp
      subst ho
      exact hQ _ _ narrow_b1 dX6_hasNumber_21
theorem lcX6_hasNumber_2 {p : Program} {l : Launch} {e : Env} {s : State} {m : MethodId} {args : Array Value} {below : List Frame} {meth : Method} {c : Code} {Q : State → Prop} (dC : Nat → ClassId) (dI : Nat → Nat → Nat) (cyI cyZ cyJ cyB cyO : ClassId) (h_tg a_tg_numbers a_tg_strengths a_tg_silent : Nat) (tg_size : Int32) (tg_numbers : Nat → Int32) (tg_strengths : Nat → Int32) (tg_silent : Nat → Int32) (v1 : Int32) (out : Int32) (hx : p.tables.exec = Jvm.exec) (hb : c.code = cX6_hasNumber) (hml : c.maxLocals = 3) (hts : ∀ w ∈ wsX6_hasNumber, w.before args s = true) (hown : s.vm.findClass RX6 = some m.cls) (hK : va_K (dC, dI) vwCl (px_TY cyI cyZ cyJ cyB cyO) s) (hN : px_NW s) (hP : va_P (dC, dI) vwCl (wdX6_hasNumber cyI cyZ cyJ cyB cyO h_tg a_tg_numbers a_tg_strengths a_tg_silent tg_size tg_numbers tg_strengths tg_silent) s.heap) (hQ : ∀ (pc : Nat) (ls : Array Slot), narrow .boolean (.int out) = .int out → decode cX6_hasNumber pc = .ok (.ireturn, 1) → W p l e ({ frames := 0, cells := 0, slots := 0, locals := 0 } : Room) s m args below meth c s.heap [] 0 0 Q (F0 m pc ls [.int out]))  : ∀ n : Nat, ∀ (v2 : Int32) (ls : Array Slot), pX6_hasNumber_2 v1 tg_size tg_numbers n v2 = some out → lv_has ls 3 [(0, .ref h_tg), (1, .int v1), (2, .int v2)] → W p l e ({ frames := 0, cells := 0, slots := 0, locals := 0 } : Room) s m args below meth c s.heap [] 0 0 Q (F0 m 2 ls []) := by
  intro n
  induction n with
  | zero =>
    intro v2 ls hp hl
    exact nomatch hp
  | succ n ih => exact lcX6_hasNumber_2B dC dI cyI cyZ cyJ cyB cyO h_tg a_tg_numbers a_tg_strengths a_tg_silent tg_size tg_numbers tg_strengths tg_silent v1 out hx hb hml hts hown hK hN hP hQ (pX6_hasNumber_2 v1 tg_size tg_numbers n) ih
set_option maxHeartbeats 4000000 in
set_option maxRecDepth 100000 in
theorem ccX6_hasNumber (l : Launch) (dC : Nat → ClassId) (dI : Nat → Nat → Nat) (cyI cyZ cyJ cyB cyO : ClassId) (h_tg a_tg_numbers a_tg_strengths a_tg_silent : Nat) (tg_size : Int32) (tg_numbers : Nat → Int32) (tg_strengths : Nat → Int32) (tg_silent : Nat → Int32) (v1 : Int32) (out : Int32) (hp : pX6_hasNumber v1 tg_size tg_numbers = some out) : Met l yX6_hasNumber wsX6_hasNumber ({ frames := 0, cells := 0, slots := 0, locals := 0 } : Room) (px_PR (dC, dI) (px_TY cyI cyZ cyJ cyB cyO) [.ref h_tg, .int v1] (wdX6_hasNumber cyI cyZ cyJ cyB cyO h_tg a_tg_numbers a_tg_strengths a_tg_silent tg_size tg_numbers tg_strengths tg_silent)) (px_QR (.int out)) 0 0 (fun _ => False) := by
  refine Met.ofW (cc := cX6_hasNumber) (maxL := 3) (ret := (some .boolean)) (by decide) rfl ?_
  intro p e s m args below meth c s₁ B hml hv
  obtain ⟨rfl, hP, hK, hN⟩ := hv
  have hx := B.exec
  have hb := B.bytes
  have hr := B.returns
  have hts := atoms_spec (ws := wsX6_hasNumber) B.pre
  have hown : s.vm.findClass RX6 = some m.cls := findClass_of_methodNamed B.named
  have hlocks := B.notSynchronized
  have hQ : ∀ (pc : Nat) (ls : Array Slot), narrow .boolean (.int out) = .int out → decode cX6_hasNumber pc = .ok (.ireturn, 1) → W p l e ({ frames := 0, cells := 0, slots := 0, locals := 0 } : Room) s m (([.ref h_tg, .int v1] : List Value).toArray) below meth c s.heap [] 0 0 (MQ below (px_QR (.int out)) (([.ref h_tg, .int v1] : List Value).toArray) s 0 0 (fun _ => False)) (F0 m pc ls [.int out]) := fun pc ls hz hd => W.zret hx hb hr hz (fun t ht hW => ⟨rfl, ht⟩) (fun q h => by cases h) hd
  generalize MQ below (px_QR (.int out)) (([.ref h_tg, .int v1] : List Value).toArray) s 0 0 (fun _ => False) = Q at hQ ⊢
  have hl := lv_entry [.ref h_tg, .int v1] (n := 3) (Nat.le_of_ble_eq_true rfl)
  rw [lg_entry_eq]
  generalize (lg_sl [.ref h_tg, .int v1] ++ List.replicate (3 - (lg_sl [.ref h_tg, .int v1]).length) Slot.unset).toArray = ls at hl ⊢
  have hl : lv_has ls 3 [(0, .ref h_tg), (1, .int v1)] := hl
  unfold pX6_hasNumber at hp
  refine lv_iconst (v := (0 : Int32)) hx hb dX6_hasNumber_0 (by decide) ?_
  refine lv_istore_n (lv' := [(2, .int (0 : Int32)), (0, .ref h_tg), (1, .int v1)]) hx hb dX6_hasNumber_1 rfl hl (by decide) rfl (fun ls hl => ?_)
  exact lcX6_hasNumber_2 dC dI cyI cyZ cyJ cyB cyO h_tg a_tg_numbers a_tg_strengths a_tg_silent tg_size tg_numbers tg_strengths tg_silent v1 out hx hb hml hts hown hK hN hP hQ px_FU (0 : Int32) ls hp (lv_sub hl [1, 2, 0] rfl)
/-! TagReader$Tags.add(II)V -/
theorem hvX6_add : yX6_add.cls = RX6 ∧ yX6_add.cls ≠ "java/lang/invoke/MethodHandle" ∧ yX6_add.cls ≠ "java/lang/invoke/VarHandle" ∧ (parseMethodDescriptor yX6_add.desc).map (fun d => d.parameters.length) = some 2 := by decide +kernel
theorem fX6_add_X6 : ∀ w ∈ u_ws RX6 TX6 4, w ∈ wsX6_add := fun _ h => List.mem_cons_of_mem _ (List.mem_append_right _ h)
theorem kX6_add_1 : (.fieldLink RX6 22 "TagReader$Tags" "size" "I" : Cond) ∈ wsX6_add := List.mem_of_getElem? (i := 1) rfl
theorem kX6_add_2 : (.fieldLink RX6 9 "TagReader$Tags" "numbers" "[I" : Cond) ∈ wsX6_add := List.mem_of_getElem? (i := 2) rfl
theorem kX6_add_3 : (.fieldLink RX6 15 "TagReader$Tags" "strengths" "[I" : Cond) ∈ wsX6_add := List.mem_of_getElem? (i := 3) rfl
theorem kX6_add_4 : (.fieldLink RX6 18 "TagReader$Tags" "silent" "[Z" : Cond) ∈ wsX6_add := List.mem_of_getElem? (i := 4) rfl
set_option maxHeartbeats 4000000 in
set_option maxRecDepth 100000 in
theorem ccX6_add (l : Launch) (dC : Nat → ClassId) (dI : Nat → Nat → Nat) (cyI cyZ cyJ cyB cyO : ClassId) (sz : Nat) (h_tg a_tg_numbers a_tg_strengths a_tg_silent : Nat) (tg_size : Int32) (tg_numbers : Nat → Int32) (tg_strengths : Nat → Int32) (tg_silent : Nat → Int32) (v1 : Int32) (v2 : Int32) (out : Int32 × (Nat → Int32) × (Nat → Int32) × (Nat → Int32)) (hp : pX6_add v1 v2 tg_size tg_numbers tg_strengths tg_silent = some out) : Met l yX6_add wsX6_add ({ frames := 0, cells := 0, slots := 0, locals := 0 } : Room) (px_PW (dC, dI) (px_TY cyI cyZ cyJ cyB cyO) [.ref h_tg, .int v1, .int v2] (wdX6_add cyI cyZ cyJ cyB cyO h_tg a_tg_numbers a_tg_strengths a_tg_silent tg_size tg_numbers tg_strengths tg_silent) sz) (px_QW none (dC, dI) (wdX6_add cyI cyZ cyJ cyB cyO h_tg a_tg_numbers a_tg_strengths a_tg_silent tg_size tg_numbers tg_strengths tg_silent) (wdX6_add cyI cyZ cyJ cyB cyO h_tg a_tg_numbers a_tg_strengths a_tg_silent out.1 out.2.1 out.2.2.1 out.2.2.2) sz) 0 0 (va_A (wdX6_add cyI cyZ cyJ cyB cyO h_tg a_tg_numbers a_tg_strengths a_tg_silent tg_size tg_numbers tg_strengths tg_silent) sz) := by
  refine Met.ofW (cc := cX6_add) (maxL := 3) (ret := none) (by decide) rfl ?_
  intro p e s m args below meth c s₁ B hml hv
  obtain ⟨rfl, hsz, hP, hK, hD0, hN⟩ := hv
  have hx := B.exec
  have hb := B.bytes
  have hr := B.returns
  have hts := atoms_spec (ws := wsX6_add) B.pre
  have hown : s.vm.findClass RX6 = some m.cls := findClass_of_methodNamed B.named
  have hlocks := B.notSynchronized
  subst hsz
  have hD := hD0.self (sz := s.heap.size)
  generalize hAe : va_A (wdX6_add cyI cyZ cyJ cyB cyO h_tg a_tg_numbers a_tg_strengths a_tg_silent tg_size tg_numbers tg_strengths tg_silent) s.heap.size = A at hD ⊢
  have hA : ∀ q : Nat, s.heap.size ≤ q → A q := fun q h => by rw [← hAe]; exact Or.inr h
  have hS : va_S A s.heap s.heap [] := va_S.rf
  have hq := px_QWe (v := none) (D := (dC, dI)) (w1 := (wdX6_add cyI cyZ cyJ cyB cyO h_tg a_tg_numbers a_tg_strengths a_tg_silent out.1 out.2.1 out.2.2.1 out.2.2.2)) (st := s) hAe
  generalize px_QW none (dC, dI) (wdX6_add cyI cyZ cyJ cyB cyO h_tg a_tg_numbers a_tg_strengths a_tg_silent tg_size tg_numbers tg_strengths tg_silent) (wdX6_add cyI cyZ cyJ cyB cyO h_tg a_tg_numbers a_tg_strengths a_tg_silent out.1 out.2.1 out.2.2.1 out.2.2.2) s.heap.size = Qc at hq ⊢
  have hQ : ∀ (H : Heap) (locs : List Loc) (pc : Nat) (ls : Array Slot), va_P (dC, dI) vwCl (wdX6_add cyI cyZ cyJ cyB cyO h_tg a_tg_numbers a_tg_strengths a_tg_silent out.1 out.2.1 out.2.2.1 out.2.2.2) H → va_D A (wdX6_add cyI cyZ cyJ cyB cyO h_tg a_tg_numbers a_tg_strengths a_tg_silent out.1 out.2.1 out.2.2.1 out.2.2.2) → va_S A s.heap H locs → decode cX6_add pc = .ok (.return_, 1) → W p l e ({ frames := 0, cells := 0, slots := 0, locals := 0 } : Room) s m (([.ref h_tg, .int v1, .int v2] : List Value).toArray) below meth c H locs 0 0 (MQ below Qc (([.ref h_tg, .int v1, .int v2] : List Value).toArray) s 0 0 A) (F0 m pc ls []) := fun H locs pc ls hP hD hS hd => W.vret hx hb hr (fun t ht hW => hq _ t (by rw [ht]; exact hP) hD (hS.F ht)) hS.2.2 hd
  generalize MQ below Qc (([.ref h_tg, .int v1, .int v2] : List Value).toArray) s 0 0 A = Q at hQ ⊢
  have hl := lv_entry [.ref h_tg, .int v1, .int v2] (n := 3) (Nat.le_of_ble_eq_true rfl)
  rw [lg_entry_eq]
  generalize (lg_sl [.ref h_tg, .int v1, .int v2] ++ List.replicate (3 - (lg_sl [.ref h_tg, .int v1, .int v2]).length) Slot.unset).toArray = ls at hl ⊢
  have hl : lv_has ls 3 [(0, .ref h_tg), (1, .int v1), (2, .int v2)] := hl
  unfold pX6_add at hp
  refine lv_aload_n hx hb dX6_add_0 rfl (lv_at hl 0 rfl) ?_
  refine va_get (D := (dC, dI)) (ci := 6) (v := .int tg_size) (C := RX6) (T := TX6) (N := 4) hx hb hts fX6_add_X6 hown hK hP 0 rfl rfl 3 (by decide) (hts _ kX6_add_1) (fun _ h9 => h9) rfl dX6_add_1 ?_
  refine lv_bipush (v := (16 : Int32)) hx hb dX6_add_4 (by decide) ?_
  refine lv_icmp_lt (tgt := 10) hx hb dX6_add_6 (by decide) (fun c_1 => ?_) (fun c_1 => ?_)
  · have hp := px_t hp c_1
    refine lv_aload_n hx hb dX6_add_10 rfl (lv_at hl 0 rfl) ?_
    refine va_get (D := (dC, dI)) (ci := 6) (v := .ref a_tg_numbers) (C := RX6) (T := TX6) (N := 4) hx hb hts fX6_add_X6 hown hK hP 0 rfl rfl 0 (by decide) (hts _ kX6_add_2) (fun _ h9 => h9) rfl dX6_add_11 ?_
    refine lv_aload_n hx hb dX6_add_14 rfl (lv_at hl 0 rfl) ?_
    refine va_get (D := (dC, dI)) (ci := 6) (v := .int tg_size) (C := RX6) (T := TX6) (N := 4) hx hb hts fX6_add_X6 hown hK hP 0 rfl rfl 3 (by decide) (hts _ kX6_add_1) (fun _ h9 => h9) rfl dX6_add_15 ?_
    refine lv_iload_n hx hb dX6_add_18 rfl (lv_at hl 1 rfl) ?_
    obtain ⟨g_2, hp⟩ := px_i_at hp
    refine va_iast (D := (dC, dI)) hx hb hK hP hD hS 1 0 rfl rfl g_2 dX6_add_19 (fun H locs hP hD hS => ?_)
    have hP : va_P (dC, dI) vwCl (wdX6_add cyI cyZ cyJ cyB cyO h_tg a_tg_numbers a_tg_strengths a_tg_silent tg_size (upd tg_numbers (Int32.toNatClampNeg tg_size) v1) tg_strengths tg_silent) H := hP
    have hD : va_D A (wdX6_add cyI cyZ cyJ cyB cyO h_tg a_tg_numbers a_tg_strengths a_tg_silent tg_size (upd tg_numbers (Int32.toNatClampNeg tg_size) v1) tg_strengths tg_silent) := hD
    refine lv_aload_n hx hb dX6_add_20 rfl (lv_at hl 0 rfl) ?_
    refine va_get (D := (dC, dI)) (ci := 6) (v := .ref a_tg_strengths) (C := RX6) (T := TX6) (N := 4) hx hb hts fX6_add_X6 hown hK hP 0 rfl rfl 1 (by decide) (hts _ kX6_add_3) (fun _ h9 => h9) rfl dX6_add_21 ?_
    refine lv_aload_n hx hb dX6_add_24 rfl (lv_at hl 0 rfl) ?_
    refine va_get (D := (dC, dI)) (ci := 6) (v := .int tg_size) (C := RX6) (T := TX6) (N := 4) hx hb hts fX6_add_X6 hown hK hP 0 rfl rfl 3 (by decide) (hts _ kX6_add_1) (fun _ h9 => h9) rfl dX6_add_25 ?_
    refine lv_iload_n hx hb dX6_add_28 rfl (lv_at hl 2 rfl) ?_
    obtain ⟨g_3, hp⟩ := px_i_at hp
    refine va_iast (D := (dC, dI)) hx hb hK hP hD hS 2 0 rfl rfl g_3 dX6_add_29 (fun H locs hP hD hS => ?_)
    have hP : va_P (dC, dI) vwCl (wdX6_add cyI cyZ cyJ cyB cyO h_tg a_tg_numbers a_tg_strengths a_tg_silent tg_size (upd tg_numbers (Int32.toNatClampNeg tg_size) v1) (upd tg_strengths (Int32.toNatClampNeg tg_size) v2) tg_silent) H := hP
    have hD : va_D A (wdX6_add cyI cyZ cyJ cyB cyO h_tg a_tg_numbers a_tg_strengths a_tg_silent tg_size (upd tg_numbers (Int32.toNatClampNeg tg_size) v1) (upd tg_strengths (Int32.toNatClampNeg tg_size) v2) tg_silent) := hD
    refine lv_aload_n hx hb dX6_add_30 rfl (lv_at hl 0 rfl) ?_
    refine va_get (D := (dC, dI)) (ci := 6) (v := .ref a_tg_silent) (C := RX6) (T := TX6) (N := 4) hx hb hts fX6_add_X6 hown hK hP 0 rfl rfl 2 (by decide) (hts _ kX6_add_4) (fun _ h9 => h9) rfl dX6_add_31 ?_
    refine lv_aload_n hx hb dX6_add_34 rfl (lv_at hl 0 rfl) ?_
    refine va_get (D := (dC, dI)) (ci := 6) (v := .int tg_size) (C := RX6) (T := TX6) (N := 4) hx hb hts fX6_add_X6 hown hK hP 0 rfl rfl 3 (by decide) (hts _ kX6_add_1) (fun _ h9 => h9) rfl dX6_add_35 ?_
    refine lv_iconst (v := (0 : Int32)) hx hb dX6_add_38 (by decide) ?_
    obtain ⟨g_4, hp⟩ := px_i_at hp
    refine va_zast (D := (dC, dI)) hx hb hK hP hD hS 3 1 rfl rfl g_4 dX6_add_39 (fun H locs hP hD hS => ?_)
    have hP : va_P (dC, dI) vwCl (wdX6_add cyI cyZ cyJ cyB cyO h_tg a_tg_numbers a_tg_strengths a_tg_silent tg_size (upd tg_numbers (Int32.toNatClampNeg tg_size) v1) (upd tg_strengths (Int32.toNatClampNeg tg_size) v2) (upd tg_silent (Int32.toNatClampNeg tg_size) (vp_nar .boolean (0 : Int32)))) H := hP
    have hD : va_D A (wdX6_add cyI cyZ cyJ cyB cyO h_tg a_tg_numbers a_tg_strengths a_tg_silent tg_size (upd tg_numbers (Int32.toNatClampNeg tg_size) v1) (upd tg_strengths (Int32.toNatClampNeg tg_size) v2) (upd tg_silent (Int32.toNatClampNeg tg_size) (vp_nar .boolean (0 : Int32)))) := hD
    refine lv_aload_n hx hb dX6_add_40 rfl (lv_at hl 0 rfl) ?_
    refine lv_dup hx hb dX6_add_41 rfl ?_
    refine va_get (D := (dC, dI)) (ci := 6) (v := .int tg_size) (C := RX6) (T := TX6) (N := 4) hx hb hts fX6_add_X6 hown hK hP 0 rfl rfl 3 (by decide) (hts _ kX6_add_1) (fun _ h9 => h9) rfl dX6_add_42 ?_
    refine lv_iconst (v := (1 : Int32)) hx hb dX6_add_45 (by decide) ?_
    refine lv_iadd hx hb dX6_add_46 ?_
    refine va_put (D := (dC, dI)) (ci := 6) (v := .int (tg_size + (1 : Int32))) (ty := .int) (C := RX6) (T := TX6) (N := 4) hx hb hts fX6_add_X6 tyX6 tyX6_ok nmX6 hown hK hP hD hS 0 rfl rfl 3 (by decide) (hts _ kX6_add_1) (fun _ h9 => h9) rfl (tyX6_ok 3 (by decide)) rfl rfl (Nat.le_of_ble_eq_true rfl) dX6_add_47 (fun H locs hP hD hS => ?_)
    have hP : va_P (dC, dI) vwCl (wdX6_add cyI cyZ cyJ cyB cyO h_tg a_tg_numbers a_tg_strengths a_tg_silent (tg_size + (1 : Int32)) (upd tg_numbers (Int32.toNatClampNeg tg_size) v1) (upd tg_strengths (Int32.toNatClampNeg tg_size) v2) (upd tg_silent (Int32.toNatClampNeg tg_size) (vp_nar .boolean (0 : Int32)))) H := hP
    have hD : va_D A (wdX6_add cyI cyZ cyJ cyB cyO h_tg a_tg_numbers a_tg_strengths a_tg_silent (tg_size + (1 : Int32)) (upd tg_numbers (Int32.toNatClampNeg tg_size) v1) (upd tg_strengths (Int32.toNatClampNeg tg_size) v2) (upd tg_silent (Int32.toNatClampNeg tg_size) (vp_nar .boolean (0 : Int32)))) := hD
    have ho := px_s hp
    subst ho
    exact hQ _ _ _ _ hP hD hS dX6_add_50
  · have hp := px_f hp c_1
    have ho := px_s hp
    subst ho
    exact hQ _ _ _ _ hP hD hS dX6_add_9
/-! TagReader$Tags.silentOnes()I -/
theorem hvX6_silentOnes : yX6_silentOnes.cls = RX6 ∧ yX6_silentOnes.cls ≠ "java/lang/invoke/MethodHandle" ∧ yX6_silentOnes.cls ≠ "java/lang/invoke/VarHandle" ∧ (parseMethodDescriptor yX6_silentOnes.desc).map (fun d => d.parameters.length) = some 0 := by decide +kernel
theorem fX6_silentOnes_X6 : ∀ w ∈ u_ws RX6 TX6 4, w ∈ wsX6_silentOnes := fun _ h => List.mem_cons_of_mem _ (List.mem_append_right _ h)
theorem kX6_silentOnes_1 : (.fieldLink RX6 22 "TagReader$Tags" "size" "I" : Cond) ∈ wsX6_silentOnes := List.mem_of_getElem? (i := 1) rfl
theorem kX6_silentOnes_2 : (.fieldLink RX6 18 "TagReader$Tags" "silent" "[Z" : Cond) ∈ wsX6_silentOnes := List.mem_of_getElem? (i := 2) rfl
set_option maxHeartbeats 4000000 in
set_option maxRecDepth 100000 in
theorem lcX6_silentOnes_4B {p : Program} {l : Launch} {e : Env} {s : State} {m : MethodId} {args : Array Value} {below : List Frame} {meth : Method} {c : Code} {Q : State → Prop} (dC : Nat → ClassId) (dI : Nat → Nat → Nat) (cyI cyZ cyJ cyB cyO : ClassId) (h_tg a_tg_numbers a_tg_strengths a_tg_silent : Nat) (tg_size : Int32) (tg_numbers : Nat → Int32) (tg_strengths : Nat → Int32) (tg_silent : Nat → Int32) (out : Int32) (hx : p.tables.exec = Jvm.exec) (hb : c.code = cX6_silentOnes) (hml : c.maxLocals = 3) (hts : ∀ w ∈ wsX6_silentOnes, w.before args s = true) (hown : s.vm.findClass RX6 = some m.cls) (hK : va_K (dC, dI) vwCl (px_TY cyI cyZ cyJ cyB cyO) s) (hN : px_NW s) (hP : va_P (dC, dI) vwCl (wdX6_silentOnes cyI cyZ cyJ cyB cyO h_tg a_tg_numbers a_tg_strengths a_tg_silent tg_size tg_numbers tg_strengths tg_silent) s.heap) (hQ : ∀ (pc : Nat) (ls : Array Slot), decode cX6_silentOnes pc = .ok (.ireturn, 1) → W p l e ({ frames := 0, cells := 0, slots := 0, locals := 0 } : Room) s m args below meth c s.heap [] 0 0 Q (F0 m pc ls [.int out]))  (K_4 : Int32 → Int32 → Option (Int32)) (hK_4 : ∀ (v1 : Int32) (v2 : Int32) (ls : Array Slot), K_4 v1 v2 = some out → lv_has ls 3 [(0, .ref h_tg), (1, .int v1), (2, .int v2)] → W p l e ({ frames := 0, cells := 0, slots := 0, locals := 0 } : Room) s m args below meth c s.heap [] 0 0 Q (F0 m 4 ls [])) : ∀ (v1 : Int32) (v2 : Int32) (ls : Array Slot), pX6_silentOnes_4B tg_size tg_silent K_4 v1 v2 = some out → lv_has ls 3 [(0, .ref h_tg), (1, .int v1), (2, .int v2)] → W p l e ({ frames := 0, cells := 0, slots := 0, locals := 0 } : Room) s m args below meth c s.heap [] 0 0 Q (F0 m 4 ls []) := by
  intro v1 v2 ls hp hl
  unfold pX6_silentOnes_4B at hp
  refine lv_iload_n hx hb dX6_silentOnes_4 rfl (lv_at hl 2 rfl) ?_
  refine lv_aload_n hx hb dX6_silentOnes_5 rfl (lv_at hl 0 rfl) ?_
  refine va_get (D := (dC, dI)) (ci := 6) (v := .int tg_size) (C := RX6) (T := TX6) (N := 4) hx hb hts fX6_silentOnes_X6 hown hK hP 0 rfl rfl 3 (by decide) (hts _ kX6_silentOnes_1) (fun _ h9 => h9) rfl dX6_silentOnes_6 ?_
  refine lv_icmp_ge (tgt := 30) hx hb dX6_silentOnes_9 (by decide) (fun c_1 => ?_) (fun c_1 => ?_)
  · have hp := px_t hp c_1
    refine lv_iload_n hx hb dX6_silentOnes_30 rfl (lv_at hl 1 rfl) ?_
    have ho := px_s hp
    subst ho
    exact hQ _ _ dX6_silentOnes_31
  · have hp := px_f hp c_1
    refine lv_aload_n hx hb dX6_silentOnes_12 rfl (lv_at hl 0 rfl) ?_
    refine va_get (D := (dC, dI)) (ci := 6) (v := .ref a_tg_silent) (C := RX6) (T := TX6) (N := 4) hx hb hts fX6_silentOnes_X6 hown hK hP 0 rfl rfl 2 (by decide) (hts _ kX6_silentOnes_2) (fun _ h9 => h9) rfl dX6_silentOnes_13 ?_
    refine lv_iload_n hx hb dX6_silentOnes_16 rfl (lv_at hl 2 rfl) ?_
    obtain ⟨g_2, hp⟩ := px_i_at hp
    refine va_zald (D := (dC, dI)) hx hb hK hP 3 1 rfl rfl g_2 dX6_silentOnes_17 ?_
    refine lv_if_eq (tgt := 24) hx hb dX6_silentOnes_18 (by decide) (fun c_3 => ?_) (fun c_3 => ?_)
    · have hp := px_t hp c_3
      refine lv_iinc (v := (v2 + (1 : Int32))) (lv' := [(2, .int (v2 + (1 : Int32))), (0, .ref h_tg), (1, .int v1)]) hx hb dX6_silentOnes_24 hl (k := 2) rfl rfl (by decide) rfl (fun ls hl => ?_)
      refine lv_goto (tgt := 4) hx hb dX6_silentOnes_27 (by decide) ?_
      exact hK_4 v1 (v2 + (1 : Int32)) ls hp (lv_sub hl [1, 2, 0] rfl)
    · have hp := px_f hp c_3
      refine lv_iinc (v := (v1 + (1 : Int32))) (lv' := [(1, .int (v1 + (1 : Int32))), (0, .ref h_tg), (2, .int v2)]) hx hb dX6_silentOnes_21 hl (k := 1) rfl rfl (by decide) rfl (fun ls hl => ?_)
      refine lv_iinc (v := (v2 + (1 : Int32))) (lv' := [(2, .int (v2 + (1 : Int32))), (1, .int (v1 + (1 : Int32))), (0, .ref h_tg)]) hx hb dX6_silentOnes_24 hl (k := 2) rfl rfl (by decide) rfl (fun ls hl => ?_)
      refine lv_goto (tgt := 4) hx hb dX6_silentOnes_27 (by decide) ?_
      exact hK_4 (v1 + (1 : Int32)) (v2 + (1 : Int32)) ls hp (lv_sub hl [2, 1, 0] rfl)
theorem lcX6_silentOnes_4 {p : Program} {l : Launch} {e : Env} {s : State} {m : MethodId} {args : Array Value} {below : List Frame} {meth : Method} {c : Code} {Q : State → Prop} (dC : Nat → ClassId) (dI : Nat → Nat → Nat) (cyI cyZ cyJ cyB cyO : ClassId) (h_tg a_tg_numbers a_tg_strengths a_tg_silent : Nat) (tg_size : Int32) (tg_numbers : Nat → Int32) (tg_strengths : Nat → Int32) (tg_silent : Nat → Int32) (out : Int32) (hx : p.tables.exec = Jvm.exec) (hb : c.code = cX6_silentOnes) (hml : c.maxLocals = 3) (hts : ∀ w ∈ wsX6_silentOnes, w.before args s = true) (hown : s.vm.findClass RX6 = some m.cls) (hK : va_K (dC, dI) vwCl (px_TY cyI cyZ cyJ cyB cyO) s) (hN : px_NW s) (hP : va_P (dC, dI) vwCl (wdX6_silentOnes cyI cyZ cyJ cyB cyO h_tg a_tg_numbers a_tg_strengths a_tg_silent tg_size tg_numbers tg_strengths tg_silent) s.heap) (hQ : ∀ (pc : Nat) (ls : Array Slot), decode cX6_silentOnes pc = .ok (.ireturn, 1) → W p l e ({ frames := 0, cells := 0, slots := 0, locals := 0 } : Room) s m args below meth c s.heap [] 0 0 Q (F0 m pc ls [.int out]))  : ∀ n : Nat, ∀ (v1 : Int32) (v2 : Int32) (ls : Array Slot), pX6_silentOnes_4 tg_size tg_silent n v1 v2 = some out → lv_has ls 3 [(0, .ref h_tg), (1, .int v1), (2, .int v2)] → W p l e ({ frames := 0, cells := 0, slots := 0, locals := 0 } : Room) s m args below meth c s.heap [] 0 0 Q (F0 m 4 ls []) := by
  intro n
  induction n with
  | zero =>
    intro v1 v2 ls hp hl
    exact nomatch hp
  | succ n ih => exact lcX6_silentOnes_4B dC dI cyI cyZ cyJ cyB cyO h_tg a_tg_numbers a_tg_strengths a_tg_silent tg_size tg_numbers tg_strengths tg_silent out hx hb hml hts hown hK hN hP hQ (pX6_silentOnes_4 tg_size tg_silent n) ih
set_option maxHeartbeats 4000000 in
set_option maxRecDepth 100000 in
theorem ccX6_silentOnes (l : Launch) (dC : Nat → ClassId) (dI : Nat → Nat → Nat) (cyI cyZ cyJ cyB cyO : ClassId) (h_tg a_tg_numbers a_tg_strengths a_tg_silent : Nat) (tg_size : Int32) (tg_numbers : Nat → Int32) (tg_strengths : Nat → Int32) (tg_silent : Nat → Int32) (out : Int32) (hp : pX6_silentOnes tg_size tg_silent = some out) : Met l yX6_silentOnes wsX6_silentOnes ({ frames := 0, cells := 0, slots := 0, locals := 0 } : Room) (px_PR (dC, dI) (px_TY cyI cyZ cyJ cyB cyO) [.ref h_tg] (wdX6_silentOnes cyI cyZ cyJ cyB cyO h_tg a_tg_numbers a_tg_strengths a_tg_silent tg_size tg_numbers tg_strengths tg_silent)) (px_QR (.int out)) 0 0 (fun _ => False) := by
  refine Met.ofW (cc := cX6_silentOnes) (maxL := 3) (ret := (some .int)) (by decide) rfl ?_
  intro p e s m args below meth c s₁ B hml hv
  obtain ⟨rfl, hP, hK, hN⟩ := hv
  have hx := B.exec
  have hb := B.bytes
  have hr := B.returns
  have hts := atoms_spec (ws := wsX6_silentOnes) B.pre
  have hown : s.vm.findClass RX6 = some m.cls := findClass_of_methodNamed B.named
  have hlocks := B.notSynchronized
  have hQ : ∀ (pc : Nat) (ls : Array Slot), decode cX6_silentOnes pc = .ok (.ireturn, 1) → W p l e ({ frames := 0, cells := 0, slots := 0, locals := 0 } : Room) s m (([.ref h_tg] : List Value).toArray) below meth c s.heap [] 0 0 (MQ below (px_QR (.int out)) (([.ref h_tg] : List Value).toArray) s 0 0 (fun _ => False)) (F0 m pc ls [.int out]) := fun pc ls hd => W.iret hx hb hr (fun t ht hW => ⟨rfl, ht⟩) (fun q h => by cases h) hd
  generalize MQ below (px_QR (.int out)) (([.ref h_tg] : List Value).toArray) s 0 0 (fun _ => False) = Q at hQ ⊢
  have hl := lv_entry [.ref h_tg] (n := 3) (Nat.le_of_ble_eq_true rfl)
  rw [lg_entry_eq]
  generalize (lg_sl [.ref h_tg] ++ List.replicate (3 - (lg_sl [.ref h_tg]).length) Slot.unset).toArray = ls at hl ⊢
  have hl : lv_has ls 3 [(0, .ref h_tg)] := hl
  unfold pX6_silentOnes at hp
  refine lv_iconst (v := (0 : Int32)) hx hb dX6_silentOnes_0 (by decide) ?_
  refine lv_istore_n (lv' := [(1, .int (0 : Int32)), (0, .ref h_tg)]) hx hb dX6_silentOnes_1 rfl hl (by decide) rfl (fun ls hl => ?_)
  refine lv_iconst (v := (0 : Int32)) hx hb dX6_silentOnes_2 (by decide) ?_
  refine lv_istore_n (lv' := [(2, .int (0 : Int32)), (1, .int (0 : Int32)), (0, .ref h_tg)]) hx hb dX6_silentOnes_3 rfl hl (by decide) rfl (fun ls hl => ?_)
  exact lcX6_silentOnes_4 dC dI cyI cyZ cyJ cyB cyO h_tg a_tg_numbers a_tg_strengths a_tg_silent tg_size tg_numbers tg_strengths tg_silent out hx hb hml hts hown hK hN hP hQ px_FU (0 : Int32) (0 : Int32) ls hp (lv_sub hl [2, 1, 0] rfl)
/-! TagReader$Tags.silenceAll(Z)V -/
theorem hvX6_silenceAll : yX6_silenceAll.cls = RX6 ∧ yX6_silenceAll.cls ≠ "java/lang/invoke/MethodHandle" ∧ yX6_silenceAll.cls ≠ "java/lang/invoke/VarHandle" ∧ (parseMethodDescriptor yX6_silenceAll.desc).map (fun d => d.parameters.length) = some 1 := by decide +kernel
theorem fX6_silenceAll_X6 : ∀ w ∈ u_ws RX6 TX6 4, w ∈ wsX6_silenceAll := fun _ h => List.mem_cons_of_mem _ (List.mem_append_right _ h)
theorem kX6_silenceAll_1 : (.fieldLink RX6 22 "TagReader$Tags" "size" "I" : Cond) ∈ wsX6_silenceAll := List.mem_of_getElem? (i := 1) rfl
theorem kX6_silenceAll_2 : (.fieldLink RX6 18 "TagReader$Tags" "silent" "[Z" : Cond) ∈ wsX6_silenceAll := List.mem_of_getElem? (i := 2) rfl
set_option maxHeartbeats 4000000 in
set_option maxRecDepth 100000 in
theorem lcX6_silenceAll_2B {p : Program} {l : Launch} {e : Env} {s : State} {m : MethodId} {args : Array Value} {below : List Frame} {meth : Method} {c : Code} {Q : State → Prop} {A : Nat → Prop} (dC : Nat → ClassId) (dI : Nat → Nat → Nat) (cyI cyZ cyJ cyB cyO : ClassId) (h_tg a_tg_numbers a_tg_strengths a_tg_silent : Nat) (tg_size : Int32) (tg_numbers : Nat → Int32) (tg_strengths : Nat → Int32) (tg_silent : Nat → Int32) (v1 : Int32) (out : (Nat → Int32)) (hx : p.tables.exec = Jvm.exec) (hb : c.code = cX6_silenceAll) (hml : c.maxLocals = 3) (hts : ∀ w ∈ wsX6_silenceAll, w.before args s = true) (hown : s.vm.findClass RX6 = some m.cls) (hK : va_K (dC, dI) vwCl (px_TY cyI cyZ cyJ cyB cyO) s) (hN : px_NW s) (hA : ∀ q : Nat, s.heap.size ≤ q → A q) (hQ : ∀ (H : Heap) (locs : List Loc) (pc : Nat) (ls : Array Slot), va_P (dC, dI) vwCl (wdX6_silenceAll cyI cyZ cyJ cyB cyO h_tg a_tg_numbers a_tg_strengths a_tg_silent tg_size tg_numbers tg_strengths out) H → va_D A (wdX6_silenceAll cyI cyZ cyJ cyB cyO h_tg a_tg_numbers a_tg_strengths a_tg_silent tg_size tg_numbers tg_strengths out) → va_S A s.heap H locs → decode cX6_silenceAll pc = .ok (.return_, 1) → W p l e ({ frames := 0, cells := 0, slots := 0, locals := 0 } : Room) s m args below meth c H locs 0 0 Q (F0 m pc ls []))  (K_2 : Int32 → (Nat → Int32) → Option ((Nat → Int32))) (hK_2 : ∀ (v2 : Int32) (tg_silent : Nat → Int32) (H : Heap) (locs : List Loc) (ls : Array Slot), K_2 v2 tg_silent = some out → va_P (dC, dI) vwCl (wdX6_silenceAll cyI cyZ cyJ cyB cyO h_tg a_tg_numbers a_tg_strengths a_tg_silent tg_size tg_numbers tg_strengths tg_silent) H → va_D A (wdX6_silenceAll cyI cyZ cyJ cyB cyO h_tg a_tg_numbers a_tg_strengths a_tg_silent tg_size tg_numbers tg_strengths tg_silent) → va_S A s.heap H locs → lv_has ls 3 [(0, .ref h_tg), (1, .int v1), (2, .int v2)] → W p l e ({ frames := 0, cells := 0, slots := 0, locals := 0 } : Room) s m args below meth c H locs 0 0 Q (F0 m 2 ls [])) : ∀ (v2 : Int32) (tg_silent : Nat → Int32) (H : Heap) (locs : List Loc) (ls : Array Slot), pX6_silenceAll_2B v1 tg_size K_2 v2 tg_silent = some out → va_P (dC, dI) vwCl (wdX6_silenceAll cyI cyZ cyJ cyB cyO h_tg a_tg_numbers a_tg_strengths a_tg_silent tg_size tg_numbers tg_strengths tg_silent) H → va_D A (wdX6_silenceAll cyI cyZ cyJ cyB cyO h_tg a_tg_numbers a_tg_strengths a_tg_silent tg_size tg_numbers tg_strengths tg_silent) → va_S A s.heap H locs → lv_has ls 3 [(0, .ref h_tg), (1, .int v1), (2, .int v2)] → W p l e ({ frames := 0, cells := 0, slots := 0, locals := 0 } : Room) s m args below meth c H locs 0 0 Q (F0 m 2 ls []) := by
  intro v2 tg_silent H locs ls hp hP hD hS hl
  unfold pX6_silenceAll_2B at hp
  refine lv_iload_n hx hb dX6_silenceAll_2 rfl (lv_at hl 2 rfl) ?_
  refine lv_aload_n hx hb dX6_silenceAll_3 rfl (lv_at hl 0 rfl) ?_
  refine va_get (D := (dC, dI)) (ci := 6) (v := .int tg_size) (C := RX6) (T := TX6) (N := 4) hx hb hts fX6_silenceAll_X6 hown hK hP 0 rfl rfl 3 (by decide) (hts _ kX6_silenceAll_1) (fun _ h9 => h9) rfl dX6_silenceAll_4 ?_
  refine lv_icmp_ge (tgt := 23) hx hb dX6_silenceAll_7 (by decide) (fun c_1 => ?_) (fun c_1 => ?_)
  · have hp := px_t hp c_1
    have ho := px_s hp
    subst ho
    exact hQ _ _ _ _ hP hD hS dX6_silenceAll_23
  · have hp := px_f hp c_1
    refine lv_aload_n hx hb dX6_silenceAll_10 rfl (lv_at hl 0 rfl) ?_
    refine va_get (D := (dC, dI)) (ci := 6) (v := .ref a_tg_silent) (C := RX6) (T := TX6) (N := 4) hx hb hts fX6_silenceAll_X6 hown hK hP 0 rfl rfl 2 (by decide) (hts _ kX6_silenceAll_2) (fun _ h9 => h9) rfl dX6_silenceAll_11 ?_
    refine lv_iload_n hx hb dX6_silenceAll_14 rfl (lv_at hl 2 rfl) ?_
    refine lv_iload_n hx hb dX6_silenceAll_15 rfl (lv_at hl 1 rfl) ?_
    obtain ⟨g_2, hp⟩ := px_i_at hp
    refine va_zast (D := (dC, dI)) hx hb hK hP hD hS 3 1 rfl rfl g_2 dX6_silenceAll_16 (fun H locs hP hD hS => ?_)
    have hP : va_P (dC, dI) vwCl (wdX6_silenceAll cyI cyZ cyJ cyB cyO h_tg a_tg_numbers a_tg_strengths a_tg_silent tg_size tg_numbers tg_strengths (upd tg_silent (Int32.toNatClampNeg v2) (vp_nar .boolean v1))) H := hP
    have hD : va_D A (wdX6_silenceAll cyI cyZ cyJ cyB cyO h_tg a_tg_numbers a_tg_strengths a_tg_silent tg_size tg_numbers tg_strengths (upd tg_silent (Int32.toNatClampNeg v2) (vp_nar .boolean v1))) := hD
    refine lv_iinc (v := (v2 + (1 : Int32))) (lv' := [(2, .int (v2 + (1 : Int32))), (0, .ref h_tg), (1, .int v1)]) hx hb dX6_silenceAll_17 hl (k := 2) rfl rfl (by decide) rfl (fun ls hl => ?_)
    refine lv_goto (tgt := 2) hx hb dX6_silenceAll_20 (by decide) ?_
    exact hK_2 (v2 + (1 : Int32)) (upd tg_silent (Int32.toNatClampNeg v2) (vp_nar .boolean v1)) _ _ ls hp hP hD hS (lv_sub hl [1, 2, 0] rfl)
theorem lcX6_silenceAll_2 {p : Program} {l : Launch} {e : Env} {s : State} {m : MethodId} {args : Array Value} {below : List Frame} {meth : Method} {c : Code} {Q : State → Prop} {A : Nat → Prop} (dC : Nat → ClassId) (dI : Nat → Nat → Nat) (cyI cyZ cyJ cyB cyO : ClassId) (h_tg a_tg_numbers a_tg_strengths a_tg_silent : Nat) (tg_size : Int32) (tg_numbers : Nat → Int32) (tg_strengths : Nat → Int32) (tg_silent : Nat → Int32) (v1 : Int32) (out : (Nat → Int32)) (hx : p.tables.exec = Jvm.exec) (hb : c.code = cX6_silenceAll) (hml : c.maxLocals = 3) (hts : ∀ w ∈ wsX6_silenceAll, w.before args s = true) (hown : s.vm.findClass RX6 = some m.cls) (hK : va_K (dC, dI) vwCl (px_TY cyI cyZ cyJ cyB cyO) s) (hN : px_NW s) (hA : ∀ q : Nat, s.heap.size ≤ q → A q) (hQ : ∀ (H : Heap) (locs : List Loc) (pc : Nat) (ls : Array Slot), va_P (dC, dI) vwCl (wdX6_silenceAll cyI cyZ cyJ cyB cyO h_tg a_tg_numbers a_tg_strengths a_tg_silent tg_size tg_numbers tg_strengths out) H → va_D A (wdX6_silenceAll cyI cyZ cyJ cyB cyO h_tg a_tg_numbers a_tg_strengths a_tg_silent tg_size tg_numbers tg_strengths out) → va_S A s.heap H locs → decode cX6_silenceAll pc = .ok (.return_, 1) → W p l e ({ frames := 0, cells := 0, slots := 0, locals := 0 } : Room) s m args below meth c H locs 0 0 Q (F0 m pc ls []))  : ∀ n : Nat, ∀ (v2 : Int32) (tg_silent : Nat → Int32) (H : Heap) (locs : List Loc) (ls : Array Slot), pX6_silenceAll_2 v1 tg_size n v2 tg_silent = some out → va_P (dC, dI) vwCl (wdX6_silenceAll cyI cyZ cyJ cyB cyO h_tg a_tg_numbers a_tg_strengths a_tg_silent tg_size tg_numbers tg_strengths tg_silent) H → va_D A (wdX6_silenceAll cyI cyZ cyJ cyB cyO h_tg a_tg_numbers a_tg_strengths a_tg_silent tg_size tg_numbers tg_strengths tg_silent) → va_S A s.heap H locs → lv_has ls 3 [(0, .ref h_tg), (1, .int v1), (2, .int v2)] → W p l e ({ frames := 0, cells := 0, slots := 0, locals := 0 } : Room) s m args below meth c H locs 0 0 Q (F0 m 2 ls []) := by
  intro n
  induction n with
  | zero =>
    intro v2 tg_silent H locs ls hp hP hD hS hl
    exact nomatch hp
  | succ n ih => exact lcX6_silenceAll_2B dC dI cyI cyZ cyJ cyB cyO h_tg a_tg_numbers a_tg_strengths a_tg_silent tg_size tg_numbers tg_strengths tg_silent v1 out hx hb hml hts hown hK hN hA hQ (pX6_silenceAll_2 v1 tg_size n) ih
set_option maxHeartbeats 4000000 in
set_option maxRecDepth 100000 in
theorem ccX6_silenceAll (l : Launch) (dC : Nat → ClassId) (dI : Nat → Nat → Nat) (cyI cyZ cyJ cyB cyO : ClassId) (sz : Nat) (h_tg a_tg_numbers a_tg_strengths a_tg_silent : Nat) (tg_size : Int32) (tg_numbers : Nat → Int32) (tg_strengths : Nat → Int32) (tg_silent : Nat → Int32) (v1 : Int32) (out : (Nat → Int32)) (hp : pX6_silenceAll v1 tg_size tg_silent = some out) : Met l yX6_silenceAll wsX6_silenceAll ({ frames := 0, cells := 0, slots := 0, locals := 0 } : Room) (px_PW (dC, dI) (px_TY cyI cyZ cyJ cyB cyO) [.ref h_tg, .int v1] (wdX6_silenceAll cyI cyZ cyJ cyB cyO h_tg a_tg_numbers a_tg_strengths a_tg_silent tg_size tg_numbers tg_strengths tg_silent) sz) (px_QW none (dC, dI) (wdX6_silenceAll cyI cyZ cyJ cyB cyO h_tg a_tg_numbers a_tg_strengths a_tg_silent tg_size tg_numbers tg_strengths tg_silent) (wdX6_silenceAll cyI cyZ cyJ cyB cyO h_tg a_tg_numbers a_tg_strengths a_tg_silent tg_size tg_numbers tg_strengths out) sz) 0 0 (va_A (wdX6_silenceAll cyI cyZ cyJ cyB cyO h_tg a_tg_numbers a_tg_strengths a_tg_silent tg_size tg_numbers tg_strengths tg_silent) sz) := by
  refine Met.ofW (cc := cX6_silenceAll) (maxL := 3) (ret := none) (by decide) rfl ?_
  intro p e s m args below meth c s₁ B hml hv
  obtain ⟨rfl, hsz, hP, hK, hD0, hN⟩ := hv
  have hx := B.exec
  have hb := B.bytes
  have hr := B.returns
  have hts := atoms_spec (ws := wsX6_silenceAll) B.pre
  have hown : s.vm.findClass RX6 = some m.cls := findClass_of_methodNamed B.named
  have hlocks := B.notSynchronized
  subst hsz
  have hD := hD0.self (sz := s.heap.size)
  generalize hAe : va_A (wdX6_silenceAll cyI cyZ cyJ cyB cyO h_tg a_tg_numbers a_tg_strengths a_tg_silent tg_size tg_numbers tg_strengths tg_silent) s.heap.size = A at hD ⊢
  have hA : ∀ q : Nat, s.heap.size ≤ q → A q := fun q h => by rw [← hAe]; exact Or.inr h
  have hS : va_S A s.heap s.heap [] := va_S.rf
  have hq := px_QWe (v := none) (D := (dC, dI)) (w1 := (wdX6_silenceAll cyI cyZ cyJ cyB cyO h_tg a_tg_numbers a_tg_strengths a_tg_silent tg_size tg_numbers tg_strengths out)) (st := s) hAe
  generalize px_QW none (dC, dI) (wdX6_silenceAll cyI cyZ cyJ cyB cyO h_tg a_tg_numbers a_tg_strengths a_tg_silent tg_size tg_numbers tg_strengths tg_silent) (wdX6_silenceAll cyI cyZ cyJ cyB cyO h_tg a_tg_numbers a_tg_strengths a_tg_silent tg_size tg_numbers tg_strengths out) s.heap.size = Qc at hq ⊢
  have hQ : ∀ (H : Heap) (locs : List Loc) (pc : Nat) (ls : Array Slot), va_P (dC, dI) vwCl (wdX6_silenceAll cyI cyZ cyJ cyB cyO h_tg a_tg_numbers a_tg_strengths a_tg_silent tg_size tg_numbers tg_strengths out) H → va_D A (wdX6_silenceAll cyI cyZ cyJ cyB cyO h_tg a_tg_numbers a_tg_strengths a_tg_silent tg_size tg_numbers tg_strengths out) → va_S A s.heap H locs → decode cX6_silenceAll pc = .ok (.return_, 1) → W p l e ({ frames := 0, cells := 0, slots := 0, locals := 0 } : Room) s m (([.ref h_tg, .int v1] : List Value).toArray) below meth c H locs 0 0 (MQ below Qc (([.ref h_tg, .int v1] : List Value).toArray) s 0 0 A) (F0 m pc ls []) := fun H locs pc ls hP hD hS hd => W.vret hx hb hr (fun t ht hW => hq _ t (by rw [ht]; exact hP) hD (hS.F ht)) hS.2.2 hd
  generalize MQ below Qc (([.ref h_tg, .int v1] : List Value).toArray) s 0 0 A = Q at hQ ⊢
  have hl := lv_entry [.ref h_tg, .int v1] (n := 3) (Nat.le_of_ble_eq_true rfl)
  rw [lg_entry_eq]
  generalize (lg_sl [.ref h_tg, .int v1] ++ List.replicate (3 - (lg_sl [.ref h_tg, .int v1]).length) Slot.unset).toArray = ls at hl ⊢
  have hl : lv_has ls 3 [(0, .ref h_tg), (1, .int v1)] := hl
  unfold pX6_silenceAll at hp
  refine lv_iconst (v := (0 : Int32)) hx hb dX6_silenceAll_0 (by decide) ?_
  refine lv_istore_n (lv' := [(2, .int (0 : Int32)), (0, .ref h_tg), (1, .int v1)]) hx hb dX6_silenceAll_1 rfl hl (by decide) rfl (fun ls hl => ?_)
  exact lcX6_silenceAll_2 dC dI cyI cyZ cyJ cyB cyO h_tg a_tg_numbers a_tg_strengths a_tg_silent tg_size tg_numbers tg_strengths tg_silent v1 out hx hb hml hts hown hK hN hA hQ px_FU (0 : Int32) tg_silent _ _ ls hp hP hD hS (lv_sub hl [1, 2, 0] rfl)
