/-! TagReader$Odds.choose(II)J -/
def pX3_choose_5B (v0 : Int32) (v1 : Int32) (K_5 : Int64 → Int32 → Option (Int64)) (v2 : Int64) (v4 : Int32) : Option (Int64) := (if v1 < v4 then some v2 else px_zl (Int32.toInt64 v4) (K_5 ((v2 * (Int32.toInt64 ((v0 - v1) + v4))) / (Int32.toInt64 v4)) (v4 + (1 : Int32))))
def pX3_choose_5 (v0 : Int32) (v1 : Int32) : Nat → Int64 → Int32 → Option (Int64)
  | 0, _, _ => none
  | n + 1, v2, v4 => pX3_choose_5B v0 v1 (pX3_choose_5 v0 v1 n) v2 v4
def pX3_choose (v0 : Int32) (v1 : Int32) : Option (Int64) := pX3_choose_5 v0 v1 px_FU (1 : Int64) (1 : Int32)
/-! TagReader$Odds.arranged(II)J -/
def pX3_arranged_5B (v0 : Int32) (v1 : Int32) (K_5 : Int64 → Int32 → Option (Int64)) (v2 : Int64) (v4 : Int32) : Option (Int64) := (if v1 ≤ v4 then some v2 else K_5 (v2 * (Int32.toInt64 (v0 - v4))) (v4 + (1 : Int32)))
def pX3_arranged_5 (v0 : Int32) (v1 : Int32) : Nat → Int64 → Int32 → Option (Int64)
  | 0, _, _ => none
  | n + 1, v2, v4 => pX3_arranged_5B v0 v1 (pX3_arranged_5 v0 v1 n) v2 v4
def pX3_arranged (v0 : Int32) (v1 : Int32) : Option (Int64) := pX3_arranged_5 v0 v1 px_FU (1 : Int64) (0 : Int32)
/-! TagReader$Odds.waysAt(I)J -/
def pX3_waysAt (v1 : Int32) (od_row : Nat → Int64) : Option (Int64) := (if v1 < (0 : Int32) then some (0 : Int64) else (if (17 : Int32) ≤ v1 then some (0 : Int64) else px_i v1 17 (some (od_row (Int32.toNatClampNeg v1)))))
abbrev wdX3_waysAt (cyI cyZ cyJ cyB cyO : ClassId) (h_od a_od_row : Nat) (od_row : Nat → Int64) : va_W := [(h_od, .inr (3, [.ref a_od_row])), (a_od_row, .inl (cyJ, 17, .inr (.inl od_row)))]
/-! TagReader$Odds.withOneSlotMore(IZ)J -/
def pX3_withOneSlotMore_18B (v1 : Int32) (v2 : Int32) (od_row : Nat → Int64) (K_18 : Int64 → Int32 → Option (Int64)) (v3 : Int64) (v5 : Int32) : Option (Int64) := (if v1 < v5 then some v3 else px_b (pX3_choose v1 v5) (fun o_3 => px_i (v1 - v5) 17 (K_18 (v3 + (o_3 * (od_row (Int32.toNatClampNeg (v1 - v5))))) (v5 + (1 : Int32)))))
def pX3_withOneSlotMore_18 (v1 : Int32) (v2 : Int32) (od_row : Nat → Int64) : Nat → Int64 → Int32 → Option (Int64)
  | 0, _, _ => none
  | n + 1, v3, v5 => pX3_withOneSlotMore_18B v1 v2 od_row (pX3_withOneSlotMore_18 v1 v2 od_row n) v3 v5
def pX3_withOneSlotMore (v1 : Int32) (v2 : Int32) (od_row : Nat → Int64) : Option (Int64) := (if v2 = (0 : Int32) then pX3_withOneSlotMore_18 v1 v2 od_row px_FU (0 : Int64) (2 : Int32) else px_i v1 17 (pX3_withOneSlotMore_18 v1 v2 od_row px_FU (od_row (Int32.toNatClampNeg v1)) (2 : Int32)))
abbrev wdX3_withOneSlotMore (cyI cyZ cyJ cyB cyO : ClassId) (h_od a_od_row : Nat) (od_row : Nat → Int64) : va_W := [(h_od, .inr (3, [.ref a_od_row])), (a_od_row, .inl (cyJ, 17, .inr (.inl od_row)))]
/-! TagReader$Odds.fillRow(IIZ)V -/
def pX3_fillRow_64B (v1 : Int32) (v2 : Int32) (v3 : Int32) (K_45 : Int32 → (Nat → Int64) → Option ((Nat → Int64))) (K_64 : Int32 → Int32 → (Nat → Int64) → Option ((Nat → Int64))) (v4 : Int32) (v5 : Int32) (od_row : Nat → Int64) : Option ((Nat → Int64)) := (if v5 < (0 : Int32) then K_45 (v4 + (1 : Int32)) od_row else px_b (pX3_withOneSlotMore v5 v3 od_row) (fun o_5 => px_i v5 17 (K_64 v4 (v5 + (-1 : Int32)) (vp_updL od_row (Int32.toNatClampNeg v5) o_5))))
def pX3_fillRow_64 (v1 : Int32) (v2 : Int32) (v3 : Int32) (K_45 : Int32 → (Nat → Int64) → Option ((Nat → Int64))) : Nat → Int32 → Int32 → (Nat → Int64) → Option ((Nat → Int64))
  | 0, _, _, _ => none
  | n + 1, v4, v5, od_row => pX3_fillRow_64B v1 v2 v3 K_45 (pX3_fillRow_64 v1 v2 v3 K_45 n) v4 v5 od_row
def pX3_fillRow_45B (v1 : Int32) (v2 : Int32) (v3 : Int32) (K_45 : Int32 → (Nat → Int64) → Option ((Nat → Int64))) (v4 : Int32) (od_row : Nat → Int64) : Option ((Nat → Int64)) := (if v1 ≤ v4 then some od_row else px_lt (if ((17 : Int32) - (1 : Int32)) < v2 then ((17 : Int32) - (1 : Int32)) else v2) (fun x_3 => pX3_fillRow_64 v1 v2 v3 K_45 px_FU v4 x_3 od_row))
def pX3_fillRow_45 (v1 : Int32) (v2 : Int32) (v3 : Int32) : Nat → Int32 → (Nat → Int64) → Option ((Nat → Int64))
  | 0, _, _ => none
  | n + 1, v4, od_row => pX3_fillRow_45B v1 v2 v3 (pX3_fillRow_45 v1 v2 v3 n) v4 od_row
def pX3_fillRow_3B (v1 : Int32) (v2 : Int32) (v3 : Int32) (K_3 : Int32 → (Nat → Int64) → Option ((Nat → Int64))) (v4 : Int32) (od_row : Nat → Int64) : Option ((Nat → Int64)) := (if v2 < v4 then pX3_fillRow_45 v1 v2 v3 px_FU (0 : Int32) od_row else (if (17 : Int32) ≤ v4 then pX3_fillRow_45 v1 v2 v3 px_FU (0 : Int32) od_row else (if v4 = (0 : Int32) then px_i v4 17 (K_3 (v4 + (1 : Int32)) (vp_updL od_row (Int32.toNatClampNeg v4) (1 : Int64))) else px_i v4 17 (K_3 (v4 + (1 : Int32)) (vp_updL od_row (Int32.toNatClampNeg v4) (0 : Int64))))))
def pX3_fillRow_3 (v1 : Int32) (v2 : Int32) (v3 : Int32) : Nat → Int32 → (Nat → Int64) → Option ((Nat → Int64))
  | 0, _, _ => none
  | n + 1, v4, od_row => pX3_fillRow_3B v1 v2 v3 (pX3_fillRow_3 v1 v2 v3 n) v4 od_row
def pX3_fillRow (v1 : Int32) (v2 : Int32) (v3 : Int32) (od_row : Nat → Int64) : Option ((Nat → Int64)) := pX3_fillRow_3 v1 v2 v3 px_FU (0 : Int32) od_row
abbrev wdX3_fillRow (cyI cyZ cyJ cyB cyO : ClassId) (h_od a_od_row : Nat) (od_row : Nat → Int64) : va_W := [(h_od, .inr (3, [.ref a_od_row])), (a_od_row, .inl (cyJ, 17, .inr (.inl od_row)))]
/-! TagReader$Odds.waysWithAlone(III)J -/
def pX3_waysWithAlone (v1 : Int32) (v2 : Int32) (v3 : Int32) (od_row : Nat → Int64) : Option (Int64 × (Nat → Int64)) := (if v1 < v3 then some ((0 : Int64), od_row) else (if v3 ≤ v2 then px_b (pX3_fillRow (v1 - v3) (v2 - v3) (1 : Int32) od_row) (fun o_3 => px_b (pX3_choose v1 v3) (fun o_4 => px_b (pX3_arranged v2 v3) (fun o_5 => px_b (pX3_waysAt (v2 - v3) o_3) (fun o_6 => some (((o_4 * o_5) * o_6), o_3))))) else some ((0 : Int64), od_row)))
abbrev wdX3_waysWithAlone (cyI cyZ cyJ cyB cyO : ClassId) (h_od a_od_row : Nat) (od_row : Nat → Int64) : va_W := [(h_od, .inr (3, [.ref a_od_row])), (a_od_row, .inl (cyJ, 17, .inr (.inl od_row)))]
/-! TagReader$Odds.waysToShow(IIII)J -/
def pX3_waysToShow (v1 : Int32) (v2 : Int32) (v3 : Int32) (v4 : Int32) (od_row : Nat → Int64) : Option (Int64) := (if v3 ≤ v1 then px_b (pX3_choose ((v2 + v3) + v4) v2) (fun o_2 => px_b (pX3_choose (v3 + v4) v3) (fun o_3 => px_b (pX3_arranged v1 v3) (fun o_4 => px_b (pX3_waysAt (v1 - v3) od_row) (fun o_5 => some (((o_2 * o_3) * o_4) * o_5))))) else some (0 : Int64))
abbrev wdX3_waysToShow (cyI cyZ cyJ cyB cyO : ClassId) (h_od a_od_row : Nat) (od_row : Nat → Int64) : va_W := [(h_od, .inr (3, [.ref a_od_row])), (a_od_row, .inl (cyJ, 17, .inr (.inl od_row)))]
/-! TagReader$Odds.likeliest(III)I -/
def pX3_likeliest_18B (v1 : Int32) (v2 : Int32) (v3 : Int32) (K_18 : Int32 → Int64 → Int32 → (Nat → Int64) → Option (Int32 × (Nat → Int64))) (v4 : Int32) (v5 : Int64) (v7 : Int32) (od_row : Nat → Int64) : Option (Int32 × (Nat → Int64)) := (if (16 : Int32) < v7 then some (v4, od_row) else px_b (pX3_waysToShow v7 v1 v2 v3 od_row) (fun o_3 => (if (lg_cmp o_3 (v5 * (Int32.toInt64 ((v1 + v2) + v3)))) ≤ (0 : Int32) then K_18 v4 (v5 * (Int32.toInt64 ((v1 + v2) + v3))) (v7 + (1 : Int32)) od_row else K_18 v7 o_3 (v7 + (1 : Int32)) od_row)))
def pX3_likeliest_18 (v1 : Int32) (v2 : Int32) (v3 : Int32) : Nat → Int32 → Int64 → Int32 → (Nat → Int64) → Option (Int32 × (Nat → Int64))
  | 0, _, _, _, _ => none
  | n + 1, v4, v5, v7, od_row => pX3_likeliest_18B v1 v2 v3 (pX3_likeliest_18 v1 v2 v3 n) v4 v5 v7 od_row
def pX3_likeliest (v1 : Int32) (v2 : Int32) (v3 : Int32) (od_row : Nat → Int64) : Option (Int32 × (Nat → Int64)) := px_b (pX3_fillRow v3 (16 : Int32) (0 : Int32) od_row) (fun o_1 => pX3_likeliest_18 v1 v2 v3 px_FU (-4 : Int32) (0 : Int64) (0 : Int32) o_1)
abbrev wdX3_likeliest (cyI cyZ cyJ cyB cyO : ClassId) (h_od a_od_row : Nat) (od_row : Nat → Int64) : va_W := [(h_od, .inr (3, [.ref a_od_row])), (a_od_row, .inl (cyJ, 17, .inr (.inl od_row)))]
/-! TagReader$Odds.choose(II)J -/
theorem hsX3_choose : yX3_choose.cls ≠ "java/lang/invoke/MethodHandle" ∧ yX3_choose.cls ≠ "java/lang/invoke/VarHandle" ∧ (parseMethodDescriptor yX3_choose.desc).map (fun d => d.parameters.length) = some 2 := by decide +kernel
set_option maxHeartbeats 4000000 in
set_option maxRecDepth 100000 in
theorem lcX3_choose_5B {p : Program} {l : Launch} {e : Env} {s : State} {m : MethodId} {args : Array Value} {below : List Frame} {meth : Method} {c : Code} {Q : State → Prop} (dC : Nat → ClassId) (dI : Nat → Nat → Nat) (cyI cyZ cyJ cyB cyO : ClassId) (v0 : Int32) (v1 : Int32) (out : Int64) (hx : p.tables.exec = Jvm.exec) (hb : c.code = cX3_choose) (hml : c.maxLocals = 5) (hts : ∀ w ∈ wsX3_choose, w.before args s = true) (hown : s.vm.findClass RX3 = some m.cls) (hK : va_K (dC, dI) vwCl (px_TY cyI cyZ cyJ cyB cyO) s) (hN : px_NW s) (hP : va_P (dC, dI) vwCl [] s.heap) (hQ : ∀ (pc : Nat) (ls : Array Slot), decode cX3_choose pc = .ok (.lreturn, 1) → W p l e ({ frames := 0, cells := 0, slots := 0, locals := 0 } : Room) s m args below meth c s.heap [] 0 0 Q (F0 m pc ls [.long out]))  (K_5 : Int64 → Int32 → Option (Int64)) (hK_5 : ∀ (v2 : Int64) (v4 : Int32) (ls : Array Slot), K_5 v2 v4 = some out → lv_has ls 5 [(0, .int v0), (1, .int v1), (2, .long v2), (4, .int v4)] → W p l e ({ frames := 0, cells := 0, slots := 0, locals := 0 } : Room) s m args below meth c s.heap [] 0 0 Q (F0 m 5 ls [])) : ∀ (v2 : Int64) (v4 : Int32) (ls : Array Slot), pX3_choose_5B v0 v1 K_5 v2 v4 = some out → lv_has ls 5 [(0, .int v0), (1, .int v1), (2, .long v2), (4, .int v4)] → W p l e ({ frames := 0, cells := 0, slots := 0, locals := 0 } : Room) s m args below meth c s.heap [] 0 0 Q (F0 m 5 ls []) := by
  intro v2 v4 ls hp hl
  unfold pX3_choose_5B at hp
  refine lv_iload hx hb dX3_choose_5 (lv_at hl 3 rfl) ?_
  refine lv_iload_n hx hb dX3_choose_7 rfl (lv_at hl 1 rfl) ?_
  refine lv_icmp_gt (tgt := 31) hx hb dX3_choose_8 (by decide) (fun c_1 => ?_) (fun c_1 => ?_)
  · have hp := px_t hp c_1
    refine lv_lload_n hx hb dX3_choose_31 rfl (lv_at hl 2 rfl) ?_
    have ho := px_s hp
    subst ho
    exact hQ _ _ dX3_choose_32
  · have hp := px_f hp c_1
    refine lv_lload_n hx hb dX3_choose_11 rfl (lv_at hl 2 rfl) ?_
    refine lv_iload_n hx hb dX3_choose_12 rfl (lv_at hl 0 rfl) ?_
    refine lv_iload_n hx hb dX3_choose_13 rfl (lv_at hl 1 rfl) ?_
    refine lv_isub hx hb dX3_choose_14 ?_
    refine lv_iload hx hb dX3_choose_15 (lv_at hl 3 rfl) ?_
    refine lv_iadd hx hb dX3_choose_17 ?_
    refine lv_i2l hx hb dX3_choose_18 rfl ?_
    refine lv_lmul hx hb dX3_choose_19 ?_
    refine lv_iload hx hb dX3_choose_20 (lv_at hl 3 rfl) ?_
    refine lv_i2l hx hb dX3_choose_22 rfl ?_
    obtain ⟨g_2, hp⟩ := px_zl_at hp
    refine lv_ldiv hx hb dX3_choose_23 g_2 ?_
    refine lv_lstore_n (lv' := [(2, .long ((v2 * (Int32.toInt64 ((v0 - v1) + v4))) / (Int32.toInt64 v4))), (0, .int v0), (1, .int v1), (4, .int v4)]) hx hb dX3_choose_24 rfl hl (by decide) rfl (fun ls hl => ?_)
    refine lv_iinc (v := (v4 + (1 : Int32))) (lv' := [(4, .int (v4 + (1 : Int32))), (2, .long ((v2 * (Int32.toInt64 ((v0 - v1) + v4))) / (Int32.toInt64 v4))), (0, .int v0), (1, .int v1)]) hx hb dX3_choose_25 hl (k := 3) rfl rfl (by decide) rfl (fun ls hl => ?_)
    refine lv_goto (tgt := 5) hx hb dX3_choose_28 (by decide) ?_
    exact hK_5 ((v2 * (Int32.toInt64 ((v0 - v1) + v4))) / (Int32.toInt64 v4)) (v4 + (1 : Int32)) ls hp (lv_sub hl [2, 3, 1, 0] rfl)
theorem lcX3_choose_5 {p : Program} {l : Launch} {e : Env} {s : State} {m : MethodId} {args : Array Value} {below : List Frame} {meth : Method} {c : Code} {Q : State → Prop} (dC : Nat → ClassId) (dI : Nat → Nat → Nat) (cyI cyZ cyJ cyB cyO : ClassId) (v0 : Int32) (v1 : Int32) (out : Int64) (hx : p.tables.exec = Jvm.exec) (hb : c.code = cX3_choose) (hml : c.maxLocals = 5) (hts : ∀ w ∈ wsX3_choose, w.before args s = true) (hown : s.vm.findClass RX3 = some m.cls) (hK : va_K (dC, dI) vwCl (px_TY cyI cyZ cyJ cyB cyO) s) (hN : px_NW s) (hP : va_P (dC, dI) vwCl [] s.heap) (hQ : ∀ (pc : Nat) (ls : Array Slot), decode cX3_choose pc = .ok (.lreturn, 1) → W p l e ({ frames := 0, cells := 0, slots := 0, locals := 0 } : Room) s m args below meth c s.heap [] 0 0 Q (F0 m pc ls [.long out]))  : ∀ n : Nat, ∀ (v2 : Int64) (v4 : Int32) (ls : Array Slot), pX3_choose_5 v0 v1 n v2 v4 = some out → lv_has ls 5 [(0, .int v0), (1, .int v1), (2, .long v2), (4, .int v4)] → W p l e ({ frames := 0, cells := 0, slots := 0, locals := 0 } : Room) s m args below meth c s.heap [] 0 0 Q (F0 m 5 ls []) := by
  intro n
  induction n with
  | zero =>
    intro v2 v4 ls hp hl
    exact nomatch hp
  | succ n ih => exact lcX3_choose_5B dC dI cyI cyZ cyJ cyB cyO v0 v1 out hx hb hml hts hown hK hN hP hQ (pX3_choose_5 v0 v1 n) ih
set_option maxHeartbeats 4000000 in
set_option maxRecDepth 100000 in
theorem ccX3_choose (l : Launch) (dC : Nat → ClassId) (dI : Nat → Nat → Nat) (cyI cyZ cyJ cyB cyO : ClassId) (v0 : Int32) (v1 : Int32) (out : Int64) (hp : pX3_choose v0 v1 = some out) : Met l yX3_choose wsX3_choose ({ frames := 0, cells := 0, slots := 0, locals := 0 } : Room) (px_PR (dC, dI) (px_TY cyI cyZ cyJ cyB cyO) [.int v0, .int v1] []) (px_QR (.long out)) 0 0 (fun _ => False) := by
  refine Met.ofW (cc := cX3_choose) (maxL := 5) (ret := (some .long)) (by decide) rfl ?_
  intro p e s m args below meth c s₁ B hml hv
  obtain ⟨rfl, hP, hK, hN⟩ := hv
  have hx := B.exec
  have hb := B.bytes
  have hr := B.returns
  have hts := atoms_spec (ws := wsX3_choose) B.pre
  have hown : s.vm.findClass RX3 = some m.cls := findClass_of_methodNamed B.named
  have hlocks := B.notSynchronized
  have hQ : ∀ (pc : Nat) (ls : Array Slot), decode cX3_choose pc = .ok (.lreturn, 1) → W p l e ({ frames := 0, cells := 0, slots := 0, locals := 0 } : Room) s m (([.int v0, .int v1] : List Value).toArray) below meth c s.heap [] 0 0 (MQ below (px_QR (.long out)) (([.int v0, .int v1] : List Value).toArray) s 0 0 (fun _ => False)) (F0 m pc ls [.long out]) := fun pc ls hd => W.lret hx hb hr (fun t ht hW => ⟨rfl, ht⟩) (fun q h => by cases h) hd
  generalize MQ below (px_QR (.long out)) (([.int v0, .int v1] : List Value).toArray) s 0 0 (fun _ => False) = Q at hQ ⊢
  have hl := lv_entry [.int v0, .int v1] (n := 5) (Nat.le_of_ble_eq_true rfl)
  rw [lg_entry_eq]
  generalize (lg_sl [.int v0, .int v1] ++ List.replicate (5 - (lg_sl [.int v0, .int v1]).length) Slot.unset).toArray = ls at hl ⊢
  have hl : lv_has ls 5 [(0, .int v0), (1, .int v1)] := hl
  unfold pX3_choose at hp
  refine lv_lconst (v := (1 : Int64)) hx hb dX3_choose_0 (by decide) ?_
  refine lv_lstore_n (lv' := [(2, .long (1 : Int64)), (0, .int v0), (1, .int v1)]) hx hb dX3_choose_1 rfl hl (by decide) rfl (fun ls hl => ?_)
  refine lv_iconst (v := (1 : Int32)) hx hb dX3_choose_2 (by decide) ?_
  refine lv_istore (lv' := [(4, .int (1 : Int32)), (2, .long (1 : Int64)), (0, .int v0), (1, .int v1)]) hx hb dX3_choose_3 hl (by decide) rfl (fun ls hl => ?_)
  exact lcX3_choose_5 dC dI cyI cyZ cyJ cyB cyO v0 v1 out hx hb hml hts hown hK hN hP hQ px_FU (1 : Int64) (1 : Int32) ls hp (lv_sub hl [2, 3, 1, 0] rfl)
/-! TagReader$Odds.arranged(II)J -/
theorem hsX3_arranged : yX3_arranged.cls ≠ "java/lang/invoke/MethodHandle" ∧ yX3_arranged.cls ≠ "java/lang/invoke/VarHandle" ∧ (parseMethodDescriptor yX3_arranged.desc).map (fun d => d.parameters.length) = some 2 := by decide +kernel
set_option maxHeartbeats 4000000 in
set_option maxRecDepth 100000 in
theorem lcX3_arranged_5B {p : Program} {l : Launch} {e : Env} {s : State} {m : MethodId} {args : Array Value} {below : List Frame} {meth : Method} {c : Code} {Q : State → Prop} (dC : Nat → ClassId) (dI : Nat → Nat → Nat) (cyI cyZ cyJ cyB cyO : ClassId) (v0 : Int32) (v1 : Int32) (out : Int64) (hx : p.tables.exec = Jvm.exec) (hb : c.code = cX3_arranged) (hml : c.maxLocals = 5) (hts : ∀ w ∈ wsX3_arranged, w.before args s = true) (hown : s.vm.findClass RX3 = some m.cls) (hK : va_K (dC, dI) vwCl (px_TY cyI cyZ cyJ cyB cyO) s) (hN : px_NW s) (hP : va_P (dC, dI) vwCl [] s.heap) (hQ : ∀ (pc : Nat) (ls : Array Slot), decode cX3_arranged pc = .ok (.lreturn, 1) → W p l e ({ frames := 0, cells := 0, slots := 0, locals := 0 } : Room) s m args below meth c s.heap [] 0 0 Q (F0 m pc ls [.long out]))  (K_5 : Int64 → Int32 → Option (Int64)) (hK_5 : ∀ (v2 : Int64) (v4 : Int32) (ls : Array Slot), K_5 v2 v4 = some out → lv_has ls 5 [(0, .int v0), (1, .int v1), (2, .long v2), (4, .int v4)] → W p l e ({ frames := 0, cells := 0, slots := 0, locals := 0 } : Room) s m args below meth c s.heap [] 0 0 Q (F0 m 5 ls [])) : ∀ (v2 : Int64) (v4 : Int32) (ls : Array Slot), pX3_arranged_5B v0 v1 K_5 v2 v4 = some out → lv_has ls 5 [(0, .int v0), (1, .int v1), (2, .long v2), (4, .int v4)] → W p l e ({ frames := 0, cells := 0, slots := 0, locals := 0 } : Room) s m args below meth c s.heap [] 0 0 Q (F0 m 5 ls []) := by
  intro v2 v4 ls hp hl
  unfold pX3_arranged_5B at hp
  refine lv_iload hx hb dX3_arranged_5 (lv_at hl 3 rfl) ?_
  refine lv_iload_n hx hb dX3_arranged_7 rfl (lv_at hl 1 rfl) ?_
  refine lv_icmp_ge (tgt := 25) hx hb dX3_arranged_8 (by decide) (fun c_1 => ?_) (fun c_1 => ?_)
  · have hp := px_t hp c_1
    refine lv_lload_n hx hb dX3_arranged_25 rfl (lv_at hl 2 rfl) ?_
    have ho := px_s hp
    subst ho
    exact hQ _ _ dX3_arranged_26
  · have hp := px_f hp c_1
    refine lv_lload_n hx hb dX3_arranged_11 rfl (lv_at hl 2 rfl) ?_
    refine lv_iload_n hx hb dX3_arranged_12 rfl (lv_at hl 0 rfl) ?_
    refine lv_iload hx hb dX3_arranged_13 (lv_at hl 3 rfl) ?_
    refine lv_isub hx hb dX3_arranged_15 ?_
    refine lv_i2l hx hb dX3_arranged_16 rfl ?_
    refine lv_lmul hx hb dX3_arranged_17 ?_
    refine lv_lstore_n (lv' := [(2, .long (v2 * (Int32.toInt64 (v0 - v4)))), (0, .int v0), (1, .int v1), (4, .int v4)]) hx hb dX3_arranged_18 rfl hl (by decide) rfl (fun ls hl => ?_)
    refine lv_iinc (v := (v4 + (1 : Int32))) (lv' := [(4, .int (v4 + (1 : Int32))), (2, .long (v2 * (Int32.toInt64 (v0 - v4)))), (0, .int v0), (1, .int v1)]) hx hb dX3_arranged_19 hl (k := 3) rfl rfl (by decide) rfl (fun ls hl => ?_)
    refine lv_goto (tgt := 5) hx hb dX3_arranged_22 (by decide) ?_
    exact hK_5 (v2 * (Int32.toInt64 (v0 - v4))) (v4 + (1 : Int32)) ls hp (lv_sub hl [2, 3, 1, 0] rfl)
theorem lcX3_arranged_5 {p : Program} {l : Launch} {e : Env} {s : State} {m : MethodId} {args : Array Value} {below : List Frame} {meth : Method} {c : Code} {Q : State → Prop} (dC : Nat → ClassId) (dI : Nat → Nat → Nat) (cyI cyZ cyJ cyB cyO : ClassId) (v0 : Int32) (v1 : Int32) (out : Int64) (hx : p.tables.exec = Jvm.exec) (hb : c.code = cX3_arranged) (hml : c.maxLocals = 5) (hts : ∀ w ∈ wsX3_arranged, w.before args s = true) (hown : s.vm.findClass RX3 = some m.cls) (hK : va_K (dC, dI) vwCl (px_TY cyI cyZ cyJ cyB cyO) s) (hN : px_NW s) (hP : va_P (dC, dI) vwCl [] s.heap) (hQ : ∀ (pc : Nat) (ls : Array Slot), decode cX3_arranged pc = .ok (.lreturn, 1) → W p l e ({ frames := 0, cells := 0, slots := 0, locals := 0 } : Room) s m args below meth c s.heap [] 0 0 Q (F0 m pc ls [.long out]))  : ∀ n : Nat, ∀ (v2 : Int64) (v4 : Int32) (ls : Array Slot), pX3_arranged_5 v0 v1 n v2 v4 = some out → lv_has ls 5 [(0, .int v0), (1, .int v1), (2, .long v2), (4, .int v4)] → W p l e ({ frames := 0, cells := 0, slots := 0, locals := 0 } : Room) s m args below meth c s.heap [] 0 0 Q (F0 m 5 ls []) := by
  intro n
  induction n with
  | zero =>
    intro v2 v4 ls hp hl
    exact nomatch hp
  | succ n ih => exact lcX3_arranged_5B dC dI cyI cyZ cyJ cyB cyO v0 v1 out hx hb hml hts hown hK hN hP hQ (pX3_arranged_5 v0 v1 n) ih
set_option maxHeartbeats 4000000 in
set_option maxRecDepth 100000 in
theorem ccX3_arranged (l : Launch) (dC : Nat → ClassId) (dI : Nat → Nat → Nat) (cyI cyZ cyJ cyB cyO : ClassId) (v0 : Int32) (v1 : Int32) (out : Int64) (hp : pX3_arranged v0 v1 = some out) : Met l yX3_arranged wsX3_arranged ({ frames := 0, cells := 0, slots := 0, locals := 0 } : Room) (px_PR (dC, dI) (px_TY cyI cyZ cyJ cyB cyO) [.int v0, .int v1] []) (px_QR (.long out)) 0 0 (fun _ => False) := by
  refine Met.ofW (cc := cX3_arranged) (maxL := 5) (ret := (some .long)) (by decide) rfl ?_
  intro p e s m args below meth c s₁ B hml hv
  obtain ⟨rfl, hP, hK, hN⟩ := hv
  have hx := B.exec
  have hb := B.bytes
  have hr := B.returns
  have hts := atoms_spec (ws := wsX3_arranged) B.pre
  have hown : s.vm.findClass RX3 = some m.cls := findClass_of_methodNamed B.named
  have hlocks := B.notSynchronized
  have hQ : ∀ (pc : Nat) (ls : Array Slot), decode cX3_arranged pc = .ok (.lreturn, 1) → W p l e ({ frames := 0, cells := 0, slots := 0, locals := 0 } : Room) s m (([.int v0, .int v1] : List Value).toArray) below meth c s.heap [] 0 0 (MQ below (px_QR (.long out)) (([.int v0, .int v1] : List Value).toArray) s 0 0 (fun _ => False)) (F0 m pc ls [.long out]) := fun pc ls hd => W.lret hx hb hr (fun t ht hW => ⟨rfl, ht⟩) (fun q h => by cases h) hd
  generalize MQ below (px_QR (.long out)) (([.int v0, .int v1] : List Value).toArray) s 0 0 (fun _ => False) = Q at hQ ⊢
  have hl := lv_entry [.int v0, .int v1] (n := 5) (Nat.le_of_ble_eq_true rfl)
  rw [lg_entry_eq]
  generalize (lg_sl [.int v0, .int v1] ++ List.replicate (5 - (lg_sl [.int v0, .int v1]).length) Slot.unset).toArray = ls at hl ⊢
  have hl : lv_has ls 5 [(0, .int v0), (1, .int v1)] := hl
  unfold pX3_arranged at hp
  refine lv_lconst (v := (1 : Int64)) hx hb dX3_arranged_0 (by decide) ?_
  refine lv_lstore_n (lv' := [(2, .long (1 : Int64)), (0, .int v0), (1, .int v1)]) hx hb dX3_arranged_1 rfl hl (by decide) rfl (fun ls hl => ?_)
  refine lv_iconst (v := (0 : Int32)) hx hb dX3_arranged_2 (by decide) ?_
  refine lv_istore (lv' := [(4, .int (0 : Int32)), (2, .long (1 : Int64)), (0, .int v0), (1, .int v1)]) hx hb dX3_arranged_3 hl (by decide) rfl (fun ls hl => ?_)
  exact lcX3_arranged_5 dC dI cyI cyZ cyJ cyB cyO v0 v1 out hx hb hml hts hown hK hN hP hQ px_FU (1 : Int64) (0 : Int32) ls hp (lv_sub hl [2, 3, 1, 0] rfl)
/-! TagReader$Odds.waysAt(I)J -/
theorem hvX3_waysAt : yX3_waysAt.cls = RX3 ∧ yX3_waysAt.cls ≠ "java/lang/invoke/MethodHandle" ∧ yX3_waysAt.cls ≠ "java/lang/invoke/VarHandle" ∧ (parseMethodDescriptor yX3_waysAt.desc).map (fun d => d.parameters.length) = some 1 := by decide +kernel
theorem fX3_waysAt_X3 : ∀ w ∈ u_ws RX3 TX3 1, w ∈ wsX3_waysAt := fun _ h => List.mem_cons_of_mem _ (List.mem_append_right _ h)
theorem kX3_waysAt_1 : (.fieldLink RX3 9 "TagReader$Odds" "row" "[J" : Cond) ∈ wsX3_waysAt := List.mem_of_getElem? (i := 1) rfl
set_option maxHeartbeats 4000000 in
set_option maxRecDepth 100000 in
theorem ccX3_waysAt (l : Launch) (dC : Nat → ClassId) (dI : Nat → Nat → Nat) (cyI cyZ cyJ cyB cyO : ClassId) (h_od a_od_row : Nat) (od_row : Nat → Int64) (v1 : Int32) (out : Int64) (hp : pX3_waysAt v1 od_row = some out) : Met l yX3_waysAt wsX3_waysAt ({ frames := 0, cells := 0, slots := 0, locals := 0 } : Room) (px_PR (dC, dI) (px_TY cyI cyZ cyJ cyB cyO) [.ref h_od, .int v1] (wdX3_waysAt cyI cyZ cyJ cyB cyO h_od a_od_row od_row)) (px_QR (.long out)) 0 0 (fun _ => False) := by
  refine Met.ofW (cc := cX3_waysAt) (maxL := 2) (ret := (some .long)) (by decide) rfl ?_
  intro p e s m args below meth c s₁ B hml hv
  obtain ⟨rfl, hP, hK, hN⟩ := hv
  have hx := B.exec
  have hb := B.bytes
  have hr := B.returns
  have hts := atoms_spec (ws := wsX3_waysAt) B.pre
  have hown : s.vm.findClass RX3 = some m.cls := findClass_of_methodNamed B.named
  have hlocks := B.notSynchronized
  have hQ : ∀ (pc : Nat) (ls : Array Slot), decode cX3_waysAt pc = .ok (.lreturn, 1) → W p l e ({ frames := 0, cells := 0, slots := 0, locals := 0 } : Room) s m (([.ref h_od, .int v1] : List Value).toArray) below meth c s.heap [] 0 0 (MQ below (px_QR (.long out)) (([.ref h_od, .int v1] : List Value).toArray) s 0 0 (fun _ => False)) (F0 m pc ls [.long out]) := fun pc ls hd => W.lret hx hb hr (fun t ht hW => ⟨rfl, ht⟩) (fun q h => by cases h) hd
  generalize MQ below (px_QR (.long out)) (([.ref h_od, .int v1] : List Value).toArray) s 0 0 (fun _ => False) = Q at hQ ⊢
  have hl := lv_entry [.ref h_od, .int v1] (n := 2) (Nat.le_of_ble_eq_true rfl)
  rw [lg_entry_eq]
  generalize (lg_sl [.ref h_od, .int v1] ++ List.replicate (2 - (lg_sl [.ref h_od, .int v1]).length) Slot.unset).toArray = ls at hl ⊢
  have hl : lv_has ls 2 [(0, .ref h_od), (1, .int v1)] := hl
  unfold pX3_waysAt at hp
  refine lv_iload_n hx hb dX3_waysAt_0 rfl (lv_at hl 1 rfl) ?_
  refine lv_if_lt (tgt := 22) hx hb dX3_waysAt_1 (by decide) (fun c_1 => ?_) (fun c_1 => ?_)
  · have hp := px_t hp c_1
    refine lv_lconst (v := (0 : Int64)) hx hb dX3_waysAt_22 (by decide) ?_
    have ho := px_s hp
    subst ho
    exact hQ _ _ dX3_waysAt_23
  · have hp := px_f hp c_1
    refine lv_iload_n hx hb dX3_waysAt_4 rfl (lv_at hl 1 rfl) ?_
    refine lv_aload_n hx hb dX3_waysAt_5 rfl (lv_at hl 0 rfl) ?_
    refine va_get (D := (dC, dI)) (ci := 3) (v := .ref a_od_row) (C := RX3) (T := TX3) (N := 1) hx hb hts fX3_waysAt_X3 hown hK hP 0 rfl rfl 0 (by decide) (hts _ kX3_waysAt_1) (fun _ h9 => h9) rfl dX3_waysAt_6 ?_
    refine va_alen (D := (dC, dI)) (v := (17 : Int32)) hx hb hK hP 1 2 rfl rfl rfl dX3_waysAt_9 ?_
    refine lv_icmp_ge (tgt := 22) hx hb dX3_waysAt_10 (by decide) (fun c_2 => ?_) (fun c_2 => ?_)
    · have hp := px_t hp c_2
      refine lv_lconst (v := (0 : Int64)) hx hb dX3_waysAt_22 (by decide) ?_
      have ho := px_s hp
      subst ho
      exact hQ _ _ dX3_waysAt_23
    · have hp := px_f hp c_2
      refine lv_aload_n hx hb dX3_waysAt_13 rfl (lv_at hl 0 rfl) ?_
      refine va_get (D := (dC, dI)) (ci := 3) (v := .ref a_od_row) (C := RX3) (T := TX3) (N := 1) hx hb hts fX3_waysAt_X3 hown hK hP 0 rfl rfl 0 (by decide) (hts _ kX3_waysAt_1) (fun _ h9 => h9) rfl dX3_waysAt_14 ?_
      refine lv_iload_n hx hb dX3_waysAt_17 rfl (lv_at hl 1 rfl) ?_
      obtain ⟨g_3, hp⟩ := px_i_at hp
      refine va_lald (D := (dC, dI)) hx hb hK hP 1 2 rfl rfl g_3 dX3_waysAt_18 ?_
      refine lv_goto (tgt := 23) hx hb dX3_waysAt_19 (by decide) ?_
      have ho := px_s hp
      subst ho
      exact hQ _ _ dX3_waysAt_23
/-! TagReader$Odds.withOneSlotMore(IZ)J -/
theorem hvX3_withOneSlotMore : yX3_withOneSlotMore.cls = RX3 ∧ yX3_withOneSlotMore.cls ≠ "java/lang/invoke/MethodHandle" ∧ yX3_withOneSlotMore.cls ≠ "java/lang/invoke/VarHandle" ∧ (parseMethodDescriptor yX3_withOneSlotMore.desc).map (fun d => d.parameters.length) = some 2 := by decide +kernel
theorem fX3_withOneSlotMore_X3 : ∀ w ∈ u_ws RX3 TX3 1, w ∈ wsX3_withOneSlotMore := fun _ h => List.mem_cons_of_mem _ (List.mem_append_right _ h)
theorem kX3_withOneSlotMore_1 : (.fieldLink RX3 9 "TagReader$Odds" "row" "[J" : Cond) ∈ wsX3_withOneSlotMore := List.mem_of_getElem? (i := 1) rfl
set_option maxHeartbeats 4000000 in
set_option maxRecDepth 100000 in
theorem lcX3_withOneSlotMore_18B {p : Program} {l : Launch} {e : Env} {s : State} {m : MethodId} {args : Array Value} {below : List Frame} {meth : Method} {c : Code} {Q : State → Prop} (dC : Nat → ClassId) (dI : Nat → Nat → Nat) (cyI cyZ cyJ cyB cyO : ClassId) (h_od a_od_row : Nat) (od_row : Nat → Int64) (v1 : Int32) (v2 : Int32) (out : Int64) (hx : p.tables.exec = Jvm.exec) (hb : c.code = cX3_withOneSlotMore) (hml : c.maxLocals = 6) (hts : ∀ w ∈ wsX3_withOneSlotMore, w.before args s = true) (hown : s.vm.findClass RX3 = some m.cls) (hK : va_K (dC, dI) vwCl (px_TY cyI cyZ cyJ cyB cyO) s) (hN : px_NW s) (hP : va_P (dC, dI) vwCl (wdX3_withOneSlotMore cyI cyZ cyJ cyB cyO h_od a_od_row od_row) s.heap) (hQ : ∀ (pc : Nat) (ls : Array Slot), decode cX3_withOneSlotMore pc = .ok (.lreturn, 1) → W p l e ({ frames := 1, cells := 0, slots := 0, locals := 24 } : Room) s m args below meth c s.heap [] 0 0 Q (F0 m pc ls [.long out]))  (K_18 : Int64 → Int32 → Option (Int64)) (hK_18 : ∀ (v3 : Int64) (v5 : Int32) (ls : Array Slot), K_18 v3 v5 = some out → lv_has ls 6 [(0, .ref h_od), (1, .int v1), (3, .long v3), (5, .int v5)] → W p l e ({ frames := 1, cells := 0, slots := 0, locals := 24 } : Room) s m args below meth c s.heap [] 0 0 Q (F0 m 18 ls [])) : ∀ (v3 : Int64) (v5 : Int32) (ls : Array Slot), pX3_withOneSlotMore_18B v1 v2 od_row K_18 v3 v5 = some out → lv_has ls 6 [(0, .ref h_od), (1, .int v1), (3, .long v3), (5, .int v5)] → W p l e ({ frames := 1, cells := 0, slots := 0, locals := 24 } : Room) s m args below meth c s.heap [] 0 0 Q (F0 m 18 ls []) := by
  intro v3 v5 ls hp hl
  unfold pX3_withOneSlotMore_18B at hp
  refine lv_iload hx hb dX3_withOneSlotMore_18 (lv_at hl 3 rfl) ?_
  refine lv_iload_n hx hb dX3_withOneSlotMore_20 rfl (lv_at hl 1 rfl) ?_
  refine lv_icmp_gt (tgt := 49) hx hb dX3_withOneSlotMore_21 (by decide) (fun c_2 => ?_) (fun c_2 => ?_)
  · have hp := px_t hp c_2
    refine lv_lload_n hx hb dX3_withOneSlotMore_49 rfl (lv_at hl 2 rfl) ?_
    have ho := px_s hp
    subst ho
    exact hQ _ _ dX3_withOneSlotMore_50
  · have hp := px_f hp c_2
    refine lv_lload_n hx hb dX3_withOneSlotMore_24 rfl (lv_at hl 2 rfl) ?_
    refine lv_iload_n hx hb dX3_withOneSlotMore_25 rfl (lv_at hl 1 rfl) ?_
    refine lv_iload hx hb dX3_withOneSlotMore_26 (lv_at hl 3 rfl) ?_
    obtain ⟨o_3, ho_3, hp⟩ := px_b_at hp
    refine px_callR (v := .long o_3) (va_runS (As := [.int v1, .int v5]) (rest := [.long v3]) ⟨hx, hb, hml, hown, hts⟩ (ccX3_choose l dC dI cyI cyZ cyJ cyB cyO v1 v5 o_3 ho_3) (va_cwS 2 hts gX3_withOneSlotMore_X3_choose rfl rfl rfl hsX3_choose ⟨Nat.le_of_ble_eq_true rfl, Nat.le_of_ble_eq_true rfl⟩) (px_preR (wc := []) hK hN hP [] rfl) rfl rfl hl.1 rfl (lv_room (Nat.le_of_ble_eq_true rfl)) dX3_withOneSlotMore_28 ⟨Nat.zero_le _, Nat.zero_le _⟩) ?_
    refine lv_aload_n hx hb dX3_withOneSlotMore_31 rfl (lv_at hl 0 rfl) ?_
    refine va_get (D := (dC, dI)) (ci := 3) (v := .ref a_od_row) (C := RX3) (T := TX3) (N := 1) hx hb hts fX3_withOneSlotMore_X3 hown hK hP 0 rfl rfl 0 (by decide) (hts _ kX3_withOneSlotMore_1) (fun _ h9 => h9) rfl dX3_withOneSlotMore_32 ?_
    refine lv_iload_n hx hb dX3_withOneSlotMore_35 rfl (lv_at hl 1 rfl) ?_
    refine lv_iload hx hb dX3_withOneSlotMore_36 (lv_at hl 3 rfl) ?_
    refine lv_isub hx hb dX3_withOneSlotMore_38 ?_
    obtain ⟨g_4, hp⟩ := px_i_at hp
    refine va_lald (D := (dC, dI)) hx hb hK hP 1 2 rfl rfl g_4 dX3_withOneSlotMore_39 ?_
    refine lv_lmul hx hb dX3_withOneSlotMore_40 ?_
    refine lv_ladd hx hb dX3_withOneSlotMore_41 ?_
    refine lv_lstore_n (lv' := [(3, .long (v3 + (o_3 * (od_row (Int32.toNatClampNeg (v1 - v5)))))), (0, .ref h_od), (1, .int v1), (5, .int v5)]) hx hb dX3_withOneSlotMore_42 rfl hl (by decide) rfl (fun ls hl => ?_)
    refine lv_iinc (v := (v5 + (1 : Int32))) (lv' := [(5, .int (v5 + (1 : Int32))), (3, .long (v3 + (o_3 * (od_row (Int32.toNatClampNeg (v1 - v5)))))), (0, .ref h_od), (1, .int v1)]) hx hb dX3_withOneSlotMore_43 hl (k := 3) rfl rfl (by decide) rfl (fun ls hl => ?_)
    refine lv_goto (tgt := 18) hx hb dX3_withOneSlotMore_46 (by decide) ?_
    exact hK_18 (v3 + (o_3 * (od_row (Int32.toNatClampNeg (v1 - v5))))) (v5 + (1 : Int32)) ls hp (lv_sub hl [2, 3, 1, 0] rfl)
theorem lcX3_withOneSlotMore_18 {p : Program} {l : Launch} {e : Env} {s : State} {m : MethodId} {args : Array Value} {below : List Frame} {meth : Method} {c : Code} {Q : State → Prop} (dC : Nat → ClassId) (dI : Nat → Nat → Nat) (cyI cyZ cyJ cyB cyO : ClassId) (h_od a_od_row : Nat) (od_row : Nat → Int64) (v1 : Int32) (v2 : Int32) (out : Int64) (hx : p.tables.exec = Jvm.exec) (hb : c.code = cX3_withOneSlotMore) (hml : c.maxLocals = 6) (hts : ∀ w ∈ wsX3_withOneSlotMore, w.before args s = true) (hown : s.vm.findClass RX3 = some m.cls) (hK : va_K (dC, dI) vwCl (px_TY cyI cyZ cyJ cyB cyO) s) (hN : px_NW s) (hP : va_P (dC, dI) vwCl (wdX3_withOneSlotMore cyI cyZ cyJ cyB cyO h_od a_od_row od_row) s.heap) (hQ : ∀ (pc : Nat) (ls : Array Slot), decode cX3_withOneSlotMore pc = .ok (.lreturn, 1) → W p l e ({ frames := 1, cells := 0, slots := 0, locals := 24 } : Room) s m args below meth c s.heap [] 0 0 Q (F0 m pc ls [.long out]))  : ∀ n : Nat, ∀ (v3 : Int64) (v5 : Int32) (ls : Array Slot), pX3_withOneSlotMore_18 v1 v2 od_row n v3 v5 = some out → lv_has ls 6 [(0, .ref h_od), (1, .int v1), (3, .long v3), (5, .int v5)] → W p l e ({ frames := 1, cells := 0, slots := 0, locals := 24 } : Room) s m args below meth c s.heap [] 0 0 Q (F0 m 18 ls []) := by
  intro n
  induction n with
  | zero =>
    intro v3 v5 ls hp hl
    exact nomatch hp
  | succ n ih => exact lcX3_withOneSlotMore_18B dC dI cyI cyZ cyJ cyB cyO h_od a_od_row od_row v1 v2 out hx hb hml hts hown hK hN hP hQ (pX3_withOneSlotMore_18 v1 v2 od_row n) ih
set_option maxHeartbeats 4000000 in
set_option maxRecDepth 100000 in
theorem ccX3_withOneSlotMore (l : Launch) (dC : Nat → ClassId) (dI : Nat → Nat → Nat) (cyI cyZ cyJ cyB cyO : ClassId) (h_od a_od_row : Nat) (od_row : Nat → Int64) (v1 : Int32) (v2 : Int32) (out : Int64) (hp : pX3_withOneSlotMore v1 v2 od_row = some out) : Met l yX3_withOneSlotMore wsX3_withOneSlotMore ({ frames := 1, cells := 0, slots := 0, locals := 24 } : Room) (px_PR (dC, dI) (px_TY cyI cyZ cyJ cyB cyO) [.ref h_od, .int v1, .int v2] (wdX3_withOneSlotMore cyI cyZ cyJ cyB cyO h_od a_od_row od_row)) (px_QR (.long out)) 0 0 (fun _ => False) := by
  refine Met.ofW (cc := cX3_withOneSlotMore) (maxL := 6) (ret := (some .long)) (by decide) rfl ?_
  intro p e s m args below meth c s₁ B hml hv
  obtain ⟨rfl, hP, hK, hN⟩ := hv
  have hx := B.exec
  have hb := B.bytes
  have hr := B.returns
  have hts := atoms_spec (ws := wsX3_withOneSlotMore) B.pre
  have hown : s.vm.findClass RX3 = some m.cls := findClass_of_methodNamed B.named
  have hlocks := B.notSynchronized
  have hQ : ∀ (pc : Nat) (ls : Array Slot), decode cX3_withOneSlotMore pc = .ok (.lreturn, 1) → W p l e ({ frames := 1, cells := 0, slots := 0, locals := 24 } : Room) s m (([.ref h_od, .int v1, .int v2] : List Value).toArray) below meth c s.heap [] 0 0 (MQ below (px_QR (.long out)) (([.ref h_od, .int v1, .int v2] : List Value).toArray) s 0 0 (fun _ => False)) (F0 m pc ls [.long out]) := fun pc ls hd => W.lret hx hb hr (fun t ht hW => ⟨rfl, ht⟩) (fun q h => by cases h) hd
  generalize MQ below (px_QR (.long out)) (([.ref h_od, .int v1, .int v2] : List Value).toArray) s 0 0 (fun _ => False) = Q at hQ ⊢
  have hl := lv_entry [.ref h_od, .int v1, .int v2] (n := 6) (Nat.le_of_ble_eq_true rfl)
  rw [lg_entry_eq]
  generalize (lg_sl [.ref h_od, .int v1, .int v2] ++ List.replicate (6 - (lg_sl [.ref h_od, .int v1, .int v2]).length) Slot.unset).toArray = ls at hl ⊢
  have hl : lv_has ls 6 [(0, .ref h_od), (1, .int v1), (2, .int v2)] := hl
  unfold pX3_withOneSlotMore at hp
  refine lv_iload_n hx hb dX3_withOneSlotMore_0 rfl (lv_at hl 2 rfl) ?_
  refine lv_if_eq (tgt := 13) hx hb dX3_withOneSlotMore_1 (by decide) (fun c_1 => ?_) (fun c_1 => ?_)
  · have hp := px_t hp c_1
    refine lv_lconst (v := (0 : Int64)) hx hb dX3_withOneSlotMore_13 (by decide) ?_
    refine lv_lstore_n (lv' := [(3, .long (0 : Int64)), (0, .ref h_od), (1, .int v1), (2, .int v2)]) hx hb dX3_withOneSlotMore_14 rfl hl (by decide) rfl (fun ls hl => ?_)
    refine lv_iconst (v := (2 : Int32)) hx hb dX3_withOneSlotMore_15 (by decide) ?_
    refine lv_istore (lv' := [(5, .int (2 : Int32)), (3, .long (0 : Int64)), (0, .ref h_od), (1, .int v1), (2, .int v2)]) hx hb dX3_withOneSlotMore_16 hl (by decide) rfl (fun ls hl => ?_)
    exact lcX3_withOneSlotMore_18 dC dI cyI cyZ cyJ cyB cyO h_od a_od_row od_row v1 v2 out hx hb hml hts hown hK hN hP hQ px_FU (0 : Int64) (2 : Int32) ls hp (lv_sub hl [2, 3, 1, 0] rfl)
  · have hp := px_f hp c_1
    refine lv_aload_n hx hb dX3_withOneSlotMore_4 rfl (lv_at hl 0 rfl) ?_
    refine va_get (D := (dC, dI)) (ci := 3) (v := .ref a_od_row) (C := RX3) (T := TX3) (N := 1) hx hb hts fX3_withOneSlotMore_X3 hown hK hP 0 rfl rfl 0 (by decide) (hts _ kX3_withOneSlotMore_1) (fun _ h9 => h9) rfl dX3_withOneSlotMore_5 ?_
    refine lv_iload_n hx hb dX3_withOneSlotMore_8 rfl (lv_at hl 1 rfl) ?_
    obtain ⟨g_5, hp⟩ := px_i_at hp
    refine va_lald (D := (dC, dI)) hx hb hK hP 1 2 rfl rfl g_5 dX3_withOneSlotMore_9 ?_
    refine lv_goto (tgt := 14) hx hb dX3_withOneSlotMore_10 (by decide) ?_
    refine lv_lstore_n (lv' := [(3, .long (od_row (Int32.toNatClampNeg v1))), (0, .ref h_od), (1, .int v1), (2, .int v2)]) hx hb dX3_withOneSlotMore_14 rfl hl (by decide) rfl (fun ls hl => ?_)
    refine lv_iconst (v := (2 : Int32)) hx hb dX3_withOneSlotMore_15 (by decide) ?_
    refine lv_istore (lv' := [(5, .int (2 : Int32)), (3, .long (od_row (Int32.toNatClampNeg v1))), (0, .ref h_od), (1, .int v1), (2, .int v2)]) hx hb dX3_withOneSlotMore_16 hl (by decide) rfl (fun ls hl => ?_)
    exact lcX3_withOneSlotMore_18 dC dI cyI cyZ cyJ cyB cyO h_od a_od_row od_row v1 v2 out hx hb hml hts hown hK hN hP hQ px_FU (od_row (Int32.toNatClampNeg v1)) (2 : Int32) ls hp (lv_sub hl [2, 3, 1, 0] rfl)
/-! TagReader$Odds.fillRow(IIZ)V -/
theorem hvX3_fillRow : yX3_fillRow.cls = RX3 ∧ yX3_fillRow.cls ≠ "java/lang/invoke/MethodHandle" ∧ yX3_fillRow.cls ≠ "java/lang/invoke/VarHandle" ∧ (parseMethodDescriptor yX3_fillRow.desc).map (fun d => d.parameters.length) = some 3 := by decide +kernel
theorem fX3_fillRow_X3 : ∀ w ∈ u_ws RX3 TX3 1, w ∈ wsX3_fillRow := fun _ h => List.mem_cons_of_mem _ (List.mem_append_right _ h)
theorem kX3_fillRow_1 : (.fieldLink RX3 9 "TagReader$Odds" "row" "[J" : Cond) ∈ wsX3_fillRow := List.mem_of_getElem? (i := 1) rfl
theorem kX3_fillRow_2 : (.methodLink RX3 15 Lib.Math.min.name : Cond) ∈ wsX3_fillRow := List.mem_of_getElem? (i := 2) rfl
theorem kX3_fillRow_3 : (.static Lib.Math.min.name : Cond) ∈ wsX3_fillRow := List.mem_of_getElem? (i := 3) rfl
theorem kX3_fillRow_4 : (.initialized "java/lang/Math" : Cond) ∈ wsX3_fillRow := List.mem_of_getElem? (i := 4) rfl
theorem kX3_fillRow_5 : (.code Lib.Math.min.name Lib.Math.min.code 2 (some .int) : Cond) ∈ wsX3_fillRow := List.mem_of_getElem? (i := 5) rfl
set_option maxHeartbeats 4000000 in
set_option maxRecDepth 100000 in
theorem lcX3_fillRow_64B {p : Program} {l : Launch} {e : Env} {s : State} {m : MethodId} {args : Array Value} {below : List Frame} {meth : Method} {c : Code} {Q : State → Prop} {A : Nat → Prop} (dC : Nat → ClassId) (dI : Nat → Nat → Nat) (cyI cyZ cyJ cyB cyO : ClassId) (h_od a_od_row : Nat) (od_row : Nat → Int64) (v1 : Int32) (v2 : Int32) (v3 : Int32) (out : (Nat → Int64)) (hx : p.tables.exec = Jvm.exec) (hb : c.code = cX3_fillRow) (hml : c.maxLocals = 6) (hts : ∀ w ∈ wsX3_fillRow, w.before args s = true) (hown : s.vm.findClass RX3 = some m.cls) (hK : va_K (dC, dI) vwCl (px_TY cyI cyZ cyJ cyB cyO) s) (hN : px_NW s) (hA : ∀ q : Nat, s.heap.size ≤ q → A q) (hQ : ∀ (H : Heap) (locs : List Loc) (pc : Nat) (ls : Array Slot), va_P (dC, dI) vwCl (wdX3_fillRow cyI cyZ cyJ cyB cyO h_od a_od_row out) H → va_D A (wdX3_fillRow cyI cyZ cyJ cyB cyO h_od a_od_row out) → va_S A s.heap H locs → decode cX3_fillRow pc = .ok (.return_, 1) → W p l e ({ frames := 2, cells := 0, slots := 0, locals := 49 } : Room) s m args below meth c H locs 0 0 Q (F0 m pc ls []))  (K_45 : Int32 → (Nat → Int64) → Option ((Nat → Int64))) (hK_45 : ∀ (v4 : Int32) (od_row : Nat → Int64) (H : Heap) (locs : List Loc) (ls : Array Slot), K_45 v4 od_row = some out → va_P (dC, dI) vwCl (wdX3_fillRow cyI cyZ cyJ cyB cyO h_od a_od_row od_row) H → va_D A (wdX3_fillRow cyI cyZ cyJ cyB cyO h_od a_od_row od_row) → va_S A s.heap H locs → lv_has ls 6 [(0, .ref h_od), (1, .int v1), (2, .int v2), (3, .int v3), (4, .int v4)] → W p l e ({ frames := 2, cells := 0, slots := 0, locals := 49 } : Room) s m args below meth c H locs 0 0 Q (F0 m 45 ls [])) (K_64 : Int32 → Int32 → (Nat → Int64) → Option ((Nat → Int64))) (hK_64 : ∀ (v4 : Int32) (v5 : Int32) (od_row : Nat → Int64) (H : Heap) (locs : List Loc) (ls : Array Slot), K_64 v4 v5 od_row = some out → va_P (dC, dI) vwCl (wdX3_fillRow cyI cyZ cyJ cyB cyO h_od a_od_row od_row) H → va_D A (wdX3_fillRow cyI cyZ cyJ cyB cyO h_od a_od_row od_row) → va_S A s.heap H locs → lv_has ls 6 [(0, .ref h_od), (1, .int v1), (2, .int v2), (3, .int v3), (4, .int v4), (5, .int v5)] → W p l e ({ frames := 2, cells := 0, slots := 0, locals := 49 } : Room) s m args below meth c H locs 0 0 Q (F0 m 64 ls [])) : ∀ (v4 : Int32) (v5 : Int32) (od_row : Nat → Int64) (H : Heap) (locs : List Loc) (ls : Array Slot), pX3_fillRow_64B v1 v2 v3 K_45 K_64 v4 v5 od_row = some out → va_P (dC, dI) vwCl (wdX3_fillRow cyI cyZ cyJ cyB cyO h_od a_od_row od_row) H → va_D A (wdX3_fillRow cyI cyZ cyJ cyB cyO h_od a_od_row od_row) → va_S A s.heap H locs → lv_has ls 6 [(0, .ref h_od), (1, .int v1), (2, .int v2), (3, .int v3), (4, .int v4), (5, .int v5)] → W p l e ({ frames := 2, cells := 0, slots := 0, locals := 49 } : Room) s m args below meth c H locs 0 0 Q (F0 m 64 ls []) := by
  intro v4 v5 od_row H locs ls hp hP hD hS hl
  unfold pX3_fillRow_64B at hp
  refine lv_iload hx hb dX3_fillRow_64 (lv_at hl 5 rfl) ?_
  refine lv_if_lt (tgt := 89) hx hb dX3_fillRow_66 (by decide) (fun c_4 => ?_) (fun c_4 => ?_)
  · have hp := px_t hp c_4
    refine lv_iinc (v := (v4 + (1 : Int32))) (lv' := [(4, .int (v4 + (1 : Int32))), (0, .ref h_od), (1, .int v1), (2, .int v2), (3, .int v3), (5, .int v5)]) hx hb dX3_fillRow_89 hl (k := 4) rfl rfl (by decide) rfl (fun ls hl => ?_)
    refine lv_goto (tgt := 45) hx hb dX3_fillRow_92 (by decide) ?_
    exact hK_45 (v4 + (1 : Int32)) od_row _ _ ls hp hP hD hS (lv_sub hl [1, 2, 3, 4, 0] rfl)
  · have hp := px_f hp c_4
    refine lv_aload_n hx hb dX3_fillRow_69 rfl (lv_at hl 0 rfl) ?_
    refine va_get (D := (dC, dI)) (ci := 3) (v := .ref a_od_row) (C := RX3) (T := TX3) (N := 1) hx hb hts fX3_fillRow_X3 hown hK hP 0 rfl rfl 0 (by decide) (hts _ kX3_fillRow_1) (fun _ h9 => h9) rfl dX3_fillRow_70 ?_
    refine lv_iload hx hb dX3_fillRow_73 (lv_at hl 5 rfl) ?_
    refine lv_aload_n hx hb dX3_fillRow_75 rfl (lv_at hl 0 rfl) ?_
    refine lv_iload hx hb dX3_fillRow_76 (lv_at hl 5 rfl) ?_
    refine lv_iload_n hx hb dX3_fillRow_78 rfl (lv_at hl 3 rfl) ?_
    obtain ⟨o_5, ho_5, hp⟩ := px_b_at hp
    refine px_callR (v := .long o_5) (va_runV (As := [.int v5, .int v3]) (rest := [.int v5, .ref a_od_row]) ⟨hx, hb, hml, hown, hts⟩ (ccX3_withOneSlotMore l dC dI cyI cyZ cyJ cyB cyO h_od a_od_row od_row v5 v3 o_5 ho_5) (cwV 2 hts gX3_fillRow_X3_withOneSlotMore rfl rfl rfl hvX3_withOneSlotMore ⟨Nat.le_of_ble_eq_true rfl, Nat.le_of_ble_eq_true rfl⟩) (px_preRV (wc := (wdX3_withOneSlotMore cyI cyZ cyJ cyB cyO h_od a_od_row od_row)) (ci := 3) (q0 := 0) hK hN hP [0, 1] rfl rfl rfl) rfl rfl hl.1 rfl (lv_room (Nat.le_of_ble_eq_true rfl)) dX3_fillRow_79 ⟨Nat.zero_le _, Nat.zero_le _⟩) ?_
    obtain ⟨g_6, hp⟩ := px_i_at hp
    refine va_last (D := (dC, dI)) hx hb hK hP hD hS 1 2 rfl rfl g_6 dX3_fillRow_82 (fun H locs hP hD hS => ?_)
    have hP : va_P (dC, dI) vwCl (wdX3_fillRow cyI cyZ cyJ cyB cyO h_od a_od_row (vp_updL od_row (Int32.toNatClampNeg v5) o_5)) H := hP
    have hD : va_D A (wdX3_fillRow cyI cyZ cyJ cyB cyO h_od a_od_row (vp_updL od_row (Int32.toNatClampNeg v5) o_5)) := hD
    refine lv_iinc (v := (v5 + (-1 : Int32))) (lv' := [(5, .int (v5 + (-1 : Int32))), (0, .ref h_od), (1, .int v1), (2, .int v2), (3, .int v3), (4, .int v4)]) hx hb dX3_fillRow_83 hl (k := 5) rfl rfl (by decide) rfl (fun ls hl => ?_)
    refine lv_goto (tgt := 64) hx hb dX3_fillRow_86 (by decide) ?_
    exact hK_64 v4 (v5 + (-1 : Int32)) (vp_updL od_row (Int32.toNatClampNeg v5) o_5) _ _ ls hp hP hD hS (lv_sub hl [1, 2, 3, 4, 5, 0] rfl)
theorem lcX3_fillRow_64 {p : Program} {l : Launch} {e : Env} {s : State} {m : MethodId} {args : Array Value} {below : List Frame} {meth : Method} {c : Code} {Q : State → Prop} {A : Nat → Prop} (dC : Nat → ClassId) (dI : Nat → Nat → Nat) (cyI cyZ cyJ cyB cyO : ClassId) (h_od a_od_row : Nat) (od_row : Nat → Int64) (v1 : Int32) (v2 : Int32) (v3 : Int32) (out : (Nat → Int64)) (hx : p.tables.exec = Jvm.exec) (hb : c.code = cX3_fillRow) (hml : c.maxLocals = 6) (hts : ∀ w ∈ wsX3_fillRow, w.before args s = true) (hown : s.vm.findClass RX3 = some m.cls) (hK : va_K (dC, dI) vwCl (px_TY cyI cyZ cyJ cyB cyO) s) (hN : px_NW s) (hA : ∀ q : Nat, s.heap.size ≤ q → A q) (hQ : ∀ (H : Heap) (locs : List Loc) (pc : Nat) (ls : Array Slot), va_P (dC, dI) vwCl (wdX3_fillRow cyI cyZ cyJ cyB cyO h_od a_od_row out) H → va_D A (wdX3_fillRow cyI cyZ cyJ cyB cyO h_od a_od_row out) → va_S A s.heap H locs → decode cX3_fillRow pc = .ok (.return_, 1) → W p l e ({ frames := 2, cells := 0, slots := 0, locals := 49 } : Room) s m args below meth c H locs 0 0 Q (F0 m pc ls []))  (K_45 : Int32 → (Nat → Int64) → Option ((Nat → Int64))) (hK_45 : ∀ (v4 : Int32) (od_row : Nat → Int64) (H : Heap) (locs : List Loc) (ls : Array Slot), K_45 v4 od_row = some out → va_P (dC, dI) vwCl (wdX3_fillRow cyI cyZ cyJ cyB cyO h_od a_od_row od_row) H → va_D A (wdX3_fillRow cyI cyZ cyJ cyB cyO h_od a_od_row od_row) → va_S A s.heap H locs → lv_has ls 6 [(0, .ref h_od), (1, .int v1), (2, .int v2), (3, .int v3), (4, .int v4)] → W p l e ({ frames := 2, cells := 0, slots := 0, locals := 49 } : Room) s m args below meth c H locs 0 0 Q (F0 m 45 ls [])) : ∀ n : Nat, ∀ (v4 : Int32) (v5 : Int32) (od_row : Nat → Int64) (H : Heap) (locs : List Loc) (ls : Array Slot), pX3_fillRow_64 v1 v2 v3 K_45 n v4 v5 od_row = some out → va_P (dC, dI) vwCl (wdX3_fillRow cyI cyZ cyJ cyB cyO h_od a_od_row od_row) H → va_D A (wdX3_fillRow cyI cyZ cyJ cyB cyO h_od a_od_row od_row) → va_S A s.heap H locs → lv_has ls 6 [(0, .ref h_od), (1, .int v1), (2, .int v2), (3, .int v3), (4, .int v4), (5, .int v5)] → W p l e ({ frames := 2, cells := 0, slots := 0, locals := 49 } : Room) s m args below meth c H locs 0 0 Q (F0 m 64 ls []) := by
  intro n
  induction n with
  | zero =>
    intro v4 v5 od_row H locs ls hp hP hD hS hl
    exact nomatch hp
  | succ n ih => exact lcX3_fillRow_64B dC dI cyI cyZ cyJ cyB cyO h_od a_od_row od_row v1 v2 v3 out hx hb hml hts hown hK hN hA hQ K_45 hK_45 (pX3_fillRow_64 v1 v2 v3 K_45 n) ih
set_option maxHeartbeats 4000000 in
set_option maxRecDepth 100000 in
theorem lcX3_fillRow_45B {p : Program} {l : Launch} {e : Env} {s : State} {m : MethodId} {args : Array Value} {below : List Frame} {meth : Method} {c : Code} {Q : State → Prop} {A : Nat → Prop} (dC : Nat → ClassId) (dI : Nat → Nat → Nat) (cyI cyZ cyJ cyB cyO : ClassId) (h_od a_od_row : Nat) (od_row : Nat → Int64) (v1 : Int32) (v2 : Int32) (v3 : Int32) (out : (Nat → Int64)) (hx : p.tables.exec = Jvm.exec) (hb : c.code = cX3_fillRow) (hml : c.maxLocals = 6) (hts : ∀ w ∈ wsX3_fillRow, w.before args s = true) (hown : s.vm.findClass RX3 = some m.cls) (hK : va_K (dC, dI) vwCl (px_TY cyI cyZ cyJ cyB cyO) s) (hN : px_NW s) (hA : ∀ q : Nat, s.heap.size ≤ q → A q) (hQ : ∀ (H : Heap) (locs : List Loc) (pc : Nat) (ls : Array Slot), va_P (dC, dI) vwCl (wdX3_fillRow cyI cyZ cyJ cyB cyO h_od a_od_row out) H → va_D A (wdX3_fillRow cyI cyZ cyJ cyB cyO h_od a_od_row out) → va_S A s.heap H locs → decode cX3_fillRow pc = .ok (.return_, 1) → W p l e ({ frames := 2, cells := 0, slots := 0, locals := 49 } : Room) s m args below meth c H locs 0 0 Q (F0 m pc ls []))  (K_45 : Int32 → (Nat → Int64) → Option ((Nat → Int64))) (hK_45 : ∀ (v4 : Int32) (od_row : Nat → Int64) (H : Heap) (locs : List Loc) (ls : Array Slot), K_45 v4 od_row = some out → va_P (dC, dI) vwCl (wdX3_fillRow cyI cyZ cyJ cyB cyO h_od a_od_row od_row) H → va_D A (wdX3_fillRow cyI cyZ cyJ cyB cyO h_od a_od_row od_row) → va_S A s.heap H locs → lv_has ls 6 [(0, .ref h_od), (1, .int v1), (2, .int v2), (3, .int v3), (4, .int v4)] → W p l e ({ frames := 2, cells := 0, slots := 0, locals := 49 } : Room) s m args below meth c H locs 0 0 Q (F0 m 45 ls [])) : ∀ (v4 : Int32) (od_row : Nat → Int64) (H : Heap) (locs : List Loc) (ls : Array Slot), pX3_fillRow_45B v1 v2 v3 K_45 v4 od_row = some out → va_P (dC, dI) vwCl (wdX3_fillRow cyI cyZ cyJ cyB cyO h_od a_od_row od_row) H → va_D A (wdX3_fillRow cyI cyZ cyJ cyB cyO h_od a_od_row od_row) → va_S A s.heap H locs → lv_has ls 6 [(0, .ref h_od), (1, .int v1), (2, .int v2), (3, .int v3), (4, .int v4)] → W p l e ({ frames := 2, cells := 0, slots := 0, locals := 49 } : Room) s m args below meth c H locs 0 0 Q (F0 m 45 ls []) := by
  intro v4 od_row H locs ls hp hP hD hS hl
  unfold pX3_fillRow_45B at hp
  refine lv_iload hx hb dX3_fillRow_45 (lv_at hl 4 rfl) ?_
  refine lv_iload_n hx hb dX3_fillRow_47 rfl (lv_at hl 1 rfl) ?_
  refine lv_icmp_ge (tgt := 95) hx hb dX3_fillRow_48 (by decide) (fun c_2 => ?_) (fun c_2 => ?_)
  · have hp := px_t hp c_2
    have ho := px_s hp
    subst ho
    exact hQ _ _ _ _ hP hD hS dX3_fillRow_95
  · have hp := px_f hp c_2
    refine lv_iload_n hx hb dX3_fillRow_51 rfl (lv_at hl 2 rfl) ?_
    refine lv_aload_n hx hb dX3_fillRow_52 rfl (lv_at hl 0 rfl) ?_
    refine va_get (D := (dC, dI)) (ci := 3) (v := .ref a_od_row) (C := RX3) (T := TX3) (N := 1) hx hb hts fX3_fillRow_X3 hown hK hP 0 rfl rfl 0 (by decide) (hts _ kX3_fillRow_1) (fun _ h9 => h9) rfl dX3_fillRow_53 ?_
    refine va_alen (D := (dC, dI)) (v := (17 : Int32)) hx hb hK hP 1 2 rfl rfl rfl dX3_fillRow_56 ?_
    refine lv_iconst (v := (1 : Int32)) hx hb dX3_fillRow_57 (by decide) ?_
    refine lv_isub hx hb dX3_fillRow_58 ?_
    refine va_mmin hx hb (by rw [hml]; exact hl.1.symm) hown (hts _ kX3_fillRow_2) (hts _ kX3_fillRow_3) (hts _ kX3_fillRow_4) (hts _ kX3_fillRow_5) (Nat.le_of_ble_eq_true rfl) (Nat.le_of_ble_eq_true rfl) (Nat.zero_le _) (Nat.zero_le _) dX3_fillRow_59 ?_
    refine lv_topi (fun x_3 ex_3 => ?_)
    have hp := px_lt_at hp ex_3
    refine lv_istore (lv' := [(5, .int x_3), (0, .ref h_od), (1, .int v1), (2, .int v2), (3, .int v3), (4, .int v4)]) hx hb dX3_fillRow_62 hl (by decide) rfl (fun ls hl => ?_)
    exact lcX3_fillRow_64 dC dI cyI cyZ cyJ cyB cyO h_od a_od_row od_row v1 v2 v3 out hx hb hml hts hown hK hN hA hQ K_45 hK_45 px_FU v4 x_3 od_row _ _ ls hp hP hD hS (lv_sub hl [1, 2, 3, 4, 5, 0] rfl)
theorem lcX3_fillRow_45 {p : Program} {l : Launch} {e : Env} {s : State} {m : MethodId} {args : Array Value} {below : List Frame} {meth : Method} {c : Code} {Q : State → Prop} {A : Nat → Prop} (dC : Nat → ClassId) (dI : Nat → Nat → Nat) (cyI cyZ cyJ cyB cyO : ClassId) (h_od a_od_row : Nat) (od_row : Nat → Int64) (v1 : Int32) (v2 : Int32) (v3 : Int32) (out : (Nat → Int64)) (hx : p.tables.exec = Jvm.exec) (hb : c.code = cX3_fillRow) (hml : c.maxLocals = 6) (hts : ∀ w ∈ wsX3_fillRow, w.before args s = true) (hown : s.vm.findClass RX3 = some m.cls) (hK : va_K (dC, dI) vwCl (px_TY cyI cyZ cyJ cyB cyO) s) (hN : px_NW s) (hA : ∀ q : Nat, s.heap.size ≤ q → A q) (hQ : ∀ (H : Heap) (locs : List Loc) (pc : Nat) (ls : Array Slot), va_P (dC, dI) vwCl (wdX3_fillRow cyI cyZ cyJ cyB cyO h_od a_od_row out) H → va_D A (wdX3_fillRow cyI cyZ cyJ cyB cyO h_od a_od_row out) → va_S A s.heap H locs → decode cX3_fillRow pc = .ok (.return_, 1) → W p l e ({ frames := 2, cells := 0, slots := 0, locals := 49 } : Room) s m args below meth c H locs 0 0 Q (F0 m pc ls []))  : ∀ n : Nat, ∀ (v4 : Int32) (od_row : Nat → Int64) (H : Heap) (locs : List Loc) (ls : Array Slot), pX3_fillRow_45 v1 v2 v3 n v4 od_row = some out → va_P (dC, dI) vwCl (wdX3_fillRow cyI cyZ cyJ cyB cyO h_od a_od_row od_row) H → va_D A (wdX3_fillRow cyI cyZ cyJ cyB cyO h_od a_od_row od_row) → va_S A s.heap H locs → lv_has ls 6 [(0, .ref h_od), (1, .int v1), (2, .int v2), (3, .int v3), (4, .int v4)] → W p l e ({ frames := 2, cells := 0, slots := 0, locals := 49 } : Room) s m args below meth c H locs 0 0 Q (F0 m 45 ls []) := by
  intro n
  induction n with
  | zero =>
    intro v4 od_row H locs ls hp hP hD hS hl
    exact nomatch hp
  | succ n ih => exact lcX3_fillRow_45B dC dI cyI cyZ cyJ cyB cyO h_od a_od_row od_row v1 v2 v3 out hx hb hml hts hown hK hN hA hQ (pX3_fillRow_45 v1 v2 v3 n) ih
set_option maxHeartbeats 4000000 in
set_option maxRecDepth 100000 in
theorem lcX3_fillRow_3B {p : Program} {l : Launch} {e : Env} {s : State} {m : MethodId} {args : Array Value} {below : List Frame} {meth : Method} {c : Code} {Q : State → Prop} {A : Nat → Prop} (dC : Nat → ClassId) (dI : Nat → Nat → Nat) (cyI cyZ cyJ cyB cyO : ClassId) (h_od a_od_row : Nat) (od_row : Nat → Int64) (v1 : Int32) (v2 : Int32) (v3 : Int32) (out : (Nat → Int64)) (hx : p.tables.exec = Jvm.exec) (hb : c.code = cX3_fillRow) (hml : c.maxLocals = 6) (hts : ∀ w ∈ wsX3_fillRow, w.before args s = true) (hown : s.vm.findClass RX3 = some m.cls) (hK : va_K (dC, dI) vwCl (px_TY cyI cyZ cyJ cyB cyO) s) (hN : px_NW s) (hA : ∀ q : Nat, s.heap.size ≤ q → A q) (hQ : ∀ (H : Heap) (locs : List Loc) (pc : Nat) (ls : Array Slot), va_P (dC, dI) vwCl (wdX3_fillRow cyI cyZ cyJ cyB cyO h_od a_od_row out) H → va_D A (wdX3_fillRow cyI cyZ cyJ cyB cyO h_od a_od_row out) → va_S A s.heap H locs → decode cX3_fillRow pc = .ok (.return_, 1) → W p l e ({ frames := 2, cells := 0, slots := 0, locals := 49 } : Room) s m args below meth c H locs 0 0 Q (F0 m pc ls []))  (K_3 : Int32 → (Nat → Int64) → Option ((Nat → Int64))) (hK_3 : ∀ (v4 : Int32) (od_row : Nat → Int64) (H : Heap) (locs : List Loc) (ls : Array Slot), K_3 v4 od_row = some out → va_P (dC, dI) vwCl (wdX3_fillRow cyI cyZ cyJ cyB cyO h_od a_od_row od_row) H → va_D A (wdX3_fillRow cyI cyZ cyJ cyB cyO h_od a_od_row od_row) → va_S A s.heap H locs → lv_has ls 6 [(0, .ref h_od), (1, .int v1), (2, .int v2), (3, .int v3), (4, .int v4)] → W p l e ({ frames := 2, cells := 0, slots := 0, locals := 49 } : Room) s m args below meth c H locs 0 0 Q (F0 m 3 ls [])) : ∀ (v4 : Int32) (od_row : Nat → Int64) (H : Heap) (locs : List Loc) (ls : Array Slot), pX3_fillRow_3B v1 v2 v3 K_3 v4 od_row = some out → va_P (dC, dI) vwCl (wdX3_fillRow cyI cyZ cyJ cyB cyO h_od a_od_row od_row) H → va_D A (wdX3_fillRow cyI cyZ cyJ cyB cyO h_od a_od_row od_row) → va_S A s.heap H locs → lv_has ls 6 [(0, .ref h_od), (1, .int v1), (2, .int v2), (3, .int v3), (4, .int v4)] → W p l e ({ frames := 2, cells := 0, slots := 0, locals := 49 } : Room) s m args below meth c H locs 0 0 Q (F0 m 3 ls []) := by
  intro v4 od_row H locs ls hp hP hD hS hl
  unfold pX3_fillRow_3B at hp
  refine lv_iload hx hb dX3_fillRow_3 (lv_at hl 4 rfl) ?_
  refine lv_iload_n hx hb dX3_fillRow_5 rfl (lv_at hl 2 rfl) ?_
  refine lv_icmp_gt (tgt := 42) hx hb dX3_fillRow_6 (by decide) (fun c_1 => ?_) (fun c_1 => ?_)
  · have hp := px_t hp c_1
    refine lv_iconst (v := (0 : Int32)) hx hb dX3_fillRow_42 (by decide) ?_
    refine lv_istore (lv' := [(4, .int (0 : Int32)), (0, .ref h_od), (1, .int v1), (2, .int v2), (3, .int v3)]) hx hb dX3_fillRow_43 hl (by decide) rfl (fun ls hl => ?_)
    exact lcX3_fillRow_45 dC dI cyI cyZ cyJ cyB cyO h_od a_od_row od_row v1 v2 v3 out hx hb hml hts hown hK hN hA hQ px_FU (0 : Int32) od_row _ _ ls hp hP hD hS (lv_sub hl [1, 2, 3, 4, 0] rfl)
  · have hp := px_f hp c_1
    refine lv_iload hx hb dX3_fillRow_9 (lv_at hl 4 rfl) ?_
    refine lv_aload_n hx hb dX3_fillRow_11 rfl (lv_at hl 0 rfl) ?_
    refine va_get (D := (dC, dI)) (ci := 3) (v := .ref a_od_row) (C := RX3) (T := TX3) (N := 1) hx hb hts fX3_fillRow_X3 hown hK hP 0 rfl rfl 0 (by decide) (hts _ kX3_fillRow_1) (fun _ h9 => h9) rfl dX3_fillRow_12 ?_
    refine va_alen (D := (dC, dI)) (v := (17 : Int32)) hx hb hK hP 1 2 rfl rfl rfl dX3_fillRow_15 ?_
    refine lv_icmp_ge (tgt := 42) hx hb dX3_fillRow_16 (by decide) (fun c_7 => ?_) (fun c_7 => ?_)
    · have hp := px_t hp c_7
      refine lv_iconst (v := (0 : Int32)) hx hb dX3_fillRow_42 (by decide) ?_
      refine lv_istore (lv' := [(4, .int (0 : Int32)), (0, .ref h_od), (1, .int v1), (2, .int v2), (3, .int v3)]) hx hb dX3_fillRow_43 hl (by decide) rfl (fun ls hl => ?_)
      exact lcX3_fillRow_45 dC dI cyI cyZ cyJ cyB cyO h_od a_od_row od_row v1 v2 v3 out hx hb hml hts hown hK hN hA hQ px_FU (0 : Int32) od_row _ _ ls hp hP hD hS (lv_sub hl [1, 2, 3, 4, 0] rfl)
    · have hp := px_f hp c_7
      refine lv_aload_n hx hb dX3_fillRow_19 rfl (lv_at hl 0 rfl) ?_
      refine va_get (D := (dC, dI)) (ci := 3) (v := .ref a_od_row) (C := RX3) (T := TX3) (N := 1) hx hb hts fX3_fillRow_X3 hown hK hP 0 rfl rfl 0 (by decide) (hts _ kX3_fillRow_1) (fun _ h9 => h9) rfl dX3_fillRow_20 ?_
      refine lv_iload hx hb dX3_fillRow_23 (lv_at hl 4 rfl) ?_
      refine lv_iload hx hb dX3_fillRow_25 (lv_at hl 4 rfl) ?_
      refine lv_if_ne (tgt := 34) hx hb dX3_fillRow_27 (by decide) (fun c_8 => ?_) (fun c_8 => ?_)
      · have hp := px_f hp c_8
        refine lv_lconst (v := (0 : Int64)) hx hb dX3_fillRow_34 (by decide) ?_
        obtain ⟨g_9, hp⟩ := px_i_at hp
        refine va_last (D := (dC, dI)) hx hb hK hP hD hS 1 2 rfl rfl g_9 dX3_fillRow_35 (fun H locs hP hD hS => ?_)
        have hP : va_P (dC, dI) vwCl (wdX3_fillRow cyI cyZ cyJ cyB cyO h_od a_od_row (vp_updL od_row (Int32.toNatClampNeg v4) (0 : Int64))) H := hP
        have hD : va_D A (wdX3_fillRow cyI cyZ cyJ cyB cyO h_od a_od_row (vp_updL od_row (Int32.toNatClampNeg v4) (0 : Int64))) := hD
        refine lv_iinc (v := (v4 + (1 : Int32))) (lv' := [(4, .int (v4 + (1 : Int32))), (0, .ref h_od), (1, .int v1), (2, .int v2), (3, .int v3)]) hx hb dX3_fillRow_36 hl (k := 4) rfl rfl (by decide) rfl (fun ls hl => ?_)
        refine lv_goto (tgt := 3) hx hb dX3_fillRow_39 (by decide) ?_
        exact hK_3 (v4 + (1 : Int32)) (vp_updL od_row (Int32.toNatClampNeg v4) (0 : Int64)) _ _ ls hp hP hD hS (lv_sub hl [1, 2, 3, 4, 0] rfl)
      · have hp := px_t hp c_8
        refine lv_lconst (v := (1 : Int64)) hx hb dX3_fillRow_30 (by decide) ?_
        refine lv_goto (tgt := 35) hx hb dX3_fillRow_31 (by decide) ?_
        obtain ⟨g_10, hp⟩ := px_i_at hp
        refine va_last (D := (dC, dI)) hx hb hK hP hD hS 1 2 rfl rfl g_10 dX3_fillRow_35 (fun H locs hP hD hS => ?_)
        have hP : va_P (dC, dI) vwCl (wdX3_fillRow cyI cyZ cyJ cyB cyO h_od a_od_row (vp_updL od_row (Int32.toNatClampNeg v4) (1 : Int64))) H := hP
        have hD : va_D A (wdX3_fillRow cyI cyZ cyJ cyB cyO h_od a_od_row (vp_updL od_row (Int32.toNatClampNeg v4) (1 : Int64))) := hD
        refine lv_iinc (v := (v4 + (1 : Int32))) (lv' := [(4, .int (v4 + (1 : Int32))), (0, .ref h_od), (1, .int v1), (2, .int v2), (3, .int v3)]) hx hb dX3_fillRow_36 hl (k := 4) rfl rfl (by decide) rfl (fun ls hl => ?_)
        refine lv_goto (tgt := 3) hx hb dX3_fillRow_39 (by decide) ?_
        exact hK_3 (v4 + (1 : Int32)) (vp_updL od_row (Int32.toNatClampNeg v4) (1 : Int64)) _ _ ls hp hP hD hS (lv_sub hl [1, 2, 3, 4, 0] rfl)
theorem lcX3_fillRow_3 {p : Program} {l : Launch} {e : Env} {s : State} {m : MethodId} {args : Array Value} {below : List Frame} {meth : Method} {c : Code} {Q : State → Prop} {A : Nat → Prop} (dC : Nat → ClassId) (dI : Nat → Nat → Nat) (cyI cyZ cyJ cyB cyO : ClassId) (h_od a_od_row : Nat) (od_row : Nat → Int64) (v1 : Int32) (v2 : Int32) (v3 : Int32) (out : (Nat → Int64)) (hx : p.tables.exec = Jvm.exec) (hb : c.code = cX3_fillRow) (hml : c.maxLocals = 6) (hts : ∀ w ∈ wsX3_fillRow, w.before args s = true) (hown : s.vm.findClass RX3 = some m.cls) (hK : va_K (dC, dI) vwCl (px_TY cyI cyZ cyJ cyB cyO) s) (hN : px_NW s) (hA : ∀ q : Nat, s.heap.size ≤ q → A q) (hQ : ∀ (H : Heap) (locs : List Loc) (pc : Nat) (ls : Array Slot), va_P (dC, dI) vwCl (wdX3_fillRow cyI cyZ cyJ cyB cyO h_od a_od_row out) H → va_D A (wdX3_fillRow cyI cyZ cyJ cyB cyO h_od a_od_row out) → va_S A s.heap H locs → decode cX3_fillRow pc = .ok (.return_, 1) → W p l e ({ frames := 2, cells := 0, slots := 0, locals := 49 } : Room) s m args below meth c H locs 0 0 Q (F0 m pc ls []))  : ∀ n : Nat, ∀ (v4 : Int32) (od_row : Nat → Int64) (H : Heap) (locs : List Loc) (ls : Array Slot), pX3_fillRow_3 v1 v2 v3 n v4 od_row = some out → va_P (dC, dI) vwCl (wdX3_fillRow cyI cyZ cyJ cyB cyO h_od a_od_row od_row) H → va_D A (wdX3_fillRow cyI cyZ cyJ cyB cyO h_od a_od_row od_row) → va_S A s.heap H locs → lv_has ls 6 [(0, .ref h_od), (1, .int v1), (2, .int v2), (3, .int v3), (4, .int v4)] → W p l e ({ frames := 2, cells := 0, slots := 0, locals := 49 } : Room) s m args below meth c H locs 0 0 Q (F0 m 3 ls []) := by
  intro n
  induction n with
  | zero =>
    intro v4 od_row H locs ls hp hP hD hS hl
    exact nomatch hp
  | succ n ih => exact lcX3_fillRow_3B dC dI cyI cyZ cyJ cyB cyO h_od a_od_row od_row v1 v2 v3 out hx hb hml hts hown hK hN hA hQ (pX3_fillRow_3 v1 v2 v3 n) ih
set_option maxHeartbeats 4000000 in
set_option maxRecDepth 100000 in
theorem ccX3_fillRow (l : Launch) (dC : Nat → ClassId) (dI : Nat → Nat → Nat) (cyI cyZ cyJ cyB cyO : ClassId) (sz : Nat) (h_od a_od_row : Nat) (od_row : Nat → Int64) (v1 : Int32) (v2 : Int32) (v3 : Int32) (out : (Nat → Int64)) (hp : pX3_fillRow v1 v2 v3 od_row = some out) : Met l yX3_fillRow wsX3_fillRow ({ frames := 2, cells := 0, slots := 0, locals := 49 } : Room) (px_PW (dC, dI) (px_TY cyI cyZ cyJ cyB cyO) [.ref h_od, .int v1, .int v2, .int v3] (wdX3_fillRow cyI cyZ cyJ cyB cyO h_od a_od_row od_row) sz) (px_QW none (dC, dI) (wdX3_fillRow cyI cyZ cyJ cyB cyO h_od a_od_row od_row) (wdX3_fillRow cyI cyZ cyJ cyB cyO h_od a_od_row out) sz) 0 0 (va_A (wdX3_fillRow cyI cyZ cyJ cyB cyO h_od a_od_row od_row) sz) := by
  refine Met.ofW (cc := cX3_fillRow) (maxL := 6) (ret := none) (by decide) rfl ?_
  intro p e s m args below meth c s₁ B hml hv
  obtain ⟨rfl, hsz, hP, hK, hD0, hN⟩ := hv
  have hx := B.exec
  have hb := B.bytes
  have hr := B.returns
  have hts := atoms_spec (ws := wsX3_fillRow) B.pre
  have hown : s.vm.findClass RX3 = some m.cls := findClass_of_methodNamed B.named
  have hlocks := B.notSynchronized
  subst hsz
  have hD := hD0.self (sz := s.heap.size)
  generalize hAe : va_A (wdX3_fillRow cyI cyZ cyJ cyB cyO h_od a_od_row od_row) s.heap.size = A at hD ⊢
  have hA : ∀ q : Nat, s.heap.size ≤ q → A q := fun q h => by rw [← hAe]; exact Or.inr h
  have hS : va_S A s.heap s.heap [] := va_S.rf
  have hq := px_QWe (v := none) (D := (dC, dI)) (w1 := (wdX3_fillRow cyI cyZ cyJ cyB cyO h_od a_od_row out)) (st := s) hAe
  generalize px_QW none (dC, dI) (wdX3_fillRow cyI cyZ cyJ cyB cyO h_od a_od_row od_row) (wdX3_fillRow cyI cyZ cyJ cyB cyO h_od a_od_row out) s.heap.size = Qc at hq ⊢
  have hQ : ∀ (H : Heap) (locs : List Loc) (pc : Nat) (ls : Array Slot), va_P (dC, dI) vwCl (wdX3_fillRow cyI cyZ cyJ cyB cyO h_od a_od_row out) H → va_D A (wdX3_fillRow cyI cyZ cyJ cyB cyO h_od a_od_row out) → va_S A s.heap H locs → decode cX3_fillRow pc = .ok (.return_, 1) → W p l e ({ frames := 2, cells := 0, slots := 0, locals := 49 } : Room) s m (([.ref h_od, .int v1, .int v2, .int v3] : List Value).toArray) below meth c H locs 0 0 (MQ below Qc (([.ref h_od, .int v1, .int v2, .int v3] : List Value).toArray) s 0 0 A) (F0 m pc ls []) := fun H locs pc ls hP hD hS hd => W.vret hx hb hr (fun t ht hW => hq _ t (by rw [ht]; exact hP) hD (hS.F ht)) hS.2.2 hd
  generalize MQ below Qc (([.ref h_od, .int v1, .int v2, .int v3] : List Value).toArray) s 0 0 A = Q at hQ ⊢
  have hl := lv_entry [.ref h_od, .int v1, .int v2, .int v3] (n := 6) (Nat.le_of_ble_eq_true rfl)
  rw [lg_entry_eq]
  generalize (lg_sl [.ref h_od, .int v1, .int v2, .int v3] ++ List.replicate (6 - (lg_sl [.ref h_od, .int v1, .int v2, .int v3]).length) Slot.unset).toArray = ls at hl ⊢
  have hl : lv_has ls 6 [(0, .ref h_od), (1, .int v1), (2, .int v2), (3, .int v3)] := hl
  unfold pX3_fillRow at hp
  refine lv_iconst (v := (0 : Int32)) hx hb dX3_fillRow_0 (by decide) ?_
  refine lv_istore (lv' := [(4, .int (0 : Int32)), (0, .ref h_od), (1, .int v1), (2, .int v2), (3, .int v3)]) hx hb dX3_fillRow_1 hl (by decide) rfl (fun ls hl => ?_)
  exact lcX3_fillRow_3 dC dI cyI cyZ cyJ cyB cyO h_od a_od_row od_row v1 v2 v3 out hx hb hml hts hown hK hN hA hQ px_FU (0 : Int32) od_row _ _ ls hp hP hD hS (lv_sub hl [1, 2, 3, 4, 0] rfl)
/-! TagReader$Odds.waysWithAlone(III)J -/
theorem hvX3_waysWithAlone : yX3_waysWithAlone.cls = RX3 ∧ yX3_waysWithAlone.cls ≠ "java/lang/invoke/MethodHandle" ∧ yX3_waysWithAlone.cls ≠ "java/lang/invoke/VarHandle" ∧ (parseMethodDescriptor yX3_waysWithAlone.desc).map (fun d => d.parameters.length) = some 3 := by decide +kernel
set_option maxHeartbeats 4000000 in
set_option maxRecDepth 100000 in
theorem ccX3_waysWithAlone (l : Launch) (dC : Nat → ClassId) (dI : Nat → Nat → Nat) (cyI cyZ cyJ cyB cyO : ClassId) (sz : Nat) (h_od a_od_row : Nat) (od_row : Nat → Int64) (v1 : Int32) (v2 : Int32) (v3 : Int32) (out : Int64 × (Nat → Int64)) (hp : pX3_waysWithAlone v1 v2 v3 od_row = some out) : Met l yX3_waysWithAlone wsX3_waysWithAlone ({ frames := 3, cells := 0, slots := 0, locals := 74 } : Room) (px_PW (dC, dI) (px_TY cyI cyZ cyJ cyB cyO) [.ref h_od, .int v1, .int v2, .int v3] (wdX3_waysWithAlone cyI cyZ cyJ cyB cyO h_od a_od_row od_row) sz) (px_QW (some (.long out.1)) (dC, dI) (wdX3_waysWithAlone cyI cyZ cyJ cyB cyO h_od a_od_row od_row) (wdX3_waysWithAlone cyI cyZ cyJ cyB cyO h_od a_od_row out.2) sz) 0 0 (va_A (wdX3_waysWithAlone cyI cyZ cyJ cyB cyO h_od a_od_row od_row) sz) := by
  refine Met.ofW (cc := cX3_waysWithAlone) (maxL := 4) (ret := (some .long)) (by decide) rfl ?_
  intro p e s m args below meth c s₁ B hml hv
  obtain ⟨rfl, hsz, hP, hK, hD0, hN⟩ := hv
  have hx := B.exec
  have hb := B.bytes
  have hr := B.returns
  have hts := atoms_spec (ws := wsX3_waysWithAlone) B.pre
  have hown : s.vm.findClass RX3 = some m.cls := findClass_of_methodNamed B.named
  have hlocks := B.notSynchronized
  subst hsz
  have hD := hD0.self (sz := s.heap.size)
  generalize hAe : va_A (wdX3_waysWithAlone cyI cyZ cyJ cyB cyO h_od a_od_row od_row) s.heap.size = A at hD ⊢
  have hA : ∀ q : Nat, s.heap.size ≤ q → A q := fun q h => by rw [← hAe]; exact Or.inr h
  have hS : va_S A s.heap s.heap [] := va_S.rf
  have hq := px_QWe (v := (some (.long out.1))) (D := (dC, dI)) (w1 := (wdX3_waysWithAlone cyI cyZ cyJ cyB cyO h_od a_od_row out.2)) (st := s) hAe
  generalize px_QW (some (.long out.1)) (dC, dI) (wdX3_waysWithAlone cyI cyZ cyJ cyB cyO h_od a_od_row od_row) (wdX3_waysWithAlone cyI cyZ cyJ cyB cyO h_od a_od_row out.2) s.heap.size = Qc at hq ⊢
  have hQ : ∀ (H : Heap) (locs : List Loc) (pc : Nat) (ls : Array Slot), va_P (dC, dI) vwCl (wdX3_waysWithAlone cyI cyZ cyJ cyB cyO h_od a_od_row out.2) H → va_D A (wdX3_waysWithAlone cyI cyZ cyJ cyB cyO h_od a_od_row out.2) → va_S A s.heap H locs → decode cX3_waysWithAlone pc = .ok (.lreturn, 1) → W p l e ({ frames := 3, cells := 0, slots := 0, locals := 74 } : Room) s m (([.ref h_od, .int v1, .int v2, .int v3] : List Value).toArray) below meth c H locs 0 0 (MQ below Qc (([.ref h_od, .int v1, .int v2, .int v3] : List Value).toArray) s 0 0 A) (F0 m pc ls [.long out.1]) := fun H locs pc ls hP hD hS hd => W.lret hx hb hr (fun t ht hW => hq _ t (by rw [ht]; exact hP) hD (hS.F ht)) hS.2.2 hd
  generalize MQ below Qc (([.ref h_od, .int v1, .int v2, .int v3] : List Value).toArray) s 0 0 A = Q at hQ ⊢
  have hl := lv_entry [.ref h_od, .int v1, .int v2, .int v3] (n := 4) (Nat.le_of_ble_eq_true rfl)
  rw [lg_entry_eq]
  generalize (lg_sl [.ref h_od, .int v1, .int v2, .int v3] ++ List.replicate (4 - (lg_sl [.ref h_od, .int v1, .int v2, .int v3]).length) Slot.unset).toArray = ls at hl ⊢
  have hl : lv_has ls 4 [(0, .ref h_od), (1, .int v1), (2, .int v2), (3, .int v3)] := hl
  unfold pX3_waysWithAlone at hp
  refine lv_iload_n hx hb dX3_waysWithAlone_0 rfl (lv_at hl 3 rfl) ?_
  refine lv_iload_n hx hb dX3_waysWithAlone_1 rfl (lv_at hl 1 rfl) ?_
  refine lv_icmp_gt (tgt := 10) hx hb dX3_waysWithAlone_2 (by decide) (fun c_1 => ?_) (fun c_1 => ?_)
  · have hp := px_t hp c_1
    refine lv_lconst (v := (0 : Int64)) hx hb dX3_waysWithAlone_10 (by decide) ?_
    have ho := px_s hp
    subst ho
    exact hQ _ _ _ _ hP hD hS dX3_waysWithAlone_11
  · have hp := px_f hp c_1
    refine lv_iload_n hx hb dX3_waysWithAlone_5 rfl (lv_at hl 3 rfl) ?_
    refine lv_iload_n hx hb dX3_waysWithAlone_6 rfl (lv_at hl 2 rfl) ?_
    refine lv_icmp_le (tgt := 12) hx hb dX3_waysWithAlone_7 (by decide) (fun c_2 => ?_) (fun c_2 => ?_)
    · have hp := px_t hp c_2
      refine lv_aload_n hx hb dX3_waysWithAlone_12 rfl (lv_at hl 0 rfl) ?_
      refine lv_iload_n hx hb dX3_waysWithAlone_13 rfl (lv_at hl 1 rfl) ?_
      refine lv_iload_n hx hb dX3_waysWithAlone_14 rfl (lv_at hl 3 rfl) ?_
      refine lv_isub hx hb dX3_waysWithAlone_15 ?_
      refine lv_iload_n hx hb dX3_waysWithAlone_16 rfl (lv_at hl 2 rfl) ?_
      refine lv_iload_n hx hb dX3_waysWithAlone_17 rfl (lv_at hl 3 rfl) ?_
      refine lv_isub hx hb dX3_waysWithAlone_18 ?_
      refine lv_iconst (v := (1 : Int32)) hx hb dX3_waysWithAlone_19 (by decide) ?_
      obtain ⟨o_3, ho_3, hp⟩ := px_b_at hp
      refine px_callWv (wc := (wdX3_fillRow cyI cyZ cyJ cyB cyO h_od a_od_row od_row)) (wr := []) (w1 := (wdX3_fillRow cyI cyZ cyJ cyB cyO h_od a_od_row o_3)) (ws2 := (wdX3_waysWithAlone cyI cyZ cyJ cyB cyO h_od a_od_row o_3)) (va_runV (As := [.int (v1 - v3), .int (v2 - v3), .int (1 : Int32)]) (rest := []) ⟨hx, hb, hml, hown, hts⟩ (ccX3_fillRow l dC dI cyI cyZ cyJ cyB cyO _ h_od a_od_row od_row (v1 - v3) (v2 - v3) (1 : Int32) o_3 ho_3) (cwV 3 hts gX3_waysWithAlone_X3_fillRow rfl rfl rfl hvX3_fillRow ⟨Nat.le_of_ble_eq_true rfl, Nat.le_of_ble_eq_true rfl⟩) (px_preWV (wc := (wdX3_fillRow cyI cyZ cyJ cyB cyO h_od a_od_row od_row)) (ci := 3) (q0 := 0) hK hN hP hD [0, 1] (by decide) rfl rfl rfl) rfl rfl hl.1 rfl (lv_room (Nat.le_of_ble_eq_true rfl)) dX3_waysWithAlone_20 ⟨Nat.zero_le _, Nat.zero_le _⟩) hP hD hS hA [0, 1] [] [0, 1] rfl rfl (by decide) (by decide) (by decide) rfl (fun H locs hP hD hS => ?_)
      refine lv_iload_n hx hb dX3_waysWithAlone_23 rfl (lv_at hl 1 rfl) ?_
      refine lv_iload_n hx hb dX3_waysWithAlone_24 rfl (lv_at hl 3 rfl) ?_
      obtain ⟨o_4, ho_4, hp⟩ := px_b_at hp
      refine px_callR (v := .long o_4) (va_runS (As := [.int v1, .int v3]) (rest := []) ⟨hx, hb, hml, hown, hts⟩ (ccX3_choose l dC dI cyI cyZ cyJ cyB cyO v1 v3 o_4 ho_4) (va_cwS 2 hts gX3_waysWithAlone_X3_choose rfl rfl rfl hsX3_choose ⟨Nat.le_of_ble_eq_true rfl, Nat.le_of_ble_eq_true rfl⟩) (px_preR (wc := []) hK hN hP [] rfl) rfl rfl hl.1 rfl (lv_room (Nat.le_of_ble_eq_true rfl)) dX3_waysWithAlone_25 ⟨Nat.zero_le _, Nat.zero_le _⟩) ?_
      refine lv_iload_n hx hb dX3_waysWithAlone_28 rfl (lv_at hl 2 rfl) ?_
      refine lv_iload_n hx hb dX3_waysWithAlone_29 rfl (lv_at hl 3 rfl) ?_
      obtain ⟨o_5, ho_5, hp⟩ := px_b_at hp
      refine px_callR (v := .long o_5) (va_runS (As := [.int v2, .int v3]) (rest := [.long o_4]) ⟨hx, hb, hml, hown, hts⟩ (ccX3_arranged l dC dI cyI cyZ cyJ cyB cyO v2 v3 o_5 ho_5) (va_cwS 2 hts gX3_waysWithAlone_X3_arranged rfl rfl rfl hsX3_arranged ⟨Nat.le_of_ble_eq_true rfl, Nat.le_of_ble_eq_true rfl⟩) (px_preR (wc := []) hK hN hP [] rfl) rfl rfl hl.1 rfl (lv_room (Nat.le_of_ble_eq_true rfl)) dX3_waysWithAlone_30 ⟨Nat.zero_le _, Nat.zero_le _⟩) ?_
      refine lv_lmul hx hb dX3_waysWithAlone_33 ?_
      refine lv_aload_n hx hb dX3_waysWithAlone_34 rfl (lv_at hl 0 rfl) ?_
      refine lv_iload_n hx hb dX3_waysWithAlone_35 rfl (lv_at hl 2 rfl) ?_
      refine lv_iload_n hx hb dX3_waysWithAlone_36 rfl (lv_at hl 3 rfl) ?_
      refine lv_isub hx hb dX3_waysWithAlone_37 ?_
      obtain ⟨o_6, ho_6, hp⟩ := px_b_at hp
      refine px_callR (v := .long o_6) (va_runV (As := [.int (v2 - v3)]) (rest := [.long (o_4 * o_5)]) ⟨hx, hb, hml, hown, hts⟩ (ccX3_waysAt l dC dI cyI cyZ cyJ cyB cyO h_od a_od_row o_3 (v2 - v3) o_6 ho_6) (cwV 1 hts gX3_waysWithAlone_X3_waysAt rfl rfl rfl hvX3_waysAt ⟨Nat.le_of_ble_eq_true rfl, Nat.le_of_ble_eq_true rfl⟩) (px_preRV (wc := (wdX3_waysAt cyI cyZ cyJ cyB cyO h_od a_od_row o_3)) (ci := 3) (q0 := 0) hK hN hP [0, 1] rfl rfl rfl) rfl rfl hl.1 rfl (lv_room (Nat.le_of_ble_eq_true rfl)) dX3_waysWithAlone_38 ⟨Nat.zero_le _, Nat.zero_le _⟩) ?_
      refine lv_lmul hx hb dX3_waysWithAlone_41 ?_
      have ho := px_s hp
      subst ho
      exact hQ _ _ _ _ hP hD hS dX3_waysWithAlone_42
    · have hp := px_f hp c_2
      refine lv_lconst (v := (0 : Int64)) hx hb dX3_waysWithAlone_10 (by decide) ?_
      have ho := px_s hp
      subst ho
      exact hQ _ _ _ _ hP hD hS dX3_waysWithAlone_11
/-! TagReader$Odds.waysToShow(IIII)J -/
theorem hvX3_waysToShow : yX3_waysToShow.cls = RX3 ∧ yX3_waysToShow.cls ≠ "java/lang/invoke/MethodHandle" ∧ yX3_waysToShow.cls ≠ "java/lang/invoke/VarHandle" ∧ (parseMethodDescriptor yX3_waysToShow.desc).map (fun d => d.parameters.length) = some 4 := by decide +kernel
set_option maxHeartbeats 4000000 in
set_option maxRecDepth 100000 in
theorem ccX3_waysToShow (l : Launch) (dC : Nat → ClassId) (dI : Nat → Nat → Nat) (cyI cyZ cyJ cyB cyO : ClassId) (h_od a_od_row : Nat) (od_row : Nat → Int64) (v1 : Int32) (v2 : Int32) (v3 : Int32) (v4 : Int32) (out : Int64) (hp : pX3_waysToShow v1 v2 v3 v4 od_row = some out) : Met l yX3_waysToShow wsX3_waysToShow ({ frames := 1, cells := 0, slots := 0, locals := 24 } : Room) (px_PR (dC, dI) (px_TY cyI cyZ cyJ cyB cyO) [.ref h_od, .int v1, .int v2, .int v3, .int v4] (wdX3_waysToShow cyI cyZ cyJ cyB cyO h_od a_od_row od_row)) (px_QR (.long out)) 0 0 (fun _ => False) := by
  refine Met.ofW (cc := cX3_waysToShow) (maxL := 5) (ret := (some .long)) (by decide) rfl ?_
  intro p e s m args below meth c s₁ B hml hv
  obtain ⟨rfl, hP, hK, hN⟩ := hv
  have hx := B.exec
  have hb := B.bytes
  have hr := B.returns
  have hts := atoms_spec (ws := wsX3_waysToShow) B.pre
  have hown : s.vm.findClass RX3 = some m.cls := findClass_of_methodNamed B.named
  have hlocks := B.notSynchronized
  have hQ : ∀ (pc : Nat) (ls : Array Slot), decode cX3_waysToShow pc = .ok (.lreturn, 1) → W p l e ({ frames := 1, cells := 0, slots := 0, locals := 24 } : Room) s m (([.ref h_od, .int v1, .int v2, .int v3, .int v4] : List Value).toArray) below meth c s.heap [] 0 0 (MQ below (px_QR (.long out)) (([.ref h_od, .int v1, .int v2, .int v3, .int v4] : List Value).toArray) s 0 0 (fun _ => False)) (F0 m pc ls [.long out]) := fun pc ls hd => W.lret hx hb hr (fun t ht hW => ⟨rfl, ht⟩) (fun q h => by cases h) hd
  generalize MQ below (px_QR (.long out)) (([.ref h_od, .int v1, .int v2, .int v3, .int v4] : List Value).toArray) s 0 0 (fun _ => False) = Q at hQ ⊢
  have hl := lv_entry [.ref h_od, .int v1, .int v2, .int v3, .int v4] (n := 5) (Nat.le_of_ble_eq_true rfl)
  rw [lg_entry_eq]
  generalize (lg_sl [.ref h_od, .int v1, .int v2, .int v3, .int v4] ++ List.replicate (5 - (lg_sl [.ref h_od, .int v1, .int v2, .int v3, .int v4]).length) Slot.unset).toArray = ls at hl ⊢
  have hl : lv_has ls 5 [(0, .ref h_od), (1, .int v1), (2, .int v2), (3, .int v3), (4, .int v4)] := hl
  unfold pX3_waysToShow at hp
  refine lv_iload_n hx hb dX3_waysToShow_0 rfl (lv_at hl 1 rfl) ?_
  refine lv_iload_n hx hb dX3_waysToShow_1 rfl (lv_at hl 3 rfl) ?_
  refine lv_icmp_ge (tgt := 7) hx hb dX3_waysToShow_2 (by decide) (fun c_1 => ?_) (fun c_1 => ?_)
  · have hp := px_t hp c_1
    refine lv_iload_n hx hb dX3_waysToShow_7 rfl (lv_at hl 2 rfl) ?_
    refine lv_iload_n hx hb dX3_waysToShow_8 rfl (lv_at hl 3 rfl) ?_
    refine lv_iadd hx hb dX3_waysToShow_9 ?_
    refine lv_iload hx hb dX3_waysToShow_10 (lv_at hl 4 rfl) ?_
    refine lv_iadd hx hb dX3_waysToShow_12 ?_
    refine lv_iload_n hx hb dX3_waysToShow_13 rfl (lv_at hl 2 rfl) ?_
    obtain ⟨o_2, ho_2, hp⟩ := px_b_at hp
    refine px_callR (v := .long o_2) (va_runS (As := [.int ((v2 + v3) + v4), .int v2]) (rest := []) ⟨hx, hb, hml, hown, hts⟩ (ccX3_choose l dC dI cyI cyZ cyJ cyB cyO ((v2 + v3) + v4) v2 o_2 ho_2) (va_cwS 2 hts gX3_waysToShow_X3_choose rfl rfl rfl hsX3_choose ⟨Nat.le_of_ble_eq_true rfl, Nat.le_of_ble_eq_true rfl⟩) (px_preR (wc := []) hK hN hP [] rfl) rfl rfl hl.1 rfl (lv_room (Nat.le_of_ble_eq_true rfl)) dX3_waysToShow_14 ⟨Nat.zero_le _, Nat.zero_le _⟩) ?_
    refine lv_iload_n hx hb dX3_waysToShow_17 rfl (lv_at hl 3 rfl) ?_
    refine lv_iload hx hb dX3_waysToShow_18 (lv_at hl 4 rfl) ?_
    refine lv_iadd hx hb dX3_waysToShow_20 ?_
    refine lv_iload_n hx hb dX3_waysToShow_21 rfl (lv_at hl 3 rfl) ?_
    obtain ⟨o_3, ho_3, hp⟩ := px_b_at hp
    refine px_callR (v := .long o_3) (va_runS (As := [.int (v3 + v4), .int v3]) (rest := [.long o_2]) ⟨hx, hb, hml, hown, hts⟩ (ccX3_choose l dC dI cyI cyZ cyJ cyB cyO (v3 + v4) v3 o_3 ho_3) (va_cwS 2 hts gX3_waysToShow_X3_choose rfl rfl rfl hsX3_choose ⟨Nat.le_of_ble_eq_true rfl, Nat.le_of_ble_eq_true rfl⟩) (px_preR (wc := []) hK hN hP [] rfl) rfl rfl hl.1 rfl (lv_room (Nat.le_of_ble_eq_true rfl)) dX3_waysToShow_22 ⟨Nat.zero_le _, Nat.zero_le _⟩) ?_
    refine lv_lmul hx hb dX3_waysToShow_25 ?_
    refine lv_iload_n hx hb dX3_waysToShow_26 rfl (lv_at hl 1 rfl) ?_
    refine lv_iload_n hx hb dX3_waysToShow_27 rfl (lv_at hl 3 rfl) ?_
    obtain ⟨o_4, ho_4, hp⟩ := px_b_at hp
    refine px_callR (v := .long o_4) (va_runS (As := [.int v1, .int v3]) (rest := [.long (o_2 * o_3)]) ⟨hx, hb, hml, hown, hts⟩ (ccX3_arranged l dC dI cyI cyZ cyJ cyB cyO v1 v3 o_4 ho_4) (va_cwS 2 hts gX3_waysToShow_X3_arranged rfl rfl rfl hsX3_arranged ⟨Nat.le_of_ble_eq_true rfl, Nat.le_of_ble_eq_true rfl⟩) (px_preR (wc := []) hK hN hP [] rfl) rfl rfl hl.1 rfl (lv_room (Nat.le_of_ble_eq_true rfl)) dX3_waysToShow_28 ⟨Nat.zero_le _, Nat.zero_le _⟩) ?_
    refine lv_lmul hx hb dX3_waysToShow_31 ?_
    refine lv_aload_n hx hb dX3_waysToShow_32 rfl (lv_at hl 0 rfl) ?_
    refine lv_iload_n hx hb dX3_waysToShow_33 rfl (lv_at hl 1 rfl) ?_
    refine lv_iload_n hx hb dX3_waysToShow_34 rfl (lv_at hl 3 rfl) ?_
    refine lv_isub hx hb dX3_waysToShow_35 ?_
    obtain ⟨o_5, ho_5, hp⟩ := px_b_at hp
    refine px_callR (v := .long o_5) (va_runV (As := [.int (v1 - v3)]) (rest := [.long ((o_2 * o_3) * o_4)]) ⟨hx, hb, hml, hown, hts⟩ (ccX3_waysAt l dC dI cyI cyZ cyJ cyB cyO h_od a_od_row od_row (v1 - v3) o_5 ho_5) (cwV 1 hts gX3_waysToShow_X3_waysAt rfl rfl rfl hvX3_waysAt ⟨Nat.le_of_ble_eq_true rfl, Nat.le_of_ble_eq_true rfl⟩) (px_preRV (wc := (wdX3_waysAt cyI cyZ cyJ cyB cyO h_od a_od_row od_row)) (ci := 3) (q0 := 0) hK hN hP [0, 1] rfl rfl rfl) rfl rfl hl.1 rfl (lv_room (Nat.le_of_ble_eq_true rfl)) dX3_waysToShow_36 ⟨Nat.zero_le _, Nat.zero_le _⟩) ?_
    refine lv_lmul hx hb dX3_waysToShow_39 ?_
    have ho := px_s hp
    subst ho
    exact hQ _ _ dX3_waysToShow_40
  · have hp := px_f hp c_1
    refine lv_lconst (v := (0 : Int64)) hx hb dX3_waysToShow_5 (by decide) ?_
    have ho := px_s hp
    subst ho
    exact hQ _ _ dX3_waysToShow_6
/-! TagReader$Odds.likeliest(III)I -/
theorem hvX3_likeliest : yX3_likeliest.cls = RX3 ∧ yX3_likeliest.cls ≠ "java/lang/invoke/MethodHandle" ∧ yX3_likeliest.cls ≠ "java/lang/invoke/VarHandle" ∧ (parseMethodDescriptor yX3_likeliest.desc).map (fun d => d.parameters.length) = some 3 := by decide +kernel
set_option maxHeartbeats 4000000 in
set_option maxRecDepth 100000 in
theorem lcX3_likeliest_18B {p : Program} {l : Launch} {e : Env} {s : State} {m : MethodId} {args : Array Value} {below : List Frame} {meth : Method} {c : Code} {Q : State → Prop} {A : Nat → Prop} (dC : Nat → ClassId) (dI : Nat → Nat → Nat) (cyI cyZ cyJ cyB cyO : ClassId) (h_od a_od_row : Nat) (od_row : Nat → Int64) (v1 : Int32) (v2 : Int32) (v3 : Int32) (out : Int32 × (Nat → Int64)) (hx : p.tables.exec = Jvm.exec) (hb : c.code = cX3_likeliest) (hml : c.maxLocals = 10) (hts : ∀ w ∈ wsX3_likeliest, w.before args s = true) (hown : s.vm.findClass RX3 = some m.cls) (hK : va_K (dC, dI) vwCl (px_TY cyI cyZ cyJ cyB cyO) s) (hN : px_NW s) (hA : ∀ q : Nat, s.heap.size ≤ q → A q) (hQ : ∀ (H : Heap) (locs : List Loc) (pc : Nat) (ls : Array Slot), va_P (dC, dI) vwCl (wdX3_likeliest cyI cyZ cyJ cyB cyO h_od a_od_row out.2) H → va_D A (wdX3_likeliest cyI cyZ cyJ cyB cyO h_od a_od_row out.2) → va_S A s.heap H locs → decode cX3_likeliest pc = .ok (.ireturn, 1) → W p l e ({ frames := 3, cells := 0, slots := 0, locals := 74 } : Room) s m args below meth c H locs 0 0 Q (F0 m pc ls [.int out.1]))  (K_18 : Int32 → Int64 → Int32 → (Nat → Int64) → Option (Int32 × (Nat → Int64))) (hK_18 : ∀ (v4 : Int32) (v5 : Int64) (v7 : Int32) (od_row : Nat → Int64) (H : Heap) (locs : List Loc) (ls : Array Slot), K_18 v4 v5 v7 od_row = some out → va_P (dC, dI) vwCl (wdX3_likeliest cyI cyZ cyJ cyB cyO h_od a_od_row od_row) H → va_D A (wdX3_likeliest cyI cyZ cyJ cyB cyO h_od a_od_row od_row) → va_S A s.heap H locs → lv_has ls 10 [(0, .ref h_od), (1, .int v1), (2, .int v2), (3, .int v3), (4, .int v4), (5, .long v5), (7, .int v7)] → W p l e ({ frames := 3, cells := 0, slots := 0, locals := 74 } : Room) s m args below meth c H locs 0 0 Q (F0 m 18 ls [])) : ∀ (v4 : Int32) (v5 : Int64) (v7 : Int32) (od_row : Nat → Int64) (H : Heap) (locs : List Loc) (ls : Array Slot), pX3_likeliest_18B v1 v2 v3 K_18 v4 v5 v7 od_row = some out → va_P (dC, dI) vwCl (wdX3_likeliest cyI cyZ cyJ cyB cyO h_od a_od_row od_row) H → va_D A (wdX3_likeliest cyI cyZ cyJ cyB cyO h_od a_od_row od_row) → va_S A s.heap H locs → lv_has ls 10 [(0, .ref h_od), (1, .int v1), (2, .int v2), (3, .int v3), (4, .int v4), (5, .long v5), (7, .int v7)] → W p l e ({ frames := 3, cells := 0, slots := 0, locals := 74 } : Room) s m args below meth c H locs 0 0 Q (F0 m 18 ls []) := by
  intro v4 v5 v7 od_row H locs ls hp hP hD hS hl
  unfold pX3_likeliest_18B at hp
  refine lv_iload hx hb dX3_likeliest_18 (lv_at hl 6 rfl) ?_
  refine lv_bipush (v := (16 : Int32)) hx hb dX3_likeliest_20 (by decide) ?_
  refine lv_icmp_gt (tgt := 69) hx hb dX3_likeliest_22 (by decide) (fun c_2 => ?_) (fun c_2 => ?_)
  · have hp := px_t hp c_2
    refine lv_iload hx hb dX3_likeliest_69 (lv_at hl 4 rfl) ?_
    have ho := px_s hp
    subst ho
    exact hQ _ _ _ _ hP hD hS dX3_likeliest_71
  · have hp := px_f hp c_2
    refine lv_aload_n hx hb dX3_likeliest_25 rfl (lv_at hl 0 rfl) ?_
    refine lv_iload hx hb dX3_likeliest_26 (lv_at hl 6 rfl) ?_
    refine lv_iload_n hx hb dX3_likeliest_28 rfl (lv_at hl 1 rfl) ?_
    refine lv_iload_n hx hb dX3_likeliest_29 rfl (lv_at hl 2 rfl) ?_
    refine lv_iload_n hx hb dX3_likeliest_30 rfl (lv_at hl 3 rfl) ?_
    obtain ⟨o_3, ho_3, hp⟩ := px_b_at hp
    refine px_callR (v := .long o_3) (va_runV (As := [.int v7, .int v1, .int v2, .int v3]) (rest := []) ⟨hx, hb, hml, hown, hts⟩ (ccX3_waysToShow l dC dI cyI cyZ cyJ cyB cyO h_od a_od_row od_row v7 v1 v2 v3 o_3 ho_3) (cwV 4 hts gX3_likeliest_X3_waysToShow rfl rfl rfl hvX3_waysToShow ⟨Nat.le_of_ble_eq_true rfl, Nat.le_of_ble_eq_true rfl⟩) (px_preRV (wc := (wdX3_waysToShow cyI cyZ cyJ cyB cyO h_od a_od_row od_row)) (ci := 3) (q0 := 0) hK hN hP [0, 1] rfl rfl rfl) rfl rfl hl.1 rfl (lv_room (Nat.le_of_ble_eq_true rfl)) dX3_likeliest_31 ⟨Nat.zero_le _, Nat.zero_le _⟩) ?_
    refine lv_lstore (lv' := [(8, .long o_3), (0, .ref h_od), (1, .int v1), (2, .int v2), (3, .int v3), (4, .int v4), (5, .long v5), (7, .int v7)]) hx hb dX3_likeliest_34 hl (by decide) rfl (fun ls hl => ?_)
    refine lv_lload hx hb dX3_likeliest_36 (lv_at hl 6 rfl) ?_
    refine lv_iload_n hx hb dX3_likeliest_38 rfl (lv_at hl 2 rfl) ?_
    refine lv_iload_n hx hb dX3_likeliest_39 rfl (lv_at hl 3 rfl) ?_
    refine lv_iadd hx hb dX3_likeliest_40 ?_
    refine lv_iload_n hx hb dX3_likeliest_41 rfl (lv_at hl 4 rfl) ?_
    refine lv_iadd hx hb dX3_likeliest_42 ?_
    refine lv_i2l hx hb dX3_likeliest_43 rfl ?_
    refine lv_lmul hx hb dX3_likeliest_44 ?_
    refine lv_lstore (lv' := [(5, .long (v5 * (Int32.toInt64 ((v1 + v2) + v3)))), (8, .long o_3), (0, .ref h_od), (1, .int v1), (2, .int v2), (3, .int v3), (4, .int v4), (7, .int v7)]) hx hb dX3_likeliest_45 hl (by decide) rfl (fun ls hl => ?_)
    refine lv_lload hx hb dX3_likeliest_47 (lv_at hl 1 rfl) ?_
    refine lv_lload hx hb dX3_likeliest_49 (lv_at hl 0 rfl) ?_
    refine W.lcmp hx hb dX3_likeliest_51 ?_
    refine lv_if_le (tgt := 63) hx hb dX3_likeliest_52 (by decide) (fun c_4 => ?_) (fun c_4 => ?_)
    · have hp := px_t hp c_4
      refine lv_iinc (v := (v7 + (1 : Int32))) (lv' := [(7, .int (v7 + (1 : Int32))), (5, .long (v5 * (Int32.toInt64 ((v1 + v2) + v3)))), (8, .long o_3), (0, .ref h_od), (1, .int v1), (2, .int v2), (3, .int v3), (4, .int v4)]) hx hb dX3_likeliest_63 hl (k := 7) rfl rfl (by decide) rfl (fun ls hl => ?_)
      refine lv_goto (tgt := 18) hx hb dX3_likeliest_66 (by decide) ?_
      exact hK_18 v4 (v5 * (Int32.toInt64 ((v1 + v2) + v3))) (v7 + (1 : Int32)) od_row _ _ ls hp hP hD hS (lv_sub hl [3, 4, 5, 6, 7, 1, 0] rfl)
    · have hp := px_f hp c_4
      refine lv_iload hx hb dX3_likeliest_55 (lv_at hl 7 rfl) ?_
      refine lv_istore (lv' := [(4, .int v7), (5, .long (v5 * (Int32.toInt64 ((v1 + v2) + v3)))), (8, .long o_3), (0, .ref h_od), (1, .int v1), (2, .int v2), (3, .int v3), (7, .int v7)]) hx hb dX3_likeliest_57 hl (by decide) rfl (fun ls hl => ?_)
      refine lv_lload hx hb dX3_likeliest_59 (lv_at hl 2 rfl) ?_
      refine lv_lstore (lv' := [(5, .long o_3), (4, .int v7), (8, .long o_3), (0, .ref h_od), (1, .int v1), (2, .int v2), (3, .int v3), (7, .int v7)]) hx hb dX3_likeliest_61 hl (by decide) rfl (fun ls hl => ?_)
      refine lv_iinc (v := (v7 + (1 : Int32))) (lv' := [(7, .int (v7 + (1 : Int32))), (5, .long o_3), (4, .int v7), (8, .long o_3), (0, .ref h_od), (1, .int v1), (2, .int v2), (3, .int v3)]) hx hb dX3_likeliest_63 hl (k := 7) rfl rfl (by decide) rfl (fun ls hl => ?_)
      refine lv_goto (tgt := 18) hx hb dX3_likeliest_66 (by decide) ?_
      exact hK_18 v7 o_3 (v7 + (1 : Int32)) od_row _ _ ls hp hP hD hS (lv_sub hl [4, 5, 6, 7, 2, 1, 0] rfl)
theorem lcX3_likeliest_18 {p : Program} {l : Launch} {e : Env} {s : State} {m : MethodId} {args : Array Value} {below : List Frame} {meth : Method} {c : Code} {Q : State → Prop} {A : Nat → Prop} (dC : Nat → ClassId) (dI : Nat → Nat → Nat) (cyI cyZ cyJ cyB cyO : ClassId) (h_od a_od_row : Nat) (od_row : Nat → Int64) (v1 : Int32) (v2 : Int32) (v3 : Int32) (out : Int32 × (Nat → Int64)) (hx : p.tables.exec = Jvm.exec) (hb : c.code = cX3_likeliest) (hml : c.maxLocals = 10) (hts : ∀ w ∈ wsX3_likeliest, w.before args s = true) (hown : s.vm.findClass RX3 = some m.cls) (hK : va_K (dC, dI) vwCl (px_TY cyI cyZ cyJ cyB cyO) s) (hN : px_NW s) (hA : ∀ q : Nat, s.heap.size ≤ q → A q) (hQ : ∀ (H : Heap) (locs : List Loc) (pc : Nat) (ls : Array Slot), va_P (dC, dI) vwCl (wdX3_likeliest cyI cyZ cyJ cyB cyO h_od a_od_row out.2) H → va_D A (wdX3_likeliest cyI cyZ cyJ cyB cyO h_od a_od_row out.2) → va_S A s.heap H locs → decode cX3_likeliest pc = .ok (.ireturn, 1) → W p l e ({ frames := 3, cells := 0, slots := 0, locals := 74 } : Room) s m args below meth c H locs 0 0 Q (F0 m pc ls [.int out.1]))  : ∀ n : Nat, ∀ (v4 : Int32) (v5 : Int64) (v7 : Int32) (od_row : Nat → Int64) (H : Heap) (locs : List Loc) (ls : Array Slot), pX3_likeliest_18 v1 v2 v3 n v4 v5 v7 od_row = some out → va_P (dC, dI) vwCl (wdX3_likeliest cyI cyZ cyJ cyB cyO h_od a_od_row od_row) H → va_D A (wdX3_likeliest cyI cyZ cyJ cyB cyO h_od a_od_row od_row) → va_S A s.heap H locs → lv_has ls 10 [(0, .ref h_od), (1, .int v1), (2, .int v2), (3, .int v3), (4, .int v4), (5, .long v5), (7, .int v7)] → W p l e ({ frames := 3, cells := 0, slots := 0, locals := 74 } : Room) s m args below meth c H locs 0 0 Q (F0 m 18 ls []) := by
  intro n
  induction n with
  | zero =>
    intro v4 v5 v7 od_row H locs ls hp hP hD hS hl
    exact nomatch hp
  | succ n ih => exact lcX3_likeliest_18B dC dI cyI cyZ cyJ cyB cyO h_od a_od_row od_row v1 v2 v3 out hx hb hml hts hown hK hN hA hQ (pX3_likeliest_18 v1 v2 v3 n) ih
set_option maxHeartbeats 4000000 in
set_option maxRecDepth 100000 in
theorem ccX3_likeliest (l : Launch) (dC : Nat → ClassId) (dI : Nat → Nat → Nat) (cyI cyZ cyJ cyB cyO : ClassId) (sz : Nat) (h_od a_od_row : Nat) (od_row : Nat → Int64) (v1 : Int32) (v2 : Int32) (v3 : Int32) (out : Int32 × (Nat → Int64)) (hp : pX3_likeliest v1 v2 v3 od_row = some out) : Met l yX3_likeliest wsX3_likeliest ({ frames := 3, cells := 0, slots := 0, locals := 74 } : Room) (px_PW (dC, dI) (px_TY cyI cyZ cyJ cyB cyO) [.ref h_od, .int v1, .int v2, .int v3] (wdX3_likeliest cyI cyZ cyJ cyB cyO h_od a_od_row od_row) sz) (px_QW (some (.int out.1)) (dC, dI) (wdX3_likeliest cyI cyZ cyJ cyB cyO h_od a_od_row od_row) (wdX3_likeliest cyI cyZ cyJ cyB cyO h_od a_od_row out.2) sz) 0 0 (va_A (wdX3_likeliest cyI cyZ cyJ cyB cyO h_od a_od_row od_row) sz) := by
  refine Met.ofW (cc := cX3_likeliest) (maxL := 10) (ret := (some .int)) (by decide) rfl ?_
  intro p e s m args below meth c s₁ B hml hv
  obtain ⟨rfl, hsz, hP, hK, hD0, hN⟩ := hv
  have hx := B.exec
  have hb := B.bytes
  have hr := B.returns
  have hts := atoms_spec (ws := wsX3_likeliest) B.pre
  have hown : s.vm.findClass RX3 = some m.cls := findClass_of_methodNamed B.named
  have hlocks := B.notSynchronized
  subst hsz
  have hD := hD0.self (sz := s.heap.size)
  generalize hAe : va_A (wdX3_likeliest cyI cyZ cyJ cyB cyO h_od a_od_row od_row) s.heap.size = A at hD ⊢
  have hA : ∀ q : Nat, s.heap.size ≤ q → A q := fun q h => by rw [← hAe]; exact Or.inr h
  have hS : va_S A s.heap s.heap [] := va_S.rf
  have hq := px_QWe (v := (some (.int out.1))) (D := (dC, dI)) (w1 := (wdX3_likeliest cyI cyZ cyJ cyB cyO h_od a_od_row out.2)) (st := s) hAe
  generalize px_QW (some (.int out.1)) (dC, dI) (wdX3_likeliest cyI cyZ cyJ cyB cyO h_od a_od_row od_row) (wdX3_likeliest cyI cyZ cyJ cyB cyO h_od a_od_row out.2) s.heap.size = Qc at hq ⊢
  have hQ : ∀ (H : Heap) (locs : List Loc) (pc : Nat) (ls : Array Slot), va_P (dC, dI) vwCl (wdX3_likeliest cyI cyZ cyJ cyB cyO h_od a_od_row out.2) H → va_D A (wdX3_likeliest cyI cyZ cyJ cyB cyO h_od a_od_row out.2) → va_S A s.heap H locs → decode cX3_likeliest pc = .ok (.ireturn, 1) → W p l e ({ frames := 3, cells := 0, slots := 0, locals := 74 } : Room) s m (([.ref h_od, .int v1, .int v2, .int v3] : List Value).toArray) below meth c H locs 0 0 (MQ below Qc (([.ref h_od, .int v1, .int v2, .int v3] : List Value).toArray) s 0 0 A) (F0 m pc ls [.int out.1]) := fun H locs pc ls hP hD hS hd => W.iret hx hb hr (fun t ht hW => hq _ t (by rw [ht]; exact hP) hD (hS.F ht)) hS.2.2 hd
  generalize MQ below Qc (([.ref h_od, .int v1, .int v2, .int v3] : List Value).toArray) s 0 0 A = Q at hQ ⊢
  have hl := lv_entry [.ref h_od, .int v1, .int v2, .int v3] (n := 10) (Nat.le_of_ble_eq_true rfl)
  rw [lg_entry_eq]
  generalize (lg_sl [.ref h_od, .int v1, .int v2, .int v3] ++ List.replicate (10 - (lg_sl [.ref h_od, .int v1, .int v2, .int v3]).length) Slot.unset).toArray = ls at hl ⊢
  have hl : lv_has ls 10 [(0, .ref h_od), (1, .int v1), (2, .int v2), (3, .int v3)] := hl
  unfold pX3_likeliest at hp
  refine lv_aload_n hx hb dX3_likeliest_0 rfl (lv_at hl 0 rfl) ?_
  refine lv_iload_n hx hb dX3_likeliest_1 rfl (lv_at hl 3 rfl) ?_
  refine lv_bipush (v := (16 : Int32)) hx hb dX3_likeliest_2 (by decide) ?_
  refine lv_iconst (v := (0 : Int32)) hx hb dX3_likeliest_4 (by decide) ?_
  obtain ⟨o_1, ho_1, hp⟩ := px_b_at hp
  refine px_callWv (wc := (wdX3_fillRow cyI cyZ cyJ cyB cyO h_od a_od_row od_row)) (wr := []) (w1 := (wdX3_fillRow cyI cyZ cyJ cyB cyO h_od a_od_row o_1)) (ws2 := (wdX3_likeliest cyI cyZ cyJ cyB cyO h_od a_od_row o_1)) (va_runV (As := [.int v3, .int (16 : Int32), .int (0 : Int32)]) (rest := []) ⟨hx, hb, hml, hown, hts⟩ (ccX3_fillRow l dC dI cyI cyZ cyJ cyB cyO _ h_od a_od_row od_row v3 (16 : Int32) (0 : Int32) o_1 ho_1) (cwV 3 hts gX3_likeliest_X3_fillRow rfl rfl rfl hvX3_fillRow ⟨Nat.le_of_ble_eq_true rfl, Nat.le_of_ble_eq_true rfl⟩) (px_preWV (wc := (wdX3_fillRow cyI cyZ cyJ cyB cyO h_od a_od_row od_row)) (ci := 3) (q0 := 0) hK hN hP hD [0, 1] (by decide) rfl rfl rfl) rfl rfl hl.1 rfl (lv_room (Nat.le_of_ble_eq_true rfl)) dX3_likeliest_5 ⟨Nat.zero_le _, Nat.zero_le _⟩) hP hD hS hA [0, 1] [] [0, 1] rfl rfl (by decide) (by decide) (by decide) rfl (fun H locs hP hD hS => ?_)
  refine lv_bipush (v := (-4 : Int32)) hx hb dX3_likeliest_8 (by decide) ?_
  refine lv_istore (lv' := [(4, .int (-4 : Int32)), (0, .ref h_od), (1, .int v1), (2, .int v2), (3, .int v3)]) hx hb dX3_likeliest_10 hl (by decide) rfl (fun ls hl => ?_)
  refine lv_lconst (v := (0 : Int64)) hx hb dX3_likeliest_12 (by decide) ?_
  refine lv_lstore (lv' := [(5, .long (0 : Int64)), (4, .int (-4 : Int32)), (0, .ref h_od), (1, .int v1), (2, .int v2), (3, .int v3)]) hx hb dX3_likeliest_13 hl (by decide) rfl (fun ls hl => ?_)
  refine lv_iconst (v := (0 : Int32)) hx hb dX3_likeliest_15 (by decide) ?_
  refine lv_istore (lv' := [(7, .int (0 : Int32)), (5, .long (0 : Int64)), (4, .int (-4 : Int32)), (0, .ref h_od), (1, .int v1), (2, .int v2), (3, .int v3)]) hx hb dX3_likeliest_16 hl (by decide) rfl (fun ls hl => ?_)
  exact lcX3_likeliest_18 dC dI cyI cyZ cyJ cyB cyO h_od a_od_row od_row v1 v2 v3 out hx hb hml hts hown hK hN hA hQ px_FU (-4 : Int32) (0 : Int64) (0 : Int32) o_1 _ _ ls hp hP hD hS (lv_sub hl [3, 4, 5, 6, 2, 1, 0] rfl)
