/-! java/lang/String.coder()B -/
def pJ0_coder_7d493 (j : Nat) : Option (Int32) := (if (1 : Int32) = (0 : Int32) then some (1 : Int32) else some (0 : Int32))
/-! java/lang/String.isLatin1()Z -/
def pJ0_isLatin1_aae02 (j : Nat) : Option (Int32) := (if (1 : Int32) = (0 : Int32) then some (0 : Int32) else (if (0 : Int32) = (0 : Int32) then some (1 : Int32) else some (0 : Int32)))
/-! java/lang/String.length()I -/
def pJ0_length_8abf5 (j : Nat) : Option (Int32) := px_b (pJ0_coder_7d493 j) (fun o_1 => some ((Int32.ofNat (px_LEN.getD j 0)) >>> (o_1 &&& (31 : Int32))))
/-! java/lang/StringLatin1.charAt([BI)C -/
def pJ1_charAt_3b067 (j : Nat) (v1 : Int32) : Option (Int32) := px_b (pJ0_checkIndex_df160 v1 (Int32.ofNat (px_LEN.getD j 0))) (fun o_1 => px_i v1 (px_LEN.getD j 0) (some (UInt32.toInt32 (Int32.toUInt32 (((px_BYT.getD j []).getD (Int32.toNatClampNeg v1) 0) &&& (255 : Int32)) % 65536))))
/-! java/lang/String.charAt(I)C -/
def pJ0_charAt_5068e (j : Nat) (v1 : Int32) : Option (Int32) := px_b (pJ0_isLatin1_aae02 j) (fun o_1 => (if o_1 = (0 : Int32) then none else px_b (pJ1_charAt_3b067 j v1) (fun o_3 => px_c o_3 (some o_3))))
/-! TagReader$Tape.lineName(I)Ljava/lang/String; -/
def pX7_lineName (v0 : Int32) : Option (Nat) := (if v0 = (0 : Int32) then some 0 else (if v0 = (1 : Int32) then some 1 else (if v0 = (2 : Int32) then some 2 else (if v0 = (3 : Int32) then some 3 else (if v0 = (4 : Int32) then some 4 else (if v0 = (5 : Int32) then some 5 else some 6))))))
/-! TagReader$Tape.isSpelled(Ljava/lang/String;)Z -/
def pX7_isSpelled_24B (j : Nat) (tp_length : Int32) (tp_start : Int32) (tp_place : Int32) (tp_bytes : Nat → Int32) (K_24 : Int32 → Int32 → Option (Int32)) (v2 : Int32) (v3 : Int32) : Option (Int32) := px_b (pJ0_length_8abf5 j) (fun o_3 => (if o_3 ≤ v3 then px_o v2 (some v2) else (if v2 = (0 : Int32) then px_o v2 (some v2) else px_b (pX7_byteAt (tp_start + v3) tp_length tp_bytes) (fun o_8 => px_b (pJ0_charAt_5068e j v3) (fun o_9 => (if o_8 = o_9 then K_24 (1 : Int32) (v3 + (1 : Int32)) else K_24 (0 : Int32) (v3 + (1 : Int32))))))))
def pX7_isSpelled_24 (j : Nat) (tp_length : Int32) (tp_start : Int32) (tp_place : Int32) (tp_bytes : Nat → Int32) : Nat → Int32 → Int32 → Option (Int32)
  | 0, _, _ => none
  | n + 1, v2, v3 => pX7_isSpelled_24B j tp_length tp_start tp_place tp_bytes (pX7_isSpelled_24 j tp_length tp_start tp_place tp_bytes n) v2 v3
def pX7_isSpelled (j : Nat) (tp_length : Int32) (tp_start : Int32) (tp_place : Int32) (tp_bytes : Nat → Int32) : Option (Int32) := px_b (pJ0_length_8abf5 j) (fun o_1 => (if (tp_place - tp_start) = o_1 then pX7_isSpelled_24 j tp_length tp_start tp_place tp_bytes px_FU (1 : Int32) (0 : Int32) else pX7_isSpelled_24 j tp_length tp_start tp_place tp_bytes px_FU (0 : Int32) (0 : Int32)))
abbrev wdX7_isSpelled (cyI cyZ cyJ cyB cyO : ClassId) (h_tp a_tp_bytes : Nat) (tp_length : Int32) (tp_kind : Int32) (tp_start : Int32) (tp_value : Int32) (tp_place : Int32) (tp_bytes : Nat → Int32) : va_W := [(h_tp, .inr (7, [.ref a_tp_bytes, .int tp_length, .int tp_kind, .int tp_start, .int tp_value, .int tp_place])), (a_tp_bytes, .inl (cyB, 200, .inl tp_bytes))]
/-! java/lang/String.coder()B -/
theorem hvJ0_coder_7d493 : yJ0_coder_7d493.cls = RJ0 ∧ yJ0_coder_7d493.cls ≠ "java/lang/invoke/MethodHandle" ∧ yJ0_coder_7d493.cls ≠ "java/lang/invoke/VarHandle" ∧ (parseMethodDescriptor yJ0_coder_7d493.desc).map (fun d => d.parameters.length) = some 0 := by decide +kernel
theorem kJ0_coder_7d493_1 : (.fieldLink RJ0 38 "java/lang/String" "COMPACT_STRINGS" "Z" : Cond) ∈ wsJ0_coder_7d493 := List.mem_of_getElem? (i := 1) rfl
theorem kJ0_coder_7d493_2 : (.fieldLink RJ0 15 "java/lang/String" "coder" "B" : Cond) ∈ wsJ0_coder_7d493 := List.mem_of_getElem? (i := 2) rfl
set_option maxHeartbeats 4000000 in
set_option maxRecDepth 100000 in
theorem ccJ0_coder_7d493 (l : Launch) (dC : Nat → ClassId) (dI : Nat → Nat → Nat) (cyI cyZ cyJ cyB cyO : ClassId) (sK sV tS : Nat → Nat) (j : Nat) (hj : j < 7) (out : Int32) (hp : pJ0_coder_7d493 j = some out) : Met l yJ0_coder_7d493 wsJ0_coder_7d493 ({ frames := 0, cells := 0, slots := 0, locals := 0 } : Room) (px_PRs sK sV tS (dC, dI) (px_TY cyI cyZ cyJ cyB cyO) [.ref (sK j)] []) (px_QR (.int out)) 0 0 (fun _ => False) := by
  refine Met.ofW (cc := cJ0_coder_7d493) (maxL := 1) (ret := (some .byte)) (by decide) rfl ?_
  intro p e s m args below meth c s₁ B hml hv
  obtain ⟨rfl, ⟨hP, hK, hN⟩, hG⟩ := hv
  have hx := B.exec
  have hb := B.bytes
  have hr := B.returns
  have hts := atoms_spec (ws := wsJ0_coder_7d493) B.pre
  have hown : s.vm.findClass RJ0 = some m.cls := findClass_of_methodNamed B.named
  have hlocks := B.notSynchronized
  have hQ : ∀ (pc : Nat) (ls : Array Slot), narrow .byte (.int out) = .int out → decode cJ0_coder_7d493 pc = .ok (.ireturn, 1) → W p l e ({ frames := 0, cells := 0, slots := 0, locals := 0 } : Room) s m (([.ref (sK j)] : List Value).toArray) below meth c s.heap [] 0 0 (MQ below (px_QR (.int out)) (([.ref (sK j)] : List Value).toArray) s 0 0 (fun _ => False)) (F0 m pc ls [.int out]) := fun pc ls hz hd => W.zret hx hb hr hz (fun t ht hW => ⟨rfl, ht⟩) (fun q h => by cases h) hd
  generalize MQ below (px_QR (.int out)) (([.ref (sK j)] : List Value).toArray) s 0 0 (fun _ => False) = Q at hQ ⊢
  have hl := lv_entry [.ref (sK j)] (n := 1) (Nat.le_of_ble_eq_true rfl)
  rw [lg_entry_eq]
  generalize (lg_sl [.ref (sK j)] ++ List.replicate (1 - (lg_sl [.ref (sK j)]).length) Slot.unset).toArray = ls at hl ⊢
  have hl : lv_has ls 1 [(0, .ref (sK j))] := hl
  unfold pJ0_coder_7d493 at hp
  refine va_gets hx hb hG.2.2.1 (va_S.rf : va_S (fun _ => False) s.heap s.heap []) hown (hts _ kJ0_coder_7d493_1) (fun _ h9 => h9) dJ0_coder_7d493_0 ?_
  refine lv_if_eq (tgt := 13) hx hb dJ0_coder_7d493_3 (by decide) (fun c_1 => ?_) (fun c_1 => ?_)
  · have hp := px_t hp c_1
    refine lv_iconst (v := (1 : Int32)) hx hb dJ0_coder_7d493_13 (by decide) ?_
    have ho := px_s hp
    subst ho
    exact hQ _ _ rfl dJ0_coder_7d493_14
  · have hp := px_f hp c_1
    refine lv_aload_n hx hb dJ0_coder_7d493_6 rfl (lv_at hl 0 rfl) ?_
    refine vk_getf hx hb (hG.2.1.1 j hj).2.1 (va_S.rf : va_S (fun _ => False) s.heap s.heap []) hown (hts _ kJ0_coder_7d493_2) (fun _ h9 => h9) dJ0_coder_7d493_7 ?_
    refine lv_goto (tgt := 14) hx hb dJ0_coder_7d493_10 (by decide) ?_
    have ho := px_s hp
    subst ho
    exact hQ _ _ rfl dJ0_coder_7d493_14
/-! java/lang/String.isLatin1()Z -/
theorem hvJ0_isLatin1_aae02 : yJ0_isLatin1_aae02.cls = RJ0 ∧ yJ0_isLatin1_aae02.cls ≠ "java/lang/invoke/MethodHandle" ∧ yJ0_isLatin1_aae02.cls ≠ "java/lang/invoke/VarHandle" ∧ (parseMethodDescriptor yJ0_isLatin1_aae02.desc).map (fun d => d.parameters.length) = some 0 := by decide +kernel
theorem kJ0_isLatin1_aae02_1 : (.fieldLink RJ0 38 "java/lang/String" "COMPACT_STRINGS" "Z" : Cond) ∈ wsJ0_isLatin1_aae02 := List.mem_of_getElem? (i := 1) rfl
theorem kJ0_isLatin1_aae02_2 : (.fieldLink RJ0 15 "java/lang/String" "coder" "B" : Cond) ∈ wsJ0_isLatin1_aae02 := List.mem_of_getElem? (i := 2) rfl
set_option maxHeartbeats 4000000 in
set_option maxRecDepth 100000 in
theorem ccJ0_isLatin1_aae02 (l : Launch) (dC : Nat → ClassId) (dI : Nat → Nat → Nat) (cyI cyZ cyJ cyB cyO : ClassId) (sK sV tS : Nat → Nat) (j : Nat) (hj : j < 7) (out : Int32) (hp : pJ0_isLatin1_aae02 j = some out) : Met l yJ0_isLatin1_aae02 wsJ0_isLatin1_aae02 ({ frames := 0, cells := 0, slots := 0, locals := 0 } : Room) (px_PRs sK sV tS (dC, dI) (px_TY cyI cyZ cyJ cyB cyO) [.ref (sK j)] []) (px_QR (.int out)) 0 0 (fun _ => False) := by
  refine Met.ofW (cc := cJ0_isLatin1_aae02) (maxL := 1) (ret := (some .boolean)) (by decide) rfl ?_
  intro p e s m args below meth c s₁ B hml hv
  obtain ⟨rfl, ⟨hP, hK, hN⟩, hG⟩ := hv
  have hx := B.exec
  have hb := B.bytes
  have hr := B.returns
  have hts := atoms_spec (ws := wsJ0_isLatin1_aae02) B.pre
  have hown : s.vm.findClass RJ0 = some m.cls := findClass_of_methodNamed B.named
  have hlocks := B.notSynchronized
  have hQ : ∀ (pc : Nat) (ls : Array Slot), narrow .boolean (.int out) = .int out → decode cJ0_isLatin1_aae02 pc = .ok (.ireturn, 1) → W p l e ({ frames := 0, cells := 0, slots := 0, locals := 0 } : Room) s m (([.ref (sK j)] : List Value).toArray) below meth c s.heap [] 0 0 (MQ below (px_QR (.int out)) (([.ref (sK j)] : List Value).toArray) s 0 0 (fun _ => False)) (F0 m pc ls [.int out]) := fun pc ls hz hd => W.zret hx hb hr hz (fun t ht hW => ⟨rfl, ht⟩) (fun q h => by cases h) hd
  generalize MQ below (px_QR (.int out)) (([.ref (sK j)] : List Value).toArray) s 0 0 (fun _ => False) = Q at hQ ⊢
  have hl := lv_entry [.ref (sK j)] (n := 1) (Nat.le_of_ble_eq_true rfl)
  rw [lg_entry_eq]
  generalize (lg_sl [.ref (sK j)] ++ List.replicate (1 - (lg_sl [.ref (sK j)]).length) Slot.unset).toArray = ls at hl ⊢
  have hl : lv_has ls 1 [(0, .ref (sK j))] := hl
  unfold pJ0_isLatin1_aae02 at hp
  refine va_gets hx hb hG.2.2.1 (va_S.rf : va_S (fun _ => False) s.heap s.heap []) hown (hts _ kJ0_isLatin1_aae02_1) (fun _ h9 => h9) dJ0_isLatin1_aae02_0 ?_
  refine lv_if_eq (tgt := 17) hx hb dJ0_isLatin1_aae02_3 (by decide) (fun c_1 => ?_) (fun c_1 => ?_)
  · have hp := px_t hp c_1
    refine lv_iconst (v := (0 : Int32)) hx hb dJ0_isLatin1_aae02_17 (by decide) ?_
    have ho := px_s hp
    subst ho
    exact hQ _ _ narrow_b0 dJ0_isLatin1_aae02_18
  · have hp := px_f hp c_1
    refine lv_aload_n hx hb dJ0_isLatin1_aae02_6 rfl (lv_at hl 0 rfl) ?_
    refine vk_getf hx hb (hG.2.1.1 j hj).2.1 (va_S.rf : va_S (fun _ => False) s.heap s.heap []) hown (hts _ kJ0_isLatin1_aae02_2) (fun _ h9 => h9) dJ0_isLatin1_aae02_7 ?_
    refine lv_if_ne (tgt := 17) hx hb dJ0_isLatin1_aae02_10 (by decide) (fun c_2 => ?_) (fun c_2 => ?_)
    · have hp := px_f hp c_2
      refine lv_iconst (v := (0 : Int32)) hx hb dJ0_isLatin1_aae02_17 (by decide) ?_
      have ho := px_s hp
      subst ho
      exact hQ _ _ narrow_b0 dJ0_isLatin1_aae02_18
    · have hp := px_t hp c_2
      refine lv_iconst (v := (1 : Int32)) hx hb dJ0_isLatin1_aae02_13 (by decide) ?_
      refine lv_goto (tgt := 18) hx hb dJ0_isLatin1_aae02_14 (by decide) ?_
      have ho := px_s hp
      subst ho
      exact hQ _ _ narrow_b1 dJ0_isLatin1_aae02_18
/-! java/lang/String.length()I -/
theorem hvJ0_length_8abf5 : yJ0_length_8abf5.cls = RJ0 ∧ yJ0_length_8abf5.cls ≠ "java/lang/invoke/MethodHandle" ∧ yJ0_length_8abf5.cls ≠ "java/lang/invoke/VarHandle" ∧ (parseMethodDescriptor yJ0_length_8abf5.desc).map (fun d => d.parameters.length) = some 0 := by decide +kernel
theorem kJ0_length_8abf5_1 : (.fieldLink RJ0 9 "java/lang/String" "value" "[B" : Cond) ∈ wsJ0_length_8abf5 := List.mem_of_getElem? (i := 1) rfl
set_option maxHeartbeats 4000000 in
set_option maxRecDepth 100000 in
theorem ccJ0_length_8abf5 (l : Launch) (dC : Nat → ClassId) (dI : Nat → Nat → Nat) (cyI cyZ cyJ cyB cyO : ClassId) (sK sV tS : Nat → Nat) (j : Nat) (hj : j < 7) (out : Int32) (hp : pJ0_length_8abf5 j = some out) : Met l yJ0_length_8abf5 wsJ0_length_8abf5 ({ frames := 1, cells := 0, slots := 0, locals := 20 } : Room) (px_PRs sK sV tS (dC, dI) (px_TY cyI cyZ cyJ cyB cyO) [.ref (sK j)] []) (px_QR (.int out)) 0 0 (fun _ => False) := by
  refine Met.ofW (cc := cJ0_length_8abf5) (maxL := 1) (ret := (some .int)) (by decide) rfl ?_
  intro p e s m args below meth c s₁ B hml hv
  obtain ⟨rfl, ⟨hP, hK, hN⟩, hG⟩ := hv
  have hx := B.exec
  have hb := B.bytes
  have hr := B.returns
  have hts := atoms_spec (ws := wsJ0_length_8abf5) B.pre
  have hown : s.vm.findClass RJ0 = some m.cls := findClass_of_methodNamed B.named
  have hlocks := B.notSynchronized
  have hQ : ∀ (pc : Nat) (ls : Array Slot), decode cJ0_length_8abf5 pc = .ok (.ireturn, 1) → W p l e ({ frames := 1, cells := 0, slots := 0, locals := 20 } : Room) s m (([.ref (sK j)] : List Value).toArray) below meth c s.heap [] 0 0 (MQ below (px_QR (.int out)) (([.ref (sK j)] : List Value).toArray) s 0 0 (fun _ => False)) (F0 m pc ls [.int out]) := fun pc ls hd => W.iret hx hb hr (fun t ht hW => ⟨rfl, ht⟩) (fun q h => by cases h) hd
  generalize MQ below (px_QR (.int out)) (([.ref (sK j)] : List Value).toArray) s 0 0 (fun _ => False) = Q at hQ ⊢
  have hl := lv_entry [.ref (sK j)] (n := 1) (Nat.le_of_ble_eq_true rfl)
  rw [lg_entry_eq]
  generalize (lg_sl [.ref (sK j)] ++ List.replicate (1 - (lg_sl [.ref (sK j)]).length) Slot.unset).toArray = ls at hl ⊢
  have hl : lv_has ls 1 [(0, .ref (sK j))] := hl
  unfold pJ0_length_8abf5 at hp
  refine lv_aload_n hx hb dJ0_length_8abf5_0 rfl (lv_at hl 0 rfl) ?_
  refine vk_getf hx hb (hG.2.1.1 j hj).2.2.1 (va_S.rf : va_S (fun _ => False) s.heap s.heap []) hown (hts _ kJ0_length_8abf5_1) (fun _ h9 => h9) dJ0_length_8abf5_1 ?_
  refine va_tlen hx hb (hG.2.1.1 j hj).2.2.2 (va_S.rf : va_S (fun _ => False) s.heap s.heap []) rfl dJ0_length_8abf5_4 ?_
  refine lv_aload_n hx hb dJ0_length_8abf5_5 rfl (lv_at hl 0 rfl) ?_
  obtain ⟨o_1, ho_1, hp⟩ := px_b_at hp
  refine px_callR (v := .int o_1) (va_runV (As := []) (rest := [.int (Int32.ofNat (px_LEN.getD j 0))]) ⟨hx, hb, hml, hown, hts⟩ (ccJ0_coder_7d493 l dC dI cyI cyZ cyJ cyB cyO sK sV tS j hj o_1 ho_1) (cwV 0 hts gJ0_length_8abf5_J0_coder_7d493 rfl rfl rfl hvJ0_coder_7d493 ⟨Nat.le_of_ble_eq_true rfl, Nat.le_of_ble_eq_true rfl⟩) (px_preRVk (wc := []) hG (va_S.rf : va_S (fun _ => False) s.heap s.heap []) hK hN hP hj [] rfl) rfl rfl hl.1 rfl (lv_room (Nat.le_of_ble_eq_true rfl)) dJ0_length_8abf5_6 ⟨Nat.zero_le _, Nat.zero_le _⟩) ?_
  refine lv_ishr hx hb dJ0_length_8abf5_9 ?_
  have ho := px_s hp
  subst ho
  exact hQ _ _ dJ0_length_8abf5_10
/-! java/lang/StringLatin1.charAt([BI)C -/
theorem hsJ1_charAt_3b067 : yJ1_charAt_3b067.cls ≠ "java/lang/invoke/MethodHandle" ∧ yJ1_charAt_3b067.cls ≠ "java/lang/invoke/VarHandle" ∧ (parseMethodDescriptor yJ1_charAt_3b067.desc).map (fun d => d.parameters.length) = some 2 := by decide +kernel
set_option maxHeartbeats 4000000 in
set_option maxRecDepth 100000 in
theorem ccJ1_charAt_3b067 (l : Launch) (dC : Nat → ClassId) (dI : Nat → Nat → Nat) (cyI cyZ cyJ cyB cyO : ClassId) (sK sV tS : Nat → Nat) (j : Nat) (hj : j < 7) (v1 : Int32) (out : Int32) (hp : pJ1_charAt_3b067 j v1 = some out) : Met l yJ1_charAt_3b067 wsJ1_charAt_3b067 ({ frames := 2, cells := 0, slots := 0, locals := 43 } : Room) (px_PRs sK sV tS (dC, dI) (px_TY cyI cyZ cyJ cyB cyO) [.ref (sV j), .int v1] []) (px_QR (.int out)) 0 0 (fun _ => False) := by
  refine Met.ofW (cc := cJ1_charAt_3b067) (maxL := 2) (ret := (some .char)) (by decide) rfl ?_
  intro p e s m args below meth c s₁ B hml hv
  obtain ⟨rfl, ⟨hP, hK, hN⟩, hG⟩ := hv
  have hx := B.exec
  have hb := B.bytes
  have hr := B.returns
  have hts := atoms_spec (ws := wsJ1_charAt_3b067) B.pre
  have hown : s.vm.findClass RJ1 = some m.cls := findClass_of_methodNamed B.named
  have hlocks := B.notSynchronized
  have hQ : ∀ (pc : Nat) (ls : Array Slot), narrow .char (.int out) = .int out → decode cJ1_charAt_3b067 pc = .ok (.ireturn, 1) → W p l e ({ frames := 2, cells := 0, slots := 0, locals := 43 } : Room) s m (([.ref (sV j), .int v1] : List Value).toArray) below meth c s.heap [] 0 0 (MQ below (px_QR (.int out)) (([.ref (sV j), .int v1] : List Value).toArray) s 0 0 (fun _ => False)) (F0 m pc ls [.int out]) := fun pc ls hz hd => W.zret hx hb hr hz (fun t ht hW => ⟨rfl, ht⟩) (fun q h => by cases h) hd
  generalize MQ below (px_QR (.int out)) (([.ref (sV j), .int v1] : List Value).toArray) s 0 0 (fun _ => False) = Q at hQ ⊢
  have hl := lv_entry [.ref (sV j), .int v1] (n := 2) (Nat.le_of_ble_eq_true rfl)
  rw [lg_entry_eq]
  generalize (lg_sl [.ref (sV j), .int v1] ++ List.replicate (2 - (lg_sl [.ref (sV j), .int v1]).length) Slot.unset).toArray = ls at hl ⊢
  have hl : lv_has ls 2 [(0, .ref (sV j)), (1, .int v1)] := hl
  unfold pJ1_charAt_3b067 at hp
  refine lv_iload_n hx hb dJ1_charAt_3b067_0 rfl (lv_at hl 1 rfl) ?_
  refine lv_aload_n hx hb dJ1_charAt_3b067_1 rfl (lv_at hl 0 rfl) ?_
  refine va_tlen hx hb (hG.2.1.1 j hj).2.2.2 (va_S.rf : va_S (fun _ => False) s.heap s.heap []) rfl dJ1_charAt_3b067_2 ?_
  obtain ⟨o_1, ho_1, hp⟩ := px_b_at hp
  refine px_callRv (va_runS (As := [.int v1, .int (Int32.ofNat (px_LEN.getD j 0))]) (rest := []) ⟨hx, hb, hml, hown, hts⟩ (ccJ0_checkIndex_df160 l dC dI cyI cyZ cyJ cyB cyO sK sV tS v1 (Int32.ofNat (px_LEN.getD j 0)) o_1 ho_1) (va_cwS 2 hts gJ1_charAt_3b067_J0_checkIndex_df160 rfl rfl rfl hsJ0_checkIndex_df160 ⟨Nat.le_of_ble_eq_true rfl, Nat.le_of_ble_eq_true rfl⟩) (px_preRs (wc := []) hG (va_S.rf : va_S (fun _ => False) s.heap s.heap []) hK hN hP [] rfl) rfl rfl hl.1 rfl (lv_room (Nat.le_of_ble_eq_true rfl)) dJ1_charAt_3b067_3 ⟨Nat.zero_le _, Nat.zero_le _⟩) ?_
  refine lv_aload_n hx hb dJ1_charAt_3b067_6 rfl (lv_at hl 0 rfl) ?_
  refine lv_iload_n hx hb dJ1_charAt_3b067_7 rfl (lv_at hl 1 rfl) ?_
  obtain ⟨g_2, hp⟩ := px_i_at hp
  refine va_tb hx hb (hG.2.1.1 j hj).2.2.2 (va_S.rf : va_S (fun _ => False) s.heap s.heap []) g_2 rfl dJ1_charAt_3b067_8 ?_
  refine lv_sipush (v := (255 : Int32)) hx hb dJ1_charAt_3b067_9 (by decide) ?_
  refine lv_iand hx hb dJ1_charAt_3b067_12 ?_
  refine lv_i2c hx hb dJ1_charAt_3b067_13 rfl ?_
  have ho := px_s hp
  subst ho
  exact hQ _ _ (pk_nc _) dJ1_charAt_3b067_14
/-! java/lang/String.charAt(I)C -/
theorem hvJ0_charAt_5068e : yJ0_charAt_5068e.cls = RJ0 ∧ yJ0_charAt_5068e.cls ≠ "java/lang/invoke/MethodHandle" ∧ yJ0_charAt_5068e.cls ≠ "java/lang/invoke/VarHandle" ∧ (parseMethodDescriptor yJ0_charAt_5068e.desc).map (fun d => d.parameters.length) = some 1 := by decide +kernel
theorem kJ0_charAt_5068e_1 : (.fieldLink RJ0 9 "java/lang/String" "value" "[B" : Cond) ∈ wsJ0_charAt_5068e := List.mem_of_getElem? (i := 1) rfl
set_option maxHeartbeats 4000000 in
set_option maxRecDepth 100000 in
theorem ccJ0_charAt_5068e (l : Launch) (dC : Nat → ClassId) (dI : Nat → Nat → Nat) (cyI cyZ cyJ cyB cyO : ClassId) (sK sV tS : Nat → Nat) (j : Nat) (hj : j < 7) (v1 : Int32) (out : Int32) (hp : pJ0_charAt_5068e j v1 = some out) : Met l yJ0_charAt_5068e wsJ0_charAt_5068e ({ frames := 3, cells := 0, slots := 0, locals := 64 } : Room) (px_PRs sK sV tS (dC, dI) (px_TY cyI cyZ cyJ cyB cyO) [.ref (sK j), .int v1] []) (px_QR (.int out)) 0 0 (fun _ => False) := by
  refine Met.ofW (cc := cJ0_charAt_5068e) (maxL := 2) (ret := (some .char)) (by decide) rfl ?_
  intro p e s m args below meth c s₁ B hml hv
  obtain ⟨rfl, ⟨hP, hK, hN⟩, hG⟩ := hv
  have hx := B.exec
  have hb := B.bytes
  have hr := B.returns
  have hts := atoms_spec (ws := wsJ0_charAt_5068e) B.pre
  have hown : s.vm.findClass RJ0 = some m.cls := findClass_of_methodNamed B.named
  have hlocks := B.notSynchronized
  have hQ : ∀ (pc : Nat) (ls : Array Slot), narrow .char (.int out) = .int out → decode cJ0_charAt_5068e pc = .ok (.ireturn, 1) → W p l e ({ frames := 3, cells := 0, slots := 0, locals := 64 } : Room) s m (([.ref (sK j), .int v1] : List Value).toArray) below meth c s.heap [] 0 0 (MQ below (px_QR (.int out)) (([.ref (sK j), .int v1] : List Value).toArray) s 0 0 (fun _ => False)) (F0 m pc ls [.int out]) := fun pc ls hz hd => W.zret hx hb hr hz (fun t ht hW => ⟨rfl, ht⟩) (fun q h => by cases h) hd
  generalize MQ below (px_QR (.int out)) (([.ref (sK j), .int v1] : List Value).toArray) s 0 0 (fun _ => False) = Q at hQ ⊢
  have hl := lv_entry [.ref (sK j), .int v1] (n := 2) (Nat.le_of_ble_eq_true rfl)
  rw [lg_entry_eq]
  generalize (lg_sl [.ref (sK j), .int v1] ++ List.replicate (2 - (lg_sl [.ref (sK j), .int v1]).length) Slot.unset).toArray = ls at hl ⊢
  have hl : lv_has ls 2 [(0, .ref (sK j)), (1, .int v1)] := hl
  unfold pJ0_charAt_5068e at hp
  refine lv_aload_n hx hb dJ0_charAt_5068e_0 rfl (lv_at hl 0 rfl) ?_
  obtain ⟨o_1, ho_1, hp⟩ := px_b_at hp
  refine px_callR (v := .int o_1) (va_runV (As := []) (rest := []) ⟨hx, hb, hml, hown, hts⟩ (ccJ0_isLatin1_aae02 l dC dI cyI cyZ cyJ cyB cyO sK sV tS j hj o_1 ho_1) (cwV 0 hts gJ0_charAt_5068e_J0_isLatin1_aae02 rfl rfl rfl hvJ0_isLatin1_aae02 ⟨Nat.le_of_ble_eq_true rfl, Nat.le_of_ble_eq_true rfl⟩) (px_preRVk (wc := []) hG (va_S.rf : va_S (fun _ => False) s.heap s.heap []) hK hN hP hj [] rfl) rfl rfl hl.1 rfl (lv_room (Nat.le_of_ble_eq_true rfl)) dJ0_charAt_5068e_1 ⟨Nat.zero_le _, Nat.zero_le _⟩) ?_
  refine lv_if_eq (tgt := 16) hx hb dJ0_charAt_5068e_4 (by decide) (fun c_2 => ?_) (fun c_2 => ?_)
  · have hp := px_t hp c_2
    exact nomatch hp
  · have hp := px_f hp c_2
    refine lv_aload_n hx hb dJ0_charAt_5068e_7 rfl (lv_at hl 0 rfl) ?_
    refine vk_getf hx hb (hG.2.1.1 j hj).2.2.1 (va_S.rf : va_S (fun _ => False) s.heap s.heap []) hown (hts _ kJ0_charAt_5068e_1) (fun _ h9 => h9) dJ0_charAt_5068e_8 ?_
    refine lv_iload_n hx hb dJ0_charAt_5068e_11 rfl (lv_at hl 1 rfl) ?_
    obtain ⟨o_3, ho_3, hp⟩ := px_b_at hp
    refine px_callR (v := .int o_3) (va_runS (As := [.ref (sV j), .int v1]) (rest := []) ⟨hx, hb, hml, hown, hts⟩ (ccJ1_charAt_3b067 l dC dI cyI cyZ cyJ cyB cyO sK sV tS j hj v1 o_3 ho_3) (va_cwS 2 hts gJ0_charAt_5068e_J1_charAt_3b067 rfl rfl rfl hsJ1_charAt_3b067 ⟨Nat.le_of_ble_eq_true rfl, Nat.le_of_ble_eq_true rfl⟩) (px_preRs (wc := []) hG (va_S.rf : va_S (fun _ => False) s.heap s.heap []) hK hN hP [] rfl) rfl rfl hl.1 rfl (lv_room (Nat.le_of_ble_eq_true rfl)) dJ0_charAt_5068e_12 ⟨Nat.zero_le _, Nat.zero_le _⟩) ?_
    obtain ⟨g_4, hp⟩ := px_c_at hp
    have ho := px_s hp
    subst ho
    exact hQ _ _ g_4 dJ0_charAt_5068e_15
/-! TagReader$Tape.lineName(I)Ljava/lang/String; -/
theorem hsX7_lineName : yX7_lineName.cls ≠ "java/lang/invoke/MethodHandle" ∧ yX7_lineName.cls ≠ "java/lang/invoke/VarHandle" ∧ (parseMethodDescriptor yX7_lineName.desc).map (fun d => d.parameters.length) = some 1 := by decide +kernel
set_option maxHeartbeats 4000000 in
set_option maxRecDepth 100000 in
theorem ccX7_lineName (l : Launch) (dC : Nat → ClassId) (dI : Nat → Nat → Nat) (cyI cyZ cyJ cyB cyO : ClassId) (sK sV tS : Nat → Nat) (v0 : Int32) (out : Nat) (hp : pX7_lineName v0 = some out) : Met l yX7_lineName wsX7_lineName ({ frames := 0, cells := 0, slots := 0, locals := 0 } : Room) (px_PRs sK sV tS (dC, dI) (px_TY cyI cyZ cyJ cyB cyO) [.int v0] []) (px_QR (.ref (sK out))) 0 0 (fun _ => False) := by
  refine Met.ofW (cc := cX7_lineName) (maxL := 1) (ret := (some (.object "java/lang/String"))) (by decide) rfl ?_
  intro p e s m args below meth c s₁ B hml hv
  obtain ⟨rfl, ⟨hP, hK, hN⟩, hG⟩ := hv
  have hx := B.exec
  have hb := B.bytes
  have hr := B.returns
  have hts := atoms_spec (ws := wsX7_lineName) B.pre
  have hown : s.vm.findClass RX7 = some m.cls := findClass_of_methodNamed B.named
  have hlocks := B.notSynchronized
  have hQ : ∀ (pc : Nat) (ls : Array Slot), decode cX7_lineName pc = .ok (.areturn, 1) → W p l e ({ frames := 0, cells := 0, slots := 0, locals := 0 } : Room) s m (([.int v0] : List Value).toArray) below meth c s.heap [] 0 0 (MQ below (px_QR (.ref (sK out))) (([.int v0] : List Value).toArray) s 0 0 (fun _ => False)) (F0 m pc ls [.ref (sK out)]) := fun pc ls hd => W.aret hx hb hr (Or.inl ⟨_, rfl⟩) (Or.inr ⟨_, rfl⟩) (fun t ht hW => ⟨rfl, ht⟩) (fun q h => by cases h) hd
  generalize MQ below (px_QR (.ref (sK out))) (([.int v0] : List Value).toArray) s 0 0 (fun _ => False) = Q at hQ ⊢
  have hl := lv_entry [.int v0] (n := 1) (Nat.le_of_ble_eq_true rfl)
  rw [lg_entry_eq]
  generalize (lg_sl [.int v0] ++ List.replicate (1 - (lg_sl [.int v0]).length) Slot.unset).toArray = ls at hl ⊢
  have hl : lv_has ls 1 [(0, .int v0)] := hl
  unfold pX7_lineName at hp
  refine lv_iload_n hx hb dX7_lineName_0 rfl (lv_at hl 0 rfl) ?_
  by_cases c_1 : v0 = (0 : Int32)
  · have hp := px_t hp c_1
    refine lv_tableIn (off := 39) (tgt := 40) hx hb dX7_lineName_1 (by rw [c_1]; decide) (by rw [c_1]; decide) (by rw [c_1]; rfl) (by decide) ?_
    refine va_ldcS (index := 69) hx hb hown (hG.1 0 (by decide)) dX7_lineName_40 ?_
    have ho := px_s hp
    subst ho
    exact hQ _ _ dX7_lineName_42
  · have hp := px_f hp c_1
    by_cases c_2 : v0 = (1 : Int32)
    · have hp := px_t hp c_2
      refine lv_tableIn (off := 42) (tgt := 43) hx hb dX7_lineName_1 (by rw [c_2]; decide) (by rw [c_2]; decide) (by rw [c_2]; rfl) (by decide) ?_
      refine va_ldcS (index := 71) hx hb hown (hG.1 1 (by decide)) dX7_lineName_43 ?_
      have ho := px_s hp
      subst ho
      exact hQ _ _ dX7_lineName_45
    · have hp := px_f hp c_2
      by_cases c_3 : v0 = (2 : Int32)
      · have hp := px_t hp c_3
        refine lv_tableIn (off := 45) (tgt := 46) hx hb dX7_lineName_1 (by rw [c_3]; decide) (by rw [c_3]; decide) (by rw [c_3]; rfl) (by decide) ?_
        refine va_ldcS (index := 73) hx hb hown (hG.1 2 (by decide)) dX7_lineName_46 ?_
        have ho := px_s hp
        subst ho
        exact hQ _ _ dX7_lineName_48
      · have hp := px_f hp c_3
        by_cases c_4 : v0 = (3 : Int32)
        · have hp := px_t hp c_4
          refine lv_tableIn (off := 48) (tgt := 49) hx hb dX7_lineName_1 (by rw [c_4]; decide) (by rw [c_4]; decide) (by rw [c_4]; rfl) (by decide) ?_
          refine va_ldcS (index := 75) hx hb hown (hG.1 3 (by decide)) dX7_lineName_49 ?_
          have ho := px_s hp
          subst ho
          exact hQ _ _ dX7_lineName_51
        · have hp := px_f hp c_4
          by_cases c_5 : v0 = (4 : Int32)
          · have hp := px_t hp c_5
            refine lv_tableIn (off := 51) (tgt := 52) hx hb dX7_lineName_1 (by rw [c_5]; decide) (by rw [c_5]; decide) (by rw [c_5]; rfl) (by decide) ?_
            refine va_ldcS (index := 77) hx hb hown (hG.1 4 (by decide)) dX7_lineName_52 ?_
            have ho := px_s hp
            subst ho
            exact hQ _ _ dX7_lineName_54
          · have hp := px_f hp c_5
            by_cases c_6 : v0 = (5 : Int32)
            · have hp := px_t hp c_6
              refine lv_tableIn (off := 54) (tgt := 55) hx hb dX7_lineName_1 (by rw [c_6]; decide) (by rw [c_6]; decide) (by rw [c_6]; rfl) (by decide) ?_
              refine va_ldcS (index := 79) hx hb hown (hG.1 5 (by decide)) dX7_lineName_55 ?_
              have ho := px_s hp
              subst ho
              exact hQ _ _ dX7_lineName_57
            · have hp := px_f hp c_6
              refine lv_tableOut (tgt := 58) hx hb dX7_lineName_1 (px_sw6 c_1 c_2 c_3 c_4 c_5 c_6) (by decide) ?_
              refine va_ldcS (index := 81) hx hb hown (hG.1 6 (by decide)) dX7_lineName_58 ?_
              have ho := px_s hp
              subst ho
              exact hQ _ _ dX7_lineName_60
/-! TagReader$Tape.isSpelled(Ljava/lang/String;)Z -/
theorem hvX7_isSpelled : yX7_isSpelled.cls = RX7 ∧ yX7_isSpelled.cls ≠ "java/lang/invoke/MethodHandle" ∧ yX7_isSpelled.cls ≠ "java/lang/invoke/VarHandle" ∧ (parseMethodDescriptor yX7_isSpelled.desc).map (fun d => d.parameters.length) = some 1 := by decide +kernel
theorem fX7_isSpelled_X7 : ∀ w ∈ u_ws RX7 TX7 6, w ∈ wsX7_isSpelled := fun _ h => List.mem_cons_of_mem _ (List.mem_append_right _ h)
theorem kX7_isSpelled_1 : (.fieldLink RX7 28 "TagReader$Tape" "place" "I" : Cond) ∈ wsX7_isSpelled := List.mem_of_getElem? (i := 1) rfl
theorem kX7_isSpelled_2 : (.fieldLink RX7 22 "TagReader$Tape" "start" "I" : Cond) ∈ wsX7_isSpelled := List.mem_of_getElem? (i := 2) rfl
set_option maxHeartbeats 4000000 in
set_option maxRecDepth 100000 in
theorem lcX7_isSpelled_24B {p : Program} {l : Launch} {e : Env} {s : State} {m : MethodId} {args : Array Value} {below : List Frame} {meth : Method} {c : Code} {Q : State → Prop} (dC : Nat → ClassId) (dI : Nat → Nat → Nat) (cyI cyZ cyJ cyB cyO : ClassId) (sK sV tS : Nat → Nat) (h_tp a_tp_bytes : Nat) (tp_length : Int32) (tp_kind : Int32) (tp_start : Int32) (tp_value : Int32) (tp_place : Int32) (tp_bytes : Nat → Int32) (j : Nat) (hj : j < 7) (out : Int32) (hx : p.tables.exec = Jvm.exec) (hb : c.code = cX7_isSpelled) (hml : c.maxLocals = 4) (hts : ∀ w ∈ wsX7_isSpelled, w.before args s = true) (hown : s.vm.findClass RX7 = some m.cls) (hK : va_K (dC, dI) vwCl (px_TY cyI cyZ cyJ cyB cyO) s) (hN : px_NW s) (hG : px_SG sK sV tS (fun _ => False) s s.heap) (hP : va_P (dC, dI) vwCl (wdX7_isSpelled cyI cyZ cyJ cyB cyO h_tp a_tp_bytes tp_length tp_kind tp_start tp_value tp_place tp_bytes) s.heap) (hQ : ∀ (pc : Nat) (ls : Array Slot), narrow .boolean (.int out) = .int out → decode cX7_isSpelled pc = .ok (.ireturn, 1) → W p l e ({ frames := 4, cells := 0, slots := 0, locals := 85 } : Room) s m args below meth c s.heap [] 0 0 Q (F0 m pc ls [.int out]))  (K_24 : Int32 → Int32 → Option (Int32)) (hK_24 : ∀ (v2 : Int32) (v3 : Int32) (ls : Array Slot), K_24 v2 v3 = some out → lv_has ls 4 [(0, .ref h_tp), (1, .ref (sK j)), (2, .int v2), (3, .int v3)] → W p l e ({ frames := 4, cells := 0, slots := 0, locals := 85 } : Room) s m args below meth c s.heap [] 0 0 Q (F0 m 24 ls [])) : ∀ (v2 : Int32) (v3 : Int32) (ls : Array Slot), pX7_isSpelled_24B j tp_length tp_start tp_place tp_bytes K_24 v2 v3 = some out → lv_has ls 4 [(0, .ref h_tp), (1, .ref (sK j)), (2, .int v2), (3, .int v3)] → W p l e ({ frames := 4, cells := 0, slots := 0, locals := 85 } : Room) s m args below meth c s.heap [] 0 0 Q (F0 m 24 ls []) := by
  intro v2 v3 ls hp hl
  unfold pX7_isSpelled_24B at hp
  refine lv_iload_n hx hb dX7_isSpelled_24 rfl (lv_at hl 3 rfl) ?_
  refine lv_aload_n hx hb dX7_isSpelled_25 rfl (lv_at hl 1 rfl) ?_
  obtain ⟨o_3, ho_3, hp⟩ := px_b_at hp
  refine px_callR (v := .int o_3) (va_runV (As := []) (rest := [.int v3]) ⟨hx, hb, hml, hown, hts⟩ (ccJ0_length_8abf5 l dC dI cyI cyZ cyJ cyB cyO sK sV tS j hj o_3 ho_3) (cwV 0 hts gX7_isSpelled_J0_length_8abf5 rfl rfl rfl hvJ0_length_8abf5 ⟨Nat.le_of_ble_eq_true rfl, Nat.le_of_ble_eq_true rfl⟩) (px_preRVk (wc := []) hG (va_S.rf : va_S (fun _ => False) s.heap s.heap []) hK hN hP hj [] rfl) rfl rfl hl.1 rfl (lv_room (Nat.le_of_ble_eq_true rfl)) dX7_isSpelled_26 ⟨Nat.zero_le _, Nat.zero_le _⟩) ?_
  refine lv_icmp_ge (tgt := 66) hx hb dX7_isSpelled_29 (by decide) (fun c_4 => ?_) (fun c_4 => ?_)
  · have hp := px_t hp c_4
    refine lv_iload_n hx hb dX7_isSpelled_66 rfl (lv_at hl 2 rfl) ?_
    obtain ⟨g_5, hp⟩ := px_o_at hp
    have ho := px_s hp
    subst ho
    exact hQ _ _ g_5 dX7_isSpelled_67
  · have hp := px_f hp c_4
    refine lv_iload_n hx hb dX7_isSpelled_32 rfl (lv_at hl 2 rfl) ?_
    refine lv_if_eq (tgt := 66) hx hb dX7_isSpelled_33 (by decide) (fun c_6 => ?_) (fun c_6 => ?_)
    · have hp := px_t hp c_6
      refine lv_iload_n hx hb dX7_isSpelled_66 rfl (lv_at hl 2 rfl) ?_
      obtain ⟨g_7, hp⟩ := px_o_at hp
      have ho := px_s hp
      subst ho
      exact hQ _ _ g_7 dX7_isSpelled_67
    · have hp := px_f hp c_6
      refine lv_aload_n hx hb dX7_isSpelled_36 rfl (lv_at hl 0 rfl) ?_
      refine lv_aload_n hx hb dX7_isSpelled_37 rfl (lv_at hl 0 rfl) ?_
      refine va_get (D := (dC, dI)) (ci := 7) (v := .int tp_start) (C := RX7) (T := TX7) (N := 6) hx hb hts fX7_isSpelled_X7 hown hK hP 0 rfl rfl 3 (by decide) (hts _ kX7_isSpelled_2) (fun _ h9 => h9) rfl dX7_isSpelled_38 ?_
      refine lv_iload_n hx hb dX7_isSpelled_41 rfl (lv_at hl 3 rfl) ?_
      refine lv_iadd hx hb dX7_isSpelled_42 ?_
      obtain ⟨o_8, ho_8, hp⟩ := px_b_at hp
      refine px_callR (v := .int o_8) (va_runV (As := [.int (tp_start + v3)]) (rest := []) ⟨hx, hb, hml, hown, hts⟩ (ccX7_byteAt l dC dI cyI cyZ cyJ cyB cyO h_tp a_tp_bytes tp_length tp_kind tp_start tp_value tp_place tp_bytes (tp_start + v3) o_8 ho_8) (cwV 1 hts gX7_isSpelled_X7_byteAt rfl rfl rfl hvX7_byteAt ⟨Nat.le_of_ble_eq_true rfl, Nat.le_of_ble_eq_true rfl⟩) (px_preRV (wc := (wdX7_byteAt cyI cyZ cyJ cyB cyO h_tp a_tp_bytes tp_length tp_kind tp_start tp_value tp_place tp_bytes)) (ci := 7) (q0 := 0) hK hN hP [0, 1] rfl rfl rfl) rfl rfl hl.1 rfl (lv_room (Nat.le_of_ble_eq_true rfl)) dX7_isSpelled_43 ⟨Nat.zero_le _, Nat.zero_le _⟩) ?_
      refine lv_aload_n hx hb dX7_isSpelled_46 rfl (lv_at hl 1 rfl) ?_
      refine lv_iload_n hx hb dX7_isSpelled_47 rfl (lv_at hl 3 rfl) ?_
      obtain ⟨o_9, ho_9, hp⟩ := px_b_at hp
      refine px_callR (v := .int o_9) (va_runV (As := [.int v3]) (rest := [.int o_8]) ⟨hx, hb, hml, hown, hts⟩ (ccJ0_charAt_5068e l dC dI cyI cyZ cyJ cyB cyO sK sV tS j hj v3 o_9 ho_9) (cwV 1 hts gX7_isSpelled_J0_charAt_5068e rfl rfl rfl hvJ0_charAt_5068e ⟨Nat.le_of_ble_eq_true rfl, Nat.le_of_ble_eq_true rfl⟩) (px_preRVk (wc := []) hG (va_S.rf : va_S (fun _ => False) s.heap s.heap []) hK hN hP hj [] rfl) rfl rfl hl.1 rfl (lv_room (Nat.le_of_ble_eq_true rfl)) dX7_isSpelled_48 ⟨Nat.zero_le _, Nat.zero_le _⟩) ?_
      refine lv_icmp_ne (tgt := 58) hx hb dX7_isSpelled_51 (by decide) (fun c_10 => ?_) (fun c_10 => ?_)
      · have hp := px_f hp c_10
        refine lv_iconst (v := (0 : Int32)) hx hb dX7_isSpelled_58 (by decide) ?_
        refine lv_istore_n (lv' := [(2, .int (0 : Int32)), (0, .ref h_tp), (1, .ref (sK j)), (3, .int v3)]) hx hb dX7_isSpelled_59 rfl hl (by decide) rfl (fun ls hl => ?_)
        refine lv_iinc (v := (v3 + (1 : Int32))) (lv' := [(3, .int (v3 + (1 : Int32))), (2, .int (0 : Int32)), (0, .ref h_tp), (1, .ref (sK j))]) hx hb dX7_isSpelled_60 hl (k := 3) rfl rfl (by decide) rfl (fun ls hl => ?_)
        refine lv_goto (tgt := 24) hx hb dX7_isSpelled_63 (by decide) ?_
        exact hK_24 (0 : Int32) (v3 + (1 : Int32)) ls hp (lv_sub hl [2, 3, 1, 0] rfl)
      · have hp := px_t hp c_10
        refine lv_iconst (v := (1 : Int32)) hx hb dX7_isSpelled_54 (by decide) ?_
        refine lv_goto (tgt := 59) hx hb dX7_isSpelled_55 (by decide) ?_
        refine lv_istore_n (lv' := [(2, .int (1 : Int32)), (0, .ref h_tp), (1, .ref (sK j)), (3, .int v3)]) hx hb dX7_isSpelled_59 rfl hl (by decide) rfl (fun ls hl => ?_)
        refine lv_iinc (v := (v3 + (1 : Int32))) (lv' := [(3, .int (v3 + (1 : Int32))), (2, .int (1 : Int32)), (0, .ref h_tp), (1, .ref (sK j))]) hx hb dX7_isSpelled_60 hl (k := 3) rfl rfl (by decide) rfl (fun ls hl => ?_)
        refine lv_goto (tgt := 24) hx hb dX7_isSpelled_63 (by decide) ?_
        exact hK_24 (1 : Int32) (v3 + (1 : Int32)) ls hp (lv_sub hl [2, 3, 1, 0] rfl)
theorem lcX7_isSpelled_24 {p : Program} {l : Launch} {e : Env} {s : State} {m : MethodId} {args : Array Value} {below : List Frame} {meth : Method} {c : Code} {Q : State → Prop} (dC : Nat → ClassId) (dI : Nat → Nat → Nat) (cyI cyZ cyJ cyB cyO : ClassId) (sK sV tS : Nat → Nat) (h_tp a_tp_bytes : Nat) (tp_length : Int32) (tp_kind : Int32) (tp_start : Int32) (tp_value : Int32) (tp_place : Int32) (tp_bytes : Nat → Int32) (j : Nat) (hj : j < 7) (out : Int32) (hx : p.tables.exec = Jvm.exec) (hb : c.code = cX7_isSpelled) (hml : c.maxLocals = 4) (hts : ∀ w ∈ wsX7_isSpelled, w.before args s = true) (hown : s.vm.findClass RX7 = some m.cls) (hK : va_K (dC, dI) vwCl (px_TY cyI cyZ cyJ cyB cyO) s) (hN : px_NW s) (hG : px_SG sK sV tS (fun _ => False) s s.heap) (hP : va_P (dC, dI) vwCl (wdX7_isSpelled cyI cyZ cyJ cyB cyO h_tp a_tp_bytes tp_length tp_kind tp_start tp_value tp_place tp_bytes) s.heap) (hQ : ∀ (pc : Nat) (ls : Array Slot), narrow .boolean (.int out) = .int out → decode cX7_isSpelled pc = .ok (.ireturn, 1) → W p l e ({ frames := 4, cells := 0, slots := 0, locals := 85 } : Room) s m args below meth c s.heap [] 0 0 Q (F0 m pc ls [.int out]))  : ∀ n : Nat, ∀ (v2 : Int32) (v3 : Int32) (ls : Array Slot), pX7_isSpelled_24 j tp_length tp_start tp_place tp_bytes n v2 v3 = some out → lv_has ls 4 [(0, .ref h_tp), (1, .ref (sK j)), (2, .int v2), (3, .int v3)] → W p l e ({ frames := 4, cells := 0, slots := 0, locals := 85 } : Room) s m args below meth c s.heap [] 0 0 Q (F0 m 24 ls []) := by
  intro n
  induction n with
  | zero =>
    intro v2 v3 ls hp hl
    exact nomatch hp
  | succ n ih => exact lcX7_isSpelled_24B dC dI cyI cyZ cyJ cyB cyO sK sV tS h_tp a_tp_bytes tp_length tp_kind tp_start tp_value tp_place tp_bytes j hj out hx hb hml hts hown hK hN hG hP hQ (pX7_isSpelled_24 j tp_length tp_start tp_place tp_bytes n) ih
set_option maxHeartbeats 4000000 in
set_option maxRecDepth 100000 in
theorem ccX7_isSpelled (l : Launch) (dC : Nat → ClassId) (dI : Nat → Nat → Nat) (cyI cyZ cyJ cyB cyO : ClassId) (sK sV tS : Nat → Nat) (h_tp a_tp_bytes : Nat) (tp_length : Int32) (tp_kind : Int32) (tp_start : Int32) (tp_value : Int32) (tp_place : Int32) (tp_bytes : Nat → Int32) (j : Nat) (hj : j < 7) (out : Int32) (hp : pX7_isSpelled j tp_length tp_start tp_place tp_bytes = some out) : Met l yX7_isSpelled wsX7_isSpelled ({ frames := 4, cells := 0, slots := 0, locals := 85 } : Room) (px_PRs sK sV tS (dC, dI) (px_TY cyI cyZ cyJ cyB cyO) [.ref h_tp, .ref (sK j)] (wdX7_isSpelled cyI cyZ cyJ cyB cyO h_tp a_tp_bytes tp_length tp_kind tp_start tp_value tp_place tp_bytes)) (px_QR (.int out)) 0 0 (fun _ => False) := by
  refine Met.ofW (cc := cX7_isSpelled) (maxL := 4) (ret := (some .boolean)) (by decide) rfl ?_
  intro p e s m args below meth c s₁ B hml hv
  obtain ⟨rfl, ⟨hP, hK, hN⟩, hG⟩ := hv
  have hx := B.exec
  have hb := B.bytes
  have hr := B.returns
  have hts := atoms_spec (ws := wsX7_isSpelled) B.pre
  have hown : s.vm.findClass RX7 = some m.cls := findClass_of_methodNamed B.named
  have hlocks := B.notSynchronized
  have hQ : ∀ (pc : Nat) (ls : Array Slot), narrow .boolean (.int out) = .int out → decode cX7_isSpelled pc = .ok (.ireturn, 1) → W p l e ({ frames := 4, cells := 0, slots := 0, locals := 85 } : Room) s m (([.ref h_tp, .ref (sK j)] : List Value).toArray) below meth c s.heap [] 0 0 (MQ below (px_QR (.int out)) (([.ref h_tp, .ref (sK j)] : List Value).toArray) s 0 0 (fun _ => False)) (F0 m pc ls [.int out]) := fun pc ls hz hd => W.zret hx hb hr hz (fun t ht hW => ⟨rfl, ht⟩) (fun q h => by cases h) hd
  generalize MQ below (px_QR (.int out)) (([.ref h_tp, .ref (sK j)] : List Value).toArray) s 0 0 (fun _ => False) = Q at hQ ⊢
  have hl := lv_entry [.ref h_tp, .ref (sK j)] (n := 4) (Nat.le_of_ble_eq_true rfl)
  rw [lg_entry_eq]
  generalize (lg_sl [.ref h_tp, .ref (sK j)] ++ List.replicate (4 - (lg_sl [.ref h_tp, .ref (sK j)]).length) Slot.unset).toArray = ls at hl ⊢
  have hl : lv_has ls 4 [(0, .ref h_tp), (1, .ref (sK j))] := hl
  unfold pX7_isSpelled at hp
  refine lv_aload_n hx hb dX7_isSpelled_0 rfl (lv_at hl 0 rfl) ?_
  refine va_get (D := (dC, dI)) (ci := 7) (v := .int tp_place) (C := RX7) (T := TX7) (N := 6) hx hb hts fX7_isSpelled_X7 hown hK hP 0 rfl rfl 5 (by decide) (hts _ kX7_isSpelled_1) (fun _ h9 => h9) rfl dX7_isSpelled_1 ?_
  refine lv_aload_n hx hb dX7_isSpelled_4 rfl (lv_at hl 0 rfl) ?_
  refine va_get (D := (dC, dI)) (ci := 7) (v := .int tp_start) (C := RX7) (T := TX7) (N := 6) hx hb hts fX7_isSpelled_X7 hown hK hP 0 rfl rfl 3 (by decide) (hts _ kX7_isSpelled_2) (fun _ h9 => h9) rfl dX7_isSpelled_5 ?_
  refine lv_isub hx hb dX7_isSpelled_8 ?_
  refine lv_aload_n hx hb dX7_isSpelled_9 rfl (lv_at hl 1 rfl) ?_
  obtain ⟨o_1, ho_1, hp⟩ := px_b_at hp
  refine px_callR (v := .int o_1) (va_runV (As := []) (rest := [.int (tp_place - tp_start)]) ⟨hx, hb, hml, hown, hts⟩ (ccJ0_length_8abf5 l dC dI cyI cyZ cyJ cyB cyO sK sV tS j hj o_1 ho_1) (cwV 0 hts gX7_isSpelled_J0_length_8abf5 rfl rfl rfl hvJ0_length_8abf5 ⟨Nat.le_of_ble_eq_true rfl, Nat.le_of_ble_eq_true rfl⟩) (px_preRVk (wc := []) hG (va_S.rf : va_S (fun _ => False) s.heap s.heap []) hK hN hP hj [] rfl) rfl rfl hl.1 rfl (lv_room (Nat.le_of_ble_eq_true rfl)) dX7_isSpelled_10 ⟨Nat.zero_le _, Nat.zero_le _⟩) ?_
  refine lv_icmp_ne (tgt := 20) hx hb dX7_isSpelled_13 (by decide) (fun c_2 => ?_) (fun c_2 => ?_)
  · have hp := px_f hp c_2
    refine lv_iconst (v := (0 : Int32)) hx hb dX7_isSpelled_20 (by decide) ?_
    refine lv_istore_n (lv' := [(2, .int (0 : Int32)), (0, .ref h_tp), (1, .ref (sK j))]) hx hb dX7_isSpelled_21 rfl hl (by decide) rfl (fun ls hl => ?_)
    refine lv_iconst (v := (0 : Int32)) hx hb dX7_isSpelled_22 (by decide) ?_
    refine lv_istore_n (lv' := [(3, .int (0 : Int32)), (2, .int (0 : Int32)), (0, .ref h_tp), (1, .ref (sK j))]) hx hb dX7_isSpelled_23 rfl hl (by decide) rfl (fun ls hl => ?_)
    exact lcX7_isSpelled_24 dC dI cyI cyZ cyJ cyB cyO sK sV tS h_tp a_tp_bytes tp_length tp_kind tp_start tp_value tp_place tp_bytes j hj out hx hb hml hts hown hK hN hG hP hQ px_FU (0 : Int32) (0 : Int32) ls hp (lv_sub hl [2, 3, 1, 0] rfl)
  · have hp := px_t hp c_2
    refine lv_iconst (v := (1 : Int32)) hx hb dX7_isSpelled_16 (by decide) ?_
    refine lv_goto (tgt := 21) hx hb dX7_isSpelled_17 (by decide) ?_
    refine lv_istore_n (lv' := [(2, .int (1 : Int32)), (0, .ref h_tp), (1, .ref (sK j))]) hx hb dX7_isSpelled_21 rfl hl (by decide) rfl (fun ls hl => ?_)
    refine lv_iconst (v := (0 : Int32)) hx hb dX7_isSpelled_22 (by decide) ?_
    refine lv_istore_n (lv' := [(3, .int (0 : Int32)), (2, .int (1 : Int32)), (0, .ref h_tp), (1, .ref (sK j))]) hx hb dX7_isSpelled_23 rfl hl (by decide) rfl (fun ls hl => ?_)
    exact lcX7_isSpelled_24 dC dI cyI cyZ cyJ cyB cyO sK sV tS h_tp a_tp_bytes tp_length tp_kind tp_start tp_value tp_place tp_bytes j hj out hx hb hml hts hown hK hN hG hP hQ px_FU (1 : Int32) (0 : Int32) ls hp (lv_sub hl [2, 3, 1, 0] rfl)
