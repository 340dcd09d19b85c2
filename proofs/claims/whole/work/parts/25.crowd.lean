/-! TagReader$Crowd.clear(I)V -/
def pX0_clear (v1 : Int32) (cr_size : Int32) (cr_n : Int32) (cr_blockerBits : Int32) : Option (Int32 × Int32 × Int32) := some ((0 : Int32), v1, (-1 : Int32))
abbrev wdX0_clear (cyI cyZ cyJ cyB cyO : ClassId) (h_cr a_cr_numbers : Nat) (cr_size : Int32) (cr_n : Int32) (cr_blockerBits : Int32) (cr_blocker : Int32) (cr_tagsHeard : Int32) (cr_seemingHeard : Int32) (cr_ones : Int32) (cr_zeros : Int32) (cr_numbers : Nat → Int32) : va_W := [(h_cr, .inr (0, [.ref a_cr_numbers, .int cr_size, .int cr_n, .int cr_blockerBits, .int cr_blocker, .int cr_tagsHeard, .int cr_seemingHeard, .int cr_ones, .int cr_zeros])), (a_cr_numbers, .inl (cyI, 32, .inl cr_numbers))]
/-! TagReader$Crowd.add(I)V -/
def pX0_add (v1 : Int32) (cr_size : Int32) (cr_numbers : Nat → Int32) : Option (Int32 × (Nat → Int32)) := (if (32 : Int32) ≤ cr_size then some (cr_size, cr_numbers) else px_i cr_size 32 (some ((cr_size + (1 : Int32)), (upd cr_numbers (Int32.toNatClampNeg cr_size) v1))))
abbrev wdX0_add (cyI cyZ cyJ cyB cyO : ClassId) (h_cr a_cr_numbers : Nat) (cr_size : Int32) (cr_n : Int32) (cr_blockerBits : Int32) (cr_blocker : Int32) (cr_tagsHeard : Int32) (cr_seemingHeard : Int32) (cr_ones : Int32) (cr_zeros : Int32) (cr_numbers : Nat → Int32) : va_W := [(h_cr, .inr (0, [.ref a_cr_numbers, .int cr_size, .int cr_n, .int cr_blockerBits, .int cr_blocker, .int cr_tagsHeard, .int cr_seemingHeard, .int cr_ones, .int cr_zeros])), (a_cr_numbers, .inl (cyI, 32, .inl cr_numbers))]
/-! TagReader$Crowd.listenToBlocker(II)V -/
def pX0_listenToBlocker (v1 : Int32) (v2 : Int32) (cr_n : Int32) (cr_blockerBits : Int32) (cr_blocker : Int32) (cr_seemingHeard : Int32) (cr_ones : Int32) (cr_zeros : Int32) : Option (Int32 × Int32 × Int32) := (if cr_blockerBits < (0 : Int32) then some ((0 : Int32), cr_ones, cr_zeros) else (if (v2 >>> ((v1 - (if cr_blockerBits < v1 then cr_blockerBits else v1)) &&& (31 : Int32))) = (cr_blocker >>> ((cr_blockerBits - (if cr_blockerBits < v1 then cr_blockerBits else v1)) &&& (31 : Int32))) then px_b (pX10_lowBits (cr_n - v1)) (fun o_3 => px_lt ((1 : Int32) <<< ((cr_n - (if v1 < cr_blockerBits then cr_blockerBits else v1)) &&& (31 : Int32))) (fun x_4 => px_b (pX10_lowBits (cr_n - (if v1 < cr_blockerBits then cr_blockerBits else v1))) (fun o_5 => px_lt (cr_ones ||| (((cr_blocker <<< ((cr_n - cr_blockerBits) &&& (31 : Int32))) &&& o_3) ||| o_5)) (fun x_6 => px_lt (cr_zeros ||| ((((cr_blocker <<< ((cr_n - cr_blockerBits) &&& (31 : Int32))) &&& o_3) ^^^ (-1 : Int32)) &&& o_3)) (fun x_7 => some (x_4, x_6, x_7)))))) else some ((0 : Int32), cr_ones, cr_zeros)))
abbrev wdX0_listenToBlocker (cyI cyZ cyJ cyB cyO : ClassId) (h_cr a_cr_numbers : Nat) (cr_size : Int32) (cr_n : Int32) (cr_blockerBits : Int32) (cr_blocker : Int32) (cr_tagsHeard : Int32) (cr_seemingHeard : Int32) (cr_ones : Int32) (cr_zeros : Int32) (cr_numbers : Nat → Int32) : va_W := [(h_cr, .inr (0, [.ref a_cr_numbers, .int cr_size, .int cr_n, .int cr_blockerBits, .int cr_blocker, .int cr_tagsHeard, .int cr_seemingHeard, .int cr_ones, .int cr_zeros])), (a_cr_numbers, .inl (cyI, 32, .inl cr_numbers))]
/-! TagReader$Crowd.listen(II)V -/
def pX0_listen_109 (v1 : Int32) (v2 : Int32) (cr_size : Int32) (cr_n : Int32) (cr_blockerBits : Int32) (cr_blocker : Int32) (cr_numbers : Nat → Int32) (cr_tagsHeard : Int32) (cr_seemingHeard : Int32) (cr_ones : Int32) (cr_zeros : Int32) : Option (Int32 × Int32 × Int32 × Int32) := px_b (pX0_listenToBlocker v1 v2 cr_n cr_blockerBits cr_blocker cr_seemingHeard cr_ones cr_zeros) (fun o_3 => some (cr_tagsHeard, o_3.1, o_3.2.1, o_3.2.2))
def pX0_listen_31B (v1 : Int32) (v2 : Int32) (cr_size : Int32) (cr_n : Int32) (cr_blockerBits : Int32) (cr_blocker : Int32) (cr_numbers : Nat → Int32) (K_31 : Int32 → Int32 → Int32 → Int32 → Int32 → Int32 → Int32 → Option (Int32 × Int32 × Int32 × Int32)) (v3 : Int32) (v4 : Int32) (v5 : Int32) (cr_tagsHeard : Int32) (cr_seemingHeard : Int32) (cr_ones : Int32) (cr_zeros : Int32) : Option (Int32 × Int32 × Int32 × Int32) := (if cr_size ≤ v5 then pX0_listen_109 v1 v2 cr_size cr_n cr_blockerBits cr_blocker cr_numbers cr_tagsHeard cr_seemingHeard cr_ones cr_zeros else px_i v5 32 ((if ((cr_numbers (Int32.toNatClampNeg v5)) >>> (v3 &&& (31 : Int32))) = v2 then px_i v5 32 (px_i v5 32 (px_lt (cr_zeros ||| (((cr_numbers (Int32.toNatClampNeg v5)) ^^^ (-1 : Int32)) &&& v4)) (fun x_8 => K_31 v3 v4 (v5 + (1 : Int32)) (cr_tagsHeard + (1 : Int32)) cr_seemingHeard (cr_ones ||| ((cr_numbers (Int32.toNatClampNeg v5)) &&& v4)) x_8))) else K_31 v3 v4 (v5 + (1 : Int32)) cr_tagsHeard cr_seemingHeard cr_ones cr_zeros)))
def pX0_listen_31 (v1 : Int32) (v2 : Int32) (cr_size : Int32) (cr_n : Int32) (cr_blockerBits : Int32) (cr_blocker : Int32) (cr_numbers : Nat → Int32) : Nat → Int32 → Int32 → Int32 → Int32 → Int32 → Int32 → Int32 → Option (Int32 × Int32 × Int32 × Int32)
  | 0, _, _, _, _, _, _, _ => none
  | n + 1, v3, v4, v5, cr_tagsHeard, cr_seemingHeard, cr_ones, cr_zeros => pX0_listen_31B v1 v2 cr_size cr_n cr_blockerBits cr_blocker cr_numbers (pX0_listen_31 v1 v2 cr_size cr_n cr_blockerBits cr_blocker cr_numbers n) v3 v4 v5 cr_tagsHeard cr_seemingHeard cr_ones cr_zeros
def pX0_listen (v1 : Int32) (v2 : Int32) (cr_size : Int32) (cr_n : Int32) (cr_blockerBits : Int32) (cr_blocker : Int32) (cr_numbers : Nat → Int32) (cr_tagsHeard : Int32) (cr_seemingHeard : Int32) (cr_ones : Int32) (cr_zeros : Int32) : Option (Int32 × Int32 × Int32 × Int32) := px_b (pX10_lowBits (cr_n - v1)) (fun o_1 => pX0_listen_31 v1 v2 cr_size cr_n cr_blockerBits cr_blocker cr_numbers px_FU (cr_n - v1) o_1 (0 : Int32) (0 : Int32) cr_seemingHeard (0 : Int32) (0 : Int32))
abbrev wdX0_listen (cyI cyZ cyJ cyB cyO : ClassId) (h_cr a_cr_numbers : Nat) (cr_size : Int32) (cr_n : Int32) (cr_blockerBits : Int32) (cr_blocker : Int32) (cr_tagsHeard : Int32) (cr_seemingHeard : Int32) (cr_ones : Int32) (cr_zeros : Int32) (cr_numbers : Nat → Int32) : va_W := [(h_cr, .inr (0, [.ref a_cr_numbers, .int cr_size, .int cr_n, .int cr_blockerBits, .int cr_blocker, .int cr_tagsHeard, .int cr_seemingHeard, .int cr_ones, .int cr_zeros])), (a_cr_numbers, .inl (cyI, 32, .inl cr_numbers))]
/-! TagReader$Crowd.clashes()I -/
def pX0_clashes (cr_ones : Int32) (cr_zeros : Int32) : Option (Int32) := some (cr_ones &&& cr_zeros)
abbrev wdX0_clashes (cyI cyZ cyJ cyB cyO : ClassId) (h_cr a_cr_numbers : Nat) (cr_size : Int32) (cr_n : Int32) (cr_blockerBits : Int32) (cr_blocker : Int32) (cr_tagsHeard : Int32) (cr_seemingHeard : Int32) (cr_ones : Int32) (cr_zeros : Int32) (cr_numbers : Nat → Int32) : va_W := [(h_cr, .inr (0, [.ref a_cr_numbers, .int cr_size, .int cr_n, .int cr_blockerBits, .int cr_blocker, .int cr_tagsHeard, .int cr_seemingHeard, .int cr_ones, .int cr_zeros])), (a_cr_numbers, .inl (cyI, 32, .inl cr_numbers))]
/-! TagReader$Crowd.clear(I)V -/
theorem hvX0_clear : yX0_clear.cls = RX0 ∧ yX0_clear.cls ≠ "java/lang/invoke/MethodHandle" ∧ yX0_clear.cls ≠ "java/lang/invoke/VarHandle" ∧ (parseMethodDescriptor yX0_clear.desc).map (fun d => d.parameters.length) = some 1 := by decide +kernel
theorem fX0_clear_X0 : ∀ w ∈ u_ws RX0 TX0 9, w ∈ wsX0_clear := fun _ h => List.mem_cons_of_mem _ (List.mem_append_right _ h)
theorem kX0_clear_1 : (.fieldLink RX0 17 "TagReader$Crowd" "n" "I" : Cond) ∈ wsX0_clear := List.mem_of_getElem? (i := 1) rfl
theorem kX0_clear_2 : (.fieldLink RX0 13 "TagReader$Crowd" "size" "I" : Cond) ∈ wsX0_clear := List.mem_of_getElem? (i := 2) rfl
theorem kX0_clear_3 : (.fieldLink RX0 20 "TagReader$Crowd" "blockerBits" "I" : Cond) ∈ wsX0_clear := List.mem_of_getElem? (i := 3) rfl
set_option maxHeartbeats 4000000 in
set_option maxRecDepth 100000 in
theorem ccX0_clear (l : Launch) (dC : Nat → ClassId) (dI : Nat → Nat → Nat) (cyI cyZ cyJ cyB cyO : ClassId) (sz : Nat) (h_cr a_cr_numbers : Nat) (cr_size : Int32) (cr_n : Int32) (cr_blockerBits : Int32) (cr_blocker : Int32) (cr_tagsHeard : Int32) (cr_seemingHeard : Int32) (cr_ones : Int32) (cr_zeros : Int32) (cr_numbers : Nat → Int32) (v1 : Int32) (out : Int32 × Int32 × Int32) (hp : pX0_clear v1 cr_size cr_n cr_blockerBits = some out) : Met l yX0_clear wsX0_clear ({ frames := 0, cells := 0, slots := 0, locals := 0 } : Room) (px_PW (dC, dI) (px_TY cyI cyZ cyJ cyB cyO) [.ref h_cr, .int v1] (wdX0_clear cyI cyZ cyJ cyB cyO h_cr a_cr_numbers cr_size cr_n cr_blockerBits cr_blocker cr_tagsHeard cr_seemingHeard cr_ones cr_zeros cr_numbers) sz) (px_QW none (dC, dI) (wdX0_clear cyI cyZ cyJ cyB cyO h_cr a_cr_numbers cr_size cr_n cr_blockerBits cr_blocker cr_tagsHeard cr_seemingHeard cr_ones cr_zeros cr_numbers) (wdX0_clear cyI cyZ cyJ cyB cyO h_cr a_cr_numbers out.1 out.2.1 out.2.2 cr_blocker cr_tagsHeard cr_seemingHeard cr_ones cr_zeros cr_numbers) sz) 0 0 (va_A (wdX0_clear cyI cyZ cyJ cyB cyO h_cr a_cr_numbers cr_size cr_n cr_blockerBits cr_blocker cr_tagsHeard cr_seemingHeard cr_ones cr_zeros cr_numbers) sz) := by
  refine Met.ofW (cc := cX0_clear) (maxL := 2) (ret := none) (by decide) rfl ?_
  intro p e s m args below meth c s₁ B hml hv
  obtain ⟨rfl, hsz, hP, hK, hD0, hN⟩ := hv
  have hx := B.exec
  have hb := B.bytes
  have hr := B.returns
  have hts := atoms_spec (ws := wsX0_clear) B.pre
  have hown : s.vm.findClass RX0 = some m.cls := findClass_of_methodNamed B.named
  have hlocks := B.notSynchronized
  subst hsz
  have hD := hD0.self (sz := s.heap.size)
  generalize hAe : va_A (wdX0_clear cyI cyZ cyJ cyB cyO h_cr a_cr_numbers cr_size cr_n cr_blockerBits cr_blocker cr_tagsHeard cr_seemingHeard cr_ones cr_zeros cr_numbers) s.heap.size = A at hD ⊢
  have hA : ∀ q : Nat, s.heap.size ≤ q → A q := fun q h => by rw [← hAe]; exact Or.inr h
  have hS : va_S A s.heap s.heap [] := va_S.rf
  have hq := px_QWe (v := none) (D := (dC, dI)) (w1 := (wdX0_clear cyI cyZ cyJ cyB cyO h_cr a_cr_numbers out.1 out.2.1 out.2.2 cr_blocker cr_tagsHeard cr_seemingHeard cr_ones cr_zeros cr_numbers)) (st := s) hAe
  generalize px_QW none (dC, dI) (wdX0_clear cyI cyZ cyJ cyB cyO h_cr a_cr_numbers cr_size cr_n cr_blockerBits cr_blocker cr_tagsHeard cr_seemingHeard cr_ones cr_zeros cr_numbers) (wdX0_clear cyI cyZ cyJ cyB cyO h_cr a_cr_numbers out.1 out.2.1 out.2.2 cr_blocker cr_tagsHeard cr_seemingHeard cr_ones cr_zeros cr_numbers) s.heap.size = Qc at hq ⊢
  have hQ : ∀ (H : Heap) (locs : List Loc) (pc : Nat) (ls : Array Slot), va_P (dC, dI) vwCl (wdX0_clear cyI cyZ cyJ cyB cyO h_cr a_cr_numbers out.1 out.2.1 out.2.2 cr_blocker cr_tagsHeard cr_seemingHeard cr_ones cr_zeros cr_numbers) H → va_D A (wdX0_clear cyI cyZ cyJ cyB cyO h_cr a_cr_numbers out.1 out.2.1 out.2.2 cr_blocker cr_tagsHeard cr_seemingHeard cr_ones cr_zeros cr_numbers) → va_S A s.heap H locs → decode cX0_clear pc = .ok (.return_, 1) → W p l e ({ frames := 0, cells := 0, slots := 0, locals := 0 } : Room) s m (([.ref h_cr, .int v1] : List Value).toArray) below meth c H locs 0 0 (MQ below Qc (([.ref h_cr, .int v1] : List Value).toArray) s 0 0 A) (F0 m pc ls []) := fun H locs pc ls hP hD hS hd => W.vret hx hb hr (fun t ht hW => hq _ t (by rw [ht]; exact hP) hD (hS.F ht)) hS.2.2 hd
  generalize MQ below Qc (([.ref h_cr, .int v1] : List Value).toArray) s 0 0 A = Q at hQ ⊢
  have hl := lv_entry [.ref h_cr, .int v1] (n := 2) (Nat.le_of_ble_eq_true rfl)
  rw [lg_entry_eq]
  generalize (lg_sl [.ref h_cr, .int v1] ++ List.replicate (2 - (lg_sl [.ref h_cr, .int v1]).length) Slot.unset).toArray = ls at hl ⊢
  have hl : lv_has ls 2 [(0, .ref h_cr), (1, .int v1)] := hl
  unfold pX0_clear at hp
  refine lv_aload_n hx hb dX0_clear_0 rfl (lv_at hl 0 rfl) ?_
  refine lv_iload_n hx hb dX0_clear_1 rfl (lv_at hl 1 rfl) ?_
  refine va_put (D := (dC, dI)) (ci := 0) (v := .int v1) (ty := .int) (C := RX0) (T := TX0) (N := 9) hx hb hts fX0_clear_X0 tyX0 tyX0_ok nmX0 hown hK hP hD hS 0 rfl rfl 2 (by decide) (hts _ kX0_clear_1) (fun _ h9 => h9) rfl (tyX0_ok 2 (by decide)) rfl rfl (Nat.le_of_ble_eq_true rfl) dX0_clear_2 (fun H locs hP hD hS => ?_)
  have hP : va_P (dC, dI) vwCl (wdX0_clear cyI cyZ cyJ cyB cyO h_cr a_cr_numbers cr_size v1 cr_blockerBits cr_blocker cr_tagsHeard cr_seemingHeard cr_ones cr_zeros cr_numbers) H := hP
  have hD : va_D A (wdX0_clear cyI cyZ cyJ cyB cyO h_cr a_cr_numbers cr_size v1 cr_blockerBits cr_blocker cr_tagsHeard cr_seemingHeard cr_ones cr_zeros cr_numbers) := hD
  refine lv_aload_n hx hb dX0_clear_5 rfl (lv_at hl 0 rfl) ?_
  refine lv_iconst (v := (0 : Int32)) hx hb dX0_clear_6 (by decide) ?_
  refine va_put (D := (dC, dI)) (ci := 0) (v := .int (0 : Int32)) (ty := .int) (C := RX0) (T := TX0) (N := 9) hx hb hts fX0_clear_X0 tyX0 tyX0_ok nmX0 hown hK hP hD hS 0 rfl rfl 1 (by decide) (hts _ kX0_clear_2) (fun _ h9 => h9) rfl (tyX0_ok 1 (by decide)) rfl rfl (Nat.le_of_ble_eq_true rfl) dX0_clear_7 (fun H locs hP hD hS => ?_)
  have hP : va_P (dC, dI) vwCl (wdX0_clear cyI cyZ cyJ cyB cyO h_cr a_cr_numbers (0 : Int32) v1 cr_blockerBits cr_blocker cr_tagsHeard cr_seemingHeard cr_ones cr_zeros cr_numbers) H := hP
  have hD : va_D A (wdX0_clear cyI cyZ cyJ cyB cyO h_cr a_cr_numbers (0 : Int32) v1 cr_blockerBits cr_blocker cr_tagsHeard cr_seemingHeard cr_ones cr_zeros cr_numbers) := hD
  refine lv_aload_n hx hb dX0_clear_10 rfl (lv_at hl 0 rfl) ?_
  refine lv_iconst (v := (-1 : Int32)) hx hb dX0_clear_11 (by decide) ?_
  refine va_put (D := (dC, dI)) (ci := 0) (v := .int (-1 : Int32)) (ty := .int) (C := RX0) (T := TX0) (N := 9) hx hb hts fX0_clear_X0 tyX0 tyX0_ok nmX0 hown hK hP hD hS 0 rfl rfl 3 (by decide) (hts _ kX0_clear_3) (fun _ h9 => h9) rfl (tyX0_ok 3 (by decide)) rfl rfl (Nat.le_of_ble_eq_true rfl) dX0_clear_12 (fun H locs hP hD hS => ?_)
  have hP : va_P (dC, dI) vwCl (wdX0_clear cyI cyZ cyJ cyB cyO h_cr a_cr_numbers (0 : Int32) v1 (-1 : Int32) cr_blocker cr_tagsHeard cr_seemingHeard cr_ones cr_zeros cr_numbers) H := hP
  have hD : va_D A (wdX0_clear cyI cyZ cyJ cyB cyO h_cr a_cr_numbers (0 : Int32) v1 (-1 : Int32) cr_blocker cr_tagsHeard cr_seemingHeard cr_ones cr_zeros cr_numbers) := hD
  have ho := px_s hp
  subst ho
  exact hQ _ _ _ _ hP hD hS dX0_clear_15
/-! TagReader$Crowd.add(I)V -/
theorem hvX0_add : yX0_add.cls = RX0 ∧ yX0_add.cls ≠ "java/lang/invoke/MethodHandle" ∧ yX0_add.cls ≠ "java/lang/invoke/VarHandle" ∧ (parseMethodDescriptor yX0_add.desc).map (fun d => d.parameters.length) = some 1 := by decide +kernel
theorem fX0_add_X0 : ∀ w ∈ u_ws RX0 TX0 9, w ∈ wsX0_add := fun _ h => List.mem_cons_of_mem _ (List.mem_append_right _ h)
theorem kX0_add_1 : (.fieldLink RX0 13 "TagReader$Crowd" "size" "I" : Cond) ∈ wsX0_add := List.mem_of_getElem? (i := 1) rfl
theorem kX0_add_2 : (.fieldLink RX0 7 "TagReader$Crowd" "numbers" "[I" : Cond) ∈ wsX0_add := List.mem_of_getElem? (i := 2) rfl
set_option maxHeartbeats 4000000 in
set_option maxRecDepth 100000 in
theorem ccX0_add (l : Launch) (dC : Nat → ClassId) (dI : Nat → Nat → Nat) (cyI cyZ cyJ cyB cyO : ClassId) (sz : Nat) (h_cr a_cr_numbers : Nat) (cr_size : Int32) (cr_n : Int32) (cr_blockerBits : Int32) (cr_blocker : Int32) (cr_tagsHeard : Int32) (cr_seemingHeard : Int32) (cr_ones : Int32) (cr_zeros : Int32) (cr_numbers : Nat → Int32) (v1 : Int32) (out : Int32 × (Nat → Int32)) (hp : pX0_add v1 cr_size cr_numbers = some out) : Met l yX0_add wsX0_add ({ frames := 0, cells := 0, slots := 0, locals := 0 } : Room) (px_PW (dC, dI) (px_TY cyI cyZ cyJ cyB cyO) [.ref h_cr, .int v1] (wdX0_add cyI cyZ cyJ cyB cyO h_cr a_cr_numbers cr_size cr_n cr_blockerBits cr_blocker cr_tagsHeard cr_seemingHeard cr_ones cr_zeros cr_numbers) sz) (px_QW none (dC, dI) (wdX0_add cyI cyZ cyJ cyB cyO h_cr a_cr_numbers cr_size cr_n cr_blockerBits cr_blocker cr_tagsHeard cr_seemingHeard cr_ones cr_zeros cr_numbers) (wdX0_add cyI cyZ cyJ cyB cyO h_cr a_cr_numbers out.1 cr_n cr_blockerBits cr_blocker cr_tagsHeard cr_seemingHeard cr_ones cr_zeros out.2) sz) 0 0 (va_A (wdX0_add cyI cyZ cyJ cyB cyO h_cr a_cr_numbers cr_size cr_n cr_blockerBits cr_blocker cr_tagsHeard cr_seemingHeard cr_ones cr_zeros cr_numbers) sz) := by
  refine Met.ofW (cc := cX0_add) (maxL := 2) (ret := none) (by decide) rfl ?_
  intro p e s m args below meth c s₁ B hml hv
  obtain ⟨rfl, hsz, hP, hK, hD0, hN⟩ := hv
  have hx := B.exec
  have hb := B.bytes
  have hr := B.returns
  have hts := atoms_spec (ws := wsX0_add) B.pre
  have hown : s.vm.findClass RX0 = some m.cls := findClass_of_methodNamed B.named
  have hlocks := B.notSynchronized
  subst hsz
  have hD := hD0.self (sz := s.heap.size)
  generalize hAe : va_A (wdX0_add cyI cyZ cyJ cyB cyO h_cr a_cr_numbers cr_size cr_n cr_blockerBits cr_blocker cr_tagsHeard cr_seemingHeard cr_ones cr_zeros cr_numbers) s.heap.size = A at hD ⊢
  have hA : ∀ q : Nat, s.heap.size ≤ q → A q := fun q h => by rw [← hAe]; exact Or.inr h
  have hS : va_S A s.heap s.heap [] := va_S.rf
  have hq := px_QWe (v := none) (D := (dC, dI)) (w1 := (wdX0_add cyI cyZ cyJ cyB cyO h_cr a_cr_numbers out.1 cr_n cr_blockerBits cr_blocker cr_tagsHeard cr_seemingHeard cr_ones cr_zeros out.2)) (st := s) hAe
  generalize px_QW none (dC, dI) (wdX0_add cyI cyZ cyJ cyB cyO h_cr a_cr_numbers cr_size cr_n cr_blockerBits cr_blocker cr_tagsHeard cr_seemingHeard cr_ones cr_zeros cr_numbers) (wdX0_add cyI cyZ cyJ cyB cyO h_cr a_cr_numbers out.1 cr_n cr_blockerBits cr_blocker cr_tagsHeard cr_seemingHeard cr_ones cr_zeros out.2) s.heap.size = Qc at hq ⊢
  have hQ : ∀ (H : Heap) (locs : List Loc) (pc : Nat) (ls : Array Slot), va_P (dC, dI) vwCl (wdX0_add cyI cyZ cyJ cyB cyO h_cr a_cr_numbers out.1 cr_n cr_blockerBits cr_blocker cr_tagsHeard cr_seemingHeard cr_ones cr_zeros out.2) H → va_D A (wdX0_add cyI cyZ cyJ cyB cyO h_cr a_cr_numbers out.1 cr_n cr_blockerBits cr_blocker cr_tagsHeard cr_seemingHeard cr_ones cr_zeros out.2) → va_S A s.heap H locs → decode cX0_add pc = .ok (.return_, 1) → W p l e ({ frames := 0, cells := 0, slots := 0, locals := 0 } : Room) s m (([.ref h_cr, .int v1] : List Value).toArray) below meth c H locs 0 0 (MQ below Qc (([.ref h_cr, .int v1] : List Value).toArray) s 0 0 A) (F0 m pc ls []) := fun H locs pc ls hP hD hS hd => W.vret hx hb hr (fun t ht hW => hq _ t (by rw [ht]; exact hP) hD (hS.F ht)) hS.2.2 hd
  generalize MQ below Qc (([.ref h_cr, .int v1] : List Value).toArray) s 0 0 A = Q at hQ ⊢
  have hl := lv_entry [.ref h_cr, .int v1] (n := 2) (Nat.le_of_ble_eq_true rfl)
  rw [lg_entry_eq]
  generalize (lg_sl [.ref h_cr, .int v1] ++ List.replicate (2 - (lg_sl [.ref h_cr, .int v1]).length) Slot.unset).toArray = ls at hl ⊢
  have hl : lv_has ls 2 [(0, .ref h_cr), (1, .int v1)] := hl
  unfold pX0_add at hp
  refine lv_aload_n hx hb dX0_add_0 rfl (lv_at hl 0 rfl) ?_
  refine va_get (D := (dC, dI)) (ci := 0) (v := .int cr_size) (C := RX0) (T := TX0) (N := 9) hx hb hts fX0_add_X0 hown hK hP 0 rfl rfl 1 (by decide) (hts _ kX0_add_1) (fun _ h9 => h9) rfl dX0_add_1 ?_
  refine lv_aload_n hx hb dX0_add_4 rfl (lv_at hl 0 rfl) ?_
  refine va_get (D := (dC, dI)) (ci := 0) (v := .ref a_cr_numbers) (C := RX0) (T := TX0) (N := 9) hx hb hts fX0_add_X0 hown hK hP 0 rfl rfl 0 (by decide) (hts _ kX0_add_2) (fun _ h9 => h9) rfl dX0_add_5 ?_
  refine va_alen (D := (dC, dI)) (v := (32 : Int32)) hx hb hK hP 1 0 rfl rfl rfl dX0_add_8 ?_
  refine lv_icmp_ge (tgt := 32) hx hb dX0_add_9 (by decide) (fun c_1 => ?_) (fun c_1 => ?_)
  · have hp := px_t hp c_1
    have ho := px_s hp
    subst ho
    exact hQ _ _ _ _ hP hD hS dX0_add_32
  · have hp := px_f hp c_1
    refine lv_aload_n hx hb dX0_add_12 rfl (lv_at hl 0 rfl) ?_
    refine va_get (D := (dC, dI)) (ci := 0) (v := .ref a_cr_numbers) (C := RX0) (T := TX0) (N := 9) hx hb hts fX0_add_X0 hown hK hP 0 rfl rfl 0 (by decide) (hts _ kX0_add_2) (fun _ h9 => h9) rfl dX0_add_13 ?_
    refine lv_aload_n hx hb dX0_add_16 rfl (lv_at hl 0 rfl) ?_
    refine va_get (D := (dC, dI)) (ci := 0) (v := .int cr_size) (C := RX0) (T := TX0) (N := 9) hx hb hts fX0_add_X0 hown hK hP 0 rfl rfl 1 (by decide) (hts _ kX0_add_1) (fun _ h9 => h9) rfl dX0_add_17 ?_
    refine lv_iload_n hx hb dX0_add_20 rfl (lv_at hl 1 rfl) ?_
    obtain ⟨g_2, hp⟩ := px_i_at hp
    refine va_iast (D := (dC, dI)) hx hb hK hP hD hS 1 0 rfl rfl g_2 dX0_add_21 (fun H locs hP hD hS => ?_)
    have hP : va_P (dC, dI) vwCl (wdX0_add cyI cyZ cyJ cyB cyO h_cr a_cr_numbers cr_size cr_n cr_blockerBits cr_blocker cr_tagsHeard cr_seemingHeard cr_ones cr_zeros (upd cr_numbers (Int32.toNatClampNeg cr_size) v1)) H := hP
    have hD : va_D A (wdX0_add cyI cyZ cyJ cyB cyO h_cr a_cr_numbers cr_size cr_n cr_blockerBits cr_blocker cr_tagsHeard cr_seemingHeard cr_ones cr_zeros (upd cr_numbers (Int32.toNatClampNeg cr_size) v1)) := hD
    refine lv_aload_n hx hb dX0_add_22 rfl (lv_at hl 0 rfl) ?_
    refine lv_dup hx hb dX0_add_23 rfl ?_
    refine va_get (D := (dC, dI)) (ci := 0) (v := .int cr_size) (C := RX0) (T := TX0) (N := 9) hx hb hts fX0_add_X0 hown hK hP 0 rfl rfl 1 (by decide) (hts _ kX0_add_1) (fun _ h9 => h9) rfl dX0_add_24 ?_
    refine lv_iconst (v := (1 : Int32)) hx hb dX0_add_27 (by decide) ?_
    refine lv_iadd hx hb dX0_add_28 ?_
    refine va_put (D := (dC, dI)) (ci := 0) (v := .int (cr_size + (1 : Int32))) (ty := .int) (C := RX0) (T := TX0) (N := 9) hx hb hts fX0_add_X0 tyX0 tyX0_ok nmX0 hown hK hP hD hS 0 rfl rfl 1 (by decide) (hts _ kX0_add_1) (fun _ h9 => h9) rfl (tyX0_ok 1 (by decide)) rfl rfl (Nat.le_of_ble_eq_true rfl) dX0_add_29 (fun H locs hP hD hS => ?_)
    have hP : va_P (dC, dI) vwCl (wdX0_add cyI cyZ cyJ cyB cyO h_cr a_cr_numbers (cr_size + (1 : Int32)) cr_n cr_blockerBits cr_blocker cr_tagsHeard cr_seemingHeard cr_ones cr_zeros (upd cr_numbers (Int32.toNatClampNeg cr_size) v1)) H := hP
    have hD : va_D A (wdX0_add cyI cyZ cyJ cyB cyO h_cr a_cr_numbers (cr_size + (1 : Int32)) cr_n cr_blockerBits cr_blocker cr_tagsHeard cr_seemingHeard cr_ones cr_zeros (upd cr_numbers (Int32.toNatClampNeg cr_size) v1)) := hD
    have ho := px_s hp
    subst ho
    exact hQ _ _ _ _ hP hD hS dX0_add_32
/-! TagReader$Crowd.listenToBlocker(II)V -/
theorem hvX0_listenToBlocker : yX0_listenToBlocker.cls = RX0 ∧ yX0_listenToBlocker.cls ≠ "java/lang/invoke/MethodHandle" ∧ yX0_listenToBlocker.cls ≠ "java/lang/invoke/VarHandle" ∧ (parseMethodDescriptor yX0_listenToBlocker.desc).map (fun d => d.parameters.length) = some 2 := by decide +kernel
theorem fX0_listenToBlocker_X0 : ∀ w ∈ u_ws RX0 TX0 9, w ∈ wsX0_listenToBlocker := fun _ h => List.mem_cons_of_mem _ (List.mem_append_right _ h)
theorem kX0_listenToBlocker_1 : (.fieldLink RX0 29 "TagReader$Crowd" "seemingHeard" "I" : Cond) ∈ wsX0_listenToBlocker := List.mem_of_getElem? (i := 1) rfl
theorem kX0_listenToBlocker_2 : (.fieldLink RX0 20 "TagReader$Crowd" "blockerBits" "I" : Cond) ∈ wsX0_listenToBlocker := List.mem_of_getElem? (i := 2) rfl
theorem kX0_listenToBlocker_3 : (.methodLink RX0 48 Lib.Math.min.name : Cond) ∈ wsX0_listenToBlocker := List.mem_of_getElem? (i := 3) rfl
theorem kX0_listenToBlocker_4 : (.static Lib.Math.min.name : Cond) ∈ wsX0_listenToBlocker := List.mem_of_getElem? (i := 4) rfl
theorem kX0_listenToBlocker_5 : (.initialized "java/lang/Math" : Cond) ∈ wsX0_listenToBlocker := List.mem_of_getElem? (i := 5) rfl
theorem kX0_listenToBlocker_6 : (.code Lib.Math.min.name Lib.Math.min.code 2 (some .int) : Cond) ∈ wsX0_listenToBlocker := List.mem_of_getElem? (i := 6) rfl
theorem kX0_listenToBlocker_7 : (.fieldLink RX0 23 "TagReader$Crowd" "blocker" "I" : Cond) ∈ wsX0_listenToBlocker := List.mem_of_getElem? (i := 7) rfl
theorem kX0_listenToBlocker_8 : (.fieldLink RX0 17 "TagReader$Crowd" "n" "I" : Cond) ∈ wsX0_listenToBlocker := List.mem_of_getElem? (i := 8) rfl
theorem kX0_listenToBlocker_15 : (.initialized RX10 : Cond) ∈ wsX0_listenToBlocker := List.mem_of_getElem? (i := 15) rfl
theorem kX0_listenToBlocker_14 : (.static yX10_lowBits : Cond) ∈ wsX0_listenToBlocker := List.mem_of_getElem? (i := 14) rfl
theorem kX0_listenToBlocker_9 : (.methodLink RX0 54 Lib.Math.max.name : Cond) ∈ wsX0_listenToBlocker := List.mem_of_getElem? (i := 9) rfl
theorem kX0_listenToBlocker_10 : (.static Lib.Math.max.name : Cond) ∈ wsX0_listenToBlocker := List.mem_of_getElem? (i := 10) rfl
theorem kX0_listenToBlocker_11 : (.code Lib.Math.max.name Lib.Math.max.code 2 (some .int) : Cond) ∈ wsX0_listenToBlocker := List.mem_of_getElem? (i := 11) rfl
theorem kX0_listenToBlocker_12 : (.fieldLink RX0 32 "TagReader$Crowd" "ones" "I" : Cond) ∈ wsX0_listenToBlocker := List.mem_of_getElem? (i := 12) rfl
theorem kX0_listenToBlocker_13 : (.fieldLink RX0 35 "TagReader$Crowd" "zeros" "I" : Cond) ∈ wsX0_listenToBlocker := List.mem_of_getElem? (i := 13) rfl
set_option maxHeartbeats 4000000 in
set_option maxRecDepth 100000 in
theorem ccX0_listenToBlocker (l : Launch) (dC : Nat → ClassId) (dI : Nat → Nat → Nat) (cyI cyZ cyJ cyB cyO : ClassId) (sz : Nat) (h_cr a_cr_numbers : Nat) (cr_size : Int32) (cr_n : Int32) (cr_blockerBits : Int32) (cr_blocker : Int32) (cr_tagsHeard : Int32) (cr_seemingHeard : Int32) (cr_ones : Int32) (cr_zeros : Int32) (cr_numbers : Nat → Int32) (v1 : Int32) (v2 : Int32) (out : Int32 × Int32 × Int32) (hp : pX0_listenToBlocker v1 v2 cr_n cr_blockerBits cr_blocker cr_seemingHeard cr_ones cr_zeros = some out) : Met l yX0_listenToBlocker wsX0_listenToBlocker ({ frames := 1, cells := 0, slots := 0, locals := 24 } : Room) (px_PW (dC, dI) (px_TY cyI cyZ cyJ cyB cyO) [.ref h_cr, .int v1, .int v2] (wdX0_listenToBlocker cyI cyZ cyJ cyB cyO h_cr a_cr_numbers cr_size cr_n cr_blockerBits cr_blocker cr_tagsHeard cr_seemingHeard cr_ones cr_zeros cr_numbers) sz) (px_QW none (dC, dI) (wdX0_listenToBlocker cyI cyZ cyJ cyB cyO h_cr a_cr_numbers cr_size cr_n cr_blockerBits cr_blocker cr_tagsHeard cr_seemingHeard cr_ones cr_zeros cr_numbers) (wdX0_listenToBlocker cyI cyZ cyJ cyB cyO h_cr a_cr_numbers cr_size cr_n cr_blockerBits cr_blocker cr_tagsHeard out.1 out.2.1 out.2.2 cr_numbers) sz) 0 0 (va_A (wdX0_listenToBlocker cyI cyZ cyJ cyB cyO h_cr a_cr_numbers cr_size cr_n cr_blockerBits cr_blocker cr_tagsHeard cr_seemingHeard cr_ones cr_zeros cr_numbers) sz) := by
  refine Met.ofW (cc := cX0_listenToBlocker) (maxL := 7) (ret := none) (by decide) rfl ?_
  intro p e s m args below meth c s₁ B hml hv
  obtain ⟨rfl, hsz, hP, hK, hD0, hN⟩ := hv
  have hx := B.exec
  have hb := B.bytes
  have hr := B.returns
  have hts := atoms_spec (ws := wsX0_listenToBlocker) B.pre
  have hown : s.vm.findClass RX0 = some m.cls := findClass_of_methodNamed B.named
  have hlocks := B.notSynchronized
  subst hsz
  have hD := hD0.self (sz := s.heap.size)
  generalize hAe : va_A (wdX0_listenToBlocker cyI cyZ cyJ cyB cyO h_cr a_cr_numbers cr_size cr_n cr_blockerBits cr_blocker cr_tagsHeard cr_seemingHeard cr_ones cr_zeros cr_numbers) s.heap.size = A at hD ⊢
  have hA : ∀ q : Nat, s.heap.size ≤ q → A q := fun q h => by rw [← hAe]; exact Or.inr h
  have hS : va_S A s.heap s.heap [] := va_S.rf
  have hq := px_QWe (v := none) (D := (dC, dI)) (w1 := (wdX0_listenToBlocker cyI cyZ cyJ cyB cyO h_cr a_cr_numbers cr_size cr_n cr_blockerBits cr_blocker cr_tagsHeard out.1 out.2.1 out.2.2 cr_numbers)) (st := s) hAe
  generalize px_QW none (dC, dI) (wdX0_listenToBlocker cyI cyZ cyJ cyB cyO h_cr a_cr_numbers cr_size cr_n cr_blockerBits cr_blocker cr_tagsHeard cr_seemingHeard cr_ones cr_zeros cr_numbers) (wdX0_listenToBlocker cyI cyZ cyJ cyB cyO h_cr a_cr_numbers cr_size cr_n cr_blockerBits cr_blocker cr_tagsHeard out.1 out.2.1 out.2.2 cr_numbers) s.heap.size = Qc at hq ⊢
  have hQ : ∀ (H : Heap) (locs : List Loc) (pc : Nat) (ls : Array Slot), va_P (dC, dI) vwCl (wdX0_listenToBlocker cyI cyZ cyJ cyB cyO h_cr a_cr_numbers cr_size cr_n cr_blockerBits cr_blocker cr_tagsHeard out.1 out.2.1 out.2.2 cr_numbers) H → va_D A (wdX0_listenToBlocker cyI cyZ cyJ cyB cyO h_cr a_cr_numbers cr_size cr_n cr_blockerBits cr_blocker cr_tagsHeard out.1 out.2.1 out.2.2 cr_numbers) → va_S A s.heap H locs → decode cX0_listenToBlocker pc = .ok (.return_, 1) → W p l e ({ frames := 1, cells := 0, slots := 0, locals := 24 } : Room) s m (([.ref h_cr, .int v1, .int v2] : List Value).toArray) below meth c H locs 0 0 (MQ below Qc (([.ref h_cr, .int v1, .int v2] : List Value).toArray) s 0 0 A) (F0 m pc ls []) := fun H locs pc ls hP hD hS hd => W.vret hx hb hr (fun t ht hW => hq _ t (by rw [ht]; exact hP) hD (hS.F ht)) hS.2.2 hd
  generalize MQ below Qc (([.ref h_cr, .int v1, .int v2] : List Value).toArray) s 0 0 A = Q at hQ ⊢
  have hl := lv_entry [.ref h_cr, .int v1, .int v2] (n := 7) (Nat.le_of_ble_eq_true rfl)
  rw [lg_entry_eq]
  generalize (lg_sl [.ref h_cr, .int v1, .int v2] ++ List.replicate (7 - (lg_sl [.ref h_cr, .int v1, .int v2]).length) Slot.unset).toArray = ls at hl ⊢
  have hl : lv_has ls 7 [(0, .ref h_cr), (1, .int v1), (2, .int v2)] := hl
  unfold pX0_listenToBlocker at hp
  refine lv_aload_n hx hb dX0_listenToBlocker_0 rfl (lv_at hl 0 rfl) ?_
  refine lv_iconst (v := (0 : Int32)) hx hb dX0_listenToBlocker_1 (by decide) ?_
  refine va_put (D := (dC, dI)) (ci := 0) (v := .int (0 : Int32)) (ty := .int) (C := RX0) (T := TX0) (N := 9) hx hb hts fX0_listenToBlocker_X0 tyX0 tyX0_ok nmX0 hown hK hP hD hS 0 rfl rfl 6 (by decide) (hts _ kX0_listenToBlocker_1) (fun _ h9 => h9) rfl (tyX0_ok 6 (by decide)) rfl rfl (Nat.le_of_ble_eq_true rfl) dX0_listenToBlocker_2 (fun H locs hP hD hS => ?_)
  have hP : va_P (dC, dI) vwCl (wdX0_listenToBlocker cyI cyZ cyJ cyB cyO h_cr a_cr_numbers cr_size cr_n cr_blockerBits cr_blocker cr_tagsHeard (0 : Int32) cr_ones cr_zeros cr_numbers) H := hP
  have hD : va_D A (wdX0_listenToBlocker cyI cyZ cyJ cyB cyO h_cr a_cr_numbers cr_size cr_n cr_blockerBits cr_blocker cr_tagsHeard (0 : Int32) cr_ones cr_zeros cr_numbers) := hD
  refine lv_iload_n hx hb dX0_listenToBlocker_5 rfl (lv_at hl 1 rfl) ?_
  refine lv_aload_n hx hb dX0_listenToBlocker_6 rfl (lv_at hl 0 rfl) ?_
  refine va_get (D := (dC, dI)) (ci := 0) (v := .int cr_blockerBits) (C := RX0) (T := TX0) (N := 9) hx hb hts fX0_listenToBlocker_X0 hown hK hP 0 rfl rfl 3 (by decide) (hts _ kX0_listenToBlocker_2) (fun _ h9 => h9) rfl dX0_listenToBlocker_7 ?_
  refine va_mmin hx hb (by rw [hml]; exact hl.1.symm) hown (hts _ kX0_listenToBlocker_3) (hts _ kX0_listenToBlocker_4) (hts _ kX0_listenToBlocker_5) (hts _ kX0_listenToBlocker_6) (Nat.le_of_ble_eq_true rfl) (Nat.le_of_ble_eq_true rfl) (Nat.zero_le _) (Nat.zero_le _) dX0_listenToBlocker_10 ?_
  refine lv_istore_n (lv' := [(3, .int (if cr_blockerBits < v1 then cr_blockerBits else v1)), (0, .ref h_cr), (1, .int v1), (2, .int v2)]) hx hb dX0_listenToBlocker_13 rfl hl (by decide) rfl (fun ls hl => ?_)
  refine lv_aload_n hx hb dX0_listenToBlocker_14 rfl (lv_at hl 1 rfl) ?_
  refine va_get (D := (dC, dI)) (ci := 0) (v := .int cr_blockerBits) (C := RX0) (T := TX0) (N := 9) hx hb hts fX0_listenToBlocker_X0 hown hK hP 0 rfl rfl 3 (by decide) (hts _ kX0_listenToBlocker_2) (fun _ h9 => h9) rfl dX0_listenToBlocker_15 ?_
  refine lv_if_lt (tgt := 40) hx hb dX0_listenToBlocker_18 (by decide) (fun c_1 => ?_) (fun c_1 => ?_)
  · have hp := px_t hp c_1
    have ho := px_s hp
    subst ho
    exact hQ _ _ _ _ hP hD hS dX0_listenToBlocker_40
  · have hp := px_f hp c_1
    refine lv_iload_n hx hb dX0_listenToBlocker_21 rfl (lv_at hl 3 rfl) ?_
    refine lv_iload_n hx hb dX0_listenToBlocker_22 rfl (lv_at hl 2 rfl) ?_
    refine lv_iload_n hx hb dX0_listenToBlocker_23 rfl (lv_at hl 0 rfl) ?_
    refine lv_isub hx hb dX0_listenToBlocker_24 ?_
    refine lv_ishr hx hb dX0_listenToBlocker_25 ?_
    refine lv_aload_n hx hb dX0_listenToBlocker_26 rfl (lv_at hl 1 rfl) ?_
    refine va_get (D := (dC, dI)) (ci := 0) (v := .int cr_blocker) (C := RX0) (T := TX0) (N := 9) hx hb hts fX0_listenToBlocker_X0 hown hK hP 0 rfl rfl 4 (by decide) (hts _ kX0_listenToBlocker_7) (fun _ h9 => h9) rfl dX0_listenToBlocker_27 ?_
    refine lv_aload_n hx hb dX0_listenToBlocker_30 rfl (lv_at hl 1 rfl) ?_
    refine va_get (D := (dC, dI)) (ci := 0) (v := .int cr_blockerBits) (C := RX0) (T := TX0) (N := 9) hx hb hts fX0_listenToBlocker_X0 hown hK hP 0 rfl rfl 3 (by decide) (hts _ kX0_listenToBlocker_2) (fun _ h9 => h9) rfl dX0_listenToBlocker_31 ?_
    refine lv_iload_n hx hb dX0_listenToBlocker_34 rfl (lv_at hl 0 rfl) ?_
    refine lv_isub hx hb dX0_listenToBlocker_35 ?_
    refine lv_ishr hx hb dX0_listenToBlocker_36 ?_
    refine lv_icmp_eq (tgt := 41) hx hb dX0_listenToBlocker_37 (by decide) (fun c_2 => ?_) (fun c_2 => ?_)
    · have hp := px_t hp c_2
      refine lv_aload_n hx hb dX0_listenToBlocker_41 rfl (lv_at hl 1 rfl) ?_
      refine va_get (D := (dC, dI)) (ci := 0) (v := .int cr_n) (C := RX0) (T := TX0) (N := 9) hx hb hts fX0_listenToBlocker_X0 hown hK hP 0 rfl rfl 2 (by decide) (hts _ kX0_listenToBlocker_8) (fun _ h9 => h9) rfl dX0_listenToBlocker_42 ?_
      refine lv_iload_n hx hb dX0_listenToBlocker_45 rfl (lv_at hl 2 rfl) ?_
      refine lv_isub hx hb dX0_listenToBlocker_46 ?_
      obtain ⟨o_3, ho_3, hp⟩ := px_b_at hp
      refine px_callR (v := .int o_3) (va_runSN (host := RX10) (As := [.int (cr_n - v1)]) (rest := []) ⟨hx, hb, hml, hown, hts⟩ (ccX10_lowBits l dC dI cyI cyZ cyJ cyB cyO (cr_n - v1) o_3 ho_3) ⟨va_cnB 1 hts gX0_listenToBlocker_X10_lowBits_n38 rfl rfl rfl hN.2.1 (hts _ kX0_listenToBlocker_15) hsX10_lowBits ⟨Nat.le_of_ble_eq_true rfl, Nat.le_of_ble_eq_true rfl⟩, hts _ kX0_listenToBlocker_14, trivial⟩ (px_preR (wc := []) hK hN hP [] rfl) rfl rfl hl.1 rfl (lv_room (Nat.le_of_ble_eq_true rfl)) dX0_listenToBlocker_47 ⟨Nat.zero_le _, Nat.zero_le _⟩) ?_
      refine lv_istore (lv' := [(4, .int o_3), (3, .int (if cr_blockerBits < v1 then cr_blockerBits else v1)), (0, .ref h_cr), (1, .int v1), (2, .int v2)]) hx hb dX0_listenToBlocker_50 hl (by decide) rfl (fun ls hl => ?_)
      refine lv_aload_n hx hb dX0_listenToBlocker_52 rfl (lv_at hl 2 rfl) ?_
      refine va_get (D := (dC, dI)) (ci := 0) (v := .int cr_n) (C := RX0) (T := TX0) (N := 9) hx hb hts fX0_listenToBlocker_X0 hown hK hP 0 rfl rfl 2 (by decide) (hts _ kX0_listenToBlocker_8) (fun _ h9 => h9) rfl dX0_listenToBlocker_53 ?_
      refine lv_iload_n hx hb dX0_listenToBlocker_56 rfl (lv_at hl 3 rfl) ?_
      refine lv_aload_n hx hb dX0_listenToBlocker_57 rfl (lv_at hl 2 rfl) ?_
      refine va_get (D := (dC, dI)) (ci := 0) (v := .int cr_blockerBits) (C := RX0) (T := TX0) (N := 9) hx hb hts fX0_listenToBlocker_X0 hown hK hP 0 rfl rfl 3 (by decide) (hts _ kX0_listenToBlocker_2) (fun _ h9 => h9) rfl dX0_listenToBlocker_58 ?_
      refine va_mmax hx hb (by rw [hml]; exact hl.1.symm) hown (hts _ kX0_listenToBlocker_9) (hts _ kX0_listenToBlocker_10) (hts _ kX0_listenToBlocker_5) (hts _ kX0_listenToBlocker_11) (Nat.le_of_ble_eq_true rfl) (Nat.le_of_ble_eq_true rfl) (Nat.zero_le _) (Nat.zero_le _) dX0_listenToBlocker_61 ?_
      refine lv_isub hx hb dX0_listenToBlocker_64 ?_
      refine lv_istore (lv' := [(5, .int (cr_n - (if v1 < cr_blockerBits then cr_blockerBits else v1))), (4, .int o_3), (3, .int (if cr_blockerBits < v1 then cr_blockerBits else v1)), (0, .ref h_cr), (1, .int v1), (2, .int v2)]) hx hb dX0_listenToBlocker_65 hl (by decide) rfl (fun ls hl => ?_)
      refine lv_aload_n hx hb dX0_listenToBlocker_67 rfl (lv_at hl 3 rfl) ?_
      refine va_get (D := (dC, dI)) (ci := 0) (v := .int cr_blocker) (C := RX0) (T := TX0) (N := 9) hx hb hts fX0_listenToBlocker_X0 hown hK hP 0 rfl rfl 4 (by decide) (hts _ kX0_listenToBlocker_7) (fun _ h9 => h9) rfl dX0_listenToBlocker_68 ?_
      refine lv_aload_n hx hb dX0_listenToBlocker_71 rfl (lv_at hl 3 rfl) ?_
      refine va_get (D := (dC, dI)) (ci := 0) (v := .int cr_n) (C := RX0) (T := TX0) (N := 9) hx hb hts fX0_listenToBlocker_X0 hown hK hP 0 rfl rfl 2 (by decide) (hts _ kX0_listenToBlocker_8) (fun _ h9 => h9) rfl dX0_listenToBlocker_72 ?_
      refine lv_aload_n hx hb dX0_listenToBlocker_75 rfl (lv_at hl 3 rfl) ?_
      refine va_get (D := (dC, dI)) (ci := 0) (v := .int cr_blockerBits) (C := RX0) (T := TX0) (N := 9) hx hb hts fX0_listenToBlocker_X0 hown hK hP 0 rfl rfl 3 (by decide) (hts _ kX0_listenToBlocker_2) (fun _ h9 => h9) rfl dX0_listenToBlocker_76 ?_
      refine lv_isub hx hb dX0_listenToBlocker_79 ?_
      refine lv_ishl hx hb dX0_listenToBlocker_80 ?_
      refine lv_iload hx hb dX0_listenToBlocker_81 (lv_at hl 1 rfl) ?_
      refine lv_iand hx hb dX0_listenToBlocker_83 ?_
      refine lv_istore (lv' := [(6, .int ((cr_blocker <<< ((cr_n - cr_blockerBits) &&& (31 : Int32))) &&& o_3)), (5, .int (cr_n - (if v1 < cr_blockerBits then cr_blockerBits else v1))), (4, .int o_3), (3, .int (if cr_blockerBits < v1 then cr_blockerBits else v1)), (0, .ref h_cr), (1, .int v1), (2, .int v2)]) hx hb dX0_listenToBlocker_84 hl (by decide) rfl (fun ls hl => ?_)
      refine lv_aload_n hx hb dX0_listenToBlocker_86 rfl (lv_at hl 4 rfl) ?_
      refine lv_iconst (v := (1 : Int32)) hx hb dX0_listenToBlocker_87 (by decide) ?_
      refine lv_iload hx hb dX0_listenToBlocker_88 (lv_at hl 1 rfl) ?_
      refine lv_ishl hx hb dX0_listenToBlocker_90 ?_
      refine lv_topi (fun x_4 ex_4 => ?_)
      have hp := px_lt_at hp ex_4
      refine va_put (D := (dC, dI)) (ci := 0) (v := .int x_4) (ty := .int) (C := RX0) (T := TX0) (N := 9) hx hb hts fX0_listenToBlocker_X0 tyX0 tyX0_ok nmX0 hown hK hP hD hS 0 rfl rfl 6 (by decide) (hts _ kX0_listenToBlocker_1) (fun _ h9 => h9) rfl (tyX0_ok 6 (by decide)) rfl rfl (Nat.le_of_ble_eq_true rfl) dX0_listenToBlocker_91 (fun H locs hP hD hS => ?_)
      have hP : va_P (dC, dI) vwCl (wdX0_listenToBlocker cyI cyZ cyJ cyB cyO h_cr a_cr_numbers cr_size cr_n cr_blockerBits cr_blocker cr_tagsHeard x_4 cr_ones cr_zeros cr_numbers) H := hP
      have hD : va_D A (wdX0_listenToBlocker cyI cyZ cyJ cyB cyO h_cr a_cr_numbers cr_size cr_n cr_blockerBits cr_blocker cr_tagsHeard x_4 cr_ones cr_zeros cr_numbers) := hD
      refine lv_aload_n hx hb dX0_listenToBlocker_94 rfl (lv_at hl 4 rfl) ?_
      refine lv_dup hx hb dX0_listenToBlocker_95 rfl ?_
      refine va_get (D := (dC, dI)) (ci := 0) (v := .int cr_ones) (C := RX0) (T := TX0) (N := 9) hx hb hts fX0_listenToBlocker_X0 hown hK hP 0 rfl rfl 7 (by decide) (hts _ kX0_listenToBlocker_12) (fun _ h9 => h9) rfl dX0_listenToBlocker_96 ?_
      refine lv_iload hx hb dX0_listenToBlocker_99 (lv_at hl 0 rfl) ?_
      refine lv_iload hx hb dX0_listenToBlocker_101 (lv_at hl 1 rfl) ?_
      obtain ⟨o_5, ho_5, hp⟩ := px_b_at hp
      refine px_callR (v := .int o_5) (va_runSN (host := RX10) (As := [.int (cr_n - (if v1 < cr_blockerBits then cr_blockerBits else v1))]) (rest := [.int ((cr_blocker <<< ((cr_n - cr_blockerBits) &&& (31 : Int32))) &&& o_3), .int cr_ones, .ref h_cr]) ⟨hx, hb, hml, hown, hts⟩ (ccX10_lowBits l dC dI cyI cyZ cyJ cyB cyO (cr_n - (if v1 < cr_blockerBits then cr_blockerBits else v1)) o_5 ho_5) ⟨va_cnB 1 hts gX0_listenToBlocker_X10_lowBits_n38 rfl rfl rfl hN.2.1 (hts _ kX0_listenToBlocker_15) hsX10_lowBits ⟨Nat.le_of_ble_eq_true rfl, Nat.le_of_ble_eq_true rfl⟩, hts _ kX0_listenToBlocker_14, trivial⟩ (px_preR (wc := []) hK hN hP [] rfl) rfl rfl hl.1 rfl (lv_room (Nat.le_of_ble_eq_true rfl)) dX0_listenToBlocker_103 ⟨Nat.zero_le _, Nat.zero_le _⟩) ?_
      refine lv_ior hx hb dX0_listenToBlocker_106 ?_
      refine lv_ior hx hb dX0_listenToBlocker_107 ?_
      refine lv_topi (fun x_6 ex_6 => ?_)
      have hp := px_lt_at hp ex_6
      refine va_put (D := (dC, dI)) (ci := 0) (v := .int x_6) (ty := .int) (C := RX0) (T := TX0) (N := 9) hx hb hts fX0_listenToBlocker_X0 tyX0 tyX0_ok nmX0 hown hK hP hD hS 0 rfl rfl 7 (by decide) (hts _ kX0_listenToBlocker_12) (fun _ h9 => h9) rfl (tyX0_ok 7 (by decide)) rfl rfl (Nat.le_of_ble_eq_true rfl) dX0_listenToBlocker_108 (fun H locs hP hD hS => ?_)
      have hP : va_P (dC, dI) vwCl (wdX0_listenToBlocker cyI cyZ cyJ cyB cyO h_cr a_cr_numbers cr_size cr_n cr_blockerBits cr_blocker cr_tagsHeard x_4 x_6 cr_zeros cr_numbers) H := hP
      have hD : va_D A (wdX0_listenToBlocker cyI cyZ cyJ cyB cyO h_cr a_cr_numbers cr_size cr_n cr_blockerBits cr_blocker cr_tagsHeard x_4 x_6 cr_zeros cr_numbers) := hD
      refine lv_aload_n hx hb dX0_listenToBlocker_111 rfl (lv_at hl 4 rfl) ?_
      refine lv_dup hx hb dX0_listenToBlocker_112 rfl ?_
      refine va_get (D := (dC, dI)) (ci := 0) (v := .int cr_zeros) (C := RX0) (T := TX0) (N := 9) hx hb hts fX0_listenToBlocker_X0 hown hK hP 0 rfl rfl 8 (by decide) (hts _ kX0_listenToBlocker_13) (fun _ h9 => h9) rfl dX0_listenToBlocker_113 ?_
      refine lv_iload hx hb dX0_listenToBlocker_116 (lv_at hl 0 rfl) ?_
      refine lv_iconst (v := (-1 : Int32)) hx hb dX0_listenToBlocker_118 (by decide) ?_
      refine lv_ixor hx hb dX0_listenToBlocker_119 ?_
      refine lv_iload hx hb dX0_listenToBlocker_120 (lv_at hl 2 rfl) ?_
      refine lv_iand hx hb dX0_listenToBlocker_122 ?_
      refine lv_ior hx hb dX0_listenToBlocker_123 ?_
      refine lv_topi (fun x_7 ex_7 => ?_)
      have hp := px_lt_at hp ex_7
      refine va_put (D := (dC, dI)) (ci := 0) (v := .int x_7) (ty := .int) (C := RX0) (T := TX0) (N := 9) hx hb hts fX0_listenToBlocker_X0 tyX0 tyX0_ok nmX0 hown hK hP hD hS 0 rfl rfl 8 (by decide) (hts _ kX0_listenToBlocker_13) (fun _ h9 => h9) rfl (tyX0_ok 8 (by decide)) rfl rfl (Nat.le_of_ble_eq_true rfl) dX0_listenToBlocker_124 (fun H locs hP hD hS => ?_)
      have hP : va_P (dC, dI) vwCl (wdX0_listenToBlocker cyI cyZ cyJ cyB cyO h_cr a_cr_numbers cr_size cr_n cr_blockerBits cr_blocker cr_tagsHeard x_4 x_6 x_7 cr_numbers) H := hP
      have hD : va_D A (wdX0_listenToBlocker cyI cyZ cyJ cyB cyO h_cr a_cr_numbers cr_size cr_n cr_blockerBits cr_blocker cr_tagsHeard x_4 x_6 x_7 cr_numbers) := hD
      have ho := px_s hp
      subst ho
      exact hQ _ _ _ _ hP hD hS dX0_listenToBlocker_127
    · have hp := px_f hp c_2
      have ho := px_s hp
      subst ho
      exact hQ _ _ _ _ hP hD hS dX0_listenToBlocker_40
/-! TagReader$Crowd.listen(II)V -/
theorem hvX0_listen : yX0_listen.cls = RX0 ∧ yX0_listen.cls ≠ "java/lang/invoke/MethodHandle" ∧ yX0_listen.cls ≠ "java/lang/invoke/VarHandle" ∧ (parseMethodDescriptor yX0_listen.desc).map (fun d => d.parameters.length) = some 2 := by decide +kernel
theorem fX0_listen_X0 : ∀ w ∈ u_ws RX0 TX0 9, w ∈ wsX0_listen := fun _ h => List.mem_cons_of_mem _ (List.mem_append_right _ h)
theorem kX0_listen_1 : (.fieldLink RX0 17 "TagReader$Crowd" "n" "I" : Cond) ∈ wsX0_listen := List.mem_of_getElem? (i := 1) rfl
theorem kX0_listen_8 : (.initialized RX10 : Cond) ∈ wsX0_listen := List.mem_of_getElem? (i := 8) rfl
theorem kX0_listen_7 : (.static yX10_lowBits : Cond) ∈ wsX0_listen := List.mem_of_getElem? (i := 7) rfl
theorem kX0_listen_2 : (.fieldLink RX0 26 "TagReader$Crowd" "tagsHeard" "I" : Cond) ∈ wsX0_listen := List.mem_of_getElem? (i := 2) rfl
theorem kX0_listen_3 : (.fieldLink RX0 32 "TagReader$Crowd" "ones" "I" : Cond) ∈ wsX0_listen := List.mem_of_getElem? (i := 3) rfl
theorem kX0_listen_4 : (.fieldLink RX0 35 "TagReader$Crowd" "zeros" "I" : Cond) ∈ wsX0_listen := List.mem_of_getElem? (i := 4) rfl
theorem kX0_listen_5 : (.fieldLink RX0 13 "TagReader$Crowd" "size" "I" : Cond) ∈ wsX0_listen := List.mem_of_getElem? (i := 5) rfl
theorem kX0_listen_6 : (.fieldLink RX0 7 "TagReader$Crowd" "numbers" "[I" : Cond) ∈ wsX0_listen := List.mem_of_getElem? (i := 6) rfl
set_option maxHeartbeats 4000000 in
set_option maxRecDepth 100000 in
theorem lcX0_listen_109 {p : Program} {l : Launch} {e : Env} {s : State} {m : MethodId} {args : Array Value} {below : List Frame} {meth : Method} {c : Code} {Q : State → Prop} {A : Nat → Prop} (dC : Nat → ClassId) (dI : Nat → Nat → Nat) (cyI cyZ cyJ cyB cyO : ClassId) (h_cr a_cr_numbers : Nat) (cr_size : Int32) (cr_n : Int32) (cr_blockerBits : Int32) (cr_blocker : Int32) (cr_tagsHeard : Int32) (cr_seemingHeard : Int32) (cr_ones : Int32) (cr_zeros : Int32) (cr_numbers : Nat → Int32) (v1 : Int32) (v2 : Int32) (out : Int32 × Int32 × Int32 × Int32) (hx : p.tables.exec = Jvm.exec) (hb : c.code = cX0_listen) (hml : c.maxLocals = 6) (hts : ∀ w ∈ wsX0_listen, w.before args s = true) (hown : s.vm.findClass RX0 = some m.cls) (hK : va_K (dC, dI) vwCl (px_TY cyI cyZ cyJ cyB cyO) s) (hN : px_NW s) (hA : ∀ q : Nat, s.heap.size ≤ q → A q) (hQ : ∀ (H : Heap) (locs : List Loc) (pc : Nat) (ls : Array Slot), va_P (dC, dI) vwCl (wdX0_listen cyI cyZ cyJ cyB cyO h_cr a_cr_numbers cr_size cr_n cr_blockerBits cr_blocker out.1 out.2.1 out.2.2.1 out.2.2.2 cr_numbers) H → va_D A (wdX0_listen cyI cyZ cyJ cyB cyO h_cr a_cr_numbers cr_size cr_n cr_blockerBits cr_blocker out.1 out.2.1 out.2.2.1 out.2.2.2 cr_numbers) → va_S A s.heap H locs → decode cX0_listen pc = .ok (.return_, 1) → W p l e ({ frames := 2, cells := 0, slots := 0, locals := 50 } : Room) s m args below meth c H locs 0 0 Q (F0 m pc ls []))  : ∀ (cr_tagsHeard : Int32) (cr_seemingHeard : Int32) (cr_ones : Int32) (cr_zeros : Int32) (H : Heap) (locs : List Loc) (ls : Array Slot), pX0_listen_109 v1 v2 cr_size cr_n cr_blockerBits cr_blocker cr_numbers cr_tagsHeard cr_seemingHeard cr_ones cr_zeros = some out → va_P (dC, dI) vwCl (wdX0_listen cyI cyZ cyJ cyB cyO h_cr a_cr_numbers cr_size cr_n cr_blockerBits cr_blocker cr_tagsHeard cr_seemingHeard cr_ones cr_zeros cr_numbers) H → va_D A (wdX0_listen cyI cyZ cyJ cyB cyO h_cr a_cr_numbers cr_size cr_n cr_blockerBits cr_blocker cr_tagsHeard cr_seemingHeard cr_ones cr_zeros cr_numbers) → va_S A s.heap H locs → lv_has ls 6 [(0, .ref h_cr), (1, .int v1), (2, .int v2)] → W p l e ({ frames := 2, cells := 0, slots := 0, locals := 50 } : Room) s m args below meth c H locs 0 0 Q (F0 m 109 ls []) := by
  intro cr_tagsHeard cr_seemingHeard cr_ones cr_zeros H locs ls hp hP hD hS hl
  unfold pX0_listen_109 at hp
  refine lv_aload_n hx hb dX0_listen_109 rfl (lv_at hl 0 rfl) ?_
  refine lv_iload_n hx hb dX0_listen_110 rfl (lv_at hl 1 rfl) ?_
  refine lv_iload_n hx hb dX0_listen_111 rfl (lv_at hl 2 rfl) ?_
  obtain ⟨o_3, ho_3, hp⟩ := px_b_at hp
  refine px_callWv (wc := (wdX0_listenToBlocker cyI cyZ cyJ cyB cyO h_cr a_cr_numbers cr_size cr_n cr_blockerBits cr_blocker cr_tagsHeard cr_seemingHeard cr_ones cr_zeros cr_numbers)) (wr := []) (w1 := (wdX0_listenToBlocker cyI cyZ cyJ cyB cyO h_cr a_cr_numbers cr_size cr_n cr_blockerBits cr_blocker cr_tagsHeard o_3.1 o_3.2.1 o_3.2.2 cr_numbers)) (ws2 := (wdX0_listen cyI cyZ cyJ cyB cyO h_cr a_cr_numbers cr_size cr_n cr_blockerBits cr_blocker cr_tagsHeard o_3.1 o_3.2.1 o_3.2.2 cr_numbers)) (va_runV (As := [.int v1, .int v2]) (rest := []) ⟨hx, hb, hml, hown, hts⟩ (ccX0_listenToBlocker l dC dI cyI cyZ cyJ cyB cyO _ h_cr a_cr_numbers cr_size cr_n cr_blockerBits cr_blocker cr_tagsHeard cr_seemingHeard cr_ones cr_zeros cr_numbers v1 v2 o_3 ho_3) (cwV 2 hts gX0_listen_X0_listenToBlocker rfl rfl rfl hvX0_listenToBlocker ⟨Nat.le_of_ble_eq_true rfl, Nat.le_of_ble_eq_true rfl⟩) (px_preWV (wc := (wdX0_listenToBlocker cyI cyZ cyJ cyB cyO h_cr a_cr_numbers cr_size cr_n cr_blockerBits cr_blocker cr_tagsHeard cr_seemingHeard cr_ones cr_zeros cr_numbers)) (ci := 0) (q0 := 0) hK hN hP hD [0, 1] (by decide) rfl rfl rfl) rfl rfl hl.1 rfl (lv_room (Nat.le_of_ble_eq_true rfl)) dX0_listen_112 ⟨Nat.zero_le _, Nat.zero_le _⟩) hP hD hS hA [0, 1] [] [0, 1] rfl rfl (by decide) (by decide) (by decide) rfl (fun H locs hP hD hS => ?_)
  have ho := px_s hp
  subst ho
  exact hQ _ _ _ _ hP hD hS dX0_listen_115
set_option maxHeartbeats 4000000 in
set_option maxRecDepth 100000 in
theorem lcX0_listen_31B {p : Program} {l : Launch} {e : Env} {s : State} {m : MethodId} {args : Array Value} {below : List Frame} {meth : Method} {c : Code} {Q : State → Prop} {A : Nat → Prop} (dC : Nat → ClassId) (dI : Nat → Nat → Nat) (cyI cyZ cyJ cyB cyO : ClassId) (h_cr a_cr_numbers : Nat) (cr_size : Int32) (cr_n : Int32) (cr_blockerBits : Int32) (cr_blocker : Int32) (cr_tagsHeard : Int32) (cr_seemingHeard : Int32) (cr_ones : Int32) (cr_zeros : Int32) (cr_numbers : Nat → Int32) (v1 : Int32) (v2 : Int32) (out : Int32 × Int32 × Int32 × Int32) (hx : p.tables.exec = Jvm.exec) (hb : c.code = cX0_listen) (hml : c.maxLocals = 6) (hts : ∀ w ∈ wsX0_listen, w.before args s = true) (hown : s.vm.findClass RX0 = some m.cls) (hK : va_K (dC, dI) vwCl (px_TY cyI cyZ cyJ cyB cyO) s) (hN : px_NW s) (hA : ∀ q : Nat, s.heap.size ≤ q → A q) (hQ : ∀ (H : Heap) (locs : List Loc) (pc : Nat) (ls : Array Slot), va_P (dC, dI) vwCl (wdX0_listen cyI cyZ cyJ cyB cyO h_cr a_cr_numbers cr_size cr_n cr_blockerBits cr_blocker out.1 out.2.1 out.2.2.1 out.2.2.2 cr_numbers) H → va_D A (wdX0_listen cyI cyZ cyJ cyB cyO h_cr a_cr_numbers cr_size cr_n cr_blockerBits cr_blocker out.1 out.2.1 out.2.2.1 out.2.2.2 cr_numbers) → va_S A s.heap H locs → decode cX0_listen pc = .ok (.return_, 1) → W p l e ({ frames := 2, cells := 0, slots := 0, locals := 50 } : Room) s m args below meth c H locs 0 0 Q (F0 m pc ls []))  (K_31 : Int32 → Int32 → Int32 → Int32 → Int32 → Int32 → Int32 → Option (Int32 × Int32 × Int32 × Int32)) (hK_31 : ∀ (v3 : Int32) (v4 : Int32) (v5 : Int32) (cr_tagsHeard : Int32) (cr_seemingHeard : Int32) (cr_ones : Int32) (cr_zeros : Int32) (H : Heap) (locs : List Loc) (ls : Array Slot), K_31 v3 v4 v5 cr_tagsHeard cr_seemingHeard cr_ones cr_zeros = some out → va_P (dC, dI) vwCl (wdX0_listen cyI cyZ cyJ cyB cyO h_cr a_cr_numbers cr_size cr_n cr_blockerBits cr_blocker cr_tagsHeard cr_seemingHeard cr_ones cr_zeros cr_numbers) H → va_D A (wdX0_listen cyI cyZ cyJ cyB cyO h_cr a_cr_numbers cr_size cr_n cr_blockerBits cr_blocker cr_tagsHeard cr_seemingHeard cr_ones cr_zeros cr_numbers) → va_S A s.heap H locs → lv_has ls 6 [(0, .ref h_cr), (1, .int v1), (2, .int v2), (3, .int v3), (4, .int v4), (5, .int v5)] → W p l e ({ frames := 2, cells := 0, slots := 0, locals := 50 } : Room) s m args below meth c H locs 0 0 Q (F0 m 31 ls [])) : ∀ (v3 : Int32) (v4 : Int32) (v5 : Int32) (cr_tagsHeard : Int32) (cr_seemingHeard : Int32) (cr_ones : Int32) (cr_zeros : Int32) (H : Heap) (locs : List Loc) (ls : Array Slot), pX0_listen_31B v1 v2 cr_size cr_n cr_blockerBits cr_blocker cr_numbers K_31 v3 v4 v5 cr_tagsHeard cr_seemingHeard cr_ones cr_zeros = some out → va_P (dC, dI) vwCl (wdX0_listen cyI cyZ cyJ cyB cyO h_cr a_cr_numbers cr_size cr_n cr_blockerBits cr_blocker cr_tagsHeard cr_seemingHeard cr_ones cr_zeros cr_numbers) H → va_D A (wdX0_listen cyI cyZ cyJ cyB cyO h_cr a_cr_numbers cr_size cr_n cr_blockerBits cr_blocker cr_tagsHeard cr_seemingHeard cr_ones cr_zeros cr_numbers) → va_S A s.heap H locs → lv_has ls 6 [(0, .ref h_cr), (1, .int v1), (2, .int v2), (3, .int v3), (4, .int v4), (5, .int v5)] → W p l e ({ frames := 2, cells := 0, slots := 0, locals := 50 } : Room) s m args below meth c H locs 0 0 Q (F0 m 31 ls []) := by
  intro v3 v4 v5 cr_tagsHeard cr_seemingHeard cr_ones cr_zeros H locs ls hp hP hD hS hl
  unfold pX0_listen_31B at hp
  refine lv_iload hx hb dX0_listen_31 (lv_at hl 5 rfl) ?_
  refine lv_aload_n hx hb dX0_listen_33 rfl (lv_at hl 0 rfl) ?_
  refine va_get (D := (dC, dI)) (ci := 0) (v := .int cr_size) (C := RX0) (T := TX0) (N := 9) hx hb hts fX0_listen_X0 hown hK hP 0 rfl rfl 1 (by decide) (hts _ kX0_listen_5) (fun _ h9 => h9) rfl dX0_listen_34 ?_
  refine lv_icmp_ge (tgt := 109) hx hb dX0_listen_37 (by decide) (fun c_2 => ?_) (fun c_2 => ?_)
  · have hp := px_t hp c_2
    exact lcX0_listen_109 dC dI cyI cyZ cyJ cyB cyO h_cr a_cr_numbers cr_size cr_n cr_blockerBits cr_blocker cr_tagsHeard cr_seemingHeard cr_ones cr_zeros cr_numbers v1 v2 out hx hb hml hts hown hK hN hA hQ cr_tagsHeard cr_seemingHeard cr_ones cr_zeros _ _ ls hp hP hD hS (lv_sub hl [0, 1, 2] rfl)
  · have hp := px_f hp c_2
    refine lv_aload_n hx hb dX0_listen_40 rfl (lv_at hl 0 rfl) ?_
    refine va_get (D := (dC, dI)) (ci := 0) (v := .ref a_cr_numbers) (C := RX0) (T := TX0) (N := 9) hx hb hts fX0_listen_X0 hown hK hP 0 rfl rfl 0 (by decide) (hts _ kX0_listen_6) (fun _ h9 => h9) rfl dX0_listen_41 ?_
    refine lv_iload hx hb dX0_listen_44 (lv_at hl 5 rfl) ?_
    obtain ⟨g_4, hp⟩ := px_i_at hp
    refine va_iald (D := (dC, dI)) hx hb hK hP 1 0 rfl rfl g_4 dX0_listen_46 ?_
    refine lv_iload_n hx hb dX0_listen_47 rfl (lv_at hl 3 rfl) ?_
    refine lv_ishr hx hb dX0_listen_48 ?_
    refine lv_iload_n hx hb dX0_listen_49 rfl (lv_at hl 2 rfl) ?_
    refine lv_icmp_ne (tgt := 103) hx hb dX0_listen_50 (by decide) (fun c_5 => ?_) (fun c_5 => ?_)
    · have hp := px_f hp c_5
      refine lv_iinc (v := (v5 + (1 : Int32))) (lv' := [(5, .int (v5 + (1 : Int32))), (0, .ref h_cr), (1, .int v1), (2, .int v2), (3, .int v3), (4, .int v4)]) hx hb dX0_listen_103 hl (k := 5) rfl rfl (by decide) rfl (fun ls hl => ?_)
      refine lv_goto (tgt := 31) hx hb dX0_listen_106 (by decide) ?_
      exact hK_31 v3 v4 (v5 + (1 : Int32)) cr_tagsHeard cr_seemingHeard cr_ones cr_zeros _ _ ls hp hP hD hS (lv_sub hl [1, 2, 3, 4, 5, 0] rfl)
    · have hp := px_t hp c_5
      refine lv_aload_n hx hb dX0_listen_53 rfl (lv_at hl 0 rfl) ?_
      refine lv_dup hx hb dX0_listen_54 rfl ?_
      refine va_get (D := (dC, dI)) (ci := 0) (v := .int cr_tagsHeard) (C := RX0) (T := TX0) (N := 9) hx hb hts fX0_listen_X0 hown hK hP 0 rfl rfl 5 (by decide) (hts _ kX0_listen_2) (fun _ h9 => h9) rfl dX0_listen_55 ?_
      refine lv_iconst (v := (1 : Int32)) hx hb dX0_listen_58 (by decide) ?_
      refine lv_iadd hx hb dX0_listen_59 ?_
      refine va_put (D := (dC, dI)) (ci := 0) (v := .int (cr_tagsHeard + (1 : Int32))) (ty := .int) (C := RX0) (T := TX0) (N := 9) hx hb hts fX0_listen_X0 tyX0 tyX0_ok nmX0 hown hK hP hD hS 0 rfl rfl 5 (by decide) (hts _ kX0_listen_2) (fun _ h9 => h9) rfl (tyX0_ok 5 (by decide)) rfl rfl (Nat.le_of_ble_eq_true rfl) dX0_listen_60 (fun H locs hP hD hS => ?_)
      have hP : va_P (dC, dI) vwCl (wdX0_listen cyI cyZ cyJ cyB cyO h_cr a_cr_numbers cr_size cr_n cr_blockerBits cr_blocker (cr_tagsHeard + (1 : Int32)) cr_seemingHeard cr_ones cr_zeros cr_numbers) H := hP
      have hD : va_D A (wdX0_listen cyI cyZ cyJ cyB cyO h_cr a_cr_numbers cr_size cr_n cr_blockerBits cr_blocker (cr_tagsHeard + (1 : Int32)) cr_seemingHeard cr_ones cr_zeros cr_numbers) := hD
      refine lv_aload_n hx hb dX0_listen_63 rfl (lv_at hl 0 rfl) ?_
      refine lv_dup hx hb dX0_listen_64 rfl ?_
      refine va_get (D := (dC, dI)) (ci := 0) (v := .int cr_ones) (C := RX0) (T := TX0) (N := 9) hx hb hts fX0_listen_X0 hown hK hP 0 rfl rfl 7 (by decide) (hts _ kX0_listen_3) (fun _ h9 => h9) rfl dX0_listen_65 ?_
      refine lv_aload_n hx hb dX0_listen_68 rfl (lv_at hl 0 rfl) ?_
      refine va_get (D := (dC, dI)) (ci := 0) (v := .ref a_cr_numbers) (C := RX0) (T := TX0) (N := 9) hx hb hts fX0_listen_X0 hown hK hP 0 rfl rfl 0 (by decide) (hts _ kX0_listen_6) (fun _ h9 => h9) rfl dX0_listen_69 ?_
      refine lv_iload hx hb dX0_listen_72 (lv_at hl 5 rfl) ?_
      obtain ⟨g_6, hp⟩ := px_i_at hp
      refine va_iald (D := (dC, dI)) hx hb hK hP 1 0 rfl rfl g_6 dX0_listen_74 ?_
      refine lv_iload hx hb dX0_listen_75 (lv_at hl 4 rfl) ?_
      refine lv_iand hx hb dX0_listen_77 ?_
      refine lv_ior hx hb dX0_listen_78 ?_
      refine va_put (D := (dC, dI)) (ci := 0) (v := .int (cr_ones ||| ((cr_numbers (Int32.toNatClampNeg v5)) &&& v4))) (ty := .int) (C := RX0) (T := TX0) (N := 9) hx hb hts fX0_listen_X0 tyX0 tyX0_ok nmX0 hown hK hP hD hS 0 rfl rfl 7 (by decide) (hts _ kX0_listen_3) (fun _ h9 => h9) rfl (tyX0_ok 7 (by decide)) rfl rfl (Nat.le_of_ble_eq_true rfl) dX0_listen_79 (fun H locs hP hD hS => ?_)
      have hP : va_P (dC, dI) vwCl (wdX0_listen cyI cyZ cyJ cyB cyO h_cr a_cr_numbers cr_size cr_n cr_blockerBits cr_blocker (cr_tagsHeard + (1 : Int32)) cr_seemingHeard (cr_ones ||| ((cr_numbers (Int32.toNatClampNeg v5)) &&& v4)) cr_zeros cr_numbers) H := hP
      have hD : va_D A (wdX0_listen cyI cyZ cyJ cyB cyO h_cr a_cr_numbers cr_size cr_n cr_blockerBits cr_blocker (cr_tagsHeard + (1 : Int32)) cr_seemingHeard (cr_ones ||| ((cr_numbers (Int32.toNatClampNeg v5)) &&& v4)) cr_zeros cr_numbers) := hD
      refine lv_aload_n hx hb dX0_listen_82 rfl (lv_at hl 0 rfl) ?_
      refine lv_dup hx hb dX0_listen_83 rfl ?_
      refine va_get (D := (dC, dI)) (ci := 0) (v := .int cr_zeros) (C := RX0) (T := TX0) (N := 9) hx hb hts fX0_listen_X0 hown hK hP 0 rfl rfl 8 (by decide) (hts _ kX0_listen_4) (fun _ h9 => h9) rfl dX0_listen_84 ?_
      refine lv_aload_n hx hb dX0_listen_87 rfl (lv_at hl 0 rfl) ?_
      refine va_get (D := (dC, dI)) (ci := 0) (v := .ref a_cr_numbers) (C := RX0) (T := TX0) (N := 9) hx hb hts fX0_listen_X0 hown hK hP 0 rfl rfl 0 (by decide) (hts _ kX0_listen_6) (fun _ h9 => h9) rfl dX0_listen_88 ?_
      refine lv_iload hx hb dX0_listen_91 (lv_at hl 5 rfl) ?_
      obtain ⟨g_7, hp⟩ := px_i_at hp
      refine va_iald (D := (dC, dI)) hx hb hK hP 1 0 rfl rfl g_7 dX0_listen_93 ?_
      refine lv_iconst (v := (-1 : Int32)) hx hb dX0_listen_94 (by decide) ?_
      refine lv_ixor hx hb dX0_listen_95 ?_
      refine lv_iload hx hb dX0_listen_96 (lv_at hl 4 rfl) ?_
      refine lv_iand hx hb dX0_listen_98 ?_
      refine lv_ior hx hb dX0_listen_99 ?_
      refine lv_topi (fun x_8 ex_8 => ?_)
      have hp := px_lt_at hp ex_8
      refine va_put (D := (dC, dI)) (ci := 0) (v := .int x_8) (ty := .int) (C := RX0) (T := TX0) (N := 9) hx hb hts fX0_listen_X0 tyX0 tyX0_ok nmX0 hown hK hP hD hS 0 rfl rfl 8 (by decide) (hts _ kX0_listen_4) (fun _ h9 => h9) rfl (tyX0_ok 8 (by decide)) rfl rfl (Nat.le_of_ble_eq_true rfl) dX0_listen_100 (fun H locs hP hD hS => ?_)
      have hP : va_P (dC, dI) vwCl (wdX0_listen cyI cyZ cyJ cyB cyO h_cr a_cr_numbers cr_size cr_n cr_blockerBits cr_blocker (cr_tagsHeard + (1 : Int32)) cr_seemingHeard (cr_ones ||| ((cr_numbers (Int32.toNatClampNeg v5)) &&& v4)) x_8 cr_numbers) H := hP
      have hD : va_D A (wdX0_listen cyI cyZ cyJ cyB cyO h_cr a_cr_numbers cr_size cr_n cr_blockerBits cr_blocker (cr_tagsHeard + (1 : Int32)) cr_seemingHeard (cr_ones ||| ((cr_numbers (Int32.toNatClampNeg v5)) &&& v4)) x_8 cr_numbers) := hD
      refine lv_iinc (v := (v5 + (1 : Int32))) (lv' := [(5, .int (v5 + (1 : Int32))), (0, .ref h_cr), (1, .int v1), (2, .int v2), (3, .int v3), (4, .int v4)]) hx hb dX0_listen_103 hl (k := 5) rfl rfl (by decide) rfl (fun ls hl => ?_)
      refine lv_goto (tgt := 31) hx hb dX0_listen_106 (by decide) ?_
      exact hK_31 v3 v4 (v5 + (1 : Int32)) (cr_tagsHeard + (1 : Int32)) cr_seemingHeard (cr_ones ||| ((cr_numbers (Int32.toNatClampNeg v5)) &&& v4)) x_8 _ _ ls hp hP hD hS (lv_sub hl [1, 2, 3, 4, 5, 0] rfl)
theorem lcX0_listen_31 {p : Program} {l : Launch} {e : Env} {s : State} {m : MethodId} {args : Array Value} {below : List Frame} {meth : Method} {c : Code} {Q : State → Prop} {A : Nat → Prop} (dC : Nat → ClassId) (dI : Nat → Nat → Nat) (cyI cyZ cyJ cyB cyO : ClassId) (h_cr a_cr_numbers : Nat) (cr_size : Int32) (cr_n : Int32) (cr_blockerBits : Int32) (cr_blocker : Int32) (cr_tagsHeard : Int32) (cr_seemingHeard : Int32) (cr_ones : Int32) (cr_zeros : Int32) (cr_numbers : Nat → Int32) (v1 : Int32) (v2 : Int32) (out : Int32 × Int32 × Int32 × Int32) (hx : p.tables.exec = Jvm.exec) (hb : c.code = cX0_listen) (hml : c.maxLocals = 6) (hts : ∀ w ∈ wsX0_listen, w.before args s = true) (hown : s.vm.findClass RX0 = some m.cls) (hK : va_K (dC, dI) vwCl (px_TY cyI cyZ cyJ cyB cyO) s) (hN : px_NW s) (hA : ∀ q : Nat, s.heap.size ≤ q → A q) (hQ : ∀ (H : Heap) (locs : List Loc) (pc : Nat) (ls : Array Slot), va_P (dC, dI) vwCl (wdX0_listen cyI cyZ cyJ cyB cyO h_cr a_cr_numbers cr_size cr_n cr_blockerBits cr_blocker out.1 out.2.1 out.2.2.1 out.2.2.2 cr_numbers) H → va_D A (wdX0_listen cyI cyZ cyJ cyB cyO h_cr a_cr_numbers cr_size cr_n cr_blockerBits cr_blocker out.1 out.2.1 out.2.2.1 out.2.2.2 cr_numbers) → va_S A s.heap H locs → decode cX0_listen pc = .ok (.return_, 1) → W p l e ({ frames := 2, cells := 0, slots := 0, locals := 50 } : Room) s m args below meth c H locs 0 0 Q (F0 m pc ls []))  : ∀ n : Nat, ∀ (v3 : Int32) (v4 : Int32) (v5 : Int32) (cr_tagsHeard : Int32) (cr_seemingHeard : Int32) (cr_ones : Int32) (cr_zeros : Int32) (H : Heap) (locs : List Loc) (ls : Array Slot), pX0_listen_31 v1 v2 cr_size cr_n cr_blockerBits cr_blocker cr_numbers n v3 v4 v5 cr_tagsHeard cr_seemingHeard cr_ones cr_zeros = some out → va_P (dC, dI) vwCl (wdX0_listen cyI cyZ cyJ cyB cyO h_cr a_cr_numbers cr_size cr_n cr_blockerBits cr_blocker cr_tagsHeard cr_seemingHeard cr_ones cr_zeros cr_numbers) H → va_D A (wdX0_listen cyI cyZ cyJ cyB cyO h_cr a_cr_numbers cr_size cr_n cr_blockerBits cr_blocker cr_tagsHeard cr_seemingHeard cr_ones cr_zeros cr_numbers) → va_S A s.heap H locs → lv_has ls 6 [(0, .ref h_cr), (1, .int v1), (2, .int v2), (3, .int v3), (4, .int v4), (5, .int v5)] → W p l e ({ frames := 2, cells := 0, slots := 0, locals := 50 } : Room) s m args below meth c H locs 0 0 Q (F0 m 31 ls []) := by
  intro n
  induction n with
  | zero =>
    intro v3 v4 v5 cr_tagsHeard cr_seemingHeard cr_ones cr_zeros H locs ls hp hP hD hS hl
    exact nomatch hp
  | succ n ih => exact lcX0_listen_31B dC dI cyI cyZ cyJ cyB cyO h_cr a_cr_numbers cr_size cr_n cr_blockerBits cr_blocker cr_tagsHeard cr_seemingHeard cr_ones cr_zeros cr_numbers v1 v2 out hx hb hml hts hown hK hN hA hQ (pX0_listen_31 v1 v2 cr_size cr_n cr_blockerBits cr_blocker cr_numbers n) ih
set_option maxHeartbeats 4000000 in
set_option maxRecDepth 100000 in
theorem ccX0_listen (l : Launch) (dC : Nat → ClassId) (dI : Nat → Nat → Nat) (cyI cyZ cyJ cyB cyO : ClassId) (sz : Nat) (h_cr a_cr_numbers : Nat) (cr_size : Int32) (cr_n : Int32) (cr_blockerBits : Int32) (cr_blocker : Int32) (cr_tagsHeard : Int32) (cr_seemingHeard : Int32) (cr_ones : Int32) (cr_zeros : Int32) (cr_numbers : Nat → Int32) (v1 : Int32) (v2 : Int32) (out : Int32 × Int32 × Int32 × Int32) (hp : pX0_listen v1 v2 cr_size cr_n cr_blockerBits cr_blocker cr_numbers cr_tagsHeard cr_seemingHeard cr_ones cr_zeros = some out) : Met l yX0_listen wsX0_listen ({ frames := 2, cells := 0, slots := 0, locals := 50 } : Room) (px_PW (dC, dI) (px_TY cyI cyZ cyJ cyB cyO) [.ref h_cr, .int v1, .int v2] (wdX0_listen cyI cyZ cyJ cyB cyO h_cr a_cr_numbers cr_size cr_n cr_blockerBits cr_blocker cr_tagsHeard cr_seemingHeard cr_ones cr_zeros cr_numbers) sz) (px_QW none (dC, dI) (wdX0_listen cyI cyZ cyJ cyB cyO h_cr a_cr_numbers cr_size cr_n cr_blockerBits cr_blocker cr_tagsHeard cr_seemingHeard cr_ones cr_zeros cr_numbers) (wdX0_listen cyI cyZ cyJ cyB cyO h_cr a_cr_numbers cr_size cr_n cr_blockerBits cr_blocker out.1 out.2.1 out.2.2.1 out.2.2.2 cr_numbers) sz) 0 0 (va_A (wdX0_listen cyI cyZ cyJ cyB cyO h_cr a_cr_numbers cr_size cr_n cr_blockerBits cr_blocker cr_tagsHeard cr_seemingHeard cr_ones cr_zeros cr_numbers) sz) := by
  refine Met.ofW (cc := cX0_listen) (maxL := 6) (ret := none) (by decide) rfl ?_
  intro p e s m args below meth c s₁ B hml hv
  obtain ⟨rfl, hsz, hP, hK, hD0, hN⟩ := hv
  have hx := B.exec
  have hb := B.bytes
  have hr := B.returns
  have hts := atoms_spec (ws := wsX0_listen) B.pre
  have hown : s.vm.findClass RX0 = some m.cls := findClass_of_methodNamed B.named
  have hlocks := B.notSynchronized
  subst hsz
  have hD := hD0.self (sz := s.heap.size)
  generalize hAe : va_A (wdX0_listen cyI cyZ cyJ cyB cyO h_cr a_cr_numbers cr_size cr_n cr_blockerBits cr_blocker cr_tagsHeard cr_seemingHeard cr_ones cr_zeros cr_numbers) s.heap.size = A at hD ⊢
  have hA : ∀ q : Nat, s.heap.size ≤ q → A q := fun q h => by rw [← hAe]; exact Or.inr h
  have hS : va_S A s.heap s.heap [] := va_S.rf
  have hq := px_QWe (v := none) (D := (dC, dI)) (w1 := (wdX0_listen cyI cyZ cyJ cyB cyO h_cr a_cr_numbers cr_size cr_n cr_blockerBits cr_blocker out.1 out.2.1 out.2.2.1 out.2.2.2 cr_numbers)) (st := s) hAe
  generalize px_QW none (dC, dI) (wdX0_listen cyI cyZ cyJ cyB cyO h_cr a_cr_numbers cr_size cr_n cr_blockerBits cr_blocker cr_tagsHeard cr_seemingHeard cr_ones cr_zeros cr_numbers) (wdX0_listen cyI cyZ cyJ cyB cyO h_cr a_cr_numbers cr_size cr_n cr_blockerBits cr_blocker out.1 out.2.1 out.2.2.1 out.2.2.2 cr_numbers) s.heap.size = Qc at hq ⊢
  have hQ : ∀ (H : Heap) (locs : List Loc) (pc : Nat) (ls : Array Slot), va_P (dC, dI) vwCl (wdX0_listen cyI cyZ cyJ cyB cyO h_cr a_cr_numbers cr_size cr_n cr_blockerBits cr_blocker out.1 out.2.1 out.2.2.1 out.2.2.2 cr_numbers) H → va_D A (wdX0_listen cyI cyZ cyJ cyB cyO h_cr a_cr_numbers cr_size cr_n cr_blockerBits cr_blocker out.1 out.2.1 out.2.2.1 out.2.2.2 cr_numbers) → va_S A s.heap H locs → decode cX0_listen pc = .ok (.return_, 1) → W p l e ({ frames := 2, cells := 0, slots := 0, locals := 50 } : Room) s m (([.ref h_cr, .int v1, .int v2] : List Value).toArray) below meth c H locs 0 0 (MQ below Qc (([.ref h_cr, .int v1, .int v2] : List Value).toArray) s 0 0 A) (F0 m pc ls []) := fun H locs pc ls hP hD hS hd => W.vret hx hb hr (fun t ht hW => hq _ t (by rw [ht]; exact hP) hD (hS.F ht)) hS.2.2 hd
  generalize MQ below Qc (([.ref h_cr, .int v1, .int v2] : List Value).toArray) s 0 0 A = Q at hQ ⊢
  have hl := lv_entry [.ref h_cr, .int v1, .int v2] (n := 6) (Nat.le_of_ble_eq_true rfl)
  rw [lg_entry_eq]
  generalize (lg_sl [.ref h_cr, .int v1, .int v2] ++ List.replicate (6 - (lg_sl [.ref h_cr, .int v1, .int v2]).length) Slot.unset).toArray = ls at hl ⊢
  have hl : lv_has ls 6 [(0, .ref h_cr), (1, .int v1), (2, .int v2)] := hl
  unfold pX0_listen at hp
  refine lv_aload_n hx hb dX0_listen_0 rfl (lv_at hl 0 rfl) ?_
  refine va_get (D := (dC, dI)) (ci := 0) (v := .int cr_n) (C := RX0) (T := TX0) (N := 9) hx hb hts fX0_listen_X0 hown hK hP 0 rfl rfl 2 (by decide) (hts _ kX0_listen_1) (fun _ h9 => h9) rfl dX0_listen_1 ?_
  refine lv_iload_n hx hb dX0_listen_4 rfl (lv_at hl 1 rfl) ?_
  refine lv_isub hx hb dX0_listen_5 ?_
  refine lv_istore_n (lv' := [(3, .int (cr_n - v1)), (0, .ref h_cr), (1, .int v1), (2, .int v2)]) hx hb dX0_listen_6 rfl hl (by decide) rfl (fun ls hl => ?_)
  refine lv_iload_n hx hb dX0_listen_7 rfl (lv_at hl 0 rfl) ?_
  obtain ⟨o_1, ho_1, hp⟩ := px_b_at hp
  refine px_callR (v := .int o_1) (va_runSN (host := RX10) (As := [.int (cr_n - v1)]) (rest := []) ⟨hx, hb, hml, hown, hts⟩ (ccX10_lowBits l dC dI cyI cyZ cyJ cyB cyO (cr_n - v1) o_1 ho_1) ⟨va_cnB 1 hts gX0_listen_X10_lowBits_n38 rfl rfl rfl hN.2.1 (hts _ kX0_listen_8) hsX10_lowBits ⟨Nat.le_of_ble_eq_true rfl, Nat.le_of_ble_eq_true rfl⟩, hts _ kX0_listen_7, trivial⟩ (px_preR (wc := []) hK hN hP [] rfl) rfl rfl hl.1 rfl (lv_room (Nat.le_of_ble_eq_true rfl)) dX0_listen_8 ⟨Nat.zero_le _, Nat.zero_le _⟩) ?_
  refine lv_istore (lv' := [(4, .int o_1), (3, .int (cr_n - v1)), (0, .ref h_cr), (1, .int v1), (2, .int v2)]) hx hb dX0_listen_11 hl (by decide) rfl (fun ls hl => ?_)
  refine lv_aload_n hx hb dX0_listen_13 rfl (lv_at hl 2 rfl) ?_
  refine lv_iconst (v := (0 : Int32)) hx hb dX0_listen_14 (by decide) ?_
  refine va_put (D := (dC, dI)) (ci := 0) (v := .int (0 : Int32)) (ty := .int) (C := RX0) (T := TX0) (N := 9) hx hb hts fX0_listen_X0 tyX0 tyX0_ok nmX0 hown hK hP hD hS 0 rfl rfl 5 (by decide) (hts _ kX0_listen_2) (fun _ h9 => h9) rfl (tyX0_ok 5 (by decide)) rfl rfl (Nat.le_of_ble_eq_true rfl) dX0_listen_15 (fun H locs hP hD hS => ?_)
  have hP : va_P (dC, dI) vwCl (wdX0_listen cyI cyZ cyJ cyB cyO h_cr a_cr_numbers cr_size cr_n cr_blockerBits cr_blocker (0 : Int32) cr_seemingHeard cr_ones cr_zeros cr_numbers) H := hP
  have hD : va_D A (wdX0_listen cyI cyZ cyJ cyB cyO h_cr a_cr_numbers cr_size cr_n cr_blockerBits cr_blocker (0 : Int32) cr_seemingHeard cr_ones cr_zeros cr_numbers) := hD
  refine lv_aload_n hx hb dX0_listen_18 rfl (lv_at hl 2 rfl) ?_
  refine lv_iconst (v := (0 : Int32)) hx hb dX0_listen_19 (by decide) ?_
  refine va_put (D := (dC, dI)) (ci := 0) (v := .int (0 : Int32)) (ty := .int) (C := RX0) (T := TX0) (N := 9) hx hb hts fX0_listen_X0 tyX0 tyX0_ok nmX0 hown hK hP hD hS 0 rfl rfl 7 (by decide) (hts _ kX0_listen_3) (fun _ h9 => h9) rfl (tyX0_ok 7 (by decide)) rfl rfl (Nat.le_of_ble_eq_true rfl) dX0_listen_20 (fun H locs hP hD hS => ?_)
  have hP : va_P (dC, dI) vwCl (wdX0_listen cyI cyZ cyJ cyB cyO h_cr a_cr_numbers cr_size cr_n cr_blockerBits cr_blocker (0 : Int32) cr_seemingHeard (0 : Int32) cr_zeros cr_numbers) H := hP
  have hD : va_D A (wdX0_listen cyI cyZ cyJ cyB cyO h_cr a_cr_numbers cr_size cr_n cr_blockerBits cr_blocker (0 : Int32) cr_seemingHeard (0 : Int32) cr_zeros cr_numbers) := hD
  refine lv_aload_n hx hb dX0_listen_23 rfl (lv_at hl 2 rfl) ?_
  refine lv_iconst (v := (0 : Int32)) hx hb dX0_listen_24 (by decide) ?_
  refine va_put (D := (dC, dI)) (ci := 0) (v := .int (0 : Int32)) (ty := .int) (C := RX0) (T := TX0) (N := 9) hx hb hts fX0_listen_X0 tyX0 tyX0_ok nmX0 hown hK hP hD hS 0 rfl rfl 8 (by decide) (hts _ kX0_listen_4) (fun _ h9 => h9) rfl (tyX0_ok 8 (by decide)) rfl rfl (Nat.le_of_ble_eq_true rfl) dX0_listen_25 (fun H locs hP hD hS => ?_)
  have hP : va_P (dC, dI) vwCl (wdX0_listen cyI cyZ cyJ cyB cyO h_cr a_cr_numbers cr_size cr_n cr_blockerBits cr_blocker (0 : Int32) cr_seemingHeard (0 : Int32) (0 : Int32) cr_numbers) H := hP
  have hD : va_D A (wdX0_listen cyI cyZ cyJ cyB cyO h_cr a_cr_numbers cr_size cr_n cr_blockerBits cr_blocker (0 : Int32) cr_seemingHeard (0 : Int32) (0 : Int32) cr_numbers) := hD
  refine lv_iconst (v := (0 : Int32)) hx hb dX0_listen_28 (by decide) ?_
  refine lv_istore (lv' := [(5, .int (0 : Int32)), (4, .int o_1), (3, .int (cr_n - v1)), (0, .ref h_cr), (1, .int v1), (2, .int v2)]) hx hb dX0_listen_29 hl (by decide) rfl (fun ls hl => ?_)
  exact lcX0_listen_31 dC dI cyI cyZ cyJ cyB cyO h_cr a_cr_numbers cr_size cr_n cr_blockerBits cr_blocker cr_tagsHeard cr_seemingHeard cr_ones cr_zeros cr_numbers v1 v2 out hx hb hml hts hown hK hN hA hQ px_FU (cr_n - v1) o_1 (0 : Int32) (0 : Int32) cr_seemingHeard (0 : Int32) (0 : Int32) _ _ ls hp hP hD hS (lv_sub hl [3, 4, 5, 2, 1, 0] rfl)
/-! TagReader$Crowd.clashes()I -/
theorem hvX0_clashes : yX0_clashes.cls = RX0 ∧ yX0_clashes.cls ≠ "java/lang/invoke/MethodHandle" ∧ yX0_clashes.cls ≠ "java/lang/invoke/VarHandle" ∧ (parseMethodDescriptor yX0_clashes.desc).map (fun d => d.parameters.length) = some 0 := by decide +kernel
theorem fX0_clashes_X0 : ∀ w ∈ u_ws RX0 TX0 9, w ∈ wsX0_clashes := fun _ h => List.mem_cons_of_mem _ (List.mem_append_right _ h)
theorem kX0_clashes_1 : (.fieldLink RX0 32 "TagReader$Crowd" "ones" "I" : Cond) ∈ wsX0_clashes := List.mem_of_getElem? (i := 1) rfl
theorem kX0_clashes_2 : (.fieldLink RX0 35 "TagReader$Crowd" "zeros" "I" : Cond) ∈ wsX0_clashes := List.mem_of_getElem? (i := 2) rfl
set_option maxHeartbeats 4000000 in
set_option maxRecDepth 100000 in
theorem ccX0_clashes (l : Launch) (dC : Nat → ClassId) (dI : Nat → Nat → Nat) (cyI cyZ cyJ cyB cyO : ClassId) (h_cr a_cr_numbers : Nat) (cr_size : Int32) (cr_n : Int32) (cr_blockerBits : Int32) (cr_blocker : Int32) (cr_tagsHeard : Int32) (cr_seemingHeard : Int32) (cr_ones : Int32) (cr_zeros : Int32) (cr_numbers : Nat → Int32) (out : Int32) (hp : pX0_clashes cr_ones cr_zeros = some out) : Met l yX0_clashes wsX0_clashes ({ frames := 0, cells := 0, slots := 0, locals := 0 } : Room) (px_PR (dC, dI) (px_TY cyI cyZ cyJ cyB cyO) [.ref h_cr] (wdX0_clashes cyI cyZ cyJ cyB cyO h_cr a_cr_numbers cr_size cr_n cr_blockerBits cr_blocker cr_tagsHeard cr_seemingHeard cr_ones cr_zeros cr_numbers)) (px_QR (.int out)) 0 0 (fun _ => False) := by
  refine Met.ofW (cc := cX0_clashes) (maxL := 1) (ret := (some .int)) (by decide) rfl ?_
  intro p e s m args below meth c s₁ B hml hv
  obtain ⟨rfl, hP, hK, hN⟩ := hv
  have hx := B.exec
  have hb := B.bytes
  have hr := B.returns
  have hts := atoms_spec (ws := wsX0_clashes) B.pre
  have hown : s.vm.findClass RX0 = some m.cls := findClass_of_methodNamed B.named
  have hlocks := B.notSynchronized
  have hQ : ∀ (pc : Nat) (ls : Array Slot), decode cX0_clashes pc = .ok (.ireturn, 1) → W p l e ({ frames := 0, cells := 0, slots := 0, locals := 0 } : Room) s m (([.ref h_cr] : List Value).toArray) below meth c s.heap [] 0 0 (MQ below (px_QR (.int out)) (([.ref h_cr] : List Value).toArray) s 0 0 (fun _ => False)) (F0 m pc ls [.int out]) := fun pc ls hd => W.iret hx hb hr (fun t ht hW => ⟨rfl, ht⟩) (fun q h => by cases h) hd
  generalize MQ below (px_QR (.int out)) (([.ref h_cr] : List Value).toArray) s 0 0 (fun _ => False) = Q at hQ ⊢
  have hl := lv_entry [.ref h_cr] (n := 1) (Nat.le_of_ble_eq_true rfl)
  rw [lg_entry_eq]
  generalize (lg_sl [.ref h_cr] ++ List.replicate (1 - (lg_sl [.ref h_cr]).length) Slot.unset).toArray = ls at hl ⊢
  have hl : lv_has ls 1 [(0, .ref h_cr)] := hl
  unfold pX0_clashes at hp
  refine lv_aload_n hx hb dX0_clashes_0 rfl (lv_at hl 0 rfl) ?_
  refine va_get (D := (dC, dI)) (ci := 0) (v := .int cr_ones) (C := RX0) (T := TX0) (N := 9) hx hb hts fX0_clashes_X0 hown hK hP 0 rfl rfl 7 (by decide) (hts _ kX0_clashes_1) (fun _ h9 => h9) rfl dX0_clashes_1 ?_
  refine lv_aload_n hx hb dX0_clashes_4 rfl (lv_at hl 0 rfl) ?_
  refine va_get (D := (dC, dI)) (ci := 0) (v := .int cr_zeros) (C := RX0) (T := TX0) (N := 9) hx hb hts fX0_clashes_X0 hown hK hP 0 rfl rfl 8 (by decide) (hts _ kX0_clashes_2) (fun _ h9 => h9) rfl dX0_clashes_5 ?_
  refine lv_iand hx hb dX0_clashes_8 ?_
  have ho := px_s hp
  subst ho
  exact hQ _ _ dX0_clashes_9
