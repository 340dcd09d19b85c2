theorem hiX0_init : yX0_init.cls ≠ "java/lang/invoke/MethodHandle" ∧ yX0_init.cls ≠ "java/lang/invoke/VarHandle" ∧ (parseMethodDescriptor yX0_init.desc).map (fun d => d.parameters.length) = some 0 := by decide +kernel
theorem kX0_init_1 : (.methodLink RX0 1 objectInit : Cond) ∈ wsX0_init := List.mem_of_getElem? (i := 1) rfl
theorem kX0_init_2 : (.instanceMethod objectInit : Cond) ∈ wsX0_init := List.mem_of_getElem? (i := 2) rfl
theorem kX0_init_4 : (.arrayClass .int : Cond) ∈ wsX0_init := List.mem_of_getElem? (i := 4) rfl
theorem fX0_init_X0 : ∀ w ∈ u_ws RX0 TX0 9, w ∈ wsX0_init := fun _ h => List.mem_cons_of_mem _ (List.mem_append_right _ h)
theorem kX0_init_5 : (.fieldLink RX0 7 "TagReader$Crowd" "numbers" "[I" : Cond) ∈ wsX0_init := List.mem_of_getElem? (i := 5) rfl
theorem kX0_init_6 : (.fieldLink RX0 13 "TagReader$Crowd" "size" "I" : Cond) ∈ wsX0_init := List.mem_of_getElem? (i := 6) rfl
theorem kX0_init_7 : (.fieldLink RX0 17 "TagReader$Crowd" "n" "I" : Cond) ∈ wsX0_init := List.mem_of_getElem? (i := 7) rfl
theorem kX0_init_8 : (.fieldLink RX0 20 "TagReader$Crowd" "blockerBits" "I" : Cond) ∈ wsX0_init := List.mem_of_getElem? (i := 8) rfl
theorem kX0_init_9 : (.fieldLink RX0 23 "TagReader$Crowd" "blocker" "I" : Cond) ∈ wsX0_init := List.mem_of_getElem? (i := 9) rfl
theorem kX0_init_10 : (.fieldLink RX0 26 "TagReader$Crowd" "tagsHeard" "I" : Cond) ∈ wsX0_init := List.mem_of_getElem? (i := 10) rfl
theorem kX0_init_11 : (.fieldLink RX0 29 "TagReader$Crowd" "seemingHeard" "I" : Cond) ∈ wsX0_init := List.mem_of_getElem? (i := 11) rfl
theorem kX0_init_12 : (.fieldLink RX0 32 "TagReader$Crowd" "ones" "I" : Cond) ∈ wsX0_init := List.mem_of_getElem? (i := 12) rfl
theorem kX0_init_13 : (.fieldLink RX0 35 "TagReader$Crowd" "zeros" "I" : Cond) ∈ wsX0_init := List.mem_of_getElem? (i := 13) rfl
set_option maxHeartbeats 4000000 in
set_option maxRecDepth 100000 in
theorem cmX0_init (l : Launch) (dC : Nat → ClassId) (dI : Nat → Nat → Nat) (cyI cyZ cyJ cyB cyO : ClassId) (sz h : Nat) : Met l yX0_init wsX0_init ({ frames := 1, cells := 1, slots := 32, locals := 24 } : Room) (px_PW (dC, dI) (px_TY cyI cyZ cyJ cyB cyO) [.ref h] [(h, .inr (0, [.null, .int 0, .int 0, .int 0, .int 0, .int 0, .int 0, .int 0, .int 0]))] sz) (px_QN (fun w => ∃ q1 : Nat, w = [(h, .inr (0, [.ref q1, .int (0 : Int32), .int (0 : Int32), .int (-1 : Int32), .int (0 : Int32), .int (0 : Int32), .int (0 : Int32), .int (0 : Int32), .int (0 : Int32)])), (q1, .inl (cyI, 32, .inl (fun _ => 0)))]) (dC, dI) [(h, .inr (0, [.null, .int 0, .int 0, .int 0, .int 0, .int 0, .int 0, .int 0, .int 0]))] sz) 1 32 (va_A [(h, .inr (0, [.null, .int 0, .int 0, .int 0, .int 0, .int 0, .int 0, .int 0, .int 0]))] sz) := by
  refine Met.ofW (cc := cX0_init) (maxL := 1) (ret := none) (by decide) rfl ?_
  intro p e s m args below meth c s₁ B hml hv
  obtain ⟨rfl, hsz, hP, hK, hD0, hN⟩ := hv
  have hx := B.exec
  have hb := B.bytes
  have hr := B.returns
  have hts := atoms_spec (ws := wsX0_init) B.pre
  have hown : s.vm.findClass RX0 = some m.cls := findClass_of_methodNamed B.named
  have hlocks := B.notSynchronized
  have hin : meth.name = "<init>" := (name_of_methodNamed B.named B.method).1
  subst hsz
  have hD := hD0.self (sz := s.heap.size)
  have hq := px_QNe (G := (fun w => ∃ q1 : Nat, w = [(h, .inr (0, [.ref q1, .int (0 : Int32), .int (0 : Int32), .int (-1 : Int32), .int (0 : Int32), .int (0 : Int32), .int (0 : Int32), .int (0 : Int32), .int (0 : Int32)])), (q1, .inl (cyI, 32, .inl (fun _ => 0)))])) (D := (dC, dI)) (wc := [(h, .inr (0, [.null, .int 0, .int 0, .int 0, .int 0, .int 0, .int 0, .int 0, .int 0]))]) (st := s) rfl
  generalize px_QN (fun w => ∃ q1 : Nat, w = [(h, .inr (0, [.ref q1, .int (0 : Int32), .int (0 : Int32), .int (-1 : Int32), .int (0 : Int32), .int (0 : Int32), .int (0 : Int32), .int (0 : Int32), .int (0 : Int32)])), (q1, .inl (cyI, 32, .inl (fun _ => 0)))]) (dC, dI) [(h, .inr (0, [.null, .int 0, .int 0, .int 0, .int 0, .int 0, .int 0, .int 0, .int 0]))] s.heap.size = Qc at hq ⊢
  generalize hAe : va_A [(h, .inr (0, [.null, .int 0, .int 0, .int 0, .int 0, .int 0, .int 0, .int 0, .int 0]))] s.heap.size = A at hD hq ⊢
  have hA : ∀ q : Nat, s.heap.size ≤ q → A q := fun q h => by rw [← hAe]; exact Or.inr h
  have hS : va_S A s.heap s.heap [] := va_S.rf
  have hl := lv_entry [.ref h] (n := 1) (Nat.le_of_ble_eq_true rfl)
  rw [lg_entry_eq]
  generalize (lg_sl [.ref h] ++ List.replicate (1 - (lg_sl [.ref h]).length) Slot.unset).toArray = ls at hl ⊢
  have hl : lv_has ls 1 [(0, .ref h)] := hl
  refine lv_aload_n hx hb dX0_init_0 rfl (lv_at hl 0 rfl) ?_
  refine W.objInit hx hb hown (hts _ kX0_init_1) (hts _ kX0_init_2) (hts _ (List.mem_of_getElem? (i := 3) rfl)) rfl (by rw [hml]; exact hl.1) rfl dX0_init_1 (Nat.le_of_ble_eq_true rfl) (Nat.le_of_ble_eq_true rfl) ?_
  refine W.eq (g2 := F0 m 4 ls []) rfl ?_
  refine lv_aload_n hx hb dX0_init_4 rfl (lv_at hl 0 rfl) ?_
  refine lv_bipush (v := (32 : Int32)) hx hb dX0_init_5 (by decide) ?_
  refine px_newa (atype := .int) (D := (dC, dI)) (ty := .int) (a0 := (32, .inl (fun _ => 0))) (N' := 32) hx hb (hts _ kX0_init_4) rfl hK hP hD hS hA (fun _ => rfl) (by decide) (by decide) (by decide) (Nat.le_of_ble_eq_true rfl) (Nat.le_of_ble_eq_true rfl) dX0_init_7 0 rfl (fun _ _ h => h) (fun q1 H hP hD hS => ?_)
  refine W.cs (cells' := 1) (slots' := 32) rfl rfl ?_
  have hP : va_P (dC, dI) vwCl [(h, .inr (0, [.null, .int 0, .int 0, .int 0, .int 0, .int 0, .int 0, .int 0, .int 0])), (q1, .inl (cyI, 32, .inl (fun _ => 0)))] H := hP
  have hD : va_D A [(h, .inr (0, [.null, .int 0, .int 0, .int 0, .int 0, .int 0, .int 0, .int 0, .int 0])), (q1, .inl (cyI, 32, .inl (fun _ => 0)))] := hD
  refine va_putF (D := (dC, dI)) (ci := 0) (v := .ref q1) (ty := (.array .int)) (C := RX0) (T := TX0) (N := 9) hx hb hts fX0_init_X0 tyX0 tyX0_ok nmX0 hown hK hP hD hS 0 rfl rfl 0 (by decide) (hts _ kX0_init_5) (fun _ h9 => h9) rfl hin rfl (tyX0_ok 0 (by decide)) rfl rfl (Nat.le_of_ble_eq_true rfl) dX0_init_9 (fun H locs hP hD hS => ?_)
  have hP : va_P (dC, dI) vwCl [(h, .inr (0, [.ref q1, .int 0, .int 0, .int 0, .int 0, .int 0, .int 0, .int 0, .int 0])), (q1, .inl (cyI, 32, .inl (fun _ => 0)))] H := hP
  have hD : va_D A [(h, .inr (0, [.ref q1, .int 0, .int 0, .int 0, .int 0, .int 0, .int 0, .int 0, .int 0])), (q1, .inl (cyI, 32, .inl (fun _ => 0)))] := hD
  refine lv_aload_n hx hb dX0_init_12 rfl (lv_at hl 0 rfl) ?_
  refine lv_iconst (v := (0 : Int32)) hx hb dX0_init_13 (by decide) ?_
  refine va_put (D := (dC, dI)) (ci := 0) (v := .int (0 : Int32)) (ty := .int) (C := RX0) (T := TX0) (N := 9) hx hb hts fX0_init_X0 tyX0 tyX0_ok nmX0 hown hK hP hD hS 0 rfl rfl 1 (by decide) (hts _ kX0_init_6) (fun _ h9 => h9) rfl (tyX0_ok 1 (by decide)) rfl rfl (Nat.le_of_ble_eq_true rfl) dX0_init_14 (fun H locs hP hD hS => ?_)
  have hP : va_P (dC, dI) vwCl [(h, .inr (0, [.ref q1, .int (0 : Int32), .int 0, .int 0, .int 0, .int 0, .int 0, .int 0, .int 0])), (q1, .inl (cyI, 32, .inl (fun _ => 0)))] H := hP
  have hD : va_D A [(h, .inr (0, [.ref q1, .int (0 : Int32), .int 0, .int 0, .int 0, .int 0, .int 0, .int 0, .int 0])), (q1, .inl (cyI, 32, .inl (fun _ => 0)))] := hD
  refine lv_aload_n hx hb dX0_init_17 rfl (lv_at hl 0 rfl) ?_
  refine lv_iconst (v := (0 : Int32)) hx hb dX0_init_18 (by decide) ?_
  refine va_put (D := (dC, dI)) (ci := 0) (v := .int (0 : Int32)) (ty := .int) (C := RX0) (T := TX0) (N := 9) hx hb hts fX0_init_X0 tyX0 tyX0_ok nmX0 hown hK hP hD hS 0 rfl rfl 2 (by decide) (hts _ kX0_init_7) (fun _ h9 => h9) rfl (tyX0_ok 2 (by decide)) rfl rfl (Nat.le_of_ble_eq_true rfl) dX0_init_19 (fun H locs hP hD hS => ?_)
  have hP : va_P (dC, dI) vwCl [(h, .inr (0, [.ref q1, .int (0 : Int32), .int (0 : Int32), .int 0, .int 0, .int 0, .int 0, .int 0, .int 0])), (q1, .inl (cyI, 32, .inl (fun _ => 0)))] H := hP
  have hD : va_D A [(h, .inr (0, [.ref q1, .int (0 : Int32), .int (0 : Int32), .int 0, .int 0, .int 0, .int 0, .int 0, .int 0])), (q1, .inl (cyI, 32, .inl (fun _ => 0)))] := hD
  refine lv_aload_n hx hb dX0_init_22 rfl (lv_at hl 0 rfl) ?_
  refine lv_iconst (v := (-1 : Int32)) hx hb dX0_init_23 (by decide) ?_
  refine va_put (D := (dC, dI)) (ci := 0) (v := .int (-1 : Int32)) (ty := .int) (C := RX0) (T := TX0) (N := 9) hx hb hts fX0_init_X0 tyX0 tyX0_ok nmX0 hown hK hP hD hS 0 rfl rfl 3 (by decide) (hts _ kX0_init_8) (fun _ h9 => h9) rfl (tyX0_ok 3 (by decide)) rfl rfl (Nat.le_of_ble_eq_true rfl) dX0_init_24 (fun H locs hP hD hS => ?_)
  have hP : va_P (dC, dI) vwCl [(h, .inr (0, [.ref q1, .int (0 : Int32), .int (0 : Int32), .int (-1 : Int32), .int 0, .int 0, .int 0, .int 0, .int 0])), (q1, .inl (cyI, 32, .inl (fun _ => 0)))] H := hP
  have hD : va_D A [(h, .inr (0, [.ref q1, .int (0 : Int32), .int (0 : Int32), .int (-1 : Int32), .int 0, .int 0, .int 0, .int 0, .int 0])), (q1, .inl (cyI, 32, .inl (fun _ => 0)))] := hD
  refine lv_aload_n hx hb dX0_init_27 rfl (lv_at hl 0 rfl) ?_
  refine lv_iconst (v := (0 : Int32)) hx hb dX0_init_28 (by decide) ?_
  refine va_put (D := (dC, dI)) (ci := 0) (v := .int (0 : Int32)) (ty := .int) (C := RX0) (T := TX0) (N := 9) hx hb hts fX0_init_X0 tyX0 tyX0_ok nmX0 hown hK hP hD hS 0 rfl rfl 4 (by decide) (hts _ kX0_init_9) (fun _ h9 => h9) rfl (tyX0_ok 4 (by decide)) rfl rfl (Nat.le_of_ble_eq_true rfl) dX0_init_29 (fun H locs hP hD hS => ?_)
  have hP : va_P (dC, dI) vwCl [(h, .inr (0, [.ref q1, .int (0 : Int32), .int (0 : Int32), .int (-1 : Int32), .int (0 : Int32), .int 0, .int 0, .int 0, .int 0])), (q1, .inl (cyI, 32, .inl (fun _ => 0)))] H := hP
  have hD : va_D A [(h, .inr (0, [.ref q1, .int (0 : Int32), .int (0 : Int32), .int (-1 : Int32), .int (0 : Int32), .int 0, .int 0, .int 0, .int 0])), (q1, .inl (cyI, 32, .inl (fun _ => 0)))] := hD
  refine lv_aload_n hx hb dX0_init_32 rfl (lv_at hl 0 rfl) ?_
  refine lv_iconst (v := (0 : Int32)) hx hb dX0_init_33 (by decide) ?_
  refine va_put (D := (dC, dI)) (ci := 0) (v := .int (0 : Int32)) (ty := .int) (C := RX0) (T := TX0) (N := 9) hx hb hts fX0_init_X0 tyX0 tyX0_ok nmX0 hown hK hP hD hS 0 rfl rfl 5 (by decide) (hts _ kX0_init_10) (fun _ h9 => h9) rfl (tyX0_ok 5 (by decide)) rfl rfl (Nat.le_of_ble_eq_true rfl) dX0_init_34 (fun H locs hP hD hS => ?_)
  have hP : va_P (dC, dI) vwCl [(h, .inr (0, [.ref q1, .int (0 : Int32), .int (0 : Int32), .int (-1 : Int32), .int (0 : Int32), .int (0 : Int32), .int 0, .int 0, .int 0])), (q1, .inl (cyI, 32, .inl (fun _ => 0)))] H := hP
  have hD : va_D A [(h, .inr (0, [.ref q1, .int (0 : Int32), .int (0 : Int32), .int (-1 : Int32), .int (0 : Int32), .int (0 : Int32), .int 0, .int 0, .int 0])), (q1, .inl (cyI, 32, .inl (fun _ => 0)))] := hD
  refine lv_aload_n hx hb dX0_init_37 rfl (lv_at hl 0 rfl) ?_
  refine lv_iconst (v := (0 : Int32)) hx hb dX0_init_38 (by decide) ?_
  refine va_put (D := (dC, dI)) (ci := 0) (v := .int (0 : Int32)) (ty := .int) (C := RX0) (T := TX0) (N := 9) hx hb hts fX0_init_X0 tyX0 tyX0_ok nmX0 hown hK hP hD hS 0 rfl rfl 6 (by decide) (hts _ kX0_init_11) (fun _ h9 => h9) rfl (tyX0_ok 6 (by decide)) rfl rfl (Nat.le_of_ble_eq_true rfl) dX0_init_39 (fun H locs hP hD hS => ?_)
  have hP : va_P (dC, dI) vwCl [(h, .inr (0, [.ref q1, .int (0 : Int32), .int (0 : Int32), .int (-1 : Int32), .int (0 : Int32), .int (0 : Int32), .int (0 : Int32), .int 0, .int 0])), (q1, .inl (cyI, 32, .inl (fun _ => 0)))] H := hP
  have hD : va_D A [(h, .inr (0, [.ref q1, .int (0 : Int32), .int (0 : Int32), .int (-1 : Int32), .int (0 : Int32), .int (0 : Int32), .int (0 : Int32), .int 0, .int 0])), (q1, .inl (cyI, 32, .inl (fun _ => 0)))] := hD
  refine lv_aload_n hx hb dX0_init_42 rfl (lv_at hl 0 rfl) ?_
  refine lv_iconst (v := (0 : Int32)) hx hb dX0_init_43 (by decide) ?_
  refine va_put (D := (dC, dI)) (ci := 0) (v := .int (0 : Int32)) (ty := .int) (C := RX0) (T := TX0) (N := 9) hx hb hts fX0_init_X0 tyX0 tyX0_ok nmX0 hown hK hP hD hS 0 rfl rfl 7 (by decide) (hts _ kX0_init_12) (fun _ h9 => h9) rfl (tyX0_ok 7 (by decide)) rfl rfl (Nat.le_of_ble_eq_true rfl) dX0_init_44 (fun H locs hP hD hS => ?_)
  have hP : va_P (dC, dI) vwCl [(h, .inr (0, [.ref q1, .int (0 : Int32), .int (0 : Int32), .int (-1 : Int32), .int (0 : Int32), .int (0 : Int32), .int (0 : Int32), .int (0 : Int32), .int 0])), (q1, .inl (cyI, 32, .inl (fun _ => 0)))] H := hP
  have hD : va_D A [(h, .inr (0, [.ref q1, .int (0 : Int32), .int (0 : Int32), .int (-1 : Int32), .int (0 : Int32), .int (0 : Int32), .int (0 : Int32), .int (0 : Int32), .int 0])), (q1, .inl (cyI, 32, .inl (fun _ => 0)))] := hD
  refine lv_aload_n hx hb dX0_init_47 rfl (lv_at hl 0 rfl) ?_
  refine lv_iconst (v := (0 : Int32)) hx hb dX0_init_48 (by decide) ?_
  refine va_put (D := (dC, dI)) (ci := 0) (v := .int (0 : Int32)) (ty := .int) (C := RX0) (T := TX0) (N := 9) hx hb hts fX0_init_X0 tyX0 tyX0_ok nmX0 hown hK hP hD hS 0 rfl rfl 8 (by decide) (hts _ kX0_init_13) (fun _ h9 => h9) rfl (tyX0_ok 8 (by decide)) rfl rfl (Nat.le_of_ble_eq_true rfl) dX0_init_49 (fun H locs hP hD hS => ?_)
  have hP : va_P (dC, dI) vwCl [(h, .inr (0, [.ref q1, .int (0 : Int32), .int (0 : Int32), .int (-1 : Int32), .int (0 : Int32), .int (0 : Int32), .int (0 : Int32), .int (0 : Int32), .int (0 : Int32)])), (q1, .inl (cyI, 32, .inl (fun _ => 0)))] H := hP
  have hD : va_D A [(h, .inr (0, [.ref q1, .int (0 : Int32), .int (0 : Int32), .int (-1 : Int32), .int (0 : Int32), .int (0 : Int32), .int (0 : Int32), .int (0 : Int32), .int (0 : Int32)])), (q1, .inl (cyI, 32, .inl (fun _ => 0)))] := hD
  have hP9 := hP.sub (ws' := [(h, .inr (0, [.ref q1, .int (0 : Int32), .int (0 : Int32), .int (-1 : Int32), .int (0 : Int32), .int (0 : Int32), .int (0 : Int32), .int (0 : Int32), .int (0 : Int32)])), (q1, .inl (cyI, 32, .inl (fun _ => 0)))]) [0, 1] rfl
  have hD9 := hD.sub (ws' := [(h, .inr (0, [.ref q1, .int (0 : Int32), .int (0 : Int32), .int (-1 : Int32), .int (0 : Int32), .int (0 : Int32), .int (0 : Int32), .int (0 : Int32), .int (0 : Int32)])), (q1, .inl (cyI, 32, .inl (fun _ => 0)))]) [0, 1] (by decide) rfl
  exact W.vret hx hb hr (fun t ht hW => hq _ t _ ⟨q1, rfl⟩ (by rw [ht]; exact hP9) hD9 (hS.F ht)) hS.2.2 dX0_init_52
theorem hiX1_init : yX1_init.cls ≠ "java/lang/invoke/MethodHandle" ∧ yX1_init.cls ≠ "java/lang/invoke/VarHandle" ∧ (parseMethodDescriptor yX1_init.desc).map (fun d => d.parameters.length) = some 0 := by decide +kernel
theorem kX1_init_1 : (.methodLink RX1 3 objectInit : Cond) ∈ wsX1_init := List.mem_of_getElem? (i := 1) rfl
theorem kX1_init_2 : (.instanceMethod objectInit : Cond) ∈ wsX1_init := List.mem_of_getElem? (i := 2) rfl
theorem kX1_init_4 : (.arrayClass .int : Cond) ∈ wsX1_init := List.mem_of_getElem? (i := 4) rfl
theorem fX1_init_X1 : ∀ w ∈ u_ws RX1 TX1 4, w ∈ wsX1_init := fun _ h => List.mem_cons_of_mem _ (List.mem_append_right _ h)
theorem kX1_init_5 : (.fieldLink RX1 9 "TagReader$Frame" "counts" "[I" : Cond) ∈ wsX1_init := List.mem_of_getElem? (i := 5) rfl
theorem kX1_init_6 : (.fieldLink RX1 15 "TagReader$Frame" "answered" "[I" : Cond) ∈ wsX1_init := List.mem_of_getElem? (i := 6) rfl
theorem kX1_init_7 : (.fieldLink RX1 18 "TagReader$Frame" "strongest" "[I" : Cond) ∈ wsX1_init := List.mem_of_getElem? (i := 7) rfl
theorem kX1_init_8 : (.fieldLink RX1 21 "TagReader$Frame" "secondStrength" "[I" : Cond) ∈ wsX1_init := List.mem_of_getElem? (i := 8) rfl
set_option maxHeartbeats 4000000 in
set_option maxRecDepth 100000 in
theorem cmX1_init (l : Launch) (dC : Nat → ClassId) (dI : Nat → Nat → Nat) (cyI cyZ cyJ cyB cyO : ClassId) (sz h : Nat) : Met l yX1_init wsX1_init ({ frames := 1, cells := 4, slots := 197, locals := 24 } : Room) (px_PW (dC, dI) (px_TY cyI cyZ cyJ cyB cyO) [.ref h] [(h, .inr (1, [.null, .null, .null, .null]))] sz) (px_QN (fun w => ∃ q1 q2 q3 q4 : Nat, w = [(h, .inr (1, [.ref q1, .ref q2, .ref q3, .ref q4])), (q1, .inl (cyI, 5, .inl (fun _ => 0))), (q2, .inl (cyI, 64, .inl (fun _ => 0))), (q3, .inl (cyI, 64, .inl (fun _ => 0))), (q4, .inl (cyI, 64, .inl (fun _ => 0)))]) (dC, dI) [(h, .inr (1, [.null, .null, .null, .null]))] sz) 4 197 (va_A [(h, .inr (1, [.null, .null, .null, .null]))] sz) := by
  refine Met.ofW (cc := cX1_init) (maxL := 1) (ret := none) (by decide) rfl ?_
  intro p e s m args below meth c s₁ B hml hv
  obtain ⟨rfl, hsz, hP, hK, hD0, hN⟩ := hv
  have hx := B.exec
  have hb := B.bytes
  have hr := B.returns
  have hts := atoms_spec (ws := wsX1_init) B.pre
  have hown : s.vm.findClass RX1 = some m.cls := findClass_of_methodNamed B.named
  have hlocks := B.notSynchronized
  have hin : meth.name = "<init>" := (name_of_methodNamed B.named B.method).1
  subst hsz
  have hD := hD0.self (sz := s.heap.size)
  have hq := px_QNe (G := (fun w => ∃ q1 q2 q3 q4 : Nat, w = [(h, .inr (1, [.ref q1, .ref q2, .ref q3, .ref q4])), (q1, .inl (cyI, 5, .inl (fun _ => 0))), (q2, .inl (cyI, 64, .inl (fun _ => 0))), (q3, .inl (cyI, 64, .inl (fun _ => 0))), (q4, .inl (cyI, 64, .inl (fun _ => 0)))])) (D := (dC, dI)) (wc := [(h, .inr (1, [.null, .null, .null, .null]))]) (st := s) rfl
  generalize px_QN (fun w => ∃ q1 q2 q3 q4 : Nat, w = [(h, .inr (1, [.ref q1, .ref q2, .ref q3, .ref q4])), (q1, .inl (cyI, 5, .inl (fun _ => 0))), (q2, .inl (cyI, 64, .inl (fun _ => 0))), (q3, .inl (cyI, 64, .inl (fun _ => 0))), (q4, .inl (cyI, 64, .inl (fun _ => 0)))]) (dC, dI) [(h, .inr (1, [.null, .null, .null, .null]))] s.heap.size = Qc at hq ⊢
  generalize hAe : va_A [(h, .inr (1, [.null, .null, .null, .null]))] s.heap.size = A at hD hq ⊢
  have hA : ∀ q : Nat, s.heap.size ≤ q → A q := fun q h => by rw [← hAe]; exact Or.inr h
  have hS : va_S A s.heap s.heap [] := va_S.rf
  have hl := lv_entry [.ref h] (n := 1) (Nat.le_of_ble_eq_true rfl)
  rw [lg_entry_eq]
  generalize (lg_sl [.ref h] ++ List.replicate (1 - (lg_sl [.ref h]).length) Slot.unset).toArray = ls at hl ⊢
  have hl : lv_has ls 1 [(0, .ref h)] := hl
  refine lv_aload_n hx hb dX1_init_0 rfl (lv_at hl 0 rfl) ?_
  refine W.objInit hx hb hown (hts _ kX1_init_1) (hts _ kX1_init_2) (hts _ (List.mem_of_getElem? (i := 3) rfl)) rfl (by rw [hml]; exact hl.1) rfl dX1_init_1 (Nat.le_of_ble_eq_true rfl) (Nat.le_of_ble_eq_true rfl) ?_
  refine W.eq (g2 := F0 m 4 ls []) rfl ?_
  refine lv_aload_n hx hb dX1_init_4 rfl (lv_at hl 0 rfl) ?_
  refine lv_iconst (v := (5 : Int32)) hx hb dX1_init_5 (by decide) ?_
  refine px_newa (atype := .int) (D := (dC, dI)) (ty := .int) (a0 := (5, .inl (fun _ => 0))) (N' := 5) hx hb (hts _ kX1_init_4) rfl hK hP hD hS hA (fun _ => rfl) (by decide) (by decide) (by decide) (Nat.le_of_ble_eq_true rfl) (Nat.le_of_ble_eq_true rfl) dX1_init_6 0 rfl (fun _ _ h => h) (fun q1 H hP hD hS => ?_)
  refine W.cs (cells' := 1) (slots' := 5) rfl rfl ?_
  have hP : va_P (dC, dI) vwCl [(h, .inr (1, [.null, .null, .null, .null])), (q1, .inl (cyI, 5, .inl (fun _ => 0)))] H := hP
  have hD : va_D A [(h, .inr (1, [.null, .null, .null, .null])), (q1, .inl (cyI, 5, .inl (fun _ => 0)))] := hD
  refine va_putF (D := (dC, dI)) (ci := 1) (v := .ref q1) (ty := (.array .int)) (C := RX1) (T := TX1) (N := 4) hx hb hts fX1_init_X1 tyX1 tyX1_ok nmX1 hown hK hP hD hS 0 rfl rfl 0 (by decide) (hts _ kX1_init_5) (fun _ h9 => h9) rfl hin rfl (tyX1_ok 0 (by decide)) rfl rfl (Nat.le_of_ble_eq_true rfl) dX1_init_8 (fun H locs hP hD hS => ?_)
  have hP : va_P (dC, dI) vwCl [(h, .inr (1, [.ref q1, .null, .null, .null])), (q1, .inl (cyI, 5, .inl (fun _ => 0)))] H := hP
  have hD : va_D A [(h, .inr (1, [.ref q1, .null, .null, .null])), (q1, .inl (cyI, 5, .inl (fun _ => 0)))] := hD
  refine lv_aload_n hx hb dX1_init_11 rfl (lv_at hl 0 rfl) ?_
  refine lv_bipush (v := (64 : Int32)) hx hb dX1_init_12 (by decide) ?_
  refine px_newa (atype := .int) (D := (dC, dI)) (ty := .int) (a0 := (64, .inl (fun _ => 0))) (N' := 64) hx hb (hts _ kX1_init_4) rfl hK hP hD hS hA (fun _ => rfl) (by decide) (by decide) (by decide) (Nat.le_of_ble_eq_true rfl) (Nat.le_of_ble_eq_true rfl) dX1_init_14 0 rfl (fun _ _ h => h) (fun q2 H hP hD hS => ?_)
  refine W.cs (cells' := 2) (slots' := 69) rfl rfl ?_
  have hP : va_P (dC, dI) vwCl [(h, .inr (1, [.ref q1, .null, .null, .null])), (q1, .inl (cyI, 5, .inl (fun _ => 0))), (q2, .inl (cyI, 64, .inl (fun _ => 0)))] H := hP
  have hD : va_D A [(h, .inr (1, [.ref q1, .null, .null, .null])), (q1, .inl (cyI, 5, .inl (fun _ => 0))), (q2, .inl (cyI, 64, .inl (fun _ => 0)))] := hD
  refine va_putF (D := (dC, dI)) (ci := 1) (v := .ref q2) (ty := (.array .int)) (C := RX1) (T := TX1) (N := 4) hx hb hts fX1_init_X1 tyX1 tyX1_ok nmX1 hown hK hP hD hS 0 rfl rfl 1 (by decide) (hts _ kX1_init_6) (fun _ h9 => h9) rfl hin rfl (tyX1_ok 1 (by decide)) rfl rfl (Nat.le_of_ble_eq_true rfl) dX1_init_16 (fun H locs hP hD hS => ?_)
  have hP : va_P (dC, dI) vwCl [(h, .inr (1, [.ref q1, .ref q2, .null, .null])), (q1, .inl (cyI, 5, .inl (fun _ => 0))), (q2, .inl (cyI, 64, .inl (fun _ => 0)))] H := hP
  have hD : va_D A [(h, .inr (1, [.ref q1, .ref q2, .null, .null])), (q1, .inl (cyI, 5, .inl (fun _ => 0))), (q2, .inl (cyI, 64, .inl (fun _ => 0)))] := hD
  refine lv_aload_n hx hb dX1_init_19 rfl (lv_at hl 0 rfl) ?_
  refine lv_bipush (v := (64 : Int32)) hx hb dX1_init_20 (by decide) ?_
  refine px_newa (atype := .int) (D := (dC, dI)) (ty := .int) (a0 := (64, .inl (fun _ => 0))) (N' := 64) hx hb (hts _ kX1_init_4) rfl hK hP hD hS hA (fun _ => rfl) (by decide) (by decide) (by decide) (Nat.le_of_ble_eq_true rfl) (Nat.le_of_ble_eq_true rfl) dX1_init_22 0 rfl (fun _ _ h => h) (fun q3 H hP hD hS => ?_)
  refine W.cs (cells' := 3) (slots' := 133) rfl rfl ?_
  have hP : va_P (dC, dI) vwCl [(h, .inr (1, [.ref q1, .ref q2, .null, .null])), (q1, .inl (cyI, 5, .inl (fun _ => 0))), (q2, .inl (cyI, 64, .inl (fun _ => 0))), (q3, .inl (cyI, 64, .inl (fun _ => 0)))] H := hP
  have hD : va_D A [(h, .inr (1, [.ref q1, .ref q2, .null, .null])), (q1, .inl (cyI, 5, .inl (fun _ => 0))), (q2, .inl (cyI, 64, .inl (fun _ => 0))), (q3, .inl (cyI, 64, .inl (fun _ => 0)))] := hD
  refine va_putF (D := (dC, dI)) (ci := 1) (v := .ref q3) (ty := (.array .int)) (C := RX1) (T := TX1) (N := 4) hx hb hts fX1_init_X1 tyX1 tyX1_ok nmX1 hown hK hP hD hS 0 rfl rfl 2 (by decide) (hts _ kX1_init_7) (fun _ h9 => h9) rfl hin rfl (tyX1_ok 2 (by decide)) rfl rfl (Nat.le_of_ble_eq_true rfl) dX1_init_24 (fun H locs hP hD hS => ?_)
  have hP : va_P (dC, dI) vwCl [(h, .inr (1, [.ref q1, .ref q2, .ref q3, .null])), (q1, .inl (cyI, 5, .inl (fun _ => 0))), (q2, .inl (cyI, 64, .inl (fun _ => 0))), (q3, .inl (cyI, 64, .inl (fun _ => 0)))] H := hP
  have hD : va_D A [(h, .inr (1, [.ref q1, .ref q2, .ref q3, .null])), (q1, .inl (cyI, 5, .inl (fun _ => 0))), (q2, .inl (cyI, 64, .inl (fun _ => 0))), (q3, .inl (cyI, 64, .inl (fun _ => 0)))] := hD
  refine lv_aload_n hx hb dX1_init_27 rfl (lv_at hl 0 rfl) ?_
  refine lv_bipush (v := (64 : Int32)) hx hb dX1_init_28 (by decide) ?_
  refine px_newa (atype := .int) (D := (dC, dI)) (ty := .int) (a0 := (64, .inl (fun _ => 0))) (N' := 64) hx hb (hts _ kX1_init_4) rfl hK hP hD hS hA (fun _ => rfl) (by decide) (by decide) (by decide) (Nat.le_of_ble_eq_true rfl) (Nat.le_of_ble_eq_true rfl) dX1_init_30 0 rfl (fun _ _ h => h) (fun q4 H hP hD hS => ?_)
  refine W.cs (cells' := 4) (slots' := 197) rfl rfl ?_
  have hP : va_P (dC, dI) vwCl [(h, .inr (1, [.ref q1, .ref q2, .ref q3, .null])), (q1, .inl (cyI, 5, .inl (fun _ => 0))), (q2, .inl (cyI, 64, .inl (fun _ => 0))), (q3, .inl (cyI, 64, .inl (fun _ => 0))), (q4, .inl (cyI, 64, .inl (fun _ => 0)))] H := hP
  have hD : va_D A [(h, .inr (1, [.ref q1, .ref q2, .ref q3, .null])), (q1, .inl (cyI, 5, .inl (fun _ => 0))), (q2, .inl (cyI, 64, .inl (fun _ => 0))), (q3, .inl (cyI, 64, .inl (fun _ => 0))), (q4, .inl (cyI, 64, .inl (fun _ => 0)))] := hD
  refine va_putF (D := (dC, dI)) (ci := 1) (v := .ref q4) (ty := (.array .int)) (C := RX1) (T := TX1) (N := 4) hx hb hts fX1_init_X1 tyX1 tyX1_ok nmX1 hown hK hP hD hS 0 rfl rfl 3 (by decide) (hts _ kX1_init_8) (fun _ h9 => h9) rfl hin rfl (tyX1_ok 3 (by decide)) rfl rfl (Nat.le_of_ble_eq_true rfl) dX1_init_32 (fun H locs hP hD hS => ?_)
  have hP : va_P (dC, dI) vwCl [(h, .inr (1, [.ref q1, .ref q2, .ref q3, .ref q4])), (q1, .inl (cyI, 5, .inl (fun _ => 0))), (q2, .inl (cyI, 64, .inl (fun _ => 0))), (q3, .inl (cyI, 64, .inl (fun _ => 0))), (q4, .inl (cyI, 64, .inl (fun _ => 0)))] H := hP
  have hD : va_D A [(h, .inr (1, [.ref q1, .ref q2, .ref q3, .ref q4])), (q1, .inl (cyI, 5, .inl (fun _ => 0))), (q2, .inl (cyI, 64, .inl (fun _ => 0))), (q3, .inl (cyI, 64, .inl (fun _ => 0))), (q4, .inl (cyI, 64, .inl (fun _ => 0)))] := hD
  have hP9 := hP.sub (ws' := [(h, .inr (1, [.ref q1, .ref q2, .ref q3, .ref q4])), (q1, .inl (cyI, 5, .inl (fun _ => 0))), (q2, .inl (cyI, 64, .inl (fun _ => 0))), (q3, .inl (cyI, 64, .inl (fun _ => 0))), (q4, .inl (cyI, 64, .inl (fun _ => 0)))]) [0, 1, 2, 3, 4] rfl
  have hD9 := hD.sub (ws' := [(h, .inr (1, [.ref q1, .ref q2, .ref q3, .ref q4])), (q1, .inl (cyI, 5, .inl (fun _ => 0))), (q2, .inl (cyI, 64, .inl (fun _ => 0))), (q3, .inl (cyI, 64, .inl (fun _ => 0))), (q4, .inl (cyI, 64, .inl (fun _ => 0)))]) [0, 1, 2, 3, 4] (by decide) rfl
  exact W.vret hx hb hr (fun t ht hW => hq _ t _ ⟨q1, q2, q3, q4, rfl⟩ (by rw [ht]; exact hP9) hD9 (hS.F ht)) hS.2.2 dX1_init_35
theorem hiX2_init : yX2_init.cls ≠ "java/lang/invoke/MethodHandle" ∧ yX2_init.cls ≠ "java/lang/invoke/VarHandle" ∧ (parseMethodDescriptor yX2_init.desc).map (fun d => d.parameters.length) = some 0 := by decide +kernel
theorem kX2_init_1 : (.methodLink RX2 3 objectInit : Cond) ∈ wsX2_init := List.mem_of_getElem? (i := 1) rfl
theorem kX2_init_2 : (.instanceMethod objectInit : Cond) ∈ wsX2_init := List.mem_of_getElem? (i := 2) rfl
theorem kX2_init_4 : (.arrayClass .int : Cond) ∈ wsX2_init := List.mem_of_getElem? (i := 4) rfl
theorem fX2_init_X2 : ∀ w ∈ u_ws RX2 TX2 3, w ∈ wsX2_init := fun _ h => List.mem_cons_of_mem _ (List.mem_append_right _ h)
theorem kX2_init_5 : (.fieldLink RX2 9 "TagReader$Known" "numbers" "[I" : Cond) ∈ wsX2_init := List.mem_of_getElem? (i := 5) rfl
theorem kX2_init_6 : (.fieldLink RX2 15 "TagReader$Known" "slots" "[I" : Cond) ∈ wsX2_init := List.mem_of_getElem? (i := 6) rfl
theorem kX2_init_7 : (.fieldLink RX2 18 "TagReader$Known" "size" "I" : Cond) ∈ wsX2_init := List.mem_of_getElem? (i := 7) rfl
set_option maxHeartbeats 4000000 in
set_option maxRecDepth 100000 in
theorem cmX2_init (l : Launch) (dC : Nat → ClassId) (dI : Nat → Nat → Nat) (cyI cyZ cyJ cyB cyO : ClassId) (sz h : Nat) : Met l yX2_init wsX2_init ({ frames := 1, cells := 2, slots := 32, locals := 24 } : Room) (px_PW (dC, dI) (px_TY cyI cyZ cyJ cyB cyO) [.ref h] [(h, .inr (2, [.null, .null, .int 0]))] sz) (px_QN (fun w => ∃ q1 q2 : Nat, w = [(h, .inr (2, [.ref q1, .ref q2, .int (0 : Int32)])), (q1, .inl (cyI, 16, .inl (fun _ => 0))), (q2, .inl (cyI, 16, .inl (fun _ => 0)))]) (dC, dI) [(h, .inr (2, [.null, .null, .int 0]))] sz) 2 32 (va_A [(h, .inr (2, [.null, .null, .int 0]))] sz) := by
  refine Met.ofW (cc := cX2_init) (maxL := 1) (ret := none) (by decide) rfl ?_
  intro p e s m args below meth c s₁ B hml hv
  obtain ⟨rfl, hsz, hP, hK, hD0, hN⟩ := hv
  have hx := B.exec
  have hb := B.bytes
  have hr := B.returns
  have hts := atoms_spec (ws := wsX2_init) B.pre
  have hown : s.vm.findClass RX2 = some m.cls := findClass_of_methodNamed B.named
  have hlocks := B.notSynchronized
  have hin : meth.name = "<init>" := (name_of_methodNamed B.named B.method).1
  subst hsz
  have hD := hD0.self (sz := s.heap.size)
  have hq := px_QNe (G := (fun w => ∃ q1 q2 : Nat, w = [(h, .inr (2, [.ref q1, .ref q2, .int (0 : Int32)])), (q1, .inl (cyI, 16, .inl (fun _ => 0))), (q2, .inl (cyI, 16, .inl (fun _ => 0)))])) (D := (dC, dI)) (wc := [(h, .inr (2, [.null, .null, .int 0]))]) (st := s) rfl
  generalize px_QN (fun w => ∃ q1 q2 : Nat, w = [(h, .inr (2, [.ref q1, .ref q2, .int (0 : Int32)])), (q1, .inl (cyI, 16, .inl (fun _ => 0))), (q2, .inl (cyI, 16, .inl (fun _ => 0)))]) (dC, dI) [(h, .inr (2, [.null, .null, .int 0]))] s.heap.size = Qc at hq ⊢
  generalize hAe : va_A [(h, .inr (2, [.null, .null, .int 0]))] s.heap.size = A at hD hq ⊢
  have hA : ∀ q : Nat, s.heap.size ≤ q → A q := fun q h => by rw [← hAe]; exact Or.inr h
  have hS : va_S A s.heap s.heap [] := va_S.rf
  have hl := lv_entry [.ref h] (n := 1) (Nat.le_of_ble_eq_true rfl)
  rw [lg_entry_eq]
  generalize (lg_sl [.ref h] ++ List.replicate (1 - (lg_sl [.ref h]).length) Slot.unset).toArray = ls at hl ⊢
  have hl : lv_has ls 1 [(0, .ref h)] := hl
  refine lv_aload_n hx hb dX2_init_0 rfl (lv_at hl 0 rfl) ?_
  refine W.objInit hx hb hown (hts _ kX2_init_1) (hts _ kX2_init_2) (hts _ (List.mem_of_getElem? (i := 3) rfl)) rfl (by rw [hml]; exact hl.1) rfl dX2_init_1 (Nat.le_of_ble_eq_true rfl) (Nat.le_of_ble_eq_true rfl) ?_
  refine W.eq (g2 := F0 m 4 ls []) rfl ?_
  refine lv_aload_n hx hb dX2_init_4 rfl (lv_at hl 0 rfl) ?_
  refine lv_bipush (v := (16 : Int32)) hx hb dX2_init_5 (by decide) ?_
  refine px_newa (atype := .int) (D := (dC, dI)) (ty := .int) (a0 := (16, .inl (fun _ => 0))) (N' := 16) hx hb (hts _ kX2_init_4) rfl hK hP hD hS hA (fun _ => rfl) (by decide) (by decide) (by decide) (Nat.le_of_ble_eq_true rfl) (Nat.le_of_ble_eq_true rfl) dX2_init_7 0 rfl (fun _ _ h => h) (fun q1 H hP hD hS => ?_)
  refine W.cs (cells' := 1) (slots' := 16) rfl rfl ?_
  have hP : va_P (dC, dI) vwCl [(h, .inr (2, [.null, .null, .int 0])), (q1, .inl (cyI, 16, .inl (fun _ => 0)))] H := hP
  have hD : va_D A [(h, .inr (2, [.null, .null, .int 0])), (q1, .inl (cyI, 16, .inl (fun _ => 0)))] := hD
  refine va_putF (D := (dC, dI)) (ci := 2) (v := .ref q1) (ty := (.array .int)) (C := RX2) (T := TX2) (N := 3) hx hb hts fX2_init_X2 tyX2 tyX2_ok nmX2 hown hK hP hD hS 0 rfl rfl 0 (by decide) (hts _ kX2_init_5) (fun _ h9 => h9) rfl hin rfl (tyX2_ok 0 (by decide)) rfl rfl (Nat.le_of_ble_eq_true rfl) dX2_init_9 (fun H locs hP hD hS => ?_)
  have hP : va_P (dC, dI) vwCl [(h, .inr (2, [.ref q1, .null, .int 0])), (q1, .inl (cyI, 16, .inl (fun _ => 0)))] H := hP
  have hD : va_D A [(h, .inr (2, [.ref q1, .null, .int 0])), (q1, .inl (cyI, 16, .inl (fun _ => 0)))] := hD
  refine lv_aload_n hx hb dX2_init_12 rfl (lv_at hl 0 rfl) ?_
  refine lv_bipush (v := (16 : Int32)) hx hb dX2_init_13 (by decide) ?_
  refine px_newa (atype := .int) (D := (dC, dI)) (ty := .int) (a0 := (16, .inl (fun _ => 0))) (N' := 16) hx hb (hts _ kX2_init_4) rfl hK hP hD hS hA (fun _ => rfl) (by decide) (by decide) (by decide) (Nat.le_of_ble_eq_true rfl) (Nat.le_of_ble_eq_true rfl) dX2_init_15 0 rfl (fun _ _ h => h) (fun q2 H hP hD hS => ?_)
  refine W.cs (cells' := 2) (slots' := 32) rfl rfl ?_
  have hP : va_P (dC, dI) vwCl [(h, .inr (2, [.ref q1, .null, .int 0])), (q1, .inl (cyI, 16, .inl (fun _ => 0))), (q2, .inl (cyI, 16, .inl (fun _ => 0)))] H := hP
  have hD : va_D A [(h, .inr (2, [.ref q1, .null, .int 0])), (q1, .inl (cyI, 16, .inl (fun _ => 0))), (q2, .inl (cyI, 16, .inl (fun _ => 0)))] := hD
  refine va_putF (D := (dC, dI)) (ci := 2) (v := .ref q2) (ty := (.array .int)) (C := RX2) (T := TX2) (N := 3) hx hb hts fX2_init_X2 tyX2 tyX2_ok nmX2 hown hK hP hD hS 0 rfl rfl 1 (by decide) (hts _ kX2_init_6) (fun _ h9 => h9) rfl hin rfl (tyX2_ok 1 (by decide)) rfl rfl (Nat.le_of_ble_eq_true rfl) dX2_init_17 (fun H locs hP hD hS => ?_)
  have hP : va_P (dC, dI) vwCl [(h, .inr (2, [.ref q1, .ref q2, .int 0])), (q1, .inl (cyI, 16, .inl (fun _ => 0))), (q2, .inl (cyI, 16, .inl (fun _ => 0)))] H := hP
  have hD : va_D A [(h, .inr (2, [.ref q1, .ref q2, .int 0])), (q1, .inl (cyI, 16, .inl (fun _ => 0))), (q2, .inl (cyI, 16, .inl (fun _ => 0)))] := hD
  refine lv_aload_n hx hb dX2_init_20 rfl (lv_at hl 0 rfl) ?_
  refine lv_iconst (v := (0 : Int32)) hx hb dX2_init_21 (by decide) ?_
  refine va_put (D := (dC, dI)) (ci := 2) (v := .int (0 : Int32)) (ty := .int) (C := RX2) (T := TX2) (N := 3) hx hb hts fX2_init_X2 tyX2 tyX2_ok nmX2 hown hK hP hD hS 0 rfl rfl 2 (by decide) (hts _ kX2_init_7) (fun _ h9 => h9) rfl (tyX2_ok 2 (by decide)) rfl rfl (Nat.le_of_ble_eq_true rfl) dX2_init_22 (fun H locs hP hD hS => ?_)
  have hP : va_P (dC, dI) vwCl [(h, .inr (2, [.ref q1, .ref q2, .int (0 : Int32)])), (q1, .inl (cyI, 16, .inl (fun _ => 0))), (q2, .inl (cyI, 16, .inl (fun _ => 0)))] H := hP
  have hD : va_D A [(h, .inr (2, [.ref q1, .ref q2, .int (0 : Int32)])), (q1, .inl (cyI, 16, .inl (fun _ => 0))), (q2, .inl (cyI, 16, .inl (fun _ => 0)))] := hD
  have hP9 := hP.sub (ws' := [(h, .inr (2, [.ref q1, .ref q2, .int (0 : Int32)])), (q1, .inl (cyI, 16, .inl (fun _ => 0))), (q2, .inl (cyI, 16, .inl (fun _ => 0)))]) [0, 1, 2] rfl
  have hD9 := hD.sub (ws' := [(h, .inr (2, [.ref q1, .ref q2, .int (0 : Int32)])), (q1, .inl (cyI, 16, .inl (fun _ => 0))), (q2, .inl (cyI, 16, .inl (fun _ => 0)))]) [0, 1, 2] (by decide) rfl
  exact W.vret hx hb hr (fun t ht hW => hq _ t _ ⟨q1, q2, rfl⟩ (by rw [ht]; exact hP9) hD9 (hS.F ht)) hS.2.2 dX2_init_25
theorem hiX3_init : yX3_init.cls ≠ "java/lang/invoke/MethodHandle" ∧ yX3_init.cls ≠ "java/lang/invoke/VarHandle" ∧ (parseMethodDescriptor yX3_init.desc).map (fun d => d.parameters.length) = some 0 := by decide +kernel
theorem kX3_init_1 : (.methodLink RX3 3 objectInit : Cond) ∈ wsX3_init := List.mem_of_getElem? (i := 1) rfl
theorem kX3_init_2 : (.instanceMethod objectInit : Cond) ∈ wsX3_init := List.mem_of_getElem? (i := 2) rfl
theorem kX3_init_4 : (.arrayClass .long : Cond) ∈ wsX3_init := List.mem_of_getElem? (i := 4) rfl
theorem fX3_init_X3 : ∀ w ∈ u_ws RX3 TX3 1, w ∈ wsX3_init := fun _ h => List.mem_cons_of_mem _ (List.mem_append_right _ h)
theorem kX3_init_5 : (.fieldLink RX3 9 "TagReader$Odds" "row" "[J" : Cond) ∈ wsX3_init := List.mem_of_getElem? (i := 5) rfl
set_option maxHeartbeats 4000000 in
set_option maxRecDepth 100000 in
theorem cmX3_init (l : Launch) (dC : Nat → ClassId) (dI : Nat → Nat → Nat) (cyI cyZ cyJ cyB cyO : ClassId) (sz h : Nat) : Met l yX3_init wsX3_init ({ frames := 1, cells := 1, slots := 17, locals := 24 } : Room) (px_PW (dC, dI) (px_TY cyI cyZ cyJ cyB cyO) [.ref h] [(h, .inr (3, [.null]))] sz) (px_QN (fun w => ∃ q1 : Nat, w = [(h, .inr (3, [.ref q1])), (q1, .inl (cyJ, 17, .inr (.inl (fun _ => 0))))]) (dC, dI) [(h, .inr (3, [.null]))] sz) 1 17 (va_A [(h, .inr (3, [.null]))] sz) := by
  refine Met.ofW (cc := cX3_init) (maxL := 1) (ret := none) (by decide) rfl ?_
  intro p e s m args below meth c s₁ B hml hv
  obtain ⟨rfl, hsz, hP, hK, hD0, hN⟩ := hv
  have hx := B.exec
  have hb := B.bytes
  have hr := B.returns
  have hts := atoms_spec (ws := wsX3_init) B.pre
  have hown : s.vm.findClass RX3 = some m.cls := findClass_of_methodNamed B.named
  have hlocks := B.notSynchronized
  have hin : meth.name = "<init>" := (name_of_methodNamed B.named B.method).1
  subst hsz
  have hD := hD0.self (sz := s.heap.size)
  have hq := px_QNe (G := (fun w => ∃ q1 : Nat, w = [(h, .inr (3, [.ref q1])), (q1, .inl (cyJ, 17, .inr (.inl (fun _ => 0))))])) (D := (dC, dI)) (wc := [(h, .inr (3, [.null]))]) (st := s) rfl
  generalize px_QN (fun w => ∃ q1 : Nat, w = [(h, .inr (3, [.ref q1])), (q1, .inl (cyJ, 17, .inr (.inl (fun _ => 0))))]) (dC, dI) [(h, .inr (3, [.null]))] s.heap.size = Qc at hq ⊢
  generalize hAe : va_A [(h, .inr (3, [.null]))] s.heap.size = A at hD hq ⊢
  have hA : ∀ q : Nat, s.heap.size ≤ q → A q := fun q h => by rw [← hAe]; exact Or.inr h
  have hS : va_S A s.heap s.heap [] := va_S.rf
  have hl := lv_entry [.ref h] (n := 1) (Nat.le_of_ble_eq_true rfl)
  rw [lg_entry_eq]
  generalize (lg_sl [.ref h] ++ List.replicate (1 - (lg_sl [.ref h]).length) Slot.unset).toArray = ls at hl ⊢
  have hl : lv_has ls 1 [(0, .ref h)] := hl
  refine lv_aload_n hx hb dX3_init_0 rfl (lv_at hl 0 rfl) ?_
  refine W.objInit hx hb hown (hts _ kX3_init_1) (hts _ kX3_init_2) (hts _ (List.mem_of_getElem? (i := 3) rfl)) rfl (by rw [hml]; exact hl.1) rfl dX3_init_1 (Nat.le_of_ble_eq_true rfl) (Nat.le_of_ble_eq_true rfl) ?_
  refine W.eq (g2 := F0 m 4 ls []) rfl ?_
  refine lv_aload_n hx hb dX3_init_4 rfl (lv_at hl 0 rfl) ?_
  refine lv_bipush (v := (17 : Int32)) hx hb dX3_init_5 (by decide) ?_
  refine px_newa (atype := .long) (D := (dC, dI)) (ty := .long) (a0 := (17, .inr (.inl (fun _ => 0)))) (N' := 17) hx hb (hts _ kX3_init_4) rfl hK hP hD hS hA (fun _ => rfl) (by decide) (by decide) (by decide) (Nat.le_of_ble_eq_true rfl) (Nat.le_of_ble_eq_true rfl) dX3_init_7 2 rfl (fun _ _ h => h) (fun q1 H hP hD hS => ?_)
  refine W.cs (cells' := 1) (slots' := 17) rfl rfl ?_
  have hP : va_P (dC, dI) vwCl [(h, .inr (3, [.null])), (q1, .inl (cyJ, 17, .inr (.inl (fun _ => 0))))] H := hP
  have hD : va_D A [(h, .inr (3, [.null])), (q1, .inl (cyJ, 17, .inr (.inl (fun _ => 0))))] := hD
  refine va_putF (D := (dC, dI)) (ci := 3) (v := .ref q1) (ty := (.array .long)) (C := RX3) (T := TX3) (N := 1) hx hb hts fX3_init_X3 tyX3 tyX3_ok nmX3 hown hK hP hD hS 0 rfl rfl 0 (by decide) (hts _ kX3_init_5) (fun _ h9 => h9) rfl hin rfl (tyX3_ok 0 (by decide)) rfl rfl (Nat.le_of_ble_eq_true rfl) dX3_init_9 (fun H locs hP hD hS => ?_)
  have hP : va_P (dC, dI) vwCl [(h, .inr (3, [.ref q1])), (q1, .inl (cyJ, 17, .inr (.inl (fun _ => 0))))] H := hP
  have hD : va_D A [(h, .inr (3, [.ref q1])), (q1, .inl (cyJ, 17, .inr (.inl (fun _ => 0))))] := hD
  have hP9 := hP.sub (ws' := [(h, .inr (3, [.ref q1])), (q1, .inl (cyJ, 17, .inr (.inl (fun _ => 0))))]) [0, 1] rfl
  have hD9 := hD.sub (ws' := [(h, .inr (3, [.ref q1])), (q1, .inl (cyJ, 17, .inr (.inl (fun _ => 0))))]) [0, 1] (by decide) rfl
  exact W.vret hx hb hr (fun t ht hW => hq _ t _ ⟨q1, rfl⟩ (by rw [ht]; exact hP9) hD9 (hS.F ht)) hS.2.2 dX3_init_12
theorem hiX4_init : yX4_init.cls ≠ "java/lang/invoke/MethodHandle" ∧ yX4_init.cls ≠ "java/lang/invoke/VarHandle" ∧ (parseMethodDescriptor yX4_init.desc).map (fun d => d.parameters.length) = some 0 := by decide +kernel
theorem kX4_init_1 : (.methodLink RX4 3 objectInit : Cond) ∈ wsX4_init := List.mem_of_getElem? (i := 1) rfl
theorem kX4_init_2 : (.instanceMethod objectInit : Cond) ∈ wsX4_init := List.mem_of_getElem? (i := 2) rfl
theorem kX4_init_4 : (.arrayClass .int : Cond) ∈ wsX4_init := List.mem_of_getElem? (i := 4) rfl
theorem fX4_init_X4 : ∀ w ∈ u_ws RX4 TX4 1, w ∈ wsX4_init := fun _ h => List.mem_cons_of_mem _ (List.mem_append_right _ h)
theorem kX4_init_5 : (.fieldLink RX4 9 "TagReader$Series" "counts" "[I" : Cond) ∈ wsX4_init := List.mem_of_getElem? (i := 5) rfl
set_option maxHeartbeats 4000000 in
set_option maxRecDepth 100000 in
theorem cmX4_init (l : Launch) (dC : Nat → ClassId) (dI : Nat → Nat → Nat) (cyI cyZ cyJ cyB cyO : ClassId) (sz h : Nat) : Met l yX4_init wsX4_init ({ frames := 1, cells := 1, slots := 4, locals := 24 } : Room) (px_PW (dC, dI) (px_TY cyI cyZ cyJ cyB cyO) [.ref h] [(h, .inr (4, [.null]))] sz) (px_QN (fun w => ∃ q1 : Nat, w = [(h, .inr (4, [.ref q1])), (q1, .inl (cyI, 4, .inl (fun _ => 0)))]) (dC, dI) [(h, .inr (4, [.null]))] sz) 1 4 (va_A [(h, .inr (4, [.null]))] sz) := by
  refine Met.ofW (cc := cX4_init) (maxL := 1) (ret := none) (by decide) rfl ?_
  intro p e s m args below meth c s₁ B hml hv
  obtain ⟨rfl, hsz, hP, hK, hD0, hN⟩ := hv
  have hx := B.exec
  have hb := B.bytes
  have hr := B.returns
  have hts := atoms_spec (ws := wsX4_init) B.pre
  have hown : s.vm.findClass RX4 = some m.cls := findClass_of_methodNamed B.named
  have hlocks := B.notSynchronized
  have hin : meth.name = "<init>" := (name_of_methodNamed B.named B.method).1
  subst hsz
  have hD := hD0.self (sz := s.heap.size)
  have hq := px_QNe (G := (fun w => ∃ q1 : Nat, w = [(h, .inr (4, [.ref q1])), (q1, .inl (cyI, 4, .inl (fun _ => 0)))])) (D := (dC, dI)) (wc := [(h, .inr (4, [.null]))]) (st := s) rfl
  generalize px_QN (fun w => ∃ q1 : Nat, w = [(h, .inr (4, [.ref q1])), (q1, .inl (cyI, 4, .inl (fun _ => 0)))]) (dC, dI) [(h, .inr (4, [.null]))] s.heap.size = Qc at hq ⊢
  generalize hAe : va_A [(h, .inr (4, [.null]))] s.heap.size = A at hD hq ⊢
  have hA : ∀ q : Nat, s.heap.size ≤ q → A q := fun q h => by rw [← hAe]; exact Or.inr h
  have hS : va_S A s.heap s.heap [] := va_S.rf
  have hl := lv_entry [.ref h] (n := 1) (Nat.le_of_ble_eq_true rfl)
  rw [lg_entry_eq]
  generalize (lg_sl [.ref h] ++ List.replicate (1 - (lg_sl [.ref h]).length) Slot.unset).toArray = ls at hl ⊢
  have hl : lv_has ls 1 [(0, .ref h)] := hl
  refine lv_aload_n hx hb dX4_init_0 rfl (lv_at hl 0 rfl) ?_
  refine W.objInit hx hb hown (hts _ kX4_init_1) (hts _ kX4_init_2) (hts _ (List.mem_of_getElem? (i := 3) rfl)) rfl (by rw [hml]; exact hl.1) rfl dX4_init_1 (Nat.le_of_ble_eq_true rfl) (Nat.le_of_ble_eq_true rfl) ?_
  refine W.eq (g2 := F0 m 4 ls []) rfl ?_
  refine lv_aload_n hx hb dX4_init_4 rfl (lv_at hl 0 rfl) ?_
  refine lv_iconst (v := (4 : Int32)) hx hb dX4_init_5 (by decide) ?_
  refine px_newa (atype := .int) (D := (dC, dI)) (ty := .int) (a0 := (4, .inl (fun _ => 0))) (N' := 4) hx hb (hts _ kX4_init_4) rfl hK hP hD hS hA (fun _ => rfl) (by decide) (by decide) (by decide) (Nat.le_of_ble_eq_true rfl) (Nat.le_of_ble_eq_true rfl) dX4_init_6 0 rfl (fun _ _ h => h) (fun q1 H hP hD hS => ?_)
  refine W.cs (cells' := 1) (slots' := 4) rfl rfl ?_
  have hP : va_P (dC, dI) vwCl [(h, .inr (4, [.null])), (q1, .inl (cyI, 4, .inl (fun _ => 0)))] H := hP
  have hD : va_D A [(h, .inr (4, [.null])), (q1, .inl (cyI, 4, .inl (fun _ => 0)))] := hD
  refine va_putF (D := (dC, dI)) (ci := 4) (v := .ref q1) (ty := (.array .int)) (C := RX4) (T := TX4) (N := 1) hx hb hts fX4_init_X4 tyX4 tyX4_ok nmX4 hown hK hP hD hS 0 rfl rfl 0 (by decide) (hts _ kX4_init_5) (fun _ h9 => h9) rfl hin rfl (tyX4_ok 0 (by decide)) rfl rfl (Nat.le_of_ble_eq_true rfl) dX4_init_8 (fun H locs hP hD hS => ?_)
  have hP : va_P (dC, dI) vwCl [(h, .inr (4, [.ref q1])), (q1, .inl (cyI, 4, .inl (fun _ => 0)))] H := hP
  have hD : va_D A [(h, .inr (4, [.ref q1])), (q1, .inl (cyI, 4, .inl (fun _ => 0)))] := hD
  have hP9 := hP.sub (ws' := [(h, .inr (4, [.ref q1])), (q1, .inl (cyI, 4, .inl (fun _ => 0)))]) [0, 1] rfl
  have hD9 := hD.sub (ws' := [(h, .inr (4, [.ref q1])), (q1, .inl (cyI, 4, .inl (fun _ => 0)))]) [0, 1] (by decide) rfl
  exact W.vret hx hb hr (fun t ht hW => hq _ t _ ⟨q1, rfl⟩ (by rw [ht]; exact hP9) hD9 (hS.F ht)) hS.2.2 dX4_init_11
theorem hiX5_init : yX5_init.cls ≠ "java/lang/invoke/MethodHandle" ∧ yX5_init.cls ≠ "java/lang/invoke/VarHandle" ∧ (parseMethodDescriptor yX5_init.desc).map (fun d => d.parameters.length) = some 0 := by decide +kernel
theorem kX5_init_1 : (.methodLink RX5 3 objectInit : Cond) ∈ wsX5_init := List.mem_of_getElem? (i := 1) rfl
theorem kX5_init_2 : (.instanceMethod objectInit : Cond) ∈ wsX5_init := List.mem_of_getElem? (i := 2) rfl
theorem kX5_init_4 : (.arrayClass .int : Cond) ∈ wsX5_init := List.mem_of_getElem? (i := 4) rfl
theorem fX5_init_X5 : ∀ w ∈ u_ws RX5 TX5 3, w ∈ wsX5_init := fun _ h => List.mem_cons_of_mem _ (List.mem_append_right _ h)
theorem kX5_init_5 : (.fieldLink RX5 9 "TagReader$Sheet" "cells" "[I" : Cond) ∈ wsX5_init := List.mem_of_getElem? (i := 5) rfl
theorem kX5_init_6 : (.fieldLink RX5 15 "TagReader$Sheet" "lane" "I" : Cond) ∈ wsX5_init := List.mem_of_getElem? (i := 6) rfl
theorem kX5_init_7 : (.fieldLink RX5 19 "TagReader$Sheet" "size" "I" : Cond) ∈ wsX5_init := List.mem_of_getElem? (i := 7) rfl
set_option maxHeartbeats 4000000 in
set_option maxRecDepth 100000 in
theorem cmX5_init (l : Launch) (dC : Nat → ClassId) (dI : Nat → Nat → Nat) (cyI cyZ cyJ cyB cyO : ClassId) (sz h : Nat) : Met l yX5_init wsX5_init ({ frames := 1, cells := 1, slots := 40, locals := 24 } : Room) (px_PW (dC, dI) (px_TY cyI cyZ cyJ cyB cyO) [.ref h] [(h, .inr (5, [.null, .int 0, .int 0]))] sz) (px_QN (fun w => ∃ q1 : Nat, w = [(h, .inr (5, [.ref q1, .int (0 : Int32), .int (-1 : Int32)])), (q1, .inl (cyI, 40, .inl (fun _ => 0)))]) (dC, dI) [(h, .inr (5, [.null, .int 0, .int 0]))] sz) 1 40 (va_A [(h, .inr (5, [.null, .int 0, .int 0]))] sz) := by
  refine Met.ofW (cc := cX5_init) (maxL := 1) (ret := none) (by decide) rfl ?_
  intro p e s m args below meth c s₁ B hml hv
  obtain ⟨rfl, hsz, hP, hK, hD0, hN⟩ := hv
  have hx := B.exec
  have hb := B.bytes
  have hr := B.returns
  have hts := atoms_spec (ws := wsX5_init) B.pre
  have hown : s.vm.findClass RX5 = some m.cls := findClass_of_methodNamed B.named
  have hlocks := B.notSynchronized
  have hin : meth.name = "<init>" := (name_of_methodNamed B.named B.method).1
  subst hsz
  have hD := hD0.self (sz := s.heap.size)
  have hq := px_QNe (G := (fun w => ∃ q1 : Nat, w = [(h, .inr (5, [.ref q1, .int (0 : Int32), .int (-1 : Int32)])), (q1, .inl (cyI, 40, .inl (fun _ => 0)))])) (D := (dC, dI)) (wc := [(h, .inr (5, [.null, .int 0, .int 0]))]) (st := s) rfl
  generalize px_QN (fun w => ∃ q1 : Nat, w = [(h, .inr (5, [.ref q1, .int (0 : Int32), .int (-1 : Int32)])), (q1, .inl (cyI, 40, .inl (fun _ => 0)))]) (dC, dI) [(h, .inr (5, [.null, .int 0, .int 0]))] s.heap.size = Qc at hq ⊢
  generalize hAe : va_A [(h, .inr (5, [.null, .int 0, .int 0]))] s.heap.size = A at hD hq ⊢
  have hA : ∀ q : Nat, s.heap.size ≤ q → A q := fun q h => by rw [← hAe]; exact Or.inr h
  have hS : va_S A s.heap s.heap [] := va_S.rf
  have hl := lv_entry [.ref h] (n := 1) (Nat.le_of_ble_eq_true rfl)
  rw [lg_entry_eq]
  generalize (lg_sl [.ref h] ++ List.replicate (1 - (lg_sl [.ref h]).length) Slot.unset).toArray = ls at hl ⊢
  have hl : lv_has ls 1 [(0, .ref h)] := hl
  refine lv_aload_n hx hb dX5_init_0 rfl (lv_at hl 0 rfl) ?_
  refine W.objInit hx hb hown (hts _ kX5_init_1) (hts _ kX5_init_2) (hts _ (List.mem_of_getElem? (i := 3) rfl)) rfl (by rw [hml]; exact hl.1) rfl dX5_init_1 (Nat.le_of_ble_eq_true rfl) (Nat.le_of_ble_eq_true rfl) ?_
  refine W.eq (g2 := F0 m 4 ls []) rfl ?_
  refine lv_aload_n hx hb dX5_init_4 rfl (lv_at hl 0 rfl) ?_
  refine lv_bipush (v := (40 : Int32)) hx hb dX5_init_5 (by decide) ?_
  refine px_newa (atype := .int) (D := (dC, dI)) (ty := .int) (a0 := (40, .inl (fun _ => 0))) (N' := 40) hx hb (hts _ kX5_init_4) rfl hK hP hD hS hA (fun _ => rfl) (by decide) (by decide) (by decide) (Nat.le_of_ble_eq_true rfl) (Nat.le_of_ble_eq_true rfl) dX5_init_7 0 rfl (fun _ _ h => h) (fun q1 H hP hD hS => ?_)
  refine W.cs (cells' := 1) (slots' := 40) rfl rfl ?_
  have hP : va_P (dC, dI) vwCl [(h, .inr (5, [.null, .int 0, .int 0])), (q1, .inl (cyI, 40, .inl (fun _ => 0)))] H := hP
  have hD : va_D A [(h, .inr (5, [.null, .int 0, .int 0])), (q1, .inl (cyI, 40, .inl (fun _ => 0)))] := hD
  refine va_putF (D := (dC, dI)) (ci := 5) (v := .ref q1) (ty := (.array .int)) (C := RX5) (T := TX5) (N := 3) hx hb hts fX5_init_X5 tyX5 tyX5_ok nmX5 hown hK hP hD hS 0 rfl rfl 0 (by decide) (hts _ kX5_init_5) (fun _ h9 => h9) rfl hin rfl (tyX5_ok 0 (by decide)) rfl rfl (Nat.le_of_ble_eq_true rfl) dX5_init_9 (fun H locs hP hD hS => ?_)
  have hP : va_P (dC, dI) vwCl [(h, .inr (5, [.ref q1, .int 0, .int 0])), (q1, .inl (cyI, 40, .inl (fun _ => 0)))] H := hP
  have hD : va_D A [(h, .inr (5, [.ref q1, .int 0, .int 0])), (q1, .inl (cyI, 40, .inl (fun _ => 0)))] := hD
  refine lv_aload_n hx hb dX5_init_12 rfl (lv_at hl 0 rfl) ?_
  refine lv_iconst (v := (0 : Int32)) hx hb dX5_init_13 (by decide) ?_
  refine va_put (D := (dC, dI)) (ci := 5) (v := .int (0 : Int32)) (ty := .int) (C := RX5) (T := TX5) (N := 3) hx hb hts fX5_init_X5 tyX5 tyX5_ok nmX5 hown hK hP hD hS 0 rfl rfl 1 (by decide) (hts _ kX5_init_6) (fun _ h9 => h9) rfl (tyX5_ok 1 (by decide)) rfl rfl (Nat.le_of_ble_eq_true rfl) dX5_init_14 (fun H locs hP hD hS => ?_)
  have hP : va_P (dC, dI) vwCl [(h, .inr (5, [.ref q1, .int (0 : Int32), .int 0])), (q1, .inl (cyI, 40, .inl (fun _ => 0)))] H := hP
  have hD : va_D A [(h, .inr (5, [.ref q1, .int (0 : Int32), .int 0])), (q1, .inl (cyI, 40, .inl (fun _ => 0)))] := hD
  refine lv_aload_n hx hb dX5_init_17 rfl (lv_at hl 0 rfl) ?_
  refine lv_iconst (v := (-1 : Int32)) hx hb dX5_init_18 (by decide) ?_
  refine va_put (D := (dC, dI)) (ci := 5) (v := .int (-1 : Int32)) (ty := .int) (C := RX5) (T := TX5) (N := 3) hx hb hts fX5_init_X5 tyX5 tyX5_ok nmX5 hown hK hP hD hS 0 rfl rfl 2 (by decide) (hts _ kX5_init_7) (fun _ h9 => h9) rfl (tyX5_ok 2 (by decide)) rfl rfl (Nat.le_of_ble_eq_true rfl) dX5_init_19 (fun H locs hP hD hS => ?_)
  have hP : va_P (dC, dI) vwCl [(h, .inr (5, [.ref q1, .int (0 : Int32), .int (-1 : Int32)])), (q1, .inl (cyI, 40, .inl (fun _ => 0)))] H := hP
  have hD : va_D A [(h, .inr (5, [.ref q1, .int (0 : Int32), .int (-1 : Int32)])), (q1, .inl (cyI, 40, .inl (fun _ => 0)))] := hD
  have hP9 := hP.sub (ws' := [(h, .inr (5, [.ref q1, .int (0 : Int32), .int (-1 : Int32)])), (q1, .inl (cyI, 40, .inl (fun _ => 0)))]) [0, 1] rfl
  have hD9 := hD.sub (ws' := [(h, .inr (5, [.ref q1, .int (0 : Int32), .int (-1 : Int32)])), (q1, .inl (cyI, 40, .inl (fun _ => 0)))]) [0, 1] (by decide) rfl
  exact W.vret hx hb hr (fun t ht hW => hq _ t _ ⟨q1, rfl⟩ (by rw [ht]; exact hP9) hD9 (hS.F ht)) hS.2.2 dX5_init_22
theorem hiX6_init : yX6_init.cls ≠ "java/lang/invoke/MethodHandle" ∧ yX6_init.cls ≠ "java/lang/invoke/VarHandle" ∧ (parseMethodDescriptor yX6_init.desc).map (fun d => d.parameters.length) = some 0 := by decide +kernel
theorem kX6_init_1 : (.methodLink RX6 3 objectInit : Cond) ∈ wsX6_init := List.mem_of_getElem? (i := 1) rfl
theorem kX6_init_2 : (.instanceMethod objectInit : Cond) ∈ wsX6_init := List.mem_of_getElem? (i := 2) rfl
theorem kX6_init_4 : (.arrayClass .int : Cond) ∈ wsX6_init := List.mem_of_getElem? (i := 4) rfl
theorem fX6_init_X6 : ∀ w ∈ u_ws RX6 TX6 4, w ∈ wsX6_init := fun _ h => List.mem_cons_of_mem _ (List.mem_append_right _ h)
theorem kX6_init_5 : (.fieldLink RX6 9 "TagReader$Tags" "numbers" "[I" : Cond) ∈ wsX6_init := List.mem_of_getElem? (i := 5) rfl
theorem kX6_init_6 : (.fieldLink RX6 15 "TagReader$Tags" "strengths" "[I" : Cond) ∈ wsX6_init := List.mem_of_getElem? (i := 6) rfl
theorem kX6_init_7 : (.arrayClass .boolean : Cond) ∈ wsX6_init := List.mem_of_getElem? (i := 7) rfl
theorem kX6_init_8 : (.fieldLink RX6 18 "TagReader$Tags" "silent" "[Z" : Cond) ∈ wsX6_init := List.mem_of_getElem? (i := 8) rfl
theorem kX6_init_9 : (.fieldLink RX6 22 "TagReader$Tags" "size" "I" : Cond) ∈ wsX6_init := List.mem_of_getElem? (i := 9) rfl
set_option maxHeartbeats 4000000 in
set_option maxRecDepth 100000 in
theorem cmX6_init (l : Launch) (dC : Nat → ClassId) (dI : Nat → Nat → Nat) (cyI cyZ cyJ cyB cyO : ClassId) (sz h : Nat) : Met l yX6_init wsX6_init ({ frames := 1, cells := 3, slots := 48, locals := 24 } : Room) (px_PW (dC, dI) (px_TY cyI cyZ cyJ cyB cyO) [.ref h] [(h, .inr (6, [.null, .null, .null, .int 0]))] sz) (px_QN (fun w => ∃ q1 q2 q3 : Nat, w = [(h, .inr (6, [.ref q1, .ref q2, .ref q3, .int (0 : Int32)])), (q1, .inl (cyI, 16, .inl (fun _ => 0))), (q2, .inl (cyI, 16, .inl (fun _ => 0))), (q3, .inl (cyZ, 16, .inl (fun _ => 0)))]) (dC, dI) [(h, .inr (6, [.null, .null, .null, .int 0]))] sz) 3 48 (va_A [(h, .inr (6, [.null, .null, .null, .int 0]))] sz) := by
  refine Met.ofW (cc := cX6_init) (maxL := 1) (ret := none) (by decide) rfl ?_
  intro p e s m args below meth c s₁ B hml hv
  obtain ⟨rfl, hsz, hP, hK, hD0, hN⟩ := hv
  have hx := B.exec
  have hb := B.bytes
  have hr := B.returns
  have hts := atoms_spec (ws := wsX6_init) B.pre
  have hown : s.vm.findClass RX6 = some m.cls := findClass_of_methodNamed B.named
  have hlocks := B.notSynchronized
  have hin : meth.name = "<init>" := (name_of_methodNamed B.named B.method).1
  subst hsz
  have hD := hD0.self (sz := s.heap.size)
  have hq := px_QNe (G := (fun w => ∃ q1 q2 q3 : Nat, w = [(h, .inr (6, [.ref q1, .ref q2, .ref q3, .int (0 : Int32)])), (q1, .inl (cyI, 16, .inl (fun _ => 0))), (q2, .inl (cyI, 16, .inl (fun _ => 0))), (q3, .inl (cyZ, 16, .inl (fun _ => 0)))])) (D := (dC, dI)) (wc := [(h, .inr (6, [.null, .null, .null, .int 0]))]) (st := s) rfl
  generalize px_QN (fun w => ∃ q1 q2 q3 : Nat, w = [(h, .inr (6, [.ref q1, .ref q2, .ref q3, .int (0 : Int32)])), (q1, .inl (cyI, 16, .inl (fun _ => 0))), (q2, .inl (cyI, 16, .inl (fun _ => 0))), (q3, .inl (cyZ, 16, .inl (fun _ => 0)))]) (dC, dI) [(h, .inr (6, [.null, .null, .null, .int 0]))] s.heap.size = Qc at hq ⊢
  generalize hAe : va_A [(h, .inr (6, [.null, .null, .null, .int 0]))] s.heap.size = A at hD hq ⊢
  have hA : ∀ q : Nat, s.heap.size ≤ q → A q := fun q h => by rw [← hAe]; exact Or.inr h
  have hS : va_S A s.heap s.heap [] := va_S.rf
  have hl := lv_entry [.ref h] (n := 1) (Nat.le_of_ble_eq_true rfl)
  rw [lg_entry_eq]
  generalize (lg_sl [.ref h] ++ List.replicate (1 - (lg_sl [.ref h]).length) Slot.unset).toArray = ls at hl ⊢
  have hl : lv_has ls 1 [(0, .ref h)] := hl
  refine lv_aload_n hx hb dX6_init_0 rfl (lv_at hl 0 rfl) ?_
  refine W.objInit hx hb hown (hts _ kX6_init_1) (hts _ kX6_init_2) (hts _ (List.mem_of_getElem? (i := 3) rfl)) rfl (by rw [hml]; exact hl.1) rfl dX6_init_1 (Nat.le_of_ble_eq_true rfl) (Nat.le_of_ble_eq_true rfl) ?_
  refine W.eq (g2 := F0 m 4 ls []) rfl ?_
  refine lv_aload_n hx hb dX6_init_4 rfl (lv_at hl 0 rfl) ?_
  refine lv_bipush (v := (16 : Int32)) hx hb dX6_init_5 (by decide) ?_
  refine px_newa (atype := .int) (D := (dC, dI)) (ty := .int) (a0 := (16, .inl (fun _ => 0))) (N' := 16) hx hb (hts _ kX6_init_4) rfl hK hP hD hS hA (fun _ => rfl) (by decide) (by decide) (by decide) (Nat.le_of_ble_eq_true rfl) (Nat.le_of_ble_eq_true rfl) dX6_init_7 0 rfl (fun _ _ h => h) (fun q1 H hP hD hS => ?_)
  refine W.cs (cells' := 1) (slots' := 16) rfl rfl ?_
  have hP : va_P (dC, dI) vwCl [(h, .inr (6, [.null, .null, .null, .int 0])), (q1, .inl (cyI, 16, .inl (fun _ => 0)))] H := hP
  have hD : va_D A [(h, .inr (6, [.null, .null, .null, .int 0])), (q1, .inl (cyI, 16, .inl (fun _ => 0)))] := hD
  refine va_putF (D := (dC, dI)) (ci := 6) (v := .ref q1) (ty := (.array .int)) (C := RX6) (T := TX6) (N := 4) hx hb hts fX6_init_X6 tyX6 tyX6_ok nmX6 hown hK hP hD hS 0 rfl rfl 0 (by decide) (hts _ kX6_init_5) (fun _ h9 => h9) rfl hin rfl (tyX6_ok 0 (by decide)) rfl rfl (Nat.le_of_ble_eq_true rfl) dX6_init_9 (fun H locs hP hD hS => ?_)
  have hP : va_P (dC, dI) vwCl [(h, .inr (6, [.ref q1, .null, .null, .int 0])), (q1, .inl (cyI, 16, .inl (fun _ => 0)))] H := hP
  have hD : va_D A [(h, .inr (6, [.ref q1, .null, .null, .int 0])), (q1, .inl (cyI, 16, .inl (fun _ => 0)))] := hD
  refine lv_aload_n hx hb dX6_init_12 rfl (lv_at hl 0 rfl) ?_
  refine lv_bipush (v := (16 : Int32)) hx hb dX6_init_13 (by decide) ?_
  refine px_newa (atype := .int) (D := (dC, dI)) (ty := .int) (a0 := (16, .inl (fun _ => 0))) (N' := 16) hx hb (hts _ kX6_init_4) rfl hK hP hD hS hA (fun _ => rfl) (by decide) (by decide) (by decide) (Nat.le_of_ble_eq_true rfl) (Nat.le_of_ble_eq_true rfl) dX6_init_15 0 rfl (fun _ _ h => h) (fun q2 H hP hD hS => ?_)
  refine W.cs (cells' := 2) (slots' := 32) rfl rfl ?_
  have hP : va_P (dC, dI) vwCl [(h, .inr (6, [.ref q1, .null, .null, .int 0])), (q1, .inl (cyI, 16, .inl (fun _ => 0))), (q2, .inl (cyI, 16, .inl (fun _ => 0)))] H := hP
  have hD : va_D A [(h, .inr (6, [.ref q1, .null, .null, .int 0])), (q1, .inl (cyI, 16, .inl (fun _ => 0))), (q2, .inl (cyI, 16, .inl (fun _ => 0)))] := hD
  refine va_putF (D := (dC, dI)) (ci := 6) (v := .ref q2) (ty := (.array .int)) (C := RX6) (T := TX6) (N := 4) hx hb hts fX6_init_X6 tyX6 tyX6_ok nmX6 hown hK hP hD hS 0 rfl rfl 1 (by decide) (hts _ kX6_init_6) (fun _ h9 => h9) rfl hin rfl (tyX6_ok 1 (by decide)) rfl rfl (Nat.le_of_ble_eq_true rfl) dX6_init_17 (fun H locs hP hD hS => ?_)
  have hP : va_P (dC, dI) vwCl [(h, .inr (6, [.ref q1, .ref q2, .null, .int 0])), (q1, .inl (cyI, 16, .inl (fun _ => 0))), (q2, .inl (cyI, 16, .inl (fun _ => 0)))] H := hP
  have hD : va_D A [(h, .inr (6, [.ref q1, .ref q2, .null, .int 0])), (q1, .inl (cyI, 16, .inl (fun _ => 0))), (q2, .inl (cyI, 16, .inl (fun _ => 0)))] := hD
  refine lv_aload_n hx hb dX6_init_20 rfl (lv_at hl 0 rfl) ?_
  refine lv_bipush (v := (16 : Int32)) hx hb dX6_init_21 (by decide) ?_
  refine px_newa (atype := .boolean) (D := (dC, dI)) (ty := .boolean) (a0 := (16, .inl (fun _ => 0))) (N' := 16) hx hb (hts _ kX6_init_7) rfl hK hP hD hS hA (fun _ => rfl) (by decide) (by decide) (by decide) (Nat.le_of_ble_eq_true rfl) (Nat.le_of_ble_eq_true rfl) dX6_init_23 1 rfl (fun _ _ h => h) (fun q3 H hP hD hS => ?_)
  refine W.cs (cells' := 3) (slots' := 48) rfl rfl ?_
  have hP : va_P (dC, dI) vwCl [(h, .inr (6, [.ref q1, .ref q2, .null, .int 0])), (q1, .inl (cyI, 16, .inl (fun _ => 0))), (q2, .inl (cyI, 16, .inl (fun _ => 0))), (q3, .inl (cyZ, 16, .inl (fun _ => 0)))] H := hP
  have hD : va_D A [(h, .inr (6, [.ref q1, .ref q2, .null, .int 0])), (q1, .inl (cyI, 16, .inl (fun _ => 0))), (q2, .inl (cyI, 16, .inl (fun _ => 0))), (q3, .inl (cyZ, 16, .inl (fun _ => 0)))] := hD
  refine va_putF (D := (dC, dI)) (ci := 6) (v := .ref q3) (ty := (.array .boolean)) (C := RX6) (T := TX6) (N := 4) hx hb hts fX6_init_X6 tyX6 tyX6_ok nmX6 hown hK hP hD hS 0 rfl rfl 2 (by decide) (hts _ kX6_init_8) (fun _ h9 => h9) rfl hin rfl (tyX6_ok 2 (by decide)) rfl rfl (Nat.le_of_ble_eq_true rfl) dX6_init_25 (fun H locs hP hD hS => ?_)
  have hP : va_P (dC, dI) vwCl [(h, .inr (6, [.ref q1, .ref q2, .ref q3, .int 0])), (q1, .inl (cyI, 16, .inl (fun _ => 0))), (q2, .inl (cyI, 16, .inl (fun _ => 0))), (q3, .inl (cyZ, 16, .inl (fun _ => 0)))] H := hP
  have hD : va_D A [(h, .inr (6, [.ref q1, .ref q2, .ref q3, .int 0])), (q1, .inl (cyI, 16, .inl (fun _ => 0))), (q2, .inl (cyI, 16, .inl (fun _ => 0))), (q3, .inl (cyZ, 16, .inl (fun _ => 0)))] := hD
  refine lv_aload_n hx hb dX6_init_28 rfl (lv_at hl 0 rfl) ?_
  refine lv_iconst (v := (0 : Int32)) hx hb dX6_init_29 (by decide) ?_
  refine va_put (D := (dC, dI)) (ci := 6) (v := .int (0 : Int32)) (ty := .int) (C := RX6) (T := TX6) (N := 4) hx hb hts fX6_init_X6 tyX6 tyX6_ok nmX6 hown hK hP hD hS 0 rfl rfl 3 (by decide) (hts _ kX6_init_9) (fun _ h9 => h9) rfl (tyX6_ok 3 (by decide)) rfl rfl (Nat.le_of_ble_eq_true rfl) dX6_init_30 (fun H locs hP hD hS => ?_)
  have hP : va_P (dC, dI) vwCl [(h, .inr (6, [.ref q1, .ref q2, .ref q3, .int (0 : Int32)])), (q1, .inl (cyI, 16, .inl (fun _ => 0))), (q2, .inl (cyI, 16, .inl (fun _ => 0))), (q3, .inl (cyZ, 16, .inl (fun _ => 0)))] H := hP
  have hD : va_D A [(h, .inr (6, [.ref q1, .ref q2, .ref q3, .int (0 : Int32)])), (q1, .inl (cyI, 16, .inl (fun _ => 0))), (q2, .inl (cyI, 16, .inl (fun _ => 0))), (q3, .inl (cyZ, 16, .inl (fun _ => 0)))] := hD
  have hP9 := hP.sub (ws' := [(h, .inr (6, [.ref q1, .ref q2, .ref q3, .int (0 : Int32)])), (q1, .inl (cyI, 16, .inl (fun _ => 0))), (q2, .inl (cyI, 16, .inl (fun _ => 0))), (q3, .inl (cyZ, 16, .inl (fun _ => 0)))]) [0, 1, 2, 3] rfl
  have hD9 := hD.sub (ws' := [(h, .inr (6, [.ref q1, .ref q2, .ref q3, .int (0 : Int32)])), (q1, .inl (cyI, 16, .inl (fun _ => 0))), (q2, .inl (cyI, 16, .inl (fun _ => 0))), (q3, .inl (cyZ, 16, .inl (fun _ => 0)))]) [0, 1, 2, 3] (by decide) rfl
  exact W.vret hx hb hr (fun t ht hW => hq _ t _ ⟨q1, q2, q3, rfl⟩ (by rw [ht]; exact hP9) hD9 (hS.F ht)) hS.2.2 dX6_init_33
theorem hiX7_init : yX7_init.cls ≠ "java/lang/invoke/MethodHandle" ∧ yX7_init.cls ≠ "java/lang/invoke/VarHandle" ∧ (parseMethodDescriptor yX7_init.desc).map (fun d => d.parameters.length) = some 0 := by decide +kernel
theorem kX7_init_1 : (.methodLink RX7 3 objectInit : Cond) ∈ wsX7_init := List.mem_of_getElem? (i := 1) rfl
theorem kX7_init_2 : (.instanceMethod objectInit : Cond) ∈ wsX7_init := List.mem_of_getElem? (i := 2) rfl
theorem kX7_init_4 : (.arrayClass .byte : Cond) ∈ wsX7_init := List.mem_of_getElem? (i := 4) rfl
theorem fX7_init_X7 : ∀ w ∈ u_ws RX7 TX7 6, w ∈ wsX7_init := fun _ h => List.mem_cons_of_mem _ (List.mem_append_right _ h)
theorem kX7_init_5 : (.fieldLink RX7 9 "TagReader$Tape" "bytes" "[B" : Cond) ∈ wsX7_init := List.mem_of_getElem? (i := 5) rfl
theorem kX7_init_6 : (.fieldLink RX7 15 "TagReader$Tape" "length" "I" : Cond) ∈ wsX7_init := List.mem_of_getElem? (i := 6) rfl
theorem kX7_init_7 : (.fieldLink RX7 19 "TagReader$Tape" "kind" "I" : Cond) ∈ wsX7_init := List.mem_of_getElem? (i := 7) rfl
theorem kX7_init_8 : (.fieldLink RX7 22 "TagReader$Tape" "start" "I" : Cond) ∈ wsX7_init := List.mem_of_getElem? (i := 8) rfl
theorem kX7_init_9 : (.fieldLink RX7 25 "TagReader$Tape" "value" "I" : Cond) ∈ wsX7_init := List.mem_of_getElem? (i := 9) rfl
theorem kX7_init_10 : (.fieldLink RX7 28 "TagReader$Tape" "place" "I" : Cond) ∈ wsX7_init := List.mem_of_getElem? (i := 10) rfl
set_option maxHeartbeats 4000000 in
set_option maxRecDepth 100000 in
theorem cmX7_init (l : Launch) (dC : Nat → ClassId) (dI : Nat → Nat → Nat) (cyI cyZ cyJ cyB cyO : ClassId) (sz h : Nat) : Met l yX7_init wsX7_init ({ frames := 1, cells := 1, slots := 200, locals := 24 } : Room) (px_PW (dC, dI) (px_TY cyI cyZ cyJ cyB cyO) [.ref h] [(h, .inr (7, [.null, .int 0, .int 0, .int 0, .int 0, .int 0]))] sz) (px_QN (fun w => ∃ q1 : Nat, w = [(h, .inr (7, [.ref q1, .int (0 : Int32), .int (0 : Int32), .int (0 : Int32), .int (0 : Int32), .int (0 : Int32)])), (q1, .inl (cyB, 200, .inl (fun _ => 0)))]) (dC, dI) [(h, .inr (7, [.null, .int 0, .int 0, .int 0, .int 0, .int 0]))] sz) 1 200 (va_A [(h, .inr (7, [.null, .int 0, .int 0, .int 0, .int 0, .int 0]))] sz) := by
  refine Met.ofW (cc := cX7_init) (maxL := 1) (ret := none) (by decide) rfl ?_
  intro p e s m args below meth c s₁ B hml hv
  obtain ⟨rfl, hsz, hP, hK, hD0, hN⟩ := hv
  have hx := B.exec
  have hb := B.bytes
  have hr := B.returns
  have hts := atoms_spec (ws := wsX7_init) B.pre
  have hown : s.vm.findClass RX7 = some m.cls := findClass_of_methodNamed B.named
  have hlocks := B.notSynchronized
  have hin : meth.name = "<init>" := (name_of_methodNamed B.named B.method).1
  subst hsz
  have hD := hD0.self (sz := s.heap.size)
  have hq := px_QNe (G := (fun w => ∃ q1 : Nat, w = [(h, .inr (7, [.ref q1, .int (0 : Int32), .int (0 : Int32), .int (0 : Int32), .int (0 : Int32), .int (0 : Int32)])), (q1, .inl (cyB, 200, .inl (fun _ => 0)))])) (D := (dC, dI)) (wc := [(h, .inr (7, [.null, .int 0, .int 0, .int 0, .int 0, .int 0]))]) (st := s) rfl
  generalize px_QN (fun w => ∃ q1 : Nat, w = [(h, .inr (7, [.ref q1, .int (0 : Int32), .int (0 : Int32), .int (0 : Int32), .int (0 : Int32), .int (0 : Int32)])), (q1, .inl (cyB, 200, .inl (fun _ => 0)))]) (dC, dI) [(h, .inr (7, [.null, .int 0, .int 0, .int 0, .int 0, .int 0]))] s.heap.size = Qc at hq ⊢
  generalize hAe : va_A [(h, .inr (7, [.null, .int 0, .int 0, .int 0, .int 0, .int 0]))] s.heap.size = A at hD hq ⊢
  have hA : ∀ q : Nat, s.heap.size ≤ q → A q := fun q h => by rw [← hAe]; exact Or.inr h
  have hS : va_S A s.heap s.heap [] := va_S.rf
  have hl := lv_entry [.ref h] (n := 1) (Nat.le_of_ble_eq_true rfl)
  rw [lg_entry_eq]
  generalize (lg_sl [.ref h] ++ List.replicate (1 - (lg_sl [.ref h]).length) Slot.unset).toArray = ls at hl ⊢
  have hl : lv_has ls 1 [(0, .ref h)] := hl
  refine lv_aload_n hx hb dX7_init_0 rfl (lv_at hl 0 rfl) ?_
  refine W.objInit hx hb hown (hts _ kX7_init_1) (hts _ kX7_init_2) (hts _ (List.mem_of_getElem? (i := 3) rfl)) rfl (by rw [hml]; exact hl.1) rfl dX7_init_1 (Nat.le_of_ble_eq_true rfl) (Nat.le_of_ble_eq_true rfl) ?_
  refine W.eq (g2 := F0 m 4 ls []) rfl ?_
  refine lv_aload_n hx hb dX7_init_4 rfl (lv_at hl 0 rfl) ?_
  refine lv_sipush (v := (200 : Int32)) hx hb dX7_init_5 (by decide) ?_
  refine px_newa (atype := .byte) (D := (dC, dI)) (ty := .byte) (a0 := (200, .inl (fun _ => 0))) (N' := 200) hx hb (hts _ kX7_init_4) rfl hK hP hD hS hA (fun _ => rfl) (by decide) (by decide) (by decide) (Nat.le_of_ble_eq_true rfl) (Nat.le_of_ble_eq_true rfl) dX7_init_8 3 rfl (fun _ _ h => h) (fun q1 H hP hD hS => ?_)
  refine W.cs (cells' := 1) (slots' := 200) rfl rfl ?_
  have hP : va_P (dC, dI) vwCl [(h, .inr (7, [.null, .int 0, .int 0, .int 0, .int 0, .int 0])), (q1, .inl (cyB, 200, .inl (fun _ => 0)))] H := hP
  have hD : va_D A [(h, .inr (7, [.null, .int 0, .int 0, .int 0, .int 0, .int 0])), (q1, .inl (cyB, 200, .inl (fun _ => 0)))] := hD
  refine va_putF (D := (dC, dI)) (ci := 7) (v := .ref q1) (ty := (.array .byte)) (C := RX7) (T := TX7) (N := 6) hx hb hts fX7_init_X7 tyX7 tyX7_ok nmX7 hown hK hP hD hS 0 rfl rfl 0 (by decide) (hts _ kX7_init_5) (fun _ h9 => h9) rfl hin rfl (tyX7_ok 0 (by decide)) rfl rfl (Nat.le_of_ble_eq_true rfl) dX7_init_10 (fun H locs hP hD hS => ?_)
  have hP : va_P (dC, dI) vwCl [(h, .inr (7, [.ref q1, .int 0, .int 0, .int 0, .int 0, .int 0])), (q1, .inl (cyB, 200, .inl (fun _ => 0)))] H := hP
  have hD : va_D A [(h, .inr (7, [.ref q1, .int 0, .int 0, .int 0, .int 0, .int 0])), (q1, .inl (cyB, 200, .inl (fun _ => 0)))] := hD
  refine lv_aload_n hx hb dX7_init_13 rfl (lv_at hl 0 rfl) ?_
  refine lv_iconst (v := (0 : Int32)) hx hb dX7_init_14 (by decide) ?_
  refine va_put (D := (dC, dI)) (ci := 7) (v := .int (0 : Int32)) (ty := .int) (C := RX7) (T := TX7) (N := 6) hx hb hts fX7_init_X7 tyX7 tyX7_ok nmX7 hown hK hP hD hS 0 rfl rfl 1 (by decide) (hts _ kX7_init_6) (fun _ h9 => h9) rfl (tyX7_ok 1 (by decide)) rfl rfl (Nat.le_of_ble_eq_true rfl) dX7_init_15 (fun H locs hP hD hS => ?_)
  have hP : va_P (dC, dI) vwCl [(h, .inr (7, [.ref q1, .int (0 : Int32), .int 0, .int 0, .int 0, .int 0])), (q1, .inl (cyB, 200, .inl (fun _ => 0)))] H := hP
  have hD : va_D A [(h, .inr (7, [.ref q1, .int (0 : Int32), .int 0, .int 0, .int 0, .int 0])), (q1, .inl (cyB, 200, .inl (fun _ => 0)))] := hD
  refine lv_aload_n hx hb dX7_init_18 rfl (lv_at hl 0 rfl) ?_
  refine lv_iconst (v := (0 : Int32)) hx hb dX7_init_19 (by decide) ?_
  refine va_put (D := (dC, dI)) (ci := 7) (v := .int (0 : Int32)) (ty := .int) (C := RX7) (T := TX7) (N := 6) hx hb hts fX7_init_X7 tyX7 tyX7_ok nmX7 hown hK hP hD hS 0 rfl rfl 2 (by decide) (hts _ kX7_init_7) (fun _ h9 => h9) rfl (tyX7_ok 2 (by decide)) rfl rfl (Nat.le_of_ble_eq_true rfl) dX7_init_20 (fun H locs hP hD hS => ?_)
  have hP : va_P (dC, dI) vwCl [(h, .inr (7, [.ref q1, .int (0 : Int32), .int (0 : Int32), .int 0, .int 0, .int 0])), (q1, .inl (cyB, 200, .inl (fun _ => 0)))] H := hP
  have hD : va_D A [(h, .inr (7, [.ref q1, .int (0 : Int32), .int (0 : Int32), .int 0, .int 0, .int 0])), (q1, .inl (cyB, 200, .inl (fun _ => 0)))] := hD
  refine lv_aload_n hx hb dX7_init_23 rfl (lv_at hl 0 rfl) ?_
  refine lv_iconst (v := (0 : Int32)) hx hb dX7_init_24 (by decide) ?_
  refine va_put (D := (dC, dI)) (ci := 7) (v := .int (0 : Int32)) (ty := .int) (C := RX7) (T := TX7) (N := 6) hx hb hts fX7_init_X7 tyX7 tyX7_ok nmX7 hown hK hP hD hS 0 rfl rfl 3 (by decide) (hts _ kX7_init_8) (fun _ h9 => h9) rfl (tyX7_ok 3 (by decide)) rfl rfl (Nat.le_of_ble_eq_true rfl) dX7_init_25 (fun H locs hP hD hS => ?_)
  have hP : va_P (dC, dI) vwCl [(h, .inr (7, [.ref q1, .int (0 : Int32), .int (0 : Int32), .int (0 : Int32), .int 0, .int 0])), (q1, .inl (cyB, 200, .inl (fun _ => 0)))] H := hP
  have hD : va_D A [(h, .inr (7, [.ref q1, .int (0 : Int32), .int (0 : Int32), .int (0 : Int32), .int 0, .int 0])), (q1, .inl (cyB, 200, .inl (fun _ => 0)))] := hD
  refine lv_aload_n hx hb dX7_init_28 rfl (lv_at hl 0 rfl) ?_
  refine lv_iconst (v := (0 : Int32)) hx hb dX7_init_29 (by decide) ?_
  refine va_put (D := (dC, dI)) (ci := 7) (v := .int (0 : Int32)) (ty := .int) (C := RX7) (T := TX7) (N := 6) hx hb hts fX7_init_X7 tyX7 tyX7_ok nmX7 hown hK hP hD hS 0 rfl rfl 4 (by decide) (hts _ kX7_init_9) (fun _ h9 => h9) rfl (tyX7_ok 4 (by decide)) rfl rfl (Nat.le_of_ble_eq_true rfl) dX7_init_30 (fun H locs hP hD hS => ?_)
  have hP : va_P (dC, dI) vwCl [(h, .inr (7, [.ref q1, .int (0 : Int32), .int (0 : Int32), .int (0 : Int32), .int (0 : Int32), .int 0])), (q1, .inl (cyB, 200, .inl (fun _ => 0)))] H := hP
  have hD : va_D A [(h, .inr (7, [.ref q1, .int (0 : Int32), .int (0 : Int32), .int (0 : Int32), .int (0 : Int32), .int 0])), (q1, .inl (cyB, 200, .inl (fun _ => 0)))] := hD
  refine lv_aload_n hx hb dX7_init_33 rfl (lv_at hl 0 rfl) ?_
  refine lv_iconst (v := (0 : Int32)) hx hb dX7_init_34 (by decide) ?_
  refine va_put (D := (dC, dI)) (ci := 7) (v := .int (0 : Int32)) (ty := .int) (C := RX7) (T := TX7) (N := 6) hx hb hts fX7_init_X7 tyX7 tyX7_ok nmX7 hown hK hP hD hS 0 rfl rfl 5 (by decide) (hts _ kX7_init_10) (fun _ h9 => h9) rfl (tyX7_ok 5 (by decide)) rfl rfl (Nat.le_of_ble_eq_true rfl) dX7_init_35 (fun H locs hP hD hS => ?_)
  have hP : va_P (dC, dI) vwCl [(h, .inr (7, [.ref q1, .int (0 : Int32), .int (0 : Int32), .int (0 : Int32), .int (0 : Int32), .int (0 : Int32)])), (q1, .inl (cyB, 200, .inl (fun _ => 0)))] H := hP
  have hD : va_D A [(h, .inr (7, [.ref q1, .int (0 : Int32), .int (0 : Int32), .int (0 : Int32), .int (0 : Int32), .int (0 : Int32)])), (q1, .inl (cyB, 200, .inl (fun _ => 0)))] := hD
  have hP9 := hP.sub (ws' := [(h, .inr (7, [.ref q1, .int (0 : Int32), .int (0 : Int32), .int (0 : Int32), .int (0 : Int32), .int (0 : Int32)])), (q1, .inl (cyB, 200, .inl (fun _ => 0)))]) [0, 1] rfl
  have hD9 := hD.sub (ws' := [(h, .inr (7, [.ref q1, .int (0 : Int32), .int (0 : Int32), .int (0 : Int32), .int (0 : Int32), .int (0 : Int32)])), (q1, .inl (cyB, 200, .inl (fun _ => 0)))]) [0, 1] (by decide) rfl
  exact W.vret hx hb hr (fun t ht hW => hq _ t _ ⟨q1, rfl⟩ (by rw [ht]; exact hP9) hD9 (hS.F ht)) hS.2.2 dX7_init_38
theorem hiX9_init : yX9_init.cls ≠ "java/lang/invoke/MethodHandle" ∧ yX9_init.cls ≠ "java/lang/invoke/VarHandle" ∧ (parseMethodDescriptor yX9_init.desc).map (fun d => d.parameters.length) = some 0 := by decide +kernel
theorem kX9_init_1 : (.methodLink RX9 3 objectInit : Cond) ∈ wsX9_init := List.mem_of_getElem? (i := 1) rfl
theorem kX9_init_2 : (.instanceMethod objectInit : Cond) ∈ wsX9_init := List.mem_of_getElem? (i := 2) rfl
theorem kX9_init_4 : (.arrayClass .int : Cond) ∈ wsX9_init := List.mem_of_getElem? (i := 4) rfl
theorem fX9_init_X9 : ∀ w ∈ u_ws RX9 TX9 7, w ∈ wsX9_init := fun _ h => List.mem_cons_of_mem _ (List.mem_append_right _ h)
theorem kX9_init_5 : (.fieldLink RX9 9 "TagReader$Tree" "counts" "[I" : Cond) ∈ wsX9_init := List.mem_of_getElem? (i := 5) rfl
theorem kX9_init_6 : (.fieldLink RX9 15 "TagReader$Tree" "askedBits" "[I" : Cond) ∈ wsX9_init := List.mem_of_getElem? (i := 6) rfl
theorem kX9_init_7 : (.fieldLink RX9 18 "TagReader$Tree" "askedBeginnings" "[I" : Cond) ∈ wsX9_init := List.mem_of_getElem? (i := 7) rfl
theorem kX9_init_8 : (.fieldLink RX9 21 "TagReader$Tree" "kept" "I" : Cond) ∈ wsX9_init := List.mem_of_getElem? (i := 8) rfl
theorem kX9_init_9 : (.fieldLink RX9 25 "TagReader$Tree" "waitingBits" "[I" : Cond) ∈ wsX9_init := List.mem_of_getElem? (i := 9) rfl
theorem kX9_init_10 : (.fieldLink RX9 28 "TagReader$Tree" "waitingBeginnings" "[I" : Cond) ∈ wsX9_init := List.mem_of_getElem? (i := 10) rfl
theorem kX9_init_11 : (.fieldLink RX9 31 "TagReader$Tree" "waiting" "I" : Cond) ∈ wsX9_init := List.mem_of_getElem? (i := 11) rfl
set_option maxHeartbeats 4000000 in
set_option maxRecDepth 100000 in
theorem cmX9_init (l : Launch) (dC : Nat → ClassId) (dI : Nat → Nat → Nat) (cyI cyZ cyJ cyB cyO : ClassId) (sz h : Nat) : Met l yX9_init wsX9_init ({ frames := 1, cells := 5, slots := 161, locals := 24 } : Room) (px_PW (dC, dI) (px_TY cyI cyZ cyJ cyB cyO) [.ref h] [(h, .inr (9, [.null, .null, .null, .int 0, .null, .null, .int 0]))] sz) (px_QN (fun w => ∃ q1 q2 q3 q4 q5 : Nat, w = [(h, .inr (9, [.ref q1, .ref q2, .ref q3, .int (0 : Int32), .ref q4, .ref q5, .int (0 : Int32)])), (q1, .inl (cyI, 5, .inl (fun _ => 0))), (q2, .inl (cyI, 64, .inl (fun _ => 0))), (q3, .inl (cyI, 64, .inl (fun _ => 0))), (q4, .inl (cyI, 14, .inl (fun _ => 0))), (q5, .inl (cyI, 14, .inl (fun _ => 0)))]) (dC, dI) [(h, .inr (9, [.null, .null, .null, .int 0, .null, .null, .int 0]))] sz) 5 161 (va_A [(h, .inr (9, [.null, .null, .null, .int 0, .null, .null, .int 0]))] sz) := by
  refine Met.ofW (cc := cX9_init) (maxL := 1) (ret := none) (by decide) rfl ?_
  intro p e s m args below meth c s₁ B hml hv
  obtain ⟨rfl, hsz, hP, hK, hD0, hN⟩ := hv
  have hx := B.exec
  have hb := B.bytes
  have hr := B.returns
  have hts := atoms_spec (ws := wsX9_init) B.pre
  have hown : s.vm.findClass RX9 = some m.cls := findClass_of_methodNamed B.named
  have hlocks := B.notSynchronized
  have hin : meth.name = "<init>" := (name_of_methodNamed B.named B.method).1
  subst hsz
  have hD := hD0.self (sz := s.heap.size)
  have hq := px_QNe (G := (fun w => ∃ q1 q2 q3 q4 q5 : Nat, w = [(h, .inr (9, [.ref q1, .ref q2, .ref q3, .int (0 : Int32), .ref q4, .ref q5, .int (0 : Int32)])), (q1, .inl (cyI, 5, .inl (fun _ => 0))), (q2, .inl (cyI, 64, .inl (fun _ => 0))), (q3, .inl (cyI, 64, .inl (fun _ => 0))), (q4, .inl (cyI, 14, .inl (fun _ => 0))), (q5, .inl (cyI, 14, .inl (fun _ => 0)))])) (D := (dC, dI)) (wc := [(h, .inr (9, [.null, .null, .null, .int 0, .null, .null, .int 0]))]) (st := s) rfl
  generalize px_QN (fun w => ∃ q1 q2 q3 q4 q5 : Nat, w = [(h, .inr (9, [.ref q1, .ref q2, .ref q3, .int (0 : Int32), .ref q4, .ref q5, .int (0 : Int32)])), (q1, .inl (cyI, 5, .inl (fun _ => 0))), (q2, .inl (cyI, 64, .inl (fun _ => 0))), (q3, .inl (cyI, 64, .inl (fun _ => 0))), (q4, .inl (cyI, 14, .inl (fun _ => 0))), (q5, .inl (cyI, 14, .inl (fun _ => 0)))]) (dC, dI) [(h, .inr (9, [.null, .null, .null, .int 0, .null, .null, .int 0]))] s.heap.size = Qc at hq ⊢
  generalize hAe : va_A [(h, .inr (9, [.null, .null, .null, .int 0, .null, .null, .int 0]))] s.heap.size = A at hD hq ⊢
  have hA : ∀ q : Nat, s.heap.size ≤ q → A q := fun q h => by rw [← hAe]; exact Or.inr h
  have hS : va_S A s.heap s.heap [] := va_S.rf
  have hl := lv_entry [.ref h] (n := 1) (Nat.le_of_ble_eq_true rfl)
  rw [lg_entry_eq]
  generalize (lg_sl [.ref h] ++ List.replicate (1 - (lg_sl [.ref h]).length) Slot.unset).toArray = ls at hl ⊢
  have hl : lv_has ls 1 [(0, .ref h)] := hl
  refine lv_aload_n hx hb dX9_init_0 rfl (lv_at hl 0 rfl) ?_
  refine W.objInit hx hb hown (hts _ kX9_init_1) (hts _ kX9_init_2) (hts _ (List.mem_of_getElem? (i := 3) rfl)) rfl (by rw [hml]; exact hl.1) rfl dX9_init_1 (Nat.le_of_ble_eq_true rfl) (Nat.le_of_ble_eq_true rfl) ?_
  refine W.eq (g2 := F0 m 4 ls []) rfl ?_
  refine lv_aload_n hx hb dX9_init_4 rfl (lv_at hl 0 rfl) ?_
  refine lv_iconst (v := (5 : Int32)) hx hb dX9_init_5 (by decide) ?_
  refine px_newa (atype := .int) (D := (dC, dI)) (ty := .int) (a0 := (5, .inl (fun _ => 0))) (N' := 5) hx hb (hts _ kX9_init_4) rfl hK hP hD hS hA (fun _ => rfl) (by decide) (by decide) (by decide) (Nat.le_of_ble_eq_true rfl) (Nat.le_of_ble_eq_true rfl) dX9_init_6 0 rfl (fun _ _ h => h) (fun q1 H hP hD hS => ?_)
  refine W.cs (cells' := 1) (slots' := 5) rfl rfl ?_
  have hP : va_P (dC, dI) vwCl [(h, .inr (9, [.null, .null, .null, .int 0, .null, .null, .int 0])), (q1, .inl (cyI, 5, .inl (fun _ => 0)))] H := hP
  have hD : va_D A [(h, .inr (9, [.null, .null, .null, .int 0, .null, .null, .int 0])), (q1, .inl (cyI, 5, .inl (fun _ => 0)))] := hD
  refine va_putF (D := (dC, dI)) (ci := 9) (v := .ref q1) (ty := (.array .int)) (C := RX9) (T := TX9) (N := 7) hx hb hts fX9_init_X9 tyX9 tyX9_ok nmX9 hown hK hP hD hS 0 rfl rfl 0 (by decide) (hts _ kX9_init_5) (fun _ h9 => h9) rfl hin rfl (tyX9_ok 0 (by decide)) rfl rfl (Nat.le_of_ble_eq_true rfl) dX9_init_8 (fun H locs hP hD hS => ?_)
  have hP : va_P (dC, dI) vwCl [(h, .inr (9, [.ref q1, .null, .null, .int 0, .null, .null, .int 0])), (q1, .inl (cyI, 5, .inl (fun _ => 0)))] H := hP
  have hD : va_D A [(h, .inr (9, [.ref q1, .null, .null, .int 0, .null, .null, .int 0])), (q1, .inl (cyI, 5, .inl (fun _ => 0)))] := hD
  refine lv_aload_n hx hb dX9_init_11 rfl (lv_at hl 0 rfl) ?_
  refine lv_bipush (v := (64 : Int32)) hx hb dX9_init_12 (by decide) ?_
  refine px_newa (atype := .int) (D := (dC, dI)) (ty := .int) (a0 := (64, .inl (fun _ => 0))) (N' := 64) hx hb (hts _ kX9_init_4) rfl hK hP hD hS hA (fun _ => rfl) (by decide) (by decide) (by decide) (Nat.le_of_ble_eq_true rfl) (Nat.le_of_ble_eq_true rfl) dX9_init_14 0 rfl (fun _ _ h => h) (fun q2 H hP hD hS => ?_)
  refine W.cs (cells' := 2) (slots' := 69) rfl rfl ?_
  have hP : va_P (dC, dI) vwCl [(h, .inr (9, [.ref q1, .null, .null, .int 0, .null, .null, .int 0])), (q1, .inl (cyI, 5, .inl (fun _ => 0))), (q2, .inl (cyI, 64, .inl (fun _ => 0)))] H := hP
  have hD : va_D A [(h, .inr (9, [.ref q1, .null, .null, .int 0, .null, .null, .int 0])), (q1, .inl (cyI, 5, .inl (fun _ => 0))), (q2, .inl (cyI, 64, .inl (fun _ => 0)))] := hD
  refine va_putF (D := (dC, dI)) (ci := 9) (v := .ref q2) (ty := (.array .int)) (C := RX9) (T := TX9) (N := 7) hx hb hts fX9_init_X9 tyX9 tyX9_ok nmX9 hown hK hP hD hS 0 rfl rfl 1 (by decide) (hts _ kX9_init_6) (fun _ h9 => h9) rfl hin rfl (tyX9_ok 1 (by decide)) rfl rfl (Nat.le_of_ble_eq_true rfl) dX9_init_16 (fun H locs hP hD hS => ?_)
  have hP : va_P (dC, dI) vwCl [(h, .inr (9, [.ref q1, .ref q2, .null, .int 0, .null, .null, .int 0])), (q1, .inl (cyI, 5, .inl (fun _ => 0))), (q2, .inl (cyI, 64, .inl (fun _ => 0)))] H := hP
  have hD : va_D A [(h, .inr (9, [.ref q1, .ref q2, .null, .int 0, .null, .null, .int 0])), (q1, .inl (cyI, 5, .inl (fun _ => 0))), (q2, .inl (cyI, 64, .inl (fun _ => 0)))] := hD
  refine lv_aload_n hx hb dX9_init_19 rfl (lv_at hl 0 rfl) ?_
  refine lv_bipush (v := (64 : Int32)) hx hb dX9_init_20 (by decide) ?_
  refine px_newa (atype := .int) (D := (dC, dI)) (ty := .int) (a0 := (64, .inl (fun _ => 0))) (N' := 64) hx hb (hts _ kX9_init_4) rfl hK hP hD hS hA (fun _ => rfl) (by decide) (by decide) (by decide) (Nat.le_of_ble_eq_true rfl) (Nat.le_of_ble_eq_true rfl) dX9_init_22 0 rfl (fun _ _ h => h) (fun q3 H hP hD hS => ?_)
  refine W.cs (cells' := 3) (slots' := 133) rfl rfl ?_
  have hP : va_P (dC, dI) vwCl [(h, .inr (9, [.ref q1, .ref q2, .null, .int 0, .null, .null, .int 0])), (q1, .inl (cyI, 5, .inl (fun _ => 0))), (q2, .inl (cyI, 64, .inl (fun _ => 0))), (q3, .inl (cyI, 64, .inl (fun _ => 0)))] H := hP
  have hD : va_D A [(h, .inr (9, [.ref q1, .ref q2, .null, .int 0, .null, .null, .int 0])), (q1, .inl (cyI, 5, .inl (fun _ => 0))), (q2, .inl (cyI, 64, .inl (fun _ => 0))), (q3, .inl (cyI, 64, .inl (fun _ => 0)))] := hD
  refine va_putF (D := (dC, dI)) (ci := 9) (v := .ref q3) (ty := (.array .int)) (C := RX9) (T := TX9) (N := 7) hx hb hts fX9_init_X9 tyX9 tyX9_ok nmX9 hown hK hP hD hS 0 rfl rfl 2 (by decide) (hts _ kX9_init_7) (fun _ h9 => h9) rfl hin rfl (tyX9_ok 2 (by decide)) rfl rfl (Nat.le_of_ble_eq_true rfl) dX9_init_24 (fun H locs hP hD hS => ?_)
  have hP : va_P (dC, dI) vwCl [(h, .inr (9, [.ref q1, .ref q2, .ref q3, .int 0, .null, .null, .int 0])), (q1, .inl (cyI, 5, .inl (fun _ => 0))), (q2, .inl (cyI, 64, .inl (fun _ => 0))), (q3, .inl (cyI, 64, .inl (fun _ => 0)))] H := hP
  have hD : va_D A [(h, .inr (9, [.ref q1, .ref q2, .ref q3, .int 0, .null, .null, .int 0])), (q1, .inl (cyI, 5, .inl (fun _ => 0))), (q2, .inl (cyI, 64, .inl (fun _ => 0))), (q3, .inl (cyI, 64, .inl (fun _ => 0)))] := hD
  refine lv_aload_n hx hb dX9_init_27 rfl (lv_at hl 0 rfl) ?_
  refine lv_iconst (v := (0 : Int32)) hx hb dX9_init_28 (by decide) ?_
  refine va_put (D := (dC, dI)) (ci := 9) (v := .int (0 : Int32)) (ty := .int) (C := RX9) (T := TX9) (N := 7) hx hb hts fX9_init_X9 tyX9 tyX9_ok nmX9 hown hK hP hD hS 0 rfl rfl 3 (by decide) (hts _ kX9_init_8) (fun _ h9 => h9) rfl (tyX9_ok 3 (by decide)) rfl rfl (Nat.le_of_ble_eq_true rfl) dX9_init_29 (fun H locs hP hD hS => ?_)
  have hP : va_P (dC, dI) vwCl [(h, .inr (9, [.ref q1, .ref q2, .ref q3, .int (0 : Int32), .null, .null, .int 0])), (q1, .inl (cyI, 5, .inl (fun _ => 0))), (q2, .inl (cyI, 64, .inl (fun _ => 0))), (q3, .inl (cyI, 64, .inl (fun _ => 0)))] H := hP
  have hD : va_D A [(h, .inr (9, [.ref q1, .ref q2, .ref q3, .int (0 : Int32), .null, .null, .int 0])), (q1, .inl (cyI, 5, .inl (fun _ => 0))), (q2, .inl (cyI, 64, .inl (fun _ => 0))), (q3, .inl (cyI, 64, .inl (fun _ => 0)))] := hD
  refine lv_aload_n hx hb dX9_init_32 rfl (lv_at hl 0 rfl) ?_
  refine lv_bipush (v := (14 : Int32)) hx hb dX9_init_33 (by decide) ?_
  refine px_newa (atype := .int) (D := (dC, dI)) (ty := .int) (a0 := (14, .inl (fun _ => 0))) (N' := 14) hx hb (hts _ kX9_init_4) rfl hK hP hD hS hA (fun _ => rfl) (by decide) (by decide) (by decide) (Nat.le_of_ble_eq_true rfl) (Nat.le_of_ble_eq_true rfl) dX9_init_35 0 rfl (fun _ _ h => h) (fun q4 H hP hD hS => ?_)
  refine W.cs (cells' := 4) (slots' := 147) rfl rfl ?_
  have hP : va_P (dC, dI) vwCl [(h, .inr (9, [.ref q1, .ref q2, .ref q3, .int (0 : Int32), .null, .null, .int 0])), (q1, .inl (cyI, 5, .inl (fun _ => 0))), (q2, .inl (cyI, 64, .inl (fun _ => 0))), (q3, .inl (cyI, 64, .inl (fun _ => 0))), (q4, .inl (cyI, 14, .inl (fun _ => 0)))] H := hP
  have hD : va_D A [(h, .inr (9, [.ref q1, .ref q2, .ref q3, .int (0 : Int32), .null, .null, .int 0])), (q1, .inl (cyI, 5, .inl (fun _ => 0))), (q2, .inl (cyI, 64, .inl (fun _ => 0))), (q3, .inl (cyI, 64, .inl (fun _ => 0))), (q4, .inl (cyI, 14, .inl (fun _ => 0)))] := hD
  refine va_putF (D := (dC, dI)) (ci := 9) (v := .ref q4) (ty := (.array .int)) (C := RX9) (T := TX9) (N := 7) hx hb hts fX9_init_X9 tyX9 tyX9_ok nmX9 hown hK hP hD hS 0 rfl rfl 4 (by decide) (hts _ kX9_init_9) (fun _ h9 => h9) rfl hin rfl (tyX9_ok 4 (by decide)) rfl rfl (Nat.le_of_ble_eq_true rfl) dX9_init_37 (fun H locs hP hD hS => ?_)
  have hP : va_P (dC, dI) vwCl [(h, .inr (9, [.ref q1, .ref q2, .ref q3, .int (0 : Int32), .ref q4, .null, .int 0])), (q1, .inl (cyI, 5, .inl (fun _ => 0))), (q2, .inl (cyI, 64, .inl (fun _ => 0))), (q3, .inl (cyI, 64, .inl (fun _ => 0))), (q4, .inl (cyI, 14, .inl (fun _ => 0)))] H := hP
  have hD : va_D A [(h, .inr (9, [.ref q1, .ref q2, .ref q3, .int (0 : Int32), .ref q4, .null, .int 0])), (q1, .inl (cyI, 5, .inl (fun _ => 0))), (q2, .inl (cyI, 64, .inl (fun _ => 0))), (q3, .inl (cyI, 64, .inl (fun _ => 0))), (q4, .inl (cyI, 14, .inl (fun _ => 0)))] := hD
  refine lv_aload_n hx hb dX9_init_40 rfl (lv_at hl 0 rfl) ?_
  refine lv_bipush (v := (14 : Int32)) hx hb dX9_init_41 (by decide) ?_
  refine px_newa (atype := .int) (D := (dC, dI)) (ty := .int) (a0 := (14, .inl (fun _ => 0))) (N' := 14) hx hb (hts _ kX9_init_4) rfl hK hP hD hS hA (fun _ => rfl) (by decide) (by decide) (by decide) (Nat.le_of_ble_eq_true rfl) (Nat.le_of_ble_eq_true rfl) dX9_init_43 0 rfl (fun _ _ h => h) (fun q5 H hP hD hS => ?_)
  refine W.cs (cells' := 5) (slots' := 161) rfl rfl ?_
  have hP : va_P (dC, dI) vwCl [(h, .inr (9, [.ref q1, .ref q2, .ref q3, .int (0 : Int32), .ref q4, .null, .int 0])), (q1, .inl (cyI, 5, .inl (fun _ => 0))), (q2, .inl (cyI, 64, .inl (fun _ => 0))), (q3, .inl (cyI, 64, .inl (fun _ => 0))), (q4, .inl (cyI, 14, .inl (fun _ => 0))), (q5, .inl (cyI, 14, .inl (fun _ => 0)))] H := hP
  have hD : va_D A [(h, .inr (9, [.ref q1, .ref q2, .ref q3, .int (0 : Int32), .ref q4, .null, .int 0])), (q1, .inl (cyI, 5, .inl (fun _ => 0))), (q2, .inl (cyI, 64, .inl (fun _ => 0))), (q3, .inl (cyI, 64, .inl (fun _ => 0))), (q4, .inl (cyI, 14, .inl (fun _ => 0))), (q5, .inl (cyI, 14, .inl (fun _ => 0)))] := hD
  refine va_putF (D := (dC, dI)) (ci := 9) (v := .ref q5) (ty := (.array .int)) (C := RX9) (T := TX9) (N := 7) hx hb hts fX9_init_X9 tyX9 tyX9_ok nmX9 hown hK hP hD hS 0 rfl rfl 5 (by decide) (hts _ kX9_init_10) (fun _ h9 => h9) rfl hin rfl (tyX9_ok 5 (by decide)) rfl rfl (Nat.le_of_ble_eq_true rfl) dX9_init_45 (fun H locs hP hD hS => ?_)
  have hP : va_P (dC, dI) vwCl [(h, .inr (9, [.ref q1, .ref q2, .ref q3, .int (0 : Int32), .ref q4, .ref q5, .int 0])), (q1, .inl (cyI, 5, .inl (fun _ => 0))), (q2, .inl (cyI, 64, .inl (fun _ => 0))), (q3, .inl (cyI, 64, .inl (fun _ => 0))), (q4, .inl (cyI, 14, .inl (fun _ => 0))), (q5, .inl (cyI, 14, .inl (fun _ => 0)))] H := hP
  have hD : va_D A [(h, .inr (9, [.ref q1, .ref q2, .ref q3, .int (0 : Int32), .ref q4, .ref q5, .int 0])), (q1, .inl (cyI, 5, .inl (fun _ => 0))), (q2, .inl (cyI, 64, .inl (fun _ => 0))), (q3, .inl (cyI, 64, .inl (fun _ => 0))), (q4, .inl (cyI, 14, .inl (fun _ => 0))), (q5, .inl (cyI, 14, .inl (fun _ => 0)))] := hD
  refine lv_aload_n hx hb dX9_init_48 rfl (lv_at hl 0 rfl) ?_
  refine lv_iconst (v := (0 : Int32)) hx hb dX9_init_49 (by decide) ?_
  refine va_put (D := (dC, dI)) (ci := 9) (v := .int (0 : Int32)) (ty := .int) (C := RX9) (T := TX9) (N := 7) hx hb hts fX9_init_X9 tyX9 tyX9_ok nmX9 hown hK hP hD hS 0 rfl rfl 6 (by decide) (hts _ kX9_init_11) (fun _ h9 => h9) rfl (tyX9_ok 6 (by decide)) rfl rfl (Nat.le_of_ble_eq_true rfl) dX9_init_50 (fun H locs hP hD hS => ?_)
  have hP : va_P (dC, dI) vwCl [(h, .inr (9, [.ref q1, .ref q2, .ref q3, .int (0 : Int32), .ref q4, .ref q5, .int (0 : Int32)])), (q1, .inl (cyI, 5, .inl (fun _ => 0))), (q2, .inl (cyI, 64, .inl (fun _ => 0))), (q3, .inl (cyI, 64, .inl (fun _ => 0))), (q4, .inl (cyI, 14, .inl (fun _ => 0))), (q5, .inl (cyI, 14, .inl (fun _ => 0)))] H := hP
  have hD : va_D A [(h, .inr (9, [.ref q1, .ref q2, .ref q3, .int (0 : Int32), .ref q4, .ref q5, .int (0 : Int32)])), (q1, .inl (cyI, 5, .inl (fun _ => 0))), (q2, .inl (cyI, 64, .inl (fun _ => 0))), (q3, .inl (cyI, 64, .inl (fun _ => 0))), (q4, .inl (cyI, 14, .inl (fun _ => 0))), (q5, .inl (cyI, 14, .inl (fun _ => 0)))] := hD
  have hP9 := hP.sub (ws' := [(h, .inr (9, [.ref q1, .ref q2, .ref q3, .int (0 : Int32), .ref q4, .ref q5, .int (0 : Int32)])), (q1, .inl (cyI, 5, .inl (fun _ => 0))), (q2, .inl (cyI, 64, .inl (fun _ => 0))), (q3, .inl (cyI, 64, .inl (fun _ => 0))), (q4, .inl (cyI, 14, .inl (fun _ => 0))), (q5, .inl (cyI, 14, .inl (fun _ => 0)))]) [0, 1, 2, 3, 4, 5] rfl
  have hD9 := hD.sub (ws' := [(h, .inr (9, [.ref q1, .ref q2, .ref q3, .int (0 : Int32), .ref q4, .ref q5, .int (0 : Int32)])), (q1, .inl (cyI, 5, .inl (fun _ => 0))), (q2, .inl (cyI, 64, .inl (fun _ => 0))), (q3, .inl (cyI, 64, .inl (fun _ => 0))), (q4, .inl (cyI, 14, .inl (fun _ => 0))), (q5, .inl (cyI, 14, .inl (fun _ => 0)))]) [0, 1, 2, 3, 4, 5] (by decide) rfl
  exact W.vret hx hb hr (fun t ht hW => hq _ t _ ⟨q1, q2, q3, q4, q5, rfl⟩ (by rw [ht]; exact hP9) hD9 (hS.F ht)) hS.2.2 dX9_init_53
