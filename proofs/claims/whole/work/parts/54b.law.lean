set_option maxHeartbeats 4000000 in
set_option maxRecDepth 100000 in
theorem lwc_frame {p : Program} {l : Launch} {e : Env} {s : State} {m : MethodId} {below : List Frame} {meth : Method} {c : Code} {Q : State → Prop} (dC : Nat → ClassId) (dI : Nat → Nat → Nat) (cyI cyZ cyJ cyB cyO : ClassId) (sK sV tS : Nat → Nat) (b L C S : Nat) (xs : Nat → Int32) (I : Nat → Nat → va_W → va_W → Prop) (hx : p.tables.exec = Jvm.exec) (hb : c.code = cL_law) (hml : c.maxLocals = 4) (hts : ∀ w ∈ wsL_law, w.before #[Value.ref b] s = true) (hown : s.vm.findClass RL = some m.cls) (hX : va_X b L xs s s.heap) (hbl : b < s.heap.size) (hK : va_K (dC, dI) vwCl (px_TY cyI cyZ cyJ cyB cyO) s) (hN : px_NW s) (hG : px_SG sK sV tS (fun q : Nat => s.heap.size ≤ q) s s.heap) (hC : C ≤ 600000) (hSl : S ≤ 7302250) (hrx : ∀ hx hm WX WM, I hx hm WX WM → ∃ fs, WX[0]? = some (hx, .inr (10, fs))) (hrm : ∀ hx hm WX WM, I hx hm WX WM → ∃ fs, WM[0]? = some (hm, .inr (11, fs))) (h_st : sm_frame l sK sV tS dC dI cyI cyZ cyJ cyB cyO I) (zx zm : Nat) (WX WM : va_W) (hI : I zx zm WX WM) (x3 : Int32) (h0 : vp_in x3 L) (h1 : vp_in (x3 + 1) L) (h2 : vp_in (x3 + 2) L) (h3 : vp_in (x3 + 3) L) (h4 : vp_in (x3 + 4) L) (ls : Array Slot) (fin : ∀ (H : Heap) (locs : List Loc) (WX2 WM2 : va_W), I zx zm WX2 WM2 → va_P (dC, dI) vwCl (WX2 ++ WM2) H → va_D (fun q : Nat => s.heap.size ≤ q) (WX2 ++ WM2) → va_S (fun q : Nat => s.heap.size ≤ q) s.heap H locs → W p l e room_1 s m #[Value.ref b] below meth c H locs C S Q (F0 m 1413 ls [])) (H : Heap) (locs : List Loc) (hP : va_P (dC, dI) vwCl (WX ++ WM) H) (hD : va_D (fun q : Nat => s.heap.size ≤ q) (WX ++ WM)) (hS : va_S (fun q : Nat => s.heap.size ≤ q) s.heap H locs) (hl : lv_has ls 4 [(3, .int x3), (2, .ref zm), (1, .ref zx), (0, .ref b)]) : W p l e room_1 s m #[Value.ref b] below meth c H locs C S Q (F0 m 773 ls []) := by
  have hA : ∀ q : Nat, s.heap.size ≤ q → (fun q : Nat => s.heap.size ≤ q) q := fun _ h => h
  have hbA : ¬ (fun q : Nat => s.heap.size ≤ q) b := Nat.not_le.mpr hbl
  refine lv_aload_n hx hb dL_law_773 rfl (lv_at hl 2 rfl) ?_
  refine lv_aload_n hx hb dL_law_774 rfl (lv_at hl 3 rfl) ?_
  refine lv_iload_n hx hb dL_law_775 rfl (lv_at hl 0 rfl) ?_
  refine lv_iconst (v := (1 : Int32)) hx hb dL_law_776 (by decide) ?_
  refine lv_iadd hx hb dL_law_777 ?_
  refine va_sld hx hb hX hbl hbA hS h1 dL_law_778 ?_
  refine lv_aload_n hx hb dL_law_779 rfl (lv_at hl 3 rfl) ?_
  refine lv_iload_n hx hb dL_law_780 rfl (lv_at hl 0 rfl) ?_
  refine lv_iconst (v := (2 : Int32)) hx hb dL_law_781 (by decide) ?_
  refine lv_iadd hx hb dL_law_782 ?_
  refine va_sld hx hb hX hbl hbA hS h2 dL_law_783 ?_
  obtain ⟨r, WX2, WM2, k1, k2, hI2⟩ := h_st zx zm WX WM ((xs (Int32.toNatClampNeg (x3 + (1 : Int32))))) ((xs (Int32.toNatClampNeg (x3 + (2 : Int32))))) hI
  obtain ⟨fx, hfx⟩ := hrx _ _ _ _ hI
  obtain ⟨fm, hfm⟩ := hrm _ _ _ _ hI
  refine px_callL (w1' := WX2) (va_runV (As := [.int (xs (Int32.toNatClampNeg (x3 + (1 : Int32)))), .int (xs (Int32.toNatClampNeg (x3 + (2 : Int32))))]) (rest := []) ⟨hx, hb, hml, hown, hts⟩ (k1 H.size) (cwV 2 hts gL_law_X10_frame rfl rfl rfl hvX10_frame ⟨Nat.le_of_ble_eq_true rfl, Nat.le_of_ble_eq_true rfl⟩) (px_preL (ci := 10) hK hN hP hD rfl hfx) rfl rfl hl.1 rfl (lv_room (Nat.le_of_ble_eq_true rfl)) dL_law_784 ⟨hC, hSl⟩) hP hD hS hA (fun H locs hP hD hS => ?_)
  refine W.eq (g2 := F0 m 787 ls [.int r]) rfl ?_
  refine lv_aload_n hx hb dL_law_787 rfl (lv_at hl 1 rfl) ?_
  refine lv_aload_n hx hb dL_law_788 rfl (lv_at hl 3 rfl) ?_
  refine lv_iload_n hx hb dL_law_789 rfl (lv_at hl 0 rfl) ?_
  refine lv_iconst (v := (1 : Int32)) hx hb dL_law_790 (by decide) ?_
  refine lv_iadd hx hb dL_law_791 ?_
  refine va_sld hx hb hX hbl hbA hS h1 dL_law_792 ?_
  refine lv_aload_n hx hb dL_law_793 rfl (lv_at hl 3 rfl) ?_
  refine lv_iload_n hx hb dL_law_794 rfl (lv_at hl 0 rfl) ?_
  refine lv_iconst (v := (2 : Int32)) hx hb dL_law_795 (by decide) ?_
  refine lv_iadd hx hb dL_law_796 ?_
  refine va_sld hx hb hX hbl hbA hS h2 dL_law_797 ?_
  refine px_callY (w2' := WM2) (va_runV (As := [.int (xs (Int32.toNatClampNeg (x3 + (1 : Int32)))), .int (xs (Int32.toNatClampNeg (x3 + (2 : Int32))))]) (rest := [.int r]) ⟨hx, hb, hml, hown, hts⟩ (k2 H.size) (cwV 2 hts gL_law_X11_frame rfl rfl rfl hvX11_frame ⟨Nat.le_of_ble_eq_true rfl, Nat.le_of_ble_eq_true rfl⟩) (px_preY (ci := 11) hK hN hP hD rfl hfm) rfl rfl hl.1 rfl (lv_room (Nat.le_of_ble_eq_true rfl)) dL_law_798 ⟨hC, hSl⟩) hP hD hS hA (fun H locs hP hD hS => ?_)
  refine W.eq (g2 := F0 m 801 ls [.int r, .int r]) rfl ?_
  refine lv_icmp_eq (tgt := 1413) hx hb dL_law_801 (by decide) (fun _ => ?_) (fun cc => absurd rfl cc)
  exact fin _ _ _ _ hI2 hP hD hS
set_option maxHeartbeats 4000000 in
set_option maxRecDepth 100000 in
theorem lwc_shown {p : Program} {l : Launch} {e : Env} {s : State} {m : MethodId} {below : List Frame} {meth : Method} {c : Code} {Q : State → Prop} (dC : Nat → ClassId) (dI : Nat → Nat → Nat) (cyI cyZ cyJ cyB cyO : ClassId) (sK sV tS : Nat → Nat) (b L C S : Nat) (xs : Nat → Int32) (I : Nat → Nat → va_W → va_W → Prop) (hx : p.tables.exec = Jvm.exec) (hb : c.code = cL_law) (hml : c.maxLocals = 4) (hts : ∀ w ∈ wsL_law, w.before #[Value.ref b] s = true) (hown : s.vm.findClass RL = some m.cls) (hX : va_X b L xs s s.heap) (hbl : b < s.heap.size) (hK : va_K (dC, dI) vwCl (px_TY cyI cyZ cyJ cyB cyO) s) (hN : px_NW s) (hG : px_SG sK sV tS (fun q : Nat => s.heap.size ≤ q) s s.heap) (hC : C ≤ 600000) (hSl : S ≤ 7302250) (hrx : ∀ hx hm WX WM, I hx hm WX WM → ∃ fs, WX[0]? = some (hx, .inr (10, fs))) (hrm : ∀ hx hm WX WM, I hx hm WX WM → ∃ fs, WM[0]? = some (hm, .inr (11, fs))) (h_st : sm_shown l sK sV tS dC dI cyI cyZ cyJ cyB cyO I) (zx zm : Nat) (WX WM : va_W) (hI : I zx zm WX WM) (x3 : Int32) (h0 : vp_in x3 L) (h1 : vp_in (x3 + 1) L) (h2 : vp_in (x3 + 2) L) (h3 : vp_in (x3 + 3) L) (h4 : vp_in (x3 + 4) L) (ls : Array Slot) (fin : ∀ (H : Heap) (locs : List Loc) (WX2 WM2 : va_W), I zx zm WX2 WM2 → va_P (dC, dI) vwCl (WX2 ++ WM2) H → va_D (fun q : Nat => s.heap.size ≤ q) (WX2 ++ WM2) → va_S (fun q : Nat => s.heap.size ≤ q) s.heap H locs → W p l e room_1 s m #[Value.ref b] below meth c H locs C S Q (F0 m 1413 ls [])) (H : Heap) (locs : List Loc) (hP : va_P (dC, dI) vwCl (WX ++ WM) H) (hD : va_D (fun q : Nat => s.heap.size ≤ q) (WX ++ WM)) (hS : va_S (fun q : Nat => s.heap.size ≤ q) s.heap H locs) (hl : lv_has ls 4 [(3, .int x3), (2, .ref zm), (1, .ref zx), (0, .ref b)]) : W p l e room_1 s m #[Value.ref b] below meth c H locs C S Q (F0 m 806 ls []) := by
  have hA : ∀ q : Nat, s.heap.size ≤ q → (fun q : Nat => s.heap.size ≤ q) q := fun _ h => h
  have hbA : ¬ (fun q : Nat => s.heap.size ≤ q) b := Nat.not_le.mpr hbl
  refine lv_aload_n hx hb dL_law_806 rfl (lv_at hl 2 rfl) ?_
  refine lv_aload_n hx hb dL_law_807 rfl (lv_at hl 3 rfl) ?_
  refine lv_iload_n hx hb dL_law_808 rfl (lv_at hl 0 rfl) ?_
  refine lv_iconst (v := (1 : Int32)) hx hb dL_law_809 (by decide) ?_
  refine lv_iadd hx hb dL_law_810 ?_
  refine va_sld hx hb hX hbl hbA hS h1 dL_law_811 ?_
  obtain ⟨r, WX2, WM2, k1, k2, hI2⟩ := h_st zx zm WX WM ((xs (Int32.toNatClampNeg (x3 + (1 : Int32))))) hI
  obtain ⟨fx, hfx⟩ := hrx _ _ _ _ hI
  obtain ⟨fm, hfm⟩ := hrm _ _ _ _ hI
  refine px_callL (w1' := WX2) (va_runV (As := [.int (xs (Int32.toNatClampNeg (x3 + (1 : Int32))))]) (rest := []) ⟨hx, hb, hml, hown, hts⟩ (k1 H.size) (cwV 1 hts gL_law_X10_shown rfl rfl rfl hvX10_shown ⟨Nat.le_of_ble_eq_true rfl, Nat.le_of_ble_eq_true rfl⟩) (px_preL (ci := 10) hK hN hP hD rfl hfx) rfl rfl hl.1 rfl (lv_room (Nat.le_of_ble_eq_true rfl)) dL_law_812 ⟨hC, hSl⟩) hP hD hS hA (fun H locs hP hD hS => ?_)
  refine W.eq (g2 := F0 m 815 ls [.int r]) rfl ?_
  refine lv_aload_n hx hb dL_law_815 rfl (lv_at hl 1 rfl) ?_
  refine lv_aload_n hx hb dL_law_816 rfl (lv_at hl 3 rfl) ?_
  refine lv_iload_n hx hb dL_law_817 rfl (lv_at hl 0 rfl) ?_
  refine lv_iconst (v := (1 : Int32)) hx hb dL_law_818 (by decide) ?_
  refine lv_iadd hx hb dL_law_819 ?_
  refine va_sld hx hb hX hbl hbA hS h1 dL_law_820 ?_
  refine px_callY (w2' := WM2) (va_runV (As := [.int (xs (Int32.toNatClampNeg (x3 + (1 : Int32))))]) (rest := [.int r]) ⟨hx, hb, hml, hown, hts⟩ (k2 H.size) (cwV 1 hts gL_law_X11_shown rfl rfl rfl hvX11_shown ⟨Nat.le_of_ble_eq_true rfl, Nat.le_of_ble_eq_true rfl⟩) (px_preY (ci := 11) hK hN hP hD rfl hfm) rfl rfl hl.1 rfl (lv_room (Nat.le_of_ble_eq_true rfl)) dL_law_821 ⟨hC, hSl⟩) hP hD hS hA (fun H locs hP hD hS => ?_)
  refine W.eq (g2 := F0 m 824 ls [.int r, .int r]) rfl ?_
  refine lv_icmp_eq (tgt := 1413) hx hb dL_law_824 (by decide) (fun _ => ?_) (fun cc => absurd rfl cc)
  exact fin _ _ _ _ hI2 hP hD hS
set_option maxHeartbeats 4000000 in
set_option maxRecDepth 100000 in
theorem lwc_all {p : Program} {l : Launch} {e : Env} {s : State} {m : MethodId} {below : List Frame} {meth : Method} {c : Code} {Q : State → Prop} (dC : Nat → ClassId) (dI : Nat → Nat → Nat) (cyI cyZ cyJ cyB cyO : ClassId) (sK sV tS : Nat → Nat) (b L C S : Nat) (xs : Nat → Int32) (I : Nat → Nat → va_W → va_W → Prop) (hx : p.tables.exec = Jvm.exec) (hb : c.code = cL_law) (hml : c.maxLocals = 4) (hts : ∀ w ∈ wsL_law, w.before #[Value.ref b] s = true) (hown : s.vm.findClass RL = some m.cls) (hX : va_X b L xs s s.heap) (hbl : b < s.heap.size) (hK : va_K (dC, dI) vwCl (px_TY cyI cyZ cyJ cyB cyO) s) (hN : px_NW s) (hG : px_SG sK sV tS (fun q : Nat => s.heap.size ≤ q) s s.heap) (hC : C ≤ 600000) (hSl : S ≤ 7302250) (hrx : ∀ hx hm WX WM, I hx hm WX WM → ∃ fs, WX[0]? = some (hx, .inr (10, fs))) (hrm : ∀ hx hm WX WM, I hx hm WX WM → ∃ fs, WM[0]? = some (hm, .inr (11, fs))) (h_st : sm_all l sK sV tS dC dI cyI cyZ cyJ cyB cyO I) (zx zm : Nat) (WX WM : va_W) (hI : I zx zm WX WM) (x3 : Int32) (h0 : vp_in x3 L) (h1 : vp_in (x3 + 1) L) (h2 : vp_in (x3 + 2) L) (h3 : vp_in (x3 + 3) L) (h4 : vp_in (x3 + 4) L) (ls : Array Slot) (fin : ∀ (H : Heap) (locs : List Loc) (WX2 WM2 : va_W), I zx zm WX2 WM2 → va_P (dC, dI) vwCl (WX2 ++ WM2) H → va_D (fun q : Nat => s.heap.size ≤ q) (WX2 ++ WM2) → va_S (fun q : Nat => s.heap.size ≤ q) s.heap H locs → W p l e room_1 s m #[Value.ref b] below meth c H locs C S Q (F0 m 1413 ls [])) (H : Heap) (locs : List Loc) (hP : va_P (dC, dI) vwCl (WX ++ WM) H) (hD : va_D (fun q : Nat => s.heap.size ≤ q) (WX ++ WM)) (hS : va_S (fun q : Nat => s.heap.size ≤ q) s.heap H locs) (hl : lv_has ls 4 [(3, .int x3), (2, .ref zm), (1, .ref zx), (0, .ref b)]) : W p l e room_1 s m #[Value.ref b] below meth c H locs C S Q (F0 m 829 ls []) := by
  have hA : ∀ q : Nat, s.heap.size ≤ q → (fun q : Nat => s.heap.size ≤ q) q := fun _ h => h
  have hbA : ¬ (fun q : Nat => s.heap.size ≤ q) b := Nat.not_le.mpr hbl
  refine lv_aload_n hx hb dL_law_829 rfl (lv_at hl 2 rfl) ?_
  refine lv_aload_n hx hb dL_law_830 rfl (lv_at hl 3 rfl) ?_
  refine lv_iload_n hx hb dL_law_831 rfl (lv_at hl 0 rfl) ?_
  refine lv_iconst (v := (1 : Int32)) hx hb dL_law_832 (by decide) ?_
  refine lv_iadd hx hb dL_law_833 ?_
  refine va_sld hx hb hX hbl hbA hS h1 dL_law_834 ?_
  obtain ⟨r, WX2, WM2, k1, k2, hI2⟩ := h_st zx zm WX WM ((xs (Int32.toNatClampNeg (x3 + (1 : Int32))))) hI
  obtain ⟨fx, hfx⟩ := hrx _ _ _ _ hI
  obtain ⟨fm, hfm⟩ := hrm _ _ _ _ hI
  refine px_callL (w1' := WX2) (va_runV (As := [.int (xs (Int32.toNatClampNeg (x3 + (1 : Int32))))]) (rest := []) ⟨hx, hb, hml, hown, hts⟩ (k1 H.size) (cwV 1 hts gL_law_X10_all rfl rfl rfl hvX10_all ⟨Nat.le_of_ble_eq_true rfl, Nat.le_of_ble_eq_true rfl⟩) (px_preL (ci := 10) hK hN hP hD rfl hfx) rfl rfl hl.1 rfl (lv_room (Nat.le_of_ble_eq_true rfl)) dL_law_835 ⟨hC, hSl⟩) hP hD hS hA (fun H locs hP hD hS => ?_)
  refine W.eq (g2 := F0 m 838 ls [.int r]) rfl ?_
  refine lv_aload_n hx hb dL_law_838 rfl (lv_at hl 1 rfl) ?_
  refine lv_aload_n hx hb dL_law_839 rfl (lv_at hl 3 rfl) ?_
  refine lv_iload_n hx hb dL_law_840 rfl (lv_at hl 0 rfl) ?_
  refine lv_iconst (v := (1 : Int32)) hx hb dL_law_841 (by decide) ?_
  refine lv_iadd hx hb dL_law_842 ?_
  refine va_sld hx hb hX hbl hbA hS h1 dL_law_843 ?_
  refine px_callY (w2' := WM2) (va_runV (As := [.int (xs (Int32.toNatClampNeg (x3 + (1 : Int32))))]) (rest := [.int r]) ⟨hx, hb, hml, hown, hts⟩ (k2 H.size) (cwV 1 hts gL_law_X11_all rfl rfl rfl hvX11_all ⟨Nat.le_of_ble_eq_true rfl, Nat.le_of_ble_eq_true rfl⟩) (px_preY (ci := 11) hK hN hP hD rfl hfm) rfl rfl hl.1 rfl (lv_room (Nat.le_of_ble_eq_true rfl)) dL_law_844 ⟨hC, hSl⟩) hP hD hS hA (fun H locs hP hD hS => ?_)
  refine W.eq (g2 := F0 m 847 ls [.int r, .int r]) rfl ?_
  refine lv_icmp_eq (tgt := 1413) hx hb dL_law_847 (by decide) (fun _ => ?_) (fun cc => absurd rfl cc)
  exact fin _ _ _ _ hI2 hP hD hS
set_option maxHeartbeats 4000000 in
set_option maxRecDepth 100000 in
theorem lwc_went {p : Program} {l : Launch} {e : Env} {s : State} {m : MethodId} {below : List Frame} {meth : Method} {c : Code} {Q : State → Prop} (dC : Nat → ClassId) (dI : Nat → Nat → Nat) (cyI cyZ cyJ cyB cyO : ClassId) (sK sV tS : Nat → Nat) (b L C S : Nat) (xs : Nat → Int32) (I : Nat → Nat → va_W → va_W → Prop) (hx : p.tables.exec = Jvm.exec) (hb : c.code = cL_law) (hml : c.maxLocals = 4) (hts : ∀ w ∈ wsL_law, w.before #[Value.ref b] s = true) (hown : s.vm.findClass RL = some m.cls) (hX : va_X b L xs s s.heap) (hbl : b < s.heap.size) (hK : va_K (dC, dI) vwCl (px_TY cyI cyZ cyJ cyB cyO) s) (hN : px_NW s) (hG : px_SG sK sV tS (fun q : Nat => s.heap.size ≤ q) s s.heap) (hC : C ≤ 600000) (hSl : S ≤ 7302250) (hrx : ∀ hx hm WX WM, I hx hm WX WM → ∃ fs, WX[0]? = some (hx, .inr (10, fs))) (hrm : ∀ hx hm WX WM, I hx hm WX WM → ∃ fs, WM[0]? = some (hm, .inr (11, fs))) (h_st : sm_went l sK sV tS dC dI cyI cyZ cyJ cyB cyO I) (zx zm : Nat) (WX WM : va_W) (hI : I zx zm WX WM) (x3 : Int32) (h0 : vp_in x3 L) (h1 : vp_in (x3 + 1) L) (h2 : vp_in (x3 + 2) L) (h3 : vp_in (x3 + 3) L) (h4 : vp_in (x3 + 4) L) (ls : Array Slot) (fin : ∀ (H : Heap) (locs : List Loc) (WX2 WM2 : va_W), I zx zm WX2 WM2 → va_P (dC, dI) vwCl (WX2 ++ WM2) H → va_D (fun q : Nat => s.heap.size ≤ q) (WX2 ++ WM2) → va_S (fun q : Nat => s.heap.size ≤ q) s.heap H locs → W p l e room_1 s m #[Value.ref b] below meth c H locs C S Q (F0 m 1413 ls [])) (H : Heap) (locs : List Loc) (hP : va_P (dC, dI) vwCl (WX ++ WM) H) (hD : va_D (fun q : Nat => s.heap.size ≤ q) (WX ++ WM)) (hS : va_S (fun q : Nat => s.heap.size ≤ q) s.heap H locs) (hl : lv_has ls 4 [(3, .int x3), (2, .ref zm), (1, .ref zx), (0, .ref b)]) : W p l e room_1 s m #[Value.ref b] below meth c H locs C S Q (F0 m 852 ls []) := by
  have hA : ∀ q : Nat, s.heap.size ≤ q → (fun q : Nat => s.heap.size ≤ q) q := fun _ h => h
  have hbA : ¬ (fun q : Nat => s.heap.size ≤ q) b := Nat.not_le.mpr hbl
  refine lv_aload_n hx hb dL_law_852 rfl (lv_at hl 2 rfl) ?_
  refine lv_aload_n hx hb dL_law_853 rfl (lv_at hl 3 rfl) ?_
  refine lv_iload_n hx hb dL_law_854 rfl (lv_at hl 0 rfl) ?_
  refine lv_iconst (v := (1 : Int32)) hx hb dL_law_855 (by decide) ?_
  refine lv_iadd hx hb dL_law_856 ?_
  refine va_sld hx hb hX hbl hbA hS h1 dL_law_857 ?_
  obtain ⟨r, WX2, WM2, k1, k2, hI2⟩ := h_st zx zm WX WM ((xs (Int32.toNatClampNeg (x3 + (1 : Int32))))) hI
  obtain ⟨fx, hfx⟩ := hrx _ _ _ _ hI
  obtain ⟨fm, hfm⟩ := hrm _ _ _ _ hI
  refine px_callL (w1' := WX2) (va_runV (As := [.int (xs (Int32.toNatClampNeg (x3 + (1 : Int32))))]) (rest := []) ⟨hx, hb, hml, hown, hts⟩ (k1 H.size) (cwV 1 hts gL_law_X10_went rfl rfl rfl hvX10_went ⟨Nat.le_of_ble_eq_true rfl, Nat.le_of_ble_eq_true rfl⟩) (px_preL (ci := 10) hK hN hP hD rfl hfx) rfl rfl hl.1 rfl (lv_room (Nat.le_of_ble_eq_true rfl)) dL_law_858 ⟨hC, hSl⟩) hP hD hS hA (fun H locs hP hD hS => ?_)
  refine W.eq (g2 := F0 m 861 ls [.int r]) rfl ?_
  refine lv_aload_n hx hb dL_law_861 rfl (lv_at hl 1 rfl) ?_
  refine lv_aload_n hx hb dL_law_862 rfl (lv_at hl 3 rfl) ?_
  refine lv_iload_n hx hb dL_law_863 rfl (lv_at hl 0 rfl) ?_
  refine lv_iconst (v := (1 : Int32)) hx hb dL_law_864 (by decide) ?_
  refine lv_iadd hx hb dL_law_865 ?_
  refine va_sld hx hb hX hbl hbA hS h1 dL_law_866 ?_
  refine px_callY (w2' := WM2) (va_runV (As := [.int (xs (Int32.toNatClampNeg (x3 + (1 : Int32))))]) (rest := [.int r]) ⟨hx, hb, hml, hown, hts⟩ (k2 H.size) (cwV 1 hts gL_law_X11_went rfl rfl rfl hvX11_went ⟨Nat.le_of_ble_eq_true rfl, Nat.le_of_ble_eq_true rfl⟩) (px_preY (ci := 11) hK hN hP hD rfl hfm) rfl rfl hl.1 rfl (lv_room (Nat.le_of_ble_eq_true rfl)) dL_law_867 ⟨hC, hSl⟩) hP hD hS hA (fun H locs hP hD hS => ?_)
  refine W.eq (g2 := F0 m 870 ls [.int r, .int r]) rfl ?_
  refine lv_icmp_eq (tgt := 1413) hx hb dL_law_870 (by decide) (fun _ => ?_) (fun cc => absurd rfl cc)
  exact fin _ _ _ _ hI2 hP hD hS
set_option maxHeartbeats 4000000 in
set_option maxRecDepth 100000 in
theorem lwc_alone {p : Program} {l : Launch} {e : Env} {s : State} {m : MethodId} {below : List Frame} {meth : Method} {c : Code} {Q : State → Prop} (dC : Nat → ClassId) (dI : Nat → Nat → Nat) (cyI cyZ cyJ cyB cyO : ClassId) (sK sV tS : Nat → Nat) (b L C S : Nat) (xs : Nat → Int32) (I : Nat → Nat → va_W → va_W → Prop) (hx : p.tables.exec = Jvm.exec) (hb : c.code = cL_law) (hml : c.maxLocals = 4) (hts : ∀ w ∈ wsL_law, w.before #[Value.ref b] s = true) (hown : s.vm.findClass RL = some m.cls) (hX : va_X b L xs s s.heap) (hbl : b < s.heap.size) (hK : va_K (dC, dI) vwCl (px_TY cyI cyZ cyJ cyB cyO) s) (hN : px_NW s) (hG : px_SG sK sV tS (fun q : Nat => s.heap.size ≤ q) s s.heap) (hC : C ≤ 600000) (hSl : S ≤ 7302250) (hrx : ∀ hx hm WX WM, I hx hm WX WM → ∃ fs, WX[0]? = some (hx, .inr (10, fs))) (hrm : ∀ hx hm WX WM, I hx hm WX WM → ∃ fs, WM[0]? = some (hm, .inr (11, fs))) (h_st : sm_alone l sK sV tS dC dI cyI cyZ cyJ cyB cyO I) (zx zm : Nat) (WX WM : va_W) (hI : I zx zm WX WM) (x3 : Int32) (h0 : vp_in x3 L) (h1 : vp_in (x3 + 1) L) (h2 : vp_in (x3 + 2) L) (h3 : vp_in (x3 + 3) L) (h4 : vp_in (x3 + 4) L) (ls : Array Slot) (fin : ∀ (H : Heap) (locs : List Loc) (WX2 WM2 : va_W), I zx zm WX2 WM2 → va_P (dC, dI) vwCl (WX2 ++ WM2) H → va_D (fun q : Nat => s.heap.size ≤ q) (WX2 ++ WM2) → va_S (fun q : Nat => s.heap.size ≤ q) s.heap H locs → W p l e room_1 s m #[Value.ref b] below meth c H locs C S Q (F0 m 1413 ls [])) (H : Heap) (locs : List Loc) (hP : va_P (dC, dI) vwCl (WX ++ WM) H) (hD : va_D (fun q : Nat => s.heap.size ≤ q) (WX ++ WM)) (hS : va_S (fun q : Nat => s.heap.size ≤ q) s.heap H locs) (hl : lv_has ls 4 [(3, .int x3), (2, .ref zm), (1, .ref zx), (0, .ref b)]) : W p l e room_1 s m #[Value.ref b] below meth c H locs C S Q (F0 m 875 ls []) := by
  have hA : ∀ q : Nat, s.heap.size ≤ q → (fun q : Nat => s.heap.size ≤ q) q := fun _ h => h
  have hbA : ¬ (fun q : Nat => s.heap.size ≤ q) b := Nat.not_le.mpr hbl
  refine lv_aload_n hx hb dL_law_875 rfl (lv_at hl 2 rfl) ?_
  refine lv_aload_n hx hb dL_law_876 rfl (lv_at hl 3 rfl) ?_
  refine lv_iload_n hx hb dL_law_877 rfl (lv_at hl 0 rfl) ?_
  refine lv_iconst (v := (1 : Int32)) hx hb dL_law_878 (by decide) ?_
  refine lv_iadd hx hb dL_law_879 ?_
  refine va_sld hx hb hX hbl hbA hS h1 dL_law_880 ?_
  refine lv_aload_n hx hb dL_law_881 rfl (lv_at hl 3 rfl) ?_
  refine lv_iload_n hx hb dL_law_882 rfl (lv_at hl 0 rfl) ?_
  refine lv_iconst (v := (2 : Int32)) hx hb dL_law_883 (by decide) ?_
  refine lv_iadd hx hb dL_law_884 ?_
  refine va_sld hx hb hX hbl hbA hS h2 dL_law_885 ?_
  refine lv_aload_n hx hb dL_law_886 rfl (lv_at hl 3 rfl) ?_
  refine lv_iload_n hx hb dL_law_887 rfl (lv_at hl 0 rfl) ?_
  refine lv_iconst (v := (3 : Int32)) hx hb dL_law_888 (by decide) ?_
  refine lv_iadd hx hb dL_law_889 ?_
  refine va_sld hx hb hX hbl hbA hS h3 dL_law_890 ?_
  refine lv_aload_n hx hb dL_law_891 rfl (lv_at hl 3 rfl) ?_
  refine lv_iload_n hx hb dL_law_892 rfl (lv_at hl 0 rfl) ?_
  refine lv_iconst (v := (4 : Int32)) hx hb dL_law_893 (by decide) ?_
  refine lv_iadd hx hb dL_law_894 ?_
  refine va_sld hx hb hX hbl hbA hS h4 dL_law_895 ?_
  obtain ⟨r, WX2, WM2, k1, k2, hI2⟩ := h_st zx zm WX WM ((xs (Int32.toNatClampNeg (x3 + (1 : Int32))))) ((xs (Int32.toNatClampNeg (x3 + (2 : Int32))))) ((xs (Int32.toNatClampNeg (x3 + (3 : Int32))))) ((xs (Int32.toNatClampNeg (x3 + (4 : Int32))))) hI
  obtain ⟨fx, hfx⟩ := hrx _ _ _ _ hI
  obtain ⟨fm, hfm⟩ := hrm _ _ _ _ hI
  refine px_callL (w1' := WX2) (va_runV (As := [.int (xs (Int32.toNatClampNeg (x3 + (1 : Int32)))), .int (xs (Int32.toNatClampNeg (x3 + (2 : Int32)))), .int (xs (Int32.toNatClampNeg (x3 + (3 : Int32)))), .int (xs (Int32.toNatClampNeg (x3 + (4 : Int32))))]) (rest := []) ⟨hx, hb, hml, hown, hts⟩ (k1 H.size) (cwV 4 hts gL_law_X10_alone rfl rfl rfl hvX10_alone ⟨Nat.le_of_ble_eq_true rfl, Nat.le_of_ble_eq_true rfl⟩) (px_preL (ci := 10) hK hN hP hD rfl hfx) rfl rfl hl.1 rfl (lv_room (Nat.le_of_ble_eq_true rfl)) dL_law_896 ⟨hC, hSl⟩) hP hD hS hA (fun H locs hP hD hS => ?_)
  refine W.eq (g2 := F0 m 899 ls [.long r]) rfl ?_
  refine lv_aload_n hx hb dL_law_899 rfl (lv_at hl 1 rfl) ?_
  refine lv_aload_n hx hb dL_law_900 rfl (lv_at hl 3 rfl) ?_
  refine lv_iload_n hx hb dL_law_901 rfl (lv_at hl 0 rfl) ?_
  refine lv_iconst (v := (1 : Int32)) hx hb dL_law_902 (by decide) ?_
  refine lv_iadd hx hb dL_law_903 ?_
  refine va_sld hx hb hX hbl hbA hS h1 dL_law_904 ?_
  refine lv_aload_n hx hb dL_law_905 rfl (lv_at hl 3 rfl) ?_
  refine lv_iload_n hx hb dL_law_906 rfl (lv_at hl 0 rfl) ?_
  refine lv_iconst (v := (2 : Int32)) hx hb dL_law_907 (by decide) ?_
  refine lv_iadd hx hb dL_law_908 ?_
  refine va_sld hx hb hX hbl hbA hS h2 dL_law_909 ?_
  refine lv_aload_n hx hb dL_law_910 rfl (lv_at hl 3 rfl) ?_
  refine lv_iload_n hx hb dL_law_911 rfl (lv_at hl 0 rfl) ?_
  refine lv_iconst (v := (3 : Int32)) hx hb dL_law_912 (by decide) ?_
  refine lv_iadd hx hb dL_law_913 ?_
  refine va_sld hx hb hX hbl hbA hS h3 dL_law_914 ?_
  refine lv_aload_n hx hb dL_law_915 rfl (lv_at hl 3 rfl) ?_
  refine lv_iload_n hx hb dL_law_916 rfl (lv_at hl 0 rfl) ?_
  refine lv_iconst (v := (4 : Int32)) hx hb dL_law_917 (by decide) ?_
  refine lv_iadd hx hb dL_law_918 ?_
  refine va_sld hx hb hX hbl hbA hS h4 dL_law_919 ?_
  refine px_callY (w2' := WM2) (va_runV (As := [.int (xs (Int32.toNatClampNeg (x3 + (1 : Int32)))), .int (xs (Int32.toNatClampNeg (x3 + (2 : Int32)))), .int (xs (Int32.toNatClampNeg (x3 + (3 : Int32)))), .int (xs (Int32.toNatClampNeg (x3 + (4 : Int32))))]) (rest := [.long r]) ⟨hx, hb, hml, hown, hts⟩ (k2 H.size) (cwV 4 hts gL_law_X11_alone rfl rfl rfl hvX11_alone ⟨Nat.le_of_ble_eq_true rfl, Nat.le_of_ble_eq_true rfl⟩) (px_preY (ci := 11) hK hN hP hD rfl hfm) rfl rfl hl.1 rfl (lv_room (Nat.le_of_ble_eq_true rfl)) dL_law_920 ⟨hC, hSl⟩) hP hD hS hA (fun H locs hP hD hS => ?_)
  refine W.eq (g2 := F0 m 923 ls [.long r, .long r]) rfl ?_
  refine W.lcmp hx hb dL_law_923 ?_
  refine lv_if_eq (tgt := 1413) hx hb dL_law_924 (by decide) (fun _ => ?_) (fun cc => absurd (px_cmp r) cc)
  exact fin _ _ _ _ hI2 hP hD hS
set_option maxHeartbeats 4000000 in
set_option maxRecDepth 100000 in
theorem lwc_mean {p : Program} {l : Launch} {e : Env} {s : State} {m : MethodId} {below : List Frame} {meth : Method} {c : Code} {Q : State → Prop} (dC : Nat → ClassId) (dI : Nat → Nat → Nat) (cyI cyZ cyJ cyB cyO : ClassId) (sK sV tS : Nat → Nat) (b L C S : Nat) (xs : Nat → Int32) (I : Nat → Nat → va_W → va_W → Prop) (hx : p.tables.exec = Jvm.exec) (hb : c.code = cL_law) (hml : c.maxLocals = 4) (hts : ∀ w ∈ wsL_law, w.before #[Value.ref b] s = true) (hown : s.vm.findClass RL = some m.cls) (hX : va_X b L xs s s.heap) (hbl : b < s.heap.size) (hK : va_K (dC, dI) vwCl (px_TY cyI cyZ cyJ cyB cyO) s) (hN : px_NW s) (hG : px_SG sK sV tS (fun q : Nat => s.heap.size ≤ q) s s.heap) (hC : C ≤ 600000) (hSl : S ≤ 7302250) (hrx : ∀ hx hm WX WM, I hx hm WX WM → ∃ fs, WX[0]? = some (hx, .inr (10, fs))) (hrm : ∀ hx hm WX WM, I hx hm WX WM → ∃ fs, WM[0]? = some (hm, .inr (11, fs))) (h_st : sm_mean l sK sV tS dC dI cyI cyZ cyJ cyB cyO I) (zx zm : Nat) (WX WM : va_W) (hI : I zx zm WX WM) (x3 : Int32) (h0 : vp_in x3 L) (h1 : vp_in (x3 + 1) L) (h2 : vp_in (x3 + 2) L) (h3 : vp_in (x3 + 3) L) (h4 : vp_in (x3 + 4) L) (ls : Array Slot) (fin : ∀ (H : Heap) (locs : List Loc) (WX2 WM2 : va_W), I zx zm WX2 WM2 → va_P (dC, dI) vwCl (WX2 ++ WM2) H → va_D (fun q : Nat => s.heap.size ≤ q) (WX2 ++ WM2) → va_S (fun q : Nat => s.heap.size ≤ q) s.heap H locs → W p l e room_1 s m #[Value.ref b] below meth c H locs C S Q (F0 m 1413 ls [])) (H : Heap) (locs : List Loc) (hP : va_P (dC, dI) vwCl (WX ++ WM) H) (hD : va_D (fun q : Nat => s.heap.size ≤ q) (WX ++ WM)) (hS : va_S (fun q : Nat => s.heap.size ≤ q) s.heap H locs) (hl : lv_has ls 4 [(3, .int x3), (2, .ref zm), (1, .ref zx), (0, .ref b)]) : W p l e room_1 s m #[Value.ref b] below meth c H locs C S Q (F0 m 929 ls []) := by
  have hA : ∀ q : Nat, s.heap.size ≤ q → (fun q : Nat => s.heap.size ≤ q) q := fun _ h => h
  have hbA : ¬ (fun q : Nat => s.heap.size ≤ q) b := Nat.not_le.mpr hbl
  refine lv_aload_n hx hb dL_law_929 rfl (lv_at hl 2 rfl) ?_
  refine lv_aload_n hx hb dL_law_930 rfl (lv_at hl 3 rfl) ?_
  refine lv_iload_n hx hb dL_law_931 rfl (lv_at hl 0 rfl) ?_
  refine lv_iconst (v := (1 : Int32)) hx hb dL_law_932 (by decide) ?_
  refine lv_iadd hx hb dL_law_933 ?_
  refine va_sld hx hb hX hbl hbA hS h1 dL_law_934 ?_
  refine lv_aload_n hx hb dL_law_935 rfl (lv_at hl 3 rfl) ?_
  refine lv_iload_n hx hb dL_law_936 rfl (lv_at hl 0 rfl) ?_
  refine lv_iconst (v := (2 : Int32)) hx hb dL_law_937 (by decide) ?_
  refine lv_iadd hx hb dL_law_938 ?_
  refine va_sld hx hb hX hbl hbA hS h2 dL_law_939 ?_
  refine lv_aload_n hx hb dL_law_940 rfl (lv_at hl 3 rfl) ?_
  refine lv_iload_n hx hb dL_law_941 rfl (lv_at hl 0 rfl) ?_
  refine lv_iconst (v := (3 : Int32)) hx hb dL_law_942 (by decide) ?_
  refine lv_iadd hx hb dL_law_943 ?_
  refine va_sld hx hb hX hbl hbA hS h3 dL_law_944 ?_
  obtain ⟨r, WX2, WM2, k1, k2, hI2⟩ := h_st zx zm WX WM ((xs (Int32.toNatClampNeg (x3 + (1 : Int32))))) ((xs (Int32.toNatClampNeg (x3 + (2 : Int32))))) ((xs (Int32.toNatClampNeg (x3 + (3 : Int32))))) hI
  obtain ⟨fx, hfx⟩ := hrx _ _ _ _ hI
  obtain ⟨fm, hfm⟩ := hrm _ _ _ _ hI
  refine px_callL (w1' := WX2) (va_runV (As := [.int (xs (Int32.toNatClampNeg (x3 + (1 : Int32)))), .int (xs (Int32.toNatClampNeg (x3 + (2 : Int32)))), .int (xs (Int32.toNatClampNeg (x3 + (3 : Int32))))]) (rest := []) ⟨hx, hb, hml, hown, hts⟩ (k1 H.size) (cwV 3 hts gL_law_X10_mean rfl rfl rfl hvX10_mean ⟨Nat.le_of_ble_eq_true rfl, Nat.le_of_ble_eq_true rfl⟩) (px_preL (ci := 10) hK hN hP hD rfl hfx) rfl rfl hl.1 rfl (lv_room (Nat.le_of_ble_eq_true rfl)) dL_law_945 ⟨hC, hSl⟩) hP hD hS hA (fun H locs hP hD hS => ?_)
  refine W.eq (g2 := F0 m 948 ls [.long r]) rfl ?_
  refine lv_aload_n hx hb dL_law_948 rfl (lv_at hl 1 rfl) ?_
  refine lv_aload_n hx hb dL_law_949 rfl (lv_at hl 3 rfl) ?_
  refine lv_iload_n hx hb dL_law_950 rfl (lv_at hl 0 rfl) ?_
  refine lv_iconst (v := (1 : Int32)) hx hb dL_law_951 (by decide) ?_
  refine lv_iadd hx hb dL_law_952 ?_
  refine va_sld hx hb hX hbl hbA hS h1 dL_law_953 ?_
  refine lv_aload_n hx hb dL_law_954 rfl (lv_at hl 3 rfl) ?_
  refine lv_iload_n hx hb dL_law_955 rfl (lv_at hl 0 rfl) ?_
  refine lv_iconst (v := (2 : Int32)) hx hb dL_law_956 (by decide) ?_
  refine lv_iadd hx hb dL_law_957 ?_
  refine va_sld hx hb hX hbl hbA hS h2 dL_law_958 ?_
  refine lv_aload_n hx hb dL_law_959 rfl (lv_at hl 3 rfl) ?_
  refine lv_iload_n hx hb dL_law_960 rfl (lv_at hl 0 rfl) ?_
  refine lv_iconst (v := (3 : Int32)) hx hb dL_law_961 (by decide) ?_
  refine lv_iadd hx hb dL_law_962 ?_
  refine va_sld hx hb hX hbl hbA hS h3 dL_law_963 ?_
  refine px_callY (w2' := WM2) (va_runV (As := [.int (xs (Int32.toNatClampNeg (x3 + (1 : Int32)))), .int (xs (Int32.toNatClampNeg (x3 + (2 : Int32)))), .int (xs (Int32.toNatClampNeg (x3 + (3 : Int32))))]) (rest := [.long r]) ⟨hx, hb, hml, hown, hts⟩ (k2 H.size) (cwV 3 hts gL_law_X11_mean rfl rfl rfl hvX11_mean ⟨Nat.le_of_ble_eq_true rfl, Nat.le_of_ble_eq_true rfl⟩) (px_preY (ci := 11) hK hN hP hD rfl hfm) rfl rfl hl.1 rfl (lv_room (Nat.le_of_ble_eq_true rfl)) dL_law_964 ⟨hC, hSl⟩) hP hD hS hA (fun H locs hP hD hS => ?_)
  refine W.eq (g2 := F0 m 967 ls [.long r, .long r]) rfl ?_
  refine W.lcmp hx hb dL_law_967 ?_
  refine lv_if_eq (tgt := 1413) hx hb dL_law_968 (by decide) (fun _ => ?_) (fun cc => absurd (px_cmp r) cc)
  exact fin _ _ _ _ hI2 hP hD hS
set_option maxHeartbeats 4000000 in
set_option maxRecDepth 100000 in
theorem lwc_best {p : Program} {l : Launch} {e : Env} {s : State} {m : MethodId} {below : List Frame} {meth : Method} {c : Code} {Q : State → Prop} (dC : Nat → ClassId) (dI : Nat → Nat → Nat) (cyI cyZ cyJ cyB cyO : ClassId) (sK sV tS : Nat → Nat) (b L C S : Nat) (xs : Nat → Int32) (I : Nat → Nat → va_W → va_W → Prop) (hx : p.tables.exec = Jvm.exec) (hb : c.code = cL_law) (hml : c.maxLocals = 4) (hts : ∀ w ∈ wsL_law, w.before #[Value.ref b] s = true) (hown : s.vm.findClass RL = some m.cls) (hX : va_X b L xs s s.heap) (hbl : b < s.heap.size) (hK : va_K (dC, dI) vwCl (px_TY cyI cyZ cyJ cyB cyO) s) (hN : px_NW s) (hG : px_SG sK sV tS (fun q : Nat => s.heap.size ≤ q) s s.heap) (hC : C ≤ 600000) (hSl : S ≤ 7302250) (hrx : ∀ hx hm WX WM, I hx hm WX WM → ∃ fs, WX[0]? = some (hx, .inr (10, fs))) (hrm : ∀ hx hm WX WM, I hx hm WX WM → ∃ fs, WM[0]? = some (hm, .inr (11, fs))) (h_st : sm_best l sK sV tS dC dI cyI cyZ cyJ cyB cyO I) (zx zm : Nat) (WX WM : va_W) (hI : I zx zm WX WM) (x3 : Int32) (h0 : vp_in x3 L) (h1 : vp_in (x3 + 1) L) (h2 : vp_in (x3 + 2) L) (h3 : vp_in (x3 + 3) L) (h4 : vp_in (x3 + 4) L) (ls : Array Slot) (fin : ∀ (H : Heap) (locs : List Loc) (WX2 WM2 : va_W), I zx zm WX2 WM2 → va_P (dC, dI) vwCl (WX2 ++ WM2) H → va_D (fun q : Nat => s.heap.size ≤ q) (WX2 ++ WM2) → va_S (fun q : Nat => s.heap.size ≤ q) s.heap H locs → W p l e room_1 s m #[Value.ref b] below meth c H locs C S Q (F0 m 1413 ls [])) (H : Heap) (locs : List Loc) (hP : va_P (dC, dI) vwCl (WX ++ WM) H) (hD : va_D (fun q : Nat => s.heap.size ≤ q) (WX ++ WM)) (hS : va_S (fun q : Nat => s.heap.size ≤ q) s.heap H locs) (hl : lv_has ls 4 [(3, .int x3), (2, .ref zm), (1, .ref zx), (0, .ref b)]) : W p l e room_1 s m #[Value.ref b] below meth c H locs C S Q (F0 m 973 ls []) := by
  have hA : ∀ q : Nat, s.heap.size ≤ q → (fun q : Nat => s.heap.size ≤ q) q := fun _ h => h
  have hbA : ¬ (fun q : Nat => s.heap.size ≤ q) b := Nat.not_le.mpr hbl
  refine lv_aload_n hx hb dL_law_973 rfl (lv_at hl 2 rfl) ?_
  refine lv_aload_n hx hb dL_law_974 rfl (lv_at hl 3 rfl) ?_
  refine lv_iload_n hx hb dL_law_975 rfl (lv_at hl 0 rfl) ?_
  refine lv_iconst (v := (1 : Int32)) hx hb dL_law_976 (by decide) ?_
  refine lv_iadd hx hb dL_law_977 ?_
  refine va_sld hx hb hX hbl hbA hS h1 dL_law_978 ?_
  obtain ⟨r, WX2, WM2, k1, k2, hI2⟩ := h_st zx zm WX WM ((xs (Int32.toNatClampNeg (x3 + (1 : Int32))))) hI
  obtain ⟨fx, hfx⟩ := hrx _ _ _ _ hI
  obtain ⟨fm, hfm⟩ := hrm _ _ _ _ hI
  refine px_callL (w1' := WX2) (va_runV (As := [.int (xs (Int32.toNatClampNeg (x3 + (1 : Int32))))]) (rest := []) ⟨hx, hb, hml, hown, hts⟩ (k1 H.size) (cwV 1 hts gL_law_X10_best rfl rfl rfl hvX10_best ⟨Nat.le_of_ble_eq_true rfl, Nat.le_of_ble_eq_true rfl⟩) (px_preL (ci := 10) hK hN hP hD rfl hfx) rfl rfl hl.1 rfl (lv_room (Nat.le_of_ble_eq_true rfl)) dL_law_979 ⟨hC, hSl⟩) hP hD hS hA (fun H locs hP hD hS => ?_)
  refine W.eq (g2 := F0 m 982 ls [.int r]) rfl ?_
  refine lv_aload_n hx hb dL_law_982 rfl (lv_at hl 1 rfl) ?_
  refine lv_aload_n hx hb dL_law_983 rfl (lv_at hl 3 rfl) ?_
  refine lv_iload_n hx hb dL_law_984 rfl (lv_at hl 0 rfl) ?_
  refine lv_iconst (v := (1 : Int32)) hx hb dL_law_985 (by decide) ?_
  refine lv_iadd hx hb dL_law_986 ?_
  refine va_sld hx hb hX hbl hbA hS h1 dL_law_987 ?_
  refine px_callY (w2' := WM2) (va_runV (As := [.int (xs (Int32.toNatClampNeg (x3 + (1 : Int32))))]) (rest := [.int r]) ⟨hx, hb, hml, hown, hts⟩ (k2 H.size) (cwV 1 hts gL_law_X11_best rfl rfl rfl hvX11_best ⟨Nat.le_of_ble_eq_true rfl, Nat.le_of_ble_eq_true rfl⟩) (px_preY (ci := 11) hK hN hP hD rfl hfm) rfl rfl hl.1 rfl (lv_room (Nat.le_of_ble_eq_true rfl)) dL_law_988 ⟨hC, hSl⟩) hP hD hS hA (fun H locs hP hD hS => ?_)
  refine W.eq (g2 := F0 m 991 ls [.int r, .int r]) rfl ?_
  refine lv_icmp_eq (tgt := 1413) hx hb dL_law_991 (by decide) (fun _ => ?_) (fun cc => absurd rfl cc)
  exact fin _ _ _ _ hI2 hP hD hS
set_option maxHeartbeats 4000000 in
set_option maxRecDepth 100000 in
theorem lwc_guess {p : Program} {l : Launch} {e : Env} {s : State} {m : MethodId} {below : List Frame} {meth : Method} {c : Code} {Q : State → Prop} (dC : Nat → ClassId) (dI : Nat → Nat → Nat) (cyI cyZ cyJ cyB cyO : ClassId) (sK sV tS : Nat → Nat) (b L C S : Nat) (xs : Nat → Int32) (I : Nat → Nat → va_W → va_W → Prop) (hx : p.tables.exec = Jvm.exec) (hb : c.code = cL_law) (hml : c.maxLocals = 4) (hts : ∀ w ∈ wsL_law, w.before #[Value.ref b] s = true) (hown : s.vm.findClass RL = some m.cls) (hX : va_X b L xs s s.heap) (hbl : b < s.heap.size) (hK : va_K (dC, dI) vwCl (px_TY cyI cyZ cyJ cyB cyO) s) (hN : px_NW s) (hG : px_SG sK sV tS (fun q : Nat => s.heap.size ≤ q) s s.heap) (hC : C ≤ 600000) (hSl : S ≤ 7302250) (hrx : ∀ hx hm WX WM, I hx hm WX WM → ∃ fs, WX[0]? = some (hx, .inr (10, fs))) (hrm : ∀ hx hm WX WM, I hx hm WX WM → ∃ fs, WM[0]? = some (hm, .inr (11, fs))) (h_st : sm_guess l sK sV tS dC dI cyI cyZ cyJ cyB cyO I) (zx zm : Nat) (WX WM : va_W) (hI : I zx zm WX WM) (x3 : Int32) (h0 : vp_in x3 L) (h1 : vp_in (x3 + 1) L) (h2 : vp_in (x3 + 2) L) (h3 : vp_in (x3 + 3) L) (h4 : vp_in (x3 + 4) L) (ls : Array Slot) (fin : ∀ (H : Heap) (locs : List Loc) (WX2 WM2 : va_W), I zx zm WX2 WM2 → va_P (dC, dI) vwCl (WX2 ++ WM2) H → va_D (fun q : Nat => s.heap.size ≤ q) (WX2 ++ WM2) → va_S (fun q : Nat => s.heap.size ≤ q) s.heap H locs → W p l e room_1 s m #[Value.ref b] below meth c H locs C S Q (F0 m 1413 ls [])) (H : Heap) (locs : List Loc) (hP : va_P (dC, dI) vwCl (WX ++ WM) H) (hD : va_D (fun q : Nat => s.heap.size ≤ q) (WX ++ WM)) (hS : va_S (fun q : Nat => s.heap.size ≤ q) s.heap H locs) (hl : lv_has ls 4 [(3, .int x3), (2, .ref zm), (1, .ref zx), (0, .ref b)]) : W p l e room_1 s m #[Value.ref b] below meth c H locs C S Q (F0 m 996 ls []) := by
  have hA : ∀ q : Nat, s.heap.size ≤ q → (fun q : Nat => s.heap.size ≤ q) q := fun _ h => h
  have hbA : ¬ (fun q : Nat => s.heap.size ≤ q) b := Nat.not_le.mpr hbl
  refine lv_aload_n hx hb dL_law_996 rfl (lv_at hl 2 rfl) ?_
  refine lv_aload_n hx hb dL_law_997 rfl (lv_at hl 3 rfl) ?_
  refine lv_iload_n hx hb dL_law_998 rfl (lv_at hl 0 rfl) ?_
  refine lv_iconst (v := (1 : Int32)) hx hb dL_law_999 (by decide) ?_
  refine lv_iadd hx hb dL_law_1000 ?_
  refine va_sld hx hb hX hbl hbA hS h1 dL_law_1001 ?_
  refine lv_aload_n hx hb dL_law_1002 rfl (lv_at hl 3 rfl) ?_
  refine lv_iload_n hx hb dL_law_1003 rfl (lv_at hl 0 rfl) ?_
  refine lv_iconst (v := (2 : Int32)) hx hb dL_law_1004 (by decide) ?_
  refine lv_iadd hx hb dL_law_1005 ?_
  refine va_sld hx hb hX hbl hbA hS h2 dL_law_1006 ?_
  refine lv_aload_n hx hb dL_law_1007 rfl (lv_at hl 3 rfl) ?_
  refine lv_iload_n hx hb dL_law_1008 rfl (lv_at hl 0 rfl) ?_
  refine lv_iconst (v := (3 : Int32)) hx hb dL_law_1009 (by decide) ?_
  refine lv_iadd hx hb dL_law_1010 ?_
  refine va_sld hx hb hX hbl hbA hS h3 dL_law_1011 ?_
  obtain ⟨r, WX2, WM2, k1, k2, hI2⟩ := h_st zx zm WX WM ((xs (Int32.toNatClampNeg (x3 + (1 : Int32))))) ((xs (Int32.toNatClampNeg (x3 + (2 : Int32))))) ((xs (Int32.toNatClampNeg (x3 + (3 : Int32))))) hI
  obtain ⟨fx, hfx⟩ := hrx _ _ _ _ hI
  obtain ⟨fm, hfm⟩ := hrm _ _ _ _ hI
  refine px_callL (w1' := WX2) (va_runV (As := [.int (xs (Int32.toNatClampNeg (x3 + (1 : Int32)))), .int (xs (Int32.toNatClampNeg (x3 + (2 : Int32)))), .int (xs (Int32.toNatClampNeg (x3 + (3 : Int32))))]) (rest := []) ⟨hx, hb, hml, hown, hts⟩ (k1 H.size) (cwV 3 hts gL_law_X10_guess rfl rfl rfl hvX10_guess ⟨Nat.le_of_ble_eq_true rfl, Nat.le_of_ble_eq_true rfl⟩) (px_preL (ci := 10) hK hN hP hD rfl hfx) rfl rfl hl.1 rfl (lv_room (Nat.le_of_ble_eq_true rfl)) dL_law_1012 ⟨hC, hSl⟩) hP hD hS hA (fun H locs hP hD hS => ?_)
  refine W.eq (g2 := F0 m 1015 ls [.int r]) rfl ?_
  refine lv_aload_n hx hb dL_law_1015 rfl (lv_at hl 1 rfl) ?_
  refine lv_aload_n hx hb dL_law_1016 rfl (lv_at hl 3 rfl) ?_
  refine lv_iload_n hx hb dL_law_1017 rfl (lv_at hl 0 rfl) ?_
  refine lv_iconst (v := (1 : Int32)) hx hb dL_law_1018 (by decide) ?_
  refine lv_iadd hx hb dL_law_1019 ?_
  refine va_sld hx hb hX hbl hbA hS h1 dL_law_1020 ?_
  refine lv_aload_n hx hb dL_law_1021 rfl (lv_at hl 3 rfl) ?_
  refine lv_iload_n hx hb dL_law_1022 rfl (lv_at hl 0 rfl) ?_
  refine lv_iconst (v := (2 : Int32)) hx hb dL_law_1023 (by decide) ?_
  refine lv_iadd hx hb dL_law_1024 ?_
  refine va_sld hx hb hX hbl hbA hS h2 dL_law_1025 ?_
  refine lv_aload_n hx hb dL_law_1026 rfl (lv_at hl 3 rfl) ?_
  refine lv_iload_n hx hb dL_law_1027 rfl (lv_at hl 0 rfl) ?_
  refine lv_iconst (v := (3 : Int32)) hx hb dL_law_1028 (by decide) ?_
  refine lv_iadd hx hb dL_law_1029 ?_
  refine va_sld hx hb hX hbl hbA hS h3 dL_law_1030 ?_
  refine px_callY (w2' := WM2) (va_runV (As := [.int (xs (Int32.toNatClampNeg (x3 + (1 : Int32)))), .int (xs (Int32.toNatClampNeg (x3 + (2 : Int32)))), .int (xs (Int32.toNatClampNeg (x3 + (3 : Int32))))]) (rest := [.int r]) ⟨hx, hb, hml, hown, hts⟩ (k2 H.size) (cwV 3 hts gL_law_X11_guess rfl rfl rfl hvX11_guess ⟨Nat.le_of_ble_eq_true rfl, Nat.le_of_ble_eq_true rfl⟩) (px_preY (ci := 11) hK hN hP hD rfl hfm) rfl rfl hl.1 rfl (lv_room (Nat.le_of_ble_eq_true rfl)) dL_law_1031 ⟨hC, hSl⟩) hP hD hS hA (fun H locs hP hD hS => ?_)
  refine W.eq (g2 := F0 m 1034 ls [.int r, .int r]) rfl ?_
  refine lv_icmp_eq (tgt := 1413) hx hb dL_law_1034 (by decide) (fun _ => ?_) (fun cc => absurd rfl cc)
  exact fin _ _ _ _ hI2 hP hD hS
set_option maxHeartbeats 4000000 in
set_option maxRecDepth 100000 in
theorem lwc_ways {p : Program} {l : Launch} {e : Env} {s : State} {m : MethodId} {below : List Frame} {meth : Method} {c : Code} {Q : State → Prop} (dC : Nat → ClassId) (dI : Nat → Nat → Nat) (cyI cyZ cyJ cyB cyO : ClassId) (sK sV tS : Nat → Nat) (b L C S : Nat) (xs : Nat → Int32) (I : Nat → Nat → va_W → va_W → Prop) (hx : p.tables.exec = Jvm.exec) (hb : c.code = cL_law) (hml : c.maxLocals = 4) (hts : ∀ w ∈ wsL_law, w.before #[Value.ref b] s = true) (hown : s.vm.findClass RL = some m.cls) (hX : va_X b L xs s s.heap) (hbl : b < s.heap.size) (hK : va_K (dC, dI) vwCl (px_TY cyI cyZ cyJ cyB cyO) s) (hN : px_NW s) (hG : px_SG sK sV tS (fun q : Nat => s.heap.size ≤ q) s s.heap) (hC : C ≤ 600000) (hSl : S ≤ 7302250) (hrx : ∀ hx hm WX WM, I hx hm WX WM → ∃ fs, WX[0]? = some (hx, .inr (10, fs))) (hrm : ∀ hx hm WX WM, I hx hm WX WM → ∃ fs, WM[0]? = some (hm, .inr (11, fs))) (h_st : sm_ways l sK sV tS dC dI cyI cyZ cyJ cyB cyO I) (zx zm : Nat) (WX WM : va_W) (hI : I zx zm WX WM) (x3 : Int32) (h0 : vp_in x3 L) (h1 : vp_in (x3 + 1) L) (h2 : vp_in (x3 + 2) L) (h3 : vp_in (x3 + 3) L) (h4 : vp_in (x3 + 4) L) (ls : Array Slot) (fin : ∀ (H : Heap) (locs : List Loc) (WX2 WM2 : va_W), I zx zm WX2 WM2 → va_P (dC, dI) vwCl (WX2 ++ WM2) H → va_D (fun q : Nat => s.heap.size ≤ q) (WX2 ++ WM2) → va_S (fun q : Nat => s.heap.size ≤ q) s.heap H locs → W p l e room_1 s m #[Value.ref b] below meth c H locs C S Q (F0 m 1413 ls [])) (H : Heap) (locs : List Loc) (hP : va_P (dC, dI) vwCl (WX ++ WM) H) (hD : va_D (fun q : Nat => s.heap.size ≤ q) (WX ++ WM)) (hS : va_S (fun q : Nat => s.heap.size ≤ q) s.heap H locs) (hl : lv_has ls 4 [(3, .int x3), (2, .ref zm), (1, .ref zx), (0, .ref b)]) : W p l e room_1 s m #[Value.ref b] below meth c H locs C S Q (F0 m 1039 ls []) := by
  have hA : ∀ q : Nat, s.heap.size ≤ q → (fun q : Nat => s.heap.size ≤ q) q := fun _ h => h
  have hbA : ¬ (fun q : Nat => s.heap.size ≤ q) b := Nat.not_le.mpr hbl
  refine lv_aload_n hx hb dL_law_1039 rfl (lv_at hl 2 rfl) ?_
  refine lv_aload_n hx hb dL_law_1040 rfl (lv_at hl 3 rfl) ?_
  refine lv_iload_n hx hb dL_law_1041 rfl (lv_at hl 0 rfl) ?_
  refine lv_iconst (v := (1 : Int32)) hx hb dL_law_1042 (by decide) ?_
  refine lv_iadd hx hb dL_law_1043 ?_
  refine va_sld hx hb hX hbl hbA hS h1 dL_law_1044 ?_
  refine lv_aload_n hx hb dL_law_1045 rfl (lv_at hl 3 rfl) ?_
  refine lv_iload_n hx hb dL_law_1046 rfl (lv_at hl 0 rfl) ?_
  refine lv_iconst (v := (2 : Int32)) hx hb dL_law_1047 (by decide) ?_
  refine lv_iadd hx hb dL_law_1048 ?_
  refine va_sld hx hb hX hbl hbA hS h2 dL_law_1049 ?_
  refine lv_aload_n hx hb dL_law_1050 rfl (lv_at hl 3 rfl) ?_
  refine lv_iload_n hx hb dL_law_1051 rfl (lv_at hl 0 rfl) ?_
  refine lv_iconst (v := (3 : Int32)) hx hb dL_law_1052 (by decide) ?_
  refine lv_iadd hx hb dL_law_1053 ?_
  refine va_sld hx hb hX hbl hbA hS h3 dL_law_1054 ?_
  refine lv_aload_n hx hb dL_law_1055 rfl (lv_at hl 3 rfl) ?_
  refine lv_iload_n hx hb dL_law_1056 rfl (lv_at hl 0 rfl) ?_
  refine lv_iconst (v := (4 : Int32)) hx hb dL_law_1057 (by decide) ?_
  refine lv_iadd hx hb dL_law_1058 ?_
  refine va_sld hx hb hX hbl hbA hS h4 dL_law_1059 ?_
  obtain ⟨r, WX2, WM2, k1, k2, hI2⟩ := h_st zx zm WX WM ((xs (Int32.toNatClampNeg (x3 + (1 : Int32))))) ((xs (Int32.toNatClampNeg (x3 + (2 : Int32))))) ((xs (Int32.toNatClampNeg (x3 + (3 : Int32))))) ((xs (Int32.toNatClampNeg (x3 + (4 : Int32))))) hI
  obtain ⟨fx, hfx⟩ := hrx _ _ _ _ hI
  obtain ⟨fm, hfm⟩ := hrm _ _ _ _ hI
  refine px_callL (w1' := WX2) (va_runV (As := [.int (xs (Int32.toNatClampNeg (x3 + (1 : Int32)))), .int (xs (Int32.toNatClampNeg (x3 + (2 : Int32)))), .int (xs (Int32.toNatClampNeg (x3 + (3 : Int32)))), .int (xs (Int32.toNatClampNeg (x3 + (4 : Int32))))]) (rest := []) ⟨hx, hb, hml, hown, hts⟩ (k1 H.size) (cwV 4 hts gL_law_X10_ways rfl rfl rfl hvX10_ways ⟨Nat.le_of_ble_eq_true rfl, Nat.le_of_ble_eq_true rfl⟩) (px_preL (ci := 10) hK hN hP hD rfl hfx) rfl rfl hl.1 rfl (lv_room (Nat.le_of_ble_eq_true rfl)) dL_law_1060 ⟨hC, hSl⟩) hP hD hS hA (fun H locs hP hD hS => ?_)
  refine W.eq (g2 := F0 m 1063 ls [.long r]) rfl ?_
  refine lv_aload_n hx hb dL_law_1063 rfl (lv_at hl 1 rfl) ?_
  refine lv_aload_n hx hb dL_law_1064 rfl (lv_at hl 3 rfl) ?_
  refine lv_iload_n hx hb dL_law_1065 rfl (lv_at hl 0 rfl) ?_
  refine lv_iconst (v := (1 : Int32)) hx hb dL_law_1066 (by decide) ?_
  refine lv_iadd hx hb dL_law_1067 ?_
  refine va_sld hx hb hX hbl hbA hS h1 dL_law_1068 ?_
  refine lv_aload_n hx hb dL_law_1069 rfl (lv_at hl 3 rfl) ?_
  refine lv_iload_n hx hb dL_law_1070 rfl (lv_at hl 0 rfl) ?_
  refine lv_iconst (v := (2 : Int32)) hx hb dL_law_1071 (by decide) ?_
  refine lv_iadd hx hb dL_law_1072 ?_
  refine va_sld hx hb hX hbl hbA hS h2 dL_law_1073 ?_
  refine lv_aload_n hx hb dL_law_1074 rfl (lv_at hl 3 rfl) ?_
  refine lv_iload_n hx hb dL_law_1075 rfl (lv_at hl 0 rfl) ?_
  refine lv_iconst (v := (3 : Int32)) hx hb dL_law_1076 (by decide) ?_
  refine lv_iadd hx hb dL_law_1077 ?_
  refine va_sld hx hb hX hbl hbA hS h3 dL_law_1078 ?_
  refine lv_aload_n hx hb dL_law_1079 rfl (lv_at hl 3 rfl) ?_
  refine lv_iload_n hx hb dL_law_1080 rfl (lv_at hl 0 rfl) ?_
  refine lv_iconst (v := (4 : Int32)) hx hb dL_law_1081 (by decide) ?_
  refine lv_iadd hx hb dL_law_1082 ?_
  refine va_sld hx hb hX hbl hbA hS h4 dL_law_1083 ?_
  refine px_callY (w2' := WM2) (va_runV (As := [.int (xs (Int32.toNatClampNeg (x3 + (1 : Int32)))), .int (xs (Int32.toNatClampNeg (x3 + (2 : Int32)))), .int (xs (Int32.toNatClampNeg (x3 + (3 : Int32)))), .int (xs (Int32.toNatClampNeg (x3 + (4 : Int32))))]) (rest := [.long r]) ⟨hx, hb, hml, hown, hts⟩ (k2 H.size) (cwV 4 hts gL_law_X11_ways rfl rfl rfl hvX11_ways ⟨Nat.le_of_ble_eq_true rfl, Nat.le_of_ble_eq_true rfl⟩) (px_preY (ci := 11) hK hN hP hD rfl hfm) rfl rfl hl.1 rfl (lv_room (Nat.le_of_ble_eq_true rfl)) dL_law_1084 ⟨hC, hSl⟩) hP hD hS hA (fun H locs hP hD hS => ?_)
  refine W.eq (g2 := F0 m 1087 ls [.long r, .long r]) rfl ?_
  refine W.lcmp hx hb dL_law_1087 ?_
  refine lv_if_eq (tgt := 1413) hx hb dL_law_1088 (by decide) (fun _ => ?_) (fun cc => absurd (px_cmp r) cc)
  exact fin _ _ _ _ hI2 hP hD hS
set_option maxHeartbeats 4000000 in
set_option maxRecDepth 100000 in
theorem lwc_know {p : Program} {l : Launch} {e : Env} {s : State} {m : MethodId} {below : List Frame} {meth : Method} {c : Code} {Q : State → Prop} (dC : Nat → ClassId) (dI : Nat → Nat → Nat) (cyI cyZ cyJ cyB cyO : ClassId) (sK sV tS : Nat → Nat) (b L C S : Nat) (xs : Nat → Int32) (I : Nat → Nat → va_W → va_W → Prop) (hx : p.tables.exec = Jvm.exec) (hb : c.code = cL_law) (hml : c.maxLocals = 4) (hts : ∀ w ∈ wsL_law, w.before #[Value.ref b] s = true) (hown : s.vm.findClass RL = some m.cls) (hX : va_X b L xs s s.heap) (hbl : b < s.heap.size) (hK : va_K (dC, dI) vwCl (px_TY cyI cyZ cyJ cyB cyO) s) (hN : px_NW s) (hG : px_SG sK sV tS (fun q : Nat => s.heap.size ≤ q) s s.heap) (hC : C ≤ 600000) (hSl : S ≤ 7302250) (hrx : ∀ hx hm WX WM, I hx hm WX WM → ∃ fs, WX[0]? = some (hx, .inr (10, fs))) (hrm : ∀ hx hm WX WM, I hx hm WX WM → ∃ fs, WM[0]? = some (hm, .inr (11, fs))) (h_st : sm_know l sK sV tS dC dI cyI cyZ cyJ cyB cyO I) (zx zm : Nat) (WX WM : va_W) (hI : I zx zm WX WM) (x3 : Int32) (h0 : vp_in x3 L) (h1 : vp_in (x3 + 1) L) (h2 : vp_in (x3 + 2) L) (h3 : vp_in (x3 + 3) L) (h4 : vp_in (x3 + 4) L) (ls : Array Slot) (fin : ∀ (H : Heap) (locs : List Loc) (WX2 WM2 : va_W), I zx zm WX2 WM2 → va_P (dC, dI) vwCl (WX2 ++ WM2) H → va_D (fun q : Nat => s.heap.size ≤ q) (WX2 ++ WM2) → va_S (fun q : Nat => s.heap.size ≤ q) s.heap H locs → W p l e room_1 s m #[Value.ref b] below meth c H locs C S Q (F0 m 1413 ls [])) (H : Heap) (locs : List Loc) (hP : va_P (dC, dI) vwCl (WX ++ WM) H) (hD : va_D (fun q : Nat => s.heap.size ≤ q) (WX ++ WM)) (hS : va_S (fun q : Nat => s.heap.size ≤ q) s.heap H locs) (hl : lv_has ls 4 [(3, .int x3), (2, .ref zm), (1, .ref zx), (0, .ref b)]) : W p l e room_1 s m #[Value.ref b] below meth c H locs C S Q (F0 m 1093 ls []) := by
  have hA : ∀ q : Nat, s.heap.size ≤ q → (fun q : Nat => s.heap.size ≤ q) q := fun _ h => h
  have hbA : ¬ (fun q : Nat => s.heap.size ≤ q) b := Nat.not_le.mpr hbl
  refine lv_aload_n hx hb dL_law_1093 rfl (lv_at hl 2 rfl) ?_
  refine lv_aload_n hx hb dL_law_1094 rfl (lv_at hl 3 rfl) ?_
  refine lv_iload_n hx hb dL_law_1095 rfl (lv_at hl 0 rfl) ?_
  refine lv_iconst (v := (1 : Int32)) hx hb dL_law_1096 (by decide) ?_
  refine lv_iadd hx hb dL_law_1097 ?_
  refine va_sld hx hb hX hbl hbA hS h1 dL_law_1098 ?_
  obtain ⟨r, WX2, WM2, k1, k2, hI2⟩ := h_st zx zm WX WM ((xs (Int32.toNatClampNeg (x3 + (1 : Int32))))) hI
  obtain ⟨fx, hfx⟩ := hrx _ _ _ _ hI
  obtain ⟨fm, hfm⟩ := hrm _ _ _ _ hI
  refine px_callL (w1' := WX2) (va_runV (As := [.int (xs (Int32.toNatClampNeg (x3 + (1 : Int32))))]) (rest := []) ⟨hx, hb, hml, hown, hts⟩ (k1 H.size) (cwV 1 hts gL_law_X10_know rfl rfl rfl hvX10_know ⟨Nat.le_of_ble_eq_true rfl, Nat.le_of_ble_eq_true rfl⟩) (px_preL (ci := 10) hK hN hP hD rfl hfx) rfl rfl hl.1 rfl (lv_room (Nat.le_of_ble_eq_true rfl)) dL_law_1099 ⟨hC, hSl⟩) hP hD hS hA (fun H locs hP hD hS => ?_)
  refine W.eq (g2 := F0 m 1102 ls [.int r]) rfl ?_
  refine lv_aload_n hx hb dL_law_1102 rfl (lv_at hl 1 rfl) ?_
  refine lv_aload_n hx hb dL_law_1103 rfl (lv_at hl 3 rfl) ?_
  refine lv_iload_n hx hb dL_law_1104 rfl (lv_at hl 0 rfl) ?_
  refine lv_iconst (v := (1 : Int32)) hx hb dL_law_1105 (by decide) ?_
  refine lv_iadd hx hb dL_law_1106 ?_
  refine va_sld hx hb hX hbl hbA hS h1 dL_law_1107 ?_
  refine px_callY (w2' := WM2) (va_runV (As := [.int (xs (Int32.toNatClampNeg (x3 + (1 : Int32))))]) (rest := [.int r]) ⟨hx, hb, hml, hown, hts⟩ (k2 H.size) (cwV 1 hts gL_law_X11_know rfl rfl rfl hvX11_know ⟨Nat.le_of_ble_eq_true rfl, Nat.le_of_ble_eq_true rfl⟩) (px_preY (ci := 11) hK hN hP hD rfl hfm) rfl rfl hl.1 rfl (lv_room (Nat.le_of_ble_eq_true rfl)) dL_law_1108 ⟨hC, hSl⟩) hP hD hS hA (fun H locs hP hD hS => ?_)
  refine W.eq (g2 := F0 m 1111 ls [.int r, .int r]) rfl ?_
  refine lv_icmp_eq (tgt := 1413) hx hb dL_law_1111 (by decide) (fun _ => ?_) (fun cc => absurd rfl cc)
  exact fin _ _ _ _ hI2 hP hD hS
set_option maxHeartbeats 4000000 in
set_option maxRecDepth 100000 in
theorem lwc_forget {p : Program} {l : Launch} {e : Env} {s : State} {m : MethodId} {below : List Frame} {meth : Method} {c : Code} {Q : State → Prop} (dC : Nat → ClassId) (dI : Nat → Nat → Nat) (cyI cyZ cyJ cyB cyO : ClassId) (sK sV tS : Nat → Nat) (b L C S : Nat) (xs : Nat → Int32) (I : Nat → Nat → va_W → va_W → Prop) (hx : p.tables.exec = Jvm.exec) (hb : c.code = cL_law) (hml : c.maxLocals = 4) (hts : ∀ w ∈ wsL_law, w.before #[Value.ref b] s = true) (hown : s.vm.findClass RL = some m.cls) (hX : va_X b L xs s s.heap) (hbl : b < s.heap.size) (hK : va_K (dC, dI) vwCl (px_TY cyI cyZ cyJ cyB cyO) s) (hN : px_NW s) (hG : px_SG sK sV tS (fun q : Nat => s.heap.size ≤ q) s s.heap) (hC : C ≤ 600000) (hSl : S ≤ 7302250) (hrx : ∀ hx hm WX WM, I hx hm WX WM → ∃ fs, WX[0]? = some (hx, .inr (10, fs))) (hrm : ∀ hx hm WX WM, I hx hm WX WM → ∃ fs, WM[0]? = some (hm, .inr (11, fs))) (h_st : sm_forget l sK sV tS dC dI cyI cyZ cyJ cyB cyO I) (zx zm : Nat) (WX WM : va_W) (hI : I zx zm WX WM) (x3 : Int32) (h0 : vp_in x3 L) (h1 : vp_in (x3 + 1) L) (h2 : vp_in (x3 + 2) L) (h3 : vp_in (x3 + 3) L) (h4 : vp_in (x3 + 4) L) (ls : Array Slot) (fin : ∀ (H : Heap) (locs : List Loc) (WX2 WM2 : va_W), I zx zm WX2 WM2 → va_P (dC, dI) vwCl (WX2 ++ WM2) H → va_D (fun q : Nat => s.heap.size ≤ q) (WX2 ++ WM2) → va_S (fun q : Nat => s.heap.size ≤ q) s.heap H locs → W p l e room_1 s m #[Value.ref b] below meth c H locs C S Q (F0 m 1413 ls [])) (H : Heap) (locs : List Loc) (hP : va_P (dC, dI) vwCl (WX ++ WM) H) (hD : va_D (fun q : Nat => s.heap.size ≤ q) (WX ++ WM)) (hS : va_S (fun q : Nat => s.heap.size ≤ q) s.heap H locs) (hl : lv_has ls 4 [(3, .int x3), (2, .ref zm), (1, .ref zx), (0, .ref b)]) : W p l e room_1 s m #[Value.ref b] below meth c H locs C S Q (F0 m 1116 ls []) := by
  have hA : ∀ q : Nat, s.heap.size ≤ q → (fun q : Nat => s.heap.size ≤ q) q := fun _ h => h
  have hbA : ¬ (fun q : Nat => s.heap.size ≤ q) b := Nat.not_le.mpr hbl
  refine lv_aload_n hx hb dL_law_1116 rfl (lv_at hl 2 rfl) ?_
  obtain ⟨r, WX2, WM2, k1, k2, hI2⟩ := h_st zx zm WX WM hI
  obtain ⟨fx, hfx⟩ := hrx _ _ _ _ hI
  obtain ⟨fm, hfm⟩ := hrm _ _ _ _ hI
  refine px_callL (w1' := WX2) (va_runV (As := []) (rest := []) ⟨hx, hb, hml, hown, hts⟩ (k1 H.size) (cwV 0 hts gL_law_X10_forget rfl rfl rfl hvX10_forget ⟨Nat.le_of_ble_eq_true rfl, Nat.le_of_ble_eq_true rfl⟩) (px_preL (ci := 10) hK hN hP hD rfl hfx) rfl rfl hl.1 rfl (lv_room (Nat.le_of_ble_eq_true rfl)) dL_law_1117 ⟨hC, hSl⟩) hP hD hS hA (fun H locs hP hD hS => ?_)
  refine W.eq (g2 := F0 m 1120 ls [.int r]) rfl ?_
  refine lv_aload_n hx hb dL_law_1120 rfl (lv_at hl 1 rfl) ?_
  refine px_callY (w2' := WM2) (va_runV (As := []) (rest := [.int r]) ⟨hx, hb, hml, hown, hts⟩ (k2 H.size) (cwV 0 hts gL_law_X11_forget rfl rfl rfl hvX11_forget ⟨Nat.le_of_ble_eq_true rfl, Nat.le_of_ble_eq_true rfl⟩) (px_preY (ci := 11) hK hN hP hD rfl hfm) rfl rfl hl.1 rfl (lv_room (Nat.le_of_ble_eq_true rfl)) dL_law_1121 ⟨hC, hSl⟩) hP hD hS hA (fun H locs hP hD hS => ?_)
  refine W.eq (g2 := F0 m 1124 ls [.int r, .int r]) rfl ?_
  refine lv_icmp_eq (tgt := 1413) hx hb dL_law_1124 (by decide) (fun _ => ?_) (fun cc => absurd rfl cc)
  exact fin _ _ _ _ hI2 hP hD hS
set_option maxHeartbeats 4000000 in
set_option maxRecDepth 100000 in
theorem lwc_missing {p : Program} {l : Launch} {e : Env} {s : State} {m : MethodId} {below : List Frame} {meth : Method} {c : Code} {Q : State → Prop} (dC : Nat → ClassId) (dI : Nat → Nat → Nat) (cyI cyZ cyJ cyB cyO : ClassId) (sK sV tS : Nat → Nat) (b L C S : Nat) (xs : Nat → Int32) (I : Nat → Nat → va_W → va_W → Prop) (hx : p.tables.exec = Jvm.exec) (hb : c.code = cL_law) (hml : c.maxLocals = 4) (hts : ∀ w ∈ wsL_law, w.before #[Value.ref b] s = true) (hown : s.vm.findClass RL = some m.cls) (hX : va_X b L xs s s.heap) (hbl : b < s.heap.size) (hK : va_K (dC, dI) vwCl (px_TY cyI cyZ cyJ cyB cyO) s) (hN : px_NW s) (hG : px_SG sK sV tS (fun q : Nat => s.heap.size ≤ q) s s.heap) (hC : C ≤ 600000) (hSl : S ≤ 7302250) (hrx : ∀ hx hm WX WM, I hx hm WX WM → ∃ fs, WX[0]? = some (hx, .inr (10, fs))) (hrm : ∀ hx hm WX WM, I hx hm WX WM → ∃ fs, WM[0]? = some (hm, .inr (11, fs))) (h_st : sm_missing l sK sV tS dC dI cyI cyZ cyJ cyB cyO I) (zx zm : Nat) (WX WM : va_W) (hI : I zx zm WX WM) (x3 : Int32) (h0 : vp_in x3 L) (h1 : vp_in (x3 + 1) L) (h2 : vp_in (x3 + 2) L) (h3 : vp_in (x3 + 3) L) (h4 : vp_in (x3 + 4) L) (ls : Array Slot) (fin : ∀ (H : Heap) (locs : List Loc) (WX2 WM2 : va_W), I zx zm WX2 WM2 → va_P (dC, dI) vwCl (WX2 ++ WM2) H → va_D (fun q : Nat => s.heap.size ≤ q) (WX2 ++ WM2) → va_S (fun q : Nat => s.heap.size ≤ q) s.heap H locs → W p l e room_1 s m #[Value.ref b] below meth c H locs C S Q (F0 m 1413 ls [])) (H : Heap) (locs : List Loc) (hP : va_P (dC, dI) vwCl (WX ++ WM) H) (hD : va_D (fun q : Nat => s.heap.size ≤ q) (WX ++ WM)) (hS : va_S (fun q : Nat => s.heap.size ≤ q) s.heap H locs) (hl : lv_has ls 4 [(3, .int x3), (2, .ref zm), (1, .ref zx), (0, .ref b)]) : W p l e room_1 s m #[Value.ref b] below meth c H locs C S Q (F0 m 1129 ls []) := by
  have hA : ∀ q : Nat, s.heap.size ≤ q → (fun q : Nat => s.heap.size ≤ q) q := fun _ h => h
  have hbA : ¬ (fun q : Nat => s.heap.size ≤ q) b := Nat.not_le.mpr hbl
  refine lv_aload_n hx hb dL_law_1129 rfl (lv_at hl 2 rfl) ?_
  refine lv_aload_n hx hb dL_law_1130 rfl (lv_at hl 3 rfl) ?_
  refine lv_iload_n hx hb dL_law_1131 rfl (lv_at hl 0 rfl) ?_
  refine lv_iconst (v := (1 : Int32)) hx hb dL_law_1132 (by decide) ?_
  refine lv_iadd hx hb dL_law_1133 ?_
  refine va_sld hx hb hX hbl hbA hS h1 dL_law_1134 ?_
  refine lv_aload_n hx hb dL_law_1135 rfl (lv_at hl 3 rfl) ?_
  refine lv_iload_n hx hb dL_law_1136 rfl (lv_at hl 0 rfl) ?_
  refine lv_iconst (v := (2 : Int32)) hx hb dL_law_1137 (by decide) ?_
  refine lv_iadd hx hb dL_law_1138 ?_
  refine va_sld hx hb hX hbl hbA hS h2 dL_law_1139 ?_
  refine lv_aload_n hx hb dL_law_1140 rfl (lv_at hl 3 rfl) ?_
  refine lv_iload_n hx hb dL_law_1141 rfl (lv_at hl 0 rfl) ?_
  refine lv_iconst (v := (3 : Int32)) hx hb dL_law_1142 (by decide) ?_
  refine lv_iadd hx hb dL_law_1143 ?_
  refine va_sld hx hb hX hbl hbA hS h3 dL_law_1144 ?_
  obtain ⟨r, WX2, WM2, k1, k2, hI2⟩ := h_st zx zm WX WM ((xs (Int32.toNatClampNeg (x3 + (1 : Int32))))) ((xs (Int32.toNatClampNeg (x3 + (2 : Int32))))) ((xs (Int32.toNatClampNeg (x3 + (3 : Int32))))) hI
  obtain ⟨fx, hfx⟩ := hrx _ _ _ _ hI
  obtain ⟨fm, hfm⟩ := hrm _ _ _ _ hI
  refine px_callL (w1' := WX2) (va_runV (As := [.int (xs (Int32.toNatClampNeg (x3 + (1 : Int32)))), .int (xs (Int32.toNatClampNeg (x3 + (2 : Int32)))), .int (xs (Int32.toNatClampNeg (x3 + (3 : Int32))))]) (rest := []) ⟨hx, hb, hml, hown, hts⟩ (k1 H.size) (cwV 3 hts gL_law_X10_missing rfl rfl rfl hvX10_missing ⟨Nat.le_of_ble_eq_true rfl, Nat.le_of_ble_eq_true rfl⟩) (px_preL (ci := 10) hK hN hP hD rfl hfx) rfl rfl hl.1 rfl (lv_room (Nat.le_of_ble_eq_true rfl)) dL_law_1145 ⟨hC, hSl⟩) hP hD hS hA (fun H locs hP hD hS => ?_)
  refine W.eq (g2 := F0 m 1148 ls [.int r]) rfl ?_
  refine lv_aload_n hx hb dL_law_1148 rfl (lv_at hl 1 rfl) ?_
  refine lv_aload_n hx hb dL_law_1149 rfl (lv_at hl 3 rfl) ?_
  refine lv_iload_n hx hb dL_law_1150 rfl (lv_at hl 0 rfl) ?_
  refine lv_iconst (v := (1 : Int32)) hx hb dL_law_1151 (by decide) ?_
  refine lv_iadd hx hb dL_law_1152 ?_
  refine va_sld hx hb hX hbl hbA hS h1 dL_law_1153 ?_
  refine lv_aload_n hx hb dL_law_1154 rfl (lv_at hl 3 rfl) ?_
  refine lv_iload_n hx hb dL_law_1155 rfl (lv_at hl 0 rfl) ?_
  refine lv_iconst (v := (2 : Int32)) hx hb dL_law_1156 (by decide) ?_
  refine lv_iadd hx hb dL_law_1157 ?_
  refine va_sld hx hb hX hbl hbA hS h2 dL_law_1158 ?_
  refine lv_aload_n hx hb dL_law_1159 rfl (lv_at hl 3 rfl) ?_
  refine lv_iload_n hx hb dL_law_1160 rfl (lv_at hl 0 rfl) ?_
  refine lv_iconst (v := (3 : Int32)) hx hb dL_law_1161 (by decide) ?_
  refine lv_iadd hx hb dL_law_1162 ?_
  refine va_sld hx hb hX hbl hbA hS h3 dL_law_1163 ?_
  refine px_callY (w2' := WM2) (va_runV (As := [.int (xs (Int32.toNatClampNeg (x3 + (1 : Int32)))), .int (xs (Int32.toNatClampNeg (x3 + (2 : Int32)))), .int (xs (Int32.toNatClampNeg (x3 + (3 : Int32))))]) (rest := [.int r]) ⟨hx, hb, hml, hown, hts⟩ (k2 H.size) (cwV 3 hts gL_law_X11_missing rfl rfl rfl hvX11_missing ⟨Nat.le_of_ble_eq_true rfl, Nat.le_of_ble_eq_true rfl⟩) (px_preY (ci := 11) hK hN hP hD rfl hfm) rfl rfl hl.1 rfl (lv_room (Nat.le_of_ble_eq_true rfl)) dL_law_1164 ⟨hC, hSl⟩) hP hD hS hA (fun H locs hP hD hS => ?_)
  refine W.eq (g2 := F0 m 1167 ls [.int r, .int r]) rfl ?_
  refine lv_icmp_eq (tgt := 1413) hx hb dL_law_1167 (by decide) (fun _ => ?_) (fun cc => absurd rfl cc)
  exact fin _ _ _ _ hI2 hP hD hS
set_option maxHeartbeats 4000000 in
set_option maxRecDepth 100000 in
theorem lwc_seen {p : Program} {l : Launch} {e : Env} {s : State} {m : MethodId} {below : List Frame} {meth : Method} {c : Code} {Q : State → Prop} (dC : Nat → ClassId) (dI : Nat → Nat → Nat) (cyI cyZ cyJ cyB cyO : ClassId) (sK sV tS : Nat → Nat) (b L C S : Nat) (xs : Nat → Int32) (I : Nat → Nat → va_W → va_W → Prop) (hx : p.tables.exec = Jvm.exec) (hb : c.code = cL_law) (hml : c.maxLocals = 4) (hts : ∀ w ∈ wsL_law, w.before #[Value.ref b] s = true) (hown : s.vm.findClass RL = some m.cls) (hX : va_X b L xs s s.heap) (hbl : b < s.heap.size) (hK : va_K (dC, dI) vwCl (px_TY cyI cyZ cyJ cyB cyO) s) (hN : px_NW s) (hG : px_SG sK sV tS (fun q : Nat => s.heap.size ≤ q) s s.heap) (hC : C ≤ 600000) (hSl : S ≤ 7302250) (hrx : ∀ hx hm WX WM, I hx hm WX WM → ∃ fs, WX[0]? = some (hx, .inr (10, fs))) (hrm : ∀ hx hm WX WM, I hx hm WX WM → ∃ fs, WM[0]? = some (hm, .inr (11, fs))) (h_st : sm_seen l sK sV tS dC dI cyI cyZ cyJ cyB cyO I) (zx zm : Nat) (WX WM : va_W) (hI : I zx zm WX WM) (x3 : Int32) (h0 : vp_in x3 L) (h1 : vp_in (x3 + 1) L) (h2 : vp_in (x3 + 2) L) (h3 : vp_in (x3 + 3) L) (h4 : vp_in (x3 + 4) L) (ls : Array Slot) (fin : ∀ (H : Heap) (locs : List Loc) (WX2 WM2 : va_W), I zx zm WX2 WM2 → va_P (dC, dI) vwCl (WX2 ++ WM2) H → va_D (fun q : Nat => s.heap.size ≤ q) (WX2 ++ WM2) → va_S (fun q : Nat => s.heap.size ≤ q) s.heap H locs → W p l e room_1 s m #[Value.ref b] below meth c H locs C S Q (F0 m 1413 ls [])) (H : Heap) (locs : List Loc) (hP : va_P (dC, dI) vwCl (WX ++ WM) H) (hD : va_D (fun q : Nat => s.heap.size ≤ q) (WX ++ WM)) (hS : va_S (fun q : Nat => s.heap.size ≤ q) s.heap H locs) (hl : lv_has ls 4 [(3, .int x3), (2, .ref zm), (1, .ref zx), (0, .ref b)]) : W p l e room_1 s m #[Value.ref b] below meth c H locs C S Q (F0 m 1172 ls []) := by
  have hA : ∀ q : Nat, s.heap.size ≤ q → (fun q : Nat => s.heap.size ≤ q) q := fun _ h => h
  have hbA : ¬ (fun q : Nat => s.heap.size ≤ q) b := Nat.not_le.mpr hbl
  refine lv_aload_n hx hb dL_law_1172 rfl (lv_at hl 2 rfl) ?_
  refine lv_aload_n hx hb dL_law_1173 rfl (lv_at hl 3 rfl) ?_
  refine lv_iload_n hx hb dL_law_1174 rfl (lv_at hl 0 rfl) ?_
  refine lv_iconst (v := (1 : Int32)) hx hb dL_law_1175 (by decide) ?_
  refine lv_iadd hx hb dL_law_1176 ?_
  refine va_sld hx hb hX hbl hbA hS h1 dL_law_1177 ?_
  refine lv_aload_n hx hb dL_law_1178 rfl (lv_at hl 3 rfl) ?_
  refine lv_iload_n hx hb dL_law_1179 rfl (lv_at hl 0 rfl) ?_
  refine lv_iconst (v := (2 : Int32)) hx hb dL_law_1180 (by decide) ?_
  refine lv_iadd hx hb dL_law_1181 ?_
  refine va_sld hx hb hX hbl hbA hS h2 dL_law_1182 ?_
  obtain ⟨r, WX2, WM2, k1, k2, hI2⟩ := h_st zx zm WX WM ((xs (Int32.toNatClampNeg (x3 + (1 : Int32))))) ((xs (Int32.toNatClampNeg (x3 + (2 : Int32))))) hI
  obtain ⟨fx, hfx⟩ := hrx _ _ _ _ hI
  obtain ⟨fm, hfm⟩ := hrm _ _ _ _ hI
  refine px_callL (w1' := WX2) (va_runV (As := [.int (xs (Int32.toNatClampNeg (x3 + (1 : Int32)))), .int (xs (Int32.toNatClampNeg (x3 + (2 : Int32))))]) (rest := []) ⟨hx, hb, hml, hown, hts⟩ (k1 H.size) (cwV 2 hts gL_law_X10_seen rfl rfl rfl hvX10_seen ⟨Nat.le_of_ble_eq_true rfl, Nat.le_of_ble_eq_true rfl⟩) (px_preL (ci := 10) hK hN hP hD rfl hfx) rfl rfl hl.1 rfl (lv_room (Nat.le_of_ble_eq_true rfl)) dL_law_1183 ⟨hC, hSl⟩) hP hD hS hA (fun H locs hP hD hS => ?_)
  refine W.eq (g2 := F0 m 1186 ls [.int r]) rfl ?_
  refine lv_aload_n hx hb dL_law_1186 rfl (lv_at hl 1 rfl) ?_
  refine lv_aload_n hx hb dL_law_1187 rfl (lv_at hl 3 rfl) ?_
  refine lv_iload_n hx hb dL_law_1188 rfl (lv_at hl 0 rfl) ?_
  refine lv_iconst (v := (1 : Int32)) hx hb dL_law_1189 (by decide) ?_
  refine lv_iadd hx hb dL_law_1190 ?_
  refine va_sld hx hb hX hbl hbA hS h1 dL_law_1191 ?_
  refine lv_aload_n hx hb dL_law_1192 rfl (lv_at hl 3 rfl) ?_
  refine lv_iload_n hx hb dL_law_1193 rfl (lv_at hl 0 rfl) ?_
  refine lv_iconst (v := (2 : Int32)) hx hb dL_law_1194 (by decide) ?_
  refine lv_iadd hx hb dL_law_1195 ?_
  refine va_sld hx hb hX hbl hbA hS h2 dL_law_1196 ?_
  refine px_callY (w2' := WM2) (va_runV (As := [.int (xs (Int32.toNatClampNeg (x3 + (1 : Int32)))), .int (xs (Int32.toNatClampNeg (x3 + (2 : Int32))))]) (rest := [.int r]) ⟨hx, hb, hml, hown, hts⟩ (k2 H.size) (cwV 2 hts gL_law_X11_seen rfl rfl rfl hvX11_seen ⟨Nat.le_of_ble_eq_true rfl, Nat.le_of_ble_eq_true rfl⟩) (px_preY (ci := 11) hK hN hP hD rfl hfm) rfl rfl hl.1 rfl (lv_room (Nat.le_of_ble_eq_true rfl)) dL_law_1197 ⟨hC, hSl⟩) hP hD hS hA (fun H locs hP hD hS => ?_)
  refine W.eq (g2 := F0 m 1200 ls [.int r, .int r]) rfl ?_
  refine lv_icmp_eq (tgt := 1413) hx hb dL_law_1200 (by decide) (fun _ => ?_) (fun cc => absurd rfl cc)
  exact fin _ _ _ _ hI2 hP hD hS
set_option maxHeartbeats 4000000 in
set_option maxRecDepth 100000 in
theorem lwc_seed {p : Program} {l : Launch} {e : Env} {s : State} {m : MethodId} {below : List Frame} {meth : Method} {c : Code} {Q : State → Prop} (dC : Nat → ClassId) (dI : Nat → Nat → Nat) (cyI cyZ cyJ cyB cyO : ClassId) (sK sV tS : Nat → Nat) (b L C S : Nat) (xs : Nat → Int32) (I : Nat → Nat → va_W → va_W → Prop) (hx : p.tables.exec = Jvm.exec) (hb : c.code = cL_law) (hml : c.maxLocals = 4) (hts : ∀ w ∈ wsL_law, w.before #[Value.ref b] s = true) (hown : s.vm.findClass RL = some m.cls) (hX : va_X b L xs s s.heap) (hbl : b < s.heap.size) (hK : va_K (dC, dI) vwCl (px_TY cyI cyZ cyJ cyB cyO) s) (hN : px_NW s) (hG : px_SG sK sV tS (fun q : Nat => s.heap.size ≤ q) s s.heap) (hC : C ≤ 600000) (hSl : S ≤ 7302250) (hrx : ∀ hx hm WX WM, I hx hm WX WM → ∃ fs, WX[0]? = some (hx, .inr (10, fs))) (hrm : ∀ hx hm WX WM, I hx hm WX WM → ∃ fs, WM[0]? = some (hm, .inr (11, fs))) (h_st : sm_seed l sK sV tS dC dI cyI cyZ cyJ cyB cyO I) (zx zm : Nat) (WX WM : va_W) (hI : I zx zm WX WM) (x3 : Int32) (h0 : vp_in x3 L) (h1 : vp_in (x3 + 1) L) (h2 : vp_in (x3 + 2) L) (h3 : vp_in (x3 + 3) L) (h4 : vp_in (x3 + 4) L) (ls : Array Slot) (fin : ∀ (H : Heap) (locs : List Loc) (WX2 WM2 : va_W), I zx zm WX2 WM2 → va_P (dC, dI) vwCl (WX2 ++ WM2) H → va_D (fun q : Nat => s.heap.size ≤ q) (WX2 ++ WM2) → va_S (fun q : Nat => s.heap.size ≤ q) s.heap H locs → W p l e room_1 s m #[Value.ref b] below meth c H locs C S Q (F0 m 1413 ls [])) (H : Heap) (locs : List Loc) (hP : va_P (dC, dI) vwCl (WX ++ WM) H) (hD : va_D (fun q : Nat => s.heap.size ≤ q) (WX ++ WM)) (hS : va_S (fun q : Nat => s.heap.size ≤ q) s.heap H locs) (hl : lv_has ls 4 [(3, .int x3), (2, .ref zm), (1, .ref zx), (0, .ref b)]) : W p l e room_1 s m #[Value.ref b] below meth c H locs C S Q (F0 m 1205 ls []) := by
  have hA : ∀ q : Nat, s.heap.size ≤ q → (fun q : Nat => s.heap.size ≤ q) q := fun _ h => h
  have hbA : ¬ (fun q : Nat => s.heap.size ≤ q) b := Nat.not_le.mpr hbl
  refine lv_aload_n hx hb dL_law_1205 rfl (lv_at hl 2 rfl) ?_
  refine lv_aload_n hx hb dL_law_1206 rfl (lv_at hl 3 rfl) ?_
  refine lv_iload_n hx hb dL_law_1207 rfl (lv_at hl 0 rfl) ?_
  refine lv_iconst (v := (1 : Int32)) hx hb dL_law_1208 (by decide) ?_
  refine lv_iadd hx hb dL_law_1209 ?_
  refine va_sld hx hb hX hbl hbA hS h1 dL_law_1210 ?_
  refine lv_aload_n hx hb dL_law_1211 rfl (lv_at hl 3 rfl) ?_
  refine lv_iload_n hx hb dL_law_1212 rfl (lv_at hl 0 rfl) ?_
  refine lv_iconst (v := (2 : Int32)) hx hb dL_law_1213 (by decide) ?_
  refine lv_iadd hx hb dL_law_1214 ?_
  refine va_sld hx hb hX hbl hbA hS h2 dL_law_1215 ?_
  obtain ⟨r, WX2, WM2, k1, k2, hI2⟩ := h_st zx zm WX WM ((xs (Int32.toNatClampNeg (x3 + (1 : Int32))))) ((xs (Int32.toNatClampNeg (x3 + (2 : Int32))))) hI
  obtain ⟨fx, hfx⟩ := hrx _ _ _ _ hI
  obtain ⟨fm, hfm⟩ := hrm _ _ _ _ hI
  refine px_callL (w1' := WX2) (va_runV (As := [.int (xs (Int32.toNatClampNeg (x3 + (1 : Int32)))), .int (xs (Int32.toNatClampNeg (x3 + (2 : Int32))))]) (rest := []) ⟨hx, hb, hml, hown, hts⟩ (k1 H.size) (cwV 2 hts gL_law_X10_seed rfl rfl rfl hvX10_seed ⟨Nat.le_of_ble_eq_true rfl, Nat.le_of_ble_eq_true rfl⟩) (px_preL (ci := 10) hK hN hP hD rfl hfx) rfl rfl hl.1 rfl (lv_room (Nat.le_of_ble_eq_true rfl)) dL_law_1216 ⟨hC, hSl⟩) hP hD hS hA (fun H locs hP hD hS => ?_)
  refine W.eq (g2 := F0 m 1219 ls [.int r]) rfl ?_
  refine lv_aload_n hx hb dL_law_1219 rfl (lv_at hl 1 rfl) ?_
  refine lv_aload_n hx hb dL_law_1220 rfl (lv_at hl 3 rfl) ?_
  refine lv_iload_n hx hb dL_law_1221 rfl (lv_at hl 0 rfl) ?_
  refine lv_iconst (v := (1 : Int32)) hx hb dL_law_1222 (by decide) ?_
  refine lv_iadd hx hb dL_law_1223 ?_
  refine va_sld hx hb hX hbl hbA hS h1 dL_law_1224 ?_
  refine lv_aload_n hx hb dL_law_1225 rfl (lv_at hl 3 rfl) ?_
  refine lv_iload_n hx hb dL_law_1226 rfl (lv_at hl 0 rfl) ?_
  refine lv_iconst (v := (2 : Int32)) hx hb dL_law_1227 (by decide) ?_
  refine lv_iadd hx hb dL_law_1228 ?_
  refine va_sld hx hb hX hbl hbA hS h2 dL_law_1229 ?_
  refine px_callY (w2' := WM2) (va_runV (As := [.int (xs (Int32.toNatClampNeg (x3 + (1 : Int32)))), .int (xs (Int32.toNatClampNeg (x3 + (2 : Int32))))]) (rest := [.int r]) ⟨hx, hb, hml, hown, hts⟩ (k2 H.size) (cwV 2 hts gL_law_X11_seed rfl rfl rfl hvX11_seed ⟨Nat.le_of_ble_eq_true rfl, Nat.le_of_ble_eq_true rfl⟩) (px_preY (ci := 11) hK hN hP hD rfl hfm) rfl rfl hl.1 rfl (lv_room (Nat.le_of_ble_eq_true rfl)) dL_law_1230 ⟨hC, hSl⟩) hP hD hS hA (fun H locs hP hD hS => ?_)
  refine W.eq (g2 := F0 m 1233 ls [.int r, .int r]) rfl ?_
  refine lv_icmp_eq (tgt := 1413) hx hb dL_law_1233 (by decide) (fun _ => ?_) (fun cc => absurd rfl cc)
  exact fin _ _ _ _ hI2 hP hD hS
set_option maxHeartbeats 4000000 in
set_option maxRecDepth 100000 in
theorem lwc_sheet {p : Program} {l : Launch} {e : Env} {s : State} {m : MethodId} {below : List Frame} {meth : Method} {c : Code} {Q : State → Prop} (dC : Nat → ClassId) (dI : Nat → Nat → Nat) (cyI cyZ cyJ cyB cyO : ClassId) (sK sV tS : Nat → Nat) (b L C S : Nat) (xs : Nat → Int32) (I : Nat → Nat → va_W → va_W → Prop) (hx : p.tables.exec = Jvm.exec) (hb : c.code = cL_law) (hml : c.maxLocals = 4) (hts : ∀ w ∈ wsL_law, w.before #[Value.ref b] s = true) (hown : s.vm.findClass RL = some m.cls) (hX : va_X b L xs s s.heap) (hbl : b < s.heap.size) (hK : va_K (dC, dI) vwCl (px_TY cyI cyZ cyJ cyB cyO) s) (hN : px_NW s) (hG : px_SG sK sV tS (fun q : Nat => s.heap.size ≤ q) s s.heap) (hC : C ≤ 600000) (hSl : S ≤ 7302250) (hrx : ∀ hx hm WX WM, I hx hm WX WM → ∃ fs, WX[0]? = some (hx, .inr (10, fs))) (hrm : ∀ hx hm WX WM, I hx hm WX WM → ∃ fs, WM[0]? = some (hm, .inr (11, fs))) (h_st : sm_sheet l sK sV tS dC dI cyI cyZ cyJ cyB cyO I) (zx zm : Nat) (WX WM : va_W) (hI : I zx zm WX WM) (x3 : Int32) (h0 : vp_in x3 L) (h1 : vp_in (x3 + 1) L) (h2 : vp_in (x3 + 2) L) (h3 : vp_in (x3 + 3) L) (h4 : vp_in (x3 + 4) L) (ls : Array Slot) (fin : ∀ (H : Heap) (locs : List Loc) (WX2 WM2 : va_W), I zx zm WX2 WM2 → va_P (dC, dI) vwCl (WX2 ++ WM2) H → va_D (fun q : Nat => s.heap.size ≤ q) (WX2 ++ WM2) → va_S (fun q : Nat => s.heap.size ≤ q) s.heap H locs → W p l e room_1 s m #[Value.ref b] below meth c H locs C S Q (F0 m 1413 ls [])) (H : Heap) (locs : List Loc) (hP : va_P (dC, dI) vwCl (WX ++ WM) H) (hD : va_D (fun q : Nat => s.heap.size ≤ q) (WX ++ WM)) (hS : va_S (fun q : Nat => s.heap.size ≤ q) s.heap H locs) (hl : lv_has ls 4 [(3, .int x3), (2, .ref zm), (1, .ref zx), (0, .ref b)]) : W p l e room_1 s m #[Value.ref b] below meth c H locs C S Q (F0 m 1238 ls []) := by
  have hA : ∀ q : Nat, s.heap.size ≤ q → (fun q : Nat => s.heap.size ≤ q) q := fun _ h => h
  have hbA : ¬ (fun q : Nat => s.heap.size ≤ q) b := Nat.not_le.mpr hbl
  refine lv_aload_n hx hb dL_law_1238 rfl (lv_at hl 2 rfl) ?_
  refine lv_aload_n hx hb dL_law_1239 rfl (lv_at hl 3 rfl) ?_
  refine lv_iload_n hx hb dL_law_1240 rfl (lv_at hl 0 rfl) ?_
  refine lv_iconst (v := (1 : Int32)) hx hb dL_law_1241 (by decide) ?_
  refine lv_iadd hx hb dL_law_1242 ?_
  refine va_sld hx hb hX hbl hbA hS h1 dL_law_1243 ?_
  refine lv_aload_n hx hb dL_law_1244 rfl (lv_at hl 3 rfl) ?_
  refine lv_iload_n hx hb dL_law_1245 rfl (lv_at hl 0 rfl) ?_
  refine lv_iconst (v := (2 : Int32)) hx hb dL_law_1246 (by decide) ?_
  refine lv_iadd hx hb dL_law_1247 ?_
  refine va_sld hx hb hX hbl hbA hS h2 dL_law_1248 ?_
  refine lv_aload_n hx hb dL_law_1249 rfl (lv_at hl 3 rfl) ?_
  refine lv_iload_n hx hb dL_law_1250 rfl (lv_at hl 0 rfl) ?_
  refine lv_iconst (v := (3 : Int32)) hx hb dL_law_1251 (by decide) ?_
  refine lv_iadd hx hb dL_law_1252 ?_
  refine va_sld hx hb hX hbl hbA hS h3 dL_law_1253 ?_
  obtain ⟨r, WX2, WM2, k1, k2, hI2⟩ := h_st zx zm WX WM ((xs (Int32.toNatClampNeg (x3 + (1 : Int32))))) ((xs (Int32.toNatClampNeg (x3 + (2 : Int32))))) ((xs (Int32.toNatClampNeg (x3 + (3 : Int32))))) hI
  obtain ⟨fx, hfx⟩ := hrx _ _ _ _ hI
  obtain ⟨fm, hfm⟩ := hrm _ _ _ _ hI
  refine px_callL (w1' := WX2) (va_runV (As := [.int (xs (Int32.toNatClampNeg (x3 + (1 : Int32)))), .int (xs (Int32.toNatClampNeg (x3 + (2 : Int32)))), .int (xs (Int32.toNatClampNeg (x3 + (3 : Int32))))]) (rest := []) ⟨hx, hb, hml, hown, hts⟩ (k1 H.size) (cwV 3 hts gL_law_X10_sheet rfl rfl rfl hvX10_sheet ⟨Nat.le_of_ble_eq_true rfl, Nat.le_of_ble_eq_true rfl⟩) (px_preL (ci := 10) hK hN hP hD rfl hfx) rfl rfl hl.1 rfl (lv_room (Nat.le_of_ble_eq_true rfl)) dL_law_1254 ⟨hC, hSl⟩) hP hD hS hA (fun H locs hP hD hS => ?_)
  refine W.eq (g2 := F0 m 1257 ls [.int r]) rfl ?_
  refine lv_aload_n hx hb dL_law_1257 rfl (lv_at hl 1 rfl) ?_
  refine lv_aload_n hx hb dL_law_1258 rfl (lv_at hl 3 rfl) ?_
  refine lv_iload_n hx hb dL_law_1259 rfl (lv_at hl 0 rfl) ?_
  refine lv_iconst (v := (1 : Int32)) hx hb dL_law_1260 (by decide) ?_
  refine lv_iadd hx hb dL_law_1261 ?_
  refine va_sld hx hb hX hbl hbA hS h1 dL_law_1262 ?_
  refine lv_aload_n hx hb dL_law_1263 rfl (lv_at hl 3 rfl) ?_
  refine lv_iload_n hx hb dL_law_1264 rfl (lv_at hl 0 rfl) ?_
  refine lv_iconst (v := (2 : Int32)) hx hb dL_law_1265 (by decide) ?_
  refine lv_iadd hx hb dL_law_1266 ?_
  refine va_sld hx hb hX hbl hbA hS h2 dL_law_1267 ?_
  refine lv_aload_n hx hb dL_law_1268 rfl (lv_at hl 3 rfl) ?_
  refine lv_iload_n hx hb dL_law_1269 rfl (lv_at hl 0 rfl) ?_
  refine lv_iconst (v := (3 : Int32)) hx hb dL_law_1270 (by decide) ?_
  refine lv_iadd hx hb dL_law_1271 ?_
  refine va_sld hx hb hX hbl hbA hS h3 dL_law_1272 ?_
  refine px_callY (w2' := WM2) (va_runV (As := [.int (xs (Int32.toNatClampNeg (x3 + (1 : Int32)))), .int (xs (Int32.toNatClampNeg (x3 + (2 : Int32)))), .int (xs (Int32.toNatClampNeg (x3 + (3 : Int32))))]) (rest := [.int r]) ⟨hx, hb, hml, hown, hts⟩ (k2 H.size) (cwV 3 hts gL_law_X11_sheet rfl rfl rfl hvX11_sheet ⟨Nat.le_of_ble_eq_true rfl, Nat.le_of_ble_eq_true rfl⟩) (px_preY (ci := 11) hK hN hP hD rfl hfm) rfl rfl hl.1 rfl (lv_room (Nat.le_of_ble_eq_true rfl)) dL_law_1273 ⟨hC, hSl⟩) hP hD hS hA (fun H locs hP hD hS => ?_)
  refine W.eq (g2 := F0 m 1276 ls [.int r, .int r]) rfl ?_
  refine lv_icmp_eq (tgt := 1413) hx hb dL_law_1276 (by decide) (fun _ => ?_) (fun cc => absurd rfl cc)
  exact fin _ _ _ _ hI2 hP hD hS
set_option maxHeartbeats 4000000 in
set_option maxRecDepth 100000 in
theorem lwc_lay {p : Program} {l : Launch} {e : Env} {s : State} {m : MethodId} {below : List Frame} {meth : Method} {c : Code} {Q : State → Prop} (dC : Nat → ClassId) (dI : Nat → Nat → Nat) (cyI cyZ cyJ cyB cyO : ClassId) (sK sV tS : Nat → Nat) (b L C S : Nat) (xs : Nat → Int32) (I : Nat → Nat → va_W → va_W → Prop) (hx : p.tables.exec = Jvm.exec) (hb : c.code = cL_law) (hml : c.maxLocals = 4) (hts : ∀ w ∈ wsL_law, w.before #[Value.ref b] s = true) (hown : s.vm.findClass RL = some m.cls) (hX : va_X b L xs s s.heap) (hbl : b < s.heap.size) (hK : va_K (dC, dI) vwCl (px_TY cyI cyZ cyJ cyB cyO) s) (hN : px_NW s) (hG : px_SG sK sV tS (fun q : Nat => s.heap.size ≤ q) s s.heap) (hC : C ≤ 600000) (hSl : S ≤ 7302250) (hrx : ∀ hx hm WX WM, I hx hm WX WM → ∃ fs, WX[0]? = some (hx, .inr (10, fs))) (hrm : ∀ hx hm WX WM, I hx hm WX WM → ∃ fs, WM[0]? = some (hm, .inr (11, fs))) (h_st : sm_lay l sK sV tS dC dI cyI cyZ cyJ cyB cyO I) (zx zm : Nat) (WX WM : va_W) (hI : I zx zm WX WM) (x3 : Int32) (h0 : vp_in x3 L) (h1 : vp_in (x3 + 1) L) (h2 : vp_in (x3 + 2) L) (h3 : vp_in (x3 + 3) L) (h4 : vp_in (x3 + 4) L) (ls : Array Slot) (fin : ∀ (H : Heap) (locs : List Loc) (WX2 WM2 : va_W), I zx zm WX2 WM2 → va_P (dC, dI) vwCl (WX2 ++ WM2) H → va_D (fun q : Nat => s.heap.size ≤ q) (WX2 ++ WM2) → va_S (fun q : Nat => s.heap.size ≤ q) s.heap H locs → W p l e room_1 s m #[Value.ref b] below meth c H locs C S Q (F0 m 1413 ls [])) (H : Heap) (locs : List Loc) (hP : va_P (dC, dI) vwCl (WX ++ WM) H) (hD : va_D (fun q : Nat => s.heap.size ≤ q) (WX ++ WM)) (hS : va_S (fun q : Nat => s.heap.size ≤ q) s.heap H locs) (hl : lv_has ls 4 [(3, .int x3), (2, .ref zm), (1, .ref zx), (0, .ref b)]) : W p l e room_1 s m #[Value.ref b] below meth c H locs C S Q (F0 m 1281 ls []) := by
  have hA : ∀ q : Nat, s.heap.size ≤ q → (fun q : Nat => s.heap.size ≤ q) q := fun _ h => h
  have hbA : ¬ (fun q : Nat => s.heap.size ≤ q) b := Nat.not_le.mpr hbl
  refine lv_aload_n hx hb dL_law_1281 rfl (lv_at hl 2 rfl) ?_
  refine lv_aload_n hx hb dL_law_1282 rfl (lv_at hl 3 rfl) ?_
  refine lv_iload_n hx hb dL_law_1283 rfl (lv_at hl 0 rfl) ?_
  refine lv_iconst (v := (1 : Int32)) hx hb dL_law_1284 (by decide) ?_
  refine lv_iadd hx hb dL_law_1285 ?_
  refine va_sld hx hb hX hbl hbA hS h1 dL_law_1286 ?_
  refine lv_aload_n hx hb dL_law_1287 rfl (lv_at hl 3 rfl) ?_
  refine lv_iload_n hx hb dL_law_1288 rfl (lv_at hl 0 rfl) ?_
  refine lv_iconst (v := (2 : Int32)) hx hb dL_law_1289 (by decide) ?_
  refine lv_iadd hx hb dL_law_1290 ?_
  refine va_sld hx hb hX hbl hbA hS h2 dL_law_1291 ?_
  refine lv_aload_n hx hb dL_law_1292 rfl (lv_at hl 3 rfl) ?_
  refine lv_iload_n hx hb dL_law_1293 rfl (lv_at hl 0 rfl) ?_
  refine lv_iconst (v := (3 : Int32)) hx hb dL_law_1294 (by decide) ?_
  refine lv_iadd hx hb dL_law_1295 ?_
  refine va_sld hx hb hX hbl hbA hS h3 dL_law_1296 ?_
  obtain ⟨r, WX2, WM2, k1, k2, hI2⟩ := h_st zx zm WX WM ((xs (Int32.toNatClampNeg (x3 + (1 : Int32))))) ((xs (Int32.toNatClampNeg (x3 + (2 : Int32))))) ((xs (Int32.toNatClampNeg (x3 + (3 : Int32))))) hI
  obtain ⟨fx, hfx⟩ := hrx _ _ _ _ hI
  obtain ⟨fm, hfm⟩ := hrm _ _ _ _ hI
  refine px_callL (w1' := WX2) (va_runV (As := [.int (xs (Int32.toNatClampNeg (x3 + (1 : Int32)))), .int (xs (Int32.toNatClampNeg (x3 + (2 : Int32)))), .int (xs (Int32.toNatClampNeg (x3 + (3 : Int32))))]) (rest := []) ⟨hx, hb, hml, hown, hts⟩ (k1 H.size) (cwV 3 hts gL_law_X10_lay rfl rfl rfl hvX10_lay ⟨Nat.le_of_ble_eq_true rfl, Nat.le_of_ble_eq_true rfl⟩) (px_preL (ci := 10) hK hN hP hD rfl hfx) rfl rfl hl.1 rfl (lv_room (Nat.le_of_ble_eq_true rfl)) dL_law_1297 ⟨hC, hSl⟩) hP hD hS hA (fun H locs hP hD hS => ?_)
  refine W.eq (g2 := F0 m 1300 ls [.int r]) rfl ?_
  refine lv_aload_n hx hb dL_law_1300 rfl (lv_at hl 1 rfl) ?_
  refine lv_aload_n hx hb dL_law_1301 rfl (lv_at hl 3 rfl) ?_
  refine lv_iload_n hx hb dL_law_1302 rfl (lv_at hl 0 rfl) ?_
  refine lv_iconst (v := (1 : Int32)) hx hb dL_law_1303 (by decide) ?_
  refine lv_iadd hx hb dL_law_1304 ?_
  refine va_sld hx hb hX hbl hbA hS h1 dL_law_1305 ?_
  refine lv_aload_n hx hb dL_law_1306 rfl (lv_at hl 3 rfl) ?_
  refine lv_iload_n hx hb dL_law_1307 rfl (lv_at hl 0 rfl) ?_
  refine lv_iconst (v := (2 : Int32)) hx hb dL_law_1308 (by decide) ?_
  refine lv_iadd hx hb dL_law_1309 ?_
  refine va_sld hx hb hX hbl hbA hS h2 dL_law_1310 ?_
  refine lv_aload_n hx hb dL_law_1311 rfl (lv_at hl 3 rfl) ?_
  refine lv_iload_n hx hb dL_law_1312 rfl (lv_at hl 0 rfl) ?_
  refine lv_iconst (v := (3 : Int32)) hx hb dL_law_1313 (by decide) ?_
  refine lv_iadd hx hb dL_law_1314 ?_
  refine va_sld hx hb hX hbl hbA hS h3 dL_law_1315 ?_
  refine px_callY (w2' := WM2) (va_runV (As := [.int (xs (Int32.toNatClampNeg (x3 + (1 : Int32)))), .int (xs (Int32.toNatClampNeg (x3 + (2 : Int32)))), .int (xs (Int32.toNatClampNeg (x3 + (3 : Int32))))]) (rest := [.int r]) ⟨hx, hb, hml, hown, hts⟩ (k2 H.size) (cwV 3 hts gL_law_X11_lay rfl rfl rfl hvX11_lay ⟨Nat.le_of_ble_eq_true rfl, Nat.le_of_ble_eq_true rfl⟩) (px_preY (ci := 11) hK hN hP hD rfl hfm) rfl rfl hl.1 rfl (lv_room (Nat.le_of_ble_eq_true rfl)) dL_law_1316 ⟨hC, hSl⟩) hP hD hS hA (fun H locs hP hD hS => ?_)
  refine W.eq (g2 := F0 m 1319 ls [.int r, .int r]) rfl ?_
  refine lv_icmp_eq (tgt := 1413) hx hb dL_law_1319 (by decide) (fun _ => ?_) (fun cc => absurd rfl cc)
  exact fin _ _ _ _ hI2 hP hD hS
set_option maxHeartbeats 4000000 in
set_option maxRecDepth 100000 in
theorem lwc_read {p : Program} {l : Launch} {e : Env} {s : State} {m : MethodId} {below : List Frame} {meth : Method} {c : Code} {Q : State → Prop} (dC : Nat → ClassId) (dI : Nat → Nat → Nat) (cyI cyZ cyJ cyB cyO : ClassId) (sK sV tS : Nat → Nat) (b L C S : Nat) (xs : Nat → Int32) (I : Nat → Nat → va_W → va_W → Prop) (hx : p.tables.exec = Jvm.exec) (hb : c.code = cL_law) (hml : c.maxLocals = 4) (hts : ∀ w ∈ wsL_law, w.before #[Value.ref b] s = true) (hown : s.vm.findClass RL = some m.cls) (hX : va_X b L xs s s.heap) (hbl : b < s.heap.size) (hK : va_K (dC, dI) vwCl (px_TY cyI cyZ cyJ cyB cyO) s) (hN : px_NW s) (hG : px_SG sK sV tS (fun q : Nat => s.heap.size ≤ q) s s.heap) (hC : C ≤ 600000) (hSl : S ≤ 7302250) (hrx : ∀ hx hm WX WM, I hx hm WX WM → ∃ fs, WX[0]? = some (hx, .inr (10, fs))) (hrm : ∀ hx hm WX WM, I hx hm WX WM → ∃ fs, WM[0]? = some (hm, .inr (11, fs))) (h_st : sm_read l sK sV tS dC dI cyI cyZ cyJ cyB cyO I) (zx zm : Nat) (WX WM : va_W) (hI : I zx zm WX WM) (x3 : Int32) (h0 : vp_in x3 L) (h1 : vp_in (x3 + 1) L) (h2 : vp_in (x3 + 2) L) (h3 : vp_in (x3 + 3) L) (h4 : vp_in (x3 + 4) L) (ls : Array Slot) (fin : ∀ (H : Heap) (locs : List Loc) (WX2 WM2 : va_W), I zx zm WX2 WM2 → va_P (dC, dI) vwCl (WX2 ++ WM2) H → va_D (fun q : Nat => s.heap.size ≤ q) (WX2 ++ WM2) → va_S (fun q : Nat => s.heap.size ≤ q) s.heap H locs → W p l e room_1 s m #[Value.ref b] below meth c H locs C S Q (F0 m 1413 ls [])) (H : Heap) (locs : List Loc) (hP : va_P (dC, dI) vwCl (WX ++ WM) H) (hD : va_D (fun q : Nat => s.heap.size ≤ q) (WX ++ WM)) (hS : va_S (fun q : Nat => s.heap.size ≤ q) s.heap H locs) (hl : lv_has ls 4 [(3, .int x3), (2, .ref zm), (1, .ref zx), (0, .ref b)]) : W p l e room_1 s m #[Value.ref b] below meth c H locs C S Q (F0 m 1324 ls []) := by
  have hA : ∀ q : Nat, s.heap.size ≤ q → (fun q : Nat => s.heap.size ≤ q) q := fun _ h => h
  have hbA : ¬ (fun q : Nat => s.heap.size ≤ q) b := Nat.not_le.mpr hbl
  refine lv_aload_n hx hb dL_law_1324 rfl (lv_at hl 2 rfl) ?_
  refine lv_aload_n hx hb dL_law_1325 rfl (lv_at hl 3 rfl) ?_
  refine lv_iload_n hx hb dL_law_1326 rfl (lv_at hl 0 rfl) ?_
  refine lv_iconst (v := (1 : Int32)) hx hb dL_law_1327 (by decide) ?_
  refine lv_iadd hx hb dL_law_1328 ?_
  refine va_sld hx hb hX hbl hbA hS h1 dL_law_1329 ?_
  refine lv_aload_n hx hb dL_law_1330 rfl (lv_at hl 3 rfl) ?_
  refine lv_iload_n hx hb dL_law_1331 rfl (lv_at hl 0 rfl) ?_
  refine lv_iconst (v := (2 : Int32)) hx hb dL_law_1332 (by decide) ?_
  refine lv_iadd hx hb dL_law_1333 ?_
  refine va_sld hx hb hX hbl hbA hS h2 dL_law_1334 ?_
  refine lv_aload_n hx hb dL_law_1335 rfl (lv_at hl 3 rfl) ?_
  refine lv_iload_n hx hb dL_law_1336 rfl (lv_at hl 0 rfl) ?_
  refine lv_iconst (v := (3 : Int32)) hx hb dL_law_1337 (by decide) ?_
  refine lv_iadd hx hb dL_law_1338 ?_
  refine va_sld hx hb hX hbl hbA hS h3 dL_law_1339 ?_
  refine lv_aload_n hx hb dL_law_1340 rfl (lv_at hl 3 rfl) ?_
  refine lv_iload_n hx hb dL_law_1341 rfl (lv_at hl 0 rfl) ?_
  refine lv_iconst (v := (4 : Int32)) hx hb dL_law_1342 (by decide) ?_
  refine lv_iadd hx hb dL_law_1343 ?_
  refine va_sld hx hb hX hbl hbA hS h4 dL_law_1344 ?_
  obtain ⟨r, WX2, WM2, k1, k2, hI2⟩ := h_st zx zm WX WM ((xs (Int32.toNatClampNeg (x3 + (1 : Int32))))) ((xs (Int32.toNatClampNeg (x3 + (2 : Int32))))) ((xs (Int32.toNatClampNeg (x3 + (3 : Int32))))) ((xs (Int32.toNatClampNeg (x3 + (4 : Int32))))) hI
  obtain ⟨fx, hfx⟩ := hrx _ _ _ _ hI
  obtain ⟨fm, hfm⟩ := hrm _ _ _ _ hI
  refine px_callL (w1' := WX2) (va_runV (As := [.int (xs (Int32.toNatClampNeg (x3 + (1 : Int32)))), .int (xs (Int32.toNatClampNeg (x3 + (2 : Int32)))), .int (xs (Int32.toNatClampNeg (x3 + (3 : Int32)))), .int (xs (Int32.toNatClampNeg (x3 + (4 : Int32))))]) (rest := []) ⟨hx, hb, hml, hown, hts⟩ (k1 H.size) (cwV 4 hts gL_law_X10_read rfl rfl rfl hvX10_read ⟨Nat.le_of_ble_eq_true rfl, Nat.le_of_ble_eq_true rfl⟩) (px_preL (ci := 10) hK hN hP hD rfl hfx) rfl rfl hl.1 rfl (lv_room (Nat.le_of_ble_eq_true rfl)) dL_law_1345 ⟨hC, hSl⟩) hP hD hS hA (fun H locs hP hD hS => ?_)
  refine W.eq (g2 := F0 m 1348 ls [.int r]) rfl ?_
  refine lv_aload_n hx hb dL_law_1348 rfl (lv_at hl 1 rfl) ?_
  refine lv_aload_n hx hb dL_law_1349 rfl (lv_at hl 3 rfl) ?_
  refine lv_iload_n hx hb dL_law_1350 rfl (lv_at hl 0 rfl) ?_
  refine lv_iconst (v := (1 : Int32)) hx hb dL_law_1351 (by decide) ?_
  refine lv_iadd hx hb dL_law_1352 ?_
  refine va_sld hx hb hX hbl hbA hS h1 dL_law_1353 ?_
  refine lv_aload_n hx hb dL_law_1354 rfl (lv_at hl 3 rfl) ?_
  refine lv_iload_n hx hb dL_law_1355 rfl (lv_at hl 0 rfl) ?_
  refine lv_iconst (v := (2 : Int32)) hx hb dL_law_1356 (by decide) ?_
  refine lv_iadd hx hb dL_law_1357 ?_
  refine va_sld hx hb hX hbl hbA hS h2 dL_law_1358 ?_
  refine lv_aload_n hx hb dL_law_1359 rfl (lv_at hl 3 rfl) ?_
  refine lv_iload_n hx hb dL_law_1360 rfl (lv_at hl 0 rfl) ?_
  refine lv_iconst (v := (3 : Int32)) hx hb dL_law_1361 (by decide) ?_
  refine lv_iadd hx hb dL_law_1362 ?_
  refine va_sld hx hb hX hbl hbA hS h3 dL_law_1363 ?_
  refine lv_aload_n hx hb dL_law_1364 rfl (lv_at hl 3 rfl) ?_
  refine lv_iload_n hx hb dL_law_1365 rfl (lv_at hl 0 rfl) ?_
  refine lv_iconst (v := (4 : Int32)) hx hb dL_law_1366 (by decide) ?_
  refine lv_iadd hx hb dL_law_1367 ?_
  refine va_sld hx hb hX hbl hbA hS h4 dL_law_1368 ?_
  refine px_callY (w2' := WM2) (va_runV (As := [.int (xs (Int32.toNatClampNeg (x3 + (1 : Int32)))), .int (xs (Int32.toNatClampNeg (x3 + (2 : Int32)))), .int (xs (Int32.toNatClampNeg (x3 + (3 : Int32)))), .int (xs (Int32.toNatClampNeg (x3 + (4 : Int32))))]) (rest := [.int r]) ⟨hx, hb, hml, hown, hts⟩ (k2 H.size) (cwV 4 hts gL_law_X11_read rfl rfl rfl hvX11_read ⟨Nat.le_of_ble_eq_true rfl, Nat.le_of_ble_eq_true rfl⟩) (px_preY (ci := 11) hK hN hP hD rfl hfm) rfl rfl hl.1 rfl (lv_room (Nat.le_of_ble_eq_true rfl)) dL_law_1369 ⟨hC, hSl⟩) hP hD hS hA (fun H locs hP hD hS => ?_)
  refine W.eq (g2 := F0 m 1372 ls [.int r, .int r]) rfl ?_
  refine lv_icmp_eq (tgt := 1413) hx hb dL_law_1372 (by decide) (fun _ => ?_) (fun cc => absurd rfl cc)
  exact fin _ _ _ _ hI2 hP hD hS
set_option maxHeartbeats 4000000 in
set_option maxRecDepth 100000 in
theorem lwc_torn {p : Program} {l : Launch} {e : Env} {s : State} {m : MethodId} {below : List Frame} {meth : Method} {c : Code} {Q : State → Prop} (dC : Nat → ClassId) (dI : Nat → Nat → Nat) (cyI cyZ cyJ cyB cyO : ClassId) (sK sV tS : Nat → Nat) (b L C S : Nat) (xs : Nat → Int32) (I : Nat → Nat → va_W → va_W → Prop) (hx : p.tables.exec = Jvm.exec) (hb : c.code = cL_law) (hml : c.maxLocals = 4) (hts : ∀ w ∈ wsL_law, w.before #[Value.ref b] s = true) (hown : s.vm.findClass RL = some m.cls) (hX : va_X b L xs s s.heap) (hbl : b < s.heap.size) (hK : va_K (dC, dI) vwCl (px_TY cyI cyZ cyJ cyB cyO) s) (hN : px_NW s) (hG : px_SG sK sV tS (fun q : Nat => s.heap.size ≤ q) s s.heap) (hC : C ≤ 600000) (hSl : S ≤ 7302250) (hrx : ∀ hx hm WX WM, I hx hm WX WM → ∃ fs, WX[0]? = some (hx, .inr (10, fs))) (hrm : ∀ hx hm WX WM, I hx hm WX WM → ∃ fs, WM[0]? = some (hm, .inr (11, fs))) (h_st : sm_torn l sK sV tS dC dI cyI cyZ cyJ cyB cyO I) (zx zm : Nat) (WX WM : va_W) (hI : I zx zm WX WM) (x3 : Int32) (h0 : vp_in x3 L) (h1 : vp_in (x3 + 1) L) (h2 : vp_in (x3 + 2) L) (h3 : vp_in (x3 + 3) L) (h4 : vp_in (x3 + 4) L) (ls : Array Slot) (fin : ∀ (H : Heap) (locs : List Loc) (WX2 WM2 : va_W), I zx zm WX2 WM2 → va_P (dC, dI) vwCl (WX2 ++ WM2) H → va_D (fun q : Nat => s.heap.size ≤ q) (WX2 ++ WM2) → va_S (fun q : Nat => s.heap.size ≤ q) s.heap H locs → W p l e room_1 s m #[Value.ref b] below meth c H locs C S Q (F0 m 1413 ls [])) (H : Heap) (locs : List Loc) (hP : va_P (dC, dI) vwCl (WX ++ WM) H) (hD : va_D (fun q : Nat => s.heap.size ≤ q) (WX ++ WM)) (hS : va_S (fun q : Nat => s.heap.size ≤ q) s.heap H locs) (hl : lv_has ls 4 [(3, .int x3), (2, .ref zm), (1, .ref zx), (0, .ref b)]) : W p l e room_1 s m #[Value.ref b] below meth c H locs C S Q (F0 m 1377 ls []) := by
  have hA : ∀ q : Nat, s.heap.size ≤ q → (fun q : Nat => s.heap.size ≤ q) q := fun _ h => h
  have hbA : ¬ (fun q : Nat => s.heap.size ≤ q) b := Nat.not_le.mpr hbl
  refine lv_aload_n hx hb dL_law_1377 rfl (lv_at hl 2 rfl) ?_
  obtain ⟨r, WX2, WM2, k1, k2, hI2⟩ := h_st zx zm WX WM hI
  obtain ⟨fx, hfx⟩ := hrx _ _ _ _ hI
  obtain ⟨fm, hfm⟩ := hrm _ _ _ _ hI
  refine px_callL (w1' := WX2) (va_runV (As := []) (rest := []) ⟨hx, hb, hml, hown, hts⟩ (k1 H.size) (cwV 0 hts gL_law_X10_torn rfl rfl rfl hvX10_torn ⟨Nat.le_of_ble_eq_true rfl, Nat.le_of_ble_eq_true rfl⟩) (px_preL (ci := 10) hK hN hP hD rfl hfx) rfl rfl hl.1 rfl (lv_room (Nat.le_of_ble_eq_true rfl)) dL_law_1378 ⟨hC, hSl⟩) hP hD hS hA (fun H locs hP hD hS => ?_)
  refine W.eq (g2 := F0 m 1381 ls [.int r]) rfl ?_
  refine lv_aload_n hx hb dL_law_1381 rfl (lv_at hl 1 rfl) ?_
  refine px_callY (w2' := WM2) (va_runV (As := []) (rest := [.int r]) ⟨hx, hb, hml, hown, hts⟩ (k2 H.size) (cwV 0 hts gL_law_X11_torn rfl rfl rfl hvX11_torn ⟨Nat.le_of_ble_eq_true rfl, Nat.le_of_ble_eq_true rfl⟩) (px_preY (ci := 11) hK hN hP hD rfl hfm) rfl rfl hl.1 rfl (lv_room (Nat.le_of_ble_eq_true rfl)) dL_law_1382 ⟨hC, hSl⟩) hP hD hS hA (fun H locs hP hD hS => ?_)
  refine W.eq (g2 := F0 m 1385 ls [.int r, .int r]) rfl ?_
  refine lv_icmp_eq (tgt := 1413) hx hb dL_law_1385 (by decide) (fun _ => ?_) (fun cc => absurd rfl cc)
  exact fin _ _ _ _ hI2 hP hD hS
set_option maxHeartbeats 4000000 in
set_option maxRecDepth 100000 in
theorem lwc_count {p : Program} {l : Launch} {e : Env} {s : State} {m : MethodId} {below : List Frame} {meth : Method} {c : Code} {Q : State → Prop} (dC : Nat → ClassId) (dI : Nat → Nat → Nat) (cyI cyZ cyJ cyB cyO : ClassId) (sK sV tS : Nat → Nat) (b L C S : Nat) (xs : Nat → Int32) (I : Nat → Nat → va_W → va_W → Prop) (hx : p.tables.exec = Jvm.exec) (hb : c.code = cL_law) (hml : c.maxLocals = 4) (hts : ∀ w ∈ wsL_law, w.before #[Value.ref b] s = true) (hown : s.vm.findClass RL = some m.cls) (hX : va_X b L xs s s.heap) (hbl : b < s.heap.size) (hK : va_K (dC, dI) vwCl (px_TY cyI cyZ cyJ cyB cyO) s) (hN : px_NW s) (hG : px_SG sK sV tS (fun q : Nat => s.heap.size ≤ q) s s.heap) (hC : C ≤ 600000) (hSl : S ≤ 7302250) (hrx : ∀ hx hm WX WM, I hx hm WX WM → ∃ fs, WX[0]? = some (hx, .inr (10, fs))) (hrm : ∀ hx hm WX WM, I hx hm WX WM → ∃ fs, WM[0]? = some (hm, .inr (11, fs))) (h_st : sm_count l sK sV tS dC dI cyI cyZ cyJ cyB cyO I) (zx zm : Nat) (WX WM : va_W) (hI : I zx zm WX WM) (x3 : Int32) (h0 : vp_in x3 L) (h1 : vp_in (x3 + 1) L) (h2 : vp_in (x3 + 2) L) (h3 : vp_in (x3 + 3) L) (h4 : vp_in (x3 + 4) L) (ls : Array Slot) (fin : ∀ (H : Heap) (locs : List Loc) (WX2 WM2 : va_W), I zx zm WX2 WM2 → va_P (dC, dI) vwCl (WX2 ++ WM2) H → va_D (fun q : Nat => s.heap.size ≤ q) (WX2 ++ WM2) → va_S (fun q : Nat => s.heap.size ≤ q) s.heap H locs → W p l e room_1 s m #[Value.ref b] below meth c H locs C S Q (F0 m 1413 ls [])) (H : Heap) (locs : List Loc) (hP : va_P (dC, dI) vwCl (WX ++ WM) H) (hD : va_D (fun q : Nat => s.heap.size ≤ q) (WX ++ WM)) (hS : va_S (fun q : Nat => s.heap.size ≤ q) s.heap H locs) (hl : lv_has ls 4 [(3, .int x3), (2, .ref zm), (1, .ref zx), (0, .ref b)]) : W p l e room_1 s m #[Value.ref b] below meth c H locs C S Q (F0 m 1390 ls []) := by
  have hA : ∀ q : Nat, s.heap.size ≤ q → (fun q : Nat => s.heap.size ≤ q) q := fun _ h => h
  have hbA : ¬ (fun q : Nat => s.heap.size ≤ q) b := Nat.not_le.mpr hbl
  refine lv_aload_n hx hb dL_law_1390 rfl (lv_at hl 2 rfl) ?_
  refine lv_aload_n hx hb dL_law_1391 rfl (lv_at hl 3 rfl) ?_
  refine lv_iload_n hx hb dL_law_1392 rfl (lv_at hl 0 rfl) ?_
  refine lv_iconst (v := (1 : Int32)) hx hb dL_law_1393 (by decide) ?_
  refine lv_iadd hx hb dL_law_1394 ?_
  refine va_sld hx hb hX hbl hbA hS h1 dL_law_1395 ?_
  obtain ⟨r, WX2, WM2, k1, k2, hI2⟩ := h_st zx zm WX WM ((xs (Int32.toNatClampNeg (x3 + (1 : Int32))))) hI
  obtain ⟨fx, hfx⟩ := hrx _ _ _ _ hI
  obtain ⟨fm, hfm⟩ := hrm _ _ _ _ hI
  refine px_callL (w1' := WX2) (va_runV (As := [.int (xs (Int32.toNatClampNeg (x3 + (1 : Int32))))]) (rest := []) ⟨hx, hb, hml, hown, hts⟩ (k1 H.size) (cwV 1 hts gL_law_X10_count rfl rfl rfl hvX10_count ⟨Nat.le_of_ble_eq_true rfl, Nat.le_of_ble_eq_true rfl⟩) (px_preL (ci := 10) hK hN hP hD rfl hfx) rfl rfl hl.1 rfl (lv_room (Nat.le_of_ble_eq_true rfl)) dL_law_1396 ⟨hC, hSl⟩) hP hD hS hA (fun H locs hP hD hS => ?_)
  refine W.eq (g2 := F0 m 1399 ls [.int r]) rfl ?_
  refine lv_aload_n hx hb dL_law_1399 rfl (lv_at hl 1 rfl) ?_
  refine lv_aload_n hx hb dL_law_1400 rfl (lv_at hl 3 rfl) ?_
  refine lv_iload_n hx hb dL_law_1401 rfl (lv_at hl 0 rfl) ?_
  refine lv_iconst (v := (1 : Int32)) hx hb dL_law_1402 (by decide) ?_
  refine lv_iadd hx hb dL_law_1403 ?_
  refine va_sld hx hb hX hbl hbA hS h1 dL_law_1404 ?_
  refine px_callY (w2' := WM2) (va_runV (As := [.int (xs (Int32.toNatClampNeg (x3 + (1 : Int32))))]) (rest := [.int r]) ⟨hx, hb, hml, hown, hts⟩ (k2 H.size) (cwV 1 hts gL_law_X11_count rfl rfl rfl hvX11_count ⟨Nat.le_of_ble_eq_true rfl, Nat.le_of_ble_eq_true rfl⟩) (px_preY (ci := 11) hK hN hP hD rfl hfm) rfl rfl hl.1 rfl (lv_room (Nat.le_of_ble_eq_true rfl)) dL_law_1405 ⟨hC, hSl⟩) hP hD hS hA (fun H locs hP hD hS => ?_)
  refine W.eq (g2 := F0 m 1408 ls [.int r, .int r]) rfl ?_
  refine lv_icmp_eq (tgt := 1413) hx hb dL_law_1408 (by decide) (fun _ => ?_) (fun cc => absurd rfl cc)
  exact fin _ _ _ _ hI2 hP hD hS
