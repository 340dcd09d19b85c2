theorem px_sw38 {x : Int32} (h0 : ¬ x = 0) (h1 : ¬ x = 1) (h2 : ¬ x = 2) (h3 : ¬ x = 3) (h4 : ¬ x = 4) (h5 : ¬ x = 5) (h6 : ¬ x = 6) (h7 : ¬ x = 7) (h8 : ¬ x = 8) (h9 : ¬ x = 9) (h10 : ¬ x = 10) (h11 : ¬ x = 11) (h12 : ¬ x = 12) (h13 : ¬ x = 13) (h14 : ¬ x = 14) (h15 : ¬ x = 15) (h16 : ¬ x = 16) (h17 : ¬ x = 17) (h18 : ¬ x = 18) (h19 : ¬ x = 19) (h20 : ¬ x = 20) (h21 : ¬ x = 21) (h22 : ¬ x = 22) (h23 : ¬ x = 23) (h24 : ¬ x = 24) (h25 : ¬ x = 25) (h26 : ¬ x = 26) (h27 : ¬ x = 27) (h28 : ¬ x = 28) (h29 : ¬ x = 29) (h30 : ¬ x = 30) (h31 : ¬ x = 31) (h32 : ¬ x = 32) (h33 : ¬ x = 33) (h34 : ¬ x = 34) (h35 : ¬ x = 35) (h36 : ¬ x = 36) (h37 : ¬ x = 37) : x.toInt < 0 ∨ 37 < x.toInt := by
  have a0 : ¬ x.toInt = 0 := px_ne h0
  have a1 : ¬ x.toInt = 1 := px_ne h1
  have a2 : ¬ x.toInt = 2 := px_ne h2
  have a3 : ¬ x.toInt = 3 := px_ne h3
  have a4 : ¬ x.toInt = 4 := px_ne h4
  have a5 : ¬ x.toInt = 5 := px_ne h5
  have a6 : ¬ x.toInt = 6 := px_ne h6
  have a7 : ¬ x.toInt = 7 := px_ne h7
  have a8 : ¬ x.toInt = 8 := px_ne h8
  have a9 : ¬ x.toInt = 9 := px_ne h9
  have a10 : ¬ x.toInt = 10 := px_ne h10
  have a11 : ¬ x.toInt = 11 := px_ne h11
  have a12 : ¬ x.toInt = 12 := px_ne h12
  have a13 : ¬ x.toInt = 13 := px_ne h13
  have a14 : ¬ x.toInt = 14 := px_ne h14
  have a15 : ¬ x.toInt = 15 := px_ne h15
  have a16 : ¬ x.toInt = 16 := px_ne h16
  have a17 : ¬ x.toInt = 17 := px_ne h17
  have a18 : ¬ x.toInt = 18 := px_ne h18
  have a19 : ¬ x.toInt = 19 := px_ne h19
  have a20 : ¬ x.toInt = 20 := px_ne h20
  have a21 : ¬ x.toInt = 21 := px_ne h21
  have a22 : ¬ x.toInt = 22 := px_ne h22
  have a23 : ¬ x.toInt = 23 := px_ne h23
  have a24 : ¬ x.toInt = 24 := px_ne h24
  have a25 : ¬ x.toInt = 25 := px_ne h25
  have a26 : ¬ x.toInt = 26 := px_ne h26
  have a27 : ¬ x.toInt = 27 := px_ne h27
  have a28 : ¬ x.toInt = 28 := px_ne h28
  have a29 : ¬ x.toInt = 29 := px_ne h29
  have a30 : ¬ x.toInt = 30 := px_ne h30
  have a31 : ¬ x.toInt = 31 := px_ne h31
  have a32 : ¬ x.toInt = 32 := px_ne h32
  have a33 : ¬ x.toInt = 33 := px_ne h33
  have a34 : ¬ x.toInt = 34 := px_ne h34
  have a35 : ¬ x.toInt = 35 := px_ne h35
  have a36 : ¬ x.toInt = 36 := px_ne h36
  have a37 : ¬ x.toInt = 37 := px_ne h37
  omega
theorem px_k5 {L k : Nat} (hL : L ≤ 2560) (hk : k ≤ L) (h : ¬ (Int32.ofNat L - 5 < nI k)) : k + 5 ≤ L := by
  have e1 : (Int32.ofNat L - 5).toInt = (L : Int) - 5 := pk_sub_toInt (a := L) (b := 5) (by omega) (by omega)
  have e2 : (nI k).toInt = (k : Int) := nI_toInt (by omega)
  rw [Int32.lt_iff_toInt_lt, e1, e2] at h
  omega
set_option maxHeartbeats 4000000 in
set_option maxRecDepth 100000 in
theorem lw_loop {p : Program} {l : Launch} {e : Env} {s : State} {m : MethodId} {below : List Frame} {meth : Method} {c : Code} (dC : Nat → ClassId) (dI : Nat → Nat → Nat) (cyI cyZ cyJ cyB cyO : ClassId) (sK sV tS : Nat → Nat) (b L C S : Nat) (xs : Nat → Int32) (I : Nat → Nat → va_W → va_W → Prop) (hx : p.tables.exec = Jvm.exec) (hb : c.code = cL_law) (hml : c.maxLocals = 4) (hts : ∀ w ∈ wsL_law, w.before #[Value.ref b] s = true) (hown : s.vm.findClass RL = some m.cls) (hX : va_X b L xs s s.heap) (hbl : b < s.heap.size) (hK : va_K (dC, dI) vwCl (px_TY cyI cyZ cyJ cyB cyO) s) (hN : px_NW s) (hG : px_SG sK sV tS (fun q : Nat => s.heap.size ≤ q) s s.heap) (hC : C ≤ 600000) (hSl : S ≤ 7302250) (hrx : ∀ hx hm WX WM, I hx hm WX WM → ∃ fs, WX[0]? = some (hx, .inr (10, fs))) (hrm : ∀ hx hm WX WM, I hx hm WX WM → ∃ fs, WM[0]? = some (hm, .inr (11, fs))) (hr : meth.sig.returnType = ret) (hlocks : meth.locks = false) (hL : L ≤ 2560) (h_bits : sm_bits l sK sV tS dC dI cyI cyZ cyJ cyB cyO I) (h_tag : sm_tag l sK sV tS dC dI cyI cyZ cyJ cyB cyO I) (h_of : sm_of l sK sV tS dC dI cyI cyZ cyJ cyB cyO I) (h_hush : sm_hush l sK sV tS dC dI cyI cyZ cyJ cyB cyO I) (h_wake : sm_wake l sK sV tS dC dI cyI cyZ cyJ cyB cyO I) (h_block : sm_block l sK sV tS dC dI cyI cyZ cyJ cyB cyO I) (h_ask : sm_ask l sK sV tS dC dI cyI cyZ cyJ cyB cyO I) (h_tree : sm_tree l sK sV tS dC dI cyI cyZ cyJ cyB cyO I) (h_grown : sm_grown l sK sV tS dC dI cyI cyZ cyJ cyB cyO I) (h_heard : sm_heard l sK sV tS dC dI cyI cyZ cyJ cyB cyO I) (h_learns : sm_learns l sK sV tS dC dI cyI cyZ cyJ cyB cyO I) (h_would : sm_would l sK sV tS dC dI cyI cyZ cyJ cyB cyO I) (h_most : sm_most l sK sV tS dC dI cyI cyZ cyJ cyB cyO I) (h_feed : sm_feed l sK sV tS dC dI cyI cyZ cyJ cyB cyO I) (h_end : sm_end l sK sV tS dC dI cyI cyZ cyJ cyB cyO I) (h_rules : sm_rules l sK sV tS dC dI cyI cyZ cyJ cyB cyO I) (h_fault : sm_fault l sK sV tS dC dI cyI cyZ cyJ cyB cyO I) (h_rule : sm_rule l sK sV tS dC dI cyI cyZ cyJ cyB cyO I) (h_slot : sm_slot l sK sV tS dC dI cyI cyZ cyJ cyB cyO I) (h_frame : sm_frame l sK sV tS dC dI cyI cyZ cyJ cyB cyO I) (h_shown : sm_shown l sK sV tS dC dI cyI cyZ cyJ cyB cyO I) (h_all : sm_all l sK sV tS dC dI cyI cyZ cyJ cyB cyO I) (h_went : sm_went l sK sV tS dC dI cyI cyZ cyJ cyB cyO I) (h_alone : sm_alone l sK sV tS dC dI cyI cyZ cyJ cyB cyO I) (h_mean : sm_mean l sK sV tS dC dI cyI cyZ cyJ cyB cyO I) (h_best : sm_best l sK sV tS dC dI cyI cyZ cyJ cyB cyO I) (h_guess : sm_guess l sK sV tS dC dI cyI cyZ cyJ cyB cyO I) (h_ways : sm_ways l sK sV tS dC dI cyI cyZ cyJ cyB cyO I) (h_know : sm_know l sK sV tS dC dI cyI cyZ cyJ cyB cyO I) (h_forget : sm_forget l sK sV tS dC dI cyI cyZ cyJ cyB cyO I) (h_missing : sm_missing l sK sV tS dC dI cyI cyZ cyJ cyB cyO I) (h_seen : sm_seen l sK sV tS dC dI cyI cyZ cyJ cyB cyO I) (h_seed : sm_seed l sK sV tS dC dI cyI cyZ cyJ cyB cyO I) (h_sheet : sm_sheet l sK sV tS dC dI cyI cyZ cyJ cyB cyO I) (h_lay : sm_lay l sK sV tS dC dI cyI cyZ cyJ cyB cyO I) (h_read : sm_read l sK sV tS dC dI cyI cyZ cyJ cyB cyO I) (h_torn : sm_torn l sK sV tS dC dI cyI cyZ cyJ cyB cyO I) (h_count : sm_count l sK sV tS dC dI cyI cyZ cyJ cyB cyO I) : ∀ (n k : Nat) (x3 : Int32), k ≤ L → L + 1 ≤ k + n → x3 = nI k → ∀ (zx zm : Nat) (WX WM : va_W) (H : Heap) (locs : List Loc) (ls : Array Slot), I zx zm WX WM → va_P (dC, dI) vwCl (WX ++ WM) H → va_D (fun q : Nat => s.heap.size ≤ q) (WX ++ WM) → va_S (fun q : Nat => s.heap.size ≤ q) s.heap H locs → lv_has ls 4 [(3, .int x3), (2, .ref zm), (1, .ref zx), (0, .ref b)] → W p l e room_1 s m #[Value.ref b] below meth c H locs C S (lw_Z below #[Value.ref b] s) (F0 m 18 ls []) := by
  have hA : ∀ q : Nat, s.heap.size ≤ q → (fun q : Nat => s.heap.size ≤ q) q := fun _ h => h
  have hbA : ¬ (fun q : Nat => s.heap.size ≤ q) b := Nat.not_le.mpr hbl
  intro n
  induction n with
  | zero =>
    intro k x3 h1 h2
    exact absurd h2 (by omega)
  | succ n ih =>
    intro k x3 hk hn ex3 zx zm WX WM H locs ls hI hP hD hS hl
    refine lv_iload_n hx hb dL_law_18 rfl (lv_at hl 0 rfl) ?_
    refine lv_aload_n hx hb dL_law_19 rfl (lv_at hl 3 rfl) ?_
    refine va_slen hx hb hX hbl hbA hS dL_law_20 ?_
    refine lv_iconst (v := (5 : Int32)) hx hb dL_law_21 (by decide) ?_
    refine lv_isub hx hb dL_law_22 ?_
    refine lv_icmp_gt (tgt := 1419) hx hb dL_law_23 (by decide) (fun c1 => ?_) (fun c1 => ?_)
    · refine lv_iconst (v := 1) hx hb dL_law_1419 (by decide) ?_
      refine va_forget (fun q hq => hS.2.2 q hq) ?_
      refine W.widen (k := 600000) (n := 7302250) hC hSl ?_
      exact lw_ret hx hb hr hlocks dL_law_1420
    · have h5 : k + 5 ≤ L := px_k5 hL hk (by rw [← ex3]; exact c1)
      have h0 : vp_in x3 L := by rw [ex3]; exact vp_in_nI (by omega) (by omega)
      have h1 : vp_in (x3 + 1) L := by rw [ex3, show nI k + 1 = nI (k + 1) from nI_add k 1]; exact vp_in_nI (by omega) (by omega)
      have h2 : vp_in (x3 + 2) L := by rw [ex3, show nI k + 2 = nI (k + 2) from nI_add k 2]; exact vp_in_nI (by omega) (by omega)
      have h3 : vp_in (x3 + 3) L := by rw [ex3, show nI k + 3 = nI (k + 3) from nI_add k 3]; exact vp_in_nI (by omega) (by omega)
      have h4 : vp_in (x3 + 4) L := by rw [ex3, show nI k + 4 = nI (k + 4) from nI_add k 4]; exact vp_in_nI (by omega) (by omega)
      have fin : ∀ (H : Heap) (locs : List Loc) (WX2 WM2 : va_W), I zx zm WX2 WM2 → va_P (dC, dI) vwCl (WX2 ++ WM2) H → va_D (fun q : Nat => s.heap.size ≤ q) (WX2 ++ WM2) → va_S (fun q : Nat => s.heap.size ≤ q) s.heap H locs → W p l e room_1 s m #[Value.ref b] below meth c H locs C S (lw_Z below #[Value.ref b] s) (F0 m 1413 ls []) := by
        intro H locs WX2 WM2 hI hP hD hS
        refine lv_iinc (v := x3 + 5) (lv' := [(3, .int (x3 + 5)), (2, .ref zm), (1, .ref zx), (0, .ref b)]) hx hb dL_law_1413 hl (k := 0) rfl rfl (by decide) rfl (fun ls hl => ?_)
        refine lv_goto (tgt := 18) hx hb dL_law_1416 (by decide) ?_
        exact ih (k + 5) (x3 + 5) h5 (by omega) (by rw [ex3]; exact nI_add k 5) zx zm WX2 WM2 _ _ ls hI hP hD hS hl
      refine lv_aload_n hx hb dL_law_26 rfl (lv_at hl 3 rfl) ?_
      refine lv_iload_n hx hb dL_law_27 rfl (lv_at hl 0 rfl) ?_
      refine va_sld hx hb hX hbl hbA hS h0 dL_law_28 ?_
      refine lv_bipush (v := (63 : Int32)) hx hb dL_law_29 (by decide) ?_
      refine lv_iand hx hb dL_law_31 ?_
      refine lv_topi (fun y ey => ?_)
      by_cases c_0 : y = (0 : Int32)
      · refine lv_tableIn (off := 168) (tgt := 200) hx hb dL_law_32 (by rw [c_0]; decide) (by rw [c_0]; decide) (by rw [c_0]; rfl) (by decide) ?_
        exact lwc_bits dC dI cyI cyZ cyJ cyB cyO sK sV tS b L C S xs I hx hb hml hts hown hX hbl hK hN hG hC hSl hrx hrm h_bits zx zm WX WM hI x3 h0 h1 h2 h3 h4 ls fin H locs hP hD hS hl
      by_cases c_1 : y = (1 : Int32)
      · refine lv_tableIn (off := 191) (tgt := 223) hx hb dL_law_32 (by rw [c_1]; decide) (by rw [c_1]; decide) (by rw [c_1]; rfl) (by decide) ?_
        exact lwc_tag dC dI cyI cyZ cyJ cyB cyO sK sV tS b L C S xs I hx hb hml hts hown hX hbl hK hN hG hC hSl hrx hrm h_tag zx zm WX WM hI x3 h0 h1 h2 h3 h4 ls fin H locs hP hD hS hl
      by_cases c_2 : y = (2 : Int32)
      · refine lv_tableIn (off := 224) (tgt := 256) hx hb dL_law_32 (by rw [c_2]; decide) (by rw [c_2]; decide) (by rw [c_2]; rfl) (by decide) ?_
        exact lwc_of dC dI cyI cyZ cyJ cyB cyO sK sV tS b L C S xs I hx hb hml hts hown hX hbl hK hN hG hC hSl hrx hrm h_of zx zm WX WM hI x3 h0 h1 h2 h3 h4 ls fin H locs hP hD hS hl
      by_cases c_3 : y = (3 : Int32)
      · refine lv_tableIn (off := 257) (tgt := 289) hx hb dL_law_32 (by rw [c_3]; decide) (by rw [c_3]; decide) (by rw [c_3]; rfl) (by decide) ?_
        exact lwc_hush dC dI cyI cyZ cyJ cyB cyO sK sV tS b L C S xs I hx hb hml hts hown hX hbl hK hN hG hC hSl hrx hrm h_hush zx zm WX WM hI x3 h0 h1 h2 h3 h4 ls fin H locs hP hD hS hl
      by_cases c_4 : y = (4 : Int32)
      · refine lv_tableIn (off := 306) (tgt := 338) hx hb dL_law_32 (by rw [c_4]; decide) (by rw [c_4]; decide) (by rw [c_4]; rfl) (by decide) ?_
        exact lwc_wake dC dI cyI cyZ cyJ cyB cyO sK sV tS b L C S xs I hx hb hml hts hown hX hbl hK hN hG hC hSl hrx hrm h_wake zx zm WX WM hI x3 h0 h1 h2 h3 h4 ls fin H locs hP hD hS hl
      by_cases c_5 : y = (5 : Int32)
      · refine lv_tableIn (off := 319) (tgt := 351) hx hb dL_law_32 (by rw [c_5]; decide) (by rw [c_5]; decide) (by rw [c_5]; rfl) (by decide) ?_
        exact lwc_block dC dI cyI cyZ cyJ cyB cyO sK sV tS b L C S xs I hx hb hml hts hown hX hbl hK hN hG hC hSl hrx hrm h_block zx zm WX WM hI x3 h0 h1 h2 h3 h4 ls fin H locs hP hD hS hl
      by_cases c_6 : y = (6 : Int32)
      · refine lv_tableIn (off := 352) (tgt := 384) hx hb dL_law_32 (by rw [c_6]; decide) (by rw [c_6]; decide) (by rw [c_6]; rfl) (by decide) ?_
        exact lwc_ask dC dI cyI cyZ cyJ cyB cyO sK sV tS b L C S xs I hx hb hml hts hown hX hbl hK hN hG hC hSl hrx hrm h_ask zx zm WX WM hI x3 h0 h1 h2 h3 h4 ls fin H locs hP hD hS hl
      by_cases c_7 : y = (7 : Int32)
      · refine lv_tableIn (off := 395) (tgt := 427) hx hb dL_law_32 (by rw [c_7]; decide) (by rw [c_7]; decide) (by rw [c_7]; rfl) (by decide) ?_
        exact lwc_tree dC dI cyI cyZ cyJ cyB cyO sK sV tS b L C S xs I hx hb hml hts hown hX hbl hK hN hG hC hSl hrx hrm h_tree zx zm WX WM hI x3 h0 h1 h2 h3 h4 ls fin H locs hP hD hS hl
      by_cases c_8 : y = (8 : Int32)
      · refine lv_tableIn (off := 418) (tgt := 450) hx hb dL_law_32 (by rw [c_8]; decide) (by rw [c_8]; decide) (by rw [c_8]; rfl) (by decide) ?_
        exact lwc_grown dC dI cyI cyZ cyJ cyB cyO sK sV tS b L C S xs I hx hb hml hts hown hX hbl hK hN hG hC hSl hrx hrm h_grown zx zm WX WM hI x3 h0 h1 h2 h3 h4 ls fin H locs hP hD hS hl
      by_cases c_9 : y = (9 : Int32)
      · refine lv_tableIn (off := 441) (tgt := 473) hx hb dL_law_32 (by rw [c_9]; decide) (by rw [c_9]; decide) (by rw [c_9]; rfl) (by decide) ?_
        exact lwc_heard dC dI cyI cyZ cyJ cyB cyO sK sV tS b L C S xs I hx hb hml hts hown hX hbl hK hN hG hC hSl hrx hrm h_heard zx zm WX WM hI x3 h0 h1 h2 h3 h4 ls fin H locs hP hD hS hl
      by_cases c_10 : y = (10 : Int32)
      · refine lv_tableIn (off := 474) (tgt := 506) hx hb dL_law_32 (by rw [c_10]; decide) (by rw [c_10]; decide) (by rw [c_10]; rfl) (by decide) ?_
        exact lwc_learns dC dI cyI cyZ cyJ cyB cyO sK sV tS b L C S xs I hx hb hml hts hown hX hbl hK hN hG hC hSl hrx hrm h_learns zx zm WX WM hI x3 h0 h1 h2 h3 h4 ls fin H locs hP hD hS hl
      by_cases c_11 : y = (11 : Int32)
      · refine lv_tableIn (off := 497) (tgt := 529) hx hb dL_law_32 (by rw [c_11]; decide) (by rw [c_11]; decide) (by rw [c_11]; rfl) (by decide) ?_
        exact lwc_would dC dI cyI cyZ cyJ cyB cyO sK sV tS b L C S xs I hx hb hml hts hown hX hbl hK hN hG hC hSl hrx hrm h_would zx zm WX WM hI x3 h0 h1 h2 h3 h4 ls fin H locs hP hD hS hl
      by_cases c_12 : y = (12 : Int32)
      · refine lv_tableIn (off := 530) (tgt := 562) hx hb dL_law_32 (by rw [c_12]; decide) (by rw [c_12]; decide) (by rw [c_12]; rfl) (by decide) ?_
        exact lwc_most dC dI cyI cyZ cyJ cyB cyO sK sV tS b L C S xs I hx hb hml hts hown hX hbl hK hN hG hC hSl hrx hrm h_most zx zm WX WM hI x3 h0 h1 h2 h3 h4 ls fin H locs hP hD hS hl
      by_cases c_13 : y = (13 : Int32)
      · refine lv_tableIn (off := 573) (tgt := 605) hx hb dL_law_32 (by rw [c_13]; decide) (by rw [c_13]; decide) (by rw [c_13]; rfl) (by decide) ?_
        exact lwc_feed dC dI cyI cyZ cyJ cyB cyO sK sV tS b L C S xs I hx hb hml hts hown hX hbl hK hN hG hC hSl hrx hrm h_feed zx zm WX WM hI x3 h0 h1 h2 h3 h4 ls fin H locs hP hD hS hl
      by_cases c_14 : y = (14 : Int32)
      · refine lv_tableIn (off := 626) (tgt := 658) hx hb dL_law_32 (by rw [c_14]; decide) (by rw [c_14]; decide) (by rw [c_14]; rfl) (by decide) ?_
        exact lwc_end dC dI cyI cyZ cyJ cyB cyO sK sV tS b L C S xs I hx hb hml hts hown hX hbl hK hN hG hC hSl hrx hrm h_end zx zm WX WM hI x3 h0 h1 h2 h3 h4 ls fin H locs hP hD hS hl
      by_cases c_15 : y = (15 : Int32)
      · refine lv_tableIn (off := 649) (tgt := 681) hx hb dL_law_32 (by rw [c_15]; decide) (by rw [c_15]; decide) (by rw [c_15]; rfl) (by decide) ?_
        exact lwc_rules dC dI cyI cyZ cyJ cyB cyO sK sV tS b L C S xs I hx hb hml hts hown hX hbl hK hN hG hC hSl hrx hrm h_rules zx zm WX WM hI x3 h0 h1 h2 h3 h4 ls fin H locs hP hD hS hl
      by_cases c_16 : y = (16 : Int32)
      · refine lv_tableIn (off := 662) (tgt := 694) hx hb dL_law_32 (by rw [c_16]; decide) (by rw [c_16]; decide) (by rw [c_16]; rfl) (by decide) ?_
        exact lwc_fault dC dI cyI cyZ cyJ cyB cyO sK sV tS b L C S xs I hx hb hml hts hown hX hbl hK hN hG hC hSl hrx hrm h_fault zx zm WX WM hI x3 h0 h1 h2 h3 h4 ls fin H locs hP hD hS hl
      by_cases c_17 : y = (17 : Int32)
      · refine lv_tableIn (off := 675) (tgt := 707) hx hb dL_law_32 (by rw [c_17]; decide) (by rw [c_17]; decide) (by rw [c_17]; rfl) (by decide) ?_
        exact lwc_rule dC dI cyI cyZ cyJ cyB cyO sK sV tS b L C S xs I hx hb hml hts hown hX hbl hK hN hG hC hSl hrx hrm h_rule zx zm WX WM hI x3 h0 h1 h2 h3 h4 ls fin H locs hP hD hS hl
      by_cases c_18 : y = (18 : Int32)
      · refine lv_tableIn (off := 698) (tgt := 730) hx hb dL_law_32 (by rw [c_18]; decide) (by rw [c_18]; decide) (by rw [c_18]; rfl) (by decide) ?_
        exact lwc_slot dC dI cyI cyZ cyJ cyB cyO sK sV tS b L C S xs I hx hb hml hts hown hX hbl hK hN hG hC hSl hrx hrm h_slot zx zm WX WM hI x3 h0 h1 h2 h3 h4 ls fin H locs hP hD hS hl
      by_cases c_19 : y = (19 : Int32)
      · refine lv_tableIn (off := 741) (tgt := 773) hx hb dL_law_32 (by rw [c_19]; decide) (by rw [c_19]; decide) (by rw [c_19]; rfl) (by decide) ?_
        exact lwc_frame dC dI cyI cyZ cyJ cyB cyO sK sV tS b L C S xs I hx hb hml hts hown hX hbl hK hN hG hC hSl hrx hrm h_frame zx zm WX WM hI x3 h0 h1 h2 h3 h4 ls fin H locs hP hD hS hl
      by_cases c_20 : y = (20 : Int32)
      · refine lv_tableIn (off := 774) (tgt := 806) hx hb dL_law_32 (by rw [c_20]; decide) (by rw [c_20]; decide) (by rw [c_20]; rfl) (by decide) ?_
        exact lwc_shown dC dI cyI cyZ cyJ cyB cyO sK sV tS b L C S xs I hx hb hml hts hown hX hbl hK hN hG hC hSl hrx hrm h_shown zx zm WX WM hI x3 h0 h1 h2 h3 h4 ls fin H locs hP hD hS hl
      by_cases c_21 : y = (21 : Int32)
      · refine lv_tableIn (off := 797) (tgt := 829) hx hb dL_law_32 (by rw [c_21]; decide) (by rw [c_21]; decide) (by rw [c_21]; rfl) (by decide) ?_
        exact lwc_all dC dI cyI cyZ cyJ cyB cyO sK sV tS b L C S xs I hx hb hml hts hown hX hbl hK hN hG hC hSl hrx hrm h_all zx zm WX WM hI x3 h0 h1 h2 h3 h4 ls fin H locs hP hD hS hl
      by_cases c_22 : y = (22 : Int32)
      · refine lv_tableIn (off := 820) (tgt := 852) hx hb dL_law_32 (by rw [c_22]; decide) (by rw [c_22]; decide) (by rw [c_22]; rfl) (by decide) ?_
        exact lwc_went dC dI cyI cyZ cyJ cyB cyO sK sV tS b L C S xs I hx hb hml hts hown hX hbl hK hN hG hC hSl hrx hrm h_went zx zm WX WM hI x3 h0 h1 h2 h3 h4 ls fin H locs hP hD hS hl
      by_cases c_23 : y = (23 : Int32)
      · refine lv_tableIn (off := 843) (tgt := 875) hx hb dL_law_32 (by rw [c_23]; decide) (by rw [c_23]; decide) (by rw [c_23]; rfl) (by decide) ?_
        exact lwc_alone dC dI cyI cyZ cyJ cyB cyO sK sV tS b L C S xs I hx hb hml hts hown hX hbl hK hN hG hC hSl hrx hrm h_alone zx zm WX WM hI x3 h0 h1 h2 h3 h4 ls fin H locs hP hD hS hl
      by_cases c_24 : y = (24 : Int32)
      · refine lv_tableIn (off := 897) (tgt := 929) hx hb dL_law_32 (by rw [c_24]; decide) (by rw [c_24]; decide) (by rw [c_24]; rfl) (by decide) ?_
        exact lwc_mean dC dI cyI cyZ cyJ cyB cyO sK sV tS b L C S xs I hx hb hml hts hown hX hbl hK hN hG hC hSl hrx hrm h_mean zx zm WX WM hI x3 h0 h1 h2 h3 h4 ls fin H locs hP hD hS hl
      by_cases c_25 : y = (25 : Int32)
      · refine lv_tableIn (off := 941) (tgt := 973) hx hb dL_law_32 (by rw [c_25]; decide) (by rw [c_25]; decide) (by rw [c_25]; rfl) (by decide) ?_
        exact lwc_best dC dI cyI cyZ cyJ cyB cyO sK sV tS b L C S xs I hx hb hml hts hown hX hbl hK hN hG hC hSl hrx hrm h_best zx zm WX WM hI x3 h0 h1 h2 h3 h4 ls fin H locs hP hD hS hl
      by_cases c_26 : y = (26 : Int32)
      · refine lv_tableIn (off := 964) (tgt := 996) hx hb dL_law_32 (by rw [c_26]; decide) (by rw [c_26]; decide) (by rw [c_26]; rfl) (by decide) ?_
        exact lwc_guess dC dI cyI cyZ cyJ cyB cyO sK sV tS b L C S xs I hx hb hml hts hown hX hbl hK hN hG hC hSl hrx hrm h_guess zx zm WX WM hI x3 h0 h1 h2 h3 h4 ls fin H locs hP hD hS hl
      by_cases c_27 : y = (27 : Int32)
      · refine lv_tableIn (off := 1007) (tgt := 1039) hx hb dL_law_32 (by rw [c_27]; decide) (by rw [c_27]; decide) (by rw [c_27]; rfl) (by decide) ?_
        exact lwc_ways dC dI cyI cyZ cyJ cyB cyO sK sV tS b L C S xs I hx hb hml hts hown hX hbl hK hN hG hC hSl hrx hrm h_ways zx zm WX WM hI x3 h0 h1 h2 h3 h4 ls fin H locs hP hD hS hl
      by_cases c_28 : y = (28 : Int32)
      · refine lv_tableIn (off := 1061) (tgt := 1093) hx hb dL_law_32 (by rw [c_28]; decide) (by rw [c_28]; decide) (by rw [c_28]; rfl) (by decide) ?_
        exact lwc_know dC dI cyI cyZ cyJ cyB cyO sK sV tS b L C S xs I hx hb hml hts hown hX hbl hK hN hG hC hSl hrx hrm h_know zx zm WX WM hI x3 h0 h1 h2 h3 h4 ls fin H locs hP hD hS hl
      by_cases c_29 : y = (29 : Int32)
      · refine lv_tableIn (off := 1084) (tgt := 1116) hx hb dL_law_32 (by rw [c_29]; decide) (by rw [c_29]; decide) (by rw [c_29]; rfl) (by decide) ?_
        exact lwc_forget dC dI cyI cyZ cyJ cyB cyO sK sV tS b L C S xs I hx hb hml hts hown hX hbl hK hN hG hC hSl hrx hrm h_forget zx zm WX WM hI x3 h0 h1 h2 h3 h4 ls fin H locs hP hD hS hl
      by_cases c_30 : y = (30 : Int32)
      · refine lv_tableIn (off := 1097) (tgt := 1129) hx hb dL_law_32 (by rw [c_30]; decide) (by rw [c_30]; decide) (by rw [c_30]; rfl) (by decide) ?_
        exact lwc_missing dC dI cyI cyZ cyJ cyB cyO sK sV tS b L C S xs I hx hb hml hts hown hX hbl hK hN hG hC hSl hrx hrm h_missing zx zm WX WM hI x3 h0 h1 h2 h3 h4 ls fin H locs hP hD hS hl
      by_cases c_31 : y = (31 : Int32)
      · refine lv_tableIn (off := 1140) (tgt := 1172) hx hb dL_law_32 (by rw [c_31]; decide) (by rw [c_31]; decide) (by rw [c_31]; rfl) (by decide) ?_
        exact lwc_seen dC dI cyI cyZ cyJ cyB cyO sK sV tS b L C S xs I hx hb hml hts hown hX hbl hK hN hG hC hSl hrx hrm h_seen zx zm WX WM hI x3 h0 h1 h2 h3 h4 ls fin H locs hP hD hS hl
      by_cases c_32 : y = (32 : Int32)
      · refine lv_tableIn (off := 1173) (tgt := 1205) hx hb dL_law_32 (by rw [c_32]; decide) (by rw [c_32]; decide) (by rw [c_32]; rfl) (by decide) ?_
        exact lwc_seed dC dI cyI cyZ cyJ cyB cyO sK sV tS b L C S xs I hx hb hml hts hown hX hbl hK hN hG hC hSl hrx hrm h_seed zx zm WX WM hI x3 h0 h1 h2 h3 h4 ls fin H locs hP hD hS hl
      by_cases c_33 : y = (33 : Int32)
      · refine lv_tableIn (off := 1206) (tgt := 1238) hx hb dL_law_32 (by rw [c_33]; decide) (by rw [c_33]; decide) (by rw [c_33]; rfl) (by decide) ?_
        exact lwc_sheet dC dI cyI cyZ cyJ cyB cyO sK sV tS b L C S xs I hx hb hml hts hown hX hbl hK hN hG hC hSl hrx hrm h_sheet zx zm WX WM hI x3 h0 h1 h2 h3 h4 ls fin H locs hP hD hS hl
      by_cases c_34 : y = (34 : Int32)
      · refine lv_tableIn (off := 1249) (tgt := 1281) hx hb dL_law_32 (by rw [c_34]; decide) (by rw [c_34]; decide) (by rw [c_34]; rfl) (by decide) ?_
        exact lwc_lay dC dI cyI cyZ cyJ cyB cyO sK sV tS b L C S xs I hx hb hml hts hown hX hbl hK hN hG hC hSl hrx hrm h_lay zx zm WX WM hI x3 h0 h1 h2 h3 h4 ls fin H locs hP hD hS hl
      by_cases c_35 : y = (35 : Int32)
      · refine lv_tableIn (off := 1292) (tgt := 1324) hx hb dL_law_32 (by rw [c_35]; decide) (by rw [c_35]; decide) (by rw [c_35]; rfl) (by decide) ?_
        exact lwc_read dC dI cyI cyZ cyJ cyB cyO sK sV tS b L C S xs I hx hb hml hts hown hX hbl hK hN hG hC hSl hrx hrm h_read zx zm WX WM hI x3 h0 h1 h2 h3 h4 ls fin H locs hP hD hS hl
      by_cases c_36 : y = (36 : Int32)
      · refine lv_tableIn (off := 1345) (tgt := 1377) hx hb dL_law_32 (by rw [c_36]; decide) (by rw [c_36]; decide) (by rw [c_36]; rfl) (by decide) ?_
        exact lwc_torn dC dI cyI cyZ cyJ cyB cyO sK sV tS b L C S xs I hx hb hml hts hown hX hbl hK hN hG hC hSl hrx hrm h_torn zx zm WX WM hI x3 h0 h1 h2 h3 h4 ls fin H locs hP hD hS hl
      by_cases c_37 : y = (37 : Int32)
      · refine lv_tableIn (off := 1358) (tgt := 1390) hx hb dL_law_32 (by rw [c_37]; decide) (by rw [c_37]; decide) (by rw [c_37]; rfl) (by decide) ?_
        exact lwc_count dC dI cyI cyZ cyJ cyB cyO sK sV tS b L C S xs I hx hb hml hts hown hX hbl hK hN hG hC hSl hrx hrm h_count zx zm WX WM hI x3 h0 h1 h2 h3 h4 ls fin H locs hP hD hS hl
      refine lv_tableOut (tgt := 1413) hx hb dL_law_32 (px_sw38 c_0 c_1 c_2 c_3 c_4 c_5 c_6 c_7 c_8 c_9 c_10 c_11 c_12 c_13 c_14 c_15 c_16 c_17 c_18 c_19 c_20 c_21 c_22 c_23 c_24 c_25 c_26 c_27 c_28 c_29 c_30 c_31 c_32 c_33 c_34 c_35 c_36 c_37) (by decide) ?_
      exact fin _ _ WX WM hI hP hD hS
