/-! TagReader.isNumber(I)Z -/
def pX10_isNumber (v1 : Int32) (x_n : Int32) : Option (Int32) := px_b (pX10_lowBits x_n) (fun o_1 => px_b (pX10_within v1 (0 : Int32) o_1) (fun o_2 => px_o o_2 (some o_2)))
abbrev wdX10_isNumber (cyI cyZ cyJ cyB cyO : ClassId) (h_x h_tg h_cr h_la h_sp a_x_splitRow h_tp h_tx h_fr h_se h_od h_kn a_x_sheets : Nat) (x_n : Int32) (x_blocker : Int32) (x_blockerBits : Int32) (x_tornBy : Int32) (r_la r_sp : Nat) : va_W := [(h_x, .inr (10, [.int x_n, .int x_blocker, .int x_blockerBits, .int x_tornBy, .ref h_tg, .ref h_cr, .ref (r_la), .ref (r_sp), .ref a_x_splitRow, .ref h_tp, .ref h_tx, .ref h_fr, .ref h_se, .ref h_od, .ref h_kn, .ref a_x_sheets]))]
/-! TagReader.refusalOfTag(II)I -/
def pX10_refusalOfTag (v1 : Int32) (v2 : Int32) (x_n : Int32) (tg_size : Int32) (tg_numbers : Nat → Int32) : Option (Int32) := px_b (pX10_isNumber v1 x_n) (fun o_1 => (if o_1 = (0 : Int32) then some (-1 : Int32) else px_b (pX10_within v2 (1 : Int32) (99 : Int32)) (fun o_3 => (if o_3 = (0 : Int32) then some (-1 : Int32) else px_b (pX6_hasNumber v1 tg_size tg_numbers) (fun o_5 => (if o_5 = (0 : Int32) then (if tg_size < (16 : Int32) then some (0 : Int32) else some (-3 : Int32)) else some (-1 : Int32)))))))
abbrev wdX10_refusalOfTag (cyI cyZ cyJ cyB cyO : ClassId) (h_x h_tg h_cr h_la h_sp a_x_splitRow h_tp h_tx h_fr h_se h_od h_kn a_x_sheets a_tg_numbers a_tg_strengths a_tg_silent : Nat) (x_n : Int32) (x_blocker : Int32) (x_blockerBits : Int32) (x_tornBy : Int32) (tg_size : Int32) (tg_numbers : Nat → Int32) (tg_strengths : Nat → Int32) (tg_silent : Nat → Int32) (r_la r_sp : Nat) : va_W := [(h_x, .inr (10, [.int x_n, .int x_blocker, .int x_blockerBits, .int x_tornBy, .ref h_tg, .ref h_cr, .ref (r_la), .ref (r_sp), .ref a_x_splitRow, .ref h_tp, .ref h_tx, .ref h_fr, .ref h_se, .ref h_od, .ref h_kn, .ref a_x_sheets])), (h_tg, .inr (6, [.ref a_tg_numbers, .ref a_tg_strengths, .ref a_tg_silent, .int tg_size])), (a_tg_numbers, .inl (cyI, 16, .inl tg_numbers)), (a_tg_strengths, .inl (cyI, 16, .inl tg_strengths)), (a_tg_silent, .inl (cyZ, 16, .inl tg_silent))]
/-! TagReader.bits(I)I -/
def pX10_bits (v1 : Int32) (x_n : Int32) (x_blockerBits : Int32) (tg_size : Int32) (la_kept : Int32) (la_waiting : Int32) (la_counts : Nat → Int32) (kn_size : Int32) : Option (Int32 × Int32 × Int32 × Int32 × Int32 × Int32 × (Nat → Int32) × Int32) := px_b (pX10_within v1 (2 : Int32) (12 : Int32)) (fun o_1 => (if o_1 = (0 : Int32) then some ((-1 : Int32), x_n, x_blockerBits, tg_size, la_kept, la_waiting, la_counts, kn_size) else px_b (pX9_clear la_kept la_waiting la_counts) (fun o_3 => some (x_n, v1, (-1 : Int32), (0 : Int32), o_3.1, o_3.2.1, o_3.2.2, (0 : Int32)))))
abbrev wdX10_bits (cyI cyZ cyJ cyB cyO : ClassId) (h_x h_tg h_cr h_la h_sp a_x_splitRow h_tp h_tx h_fr h_se h_od h_kn a_x_sheets a_tg_numbers a_tg_strengths a_tg_silent a_la_counts a_la_askedBits a_la_askedBeginnings a_la_waitingBits a_la_waitingBeginnings a_kn_numbers a_kn_slots : Nat) (x_n : Int32) (x_blocker : Int32) (x_blockerBits : Int32) (x_tornBy : Int32) (tg_size : Int32) (tg_numbers : Nat → Int32) (tg_strengths : Nat → Int32) (tg_silent : Nat → Int32) (la_kept : Int32) (la_waiting : Int32) (la_counts : Nat → Int32) (la_askedBits : Nat → Int32) (la_askedBeginnings : Nat → Int32) (la_waitingBits : Nat → Int32) (la_waitingBeginnings : Nat → Int32) (kn_size : Int32) (kn_numbers : Nat → Int32) (kn_slots : Nat → Int32) (r_la r_sp : Nat) : va_W := [(h_x, .inr (10, [.int x_n, .int x_blocker, .int x_blockerBits, .int x_tornBy, .ref h_tg, .ref h_cr, .ref (r_la), .ref (r_sp), .ref a_x_splitRow, .ref h_tp, .ref h_tx, .ref h_fr, .ref h_se, .ref h_od, .ref h_kn, .ref a_x_sheets])), (h_tg, .inr (6, [.ref a_tg_numbers, .ref a_tg_strengths, .ref a_tg_silent, .int tg_size])), (a_tg_numbers, .inl (cyI, 16, .inl tg_numbers)), (a_tg_strengths, .inl (cyI, 16, .inl tg_strengths)), (a_tg_silent, .inl (cyZ, 16, .inl tg_silent)), (h_la, .inr (9, [.ref a_la_counts, .ref a_la_askedBits, .ref a_la_askedBeginnings, .int la_kept, .ref a_la_waitingBits, .ref a_la_waitingBeginnings, .int la_waiting])), (a_la_counts, .inl (cyI, 5, .inl la_counts)), (a_la_askedBits, .inl (cyI, 64, .inl la_askedBits)), (a_la_askedBeginnings, .inl (cyI, 64, .inl la_askedBeginnings)), (a_la_waitingBits, .inl (cyI, 14, .inl la_waitingBits)), (a_la_waitingBeginnings, .inl (cyI, 14, .inl la_waitingBeginnings)), (h_kn, .inr (2, [.ref a_kn_numbers, .ref a_kn_slots, .int kn_size])), (a_kn_numbers, .inl (cyI, 16, .inl kn_numbers)), (a_kn_slots, .inl (cyI, 16, .inl kn_slots))]
/-! TagReader.tag(II)I -/
def pX10_tag (v1 : Int32) (v2 : Int32) (x_n : Int32) (tg_size : Int32) (tg_numbers : Nat → Int32) (tg_strengths : Nat → Int32) (tg_silent : Nat → Int32) : Option (Int32 × Int32 × (Nat → Int32) × (Nat → Int32) × (Nat → Int32)) := px_b (pX10_refusalOfTag v1 v2 x_n tg_size tg_numbers) (fun o_1 => (if o_1 = (0 : Int32) then px_b (pX6_add v1 v2 tg_size tg_numbers tg_strengths tg_silent) (fun o_3 => some ((o_3.1 - (1 : Int32)), o_3.1, o_3.2.1, o_3.2.2.1, o_3.2.2.2)) else some (o_1, tg_size, tg_numbers, tg_strengths, tg_silent)))
abbrev wdX10_tag (cyI cyZ cyJ cyB cyO : ClassId) (h_x h_tg h_cr h_la h_sp a_x_splitRow h_tp h_tx h_fr h_se h_od h_kn a_x_sheets a_tg_numbers a_tg_strengths a_tg_silent : Nat) (x_n : Int32) (x_blocker : Int32) (x_blockerBits : Int32) (x_tornBy : Int32) (tg_size : Int32) (tg_numbers : Nat → Int32) (tg_strengths : Nat → Int32) (tg_silent : Nat → Int32) (r_la r_sp : Nat) : va_W := [(h_x, .inr (10, [.int x_n, .int x_blocker, .int x_blockerBits, .int x_tornBy, .ref h_tg, .ref h_cr, .ref (r_la), .ref (r_sp), .ref a_x_splitRow, .ref h_tp, .ref h_tx, .ref h_fr, .ref h_se, .ref h_od, .ref h_kn, .ref a_x_sheets])), (h_tg, .inr (6, [.ref a_tg_numbers, .ref a_tg_strengths, .ref a_tg_silent, .int tg_size])), (a_tg_numbers, .inl (cyI, 16, .inl tg_numbers)), (a_tg_strengths, .inl (cyI, 16, .inl tg_strengths)), (a_tg_silent, .inl (cyZ, 16, .inl tg_silent))]
/-! TagReader.of(II)I -/
def pX10_of (v1 : Int32) (v2 : Int32) (tg_size : Int32) (tg_numbers : Nat → Int32) (tg_strengths : Nat → Int32) (tg_silent : Nat → Int32) : Option (Int32) := px_b (pX6_has v1 tg_size) (fun o_1 => (if o_1 = (0 : Int32) then some (-1 : Int32) else (if v2 = (0 : Int32) then px_i v1 16 (some (tg_numbers (Int32.toNatClampNeg v1))) else (if v2 = (1 : Int32) then px_i v1 16 (some (tg_strengths (Int32.toNatClampNeg v1))) else (if v2 = (2 : Int32) then px_i v1 16 ((if (tg_silent (Int32.toNatClampNeg v1)) = (0 : Int32) then some (0 : Int32) else some (1 : Int32))) else some (-1 : Int32))))))
abbrev wdX10_of (cyI cyZ cyJ cyB cyO : ClassId) (h_x h_tg h_cr h_la h_sp a_x_splitRow h_tp h_tx h_fr h_se h_od h_kn a_x_sheets a_tg_numbers a_tg_strengths a_tg_silent : Nat) (x_n : Int32) (x_blocker : Int32) (x_blockerBits : Int32) (x_tornBy : Int32) (tg_size : Int32) (tg_numbers : Nat → Int32) (tg_strengths : Nat → Int32) (tg_silent : Nat → Int32) (r_la r_sp : Nat) : va_W := [(h_x, .inr (10, [.int x_n, .int x_blocker, .int x_blockerBits, .int x_tornBy, .ref h_tg, .ref h_cr, .ref (r_la), .ref (r_sp), .ref a_x_splitRow, .ref h_tp, .ref h_tx, .ref h_fr, .ref h_se, .ref h_od, .ref h_kn, .ref a_x_sheets])), (h_tg, .inr (6, [.ref a_tg_numbers, .ref a_tg_strengths, .ref a_tg_silent, .int tg_size])), (a_tg_numbers, .inl (cyI, 16, .inl tg_numbers)), (a_tg_strengths, .inl (cyI, 16, .inl tg_strengths)), (a_tg_silent, .inl (cyZ, 16, .inl tg_silent))]
/-! TagReader.hush(IZ)I -/
def pX10_hush_30 (v1 : Int32) (v2 : Int32) (tg_size : Int32) (t0 : Int32) (tg_silent : Nat → Int32) : Option (Int32 × (Nat → Int32)) := px_i v1 16 (some (t0, (upd tg_silent (Int32.toNatClampNeg v1) (vp_nar .boolean v2))))
def pX10_hush (v1 : Int32) (v2 : Int32) (tg_size : Int32) (tg_silent : Nat → Int32) : Option (Int32 × (Nat → Int32)) := px_b (pX6_has v1 tg_size) (fun o_1 => (if o_1 = (0 : Int32) then some ((-1 : Int32), tg_silent) else px_i v1 16 ((if (tg_silent (Int32.toNatClampNeg v1)) = (0 : Int32) then pX10_hush_30 v1 v2 tg_size (0 : Int32) tg_silent else pX10_hush_30 v1 v2 tg_size (1 : Int32) tg_silent))))
abbrev wdX10_hush (cyI cyZ cyJ cyB cyO : ClassId) (h_x h_tg h_cr h_la h_sp a_x_splitRow h_tp h_tx h_fr h_se h_od h_kn a_x_sheets a_tg_numbers a_tg_strengths a_tg_silent : Nat) (x_n : Int32) (x_blocker : Int32) (x_blockerBits : Int32) (x_tornBy : Int32) (tg_size : Int32) (tg_numbers : Nat → Int32) (tg_strengths : Nat → Int32) (tg_silent : Nat → Int32) (r_la r_sp : Nat) : va_W := [(h_x, .inr (10, [.int x_n, .int x_blocker, .int x_blockerBits, .int x_tornBy, .ref h_tg, .ref h_cr, .ref (r_la), .ref (r_sp), .ref a_x_splitRow, .ref h_tp, .ref h_tx, .ref h_fr, .ref h_se, .ref h_od, .ref h_kn, .ref a_x_sheets])), (h_tg, .inr (6, [.ref a_tg_numbers, .ref a_tg_strengths, .ref a_tg_silent, .int tg_size])), (a_tg_numbers, .inl (cyI, 16, .inl tg_numbers)), (a_tg_strengths, .inl (cyI, 16, .inl tg_strengths)), (a_tg_silent, .inl (cyZ, 16, .inl tg_silent))]
/-! TagReader.wake()I -/
def pX10_wake (tg_size : Int32) (tg_silent : Nat → Int32) : Option (Int32 × (Nat → Int32)) := px_b (pX6_silentOnes tg_size tg_silent) (fun o_1 => px_b (pX6_silenceAll (0 : Int32) tg_size tg_silent) (fun o_2 => some (o_1, o_2)))
abbrev wdX10_wake (cyI cyZ cyJ cyB cyO : ClassId) (h_x h_tg h_cr h_la h_sp a_x_splitRow h_tp h_tx h_fr h_se h_od h_kn a_x_sheets a_tg_numbers a_tg_strengths a_tg_silent : Nat) (x_n : Int32) (x_blocker : Int32) (x_blockerBits : Int32) (x_tornBy : Int32) (tg_size : Int32) (tg_numbers : Nat → Int32) (tg_strengths : Nat → Int32) (tg_silent : Nat → Int32) (r_la r_sp : Nat) : va_W := [(h_x, .inr (10, [.int x_n, .int x_blocker, .int x_blockerBits, .int x_tornBy, .ref h_tg, .ref h_cr, .ref (r_la), .ref (r_sp), .ref a_x_splitRow, .ref h_tp, .ref h_tx, .ref h_fr, .ref h_se, .ref h_od, .ref h_kn, .ref a_x_sheets])), (h_tg, .inr (6, [.ref a_tg_numbers, .ref a_tg_strengths, .ref a_tg_silent, .int tg_size])), (a_tg_numbers, .inl (cyI, 16, .inl tg_numbers)), (a_tg_strengths, .inl (cyI, 16, .inl tg_strengths)), (a_tg_silent, .inl (cyZ, 16, .inl tg_silent))]
/-! TagReader.block(II)I -/
def pX10_block (v1 : Int32) (v2 : Int32) (x_n : Int32) (x_blocker : Int32) (x_blockerBits : Int32) : Option (Int32 × Int32 × Int32) := px_b (pX10_within v2 (-1 : Int32) x_n) (fun o_1 => (if o_1 = (0 : Int32) then some ((-1 : Int32), x_blocker, x_blockerBits) else (if (0 : Int32) ≤ v2 then px_b (pX10_lowBits v2) (fun o_4 => some (((1 : Int32) <<< ((x_n - v2) &&& (31 : Int32))), (v1 &&& o_4), v2)) else some ((0 : Int32), x_blocker, v2))))
abbrev wdX10_block (cyI cyZ cyJ cyB cyO : ClassId) (h_x h_tg h_cr h_la h_sp a_x_splitRow h_tp h_tx h_fr h_se h_od h_kn a_x_sheets : Nat) (x_n : Int32) (x_blocker : Int32) (x_blockerBits : Int32) (x_tornBy : Int32) (r_la r_sp : Nat) : va_W := [(h_x, .inr (10, [.int x_n, .int x_blocker, .int x_blockerBits, .int x_tornBy, .ref h_tg, .ref h_cr, .ref (r_la), .ref (r_sp), .ref a_x_splitRow, .ref h_tp, .ref h_tx, .ref h_fr, .ref h_se, .ref h_od, .ref h_kn, .ref a_x_sheets]))]
/-! TagReader.gatherTags()V -/
def pX10_gatherTags_58 (x_n : Int32) (x_blocker : Int32) (x_blockerBits : Int32) (tg_size : Int32) (tg_numbers : Nat → Int32) (tg_silent : Nat → Int32) (cr_size : Int32) (cr_n : Int32) (cr_blockerBits : Int32) (cr_blocker : Int32) (cr_numbers : Nat → Int32) : Option (Int32 × Int32 × Int32 × Int32 × (Nat → Int32)) := some (cr_size, cr_n, x_blockerBits, x_blocker, cr_numbers)
def pX10_gatherTags_13B (x_n : Int32) (x_blocker : Int32) (x_blockerBits : Int32) (tg_size : Int32) (tg_numbers : Nat → Int32) (tg_silent : Nat → Int32) (K_13 : Int32 → Int32 → Int32 → Int32 → Int32 → (Nat → Int32) → Option (Int32 × Int32 × Int32 × Int32 × (Nat → Int32))) (v1 : Int32) (cr_size : Int32) (cr_n : Int32) (cr_blockerBits : Int32) (cr_blocker : Int32) (cr_numbers : Nat → Int32) : Option (Int32 × Int32 × Int32 × Int32 × (Nat → Int32)) := (if tg_size ≤ v1 then pX10_gatherTags_58 x_n x_blocker x_blockerBits tg_size tg_numbers tg_silent cr_size cr_n cr_blockerBits cr_blocker cr_numbers else px_i v1 16 ((if (tg_silent (Int32.toNatClampNeg v1)) = (0 : Int32) then px_i v1 16 (px_b (pX0_add (tg_numbers (Int32.toNatClampNeg v1)) cr_size cr_numbers) (fun o_6 => K_13 (v1 + (1 : Int32)) o_6.1 cr_n cr_blockerBits cr_blocker o_6.2)) else K_13 (v1 + (1 : Int32)) cr_size cr_n cr_blockerBits cr_blocker cr_numbers)))
def pX10_gatherTags_13 (x_n : Int32) (x_blocker : Int32) (x_blockerBits : Int32) (tg_size : Int32) (tg_numbers : Nat → Int32) (tg_silent : Nat → Int32) : Nat → Int32 → Int32 → Int32 → Int32 → Int32 → (Nat → Int32) → Option (Int32 × Int32 × Int32 × Int32 × (Nat → Int32))
  | 0, _, _, _, _, _, _ => none
  | n + 1, v1, cr_size, cr_n, cr_blockerBits, cr_blocker, cr_numbers => pX10_gatherTags_13B x_n x_blocker x_blockerBits tg_size tg_numbers tg_silent (pX10_gatherTags_13 x_n x_blocker x_blockerBits tg_size tg_numbers tg_silent n) v1 cr_size cr_n cr_blockerBits cr_blocker cr_numbers
def pX10_gatherTags (x_n : Int32) (x_blocker : Int32) (x_blockerBits : Int32) (tg_size : Int32) (tg_numbers : Nat → Int32) (tg_silent : Nat → Int32) (cr_size : Int32) (cr_n : Int32) (cr_blockerBits : Int32) (cr_blocker : Int32) (cr_numbers : Nat → Int32) : Option (Int32 × Int32 × Int32 × Int32 × (Nat → Int32)) := px_b (pX0_clear x_n cr_size cr_n cr_blockerBits) (fun o_1 => pX10_gatherTags_13 x_n x_blocker x_blockerBits tg_size tg_numbers tg_silent px_FU (0 : Int32) o_1.1 o_1.2.1 o_1.2.2 cr_blocker cr_numbers)
abbrev wdX10_gatherTags (cyI cyZ cyJ cyB cyO : ClassId) (h_x h_tg h_cr h_la h_sp a_x_splitRow h_tp h_tx h_fr h_se h_od h_kn a_x_sheets a_tg_numbers a_tg_strengths a_tg_silent a_cr_numbers : Nat) (x_n : Int32) (x_blocker : Int32) (x_blockerBits : Int32) (x_tornBy : Int32) (tg_size : Int32) (tg_numbers : Nat → Int32) (tg_strengths : Nat → Int32) (tg_silent : Nat → Int32) (cr_size : Int32) (cr_n : Int32) (cr_blockerBits : Int32) (cr_blocker : Int32) (cr_tagsHeard : Int32) (cr_seemingHeard : Int32) (cr_ones : Int32) (cr_zeros : Int32) (cr_numbers : Nat → Int32) (r_la r_sp : Nat) : va_W := [(h_x, .inr (10, [.int x_n, .int x_blocker, .int x_blockerBits, .int x_tornBy, .ref h_tg, .ref h_cr, .ref (r_la), .ref (r_sp), .ref a_x_splitRow, .ref h_tp, .ref h_tx, .ref h_fr, .ref h_se, .ref h_od, .ref h_kn, .ref a_x_sheets])), (h_tg, .inr (6, [.ref a_tg_numbers, .ref a_tg_strengths, .ref a_tg_silent, .int tg_size])), (a_tg_numbers, .inl (cyI, 16, .inl tg_numbers)), (a_tg_strengths, .inl (cyI, 16, .inl tg_strengths)), (a_tg_silent, .inl (cyZ, 16, .inl tg_silent)), (h_cr, .inr (0, [.ref a_cr_numbers, .int cr_size, .int cr_n, .int cr_blockerBits, .int cr_blocker, .int cr_tagsHeard, .int cr_seemingHeard, .int cr_ones, .int cr_zeros])), (a_cr_numbers, .inl (cyI, 32, .inl cr_numbers))]
/-! TagReader.ask(III)I -/
def pX10_ask (v1 : Int32) (v2 : Int32) (v3 : Int32) (x_n : Int32) (x_blocker : Int32) (x_blockerBits : Int32) (tg_size : Int32) (tg_numbers : Nat → Int32) (tg_silent : Nat → Int32) (cr_size : Int32) (cr_n : Int32) (cr_blockerBits : Int32) (cr_blocker : Int32) (cr_tagsHeard : Int32) (cr_seemingHeard : Int32) (cr_ones : Int32) (cr_zeros : Int32) (cr_numbers : Nat → Int32) : Option (Int32 × Int32 × Int32 × Int32 × Int32 × Int32 × Int32 × Int32 × Int32 × (Nat → Int32)) := px_b (pX10_within v1 (0 : Int32) x_n) (fun o_1 => (if o_1 = (0 : Int32) then some ((-1 : Int32), cr_size, cr_n, cr_blockerBits, cr_blocker, cr_tagsHeard, cr_seemingHeard, cr_ones, cr_zeros, cr_numbers) else px_b (pX10_lowBits v1) (fun o_3 => px_b (pX10_within v2 (0 : Int32) o_3) (fun o_4 => (if o_4 = (0 : Int32) then some ((-1 : Int32), cr_size, cr_n, cr_blockerBits, cr_blocker, cr_tagsHeard, cr_seemingHeard, cr_ones, cr_zeros, cr_numbers) else px_b (pX10_within v3 (0 : Int32) (2 : Int32)) (fun o_6 => (if o_6 = (0 : Int32) then some ((-1 : Int32), cr_size, cr_n, cr_blockerBits, cr_blocker, cr_tagsHeard, cr_seemingHeard, cr_ones, cr_zeros, cr_numbers) else px_b (pX10_gatherTags x_n x_blocker x_blockerBits tg_size tg_numbers tg_silent cr_size cr_n cr_blockerBits cr_blocker cr_numbers) (fun o_8 => px_b (pX0_listen v1 v2 o_8.1 o_8.2.1 o_8.2.2.1 o_8.2.2.2.1 o_8.2.2.2.2 cr_tagsHeard cr_seemingHeard cr_ones cr_zeros) (fun o_9 => (if v3 = (0 : Int32) then some ((o_9.1 + o_9.2.1), o_8.1, o_8.2.1, o_8.2.2.1, o_8.2.2.2.1, o_9.1, o_9.2.1, o_9.2.2.1, o_9.2.2.2, o_8.2.2.2.2) else (if v3 = (1 : Int32) then some ((o_9.2.2.1 &&& (o_9.2.2.2 ^^^ (-1 : Int32))), o_8.1, o_8.2.1, o_8.2.2.1, o_8.2.2.2.1, o_9.1, o_9.2.1, o_9.2.2.1, o_9.2.2.2, o_8.2.2.2.2) else px_b (pX0_clashes o_9.2.2.1 o_9.2.2.2) (fun o_12 => some (o_12, o_8.1, o_8.2.1, o_8.2.2.1, o_8.2.2.2.1, o_9.1, o_9.2.1, o_9.2.2.1, o_9.2.2.2, o_8.2.2.2.2)))))))))))))
abbrev wdX10_ask (cyI cyZ cyJ cyB cyO : ClassId) (h_x h_tg h_cr h_la h_sp a_x_splitRow h_tp h_tx h_fr h_se h_od h_kn a_x_sheets a_tg_numbers a_tg_strengths a_tg_silent a_cr_numbers : Nat) (x_n : Int32) (x_blocker : Int32) (x_blockerBits : Int32) (x_tornBy : Int32) (tg_size : Int32) (tg_numbers : Nat → Int32) (tg_strengths : Nat → Int32) (tg_silent : Nat → Int32) (cr_size : Int32) (cr_n : Int32) (cr_blockerBits : Int32) (cr_blocker : Int32) (cr_tagsHeard : Int32) (cr_seemingHeard : Int32) (cr_ones : Int32) (cr_zeros : Int32) (cr_numbers : Nat → Int32) (r_la r_sp : Nat) : va_W := [(h_x, .inr (10, [.int x_n, .int x_blocker, .int x_blockerBits, .int x_tornBy, .ref h_tg, .ref h_cr, .ref (r_la), .ref (r_sp), .ref a_x_splitRow, .ref h_tp, .ref h_tx, .ref h_fr, .ref h_se, .ref h_od, .ref h_kn, .ref a_x_sheets])), (h_tg, .inr (6, [.ref a_tg_numbers, .ref a_tg_strengths, .ref a_tg_silent, .int tg_size])), (a_tg_numbers, .inl (cyI, 16, .inl tg_numbers)), (a_tg_strengths, .inl (cyI, 16, .inl tg_strengths)), (a_tg_silent, .inl (cyZ, 16, .inl tg_silent)), (h_cr, .inr (0, [.ref a_cr_numbers, .int cr_size, .int cr_n, .int cr_blockerBits, .int cr_blocker, .int cr_tagsHeard, .int cr_seemingHeard, .int cr_ones, .int cr_zeros])), (a_cr_numbers, .inl (cyI, 32, .inl cr_numbers))]
/-! TagReader.isNumber(I)Z -/
theorem hvX10_isNumber : yX10_isNumber.cls = RX10 ∧ yX10_isNumber.cls ≠ "java/lang/invoke/MethodHandle" ∧ yX10_isNumber.cls ≠ "java/lang/invoke/VarHandle" ∧ (parseMethodDescriptor yX10_isNumber.desc).map (fun d => d.parameters.length) = some 1 := by decide +kernel
theorem fX10_isNumber_X10 : ∀ w ∈ u_ws RX10 TX10 16, w ∈ wsX10_isNumber := fun _ h => List.mem_cons_of_mem _ (List.mem_append_right _ h)
theorem kX10_isNumber_1 : (.fieldLink RX10 7 "TagReader" "n" "I" : Cond) ∈ wsX10_isNumber := List.mem_of_getElem? (i := 1) rfl
set_option maxHeartbeats 4000000 in
set_option maxRecDepth 100000 in
theorem ccX10_isNumber (l : Launch) (dC : Nat → ClassId) (dI : Nat → Nat → Nat) (cyI cyZ cyJ cyB cyO : ClassId) (h_x h_tg h_cr h_la h_sp a_x_splitRow h_tp h_tx h_fr h_se h_od h_kn a_x_sheets : Nat) (x_n : Int32) (x_blocker : Int32) (x_blockerBits : Int32) (x_tornBy : Int32) (v1 : Int32) (out : Int32) (hp : pX10_isNumber v1 x_n = some out) : Met l yX10_isNumber wsX10_isNumber ({ frames := 1, cells := 0, slots := 0, locals := 22 } : Room) (px_PR (dC, dI) (px_TY cyI cyZ cyJ cyB cyO) [.ref h_x, .int v1] (wdX10_isNumber cyI cyZ cyJ cyB cyO h_x h_tg h_cr h_la h_sp a_x_splitRow h_tp h_tx h_fr h_se h_od h_kn a_x_sheets x_n x_blocker x_blockerBits x_tornBy h_la h_sp)) (px_QR (.int out)) 0 0 (fun _ => False) := by
  refine Met.ofW (cc := cX10_isNumber) (maxL := 2) (ret := (some .boolean)) (by decide) rfl ?_
  intro p e s m args below meth c s₁ B hml hv
  obtain ⟨rfl, hP, hK, hN⟩ := hv
  have hx := B.exec
  have hb := B.bytes
  have hr := B.returns
  have hts := atoms_spec (ws := wsX10_isNumber) B.pre
  have hown : s.vm.findClass RX10 = some m.cls := findClass_of_methodNamed B.named
  have hlocks := B.notSynchronized
  have hQ : ∀ (pc : Nat) (ls : Array Slot), narrow .boolean (.int out) = .int out → decode cX10_isNumber pc = .ok (.ireturn, 1) → W p l e ({ frames := 1, cells := 0, slots := 0, locals := 22 } : Room) s m (([.ref h_x, .int v1] : List Value).toArray) below meth c s.heap [] 0 0 (MQ below (px_QR (.int out)) (([.ref h_x, .int v1] : List Value).toArray) s 0 0 (fun _ => False)) (F0 m pc ls [.int out]) := fun pc ls hz hd => W.zret hx hb hr hz (fun t ht hW => ⟨rfl, ht⟩) (fun q h => by cases h) hd
  generalize MQ below (px_QR (.int out)) (([.ref h_x, .int v1] : List Value).toArray) s 0 0 (fun _ => False) = Q at hQ ⊢
  have hl := lv_entry [.ref h_x, .int v1] (n := 2) (Nat.le_of_ble_eq_true rfl)
  rw [lg_entry_eq]
  generalize (lg_sl [.ref h_x, .int v1] ++ List.replicate (2 - (lg_sl [.ref h_x, .int v1]).length) Slot.unset).toArray = ls at hl ⊢
  have hl : lv_has ls 2 [(0, .ref h_x), (1, .int v1)] := hl
  unfold pX10_isNumber at hp
  refine lv_iload_n hx hb dX10_isNumber_0 rfl (lv_at hl 1 rfl) ?_
  refine lv_iconst (v := (0 : Int32)) hx hb dX10_isNumber_1 (by decide) ?_
  refine lv_aload_n hx hb dX10_isNumber_2 rfl (lv_at hl 0 rfl) ?_
  refine va_get (D := (dC, dI)) (ci := 10) (v := .int x_n) (C := RX10) (T := TX10) (N := 16) hx hb hts fX10_isNumber_X10 hown hK hP 0 rfl rfl 0 (by decide) (hts _ kX10_isNumber_1) (fun _ h9 => h9) rfl dX10_isNumber_3 ?_
  obtain ⟨o_1, ho_1, hp⟩ := px_b_at hp
  refine px_callR (v := .int o_1) (va_runS (As := [.int x_n]) (rest := [.int (0 : Int32), .int v1]) ⟨hx, hb, hml, hown, hts⟩ (ccX10_lowBits l dC dI cyI cyZ cyJ cyB cyO x_n o_1 ho_1) (va_cwS 1 hts gX10_isNumber_X10_lowBits rfl rfl rfl hsX10_lowBits ⟨Nat.le_of_ble_eq_true rfl, Nat.le_of_ble_eq_true rfl⟩) (px_preR (wc := []) hK hN hP [] rfl) rfl rfl hl.1 rfl (lv_room (Nat.le_of_ble_eq_true rfl)) dX10_isNumber_6 ⟨Nat.zero_le _, Nat.zero_le _⟩) ?_
  obtain ⟨o_2, ho_2, hp⟩ := px_b_at hp
  refine px_callR (v := .int o_2) (va_runS (As := [.int v1, .int (0 : Int32), .int o_1]) (rest := []) ⟨hx, hb, hml, hown, hts⟩ (ccX10_within l dC dI cyI cyZ cyJ cyB cyO v1 (0 : Int32) o_1 o_2 ho_2) (va_cwS 3 hts gX10_isNumber_X10_within rfl rfl rfl hsX10_within ⟨Nat.le_of_ble_eq_true rfl, Nat.le_of_ble_eq_true rfl⟩) (px_preR (wc := []) hK hN hP [] rfl) rfl rfl hl.1 rfl (lv_room (Nat.le_of_ble_eq_true rfl)) dX10_isNumber_9 ⟨Nat.zero_le _, Nat.zero_le _⟩) ?_
  obtain ⟨g_3, hp⟩ := px_o_at hp
  have ho := px_s hp
  subst ho
  exact hQ _ _ g_3 dX10_isNumber_12
/-! TagReader.refusalOfTag(II)I -/
theorem hvX10_refusalOfTag : yX10_refusalOfTag.cls = RX10 ∧ yX10_refusalOfTag.cls ≠ "java/lang/invoke/MethodHandle" ∧ yX10_refusalOfTag.cls ≠ "java/lang/invoke/VarHandle" ∧ (parseMethodDescriptor yX10_refusalOfTag.desc).map (fun d => d.parameters.length) = some 2 := by decide +kernel
theorem fX10_refusalOfTag_X10 : ∀ w ∈ u_ws RX10 TX10 16, w ∈ wsX10_refusalOfTag := fun _ h => List.mem_cons_of_mem _ (List.mem_append_left _ (List.mem_append_right _ h))
theorem kX10_refusalOfTag_1 : (.fieldLink RX10 25 "TagReader" "tags" "LTagReader$Tags;" : Cond) ∈ wsX10_refusalOfTag := List.mem_of_getElem? (i := 1) rfl
theorem fX10_refusalOfTag_X6 : ∀ w ∈ u_ws RX6 TX6 4, w ∈ wsX10_refusalOfTag := fun _ h => List.mem_cons_of_mem _ (List.mem_append_right _ h)
theorem kX10_refusalOfTag_2 : (.fieldLink RX10 103 "TagReader$Tags" "size" "I" : Cond) ∈ wsX10_refusalOfTag := List.mem_of_getElem? (i := 2) rfl
set_option maxHeartbeats 4000000 in
set_option maxRecDepth 100000 in
theorem ccX10_refusalOfTag (l : Launch) (dC : Nat → ClassId) (dI : Nat → Nat → Nat) (cyI cyZ cyJ cyB cyO : ClassId) (h_x h_tg h_cr h_la h_sp a_x_splitRow h_tp h_tx h_fr h_se h_od h_kn a_x_sheets a_tg_numbers a_tg_strengths a_tg_silent : Nat) (x_n : Int32) (x_blocker : Int32) (x_blockerBits : Int32) (x_tornBy : Int32) (tg_size : Int32) (tg_numbers : Nat → Int32) (tg_strengths : Nat → Int32) (tg_silent : Nat → Int32) (v1 : Int32) (v2 : Int32) (out : Int32) (hp : pX10_refusalOfTag v1 v2 x_n tg_size tg_numbers = some out) : Met l yX10_refusalOfTag wsX10_refusalOfTag ({ frames := 2, cells := 0, slots := 0, locals := 43 } : Room) (px_PR (dC, dI) (px_TY cyI cyZ cyJ cyB cyO) [.ref h_x, .int v1, .int v2] (wdX10_refusalOfTag cyI cyZ cyJ cyB cyO h_x h_tg h_cr h_la h_sp a_x_splitRow h_tp h_tx h_fr h_se h_od h_kn a_x_sheets a_tg_numbers a_tg_strengths a_tg_silent x_n x_blocker x_blockerBits x_tornBy tg_size tg_numbers tg_strengths tg_silent h_la h_sp)) (px_QR (.int out)) 0 0 (fun _ => False) := by
  refine Met.ofW (cc := cX10_refusalOfTag) (maxL := 3) (ret := (some .int)) (by decide) rfl ?_
  intro p e s m args below meth c s₁ B hml hv
  obtain ⟨rfl, hP, hK, hN⟩ := hv
  have hx := B.exec
  have hb := B.bytes
  have hr := B.returns
  have hts := atoms_spec (ws := wsX10_refusalOfTag) B.pre
  have hown : s.vm.findClass RX10 = some m.cls := findClass_of_methodNamed B.named
  have hlocks := B.notSynchronized
  have hQ : ∀ (pc : Nat) (ls : Array Slot), decode cX10_refusalOfTag pc = .ok (.ireturn, 1) → W p l e ({ frames := 2, cells := 0, slots := 0, locals := 43 } : Room) s m (([.ref h_x, .int v1, .int v2] : List Value).toArray) below meth c s.heap [] 0 0 (MQ below (px_QR (.int out)) (([.ref h_x, .int v1, .int v2] : List Value).toArray) s 0 0 (fun _ => False)) (F0 m pc ls [.int out]) := fun pc ls hd => W.iret hx hb hr (fun t ht hW => ⟨rfl, ht⟩) (fun q h => by cases h) hd
  generalize MQ below (px_QR (.int out)) (([.ref h_x, .int v1, .int v2] : List Value).toArray) s 0 0 (fun _ => False) = Q at hQ ⊢
  have hl := lv_entry [.ref h_x, .int v1, .int v2] (n := 3) (Nat.le_of_ble_eq_true rfl)
  rw [lg_entry_eq]
  generalize (lg_sl [.ref h_x, .int v1, .int v2] ++ List.replicate (3 - (lg_sl [.ref h_x, .int v1, .int v2]).length) Slot.unset).toArray = ls at hl ⊢
  have hl : lv_has ls 3 [(0, .ref h_x), (1, .int v1), (2, .int v2)] := hl
  unfold pX10_refusalOfTag at hp
  refine lv_aload_n hx hb dX10_refusalOfTag_0 rfl (lv_at hl 0 rfl) ?_
  refine lv_iload_n hx hb dX10_refusalOfTag_1 rfl (lv_at hl 1 rfl) ?_
  obtain ⟨o_1, ho_1, hp⟩ := px_b_at hp
  refine px_callR (v := .int o_1) (va_runV (As := [.int v1]) (rest := []) ⟨hx, hb, hml, hown, hts⟩ (ccX10_isNumber l dC dI cyI cyZ cyJ cyB cyO h_x h_tg h_cr h_la h_sp a_x_splitRow h_tp h_tx h_fr h_se h_od h_kn a_x_sheets x_n x_blocker x_blockerBits x_tornBy v1 o_1 ho_1) (cwV 1 hts gX10_refusalOfTag_X10_isNumber rfl rfl rfl hvX10_isNumber ⟨Nat.le_of_ble_eq_true rfl, Nat.le_of_ble_eq_true rfl⟩) (px_preRV (wc := (wdX10_isNumber cyI cyZ cyJ cyB cyO h_x h_tg h_cr h_la h_sp a_x_splitRow h_tp h_tx h_fr h_se h_od h_kn a_x_sheets x_n x_blocker x_blockerBits x_tornBy h_la h_sp)) (ci := 10) (q0 := 0) hK hN hP [0] rfl rfl rfl) rfl rfl hl.1 rfl (lv_room (Nat.le_of_ble_eq_true rfl)) dX10_refusalOfTag_2 ⟨Nat.zero_le _, Nat.zero_le _⟩) ?_
  refine lv_if_eq (tgt := 29) hx hb dX10_refusalOfTag_5 (by decide) (fun c_2 => ?_) (fun c_2 => ?_)
  · have hp := px_t hp c_2
    refine lv_iconst (v := (-1 : Int32)) hx hb dX10_refusalOfTag_29 (by decide) ?_
    have ho := px_s hp
    subst ho
    exact hQ _ _ dX10_refusalOfTag_30
  · have hp := px_f hp c_2
    refine lv_iload_n hx hb dX10_refusalOfTag_8 rfl (lv_at hl 2 rfl) ?_
    refine lv_iconst (v := (1 : Int32)) hx hb dX10_refusalOfTag_9 (by decide) ?_
    refine lv_bipush (v := (99 : Int32)) hx hb dX10_refusalOfTag_10 (by decide) ?_
    obtain ⟨o_3, ho_3, hp⟩ := px_b_at hp
    refine px_callR (v := .int o_3) (va_runS (As := [.int v2, .int (1 : Int32), .int (99 : Int32)]) (rest := []) ⟨hx, hb, hml, hown, hts⟩ (ccX10_within l dC dI cyI cyZ cyJ cyB cyO v2 (1 : Int32) (99 : Int32) o_3 ho_3) (va_cwS 3 hts gX10_refusalOfTag_X10_within rfl rfl rfl hsX10_within ⟨Nat.le_of_ble_eq_true rfl, Nat.le_of_ble_eq_true rfl⟩) (px_preR (wc := []) hK hN hP [] rfl) rfl rfl hl.1 rfl (lv_room (Nat.le_of_ble_eq_true rfl)) dX10_refusalOfTag_12 ⟨Nat.zero_le _, Nat.zero_le _⟩) ?_
    refine lv_if_eq (tgt := 29) hx hb dX10_refusalOfTag_15 (by decide) (fun c_4 => ?_) (fun c_4 => ?_)
    · have hp := px_t hp c_4
      refine lv_iconst (v := (-1 : Int32)) hx hb dX10_refusalOfTag_29 (by decide) ?_
      have ho := px_s hp
      subst ho
      exact hQ _ _ dX10_refusalOfTag_30
    · have hp := px_f hp c_4
      refine lv_aload_n hx hb dX10_refusalOfTag_18 rfl (lv_at hl 0 rfl) ?_
      refine va_get (D := (dC, dI)) (ci := 10) (v := .ref h_tg) (C := RX10) (T := TX10) (N := 16) hx hb hts fX10_refusalOfTag_X10 hown hK hP 0 rfl rfl 4 (by decide) (hts _ kX10_refusalOfTag_1) (fun _ h9 => h9) rfl dX10_refusalOfTag_19 ?_
      refine lv_iload_n hx hb dX10_refusalOfTag_22 rfl (lv_at hl 1 rfl) ?_
      obtain ⟨o_5, ho_5, hp⟩ := px_b_at hp
      refine px_callR (v := .int o_5) (va_runV (As := [.int v1]) (rest := []) ⟨hx, hb, hml, hown, hts⟩ (ccX6_hasNumber l dC dI cyI cyZ cyJ cyB cyO h_tg a_tg_numbers a_tg_strengths a_tg_silent tg_size tg_numbers tg_strengths tg_silent v1 o_5 ho_5) (cwV 1 hts gX10_refusalOfTag_X6_hasNumber rfl rfl rfl hvX6_hasNumber ⟨Nat.le_of_ble_eq_true rfl, Nat.le_of_ble_eq_true rfl⟩) (px_preRV (wc := (wdX6_hasNumber cyI cyZ cyJ cyB cyO h_tg a_tg_numbers a_tg_strengths a_tg_silent tg_size tg_numbers tg_strengths tg_silent)) (ci := 6) (q0 := 1) hK hN hP [1, 2, 3, 4] rfl rfl rfl) rfl rfl hl.1 rfl (lv_room (Nat.le_of_ble_eq_true rfl)) dX10_refusalOfTag_23 ⟨Nat.zero_le _, Nat.zero_le _⟩) ?_
      refine lv_if_eq (tgt := 31) hx hb dX10_refusalOfTag_26 (by decide) (fun c_6 => ?_) (fun c_6 => ?_)
      · have hp := px_t hp c_6
        refine lv_aload_n hx hb dX10_refusalOfTag_31 rfl (lv_at hl 0 rfl) ?_
        refine va_get (D := (dC, dI)) (ci := 10) (v := .ref h_tg) (C := RX10) (T := TX10) (N := 16) hx hb hts fX10_refusalOfTag_X10 hown hK hP 0 rfl rfl 4 (by decide) (hts _ kX10_refusalOfTag_1) (fun _ h9 => h9) rfl dX10_refusalOfTag_32 ?_
        refine va_get (D := (dC, dI)) (ci := 6) (v := .int tg_size) (C := RX6) (T := TX6) (N := 4) hx hb hts fX10_refusalOfTag_X6 hown hK hP 1 rfl rfl 3 (by decide) (hts _ kX10_refusalOfTag_2) (fun _ h9 => h9) rfl dX10_refusalOfTag_35 ?_
        refine lv_bipush (v := (16 : Int32)) hx hb dX10_refusalOfTag_38 (by decide) ?_
        refine lv_icmp_lt (tgt := 48) hx hb dX10_refusalOfTag_40 (by decide) (fun c_7 => ?_) (fun c_7 => ?_)
        · have hp := px_t hp c_7
          refine lv_iconst (v := (0 : Int32)) hx hb dX10_refusalOfTag_48 (by decide) ?_
          have ho := px_s hp
          subst ho
          exact hQ _ _ dX10_refusalOfTag_49
        · have hp := px_f hp c_7
          refine lv_bipush (v := (-3 : Int32)) hx hb dX10_refusalOfTag_43 (by decide) ?_
          refine lv_goto (tgt := 49) hx hb dX10_refusalOfTag_45 (by decide) ?_
          have ho := px_s hp
          subst ho
          exact hQ _ _ dX10_refusalOfTag_49
      · have hp := px_f hp c_6
        refine lv_iconst (v := (-1 : Int32)) hx hb dX10_refusalOfTag_29 (by decide) ?_
        have ho := px_s hp
        subst ho
        exact hQ _ _ dX10_refusalOfTag_30
/-! TagReader.bits(I)I -/
theorem hvX10_bits : yX10_bits.cls = RX10 ∧ yX10_bits.cls ≠ "java/lang/invoke/MethodHandle" ∧ yX10_bits.cls ≠ "java/lang/invoke/VarHandle" ∧ (parseMethodDescriptor yX10_bits.desc).map (fun d => d.parameters.length) = some 1 := by decide +kernel
theorem fX10_bits_X10 : ∀ w ∈ u_ws RX10 TX10 16, w ∈ wsX10_bits := fun _ h => List.mem_cons_of_mem _ (List.mem_append_left _ (List.mem_append_left _ (List.mem_append_left _ (List.mem_append_right _ h))))
theorem kX10_bits_1 : (.fieldLink RX10 7 "TagReader" "n" "I" : Cond) ∈ wsX10_bits := List.mem_of_getElem? (i := 1) rfl
theorem kX10_bits_2 : (.fieldLink RX10 25 "TagReader" "tags" "LTagReader$Tags;" : Cond) ∈ wsX10_bits := List.mem_of_getElem? (i := 2) rfl
theorem fX10_bits_X6 : ∀ w ∈ u_ws RX6 TX6 4, w ∈ wsX10_bits := fun _ h => List.mem_cons_of_mem _ (List.mem_append_left _ (List.mem_append_left _ (List.mem_append_right _ h)))
theorem kX10_bits_3 : (.fieldLink RX10 103 "TagReader$Tags" "size" "I" : Cond) ∈ wsX10_bits := List.mem_of_getElem? (i := 3) rfl
theorem kX10_bits_4 : (.fieldLink RX10 88 "TagReader" "known" "LTagReader$Known;" : Cond) ∈ wsX10_bits := List.mem_of_getElem? (i := 4) rfl
theorem fX10_bits_X2 : ∀ w ∈ u_ws RX2 TX2 3, w ∈ wsX10_bits := fun _ h => List.mem_cons_of_mem _ (List.mem_append_left _ (List.mem_append_right _ h))
theorem kX10_bits_5 : (.fieldLink RX10 106 "TagReader$Known" "size" "I" : Cond) ∈ wsX10_bits := List.mem_of_getElem? (i := 5) rfl
theorem kX10_bits_6 : (.fieldLink RX10 16 "TagReader" "blockerBits" "I" : Cond) ∈ wsX10_bits := List.mem_of_getElem? (i := 6) rfl
theorem kX10_bits_7 : (.fieldLink RX10 39 "TagReader" "latest" "LTagReader$Tree;" : Cond) ∈ wsX10_bits := List.mem_of_getElem? (i := 7) rfl
set_option maxHeartbeats 4000000 in
set_option maxRecDepth 100000 in
theorem ccX10_bits (l : Launch) (dC : Nat → ClassId) (dI : Nat → Nat → Nat) (cyI cyZ cyJ cyB cyO : ClassId) (sz : Nat) (h_x h_tg h_cr h_la h_sp a_x_splitRow h_tp h_tx h_fr h_se h_od h_kn a_x_sheets a_tg_numbers a_tg_strengths a_tg_silent a_la_counts a_la_askedBits a_la_askedBeginnings a_la_waitingBits a_la_waitingBeginnings a_kn_numbers a_kn_slots : Nat) (x_n : Int32) (x_blocker : Int32) (x_blockerBits : Int32) (x_tornBy : Int32) (tg_size : Int32) (tg_numbers : Nat → Int32) (tg_strengths : Nat → Int32) (tg_silent : Nat → Int32) (la_kept : Int32) (la_waiting : Int32) (la_counts : Nat → Int32) (la_askedBits : Nat → Int32) (la_askedBeginnings : Nat → Int32) (la_waitingBits : Nat → Int32) (la_waitingBeginnings : Nat → Int32) (kn_size : Int32) (kn_numbers : Nat → Int32) (kn_slots : Nat → Int32) (v1 : Int32) (out : Int32 × Int32 × Int32 × Int32 × Int32 × Int32 × (Nat → Int32) × Int32) (hp : pX10_bits v1 x_n x_blockerBits tg_size la_kept la_waiting la_counts kn_size = some out) : Met l yX10_bits wsX10_bits ({ frames := 1, cells := 0, slots := 0, locals := 22 } : Room) (px_PW (dC, dI) (px_TY cyI cyZ cyJ cyB cyO) [.ref h_x, .int v1] (wdX10_bits cyI cyZ cyJ cyB cyO h_x h_tg h_cr h_la h_sp a_x_splitRow h_tp h_tx h_fr h_se h_od h_kn a_x_sheets a_tg_numbers a_tg_strengths a_tg_silent a_la_counts a_la_askedBits a_la_askedBeginnings a_la_waitingBits a_la_waitingBeginnings a_kn_numbers a_kn_slots x_n x_blocker x_blockerBits x_tornBy tg_size tg_numbers tg_strengths tg_silent la_kept la_waiting la_counts la_askedBits la_askedBeginnings la_waitingBits la_waitingBeginnings kn_size kn_numbers kn_slots h_la h_sp) sz) (px_QW (some (.int out.1)) (dC, dI) (wdX10_bits cyI cyZ cyJ cyB cyO h_x h_tg h_cr h_la h_sp a_x_splitRow h_tp h_tx h_fr h_se h_od h_kn a_x_sheets a_tg_numbers a_tg_strengths a_tg_silent a_la_counts a_la_askedBits a_la_askedBeginnings a_la_waitingBits a_la_waitingBeginnings a_kn_numbers a_kn_slots x_n x_blocker x_blockerBits x_tornBy tg_size tg_numbers tg_strengths tg_silent la_kept la_waiting la_counts la_askedBits la_askedBeginnings la_waitingBits la_waitingBeginnings kn_size kn_numbers kn_slots h_la h_sp) (wdX10_bits cyI cyZ cyJ cyB cyO h_x h_tg h_cr h_la h_sp a_x_splitRow h_tp h_tx h_fr h_se h_od h_kn a_x_sheets a_tg_numbers a_tg_strengths a_tg_silent a_la_counts a_la_askedBits a_la_askedBeginnings a_la_waitingBits a_la_waitingBeginnings a_kn_numbers a_kn_slots out.2.1 x_blocker out.2.2.1 x_tornBy out.2.2.2.1 tg_numbers tg_strengths tg_silent out.2.2.2.2.1 out.2.2.2.2.2.1 out.2.2.2.2.2.2.1 la_askedBits la_askedBeginnings la_waitingBits la_waitingBeginnings out.2.2.2.2.2.2.2 kn_numbers kn_slots h_la h_sp) sz) 0 0 (va_A (wdX10_bits cyI cyZ cyJ cyB cyO h_x h_tg h_cr h_la h_sp a_x_splitRow h_tp h_tx h_fr h_se h_od h_kn a_x_sheets a_tg_numbers a_tg_strengths a_tg_silent a_la_counts a_la_askedBits a_la_askedBeginnings a_la_waitingBits a_la_waitingBeginnings a_kn_numbers a_kn_slots x_n x_blocker x_blockerBits x_tornBy tg_size tg_numbers tg_strengths tg_silent la_kept la_waiting la_counts la_askedBits la_askedBeginnings la_waitingBits la_waitingBeginnings kn_size kn_numbers kn_slots h_la h_sp) sz) := by
  refine Met.ofW (cc := cX10_bits) (maxL := 3) (ret := (some .int)) (by decide) rfl ?_
  intro p e s m args below meth c s₁ B hml hv
  obtain ⟨rfl, hsz, hP, hK, hD0, hN⟩ := hv
  have hx := B.exec
  have hb := B.bytes
  have hr := B.returns
  have hts := atoms_spec (ws := wsX10_bits) B.pre
  have hown : s.vm.findClass RX10 = some m.cls := findClass_of_methodNamed B.named
  have hlocks := B.notSynchronized
  subst hsz
  have hD := hD0.self (sz := s.heap.size)
  generalize hAe : va_A (wdX10_bits cyI cyZ cyJ cyB cyO h_x h_tg h_cr h_la h_sp a_x_splitRow h_tp h_tx h_fr h_se h_od h_kn a_x_sheets a_tg_numbers a_tg_strengths a_tg_silent a_la_counts a_la_askedBits a_la_askedBeginnings a_la_waitingBits a_la_waitingBeginnings a_kn_numbers a_kn_slots x_n x_blocker x_blockerBits x_tornBy tg_size tg_numbers tg_strengths tg_silent la_kept la_waiting la_counts la_askedBits la_askedBeginnings la_waitingBits la_waitingBeginnings kn_size kn_numbers kn_slots h_la h_sp) s.heap.size = A at hD ⊢
  have hA : ∀ q : Nat, s.heap.size ≤ q → A q := fun q h => by rw [← hAe]; exact Or.inr h
  have hS : va_S A s.heap s.heap [] := va_S.rf
  have hq := px_QWe (v := (some (.int out.1))) (D := (dC, dI)) (w1 := (wdX10_bits cyI cyZ cyJ cyB cyO h_x h_tg h_cr h_la h_sp a_x_splitRow h_tp h_tx h_fr h_se h_od h_kn a_x_sheets a_tg_numbers a_tg_strengths a_tg_silent a_la_counts a_la_askedBits a_la_askedBeginnings a_la_waitingBits a_la_waitingBeginnings a_kn_numbers a_kn_slots out.2.1 x_blocker out.2.2.1 x_tornBy out.2.2.2.1 tg_numbers tg_strengths tg_silent out.2.2.2.2.1 out.2.2.2.2.2.1 out.2.2.2.2.2.2.1 la_askedBits la_askedBeginnings la_waitingBits la_waitingBeginnings out.2.2.2.2.2.2.2 kn_numbers kn_slots h_la h_sp)) (st := s) hAe
  generalize px_QW (some (.int out.1)) (dC, dI) (wdX10_bits cyI cyZ cyJ cyB cyO h_x h_tg h_cr h_la h_sp a_x_splitRow h_tp h_tx h_fr h_se h_od h_kn a_x_sheets a_tg_numbers a_tg_strengths a_tg_silent a_la_counts a_la_askedBits a_la_askedBeginnings a_la_waitingBits a_la_waitingBeginnings a_kn_numbers a_kn_slots x_n x_blocker x_blockerBits x_tornBy tg_size tg_numbers tg_strengths tg_silent la_kept la_waiting la_counts la_askedBits la_askedBeginnings la_waitingBits la_waitingBeginnings kn_size kn_numbers kn_slots h_la h_sp) (wdX10_bits cyI cyZ cyJ cyB cyO h_x h_tg h_cr h_la h_sp a_x_splitRow h_tp h_tx h_fr h_se h_od h_kn a_x_sheets a_tg_numbers a_tg_strengths a_tg_silent a_la_counts a_la_askedBits a_la_askedBeginnings a_la_waitingBits a_la_waitingBeginnings a_kn_numbers a_kn_slots out.2.1 x_blocker out.2.2.1 x_tornBy out.2.2.2.1 tg_numbers tg_strengths tg_silent out.2.2.2.2.1 out.2.2.2.2.2.1 out.2.2.2.2.2.2.1 la_askedBits la_askedBeginnings la_waitingBits la_waitingBeginnings out.2.2.2.2.2.2.2 kn_numbers kn_slots h_la h_sp) s.heap.size = Qc at hq ⊢
  have hQ : ∀ (H : Heap) (locs : List Loc) (pc : Nat) (ls : Array Slot), va_P (dC, dI) vwCl (wdX10_bits cyI cyZ cyJ cyB cyO h_x h_tg h_cr h_la h_sp a_x_splitRow h_tp h_tx h_fr h_se h_od h_kn a_x_sheets a_tg_numbers a_tg_strengths a_tg_silent a_la_counts a_la_askedBits a_la_askedBeginnings a_la_waitingBits a_la_waitingBeginnings a_kn_numbers a_kn_slots out.2.1 x_blocker out.2.2.1 x_tornBy out.2.2.2.1 tg_numbers tg_strengths tg_silent out.2.2.2.2.1 out.2.2.2.2.2.1 out.2.2.2.2.2.2.1 la_askedBits la_askedBeginnings la_waitingBits la_waitingBeginnings out.2.2.2.2.2.2.2 kn_numbers kn_slots h_la h_sp) H → va_D A (wdX10_bits cyI cyZ cyJ cyB cyO h_x h_tg h_cr h_la h_sp a_x_splitRow h_tp h_tx h_fr h_se h_od h_kn a_x_sheets a_tg_numbers a_tg_strengths a_tg_silent a_la_counts a_la_askedBits a_la_askedBeginnings a_la_waitingBits a_la_waitingBeginnings a_kn_numbers a_kn_slots out.2.1 x_blocker out.2.2.1 x_tornBy out.2.2.2.1 tg_numbers tg_strengths tg_silent out.2.2.2.2.1 out.2.2.2.2.2.1 out.2.2.2.2.2.2.1 la_askedBits la_askedBeginnings la_waitingBits la_waitingBeginnings out.2.2.2.2.2.2.2 kn_numbers kn_slots h_la h_sp) → va_S A s.heap H locs → decode cX10_bits pc = .ok (.ireturn, 1) → W p l e ({ frames := 1, cells := 0, slots := 0, locals := 22 } : Room) s m (([.ref h_x, .int v1] : List Value).toArray) below meth c H locs 0 0 (MQ below Qc (([.ref h_x, .int v1] : List Value).toArray) s 0 0 A) (F0 m pc ls [.int out.1]) := fun H locs pc ls hP hD hS hd => W.iret hx hb hr (fun t ht hW => hq _ t (by rw [ht]; exact hP) hD (hS.F ht)) hS.2.2 hd
  generalize MQ below Qc (([.ref h_x, .int v1] : List Value).toArray) s 0 0 A = Q at hQ ⊢
  have hl := lv_entry [.ref h_x, .int v1] (n := 3) (Nat.le_of_ble_eq_true rfl)
  rw [lg_entry_eq]
  generalize (lg_sl [.ref h_x, .int v1] ++ List.replicate (3 - (lg_sl [.ref h_x, .int v1]).length) Slot.unset).toArray = ls at hl ⊢
  have hl : lv_has ls 3 [(0, .ref h_x), (1, .int v1)] := hl
  unfold pX10_bits at hp
  refine lv_iload_n hx hb dX10_bits_0 rfl (lv_at hl 1 rfl) ?_
  refine lv_iconst (v := (2 : Int32)) hx hb dX10_bits_1 (by decide) ?_
  refine lv_bipush (v := (12 : Int32)) hx hb dX10_bits_2 (by decide) ?_
  obtain ⟨o_1, ho_1, hp⟩ := px_b_at hp
  refine px_callR (v := .int o_1) (va_runS (As := [.int v1, .int (2 : Int32), .int (12 : Int32)]) (rest := []) ⟨hx, hb, hml, hown, hts⟩ (ccX10_within l dC dI cyI cyZ cyJ cyB cyO v1 (2 : Int32) (12 : Int32) o_1 ho_1) (va_cwS 3 hts gX10_bits_X10_within rfl rfl rfl hsX10_within ⟨Nat.le_of_ble_eq_true rfl, Nat.le_of_ble_eq_true rfl⟩) (px_preR (wc := []) hK hN hP [] rfl) rfl rfl hl.1 rfl (lv_room (Nat.le_of_ble_eq_true rfl)) dX10_bits_4 ⟨Nat.zero_le _, Nat.zero_le _⟩) ?_
  refine lv_if_ne (tgt := 12) hx hb dX10_bits_7 (by decide) (fun c_2 => ?_) (fun c_2 => ?_)
  · have hp := px_f hp c_2
    refine lv_aload_n hx hb dX10_bits_12 rfl (lv_at hl 0 rfl) ?_
    refine va_get (D := (dC, dI)) (ci := 10) (v := .int x_n) (C := RX10) (T := TX10) (N := 16) hx hb hts fX10_bits_X10 hown hK hP 0 rfl rfl 0 (by decide) (hts _ kX10_bits_1) (fun _ h9 => h9) rfl dX10_bits_13 ?_
    refine lv_istore_n (lv' := [(2, .int x_n), (0, .ref h_x), (1, .int v1)]) hx hb dX10_bits_16 rfl hl (by decide) rfl (fun ls hl => ?_)
    refine lv_aload_n hx hb dX10_bits_17 rfl (lv_at hl 1 rfl) ?_
    refine lv_iload_n hx hb dX10_bits_18 rfl (lv_at hl 2 rfl) ?_
    refine va_put (D := (dC, dI)) (ci := 10) (v := .int v1) (ty := .int) (C := RX10) (T := TX10) (N := 16) hx hb hts fX10_bits_X10 tyX10 tyX10_ok nmX10 hown hK hP hD hS 0 rfl rfl 0 (by decide) (hts _ kX10_bits_1) (fun _ h9 => h9) rfl (tyX10_ok 0 (by decide)) rfl rfl (Nat.le_of_ble_eq_true rfl) dX10_bits_19 (fun H locs hP hD hS => ?_)
    have hP : va_P (dC, dI) vwCl (wdX10_bits cyI cyZ cyJ cyB cyO h_x h_tg h_cr h_la h_sp a_x_splitRow h_tp h_tx h_fr h_se h_od h_kn a_x_sheets a_tg_numbers a_tg_strengths a_tg_silent a_la_counts a_la_askedBits a_la_askedBeginnings a_la_waitingBits a_la_waitingBeginnings a_kn_numbers a_kn_slots v1 x_blocker x_blockerBits x_tornBy tg_size tg_numbers tg_strengths tg_silent la_kept la_waiting la_counts la_askedBits la_askedBeginnings la_waitingBits la_waitingBeginnings kn_size kn_numbers kn_slots h_la h_sp) H := hP
    have hD : va_D A (wdX10_bits cyI cyZ cyJ cyB cyO h_x h_tg h_cr h_la h_sp a_x_splitRow h_tp h_tx h_fr h_se h_od h_kn a_x_sheets a_tg_numbers a_tg_strengths a_tg_silent a_la_counts a_la_askedBits a_la_askedBeginnings a_la_waitingBits a_la_waitingBeginnings a_kn_numbers a_kn_slots v1 x_blocker x_blockerBits x_tornBy tg_size tg_numbers tg_strengths tg_silent la_kept la_waiting la_counts la_askedBits la_askedBeginnings la_waitingBits la_waitingBeginnings kn_size kn_numbers kn_slots h_la h_sp) := hD
    refine lv_aload_n hx hb dX10_bits_22 rfl (lv_at hl 1 rfl) ?_
    refine va_get (D := (dC, dI)) (ci := 10) (v := .ref h_tg) (C := RX10) (T := TX10) (N := 16) hx hb hts fX10_bits_X10 hown hK hP 0 rfl rfl 4 (by decide) (hts _ kX10_bits_2) (fun _ h9 => h9) rfl dX10_bits_23 ?_
    refine lv_iconst (v := (0 : Int32)) hx hb dX10_bits_26 (by decide) ?_
    refine va_put (D := (dC, dI)) (ci := 6) (v := .int (0 : Int32)) (ty := .int) (C := RX6) (T := TX6) (N := 4) hx hb hts fX10_bits_X6 tyX6 tyX6_ok nmX6 hown hK hP hD hS 1 rfl rfl 3 (by decide) (hts _ kX10_bits_3) (fun _ h9 => h9) rfl (tyX6_ok 3 (by decide)) rfl rfl (Nat.le_of_ble_eq_true rfl) dX10_bits_27 (fun H locs hP hD hS => ?_)
    have hP : va_P (dC, dI) vwCl (wdX10_bits cyI cyZ cyJ cyB cyO h_x h_tg h_cr h_la h_sp a_x_splitRow h_tp h_tx h_fr h_se h_od h_kn a_x_sheets a_tg_numbers a_tg_strengths a_tg_silent a_la_counts a_la_askedBits a_la_askedBeginnings a_la_waitingBits a_la_waitingBeginnings a_kn_numbers a_kn_slots v1 x_blocker x_blockerBits x_tornBy (0 : Int32) tg_numbers tg_strengths tg_silent la_kept la_waiting la_counts la_askedBits la_askedBeginnings la_waitingBits la_waitingBeginnings kn_size kn_numbers kn_slots h_la h_sp) H := hP
    have hD : va_D A (wdX10_bits cyI cyZ cyJ cyB cyO h_x h_tg h_cr h_la h_sp a_x_splitRow h_tp h_tx h_fr h_se h_od h_kn a_x_sheets a_tg_numbers a_tg_strengths a_tg_silent a_la_counts a_la_askedBits a_la_askedBeginnings a_la_waitingBits a_la_waitingBeginnings a_kn_numbers a_kn_slots v1 x_blocker x_blockerBits x_tornBy (0 : Int32) tg_numbers tg_strengths tg_silent la_kept la_waiting la_counts la_askedBits la_askedBeginnings la_waitingBits la_waitingBeginnings kn_size kn_numbers kn_slots h_la h_sp) := hD
    refine lv_aload_n hx hb dX10_bits_30 rfl (lv_at hl 1 rfl) ?_
    refine va_get (D := (dC, dI)) (ci := 10) (v := .ref h_kn) (C := RX10) (T := TX10) (N := 16) hx hb hts fX10_bits_X10 hown hK hP 0 rfl rfl 14 (by decide) (hts _ kX10_bits_4) (fun _ h9 => h9) rfl dX10_bits_31 ?_
    refine lv_iconst (v := (0 : Int32)) hx hb dX10_bits_34 (by decide) ?_
    refine va_put (D := (dC, dI)) (ci := 2) (v := .int (0 : Int32)) (ty := .int) (C := RX2) (T := TX2) (N := 3) hx hb hts fX10_bits_X2 tyX2 tyX2_ok nmX2 hown hK hP hD hS 11 rfl rfl 2 (by decide) (hts _ kX10_bits_5) (fun _ h9 => h9) rfl (tyX2_ok 2 (by decide)) rfl rfl (Nat.le_of_ble_eq_true rfl) dX10_bits_35 (fun H locs hP hD hS => ?_)
    have hP : va_P (dC, dI) vwCl (wdX10_bits cyI cyZ cyJ cyB cyO h_x h_tg h_cr h_la h_sp a_x_splitRow h_tp h_tx h_fr h_se h_od h_kn a_x_sheets a_tg_numbers a_tg_strengths a_tg_silent a_la_counts a_la_askedBits a_la_askedBeginnings a_la_waitingBits a_la_waitingBeginnings a_kn_numbers a_kn_slots v1 x_blocker x_blockerBits x_tornBy (0 : Int32) tg_numbers tg_strengths tg_silent la_kept la_waiting la_counts la_askedBits la_askedBeginnings la_waitingBits la_waitingBeginnings (0 : Int32) kn_numbers kn_slots h_la h_sp) H := hP
    have hD : va_D A (wdX10_bits cyI cyZ cyJ cyB cyO h_x h_tg h_cr h_la h_sp a_x_splitRow h_tp h_tx h_fr h_se h_od h_kn a_x_sheets a_tg_numbers a_tg_strengths a_tg_silent a_la_counts a_la_askedBits a_la_askedBeginnings a_la_waitingBits a_la_waitingBeginnings a_kn_numbers a_kn_slots v1 x_blocker x_blockerBits x_tornBy (0 : Int32) tg_numbers tg_strengths tg_silent la_kept la_waiting la_counts la_askedBits la_askedBeginnings la_waitingBits la_waitingBeginnings (0 : Int32) kn_numbers kn_slots h_la h_sp) := hD
    refine lv_aload_n hx hb dX10_bits_38 rfl (lv_at hl 1 rfl) ?_
    refine lv_iconst (v := (-1 : Int32)) hx hb dX10_bits_39 (by decide) ?_
    refine va_put (D := (dC, dI)) (ci := 10) (v := .int (-1 : Int32)) (ty := .int) (C := RX10) (T := TX10) (N := 16) hx hb hts fX10_bits_X10 tyX10 tyX10_ok nmX10 hown hK hP hD hS 0 rfl rfl 2 (by decide) (hts _ kX10_bits_6) (fun _ h9 => h9) rfl (tyX10_ok 2 (by decide)) rfl rfl (Nat.le_of_ble_eq_true rfl) dX10_bits_40 (fun H locs hP hD hS => ?_)
    have hP : va_P (dC, dI) vwCl (wdX10_bits cyI cyZ cyJ cyB cyO h_x h_tg h_cr h_la h_sp a_x_splitRow h_tp h_tx h_fr h_se h_od h_kn a_x_sheets a_tg_numbers a_tg_strengths a_tg_silent a_la_counts a_la_askedBits a_la_askedBeginnings a_la_waitingBits a_la_waitingBeginnings a_kn_numbers a_kn_slots v1 x_blocker (-1 : Int32) x_tornBy (0 : Int32) tg_numbers tg_strengths tg_silent la_kept la_waiting la_counts la_askedBits la_askedBeginnings la_waitingBits la_waitingBeginnings (0 : Int32) kn_numbers kn_slots h_la h_sp) H := hP
    have hD : va_D A (wdX10_bits cyI cyZ cyJ cyB cyO h_x h_tg h_cr h_la h_sp a_x_splitRow h_tp h_tx h_fr h_se h_od h_kn a_x_sheets a_tg_numbers a_tg_strengths a_tg_silent a_la_counts a_la_askedBits a_la_askedBeginnings a_la_waitingBits a_la_waitingBeginnings a_kn_numbers a_kn_slots v1 x_blocker (-1 : Int32) x_tornBy (0 : Int32) tg_numbers tg_strengths tg_silent la_kept la_waiting la_counts la_askedBits la_askedBeginnings la_waitingBits la_waitingBeginnings (0 : Int32) kn_numbers kn_slots h_la h_sp) := hD
    refine lv_aload_n hx hb dX10_bits_43 rfl (lv_at hl 1 rfl) ?_
    refine va_get (D := (dC, dI)) (ci := 10) (v := .ref h_la) (C := RX10) (T := TX10) (N := 16) hx hb hts fX10_bits_X10 hown hK hP 0 rfl rfl 6 (by decide) (hts _ kX10_bits_7) (fun _ h9 => h9) rfl dX10_bits_44 ?_
    obtain ⟨o_3, ho_3, hp⟩ := px_b_at hp
    refine px_callWv (wc := (wdX9_clear cyI cyZ cyJ cyB cyO h_la a_la_counts a_la_askedBits a_la_askedBeginnings a_la_waitingBits a_la_waitingBeginnings la_kept la_waiting la_counts la_askedBits la_askedBeginnings la_waitingBits la_waitingBeginnings)) (wr := [(h_x, .inr (10, [.int v1, .int x_blocker, .int (-1 : Int32), .int x_tornBy, .ref h_tg, .ref h_cr, .ref h_la, .ref h_sp, .ref a_x_splitRow, .ref h_tp, .ref h_tx, .ref h_fr, .ref h_se, .ref h_od, .ref h_kn, .ref a_x_sheets])), (h_tg, .inr (6, [.ref a_tg_numbers, .ref a_tg_strengths, .ref a_tg_silent, .int (0 : Int32)])), (a_tg_numbers, .inl (cyI, 16, .inl tg_numbers)), (a_tg_strengths, .inl (cyI, 16, .inl tg_strengths)), (a_tg_silent, .inl (cyZ, 16, .inl tg_silent)), (h_kn, .inr (2, [.ref a_kn_numbers, .ref a_kn_slots, .int (0 : Int32)])), (a_kn_numbers, .inl (cyI, 16, .inl kn_numbers)), (a_kn_slots, .inl (cyI, 16, .inl kn_slots))]) (w1 := (wdX9_clear cyI cyZ cyJ cyB cyO h_la a_la_counts a_la_askedBits a_la_askedBeginnings a_la_waitingBits a_la_waitingBeginnings o_3.1 o_3.2.1 o_3.2.2 la_askedBits la_askedBeginnings la_waitingBits la_waitingBeginnings)) (ws2 := (wdX10_bits cyI cyZ cyJ cyB cyO h_x h_tg h_cr h_la h_sp a_x_splitRow h_tp h_tx h_fr h_se h_od h_kn a_x_sheets a_tg_numbers a_tg_strengths a_tg_silent a_la_counts a_la_askedBits a_la_askedBeginnings a_la_waitingBits a_la_waitingBeginnings a_kn_numbers a_kn_slots v1 x_blocker (-1 : Int32) x_tornBy (0 : Int32) tg_numbers tg_strengths tg_silent o_3.1 o_3.2.1 o_3.2.2 la_askedBits la_askedBeginnings la_waitingBits la_waitingBeginnings (0 : Int32) kn_numbers kn_slots h_la h_sp)) (va_runV (As := []) (rest := []) ⟨hx, hb, hml, hown, hts⟩ (ccX9_clear l dC dI cyI cyZ cyJ cyB cyO _ h_la a_la_counts a_la_askedBits a_la_askedBeginnings a_la_waitingBits a_la_waitingBeginnings la_kept la_waiting la_counts la_askedBits la_askedBeginnings la_waitingBits la_waitingBeginnings o_3 ho_3) (cwV 0 hts gX10_bits_X9_clear rfl rfl rfl hvX9_clear ⟨Nat.le_of_ble_eq_true rfl, Nat.le_of_ble_eq_true rfl⟩) (px_preWV (wc := (wdX9_clear cyI cyZ cyJ cyB cyO h_la a_la_counts a_la_askedBits a_la_askedBeginnings a_la_waitingBits a_la_waitingBeginnings la_kept la_waiting la_counts la_askedBits la_askedBeginnings la_waitingBits la_waitingBeginnings)) (ci := 9) (q0 := 5) hK hN hP hD [5, 6, 7, 8, 9, 10] (by decide) rfl rfl rfl) rfl rfl hl.1 rfl (lv_room (Nat.le_of_ble_eq_true rfl)) dX10_bits_47 ⟨Nat.zero_le _, Nat.zero_le _⟩) hP hD hS hA [5, 6, 7, 8, 9, 10] [0, 1, 2, 3, 4, 11, 12, 13] [0, 1, 2, 3, 4, 8, 9, 10, 11, 12, 13, 5, 6, 7] rfl rfl (by decide) (by decide) (by decide) rfl (fun H locs hP hD hS => ?_)
    refine lv_iload_n hx hb dX10_bits_50 rfl (lv_at hl 0 rfl) ?_
    have ho := px_s hp
    subst ho
    exact hQ _ _ _ _ hP hD hS dX10_bits_51
  · have hp := px_t hp c_2
    refine lv_iconst (v := (-1 : Int32)) hx hb dX10_bits_10 (by decide) ?_
    have ho := px_s hp
    subst ho
    exact hQ _ _ _ _ hP hD hS dX10_bits_11
/-! TagReader.tag(II)I -/
theorem hvX10_tag : yX10_tag.cls = RX10 ∧ yX10_tag.cls ≠ "java/lang/invoke/MethodHandle" ∧ yX10_tag.cls ≠ "java/lang/invoke/VarHandle" ∧ (parseMethodDescriptor yX10_tag.desc).map (fun d => d.parameters.length) = some 2 := by decide +kernel
theorem fX10_tag_X10 : ∀ w ∈ u_ws RX10 TX10 16, w ∈ wsX10_tag := fun _ h => List.mem_cons_of_mem _ (List.mem_append_left _ (List.mem_append_right _ h))
theorem kX10_tag_1 : (.fieldLink RX10 25 "TagReader" "tags" "LTagReader$Tags;" : Cond) ∈ wsX10_tag := List.mem_of_getElem? (i := 1) rfl
theorem fX10_tag_X6 : ∀ w ∈ u_ws RX6 TX6 4, w ∈ wsX10_tag := fun _ h => List.mem_cons_of_mem _ (List.mem_append_right _ h)
theorem kX10_tag_2 : (.fieldLink RX10 103 "TagReader$Tags" "size" "I" : Cond) ∈ wsX10_tag := List.mem_of_getElem? (i := 2) rfl
set_option maxHeartbeats 4000000 in
set_option maxRecDepth 100000 in
theorem ccX10_tag (l : Launch) (dC : Nat → ClassId) (dI : Nat → Nat → Nat) (cyI cyZ cyJ cyB cyO : ClassId) (sz : Nat) (h_x h_tg h_cr h_la h_sp a_x_splitRow h_tp h_tx h_fr h_se h_od h_kn a_x_sheets a_tg_numbers a_tg_strengths a_tg_silent : Nat) (x_n : Int32) (x_blocker : Int32) (x_blockerBits : Int32) (x_tornBy : Int32) (tg_size : Int32) (tg_numbers : Nat → Int32) (tg_strengths : Nat → Int32) (tg_silent : Nat → Int32) (v1 : Int32) (v2 : Int32) (out : Int32 × Int32 × (Nat → Int32) × (Nat → Int32) × (Nat → Int32)) (hp : pX10_tag v1 v2 x_n tg_size tg_numbers tg_strengths tg_silent = some out) : Met l yX10_tag wsX10_tag ({ frames := 3, cells := 0, slots := 0, locals := 65 } : Room) (px_PW (dC, dI) (px_TY cyI cyZ cyJ cyB cyO) [.ref h_x, .int v1, .int v2] (wdX10_tag cyI cyZ cyJ cyB cyO h_x h_tg h_cr h_la h_sp a_x_splitRow h_tp h_tx h_fr h_se h_od h_kn a_x_sheets a_tg_numbers a_tg_strengths a_tg_silent x_n x_blocker x_blockerBits x_tornBy tg_size tg_numbers tg_strengths tg_silent h_la h_sp) sz) (px_QW (some (.int out.1)) (dC, dI) (wdX10_tag cyI cyZ cyJ cyB cyO h_x h_tg h_cr h_la h_sp a_x_splitRow h_tp h_tx h_fr h_se h_od h_kn a_x_sheets a_tg_numbers a_tg_strengths a_tg_silent x_n x_blocker x_blockerBits x_tornBy tg_size tg_numbers tg_strengths tg_silent h_la h_sp) (wdX10_tag cyI cyZ cyJ cyB cyO h_x h_tg h_cr h_la h_sp a_x_splitRow h_tp h_tx h_fr h_se h_od h_kn a_x_sheets a_tg_numbers a_tg_strengths a_tg_silent x_n x_blocker x_blockerBits x_tornBy out.2.1 out.2.2.1 out.2.2.2.1 out.2.2.2.2 h_la h_sp) sz) 0 0 (va_A (wdX10_tag cyI cyZ cyJ cyB cyO h_x h_tg h_cr h_la h_sp a_x_splitRow h_tp h_tx h_fr h_se h_od h_kn a_x_sheets a_tg_numbers a_tg_strengths a_tg_silent x_n x_blocker x_blockerBits x_tornBy tg_size tg_numbers tg_strengths tg_silent h_la h_sp) sz) := by
  refine Met.ofW (cc := cX10_tag) (maxL := 4) (ret := (some .int)) (by decide) rfl ?_
  intro p e s m args below meth c s₁ B hml hv
  obtain ⟨rfl, hsz, hP, hK, hD0, hN⟩ := hv
  have hx := B.exec
  have hb := B.bytes
  have hr := B.returns
  have hts := atoms_spec (ws := wsX10_tag) B.pre
  have hown : s.vm.findClass RX10 = some m.cls := findClass_of_methodNamed B.named
  have hlocks := B.notSynchronized
  subst hsz
  have hD := hD0.self (sz := s.heap.size)
  generalize hAe : va_A (wdX10_tag cyI cyZ cyJ cyB cyO h_x h_tg h_cr h_la h_sp a_x_splitRow h_tp h_tx h_fr h_se h_od h_kn a_x_sheets a_tg_numbers a_tg_strengths a_tg_silent x_n x_blocker x_blockerBits x_tornBy tg_size tg_numbers tg_strengths tg_silent h_la h_sp) s.heap.size = A at hD ⊢
  have hA : ∀ q : Nat, s.heap.size ≤ q → A q := fun q h => by rw [← hAe]; exact Or.inr h
  have hS : va_S A s.heap s.heap [] := va_S.rf
  have hq := px_QWe (v := (some (.int out.1))) (D := (dC, dI)) (w1 := (wdX10_tag cyI cyZ cyJ cyB cyO h_x h_tg h_cr h_la h_sp a_x_splitRow h_tp h_tx h_fr h_se h_od h_kn a_x_sheets a_tg_numbers a_tg_strengths a_tg_silent x_n x_blocker x_blockerBits x_tornBy out.2.1 out.2.2.1 out.2.2.2.1 out.2.2.2.2 h_la h_sp)) (st := s) hAe
  generalize px_QW (some (.int out.1)) (dC, dI) (wdX10_tag cyI cyZ cyJ cyB cyO h_x h_tg h_cr h_la h_sp a_x_splitRow h_tp h_tx h_fr h_se h_od h_kn a_x_sheets a_tg_numbers a_tg_strengths a_tg_silent x_n x_blocker x_blockerBits x_tornBy tg_size tg_numbers tg_strengths tg_silent h_la h_sp) (wdX10_tag cyI cyZ cyJ cyB cyO h_x h_tg h_cr h_la h_sp a_x_splitRow h_tp h_tx h_fr h_se h_od h_kn a_x_sheets a_tg_numbers a_tg_strengths a_tg_silent x_n x_blocker x_blockerBits x_tornBy out.2.1 out.2.2.1 out.2.2.2.1 out.2.2.2.2 h_la h_sp) s.heap.size = Qc at hq ⊢
  have hQ : ∀ (H : Heap) (locs : List Loc) (pc : Nat) (ls : Array Slot), va_P (dC, dI) vwCl (wdX10_tag cyI cyZ cyJ cyB cyO h_x h_tg h_cr h_la h_sp a_x_splitRow h_tp h_tx h_fr h_se h_od h_kn a_x_sheets a_tg_numbers a_tg_strengths a_tg_silent x_n x_blocker x_blockerBits x_tornBy out.2.1 out.2.2.1 out.2.2.2.1 out.2.2.2.2 h_la h_sp) H → va_D A (wdX10_tag cyI cyZ cyJ cyB cyO h_x h_tg h_cr h_la h_sp a_x_splitRow h_tp h_tx h_fr h_se h_od h_kn a_x_sheets a_tg_numbers a_tg_strengths a_tg_silent x_n x_blocker x_blockerBits x_tornBy out.2.1 out.2.2.1 out.2.2.2.1 out.2.2.2.2 h_la h_sp) → va_S A s.heap H locs → decode cX10_tag pc = .ok (.ireturn, 1) → W p l e ({ frames := 3, cells := 0, slots := 0, locals := 65 } : Room) s m (([.ref h_x, .int v1, .int v2] : List Value).toArray) below meth c H locs 0 0 (MQ below Qc (([.ref h_x, .int v1, .int v2] : List Value).toArray) s 0 0 A) (F0 m pc ls [.int out.1]) := fun H locs pc ls hP hD hS hd => W.iret hx hb hr (fun t ht hW => hq _ t (by rw [ht]; exact hP) hD (hS.F ht)) hS.2.2 hd
  generalize MQ below Qc (([.ref h_x, .int v1, .int v2] : List Value).toArray) s 0 0 A = Q at hQ ⊢
  have hl := lv_entry [.ref h_x, .int v1, .int v2] (n := 4) (Nat.le_of_ble_eq_true rfl)
  rw [lg_entry_eq]
  generalize (lg_sl [.ref h_x, .int v1, .int v2] ++ List.replicate (4 - (lg_sl [.ref h_x, .int v1, .int v2]).length) Slot.unset).toArray = ls at hl ⊢
  have hl : lv_has ls 4 [(0, .ref h_x), (1, .int v1), (2, .int v2)] := hl
  unfold pX10_tag at hp
  refine lv_aload_n hx hb dX10_tag_0 rfl (lv_at hl 0 rfl) ?_
  refine lv_iload_n hx hb dX10_tag_1 rfl (lv_at hl 1 rfl) ?_
  refine lv_iload_n hx hb dX10_tag_2 rfl (lv_at hl 2 rfl) ?_
  obtain ⟨o_1, ho_1, hp⟩ := px_b_at hp
  refine px_callR (v := .int o_1) (va_runV (As := [.int v1, .int v2]) (rest := []) ⟨hx, hb, hml, hown, hts⟩ (ccX10_refusalOfTag l dC dI cyI cyZ cyJ cyB cyO h_x h_tg h_cr h_la h_sp a_x_splitRow h_tp h_tx h_fr h_se h_od h_kn a_x_sheets a_tg_numbers a_tg_strengths a_tg_silent x_n x_blocker x_blockerBits x_tornBy tg_size tg_numbers tg_strengths tg_silent v1 v2 o_1 ho_1) (cwV 2 hts gX10_tag_X10_refusalOfTag rfl rfl rfl hvX10_refusalOfTag ⟨Nat.le_of_ble_eq_true rfl, Nat.le_of_ble_eq_true rfl⟩) (px_preRV (wc := (wdX10_refusalOfTag cyI cyZ cyJ cyB cyO h_x h_tg h_cr h_la h_sp a_x_splitRow h_tp h_tx h_fr h_se h_od h_kn a_x_sheets a_tg_numbers a_tg_strengths a_tg_silent x_n x_blocker x_blockerBits x_tornBy tg_size tg_numbers tg_strengths tg_silent h_la h_sp)) (ci := 10) (q0 := 0) hK hN hP [0, 1, 2, 3, 4] rfl rfl rfl) rfl rfl hl.1 rfl (lv_room (Nat.le_of_ble_eq_true rfl)) dX10_tag_3 ⟨Nat.zero_le _, Nat.zero_le _⟩) ?_
  refine lv_istore_n (lv' := [(3, .int o_1), (0, .ref h_x), (1, .int v1), (2, .int v2)]) hx hb dX10_tag_6 rfl hl (by decide) rfl (fun ls hl => ?_)
  refine lv_iload_n hx hb dX10_tag_7 rfl (lv_at hl 0 rfl) ?_
  refine lv_if_eq (tgt := 13) hx hb dX10_tag_8 (by decide) (fun c_2 => ?_) (fun c_2 => ?_)
  · have hp := px_t hp c_2
    refine lv_aload_n hx hb dX10_tag_13 rfl (lv_at hl 1 rfl) ?_
    refine va_get (D := (dC, dI)) (ci := 10) (v := .ref h_tg) (C := RX10) (T := TX10) (N := 16) hx hb hts fX10_tag_X10 hown hK hP 0 rfl rfl 4 (by decide) (hts _ kX10_tag_1) (fun _ h9 => h9) rfl dX10_tag_14 ?_
    refine lv_iload_n hx hb dX10_tag_17 rfl (lv_at hl 2 rfl) ?_
    refine lv_iload_n hx hb dX10_tag_18 rfl (lv_at hl 3 rfl) ?_
    obtain ⟨o_3, ho_3, hp⟩ := px_b_at hp
    refine px_callWv (wc := (wdX6_add cyI cyZ cyJ cyB cyO h_tg a_tg_numbers a_tg_strengths a_tg_silent tg_size tg_numbers tg_strengths tg_silent)) (wr := [(h_x, .inr (10, [.int x_n, .int x_blocker, .int x_blockerBits, .int x_tornBy, .ref h_tg, .ref h_cr, .ref h_la, .ref h_sp, .ref a_x_splitRow, .ref h_tp, .ref h_tx, .ref h_fr, .ref h_se, .ref h_od, .ref h_kn, .ref a_x_sheets]))]) (w1 := (wdX6_add cyI cyZ cyJ cyB cyO h_tg a_tg_numbers a_tg_strengths a_tg_silent o_3.1 o_3.2.1 o_3.2.2.1 o_3.2.2.2)) (ws2 := (wdX10_tag cyI cyZ cyJ cyB cyO h_x h_tg h_cr h_la h_sp a_x_splitRow h_tp h_tx h_fr h_se h_od h_kn a_x_sheets a_tg_numbers a_tg_strengths a_tg_silent x_n x_blocker x_blockerBits x_tornBy o_3.1 o_3.2.1 o_3.2.2.1 o_3.2.2.2 h_la h_sp)) (va_runV (As := [.int v1, .int v2]) (rest := []) ⟨hx, hb, hml, hown, hts⟩ (ccX6_add l dC dI cyI cyZ cyJ cyB cyO _ h_tg a_tg_numbers a_tg_strengths a_tg_silent tg_size tg_numbers tg_strengths tg_silent v1 v2 o_3 ho_3) (cwV 2 hts gX10_tag_X6_add rfl rfl rfl hvX6_add ⟨Nat.le_of_ble_eq_true rfl, Nat.le_of_ble_eq_true rfl⟩) (px_preWV (wc := (wdX6_add cyI cyZ cyJ cyB cyO h_tg a_tg_numbers a_tg_strengths a_tg_silent tg_size tg_numbers tg_strengths tg_silent)) (ci := 6) (q0 := 1) hK hN hP hD [1, 2, 3, 4] (by decide) rfl rfl rfl) rfl rfl hl.1 rfl (lv_room (Nat.le_of_ble_eq_true rfl)) dX10_tag_19 ⟨Nat.zero_le _, Nat.zero_le _⟩) hP hD hS hA [1, 2, 3, 4] [0] [0, 1, 2, 3, 4] rfl rfl (by decide) (by decide) (by decide) rfl (fun H locs hP hD hS => ?_)
    refine lv_aload_n hx hb dX10_tag_22 rfl (lv_at hl 1 rfl) ?_
    refine va_get (D := (dC, dI)) (ci := 10) (v := .ref h_tg) (C := RX10) (T := TX10) (N := 16) hx hb hts fX10_tag_X10 hown hK hP 0 rfl rfl 4 (by decide) (hts _ kX10_tag_1) (fun _ h9 => h9) rfl dX10_tag_23 ?_
    refine va_get (D := (dC, dI)) (ci := 6) (v := .int o_3.1) (C := RX6) (T := TX6) (N := 4) hx hb hts fX10_tag_X6 hown hK hP 1 rfl rfl 3 (by decide) (hts _ kX10_tag_2) (fun _ h9 => h9) rfl dX10_tag_26 ?_
    refine lv_iconst (v := (1 : Int32)) hx hb dX10_tag_29 (by decide) ?_
    refine lv_isub hx hb dX10_tag_30 ?_
    have ho := px_s hp
    subst ho
    exact hQ _ _ _ _ hP hD hS dX10_tag_31
  · have hp := px_f hp c_2
    refine lv_iload_n hx hb dX10_tag_11 rfl (lv_at hl 0 rfl) ?_
    have ho := px_s hp
    subst ho
    exact hQ _ _ _ _ hP hD hS dX10_tag_12
/-! TagReader.of(II)I -/
theorem hvX10_of : yX10_of.cls = RX10 ∧ yX10_of.cls ≠ "java/lang/invoke/MethodHandle" ∧ yX10_of.cls ≠ "java/lang/invoke/VarHandle" ∧ (parseMethodDescriptor yX10_of.desc).map (fun d => d.parameters.length) = some 2 := by decide +kernel
theorem fX10_of_X10 : ∀ w ∈ u_ws RX10 TX10 16, w ∈ wsX10_of := fun _ h => List.mem_cons_of_mem _ (List.mem_append_left _ (List.mem_append_right _ h))
theorem kX10_of_1 : (.fieldLink RX10 25 "TagReader" "tags" "LTagReader$Tags;" : Cond) ∈ wsX10_of := List.mem_of_getElem? (i := 1) rfl
theorem fX10_of_X6 : ∀ w ∈ u_ws RX6 TX6 4, w ∈ wsX10_of := fun _ h => List.mem_cons_of_mem _ (List.mem_append_right _ h)
theorem kX10_of_2 : (.fieldLink RX10 122 "TagReader$Tags" "numbers" "[I" : Cond) ∈ wsX10_of := List.mem_of_getElem? (i := 2) rfl
theorem kX10_of_3 : (.fieldLink RX10 125 "TagReader$Tags" "strengths" "[I" : Cond) ∈ wsX10_of := List.mem_of_getElem? (i := 3) rfl
theorem kX10_of_4 : (.fieldLink RX10 128 "TagReader$Tags" "silent" "[Z" : Cond) ∈ wsX10_of := List.mem_of_getElem? (i := 4) rfl
set_option maxHeartbeats 4000000 in
set_option maxRecDepth 100000 in
theorem ccX10_of (l : Launch) (dC : Nat → ClassId) (dI : Nat → Nat → Nat) (cyI cyZ cyJ cyB cyO : ClassId) (h_x h_tg h_cr h_la h_sp a_x_splitRow h_tp h_tx h_fr h_se h_od h_kn a_x_sheets a_tg_numbers a_tg_strengths a_tg_silent : Nat) (x_n : Int32) (x_blocker : Int32) (x_blockerBits : Int32) (x_tornBy : Int32) (tg_size : Int32) (tg_numbers : Nat → Int32) (tg_strengths : Nat → Int32) (tg_silent : Nat → Int32) (v1 : Int32) (v2 : Int32) (out : Int32) (hp : pX10_of v1 v2 tg_size tg_numbers tg_strengths tg_silent = some out) : Met l yX10_of wsX10_of ({ frames := 2, cells := 0, slots := 0, locals := 43 } : Room) (px_PR (dC, dI) (px_TY cyI cyZ cyJ cyB cyO) [.ref h_x, .int v1, .int v2] (wdX10_of cyI cyZ cyJ cyB cyO h_x h_tg h_cr h_la h_sp a_x_splitRow h_tp h_tx h_fr h_se h_od h_kn a_x_sheets a_tg_numbers a_tg_strengths a_tg_silent x_n x_blocker x_blockerBits x_tornBy tg_size tg_numbers tg_strengths tg_silent h_la h_sp)) (px_QR (.int out)) 0 0 (fun _ => False) := by
  refine Met.ofW (cc := cX10_of) (maxL := 3) (ret := (some .int)) (by decide) rfl ?_
  intro p e s m args below meth c s₁ B hml hv
  obtain ⟨rfl, hP, hK, hN⟩ := hv
  have hx := B.exec
  have hb := B.bytes
  have hr := B.returns
  have hts := atoms_spec (ws := wsX10_of) B.pre
  have hown : s.vm.findClass RX10 = some m.cls := findClass_of_methodNamed B.named
  have hlocks := B.notSynchronized
  have hQ : ∀ (pc : Nat) (ls : Array Slot), decode cX10_of pc = .ok (.ireturn, 1) → W p l e ({ frames := 2, cells := 0, slots := 0, locals := 43 } : Room) s m (([.ref h_x, .int v1, .int v2] : List Value).toArray) below meth c s.heap [] 0 0 (MQ below (px_QR (.int out)) (([.ref h_x, .int v1, .int v2] : List Value).toArray) s 0 0 (fun _ => False)) (F0 m pc ls [.int out]) := fun pc ls hd => W.iret hx hb hr (fun t ht hW => ⟨rfl, ht⟩) (fun q h => by cases h) hd
  generalize MQ below (px_QR (.int out)) (([.ref h_x, .int v1, .int v2] : List Value).toArray) s 0 0 (fun _ => False) = Q at hQ ⊢
  have hl := lv_entry [.ref h_x, .int v1, .int v2] (n := 3) (Nat.le_of_ble_eq_true rfl)
  rw [lg_entry_eq]
  generalize (lg_sl [.ref h_x, .int v1, .int v2] ++ List.replicate (3 - (lg_sl [.ref h_x, .int v1, .int v2]).length) Slot.unset).toArray = ls at hl ⊢
  have hl : lv_has ls 3 [(0, .ref h_x), (1, .int v1), (2, .int v2)] := hl
  unfold pX10_of at hp
  refine lv_aload_n hx hb dX10_of_0 rfl (lv_at hl 0 rfl) ?_
  refine va_get (D := (dC, dI)) (ci := 10) (v := .ref h_tg) (C := RX10) (T := TX10) (N := 16) hx hb hts fX10_of_X10 hown hK hP 0 rfl rfl 4 (by decide) (hts _ kX10_of_1) (fun _ h9 => h9) rfl dX10_of_1 ?_
  refine lv_iload_n hx hb dX10_of_4 rfl (lv_at hl 1 rfl) ?_
  obtain ⟨o_1, ho_1, hp⟩ := px_b_at hp
  refine px_callR (v := .int o_1) (va_runV (As := [.int v1]) (rest := []) ⟨hx, hb, hml, hown, hts⟩ (ccX6_has l dC dI cyI cyZ cyJ cyB cyO h_tg a_tg_numbers a_tg_strengths a_tg_silent tg_size tg_numbers tg_strengths tg_silent v1 o_1 ho_1) (cwV 1 hts gX10_of_X6_has rfl rfl rfl hvX6_has ⟨Nat.le_of_ble_eq_true rfl, Nat.le_of_ble_eq_true rfl⟩) (px_preRV (wc := (wdX6_has cyI cyZ cyJ cyB cyO h_tg a_tg_numbers a_tg_strengths a_tg_silent tg_size tg_numbers tg_strengths tg_silent)) (ci := 6) (q0 := 1) hK hN hP [1, 2, 3, 4] rfl rfl rfl) rfl rfl hl.1 rfl (lv_room (Nat.le_of_ble_eq_true rfl)) dX10_of_5 ⟨Nat.zero_le _, Nat.zero_le _⟩) ?_
  refine lv_if_ne (tgt := 13) hx hb dX10_of_8 (by decide) (fun c_2 => ?_) (fun c_2 => ?_)
  · have hp := px_f hp c_2
    refine lv_iload_n hx hb dX10_of_13 rfl (lv_at hl 2 rfl) ?_
    by_cases c_3 : v2 = (0 : Int32)
    · have hp := px_t hp c_3
      refine lv_tableIn (off := 26) (tgt := 40) hx hb dX10_of_14 (by rw [c_3]; decide) (by rw [c_3]; decide) (by rw [c_3]; rfl) (by decide) ?_
      refine lv_aload_n hx hb dX10_of_40 rfl (lv_at hl 0 rfl) ?_
      refine va_get (D := (dC, dI)) (ci := 10) (v := .ref h_tg) (C := RX10) (T := TX10) (N := 16) hx hb hts fX10_of_X10 hown hK hP 0 rfl rfl 4 (by decide) (hts _ kX10_of_1) (fun _ h9 => h9) rfl dX10_of_41 ?_
      refine va_get (D := (dC, dI)) (ci := 6) (v := .ref a_tg_numbers) (C := RX6) (T := TX6) (N := 4) hx hb hts fX10_of_X6 hown hK hP 1 rfl rfl 0 (by decide) (hts _ kX10_of_2) (fun _ h9 => h9) rfl dX10_of_44 ?_
      refine lv_iload_n hx hb dX10_of_47 rfl (lv_at hl 1 rfl) ?_
      obtain ⟨g_4, hp⟩ := px_i_at hp
      refine va_iald (D := (dC, dI)) hx hb hK hP 2 0 rfl rfl g_4 dX10_of_48 ?_
      have ho := px_s hp
      subst ho
      exact hQ _ _ dX10_of_49
    · have hp := px_f hp c_3
      by_cases c_5 : v2 = (1 : Int32)
      · have hp := px_t hp c_5
        refine lv_tableIn (off := 36) (tgt := 50) hx hb dX10_of_14 (by rw [c_5]; decide) (by rw [c_5]; decide) (by rw [c_5]; rfl) (by decide) ?_
        refine lv_aload_n hx hb dX10_of_50 rfl (lv_at hl 0 rfl) ?_
        refine va_get (D := (dC, dI)) (ci := 10) (v := .ref h_tg) (C := RX10) (T := TX10) (N := 16) hx hb hts fX10_of_X10 hown hK hP 0 rfl rfl 4 (by decide) (hts _ kX10_of_1) (fun _ h9 => h9) rfl dX10_of_51 ?_
        refine va_get (D := (dC, dI)) (ci := 6) (v := .ref a_tg_strengths) (C := RX6) (T := TX6) (N := 4) hx hb hts fX10_of_X6 hown hK hP 1 rfl rfl 1 (by decide) (hts _ kX10_of_3) (fun _ h9 => h9) rfl dX10_of_54 ?_
        refine lv_iload_n hx hb dX10_of_57 rfl (lv_at hl 1 rfl) ?_
        obtain ⟨g_6, hp⟩ := px_i_at hp
        refine va_iald (D := (dC, dI)) hx hb hK hP 3 0 rfl rfl g_6 dX10_of_58 ?_
        have ho := px_s hp
        subst ho
        exact hQ _ _ dX10_of_59
      · have hp := px_f hp c_5
        by_cases c_7 : v2 = (2 : Int32)
        · have hp := px_t hp c_7
          refine lv_tableIn (off := 46) (tgt := 60) hx hb dX10_of_14 (by rw [c_7]; decide) (by rw [c_7]; decide) (by rw [c_7]; rfl) (by decide) ?_
          refine lv_aload_n hx hb dX10_of_60 rfl (lv_at hl 0 rfl) ?_
          refine va_get (D := (dC, dI)) (ci := 10) (v := .ref h_tg) (C := RX10) (T := TX10) (N := 16) hx hb hts fX10_of_X10 hown hK hP 0 rfl rfl 4 (by decide) (hts _ kX10_of_1) (fun _ h9 => h9) rfl dX10_of_61 ?_
          refine va_get (D := (dC, dI)) (ci := 6) (v := .ref a_tg_silent) (C := RX6) (T := TX6) (N := 4) hx hb hts fX10_of_X6 hown hK hP 1 rfl rfl 2 (by decide) (hts _ kX10_of_4) (fun _ h9 => h9) rfl dX10_of_64 ?_
          refine lv_iload_n hx hb dX10_of_67 rfl (lv_at hl 1 rfl) ?_
          obtain ⟨g_8, hp⟩ := px_i_at hp
          refine va_zald (D := (dC, dI)) hx hb hK hP 4 1 rfl rfl g_8 dX10_of_68 ?_
          refine lv_if_eq (tgt := 76) hx hb dX10_of_69 (by decide) (fun c_9 => ?_) (fun c_9 => ?_)
          · have hp := px_t hp c_9
            refine lv_iconst (v := (0 : Int32)) hx hb dX10_of_76 (by decide) ?_
            have ho := px_s hp
            subst ho
            exact hQ _ _ dX10_of_77
          · have hp := px_f hp c_9
            refine lv_iconst (v := (1 : Int32)) hx hb dX10_of_72 (by decide) ?_
            refine lv_goto (tgt := 77) hx hb dX10_of_73 (by decide) ?_
            have ho := px_s hp
            subst ho
            exact hQ _ _ dX10_of_77
        · have hp := px_f hp c_7
          refine lv_tableOut (tgt := 78) hx hb dX10_of_14 (px_sw3 c_3 c_5 c_7) (by decide) ?_
          refine lv_iconst (v := (-1 : Int32)) hx hb dX10_of_78 (by decide) ?_
          have ho := px_s hp
          subst ho
          exact hQ _ _ dX10_of_79
  · have hp := px_t hp c_2
    refine lv_iconst (v := (-1 : Int32)) hx hb dX10_of_11 (by decide) ?_
    have ho := px_s hp
    subst ho
    exact hQ _ _ dX10_of_12
/-! TagReader.hush(IZ)I -/
theorem hvX10_hush : yX10_hush.cls = RX10 ∧ yX10_hush.cls ≠ "java/lang/invoke/MethodHandle" ∧ yX10_hush.cls ≠ "java/lang/invoke/VarHandle" ∧ (parseMethodDescriptor yX10_hush.desc).map (fun d => d.parameters.length) = some 2 := by decide +kernel
theorem fX10_hush_X10 : ∀ w ∈ u_ws RX10 TX10 16, w ∈ wsX10_hush := fun _ h => List.mem_cons_of_mem _ (List.mem_append_left _ (List.mem_append_right _ h))
theorem kX10_hush_1 : (.fieldLink RX10 25 "TagReader" "tags" "LTagReader$Tags;" : Cond) ∈ wsX10_hush := List.mem_of_getElem? (i := 1) rfl
theorem fX10_hush_X6 : ∀ w ∈ u_ws RX6 TX6 4, w ∈ wsX10_hush := fun _ h => List.mem_cons_of_mem _ (List.mem_append_right _ h)
theorem kX10_hush_2 : (.fieldLink RX10 128 "TagReader$Tags" "silent" "[Z" : Cond) ∈ wsX10_hush := List.mem_of_getElem? (i := 2) rfl
set_option maxHeartbeats 4000000 in
set_option maxRecDepth 100000 in
theorem lcX10_hush_30 {p : Program} {l : Launch} {e : Env} {s : State} {m : MethodId} {args : Array Value} {below : List Frame} {meth : Method} {c : Code} {Q : State → Prop} {A : Nat → Prop} (dC : Nat → ClassId) (dI : Nat → Nat → Nat) (cyI cyZ cyJ cyB cyO : ClassId) (h_x h_tg h_cr h_la h_sp a_x_splitRow h_tp h_tx h_fr h_se h_od h_kn a_x_sheets a_tg_numbers a_tg_strengths a_tg_silent : Nat) (x_n : Int32) (x_blocker : Int32) (x_blockerBits : Int32) (x_tornBy : Int32) (tg_size : Int32) (tg_numbers : Nat → Int32) (tg_strengths : Nat → Int32) (tg_silent : Nat → Int32) (v1 : Int32) (v2 : Int32) (out : Int32 × (Nat → Int32)) (hx : p.tables.exec = Jvm.exec) (hb : c.code = cX10_hush) (hml : c.maxLocals = 4) (hts : ∀ w ∈ wsX10_hush, w.before args s = true) (hown : s.vm.findClass RX10 = some m.cls) (hK : va_K (dC, dI) vwCl (px_TY cyI cyZ cyJ cyB cyO) s) (hN : px_NW s) (hA : ∀ q : Nat, s.heap.size ≤ q → A q) (hQ : ∀ (H : Heap) (locs : List Loc) (pc : Nat) (ls : Array Slot), va_P (dC, dI) vwCl (wdX10_hush cyI cyZ cyJ cyB cyO h_x h_tg h_cr h_la h_sp a_x_splitRow h_tp h_tx h_fr h_se h_od h_kn a_x_sheets a_tg_numbers a_tg_strengths a_tg_silent x_n x_blocker x_blockerBits x_tornBy tg_size tg_numbers tg_strengths out.2 h_la h_sp) H → va_D A (wdX10_hush cyI cyZ cyJ cyB cyO h_x h_tg h_cr h_la h_sp a_x_splitRow h_tp h_tx h_fr h_se h_od h_kn a_x_sheets a_tg_numbers a_tg_strengths a_tg_silent x_n x_blocker x_blockerBits x_tornBy tg_size tg_numbers tg_strengths out.2 h_la h_sp) → va_S A s.heap H locs → decode cX10_hush pc = .ok (.ireturn, 1) → W p l e ({ frames := 2, cells := 0, slots := 0, locals := 43 } : Room) s m args below meth c H locs 0 0 Q (F0 m pc ls [.int out.1]))  : ∀ (t0 : Int32) (tg_silent : Nat → Int32) (H : Heap) (locs : List Loc) (ls : Array Slot), pX10_hush_30 v1 v2 tg_size t0 tg_silent = some out → va_P (dC, dI) vwCl (wdX10_hush cyI cyZ cyJ cyB cyO h_x h_tg h_cr h_la h_sp a_x_splitRow h_tp h_tx h_fr h_se h_od h_kn a_x_sheets a_tg_numbers a_tg_strengths a_tg_silent x_n x_blocker x_blockerBits x_tornBy tg_size tg_numbers tg_strengths tg_silent h_la h_sp) H → va_D A (wdX10_hush cyI cyZ cyJ cyB cyO h_x h_tg h_cr h_la h_sp a_x_splitRow h_tp h_tx h_fr h_se h_od h_kn a_x_sheets a_tg_numbers a_tg_strengths a_tg_silent x_n x_blocker x_blockerBits x_tornBy tg_size tg_numbers tg_strengths tg_silent h_la h_sp) → va_S A s.heap H locs → lv_has ls 4 [(0, .ref h_x), (1, .int v1), (2, .int v2)] → W p l e ({ frames := 2, cells := 0, slots := 0, locals := 43 } : Room) s m args below meth c H locs 0 0 Q (F0 m 30 ls [.int t0]) := by
  intro t0 tg_silent H locs ls hp hP hD hS hl
  unfold pX10_hush_30 at hp
  refine lv_istore_n (lv' := [(3, .int t0), (0, .ref h_x), (1, .int v1), (2, .int v2)]) hx hb dX10_hush_30 rfl hl (by decide) rfl (fun ls hl => ?_)
  refine lv_aload_n hx hb dX10_hush_31 rfl (lv_at hl 1 rfl) ?_
  refine va_get (D := (dC, dI)) (ci := 10) (v := .ref h_tg) (C := RX10) (T := TX10) (N := 16) hx hb hts fX10_hush_X10 hown hK hP 0 rfl rfl 4 (by decide) (hts _ kX10_hush_1) (fun _ h9 => h9) rfl dX10_hush_32 ?_
  refine va_get (D := (dC, dI)) (ci := 6) (v := .ref a_tg_silent) (C := RX6) (T := TX6) (N := 4) hx hb hts fX10_hush_X6 hown hK hP 1 rfl rfl 2 (by decide) (hts _ kX10_hush_2) (fun _ h9 => h9) rfl dX10_hush_35 ?_
  refine lv_iload_n hx hb dX10_hush_38 rfl (lv_at hl 2 rfl) ?_
  refine lv_iload_n hx hb dX10_hush_39 rfl (lv_at hl 3 rfl) ?_
  obtain ⟨g_5, hp⟩ := px_i_at hp
  refine va_zast (D := (dC, dI)) hx hb hK hP hD hS 4 1 rfl rfl g_5 dX10_hush_40 (fun H locs hP hD hS => ?_)
  have hP : va_P (dC, dI) vwCl (wdX10_hush cyI cyZ cyJ cyB cyO h_x h_tg h_cr h_la h_sp a_x_splitRow h_tp h_tx h_fr h_se h_od h_kn a_x_sheets a_tg_numbers a_tg_strengths a_tg_silent x_n x_blocker x_blockerBits x_tornBy tg_size tg_numbers tg_strengths (upd tg_silent (Int32.toNatClampNeg v1) (vp_nar .boolean v2)) h_la h_sp) H := hP
  have hD : va_D A (wdX10_hush cyI cyZ cyJ cyB cyO h_x h_tg h_cr h_la h_sp a_x_splitRow h_tp h_tx h_fr h_se h_od h_kn a_x_sheets a_tg_numbers a_tg_strengths a_tg_silent x_n x_blocker x_blockerBits x_tornBy tg_size tg_numbers tg_strengths (upd tg_silent (Int32.toNatClampNeg v1) (vp_nar .boolean v2)) h_la h_sp) := hD
  refine lv_iload_n hx hb dX10_hush_41 rfl (lv_at hl 0 rfl) ?_
  have ho := px_s hp
  subst ho
  exact hQ _ _ _ _ hP hD hS dX10_hush_42
set_option maxHeartbeats 4000000 in
set_option maxRecDepth 100000 in
theorem ccX10_hush (l : Launch) (dC : Nat → ClassId) (dI : Nat → Nat → Nat) (cyI cyZ cyJ cyB cyO : ClassId) (sz : Nat) (h_x h_tg h_cr h_la h_sp a_x_splitRow h_tp h_tx h_fr h_se h_od h_kn a_x_sheets a_tg_numbers a_tg_strengths a_tg_silent : Nat) (x_n : Int32) (x_blocker : Int32) (x_blockerBits : Int32) (x_tornBy : Int32) (tg_size : Int32) (tg_numbers : Nat → Int32) (tg_strengths : Nat → Int32) (tg_silent : Nat → Int32) (v1 : Int32) (v2 : Int32) (out : Int32 × (Nat → Int32)) (hp : pX10_hush v1 v2 tg_size tg_silent = some out) : Met l yX10_hush wsX10_hush ({ frames := 2, cells := 0, slots := 0, locals := 43 } : Room) (px_PW (dC, dI) (px_TY cyI cyZ cyJ cyB cyO) [.ref h_x, .int v1, .int v2] (wdX10_hush cyI cyZ cyJ cyB cyO h_x h_tg h_cr h_la h_sp a_x_splitRow h_tp h_tx h_fr h_se h_od h_kn a_x_sheets a_tg_numbers a_tg_strengths a_tg_silent x_n x_blocker x_blockerBits x_tornBy tg_size tg_numbers tg_strengths tg_silent h_la h_sp) sz) (px_QW (some (.int out.1)) (dC, dI) (wdX10_hush cyI cyZ cyJ cyB cyO h_x h_tg h_cr h_la h_sp a_x_splitRow h_tp h_tx h_fr h_se h_od h_kn a_x_sheets a_tg_numbers a_tg_strengths a_tg_silent x_n x_blocker x_blockerBits x_tornBy tg_size tg_numbers tg_strengths tg_silent h_la h_sp) (wdX10_hush cyI cyZ cyJ cyB cyO h_x h_tg h_cr h_la h_sp a_x_splitRow h_tp h_tx h_fr h_se h_od h_kn a_x_sheets a_tg_numbers a_tg_strengths a_tg_silent x_n x_blocker x_blockerBits x_tornBy tg_size tg_numbers tg_strengths out.2 h_la h_sp) sz) 0 0 (va_A (wdX10_hush cyI cyZ cyJ cyB cyO h_x h_tg h_cr h_la h_sp a_x_splitRow h_tp h_tx h_fr h_se h_od h_kn a_x_sheets a_tg_numbers a_tg_strengths a_tg_silent x_n x_blocker x_blockerBits x_tornBy tg_size tg_numbers tg_strengths tg_silent h_la h_sp) sz) := by
  refine Met.ofW (cc := cX10_hush) (maxL := 4) (ret := (some .int)) (by decide) rfl ?_
  intro p e s m args below meth c s₁ B hml hv
  obtain ⟨rfl, hsz, hP, hK, hD0, hN⟩ := hv
  have hx := B.exec
  have hb := B.bytes
  have hr := B.returns
  have hts := atoms_spec (ws := wsX10_hush) B.pre
  have hown : s.vm.findClass RX10 = some m.cls := findClass_of_methodNamed B.named
  have hlocks := B.notSynchronized
  subst hsz
  have hD := hD0.self (sz := s.heap.size)
  generalize hAe : va_A (wdX10_hush cyI cyZ cyJ cyB cyO h_x h_tg h_cr h_la h_sp a_x_splitRow h_tp h_tx h_fr h_se h_od h_kn a_x_sheets a_tg_numbers a_tg_strengths a_tg_silent x_n x_blocker x_blockerBits x_tornBy tg_size tg_numbers tg_strengths tg_silent h_la h_sp) s.heap.size = A at hD ⊢
  have hA : ∀ q : Nat, s.heap.size ≤ q → A q := fun q h => by rw [← hAe]; exact Or.inr h
  have hS : va_S A s.heap s.heap [] := va_S.rf
  have hq := px_QWe (v := (some (.int out.1))) (D := (dC, dI)) (w1 := (wdX10_hush cyI cyZ cyJ cyB cyO h_x h_tg h_cr h_la h_sp a_x_splitRow h_tp h_tx h_fr h_se h_od h_kn a_x_sheets a_tg_numbers a_tg_strengths a_tg_silent x_n x_blocker x_blockerBits x_tornBy tg_size tg_numbers tg_strengths out.2 h_la h_sp)) (st := s) hAe
  generalize px_QW (some (.int out.1)) (dC, dI) (wdX10_hush cyI cyZ cyJ cyB cyO h_x h_tg h_cr h_la h_sp a_x_splitRow h_tp h_tx h_fr h_se h_od h_kn a_x_sheets a_tg_numbers a_tg_strengths a_tg_silent x_n x_blocker x_blockerBits x_tornBy tg_size tg_numbers tg_strengths tg_silent h_la h_sp) (wdX10_hush cyI cyZ cyJ cyB cyO h_x h_tg h_cr h_la h_sp a_x_splitRow h_tp h_tx h_fr h_se h_od h_kn a_x_sheets a_tg_numbers a_tg_strengths a_tg_silent x_n x_blocker x_blockerBits x_tornBy tg_size tg_numbers tg_strengths out.2 h_la h_sp) s.heap.size = Qc at hq ⊢
  have hQ : ∀ (H : Heap) (locs : List Loc) (pc : Nat) (ls : Array Slot), va_P (dC, dI) vwCl (wdX10_hush cyI cyZ cyJ cyB cyO h_x h_tg h_cr h_la h_sp a_x_splitRow h_tp h_tx h_fr h_se h_od h_kn a_x_sheets a_tg_numbers a_tg_strengths a_tg_silent x_n x_blocker x_blockerBits x_tornBy tg_size tg_numbers tg_strengths out.2 h_la h_sp) H → va_D A (wdX10_hush cyI cyZ cyJ cyB cyO h_x h_tg h_cr h_la h_sp a_x_splitRow h_tp h_tx h_fr h_se h_od h_kn a_x_sheets a_tg_numbers a_tg_strengths a_tg_silent x_n x_blocker x_blockerBits x_tornBy tg_size tg_numbers tg_strengths out.2 h_la h_sp) → va_S A s.heap H locs → decode cX10_hush pc = .ok (.ireturn, 1) → W p l e ({ frames := 2, cells := 0, slots := 0, locals := 43 } : Room) s m (([.ref h_x, .int v1, .int v2] : List Value).toArray) below meth c H locs 0 0 (MQ below Qc (([.ref h_x, .int v1, .int v2] : List Value).toArray) s 0 0 A) (F0 m pc ls [.int out.1]) := fun H locs pc ls hP hD hS hd => W.iret hx hb hr (fun t ht hW => hq _ t (by rw [ht]; exact hP) hD (hS.F ht)) hS.2.2 hd
  generalize MQ below Qc (([.ref h_x, .int v1, .int v2] : List Value).toArray) s 0 0 A = Q at hQ ⊢
  have hl := lv_entry [.ref h_x, .int v1, .int v2] (n := 4) (Nat.le_of_ble_eq_true rfl)
  rw [lg_entry_eq]
  generalize (lg_sl [.ref h_x, .int v1, .int v2] ++ List.replicate (4 - (lg_sl [.ref h_x, .int v1, .int v2]).length) Slot.unset).toArray = ls at hl ⊢
  have hl : lv_has ls 4 [(0, .ref h_x), (1, .int v1), (2, .int v2)] := hl
  unfold pX10_hush at hp
  refine lv_aload_n hx hb dX10_hush_0 rfl (lv_at hl 0 rfl) ?_
  refine va_get (D := (dC, dI)) (ci := 10) (v := .ref h_tg) (C := RX10) (T := TX10) (N := 16) hx hb hts fX10_hush_X10 hown hK hP 0 rfl rfl 4 (by decide) (hts _ kX10_hush_1) (fun _ h9 => h9) rfl dX10_hush_1 ?_
  refine lv_iload_n hx hb dX10_hush_4 rfl (lv_at hl 1 rfl) ?_
  obtain ⟨o_1, ho_1, hp⟩ := px_b_at hp
  refine px_callR (v := .int o_1) (va_runV (As := [.int v1]) (rest := []) ⟨hx, hb, hml, hown, hts⟩ (ccX6_has l dC dI cyI cyZ cyJ cyB cyO h_tg a_tg_numbers a_tg_strengths a_tg_silent tg_size tg_numbers tg_strengths tg_silent v1 o_1 ho_1) (cwV 1 hts gX10_hush_X6_has rfl rfl rfl hvX6_has ⟨Nat.le_of_ble_eq_true rfl, Nat.le_of_ble_eq_true rfl⟩) (px_preRV (wc := (wdX6_has cyI cyZ cyJ cyB cyO h_tg a_tg_numbers a_tg_strengths a_tg_silent tg_size tg_numbers tg_strengths tg_silent)) (ci := 6) (q0 := 1) hK hN hP [1, 2, 3, 4] rfl rfl rfl) rfl rfl hl.1 rfl (lv_room (Nat.le_of_ble_eq_true rfl)) dX10_hush_5 ⟨Nat.zero_le _, Nat.zero_le _⟩) ?_
  refine lv_if_ne (tgt := 13) hx hb dX10_hush_8 (by decide) (fun c_2 => ?_) (fun c_2 => ?_)
  · have hp := px_f hp c_2
    refine lv_aload_n hx hb dX10_hush_13 rfl (lv_at hl 0 rfl) ?_
    refine va_get (D := (dC, dI)) (ci := 10) (v := .ref h_tg) (C := RX10) (T := TX10) (N := 16) hx hb hts fX10_hush_X10 hown hK hP 0 rfl rfl 4 (by decide) (hts _ kX10_hush_1) (fun _ h9 => h9) rfl dX10_hush_14 ?_
    refine va_get (D := (dC, dI)) (ci := 6) (v := .ref a_tg_silent) (C := RX6) (T := TX6) (N := 4) hx hb hts fX10_hush_X6 hown hK hP 1 rfl rfl 2 (by decide) (hts _ kX10_hush_2) (fun _ h9 => h9) rfl dX10_hush_17 ?_
    refine lv_iload_n hx hb dX10_hush_20 rfl (lv_at hl 1 rfl) ?_
    obtain ⟨g_3, hp⟩ := px_i_at hp
    refine va_zald (D := (dC, dI)) hx hb hK hP 4 1 rfl rfl g_3 dX10_hush_21 ?_
    refine lv_if_eq (tgt := 29) hx hb dX10_hush_22 (by decide) (fun c_4 => ?_) (fun c_4 => ?_)
    · have hp := px_t hp c_4
      refine lv_iconst (v := (0 : Int32)) hx hb dX10_hush_29 (by decide) ?_
      exact lcX10_hush_30 dC dI cyI cyZ cyJ cyB cyO h_x h_tg h_cr h_la h_sp a_x_splitRow h_tp h_tx h_fr h_se h_od h_kn a_x_sheets a_tg_numbers a_tg_strengths a_tg_silent x_n x_blocker x_blockerBits x_tornBy tg_size tg_numbers tg_strengths tg_silent v1 v2 out hx hb hml hts hown hK hN hA hQ (0 : Int32) tg_silent _ _ ls hp hP hD hS (lv_sub hl [0, 1, 2] rfl)
    · have hp := px_f hp c_4
      refine lv_iconst (v := (1 : Int32)) hx hb dX10_hush_25 (by decide) ?_
      refine lv_goto (tgt := 30) hx hb dX10_hush_26 (by decide) ?_
      exact lcX10_hush_30 dC dI cyI cyZ cyJ cyB cyO h_x h_tg h_cr h_la h_sp a_x_splitRow h_tp h_tx h_fr h_se h_od h_kn a_x_sheets a_tg_numbers a_tg_strengths a_tg_silent x_n x_blocker x_blockerBits x_tornBy tg_size tg_numbers tg_strengths tg_silent v1 v2 out hx hb hml hts hown hK hN hA hQ (1 : Int32) tg_silent _ _ ls hp hP hD hS (lv_sub hl [0, 1, 2] rfl)
  · have hp := px_t hp c_2
    refine lv_iconst (v := (-1 : Int32)) hx hb dX10_hush_11 (by decide) ?_
    have ho := px_s hp
    subst ho
    exact hQ _ _ _ _ hP hD hS dX10_hush_12
/-! TagReader.wake()I -/
theorem hvX10_wake : yX10_wake.cls = RX10 ∧ yX10_wake.cls ≠ "java/lang/invoke/MethodHandle" ∧ yX10_wake.cls ≠ "java/lang/invoke/VarHandle" ∧ (parseMethodDescriptor yX10_wake.desc).map (fun d => d.parameters.length) = some 0 := by decide +kernel
theorem fX10_wake_X10 : ∀ w ∈ u_ws RX10 TX10 16, w ∈ wsX10_wake := fun _ h => List.mem_cons_of_mem _ (List.mem_append_left _ (List.mem_append_right _ h))
theorem kX10_wake_1 : (.fieldLink RX10 25 "TagReader" "tags" "LTagReader$Tags;" : Cond) ∈ wsX10_wake := List.mem_of_getElem? (i := 1) rfl
set_option maxHeartbeats 4000000 in
set_option maxRecDepth 100000 in
theorem ccX10_wake (l : Launch) (dC : Nat → ClassId) (dI : Nat → Nat → Nat) (cyI cyZ cyJ cyB cyO : ClassId) (sz : Nat) (h_x h_tg h_cr h_la h_sp a_x_splitRow h_tp h_tx h_fr h_se h_od h_kn a_x_sheets a_tg_numbers a_tg_strengths a_tg_silent : Nat) (x_n : Int32) (x_blocker : Int32) (x_blockerBits : Int32) (x_tornBy : Int32) (tg_size : Int32) (tg_numbers : Nat → Int32) (tg_strengths : Nat → Int32) (tg_silent : Nat → Int32) (out : Int32 × (Nat → Int32)) (hp : pX10_wake tg_size tg_silent = some out) : Met l yX10_wake wsX10_wake ({ frames := 1, cells := 0, slots := 0, locals := 22 } : Room) (px_PW (dC, dI) (px_TY cyI cyZ cyJ cyB cyO) [.ref h_x] (wdX10_wake cyI cyZ cyJ cyB cyO h_x h_tg h_cr h_la h_sp a_x_splitRow h_tp h_tx h_fr h_se h_od h_kn a_x_sheets a_tg_numbers a_tg_strengths a_tg_silent x_n x_blocker x_blockerBits x_tornBy tg_size tg_numbers tg_strengths tg_silent h_la h_sp) sz) (px_QW (some (.int out.1)) (dC, dI) (wdX10_wake cyI cyZ cyJ cyB cyO h_x h_tg h_cr h_la h_sp a_x_splitRow h_tp h_tx h_fr h_se h_od h_kn a_x_sheets a_tg_numbers a_tg_strengths a_tg_silent x_n x_blocker x_blockerBits x_tornBy tg_size tg_numbers tg_strengths tg_silent h_la h_sp) (wdX10_wake cyI cyZ cyJ cyB cyO h_x h_tg h_cr h_la h_sp a_x_splitRow h_tp h_tx h_fr h_se h_od h_kn a_x_sheets a_tg_numbers a_tg_strengths a_tg_silent x_n x_blocker x_blockerBits x_tornBy tg_size tg_numbers tg_strengths out.2 h_la h_sp) sz) 0 0 (va_A (wdX10_wake cyI cyZ cyJ cyB cyO h_x h_tg h_cr h_la h_sp a_x_splitRow h_tp h_tx h_fr h_se h_od h_kn a_x_sheets a_tg_numbers a_tg_strengths a_tg_silent x_n x_blocker x_blockerBits x_tornBy tg_size tg_numbers tg_strengths tg_silent h_la h_sp) sz) := by
  refine Met.ofW (cc := cX10_wake) (maxL := 2) (ret := (some .int)) (by decide) rfl ?_
  intro p e s m args below meth c s₁ B hml hv
  obtain ⟨rfl, hsz, hP, hK, hD0, hN⟩ := hv
  have hx := B.exec
  have hb := B.bytes
  have hr := B.returns
  have hts := atoms_spec (ws := wsX10_wake) B.pre
  have hown : s.vm.findClass RX10 = some m.cls := findClass_of_methodNamed B.named
  have hlocks := B.notSynchronized
  subst hsz
  have hD := hD0.self (sz := s.heap.size)
  generalize hAe : va_A (wdX10_wake cyI cyZ cyJ cyB cyO h_x h_tg h_cr h_la h_sp a_x_splitRow h_tp h_tx h_fr h_se h_od h_kn a_x_sheets a_tg_numbers a_tg_strengths a_tg_silent x_n x_blocker x_blockerBits x_tornBy tg_size tg_numbers tg_strengths tg_silent h_la h_sp) s.heap.size = A at hD ⊢
  have hA : ∀ q : Nat, s.heap.size ≤ q → A q := fun q h => by rw [← hAe]; exact Or.inr h
  have hS : va_S A s.heap s.heap [] := va_S.rf
  have hq := px_QWe (v := (some (.int out.1))) (D := (dC, dI)) (w1 := (wdX10_wake cyI cyZ cyJ cyB cyO h_x h_tg h_cr h_la h_sp a_x_splitRow h_tp h_tx h_fr h_se h_od h_kn a_x_sheets a_tg_numbers a_tg_strengths a_tg_silent x_n x_blocker x_blockerBits x_tornBy tg_size tg_numbers tg_strengths out.2 h_la h_sp)) (st := s) hAe
  generalize px_QW (some (.int out.1)) (dC, dI) (wdX10_wake cyI cyZ cyJ cyB cyO h_x h_tg h_cr h_la h_sp a_x_splitRow h_tp h_tx h_fr h_se h_od h_kn a_x_sheets a_tg_numbers a_tg_strengths a_tg_silent x_n x_blocker x_blockerBits x_tornBy tg_size tg_numbers tg_strengths tg_silent h_la h_sp) (wdX10_wake cyI cyZ cyJ cyB cyO h_x h_tg h_cr h_la h_sp a_x_splitRow h_tp h_tx h_fr h_se h_od h_kn a_x_sheets a_tg_numbers a_tg_strengths a_tg_silent x_n x_blocker x_blockerBits x_tornBy tg_size tg_numbers tg_strengths out.2 h_la h_sp) s.heap.size = Qc at hq ⊢
  have hQ : ∀ (H : Heap) (locs : List Loc) (pc : Nat) (ls : Array Slot), va_P (dC, dI) vwCl (wdX10_wake cyI cyZ cyJ cyB cyO h_x h_tg h_cr h_la h_sp a_x_splitRow h_tp h_tx h_fr h_se h_od h_kn a_x_sheets a_tg_numbers a_tg_strengths a_tg_silent x_n x_blocker x_blockerBits x_tornBy tg_size tg_numbers tg_strengths out.2 h_la h_sp) H → va_D A (wdX10_wake cyI cyZ cyJ cyB cyO h_x h_tg h_cr h_la h_sp a_x_splitRow h_tp h_tx h_fr h_se h_od h_kn a_x_sheets a_tg_numbers a_tg_strengths a_tg_silent x_n x_blocker x_blockerBits x_tornBy tg_size tg_numbers tg_strengths out.2 h_la h_sp) → va_S A s.heap H locs → decode cX10_wake pc = .ok (.ireturn, 1) → W p l e ({ frames := 1, cells := 0, slots := 0, locals := 22 } : Room) s m (([.ref h_x] : List Value).toArray) below meth c H locs 0 0 (MQ below Qc (([.ref h_x] : List Value).toArray) s 0 0 A) (F0 m pc ls [.int out.1]) := fun H locs pc ls hP hD hS hd => W.iret hx hb hr (fun t ht hW => hq _ t (by rw [ht]; exact hP) hD (hS.F ht)) hS.2.2 hd
  generalize MQ below Qc (([.ref h_x] : List Value).toArray) s 0 0 A = Q at hQ ⊢
  have hl := lv_entry [.ref h_x] (n := 2) (Nat.le_of_ble_eq_true rfl)
  rw [lg_entry_eq]
  generalize (lg_sl [.ref h_x] ++ List.replicate (2 - (lg_sl [.ref h_x]).length) Slot.unset).toArray = ls at hl ⊢
  have hl : lv_has ls 2 [(0, .ref h_x)] := hl
  unfold pX10_wake at hp
  refine lv_aload_n hx hb dX10_wake_0 rfl (lv_at hl 0 rfl) ?_
  refine va_get (D := (dC, dI)) (ci := 10) (v := .ref h_tg) (C := RX10) (T := TX10) (N := 16) hx hb hts fX10_wake_X10 hown hK hP 0 rfl rfl 4 (by decide) (hts _ kX10_wake_1) (fun _ h9 => h9) rfl dX10_wake_1 ?_
  obtain ⟨o_1, ho_1, hp⟩ := px_b_at hp
  refine px_callR (v := .int o_1) (va_runV (As := []) (rest := []) ⟨hx, hb, hml, hown, hts⟩ (ccX6_silentOnes l dC dI cyI cyZ cyJ cyB cyO h_tg a_tg_numbers a_tg_strengths a_tg_silent tg_size tg_numbers tg_strengths tg_silent o_1 ho_1) (cwV 0 hts gX10_wake_X6_silentOnes rfl rfl rfl hvX6_silentOnes ⟨Nat.le_of_ble_eq_true rfl, Nat.le_of_ble_eq_true rfl⟩) (px_preRV (wc := (wdX6_silentOnes cyI cyZ cyJ cyB cyO h_tg a_tg_numbers a_tg_strengths a_tg_silent tg_size tg_numbers tg_strengths tg_silent)) (ci := 6) (q0 := 1) hK hN hP [1, 2, 3, 4] rfl rfl rfl) rfl rfl hl.1 rfl (lv_room (Nat.le_of_ble_eq_true rfl)) dX10_wake_4 ⟨Nat.zero_le _, Nat.zero_le _⟩) ?_
  refine lv_istore_n (lv' := [(1, .int o_1), (0, .ref h_x)]) hx hb dX10_wake_7 rfl hl (by decide) rfl (fun ls hl => ?_)
  refine lv_aload_n hx hb dX10_wake_8 rfl (lv_at hl 1 rfl) ?_
  refine va_get (D := (dC, dI)) (ci := 10) (v := .ref h_tg) (C := RX10) (T := TX10) (N := 16) hx hb hts fX10_wake_X10 hown hK hP 0 rfl rfl 4 (by decide) (hts _ kX10_wake_1) (fun _ h9 => h9) rfl dX10_wake_9 ?_
  refine lv_iconst (v := (0 : Int32)) hx hb dX10_wake_12 (by decide) ?_
  obtain ⟨o_2, ho_2, hp⟩ := px_b_at hp
  refine px_callWv (wc := (wdX6_silenceAll cyI cyZ cyJ cyB cyO h_tg a_tg_numbers a_tg_strengths a_tg_silent tg_size tg_numbers tg_strengths tg_silent)) (wr := [(h_x, .inr (10, [.int x_n, .int x_blocker, .int x_blockerBits, .int x_tornBy, .ref h_tg, .ref h_cr, .ref h_la, .ref h_sp, .ref a_x_splitRow, .ref h_tp, .ref h_tx, .ref h_fr, .ref h_se, .ref h_od, .ref h_kn, .ref a_x_sheets]))]) (w1 := (wdX6_silenceAll cyI cyZ cyJ cyB cyO h_tg a_tg_numbers a_tg_strengths a_tg_silent tg_size tg_numbers tg_strengths o_2)) (ws2 := (wdX10_wake cyI cyZ cyJ cyB cyO h_x h_tg h_cr h_la h_sp a_x_splitRow h_tp h_tx h_fr h_se h_od h_kn a_x_sheets a_tg_numbers a_tg_strengths a_tg_silent x_n x_blocker x_blockerBits x_tornBy tg_size tg_numbers tg_strengths o_2 h_la h_sp)) (va_runV (As := [.int (0 : Int32)]) (rest := []) ⟨hx, hb, hml, hown, hts⟩ (ccX6_silenceAll l dC dI cyI cyZ cyJ cyB cyO _ h_tg a_tg_numbers a_tg_strengths a_tg_silent tg_size tg_numbers tg_strengths tg_silent (0 : Int32) o_2 ho_2) (cwV 1 hts gX10_wake_X6_silenceAll rfl rfl rfl hvX6_silenceAll ⟨Nat.le_of_ble_eq_true rfl, Nat.le_of_ble_eq_true rfl⟩) (px_preWV (wc := (wdX6_silenceAll cyI cyZ cyJ cyB cyO h_tg a_tg_numbers a_tg_strengths a_tg_silent tg_size tg_numbers tg_strengths tg_silent)) (ci := 6) (q0 := 1) hK hN hP hD [1, 2, 3, 4] (by decide) rfl rfl rfl) rfl rfl hl.1 rfl (lv_room (Nat.le_of_ble_eq_true rfl)) dX10_wake_13 ⟨Nat.zero_le _, Nat.zero_le _⟩) hP hD hS hA [1, 2, 3, 4] [0] [0, 1, 2, 3, 4] rfl rfl (by decide) (by decide) (by decide) rfl (fun H locs hP hD hS => ?_)
  refine lv_iload_n hx hb dX10_wake_16 rfl (lv_at hl 0 rfl) ?_
  have ho := px_s hp
  subst ho
  exact hQ _ _ _ _ hP hD hS dX10_wake_17
/-! TagReader.block(II)I -/
theorem hvX10_block : yX10_block.cls = RX10 ∧ yX10_block.cls ≠ "java/lang/invoke/MethodHandle" ∧ yX10_block.cls ≠ "java/lang/invoke/VarHandle" ∧ (parseMethodDescriptor yX10_block.desc).map (fun d => d.parameters.length) = some 2 := by decide +kernel
theorem fX10_block_X10 : ∀ w ∈ u_ws RX10 TX10 16, w ∈ wsX10_block := fun _ h => List.mem_cons_of_mem _ (List.mem_append_right _ h)
theorem kX10_block_1 : (.fieldLink RX10 7 "TagReader" "n" "I" : Cond) ∈ wsX10_block := List.mem_of_getElem? (i := 1) rfl
theorem kX10_block_2 : (.fieldLink RX10 16 "TagReader" "blockerBits" "I" : Cond) ∈ wsX10_block := List.mem_of_getElem? (i := 2) rfl
theorem kX10_block_3 : (.fieldLink RX10 13 "TagReader" "blocker" "I" : Cond) ∈ wsX10_block := List.mem_of_getElem? (i := 3) rfl
set_option maxHeartbeats 4000000 in
set_option maxRecDepth 100000 in
theorem ccX10_block (l : Launch) (dC : Nat → ClassId) (dI : Nat → Nat → Nat) (cyI cyZ cyJ cyB cyO : ClassId) (sz : Nat) (h_x h_tg h_cr h_la h_sp a_x_splitRow h_tp h_tx h_fr h_se h_od h_kn a_x_sheets : Nat) (x_n : Int32) (x_blocker : Int32) (x_blockerBits : Int32) (x_tornBy : Int32) (v1 : Int32) (v2 : Int32) (out : Int32 × Int32 × Int32) (hp : pX10_block v1 v2 x_n x_blocker x_blockerBits = some out) : Met l yX10_block wsX10_block ({ frames := 1, cells := 0, slots := 0, locals := 22 } : Room) (px_PW (dC, dI) (px_TY cyI cyZ cyJ cyB cyO) [.ref h_x, .int v1, .int v2] (wdX10_block cyI cyZ cyJ cyB cyO h_x h_tg h_cr h_la h_sp a_x_splitRow h_tp h_tx h_fr h_se h_od h_kn a_x_sheets x_n x_blocker x_blockerBits x_tornBy h_la h_sp) sz) (px_QW (some (.int out.1)) (dC, dI) (wdX10_block cyI cyZ cyJ cyB cyO h_x h_tg h_cr h_la h_sp a_x_splitRow h_tp h_tx h_fr h_se h_od h_kn a_x_sheets x_n x_blocker x_blockerBits x_tornBy h_la h_sp) (wdX10_block cyI cyZ cyJ cyB cyO h_x h_tg h_cr h_la h_sp a_x_splitRow h_tp h_tx h_fr h_se h_od h_kn a_x_sheets x_n out.2.1 out.2.2 x_tornBy h_la h_sp) sz) 0 0 (va_A (wdX10_block cyI cyZ cyJ cyB cyO h_x h_tg h_cr h_la h_sp a_x_splitRow h_tp h_tx h_fr h_se h_od h_kn a_x_sheets x_n x_blocker x_blockerBits x_tornBy h_la h_sp) sz) := by
  refine Met.ofW (cc := cX10_block) (maxL := 3) (ret := (some .int)) (by decide) rfl ?_
  intro p e s m args below meth c s₁ B hml hv
  obtain ⟨rfl, hsz, hP, hK, hD0, hN⟩ := hv
  have hx := B.exec
  have hb := B.bytes
  have hr := B.returns
  have hts := atoms_spec (ws := wsX10_block) B.pre
  have hown : s.vm.findClass RX10 = some m.cls := findClass_of_methodNamed B.named
  have hlocks := B.notSynchronized
  subst hsz
  have hD := hD0.self (sz := s.heap.size)
  generalize hAe : va_A (wdX10_block cyI cyZ cyJ cyB cyO h_x h_tg h_cr h_la h_sp a_x_splitRow h_tp h_tx h_fr h_se h_od h_kn a_x_sheets x_n x_blocker x_blockerBits x_tornBy h_la h_sp) s.heap.size = A at hD ⊢
  have hA : ∀ q : Nat, s.heap.size ≤ q → A q := fun q h => by rw [← hAe]; exact Or.inr h
  have hS : va_S A s.heap s.heap [] := va_S.rf
  have hq := px_QWe (v := (some (.int out.1))) (D := (dC, dI)) (w1 := (wdX10_block cyI cyZ cyJ cyB cyO h_x h_tg h_cr h_la h_sp a_x_splitRow h_tp h_tx h_fr h_se h_od h_kn a_x_sheets x_n out.2.1 out.2.2 x_tornBy h_la h_sp)) (st := s) hAe
  generalize px_QW (some (.int out.1)) (dC, dI) (wdX10_block cyI cyZ cyJ cyB cyO h_x h_tg h_cr h_la h_sp a_x_splitRow h_tp h_tx h_fr h_se h_od h_kn a_x_sheets x_n x_blocker x_blockerBits x_tornBy h_la h_sp) (wdX10_block cyI cyZ cyJ cyB cyO h_x h_tg h_cr h_la h_sp a_x_splitRow h_tp h_tx h_fr h_se h_od h_kn a_x_sheets x_n out.2.1 out.2.2 x_tornBy h_la h_sp) s.heap.size = Qc at hq ⊢
  have hQ : ∀ (H : Heap) (locs : List Loc) (pc : Nat) (ls : Array Slot), va_P (dC, dI) vwCl (wdX10_block cyI cyZ cyJ cyB cyO h_x h_tg h_cr h_la h_sp a_x_splitRow h_tp h_tx h_fr h_se h_od h_kn a_x_sheets x_n out.2.1 out.2.2 x_tornBy h_la h_sp) H → va_D A (wdX10_block cyI cyZ cyJ cyB cyO h_x h_tg h_cr h_la h_sp a_x_splitRow h_tp h_tx h_fr h_se h_od h_kn a_x_sheets x_n out.2.1 out.2.2 x_tornBy h_la h_sp) → va_S A s.heap H locs → decode cX10_block pc = .ok (.ireturn, 1) → W p l e ({ frames := 1, cells := 0, slots := 0, locals := 22 } : Room) s m (([.ref h_x, .int v1, .int v2] : List Value).toArray) below meth c H locs 0 0 (MQ below Qc (([.ref h_x, .int v1, .int v2] : List Value).toArray) s 0 0 A) (F0 m pc ls [.int out.1]) := fun H locs pc ls hP hD hS hd => W.iret hx hb hr (fun t ht hW => hq _ t (by rw [ht]; exact hP) hD (hS.F ht)) hS.2.2 hd
  generalize MQ below Qc (([.ref h_x, .int v1, .int v2] : List Value).toArray) s 0 0 A = Q at hQ ⊢
  have hl := lv_entry [.ref h_x, .int v1, .int v2] (n := 3) (Nat.le_of_ble_eq_true rfl)
  rw [lg_entry_eq]
  generalize (lg_sl [.ref h_x, .int v1, .int v2] ++ List.replicate (3 - (lg_sl [.ref h_x, .int v1, .int v2]).length) Slot.unset).toArray = ls at hl ⊢
  have hl : lv_has ls 3 [(0, .ref h_x), (1, .int v1), (2, .int v2)] := hl
  unfold pX10_block at hp
  refine lv_iload_n hx hb dX10_block_0 rfl (lv_at hl 2 rfl) ?_
  refine lv_iconst (v := (-1 : Int32)) hx hb dX10_block_1 (by decide) ?_
  refine lv_aload_n hx hb dX10_block_2 rfl (lv_at hl 0 rfl) ?_
  refine va_get (D := (dC, dI)) (ci := 10) (v := .int x_n) (C := RX10) (T := TX10) (N := 16) hx hb hts fX10_block_X10 hown hK hP 0 rfl rfl 0 (by decide) (hts _ kX10_block_1) (fun _ h9 => h9) rfl dX10_block_3 ?_
  obtain ⟨o_1, ho_1, hp⟩ := px_b_at hp
  refine px_callR (v := .int o_1) (va_runS (As := [.int v2, .int (-1 : Int32), .int x_n]) (rest := []) ⟨hx, hb, hml, hown, hts⟩ (ccX10_within l dC dI cyI cyZ cyJ cyB cyO v2 (-1 : Int32) x_n o_1 ho_1) (va_cwS 3 hts gX10_block_X10_within rfl rfl rfl hsX10_within ⟨Nat.le_of_ble_eq_true rfl, Nat.le_of_ble_eq_true rfl⟩) (px_preR (wc := []) hK hN hP [] rfl) rfl rfl hl.1 rfl (lv_room (Nat.le_of_ble_eq_true rfl)) dX10_block_6 ⟨Nat.zero_le _, Nat.zero_le _⟩) ?_
  refine lv_if_ne (tgt := 14) hx hb dX10_block_9 (by decide) (fun c_2 => ?_) (fun c_2 => ?_)
  · have hp := px_f hp c_2
    refine lv_aload_n hx hb dX10_block_14 rfl (lv_at hl 0 rfl) ?_
    refine lv_iload_n hx hb dX10_block_15 rfl (lv_at hl 2 rfl) ?_
    refine va_put (D := (dC, dI)) (ci := 10) (v := .int v2) (ty := .int) (C := RX10) (T := TX10) (N := 16) hx hb hts fX10_block_X10 tyX10 tyX10_ok nmX10 hown hK hP hD hS 0 rfl rfl 2 (by decide) (hts _ kX10_block_2) (fun _ h9 => h9) rfl (tyX10_ok 2 (by decide)) rfl rfl (Nat.le_of_ble_eq_true rfl) dX10_block_16 (fun H locs hP hD hS => ?_)
    have hP : va_P (dC, dI) vwCl (wdX10_block cyI cyZ cyJ cyB cyO h_x h_tg h_cr h_la h_sp a_x_splitRow h_tp h_tx h_fr h_se h_od h_kn a_x_sheets x_n x_blocker v2 x_tornBy h_la h_sp) H := hP
    have hD : va_D A (wdX10_block cyI cyZ cyJ cyB cyO h_x h_tg h_cr h_la h_sp a_x_splitRow h_tp h_tx h_fr h_se h_od h_kn a_x_sheets x_n x_blocker v2 x_tornBy h_la h_sp) := hD
    refine lv_iload_n hx hb dX10_block_19 rfl (lv_at hl 2 rfl) ?_
    refine lv_if_ge (tgt := 25) hx hb dX10_block_20 (by decide) (fun c_3 => ?_) (fun c_3 => ?_)
    · have hp := px_t hp c_3
      refine lv_aload_n hx hb dX10_block_25 rfl (lv_at hl 0 rfl) ?_
      refine lv_iload_n hx hb dX10_block_26 rfl (lv_at hl 1 rfl) ?_
      refine lv_iload_n hx hb dX10_block_27 rfl (lv_at hl 2 rfl) ?_
      obtain ⟨o_4, ho_4, hp⟩ := px_b_at hp
      refine px_callR (v := .int o_4) (va_runS (As := [.int v2]) (rest := [.int v1, .ref h_x]) ⟨hx, hb, hml, hown, hts⟩ (ccX10_lowBits l dC dI cyI cyZ cyJ cyB cyO v2 o_4 ho_4) (va_cwS 1 hts gX10_block_X10_lowBits rfl rfl rfl hsX10_lowBits ⟨Nat.le_of_ble_eq_true rfl, Nat.le_of_ble_eq_true rfl⟩) (px_preR (wc := []) hK hN hP [] rfl) rfl rfl hl.1 rfl (lv_room (Nat.le_of_ble_eq_true rfl)) dX10_block_28 ⟨Nat.zero_le _, Nat.zero_le _⟩) ?_
      refine lv_iand hx hb dX10_block_31 ?_
      refine va_put (D := (dC, dI)) (ci := 10) (v := .int (v1 &&& o_4)) (ty := .int) (C := RX10) (T := TX10) (N := 16) hx hb hts fX10_block_X10 tyX10 tyX10_ok nmX10 hown hK hP hD hS 0 rfl rfl 1 (by decide) (hts _ kX10_block_3) (fun _ h9 => h9) rfl (tyX10_ok 1 (by decide)) rfl rfl (Nat.le_of_ble_eq_true rfl) dX10_block_32 (fun H locs hP hD hS => ?_)
      have hP : va_P (dC, dI) vwCl (wdX10_block cyI cyZ cyJ cyB cyO h_x h_tg h_cr h_la h_sp a_x_splitRow h_tp h_tx h_fr h_se h_od h_kn a_x_sheets x_n (v1 &&& o_4) v2 x_tornBy h_la h_sp) H := hP
      have hD : va_D A (wdX10_block cyI cyZ cyJ cyB cyO h_x h_tg h_cr h_la h_sp a_x_splitRow h_tp h_tx h_fr h_se h_od h_kn a_x_sheets x_n (v1 &&& o_4) v2 x_tornBy h_la h_sp) := hD
      refine lv_iconst (v := (1 : Int32)) hx hb dX10_block_35 (by decide) ?_
      refine lv_aload_n hx hb dX10_block_36 rfl (lv_at hl 0 rfl) ?_
      refine va_get (D := (dC, dI)) (ci := 10) (v := .int x_n) (C := RX10) (T := TX10) (N := 16) hx hb hts fX10_block_X10 hown hK hP 0 rfl rfl 0 (by decide) (hts _ kX10_block_1) (fun _ h9 => h9) rfl dX10_block_37 ?_
      refine lv_iload_n hx hb dX10_block_40 rfl (lv_at hl 2 rfl) ?_
      refine lv_isub hx hb dX10_block_41 ?_
      refine lv_ishl hx hb dX10_block_42 ?_
      have ho := px_s hp
      subst ho
      exact hQ _ _ _ _ hP hD hS dX10_block_43
    · have hp := px_f hp c_3
      refine lv_iconst (v := (0 : Int32)) hx hb dX10_block_23 (by decide) ?_
      have ho := px_s hp
      subst ho
      exact hQ _ _ _ _ hP hD hS dX10_block_24
  · have hp := px_t hp c_2
    refine lv_iconst (v := (-1 : Int32)) hx hb dX10_block_12 (by decide) ?_
    have ho := px_s hp
    subst ho
    exact hQ _ _ _ _ hP hD hS dX10_block_13
/-! TagReader.gatherTags()V -/
theorem hvX10_gatherTags : yX10_gatherTags.cls = RX10 ∧ yX10_gatherTags.cls ≠ "java/lang/invoke/MethodHandle" ∧ yX10_gatherTags.cls ≠ "java/lang/invoke/VarHandle" ∧ (parseMethodDescriptor yX10_gatherTags.desc).map (fun d => d.parameters.length) = some 0 := by decide +kernel
theorem fX10_gatherTags_X10 : ∀ w ∈ u_ws RX10 TX10 16, w ∈ wsX10_gatherTags := fun _ h => List.mem_cons_of_mem _ (List.mem_append_left _ (List.mem_append_left _ (List.mem_append_right _ h)))
theorem kX10_gatherTags_1 : (.fieldLink RX10 32 "TagReader" "crowd" "LTagReader$Crowd;" : Cond) ∈ wsX10_gatherTags := List.mem_of_getElem? (i := 1) rfl
theorem kX10_gatherTags_2 : (.fieldLink RX10 7 "TagReader" "n" "I" : Cond) ∈ wsX10_gatherTags := List.mem_of_getElem? (i := 2) rfl
theorem kX10_gatherTags_3 : (.fieldLink RX10 25 "TagReader" "tags" "LTagReader$Tags;" : Cond) ∈ wsX10_gatherTags := List.mem_of_getElem? (i := 3) rfl
theorem fX10_gatherTags_X6 : ∀ w ∈ u_ws RX6 TX6 4, w ∈ wsX10_gatherTags := fun _ h => List.mem_cons_of_mem _ (List.mem_append_left _ (List.mem_append_right _ h))
theorem kX10_gatherTags_4 : (.fieldLink RX10 103 "TagReader$Tags" "size" "I" : Cond) ∈ wsX10_gatherTags := List.mem_of_getElem? (i := 4) rfl
theorem kX10_gatherTags_7 : (.fieldLink RX10 16 "TagReader" "blockerBits" "I" : Cond) ∈ wsX10_gatherTags := List.mem_of_getElem? (i := 7) rfl
theorem fX10_gatherTags_X0 : ∀ w ∈ u_ws RX0 TX0 9, w ∈ wsX10_gatherTags := fun _ h => List.mem_cons_of_mem _ (List.mem_append_right _ h)
theorem kX10_gatherTags_8 : (.fieldLink RX10 300 "TagReader$Crowd" "blockerBits" "I" : Cond) ∈ wsX10_gatherTags := List.mem_of_getElem? (i := 8) rfl
theorem kX10_gatherTags_9 : (.fieldLink RX10 13 "TagReader" "blocker" "I" : Cond) ∈ wsX10_gatherTags := List.mem_of_getElem? (i := 9) rfl
theorem kX10_gatherTags_10 : (.fieldLink RX10 301 "TagReader$Crowd" "blocker" "I" : Cond) ∈ wsX10_gatherTags := List.mem_of_getElem? (i := 10) rfl
theorem kX10_gatherTags_5 : (.fieldLink RX10 128 "TagReader$Tags" "silent" "[Z" : Cond) ∈ wsX10_gatherTags := List.mem_of_getElem? (i := 5) rfl
theorem kX10_gatherTags_6 : (.fieldLink RX10 122 "TagReader$Tags" "numbers" "[I" : Cond) ∈ wsX10_gatherTags := List.mem_of_getElem? (i := 6) rfl
set_option maxHeartbeats 4000000 in
set_option maxRecDepth 100000 in
theorem lcX10_gatherTags_58 {p : Program} {l : Launch} {e : Env} {s : State} {m : MethodId} {args : Array Value} {below : List Frame} {meth : Method} {c : Code} {Q : State → Prop} {A : Nat → Prop} (dC : Nat → ClassId) (dI : Nat → Nat → Nat) (cyI cyZ cyJ cyB cyO : ClassId) (h_x h_tg h_cr h_la h_sp a_x_splitRow h_tp h_tx h_fr h_se h_od h_kn a_x_sheets a_tg_numbers a_tg_strengths a_tg_silent a_cr_numbers : Nat) (x_n : Int32) (x_blocker : Int32) (x_blockerBits : Int32) (x_tornBy : Int32) (tg_size : Int32) (tg_numbers : Nat → Int32) (tg_strengths : Nat → Int32) (tg_silent : Nat → Int32) (cr_size : Int32) (cr_n : Int32) (cr_blockerBits : Int32) (cr_blocker : Int32) (cr_tagsHeard : Int32) (cr_seemingHeard : Int32) (cr_ones : Int32) (cr_zeros : Int32) (cr_numbers : Nat → Int32) (out : Int32 × Int32 × Int32 × Int32 × (Nat → Int32)) (hx : p.tables.exec = Jvm.exec) (hb : c.code = cX10_gatherTags) (hml : c.maxLocals = 2) (hts : ∀ w ∈ wsX10_gatherTags, w.before args s = true) (hown : s.vm.findClass RX10 = some m.cls) (hK : va_K (dC, dI) vwCl (px_TY cyI cyZ cyJ cyB cyO) s) (hN : px_NW s) (hA : ∀ q : Nat, s.heap.size ≤ q → A q) (hQ : ∀ (H : Heap) (locs : List Loc) (pc : Nat) (ls : Array Slot), va_P (dC, dI) vwCl (wdX10_gatherTags cyI cyZ cyJ cyB cyO h_x h_tg h_cr h_la h_sp a_x_splitRow h_tp h_tx h_fr h_se h_od h_kn a_x_sheets a_tg_numbers a_tg_strengths a_tg_silent a_cr_numbers x_n x_blocker x_blockerBits x_tornBy tg_size tg_numbers tg_strengths tg_silent out.1 out.2.1 out.2.2.1 out.2.2.2.1 cr_tagsHeard cr_seemingHeard cr_ones cr_zeros out.2.2.2.2 h_la h_sp) H → va_D A (wdX10_gatherTags cyI cyZ cyJ cyB cyO h_x h_tg h_cr h_la h_sp a_x_splitRow h_tp h_tx h_fr h_se h_od h_kn a_x_sheets a_tg_numbers a_tg_strengths a_tg_silent a_cr_numbers x_n x_blocker x_blockerBits x_tornBy tg_size tg_numbers tg_strengths tg_silent out.1 out.2.1 out.2.2.1 out.2.2.2.1 cr_tagsHeard cr_seemingHeard cr_ones cr_zeros out.2.2.2.2 h_la h_sp) → va_S A s.heap H locs → decode cX10_gatherTags pc = .ok (.return_, 1) → W p l e ({ frames := 1, cells := 0, slots := 0, locals := 21 } : Room) s m args below meth c H locs 0 0 Q (F0 m pc ls []))  : ∀ (cr_size : Int32) (cr_n : Int32) (cr_blockerBits : Int32) (cr_blocker : Int32) (cr_numbers : Nat → Int32) (H : Heap) (locs : List Loc) (ls : Array Slot), pX10_gatherTags_58 x_n x_blocker x_blockerBits tg_size tg_numbers tg_silent cr_size cr_n cr_blockerBits cr_blocker cr_numbers = some out → va_P (dC, dI) vwCl (wdX10_gatherTags cyI cyZ cyJ cyB cyO h_x h_tg h_cr h_la h_sp a_x_splitRow h_tp h_tx h_fr h_se h_od h_kn a_x_sheets a_tg_numbers a_tg_strengths a_tg_silent a_cr_numbers x_n x_blocker x_blockerBits x_tornBy tg_size tg_numbers tg_strengths tg_silent cr_size cr_n cr_blockerBits cr_blocker cr_tagsHeard cr_seemingHeard cr_ones cr_zeros cr_numbers h_la h_sp) H → va_D A (wdX10_gatherTags cyI cyZ cyJ cyB cyO h_x h_tg h_cr h_la h_sp a_x_splitRow h_tp h_tx h_fr h_se h_od h_kn a_x_sheets a_tg_numbers a_tg_strengths a_tg_silent a_cr_numbers x_n x_blocker x_blockerBits x_tornBy tg_size tg_numbers tg_strengths tg_silent cr_size cr_n cr_blockerBits cr_blocker cr_tagsHeard cr_seemingHeard cr_ones cr_zeros cr_numbers h_la h_sp) → va_S A s.heap H locs → lv_has ls 2 [(0, .ref h_x)] → W p l e ({ frames := 1, cells := 0, slots := 0, locals := 21 } : Room) s m args below meth c H locs 0 0 Q (F0 m 58 ls []) := by
  intro cr_size cr_n cr_blockerBits cr_blocker cr_numbers H locs ls hp hP hD hS hl
  unfold pX10_gatherTags_58 at hp
  refine lv_aload_n hx hb dX10_gatherTags_58 rfl (lv_at hl 0 rfl) ?_
  refine va_get (D := (dC, dI)) (ci := 10) (v := .ref h_cr) (C := RX10) (T := TX10) (N := 16) hx hb hts fX10_gatherTags_X10 hown hK hP 0 rfl rfl 5 (by decide) (hts _ kX10_gatherTags_1) (fun _ h9 => h9) rfl dX10_gatherTags_59 ?_
  refine lv_aload_n hx hb dX10_gatherTags_62 rfl (lv_at hl 0 rfl) ?_
  refine va_get (D := (dC, dI)) (ci := 10) (v := .int x_blockerBits) (C := RX10) (T := TX10) (N := 16) hx hb hts fX10_gatherTags_X10 hown hK hP 0 rfl rfl 2 (by decide) (hts _ kX10_gatherTags_7) (fun _ h9 => h9) rfl dX10_gatherTags_63 ?_
  refine va_put (D := (dC, dI)) (ci := 0) (v := .int x_blockerBits) (ty := .int) (C := RX0) (T := TX0) (N := 9) hx hb hts fX10_gatherTags_X0 tyX0 tyX0_ok nmX0 hown hK hP hD hS 5 rfl rfl 3 (by decide) (hts _ kX10_gatherTags_8) (fun _ h9 => h9) rfl (tyX0_ok 3 (by decide)) rfl rfl (Nat.le_of_ble_eq_true rfl) dX10_gatherTags_66 (fun H locs hP hD hS => ?_)
  have hP : va_P (dC, dI) vwCl (wdX10_gatherTags cyI cyZ cyJ cyB cyO h_x h_tg h_cr h_la h_sp a_x_splitRow h_tp h_tx h_fr h_se h_od h_kn a_x_sheets a_tg_numbers a_tg_strengths a_tg_silent a_cr_numbers x_n x_blocker x_blockerBits x_tornBy tg_size tg_numbers tg_strengths tg_silent cr_size cr_n x_blockerBits cr_blocker cr_tagsHeard cr_seemingHeard cr_ones cr_zeros cr_numbers h_la h_sp) H := hP
  have hD : va_D A (wdX10_gatherTags cyI cyZ cyJ cyB cyO h_x h_tg h_cr h_la h_sp a_x_splitRow h_tp h_tx h_fr h_se h_od h_kn a_x_sheets a_tg_numbers a_tg_strengths a_tg_silent a_cr_numbers x_n x_blocker x_blockerBits x_tornBy tg_size tg_numbers tg_strengths tg_silent cr_size cr_n x_blockerBits cr_blocker cr_tagsHeard cr_seemingHeard cr_ones cr_zeros cr_numbers h_la h_sp) := hD
  refine lv_aload_n hx hb dX10_gatherTags_69 rfl (lv_at hl 0 rfl) ?_
  refine va_get (D := (dC, dI)) (ci := 10) (v := .ref h_cr) (C := RX10) (T := TX10) (N := 16) hx hb hts fX10_gatherTags_X10 hown hK hP 0 rfl rfl 5 (by decide) (hts _ kX10_gatherTags_1) (fun _ h9 => h9) rfl dX10_gatherTags_70 ?_
  refine lv_aload_n hx hb dX10_gatherTags_73 rfl (lv_at hl 0 rfl) ?_
  refine va_get (D := (dC, dI)) (ci := 10) (v := .int x_blocker) (C := RX10) (T := TX10) (N := 16) hx hb hts fX10_gatherTags_X10 hown hK hP 0 rfl rfl 1 (by decide) (hts _ kX10_gatherTags_9) (fun _ h9 => h9) rfl dX10_gatherTags_74 ?_
  refine va_put (D := (dC, dI)) (ci := 0) (v := .int x_blocker) (ty := .int) (C := RX0) (T := TX0) (N := 9) hx hb hts fX10_gatherTags_X0 tyX0 tyX0_ok nmX0 hown hK hP hD hS 5 rfl rfl 4 (by decide) (hts _ kX10_gatherTags_10) (fun _ h9 => h9) rfl (tyX0_ok 4 (by decide)) rfl rfl (Nat.le_of_ble_eq_true rfl) dX10_gatherTags_77 (fun H locs hP hD hS => ?_)
  have hP : va_P (dC, dI) vwCl (wdX10_gatherTags cyI cyZ cyJ cyB cyO h_x h_tg h_cr h_la h_sp a_x_splitRow h_tp h_tx h_fr h_se h_od h_kn a_x_sheets a_tg_numbers a_tg_strengths a_tg_silent a_cr_numbers x_n x_blocker x_blockerBits x_tornBy tg_size tg_numbers tg_strengths tg_silent cr_size cr_n x_blockerBits x_blocker cr_tagsHeard cr_seemingHeard cr_ones cr_zeros cr_numbers h_la h_sp) H := hP
  have hD : va_D A (wdX10_gatherTags cyI cyZ cyJ cyB cyO h_x h_tg h_cr h_la h_sp a_x_splitRow h_tp h_tx h_fr h_se h_od h_kn a_x_sheets a_tg_numbers a_tg_strengths a_tg_silent a_cr_numbers x_n x_blocker x_blockerBits x_tornBy tg_size tg_numbers tg_strengths tg_silent cr_size cr_n x_blockerBits x_blocker cr_tagsHeard cr_seemingHeard cr_ones cr_zeros cr_numbers h_la h_sp) := hD
  have ho := px_s hp
  subst ho
  exact hQ _ _ _ _ hP hD hS dX10_gatherTags_80
set_option maxHeartbeats 4000000 in
set_option maxRecDepth 100000 in
theorem lcX10_gatherTags_13B {p : Program} {l : Launch} {e : Env} {s : State} {m : MethodId} {args : Array Value} {below : List Frame} {meth : Method} {c : Code} {Q : State → Prop} {A : Nat → Prop} (dC : Nat → ClassId) (dI : Nat → Nat → Nat) (cyI cyZ cyJ cyB cyO : ClassId) (h_x h_tg h_cr h_la h_sp a_x_splitRow h_tp h_tx h_fr h_se h_od h_kn a_x_sheets a_tg_numbers a_tg_strengths a_tg_silent a_cr_numbers : Nat) (x_n : Int32) (x_blocker : Int32) (x_blockerBits : Int32) (x_tornBy : Int32) (tg_size : Int32) (tg_numbers : Nat → Int32) (tg_strengths : Nat → Int32) (tg_silent : Nat → Int32) (cr_size : Int32) (cr_n : Int32) (cr_blockerBits : Int32) (cr_blocker : Int32) (cr_tagsHeard : Int32) (cr_seemingHeard : Int32) (cr_ones : Int32) (cr_zeros : Int32) (cr_numbers : Nat → Int32) (out : Int32 × Int32 × Int32 × Int32 × (Nat → Int32)) (hx : p.tables.exec = Jvm.exec) (hb : c.code = cX10_gatherTags) (hml : c.maxLocals = 2) (hts : ∀ w ∈ wsX10_gatherTags, w.before args s = true) (hown : s.vm.findClass RX10 = some m.cls) (hK : va_K (dC, dI) vwCl (px_TY cyI cyZ cyJ cyB cyO) s) (hN : px_NW s) (hA : ∀ q : Nat, s.heap.size ≤ q → A q) (hQ : ∀ (H : Heap) (locs : List Loc) (pc : Nat) (ls : Array Slot), va_P (dC, dI) vwCl (wdX10_gatherTags cyI cyZ cyJ cyB cyO h_x h_tg h_cr h_la h_sp a_x_splitRow h_tp h_tx h_fr h_se h_od h_kn a_x_sheets a_tg_numbers a_tg_strengths a_tg_silent a_cr_numbers x_n x_blocker x_blockerBits x_tornBy tg_size tg_numbers tg_strengths tg_silent out.1 out.2.1 out.2.2.1 out.2.2.2.1 cr_tagsHeard cr_seemingHeard cr_ones cr_zeros out.2.2.2.2 h_la h_sp) H → va_D A (wdX10_gatherTags cyI cyZ cyJ cyB cyO h_x h_tg h_cr h_la h_sp a_x_splitRow h_tp h_tx h_fr h_se h_od h_kn a_x_sheets a_tg_numbers a_tg_strengths a_tg_silent a_cr_numbers x_n x_blocker x_blockerBits x_tornBy tg_size tg_numbers tg_strengths tg_silent out.1 out.2.1 out.2.2.1 out.2.2.2.1 cr_tagsHeard cr_seemingHeard cr_ones cr_zeros out.2.2.2.2 h_la h_sp) → va_S A s.heap H locs → decode cX10_gatherTags pc = .ok (.return_, 1) → W p l e ({ frames := 1, cells := 0, slots := 0, locals := 21 } : Room) s m args below meth c H locs 0 0 Q (F0 m pc ls []))  (K_13 : Int32 → Int32 → Int32 → Int32 → Int32 → (Nat → Int32) → Option (Int32 × Int32 × Int32 × Int32 × (Nat → Int32))) (hK_13 : ∀ (v1 : Int32) (cr_size : Int32) (cr_n : Int32) (cr_blockerBits : Int32) (cr_blocker : Int32) (cr_numbers : Nat → Int32) (H : Heap) (locs : List Loc) (ls : Array Slot), K_13 v1 cr_size cr_n cr_blockerBits cr_blocker cr_numbers = some out → va_P (dC, dI) vwCl (wdX10_gatherTags cyI cyZ cyJ cyB cyO h_x h_tg h_cr h_la h_sp a_x_splitRow h_tp h_tx h_fr h_se h_od h_kn a_x_sheets a_tg_numbers a_tg_strengths a_tg_silent a_cr_numbers x_n x_blocker x_blockerBits x_tornBy tg_size tg_numbers tg_strengths tg_silent cr_size cr_n cr_blockerBits cr_blocker cr_tagsHeard cr_seemingHeard cr_ones cr_zeros cr_numbers h_la h_sp) H → va_D A (wdX10_gatherTags cyI cyZ cyJ cyB cyO h_x h_tg h_cr h_la h_sp a_x_splitRow h_tp h_tx h_fr h_se h_od h_kn a_x_sheets a_tg_numbers a_tg_strengths a_tg_silent a_cr_numbers x_n x_blocker x_blockerBits x_tornBy tg_size tg_numbers tg_strengths tg_silent cr_size cr_n cr_blockerBits cr_blocker cr_tagsHeard cr_seemingHeard cr_ones cr_zeros cr_numbers h_la h_sp) → va_S A s.heap H locs → lv_has ls 2 [(0, .ref h_x), (1, .int v1)] → W p l e ({ frames := 1, cells := 0, slots := 0, locals := 21 } : Room) s m args below meth c H locs 0 0 Q (F0 m 13 ls [])) : ∀ (v1 : Int32) (cr_size : Int32) (cr_n : Int32) (cr_blockerBits : Int32) (cr_blocker : Int32) (cr_numbers : Nat → Int32) (H : Heap) (locs : List Loc) (ls : Array Slot), pX10_gatherTags_13B x_n x_blocker x_blockerBits tg_size tg_numbers tg_silent K_13 v1 cr_size cr_n cr_blockerBits cr_blocker cr_numbers = some out → va_P (dC, dI) vwCl (wdX10_gatherTags cyI cyZ cyJ cyB cyO h_x h_tg h_cr h_la h_sp a_x_splitRow h_tp h_tx h_fr h_se h_od h_kn a_x_sheets a_tg_numbers a_tg_strengths a_tg_silent a_cr_numbers x_n x_blocker x_blockerBits x_tornBy tg_size tg_numbers tg_strengths tg_silent cr_size cr_n cr_blockerBits cr_blocker cr_tagsHeard cr_seemingHeard cr_ones cr_zeros cr_numbers h_la h_sp) H → va_D A (wdX10_gatherTags cyI cyZ cyJ cyB cyO h_x h_tg h_cr h_la h_sp a_x_splitRow h_tp h_tx h_fr h_se h_od h_kn a_x_sheets a_tg_numbers a_tg_strengths a_tg_silent a_cr_numbers x_n x_blocker x_blockerBits x_tornBy tg_size tg_numbers tg_strengths tg_silent cr_size cr_n cr_blockerBits cr_blocker cr_tagsHeard cr_seemingHeard cr_ones cr_zeros cr_numbers h_la h_sp) → va_S A s.heap H locs → lv_has ls 2 [(0, .ref h_x), (1, .int v1)] → W p l e ({ frames := 1, cells := 0, slots := 0, locals := 21 } : Room) s m args below meth c H locs 0 0 Q (F0 m 13 ls []) := by
  intro v1 cr_size cr_n cr_blockerBits cr_blocker cr_numbers H locs ls hp hP hD hS hl
  unfold pX10_gatherTags_13B at hp
  refine lv_iload_n hx hb dX10_gatherTags_13 rfl (lv_at hl 1 rfl) ?_
  refine lv_aload_n hx hb dX10_gatherTags_14 rfl (lv_at hl 0 rfl) ?_
  refine va_get (D := (dC, dI)) (ci := 10) (v := .ref h_tg) (C := RX10) (T := TX10) (N := 16) hx hb hts fX10_gatherTags_X10 hown hK hP 0 rfl rfl 4 (by decide) (hts _ kX10_gatherTags_3) (fun _ h9 => h9) rfl dX10_gatherTags_15 ?_
  refine va_get (D := (dC, dI)) (ci := 6) (v := .int tg_size) (C := RX6) (T := TX6) (N := 4) hx hb hts fX10_gatherTags_X6 hown hK hP 1 rfl rfl 3 (by decide) (hts _ kX10_gatherTags_4) (fun _ h9 => h9) rfl dX10_gatherTags_18 ?_
  refine lv_icmp_ge (tgt := 58) hx hb dX10_gatherTags_21 (by decide) (fun c_2 => ?_) (fun c_2 => ?_)
  · have hp := px_t hp c_2
    exact lcX10_gatherTags_58 dC dI cyI cyZ cyJ cyB cyO h_x h_tg h_cr h_la h_sp a_x_splitRow h_tp h_tx h_fr h_se h_od h_kn a_x_sheets a_tg_numbers a_tg_strengths a_tg_silent a_cr_numbers x_n x_blocker x_blockerBits x_tornBy tg_size tg_numbers tg_strengths tg_silent cr_size cr_n cr_blockerBits cr_blocker cr_tagsHeard cr_seemingHeard cr_ones cr_zeros cr_numbers out hx hb hml hts hown hK hN hA hQ cr_size cr_n cr_blockerBits cr_blocker cr_numbers _ _ ls hp hP hD hS (lv_sub hl [0] rfl)
  · have hp := px_f hp c_2
    refine lv_aload_n hx hb dX10_gatherTags_24 rfl (lv_at hl 0 rfl) ?_
    refine va_get (D := (dC, dI)) (ci := 10) (v := .ref h_tg) (C := RX10) (T := TX10) (N := 16) hx hb hts fX10_gatherTags_X10 hown hK hP 0 rfl rfl 4 (by decide) (hts _ kX10_gatherTags_3) (fun _ h9 => h9) rfl dX10_gatherTags_25 ?_
    refine va_get (D := (dC, dI)) (ci := 6) (v := .ref a_tg_silent) (C := RX6) (T := TX6) (N := 4) hx hb hts fX10_gatherTags_X6 hown hK hP 1 rfl rfl 2 (by decide) (hts _ kX10_gatherTags_5) (fun _ h9 => h9) rfl dX10_gatherTags_28 ?_
    refine lv_iload_n hx hb dX10_gatherTags_31 rfl (lv_at hl 1 rfl) ?_
    obtain ⟨g_3, hp⟩ := px_i_at hp
    refine va_zald (D := (dC, dI)) hx hb hK hP 4 1 rfl rfl g_3 dX10_gatherTags_32 ?_
    refine lv_if_ne (tgt := 52) hx hb dX10_gatherTags_33 (by decide) (fun c_4 => ?_) (fun c_4 => ?_)
    · have hp := px_f hp c_4
      refine lv_iinc (v := (v1 + (1 : Int32))) (lv' := [(1, .int (v1 + (1 : Int32))), (0, .ref h_x)]) hx hb dX10_gatherTags_52 hl (k := 1) rfl rfl (by decide) rfl (fun ls hl => ?_)
      refine lv_goto (tgt := 13) hx hb dX10_gatherTags_55 (by decide) ?_
      exact hK_13 (v1 + (1 : Int32)) cr_size cr_n cr_blockerBits cr_blocker cr_numbers _ _ ls hp hP hD hS (lv_sub hl [1, 0] rfl)
    · have hp := px_t hp c_4
      refine lv_aload_n hx hb dX10_gatherTags_36 rfl (lv_at hl 0 rfl) ?_
      refine va_get (D := (dC, dI)) (ci := 10) (v := .ref h_cr) (C := RX10) (T := TX10) (N := 16) hx hb hts fX10_gatherTags_X10 hown hK hP 0 rfl rfl 5 (by decide) (hts _ kX10_gatherTags_1) (fun _ h9 => h9) rfl dX10_gatherTags_37 ?_
      refine lv_aload_n hx hb dX10_gatherTags_40 rfl (lv_at hl 0 rfl) ?_
      refine va_get (D := (dC, dI)) (ci := 10) (v := .ref h_tg) (C := RX10) (T := TX10) (N := 16) hx hb hts fX10_gatherTags_X10 hown hK hP 0 rfl rfl 4 (by decide) (hts _ kX10_gatherTags_3) (fun _ h9 => h9) rfl dX10_gatherTags_41 ?_
      refine va_get (D := (dC, dI)) (ci := 6) (v := .ref a_tg_numbers) (C := RX6) (T := TX6) (N := 4) hx hb hts fX10_gatherTags_X6 hown hK hP 1 rfl rfl 0 (by decide) (hts _ kX10_gatherTags_6) (fun _ h9 => h9) rfl dX10_gatherTags_44 ?_
      refine lv_iload_n hx hb dX10_gatherTags_47 rfl (lv_at hl 1 rfl) ?_
      obtain ⟨g_5, hp⟩ := px_i_at hp
      refine va_iald (D := (dC, dI)) hx hb hK hP 2 0 rfl rfl g_5 dX10_gatherTags_48 ?_
      obtain ⟨o_6, ho_6, hp⟩ := px_b_at hp
      refine px_callWv (wc := (wdX0_add cyI cyZ cyJ cyB cyO h_cr a_cr_numbers cr_size cr_n cr_blockerBits cr_blocker cr_tagsHeard cr_seemingHeard cr_ones cr_zeros cr_numbers)) (wr := [(h_x, .inr (10, [.int x_n, .int x_blocker, .int x_blockerBits, .int x_tornBy, .ref h_tg, .ref h_cr, .ref h_la, .ref h_sp, .ref a_x_splitRow, .ref h_tp, .ref h_tx, .ref h_fr, .ref h_se, .ref h_od, .ref h_kn, .ref a_x_sheets])), (h_tg, .inr (6, [.ref a_tg_numbers, .ref a_tg_strengths, .ref a_tg_silent, .int tg_size])), (a_tg_numbers, .inl (cyI, 16, .inl tg_numbers)), (a_tg_strengths, .inl (cyI, 16, .inl tg_strengths)), (a_tg_silent, .inl (cyZ, 16, .inl tg_silent))]) (w1 := (wdX0_add cyI cyZ cyJ cyB cyO h_cr a_cr_numbers o_6.1 cr_n cr_blockerBits cr_blocker cr_tagsHeard cr_seemingHeard cr_ones cr_zeros o_6.2)) (ws2 := (wdX10_gatherTags cyI cyZ cyJ cyB cyO h_x h_tg h_cr h_la h_sp a_x_splitRow h_tp h_tx h_fr h_se h_od h_kn a_x_sheets a_tg_numbers a_tg_strengths a_tg_silent a_cr_numbers x_n x_blocker x_blockerBits x_tornBy tg_size tg_numbers tg_strengths tg_silent o_6.1 cr_n cr_blockerBits cr_blocker cr_tagsHeard cr_seemingHeard cr_ones cr_zeros o_6.2 h_la h_sp)) (va_runV (As := [.int (tg_numbers (Int32.toNatClampNeg v1))]) (rest := []) ⟨hx, hb, hml, hown, hts⟩ (ccX0_add l dC dI cyI cyZ cyJ cyB cyO _ h_cr a_cr_numbers cr_size cr_n cr_blockerBits cr_blocker cr_tagsHeard cr_seemingHeard cr_ones cr_zeros cr_numbers (tg_numbers (Int32.toNatClampNeg v1)) o_6 ho_6) (cwV 1 hts gX10_gatherTags_X0_add rfl rfl rfl hvX0_add ⟨Nat.le_of_ble_eq_true rfl, Nat.le_of_ble_eq_true rfl⟩) (px_preWV (wc := (wdX0_add cyI cyZ cyJ cyB cyO h_cr a_cr_numbers cr_size cr_n cr_blockerBits cr_blocker cr_tagsHeard cr_seemingHeard cr_ones cr_zeros cr_numbers)) (ci := 0) (q0 := 5) hK hN hP hD [5, 6] (by decide) rfl rfl rfl) rfl rfl hl.1 rfl (lv_room (Nat.le_of_ble_eq_true rfl)) dX10_gatherTags_49 ⟨Nat.zero_le _, Nat.zero_le _⟩) hP hD hS hA [5, 6] [0, 1, 2, 3, 4] [0, 1, 2, 3, 4, 5, 6] rfl rfl (by decide) (by decide) (by decide) rfl (fun H locs hP hD hS => ?_)
      refine lv_iinc (v := (v1 + (1 : Int32))) (lv' := [(1, .int (v1 + (1 : Int32))), (0, .ref h_x)]) hx hb dX10_gatherTags_52 hl (k := 1) rfl rfl (by decide) rfl (fun ls hl => ?_)
      refine lv_goto (tgt := 13) hx hb dX10_gatherTags_55 (by decide) ?_
      exact hK_13 (v1 + (1 : Int32)) o_6.1 cr_n cr_blockerBits cr_blocker o_6.2 _ _ ls hp hP hD hS (lv_sub hl [1, 0] rfl)
theorem lcX10_gatherTags_13 {p : Program} {l : Launch} {e : Env} {s : State} {m : MethodId} {args : Array Value} {below : List Frame} {meth : Method} {c : Code} {Q : State → Prop} {A : Nat → Prop} (dC : Nat → ClassId) (dI : Nat → Nat → Nat) (cyI cyZ cyJ cyB cyO : ClassId) (h_x h_tg h_cr h_la h_sp a_x_splitRow h_tp h_tx h_fr h_se h_od h_kn a_x_sheets a_tg_numbers a_tg_strengths a_tg_silent a_cr_numbers : Nat) (x_n : Int32) (x_blocker : Int32) (x_blockerBits : Int32) (x_tornBy : Int32) (tg_size : Int32) (tg_numbers : Nat → Int32) (tg_strengths : Nat → Int32) (tg_silent : Nat → Int32) (cr_size : Int32) (cr_n : Int32) (cr_blockerBits : Int32) (cr_blocker : Int32) (cr_tagsHeard : Int32) (cr_seemingHeard : Int32) (cr_ones : Int32) (cr_zeros : Int32) (cr_numbers : Nat → Int32) (out : Int32 × Int32 × Int32 × Int32 × (Nat → Int32)) (hx : p.tables.exec = Jvm.exec) (hb : c.code = cX10_gatherTags) (hml : c.maxLocals = 2) (hts : ∀ w ∈ wsX10_gatherTags, w.before args s = true) (hown : s.vm.findClass RX10 = some m.cls) (hK : va_K (dC, dI) vwCl (px_TY cyI cyZ cyJ cyB cyO) s) (hN : px_NW s) (hA : ∀ q : Nat, s.heap.size ≤ q → A q) (hQ : ∀ (H : Heap) (locs : List Loc) (pc : Nat) (ls : Array Slot), va_P (dC, dI) vwCl (wdX10_gatherTags cyI cyZ cyJ cyB cyO h_x h_tg h_cr h_la h_sp a_x_splitRow h_tp h_tx h_fr h_se h_od h_kn a_x_sheets a_tg_numbers a_tg_strengths a_tg_silent a_cr_numbers x_n x_blocker x_blockerBits x_tornBy tg_size tg_numbers tg_strengths tg_silent out.1 out.2.1 out.2.2.1 out.2.2.2.1 cr_tagsHeard cr_seemingHeard cr_ones cr_zeros out.2.2.2.2 h_la h_sp) H → va_D A (wdX10_gatherTags cyI cyZ cyJ cyB cyO h_x h_tg h_cr h_la h_sp a_x_splitRow h_tp h_tx h_fr h_se h_od h_kn a_x_sheets a_tg_numbers a_tg_strengths a_tg_silent a_cr_numbers x_n x_blocker x_blockerBits x_tornBy tg_size tg_numbers tg_strengths tg_silent out.1 out.2.1 out.2.2.1 out.2.2.2.1 cr_tagsHeard cr_seemingHeard cr_ones cr_zeros out.2.2.2.2 h_la h_sp) → va_S A s.heap H locs → decode cX10_gatherTags pc = .ok (.return_, 1) → W p l e ({ frames := 1, cells := 0, slots := 0, locals := 21 } : Room) s m args below meth c H locs 0 0 Q (F0 m pc ls []))  : ∀ n : Nat, ∀ (v1 : Int32) (cr_size : Int32) (cr_n : Int32) (cr_blockerBits : Int32) (cr_blocker : Int32) (cr_numbers : Nat → Int32) (H : Heap) (locs : List Loc) (ls : Array Slot), pX10_gatherTags_13 x_n x_blocker x_blockerBits tg_size tg_numbers tg_silent n v1 cr_size cr_n cr_blockerBits cr_blocker cr_numbers = some out → va_P (dC, dI) vwCl (wdX10_gatherTags cyI cyZ cyJ cyB cyO h_x h_tg h_cr h_la h_sp a_x_splitRow h_tp h_tx h_fr h_se h_od h_kn a_x_sheets a_tg_numbers a_tg_strengths a_tg_silent a_cr_numbers x_n x_blocker x_blockerBits x_tornBy tg_size tg_numbers tg_strengths tg_silent cr_size cr_n cr_blockerBits cr_blocker cr_tagsHeard cr_seemingHeard cr_ones cr_zeros cr_numbers h_la h_sp) H → va_D A (wdX10_gatherTags cyI cyZ cyJ cyB cyO h_x h_tg h_cr h_la h_sp a_x_splitRow h_tp h_tx h_fr h_se h_od h_kn a_x_sheets a_tg_numbers a_tg_strengths a_tg_silent a_cr_numbers x_n x_blocker x_blockerBits x_tornBy tg_size tg_numbers tg_strengths tg_silent cr_size cr_n cr_blockerBits cr_blocker cr_tagsHeard cr_seemingHeard cr_ones cr_zeros cr_numbers h_la h_sp) → va_S A s.heap H locs → lv_has ls 2 [(0, .ref h_x), (1, .int v1)] → W p l e ({ frames := 1, cells := 0, slots := 0, locals := 21 } : Room) s m args below meth c H locs 0 0 Q (F0 m 13 ls []) := by
  intro n
  induction n with
  | zero =>
    intro v1 cr_size cr_n cr_blockerBits cr_blocker cr_numbers H locs ls hp hP hD hS hl
    exact nomatch hp
  | succ n ih => exact lcX10_gatherTags_13B dC dI cyI cyZ cyJ cyB cyO h_x h_tg h_cr h_la h_sp a_x_splitRow h_tp h_tx h_fr h_se h_od h_kn a_x_sheets a_tg_numbers a_tg_strengths a_tg_silent a_cr_numbers x_n x_blocker x_blockerBits x_tornBy tg_size tg_numbers tg_strengths tg_silent cr_size cr_n cr_blockerBits cr_blocker cr_tagsHeard cr_seemingHeard cr_ones cr_zeros cr_numbers out hx hb hml hts hown hK hN hA hQ (pX10_gatherTags_13 x_n x_blocker x_blockerBits tg_size tg_numbers tg_silent n) ih
set_option maxHeartbeats 4000000 in
set_option maxRecDepth 100000 in
theorem ccX10_gatherTags (l : Launch) (dC : Nat → ClassId) (dI : Nat → Nat → Nat) (cyI cyZ cyJ cyB cyO : ClassId) (sz : Nat) (h_x h_tg h_cr h_la h_sp a_x_splitRow h_tp h_tx h_fr h_se h_od h_kn a_x_sheets a_tg_numbers a_tg_strengths a_tg_silent a_cr_numbers : Nat) (x_n : Int32) (x_blocker : Int32) (x_blockerBits : Int32) (x_tornBy : Int32) (tg_size : Int32) (tg_numbers : Nat → Int32) (tg_strengths : Nat → Int32) (tg_silent : Nat → Int32) (cr_size : Int32) (cr_n : Int32) (cr_blockerBits : Int32) (cr_blocker : Int32) (cr_tagsHeard : Int32) (cr_seemingHeard : Int32) (cr_ones : Int32) (cr_zeros : Int32) (cr_numbers : Nat → Int32) (out : Int32 × Int32 × Int32 × Int32 × (Nat → Int32)) (hp : pX10_gatherTags x_n x_blocker x_blockerBits tg_size tg_numbers tg_silent cr_size cr_n cr_blockerBits cr_blocker cr_numbers = some out) : Met l yX10_gatherTags wsX10_gatherTags ({ frames := 1, cells := 0, slots := 0, locals := 21 } : Room) (px_PW (dC, dI) (px_TY cyI cyZ cyJ cyB cyO) [.ref h_x] (wdX10_gatherTags cyI cyZ cyJ cyB cyO h_x h_tg h_cr h_la h_sp a_x_splitRow h_tp h_tx h_fr h_se h_od h_kn a_x_sheets a_tg_numbers a_tg_strengths a_tg_silent a_cr_numbers x_n x_blocker x_blockerBits x_tornBy tg_size tg_numbers tg_strengths tg_silent cr_size cr_n cr_blockerBits cr_blocker cr_tagsHeard cr_seemingHeard cr_ones cr_zeros cr_numbers h_la h_sp) sz) (px_QW none (dC, dI) (wdX10_gatherTags cyI cyZ cyJ cyB cyO h_x h_tg h_cr h_la h_sp a_x_splitRow h_tp h_tx h_fr h_se h_od h_kn a_x_sheets a_tg_numbers a_tg_strengths a_tg_silent a_cr_numbers x_n x_blocker x_blockerBits x_tornBy tg_size tg_numbers tg_strengths tg_silent cr_size cr_n cr_blockerBits cr_blocker cr_tagsHeard cr_seemingHeard cr_ones cr_zeros cr_numbers h_la h_sp) (wdX10_gatherTags cyI cyZ cyJ cyB cyO h_x h_tg h_cr h_la h_sp a_x_splitRow h_tp h_tx h_fr h_se h_od h_kn a_x_sheets a_tg_numbers a_tg_strengths a_tg_silent a_cr_numbers x_n x_blocker x_blockerBits x_tornBy tg_size tg_numbers tg_strengths tg_silent out.1 out.2.1 out.2.2.1 out.2.2.2.1 cr_tagsHeard cr_seemingHeard cr_ones cr_zeros out.2.2.2.2 h_la h_sp) sz) 0 0 (va_A (wdX10_gatherTags cyI cyZ cyJ cyB cyO h_x h_tg h_cr h_la h_sp a_x_splitRow h_tp h_tx h_fr h_se h_od h_kn a_x_sheets a_tg_numbers a_tg_strengths a_tg_silent a_cr_numbers x_n x_blocker x_blockerBits x_tornBy tg_size tg_numbers tg_strengths tg_silent cr_size cr_n cr_blockerBits cr_blocker cr_tagsHeard cr_seemingHeard cr_ones cr_zeros cr_numbers h_la h_sp) sz) := by
  refine Met.ofW (cc := cX10_gatherTags) (maxL := 2) (ret := none) (by decide) rfl ?_
  intro p e s m args below meth c s₁ B hml hv
  obtain ⟨rfl, hsz, hP, hK, hD0, hN⟩ := hv
  have hx := B.exec
  have hb := B.bytes
  have hr := B.returns
  have hts := atoms_spec (ws := wsX10_gatherTags) B.pre
  have hown : s.vm.findClass RX10 = some m.cls := findClass_of_methodNamed B.named
  have hlocks := B.notSynchronized
  subst hsz
  have hD := hD0.self (sz := s.heap.size)
  generalize hAe : va_A (wdX10_gatherTags cyI cyZ cyJ cyB cyO h_x h_tg h_cr h_la h_sp a_x_splitRow h_tp h_tx h_fr h_se h_od h_kn a_x_sheets a_tg_numbers a_tg_strengths a_tg_silent a_cr_numbers x_n x_blocker x_blockerBits x_tornBy tg_size tg_numbers tg_strengths tg_silent cr_size cr_n cr_blockerBits cr_blocker cr_tagsHeard cr_seemingHeard cr_ones cr_zeros cr_numbers h_la h_sp) s.heap.size = A at hD ⊢
  have hA : ∀ q : Nat, s.heap.size ≤ q → A q := fun q h => by rw [← hAe]; exact Or.inr h
  have hS : va_S A s.heap s.heap [] := va_S.rf
  have hq := px_QWe (v := none) (D := (dC, dI)) (w1 := (wdX10_gatherTags cyI cyZ cyJ cyB cyO h_x h_tg h_cr h_la h_sp a_x_splitRow h_tp h_tx h_fr h_se h_od h_kn a_x_sheets a_tg_numbers a_tg_strengths a_tg_silent a_cr_numbers x_n x_blocker x_blockerBits x_tornBy tg_size tg_numbers tg_strengths tg_silent out.1 out.2.1 out.2.2.1 out.2.2.2.1 cr_tagsHeard cr_seemingHeard cr_ones cr_zeros out.2.2.2.2 h_la h_sp)) (st := s) hAe
  generalize px_QW none (dC, dI) (wdX10_gatherTags cyI cyZ cyJ cyB cyO h_x h_tg h_cr h_la h_sp a_x_splitRow h_tp h_tx h_fr h_se h_od h_kn a_x_sheets a_tg_numbers a_tg_strengths a_tg_silent a_cr_numbers x_n x_blocker x_blockerBits x_tornBy tg_size tg_numbers tg_strengths tg_silent cr_size cr_n cr_blockerBits cr_blocker cr_tagsHeard cr_seemingHeard cr_ones cr_zeros cr_numbers h_la h_sp) (wdX10_gatherTags cyI cyZ cyJ cyB cyO h_x h_tg h_cr h_la h_sp a_x_splitRow h_tp h_tx h_fr h_se h_od h_kn a_x_sheets a_tg_numbers a_tg_strengths a_tg_silent a_cr_numbers x_n x_blocker x_blockerBits x_tornBy tg_size tg_numbers tg_strengths tg_silent out.1 out.2.1 out.2.2.1 out.2.2.2.1 cr_tagsHeard cr_seemingHeard cr_ones cr_zeros out.2.2.2.2 h_la h_sp) s.heap.size = Qc at hq ⊢
  have hQ : ∀ (H : Heap) (locs : List Loc) (pc : Nat) (ls : Array Slot), va_P (dC, dI) vwCl (wdX10_gatherTags cyI cyZ cyJ cyB cyO h_x h_tg h_cr h_la h_sp a_x_splitRow h_tp h_tx h_fr h_se h_od h_kn a_x_sheets a_tg_numbers a_tg_strengths a_tg_silent a_cr_numbers x_n x_blocker x_blockerBits x_tornBy tg_size tg_numbers tg_strengths tg_silent out.1 out.2.1 out.2.2.1 out.2.2.2.1 cr_tagsHeard cr_seemingHeard cr_ones cr_zeros out.2.2.2.2 h_la h_sp) H → va_D A (wdX10_gatherTags cyI cyZ cyJ cyB cyO h_x h_tg h_cr h_la h_sp a_x_splitRow h_tp h_tx h_fr h_se h_od h_kn a_x_sheets a_tg_numbers a_tg_strengths a_tg_silent a_cr_numbers x_n x_blocker x_blockerBits x_tornBy tg_size tg_numbers tg_strengths tg_silent out.1 out.2.1 out.2.2.1 out.2.2.2.1 cr_tagsHeard cr_seemingHeard cr_ones cr_zeros out.2.2.2.2 h_la h_sp) → va_S A s.heap H locs → decode cX10_gatherTags pc = .ok (.return_, 1) → W p l e ({ frames := 1, cells := 0, slots := 0, locals := 21 } : Room) s m (([.ref h_x] : List Value).toArray) below meth c H locs 0 0 (MQ below Qc (([.ref h_x] : List Value).toArray) s 0 0 A) (F0 m pc ls []) := fun H locs pc ls hP hD hS hd => W.vret hx hb hr (fun t ht hW => hq _ t (by rw [ht]; exact hP) hD (hS.F ht)) hS.2.2 hd
  generalize MQ below Qc (([.ref h_x] : List Value).toArray) s 0 0 A = Q at hQ ⊢
  have hl := lv_entry [.ref h_x] (n := 2) (Nat.le_of_ble_eq_true rfl)
  rw [lg_entry_eq]
  generalize (lg_sl [.ref h_x] ++ List.replicate (2 - (lg_sl [.ref h_x]).length) Slot.unset).toArray = ls at hl ⊢
  have hl : lv_has ls 2 [(0, .ref h_x)] := hl
  unfold pX10_gatherTags at hp
  refine lv_aload_n hx hb dX10_gatherTags_0 rfl (lv_at hl 0 rfl) ?_
  refine va_get (D := (dC, dI)) (ci := 10) (v := .ref h_cr) (C := RX10) (T := TX10) (N := 16) hx hb hts fX10_gatherTags_X10 hown hK hP 0 rfl rfl 5 (by decide) (hts _ kX10_gatherTags_1) (fun _ h9 => h9) rfl dX10_gatherTags_1 ?_
  refine lv_aload_n hx hb dX10_gatherTags_4 rfl (lv_at hl 0 rfl) ?_
  refine va_get (D := (dC, dI)) (ci := 10) (v := .int x_n) (C := RX10) (T := TX10) (N := 16) hx hb hts fX10_gatherTags_X10 hown hK hP 0 rfl rfl 0 (by decide) (hts _ kX10_gatherTags_2) (fun _ h9 => h9) rfl dX10_gatherTags_5 ?_
  obtain ⟨o_1, ho_1, hp⟩ := px_b_at hp
  refine px_callWv (wc := (wdX0_clear cyI cyZ cyJ cyB cyO h_cr a_cr_numbers cr_size cr_n cr_blockerBits cr_blocker cr_tagsHeard cr_seemingHeard cr_ones cr_zeros cr_numbers)) (wr := [(h_x, .inr (10, [.int x_n, .int x_blocker, .int x_blockerBits, .int x_tornBy, .ref h_tg, .ref h_cr, .ref h_la, .ref h_sp, .ref a_x_splitRow, .ref h_tp, .ref h_tx, .ref h_fr, .ref h_se, .ref h_od, .ref h_kn, .ref a_x_sheets])), (h_tg, .inr (6, [.ref a_tg_numbers, .ref a_tg_strengths, .ref a_tg_silent, .int tg_size])), (a_tg_numbers, .inl (cyI, 16, .inl tg_numbers)), (a_tg_strengths, .inl (cyI, 16, .inl tg_strengths)), (a_tg_silent, .inl (cyZ, 16, .inl tg_silent))]) (w1 := (wdX0_clear cyI cyZ cyJ cyB cyO h_cr a_cr_numbers o_1.1 o_1.2.1 o_1.2.2 cr_blocker cr_tagsHeard cr_seemingHeard cr_ones cr_zeros cr_numbers)) (ws2 := (wdX10_gatherTags cyI cyZ cyJ cyB cyO h_x h_tg h_cr h_la h_sp a_x_splitRow h_tp h_tx h_fr h_se h_od h_kn a_x_sheets a_tg_numbers a_tg_strengths a_tg_silent a_cr_numbers x_n x_blocker x_blockerBits x_tornBy tg_size tg_numbers tg_strengths tg_silent o_1.1 o_1.2.1 o_1.2.2 cr_blocker cr_tagsHeard cr_seemingHeard cr_ones cr_zeros cr_numbers h_la h_sp)) (va_runV (As := [.int x_n]) (rest := []) ⟨hx, hb, hml, hown, hts⟩ (ccX0_clear l dC dI cyI cyZ cyJ cyB cyO _ h_cr a_cr_numbers cr_size cr_n cr_blockerBits cr_blocker cr_tagsHeard cr_seemingHeard cr_ones cr_zeros cr_numbers x_n o_1 ho_1) (cwV 1 hts gX10_gatherTags_X0_clear rfl rfl rfl hvX0_clear ⟨Nat.le_of_ble_eq_true rfl, Nat.le_of_ble_eq_true rfl⟩) (px_preWV (wc := (wdX0_clear cyI cyZ cyJ cyB cyO h_cr a_cr_numbers cr_size cr_n cr_blockerBits cr_blocker cr_tagsHeard cr_seemingHeard cr_ones cr_zeros cr_numbers)) (ci := 0) (q0 := 5) hK hN hP hD [5, 6] (by decide) rfl rfl rfl) rfl rfl hl.1 rfl (lv_room (Nat.le_of_ble_eq_true rfl)) dX10_gatherTags_8 ⟨Nat.zero_le _, Nat.zero_le _⟩) hP hD hS hA [5, 6] [0, 1, 2, 3, 4] [0, 1, 2, 3, 4, 5, 6] rfl rfl (by decide) (by decide) (by decide) rfl (fun H locs hP hD hS => ?_)
  refine lv_iconst (v := (0 : Int32)) hx hb dX10_gatherTags_11 (by decide) ?_
  refine lv_istore_n (lv' := [(1, .int (0 : Int32)), (0, .ref h_x)]) hx hb dX10_gatherTags_12 rfl hl (by decide) rfl (fun ls hl => ?_)
  exact lcX10_gatherTags_13 dC dI cyI cyZ cyJ cyB cyO h_x h_tg h_cr h_la h_sp a_x_splitRow h_tp h_tx h_fr h_se h_od h_kn a_x_sheets a_tg_numbers a_tg_strengths a_tg_silent a_cr_numbers x_n x_blocker x_blockerBits x_tornBy tg_size tg_numbers tg_strengths tg_silent cr_size cr_n cr_blockerBits cr_blocker cr_tagsHeard cr_seemingHeard cr_ones cr_zeros cr_numbers out hx hb hml hts hown hK hN hA hQ px_FU (0 : Int32) o_1.1 o_1.2.1 o_1.2.2 cr_blocker cr_numbers _ _ ls hp hP hD hS (lv_sub hl [1, 0] rfl)
/-! TagReader.ask(III)I -/
theorem hvX10_ask : yX10_ask.cls = RX10 ∧ yX10_ask.cls ≠ "java/lang/invoke/MethodHandle" ∧ yX10_ask.cls ≠ "java/lang/invoke/VarHandle" ∧ (parseMethodDescriptor yX10_ask.desc).map (fun d => d.parameters.length) = some 3 := by decide +kernel
theorem fX10_ask_X10 : ∀ w ∈ u_ws RX10 TX10 16, w ∈ wsX10_ask := fun _ h => List.mem_cons_of_mem _ (List.mem_append_left _ (List.mem_append_left _ (List.mem_append_right _ h)))
theorem kX10_ask_1 : (.fieldLink RX10 7 "TagReader" "n" "I" : Cond) ∈ wsX10_ask := List.mem_of_getElem? (i := 1) rfl
theorem kX10_ask_2 : (.fieldLink RX10 32 "TagReader" "crowd" "LTagReader$Crowd;" : Cond) ∈ wsX10_ask := List.mem_of_getElem? (i := 2) rfl
theorem fX10_ask_X0 : ∀ w ∈ u_ws RX0 TX0 9, w ∈ wsX10_ask := fun _ h => List.mem_cons_of_mem _ (List.mem_append_left _ (List.mem_append_right _ h))
theorem kX10_ask_3 : (.fieldLink RX10 150 "TagReader$Crowd" "tagsHeard" "I" : Cond) ∈ wsX10_ask := List.mem_of_getElem? (i := 3) rfl
theorem kX10_ask_4 : (.fieldLink RX10 153 "TagReader$Crowd" "seemingHeard" "I" : Cond) ∈ wsX10_ask := List.mem_of_getElem? (i := 4) rfl
theorem kX10_ask_5 : (.fieldLink RX10 156 "TagReader$Crowd" "ones" "I" : Cond) ∈ wsX10_ask := List.mem_of_getElem? (i := 5) rfl
theorem kX10_ask_6 : (.fieldLink RX10 159 "TagReader$Crowd" "zeros" "I" : Cond) ∈ wsX10_ask := List.mem_of_getElem? (i := 6) rfl
set_option maxHeartbeats 4000000 in
set_option maxRecDepth 100000 in
theorem ccX10_ask (l : Launch) (dC : Nat → ClassId) (dI : Nat → Nat → Nat) (cyI cyZ cyJ cyB cyO : ClassId) (sz : Nat) (h_x h_tg h_cr h_la h_sp a_x_splitRow h_tp h_tx h_fr h_se h_od h_kn a_x_sheets a_tg_numbers a_tg_strengths a_tg_silent a_cr_numbers : Nat) (x_n : Int32) (x_blocker : Int32) (x_blockerBits : Int32) (x_tornBy : Int32) (tg_size : Int32) (tg_numbers : Nat → Int32) (tg_strengths : Nat → Int32) (tg_silent : Nat → Int32) (cr_size : Int32) (cr_n : Int32) (cr_blockerBits : Int32) (cr_blocker : Int32) (cr_tagsHeard : Int32) (cr_seemingHeard : Int32) (cr_ones : Int32) (cr_zeros : Int32) (cr_numbers : Nat → Int32) (v1 : Int32) (v2 : Int32) (v3 : Int32) (out : Int32 × Int32 × Int32 × Int32 × Int32 × Int32 × Int32 × Int32 × Int32 × (Nat → Int32)) (hp : pX10_ask v1 v2 v3 x_n x_blocker x_blockerBits tg_size tg_numbers tg_silent cr_size cr_n cr_blockerBits cr_blocker cr_tagsHeard cr_seemingHeard cr_ones cr_zeros cr_numbers = some out) : Met l yX10_ask wsX10_ask ({ frames := 3, cells := 0, slots := 0, locals := 75 } : Room) (px_PW (dC, dI) (px_TY cyI cyZ cyJ cyB cyO) [.ref h_x, .int v1, .int v2, .int v3] (wdX10_ask cyI cyZ cyJ cyB cyO h_x h_tg h_cr h_la h_sp a_x_splitRow h_tp h_tx h_fr h_se h_od h_kn a_x_sheets a_tg_numbers a_tg_strengths a_tg_silent a_cr_numbers x_n x_blocker x_blockerBits x_tornBy tg_size tg_numbers tg_strengths tg_silent cr_size cr_n cr_blockerBits cr_blocker cr_tagsHeard cr_seemingHeard cr_ones cr_zeros cr_numbers h_la h_sp) sz) (px_QW (some (.int out.1)) (dC, dI) (wdX10_ask cyI cyZ cyJ cyB cyO h_x h_tg h_cr h_la h_sp a_x_splitRow h_tp h_tx h_fr h_se h_od h_kn a_x_sheets a_tg_numbers a_tg_strengths a_tg_silent a_cr_numbers x_n x_blocker x_blockerBits x_tornBy tg_size tg_numbers tg_strengths tg_silent cr_size cr_n cr_blockerBits cr_blocker cr_tagsHeard cr_seemingHeard cr_ones cr_zeros cr_numbers h_la h_sp) (wdX10_ask cyI cyZ cyJ cyB cyO h_x h_tg h_cr h_la h_sp a_x_splitRow h_tp h_tx h_fr h_se h_od h_kn a_x_sheets a_tg_numbers a_tg_strengths a_tg_silent a_cr_numbers x_n x_blocker x_blockerBits x_tornBy tg_size tg_numbers tg_strengths tg_silent out.2.1 out.2.2.1 out.2.2.2.1 out.2.2.2.2.1 out.2.2.2.2.2.1 out.2.2.2.2.2.2.1 out.2.2.2.2.2.2.2.1 out.2.2.2.2.2.2.2.2.1 out.2.2.2.2.2.2.2.2.2 h_la h_sp) sz) 0 0 (va_A (wdX10_ask cyI cyZ cyJ cyB cyO h_x h_tg h_cr h_la h_sp a_x_splitRow h_tp h_tx h_fr h_se h_od h_kn a_x_sheets a_tg_numbers a_tg_strengths a_tg_silent a_cr_numbers x_n x_blocker x_blockerBits x_tornBy tg_size tg_numbers tg_strengths tg_silent cr_size cr_n cr_blockerBits cr_blocker cr_tagsHeard cr_seemingHeard cr_ones cr_zeros cr_numbers h_la h_sp) sz) := by
  refine Met.ofW (cc := cX10_ask) (maxL := 4) (ret := (some .int)) (by decide) rfl ?_
  intro p e s m args below meth c s₁ B hml hv
  obtain ⟨rfl, hsz, hP, hK, hD0, hN⟩ := hv
  have hx := B.exec
  have hb := B.bytes
  have hr := B.returns
  have hts := atoms_spec (ws := wsX10_ask) B.pre
  have hown : s.vm.findClass RX10 = some m.cls := findClass_of_methodNamed B.named
  have hlocks := B.notSynchronized
  subst hsz
  have hD := hD0.self (sz := s.heap.size)
  generalize hAe : va_A (wdX10_ask cyI cyZ cyJ cyB cyO h_x h_tg h_cr h_la h_sp a_x_splitRow h_tp h_tx h_fr h_se h_od h_kn a_x_sheets a_tg_numbers a_tg_strengths a_tg_silent a_cr_numbers x_n x_blocker x_blockerBits x_tornBy tg_size tg_numbers tg_strengths tg_silent cr_size cr_n cr_blockerBits cr_blocker cr_tagsHeard cr_seemingHeard cr_ones cr_zeros cr_numbers h_la h_sp) s.heap.size = A at hD ⊢
  have hA : ∀ q : Nat, s.heap.size ≤ q → A q := fun q h => by rw [← hAe]; exact Or.inr h
  have hS : va_S A s.heap s.heap [] := va_S.rf
  have hq := px_QWe (v := (some (.int out.1))) (D := (dC, dI)) (w1 := (wdX10_ask cyI cyZ cyJ cyB cyO h_x h_tg h_cr h_la h_sp a_x_splitRow h_tp h_tx h_fr h_se h_od h_kn a_x_sheets a_tg_numbers a_tg_strengths a_tg_silent a_cr_numbers x_n x_blocker x_blockerBits x_tornBy tg_size tg_numbers tg_strengths tg_silent out.2.1 out.2.2.1 out.2.2.2.1 out.2.2.2.2.1 out.2.2.2.2.2.1 out.2.2.2.2.2.2.1 out.2.2.2.2.2.2.2.1 out.2.2.2.2.2.2.2.2.1 out.2.2.2.2.2.2.2.2.2 h_la h_sp)) (st := s) hAe
  generalize px_QW (some (.int out.1)) (dC, dI) (wdX10_ask cyI cyZ cyJ cyB cyO h_x h_tg h_cr h_la h_sp a_x_splitRow h_tp h_tx h_fr h_se h_od h_kn a_x_sheets a_tg_numbers a_tg_strengths a_tg_silent a_cr_numbers x_n x_blocker x_blockerBits x_tornBy tg_size tg_numbers tg_strengths tg_silent cr_size cr_n cr_blockerBits cr_blocker cr_tagsHeard cr_seemingHeard cr_ones cr_zeros cr_numbers h_la h_sp) (wdX10_ask cyI cyZ cyJ cyB cyO h_x h_tg h_cr h_la h_sp a_x_splitRow h_tp h_tx h_fr h_se h_od h_kn a_x_sheets a_tg_numbers a_tg_strengths a_tg_silent a_cr_numbers x_n x_blocker x_blockerBits x_tornBy tg_size tg_numbers tg_strengths tg_silent out.2.1 out.2.2.1 out.2.2.2.1 out.2.2.2.2.1 out.2.2.2.2.2.1 out.2.2.2.2.2.2.1 out.2.2.2.2.2.2.2.1 out.2.2.2.2.2.2.2.2.1 out.2.2.2.2.2.2.2.2.2 h_la h_sp) s.heap.size = Qc at hq ⊢
  have hQ : ∀ (H : Heap) (locs : List Loc) (pc : Nat) (ls : Array Slot), va_P (dC, dI) vwCl (wdX10_ask cyI cyZ cyJ cyB cyO h_x h_tg h_cr h_la h_sp a_x_splitRow h_tp h_tx h_fr h_se h_od h_kn a_x_sheets a_tg_numbers a_tg_strengths a_tg_silent a_cr_numbers x_n x_blocker x_blockerBits x_tornBy tg_size tg_numbers tg_strengths tg_silent out.2.1 out.2.2.1 out.2.2.2.1 out.2.2.2.2.1 out.2.2.2.2.2.1 out.2.2.2.2.2.2.1 out.2.2.2.2.2.2.2.1 out.2.2.2.2.2.2.2.2.1 out.2.2.2.2.2.2.2.2.2 h_la h_sp) H → va_D A (wdX10_ask cyI cyZ cyJ cyB cyO h_x h_tg h_cr h_la h_sp a_x_splitRow h_tp h_tx h_fr h_se h_od h_kn a_x_sheets a_tg_numbers a_tg_strengths a_tg_silent a_cr_numbers x_n x_blocker x_blockerBits x_tornBy tg_size tg_numbers tg_strengths tg_silent out.2.1 out.2.2.1 out.2.2.2.1 out.2.2.2.2.1 out.2.2.2.2.2.1 out.2.2.2.2.2.2.1 out.2.2.2.2.2.2.2.1 out.2.2.2.2.2.2.2.2.1 out.2.2.2.2.2.2.2.2.2 h_la h_sp) → va_S A s.heap H locs → decode cX10_ask pc = .ok (.ireturn, 1) → W p l e ({ frames := 3, cells := 0, slots := 0, locals := 75 } : Room) s m (([.ref h_x, .int v1, .int v2, .int v3] : List Value).toArray) below meth c H locs 0 0 (MQ below Qc (([.ref h_x, .int v1, .int v2, .int v3] : List Value).toArray) s 0 0 A) (F0 m pc ls [.int out.1]) := fun H locs pc ls hP hD hS hd => W.iret hx hb hr (fun t ht hW => hq _ t (by rw [ht]; exact hP) hD (hS.F ht)) hS.2.2 hd
  generalize MQ below Qc (([.ref h_x, .int v1, .int v2, .int v3] : List Value).toArray) s 0 0 A = Q at hQ ⊢
  have hl := lv_entry [.ref h_x, .int v1, .int v2, .int v3] (n := 4) (Nat.le_of_ble_eq_true rfl)
  rw [lg_entry_eq]
  generalize (lg_sl [.ref h_x, .int v1, .int v2, .int v3] ++ List.replicate (4 - (lg_sl [.ref h_x, .int v1, .int v2, .int v3]).length) Slot.unset).toArray = ls at hl ⊢
  have hl : lv_has ls 4 [(0, .ref h_x), (1, .int v1), (2, .int v2), (3, .int v3)] := hl
  unfold pX10_ask at hp
  refine lv_iload_n hx hb dX10_ask_0 rfl (lv_at hl 1 rfl) ?_
  refine lv_iconst (v := (0 : Int32)) hx hb dX10_ask_1 (by decide) ?_
  refine lv_aload_n hx hb dX10_ask_2 rfl (lv_at hl 0 rfl) ?_
  refine va_get (D := (dC, dI)) (ci := 10) (v := .int x_n) (C := RX10) (T := TX10) (N := 16) hx hb hts fX10_ask_X10 hown hK hP 0 rfl rfl 0 (by decide) (hts _ kX10_ask_1) (fun _ h9 => h9) rfl dX10_ask_3 ?_
  obtain ⟨o_1, ho_1, hp⟩ := px_b_at hp
  refine px_callR (v := .int o_1) (va_runS (As := [.int v1, .int (0 : Int32), .int x_n]) (rest := []) ⟨hx, hb, hml, hown, hts⟩ (ccX10_within l dC dI cyI cyZ cyJ cyB cyO v1 (0 : Int32) x_n o_1 ho_1) (va_cwS 3 hts gX10_ask_X10_within rfl rfl rfl hsX10_within ⟨Nat.le_of_ble_eq_true rfl, Nat.le_of_ble_eq_true rfl⟩) (px_preR (wc := []) hK hN hP [] rfl) rfl rfl hl.1 rfl (lv_room (Nat.le_of_ble_eq_true rfl)) dX10_ask_6 ⟨Nat.zero_le _, Nat.zero_le _⟩) ?_
  refine lv_if_eq (tgt := 33) hx hb dX10_ask_9 (by decide) (fun c_2 => ?_) (fun c_2 => ?_)
  · have hp := px_t hp c_2
    refine lv_iconst (v := (-1 : Int32)) hx hb dX10_ask_33 (by decide) ?_
    have ho := px_s hp
    subst ho
    exact hQ _ _ _ _ hP hD hS dX10_ask_34
  · have hp := px_f hp c_2
    refine lv_iload_n hx hb dX10_ask_12 rfl (lv_at hl 2 rfl) ?_
    refine lv_iconst (v := (0 : Int32)) hx hb dX10_ask_13 (by decide) ?_
    refine lv_iload_n hx hb dX10_ask_14 rfl (lv_at hl 1 rfl) ?_
    obtain ⟨o_3, ho_3, hp⟩ := px_b_at hp
    refine px_callR (v := .int o_3) (va_runS (As := [.int v1]) (rest := [.int (0 : Int32), .int v2]) ⟨hx, hb, hml, hown, hts⟩ (ccX10_lowBits l dC dI cyI cyZ cyJ cyB cyO v1 o_3 ho_3) (va_cwS 1 hts gX10_ask_X10_lowBits rfl rfl rfl hsX10_lowBits ⟨Nat.le_of_ble_eq_true rfl, Nat.le_of_ble_eq_true rfl⟩) (px_preR (wc := []) hK hN hP [] rfl) rfl rfl hl.1 rfl (lv_room (Nat.le_of_ble_eq_true rfl)) dX10_ask_15 ⟨Nat.zero_le _, Nat.zero_le _⟩) ?_
    obtain ⟨o_4, ho_4, hp⟩ := px_b_at hp
    refine px_callR (v := .int o_4) (va_runS (As := [.int v2, .int (0 : Int32), .int o_3]) (rest := []) ⟨hx, hb, hml, hown, hts⟩ (ccX10_within l dC dI cyI cyZ cyJ cyB cyO v2 (0 : Int32) o_3 o_4 ho_4) (va_cwS 3 hts gX10_ask_X10_within rfl rfl rfl hsX10_within ⟨Nat.le_of_ble_eq_true rfl, Nat.le_of_ble_eq_true rfl⟩) (px_preR (wc := []) hK hN hP [] rfl) rfl rfl hl.1 rfl (lv_room (Nat.le_of_ble_eq_true rfl)) dX10_ask_18 ⟨Nat.zero_le _, Nat.zero_le _⟩) ?_
    refine lv_if_eq (tgt := 33) hx hb dX10_ask_21 (by decide) (fun c_5 => ?_) (fun c_5 => ?_)
    · have hp := px_t hp c_5
      refine lv_iconst (v := (-1 : Int32)) hx hb dX10_ask_33 (by decide) ?_
      have ho := px_s hp
      subst ho
      exact hQ _ _ _ _ hP hD hS dX10_ask_34
    · have hp := px_f hp c_5
      refine lv_iload_n hx hb dX10_ask_24 rfl (lv_at hl 3 rfl) ?_
      refine lv_iconst (v := (0 : Int32)) hx hb dX10_ask_25 (by decide) ?_
      refine lv_iconst (v := (2 : Int32)) hx hb dX10_ask_26 (by decide) ?_
      obtain ⟨o_6, ho_6, hp⟩ := px_b_at hp
      refine px_callR (v := .int o_6) (va_runS (As := [.int v3, .int (0 : Int32), .int (2 : Int32)]) (rest := []) ⟨hx, hb, hml, hown, hts⟩ (ccX10_within l dC dI cyI cyZ cyJ cyB cyO v3 (0 : Int32) (2 : Int32) o_6 ho_6) (va_cwS 3 hts gX10_ask_X10_within rfl rfl rfl hsX10_within ⟨Nat.le_of_ble_eq_true rfl, Nat.le_of_ble_eq_true rfl⟩) (px_preR (wc := []) hK hN hP [] rfl) rfl rfl hl.1 rfl (lv_room (Nat.le_of_ble_eq_true rfl)) dX10_ask_27 ⟨Nat.zero_le _, Nat.zero_le _⟩) ?_
      refine lv_if_ne (tgt := 35) hx hb dX10_ask_30 (by decide) (fun c_7 => ?_) (fun c_7 => ?_)
      · have hp := px_f hp c_7
        refine lv_aload_n hx hb dX10_ask_35 rfl (lv_at hl 0 rfl) ?_
        obtain ⟨o_8, ho_8, hp⟩ := px_b_at hp
        refine px_callWv (wc := (wdX10_gatherTags cyI cyZ cyJ cyB cyO h_x h_tg h_cr h_la h_sp a_x_splitRow h_tp h_tx h_fr h_se h_od h_kn a_x_sheets a_tg_numbers a_tg_strengths a_tg_silent a_cr_numbers x_n x_blocker x_blockerBits x_tornBy tg_size tg_numbers tg_strengths tg_silent cr_size cr_n cr_blockerBits cr_blocker cr_tagsHeard cr_seemingHeard cr_ones cr_zeros cr_numbers h_la h_sp)) (wr := []) (w1 := (wdX10_gatherTags cyI cyZ cyJ cyB cyO h_x h_tg h_cr h_la h_sp a_x_splitRow h_tp h_tx h_fr h_se h_od h_kn a_x_sheets a_tg_numbers a_tg_strengths a_tg_silent a_cr_numbers x_n x_blocker x_blockerBits x_tornBy tg_size tg_numbers tg_strengths tg_silent o_8.1 o_8.2.1 o_8.2.2.1 o_8.2.2.2.1 cr_tagsHeard cr_seemingHeard cr_ones cr_zeros o_8.2.2.2.2 h_la h_sp)) (ws2 := (wdX10_ask cyI cyZ cyJ cyB cyO h_x h_tg h_cr h_la h_sp a_x_splitRow h_tp h_tx h_fr h_se h_od h_kn a_x_sheets a_tg_numbers a_tg_strengths a_tg_silent a_cr_numbers x_n x_blocker x_blockerBits x_tornBy tg_size tg_numbers tg_strengths tg_silent o_8.1 o_8.2.1 o_8.2.2.1 o_8.2.2.2.1 cr_tagsHeard cr_seemingHeard cr_ones cr_zeros o_8.2.2.2.2 h_la h_sp)) (va_runV (As := []) (rest := []) ⟨hx, hb, hml, hown, hts⟩ (ccX10_gatherTags l dC dI cyI cyZ cyJ cyB cyO _ h_x h_tg h_cr h_la h_sp a_x_splitRow h_tp h_tx h_fr h_se h_od h_kn a_x_sheets a_tg_numbers a_tg_strengths a_tg_silent a_cr_numbers x_n x_blocker x_blockerBits x_tornBy tg_size tg_numbers tg_strengths tg_silent cr_size cr_n cr_blockerBits cr_blocker cr_tagsHeard cr_seemingHeard cr_ones cr_zeros cr_numbers o_8 ho_8) (cwV 0 hts gX10_ask_X10_gatherTags rfl rfl rfl hvX10_gatherTags ⟨Nat.le_of_ble_eq_true rfl, Nat.le_of_ble_eq_true rfl⟩) (px_preWV (wc := (wdX10_gatherTags cyI cyZ cyJ cyB cyO h_x h_tg h_cr h_la h_sp a_x_splitRow h_tp h_tx h_fr h_se h_od h_kn a_x_sheets a_tg_numbers a_tg_strengths a_tg_silent a_cr_numbers x_n x_blocker x_blockerBits x_tornBy tg_size tg_numbers tg_strengths tg_silent cr_size cr_n cr_blockerBits cr_blocker cr_tagsHeard cr_seemingHeard cr_ones cr_zeros cr_numbers h_la h_sp)) (ci := 10) (q0 := 0) hK hN hP hD [0, 1, 2, 3, 4, 5, 6] (by decide) rfl rfl rfl) rfl rfl hl.1 rfl (lv_room (Nat.le_of_ble_eq_true rfl)) dX10_ask_36 ⟨Nat.zero_le _, Nat.zero_le _⟩) hP hD hS hA [0, 1, 2, 3, 4, 5, 6] [] [0, 1, 2, 3, 4, 5, 6] rfl rfl (by decide) (by decide) (by decide) rfl (fun H locs hP hD hS => ?_)
        refine lv_aload_n hx hb dX10_ask_39 rfl (lv_at hl 0 rfl) ?_
        refine va_get (D := (dC, dI)) (ci := 10) (v := .ref h_cr) (C := RX10) (T := TX10) (N := 16) hx hb hts fX10_ask_X10 hown hK hP 0 rfl rfl 5 (by decide) (hts _ kX10_ask_2) (fun _ h9 => h9) rfl dX10_ask_40 ?_
        refine lv_iload_n hx hb dX10_ask_43 rfl (lv_at hl 1 rfl) ?_
        refine lv_iload_n hx hb dX10_ask_44 rfl (lv_at hl 2 rfl) ?_
        obtain ⟨o_9, ho_9, hp⟩ := px_b_at hp
        refine px_callWv (wc := (wdX0_listen cyI cyZ cyJ cyB cyO h_cr a_cr_numbers o_8.1 o_8.2.1 o_8.2.2.1 o_8.2.2.2.1 cr_tagsHeard cr_seemingHeard cr_ones cr_zeros o_8.2.2.2.2)) (wr := [(h_x, .inr (10, [.int x_n, .int x_blocker, .int x_blockerBits, .int x_tornBy, .ref h_tg, .ref h_cr, .ref h_la, .ref h_sp, .ref a_x_splitRow, .ref h_tp, .ref h_tx, .ref h_fr, .ref h_se, .ref h_od, .ref h_kn, .ref a_x_sheets])), (h_tg, .inr (6, [.ref a_tg_numbers, .ref a_tg_strengths, .ref a_tg_silent, .int tg_size])), (a_tg_numbers, .inl (cyI, 16, .inl tg_numbers)), (a_tg_strengths, .inl (cyI, 16, .inl tg_strengths)), (a_tg_silent, .inl (cyZ, 16, .inl tg_silent))]) (w1 := (wdX0_listen cyI cyZ cyJ cyB cyO h_cr a_cr_numbers o_8.1 o_8.2.1 o_8.2.2.1 o_8.2.2.2.1 o_9.1 o_9.2.1 o_9.2.2.1 o_9.2.2.2 o_8.2.2.2.2)) (ws2 := (wdX10_ask cyI cyZ cyJ cyB cyO h_x h_tg h_cr h_la h_sp a_x_splitRow h_tp h_tx h_fr h_se h_od h_kn a_x_sheets a_tg_numbers a_tg_strengths a_tg_silent a_cr_numbers x_n x_blocker x_blockerBits x_tornBy tg_size tg_numbers tg_strengths tg_silent o_8.1 o_8.2.1 o_8.2.2.1 o_8.2.2.2.1 o_9.1 o_9.2.1 o_9.2.2.1 o_9.2.2.2 o_8.2.2.2.2 h_la h_sp)) (va_runV (As := [.int v1, .int v2]) (rest := []) ⟨hx, hb, hml, hown, hts⟩ (ccX0_listen l dC dI cyI cyZ cyJ cyB cyO _ h_cr a_cr_numbers o_8.1 o_8.2.1 o_8.2.2.1 o_8.2.2.2.1 cr_tagsHeard cr_seemingHeard cr_ones cr_zeros o_8.2.2.2.2 v1 v2 o_9 ho_9) (cwV 2 hts gX10_ask_X0_listen rfl rfl rfl hvX0_listen ⟨Nat.le_of_ble_eq_true rfl, Nat.le_of_ble_eq_true rfl⟩) (px_preWV (wc := (wdX0_listen cyI cyZ cyJ cyB cyO h_cr a_cr_numbers o_8.1 o_8.2.1 o_8.2.2.1 o_8.2.2.2.1 cr_tagsHeard cr_seemingHeard cr_ones cr_zeros o_8.2.2.2.2)) (ci := 0) (q0 := 5) hK hN hP hD [5, 6] (by decide) rfl rfl rfl) rfl rfl hl.1 rfl (lv_room (Nat.le_of_ble_eq_true rfl)) dX10_ask_45 ⟨Nat.zero_le _, Nat.zero_le _⟩) hP hD hS hA [5, 6] [0, 1, 2, 3, 4] [0, 1, 2, 3, 4, 5, 6] rfl rfl (by decide) (by decide) (by decide) rfl (fun H locs hP hD hS => ?_)
        refine lv_iload_n hx hb dX10_ask_48 rfl (lv_at hl 3 rfl) ?_
        by_cases c_10 : v3 = (0 : Int32)
        · have hp := px_t hp c_10
          refine lv_lookup (off := 27) (tgt := 76) hx hb dX10_ask_49 (by decide) (by rw [c_10]; decide) (by decide) ?_
          refine lv_aload_n hx hb dX10_ask_76 rfl (lv_at hl 0 rfl) ?_
          refine va_get (D := (dC, dI)) (ci := 10) (v := .ref h_cr) (C := RX10) (T := TX10) (N := 16) hx hb hts fX10_ask_X10 hown hK hP 0 rfl rfl 5 (by decide) (hts _ kX10_ask_2) (fun _ h9 => h9) rfl dX10_ask_77 ?_
          refine va_get (D := (dC, dI)) (ci := 0) (v := .int o_9.1) (C := RX0) (T := TX0) (N := 9) hx hb hts fX10_ask_X0 hown hK hP 5 rfl rfl 5 (by decide) (hts _ kX10_ask_3) (fun _ h9 => h9) rfl dX10_ask_80 ?_
          refine lv_aload_n hx hb dX10_ask_83 rfl (lv_at hl 0 rfl) ?_
          refine va_get (D := (dC, dI)) (ci := 10) (v := .ref h_cr) (C := RX10) (T := TX10) (N := 16) hx hb hts fX10_ask_X10 hown hK hP 0 rfl rfl 5 (by decide) (hts _ kX10_ask_2) (fun _ h9 => h9) rfl dX10_ask_84 ?_
          refine va_get (D := (dC, dI)) (ci := 0) (v := .int o_9.2.1) (C := RX0) (T := TX0) (N := 9) hx hb hts fX10_ask_X0 hown hK hP 5 rfl rfl 6 (by decide) (hts _ kX10_ask_4) (fun _ h9 => h9) rfl dX10_ask_87 ?_
          refine lv_iadd hx hb dX10_ask_90 ?_
          have ho := px_s hp
          subst ho
          exact hQ _ _ _ _ hP hD hS dX10_ask_91
        · have hp := px_f hp c_10
          by_cases c_11 : v3 = (1 : Int32)
          · have hp := px_t hp c_11
            refine lv_lookup (off := 43) (tgt := 92) hx hb dX10_ask_49 (by decide) (by rw [c_11]; decide) (by decide) ?_
            refine lv_aload_n hx hb dX10_ask_92 rfl (lv_at hl 0 rfl) ?_
            refine va_get (D := (dC, dI)) (ci := 10) (v := .ref h_cr) (C := RX10) (T := TX10) (N := 16) hx hb hts fX10_ask_X10 hown hK hP 0 rfl rfl 5 (by decide) (hts _ kX10_ask_2) (fun _ h9 => h9) rfl dX10_ask_93 ?_
            refine va_get (D := (dC, dI)) (ci := 0) (v := .int o_9.2.2.1) (C := RX0) (T := TX0) (N := 9) hx hb hts fX10_ask_X0 hown hK hP 5 rfl rfl 7 (by decide) (hts _ kX10_ask_5) (fun _ h9 => h9) rfl dX10_ask_96 ?_
            refine lv_aload_n hx hb dX10_ask_99 rfl (lv_at hl 0 rfl) ?_
            refine va_get (D := (dC, dI)) (ci := 10) (v := .ref h_cr) (C := RX10) (T := TX10) (N := 16) hx hb hts fX10_ask_X10 hown hK hP 0 rfl rfl 5 (by decide) (hts _ kX10_ask_2) (fun _ h9 => h9) rfl dX10_ask_100 ?_
            refine va_get (D := (dC, dI)) (ci := 0) (v := .int o_9.2.2.2) (C := RX0) (T := TX0) (N := 9) hx hb hts fX10_ask_X0 hown hK hP 5 rfl rfl 8 (by decide) (hts _ kX10_ask_6) (fun _ h9 => h9) rfl dX10_ask_103 ?_
            refine lv_iconst (v := (-1 : Int32)) hx hb dX10_ask_106 (by decide) ?_
            refine lv_ixor hx hb dX10_ask_107 ?_
            refine lv_iand hx hb dX10_ask_108 ?_
            have ho := px_s hp
            subst ho
            exact hQ _ _ _ _ hP hD hS dX10_ask_109
          · have hp := px_f hp c_11
            refine lv_lookup (off := 61) (tgt := 110) hx hb dX10_ask_49 (by decide) ((lv_osw c_10 (by decide)).trans ((lv_osw c_11 (by decide)).trans rfl)) (by decide) ?_
            refine lv_aload_n hx hb dX10_ask_110 rfl (lv_at hl 0 rfl) ?_
            refine va_get (D := (dC, dI)) (ci := 10) (v := .ref h_cr) (C := RX10) (T := TX10) (N := 16) hx hb hts fX10_ask_X10 hown hK hP 0 rfl rfl 5 (by decide) (hts _ kX10_ask_2) (fun _ h9 => h9) rfl dX10_ask_111 ?_
            obtain ⟨o_12, ho_12, hp⟩ := px_b_at hp
            refine px_callR (v := .int o_12) (va_runV (As := []) (rest := []) ⟨hx, hb, hml, hown, hts⟩ (ccX0_clashes l dC dI cyI cyZ cyJ cyB cyO h_cr a_cr_numbers o_8.1 o_8.2.1 o_8.2.2.1 o_8.2.2.2.1 o_9.1 o_9.2.1 o_9.2.2.1 o_9.2.2.2 o_8.2.2.2.2 o_12 ho_12) (cwV 0 hts gX10_ask_X0_clashes rfl rfl rfl hvX0_clashes ⟨Nat.le_of_ble_eq_true rfl, Nat.le_of_ble_eq_true rfl⟩) (px_preRV (wc := (wdX0_clashes cyI cyZ cyJ cyB cyO h_cr a_cr_numbers o_8.1 o_8.2.1 o_8.2.2.1 o_8.2.2.2.1 o_9.1 o_9.2.1 o_9.2.2.1 o_9.2.2.2 o_8.2.2.2.2)) (ci := 0) (q0 := 5) hK hN hP [5, 6] rfl rfl rfl) rfl rfl hl.1 rfl (lv_room (Nat.le_of_ble_eq_true rfl)) dX10_ask_114 ⟨Nat.zero_le _, Nat.zero_le _⟩) ?_
            have ho := px_s hp
            subst ho
            exact hQ _ _ _ _ hP hD hS dX10_ask_117
      · have hp := px_t hp c_7
        refine lv_iconst (v := (-1 : Int32)) hx hb dX10_ask_33 (by decide) ?_
        have ho := px_s hp
        subst ho
        exact hQ _ _ _ _ hP hD hS dX10_ask_34
