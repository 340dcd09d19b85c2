/-! TagReader.tree(I)I -/
def pX10_tree (v1 : Int32) (x_n : Int32) (x_blocker : Int32) (x_blockerBits : Int32) (tg_size : Int32) (tg_numbers : Nat → Int32) (tg_silent : Nat → Int32) (cr_size : Int32) (cr_n : Int32) (cr_blockerBits : Int32) (cr_blocker : Int32) (cr_tagsHeard : Int32) (cr_seemingHeard : Int32) (cr_ones : Int32) (cr_zeros : Int32) (cr_numbers : Nat → Int32) (sp_kept : Int32) (sp_waiting : Int32) (sp_counts : Nat → Int32) (sp_askedBits : Nat → Int32) (sp_askedBeginnings : Nat → Int32) (sp_waitingBits : Nat → Int32) (sp_waitingBeginnings : Nat → Int32) : Option (Int32 × (Nat → Int32) × Int32 × Int32 × Int32 × Int32 × Int32 × Int32 × Int32 × Int32 × (Nat → Int32) × Int32 × Int32 × (Nat → Int32) × (Nat → Int32) × (Nat → Int32) × (Nat → Int32) × (Nat → Int32) × Bool) := px_b (pX10_within v1 (0 : Int32) (1 : Int32)) (fun o_1 => (if o_1 = (0 : Int32) then some ((-1 : Int32), tg_silent, cr_size, cr_n, cr_blockerBits, cr_blocker, cr_tagsHeard, cr_seemingHeard, cr_ones, cr_zeros, cr_numbers, sp_kept, sp_waiting, sp_counts, sp_askedBits, sp_askedBeginnings, sp_waitingBits, sp_waitingBeginnings, false) else px_b (pX10_gatherTags x_n x_blocker x_blockerBits tg_size tg_numbers tg_silent cr_size cr_n cr_blockerBits cr_blocker cr_numbers) (fun o_3 => px_b (pX9_walk v1 o_3.1 o_3.2.1 o_3.2.2.1 o_3.2.2.2.1 o_3.2.2.2.2 sp_kept sp_waiting sp_counts sp_askedBits sp_askedBeginnings sp_waitingBits sp_waitingBeginnings cr_tagsHeard cr_seemingHeard cr_ones cr_zeros) (fun o_4 => (if o_4.1 = (0 : Int32) then some ((-6 : Int32), tg_silent, o_3.1, o_3.2.1, o_3.2.2.1, o_3.2.2.2.1, o_4.2.2.2.2.2.2.2.2.1, o_4.2.2.2.2.2.2.2.2.2.1, o_4.2.2.2.2.2.2.2.2.2.2.1, o_4.2.2.2.2.2.2.2.2.2.2.2, o_3.2.2.2.2, o_4.2.1, o_4.2.2.1, o_4.2.2.2.1, o_4.2.2.2.2.1, o_4.2.2.2.2.2.1, o_4.2.2.2.2.2.2.1, o_4.2.2.2.2.2.2.2.1, false) else px_b (pX6_silenceAll (1 : Int32) tg_size tg_silent) (fun o_6 => some ((o_4.2.2.2.1 (Int32.toNatClampNeg (0 : Int32))), o_6, o_3.1, o_3.2.1, o_3.2.2.1, o_3.2.2.2.1, o_4.2.2.2.2.2.2.2.2.1, o_4.2.2.2.2.2.2.2.2.2.1, o_4.2.2.2.2.2.2.2.2.2.2.1, o_4.2.2.2.2.2.2.2.2.2.2.2, o_3.2.2.2.2, o_4.2.1, o_4.2.2.1, o_4.2.2.2.1, o_4.2.2.2.2.1, o_4.2.2.2.2.2.1, o_4.2.2.2.2.2.2.1, o_4.2.2.2.2.2.2.2.1, true)))))))
abbrev wdX10_tree (cyI cyZ cyJ cyB cyO : ClassId) (h_x h_tg h_cr h_la h_sp a_x_splitRow h_tp h_tx h_fr h_se h_od h_kn a_x_sheets a_tg_numbers a_tg_strengths a_tg_silent a_cr_numbers a_sp_counts a_sp_askedBits a_sp_askedBeginnings a_sp_waitingBits a_sp_waitingBeginnings : Nat) (x_n : Int32) (x_blocker : Int32) (x_blockerBits : Int32) (x_tornBy : Int32) (tg_size : Int32) (tg_numbers : Nat → Int32) (tg_strengths : Nat → Int32) (tg_silent : Nat → Int32) (cr_size : Int32) (cr_n : Int32) (cr_blockerBits : Int32) (cr_blocker : Int32) (cr_tagsHeard : Int32) (cr_seemingHeard : Int32) (cr_ones : Int32) (cr_zeros : Int32) (cr_numbers : Nat → Int32) (sp_kept : Int32) (sp_waiting : Int32) (sp_counts : Nat → Int32) (sp_askedBits : Nat → Int32) (sp_askedBeginnings : Nat → Int32) (sp_waitingBits : Nat → Int32) (sp_waitingBeginnings : Nat → Int32) (r_la r_sp : Nat) : va_W := [(h_x, .inr (10, [.int x_n, .int x_blocker, .int x_blockerBits, .int x_tornBy, .ref h_tg, .ref h_cr, .ref (r_la), .ref (r_sp), .ref a_x_splitRow, .ref h_tp, .ref h_tx, .ref h_fr, .ref h_se, .ref h_od, .ref h_kn, .ref a_x_sheets])), (h_tg, .inr (6, [.ref a_tg_numbers, .ref a_tg_strengths, .ref a_tg_silent, .int tg_size])), (a_tg_numbers, .inl (cyI, 16, .inl tg_numbers)), (a_tg_strengths, .inl (cyI, 16, .inl tg_strengths)), (a_tg_silent, .inl (cyZ, 16, .inl tg_silent)), (h_cr, .inr (0, [.ref a_cr_numbers, .int cr_size, .int cr_n, .int cr_blockerBits, .int cr_blocker, .int cr_tagsHeard, .int cr_seemingHeard, .int cr_ones, .int cr_zeros])), (a_cr_numbers, .inl (cyI, 32, .inl cr_numbers)), (h_sp, .inr (9, [.ref a_sp_counts, .ref a_sp_askedBits, .ref a_sp_askedBeginnings, .int sp_kept, .ref a_sp_waitingBits, .ref a_sp_waitingBeginnings, .int sp_waiting])), (a_sp_counts, .inl (cyI, 5, .inl sp_counts)), (a_sp_askedBits, .inl (cyI, 64, .inl sp_askedBits)), (a_sp_askedBeginnings, .inl (cyI, 64, .inl sp_askedBeginnings)), (a_sp_waitingBits, .inl (cyI, 14, .inl sp_waitingBits)), (a_sp_waitingBeginnings, .inl (cyI, 14, .inl sp_waitingBeginnings))]
/-! TagReader.grown(I)I -/
def pX10_grown (v1 : Int32) (la_counts : Nat → Int32) : Option (Int32) := px_b (pX10_within v1 (0 : Int32) (4 : Int32)) (fun o_1 => (if o_1 = (0 : Int32) then some (-1 : Int32) else px_b (pX9_wasWalked la_counts) (fun o_3 => (if o_3 = (0 : Int32) then some (-2 : Int32) else px_i v1 5 (some (la_counts (Int32.toNatClampNeg v1)))))))
abbrev wdX10_grown (cyI cyZ cyJ cyB cyO : ClassId) (h_x h_tg h_cr h_la h_sp a_x_splitRow h_tp h_tx h_fr h_se h_od h_kn a_x_sheets a_la_counts a_la_askedBits a_la_askedBeginnings a_la_waitingBits a_la_waitingBeginnings : Nat) (x_n : Int32) (x_blocker : Int32) (x_blockerBits : Int32) (x_tornBy : Int32) (la_kept : Int32) (la_waiting : Int32) (la_counts : Nat → Int32) (la_askedBits : Nat → Int32) (la_askedBeginnings : Nat → Int32) (la_waitingBits : Nat → Int32) (la_waitingBeginnings : Nat → Int32) (r_la r_sp : Nat) : va_W := [(h_x, .inr (10, [.int x_n, .int x_blocker, .int x_blockerBits, .int x_tornBy, .ref h_tg, .ref h_cr, .ref (r_la), .ref (r_sp), .ref a_x_splitRow, .ref h_tp, .ref h_tx, .ref h_fr, .ref h_se, .ref h_od, .ref h_kn, .ref a_x_sheets])), (h_la, .inr (9, [.ref a_la_counts, .ref a_la_askedBits, .ref a_la_askedBeginnings, .int la_kept, .ref a_la_waitingBits, .ref a_la_waitingBeginnings, .int la_waiting])), (a_la_counts, .inl (cyI, 5, .inl la_counts)), (a_la_askedBits, .inl (cyI, 64, .inl la_askedBits)), (a_la_askedBeginnings, .inl (cyI, 64, .inl la_askedBeginnings)), (a_la_waitingBits, .inl (cyI, 14, .inl la_waitingBits)), (a_la_waitingBeginnings, .inl (cyI, 14, .inl la_waitingBeginnings))]
/-! TagReader.heard(II)I -/
def pX10_heard (v1 : Int32) (v2 : Int32) (la_kept : Int32) (la_askedBits : Nat → Int32) (la_askedBeginnings : Nat → Int32) : Option (Int32) := px_b (pX10_within v1 (0 : Int32) (la_kept - (1 : Int32))) (fun o_1 => (if o_1 = (0 : Int32) then some (-1 : Int32) else px_b (pX10_within v2 (0 : Int32) (1 : Int32)) (fun o_3 => (if o_3 = (0 : Int32) then some (-1 : Int32) else (if v2 = (0 : Int32) then px_i v1 64 (some (la_askedBits (Int32.toNatClampNeg v1))) else px_i v1 64 (some (la_askedBeginnings (Int32.toNatClampNeg v1))))))))
abbrev wdX10_heard (cyI cyZ cyJ cyB cyO : ClassId) (h_x h_tg h_cr h_la h_sp a_x_splitRow h_tp h_tx h_fr h_se h_od h_kn a_x_sheets a_la_counts a_la_askedBits a_la_askedBeginnings a_la_waitingBits a_la_waitingBeginnings : Nat) (x_n : Int32) (x_blocker : Int32) (x_blockerBits : Int32) (x_tornBy : Int32) (la_kept : Int32) (la_waiting : Int32) (la_counts : Nat → Int32) (la_askedBits : Nat → Int32) (la_askedBeginnings : Nat → Int32) (la_waitingBits : Nat → Int32) (la_waitingBeginnings : Nat → Int32) (r_la r_sp : Nat) : va_W := [(h_x, .inr (10, [.int x_n, .int x_blocker, .int x_blockerBits, .int x_tornBy, .ref h_tg, .ref h_cr, .ref (r_la), .ref (r_sp), .ref a_x_splitRow, .ref h_tp, .ref h_tx, .ref h_fr, .ref h_se, .ref h_od, .ref h_kn, .ref a_x_sheets])), (h_la, .inr (9, [.ref a_la_counts, .ref a_la_askedBits, .ref a_la_askedBeginnings, .int la_kept, .ref a_la_waitingBits, .ref a_la_waitingBeginnings, .int la_waiting])), (a_la_counts, .inl (cyI, 5, .inl la_counts)), (a_la_askedBits, .inl (cyI, 64, .inl la_askedBits)), (a_la_askedBeginnings, .inl (cyI, 64, .inl la_askedBeginnings)), (a_la_waitingBits, .inl (cyI, 14, .inl la_waitingBits)), (a_la_waitingBeginnings, .inl (cyI, 14, .inl la_waitingBeginnings))]
/-! TagReader.learns(I)I -/
def pX10_learns (v1 : Int32) (x_n : Int32) (la_kept : Int32) (la_counts : Nat → Int32) (la_askedBits : Nat → Int32) (la_askedBeginnings : Nat → Int32) : Option (Int32) := px_b (pX10_isNumber v1 x_n) (fun o_1 => (if o_1 = (0 : Int32) then some (-1 : Int32) else px_b (pX9_wasWalked la_counts) (fun o_3 => (if o_3 = (0 : Int32) then some (-2 : Int32) else px_b (pX9_longestOf v1 x_n la_kept la_askedBits la_askedBeginnings) (fun o_5 => some o_5)))))
abbrev wdX10_learns (cyI cyZ cyJ cyB cyO : ClassId) (h_x h_tg h_cr h_la h_sp a_x_splitRow h_tp h_tx h_fr h_se h_od h_kn a_x_sheets a_la_counts a_la_askedBits a_la_askedBeginnings a_la_waitingBits a_la_waitingBeginnings : Nat) (x_n : Int32) (x_blocker : Int32) (x_blockerBits : Int32) (x_tornBy : Int32) (la_kept : Int32) (la_waiting : Int32) (la_counts : Nat → Int32) (la_askedBits : Nat → Int32) (la_askedBeginnings : Nat → Int32) (la_waitingBits : Nat → Int32) (la_waitingBeginnings : Nat → Int32) (r_la r_sp : Nat) : va_W := [(h_x, .inr (10, [.int x_n, .int x_blocker, .int x_blockerBits, .int x_tornBy, .ref h_tg, .ref h_cr, .ref (r_la), .ref (r_sp), .ref a_x_splitRow, .ref h_tp, .ref h_tx, .ref h_fr, .ref h_se, .ref h_od, .ref h_kn, .ref a_x_sheets])), (h_la, .inr (9, [.ref a_la_counts, .ref a_la_askedBits, .ref a_la_askedBeginnings, .int la_kept, .ref a_la_waitingBits, .ref a_la_waitingBeginnings, .int la_waiting])), (a_la_counts, .inl (cyI, 5, .inl la_counts)), (a_la_askedBits, .inl (cyI, 64, .inl la_askedBits)), (a_la_askedBeginnings, .inl (cyI, 64, .inl la_askedBeginnings)), (a_la_waitingBits, .inl (cyI, 14, .inl la_waitingBits)), (a_la_waitingBeginnings, .inl (cyI, 14, .inl la_waitingBeginnings))]
/-! TagReader.would(II)I -/
def pX10_would_85 (v1 : Int32) (v2 : Int32) (x_n : Int32) (cr_blocker : Int32) (cr_size : Int32) (cr_n : Int32) (cr_blockerBits : Int32) (cr_tagsHeard : Int32) (cr_seemingHeard : Int32) (cr_ones : Int32) (cr_zeros : Int32) (cr_numbers : Nat → Int32) (sp_kept : Int32) (sp_waiting : Int32) (sp_counts : Nat → Int32) (sp_askedBits : Nat → Int32) (sp_askedBeginnings : Nat → Int32) (sp_waitingBits : Nat → Int32) (sp_waitingBeginnings : Nat → Int32) : Option (Int32 × Int32 × Int32 × Int32 × Int32 × Int32 × Int32 × Int32 × (Nat → Int32) × Int32 × Int32 × (Nat → Int32) × (Nat → Int32) × (Nat → Int32) × (Nat → Int32) × (Nat → Int32)) := px_b (pX9_walk v1 cr_size cr_n cr_blockerBits cr_blocker cr_numbers sp_kept sp_waiting sp_counts sp_askedBits sp_askedBeginnings sp_waitingBits sp_waitingBeginnings cr_tagsHeard cr_seemingHeard cr_ones cr_zeros) (fun o_7 => (if o_7.1 = (0 : Int32) then some ((-1 : Int32), cr_size, cr_n, cr_blockerBits, o_7.2.2.2.2.2.2.2.2.1, o_7.2.2.2.2.2.2.2.2.2.1, o_7.2.2.2.2.2.2.2.2.2.2.1, o_7.2.2.2.2.2.2.2.2.2.2.2, cr_numbers, o_7.2.1, o_7.2.2.1, o_7.2.2.2.1, o_7.2.2.2.2.1, o_7.2.2.2.2.2.1, o_7.2.2.2.2.2.2.1, o_7.2.2.2.2.2.2.2.1) else some ((o_7.2.2.2.1 (Int32.toNatClampNeg (0 : Int32))), cr_size, cr_n, cr_blockerBits, o_7.2.2.2.2.2.2.2.2.1, o_7.2.2.2.2.2.2.2.2.2.1, o_7.2.2.2.2.2.2.2.2.2.2.1, o_7.2.2.2.2.2.2.2.2.2.2.2, cr_numbers, o_7.2.1, o_7.2.2.1, o_7.2.2.2.1, o_7.2.2.2.2.1, o_7.2.2.2.2.2.1, o_7.2.2.2.2.2.2.1, o_7.2.2.2.2.2.2.2.1)))
def pX10_would_53B (v1 : Int32) (v2 : Int32) (x_n : Int32) (cr_blocker : Int32) (K_53 : Int32 → Int32 → Int32 → Int32 → Int32 → Int32 → Int32 → Int32 → (Nat → Int32) → Int32 → Int32 → (Nat → Int32) → (Nat → Int32) → (Nat → Int32) → (Nat → Int32) → (Nat → Int32) → Option (Int32 × Int32 × Int32 × Int32 × Int32 × Int32 × Int32 × Int32 × (Nat → Int32) × Int32 × Int32 × (Nat → Int32) × (Nat → Int32) × (Nat → Int32) × (Nat → Int32) × (Nat → Int32))) (v3 : Int32) (cr_size : Int32) (cr_n : Int32) (cr_blockerBits : Int32) (cr_tagsHeard : Int32) (cr_seemingHeard : Int32) (cr_ones : Int32) (cr_zeros : Int32) (cr_numbers : Nat → Int32) (sp_kept : Int32) (sp_waiting : Int32) (sp_counts : Nat → Int32) (sp_askedBits : Nat → Int32) (sp_askedBeginnings : Nat → Int32) (sp_waitingBits : Nat → Int32) (sp_waitingBeginnings : Nat → Int32) : Option (Int32 × Int32 × Int32 × Int32 × Int32 × Int32 × Int32 × Int32 × (Nat → Int32) × Int32 × Int32 × (Nat → Int32) × (Nat → Int32) × (Nat → Int32) × (Nat → Int32) × (Nat → Int32)) := (if ((1 : Int32) <<< (x_n &&& (31 : Int32))) ≤ v3 then pX10_would_85 v1 v2 x_n cr_blocker cr_size cr_n cr_blockerBits cr_tagsHeard cr_seemingHeard cr_ones cr_zeros cr_numbers sp_kept sp_waiting sp_counts sp_askedBits sp_askedBeginnings sp_waitingBits sp_waitingBeginnings else (if (((Int32.toUInt32 v2 >>> (Int32.toUInt32 v3 &&& Int32.toUInt32 31)).toInt32) &&& (1 : Int32)) = (0 : Int32) then K_53 (v3 + (1 : Int32)) cr_size cr_n cr_blockerBits cr_tagsHeard cr_seemingHeard cr_ones cr_zeros cr_numbers sp_kept sp_waiting sp_counts sp_askedBits sp_askedBeginnings sp_waitingBits sp_waitingBeginnings else px_b (pX0_add v3 cr_size cr_numbers) (fun o_10 => K_53 (v3 + (1 : Int32)) o_10.1 cr_n cr_blockerBits cr_tagsHeard cr_seemingHeard cr_ones cr_zeros o_10.2 sp_kept sp_waiting sp_counts sp_askedBits sp_askedBeginnings sp_waitingBits sp_waitingBeginnings)))
def pX10_would_53 (v1 : Int32) (v2 : Int32) (x_n : Int32) (cr_blocker : Int32) : Nat → Int32 → Int32 → Int32 → Int32 → Int32 → Int32 → Int32 → Int32 → (Nat → Int32) → Int32 → Int32 → (Nat → Int32) → (Nat → Int32) → (Nat → Int32) → (Nat → Int32) → (Nat → Int32) → Option (Int32 × Int32 × Int32 × Int32 × Int32 × Int32 × Int32 × Int32 × (Nat → Int32) × Int32 × Int32 × (Nat → Int32) × (Nat → Int32) × (Nat → Int32) × (Nat → Int32) × (Nat → Int32))
  | 0, _, _, _, _, _, _, _, _, _, _, _, _, _, _, _, _ => none
  | n + 1, v3, cr_size, cr_n, cr_blockerBits, cr_tagsHeard, cr_seemingHeard, cr_ones, cr_zeros, cr_numbers, sp_kept, sp_waiting, sp_counts, sp_askedBits, sp_askedBeginnings, sp_waitingBits, sp_waitingBeginnings => pX10_would_53B v1 v2 x_n cr_blocker (pX10_would_53 v1 v2 x_n cr_blocker n) v3 cr_size cr_n cr_blockerBits cr_tagsHeard cr_seemingHeard cr_ones cr_zeros cr_numbers sp_kept sp_waiting sp_counts sp_askedBits sp_askedBeginnings sp_waitingBits sp_waitingBeginnings
def pX10_would_40 (v1 : Int32) (v2 : Int32) (x_n : Int32) (cr_blocker : Int32) (cr_size : Int32) (cr_n : Int32) (cr_blockerBits : Int32) (cr_tagsHeard : Int32) (cr_seemingHeard : Int32) (cr_ones : Int32) (cr_zeros : Int32) (cr_numbers : Nat → Int32) (sp_kept : Int32) (sp_waiting : Int32) (sp_counts : Nat → Int32) (sp_askedBits : Nat → Int32) (sp_askedBeginnings : Nat → Int32) (sp_waitingBits : Nat → Int32) (sp_waitingBeginnings : Nat → Int32) : Option (Int32 × Int32 × Int32 × Int32 × Int32 × Int32 × Int32 × Int32 × (Nat → Int32) × Int32 × Int32 × (Nat → Int32) × (Nat → Int32) × (Nat → Int32) × (Nat → Int32) × (Nat → Int32)) := px_b (pX0_clear x_n cr_size cr_n cr_blockerBits) (fun o_5 => pX10_would_53 v1 v2 x_n cr_blocker px_FU (0 : Int32) o_5.1 o_5.2.1 o_5.2.2 cr_tagsHeard cr_seemingHeard cr_ones cr_zeros cr_numbers sp_kept sp_waiting sp_counts sp_askedBits sp_askedBeginnings sp_waitingBits sp_waitingBeginnings)
def pX10_would (v1 : Int32) (v2 : Int32) (x_n : Int32) (cr_blocker : Int32) (cr_size : Int32) (cr_n : Int32) (cr_blockerBits : Int32) (cr_tagsHeard : Int32) (cr_seemingHeard : Int32) (cr_ones : Int32) (cr_zeros : Int32) (cr_numbers : Nat → Int32) (sp_kept : Int32) (sp_waiting : Int32) (sp_counts : Nat → Int32) (sp_askedBits : Nat → Int32) (sp_askedBeginnings : Nat → Int32) (sp_waitingBits : Nat → Int32) (sp_waitingBeginnings : Nat → Int32) : Option (Int32 × Int32 × Int32 × Int32 × Int32 × Int32 × Int32 × Int32 × (Nat → Int32) × Int32 × Int32 × (Nat → Int32) × (Nat → Int32) × (Nat → Int32) × (Nat → Int32) × (Nat → Int32)) := px_b (pX10_within v1 (0 : Int32) (1 : Int32)) (fun o_1 => (if o_1 = (0 : Int32) then some ((-1 : Int32), cr_size, cr_n, cr_blockerBits, cr_tagsHeard, cr_seemingHeard, cr_ones, cr_zeros, cr_numbers, sp_kept, sp_waiting, sp_counts, sp_askedBits, sp_askedBeginnings, sp_waitingBits, sp_waitingBeginnings) else (if x_n ≤ (5 : Int32) then (if (5 : Int32) ≤ x_n then pX10_would_40 v1 v2 x_n cr_blocker cr_size cr_n cr_blockerBits cr_tagsHeard cr_seemingHeard cr_ones cr_zeros cr_numbers sp_kept sp_waiting sp_counts sp_askedBits sp_askedBeginnings sp_waitingBits sp_waitingBeginnings else (if ((Int32.toUInt32 v2 >>> (Int32.toUInt32 ((1 : Int32) <<< (x_n &&& (31 : Int32))) &&& Int32.toUInt32 31)).toInt32) = (0 : Int32) then pX10_would_40 v1 v2 x_n cr_blocker cr_size cr_n cr_blockerBits cr_tagsHeard cr_seemingHeard cr_ones cr_zeros cr_numbers sp_kept sp_waiting sp_counts sp_askedBits sp_askedBeginnings sp_waitingBits sp_waitingBeginnings else some ((-1 : Int32), cr_size, cr_n, cr_blockerBits, cr_tagsHeard, cr_seemingHeard, cr_ones, cr_zeros, cr_numbers, sp_kept, sp_waiting, sp_counts, sp_askedBits, sp_askedBeginnings, sp_waitingBits, sp_waitingBeginnings))) else some ((-1 : Int32), cr_size, cr_n, cr_blockerBits, cr_tagsHeard, cr_seemingHeard, cr_ones, cr_zeros, cr_numbers, sp_kept, sp_waiting, sp_counts, sp_askedBits, sp_askedBeginnings, sp_waitingBits, sp_waitingBeginnings))))
abbrev wdX10_would (cyI cyZ cyJ cyB cyO : ClassId) (h_x h_tg h_cr h_la h_sp a_x_splitRow h_tp h_tx h_fr h_se h_od h_kn a_x_sheets a_cr_numbers a_sp_counts a_sp_askedBits a_sp_askedBeginnings a_sp_waitingBits a_sp_waitingBeginnings : Nat) (x_n : Int32) (x_blocker : Int32) (x_blockerBits : Int32) (x_tornBy : Int32) (cr_size : Int32) (cr_n : Int32) (cr_blockerBits : Int32) (cr_blocker : Int32) (cr_tagsHeard : Int32) (cr_seemingHeard : Int32) (cr_ones : Int32) (cr_zeros : Int32) (cr_numbers : Nat → Int32) (sp_kept : Int32) (sp_waiting : Int32) (sp_counts : Nat → Int32) (sp_askedBits : Nat → Int32) (sp_askedBeginnings : Nat → Int32) (sp_waitingBits : Nat → Int32) (sp_waitingBeginnings : Nat → Int32) (r_la r_sp : Nat) : va_W := [(h_x, .inr (10, [.int x_n, .int x_blocker, .int x_blockerBits, .int x_tornBy, .ref h_tg, .ref h_cr, .ref (r_la), .ref (r_sp), .ref a_x_splitRow, .ref h_tp, .ref h_tx, .ref h_fr, .ref h_se, .ref h_od, .ref h_kn, .ref a_x_sheets])), (h_cr, .inr (0, [.ref a_cr_numbers, .int cr_size, .int cr_n, .int cr_blockerBits, .int cr_blocker, .int cr_tagsHeard, .int cr_seemingHeard, .int cr_ones, .int cr_zeros])), (a_cr_numbers, .inl (cyI, 32, .inl cr_numbers)), (h_sp, .inr (9, [.ref a_sp_counts, .ref a_sp_askedBits, .ref a_sp_askedBeginnings, .int sp_kept, .ref a_sp_waitingBits, .ref a_sp_waitingBeginnings, .int sp_waiting])), (a_sp_counts, .inl (cyI, 5, .inl sp_counts)), (a_sp_askedBits, .inl (cyI, 64, .inl sp_askedBits)), (a_sp_askedBeginnings, .inl (cyI, 64, .inl sp_askedBeginnings)), (a_sp_waitingBits, .inl (cyI, 14, .inl sp_waitingBits)), (a_sp_waitingBeginnings, .inl (cyI, 14, .inl sp_waitingBeginnings))]
/-! TagReader.outermostSplit(IIZ)I -/
def pX10_outermostSplit_12B (v1 : Int32) (v2 : Int32) (v3 : Int32) (x_splitRow : Nat → Int32) (K_12 : Int32 → Int32 → Option (Int32)) (v4 : Int32) (v5 : Int32) : Option (Int32) := (if (if v2 < v1 then v2 else v1) < v5 then some v4 else px_i v5 17 (px_i (v1 - v5) 17 (px_lt ((x_splitRow (Int32.toNatClampNeg v5)) + (x_splitRow (Int32.toNatClampNeg (v1 - v5)))) (fun x_4 => (if v4 < (0 : Int32) then K_12 x_4 (v5 + (1 : Int32)) else (if v3 = (0 : Int32) then (if v4 ≤ x_4 then K_12 v4 (v5 + (1 : Int32)) else K_12 x_4 (v5 + (1 : Int32))) else (if x_4 ≤ v4 then K_12 v4 (v5 + (1 : Int32)) else K_12 x_4 (v5 + (1 : Int32)))))))))
def pX10_outermostSplit_12 (v1 : Int32) (v2 : Int32) (v3 : Int32) (x_splitRow : Nat → Int32) : Nat → Int32 → Int32 → Option (Int32)
  | 0, _, _ => none
  | n + 1, v4, v5 => pX10_outermostSplit_12B v1 v2 v3 x_splitRow (pX10_outermostSplit_12 v1 v2 v3 x_splitRow n) v4 v5
def pX10_outermostSplit (v1 : Int32) (v2 : Int32) (v3 : Int32) (x_splitRow : Nat → Int32) : Option (Int32) := pX10_outermostSplit_12 v1 v2 v3 x_splitRow px_FU (-1 : Int32) (if (0 : Int32) < (v1 - v2) then (v1 - v2) else (0 : Int32))
abbrev wdX10_outermostSplit (cyI cyZ cyJ cyB cyO : ClassId) (h_x h_tg h_cr h_la h_sp a_x_splitRow h_tp h_tx h_fr h_se h_od h_kn a_x_sheets : Nat) (x_n : Int32) (x_blocker : Int32) (x_blockerBits : Int32) (x_tornBy : Int32) (x_splitRow : Nat → Int32) (r_la r_sp : Nat) : va_W := [(h_x, .inr (10, [.int x_n, .int x_blocker, .int x_blockerBits, .int x_tornBy, .ref h_tg, .ref h_cr, .ref (r_la), .ref (r_sp), .ref a_x_splitRow, .ref h_tp, .ref h_tx, .ref h_fr, .ref h_se, .ref h_od, .ref h_kn, .ref a_x_sheets])), (a_x_splitRow, .inl (cyI, 17, .inl x_splitRow))]
/-! TagReader.outermostBlind(IZ)I -/
def pX10_outermostBlind_47B (v1 : Int32) (v2 : Int32) (x_n : Int32) (K_22 : Int32 → (Nat → Int32) → Option (Int32 × (Nat → Int32))) (K_47 : Int32 → Int32 → Int32 → (Nat → Int32) → Option (Int32 × (Nat → Int32))) (v3 : Int32) (v4 : Int32) (v5 : Int32) (x_splitRow : Nat → Int32) : Option (Int32 × (Nat → Int32)) := (if v5 < (2 : Int32) then K_22 (v3 + (1 : Int32)) x_splitRow else px_b (pX10_outermostSplit v5 v4 v2 x_splitRow) (fun o_6 => px_i v5 17 (K_47 v3 v4 (v5 + (-1 : Int32)) (upd x_splitRow (Int32.toNatClampNeg v5) ((1 : Int32) + o_6)))))
def pX10_outermostBlind_47 (v1 : Int32) (v2 : Int32) (x_n : Int32) (K_22 : Int32 → (Nat → Int32) → Option (Int32 × (Nat → Int32))) : Nat → Int32 → Int32 → Int32 → (Nat → Int32) → Option (Int32 × (Nat → Int32))
  | 0, _, _, _, _ => none
  | n + 1, v3, v4, v5, x_splitRow => pX10_outermostBlind_47B v1 v2 x_n K_22 (pX10_outermostBlind_47 v1 v2 x_n K_22 n) v3 v4 v5 x_splitRow
def pX10_outermostBlind_22B (v1 : Int32) (v2 : Int32) (x_n : Int32) (K_22 : Int32 → (Nat → Int32) → Option (Int32 × (Nat → Int32))) (v3 : Int32) (x_splitRow : Nat → Int32) : Option (Int32 × (Nat → Int32)) := (if x_n < v3 then px_i v1 17 (some ((x_splitRow (Int32.toNatClampNeg v1)), x_splitRow)) else px_lt (if ((2 : Int32) * ((1 : Int32) <<< ((v3 - (1 : Int32)) &&& (31 : Int32)))) < v1 then ((2 : Int32) * ((1 : Int32) <<< ((v3 - (1 : Int32)) &&& (31 : Int32)))) else v1) (fun x_4 => pX10_outermostBlind_47 v1 v2 x_n K_22 px_FU v3 ((1 : Int32) <<< ((v3 - (1 : Int32)) &&& (31 : Int32))) x_4 x_splitRow))
def pX10_outermostBlind_22 (v1 : Int32) (v2 : Int32) (x_n : Int32) : Nat → Int32 → (Nat → Int32) → Option (Int32 × (Nat → Int32))
  | 0, _, _ => none
  | n + 1, v3, x_splitRow => pX10_outermostBlind_22B v1 v2 x_n (pX10_outermostBlind_22 v1 v2 x_n n) v3 x_splitRow
def pX10_outermostBlind_2B (v1 : Int32) (v2 : Int32) (x_n : Int32) (K_2 : Int32 → (Nat → Int32) → Option (Int32 × (Nat → Int32))) (v3 : Int32) (x_splitRow : Nat → Int32) : Option (Int32 × (Nat → Int32)) := (if v1 < v3 then pX10_outermostBlind_22 v1 v2 x_n px_FU (1 : Int32) x_splitRow else px_i v3 17 (K_2 (v3 + (1 : Int32)) (upd x_splitRow (Int32.toNatClampNeg v3) (1 : Int32))))
def pX10_outermostBlind_2 (v1 : Int32) (v2 : Int32) (x_n : Int32) : Nat → Int32 → (Nat → Int32) → Option (Int32 × (Nat → Int32))
  | 0, _, _ => none
  | n + 1, v3, x_splitRow => pX10_outermostBlind_2B v1 v2 x_n (pX10_outermostBlind_2 v1 v2 x_n n) v3 x_splitRow
def pX10_outermostBlind (v1 : Int32) (v2 : Int32) (x_n : Int32) (x_splitRow : Nat → Int32) : Option (Int32 × (Nat → Int32)) := pX10_outermostBlind_2 v1 v2 x_n px_FU (0 : Int32) x_splitRow
abbrev wdX10_outermostBlind (cyI cyZ cyJ cyB cyO : ClassId) (h_x h_tg h_cr h_la h_sp a_x_splitRow h_tp h_tx h_fr h_se h_od h_kn a_x_sheets : Nat) (x_n : Int32) (x_blocker : Int32) (x_blockerBits : Int32) (x_tornBy : Int32) (x_splitRow : Nat → Int32) (r_la r_sp : Nat) : va_W := [(h_x, .inr (10, [.int x_n, .int x_blocker, .int x_blockerBits, .int x_tornBy, .ref h_tg, .ref h_cr, .ref (r_la), .ref (r_sp), .ref a_x_splitRow, .ref h_tp, .ref h_tx, .ref h_fr, .ref h_se, .ref h_od, .ref h_kn, .ref a_x_sheets])), (a_x_splitRow, .inl (cyI, 17, .inl x_splitRow))]
/-! TagReader.most(III)I -/
def pX10_most_72 (v1 : Int32) (v2 : Int32) (v3 : Int32) (x_n : Int32) (t0 : Int32) (t1 : Int32) (x_splitRow : Nat → Int32) : Option (Int32 × (Nat → Int32)) := px_b (pX10_outermostBlind t1 t0 x_n x_splitRow) (fun o_10 => some (o_10.1, o_10.2))
def pX10_most (v1 : Int32) (v2 : Int32) (v3 : Int32) (x_n : Int32) (x_splitRow : Nat → Int32) : Option (Int32 × (Nat → Int32)) := px_b (pX10_within v1 (0 : Int32) (1 : Int32)) (fun o_1 => (if o_1 = (0 : Int32) then some ((-1 : Int32), x_splitRow) else px_b (pX10_within v3 (0 : Int32) (1 : Int32)) (fun o_3 => (if o_3 = (0 : Int32) then some ((-1 : Int32), x_splitRow) else (if (4 : Int32) < x_n then some ((-1 : Int32), x_splitRow) else px_b (pX10_within v2 (0 : Int32) ((1 : Int32) <<< (x_n &&& (31 : Int32)))) (fun o_6 => (if o_6 = (0 : Int32) then some ((-1 : Int32), x_splitRow) else (if v1 = (1 : Int32) then (if v2 = (0 : Int32) then some ((1 : Int32), x_splitRow) else some ((((2 : Int32) * v2) - (1 : Int32)), x_splitRow)) else (if v3 = (0 : Int32) then pX10_most_72 v1 v2 v3 x_n (1 : Int32) v2 x_splitRow else pX10_most_72 v1 v2 v3 x_n (0 : Int32) v2 x_splitRow)))))))))
abbrev wdX10_most (cyI cyZ cyJ cyB cyO : ClassId) (h_x h_tg h_cr h_la h_sp a_x_splitRow h_tp h_tx h_fr h_se h_od h_kn a_x_sheets : Nat) (x_n : Int32) (x_blocker : Int32) (x_blockerBits : Int32) (x_tornBy : Int32) (x_splitRow : Nat → Int32) (r_la r_sp : Nat) : va_W := [(h_x, .inr (10, [.int x_n, .int x_blocker, .int x_blockerBits, .int x_tornBy, .ref h_tg, .ref h_cr, .ref (r_la), .ref (r_sp), .ref a_x_splitRow, .ref h_tp, .ref h_tx, .ref h_fr, .ref h_se, .ref h_od, .ref h_kn, .ref a_x_sheets])), (a_x_splitRow, .inl (cyI, 17, .inl x_splitRow))]
/-! TagReader.feed(J)I -/
def pX10_feed (v1 : Int64) (tp_length : Int32) (tp_bytes : Nat → Int32) : Option (Int32 × Int32 × (Nat → Int32)) := (if (tp_length + (8 : Int32)) ≤ (200 : Int32) then px_b (pX7_add v1 tp_length tp_bytes) (fun o_2 => some (o_2.1, o_2.1, o_2.2)) else some ((-3 : Int32), tp_length, tp_bytes))
abbrev wdX10_feed (cyI cyZ cyJ cyB cyO : ClassId) (h_x h_tg h_cr h_la h_sp a_x_splitRow h_tp h_tx h_fr h_se h_od h_kn a_x_sheets a_tp_bytes : Nat) (x_n : Int32) (x_blocker : Int32) (x_blockerBits : Int32) (x_tornBy : Int32) (tp_length : Int32) (tp_kind : Int32) (tp_start : Int32) (tp_value : Int32) (tp_place : Int32) (tp_bytes : Nat → Int32) (r_la r_sp : Nat) : va_W := [(h_x, .inr (10, [.int x_n, .int x_blocker, .int x_blockerBits, .int x_tornBy, .ref h_tg, .ref h_cr, .ref (r_la), .ref (r_sp), .ref a_x_splitRow, .ref h_tp, .ref h_tx, .ref h_fr, .ref h_se, .ref h_od, .ref h_kn, .ref a_x_sheets])), (h_tp, .inr (7, [.ref a_tp_bytes, .int tp_length, .int tp_kind, .int tp_start, .int tp_value, .int tp_place])), (a_tp_bytes, .inl (cyB, 200, .inl tp_bytes))]
/-! TagReader.end(I)I -/
def pX10_end (v1 : Int32) (tp_length : Int32) : Option (Int32 × Int32) := px_b (pX10_within v1 (0 : Int32) tp_length) (fun o_1 => (if o_1 = (0 : Int32) then some ((-1 : Int32), tp_length) else some (tp_length, v1)))
abbrev wdX10_end (cyI cyZ cyJ cyB cyO : ClassId) (h_x h_tg h_cr h_la h_sp a_x_splitRow h_tp h_tx h_fr h_se h_od h_kn a_x_sheets a_tp_bytes : Nat) (x_n : Int32) (x_blocker : Int32) (x_blockerBits : Int32) (x_tornBy : Int32) (tp_length : Int32) (tp_kind : Int32) (tp_start : Int32) (tp_value : Int32) (tp_place : Int32) (tp_bytes : Nat → Int32) (r_la r_sp : Nat) : va_W := [(h_x, .inr (10, [.int x_n, .int x_blocker, .int x_blockerBits, .int x_tornBy, .ref h_tg, .ref h_cr, .ref (r_la), .ref (r_sp), .ref a_x_splitRow, .ref h_tp, .ref h_tx, .ref h_fr, .ref h_se, .ref h_od, .ref h_kn, .ref a_x_sheets])), (h_tp, .inr (7, [.ref a_tp_bytes, .int tp_length, .int tp_kind, .int tp_start, .int tp_value, .int tp_place])), (a_tp_bytes, .inl (cyB, 200, .inl tp_bytes))]
/-! TagReader.fault()I -/
def pX10_fault (tx_faultMet : Int32) : Option (Int32) := some tx_faultMet
abbrev wdX10_fault (cyI cyZ cyJ cyB cyO : ClassId) (h_x h_tg h_cr h_la h_sp a_x_splitRow h_tp h_tx h_fr h_se h_od h_kn a_x_sheets a_tx_held a_tx_told a_tx_named : Nat) (x_n : Int32) (x_blocker : Int32) (x_blockerBits : Int32) (x_tornBy : Int32) (tx_faultMet : Int32) (tx_faultPlace : Int32) (tx_lines : Int32) (tx_held : Nat → Int32) (tx_told : Nat → Int32) (tx_named : Nat → Int32) (r_la r_sp : Nat) : va_W := [(h_x, .inr (10, [.int x_n, .int x_blocker, .int x_blockerBits, .int x_tornBy, .ref h_tg, .ref h_cr, .ref (r_la), .ref (r_sp), .ref a_x_splitRow, .ref h_tp, .ref h_tx, .ref h_fr, .ref h_se, .ref h_od, .ref h_kn, .ref a_x_sheets])), (h_tx, .inr (8, [.ref a_tx_held, .int tx_faultMet, .ref a_tx_told, .ref a_tx_named, .int tx_faultPlace, .int tx_lines])), (a_tx_held, .inl (cyI, 9, .inl tx_held)), (a_tx_told, .inl (cyI, 9, .inl tx_told)), (a_tx_named, .inl (cyZ, 7, .inl tx_named))]
/-! TagReader.rule(I)I -/
def pX10_rule (v1 : Int32) (tx_held : Nat → Int32) : Option (Int32) := px_b (pX10_within v1 (0 : Int32) ((9 : Int32) - (1 : Int32))) (fun o_1 => (if o_1 = (0 : Int32) then some (-1 : Int32) else px_i v1 9 (some (tx_held (Int32.toNatClampNeg v1)))))
abbrev wdX10_rule (cyI cyZ cyJ cyB cyO : ClassId) (h_x h_tg h_cr h_la h_sp a_x_splitRow h_tp h_tx h_fr h_se h_od h_kn a_x_sheets a_tx_held a_tx_told a_tx_named : Nat) (x_n : Int32) (x_blocker : Int32) (x_blockerBits : Int32) (x_tornBy : Int32) (tx_faultMet : Int32) (tx_faultPlace : Int32) (tx_lines : Int32) (tx_held : Nat → Int32) (tx_told : Nat → Int32) (tx_named : Nat → Int32) (r_la r_sp : Nat) : va_W := [(h_x, .inr (10, [.int x_n, .int x_blocker, .int x_blockerBits, .int x_tornBy, .ref h_tg, .ref h_cr, .ref (r_la), .ref (r_sp), .ref a_x_splitRow, .ref h_tp, .ref h_tx, .ref h_fr, .ref h_se, .ref h_od, .ref h_kn, .ref a_x_sheets])), (h_tx, .inr (8, [.ref a_tx_held, .int tx_faultMet, .ref a_tx_told, .ref a_tx_named, .int tx_faultPlace, .int tx_lines])), (a_tx_held, .inl (cyI, 9, .inl tx_held)), (a_tx_told, .inl (cyI, 9, .inl tx_told)), (a_tx_named, .inl (cyZ, 7, .inl tx_named))]
/-! TagReader.slot(III)I -/
def pX10_slot (v1 : Int32) (v2 : Int32) (v3 : Int32) (x_n : Int32) : Option (Int32) := px_b (pX10_isNumber v1 x_n) (fun o_1 => (if o_1 = (0 : Int32) then some (-1 : Int32) else px_b (pX10_within v2 (1 : Int32) (64 : Int32)) (fun o_3 => (if o_3 = (0 : Int32) then some (-1 : Int32) else px_b (pX10_slotOf v1 v2 v3) (fun o_5 => some o_5)))))
abbrev wdX10_slot (cyI cyZ cyJ cyB cyO : ClassId) (h_x h_tg h_cr h_la h_sp a_x_splitRow h_tp h_tx h_fr h_se h_od h_kn a_x_sheets : Nat) (x_n : Int32) (x_blocker : Int32) (x_blockerBits : Int32) (x_tornBy : Int32) (r_la r_sp : Nat) : va_W := [(h_x, .inr (10, [.int x_n, .int x_blocker, .int x_blockerBits, .int x_tornBy, .ref h_tg, .ref h_cr, .ref (r_la), .ref (r_sp), .ref a_x_splitRow, .ref h_tp, .ref h_tx, .ref h_fr, .ref h_se, .ref h_od, .ref h_kn, .ref a_x_sheets]))]
/-! TagReader.frame(II)I -/
def pX10_frame (v1 : Int32) (v2 : Int32) (tg_size : Int32) (tg_numbers : Nat → Int32) (tg_strengths : Nat → Int32) (tx_held : Nat → Int32) (tg_silent : Nat → Int32) (fr_counts : Nat → Int32) (fr_answered : Nat → Int32) (fr_strongest : Nat → Int32) (fr_secondStrength : Nat → Int32) : Option (Int32 × (Nat → Int32) × (Nat → Int32) × (Nat → Int32) × (Nat → Int32) × (Nat → Int32)) := px_b (pX10_within v1 (1 : Int32) (64 : Int32)) (fun o_1 => (if o_1 = (0 : Int32) then some ((-1 : Int32), tg_silent, fr_counts, fr_answered, fr_strongest, fr_secondStrength) else px_b (pX1_hold v1 v2 (tx_held (Int32.toNatClampNeg (7 : Int32))) tg_size tg_numbers tg_strengths fr_counts fr_answered fr_strongest fr_secondStrength tg_silent) (fun o_3 => some (o_3.1, o_3.2.2.2.2.2, o_3.2.1, o_3.2.2.1, o_3.2.2.2.1, o_3.2.2.2.2.1))))
abbrev wdX10_frame (cyI cyZ cyJ cyB cyO : ClassId) (h_x h_tg h_cr h_la h_sp a_x_splitRow h_tp h_tx h_fr h_se h_od h_kn a_x_sheets a_tg_numbers a_tg_strengths a_tg_silent a_tx_held a_tx_told a_tx_named a_fr_counts a_fr_answered a_fr_strongest a_fr_secondStrength : Nat) (x_n : Int32) (x_blocker : Int32) (x_blockerBits : Int32) (x_tornBy : Int32) (tg_size : Int32) (tg_numbers : Nat → Int32) (tg_strengths : Nat → Int32) (tg_silent : Nat → Int32) (tx_faultMet : Int32) (tx_faultPlace : Int32) (tx_lines : Int32) (tx_held : Nat → Int32) (tx_told : Nat → Int32) (tx_named : Nat → Int32) (fr_counts : Nat → Int32) (fr_answered : Nat → Int32) (fr_strongest : Nat → Int32) (fr_secondStrength : Nat → Int32) (r_la r_sp : Nat) : va_W := [(h_x, .inr (10, [.int x_n, .int x_blocker, .int x_blockerBits, .int x_tornBy, .ref h_tg, .ref h_cr, .ref (r_la), .ref (r_sp), .ref a_x_splitRow, .ref h_tp, .ref h_tx, .ref h_fr, .ref h_se, .ref h_od, .ref h_kn, .ref a_x_sheets])), (h_tg, .inr (6, [.ref a_tg_numbers, .ref a_tg_strengths, .ref a_tg_silent, .int tg_size])), (a_tg_numbers, .inl (cyI, 16, .inl tg_numbers)), (a_tg_strengths, .inl (cyI, 16, .inl tg_strengths)), (a_tg_silent, .inl (cyZ, 16, .inl tg_silent)), (h_tx, .inr (8, [.ref a_tx_held, .int tx_faultMet, .ref a_tx_told, .ref a_tx_named, .int tx_faultPlace, .int tx_lines])), (a_tx_held, .inl (cyI, 9, .inl tx_held)), (a_tx_told, .inl (cyI, 9, .inl tx_told)), (a_tx_named, .inl (cyZ, 7, .inl tx_named)), (h_fr, .inr (1, [.ref a_fr_counts, .ref a_fr_answered, .ref a_fr_strongest, .ref a_fr_secondStrength])), (a_fr_counts, .inl (cyI, 5, .inl fr_counts)), (a_fr_answered, .inl (cyI, 64, .inl fr_answered)), (a_fr_strongest, .inl (cyI, 64, .inl fr_strongest)), (a_fr_secondStrength, .inl (cyI, 64, .inl fr_secondStrength))]
/-! TagReader.shown(I)I -/
def pX10_shown (v1 : Int32) (fr_counts : Nat → Int32) : Option (Int32) := px_b (pX10_within v1 (0 : Int32) (4 : Int32)) (fun o_1 => (if o_1 = (0 : Int32) then some (-1 : Int32) else px_b (pX1_wasHeld fr_counts) (fun o_3 => (if o_3 = (0 : Int32) then some (-2 : Int32) else px_i v1 5 (some (fr_counts (Int32.toNatClampNeg v1)))))))
abbrev wdX10_shown (cyI cyZ cyJ cyB cyO : ClassId) (h_x h_tg h_cr h_la h_sp a_x_splitRow h_tp h_tx h_fr h_se h_od h_kn a_x_sheets a_fr_counts a_fr_answered a_fr_strongest a_fr_secondStrength : Nat) (x_n : Int32) (x_blocker : Int32) (x_blockerBits : Int32) (x_tornBy : Int32) (fr_counts : Nat → Int32) (fr_answered : Nat → Int32) (fr_strongest : Nat → Int32) (fr_secondStrength : Nat → Int32) (r_la r_sp : Nat) : va_W := [(h_x, .inr (10, [.int x_n, .int x_blocker, .int x_blockerBits, .int x_tornBy, .ref h_tg, .ref h_cr, .ref (r_la), .ref (r_sp), .ref a_x_splitRow, .ref h_tp, .ref h_tx, .ref h_fr, .ref h_se, .ref h_od, .ref h_kn, .ref a_x_sheets])), (h_fr, .inr (1, [.ref a_fr_counts, .ref a_fr_answered, .ref a_fr_strongest, .ref a_fr_secondStrength])), (a_fr_counts, .inl (cyI, 5, .inl fr_counts)), (a_fr_answered, .inl (cyI, 64, .inl fr_answered)), (a_fr_strongest, .inl (cyI, 64, .inl fr_strongest)), (a_fr_secondStrength, .inl (cyI, 64, .inl fr_secondStrength))]
/-! TagReader.all(I)I -/
def pX10_all (v1 : Int32) (tg_size : Int32) (tg_numbers : Nat → Int32) (tg_strengths : Nat → Int32) (tx_held : Nat → Int32) (tg_silent : Nat → Int32) (fr_counts : Nat → Int32) (fr_answered : Nat → Int32) (fr_strongest : Nat → Int32) (fr_secondStrength : Nat → Int32) (se_counts : Nat → Int32) : Option (Int32 × (Nat → Int32) × (Nat → Int32) × (Nat → Int32) × (Nat → Int32) × (Nat → Int32) × (Nat → Int32)) := px_b (pX4_run v1 tg_size tg_numbers tg_strengths tx_held se_counts fr_counts fr_answered fr_strongest fr_secondStrength tg_silent) (fun o_1 => (if o_1.1 = (0 : Int32) then some ((-6 : Int32), o_1.2.2.2.2.2.2, o_1.2.2.1, o_1.2.2.2.1, o_1.2.2.2.2.1, o_1.2.2.2.2.2.1, o_1.2.1) else some ((o_1.2.1 (Int32.toNatClampNeg (0 : Int32))), o_1.2.2.2.2.2.2, o_1.2.2.1, o_1.2.2.2.1, o_1.2.2.2.2.1, o_1.2.2.2.2.2.1, o_1.2.1)))
abbrev wdX10_all (cyI cyZ cyJ cyB cyO : ClassId) (h_x h_tg h_cr h_la h_sp a_x_splitRow h_tp h_tx h_fr h_se h_od h_kn a_x_sheets a_tg_numbers a_tg_strengths a_tg_silent a_tx_held a_tx_told a_tx_named a_fr_counts a_fr_answered a_fr_strongest a_fr_secondStrength a_se_counts : Nat) (x_n : Int32) (x_blocker : Int32) (x_blockerBits : Int32) (x_tornBy : Int32) (tg_size : Int32) (tg_numbers : Nat → Int32) (tg_strengths : Nat → Int32) (tg_silent : Nat → Int32) (tx_faultMet : Int32) (tx_faultPlace : Int32) (tx_lines : Int32) (tx_held : Nat → Int32) (tx_told : Nat → Int32) (tx_named : Nat → Int32) (fr_counts : Nat → Int32) (fr_answered : Nat → Int32) (fr_strongest : Nat → Int32) (fr_secondStrength : Nat → Int32) (se_counts : Nat → Int32) (r_la r_sp : Nat) : va_W := [(h_x, .inr (10, [.int x_n, .int x_blocker, .int x_blockerBits, .int x_tornBy, .ref h_tg, .ref h_cr, .ref (r_la), .ref (r_sp), .ref a_x_splitRow, .ref h_tp, .ref h_tx, .ref h_fr, .ref h_se, .ref h_od, .ref h_kn, .ref a_x_sheets])), (h_tg, .inr (6, [.ref a_tg_numbers, .ref a_tg_strengths, .ref a_tg_silent, .int tg_size])), (a_tg_numbers, .inl (cyI, 16, .inl tg_numbers)), (a_tg_strengths, .inl (cyI, 16, .inl tg_strengths)), (a_tg_silent, .inl (cyZ, 16, .inl tg_silent)), (h_tx, .inr (8, [.ref a_tx_held, .int tx_faultMet, .ref a_tx_told, .ref a_tx_named, .int tx_faultPlace, .int tx_lines])), (a_tx_held, .inl (cyI, 9, .inl tx_held)), (a_tx_told, .inl (cyI, 9, .inl tx_told)), (a_tx_named, .inl (cyZ, 7, .inl tx_named)), (h_fr, .inr (1, [.ref a_fr_counts, .ref a_fr_answered, .ref a_fr_strongest, .ref a_fr_secondStrength])), (a_fr_counts, .inl (cyI, 5, .inl fr_counts)), (a_fr_answered, .inl (cyI, 64, .inl fr_answered)), (a_fr_strongest, .inl (cyI, 64, .inl fr_strongest)), (a_fr_secondStrength, .inl (cyI, 64, .inl fr_secondStrength)), (h_se, .inr (4, [.ref a_se_counts])), (a_se_counts, .inl (cyI, 4, .inl se_counts))]
/-! TagReader.went(I)I -/
def pX10_went (v1 : Int32) (se_counts : Nat → Int32) : Option (Int32) := px_b (pX10_within v1 (0 : Int32) (3 : Int32)) (fun o_1 => (if o_1 = (0 : Int32) then some (-1 : Int32) else px_b (pX4_wasRun se_counts) (fun o_3 => (if o_3 = (0 : Int32) then some (-2 : Int32) else px_i v1 4 (some (se_counts (Int32.toNatClampNeg v1)))))))
abbrev wdX10_went (cyI cyZ cyJ cyB cyO : ClassId) (h_x h_tg h_cr h_la h_sp a_x_splitRow h_tp h_tx h_fr h_se h_od h_kn a_x_sheets a_se_counts : Nat) (x_n : Int32) (x_blocker : Int32) (x_blockerBits : Int32) (x_tornBy : Int32) (se_counts : Nat → Int32) (r_la r_sp : Nat) : va_W := [(h_x, .inr (10, [.int x_n, .int x_blocker, .int x_blockerBits, .int x_tornBy, .ref h_tg, .ref h_cr, .ref (r_la), .ref (r_sp), .ref a_x_splitRow, .ref h_tp, .ref h_tx, .ref h_fr, .ref h_se, .ref h_od, .ref h_kn, .ref a_x_sheets])), (h_se, .inr (4, [.ref a_se_counts])), (a_se_counts, .inl (cyI, 4, .inl se_counts))]
/-! TagReader.tree(I)I -/
theorem hvX10_tree : yX10_tree.cls = RX10 ∧ yX10_tree.cls ≠ "java/lang/invoke/MethodHandle" ∧ yX10_tree.cls ≠ "java/lang/invoke/VarHandle" ∧ (parseMethodDescriptor yX10_tree.desc).map (fun d => d.parameters.length) = some 1 := by decide +kernel
theorem fX10_tree_X10 : ∀ w ∈ u_ws RX10 TX10 16, w ∈ wsX10_tree := fun _ h => List.mem_cons_of_mem _ (List.mem_append_left _ (List.mem_append_left _ (List.mem_append_left _ (List.mem_append_right _ h))))
theorem kX10_tree_1 : (.fieldLink RX10 43 "TagReader" "spare" "LTagReader$Tree;" : Cond) ∈ wsX10_tree := List.mem_of_getElem? (i := 1) rfl
theorem kX10_tree_2 : (.fieldLink RX10 32 "TagReader" "crowd" "LTagReader$Crowd;" : Cond) ∈ wsX10_tree := List.mem_of_getElem? (i := 2) rfl
theorem kX10_tree_3 : (.fieldLink RX10 39 "TagReader" "latest" "LTagReader$Tree;" : Cond) ∈ wsX10_tree := List.mem_of_getElem? (i := 3) rfl
theorem kX10_tree_4 : (.fieldLink RX10 25 "TagReader" "tags" "LTagReader$Tags;" : Cond) ∈ wsX10_tree := List.mem_of_getElem? (i := 4) rfl
theorem fX10_tree_X9 : ∀ w ∈ u_ws RX9 TX9 7, w ∈ wsX10_tree := fun _ h => List.mem_cons_of_mem _ (List.mem_append_left _ (List.mem_append_left _ (List.mem_append_right _ h)))
theorem kX10_tree_5 : (.fieldLink RX10 169 "TagReader$Tree" "counts" "[I" : Cond) ∈ wsX10_tree := List.mem_of_getElem? (i := 5) rfl
set_option maxHeartbeats 4000000 in
set_option maxRecDepth 100000 in
theorem ccX10_tree (l : Launch) (dC : Nat → ClassId) (dI : Nat → Nat → Nat) (cyI cyZ cyJ cyB cyO : ClassId) (sz : Nat) (h_x h_tg h_cr h_la h_sp a_x_splitRow h_tp h_tx h_fr h_se h_od h_kn a_x_sheets a_tg_numbers a_tg_strengths a_tg_silent a_cr_numbers a_sp_counts a_sp_askedBits a_sp_askedBeginnings a_sp_waitingBits a_sp_waitingBeginnings : Nat) (x_n : Int32) (x_blocker : Int32) (x_blockerBits : Int32) (x_tornBy : Int32) (tg_size : Int32) (tg_numbers : Nat → Int32) (tg_strengths : Nat → Int32) (tg_silent : Nat → Int32) (cr_size : Int32) (cr_n : Int32) (cr_blockerBits : Int32) (cr_blocker : Int32) (cr_tagsHeard : Int32) (cr_seemingHeard : Int32) (cr_ones : Int32) (cr_zeros : Int32) (cr_numbers : Nat → Int32) (sp_kept : Int32) (sp_waiting : Int32) (sp_counts : Nat → Int32) (sp_askedBits : Nat → Int32) (sp_askedBeginnings : Nat → Int32) (sp_waitingBits : Nat → Int32) (sp_waitingBeginnings : Nat → Int32) (v1 : Int32) (out : Int32 × (Nat → Int32) × Int32 × Int32 × Int32 × Int32 × Int32 × Int32 × Int32 × Int32 × (Nat → Int32) × Int32 × Int32 × (Nat → Int32) × (Nat → Int32) × (Nat → Int32) × (Nat → Int32) × (Nat → Int32) × Bool) (hp : pX10_tree v1 x_n x_blocker x_blockerBits tg_size tg_numbers tg_silent cr_size cr_n cr_blockerBits cr_blocker cr_tagsHeard cr_seemingHeard cr_ones cr_zeros cr_numbers sp_kept sp_waiting sp_counts sp_askedBits sp_askedBeginnings sp_waitingBits sp_waitingBeginnings = some out) : Met l yX10_tree wsX10_tree ({ frames := 5, cells := 0, slots := 0, locals := 122 } : Room) (px_PW (dC, dI) (px_TY cyI cyZ cyJ cyB cyO) [.ref h_x, .int v1] (wdX10_tree cyI cyZ cyJ cyB cyO h_x h_tg h_cr h_la h_sp a_x_splitRow h_tp h_tx h_fr h_se h_od h_kn a_x_sheets a_tg_numbers a_tg_strengths a_tg_silent a_cr_numbers a_sp_counts a_sp_askedBits a_sp_askedBeginnings a_sp_waitingBits a_sp_waitingBeginnings x_n x_blocker x_blockerBits x_tornBy tg_size tg_numbers tg_strengths tg_silent cr_size cr_n cr_blockerBits cr_blocker cr_tagsHeard cr_seemingHeard cr_ones cr_zeros cr_numbers sp_kept sp_waiting sp_counts sp_askedBits sp_askedBeginnings sp_waitingBits sp_waitingBeginnings h_la h_sp) sz) (px_QW (some (.int out.1)) (dC, dI) (wdX10_tree cyI cyZ cyJ cyB cyO h_x h_tg h_cr h_la h_sp a_x_splitRow h_tp h_tx h_fr h_se h_od h_kn a_x_sheets a_tg_numbers a_tg_strengths a_tg_silent a_cr_numbers a_sp_counts a_sp_askedBits a_sp_askedBeginnings a_sp_waitingBits a_sp_waitingBeginnings x_n x_blocker x_blockerBits x_tornBy tg_size tg_numbers tg_strengths tg_silent cr_size cr_n cr_blockerBits cr_blocker cr_tagsHeard cr_seemingHeard cr_ones cr_zeros cr_numbers sp_kept sp_waiting sp_counts sp_askedBits sp_askedBeginnings sp_waitingBits sp_waitingBeginnings h_la h_sp) (wdX10_tree cyI cyZ cyJ cyB cyO h_x h_tg h_cr h_la h_sp a_x_splitRow h_tp h_tx h_fr h_se h_od h_kn a_x_sheets a_tg_numbers a_tg_strengths a_tg_silent a_cr_numbers a_sp_counts a_sp_askedBits a_sp_askedBeginnings a_sp_waitingBits a_sp_waitingBeginnings x_n x_blocker x_blockerBits x_tornBy tg_size tg_numbers tg_strengths out.2.1 out.2.2.1 out.2.2.2.1 out.2.2.2.2.1 out.2.2.2.2.2.1 out.2.2.2.2.2.2.1 out.2.2.2.2.2.2.2.1 out.2.2.2.2.2.2.2.2.1 out.2.2.2.2.2.2.2.2.2.1 out.2.2.2.2.2.2.2.2.2.2.1 out.2.2.2.2.2.2.2.2.2.2.2.1 out.2.2.2.2.2.2.2.2.2.2.2.2.1 out.2.2.2.2.2.2.2.2.2.2.2.2.2.1 out.2.2.2.2.2.2.2.2.2.2.2.2.2.2.1 out.2.2.2.2.2.2.2.2.2.2.2.2.2.2.2.1 out.2.2.2.2.2.2.2.2.2.2.2.2.2.2.2.2.1 out.2.2.2.2.2.2.2.2.2.2.2.2.2.2.2.2.2.1 (cond out.2.2.2.2.2.2.2.2.2.2.2.2.2.2.2.2.2.2 h_sp h_la) (cond out.2.2.2.2.2.2.2.2.2.2.2.2.2.2.2.2.2.2 h_la h_sp)) sz) 0 0 (va_A (wdX10_tree cyI cyZ cyJ cyB cyO h_x h_tg h_cr h_la h_sp a_x_splitRow h_tp h_tx h_fr h_se h_od h_kn a_x_sheets a_tg_numbers a_tg_strengths a_tg_silent a_cr_numbers a_sp_counts a_sp_askedBits a_sp_askedBeginnings a_sp_waitingBits a_sp_waitingBeginnings x_n x_blocker x_blockerBits x_tornBy tg_size tg_numbers tg_strengths tg_silent cr_size cr_n cr_blockerBits cr_blocker cr_tagsHeard cr_seemingHeard cr_ones cr_zeros cr_numbers sp_kept sp_waiting sp_counts sp_askedBits sp_askedBeginnings sp_waitingBits sp_waitingBeginnings h_la h_sp) sz) := by
  refine Met.ofW (cc := cX10_tree) (maxL := 3) (ret := (some .int)) (by decide) rfl ?_
  intro p e s m args below meth c s₁ B hml hv
  obtain ⟨rfl, hsz, hP, hK, hD0, hN⟩ := hv
  have hx := B.exec
  have hb := B.bytes
  have hr := B.returns
  have hts := atoms_spec (ws := wsX10_tree) B.pre
  have hown : s.vm.findClass RX10 = some m.cls := findClass_of_methodNamed B.named
  have hlocks := B.notSynchronized
  subst hsz
  have hD := hD0.self (sz := s.heap.size)
  generalize hAe : va_A (wdX10_tree cyI cyZ cyJ cyB cyO h_x h_tg h_cr h_la h_sp a_x_splitRow h_tp h_tx h_fr h_se h_od h_kn a_x_sheets a_tg_numbers a_tg_strengths a_tg_silent a_cr_numbers a_sp_counts a_sp_askedBits a_sp_askedBeginnings a_sp_waitingBits a_sp_waitingBeginnings x_n x_blocker x_blockerBits x_tornBy tg_size tg_numbers tg_strengths tg_silent cr_size cr_n cr_blockerBits cr_blocker cr_tagsHeard cr_seemingHeard cr_ones cr_zeros cr_numbers sp_kept sp_waiting sp_counts sp_askedBits sp_askedBeginnings sp_waitingBits sp_waitingBeginnings h_la h_sp) s.heap.size = A at hD ⊢
  have hA : ∀ q : Nat, s.heap.size ≤ q → A q := fun q h => by rw [← hAe]; exact Or.inr h
  have hS : va_S A s.heap s.heap [] := va_S.rf
  have hq := px_QWe (v := (some (.int out.1))) (D := (dC, dI)) (w1 := (wdX10_tree cyI cyZ cyJ cyB cyO h_x h_tg h_cr h_la h_sp a_x_splitRow h_tp h_tx h_fr h_se h_od h_kn a_x_sheets a_tg_numbers a_tg_strengths a_tg_silent a_cr_numbers a_sp_counts a_sp_askedBits a_sp_askedBeginnings a_sp_waitingBits a_sp_waitingBeginnings x_n x_blocker x_blockerBits x_tornBy tg_size tg_numbers tg_strengths out.2.1 out.2.2.1 out.2.2.2.1 out.2.2.2.2.1 out.2.2.2.2.2.1 out.2.2.2.2.2.2.1 out.2.2.2.2.2.2.2.1 out.2.2.2.2.2.2.2.2.1 out.2.2.2.2.2.2.2.2.2.1 out.2.2.2.2.2.2.2.2.2.2.1 out.2.2.2.2.2.2.2.2.2.2.2.1 out.2.2.2.2.2.2.2.2.2.2.2.2.1 out.2.2.2.2.2.2.2.2.2.2.2.2.2.1 out.2.2.2.2.2.2.2.2.2.2.2.2.2.2.1 out.2.2.2.2.2.2.2.2.2.2.2.2.2.2.2.1 out.2.2.2.2.2.2.2.2.2.2.2.2.2.2.2.2.1 out.2.2.2.2.2.2.2.2.2.2.2.2.2.2.2.2.2.1 (cond out.2.2.2.2.2.2.2.2.2.2.2.2.2.2.2.2.2.2 h_sp h_la) (cond out.2.2.2.2.2.2.2.2.2.2.2.2.2.2.2.2.2.2 h_la h_sp))) (st := s) hAe
  generalize px_QW (some (.int out.1)) (dC, dI) (wdX10_tree cyI cyZ cyJ cyB cyO h_x h_tg h_cr h_la h_sp a_x_splitRow h_tp h_tx h_fr h_se h_od h_kn a_x_sheets a_tg_numbers a_tg_strengths a_tg_silent a_cr_numbers a_sp_counts a_sp_askedBits a_sp_askedBeginnings a_sp_waitingBits a_sp_waitingBeginnings x_n x_blocker x_blockerBits x_tornBy tg_size tg_numbers tg_strengths tg_silent cr_size cr_n cr_blockerBits cr_blocker cr_tagsHeard cr_seemingHeard cr_ones cr_zeros cr_numbers sp_kept sp_waiting sp_counts sp_askedBits sp_askedBeginnings sp_waitingBits sp_waitingBeginnings h_la h_sp) (wdX10_tree cyI cyZ cyJ cyB cyO h_x h_tg h_cr h_la h_sp a_x_splitRow h_tp h_tx h_fr h_se h_od h_kn a_x_sheets a_tg_numbers a_tg_strengths a_tg_silent a_cr_numbers a_sp_counts a_sp_askedBits a_sp_askedBeginnings a_sp_waitingBits a_sp_waitingBeginnings x_n x_blocker x_blockerBits x_tornBy tg_size tg_numbers tg_strengths out.2.1 out.2.2.1 out.2.2.2.1 out.2.2.2.2.1 out.2.2.2.2.2.1 out.2.2.2.2.2.2.1 out.2.2.2.2.2.2.2.1 out.2.2.2.2.2.2.2.2.1 out.2.2.2.2.2.2.2.2.2.1 out.2.2.2.2.2.2.2.2.2.2.1 out.2.2.2.2.2.2.2.2.2.2.2.1 out.2.2.2.2.2.2.2.2.2.2.2.2.1 out.2.2.2.2.2.2.2.2.2.2.2.2.2.1 out.2.2.2.2.2.2.2.2.2.2.2.2.2.2.1 out.2.2.2.2.2.2.2.2.2.2.2.2.2.2.2.1 out.2.2.2.2.2.2.2.2.2.2.2.2.2.2.2.2.1 out.2.2.2.2.2.2.2.2.2.2.2.2.2.2.2.2.2.1 (cond out.2.2.2.2.2.2.2.2.2.2.2.2.2.2.2.2.2.2 h_sp h_la) (cond out.2.2.2.2.2.2.2.2.2.2.2.2.2.2.2.2.2.2 h_la h_sp)) s.heap.size = Qc at hq ⊢
  have hQ : ∀ (H : Heap) (locs : List Loc) (pc : Nat) (ls : Array Slot), va_P (dC, dI) vwCl (wdX10_tree cyI cyZ cyJ cyB cyO h_x h_tg h_cr h_la h_sp a_x_splitRow h_tp h_tx h_fr h_se h_od h_kn a_x_sheets a_tg_numbers a_tg_strengths a_tg_silent a_cr_numbers a_sp_counts a_sp_askedBits a_sp_askedBeginnings a_sp_waitingBits a_sp_waitingBeginnings x_n x_blocker x_blockerBits x_tornBy tg_size tg_numbers tg_strengths out.2.1 out.2.2.1 out.2.2.2.1 out.2.2.2.2.1 out.2.2.2.2.2.1 out.2.2.2.2.2.2.1 out.2.2.2.2.2.2.2.1 out.2.2.2.2.2.2.2.2.1 out.2.2.2.2.2.2.2.2.2.1 out.2.2.2.2.2.2.2.2.2.2.1 out.2.2.2.2.2.2.2.2.2.2.2.1 out.2.2.2.2.2.2.2.2.2.2.2.2.1 out.2.2.2.2.2.2.2.2.2.2.2.2.2.1 out.2.2.2.2.2.2.2.2.2.2.2.2.2.2.1 out.2.2.2.2.2.2.2.2.2.2.2.2.2.2.2.1 out.2.2.2.2.2.2.2.2.2.2.2.2.2.2.2.2.1 out.2.2.2.2.2.2.2.2.2.2.2.2.2.2.2.2.2.1 (cond out.2.2.2.2.2.2.2.2.2.2.2.2.2.2.2.2.2.2 h_sp h_la) (cond out.2.2.2.2.2.2.2.2.2.2.2.2.2.2.2.2.2.2 h_la h_sp)) H → va_D A (wdX10_tree cyI cyZ cyJ cyB cyO h_x h_tg h_cr h_la h_sp a_x_splitRow h_tp h_tx h_fr h_se h_od h_kn a_x_sheets a_tg_numbers a_tg_strengths a_tg_silent a_cr_numbers a_sp_counts a_sp_askedBits a_sp_askedBeginnings a_sp_waitingBits a_sp_waitingBeginnings x_n x_blocker x_blockerBits x_tornBy tg_size tg_numbers tg_strengths out.2.1 out.2.2.1 out.2.2.2.1 out.2.2.2.2.1 out.2.2.2.2.2.1 out.2.2.2.2.2.2.1 out.2.2.2.2.2.2.2.1 out.2.2.2.2.2.2.2.2.1 out.2.2.2.2.2.2.2.2.2.1 out.2.2.2.2.2.2.2.2.2.2.1 out.2.2.2.2.2.2.2.2.2.2.2.1 out.2.2.2.2.2.2.2.2.2.2.2.2.1 out.2.2.2.2.2.2.2.2.2.2.2.2.2.1 out.2.2.2.2.2.2.2.2.2.2.2.2.2.2.1 out.2.2.2.2.2.2.2.2.2.2.2.2.2.2.2.1 out.2.2.2.2.2.2.2.2.2.2.2.2.2.2.2.2.1 out.2.2.2.2.2.2.2.2.2.2.2.2.2.2.2.2.2.1 (cond out.2.2.2.2.2.2.2.2.2.2.2.2.2.2.2.2.2.2 h_sp h_la) (cond out.2.2.2.2.2.2.2.2.2.2.2.2.2.2.2.2.2.2 h_la h_sp)) → va_S A s.heap H locs → decode cX10_tree pc = .ok (.ireturn, 1) → W p l e ({ frames := 5, cells := 0, slots := 0, locals := 122 } : Room) s m (([.ref h_x, .int v1] : List Value).toArray) below meth c H locs 0 0 (MQ below Qc (([.ref h_x, .int v1] : List Value).toArray) s 0 0 A) (F0 m pc ls [.int out.1]) := fun H locs pc ls hP hD hS hd => W.iret hx hb hr (fun t ht hW => hq _ t (by rw [ht]; exact hP) hD (hS.F ht)) hS.2.2 hd
  generalize MQ below Qc (([.ref h_x, .int v1] : List Value).toArray) s 0 0 A = Q at hQ ⊢
  have hl := lv_entry [.ref h_x, .int v1] (n := 3) (Nat.le_of_ble_eq_true rfl)
  rw [lg_entry_eq]
  generalize (lg_sl [.ref h_x, .int v1] ++ List.replicate (3 - (lg_sl [.ref h_x, .int v1]).length) Slot.unset).toArray = ls at hl ⊢
  have hl : lv_has ls 3 [(0, .ref h_x), (1, .int v1)] := hl
  unfold pX10_tree at hp
  refine lv_iload_n hx hb dX10_tree_0 rfl (lv_at hl 1 rfl) ?_
  refine lv_iconst (v := (0 : Int32)) hx hb dX10_tree_1 (by decide) ?_
  refine lv_iconst (v := (1 : Int32)) hx hb dX10_tree_2 (by decide) ?_
  obtain ⟨o_1, ho_1, hp⟩ := px_b_at hp
  refine px_callR (v := .int o_1) (va_runS (As := [.int v1, .int (0 : Int32), .int (1 : Int32)]) (rest := []) ⟨hx, hb, hml, hown, hts⟩ (ccX10_within l dC dI cyI cyZ cyJ cyB cyO v1 (0 : Int32) (1 : Int32) o_1 ho_1) (va_cwS 3 hts gX10_tree_X10_within rfl rfl rfl hsX10_within ⟨Nat.le_of_ble_eq_true rfl, Nat.le_of_ble_eq_true rfl⟩) (px_preR (wc := []) hK hN hP [] rfl) rfl rfl hl.1 rfl (lv_room (Nat.le_of_ble_eq_true rfl)) dX10_tree_3 ⟨Nat.zero_le _, Nat.zero_le _⟩) ?_
  refine lv_if_ne (tgt := 11) hx hb dX10_tree_6 (by decide) (fun c_2 => ?_) (fun c_2 => ?_)
  · have hp := px_f hp c_2
    refine lv_aload_n hx hb dX10_tree_11 rfl (lv_at hl 0 rfl) ?_
    obtain ⟨o_3, ho_3, hp⟩ := px_b_at hp
    refine px_callWv (wc := (wdX10_gatherTags cyI cyZ cyJ cyB cyO h_x h_tg h_cr h_la h_sp a_x_splitRow h_tp h_tx h_fr h_se h_od h_kn a_x_sheets a_tg_numbers a_tg_strengths a_tg_silent a_cr_numbers x_n x_blocker x_blockerBits x_tornBy tg_size tg_numbers tg_strengths tg_silent cr_size cr_n cr_blockerBits cr_blocker cr_tagsHeard cr_seemingHeard cr_ones cr_zeros cr_numbers h_la h_sp)) (wr := [(h_sp, .inr (9, [.ref a_sp_counts, .ref a_sp_askedBits, .ref a_sp_askedBeginnings, .int sp_kept, .ref a_sp_waitingBits, .ref a_sp_waitingBeginnings, .int sp_waiting])), (a_sp_counts, .inl (cyI, 5, .inl sp_counts)), (a_sp_askedBits, .inl (cyI, 64, .inl sp_askedBits)), (a_sp_askedBeginnings, .inl (cyI, 64, .inl sp_askedBeginnings)), (a_sp_waitingBits, .inl (cyI, 14, .inl sp_waitingBits)), (a_sp_waitingBeginnings, .inl (cyI, 14, .inl sp_waitingBeginnings))]) (w1 := (wdX10_gatherTags cyI cyZ cyJ cyB cyO h_x h_tg h_cr h_la h_sp a_x_splitRow h_tp h_tx h_fr h_se h_od h_kn a_x_sheets a_tg_numbers a_tg_strengths a_tg_silent a_cr_numbers x_n x_blocker x_blockerBits x_tornBy tg_size tg_numbers tg_strengths tg_silent o_3.1 o_3.2.1 o_3.2.2.1 o_3.2.2.2.1 cr_tagsHeard cr_seemingHeard cr_ones cr_zeros o_3.2.2.2.2 h_la h_sp)) (ws2 := (wdX10_tree cyI cyZ cyJ cyB cyO h_x h_tg h_cr h_la h_sp a_x_splitRow h_tp h_tx h_fr h_se h_od h_kn a_x_sheets a_tg_numbers a_tg_strengths a_tg_silent a_cr_numbers a_sp_counts a_sp_askedBits a_sp_askedBeginnings a_sp_waitingBits a_sp_waitingBeginnings x_n x_blocker x_blockerBits x_tornBy tg_size tg_numbers tg_strengths tg_silent o_3.1 o_3.2.1 o_3.2.2.1 o_3.2.2.2.1 cr_tagsHeard cr_seemingHeard cr_ones cr_zeros o_3.2.2.2.2 sp_kept sp_waiting sp_counts sp_askedBits sp_askedBeginnings sp_waitingBits sp_waitingBeginnings h_la h_sp)) (va_runV (As := []) (rest := []) ⟨hx, hb, hml, hown, hts⟩ (ccX10_gatherTags l dC dI cyI cyZ cyJ cyB cyO _ h_x h_tg h_cr h_la h_sp a_x_splitRow h_tp h_tx h_fr h_se h_od h_kn a_x_sheets a_tg_numbers a_tg_strengths a_tg_silent a_cr_numbers x_n x_blocker x_blockerBits x_tornBy tg_size tg_numbers tg_strengths tg_silent cr_size cr_n cr_blockerBits cr_blocker cr_tagsHeard cr_seemingHeard cr_ones cr_zeros cr_numbers o_3 ho_3) (cwV 0 hts gX10_tree_X10_gatherTags rfl rfl rfl hvX10_gatherTags ⟨Nat.le_of_ble_eq_true rfl, Nat.le_of_ble_eq_true rfl⟩) (px_preWV (wc := (wdX10_gatherTags cyI cyZ cyJ cyB cyO h_x h_tg h_cr h_la h_sp a_x_splitRow h_tp h_tx h_fr h_se h_od h_kn a_x_sheets a_tg_numbers a_tg_strengths a_tg_silent a_cr_numbers x_n x_blocker x_blockerBits x_tornBy tg_size tg_numbers tg_strengths tg_silent cr_size cr_n cr_blockerBits cr_blocker cr_tagsHeard cr_seemingHeard cr_ones cr_zeros cr_numbers h_la h_sp)) (ci := 10) (q0 := 0) hK hN hP hD [0, 1, 2, 3, 4, 5, 6] (by decide) rfl rfl rfl) rfl rfl hl.1 rfl (lv_room (Nat.le_of_ble_eq_true rfl)) dX10_tree_12 ⟨Nat.zero_le _, Nat.zero_le _⟩) hP hD hS hA [0, 1, 2, 3, 4, 5, 6] [7, 8, 9, 10, 11, 12] [6, 7, 8, 9, 10, 11, 12, 0, 1, 2, 3, 4, 5] rfl rfl (by decide) (by decide) (by decide) rfl (fun H locs hP hD hS => ?_)
    refine lv_aload_n hx hb dX10_tree_15 rfl (lv_at hl 0 rfl) ?_
    refine va_get (D := (dC, dI)) (ci := 10) (v := .ref h_sp) (C := RX10) (T := TX10) (N := 16) hx hb hts fX10_tree_X10 hown hK hP 0 rfl rfl 7 (by decide) (hts _ kX10_tree_1) (fun _ h9 => h9) rfl dX10_tree_16 ?_
    refine lv_aload_n hx hb dX10_tree_19 rfl (lv_at hl 0 rfl) ?_
    refine va_get (D := (dC, dI)) (ci := 10) (v := .ref h_cr) (C := RX10) (T := TX10) (N := 16) hx hb hts fX10_tree_X10 hown hK hP 0 rfl rfl 5 (by decide) (hts _ kX10_tree_2) (fun _ h9 => h9) rfl dX10_tree_20 ?_
    refine lv_iload_n hx hb dX10_tree_23 rfl (lv_at hl 1 rfl) ?_
    obtain ⟨o_4, ho_4, hp⟩ := px_b_at hp
    refine px_callWi (r := o_4.1) (wc := (wdX9_walk cyI cyZ cyJ cyB cyO h_sp a_sp_counts a_sp_askedBits a_sp_askedBeginnings a_sp_waitingBits a_sp_waitingBeginnings h_cr a_cr_numbers sp_kept sp_waiting sp_counts sp_askedBits sp_askedBeginnings sp_waitingBits sp_waitingBeginnings o_3.1 o_3.2.1 o_3.2.2.1 o_3.2.2.2.1 cr_tagsHeard cr_seemingHeard cr_ones cr_zeros o_3.2.2.2.2)) (wr := [(h_x, .inr (10, [.int x_n, .int x_blocker, .int x_blockerBits, .int x_tornBy, .ref h_tg, .ref h_cr, .ref h_la, .ref h_sp, .ref a_x_splitRow, .ref h_tp, .ref h_tx, .ref h_fr, .ref h_se, .ref h_od, .ref h_kn, .ref a_x_sheets])), (h_tg, .inr (6, [.ref a_tg_numbers, .ref a_tg_strengths, .ref a_tg_silent, .int tg_size])), (a_tg_numbers, .inl (cyI, 16, .inl tg_numbers)), (a_tg_strengths, .inl (cyI, 16, .inl tg_strengths)), (a_tg_silent, .inl (cyZ, 16, .inl tg_silent))]) (w1 := (wdX9_walk cyI cyZ cyJ cyB cyO h_sp a_sp_counts a_sp_askedBits a_sp_askedBeginnings a_sp_waitingBits a_sp_waitingBeginnings h_cr a_cr_numbers o_4.2.1 o_4.2.2.1 o_4.2.2.2.1 o_4.2.2.2.2.1 o_4.2.2.2.2.2.1 o_4.2.2.2.2.2.2.1 o_4.2.2.2.2.2.2.2.1 o_3.1 o_3.2.1 o_3.2.2.1 o_3.2.2.2.1 o_4.2.2.2.2.2.2.2.2.1 o_4.2.2.2.2.2.2.2.2.2.1 o_4.2.2.2.2.2.2.2.2.2.2.1 o_4.2.2.2.2.2.2.2.2.2.2.2 o_3.2.2.2.2)) (ws2 := (wdX10_tree cyI cyZ cyJ cyB cyO h_x h_tg h_cr h_la h_sp a_x_splitRow h_tp h_tx h_fr h_se h_od h_kn a_x_sheets a_tg_numbers a_tg_strengths a_tg_silent a_cr_numbers a_sp_counts a_sp_askedBits a_sp_askedBeginnings a_sp_waitingBits a_sp_waitingBeginnings x_n x_blocker x_blockerBits x_tornBy tg_size tg_numbers tg_strengths tg_silent o_3.1 o_3.2.1 o_3.2.2.1 o_3.2.2.2.1 o_4.2.2.2.2.2.2.2.2.1 o_4.2.2.2.2.2.2.2.2.2.1 o_4.2.2.2.2.2.2.2.2.2.2.1 o_4.2.2.2.2.2.2.2.2.2.2.2 o_3.2.2.2.2 o_4.2.1 o_4.2.2.1 o_4.2.2.2.1 o_4.2.2.2.2.1 o_4.2.2.2.2.2.1 o_4.2.2.2.2.2.2.1 o_4.2.2.2.2.2.2.2.1 h_la h_sp)) (va_runV (As := [.ref h_cr, .int v1]) (rest := []) ⟨hx, hb, hml, hown, hts⟩ (ccX9_walk l dC dI cyI cyZ cyJ cyB cyO _ h_sp a_sp_counts a_sp_askedBits a_sp_askedBeginnings a_sp_waitingBits a_sp_waitingBeginnings h_cr a_cr_numbers sp_kept sp_waiting sp_counts sp_askedBits sp_askedBeginnings sp_waitingBits sp_waitingBeginnings o_3.1 o_3.2.1 o_3.2.2.1 o_3.2.2.2.1 cr_tagsHeard cr_seemingHeard cr_ones cr_zeros o_3.2.2.2.2 v1 o_4 ho_4) (cwV 2 hts gX10_tree_X9_walk rfl rfl rfl hvX9_walk ⟨Nat.le_of_ble_eq_true rfl, Nat.le_of_ble_eq_true rfl⟩) (px_preWV (wc := (wdX9_walk cyI cyZ cyJ cyB cyO h_sp a_sp_counts a_sp_askedBits a_sp_askedBeginnings a_sp_waitingBits a_sp_waitingBeginnings h_cr a_cr_numbers sp_kept sp_waiting sp_counts sp_askedBits sp_askedBeginnings sp_waitingBits sp_waitingBeginnings o_3.1 o_3.2.1 o_3.2.2.1 o_3.2.2.2.1 cr_tagsHeard cr_seemingHeard cr_ones cr_zeros o_3.2.2.2.2)) (ci := 9) (q0 := 7) hK hN hP hD [7, 8, 9, 10, 11, 12, 5, 6] (by decide) rfl rfl rfl) rfl rfl hl.1 rfl (lv_room (Nat.le_of_ble_eq_true rfl)) dX10_tree_24 ⟨Nat.zero_le _, Nat.zero_le _⟩) hP hD hS hA [7, 8, 9, 10, 11, 12, 5, 6] [0, 1, 2, 3, 4] [0, 1, 2, 3, 4, 11, 12, 5, 6, 7, 8, 9, 10] rfl rfl (by decide) (by decide) (by decide) rfl (fun H locs hP hD hS => ?_)
    refine lv_if_ne (tgt := 33) hx hb dX10_tree_27 (by decide) (fun c_5 => ?_) (fun c_5 => ?_)
    · have hp := px_f hp c_5
      refine lv_aload_n hx hb dX10_tree_33 rfl (lv_at hl 0 rfl) ?_
      refine va_get (D := (dC, dI)) (ci := 10) (v := .ref h_la) (C := RX10) (T := TX10) (N := 16) hx hb hts fX10_tree_X10 hown hK hP 0 rfl rfl 6 (by decide) (hts _ kX10_tree_3) (fun _ h9 => h9) rfl dX10_tree_34 ?_
      refine lv_astore_n (lv' := [(2, .ref h_la), (0, .ref h_x), (1, .int v1)]) hx hb dX10_tree_37 rfl hl (by decide) rfl (fun ls hl => ?_)
      refine lv_aload_n hx hb dX10_tree_38 rfl (lv_at hl 1 rfl) ?_
      refine lv_aload_n hx hb dX10_tree_39 rfl (lv_at hl 1 rfl) ?_
      refine va_get (D := (dC, dI)) (ci := 10) (v := .ref h_sp) (C := RX10) (T := TX10) (N := 16) hx hb hts fX10_tree_X10 hown hK hP 0 rfl rfl 7 (by decide) (hts _ kX10_tree_1) (fun _ h9 => h9) rfl dX10_tree_40 ?_
      refine va_put (D := (dC, dI)) (ci := 10) (v := .ref h_sp) (ty := .object "TagReader$Tree") (C := RX10) (T := TX10) (N := 16) hx hb hts fX10_tree_X10 tyX10 tyX10_ok nmX10 hown hK hP hD hS 0 rfl rfl 6 (by decide) (hts _ kX10_tree_3) (fun _ h9 => h9) rfl (tyX10_ok 6 (by decide)) rfl rfl (Nat.le_of_ble_eq_true rfl) dX10_tree_43 (fun H locs hP hD hS => ?_)
      have hP : va_P (dC, dI) vwCl (wdX10_tree cyI cyZ cyJ cyB cyO h_x h_tg h_cr h_la h_sp a_x_splitRow h_tp h_tx h_fr h_se h_od h_kn a_x_sheets a_tg_numbers a_tg_strengths a_tg_silent a_cr_numbers a_sp_counts a_sp_askedBits a_sp_askedBeginnings a_sp_waitingBits a_sp_waitingBeginnings x_n x_blocker x_blockerBits x_tornBy tg_size tg_numbers tg_strengths tg_silent o_3.1 o_3.2.1 o_3.2.2.1 o_3.2.2.2.1 o_4.2.2.2.2.2.2.2.2.1 o_4.2.2.2.2.2.2.2.2.2.1 o_4.2.2.2.2.2.2.2.2.2.2.1 o_4.2.2.2.2.2.2.2.2.2.2.2 o_3.2.2.2.2 o_4.2.1 o_4.2.2.1 o_4.2.2.2.1 o_4.2.2.2.2.1 o_4.2.2.2.2.2.1 o_4.2.2.2.2.2.2.1 o_4.2.2.2.2.2.2.2.1 h_sp h_sp) H := hP
      have hD : va_D A (wdX10_tree cyI cyZ cyJ cyB cyO h_x h_tg h_cr h_la h_sp a_x_splitRow h_tp h_tx h_fr h_se h_od h_kn a_x_sheets a_tg_numbers a_tg_strengths a_tg_silent a_cr_numbers a_sp_counts a_sp_askedBits a_sp_askedBeginnings a_sp_waitingBits a_sp_waitingBeginnings x_n x_blocker x_blockerBits x_tornBy tg_size tg_numbers tg_strengths tg_silent o_3.1 o_3.2.1 o_3.2.2.1 o_3.2.2.2.1 o_4.2.2.2.2.2.2.2.2.1 o_4.2.2.2.2.2.2.2.2.2.1 o_4.2.2.2.2.2.2.2.2.2.2.1 o_4.2.2.2.2.2.2.2.2.2.2.2 o_3.2.2.2.2 o_4.2.1 o_4.2.2.1 o_4.2.2.2.1 o_4.2.2.2.2.1 o_4.2.2.2.2.2.1 o_4.2.2.2.2.2.2.1 o_4.2.2.2.2.2.2.2.1 h_sp h_sp) := hD
      refine lv_aload_n hx hb dX10_tree_46 rfl (lv_at hl 1 rfl) ?_
      refine lv_aload_n hx hb dX10_tree_47 rfl (lv_at hl 0 rfl) ?_
      refine va_put (D := (dC, dI)) (ci := 10) (v := .ref h_la) (ty := .object "TagReader$Tree") (C := RX10) (T := TX10) (N := 16) hx hb hts fX10_tree_X10 tyX10 tyX10_ok nmX10 hown hK hP hD hS 0 rfl rfl 7 (by decide) (hts _ kX10_tree_1) (fun _ h9 => h9) rfl (tyX10_ok 7 (by decide)) rfl rfl (Nat.le_of_ble_eq_true rfl) dX10_tree_48 (fun H locs hP hD hS => ?_)
      have hP : va_P (dC, dI) vwCl (wdX10_tree cyI cyZ cyJ cyB cyO h_x h_tg h_cr h_la h_sp a_x_splitRow h_tp h_tx h_fr h_se h_od h_kn a_x_sheets a_tg_numbers a_tg_strengths a_tg_silent a_cr_numbers a_sp_counts a_sp_askedBits a_sp_askedBeginnings a_sp_waitingBits a_sp_waitingBeginnings x_n x_blocker x_blockerBits x_tornBy tg_size tg_numbers tg_strengths tg_silent o_3.1 o_3.2.1 o_3.2.2.1 o_3.2.2.2.1 o_4.2.2.2.2.2.2.2.2.1 o_4.2.2.2.2.2.2.2.2.2.1 o_4.2.2.2.2.2.2.2.2.2.2.1 o_4.2.2.2.2.2.2.2.2.2.2.2 o_3.2.2.2.2 o_4.2.1 o_4.2.2.1 o_4.2.2.2.1 o_4.2.2.2.2.1 o_4.2.2.2.2.2.1 o_4.2.2.2.2.2.2.1 o_4.2.2.2.2.2.2.2.1 h_sp h_la) H := hP
      have hD : va_D A (wdX10_tree cyI cyZ cyJ cyB cyO h_x h_tg h_cr h_la h_sp a_x_splitRow h_tp h_tx h_fr h_se h_od h_kn a_x_sheets a_tg_numbers a_tg_strengths a_tg_silent a_cr_numbers a_sp_counts a_sp_askedBits a_sp_askedBeginnings a_sp_waitingBits a_sp_waitingBeginnings x_n x_blocker x_blockerBits x_tornBy tg_size tg_numbers tg_strengths tg_silent o_3.1 o_3.2.1 o_3.2.2.1 o_3.2.2.2.1 o_4.2.2.2.2.2.2.2.2.1 o_4.2.2.2.2.2.2.2.2.2.1 o_4.2.2.2.2.2.2.2.2.2.2.1 o_4.2.2.2.2.2.2.2.2.2.2.2 o_3.2.2.2.2 o_4.2.1 o_4.2.2.1 o_4.2.2.2.1 o_4.2.2.2.2.1 o_4.2.2.2.2.2.1 o_4.2.2.2.2.2.2.1 o_4.2.2.2.2.2.2.2.1 h_sp h_la) := hD
      refine lv_aload_n hx hb dX10_tree_51 rfl (lv_at hl 1 rfl) ?_
      refine va_get (D := (dC, dI)) (ci := 10) (v := .ref h_tg) (C := RX10) (T := TX10) (N := 16) hx hb hts fX10_tree_X10 hown hK hP 0 rfl rfl 4 (by decide) (hts _ kX10_tree_4) (fun _ h9 => h9) rfl dX10_tree_52 ?_
      refine lv_iconst (v := (1 : Int32)) hx hb dX10_tree_55 (by decide) ?_
      obtain ⟨o_6, ho_6, hp⟩ := px_b_at hp
      refine px_callWv (wc := (wdX6_silenceAll cyI cyZ cyJ cyB cyO h_tg a_tg_numbers a_tg_strengths a_tg_silent tg_size tg_numbers tg_strengths tg_silent)) (wr := [(h_x, .inr (10, [.int x_n, .int x_blocker, .int x_blockerBits, .int x_tornBy, .ref h_tg, .ref h_cr, .ref h_sp, .ref h_la, .ref a_x_splitRow, .ref h_tp, .ref h_tx, .ref h_fr, .ref h_se, .ref h_od, .ref h_kn, .ref a_x_sheets])), (h_cr, .inr (0, [.ref a_cr_numbers, .int o_3.1, .int o_3.2.1, .int o_3.2.2.1, .int o_3.2.2.2.1, .int o_4.2.2.2.2.2.2.2.2.1, .int o_4.2.2.2.2.2.2.2.2.2.1, .int o_4.2.2.2.2.2.2.2.2.2.2.1, .int o_4.2.2.2.2.2.2.2.2.2.2.2])), (a_cr_numbers, .inl (cyI, 32, .inl o_3.2.2.2.2)), (h_sp, .inr (9, [.ref a_sp_counts, .ref a_sp_askedBits, .ref a_sp_askedBeginnings, .int o_4.2.1, .ref a_sp_waitingBits, .ref a_sp_waitingBeginnings, .int o_4.2.2.1])), (a_sp_counts, .inl (cyI, 5, .inl o_4.2.2.2.1)), (a_sp_askedBits, .inl (cyI, 64, .inl o_4.2.2.2.2.1)), (a_sp_askedBeginnings, .inl (cyI, 64, .inl o_4.2.2.2.2.2.1)), (a_sp_waitingBits, .inl (cyI, 14, .inl o_4.2.2.2.2.2.2.1)), (a_sp_waitingBeginnings, .inl (cyI, 14, .inl o_4.2.2.2.2.2.2.2.1))]) (w1 := (wdX6_silenceAll cyI cyZ cyJ cyB cyO h_tg a_tg_numbers a_tg_strengths a_tg_silent tg_size tg_numbers tg_strengths o_6)) (ws2 := (wdX10_tree cyI cyZ cyJ cyB cyO h_x h_tg h_cr h_la h_sp a_x_splitRow h_tp h_tx h_fr h_se h_od h_kn a_x_sheets a_tg_numbers a_tg_strengths a_tg_silent a_cr_numbers a_sp_counts a_sp_askedBits a_sp_askedBeginnings a_sp_waitingBits a_sp_waitingBeginnings x_n x_blocker x_blockerBits x_tornBy tg_size tg_numbers tg_strengths o_6 o_3.1 o_3.2.1 o_3.2.2.1 o_3.2.2.2.1 o_4.2.2.2.2.2.2.2.2.1 o_4.2.2.2.2.2.2.2.2.2.1 o_4.2.2.2.2.2.2.2.2.2.2.1 o_4.2.2.2.2.2.2.2.2.2.2.2 o_3.2.2.2.2 o_4.2.1 o_4.2.2.1 o_4.2.2.2.1 o_4.2.2.2.2.1 o_4.2.2.2.2.2.1 o_4.2.2.2.2.2.2.1 o_4.2.2.2.2.2.2.2.1 h_sp h_la)) (va_runV (As := [.int (1 : Int32)]) (rest := []) ⟨hx, hb, hml, hown, hts⟩ (ccX6_silenceAll l dC dI cyI cyZ cyJ cyB cyO _ h_tg a_tg_numbers a_tg_strengths a_tg_silent tg_size tg_numbers tg_strengths tg_silent (1 : Int32) o_6 ho_6) (cwV 1 hts gX10_tree_X6_silenceAll rfl rfl rfl hvX6_silenceAll ⟨Nat.le_of_ble_eq_true rfl, Nat.le_of_ble_eq_true rfl⟩) (px_preWV (wc := (wdX6_silenceAll cyI cyZ cyJ cyB cyO h_tg a_tg_numbers a_tg_strengths a_tg_silent tg_size tg_numbers tg_strengths tg_silent)) (ci := 6) (q0 := 1) hK hN hP hD [1, 2, 3, 4] (by decide) rfl rfl rfl) rfl rfl hl.1 rfl (lv_room (Nat.le_of_ble_eq_true rfl)) dX10_tree_56 ⟨Nat.zero_le _, Nat.zero_le _⟩) hP hD hS hA [1, 2, 3, 4] [0, 5, 6, 7, 8, 9, 10, 11, 12] [0, 9, 10, 11, 12, 1, 2, 3, 4, 5, 6, 7, 8] rfl rfl (by decide) (by decide) (by decide) rfl (fun H locs hP hD hS => ?_)
      refine lv_aload_n hx hb dX10_tree_59 rfl (lv_at hl 1 rfl) ?_
      refine va_get (D := (dC, dI)) (ci := 10) (v := .ref h_sp) (C := RX10) (T := TX10) (N := 16) hx hb hts fX10_tree_X10 hown hK hP 0 rfl rfl 6 (by decide) (hts _ kX10_tree_3) (fun _ h9 => h9) rfl dX10_tree_60 ?_
      refine va_get (D := (dC, dI)) (ci := 9) (v := .ref a_sp_counts) (C := RX9) (T := TX9) (N := 7) hx hb hts fX10_tree_X9 hown hK hP 7 rfl rfl 0 (by decide) (hts _ kX10_tree_5) (fun _ h9 => h9) rfl dX10_tree_63 ?_
      refine lv_iconst (v := (0 : Int32)) hx hb dX10_tree_66 (by decide) ?_
      refine va_iald (D := (dC, dI)) hx hb hK hP 8 0 rfl rfl (px_in0_5) dX10_tree_67 ?_
      have ho := px_s hp
      subst ho
      exact hQ _ _ _ _ hP hD hS dX10_tree_68
    · have hp := px_t hp c_5
      refine lv_bipush (v := (-6 : Int32)) hx hb dX10_tree_30 (by decide) ?_
      have ho := px_s hp
      subst ho
      exact hQ _ _ _ _ hP hD hS dX10_tree_32
  · have hp := px_t hp c_2
    refine lv_iconst (v := (-1 : Int32)) hx hb dX10_tree_9 (by decide) ?_
    have ho := px_s hp
    subst ho
    exact hQ _ _ _ _ hP hD hS dX10_tree_10
/-! TagReader.grown(I)I -/
theorem hvX10_grown : yX10_grown.cls = RX10 ∧ yX10_grown.cls ≠ "java/lang/invoke/MethodHandle" ∧ yX10_grown.cls ≠ "java/lang/invoke/VarHandle" ∧ (parseMethodDescriptor yX10_grown.desc).map (fun d => d.parameters.length) = some 1 := by decide +kernel
theorem fX10_grown_X10 : ∀ w ∈ u_ws RX10 TX10 16, w ∈ wsX10_grown := fun _ h => List.mem_cons_of_mem _ (List.mem_append_left _ (List.mem_append_right _ h))
theorem kX10_grown_1 : (.fieldLink RX10 39 "TagReader" "latest" "LTagReader$Tree;" : Cond) ∈ wsX10_grown := List.mem_of_getElem? (i := 1) rfl
theorem fX10_grown_X9 : ∀ w ∈ u_ws RX9 TX9 7, w ∈ wsX10_grown := fun _ h => List.mem_cons_of_mem _ (List.mem_append_right _ h)
theorem kX10_grown_2 : (.fieldLink RX10 169 "TagReader$Tree" "counts" "[I" : Cond) ∈ wsX10_grown := List.mem_of_getElem? (i := 2) rfl
set_option maxHeartbeats 4000000 in
set_option maxRecDepth 100000 in
theorem ccX10_grown (l : Launch) (dC : Nat → ClassId) (dI : Nat → Nat → Nat) (cyI cyZ cyJ cyB cyO : ClassId) (h_x h_tg h_cr h_la h_sp a_x_splitRow h_tp h_tx h_fr h_se h_od h_kn a_x_sheets a_la_counts a_la_askedBits a_la_askedBeginnings a_la_waitingBits a_la_waitingBeginnings : Nat) (x_n : Int32) (x_blocker : Int32) (x_blockerBits : Int32) (x_tornBy : Int32) (la_kept : Int32) (la_waiting : Int32) (la_counts : Nat → Int32) (la_askedBits : Nat → Int32) (la_askedBeginnings : Nat → Int32) (la_waitingBits : Nat → Int32) (la_waitingBeginnings : Nat → Int32) (v1 : Int32) (out : Int32) (hp : pX10_grown v1 la_counts = some out) : Met l yX10_grown wsX10_grown ({ frames := 1, cells := 0, slots := 0, locals := 22 } : Room) (px_PR (dC, dI) (px_TY cyI cyZ cyJ cyB cyO) [.ref h_x, .int v1] (wdX10_grown cyI cyZ cyJ cyB cyO h_x h_tg h_cr h_la h_sp a_x_splitRow h_tp h_tx h_fr h_se h_od h_kn a_x_sheets a_la_counts a_la_askedBits a_la_askedBeginnings a_la_waitingBits a_la_waitingBeginnings x_n x_blocker x_blockerBits x_tornBy la_kept la_waiting la_counts la_askedBits la_askedBeginnings la_waitingBits la_waitingBeginnings h_la h_sp)) (px_QR (.int out)) 0 0 (fun _ => False) := by
  refine Met.ofW (cc := cX10_grown) (maxL := 2) (ret := (some .int)) (by decide) rfl ?_
  intro p e s m args below meth c s₁ B hml hv
  obtain ⟨rfl, hP, hK, hN⟩ := hv
  have hx := B.exec
  have hb := B.bytes
  have hr := B.returns
  have hts := atoms_spec (ws := wsX10_grown) B.pre
  have hown : s.vm.findClass RX10 = some m.cls := findClass_of_methodNamed B.named
  have hlocks := B.notSynchronized
  have hQ : ∀ (pc : Nat) (ls : Array Slot), decode cX10_grown pc = .ok (.ireturn, 1) → W p l e ({ frames := 1, cells := 0, slots := 0, locals := 22 } : Room) s m (([.ref h_x, .int v1] : List Value).toArray) below meth c s.heap [] 0 0 (MQ below (px_QR (.int out)) (([.ref h_x, .int v1] : List Value).toArray) s 0 0 (fun _ => False)) (F0 m pc ls [.int out]) := fun pc ls hd => W.iret hx hb hr (fun t ht hW => ⟨rfl, ht⟩) (fun q h => by cases h) hd
  generalize MQ below (px_QR (.int out)) (([.ref h_x, .int v1] : List Value).toArray) s 0 0 (fun _ => False) = Q at hQ ⊢
  have hl := lv_entry [.ref h_x, .int v1] (n := 2) (Nat.le_of_ble_eq_true rfl)
  rw [lg_entry_eq]
  generalize (lg_sl [.ref h_x, .int v1] ++ List.replicate (2 - (lg_sl [.ref h_x, .int v1]).length) Slot.unset).toArray = ls at hl ⊢
  have hl : lv_has ls 2 [(0, .ref h_x), (1, .int v1)] := hl
  unfold pX10_grown at hp
  refine lv_iload_n hx hb dX10_grown_0 rfl (lv_at hl 1 rfl) ?_
  refine lv_iconst (v := (0 : Int32)) hx hb dX10_grown_1 (by decide) ?_
  refine lv_iconst (v := (4 : Int32)) hx hb dX10_grown_2 (by decide) ?_
  obtain ⟨o_1, ho_1, hp⟩ := px_b_at hp
  refine px_callR (v := .int o_1) (va_runS (As := [.int v1, .int (0 : Int32), .int (4 : Int32)]) (rest := []) ⟨hx, hb, hml, hown, hts⟩ (ccX10_within l dC dI cyI cyZ cyJ cyB cyO v1 (0 : Int32) (4 : Int32) o_1 ho_1) (va_cwS 3 hts gX10_grown_X10_within rfl rfl rfl hsX10_within ⟨Nat.le_of_ble_eq_true rfl, Nat.le_of_ble_eq_true rfl⟩) (px_preR (wc := []) hK hN hP [] rfl) rfl rfl hl.1 rfl (lv_room (Nat.le_of_ble_eq_true rfl)) dX10_grown_3 ⟨Nat.zero_le _, Nat.zero_le _⟩) ?_
  refine lv_if_ne (tgt := 11) hx hb dX10_grown_6 (by decide) (fun c_2 => ?_) (fun c_2 => ?_)
  · have hp := px_f hp c_2
    refine lv_aload_n hx hb dX10_grown_11 rfl (lv_at hl 0 rfl) ?_
    refine va_get (D := (dC, dI)) (ci := 10) (v := .ref h_la) (C := RX10) (T := TX10) (N := 16) hx hb hts fX10_grown_X10 hown hK hP 0 rfl rfl 6 (by decide) (hts _ kX10_grown_1) (fun _ h9 => h9) rfl dX10_grown_12 ?_
    obtain ⟨o_3, ho_3, hp⟩ := px_b_at hp
    refine px_callR (v := .int o_3) (va_runV (As := []) (rest := []) ⟨hx, hb, hml, hown, hts⟩ (ccX9_wasWalked l dC dI cyI cyZ cyJ cyB cyO h_la a_la_counts a_la_askedBits a_la_askedBeginnings a_la_waitingBits a_la_waitingBeginnings la_kept la_waiting la_counts la_askedBits la_askedBeginnings la_waitingBits la_waitingBeginnings o_3 ho_3) (cwV 0 hts gX10_grown_X9_wasWalked rfl rfl rfl hvX9_wasWalked ⟨Nat.le_of_ble_eq_true rfl, Nat.le_of_ble_eq_true rfl⟩) (px_preRV (wc := (wdX9_wasWalked cyI cyZ cyJ cyB cyO h_la a_la_counts a_la_askedBits a_la_askedBeginnings a_la_waitingBits a_la_waitingBeginnings la_kept la_waiting la_counts la_askedBits la_askedBeginnings la_waitingBits la_waitingBeginnings)) (ci := 9) (q0 := 1) hK hN hP [1, 2, 3, 4, 5, 6] rfl rfl rfl) rfl rfl hl.1 rfl (lv_room (Nat.le_of_ble_eq_true rfl)) dX10_grown_15 ⟨Nat.zero_le _, Nat.zero_le _⟩) ?_
    refine lv_if_eq (tgt := 33) hx hb dX10_grown_18 (by decide) (fun c_4 => ?_) (fun c_4 => ?_)
    · have hp := px_t hp c_4
      refine lv_bipush (v := (-2 : Int32)) hx hb dX10_grown_33 (by decide) ?_
      have ho := px_s hp
      subst ho
      exact hQ _ _ dX10_grown_35
    · have hp := px_f hp c_4
      refine lv_aload_n hx hb dX10_grown_21 rfl (lv_at hl 0 rfl) ?_
      refine va_get (D := (dC, dI)) (ci := 10) (v := .ref h_la) (C := RX10) (T := TX10) (N := 16) hx hb hts fX10_grown_X10 hown hK hP 0 rfl rfl 6 (by decide) (hts _ kX10_grown_1) (fun _ h9 => h9) rfl dX10_grown_22 ?_
      refine va_get (D := (dC, dI)) (ci := 9) (v := .ref a_la_counts) (C := RX9) (T := TX9) (N := 7) hx hb hts fX10_grown_X9 hown hK hP 1 rfl rfl 0 (by decide) (hts _ kX10_grown_2) (fun _ h9 => h9) rfl dX10_grown_25 ?_
      refine lv_iload_n hx hb dX10_grown_28 rfl (lv_at hl 1 rfl) ?_
      obtain ⟨g_5, hp⟩ := px_i_at hp
      refine va_iald (D := (dC, dI)) hx hb hK hP 2 0 rfl rfl g_5 dX10_grown_29 ?_
      refine lv_goto (tgt := 35) hx hb dX10_grown_30 (by decide) ?_
      have ho := px_s hp
      subst ho
      exact hQ _ _ dX10_grown_35
  · have hp := px_t hp c_2
    refine lv_iconst (v := (-1 : Int32)) hx hb dX10_grown_9 (by decide) ?_
    have ho := px_s hp
    subst ho
    exact hQ _ _ dX10_grown_10
/-! TagReader.heard(II)I -/
theorem hvX10_heard : yX10_heard.cls = RX10 ∧ yX10_heard.cls ≠ "java/lang/invoke/MethodHandle" ∧ yX10_heard.cls ≠ "java/lang/invoke/VarHandle" ∧ (parseMethodDescriptor yX10_heard.desc).map (fun d => d.parameters.length) = some 2 := by decide +kernel
theorem fX10_heard_X10 : ∀ w ∈ u_ws RX10 TX10 16, w ∈ wsX10_heard := fun _ h => List.mem_cons_of_mem _ (List.mem_append_left _ (List.mem_append_right _ h))
theorem kX10_heard_1 : (.fieldLink RX10 39 "TagReader" "latest" "LTagReader$Tree;" : Cond) ∈ wsX10_heard := List.mem_of_getElem? (i := 1) rfl
theorem fX10_heard_X9 : ∀ w ∈ u_ws RX9 TX9 7, w ∈ wsX10_heard := fun _ h => List.mem_cons_of_mem _ (List.mem_append_right _ h)
theorem kX10_heard_2 : (.fieldLink RX10 176 "TagReader$Tree" "kept" "I" : Cond) ∈ wsX10_heard := List.mem_of_getElem? (i := 2) rfl
theorem kX10_heard_4 : (.fieldLink RX10 182 "TagReader$Tree" "askedBeginnings" "[I" : Cond) ∈ wsX10_heard := List.mem_of_getElem? (i := 4) rfl
theorem kX10_heard_3 : (.fieldLink RX10 179 "TagReader$Tree" "askedBits" "[I" : Cond) ∈ wsX10_heard := List.mem_of_getElem? (i := 3) rfl
set_option maxHeartbeats 4000000 in
set_option maxRecDepth 100000 in
theorem ccX10_heard (l : Launch) (dC : Nat → ClassId) (dI : Nat → Nat → Nat) (cyI cyZ cyJ cyB cyO : ClassId) (h_x h_tg h_cr h_la h_sp a_x_splitRow h_tp h_tx h_fr h_se h_od h_kn a_x_sheets a_la_counts a_la_askedBits a_la_askedBeginnings a_la_waitingBits a_la_waitingBeginnings : Nat) (x_n : Int32) (x_blocker : Int32) (x_blockerBits : Int32) (x_tornBy : Int32) (la_kept : Int32) (la_waiting : Int32) (la_counts : Nat → Int32) (la_askedBits : Nat → Int32) (la_askedBeginnings : Nat → Int32) (la_waitingBits : Nat → Int32) (la_waitingBeginnings : Nat → Int32) (v1 : Int32) (v2 : Int32) (out : Int32) (hp : pX10_heard v1 v2 la_kept la_askedBits la_askedBeginnings = some out) : Met l yX10_heard wsX10_heard ({ frames := 1, cells := 0, slots := 0, locals := 22 } : Room) (px_PR (dC, dI) (px_TY cyI cyZ cyJ cyB cyO) [.ref h_x, .int v1, .int v2] (wdX10_heard cyI cyZ cyJ cyB cyO h_x h_tg h_cr h_la h_sp a_x_splitRow h_tp h_tx h_fr h_se h_od h_kn a_x_sheets a_la_counts a_la_askedBits a_la_askedBeginnings a_la_waitingBits a_la_waitingBeginnings x_n x_blocker x_blockerBits x_tornBy la_kept la_waiting la_counts la_askedBits la_askedBeginnings la_waitingBits la_waitingBeginnings h_la h_sp)) (px_QR (.int out)) 0 0 (fun _ => False) := by
  refine Met.ofW (cc := cX10_heard) (maxL := 3) (ret := (some .int)) (by decide) rfl ?_
  intro p e s m args below meth c s₁ B hml hv
  obtain ⟨rfl, hP, hK, hN⟩ := hv
  have hx := B.exec
  have hb := B.bytes
  have hr := B.returns
  have hts := atoms_spec (ws := wsX10_heard) B.pre
  have hown : s.vm.findClass RX10 = some m.cls := findClass_of_methodNamed B.named
  have hlocks := B.notSynchronized
  have hQ : ∀ (pc : Nat) (ls : Array Slot), decode cX10_heard pc = .ok (.ireturn, 1) → W p l e ({ frames := 1, cells := 0, slots := 0, locals := 22 } : Room) s m (([.ref h_x, .int v1, .int v2] : List Value).toArray) below meth c s.heap [] 0 0 (MQ below (px_QR (.int out)) (([.ref h_x, .int v1, .int v2] : List Value).toArray) s 0 0 (fun _ => False)) (F0 m pc ls [.int out]) := fun pc ls hd => W.iret hx hb hr (fun t ht hW => ⟨rfl, ht⟩) (fun q h => by cases h) hd
  generalize MQ below (px_QR (.int out)) (([.ref h_x, .int v1, .int v2] : List Value).toArray) s 0 0 (fun _ => False) = Q at hQ ⊢
  have hl := lv_entry [.ref h_x, .int v1, .int v2] (n := 3) (Nat.le_of_ble_eq_true rfl)
  rw [lg_entry_eq]
  generalize (lg_sl [.ref h_x, .int v1, .int v2] ++ List.replicate (3 - (lg_sl [.ref h_x, .int v1, .int v2]).length) Slot.unset).toArray = ls at hl ⊢
  have hl : lv_has ls 3 [(0, .ref h_x), (1, .int v1), (2, .int v2)] := hl
  unfold pX10_heard at hp
  refine lv_iload_n hx hb dX10_heard_0 rfl (lv_at hl 1 rfl) ?_
  refine lv_iconst (v := (0 : Int32)) hx hb dX10_heard_1 (by decide) ?_
  refine lv_aload_n hx hb dX10_heard_2 rfl (lv_at hl 0 rfl) ?_
  refine va_get (D := (dC, dI)) (ci := 10) (v := .ref h_la) (C := RX10) (T := TX10) (N := 16) hx hb hts fX10_heard_X10 hown hK hP 0 rfl rfl 6 (by decide) (hts _ kX10_heard_1) (fun _ h9 => h9) rfl dX10_heard_3 ?_
  refine va_get (D := (dC, dI)) (ci := 9) (v := .int la_kept) (C := RX9) (T := TX9) (N := 7) hx hb hts fX10_heard_X9 hown hK hP 1 rfl rfl 3 (by decide) (hts _ kX10_heard_2) (fun _ h9 => h9) rfl dX10_heard_6 ?_
  refine lv_iconst (v := (1 : Int32)) hx hb dX10_heard_9 (by decide) ?_
  refine lv_isub hx hb dX10_heard_10 ?_
  obtain ⟨o_1, ho_1, hp⟩ := px_b_at hp
  refine px_callR (v := .int o_1) (va_runS (As := [.int v1, .int (0 : Int32), .int (la_kept - (1 : Int32))]) (rest := []) ⟨hx, hb, hml, hown, hts⟩ (ccX10_within l dC dI cyI cyZ cyJ cyB cyO v1 (0 : Int32) (la_kept - (1 : Int32)) o_1 ho_1) (va_cwS 3 hts gX10_heard_X10_within rfl rfl rfl hsX10_within ⟨Nat.le_of_ble_eq_true rfl, Nat.le_of_ble_eq_true rfl⟩) (px_preR (wc := []) hK hN hP [] rfl) rfl rfl hl.1 rfl (lv_room (Nat.le_of_ble_eq_true rfl)) dX10_heard_11 ⟨Nat.zero_le _, Nat.zero_le _⟩) ?_
  refine lv_if_eq (tgt := 26) hx hb dX10_heard_14 (by decide) (fun c_2 => ?_) (fun c_2 => ?_)
  · have hp := px_t hp c_2
    refine lv_iconst (v := (-1 : Int32)) hx hb dX10_heard_26 (by decide) ?_
    have ho := px_s hp
    subst ho
    exact hQ _ _ dX10_heard_27
  · have hp := px_f hp c_2
    refine lv_iload_n hx hb dX10_heard_17 rfl (lv_at hl 2 rfl) ?_
    refine lv_iconst (v := (0 : Int32)) hx hb dX10_heard_18 (by decide) ?_
    refine lv_iconst (v := (1 : Int32)) hx hb dX10_heard_19 (by decide) ?_
    obtain ⟨o_3, ho_3, hp⟩ := px_b_at hp
    refine px_callR (v := .int o_3) (va_runS (As := [.int v2, .int (0 : Int32), .int (1 : Int32)]) (rest := []) ⟨hx, hb, hml, hown, hts⟩ (ccX10_within l dC dI cyI cyZ cyJ cyB cyO v2 (0 : Int32) (1 : Int32) o_3 ho_3) (va_cwS 3 hts gX10_heard_X10_within rfl rfl rfl hsX10_within ⟨Nat.le_of_ble_eq_true rfl, Nat.le_of_ble_eq_true rfl⟩) (px_preR (wc := []) hK hN hP [] rfl) rfl rfl hl.1 rfl (lv_room (Nat.le_of_ble_eq_true rfl)) dX10_heard_20 ⟨Nat.zero_le _, Nat.zero_le _⟩) ?_
    refine lv_if_ne (tgt := 28) hx hb dX10_heard_23 (by decide) (fun c_4 => ?_) (fun c_4 => ?_)
    · have hp := px_f hp c_4
      refine lv_iload_n hx hb dX10_heard_28 rfl (lv_at hl 2 rfl) ?_
      refine lv_if_ne (tgt := 44) hx hb dX10_heard_29 (by decide) (fun c_5 => ?_) (fun c_5 => ?_)
      · have hp := px_f hp c_5
        refine lv_aload_n hx hb dX10_heard_44 rfl (lv_at hl 0 rfl) ?_
        refine va_get (D := (dC, dI)) (ci := 10) (v := .ref h_la) (C := RX10) (T := TX10) (N := 16) hx hb hts fX10_heard_X10 hown hK hP 0 rfl rfl 6 (by decide) (hts _ kX10_heard_1) (fun _ h9 => h9) rfl dX10_heard_45 ?_
        refine va_get (D := (dC, dI)) (ci := 9) (v := .ref a_la_askedBeginnings) (C := RX9) (T := TX9) (N := 7) hx hb hts fX10_heard_X9 hown hK hP 1 rfl rfl 2 (by decide) (hts _ kX10_heard_4) (fun _ h9 => h9) rfl dX10_heard_48 ?_
        refine lv_iload_n hx hb dX10_heard_51 rfl (lv_at hl 1 rfl) ?_
        obtain ⟨g_6, hp⟩ := px_i_at hp
        refine va_iald (D := (dC, dI)) hx hb hK hP 4 0 rfl rfl g_6 dX10_heard_52 ?_
        have ho := px_s hp
        subst ho
        exact hQ _ _ dX10_heard_53
      · have hp := px_t hp c_5
        refine lv_aload_n hx hb dX10_heard_32 rfl (lv_at hl 0 rfl) ?_
        refine va_get (D := (dC, dI)) (ci := 10) (v := .ref h_la) (C := RX10) (T := TX10) (N := 16) hx hb hts fX10_heard_X10 hown hK hP 0 rfl rfl 6 (by decide) (hts _ kX10_heard_1) (fun _ h9 => h9) rfl dX10_heard_33 ?_
        refine va_get (D := (dC, dI)) (ci := 9) (v := .ref a_la_askedBits) (C := RX9) (T := TX9) (N := 7) hx hb hts fX10_heard_X9 hown hK hP 1 rfl rfl 1 (by decide) (hts _ kX10_heard_3) (fun _ h9 => h9) rfl dX10_heard_36 ?_
        refine lv_iload_n hx hb dX10_heard_39 rfl (lv_at hl 1 rfl) ?_
        obtain ⟨g_7, hp⟩ := px_i_at hp
        refine va_iald (D := (dC, dI)) hx hb hK hP 3 0 rfl rfl g_7 dX10_heard_40 ?_
        refine lv_goto (tgt := 53) hx hb dX10_heard_41 (by decide) ?_
        have ho := px_s hp
        subst ho
        exact hQ _ _ dX10_heard_53
    · have hp := px_t hp c_4
      refine lv_iconst (v := (-1 : Int32)) hx hb dX10_heard_26 (by decide) ?_
      have ho := px_s hp
      subst ho
      exact hQ _ _ dX10_heard_27
/-! TagReader.learns(I)I -/
theorem hvX10_learns : yX10_learns.cls = RX10 ∧ yX10_learns.cls ≠ "java/lang/invoke/MethodHandle" ∧ yX10_learns.cls ≠ "java/lang/invoke/VarHandle" ∧ (parseMethodDescriptor yX10_learns.desc).map (fun d => d.parameters.length) = some 1 := by decide +kernel
theorem fX10_learns_X10 : ∀ w ∈ u_ws RX10 TX10 16, w ∈ wsX10_learns := fun _ h => List.mem_cons_of_mem _ (List.mem_append_left _ (List.mem_append_right _ h))
theorem kX10_learns_1 : (.fieldLink RX10 39 "TagReader" "latest" "LTagReader$Tree;" : Cond) ∈ wsX10_learns := List.mem_of_getElem? (i := 1) rfl
theorem kX10_learns_2 : (.fieldLink RX10 7 "TagReader" "n" "I" : Cond) ∈ wsX10_learns := List.mem_of_getElem? (i := 2) rfl
set_option maxHeartbeats 4000000 in
set_option maxRecDepth 100000 in
theorem ccX10_learns (l : Launch) (dC : Nat → ClassId) (dI : Nat → Nat → Nat) (cyI cyZ cyJ cyB cyO : ClassId) (h_x h_tg h_cr h_la h_sp a_x_splitRow h_tp h_tx h_fr h_se h_od h_kn a_x_sheets a_la_counts a_la_askedBits a_la_askedBeginnings a_la_waitingBits a_la_waitingBeginnings : Nat) (x_n : Int32) (x_blocker : Int32) (x_blockerBits : Int32) (x_tornBy : Int32) (la_kept : Int32) (la_waiting : Int32) (la_counts : Nat → Int32) (la_askedBits : Nat → Int32) (la_askedBeginnings : Nat → Int32) (la_waitingBits : Nat → Int32) (la_waitingBeginnings : Nat → Int32) (v1 : Int32) (out : Int32) (hp : pX10_learns v1 x_n la_kept la_counts la_askedBits la_askedBeginnings = some out) : Met l yX10_learns wsX10_learns ({ frames := 2, cells := 0, slots := 0, locals := 43 } : Room) (px_PR (dC, dI) (px_TY cyI cyZ cyJ cyB cyO) [.ref h_x, .int v1] (wdX10_learns cyI cyZ cyJ cyB cyO h_x h_tg h_cr h_la h_sp a_x_splitRow h_tp h_tx h_fr h_se h_od h_kn a_x_sheets a_la_counts a_la_askedBits a_la_askedBeginnings a_la_waitingBits a_la_waitingBeginnings x_n x_blocker x_blockerBits x_tornBy la_kept la_waiting la_counts la_askedBits la_askedBeginnings la_waitingBits la_waitingBeginnings h_la h_sp)) (px_QR (.int out)) 0 0 (fun _ => False) := by
  refine Met.ofW (cc := cX10_learns) (maxL := 2) (ret := (some .int)) (by decide) rfl ?_
  intro p e s m args below meth c s₁ B hml hv
  obtain ⟨rfl, hP, hK, hN⟩ := hv
  have hx := B.exec
  have hb := B.bytes
  have hr := B.returns
  have hts := atoms_spec (ws := wsX10_learns) B.pre
  have hown : s.vm.findClass RX10 = some m.cls := findClass_of_methodNamed B.named
  have hlocks := B.notSynchronized
  have hQ : ∀ (pc : Nat) (ls : Array Slot), decode cX10_learns pc = .ok (.ireturn, 1) → W p l e ({ frames := 2, cells := 0, slots := 0, locals := 43 } : Room) s m (([.ref h_x, .int v1] : List Value).toArray) below meth c s.heap [] 0 0 (MQ below (px_QR (.int out)) (([.ref h_x, .int v1] : List Value).toArray) s 0 0 (fun _ => False)) (F0 m pc ls [.int out]) := fun pc ls hd => W.iret hx hb hr (fun t ht hW => ⟨rfl, ht⟩) (fun q h => by cases h) hd
  generalize MQ below (px_QR (.int out)) (([.ref h_x, .int v1] : List Value).toArray) s 0 0 (fun _ => False) = Q at hQ ⊢
  have hl := lv_entry [.ref h_x, .int v1] (n := 2) (Nat.le_of_ble_eq_true rfl)
  rw [lg_entry_eq]
  generalize (lg_sl [.ref h_x, .int v1] ++ List.replicate (2 - (lg_sl [.ref h_x, .int v1]).length) Slot.unset).toArray = ls at hl ⊢
  have hl : lv_has ls 2 [(0, .ref h_x), (1, .int v1)] := hl
  unfold pX10_learns at hp
  refine lv_aload_n hx hb dX10_learns_0 rfl (lv_at hl 0 rfl) ?_
  refine lv_iload_n hx hb dX10_learns_1 rfl (lv_at hl 1 rfl) ?_
  obtain ⟨o_1, ho_1, hp⟩ := px_b_at hp
  refine px_callR (v := .int o_1) (va_runV (As := [.int v1]) (rest := []) ⟨hx, hb, hml, hown, hts⟩ (ccX10_isNumber l dC dI cyI cyZ cyJ cyB cyO h_x h_tg h_cr h_la h_sp a_x_splitRow h_tp h_tx h_fr h_se h_od h_kn a_x_sheets x_n x_blocker x_blockerBits x_tornBy v1 o_1 ho_1) (cwV 1 hts gX10_learns_X10_isNumber rfl rfl rfl hvX10_isNumber ⟨Nat.le_of_ble_eq_true rfl, Nat.le_of_ble_eq_true rfl⟩) (px_preRV (wc := (wdX10_isNumber cyI cyZ cyJ cyB cyO h_x h_tg h_cr h_la h_sp a_x_splitRow h_tp h_tx h_fr h_se h_od h_kn a_x_sheets x_n x_blocker x_blockerBits x_tornBy h_la h_sp)) (ci := 10) (q0 := 0) hK hN hP [0] rfl rfl rfl) rfl rfl hl.1 rfl (lv_room (Nat.le_of_ble_eq_true rfl)) dX10_learns_2 ⟨Nat.zero_le _, Nat.zero_le _⟩) ?_
  refine lv_if_ne (tgt := 10) hx hb dX10_learns_5 (by decide) (fun c_2 => ?_) (fun c_2 => ?_)
  · have hp := px_f hp c_2
    refine lv_aload_n hx hb dX10_learns_10 rfl (lv_at hl 0 rfl) ?_
    refine va_get (D := (dC, dI)) (ci := 10) (v := .ref h_la) (C := RX10) (T := TX10) (N := 16) hx hb hts fX10_learns_X10 hown hK hP 0 rfl rfl 6 (by decide) (hts _ kX10_learns_1) (fun _ h9 => h9) rfl dX10_learns_11 ?_
    obtain ⟨o_3, ho_3, hp⟩ := px_b_at hp
    refine px_callR (v := .int o_3) (va_runV (As := []) (rest := []) ⟨hx, hb, hml, hown, hts⟩ (ccX9_wasWalked l dC dI cyI cyZ cyJ cyB cyO h_la a_la_counts a_la_askedBits a_la_askedBeginnings a_la_waitingBits a_la_waitingBeginnings la_kept la_waiting la_counts la_askedBits la_askedBeginnings la_waitingBits la_waitingBeginnings o_3 ho_3) (cwV 0 hts gX10_learns_X9_wasWalked rfl rfl rfl hvX9_wasWalked ⟨Nat.le_of_ble_eq_true rfl, Nat.le_of_ble_eq_true rfl⟩) (px_preRV (wc := (wdX9_wasWalked cyI cyZ cyJ cyB cyO h_la a_la_counts a_la_askedBits a_la_askedBeginnings a_la_waitingBits a_la_waitingBeginnings la_kept la_waiting la_counts la_askedBits la_askedBeginnings la_waitingBits la_waitingBeginnings)) (ci := 9) (q0 := 1) hK hN hP [1, 2, 3, 4, 5, 6] rfl rfl rfl) rfl rfl hl.1 rfl (lv_room (Nat.le_of_ble_eq_true rfl)) dX10_learns_14 ⟨Nat.zero_le _, Nat.zero_le _⟩) ?_
    refine lv_if_eq (tgt := 35) hx hb dX10_learns_17 (by decide) (fun c_4 => ?_) (fun c_4 => ?_)
    · have hp := px_t hp c_4
      refine lv_bipush (v := (-2 : Int32)) hx hb dX10_learns_35 (by decide) ?_
      have ho := px_s hp
      subst ho
      exact hQ _ _ dX10_learns_37
    · have hp := px_f hp c_4
      refine lv_aload_n hx hb dX10_learns_20 rfl (lv_at hl 0 rfl) ?_
      refine va_get (D := (dC, dI)) (ci := 10) (v := .ref h_la) (C := RX10) (T := TX10) (N := 16) hx hb hts fX10_learns_X10 hown hK hP 0 rfl rfl 6 (by decide) (hts _ kX10_learns_1) (fun _ h9 => h9) rfl dX10_learns_21 ?_
      refine lv_iload_n hx hb dX10_learns_24 rfl (lv_at hl 1 rfl) ?_
      refine lv_aload_n hx hb dX10_learns_25 rfl (lv_at hl 0 rfl) ?_
      refine va_get (D := (dC, dI)) (ci := 10) (v := .int x_n) (C := RX10) (T := TX10) (N := 16) hx hb hts fX10_learns_X10 hown hK hP 0 rfl rfl 0 (by decide) (hts _ kX10_learns_2) (fun _ h9 => h9) rfl dX10_learns_26 ?_
      obtain ⟨o_5, ho_5, hp⟩ := px_b_at hp
      refine px_callR (v := .int o_5) (va_runV (As := [.int v1, .int x_n]) (rest := []) ⟨hx, hb, hml, hown, hts⟩ (ccX9_longestOf l dC dI cyI cyZ cyJ cyB cyO h_la a_la_counts a_la_askedBits a_la_askedBeginnings a_la_waitingBits a_la_waitingBeginnings la_kept la_waiting la_counts la_askedBits la_askedBeginnings la_waitingBits la_waitingBeginnings v1 x_n o_5 ho_5) (cwV 2 hts gX10_learns_X9_longestOf rfl rfl rfl hvX9_longestOf ⟨Nat.le_of_ble_eq_true rfl, Nat.le_of_ble_eq_true rfl⟩) (px_preRV (wc := (wdX9_longestOf cyI cyZ cyJ cyB cyO h_la a_la_counts a_la_askedBits a_la_askedBeginnings a_la_waitingBits a_la_waitingBeginnings la_kept la_waiting la_counts la_askedBits la_askedBeginnings la_waitingBits la_waitingBeginnings)) (ci := 9) (q0 := 1) hK hN hP [1, 2, 3, 4, 5, 6] rfl rfl rfl) rfl rfl hl.1 rfl (lv_room (Nat.le_of_ble_eq_true rfl)) dX10_learns_29 ⟨Nat.zero_le _, Nat.zero_le _⟩) ?_
      refine lv_goto (tgt := 37) hx hb dX10_learns_32 (by decide) ?_
      have ho := px_s hp
      subst ho
      exact hQ _ _ dX10_learns_37
  · have hp := px_t hp c_2
    refine lv_iconst (v := (-1 : Int32)) hx hb dX10_learns_8 (by decide) ?_
    have ho := px_s hp
    subst ho
    exact hQ _ _ dX10_learns_9
/-! TagReader.would(II)I -/
theorem hvX10_would : yX10_would.cls = RX10 ∧ yX10_would.cls ≠ "java/lang/invoke/MethodHandle" ∧ yX10_would.cls ≠ "java/lang/invoke/VarHandle" ∧ (parseMethodDescriptor yX10_would.desc).map (fun d => d.parameters.length) = some 2 := by decide +kernel
theorem fX10_would_X10 : ∀ w ∈ u_ws RX10 TX10 16, w ∈ wsX10_would := fun _ h => List.mem_cons_of_mem _ (List.mem_append_left _ (List.mem_append_left _ (List.mem_append_right _ h)))
theorem kX10_would_1 : (.fieldLink RX10 7 "TagReader" "n" "I" : Cond) ∈ wsX10_would := List.mem_of_getElem? (i := 1) rfl
theorem kX10_would_2 : (.fieldLink RX10 32 "TagReader" "crowd" "LTagReader$Crowd;" : Cond) ∈ wsX10_would := List.mem_of_getElem? (i := 2) rfl
theorem kX10_would_3 : (.fieldLink RX10 43 "TagReader" "spare" "LTagReader$Tree;" : Cond) ∈ wsX10_would := List.mem_of_getElem? (i := 3) rfl
theorem fX10_would_X9 : ∀ w ∈ u_ws RX9 TX9 7, w ∈ wsX10_would := fun _ h => List.mem_cons_of_mem _ (List.mem_append_left _ (List.mem_append_right _ h))
theorem kX10_would_4 : (.fieldLink RX10 169 "TagReader$Tree" "counts" "[I" : Cond) ∈ wsX10_would := List.mem_of_getElem? (i := 4) rfl
set_option maxHeartbeats 4000000 in
set_option maxRecDepth 100000 in
theorem lcX10_would_85 {p : Program} {l : Launch} {e : Env} {s : State} {m : MethodId} {args : Array Value} {below : List Frame} {meth : Method} {c : Code} {Q : State → Prop} {A : Nat → Prop} (dC : Nat → ClassId) (dI : Nat → Nat → Nat) (cyI cyZ cyJ cyB cyO : ClassId) (h_x h_tg h_cr h_la h_sp a_x_splitRow h_tp h_tx h_fr h_se h_od h_kn a_x_sheets a_cr_numbers a_sp_counts a_sp_askedBits a_sp_askedBeginnings a_sp_waitingBits a_sp_waitingBeginnings : Nat) (x_n : Int32) (x_blocker : Int32) (x_blockerBits : Int32) (x_tornBy : Int32) (cr_size : Int32) (cr_n : Int32) (cr_blockerBits : Int32) (cr_blocker : Int32) (cr_tagsHeard : Int32) (cr_seemingHeard : Int32) (cr_ones : Int32) (cr_zeros : Int32) (cr_numbers : Nat → Int32) (sp_kept : Int32) (sp_waiting : Int32) (sp_counts : Nat → Int32) (sp_askedBits : Nat → Int32) (sp_askedBeginnings : Nat → Int32) (sp_waitingBits : Nat → Int32) (sp_waitingBeginnings : Nat → Int32) (v1 : Int32) (v2 : Int32) (out : Int32 × Int32 × Int32 × Int32 × Int32 × Int32 × Int32 × Int32 × (Nat → Int32) × Int32 × Int32 × (Nat → Int32) × (Nat → Int32) × (Nat → Int32) × (Nat → Int32) × (Nat → Int32)) (hx : p.tables.exec = Jvm.exec) (hb : c.code = cX10_would) (hml : c.maxLocals = 4) (hts : ∀ w ∈ wsX10_would, w.before args s = true) (hown : s.vm.findClass RX10 = some m.cls) (hK : va_K (dC, dI) vwCl (px_TY cyI cyZ cyJ cyB cyO) s) (hN : px_NW s) (hA : ∀ q : Nat, s.heap.size ≤ q → A q) (hQ : ∀ (H : Heap) (locs : List Loc) (pc : Nat) (ls : Array Slot), va_P (dC, dI) vwCl (wdX10_would cyI cyZ cyJ cyB cyO h_x h_tg h_cr h_la h_sp a_x_splitRow h_tp h_tx h_fr h_se h_od h_kn a_x_sheets a_cr_numbers a_sp_counts a_sp_askedBits a_sp_askedBeginnings a_sp_waitingBits a_sp_waitingBeginnings x_n x_blocker x_blockerBits x_tornBy out.2.1 out.2.2.1 out.2.2.2.1 cr_blocker out.2.2.2.2.1 out.2.2.2.2.2.1 out.2.2.2.2.2.2.1 out.2.2.2.2.2.2.2.1 out.2.2.2.2.2.2.2.2.1 out.2.2.2.2.2.2.2.2.2.1 out.2.2.2.2.2.2.2.2.2.2.1 out.2.2.2.2.2.2.2.2.2.2.2.1 out.2.2.2.2.2.2.2.2.2.2.2.2.1 out.2.2.2.2.2.2.2.2.2.2.2.2.2.1 out.2.2.2.2.2.2.2.2.2.2.2.2.2.2.1 out.2.2.2.2.2.2.2.2.2.2.2.2.2.2.2 h_la h_sp) H → va_D A (wdX10_would cyI cyZ cyJ cyB cyO h_x h_tg h_cr h_la h_sp a_x_splitRow h_tp h_tx h_fr h_se h_od h_kn a_x_sheets a_cr_numbers a_sp_counts a_sp_askedBits a_sp_askedBeginnings a_sp_waitingBits a_sp_waitingBeginnings x_n x_blocker x_blockerBits x_tornBy out.2.1 out.2.2.1 out.2.2.2.1 cr_blocker out.2.2.2.2.1 out.2.2.2.2.2.1 out.2.2.2.2.2.2.1 out.2.2.2.2.2.2.2.1 out.2.2.2.2.2.2.2.2.1 out.2.2.2.2.2.2.2.2.2.1 out.2.2.2.2.2.2.2.2.2.2.1 out.2.2.2.2.2.2.2.2.2.2.2.1 out.2.2.2.2.2.2.2.2.2.2.2.2.1 out.2.2.2.2.2.2.2.2.2.2.2.2.2.1 out.2.2.2.2.2.2.2.2.2.2.2.2.2.2.1 out.2.2.2.2.2.2.2.2.2.2.2.2.2.2.2 h_la h_sp) → va_S A s.heap H locs → decode cX10_would pc = .ok (.ireturn, 1) → W p l e ({ frames := 5, cells := 0, slots := 0, locals := 122 } : Room) s m args below meth c H locs 0 0 Q (F0 m pc ls [.int out.1]))  : ∀ (cr_size : Int32) (cr_n : Int32) (cr_blockerBits : Int32) (cr_tagsHeard : Int32) (cr_seemingHeard : Int32) (cr_ones : Int32) (cr_zeros : Int32) (cr_numbers : Nat → Int32) (sp_kept : Int32) (sp_waiting : Int32) (sp_counts : Nat → Int32) (sp_askedBits : Nat → Int32) (sp_askedBeginnings : Nat → Int32) (sp_waitingBits : Nat → Int32) (sp_waitingBeginnings : Nat → Int32) (H : Heap) (locs : List Loc) (ls : Array Slot), pX10_would_85 v1 v2 x_n cr_blocker cr_size cr_n cr_blockerBits cr_tagsHeard cr_seemingHeard cr_ones cr_zeros cr_numbers sp_kept sp_waiting sp_counts sp_askedBits sp_askedBeginnings sp_waitingBits sp_waitingBeginnings = some out → va_P (dC, dI) vwCl (wdX10_would cyI cyZ cyJ cyB cyO h_x h_tg h_cr h_la h_sp a_x_splitRow h_tp h_tx h_fr h_se h_od h_kn a_x_sheets a_cr_numbers a_sp_counts a_sp_askedBits a_sp_askedBeginnings a_sp_waitingBits a_sp_waitingBeginnings x_n x_blocker x_blockerBits x_tornBy cr_size cr_n cr_blockerBits cr_blocker cr_tagsHeard cr_seemingHeard cr_ones cr_zeros cr_numbers sp_kept sp_waiting sp_counts sp_askedBits sp_askedBeginnings sp_waitingBits sp_waitingBeginnings h_la h_sp) H → va_D A (wdX10_would cyI cyZ cyJ cyB cyO h_x h_tg h_cr h_la h_sp a_x_splitRow h_tp h_tx h_fr h_se h_od h_kn a_x_sheets a_cr_numbers a_sp_counts a_sp_askedBits a_sp_askedBeginnings a_sp_waitingBits a_sp_waitingBeginnings x_n x_blocker x_blockerBits x_tornBy cr_size cr_n cr_blockerBits cr_blocker cr_tagsHeard cr_seemingHeard cr_ones cr_zeros cr_numbers sp_kept sp_waiting sp_counts sp_askedBits sp_askedBeginnings sp_waitingBits sp_waitingBeginnings h_la h_sp) → va_S A s.heap H locs → lv_has ls 4 [(0, .ref h_x), (1, .int v1)] → W p l e ({ frames := 5, cells := 0, slots := 0, locals := 122 } : Room) s m args below meth c H locs 0 0 Q (F0 m 85 ls []) := by
  intro cr_size cr_n cr_blockerBits cr_tagsHeard cr_seemingHeard cr_ones cr_zeros cr_numbers sp_kept sp_waiting sp_counts sp_askedBits sp_askedBeginnings sp_waitingBits sp_waitingBeginnings H locs ls hp hP hD hS hl
  unfold pX10_would_85 at hp
  refine lv_aload_n hx hb dX10_would_85 rfl (lv_at hl 0 rfl) ?_
  refine va_get (D := (dC, dI)) (ci := 10) (v := .ref h_sp) (C := RX10) (T := TX10) (N := 16) hx hb hts fX10_would_X10 hown hK hP 0 rfl rfl 7 (by decide) (hts _ kX10_would_3) (fun _ h9 => h9) rfl dX10_would_86 ?_
  refine lv_aload_n hx hb dX10_would_89 rfl (lv_at hl 0 rfl) ?_
  refine va_get (D := (dC, dI)) (ci := 10) (v := .ref h_cr) (C := RX10) (T := TX10) (N := 16) hx hb hts fX10_would_X10 hown hK hP 0 rfl rfl 5 (by decide) (hts _ kX10_would_2) (fun _ h9 => h9) rfl dX10_would_90 ?_
  refine lv_iload_n hx hb dX10_would_93 rfl (lv_at hl 1 rfl) ?_
  obtain ⟨o_7, ho_7, hp⟩ := px_b_at hp
  refine px_callWi (r := o_7.1) (wc := (wdX9_walk cyI cyZ cyJ cyB cyO h_sp a_sp_counts a_sp_askedBits a_sp_askedBeginnings a_sp_waitingBits a_sp_waitingBeginnings h_cr a_cr_numbers sp_kept sp_waiting sp_counts sp_askedBits sp_askedBeginnings sp_waitingBits sp_waitingBeginnings cr_size cr_n cr_blockerBits cr_blocker cr_tagsHeard cr_seemingHeard cr_ones cr_zeros cr_numbers)) (wr := [(h_x, .inr (10, [.int x_n, .int x_blocker, .int x_blockerBits, .int x_tornBy, .ref h_tg, .ref h_cr, .ref h_la, .ref h_sp, .ref a_x_splitRow, .ref h_tp, .ref h_tx, .ref h_fr, .ref h_se, .ref h_od, .ref h_kn, .ref a_x_sheets]))]) (w1 := (wdX9_walk cyI cyZ cyJ cyB cyO h_sp a_sp_counts a_sp_askedBits a_sp_askedBeginnings a_sp_waitingBits a_sp_waitingBeginnings h_cr a_cr_numbers o_7.2.1 o_7.2.2.1 o_7.2.2.2.1 o_7.2.2.2.2.1 o_7.2.2.2.2.2.1 o_7.2.2.2.2.2.2.1 o_7.2.2.2.2.2.2.2.1 cr_size cr_n cr_blockerBits cr_blocker o_7.2.2.2.2.2.2.2.2.1 o_7.2.2.2.2.2.2.2.2.2.1 o_7.2.2.2.2.2.2.2.2.2.2.1 o_7.2.2.2.2.2.2.2.2.2.2.2 cr_numbers)) (ws2 := (wdX10_would cyI cyZ cyJ cyB cyO h_x h_tg h_cr h_la h_sp a_x_splitRow h_tp h_tx h_fr h_se h_od h_kn a_x_sheets a_cr_numbers a_sp_counts a_sp_askedBits a_sp_askedBeginnings a_sp_waitingBits a_sp_waitingBeginnings x_n x_blocker x_blockerBits x_tornBy cr_size cr_n cr_blockerBits cr_blocker o_7.2.2.2.2.2.2.2.2.1 o_7.2.2.2.2.2.2.2.2.2.1 o_7.2.2.2.2.2.2.2.2.2.2.1 o_7.2.2.2.2.2.2.2.2.2.2.2 cr_numbers o_7.2.1 o_7.2.2.1 o_7.2.2.2.1 o_7.2.2.2.2.1 o_7.2.2.2.2.2.1 o_7.2.2.2.2.2.2.1 o_7.2.2.2.2.2.2.2.1 h_la h_sp)) (va_runV (As := [.ref h_cr, .int v1]) (rest := []) ⟨hx, hb, hml, hown, hts⟩ (ccX9_walk l dC dI cyI cyZ cyJ cyB cyO _ h_sp a_sp_counts a_sp_askedBits a_sp_askedBeginnings a_sp_waitingBits a_sp_waitingBeginnings h_cr a_cr_numbers sp_kept sp_waiting sp_counts sp_askedBits sp_askedBeginnings sp_waitingBits sp_waitingBeginnings cr_size cr_n cr_blockerBits cr_blocker cr_tagsHeard cr_seemingHeard cr_ones cr_zeros cr_numbers v1 o_7 ho_7) (cwV 2 hts gX10_would_X9_walk rfl rfl rfl hvX9_walk ⟨Nat.le_of_ble_eq_true rfl, Nat.le_of_ble_eq_true rfl⟩) (px_preWV (wc := (wdX9_walk cyI cyZ cyJ cyB cyO h_sp a_sp_counts a_sp_askedBits a_sp_askedBeginnings a_sp_waitingBits a_sp_waitingBeginnings h_cr a_cr_numbers sp_kept sp_waiting sp_counts sp_askedBits sp_askedBeginnings sp_waitingBits sp_waitingBeginnings cr_size cr_n cr_blockerBits cr_blocker cr_tagsHeard cr_seemingHeard cr_ones cr_zeros cr_numbers)) (ci := 9) (q0 := 3) hK hN hP hD [3, 4, 5, 6, 7, 8, 1, 2] (by decide) rfl rfl rfl) rfl rfl hl.1 rfl (lv_room (Nat.le_of_ble_eq_true rfl)) dX10_would_94 ⟨Nat.zero_le _, Nat.zero_le _⟩) hP hD hS hA [3, 4, 5, 6, 7, 8, 1, 2] [0] [0, 7, 8, 1, 2, 3, 4, 5, 6] rfl rfl (by decide) (by decide) (by decide) rfl (fun H locs hP hD hS => ?_)
  refine lv_if_eq (tgt := 112) hx hb dX10_would_97 (by decide) (fun c_8 => ?_) (fun c_8 => ?_)
  · have hp := px_t hp c_8
    refine lv_iconst (v := (-1 : Int32)) hx hb dX10_would_112 (by decide) ?_
    have ho := px_s hp
    subst ho
    exact hQ _ _ _ _ hP hD hS dX10_would_113
  · have hp := px_f hp c_8
    refine lv_aload_n hx hb dX10_would_100 rfl (lv_at hl 0 rfl) ?_
    refine va_get (D := (dC, dI)) (ci := 10) (v := .ref h_sp) (C := RX10) (T := TX10) (N := 16) hx hb hts fX10_would_X10 hown hK hP 0 rfl rfl 7 (by decide) (hts _ kX10_would_3) (fun _ h9 => h9) rfl dX10_would_101 ?_
    refine va_get (D := (dC, dI)) (ci := 9) (v := .ref a_sp_counts) (C := RX9) (T := TX9) (N := 7) hx hb hts fX10_would_X9 hown hK hP 3 rfl rfl 0 (by decide) (hts _ kX10_would_4) (fun _ h9 => h9) rfl dX10_would_104 ?_
    refine lv_iconst (v := (0 : Int32)) hx hb dX10_would_107 (by decide) ?_
    refine va_iald (D := (dC, dI)) hx hb hK hP 4 0 rfl rfl (px_in0_5) dX10_would_108 ?_
    refine lv_goto (tgt := 113) hx hb dX10_would_109 (by decide) ?_
    have ho := px_s hp
    subst ho
    exact hQ _ _ _ _ hP hD hS dX10_would_113
set_option maxHeartbeats 4000000 in
set_option maxRecDepth 100000 in
theorem lcX10_would_53B {p : Program} {l : Launch} {e : Env} {s : State} {m : MethodId} {args : Array Value} {below : List Frame} {meth : Method} {c : Code} {Q : State → Prop} {A : Nat → Prop} (dC : Nat → ClassId) (dI : Nat → Nat → Nat) (cyI cyZ cyJ cyB cyO : ClassId) (h_x h_tg h_cr h_la h_sp a_x_splitRow h_tp h_tx h_fr h_se h_od h_kn a_x_sheets a_cr_numbers a_sp_counts a_sp_askedBits a_sp_askedBeginnings a_sp_waitingBits a_sp_waitingBeginnings : Nat) (x_n : Int32) (x_blocker : Int32) (x_blockerBits : Int32) (x_tornBy : Int32) (cr_size : Int32) (cr_n : Int32) (cr_blockerBits : Int32) (cr_blocker : Int32) (cr_tagsHeard : Int32) (cr_seemingHeard : Int32) (cr_ones : Int32) (cr_zeros : Int32) (cr_numbers : Nat → Int32) (sp_kept : Int32) (sp_waiting : Int32) (sp_counts : Nat → Int32) (sp_askedBits : Nat → Int32) (sp_askedBeginnings : Nat → Int32) (sp_waitingBits : Nat → Int32) (sp_waitingBeginnings : Nat → Int32) (v1 : Int32) (v2 : Int32) (out : Int32 × Int32 × Int32 × Int32 × Int32 × Int32 × Int32 × Int32 × (Nat → Int32) × Int32 × Int32 × (Nat → Int32) × (Nat → Int32) × (Nat → Int32) × (Nat → Int32) × (Nat → Int32)) (hx : p.tables.exec = Jvm.exec) (hb : c.code = cX10_would) (hml : c.maxLocals = 4) (hts : ∀ w ∈ wsX10_would, w.before args s = true) (hown : s.vm.findClass RX10 = some m.cls) (hK : va_K (dC, dI) vwCl (px_TY cyI cyZ cyJ cyB cyO) s) (hN : px_NW s) (hA : ∀ q : Nat, s.heap.size ≤ q → A q) (hQ : ∀ (H : Heap) (locs : List Loc) (pc : Nat) (ls : Array Slot), va_P (dC, dI) vwCl (wdX10_would cyI cyZ cyJ cyB cyO h_x h_tg h_cr h_la h_sp a_x_splitRow h_tp h_tx h_fr h_se h_od h_kn a_x_sheets a_cr_numbers a_sp_counts a_sp_askedBits a_sp_askedBeginnings a_sp_waitingBits a_sp_waitingBeginnings x_n x_blocker x_blockerBits x_tornBy out.2.1 out.2.2.1 out.2.2.2.1 cr_blocker out.2.2.2.2.1 out.2.2.2.2.2.1 out.2.2.2.2.2.2.1 out.2.2.2.2.2.2.2.1 out.2.2.2.2.2.2.2.2.1 out.2.2.2.2.2.2.2.2.2.1 out.2.2.2.2.2.2.2.2.2.2.1 out.2.2.2.2.2.2.2.2.2.2.2.1 out.2.2.2.2.2.2.2.2.2.2.2.2.1 out.2.2.2.2.2.2.2.2.2.2.2.2.2.1 out.2.2.2.2.2.2.2.2.2.2.2.2.2.2.1 out.2.2.2.2.2.2.2.2.2.2.2.2.2.2.2 h_la h_sp) H → va_D A (wdX10_would cyI cyZ cyJ cyB cyO h_x h_tg h_cr h_la h_sp a_x_splitRow h_tp h_tx h_fr h_se h_od h_kn a_x_sheets a_cr_numbers a_sp_counts a_sp_askedBits a_sp_askedBeginnings a_sp_waitingBits a_sp_waitingBeginnings x_n x_blocker x_blockerBits x_tornBy out.2.1 out.2.2.1 out.2.2.2.1 cr_blocker out.2.2.2.2.1 out.2.2.2.2.2.1 out.2.2.2.2.2.2.1 out.2.2.2.2.2.2.2.1 out.2.2.2.2.2.2.2.2.1 out.2.2.2.2.2.2.2.2.2.1 out.2.2.2.2.2.2.2.2.2.2.1 out.2.2.2.2.2.2.2.2.2.2.2.1 out.2.2.2.2.2.2.2.2.2.2.2.2.1 out.2.2.2.2.2.2.2.2.2.2.2.2.2.1 out.2.2.2.2.2.2.2.2.2.2.2.2.2.2.1 out.2.2.2.2.2.2.2.2.2.2.2.2.2.2.2 h_la h_sp) → va_S A s.heap H locs → decode cX10_would pc = .ok (.ireturn, 1) → W p l e ({ frames := 5, cells := 0, slots := 0, locals := 122 } : Room) s m args below meth c H locs 0 0 Q (F0 m pc ls [.int out.1]))  (K_53 : Int32 → Int32 → Int32 → Int32 → Int32 → Int32 → Int32 → Int32 → (Nat → Int32) → Int32 → Int32 → (Nat → Int32) → (Nat → Int32) → (Nat → Int32) → (Nat → Int32) → (Nat → Int32) → Option (Int32 × Int32 × Int32 × Int32 × Int32 × Int32 × Int32 × Int32 × (Nat → Int32) × Int32 × Int32 × (Nat → Int32) × (Nat → Int32) × (Nat → Int32) × (Nat → Int32) × (Nat → Int32))) (hK_53 : ∀ (v3 : Int32) (cr_size : Int32) (cr_n : Int32) (cr_blockerBits : Int32) (cr_tagsHeard : Int32) (cr_seemingHeard : Int32) (cr_ones : Int32) (cr_zeros : Int32) (cr_numbers : Nat → Int32) (sp_kept : Int32) (sp_waiting : Int32) (sp_counts : Nat → Int32) (sp_askedBits : Nat → Int32) (sp_askedBeginnings : Nat → Int32) (sp_waitingBits : Nat → Int32) (sp_waitingBeginnings : Nat → Int32) (H : Heap) (locs : List Loc) (ls : Array Slot), K_53 v3 cr_size cr_n cr_blockerBits cr_tagsHeard cr_seemingHeard cr_ones cr_zeros cr_numbers sp_kept sp_waiting sp_counts sp_askedBits sp_askedBeginnings sp_waitingBits sp_waitingBeginnings = some out → va_P (dC, dI) vwCl (wdX10_would cyI cyZ cyJ cyB cyO h_x h_tg h_cr h_la h_sp a_x_splitRow h_tp h_tx h_fr h_se h_od h_kn a_x_sheets a_cr_numbers a_sp_counts a_sp_askedBits a_sp_askedBeginnings a_sp_waitingBits a_sp_waitingBeginnings x_n x_blocker x_blockerBits x_tornBy cr_size cr_n cr_blockerBits cr_blocker cr_tagsHeard cr_seemingHeard cr_ones cr_zeros cr_numbers sp_kept sp_waiting sp_counts sp_askedBits sp_askedBeginnings sp_waitingBits sp_waitingBeginnings h_la h_sp) H → va_D A (wdX10_would cyI cyZ cyJ cyB cyO h_x h_tg h_cr h_la h_sp a_x_splitRow h_tp h_tx h_fr h_se h_od h_kn a_x_sheets a_cr_numbers a_sp_counts a_sp_askedBits a_sp_askedBeginnings a_sp_waitingBits a_sp_waitingBeginnings x_n x_blocker x_blockerBits x_tornBy cr_size cr_n cr_blockerBits cr_blocker cr_tagsHeard cr_seemingHeard cr_ones cr_zeros cr_numbers sp_kept sp_waiting sp_counts sp_askedBits sp_askedBeginnings sp_waitingBits sp_waitingBeginnings h_la h_sp) → va_S A s.heap H locs → lv_has ls 4 [(0, .ref h_x), (1, .int v1), (2, .int v2), (3, .int v3)] → W p l e ({ frames := 5, cells := 0, slots := 0, locals := 122 } : Room) s m args below meth c H locs 0 0 Q (F0 m 53 ls [])) : ∀ (v3 : Int32) (cr_size : Int32) (cr_n : Int32) (cr_blockerBits : Int32) (cr_tagsHeard : Int32) (cr_seemingHeard : Int32) (cr_ones : Int32) (cr_zeros : Int32) (cr_numbers : Nat → Int32) (sp_kept : Int32) (sp_waiting : Int32) (sp_counts : Nat → Int32) (sp_askedBits : Nat → Int32) (sp_askedBeginnings : Nat → Int32) (sp_waitingBits : Nat → Int32) (sp_waitingBeginnings : Nat → Int32) (H : Heap) (locs : List Loc) (ls : Array Slot), pX10_would_53B v1 v2 x_n cr_blocker K_53 v3 cr_size cr_n cr_blockerBits cr_tagsHeard cr_seemingHeard cr_ones cr_zeros cr_numbers sp_kept sp_waiting sp_counts sp_askedBits sp_askedBeginnings sp_waitingBits sp_waitingBeginnings = some out → va_P (dC, dI) vwCl (wdX10_would cyI cyZ cyJ cyB cyO h_x h_tg h_cr h_la h_sp a_x_splitRow h_tp h_tx h_fr h_se h_od h_kn a_x_sheets a_cr_numbers a_sp_counts a_sp_askedBits a_sp_askedBeginnings a_sp_waitingBits a_sp_waitingBeginnings x_n x_blocker x_blockerBits x_tornBy cr_size cr_n cr_blockerBits cr_blocker cr_tagsHeard cr_seemingHeard cr_ones cr_zeros cr_numbers sp_kept sp_waiting sp_counts sp_askedBits sp_askedBeginnings sp_waitingBits sp_waitingBeginnings h_la h_sp) H → va_D A (wdX10_would cyI cyZ cyJ cyB cyO h_x h_tg h_cr h_la h_sp a_x_splitRow h_tp h_tx h_fr h_se h_od h_kn a_x_sheets a_cr_numbers a_sp_counts a_sp_askedBits a_sp_askedBeginnings a_sp_waitingBits a_sp_waitingBeginnings x_n x_blocker x_blockerBits x_tornBy cr_size cr_n cr_blockerBits cr_blocker cr_tagsHeard cr_seemingHeard cr_ones cr_zeros cr_numbers sp_kept sp_waiting sp_counts sp_askedBits sp_askedBeginnings sp_waitingBits sp_waitingBeginnings h_la h_sp) → va_S A s.heap H locs → lv_has ls 4 [(0, .ref h_x), (1, .int v1), (2, .int v2), (3, .int v3)] → W p l e ({ frames := 5, cells := 0, slots := 0, locals := 122 } : Room) s m args below meth c H locs 0 0 Q (F0 m 53 ls []) := by
  intro v3 cr_size cr_n cr_blockerBits cr_tagsHeard cr_seemingHeard cr_ones cr_zeros cr_numbers sp_kept sp_waiting sp_counts sp_askedBits sp_askedBeginnings sp_waitingBits sp_waitingBeginnings H locs ls hp hP hD hS hl
  unfold pX10_would_53B at hp
  refine lv_iload_n hx hb dX10_would_53 rfl (lv_at hl 3 rfl) ?_
  refine lv_iconst (v := (1 : Int32)) hx hb dX10_would_54 (by decide) ?_
  refine lv_aload_n hx hb dX10_would_55 rfl (lv_at hl 0 rfl) ?_
  refine va_get (D := (dC, dI)) (ci := 10) (v := .int x_n) (C := RX10) (T := TX10) (N := 16) hx hb hts fX10_would_X10 hown hK hP 0 rfl rfl 0 (by decide) (hts _ kX10_would_1) (fun _ h9 => h9) rfl dX10_would_56 ?_
  refine lv_ishl hx hb dX10_would_59 ?_
  refine lv_icmp_ge (tgt := 85) hx hb dX10_would_60 (by decide) (fun c_6 => ?_) (fun c_6 => ?_)
  · have hp := px_t hp c_6
    exact lcX10_would_85 dC dI cyI cyZ cyJ cyB cyO h_x h_tg h_cr h_la h_sp a_x_splitRow h_tp h_tx h_fr h_se h_od h_kn a_x_sheets a_cr_numbers a_sp_counts a_sp_askedBits a_sp_askedBeginnings a_sp_waitingBits a_sp_waitingBeginnings x_n x_blocker x_blockerBits x_tornBy cr_size cr_n cr_blockerBits cr_blocker cr_tagsHeard cr_seemingHeard cr_ones cr_zeros cr_numbers sp_kept sp_waiting sp_counts sp_askedBits sp_askedBeginnings sp_waitingBits sp_waitingBeginnings v1 v2 out hx hb hml hts hown hK hN hA hQ cr_size cr_n cr_blockerBits cr_tagsHeard cr_seemingHeard cr_ones cr_zeros cr_numbers sp_kept sp_waiting sp_counts sp_askedBits sp_askedBeginnings sp_waitingBits sp_waitingBeginnings _ _ ls hp hP hD hS (lv_sub hl [0, 1] rfl)
  · have hp := px_f hp c_6
    refine lv_iload_n hx hb dX10_would_63 rfl (lv_at hl 2 rfl) ?_
    refine lv_iload_n hx hb dX10_would_64 rfl (lv_at hl 3 rfl) ?_
    refine lv_iushr hx hb dX10_would_65 rfl ?_
    refine lv_iconst (v := (1 : Int32)) hx hb dX10_would_66 (by decide) ?_
    refine lv_iand hx hb dX10_would_67 ?_
    refine lv_if_eq (tgt := 79) hx hb dX10_would_68 (by decide) (fun c_9 => ?_) (fun c_9 => ?_)
    · have hp := px_t hp c_9
      refine lv_iinc (v := (v3 + (1 : Int32))) (lv' := [(3, .int (v3 + (1 : Int32))), (0, .ref h_x), (1, .int v1), (2, .int v2)]) hx hb dX10_would_79 hl (k := 3) rfl rfl (by decide) rfl (fun ls hl => ?_)
      refine lv_goto (tgt := 53) hx hb dX10_would_82 (by decide) ?_
      exact hK_53 (v3 + (1 : Int32)) cr_size cr_n cr_blockerBits cr_tagsHeard cr_seemingHeard cr_ones cr_zeros cr_numbers sp_kept sp_waiting sp_counts sp_askedBits sp_askedBeginnings sp_waitingBits sp_waitingBeginnings _ _ ls hp hP hD hS (lv_sub hl [1, 2, 3, 0] rfl)
    · have hp := px_f hp c_9
      refine lv_aload_n hx hb dX10_would_71 rfl (lv_at hl 0 rfl) ?_
      refine va_get (D := (dC, dI)) (ci := 10) (v := .ref h_cr) (C := RX10) (T := TX10) (N := 16) hx hb hts fX10_would_X10 hown hK hP 0 rfl rfl 5 (by decide) (hts _ kX10_would_2) (fun _ h9 => h9) rfl dX10_would_72 ?_
      refine lv_iload_n hx hb dX10_would_75 rfl (lv_at hl 3 rfl) ?_
      obtain ⟨o_10, ho_10, hp⟩ := px_b_at hp
      refine px_callWv (wc := (wdX0_add cyI cyZ cyJ cyB cyO h_cr a_cr_numbers cr_size cr_n cr_blockerBits cr_blocker cr_tagsHeard cr_seemingHeard cr_ones cr_zeros cr_numbers)) (wr := [(h_x, .inr (10, [.int x_n, .int x_blocker, .int x_blockerBits, .int x_tornBy, .ref h_tg, .ref h_cr, .ref h_la, .ref h_sp, .ref a_x_splitRow, .ref h_tp, .ref h_tx, .ref h_fr, .ref h_se, .ref h_od, .ref h_kn, .ref a_x_sheets])), (h_sp, .inr (9, [.ref a_sp_counts, .ref a_sp_askedBits, .ref a_sp_askedBeginnings, .int sp_kept, .ref a_sp_waitingBits, .ref a_sp_waitingBeginnings, .int sp_waiting])), (a_sp_counts, .inl (cyI, 5, .inl sp_counts)), (a_sp_askedBits, .inl (cyI, 64, .inl sp_askedBits)), (a_sp_askedBeginnings, .inl (cyI, 64, .inl sp_askedBeginnings)), (a_sp_waitingBits, .inl (cyI, 14, .inl sp_waitingBits)), (a_sp_waitingBeginnings, .inl (cyI, 14, .inl sp_waitingBeginnings))]) (w1 := (wdX0_add cyI cyZ cyJ cyB cyO h_cr a_cr_numbers o_10.1 cr_n cr_blockerBits cr_blocker cr_tagsHeard cr_seemingHeard cr_ones cr_zeros o_10.2)) (ws2 := (wdX10_would cyI cyZ cyJ cyB cyO h_x h_tg h_cr h_la h_sp a_x_splitRow h_tp h_tx h_fr h_se h_od h_kn a_x_sheets a_cr_numbers a_sp_counts a_sp_askedBits a_sp_askedBeginnings a_sp_waitingBits a_sp_waitingBeginnings x_n x_blocker x_blockerBits x_tornBy o_10.1 cr_n cr_blockerBits cr_blocker cr_tagsHeard cr_seemingHeard cr_ones cr_zeros o_10.2 sp_kept sp_waiting sp_counts sp_askedBits sp_askedBeginnings sp_waitingBits sp_waitingBeginnings h_la h_sp)) (va_runV (As := [.int v3]) (rest := []) ⟨hx, hb, hml, hown, hts⟩ (ccX0_add l dC dI cyI cyZ cyJ cyB cyO _ h_cr a_cr_numbers cr_size cr_n cr_blockerBits cr_blocker cr_tagsHeard cr_seemingHeard cr_ones cr_zeros cr_numbers v3 o_10 ho_10) (cwV 1 hts gX10_would_X0_add rfl rfl rfl hvX0_add ⟨Nat.le_of_ble_eq_true rfl, Nat.le_of_ble_eq_true rfl⟩) (px_preWV (wc := (wdX0_add cyI cyZ cyJ cyB cyO h_cr a_cr_numbers cr_size cr_n cr_blockerBits cr_blocker cr_tagsHeard cr_seemingHeard cr_ones cr_zeros cr_numbers)) (ci := 0) (q0 := 1) hK hN hP hD [1, 2] (by decide) rfl rfl rfl) rfl rfl hl.1 rfl (lv_room (Nat.le_of_ble_eq_true rfl)) dX10_would_76 ⟨Nat.zero_le _, Nat.zero_le _⟩) hP hD hS hA [1, 2] [0, 3, 4, 5, 6, 7, 8] [0, 7, 8, 1, 2, 3, 4, 5, 6] rfl rfl (by decide) (by decide) (by decide) rfl (fun H locs hP hD hS => ?_)
      refine lv_iinc (v := (v3 + (1 : Int32))) (lv' := [(3, .int (v3 + (1 : Int32))), (0, .ref h_x), (1, .int v1), (2, .int v2)]) hx hb dX10_would_79 hl (k := 3) rfl rfl (by decide) rfl (fun ls hl => ?_)
      refine lv_goto (tgt := 53) hx hb dX10_would_82 (by decide) ?_
      exact hK_53 (v3 + (1 : Int32)) o_10.1 cr_n cr_blockerBits cr_tagsHeard cr_seemingHeard cr_ones cr_zeros o_10.2 sp_kept sp_waiting sp_counts sp_askedBits sp_askedBeginnings sp_waitingBits sp_waitingBeginnings _ _ ls hp hP hD hS (lv_sub hl [1, 2, 3, 0] rfl)
theorem lcX10_would_53 {p : Program} {l : Launch} {e : Env} {s : State} {m : MethodId} {args : Array Value} {below : List Frame} {meth : Method} {c : Code} {Q : State → Prop} {A : Nat → Prop} (dC : Nat → ClassId) (dI : Nat → Nat → Nat) (cyI cyZ cyJ cyB cyO : ClassId) (h_x h_tg h_cr h_la h_sp a_x_splitRow h_tp h_tx h_fr h_se h_od h_kn a_x_sheets a_cr_numbers a_sp_counts a_sp_askedBits a_sp_askedBeginnings a_sp_waitingBits a_sp_waitingBeginnings : Nat) (x_n : Int32) (x_blocker : Int32) (x_blockerBits : Int32) (x_tornBy : Int32) (cr_size : Int32) (cr_n : Int32) (cr_blockerBits : Int32) (cr_blocker : Int32) (cr_tagsHeard : Int32) (cr_seemingHeard : Int32) (cr_ones : Int32) (cr_zeros : Int32) (cr_numbers : Nat → Int32) (sp_kept : Int32) (sp_waiting : Int32) (sp_counts : Nat → Int32) (sp_askedBits : Nat → Int32) (sp_askedBeginnings : Nat → Int32) (sp_waitingBits : Nat → Int32) (sp_waitingBeginnings : Nat → Int32) (v1 : Int32) (v2 : Int32) (out : Int32 × Int32 × Int32 × Int32 × Int32 × Int32 × Int32 × Int32 × (Nat → Int32) × Int32 × Int32 × (Nat → Int32) × (Nat → Int32) × (Nat → Int32) × (Nat → Int32) × (Nat → Int32)) (hx : p.tables.exec = Jvm.exec) (hb : c.code = cX10_would) (hml : c.maxLocals = 4) (hts : ∀ w ∈ wsX10_would, w.before args s = true) (hown : s.vm.findClass RX10 = some m.cls) (hK : va_K (dC, dI) vwCl (px_TY cyI cyZ cyJ cyB cyO) s) (hN : px_NW s) (hA : ∀ q : Nat, s.heap.size ≤ q → A q) (hQ : ∀ (H : Heap) (locs : List Loc) (pc : Nat) (ls : Array Slot), va_P (dC, dI) vwCl (wdX10_would cyI cyZ cyJ cyB cyO h_x h_tg h_cr h_la h_sp a_x_splitRow h_tp h_tx h_fr h_se h_od h_kn a_x_sheets a_cr_numbers a_sp_counts a_sp_askedBits a_sp_askedBeginnings a_sp_waitingBits a_sp_waitingBeginnings x_n x_blocker x_blockerBits x_tornBy out.2.1 out.2.2.1 out.2.2.2.1 cr_blocker out.2.2.2.2.1 out.2.2.2.2.2.1 out.2.2.2.2.2.2.1 out.2.2.2.2.2.2.2.1 out.2.2.2.2.2.2.2.2.1 out.2.2.2.2.2.2.2.2.2.1 out.2.2.2.2.2.2.2.2.2.2.1 out.2.2.2.2.2.2.2.2.2.2.2.1 out.2.2.2.2.2.2.2.2.2.2.2.2.1 out.2.2.2.2.2.2.2.2.2.2.2.2.2.1 out.2.2.2.2.2.2.2.2.2.2.2.2.2.2.1 out.2.2.2.2.2.2.2.2.2.2.2.2.2.2.2 h_la h_sp) H → va_D A (wdX10_would cyI cyZ cyJ cyB cyO h_x h_tg h_cr h_la h_sp a_x_splitRow h_tp h_tx h_fr h_se h_od h_kn a_x_sheets a_cr_numbers a_sp_counts a_sp_askedBits a_sp_askedBeginnings a_sp_waitingBits a_sp_waitingBeginnings x_n x_blocker x_blockerBits x_tornBy out.2.1 out.2.2.1 out.2.2.2.1 cr_blocker out.2.2.2.2.1 out.2.2.2.2.2.1 out.2.2.2.2.2.2.1 out.2.2.2.2.2.2.2.1 out.2.2.2.2.2.2.2.2.1 out.2.2.2.2.2.2.2.2.2.1 out.2.2.2.2.2.2.2.2.2.2.1 out.2.2.2.2.2.2.2.2.2.2.2.1 out.2.2.2.2.2.2.2.2.2.2.2.2.1 out.2.2.2.2.2.2.2.2.2.2.2.2.2.1 out.2.2.2.2.2.2.2.2.2.2.2.2.2.2.1 out.2.2.2.2.2.2.2.2.2.2.2.2.2.2.2 h_la h_sp) → va_S A s.heap H locs → decode cX10_would pc = .ok (.ireturn, 1) → W p l e ({ frames := 5, cells := 0, slots := 0, locals := 122 } : Room) s m args below meth c H locs 0 0 Q (F0 m pc ls [.int out.1]))  : ∀ n : Nat, ∀ (v3 : Int32) (cr_size : Int32) (cr_n : Int32) (cr_blockerBits : Int32) (cr_tagsHeard : Int32) (cr_seemingHeard : Int32) (cr_ones : Int32) (cr_zeros : Int32) (cr_numbers : Nat → Int32) (sp_kept : Int32) (sp_waiting : Int32) (sp_counts : Nat → Int32) (sp_askedBits : Nat → Int32) (sp_askedBeginnings : Nat → Int32) (sp_waitingBits : Nat → Int32) (sp_waitingBeginnings : Nat → Int32) (H : Heap) (locs : List Loc) (ls : Array Slot), pX10_would_53 v1 v2 x_n cr_blocker n v3 cr_size cr_n cr_blockerBits cr_tagsHeard cr_seemingHeard cr_ones cr_zeros cr_numbers sp_kept sp_waiting sp_counts sp_askedBits sp_askedBeginnings sp_waitingBits sp_waitingBeginnings = some out → va_P (dC, dI) vwCl (wdX10_would cyI cyZ cyJ cyB cyO h_x h_tg h_cr h_la h_sp a_x_splitRow h_tp h_tx h_fr h_se h_od h_kn a_x_sheets a_cr_numbers a_sp_counts a_sp_askedBits a_sp_askedBeginnings a_sp_waitingBits a_sp_waitingBeginnings x_n x_blocker x_blockerBits x_tornBy cr_size cr_n cr_blockerBits cr_blocker cr_tagsHeard cr_seemingHeard cr_ones cr_zeros cr_numbers sp_kept sp_waiting sp_counts sp_askedBits sp_askedBeginnings sp_waitingBits sp_waitingBeginnings h_la h_sp) H → va_D A (wdX10_would cyI cyZ cyJ cyB cyO h_x h_tg h_cr h_la h_sp a_x_splitRow h_tp h_tx h_fr h_se h_od h_kn a_x_sheets a_cr_numbers a_sp_counts a_sp_askedBits a_sp_askedBeginnings a_sp_waitingBits a_sp_waitingBeginnings x_n x_blocker x_blockerBits x_tornBy cr_size cr_n cr_blockerBits cr_blocker cr_tagsHeard cr_seemingHeard cr_ones cr_zeros cr_numbers sp_kept sp_waiting sp_counts sp_askedBits sp_askedBeginnings sp_waitingBits sp_waitingBeginnings h_la h_sp) → va_S A s.heap H locs → lv_has ls 4 [(0, .ref h_x), (1, .int v1), (2, .int v2), (3, .int v3)] → W p l e ({ frames := 5, cells := 0, slots := 0, locals := 122 } : Room) s m args below meth c H locs 0 0 Q (F0 m 53 ls []) := by
  intro n
  induction n with
  | zero =>
    intro v3 cr_size cr_n cr_blockerBits cr_tagsHeard cr_seemingHeard cr_ones cr_zeros cr_numbers sp_kept sp_waiting sp_counts sp_askedBits sp_askedBeginnings sp_waitingBits sp_waitingBeginnings H locs ls hp hP hD hS hl
    exact nomatch hp
  | succ n ih => exact lcX10_would_53B dC dI cyI cyZ cyJ cyB cyO h_x h_tg h_cr h_la h_sp a_x_splitRow h_tp h_tx h_fr h_se h_od h_kn a_x_sheets a_cr_numbers a_sp_counts a_sp_askedBits a_sp_askedBeginnings a_sp_waitingBits a_sp_waitingBeginnings x_n x_blocker x_blockerBits x_tornBy cr_size cr_n cr_blockerBits cr_blocker cr_tagsHeard cr_seemingHeard cr_ones cr_zeros cr_numbers sp_kept sp_waiting sp_counts sp_askedBits sp_askedBeginnings sp_waitingBits sp_waitingBeginnings v1 v2 out hx hb hml hts hown hK hN hA hQ (pX10_would_53 v1 v2 x_n cr_blocker n) ih
set_option maxHeartbeats 4000000 in
set_option maxRecDepth 100000 in
theorem lcX10_would_40 {p : Program} {l : Launch} {e : Env} {s : State} {m : MethodId} {args : Array Value} {below : List Frame} {meth : Method} {c : Code} {Q : State → Prop} {A : Nat → Prop} (dC : Nat → ClassId) (dI : Nat → Nat → Nat) (cyI cyZ cyJ cyB cyO : ClassId) (h_x h_tg h_cr h_la h_sp a_x_splitRow h_tp h_tx h_fr h_se h_od h_kn a_x_sheets a_cr_numbers a_sp_counts a_sp_askedBits a_sp_askedBeginnings a_sp_waitingBits a_sp_waitingBeginnings : Nat) (x_n : Int32) (x_blocker : Int32) (x_blockerBits : Int32) (x_tornBy : Int32) (cr_size : Int32) (cr_n : Int32) (cr_blockerBits : Int32) (cr_blocker : Int32) (cr_tagsHeard : Int32) (cr_seemingHeard : Int32) (cr_ones : Int32) (cr_zeros : Int32) (cr_numbers : Nat → Int32) (sp_kept : Int32) (sp_waiting : Int32) (sp_counts : Nat → Int32) (sp_askedBits : Nat → Int32) (sp_askedBeginnings : Nat → Int32) (sp_waitingBits : Nat → Int32) (sp_waitingBeginnings : Nat → Int32) (v1 : Int32) (v2 : Int32) (out : Int32 × Int32 × Int32 × Int32 × Int32 × Int32 × Int32 × Int32 × (Nat → Int32) × Int32 × Int32 × (Nat → Int32) × (Nat → Int32) × (Nat → Int32) × (Nat → Int32) × (Nat → Int32)) (hx : p.tables.exec = Jvm.exec) (hb : c.code = cX10_would) (hml : c.maxLocals = 4) (hts : ∀ w ∈ wsX10_would, w.before args s = true) (hown : s.vm.findClass RX10 = some m.cls) (hK : va_K (dC, dI) vwCl (px_TY cyI cyZ cyJ cyB cyO) s) (hN : px_NW s) (hA : ∀ q : Nat, s.heap.size ≤ q → A q) (hQ : ∀ (H : Heap) (locs : List Loc) (pc : Nat) (ls : Array Slot), va_P (dC, dI) vwCl (wdX10_would cyI cyZ cyJ cyB cyO h_x h_tg h_cr h_la h_sp a_x_splitRow h_tp h_tx h_fr h_se h_od h_kn a_x_sheets a_cr_numbers a_sp_counts a_sp_askedBits a_sp_askedBeginnings a_sp_waitingBits a_sp_waitingBeginnings x_n x_blocker x_blockerBits x_tornBy out.2.1 out.2.2.1 out.2.2.2.1 cr_blocker out.2.2.2.2.1 out.2.2.2.2.2.1 out.2.2.2.2.2.2.1 out.2.2.2.2.2.2.2.1 out.2.2.2.2.2.2.2.2.1 out.2.2.2.2.2.2.2.2.2.1 out.2.2.2.2.2.2.2.2.2.2.1 out.2.2.2.2.2.2.2.2.2.2.2.1 out.2.2.2.2.2.2.2.2.2.2.2.2.1 out.2.2.2.2.2.2.2.2.2.2.2.2.2.1 out.2.2.2.2.2.2.2.2.2.2.2.2.2.2.1 out.2.2.2.2.2.2.2.2.2.2.2.2.2.2.2 h_la h_sp) H → va_D A (wdX10_would cyI cyZ cyJ cyB cyO h_x h_tg h_cr h_la h_sp a_x_splitRow h_tp h_tx h_fr h_se h_od h_kn a_x_sheets a_cr_numbers a_sp_counts a_sp_askedBits a_sp_askedBeginnings a_sp_waitingBits a_sp_waitingBeginnings x_n x_blocker x_blockerBits x_tornBy out.2.1 out.2.2.1 out.2.2.2.1 cr_blocker out.2.2.2.2.1 out.2.2.2.2.2.1 out.2.2.2.2.2.2.1 out.2.2.2.2.2.2.2.1 out.2.2.2.2.2.2.2.2.1 out.2.2.2.2.2.2.2.2.2.1 out.2.2.2.2.2.2.2.2.2.2.1 out.2.2.2.2.2.2.2.2.2.2.2.1 out.2.2.2.2.2.2.2.2.2.2.2.2.1 out.2.2.2.2.2.2.2.2.2.2.2.2.2.1 out.2.2.2.2.2.2.2.2.2.2.2.2.2.2.1 out.2.2.2.2.2.2.2.2.2.2.2.2.2.2.2 h_la h_sp) → va_S A s.heap H locs → decode cX10_would pc = .ok (.ireturn, 1) → W p l e ({ frames := 5, cells := 0, slots := 0, locals := 122 } : Room) s m args below meth c H locs 0 0 Q (F0 m pc ls [.int out.1]))  : ∀ (cr_size : Int32) (cr_n : Int32) (cr_blockerBits : Int32) (cr_tagsHeard : Int32) (cr_seemingHeard : Int32) (cr_ones : Int32) (cr_zeros : Int32) (cr_numbers : Nat → Int32) (sp_kept : Int32) (sp_waiting : Int32) (sp_counts : Nat → Int32) (sp_askedBits : Nat → Int32) (sp_askedBeginnings : Nat → Int32) (sp_waitingBits : Nat → Int32) (sp_waitingBeginnings : Nat → Int32) (H : Heap) (locs : List Loc) (ls : Array Slot), pX10_would_40 v1 v2 x_n cr_blocker cr_size cr_n cr_blockerBits cr_tagsHeard cr_seemingHeard cr_ones cr_zeros cr_numbers sp_kept sp_waiting sp_counts sp_askedBits sp_askedBeginnings sp_waitingBits sp_waitingBeginnings = some out → va_P (dC, dI) vwCl (wdX10_would cyI cyZ cyJ cyB cyO h_x h_tg h_cr h_la h_sp a_x_splitRow h_tp h_tx h_fr h_se h_od h_kn a_x_sheets a_cr_numbers a_sp_counts a_sp_askedBits a_sp_askedBeginnings a_sp_waitingBits a_sp_waitingBeginnings x_n x_blocker x_blockerBits x_tornBy cr_size cr_n cr_blockerBits cr_blocker cr_tagsHeard cr_seemingHeard cr_ones cr_zeros cr_numbers sp_kept sp_waiting sp_counts sp_askedBits sp_askedBeginnings sp_waitingBits sp_waitingBeginnings h_la h_sp) H → va_D A (wdX10_would cyI cyZ cyJ cyB cyO h_x h_tg h_cr h_la h_sp a_x_splitRow h_tp h_tx h_fr h_se h_od h_kn a_x_sheets a_cr_numbers a_sp_counts a_sp_askedBits a_sp_askedBeginnings a_sp_waitingBits a_sp_waitingBeginnings x_n x_blocker x_blockerBits x_tornBy cr_size cr_n cr_blockerBits cr_blocker cr_tagsHeard cr_seemingHeard cr_ones cr_zeros cr_numbers sp_kept sp_waiting sp_counts sp_askedBits sp_askedBeginnings sp_waitingBits sp_waitingBeginnings h_la h_sp) → va_S A s.heap H locs → lv_has ls 4 [(0, .ref h_x), (1, .int v1), (2, .int v2)] → W p l e ({ frames := 5, cells := 0, slots := 0, locals := 122 } : Room) s m args below meth c H locs 0 0 Q (F0 m 40 ls []) := by
  intro cr_size cr_n cr_blockerBits cr_tagsHeard cr_seemingHeard cr_ones cr_zeros cr_numbers sp_kept sp_waiting sp_counts sp_askedBits sp_askedBeginnings sp_waitingBits sp_waitingBeginnings H locs ls hp hP hD hS hl
  unfold pX10_would_40 at hp
  refine lv_aload_n hx hb dX10_would_40 rfl (lv_at hl 0 rfl) ?_
  refine va_get (D := (dC, dI)) (ci := 10) (v := .ref h_cr) (C := RX10) (T := TX10) (N := 16) hx hb hts fX10_would_X10 hown hK hP 0 rfl rfl 5 (by decide) (hts _ kX10_would_2) (fun _ h9 => h9) rfl dX10_would_41 ?_
  refine lv_aload_n hx hb dX10_would_44 rfl (lv_at hl 0 rfl) ?_
  refine va_get (D := (dC, dI)) (ci := 10) (v := .int x_n) (C := RX10) (T := TX10) (N := 16) hx hb hts fX10_would_X10 hown hK hP 0 rfl rfl 0 (by decide) (hts _ kX10_would_1) (fun _ h9 => h9) rfl dX10_would_45 ?_
  obtain ⟨o_5, ho_5, hp⟩ := px_b_at hp
  refine px_callWv (wc := (wdX0_clear cyI cyZ cyJ cyB cyO h_cr a_cr_numbers cr_size cr_n cr_blockerBits cr_blocker cr_tagsHeard cr_seemingHeard cr_ones cr_zeros cr_numbers)) (wr := [(h_x, .inr (10, [.int x_n, .int x_blocker, .int x_blockerBits, .int x_tornBy, .ref h_tg, .ref h_cr, .ref h_la, .ref h_sp, .ref a_x_splitRow, .ref h_tp, .ref h_tx, .ref h_fr, .ref h_se, .ref h_od, .ref h_kn, .ref a_x_sheets])), (h_sp, .inr (9, [.ref a_sp_counts, .ref a_sp_askedBits, .ref a_sp_askedBeginnings, .int sp_kept, .ref a_sp_waitingBits, .ref a_sp_waitingBeginnings, .int sp_waiting])), (a_sp_counts, .inl (cyI, 5, .inl sp_counts)), (a_sp_askedBits, .inl (cyI, 64, .inl sp_askedBits)), (a_sp_askedBeginnings, .inl (cyI, 64, .inl sp_askedBeginnings)), (a_sp_waitingBits, .inl (cyI, 14, .inl sp_waitingBits)), (a_sp_waitingBeginnings, .inl (cyI, 14, .inl sp_waitingBeginnings))]) (w1 := (wdX0_clear cyI cyZ cyJ cyB cyO h_cr a_cr_numbers o_5.1 o_5.2.1 o_5.2.2 cr_blocker cr_tagsHeard cr_seemingHeard cr_ones cr_zeros cr_numbers)) (ws2 := (wdX10_would cyI cyZ cyJ cyB cyO h_x h_tg h_cr h_la h_sp a_x_splitRow h_tp h_tx h_fr h_se h_od h_kn a_x_sheets a_cr_numbers a_sp_counts a_sp_askedBits a_sp_askedBeginnings a_sp_waitingBits a_sp_waitingBeginnings x_n x_blocker x_blockerBits x_tornBy o_5.1 o_5.2.1 o_5.2.2 cr_blocker cr_tagsHeard cr_seemingHeard cr_ones cr_zeros cr_numbers sp_kept sp_waiting sp_counts sp_askedBits sp_askedBeginnings sp_waitingBits sp_waitingBeginnings h_la h_sp)) (va_runV (As := [.int x_n]) (rest := []) ⟨hx, hb, hml, hown, hts⟩ (ccX0_clear l dC dI cyI cyZ cyJ cyB cyO _ h_cr a_cr_numbers cr_size cr_n cr_blockerBits cr_blocker cr_tagsHeard cr_seemingHeard cr_ones cr_zeros cr_numbers x_n o_5 ho_5) (cwV 1 hts gX10_would_X0_clear rfl rfl rfl hvX0_clear ⟨Nat.le_of_ble_eq_true rfl, Nat.le_of_ble_eq_true rfl⟩) (px_preWV (wc := (wdX0_clear cyI cyZ cyJ cyB cyO h_cr a_cr_numbers cr_size cr_n cr_blockerBits cr_blocker cr_tagsHeard cr_seemingHeard cr_ones cr_zeros cr_numbers)) (ci := 0) (q0 := 1) hK hN hP hD [1, 2] (by decide) rfl rfl rfl) rfl rfl hl.1 rfl (lv_room (Nat.le_of_ble_eq_true rfl)) dX10_would_48 ⟨Nat.zero_le _, Nat.zero_le _⟩) hP hD hS hA [1, 2] [0, 3, 4, 5, 6, 7, 8] [0, 7, 8, 1, 2, 3, 4, 5, 6] rfl rfl (by decide) (by decide) (by decide) rfl (fun H locs hP hD hS => ?_)
  refine lv_iconst (v := (0 : Int32)) hx hb dX10_would_51 (by decide) ?_
  refine lv_istore_n (lv' := [(3, .int (0 : Int32)), (0, .ref h_x), (1, .int v1), (2, .int v2)]) hx hb dX10_would_52 rfl hl (by decide) rfl (fun ls hl => ?_)
  exact lcX10_would_53 dC dI cyI cyZ cyJ cyB cyO h_x h_tg h_cr h_la h_sp a_x_splitRow h_tp h_tx h_fr h_se h_od h_kn a_x_sheets a_cr_numbers a_sp_counts a_sp_askedBits a_sp_askedBeginnings a_sp_waitingBits a_sp_waitingBeginnings x_n x_blocker x_blockerBits x_tornBy cr_size cr_n cr_blockerBits cr_blocker cr_tagsHeard cr_seemingHeard cr_ones cr_zeros cr_numbers sp_kept sp_waiting sp_counts sp_askedBits sp_askedBeginnings sp_waitingBits sp_waitingBeginnings v1 v2 out hx hb hml hts hown hK hN hA hQ px_FU (0 : Int32) o_5.1 o_5.2.1 o_5.2.2 cr_tagsHeard cr_seemingHeard cr_ones cr_zeros cr_numbers sp_kept sp_waiting sp_counts sp_askedBits sp_askedBeginnings sp_waitingBits sp_waitingBeginnings _ _ ls hp hP hD hS (lv_sub hl [1, 2, 3, 0] rfl)
set_option maxHeartbeats 4000000 in
set_option maxRecDepth 100000 in
theorem ccX10_would (l : Launch) (dC : Nat → ClassId) (dI : Nat → Nat → Nat) (cyI cyZ cyJ cyB cyO : ClassId) (sz : Nat) (h_x h_tg h_cr h_la h_sp a_x_splitRow h_tp h_tx h_fr h_se h_od h_kn a_x_sheets a_cr_numbers a_sp_counts a_sp_askedBits a_sp_askedBeginnings a_sp_waitingBits a_sp_waitingBeginnings : Nat) (x_n : Int32) (x_blocker : Int32) (x_blockerBits : Int32) (x_tornBy : Int32) (cr_size : Int32) (cr_n : Int32) (cr_blockerBits : Int32) (cr_blocker : Int32) (cr_tagsHeard : Int32) (cr_seemingHeard : Int32) (cr_ones : Int32) (cr_zeros : Int32) (cr_numbers : Nat → Int32) (sp_kept : Int32) (sp_waiting : Int32) (sp_counts : Nat → Int32) (sp_askedBits : Nat → Int32) (sp_askedBeginnings : Nat → Int32) (sp_waitingBits : Nat → Int32) (sp_waitingBeginnings : Nat → Int32) (v1 : Int32) (v2 : Int32) (out : Int32 × Int32 × Int32 × Int32 × Int32 × Int32 × Int32 × Int32 × (Nat → Int32) × Int32 × Int32 × (Nat → Int32) × (Nat → Int32) × (Nat → Int32) × (Nat → Int32) × (Nat → Int32)) (hp : pX10_would v1 v2 x_n cr_blocker cr_size cr_n cr_blockerBits cr_tagsHeard cr_seemingHeard cr_ones cr_zeros cr_numbers sp_kept sp_waiting sp_counts sp_askedBits sp_askedBeginnings sp_waitingBits sp_waitingBeginnings = some out) : Met l yX10_would wsX10_would ({ frames := 5, cells := 0, slots := 0, locals := 122 } : Room) (px_PW (dC, dI) (px_TY cyI cyZ cyJ cyB cyO) [.ref h_x, .int v1, .int v2] (wdX10_would cyI cyZ cyJ cyB cyO h_x h_tg h_cr h_la h_sp a_x_splitRow h_tp h_tx h_fr h_se h_od h_kn a_x_sheets a_cr_numbers a_sp_counts a_sp_askedBits a_sp_askedBeginnings a_sp_waitingBits a_sp_waitingBeginnings x_n x_blocker x_blockerBits x_tornBy cr_size cr_n cr_blockerBits cr_blocker cr_tagsHeard cr_seemingHeard cr_ones cr_zeros cr_numbers sp_kept sp_waiting sp_counts sp_askedBits sp_askedBeginnings sp_waitingBits sp_waitingBeginnings h_la h_sp) sz) (px_QW (some (.int out.1)) (dC, dI) (wdX10_would cyI cyZ cyJ cyB cyO h_x h_tg h_cr h_la h_sp a_x_splitRow h_tp h_tx h_fr h_se h_od h_kn a_x_sheets a_cr_numbers a_sp_counts a_sp_askedBits a_sp_askedBeginnings a_sp_waitingBits a_sp_waitingBeginnings x_n x_blocker x_blockerBits x_tornBy cr_size cr_n cr_blockerBits cr_blocker cr_tagsHeard cr_seemingHeard cr_ones cr_zeros cr_numbers sp_kept sp_waiting sp_counts sp_askedBits sp_askedBeginnings sp_waitingBits sp_waitingBeginnings h_la h_sp) (wdX10_would cyI cyZ cyJ cyB cyO h_x h_tg h_cr h_la h_sp a_x_splitRow h_tp h_tx h_fr h_se h_od h_kn a_x_sheets a_cr_numbers a_sp_counts a_sp_askedBits a_sp_askedBeginnings a_sp_waitingBits a_sp_waitingBeginnings x_n x_blocker x_blockerBits x_tornBy out.2.1 out.2.2.1 out.2.2.2.1 cr_blocker out.2.2.2.2.1 out.2.2.2.2.2.1 out.2.2.2.2.2.2.1 out.2.2.2.2.2.2.2.1 out.2.2.2.2.2.2.2.2.1 out.2.2.2.2.2.2.2.2.2.1 out.2.2.2.2.2.2.2.2.2.2.1 out.2.2.2.2.2.2.2.2.2.2.2.1 out.2.2.2.2.2.2.2.2.2.2.2.2.1 out.2.2.2.2.2.2.2.2.2.2.2.2.2.1 out.2.2.2.2.2.2.2.2.2.2.2.2.2.2.1 out.2.2.2.2.2.2.2.2.2.2.2.2.2.2.2 h_la h_sp) sz) 0 0 (va_A (wdX10_would cyI cyZ cyJ cyB cyO h_x h_tg h_cr h_la h_sp a_x_splitRow h_tp h_tx h_fr h_se h_od h_kn a_x_sheets a_cr_numbers a_sp_counts a_sp_askedBits a_sp_askedBeginnings a_sp_waitingBits a_sp_waitingBeginnings x_n x_blocker x_blockerBits x_tornBy cr_size cr_n cr_blockerBits cr_blocker cr_tagsHeard cr_seemingHeard cr_ones cr_zeros cr_numbers sp_kept sp_waiting sp_counts sp_askedBits sp_askedBeginnings sp_waitingBits sp_waitingBeginnings h_la h_sp) sz) := by
  refine Met.ofW (cc := cX10_would) (maxL := 4) (ret := (some .int)) (by decide) rfl ?_
  intro p e s m args below meth c s₁ B hml hv
  obtain ⟨rfl, hsz, hP, hK, hD0, hN⟩ := hv
  have hx := B.exec
  have hb := B.bytes
  have hr := B.returns
  have hts := atoms_spec (ws := wsX10_would) B.pre
  have hown : s.vm.findClass RX10 = some m.cls := findClass_of_methodNamed B.named
  have hlocks := B.notSynchronized
  subst hsz
  have hD := hD0.self (sz := s.heap.size)
  generalize hAe : va_A (wdX10_would cyI cyZ cyJ cyB cyO h_x h_tg h_cr h_la h_sp a_x_splitRow h_tp h_tx h_fr h_se h_od h_kn a_x_sheets a_cr_numbers a_sp_counts a_sp_askedBits a_sp_askedBeginnings a_sp_waitingBits a_sp_waitingBeginnings x_n x_blocker x_blockerBits x_tornBy cr_size cr_n cr_blockerBits cr_blocker cr_tagsHeard cr_seemingHeard cr_ones cr_zeros cr_numbers sp_kept sp_waiting sp_counts sp_askedBits sp_askedBeginnings sp_waitingBits sp_waitingBeginnings h_la h_sp) s.heap.size = A at hD ⊢
  have hA : ∀ q : Nat, s.heap.size ≤ q → A q := fun q h => by rw [← hAe]; exact Or.inr h
  have hS : va_S A s.heap s.heap [] := va_S.rf
  have hq := px_QWe (v := (some (.int out.1))) (D := (dC, dI)) (w1 := (wdX10_would cyI cyZ cyJ cyB cyO h_x h_tg h_cr h_la h_sp a_x_splitRow h_tp h_tx h_fr h_se h_od h_kn a_x_sheets a_cr_numbers a_sp_counts a_sp_askedBits a_sp_askedBeginnings a_sp_waitingBits a_sp_waitingBeginnings x_n x_blocker x_blockerBits x_tornBy out.2.1 out.2.2.1 out.2.2.2.1 cr_blocker out.2.2.2.2.1 out.2.2.2.2.2.1 out.2.2.2.2.2.2.1 out.2.2.2.2.2.2.2.1 out.2.2.2.2.2.2.2.2.1 out.2.2.2.2.2.2.2.2.2.1 out.2.2.2.2.2.2.2.2.2.2.1 out.2.2.2.2.2.2.2.2.2.2.2.1 out.2.2.2.2.2.2.2.2.2.2.2.2.1 out.2.2.2.2.2.2.2.2.2.2.2.2.2.1 out.2.2.2.2.2.2.2.2.2.2.2.2.2.2.1 out.2.2.2.2.2.2.2.2.2.2.2.2.2.2.2 h_la h_sp)) (st := s) hAe
  generalize px_QW (some (.int out.1)) (dC, dI) (wdX10_would cyI cyZ cyJ cyB cyO h_x h_tg h_cr h_la h_sp a_x_splitRow h_tp h_tx h_fr h_se h_od h_kn a_x_sheets a_cr_numbers a_sp_counts a_sp_askedBits a_sp_askedBeginnings a_sp_waitingBits a_sp_waitingBeginnings x_n x_blocker x_blockerBits x_tornBy cr_size cr_n cr_blockerBits cr_blocker cr_tagsHeard cr_seemingHeard cr_ones cr_zeros cr_numbers sp_kept sp_waiting sp_counts sp_askedBits sp_askedBeginnings sp_waitingBits sp_waitingBeginnings h_la h_sp) (wdX10_would cyI cyZ cyJ cyB cyO h_x h_tg h_cr h_la h_sp a_x_splitRow h_tp h_tx h_fr h_se h_od h_kn a_x_sheets a_cr_numbers a_sp_counts a_sp_askedBits a_sp_askedBeginnings a_sp_waitingBits a_sp_waitingBeginnings x_n x_blocker x_blockerBits x_tornBy out.2.1 out.2.2.1 out.2.2.2.1 cr_blocker out.2.2.2.2.1 out.2.2.2.2.2.1 out.2.2.2.2.2.2.1 out.2.2.2.2.2.2.2.1 out.2.2.2.2.2.2.2.2.1 out.2.2.2.2.2.2.2.2.2.1 out.2.2.2.2.2.2.2.2.2.2.1 out.2.2.2.2.2.2.2.2.2.2.2.1 out.2.2.2.2.2.2.2.2.2.2.2.2.1 out.2.2.2.2.2.2.2.2.2.2.2.2.2.1 out.2.2.2.2.2.2.2.2.2.2.2.2.2.2.1 out.2.2.2.2.2.2.2.2.2.2.2.2.2.2.2 h_la h_sp) s.heap.size = Qc at hq ⊢
  have hQ : ∀ (H : Heap) (locs : List Loc) (pc : Nat) (ls : Array Slot), va_P (dC, dI) vwCl (wdX10_would cyI cyZ cyJ cyB cyO h_x h_tg h_cr h_la h_sp a_x_splitRow h_tp h_tx h_fr h_se h_od h_kn a_x_sheets a_cr_numbers a_sp_counts a_sp_askedBits a_sp_askedBeginnings a_sp_waitingBits a_sp_waitingBeginnings x_n x_blocker x_blockerBits x_tornBy out.2.1 out.2.2.1 out.2.2.2.1 cr_blocker out.2.2.2.2.1 out.2.2.2.2.2.1 out.2.2.2.2.2.2.1 out.2.2.2.2.2.2.2.1 out.2.2.2.2.2.2.2.2.1 out.2.2.2.2.2.2.2.2.2.1 out.2.2.2.2.2.2.2.2.2.2.1 out.2.2.2.2.2.2.2.2.2.2.2.1 out.2.2.2.2.2.2.2.2.2.2.2.2.1 out.2.2.2.2.2.2.2.2.2.2.2.2.2.1 out.2.2.2.2.2.2.2.2.2.2.2.2.2.2.1 out.2.2.2.2.2.2.2.2.2.2.2.2.2.2.2 h_la h_sp) H → va_D A (wdX10_would cyI cyZ cyJ cyB cyO h_x h_tg h_cr h_la h_sp a_x_splitRow h_tp h_tx h_fr h_se h_od h_kn a_x_sheets a_cr_numbers a_sp_counts a_sp_askedBits a_sp_askedBeginnings a_sp_waitingBits a_sp_waitingBeginnings x_n x_blocker x_blockerBits x_tornBy out.2.1 out.2.2.1 out.2.2.2.1 cr_blocker out.2.2.2.2.1 out.2.2.2.2.2.1 out.2.2.2.2.2.2.1 out.2.2.2.2.2.2.2.1 out.2.2.2.2.2.2.2.2.1 out.2.2.2.2.2.2.2.2.2.1 out.2.2.2.2.2.2.2.2.2.2.1 out.2.2.2.2.2.2.2.2.2.2.2.1 out.2.2.2.2.2.2.2.2.2.2.2.2.1 out.2.2.2.2.2.2.2.2.2.2.2.2.2.1 out.2.2.2.2.2.2.2.2.2.2.2.2.2.2.1 out.2.2.2.2.2.2.2.2.2.2.2.2.2.2.2 h_la h_sp) → va_S A s.heap H locs → decode cX10_would pc = .ok (.ireturn, 1) → W p l e ({ frames := 5, cells := 0, slots := 0, locals := 122 } : Room) s m (([.ref h_x, .int v1, .int v2] : List Value).toArray) below meth c H locs 0 0 (MQ below Qc (([.ref h_x, .int v1, .int v2] : List Value).toArray) s 0 0 A) (F0 m pc ls [.int out.1]) := fun H locs pc ls hP hD hS hd => W.iret hx hb hr (fun t ht hW => hq _ t (by rw [ht]; exact hP) hD (hS.F ht)) hS.2.2 hd
  generalize MQ below Qc (([.ref h_x, .int v1, .int v2] : List Value).toArray) s 0 0 A = Q at hQ ⊢
  have hl := lv_entry [.ref h_x, .int v1, .int v2] (n := 4) (Nat.le_of_ble_eq_true rfl)
  rw [lg_entry_eq]
  generalize (lg_sl [.ref h_x, .int v1, .int v2] ++ List.replicate (4 - (lg_sl [.ref h_x, .int v1, .int v2]).length) Slot.unset).toArray = ls at hl ⊢
  have hl : lv_has ls 4 [(0, .ref h_x), (1, .int v1), (2, .int v2)] := hl
  unfold pX10_would at hp
  refine lv_iload_n hx hb dX10_would_0 rfl (lv_at hl 1 rfl) ?_
  refine lv_iconst (v := (0 : Int32)) hx hb dX10_would_1 (by decide) ?_
  refine lv_iconst (v := (1 : Int32)) hx hb dX10_would_2 (by decide) ?_
  obtain ⟨o_1, ho_1, hp⟩ := px_b_at hp
  refine px_callR (v := .int o_1) (va_runS (As := [.int v1, .int (0 : Int32), .int (1 : Int32)]) (rest := []) ⟨hx, hb, hml, hown, hts⟩ (ccX10_within l dC dI cyI cyZ cyJ cyB cyO v1 (0 : Int32) (1 : Int32) o_1 ho_1) (va_cwS 3 hts gX10_would_X10_within rfl rfl rfl hsX10_within ⟨Nat.le_of_ble_eq_true rfl, Nat.le_of_ble_eq_true rfl⟩) (px_preR (wc := []) hK hN hP [] rfl) rfl rfl hl.1 rfl (lv_room (Nat.le_of_ble_eq_true rfl)) dX10_would_3 ⟨Nat.zero_le _, Nat.zero_le _⟩) ?_
  refine lv_if_eq (tgt := 17) hx hb dX10_would_6 (by decide) (fun c_2 => ?_) (fun c_2 => ?_)
  · have hp := px_t hp c_2
    refine lv_iconst (v := (-1 : Int32)) hx hb dX10_would_17 (by decide) ?_
    have ho := px_s hp
    subst ho
    exact hQ _ _ _ _ hP hD hS dX10_would_18
  · have hp := px_f hp c_2
    refine lv_aload_n hx hb dX10_would_9 rfl (lv_at hl 0 rfl) ?_
    refine va_get (D := (dC, dI)) (ci := 10) (v := .int x_n) (C := RX10) (T := TX10) (N := 16) hx hb hts fX10_would_X10 hown hK hP 0 rfl rfl 0 (by decide) (hts _ kX10_would_1) (fun _ h9 => h9) rfl dX10_would_10 ?_
    refine lv_iconst (v := (5 : Int32)) hx hb dX10_would_13 (by decide) ?_
    refine lv_icmp_le (tgt := 19) hx hb dX10_would_14 (by decide) (fun c_3 => ?_) (fun c_3 => ?_)
    · have hp := px_t hp c_3
      refine lv_aload_n hx hb dX10_would_19 rfl (lv_at hl 0 rfl) ?_
      refine va_get (D := (dC, dI)) (ci := 10) (v := .int x_n) (C := RX10) (T := TX10) (N := 16) hx hb hts fX10_would_X10 hown hK hP 0 rfl rfl 0 (by decide) (hts _ kX10_would_1) (fun _ h9 => h9) rfl dX10_would_20 ?_
      refine lv_iconst (v := (5 : Int32)) hx hb dX10_would_23 (by decide) ?_
      refine lv_icmp_ge (tgt := 40) hx hb dX10_would_24 (by decide) (fun c_4 => ?_) (fun c_4 => ?_)
      · have hp := px_t hp c_4
        exact lcX10_would_40 dC dI cyI cyZ cyJ cyB cyO h_x h_tg h_cr h_la h_sp a_x_splitRow h_tp h_tx h_fr h_se h_od h_kn a_x_sheets a_cr_numbers a_sp_counts a_sp_askedBits a_sp_askedBeginnings a_sp_waitingBits a_sp_waitingBeginnings x_n x_blocker x_blockerBits x_tornBy cr_size cr_n cr_blockerBits cr_blocker cr_tagsHeard cr_seemingHeard cr_ones cr_zeros cr_numbers sp_kept sp_waiting sp_counts sp_askedBits sp_askedBeginnings sp_waitingBits sp_waitingBeginnings v1 v2 out hx hb hml hts hown hK hN hA hQ cr_size cr_n cr_blockerBits cr_tagsHeard cr_seemingHeard cr_ones cr_zeros cr_numbers sp_kept sp_waiting sp_counts sp_askedBits sp_askedBeginnings sp_waitingBits sp_waitingBeginnings _ _ ls hp hP hD hS (lv_sub hl [0, 1, 2] rfl)
      · have hp := px_f hp c_4
        refine lv_iload_n hx hb dX10_would_27 rfl (lv_at hl 2 rfl) ?_
        refine lv_iconst (v := (1 : Int32)) hx hb dX10_would_28 (by decide) ?_
        refine lv_aload_n hx hb dX10_would_29 rfl (lv_at hl 0 rfl) ?_
        refine va_get (D := (dC, dI)) (ci := 10) (v := .int x_n) (C := RX10) (T := TX10) (N := 16) hx hb hts fX10_would_X10 hown hK hP 0 rfl rfl 0 (by decide) (hts _ kX10_would_1) (fun _ h9 => h9) rfl dX10_would_30 ?_
        refine lv_ishl hx hb dX10_would_33 ?_
        refine lv_iushr hx hb dX10_would_34 rfl ?_
        refine lv_if_eq (tgt := 40) hx hb dX10_would_35 (by decide) (fun c_11 => ?_) (fun c_11 => ?_)
        · have hp := px_t hp c_11
          exact lcX10_would_40 dC dI cyI cyZ cyJ cyB cyO h_x h_tg h_cr h_la h_sp a_x_splitRow h_tp h_tx h_fr h_se h_od h_kn a_x_sheets a_cr_numbers a_sp_counts a_sp_askedBits a_sp_askedBeginnings a_sp_waitingBits a_sp_waitingBeginnings x_n x_blocker x_blockerBits x_tornBy cr_size cr_n cr_blockerBits cr_blocker cr_tagsHeard cr_seemingHeard cr_ones cr_zeros cr_numbers sp_kept sp_waiting sp_counts sp_askedBits sp_askedBeginnings sp_waitingBits sp_waitingBeginnings v1 v2 out hx hb hml hts hown hK hN hA hQ cr_size cr_n cr_blockerBits cr_tagsHeard cr_seemingHeard cr_ones cr_zeros cr_numbers sp_kept sp_waiting sp_counts sp_askedBits sp_askedBeginnings sp_waitingBits sp_waitingBeginnings _ _ ls hp hP hD hS (lv_sub hl [0, 1, 2] rfl)
        · have hp := px_f hp c_11
          refine lv_iconst (v := (-1 : Int32)) hx hb dX10_would_38 (by decide) ?_
          have ho := px_s hp
          subst ho
          exact hQ _ _ _ _ hP hD hS dX10_would_39
    · have hp := px_f hp c_3
      refine lv_iconst (v := (-1 : Int32)) hx hb dX10_would_17 (by decide) ?_
      have ho := px_s hp
      subst ho
      exact hQ _ _ _ _ hP hD hS dX10_would_18
/-! TagReader.outermostSplit(IIZ)I -/
theorem hvX10_outermostSplit : yX10_outermostSplit.cls = RX10 ∧ yX10_outermostSplit.cls ≠ "java/lang/invoke/MethodHandle" ∧ yX10_outermostSplit.cls ≠ "java/lang/invoke/VarHandle" ∧ (parseMethodDescriptor yX10_outermostSplit.desc).map (fun d => d.parameters.length) = some 3 := by decide +kernel
theorem kX10_outermostSplit_1 : (.methodLink RX10 311 Lib.Math.max.name : Cond) ∈ wsX10_outermostSplit := List.mem_of_getElem? (i := 1) rfl
theorem kX10_outermostSplit_2 : (.static Lib.Math.max.name : Cond) ∈ wsX10_outermostSplit := List.mem_of_getElem? (i := 2) rfl
theorem kX10_outermostSplit_3 : (.initialized "java/lang/Math" : Cond) ∈ wsX10_outermostSplit := List.mem_of_getElem? (i := 3) rfl
theorem kX10_outermostSplit_4 : (.code Lib.Math.max.name Lib.Math.max.code 2 (some .int) : Cond) ∈ wsX10_outermostSplit := List.mem_of_getElem? (i := 4) rfl
theorem kX10_outermostSplit_5 : (.methodLink RX10 302 Lib.Math.min.name : Cond) ∈ wsX10_outermostSplit := List.mem_of_getElem? (i := 5) rfl
theorem kX10_outermostSplit_6 : (.static Lib.Math.min.name : Cond) ∈ wsX10_outermostSplit := List.mem_of_getElem? (i := 6) rfl
theorem kX10_outermostSplit_7 : (.code Lib.Math.min.name Lib.Math.min.code 2 (some .int) : Cond) ∈ wsX10_outermostSplit := List.mem_of_getElem? (i := 7) rfl
theorem fX10_outermostSplit_X10 : ∀ w ∈ u_ws RX10 TX10 16, w ∈ wsX10_outermostSplit := fun _ h => List.mem_cons_of_mem _ (List.mem_append_right _ h)
theorem kX10_outermostSplit_8 : (.fieldLink RX10 46 "TagReader" "splitRow" "[I" : Cond) ∈ wsX10_outermostSplit := List.mem_of_getElem? (i := 8) rfl
set_option maxHeartbeats 4000000 in
set_option maxRecDepth 100000 in
theorem lcX10_outermostSplit_12B {p : Program} {l : Launch} {e : Env} {s : State} {m : MethodId} {args : Array Value} {below : List Frame} {meth : Method} {c : Code} {Q : State → Prop} (dC : Nat → ClassId) (dI : Nat → Nat → Nat) (cyI cyZ cyJ cyB cyO : ClassId) (h_x h_tg h_cr h_la h_sp a_x_splitRow h_tp h_tx h_fr h_se h_od h_kn a_x_sheets : Nat) (x_n : Int32) (x_blocker : Int32) (x_blockerBits : Int32) (x_tornBy : Int32) (x_splitRow : Nat → Int32) (v1 : Int32) (v2 : Int32) (v3 : Int32) (out : Int32) (hx : p.tables.exec = Jvm.exec) (hb : c.code = cX10_outermostSplit) (hml : c.maxLocals = 7) (hts : ∀ w ∈ wsX10_outermostSplit, w.before args s = true) (hown : s.vm.findClass RX10 = some m.cls) (hK : va_K (dC, dI) vwCl (px_TY cyI cyZ cyJ cyB cyO) s) (hN : px_NW s) (hP : va_P (dC, dI) vwCl (wdX10_outermostSplit cyI cyZ cyJ cyB cyO h_x h_tg h_cr h_la h_sp a_x_splitRow h_tp h_tx h_fr h_se h_od h_kn a_x_sheets x_n x_blocker x_blockerBits x_tornBy x_splitRow h_la h_sp) s.heap) (hQ : ∀ (pc : Nat) (ls : Array Slot), decode cX10_outermostSplit pc = .ok (.ireturn, 1) → W p l e ({ frames := 1, cells := 0, slots := 0, locals := 24 } : Room) s m args below meth c s.heap [] 0 0 Q (F0 m pc ls [.int out]))  (K_12 : Int32 → Int32 → Option (Int32)) (hK_12 : ∀ (v4 : Int32) (v5 : Int32) (ls : Array Slot), K_12 v4 v5 = some out → lv_has ls 7 [(0, .ref h_x), (1, .int v1), (2, .int v2), (3, .int v3), (4, .int v4), (5, .int v5)] → W p l e ({ frames := 1, cells := 0, slots := 0, locals := 24 } : Room) s m args below meth c s.heap [] 0 0 Q (F0 m 12 ls [])) : ∀ (v4 : Int32) (v5 : Int32) (ls : Array Slot), pX10_outermostSplit_12B v1 v2 v3 x_splitRow K_12 v4 v5 = some out → lv_has ls 7 [(0, .ref h_x), (1, .int v1), (2, .int v2), (3, .int v3), (4, .int v4), (5, .int v5)] → W p l e ({ frames := 1, cells := 0, slots := 0, locals := 24 } : Room) s m args below meth c s.heap [] 0 0 Q (F0 m 12 ls []) := by
  intro v4 v5 ls hp hl
  unfold pX10_outermostSplit_12B at hp
  refine lv_iload hx hb dX10_outermostSplit_12 (lv_at hl 5 rfl) ?_
  refine lv_iload_n hx hb dX10_outermostSplit_14 rfl (lv_at hl 1 rfl) ?_
  refine lv_iload_n hx hb dX10_outermostSplit_15 rfl (lv_at hl 2 rfl) ?_
  refine va_mmin hx hb (by rw [hml]; exact hl.1.symm) hown (hts _ kX10_outermostSplit_5) (hts _ kX10_outermostSplit_6) (hts _ kX10_outermostSplit_3) (hts _ kX10_outermostSplit_7) (Nat.le_of_ble_eq_true rfl) (Nat.le_of_ble_eq_true rfl) (Nat.zero_le _) (Nat.zero_le _) dX10_outermostSplit_16 ?_
  refine lv_icmp_gt (tgt := 77) hx hb dX10_outermostSplit_19 (by decide) (fun c_1 => ?_) (fun c_1 => ?_)
  · have hp := px_t hp c_1
    refine lv_iload hx hb dX10_outermostSplit_77 (lv_at hl 4 rfl) ?_
    have ho := px_s hp
    subst ho
    exact hQ _ _ dX10_outermostSplit_79
  · have hp := px_f hp c_1
    refine lv_aload_n hx hb dX10_outermostSplit_22 rfl (lv_at hl 0 rfl) ?_
    refine va_get (D := (dC, dI)) (ci := 10) (v := .ref a_x_splitRow) (C := RX10) (T := TX10) (N := 16) hx hb hts fX10_outermostSplit_X10 hown hK hP 0 rfl rfl 8 (by decide) (hts _ kX10_outermostSplit_8) (fun _ h9 => h9) rfl dX10_outermostSplit_23 ?_
    refine lv_iload hx hb dX10_outermostSplit_26 (lv_at hl 5 rfl) ?_
    obtain ⟨g_2, hp⟩ := px_i_at hp
    refine va_iald (D := (dC, dI)) hx hb hK hP 1 0 rfl rfl g_2 dX10_outermostSplit_28 ?_
    refine lv_aload_n hx hb dX10_outermostSplit_29 rfl (lv_at hl 0 rfl) ?_
    refine va_get (D := (dC, dI)) (ci := 10) (v := .ref a_x_splitRow) (C := RX10) (T := TX10) (N := 16) hx hb hts fX10_outermostSplit_X10 hown hK hP 0 rfl rfl 8 (by decide) (hts _ kX10_outermostSplit_8) (fun _ h9 => h9) rfl dX10_outermostSplit_30 ?_
    refine lv_iload_n hx hb dX10_outermostSplit_33 rfl (lv_at hl 1 rfl) ?_
    refine lv_iload hx hb dX10_outermostSplit_34 (lv_at hl 5 rfl) ?_
    refine lv_isub hx hb dX10_outermostSplit_36 ?_
    obtain ⟨g_3, hp⟩ := px_i_at hp
    refine va_iald (D := (dC, dI)) hx hb hK hP 1 0 rfl rfl g_3 dX10_outermostSplit_37 ?_
    refine lv_iadd hx hb dX10_outermostSplit_38 ?_
    refine lv_topi (fun x_4 ex_4 => ?_)
    have hp := px_lt_at hp ex_4
    refine lv_istore (lv' := [(6, .int x_4), (0, .ref h_x), (1, .int v1), (2, .int v2), (3, .int v3), (4, .int v4), (5, .int v5)]) hx hb dX10_outermostSplit_39 hl (by decide) rfl (fun ls hl => ?_)
    refine lv_iload hx hb dX10_outermostSplit_41 (lv_at hl 5 rfl) ?_
    refine lv_if_lt (tgt := 67) hx hb dX10_outermostSplit_43 (by decide) (fun c_5 => ?_) (fun c_5 => ?_)
    · have hp := px_t hp c_5
      refine lv_iload hx hb dX10_outermostSplit_67 (lv_at hl 0 rfl) ?_
      refine lv_istore (lv' := [(4, .int x_4), (6, .int x_4), (0, .ref h_x), (1, .int v1), (2, .int v2), (3, .int v3), (5, .int v5)]) hx hb dX10_outermostSplit_69 hl (by decide) rfl (fun ls hl => ?_)
      refine lv_iinc (v := (v5 + (1 : Int32))) (lv' := [(5, .int (v5 + (1 : Int32))), (4, .int x_4), (6, .int x_4), (0, .ref h_x), (1, .int v1), (2, .int v2), (3, .int v3)]) hx hb dX10_outermostSplit_71 hl (k := 6) rfl rfl (by decide) rfl (fun ls hl => ?_)
      refine lv_goto (tgt := 12) hx hb dX10_outermostSplit_74 (by decide) ?_
      exact hK_12 x_4 (v5 + (1 : Int32)) ls hp (lv_sub hl [3, 4, 5, 6, 1, 0] rfl)
    · have hp := px_f hp c_5
      refine lv_iload_n hx hb dX10_outermostSplit_46 rfl (lv_at hl 4 rfl) ?_
      refine lv_if_eq (tgt := 60) hx hb dX10_outermostSplit_47 (by decide) (fun c_6 => ?_) (fun c_6 => ?_)
      · have hp := px_t hp c_6
        refine lv_iload hx hb dX10_outermostSplit_60 (lv_at hl 0 rfl) ?_
        refine lv_iload hx hb dX10_outermostSplit_62 (lv_at hl 5 rfl) ?_
        refine lv_icmp_ge (tgt := 71) hx hb dX10_outermostSplit_64 (by decide) (fun c_7 => ?_) (fun c_7 => ?_)
        · have hp := px_t hp c_7
          refine lv_iinc (v := (v5 + (1 : Int32))) (lv' := [(5, .int (v5 + (1 : Int32))), (6, .int x_4), (0, .ref h_x), (1, .int v1), (2, .int v2), (3, .int v3), (4, .int v4)]) hx hb dX10_outermostSplit_71 hl (k := 6) rfl rfl (by decide) rfl (fun ls hl => ?_)
          refine lv_goto (tgt := 12) hx hb dX10_outermostSplit_74 (by decide) ?_
          exact hK_12 v4 (v5 + (1 : Int32)) ls hp (lv_sub hl [2, 3, 4, 5, 6, 0] rfl)
        · have hp := px_f hp c_7
          refine lv_iload hx hb dX10_outermostSplit_67 (lv_at hl 0 rfl) ?_
          refine lv_istore (lv' := [(4, .int x_4), (6, .int x_4), (0, .ref h_x), (1, .int v1), (2, .int v2), (3, .int v3), (5, .int v5)]) hx hb dX10_outermostSplit_69 hl (by decide) rfl (fun ls hl => ?_)
          refine lv_iinc (v := (v5 + (1 : Int32))) (lv' := [(5, .int (v5 + (1 : Int32))), (4, .int x_4), (6, .int x_4), (0, .ref h_x), (1, .int v1), (2, .int v2), (3, .int v3)]) hx hb dX10_outermostSplit_71 hl (k := 6) rfl rfl (by decide) rfl (fun ls hl => ?_)
          refine lv_goto (tgt := 12) hx hb dX10_outermostSplit_74 (by decide) ?_
          exact hK_12 x_4 (v5 + (1 : Int32)) ls hp (lv_sub hl [3, 4, 5, 6, 1, 0] rfl)
      · have hp := px_f hp c_6
        refine lv_iload hx hb dX10_outermostSplit_50 (lv_at hl 0 rfl) ?_
        refine lv_iload hx hb dX10_outermostSplit_52 (lv_at hl 5 rfl) ?_
        refine lv_icmp_le (tgt := 71) hx hb dX10_outermostSplit_54 (by decide) (fun c_8 => ?_) (fun c_8 => ?_)
        · have hp := px_t hp c_8
          refine lv_iinc (v := (v5 + (1 : Int32))) (lv' := [(5, .int (v5 + (1 : Int32))), (6, .int x_4), (0, .ref h_x), (1, .int v1), (2, .int v2), (3, .int v3), (4, .int v4)]) hx hb dX10_outermostSplit_71 hl (k := 6) rfl rfl (by decide) rfl (fun ls hl => ?_)
          refine lv_goto (tgt := 12) hx hb dX10_outermostSplit_74 (by decide) ?_
          exact hK_12 v4 (v5 + (1 : Int32)) ls hp (lv_sub hl [2, 3, 4, 5, 6, 0] rfl)
        · have hp := px_f hp c_8
          refine lv_goto (tgt := 67) hx hb dX10_outermostSplit_57 (by decide) ?_
          refine lv_iload hx hb dX10_outermostSplit_67 (lv_at hl 0 rfl) ?_
          refine lv_istore (lv' := [(4, .int x_4), (6, .int x_4), (0, .ref h_x), (1, .int v1), (2, .int v2), (3, .int v3), (5, .int v5)]) hx hb dX10_outermostSplit_69 hl (by decide) rfl (fun ls hl => ?_)
          refine lv_iinc (v := (v5 + (1 : Int32))) (lv' := [(5, .int (v5 + (1 : Int32))), (4, .int x_4), (6, .int x_4), (0, .ref h_x), (1, .int v1), (2, .int v2), (3, .int v3)]) hx hb dX10_outermostSplit_71 hl (k := 6) rfl rfl (by decide) rfl (fun ls hl => ?_)
          refine lv_goto (tgt := 12) hx hb dX10_outermostSplit_74 (by decide) ?_
          exact hK_12 x_4 (v5 + (1 : Int32)) ls hp (lv_sub hl [3, 4, 5, 6, 1, 0] rfl)
theorem lcX10_outermostSplit_12 {p : Program} {l : Launch} {e : Env} {s : State} {m : MethodId} {args : Array Value} {below : List Frame} {meth : Method} {c : Code} {Q : State → Prop} (dC : Nat → ClassId) (dI : Nat → Nat → Nat) (cyI cyZ cyJ cyB cyO : ClassId) (h_x h_tg h_cr h_la h_sp a_x_splitRow h_tp h_tx h_fr h_se h_od h_kn a_x_sheets : Nat) (x_n : Int32) (x_blocker : Int32) (x_blockerBits : Int32) (x_tornBy : Int32) (x_splitRow : Nat → Int32) (v1 : Int32) (v2 : Int32) (v3 : Int32) (out : Int32) (hx : p.tables.exec = Jvm.exec) (hb : c.code = cX10_outermostSplit) (hml : c.maxLocals = 7) (hts : ∀ w ∈ wsX10_outermostSplit, w.before args s = true) (hown : s.vm.findClass RX10 = some m.cls) (hK : va_K (dC, dI) vwCl (px_TY cyI cyZ cyJ cyB cyO) s) (hN : px_NW s) (hP : va_P (dC, dI) vwCl (wdX10_outermostSplit cyI cyZ cyJ cyB cyO h_x h_tg h_cr h_la h_sp a_x_splitRow h_tp h_tx h_fr h_se h_od h_kn a_x_sheets x_n x_blocker x_blockerBits x_tornBy x_splitRow h_la h_sp) s.heap) (hQ : ∀ (pc : Nat) (ls : Array Slot), decode cX10_outermostSplit pc = .ok (.ireturn, 1) → W p l e ({ frames := 1, cells := 0, slots := 0, locals := 24 } : Room) s m args below meth c s.heap [] 0 0 Q (F0 m pc ls [.int out]))  : ∀ n : Nat, ∀ (v4 : Int32) (v5 : Int32) (ls : Array Slot), pX10_outermostSplit_12 v1 v2 v3 x_splitRow n v4 v5 = some out → lv_has ls 7 [(0, .ref h_x), (1, .int v1), (2, .int v2), (3, .int v3), (4, .int v4), (5, .int v5)] → W p l e ({ frames := 1, cells := 0, slots := 0, locals := 24 } : Room) s m args below meth c s.heap [] 0 0 Q (F0 m 12 ls []) := by
  intro n
  induction n with
  | zero =>
    intro v4 v5 ls hp hl
    exact nomatch hp
  | succ n ih => exact lcX10_outermostSplit_12B dC dI cyI cyZ cyJ cyB cyO h_x h_tg h_cr h_la h_sp a_x_splitRow h_tp h_tx h_fr h_se h_od h_kn a_x_sheets x_n x_blocker x_blockerBits x_tornBy x_splitRow v1 v2 v3 out hx hb hml hts hown hK hN hP hQ (pX10_outermostSplit_12 v1 v2 v3 x_splitRow n) ih
set_option maxHeartbeats 4000000 in
set_option maxRecDepth 100000 in
theorem ccX10_outermostSplit (l : Launch) (dC : Nat → ClassId) (dI : Nat → Nat → Nat) (cyI cyZ cyJ cyB cyO : ClassId) (h_x h_tg h_cr h_la h_sp a_x_splitRow h_tp h_tx h_fr h_se h_od h_kn a_x_sheets : Nat) (x_n : Int32) (x_blocker : Int32) (x_blockerBits : Int32) (x_tornBy : Int32) (x_splitRow : Nat → Int32) (v1 : Int32) (v2 : Int32) (v3 : Int32) (out : Int32) (hp : pX10_outermostSplit v1 v2 v3 x_splitRow = some out) : Met l yX10_outermostSplit wsX10_outermostSplit ({ frames := 1, cells := 0, slots := 0, locals := 24 } : Room) (px_PR (dC, dI) (px_TY cyI cyZ cyJ cyB cyO) [.ref h_x, .int v1, .int v2, .int v3] (wdX10_outermostSplit cyI cyZ cyJ cyB cyO h_x h_tg h_cr h_la h_sp a_x_splitRow h_tp h_tx h_fr h_se h_od h_kn a_x_sheets x_n x_blocker x_blockerBits x_tornBy x_splitRow h_la h_sp)) (px_QR (.int out)) 0 0 (fun _ => False) := by
  refine Met.ofW (cc := cX10_outermostSplit) (maxL := 7) (ret := (some .int)) (by decide) rfl ?_
  intro p e s m args below meth c s₁ B hml hv
  obtain ⟨rfl, hP, hK, hN⟩ := hv
  have hx := B.exec
  have hb := B.bytes
  have hr := B.returns
  have hts := atoms_spec (ws := wsX10_outermostSplit) B.pre
  have hown : s.vm.findClass RX10 = some m.cls := findClass_of_methodNamed B.named
  have hlocks := B.notSynchronized
  have hQ : ∀ (pc : Nat) (ls : Array Slot), decode cX10_outermostSplit pc = .ok (.ireturn, 1) → W p l e ({ frames := 1, cells := 0, slots := 0, locals := 24 } : Room) s m (([.ref h_x, .int v1, .int v2, .int v3] : List Value).toArray) below meth c s.heap [] 0 0 (MQ below (px_QR (.int out)) (([.ref h_x, .int v1, .int v2, .int v3] : List Value).toArray) s 0 0 (fun _ => False)) (F0 m pc ls [.int out]) := fun pc ls hd => W.iret hx hb hr (fun t ht hW => ⟨rfl, ht⟩) (fun q h => by cases h) hd
  generalize MQ below (px_QR (.int out)) (([.ref h_x, .int v1, .int v2, .int v3] : List Value).toArray) s 0 0 (fun _ => False) = Q at hQ ⊢
  have hl := lv_entry [.ref h_x, .int v1, .int v2, .int v3] (n := 7) (Nat.le_of_ble_eq_true rfl)
  rw [lg_entry_eq]
  generalize (lg_sl [.ref h_x, .int v1, .int v2, .int v3] ++ List.replicate (7 - (lg_sl [.ref h_x, .int v1, .int v2, .int v3]).length) Slot.unset).toArray = ls at hl ⊢
  have hl : lv_has ls 7 [(0, .ref h_x), (1, .int v1), (2, .int v2), (3, .int v3)] := hl
  unfold pX10_outermostSplit at hp
  refine lv_iconst (v := (-1 : Int32)) hx hb dX10_outermostSplit_0 (by decide) ?_
  refine lv_istore (lv' := [(4, .int (-1 : Int32)), (0, .ref h_x), (1, .int v1), (2, .int v2), (3, .int v3)]) hx hb dX10_outermostSplit_1 hl (by decide) rfl (fun ls hl => ?_)
  refine lv_iconst (v := (0 : Int32)) hx hb dX10_outermostSplit_3 (by decide) ?_
  refine lv_iload_n hx hb dX10_outermostSplit_4 rfl (lv_at hl 2 rfl) ?_
  refine lv_iload_n hx hb dX10_outermostSplit_5 rfl (lv_at hl 3 rfl) ?_
  refine lv_isub hx hb dX10_outermostSplit_6 ?_
  refine va_mmax hx hb (by rw [hml]; exact hl.1.symm) hown (hts _ kX10_outermostSplit_1) (hts _ kX10_outermostSplit_2) (hts _ kX10_outermostSplit_3) (hts _ kX10_outermostSplit_4) (Nat.le_of_ble_eq_true rfl) (Nat.le_of_ble_eq_true rfl) (Nat.zero_le _) (Nat.zero_le _) dX10_outermostSplit_7 ?_
  refine lv_istore (lv' := [(5, .int (if (0 : Int32) < (v1 - v2) then (v1 - v2) else (0 : Int32))), (4, .int (-1 : Int32)), (0, .ref h_x), (1, .int v1), (2, .int v2), (3, .int v3)]) hx hb dX10_outermostSplit_10 hl (by decide) rfl (fun ls hl => ?_)
  exact lcX10_outermostSplit_12 dC dI cyI cyZ cyJ cyB cyO h_x h_tg h_cr h_la h_sp a_x_splitRow h_tp h_tx h_fr h_se h_od h_kn a_x_sheets x_n x_blocker x_blockerBits x_tornBy x_splitRow v1 v2 v3 out hx hb hml hts hown hK hN hP hQ px_FU (-1 : Int32) (if (0 : Int32) < (v1 - v2) then (v1 - v2) else (0 : Int32)) ls hp (lv_sub hl [2, 3, 4, 5, 1, 0] rfl)
/-! TagReader.outermostBlind(IZ)I -/
theorem hvX10_outermostBlind : yX10_outermostBlind.cls = RX10 ∧ yX10_outermostBlind.cls ≠ "java/lang/invoke/MethodHandle" ∧ yX10_outermostBlind.cls ≠ "java/lang/invoke/VarHandle" ∧ (parseMethodDescriptor yX10_outermostBlind.desc).map (fun d => d.parameters.length) = some 2 := by decide +kernel
theorem fX10_outermostBlind_X10 : ∀ w ∈ u_ws RX10 TX10 16, w ∈ wsX10_outermostBlind := fun _ h => List.mem_cons_of_mem _ (List.mem_append_right _ h)
theorem kX10_outermostBlind_2 : (.fieldLink RX10 7 "TagReader" "n" "I" : Cond) ∈ wsX10_outermostBlind := List.mem_of_getElem? (i := 2) rfl
theorem kX10_outermostBlind_1 : (.fieldLink RX10 46 "TagReader" "splitRow" "[I" : Cond) ∈ wsX10_outermostBlind := List.mem_of_getElem? (i := 1) rfl
theorem kX10_outermostBlind_3 : (.methodLink RX10 302 Lib.Math.min.name : Cond) ∈ wsX10_outermostBlind := List.mem_of_getElem? (i := 3) rfl
theorem kX10_outermostBlind_4 : (.static Lib.Math.min.name : Cond) ∈ wsX10_outermostBlind := List.mem_of_getElem? (i := 4) rfl
theorem kX10_outermostBlind_5 : (.initialized "java/lang/Math" : Cond) ∈ wsX10_outermostBlind := List.mem_of_getElem? (i := 5) rfl
theorem kX10_outermostBlind_6 : (.code Lib.Math.min.name Lib.Math.min.code 2 (some .int) : Cond) ∈ wsX10_outermostBlind := List.mem_of_getElem? (i := 6) rfl
set_option maxHeartbeats 4000000 in
set_option maxRecDepth 100000 in
theorem lcX10_outermostBlind_47B {p : Program} {l : Launch} {e : Env} {s : State} {m : MethodId} {args : Array Value} {below : List Frame} {meth : Method} {c : Code} {Q : State → Prop} {A : Nat → Prop} (dC : Nat → ClassId) (dI : Nat → Nat → Nat) (cyI cyZ cyJ cyB cyO : ClassId) (h_x h_tg h_cr h_la h_sp a_x_splitRow h_tp h_tx h_fr h_se h_od h_kn a_x_sheets : Nat) (x_n : Int32) (x_blocker : Int32) (x_blockerBits : Int32) (x_tornBy : Int32) (x_splitRow : Nat → Int32) (v1 : Int32) (v2 : Int32) (out : Int32 × (Nat → Int32)) (hx : p.tables.exec = Jvm.exec) (hb : c.code = cX10_outermostBlind) (hml : c.maxLocals = 6) (hts : ∀ w ∈ wsX10_outermostBlind, w.before args s = true) (hown : s.vm.findClass RX10 = some m.cls) (hK : va_K (dC, dI) vwCl (px_TY cyI cyZ cyJ cyB cyO) s) (hN : px_NW s) (hA : ∀ q : Nat, s.heap.size ≤ q → A q) (hQ : ∀ (H : Heap) (locs : List Loc) (pc : Nat) (ls : Array Slot), va_P (dC, dI) vwCl (wdX10_outermostBlind cyI cyZ cyJ cyB cyO h_x h_tg h_cr h_la h_sp a_x_splitRow h_tp h_tx h_fr h_se h_od h_kn a_x_sheets x_n x_blocker x_blockerBits x_tornBy out.2 h_la h_sp) H → va_D A (wdX10_outermostBlind cyI cyZ cyJ cyB cyO h_x h_tg h_cr h_la h_sp a_x_splitRow h_tp h_tx h_fr h_se h_od h_kn a_x_sheets x_n x_blocker x_blockerBits x_tornBy out.2 h_la h_sp) → va_S A s.heap H locs → decode cX10_outermostBlind pc = .ok (.ireturn, 1) → W p l e ({ frames := 2, cells := 0, slots := 0, locals := 50 } : Room) s m args below meth c H locs 0 0 Q (F0 m pc ls [.int out.1]))  (K_22 : Int32 → (Nat → Int32) → Option (Int32 × (Nat → Int32))) (hK_22 : ∀ (v3 : Int32) (x_splitRow : Nat → Int32) (H : Heap) (locs : List Loc) (ls : Array Slot), K_22 v3 x_splitRow = some out → va_P (dC, dI) vwCl (wdX10_outermostBlind cyI cyZ cyJ cyB cyO h_x h_tg h_cr h_la h_sp a_x_splitRow h_tp h_tx h_fr h_se h_od h_kn a_x_sheets x_n x_blocker x_blockerBits x_tornBy x_splitRow h_la h_sp) H → va_D A (wdX10_outermostBlind cyI cyZ cyJ cyB cyO h_x h_tg h_cr h_la h_sp a_x_splitRow h_tp h_tx h_fr h_se h_od h_kn a_x_sheets x_n x_blocker x_blockerBits x_tornBy x_splitRow h_la h_sp) → va_S A s.heap H locs → lv_has ls 6 [(0, .ref h_x), (1, .int v1), (2, .int v2), (3, .int v3)] → W p l e ({ frames := 2, cells := 0, slots := 0, locals := 50 } : Room) s m args below meth c H locs 0 0 Q (F0 m 22 ls [])) (K_47 : Int32 → Int32 → Int32 → (Nat → Int32) → Option (Int32 × (Nat → Int32))) (hK_47 : ∀ (v3 : Int32) (v4 : Int32) (v5 : Int32) (x_splitRow : Nat → Int32) (H : Heap) (locs : List Loc) (ls : Array Slot), K_47 v3 v4 v5 x_splitRow = some out → va_P (dC, dI) vwCl (wdX10_outermostBlind cyI cyZ cyJ cyB cyO h_x h_tg h_cr h_la h_sp a_x_splitRow h_tp h_tx h_fr h_se h_od h_kn a_x_sheets x_n x_blocker x_blockerBits x_tornBy x_splitRow h_la h_sp) H → va_D A (wdX10_outermostBlind cyI cyZ cyJ cyB cyO h_x h_tg h_cr h_la h_sp a_x_splitRow h_tp h_tx h_fr h_se h_od h_kn a_x_sheets x_n x_blocker x_blockerBits x_tornBy x_splitRow h_la h_sp) → va_S A s.heap H locs → lv_has ls 6 [(0, .ref h_x), (1, .int v1), (2, .int v2), (3, .int v3), (4, .int v4), (5, .int v5)] → W p l e ({ frames := 2, cells := 0, slots := 0, locals := 50 } : Room) s m args below meth c H locs 0 0 Q (F0 m 47 ls [])) : ∀ (v3 : Int32) (v4 : Int32) (v5 : Int32) (x_splitRow : Nat → Int32) (H : Heap) (locs : List Loc) (ls : Array Slot), pX10_outermostBlind_47B v1 v2 x_n K_22 K_47 v3 v4 v5 x_splitRow = some out → va_P (dC, dI) vwCl (wdX10_outermostBlind cyI cyZ cyJ cyB cyO h_x h_tg h_cr h_la h_sp a_x_splitRow h_tp h_tx h_fr h_se h_od h_kn a_x_sheets x_n x_blocker x_blockerBits x_tornBy x_splitRow h_la h_sp) H → va_D A (wdX10_outermostBlind cyI cyZ cyJ cyB cyO h_x h_tg h_cr h_la h_sp a_x_splitRow h_tp h_tx h_fr h_se h_od h_kn a_x_sheets x_n x_blocker x_blockerBits x_tornBy x_splitRow h_la h_sp) → va_S A s.heap H locs → lv_has ls 6 [(0, .ref h_x), (1, .int v1), (2, .int v2), (3, .int v3), (4, .int v4), (5, .int v5)] → W p l e ({ frames := 2, cells := 0, slots := 0, locals := 50 } : Room) s m args below meth c H locs 0 0 Q (F0 m 47 ls []) := by
  intro v3 v4 v5 x_splitRow H locs ls hp hP hD hS hl
  unfold pX10_outermostBlind_47B at hp
  refine lv_iload hx hb dX10_outermostBlind_47 (lv_at hl 5 rfl) ?_
  refine lv_iconst (v := (2 : Int32)) hx hb dX10_outermostBlind_49 (by decide) ?_
  refine lv_icmp_lt (tgt := 77) hx hb dX10_outermostBlind_50 (by decide) (fun c_5 => ?_) (fun c_5 => ?_)
  · have hp := px_t hp c_5
    refine lv_iinc (v := (v3 + (1 : Int32))) (lv' := [(3, .int (v3 + (1 : Int32))), (0, .ref h_x), (1, .int v1), (2, .int v2), (4, .int v4), (5, .int v5)]) hx hb dX10_outermostBlind_77 hl (k := 3) rfl rfl (by decide) rfl (fun ls hl => ?_)
    refine lv_goto (tgt := 22) hx hb dX10_outermostBlind_80 (by decide) ?_
    exact hK_22 (v3 + (1 : Int32)) x_splitRow _ _ ls hp hP hD hS (lv_sub hl [1, 2, 3, 0] rfl)
  · have hp := px_f hp c_5
    refine lv_aload_n hx hb dX10_outermostBlind_53 rfl (lv_at hl 0 rfl) ?_
    refine va_get (D := (dC, dI)) (ci := 10) (v := .ref a_x_splitRow) (C := RX10) (T := TX10) (N := 16) hx hb hts fX10_outermostBlind_X10 hown hK hP 0 rfl rfl 8 (by decide) (hts _ kX10_outermostBlind_1) (fun _ h9 => h9) rfl dX10_outermostBlind_54 ?_
    refine lv_iload hx hb dX10_outermostBlind_57 (lv_at hl 5 rfl) ?_
    refine lv_iconst (v := (1 : Int32)) hx hb dX10_outermostBlind_59 (by decide) ?_
    refine lv_aload_n hx hb dX10_outermostBlind_60 rfl (lv_at hl 0 rfl) ?_
    refine lv_iload hx hb dX10_outermostBlind_61 (lv_at hl 5 rfl) ?_
    refine lv_iload hx hb dX10_outermostBlind_63 (lv_at hl 4 rfl) ?_
    refine lv_iload_n hx hb dX10_outermostBlind_65 rfl (lv_at hl 2 rfl) ?_
    obtain ⟨o_6, ho_6, hp⟩ := px_b_at hp
    refine px_callR (v := .int o_6) (va_runV (As := [.int v5, .int v4, .int v2]) (rest := [.int (1 : Int32), .int v5, .ref a_x_splitRow]) ⟨hx, hb, hml, hown, hts⟩ (ccX10_outermostSplit l dC dI cyI cyZ cyJ cyB cyO h_x h_tg h_cr h_la h_sp a_x_splitRow h_tp h_tx h_fr h_se h_od h_kn a_x_sheets x_n x_blocker x_blockerBits x_tornBy x_splitRow v5 v4 v2 o_6 ho_6) (cwV 3 hts gX10_outermostBlind_X10_outermostSplit rfl rfl rfl hvX10_outermostSplit ⟨Nat.le_of_ble_eq_true rfl, Nat.le_of_ble_eq_true rfl⟩) (px_preRV (wc := (wdX10_outermostSplit cyI cyZ cyJ cyB cyO h_x h_tg h_cr h_la h_sp a_x_splitRow h_tp h_tx h_fr h_se h_od h_kn a_x_sheets x_n x_blocker x_blockerBits x_tornBy x_splitRow h_la h_sp)) (ci := 10) (q0 := 0) hK hN hP [0, 1] rfl rfl rfl) rfl rfl hl.1 rfl (lv_room (Nat.le_of_ble_eq_true rfl)) dX10_outermostBlind_66 ⟨Nat.zero_le _, Nat.zero_le _⟩) ?_
    refine lv_iadd hx hb dX10_outermostBlind_69 ?_
    obtain ⟨g_7, hp⟩ := px_i_at hp
    refine va_iast (D := (dC, dI)) hx hb hK hP hD hS 1 0 rfl rfl g_7 dX10_outermostBlind_70 (fun H locs hP hD hS => ?_)
    have hP : va_P (dC, dI) vwCl (wdX10_outermostBlind cyI cyZ cyJ cyB cyO h_x h_tg h_cr h_la h_sp a_x_splitRow h_tp h_tx h_fr h_se h_od h_kn a_x_sheets x_n x_blocker x_blockerBits x_tornBy (upd x_splitRow (Int32.toNatClampNeg v5) ((1 : Int32) + o_6)) h_la h_sp) H := hP
    have hD : va_D A (wdX10_outermostBlind cyI cyZ cyJ cyB cyO h_x h_tg h_cr h_la h_sp a_x_splitRow h_tp h_tx h_fr h_se h_od h_kn a_x_sheets x_n x_blocker x_blockerBits x_tornBy (upd x_splitRow (Int32.toNatClampNeg v5) ((1 : Int32) + o_6)) h_la h_sp) := hD
    refine lv_iinc (v := (v5 + (-1 : Int32))) (lv' := [(5, .int (v5 + (-1 : Int32))), (0, .ref h_x), (1, .int v1), (2, .int v2), (3, .int v3), (4, .int v4)]) hx hb dX10_outermostBlind_71 hl (k := 5) rfl rfl (by decide) rfl (fun ls hl => ?_)
    refine lv_goto (tgt := 47) hx hb dX10_outermostBlind_74 (by decide) ?_
    exact hK_47 v3 v4 (v5 + (-1 : Int32)) (upd x_splitRow (Int32.toNatClampNeg v5) ((1 : Int32) + o_6)) _ _ ls hp hP hD hS (lv_sub hl [1, 2, 3, 4, 5, 0] rfl)
theorem lcX10_outermostBlind_47 {p : Program} {l : Launch} {e : Env} {s : State} {m : MethodId} {args : Array Value} {below : List Frame} {meth : Method} {c : Code} {Q : State → Prop} {A : Nat → Prop} (dC : Nat → ClassId) (dI : Nat → Nat → Nat) (cyI cyZ cyJ cyB cyO : ClassId) (h_x h_tg h_cr h_la h_sp a_x_splitRow h_tp h_tx h_fr h_se h_od h_kn a_x_sheets : Nat) (x_n : Int32) (x_blocker : Int32) (x_blockerBits : Int32) (x_tornBy : Int32) (x_splitRow : Nat → Int32) (v1 : Int32) (v2 : Int32) (out : Int32 × (Nat → Int32)) (hx : p.tables.exec = Jvm.exec) (hb : c.code = cX10_outermostBlind) (hml : c.maxLocals = 6) (hts : ∀ w ∈ wsX10_outermostBlind, w.before args s = true) (hown : s.vm.findClass RX10 = some m.cls) (hK : va_K (dC, dI) vwCl (px_TY cyI cyZ cyJ cyB cyO) s) (hN : px_NW s) (hA : ∀ q : Nat, s.heap.size ≤ q → A q) (hQ : ∀ (H : Heap) (locs : List Loc) (pc : Nat) (ls : Array Slot), va_P (dC, dI) vwCl (wdX10_outermostBlind cyI cyZ cyJ cyB cyO h_x h_tg h_cr h_la h_sp a_x_splitRow h_tp h_tx h_fr h_se h_od h_kn a_x_sheets x_n x_blocker x_blockerBits x_tornBy out.2 h_la h_sp) H → va_D A (wdX10_outermostBlind cyI cyZ cyJ cyB cyO h_x h_tg h_cr h_la h_sp a_x_splitRow h_tp h_tx h_fr h_se h_od h_kn a_x_sheets x_n x_blocker x_blockerBits x_tornBy out.2 h_la h_sp) → va_S A s.heap H locs → decode cX10_outermostBlind pc = .ok (.ireturn, 1) → W p l e ({ frames := 2, cells := 0, slots := 0, locals := 50 } : Room) s m args below meth c H locs 0 0 Q (F0 m pc ls [.int out.1]))  (K_22 : Int32 → (Nat → Int32) → Option (Int32 × (Nat → Int32))) (hK_22 : ∀ (v3 : Int32) (x_splitRow : Nat → Int32) (H : Heap) (locs : List Loc) (ls : Array Slot), K_22 v3 x_splitRow = some out → va_P (dC, dI) vwCl (wdX10_outermostBlind cyI cyZ cyJ cyB cyO h_x h_tg h_cr h_la h_sp a_x_splitRow h_tp h_tx h_fr h_se h_od h_kn a_x_sheets x_n x_blocker x_blockerBits x_tornBy x_splitRow h_la h_sp) H → va_D A (wdX10_outermostBlind cyI cyZ cyJ cyB cyO h_x h_tg h_cr h_la h_sp a_x_splitRow h_tp h_tx h_fr h_se h_od h_kn a_x_sheets x_n x_blocker x_blockerBits x_tornBy x_splitRow h_la h_sp) → va_S A s.heap H locs → lv_has ls 6 [(0, .ref h_x), (1, .int v1), (2, .int v2), (3, .int v3)] → W p l e ({ frames := 2, cells := 0, slots := 0, locals := 50 } : Room) s m args below meth c H locs 0 0 Q (F0 m 22 ls [])) : ∀ n : Nat, ∀ (v3 : Int32) (v4 : Int32) (v5 : Int32) (x_splitRow : Nat → Int32) (H : Heap) (locs : List Loc) (ls : Array Slot), pX10_outermostBlind_47 v1 v2 x_n K_22 n v3 v4 v5 x_splitRow = some out → va_P (dC, dI) vwCl (wdX10_outermostBlind cyI cyZ cyJ cyB cyO h_x h_tg h_cr h_la h_sp a_x_splitRow h_tp h_tx h_fr h_se h_od h_kn a_x_sheets x_n x_blocker x_blockerBits x_tornBy x_splitRow h_la h_sp) H → va_D A (wdX10_outermostBlind cyI cyZ cyJ cyB cyO h_x h_tg h_cr h_la h_sp a_x_splitRow h_tp h_tx h_fr h_se h_od h_kn a_x_sheets x_n x_blocker x_blockerBits x_tornBy x_splitRow h_la h_sp) → va_S A s.heap H locs → lv_has ls 6 [(0, .ref h_x), (1, .int v1), (2, .int v2), (3, .int v3), (4, .int v4), (5, .int v5)] → W p l e ({ frames := 2, cells := 0, slots := 0, locals := 50 } : Room) s m args below meth c H locs 0 0 Q (F0 m 47 ls []) := by
  intro n
  induction n with
  | zero =>
    intro v3 v4 v5 x_splitRow H locs ls hp hP hD hS hl
    exact nomatch hp
  | succ n ih => exact lcX10_outermostBlind_47B dC dI cyI cyZ cyJ cyB cyO h_x h_tg h_cr h_la h_sp a_x_splitRow h_tp h_tx h_fr h_se h_od h_kn a_x_sheets x_n x_blocker x_blockerBits x_tornBy x_splitRow v1 v2 out hx hb hml hts hown hK hN hA hQ K_22 hK_22 (pX10_outermostBlind_47 v1 v2 x_n K_22 n) ih
set_option maxHeartbeats 4000000 in
set_option maxRecDepth 100000 in
theorem lcX10_outermostBlind_22B {p : Program} {l : Launch} {e : Env} {s : State} {m : MethodId} {args : Array Value} {below : List Frame} {meth : Method} {c : Code} {Q : State → Prop} {A : Nat → Prop} (dC : Nat → ClassId) (dI : Nat → Nat → Nat) (cyI cyZ cyJ cyB cyO : ClassId) (h_x h_tg h_cr h_la h_sp a_x_splitRow h_tp h_tx h_fr h_se h_od h_kn a_x_sheets : Nat) (x_n : Int32) (x_blocker : Int32) (x_blockerBits : Int32) (x_tornBy : Int32) (x_splitRow : Nat → Int32) (v1 : Int32) (v2 : Int32) (out : Int32 × (Nat → Int32)) (hx : p.tables.exec = Jvm.exec) (hb : c.code = cX10_outermostBlind) (hml : c.maxLocals = 6) (hts : ∀ w ∈ wsX10_outermostBlind, w.before args s = true) (hown : s.vm.findClass RX10 = some m.cls) (hK : va_K (dC, dI) vwCl (px_TY cyI cyZ cyJ cyB cyO) s) (hN : px_NW s) (hA : ∀ q : Nat, s.heap.size ≤ q → A q) (hQ : ∀ (H : Heap) (locs : List Loc) (pc : Nat) (ls : Array Slot), va_P (dC, dI) vwCl (wdX10_outermostBlind cyI cyZ cyJ cyB cyO h_x h_tg h_cr h_la h_sp a_x_splitRow h_tp h_tx h_fr h_se h_od h_kn a_x_sheets x_n x_blocker x_blockerBits x_tornBy out.2 h_la h_sp) H → va_D A (wdX10_outermostBlind cyI cyZ cyJ cyB cyO h_x h_tg h_cr h_la h_sp a_x_splitRow h_tp h_tx h_fr h_se h_od h_kn a_x_sheets x_n x_blocker x_blockerBits x_tornBy out.2 h_la h_sp) → va_S A s.heap H locs → decode cX10_outermostBlind pc = .ok (.ireturn, 1) → W p l e ({ frames := 2, cells := 0, slots := 0, locals := 50 } : Room) s m args below meth c H locs 0 0 Q (F0 m pc ls [.int out.1]))  (K_22 : Int32 → (Nat → Int32) → Option (Int32 × (Nat → Int32))) (hK_22 : ∀ (v3 : Int32) (x_splitRow : Nat → Int32) (H : Heap) (locs : List Loc) (ls : Array Slot), K_22 v3 x_splitRow = some out → va_P (dC, dI) vwCl (wdX10_outermostBlind cyI cyZ cyJ cyB cyO h_x h_tg h_cr h_la h_sp a_x_splitRow h_tp h_tx h_fr h_se h_od h_kn a_x_sheets x_n x_blocker x_blockerBits x_tornBy x_splitRow h_la h_sp) H → va_D A (wdX10_outermostBlind cyI cyZ cyJ cyB cyO h_x h_tg h_cr h_la h_sp a_x_splitRow h_tp h_tx h_fr h_se h_od h_kn a_x_sheets x_n x_blocker x_blockerBits x_tornBy x_splitRow h_la h_sp) → va_S A s.heap H locs → lv_has ls 6 [(0, .ref h_x), (1, .int v1), (2, .int v2), (3, .int v3)] → W p l e ({ frames := 2, cells := 0, slots := 0, locals := 50 } : Room) s m args below meth c H locs 0 0 Q (F0 m 22 ls [])) : ∀ (v3 : Int32) (x_splitRow : Nat → Int32) (H : Heap) (locs : List Loc) (ls : Array Slot), pX10_outermostBlind_22B v1 v2 x_n K_22 v3 x_splitRow = some out → va_P (dC, dI) vwCl (wdX10_outermostBlind cyI cyZ cyJ cyB cyO h_x h_tg h_cr h_la h_sp a_x_splitRow h_tp h_tx h_fr h_se h_od h_kn a_x_sheets x_n x_blocker x_blockerBits x_tornBy x_splitRow h_la h_sp) H → va_D A (wdX10_outermostBlind cyI cyZ cyJ cyB cyO h_x h_tg h_cr h_la h_sp a_x_splitRow h_tp h_tx h_fr h_se h_od h_kn a_x_sheets x_n x_blocker x_blockerBits x_tornBy x_splitRow h_la h_sp) → va_S A s.heap H locs → lv_has ls 6 [(0, .ref h_x), (1, .int v1), (2, .int v2), (3, .int v3)] → W p l e ({ frames := 2, cells := 0, slots := 0, locals := 50 } : Room) s m args below meth c H locs 0 0 Q (F0 m 22 ls []) := by
  intro v3 x_splitRow H locs ls hp hP hD hS hl
  unfold pX10_outermostBlind_22B at hp
  refine lv_iload_n hx hb dX10_outermostBlind_22 rfl (lv_at hl 3 rfl) ?_
  refine lv_aload_n hx hb dX10_outermostBlind_23 rfl (lv_at hl 0 rfl) ?_
  refine va_get (D := (dC, dI)) (ci := 10) (v := .int x_n) (C := RX10) (T := TX10) (N := 16) hx hb hts fX10_outermostBlind_X10 hown hK hP 0 rfl rfl 0 (by decide) (hts _ kX10_outermostBlind_2) (fun _ h9 => h9) rfl dX10_outermostBlind_24 ?_
  refine lv_icmp_gt (tgt := 83) hx hb dX10_outermostBlind_27 (by decide) (fun c_2 => ?_) (fun c_2 => ?_)
  · have hp := px_t hp c_2
    refine lv_aload_n hx hb dX10_outermostBlind_83 rfl (lv_at hl 0 rfl) ?_
    refine va_get (D := (dC, dI)) (ci := 10) (v := .ref a_x_splitRow) (C := RX10) (T := TX10) (N := 16) hx hb hts fX10_outermostBlind_X10 hown hK hP 0 rfl rfl 8 (by decide) (hts _ kX10_outermostBlind_1) (fun _ h9 => h9) rfl dX10_outermostBlind_84 ?_
    refine lv_iload_n hx hb dX10_outermostBlind_87 rfl (lv_at hl 1 rfl) ?_
    obtain ⟨g_3, hp⟩ := px_i_at hp
    refine va_iald (D := (dC, dI)) hx hb hK hP 1 0 rfl rfl g_3 dX10_outermostBlind_88 ?_
    have ho := px_s hp
    subst ho
    exact hQ _ _ _ _ hP hD hS dX10_outermostBlind_89
  · have hp := px_f hp c_2
    refine lv_iconst (v := (1 : Int32)) hx hb dX10_outermostBlind_30 (by decide) ?_
    refine lv_iload_n hx hb dX10_outermostBlind_31 rfl (lv_at hl 3 rfl) ?_
    refine lv_iconst (v := (1 : Int32)) hx hb dX10_outermostBlind_32 (by decide) ?_
    refine lv_isub hx hb dX10_outermostBlind_33 ?_
    refine lv_ishl hx hb dX10_outermostBlind_34 ?_
    refine lv_istore (lv' := [(4, .int ((1 : Int32) <<< ((v3 - (1 : Int32)) &&& (31 : Int32)))), (0, .ref h_x), (1, .int v1), (2, .int v2), (3, .int v3)]) hx hb dX10_outermostBlind_35 hl (by decide) rfl (fun ls hl => ?_)
    refine lv_iload_n hx hb dX10_outermostBlind_37 rfl (lv_at hl 2 rfl) ?_
    refine lv_iconst (v := (2 : Int32)) hx hb dX10_outermostBlind_38 (by decide) ?_
    refine lv_iload hx hb dX10_outermostBlind_39 (lv_at hl 0 rfl) ?_
    refine lv_imul hx hb dX10_outermostBlind_41 ?_
    refine va_mmin hx hb (by rw [hml]; exact hl.1.symm) hown (hts _ kX10_outermostBlind_3) (hts _ kX10_outermostBlind_4) (hts _ kX10_outermostBlind_5) (hts _ kX10_outermostBlind_6) (Nat.le_of_ble_eq_true rfl) (Nat.le_of_ble_eq_true rfl) (Nat.zero_le _) (Nat.zero_le _) dX10_outermostBlind_42 ?_
    refine lv_topi (fun x_4 ex_4 => ?_)
    have hp := px_lt_at hp ex_4
    refine lv_istore (lv' := [(5, .int x_4), (4, .int ((1 : Int32) <<< ((v3 - (1 : Int32)) &&& (31 : Int32)))), (0, .ref h_x), (1, .int v1), (2, .int v2), (3, .int v3)]) hx hb dX10_outermostBlind_45 hl (by decide) rfl (fun ls hl => ?_)
    exact lcX10_outermostBlind_47 dC dI cyI cyZ cyJ cyB cyO h_x h_tg h_cr h_la h_sp a_x_splitRow h_tp h_tx h_fr h_se h_od h_kn a_x_sheets x_n x_blocker x_blockerBits x_tornBy x_splitRow v1 v2 out hx hb hml hts hown hK hN hA hQ K_22 hK_22 px_FU v3 ((1 : Int32) <<< ((v3 - (1 : Int32)) &&& (31 : Int32))) x_4 x_splitRow _ _ ls hp hP hD hS (lv_sub hl [2, 3, 4, 5, 1, 0] rfl)
theorem lcX10_outermostBlind_22 {p : Program} {l : Launch} {e : Env} {s : State} {m : MethodId} {args : Array Value} {below : List Frame} {meth : Method} {c : Code} {Q : State → Prop} {A : Nat → Prop} (dC : Nat → ClassId) (dI : Nat → Nat → Nat) (cyI cyZ cyJ cyB cyO : ClassId) (h_x h_tg h_cr h_la h_sp a_x_splitRow h_tp h_tx h_fr h_se h_od h_kn a_x_sheets : Nat) (x_n : Int32) (x_blocker : Int32) (x_blockerBits : Int32) (x_tornBy : Int32) (x_splitRow : Nat → Int32) (v1 : Int32) (v2 : Int32) (out : Int32 × (Nat → Int32)) (hx : p.tables.exec = Jvm.exec) (hb : c.code = cX10_outermostBlind) (hml : c.maxLocals = 6) (hts : ∀ w ∈ wsX10_outermostBlind, w.before args s = true) (hown : s.vm.findClass RX10 = some m.cls) (hK : va_K (dC, dI) vwCl (px_TY cyI cyZ cyJ cyB cyO) s) (hN : px_NW s) (hA : ∀ q : Nat, s.heap.size ≤ q → A q) (hQ : ∀ (H : Heap) (locs : List Loc) (pc : Nat) (ls : Array Slot), va_P (dC, dI) vwCl (wdX10_outermostBlind cyI cyZ cyJ cyB cyO h_x h_tg h_cr h_la h_sp a_x_splitRow h_tp h_tx h_fr h_se h_od h_kn a_x_sheets x_n x_blocker x_blockerBits x_tornBy out.2 h_la h_sp) H → va_D A (wdX10_outermostBlind cyI cyZ cyJ cyB cyO h_x h_tg h_cr h_la h_sp a_x_splitRow h_tp h_tx h_fr h_se h_od h_kn a_x_sheets x_n x_blocker x_blockerBits x_tornBy out.2 h_la h_sp) → va_S A s.heap H locs → decode cX10_outermostBlind pc = .ok (.ireturn, 1) → W p l e ({ frames := 2, cells := 0, slots := 0, locals := 50 } : Room) s m args below meth c H locs 0 0 Q (F0 m pc ls [.int out.1]))  : ∀ n : Nat, ∀ (v3 : Int32) (x_splitRow : Nat → Int32) (H : Heap) (locs : List Loc) (ls : Array Slot), pX10_outermostBlind_22 v1 v2 x_n n v3 x_splitRow = some out → va_P (dC, dI) vwCl (wdX10_outermostBlind cyI cyZ cyJ cyB cyO h_x h_tg h_cr h_la h_sp a_x_splitRow h_tp h_tx h_fr h_se h_od h_kn a_x_sheets x_n x_blocker x_blockerBits x_tornBy x_splitRow h_la h_sp) H → va_D A (wdX10_outermostBlind cyI cyZ cyJ cyB cyO h_x h_tg h_cr h_la h_sp a_x_splitRow h_tp h_tx h_fr h_se h_od h_kn a_x_sheets x_n x_blocker x_blockerBits x_tornBy x_splitRow h_la h_sp) → va_S A s.heap H locs → lv_has ls 6 [(0, .ref h_x), (1, .int v1), (2, .int v2), (3, .int v3)] → W p l e ({ frames := 2, cells := 0, slots := 0, locals := 50 } : Room) s m args below meth c H locs 0 0 Q (F0 m 22 ls []) := by
  intro n
  induction n with
  | zero =>
    intro v3 x_splitRow H locs ls hp hP hD hS hl
    exact nomatch hp
  | succ n ih => exact lcX10_outermostBlind_22B dC dI cyI cyZ cyJ cyB cyO h_x h_tg h_cr h_la h_sp a_x_splitRow h_tp h_tx h_fr h_se h_od h_kn a_x_sheets x_n x_blocker x_blockerBits x_tornBy x_splitRow v1 v2 out hx hb hml hts hown hK hN hA hQ (pX10_outermostBlind_22 v1 v2 x_n n) ih
set_option maxHeartbeats 4000000 in
set_option maxRecDepth 100000 in
theorem lcX10_outermostBlind_2B {p : Program} {l : Launch} {e : Env} {s : State} {m : MethodId} {args : Array Value} {below : List Frame} {meth : Method} {c : Code} {Q : State → Prop} {A : Nat → Prop} (dC : Nat → ClassId) (dI : Nat → Nat → Nat) (cyI cyZ cyJ cyB cyO : ClassId) (h_x h_tg h_cr h_la h_sp a_x_splitRow h_tp h_tx h_fr h_se h_od h_kn a_x_sheets : Nat) (x_n : Int32) (x_blocker : Int32) (x_blockerBits : Int32) (x_tornBy : Int32) (x_splitRow : Nat → Int32) (v1 : Int32) (v2 : Int32) (out : Int32 × (Nat → Int32)) (hx : p.tables.exec = Jvm.exec) (hb : c.code = cX10_outermostBlind) (hml : c.maxLocals = 6) (hts : ∀ w ∈ wsX10_outermostBlind, w.before args s = true) (hown : s.vm.findClass RX10 = some m.cls) (hK : va_K (dC, dI) vwCl (px_TY cyI cyZ cyJ cyB cyO) s) (hN : px_NW s) (hA : ∀ q : Nat, s.heap.size ≤ q → A q) (hQ : ∀ (H : Heap) (locs : List Loc) (pc : Nat) (ls : Array Slot), va_P (dC, dI) vwCl (wdX10_outermostBlind cyI cyZ cyJ cyB cyO h_x h_tg h_cr h_la h_sp a_x_splitRow h_tp h_tx h_fr h_se h_od h_kn a_x_sheets x_n x_blocker x_blockerBits x_tornBy out.2 h_la h_sp) H → va_D A (wdX10_outermostBlind cyI cyZ cyJ cyB cyO h_x h_tg h_cr h_la h_sp a_x_splitRow h_tp h_tx h_fr h_se h_od h_kn a_x_sheets x_n x_blocker x_blockerBits x_tornBy out.2 h_la h_sp) → va_S A s.heap H locs → decode cX10_outermostBlind pc = .ok (.ireturn, 1) → W p l e ({ frames := 2, cells := 0, slots := 0, locals := 50 } : Room) s m args below meth c H locs 0 0 Q (F0 m pc ls [.int out.1]))  (K_2 : Int32 → (Nat → Int32) → Option (Int32 × (Nat → Int32))) (hK_2 : ∀ (v3 : Int32) (x_splitRow : Nat → Int32) (H : Heap) (locs : List Loc) (ls : Array Slot), K_2 v3 x_splitRow = some out → va_P (dC, dI) vwCl (wdX10_outermostBlind cyI cyZ cyJ cyB cyO h_x h_tg h_cr h_la h_sp a_x_splitRow h_tp h_tx h_fr h_se h_od h_kn a_x_sheets x_n x_blocker x_blockerBits x_tornBy x_splitRow h_la h_sp) H → va_D A (wdX10_outermostBlind cyI cyZ cyJ cyB cyO h_x h_tg h_cr h_la h_sp a_x_splitRow h_tp h_tx h_fr h_se h_od h_kn a_x_sheets x_n x_blocker x_blockerBits x_tornBy x_splitRow h_la h_sp) → va_S A s.heap H locs → lv_has ls 6 [(0, .ref h_x), (1, .int v1), (2, .int v2), (3, .int v3)] → W p l e ({ frames := 2, cells := 0, slots := 0, locals := 50 } : Room) s m args below meth c H locs 0 0 Q (F0 m 2 ls [])) : ∀ (v3 : Int32) (x_splitRow : Nat → Int32) (H : Heap) (locs : List Loc) (ls : Array Slot), pX10_outermostBlind_2B v1 v2 x_n K_2 v3 x_splitRow = some out → va_P (dC, dI) vwCl (wdX10_outermostBlind cyI cyZ cyJ cyB cyO h_x h_tg h_cr h_la h_sp a_x_splitRow h_tp h_tx h_fr h_se h_od h_kn a_x_sheets x_n x_blocker x_blockerBits x_tornBy x_splitRow h_la h_sp) H → va_D A (wdX10_outermostBlind cyI cyZ cyJ cyB cyO h_x h_tg h_cr h_la h_sp a_x_splitRow h_tp h_tx h_fr h_se h_od h_kn a_x_sheets x_n x_blocker x_blockerBits x_tornBy x_splitRow h_la h_sp) → va_S A s.heap H locs → lv_has ls 6 [(0, .ref h_x), (1, .int v1), (2, .int v2), (3, .int v3)] → W p l e ({ frames := 2, cells := 0, slots := 0, locals := 50 } : Room) s m args below meth c H locs 0 0 Q (F0 m 2 ls []) := by
  intro v3 x_splitRow H locs ls hp hP hD hS hl
  unfold pX10_outermostBlind_2B at hp
  refine lv_iload_n hx hb dX10_outermostBlind_2 rfl (lv_at hl 3 rfl) ?_
  refine lv_iload_n hx hb dX10_outermostBlind_3 rfl (lv_at hl 1 rfl) ?_
  refine lv_icmp_gt (tgt := 20) hx hb dX10_outermostBlind_4 (by decide) (fun c_1 => ?_) (fun c_1 => ?_)
  · have hp := px_t hp c_1
    refine lv_iconst (v := (1 : Int32)) hx hb dX10_outermostBlind_20 (by decide) ?_
    refine lv_istore_n (lv' := [(3, .int (1 : Int32)), (0, .ref h_x), (1, .int v1), (2, .int v2)]) hx hb dX10_outermostBlind_21 rfl hl (by decide) rfl (fun ls hl => ?_)
    exact lcX10_outermostBlind_22 dC dI cyI cyZ cyJ cyB cyO h_x h_tg h_cr h_la h_sp a_x_splitRow h_tp h_tx h_fr h_se h_od h_kn a_x_sheets x_n x_blocker x_blockerBits x_tornBy x_splitRow v1 v2 out hx hb hml hts hown hK hN hA hQ px_FU (1 : Int32) x_splitRow _ _ ls hp hP hD hS (lv_sub hl [1, 2, 3, 0] rfl)
  · have hp := px_f hp c_1
    refine lv_aload_n hx hb dX10_outermostBlind_7 rfl (lv_at hl 0 rfl) ?_
    refine va_get (D := (dC, dI)) (ci := 10) (v := .ref a_x_splitRow) (C := RX10) (T := TX10) (N := 16) hx hb hts fX10_outermostBlind_X10 hown hK hP 0 rfl rfl 8 (by decide) (hts _ kX10_outermostBlind_1) (fun _ h9 => h9) rfl dX10_outermostBlind_8 ?_
    refine lv_iload_n hx hb dX10_outermostBlind_11 rfl (lv_at hl 3 rfl) ?_
    refine lv_iconst (v := (1 : Int32)) hx hb dX10_outermostBlind_12 (by decide) ?_
    obtain ⟨g_8, hp⟩ := px_i_at hp
    refine va_iast (D := (dC, dI)) hx hb hK hP hD hS 1 0 rfl rfl g_8 dX10_outermostBlind_13 (fun H locs hP hD hS => ?_)
    have hP : va_P (dC, dI) vwCl (wdX10_outermostBlind cyI cyZ cyJ cyB cyO h_x h_tg h_cr h_la h_sp a_x_splitRow h_tp h_tx h_fr h_se h_od h_kn a_x_sheets x_n x_blocker x_blockerBits x_tornBy (upd x_splitRow (Int32.toNatClampNeg v3) (1 : Int32)) h_la h_sp) H := hP
    have hD : va_D A (wdX10_outermostBlind cyI cyZ cyJ cyB cyO h_x h_tg h_cr h_la h_sp a_x_splitRow h_tp h_tx h_fr h_se h_od h_kn a_x_sheets x_n x_blocker x_blockerBits x_tornBy (upd x_splitRow (Int32.toNatClampNeg v3) (1 : Int32)) h_la h_sp) := hD
    refine lv_iinc (v := (v3 + (1 : Int32))) (lv' := [(3, .int (v3 + (1 : Int32))), (0, .ref h_x), (1, .int v1), (2, .int v2)]) hx hb dX10_outermostBlind_14 hl (k := 3) rfl rfl (by decide) rfl (fun ls hl => ?_)
    refine lv_goto (tgt := 2) hx hb dX10_outermostBlind_17 (by decide) ?_
    exact hK_2 (v3 + (1 : Int32)) (upd x_splitRow (Int32.toNatClampNeg v3) (1 : Int32)) _ _ ls hp hP hD hS (lv_sub hl [1, 2, 3, 0] rfl)
theorem lcX10_outermostBlind_2 {p : Program} {l : Launch} {e : Env} {s : State} {m : MethodId} {args : Array Value} {below : List Frame} {meth : Method} {c : Code} {Q : State → Prop} {A : Nat → Prop} (dC : Nat → ClassId) (dI : Nat → Nat → Nat) (cyI cyZ cyJ cyB cyO : ClassId) (h_x h_tg h_cr h_la h_sp a_x_splitRow h_tp h_tx h_fr h_se h_od h_kn a_x_sheets : Nat) (x_n : Int32) (x_blocker : Int32) (x_blockerBits : Int32) (x_tornBy : Int32) (x_splitRow : Nat → Int32) (v1 : Int32) (v2 : Int32) (out : Int32 × (Nat → Int32)) (hx : p.tables.exec = Jvm.exec) (hb : c.code = cX10_outermostBlind) (hml : c.maxLocals = 6) (hts : ∀ w ∈ wsX10_outermostBlind, w.before args s = true) (hown : s.vm.findClass RX10 = some m.cls) (hK : va_K (dC, dI) vwCl (px_TY cyI cyZ cyJ cyB cyO) s) (hN : px_NW s) (hA : ∀ q : Nat, s.heap.size ≤ q → A q) (hQ : ∀ (H : Heap) (locs : List Loc) (pc : Nat) (ls : Array Slot), va_P (dC, dI) vwCl (wdX10_outermostBlind cyI cyZ cyJ cyB cyO h_x h_tg h_cr h_la h_sp a_x_splitRow h_tp h_tx h_fr h_se h_od h_kn a_x_sheets x_n x_blocker x_blockerBits x_tornBy out.2 h_la h_sp) H → va_D A (wdX10_outermostBlind cyI cyZ cyJ cyB cyO h_x h_tg h_cr h_la h_sp a_x_splitRow h_tp h_tx h_fr h_se h_od h_kn a_x_sheets x_n x_blocker x_blockerBits x_tornBy out.2 h_la h_sp) → va_S A s.heap H locs → decode cX10_outermostBlind pc = .ok (.ireturn, 1) → W p l e ({ frames := 2, cells := 0, slots := 0, locals := 50 } : Room) s m args below meth c H locs 0 0 Q (F0 m pc ls [.int out.1]))  : ∀ n : Nat, ∀ (v3 : Int32) (x_splitRow : Nat → Int32) (H : Heap) (locs : List Loc) (ls : Array Slot), pX10_outermostBlind_2 v1 v2 x_n n v3 x_splitRow = some out → va_P (dC, dI) vwCl (wdX10_outermostBlind cyI cyZ cyJ cyB cyO h_x h_tg h_cr h_la h_sp a_x_splitRow h_tp h_tx h_fr h_se h_od h_kn a_x_sheets x_n x_blocker x_blockerBits x_tornBy x_splitRow h_la h_sp) H → va_D A (wdX10_outermostBlind cyI cyZ cyJ cyB cyO h_x h_tg h_cr h_la h_sp a_x_splitRow h_tp h_tx h_fr h_se h_od h_kn a_x_sheets x_n x_blocker x_blockerBits x_tornBy x_splitRow h_la h_sp) → va_S A s.heap H locs → lv_has ls 6 [(0, .ref h_x), (1, .int v1), (2, .int v2), (3, .int v3)] → W p l e ({ frames := 2, cells := 0, slots := 0, locals := 50 } : Room) s m args below meth c H locs 0 0 Q (F0 m 2 ls []) := by
  intro n
  induction n with
  | zero =>
    intro v3 x_splitRow H locs ls hp hP hD hS hl
    exact nomatch hp
  | succ n ih => exact lcX10_outermostBlind_2B dC dI cyI cyZ cyJ cyB cyO h_x h_tg h_cr h_la h_sp a_x_splitRow h_tp h_tx h_fr h_se h_od h_kn a_x_sheets x_n x_blocker x_blockerBits x_tornBy x_splitRow v1 v2 out hx hb hml hts hown hK hN hA hQ (pX10_outermostBlind_2 v1 v2 x_n n) ih
set_option maxHeartbeats 4000000 in
set_option maxRecDepth 100000 in
theorem ccX10_outermostBlind (l : Launch) (dC : Nat → ClassId) (dI : Nat → Nat → Nat) (cyI cyZ cyJ cyB cyO : ClassId) (sz : Nat) (h_x h_tg h_cr h_la h_sp a_x_splitRow h_tp h_tx h_fr h_se h_od h_kn a_x_sheets : Nat) (x_n : Int32) (x_blocker : Int32) (x_blockerBits : Int32) (x_tornBy : Int32) (x_splitRow : Nat → Int32) (v1 : Int32) (v2 : Int32) (out : Int32 × (Nat → Int32)) (hp : pX10_outermostBlind v1 v2 x_n x_splitRow = some out) : Met l yX10_outermostBlind wsX10_outermostBlind ({ frames := 2, cells := 0, slots := 0, locals := 50 } : Room) (px_PW (dC, dI) (px_TY cyI cyZ cyJ cyB cyO) [.ref h_x, .int v1, .int v2] (wdX10_outermostBlind cyI cyZ cyJ cyB cyO h_x h_tg h_cr h_la h_sp a_x_splitRow h_tp h_tx h_fr h_se h_od h_kn a_x_sheets x_n x_blocker x_blockerBits x_tornBy x_splitRow h_la h_sp) sz) (px_QW (some (.int out.1)) (dC, dI) (wdX10_outermostBlind cyI cyZ cyJ cyB cyO h_x h_tg h_cr h_la h_sp a_x_splitRow h_tp h_tx h_fr h_se h_od h_kn a_x_sheets x_n x_blocker x_blockerBits x_tornBy x_splitRow h_la h_sp) (wdX10_outermostBlind cyI cyZ cyJ cyB cyO h_x h_tg h_cr h_la h_sp a_x_splitRow h_tp h_tx h_fr h_se h_od h_kn a_x_sheets x_n x_blocker x_blockerBits x_tornBy out.2 h_la h_sp) sz) 0 0 (va_A (wdX10_outermostBlind cyI cyZ cyJ cyB cyO h_x h_tg h_cr h_la h_sp a_x_splitRow h_tp h_tx h_fr h_se h_od h_kn a_x_sheets x_n x_blocker x_blockerBits x_tornBy x_splitRow h_la h_sp) sz) := by
  refine Met.ofW (cc := cX10_outermostBlind) (maxL := 6) (ret := (some .int)) (by decide) rfl ?_
  intro p e s m args below meth c s₁ B hml hv
  obtain ⟨rfl, hsz, hP, hK, hD0, hN⟩ := hv
  have hx := B.exec
  have hb := B.bytes
  have hr := B.returns
  have hts := atoms_spec (ws := wsX10_outermostBlind) B.pre
  have hown : s.vm.findClass RX10 = some m.cls := findClass_of_methodNamed B.named
  have hlocks := B.notSynchronized
  subst hsz
  have hD := hD0.self (sz := s.heap.size)
  generalize hAe : va_A (wdX10_outermostBlind cyI cyZ cyJ cyB cyO h_x h_tg h_cr h_la h_sp a_x_splitRow h_tp h_tx h_fr h_se h_od h_kn a_x_sheets x_n x_blocker x_blockerBits x_tornBy x_splitRow h_la h_sp) s.heap.size = A at hD ⊢
  have hA : ∀ q : Nat, s.heap.size ≤ q → A q := fun q h => by rw [← hAe]; exact Or.inr h
  have hS : va_S A s.heap s.heap [] := va_S.rf
  have hq := px_QWe (v := (some (.int out.1))) (D := (dC, dI)) (w1 := (wdX10_outermostBlind cyI cyZ cyJ cyB cyO h_x h_tg h_cr h_la h_sp a_x_splitRow h_tp h_tx h_fr h_se h_od h_kn a_x_sheets x_n x_blocker x_blockerBits x_tornBy out.2 h_la h_sp)) (st := s) hAe
  generalize px_QW (some (.int out.1)) (dC, dI) (wdX10_outermostBlind cyI cyZ cyJ cyB cyO h_x h_tg h_cr h_la h_sp a_x_splitRow h_tp h_tx h_fr h_se h_od h_kn a_x_sheets x_n x_blocker x_blockerBits x_tornBy x_splitRow h_la h_sp) (wdX10_outermostBlind cyI cyZ cyJ cyB cyO h_x h_tg h_cr h_la h_sp a_x_splitRow h_tp h_tx h_fr h_se h_od h_kn a_x_sheets x_n x_blocker x_blockerBits x_tornBy out.2 h_la h_sp) s.heap.size = Qc at hq ⊢
  have hQ : ∀ (H : Heap) (locs : List Loc) (pc : Nat) (ls : Array Slot), va_P (dC, dI) vwCl (wdX10_outermostBlind cyI cyZ cyJ cyB cyO h_x h_tg h_cr h_la h_sp a_x_splitRow h_tp h_tx h_fr h_se h_od h_kn a_x_sheets x_n x_blocker x_blockerBits x_tornBy out.2 h_la h_sp) H → va_D A (wdX10_outermostBlind cyI cyZ cyJ cyB cyO h_x h_tg h_cr h_la h_sp a_x_splitRow h_tp h_tx h_fr h_se h_od h_kn a_x_sheets x_n x_blocker x_blockerBits x_tornBy out.2 h_la h_sp) → va_S A s.heap H locs → decode cX10_outermostBlind pc = .ok (.ireturn, 1) → W p l e ({ frames := 2, cells := 0, slots := 0, locals := 50 } : Room) s m (([.ref h_x, .int v1, .int v2] : List Value).toArray) below meth c H locs 0 0 (MQ below Qc (([.ref h_x, .int v1, .int v2] : List Value).toArray) s 0 0 A) (F0 m pc ls [.int out.1]) := fun H locs pc ls hP hD hS hd => W.iret hx hb hr (fun t ht hW => hq _ t (by rw [ht]; exact hP) hD (hS.F ht)) hS.2.2 hd
  generalize MQ below Qc (([.ref h_x, .int v1, .int v2] : List Value).toArray) s 0 0 A = Q at hQ ⊢
  have hl := lv_entry [.ref h_x, .int v1, .int v2] (n := 6) (Nat.le_of_ble_eq_true rfl)
  rw [lg_entry_eq]
  generalize (lg_sl [.ref h_x, .int v1, .int v2] ++ List.replicate (6 - (lg_sl [.ref h_x, .int v1, .int v2]).length) Slot.unset).toArray = ls at hl ⊢
  have hl : lv_has ls 6 [(0, .ref h_x), (1, .int v1), (2, .int v2)] := hl
  unfold pX10_outermostBlind at hp
  refine lv_iconst (v := (0 : Int32)) hx hb dX10_outermostBlind_0 (by decide) ?_
  refine lv_istore_n (lv' := [(3, .int (0 : Int32)), (0, .ref h_x), (1, .int v1), (2, .int v2)]) hx hb dX10_outermostBlind_1 rfl hl (by decide) rfl (fun ls hl => ?_)
  exact lcX10_outermostBlind_2 dC dI cyI cyZ cyJ cyB cyO h_x h_tg h_cr h_la h_sp a_x_splitRow h_tp h_tx h_fr h_se h_od h_kn a_x_sheets x_n x_blocker x_blockerBits x_tornBy x_splitRow v1 v2 out hx hb hml hts hown hK hN hA hQ px_FU (0 : Int32) x_splitRow _ _ ls hp hP hD hS (lv_sub hl [1, 2, 3, 0] rfl)
/-! TagReader.most(III)I -/
theorem hvX10_most : yX10_most.cls = RX10 ∧ yX10_most.cls ≠ "java/lang/invoke/MethodHandle" ∧ yX10_most.cls ≠ "java/lang/invoke/VarHandle" ∧ (parseMethodDescriptor yX10_most.desc).map (fun d => d.parameters.length) = some 3 := by decide +kernel
theorem fX10_most_X10 : ∀ w ∈ u_ws RX10 TX10 16, w ∈ wsX10_most := fun _ h => List.mem_cons_of_mem _ (List.mem_append_right _ h)
theorem kX10_most_1 : (.fieldLink RX10 7 "TagReader" "n" "I" : Cond) ∈ wsX10_most := List.mem_of_getElem? (i := 1) rfl
set_option maxHeartbeats 4000000 in
set_option maxRecDepth 100000 in
theorem lcX10_most_72 {p : Program} {l : Launch} {e : Env} {s : State} {m : MethodId} {args : Array Value} {below : List Frame} {meth : Method} {c : Code} {Q : State → Prop} {A : Nat → Prop} (dC : Nat → ClassId) (dI : Nat → Nat → Nat) (cyI cyZ cyJ cyB cyO : ClassId) (h_x h_tg h_cr h_la h_sp a_x_splitRow h_tp h_tx h_fr h_se h_od h_kn a_x_sheets : Nat) (x_n : Int32) (x_blocker : Int32) (x_blockerBits : Int32) (x_tornBy : Int32) (x_splitRow : Nat → Int32) (v1 : Int32) (v2 : Int32) (v3 : Int32) (out : Int32 × (Nat → Int32)) (hx : p.tables.exec = Jvm.exec) (hb : c.code = cX10_most) (hml : c.maxLocals = 4) (hts : ∀ w ∈ wsX10_most, w.before args s = true) (hown : s.vm.findClass RX10 = some m.cls) (hK : va_K (dC, dI) vwCl (px_TY cyI cyZ cyJ cyB cyO) s) (hN : px_NW s) (hA : ∀ q : Nat, s.heap.size ≤ q → A q) (hQ : ∀ (H : Heap) (locs : List Loc) (pc : Nat) (ls : Array Slot), va_P (dC, dI) vwCl (wdX10_most cyI cyZ cyJ cyB cyO h_x h_tg h_cr h_la h_sp a_x_splitRow h_tp h_tx h_fr h_se h_od h_kn a_x_sheets x_n x_blocker x_blockerBits x_tornBy out.2 h_la h_sp) H → va_D A (wdX10_most cyI cyZ cyJ cyB cyO h_x h_tg h_cr h_la h_sp a_x_splitRow h_tp h_tx h_fr h_se h_od h_kn a_x_sheets x_n x_blocker x_blockerBits x_tornBy out.2 h_la h_sp) → va_S A s.heap H locs → decode cX10_most pc = .ok (.ireturn, 1) → W p l e ({ frames := 3, cells := 0, slots := 0, locals := 75 } : Room) s m args below meth c H locs 0 0 Q (F0 m pc ls [.int out.1]))  : ∀ (t0 : Int32) (t1 : Int32) (x_splitRow : Nat → Int32) (H : Heap) (locs : List Loc) (ls : Array Slot), pX10_most_72 v1 v2 v3 x_n t0 t1 x_splitRow = some out → va_P (dC, dI) vwCl (wdX10_most cyI cyZ cyJ cyB cyO h_x h_tg h_cr h_la h_sp a_x_splitRow h_tp h_tx h_fr h_se h_od h_kn a_x_sheets x_n x_blocker x_blockerBits x_tornBy x_splitRow h_la h_sp) H → va_D A (wdX10_most cyI cyZ cyJ cyB cyO h_x h_tg h_cr h_la h_sp a_x_splitRow h_tp h_tx h_fr h_se h_od h_kn a_x_sheets x_n x_blocker x_blockerBits x_tornBy x_splitRow h_la h_sp) → va_S A s.heap H locs → lv_has ls 4 [] → W p l e ({ frames := 3, cells := 0, slots := 0, locals := 75 } : Room) s m args below meth c H locs 0 0 Q (F0 m 72 ls [.int t0, .int t1, .ref h_x]) := by
  intro t0 t1 x_splitRow H locs ls hp hP hD hS hl
  unfold pX10_most_72 at hp
  obtain ⟨o_10, ho_10, hp⟩ := px_b_at hp
  refine px_callWi (r := o_10.1) (wc := (wdX10_outermostBlind cyI cyZ cyJ cyB cyO h_x h_tg h_cr h_la h_sp a_x_splitRow h_tp h_tx h_fr h_se h_od h_kn a_x_sheets x_n x_blocker x_blockerBits x_tornBy x_splitRow h_la h_sp)) (wr := []) (w1 := (wdX10_outermostBlind cyI cyZ cyJ cyB cyO h_x h_tg h_cr h_la h_sp a_x_splitRow h_tp h_tx h_fr h_se h_od h_kn a_x_sheets x_n x_blocker x_blockerBits x_tornBy o_10.2 h_la h_sp)) (ws2 := (wdX10_most cyI cyZ cyJ cyB cyO h_x h_tg h_cr h_la h_sp a_x_splitRow h_tp h_tx h_fr h_se h_od h_kn a_x_sheets x_n x_blocker x_blockerBits x_tornBy o_10.2 h_la h_sp)) (va_runV (As := [.int t1, .int t0]) (rest := []) ⟨hx, hb, hml, hown, hts⟩ (ccX10_outermostBlind l dC dI cyI cyZ cyJ cyB cyO _ h_x h_tg h_cr h_la h_sp a_x_splitRow h_tp h_tx h_fr h_se h_od h_kn a_x_sheets x_n x_blocker x_blockerBits x_tornBy x_splitRow t1 t0 o_10 ho_10) (cwV 2 hts gX10_most_X10_outermostBlind rfl rfl rfl hvX10_outermostBlind ⟨Nat.le_of_ble_eq_true rfl, Nat.le_of_ble_eq_true rfl⟩) (px_preWV (wc := (wdX10_outermostBlind cyI cyZ cyJ cyB cyO h_x h_tg h_cr h_la h_sp a_x_splitRow h_tp h_tx h_fr h_se h_od h_kn a_x_sheets x_n x_blocker x_blockerBits x_tornBy x_splitRow h_la h_sp)) (ci := 10) (q0 := 0) hK hN hP hD [0, 1] (by decide) rfl rfl rfl) rfl rfl hl.1 rfl (lv_room (Nat.le_of_ble_eq_true rfl)) dX10_most_72 ⟨Nat.zero_le _, Nat.zero_le _⟩) hP hD hS hA [0, 1] [] [0, 1] rfl rfl (by decide) (by decide) (by decide) rfl (fun H locs hP hD hS => ?_)
  have ho := px_s hp
  subst ho
  exact hQ _ _ _ _ hP hD hS dX10_most_75
set_option maxHeartbeats 4000000 in
set_option maxRecDepth 100000 in
theorem ccX10_most (l : Launch) (dC : Nat → ClassId) (dI : Nat → Nat → Nat) (cyI cyZ cyJ cyB cyO : ClassId) (sz : Nat) (h_x h_tg h_cr h_la h_sp a_x_splitRow h_tp h_tx h_fr h_se h_od h_kn a_x_sheets : Nat) (x_n : Int32) (x_blocker : Int32) (x_blockerBits : Int32) (x_tornBy : Int32) (x_splitRow : Nat → Int32) (v1 : Int32) (v2 : Int32) (v3 : Int32) (out : Int32 × (Nat → Int32)) (hp : pX10_most v1 v2 v3 x_n x_splitRow = some out) : Met l yX10_most wsX10_most ({ frames := 3, cells := 0, slots := 0, locals := 75 } : Room) (px_PW (dC, dI) (px_TY cyI cyZ cyJ cyB cyO) [.ref h_x, .int v1, .int v2, .int v3] (wdX10_most cyI cyZ cyJ cyB cyO h_x h_tg h_cr h_la h_sp a_x_splitRow h_tp h_tx h_fr h_se h_od h_kn a_x_sheets x_n x_blocker x_blockerBits x_tornBy x_splitRow h_la h_sp) sz) (px_QW (some (.int out.1)) (dC, dI) (wdX10_most cyI cyZ cyJ cyB cyO h_x h_tg h_cr h_la h_sp a_x_splitRow h_tp h_tx h_fr h_se h_od h_kn a_x_sheets x_n x_blocker x_blockerBits x_tornBy x_splitRow h_la h_sp) (wdX10_most cyI cyZ cyJ cyB cyO h_x h_tg h_cr h_la h_sp a_x_splitRow h_tp h_tx h_fr h_se h_od h_kn a_x_sheets x_n x_blocker x_blockerBits x_tornBy out.2 h_la h_sp) sz) 0 0 (va_A (wdX10_most cyI cyZ cyJ cyB cyO h_x h_tg h_cr h_la h_sp a_x_splitRow h_tp h_tx h_fr h_se h_od h_kn a_x_sheets x_n x_blocker x_blockerBits x_tornBy x_splitRow h_la h_sp) sz) := by
  refine Met.ofW (cc := cX10_most) (maxL := 4) (ret := (some .int)) (by decide) rfl ?_
  intro p e s m args below meth c s₁ B hml hv
  obtain ⟨rfl, hsz, hP, hK, hD0, hN⟩ := hv
  have hx := B.exec
  have hb := B.bytes
  have hr := B.returns
  have hts := atoms_spec (ws := wsX10_most) B.pre
  have hown : s.vm.findClass RX10 = some m.cls := findClass_of_methodNamed B.named
  have hlocks := B.notSynchronized
  subst hsz
  have hD := hD0.self (sz := s.heap.size)
  generalize hAe : va_A (wdX10_most cyI cyZ cyJ cyB cyO h_x h_tg h_cr h_la h_sp a_x_splitRow h_tp h_tx h_fr h_se h_od h_kn a_x_sheets x_n x_blocker x_blockerBits x_tornBy x_splitRow h_la h_sp) s.heap.size = A at hD ⊢
  have hA : ∀ q : Nat, s.heap.size ≤ q → A q := fun q h => by rw [← hAe]; exact Or.inr h
  have hS : va_S A s.heap s.heap [] := va_S.rf
  have hq := px_QWe (v := (some (.int out.1))) (D := (dC, dI)) (w1 := (wdX10_most cyI cyZ cyJ cyB cyO h_x h_tg h_cr h_la h_sp a_x_splitRow h_tp h_tx h_fr h_se h_od h_kn a_x_sheets x_n x_blocker x_blockerBits x_tornBy out.2 h_la h_sp)) (st := s) hAe
  generalize px_QW (some (.int out.1)) (dC, dI) (wdX10_most cyI cyZ cyJ cyB cyO h_x h_tg h_cr h_la h_sp a_x_splitRow h_tp h_tx h_fr h_se h_od h_kn a_x_sheets x_n x_blocker x_blockerBits x_tornBy x_splitRow h_la h_sp) (wdX10_most cyI cyZ cyJ cyB cyO h_x h_tg h_cr h_la h_sp a_x_splitRow h_tp h_tx h_fr h_se h_od h_kn a_x_sheets x_n x_blocker x_blockerBits x_tornBy out.2 h_la h_sp) s.heap.size = Qc at hq ⊢
  have hQ : ∀ (H : Heap) (locs : List Loc) (pc : Nat) (ls : Array Slot), va_P (dC, dI) vwCl (wdX10_most cyI cyZ cyJ cyB cyO h_x h_tg h_cr h_la h_sp a_x_splitRow h_tp h_tx h_fr h_se h_od h_kn a_x_sheets x_n x_blocker x_blockerBits x_tornBy out.2 h_la h_sp) H → va_D A (wdX10_most cyI cyZ cyJ cyB cyO h_x h_tg h_cr h_la h_sp a_x_splitRow h_tp h_tx h_fr h_se h_od h_kn a_x_sheets x_n x_blocker x_blockerBits x_tornBy out.2 h_la h_sp) → va_S A s.heap H locs → decode cX10_most pc = .ok (.ireturn, 1) → W p l e ({ frames := 3, cells := 0, slots := 0, locals := 75 } : Room) s m (([.ref h_x, .int v1, .int v2, .int v3] : List Value).toArray) below meth c H locs 0 0 (MQ below Qc (([.ref h_x, .int v1, .int v2, .int v3] : List Value).toArray) s 0 0 A) (F0 m pc ls [.int out.1]) := fun H locs pc ls hP hD hS hd => W.iret hx hb hr (fun t ht hW => hq _ t (by rw [ht]; exact hP) hD (hS.F ht)) hS.2.2 hd
  generalize MQ below Qc (([.ref h_x, .int v1, .int v2, .int v3] : List Value).toArray) s 0 0 A = Q at hQ ⊢
  have hl := lv_entry [.ref h_x, .int v1, .int v2, .int v3] (n := 4) (Nat.le_of_ble_eq_true rfl)
  rw [lg_entry_eq]
  generalize (lg_sl [.ref h_x, .int v1, .int v2, .int v3] ++ List.replicate (4 - (lg_sl [.ref h_x, .int v1, .int v2, .int v3]).length) Slot.unset).toArray = ls at hl ⊢
  have hl : lv_has ls 4 [(0, .ref h_x), (1, .int v1), (2, .int v2), (3, .int v3)] := hl
  unfold pX10_most at hp
  refine lv_iload_n hx hb dX10_most_0 rfl (lv_at hl 1 rfl) ?_
  refine lv_iconst (v := (0 : Int32)) hx hb dX10_most_1 (by decide) ?_
  refine lv_iconst (v := (1 : Int32)) hx hb dX10_most_2 (by decide) ?_
  obtain ⟨o_1, ho_1, hp⟩ := px_b_at hp
  refine px_callR (v := .int o_1) (va_runS (As := [.int v1, .int (0 : Int32), .int (1 : Int32)]) (rest := []) ⟨hx, hb, hml, hown, hts⟩ (ccX10_within l dC dI cyI cyZ cyJ cyB cyO v1 (0 : Int32) (1 : Int32) o_1 ho_1) (va_cwS 3 hts gX10_most_X10_within rfl rfl rfl hsX10_within ⟨Nat.le_of_ble_eq_true rfl, Nat.le_of_ble_eq_true rfl⟩) (px_preR (wc := []) hK hN hP [] rfl) rfl rfl hl.1 rfl (lv_room (Nat.le_of_ble_eq_true rfl)) dX10_most_3 ⟨Nat.zero_le _, Nat.zero_le _⟩) ?_
  refine lv_if_eq (tgt := 40) hx hb dX10_most_6 (by decide) (fun c_2 => ?_) (fun c_2 => ?_)
  · have hp := px_t hp c_2
    refine lv_iconst (v := (-1 : Int32)) hx hb dX10_most_40 (by decide) ?_
    have ho := px_s hp
    subst ho
    exact hQ _ _ _ _ hP hD hS dX10_most_41
  · have hp := px_f hp c_2
    refine lv_iload_n hx hb dX10_most_9 rfl (lv_at hl 3 rfl) ?_
    refine lv_iconst (v := (0 : Int32)) hx hb dX10_most_10 (by decide) ?_
    refine lv_iconst (v := (1 : Int32)) hx hb dX10_most_11 (by decide) ?_
    obtain ⟨o_3, ho_3, hp⟩ := px_b_at hp
    refine px_callR (v := .int o_3) (va_runS (As := [.int v3, .int (0 : Int32), .int (1 : Int32)]) (rest := []) ⟨hx, hb, hml, hown, hts⟩ (ccX10_within l dC dI cyI cyZ cyJ cyB cyO v3 (0 : Int32) (1 : Int32) o_3 ho_3) (va_cwS 3 hts gX10_most_X10_within rfl rfl rfl hsX10_within ⟨Nat.le_of_ble_eq_true rfl, Nat.le_of_ble_eq_true rfl⟩) (px_preR (wc := []) hK hN hP [] rfl) rfl rfl hl.1 rfl (lv_room (Nat.le_of_ble_eq_true rfl)) dX10_most_12 ⟨Nat.zero_le _, Nat.zero_le _⟩) ?_
    refine lv_if_eq (tgt := 40) hx hb dX10_most_15 (by decide) (fun c_4 => ?_) (fun c_4 => ?_)
    · have hp := px_t hp c_4
      refine lv_iconst (v := (-1 : Int32)) hx hb dX10_most_40 (by decide) ?_
      have ho := px_s hp
      subst ho
      exact hQ _ _ _ _ hP hD hS dX10_most_41
    · have hp := px_f hp c_4
      refine lv_aload_n hx hb dX10_most_18 rfl (lv_at hl 0 rfl) ?_
      refine va_get (D := (dC, dI)) (ci := 10) (v := .int x_n) (C := RX10) (T := TX10) (N := 16) hx hb hts fX10_most_X10 hown hK hP 0 rfl rfl 0 (by decide) (hts _ kX10_most_1) (fun _ h9 => h9) rfl dX10_most_19 ?_
      refine lv_iconst (v := (4 : Int32)) hx hb dX10_most_22 (by decide) ?_
      refine lv_icmp_gt (tgt := 40) hx hb dX10_most_23 (by decide) (fun c_5 => ?_) (fun c_5 => ?_)
      · have hp := px_t hp c_5
        refine lv_iconst (v := (-1 : Int32)) hx hb dX10_most_40 (by decide) ?_
        have ho := px_s hp
        subst ho
        exact hQ _ _ _ _ hP hD hS dX10_most_41
      · have hp := px_f hp c_5
        refine lv_iload_n hx hb dX10_most_26 rfl (lv_at hl 2 rfl) ?_
        refine lv_iconst (v := (0 : Int32)) hx hb dX10_most_27 (by decide) ?_
        refine lv_iconst (v := (1 : Int32)) hx hb dX10_most_28 (by decide) ?_
        refine lv_aload_n hx hb dX10_most_29 rfl (lv_at hl 0 rfl) ?_
        refine va_get (D := (dC, dI)) (ci := 10) (v := .int x_n) (C := RX10) (T := TX10) (N := 16) hx hb hts fX10_most_X10 hown hK hP 0 rfl rfl 0 (by decide) (hts _ kX10_most_1) (fun _ h9 => h9) rfl dX10_most_30 ?_
        refine lv_ishl hx hb dX10_most_33 ?_
        obtain ⟨o_6, ho_6, hp⟩ := px_b_at hp
        refine px_callR (v := .int o_6) (va_runS (As := [.int v2, .int (0 : Int32), .int ((1 : Int32) <<< (x_n &&& (31 : Int32)))]) (rest := []) ⟨hx, hb, hml, hown, hts⟩ (ccX10_within l dC dI cyI cyZ cyJ cyB cyO v2 (0 : Int32) ((1 : Int32) <<< (x_n &&& (31 : Int32))) o_6 ho_6) (va_cwS 3 hts gX10_most_X10_within rfl rfl rfl hsX10_within ⟨Nat.le_of_ble_eq_true rfl, Nat.le_of_ble_eq_true rfl⟩) (px_preR (wc := []) hK hN hP [] rfl) rfl rfl hl.1 rfl (lv_room (Nat.le_of_ble_eq_true rfl)) dX10_most_34 ⟨Nat.zero_le _, Nat.zero_le _⟩) ?_
        refine lv_if_ne (tgt := 42) hx hb dX10_most_37 (by decide) (fun c_7 => ?_) (fun c_7 => ?_)
        · have hp := px_f hp c_7
          refine lv_iload_n hx hb dX10_most_42 rfl (lv_at hl 1 rfl) ?_
          refine lv_iconst (v := (1 : Int32)) hx hb dX10_most_43 (by decide) ?_
          refine lv_icmp_ne (tgt := 61) hx hb dX10_most_44 (by decide) (fun c_8 => ?_) (fun c_8 => ?_)
          · have hp := px_f hp c_8
            refine lv_aload_n hx hb dX10_most_61 rfl (lv_at hl 0 rfl) ?_
            refine lv_iload_n hx hb dX10_most_62 rfl (lv_at hl 2 rfl) ?_
            refine lv_iload_n hx hb dX10_most_63 rfl (lv_at hl 3 rfl) ?_
            refine lv_if_ne (tgt := 71) hx hb dX10_most_64 (by decide) (fun c_9 => ?_) (fun c_9 => ?_)
            · have hp := px_f hp c_9
              refine lv_iconst (v := (0 : Int32)) hx hb dX10_most_71 (by decide) ?_
              exact lcX10_most_72 dC dI cyI cyZ cyJ cyB cyO h_x h_tg h_cr h_la h_sp a_x_splitRow h_tp h_tx h_fr h_se h_od h_kn a_x_sheets x_n x_blocker x_blockerBits x_tornBy x_splitRow v1 v2 v3 out hx hb hml hts hown hK hN hA hQ (0 : Int32) v2 x_splitRow _ _ ls hp hP hD hS (lv_sub hl [] rfl)
            · have hp := px_t hp c_9
              refine lv_iconst (v := (1 : Int32)) hx hb dX10_most_67 (by decide) ?_
              refine lv_goto (tgt := 72) hx hb dX10_most_68 (by decide) ?_
              exact lcX10_most_72 dC dI cyI cyZ cyJ cyB cyO h_x h_tg h_cr h_la h_sp a_x_splitRow h_tp h_tx h_fr h_se h_od h_kn a_x_sheets x_n x_blocker x_blockerBits x_tornBy x_splitRow v1 v2 v3 out hx hb hml hts hown hK hN hA hQ (1 : Int32) v2 x_splitRow _ _ ls hp hP hD hS (lv_sub hl [] rfl)
          · have hp := px_t hp c_8
            refine lv_iload_n hx hb dX10_most_47 rfl (lv_at hl 2 rfl) ?_
            refine lv_if_ne (tgt := 55) hx hb dX10_most_48 (by decide) (fun c_11 => ?_) (fun c_11 => ?_)
            · have hp := px_f hp c_11
              refine lv_iconst (v := (2 : Int32)) hx hb dX10_most_55 (by decide) ?_
              refine lv_iload_n hx hb dX10_most_56 rfl (lv_at hl 2 rfl) ?_
              refine lv_imul hx hb dX10_most_57 ?_
              refine lv_iconst (v := (1 : Int32)) hx hb dX10_most_58 (by decide) ?_
              refine lv_isub hx hb dX10_most_59 ?_
              have ho := px_s hp
              subst ho
              exact hQ _ _ _ _ hP hD hS dX10_most_60
            · have hp := px_t hp c_11
              refine lv_iconst (v := (1 : Int32)) hx hb dX10_most_51 (by decide) ?_
              refine lv_goto (tgt := 60) hx hb dX10_most_52 (by decide) ?_
              have ho := px_s hp
              subst ho
              exact hQ _ _ _ _ hP hD hS dX10_most_60
        · have hp := px_t hp c_7
          refine lv_iconst (v := (-1 : Int32)) hx hb dX10_most_40 (by decide) ?_
          have ho := px_s hp
          subst ho
          exact hQ _ _ _ _ hP hD hS dX10_most_41
/-! TagReader.feed(J)I -/
theorem hvX10_feed : yX10_feed.cls = RX10 ∧ yX10_feed.cls ≠ "java/lang/invoke/MethodHandle" ∧ yX10_feed.cls ≠ "java/lang/invoke/VarHandle" ∧ (parseMethodDescriptor yX10_feed.desc).map (fun d => d.parameters.length) = some 1 := by decide +kernel
theorem fX10_feed_X10 : ∀ w ∈ u_ws RX10 TX10 16, w ∈ wsX10_feed := fun _ h => List.mem_cons_of_mem _ (List.mem_append_left _ (List.mem_append_right _ h))
theorem kX10_feed_1 : (.fieldLink RX10 53 "TagReader" "tape" "LTagReader$Tape;" : Cond) ∈ wsX10_feed := List.mem_of_getElem? (i := 1) rfl
theorem fX10_feed_X7 : ∀ w ∈ u_ws RX7 TX7 6, w ∈ wsX10_feed := fun _ h => List.mem_cons_of_mem _ (List.mem_append_right _ h)
theorem kX10_feed_2 : (.fieldLink RX10 200 "TagReader$Tape" "length" "I" : Cond) ∈ wsX10_feed := List.mem_of_getElem? (i := 2) rfl
set_option maxHeartbeats 4000000 in
set_option maxRecDepth 100000 in
theorem ccX10_feed (l : Launch) (dC : Nat → ClassId) (dI : Nat → Nat → Nat) (cyI cyZ cyJ cyB cyO : ClassId) (sz : Nat) (h_x h_tg h_cr h_la h_sp a_x_splitRow h_tp h_tx h_fr h_se h_od h_kn a_x_sheets a_tp_bytes : Nat) (x_n : Int32) (x_blocker : Int32) (x_blockerBits : Int32) (x_tornBy : Int32) (tp_length : Int32) (tp_kind : Int32) (tp_start : Int32) (tp_value : Int32) (tp_place : Int32) (tp_bytes : Nat → Int32) (v1 : Int64) (out : Int32 × Int32 × (Nat → Int32)) (hp : pX10_feed v1 tp_length tp_bytes = some out) : Met l yX10_feed wsX10_feed ({ frames := 1, cells := 0, slots := 0, locals := 23 } : Room) (px_PW (dC, dI) (px_TY cyI cyZ cyJ cyB cyO) [.ref h_x, .long v1] (wdX10_feed cyI cyZ cyJ cyB cyO h_x h_tg h_cr h_la h_sp a_x_splitRow h_tp h_tx h_fr h_se h_od h_kn a_x_sheets a_tp_bytes x_n x_blocker x_blockerBits x_tornBy tp_length tp_kind tp_start tp_value tp_place tp_bytes h_la h_sp) sz) (px_QW (some (.int out.1)) (dC, dI) (wdX10_feed cyI cyZ cyJ cyB cyO h_x h_tg h_cr h_la h_sp a_x_splitRow h_tp h_tx h_fr h_se h_od h_kn a_x_sheets a_tp_bytes x_n x_blocker x_blockerBits x_tornBy tp_length tp_kind tp_start tp_value tp_place tp_bytes h_la h_sp) (wdX10_feed cyI cyZ cyJ cyB cyO h_x h_tg h_cr h_la h_sp a_x_splitRow h_tp h_tx h_fr h_se h_od h_kn a_x_sheets a_tp_bytes x_n x_blocker x_blockerBits x_tornBy out.2.1 tp_kind tp_start tp_value tp_place out.2.2 h_la h_sp) sz) 0 0 (va_A (wdX10_feed cyI cyZ cyJ cyB cyO h_x h_tg h_cr h_la h_sp a_x_splitRow h_tp h_tx h_fr h_se h_od h_kn a_x_sheets a_tp_bytes x_n x_blocker x_blockerBits x_tornBy tp_length tp_kind tp_start tp_value tp_place tp_bytes h_la h_sp) sz) := by
  refine Met.ofW (cc := cX10_feed) (maxL := 3) (ret := (some .int)) (by decide) rfl ?_
  intro p e s m args below meth c s₁ B hml hv
  obtain ⟨rfl, hsz, hP, hK, hD0, hN⟩ := hv
  have hx := B.exec
  have hb := B.bytes
  have hr := B.returns
  have hts := atoms_spec (ws := wsX10_feed) B.pre
  have hown : s.vm.findClass RX10 = some m.cls := findClass_of_methodNamed B.named
  have hlocks := B.notSynchronized
  subst hsz
  have hD := hD0.self (sz := s.heap.size)
  generalize hAe : va_A (wdX10_feed cyI cyZ cyJ cyB cyO h_x h_tg h_cr h_la h_sp a_x_splitRow h_tp h_tx h_fr h_se h_od h_kn a_x_sheets a_tp_bytes x_n x_blocker x_blockerBits x_tornBy tp_length tp_kind tp_start tp_value tp_place tp_bytes h_la h_sp) s.heap.size = A at hD ⊢
  have hA : ∀ q : Nat, s.heap.size ≤ q → A q := fun q h => by rw [← hAe]; exact Or.inr h
  have hS : va_S A s.heap s.heap [] := va_S.rf
  have hq := px_QWe (v := (some (.int out.1))) (D := (dC, dI)) (w1 := (wdX10_feed cyI cyZ cyJ cyB cyO h_x h_tg h_cr h_la h_sp a_x_splitRow h_tp h_tx h_fr h_se h_od h_kn a_x_sheets a_tp_bytes x_n x_blocker x_blockerBits x_tornBy out.2.1 tp_kind tp_start tp_value tp_place out.2.2 h_la h_sp)) (st := s) hAe
  generalize px_QW (some (.int out.1)) (dC, dI) (wdX10_feed cyI cyZ cyJ cyB cyO h_x h_tg h_cr h_la h_sp a_x_splitRow h_tp h_tx h_fr h_se h_od h_kn a_x_sheets a_tp_bytes x_n x_blocker x_blockerBits x_tornBy tp_length tp_kind tp_start tp_value tp_place tp_bytes h_la h_sp) (wdX10_feed cyI cyZ cyJ cyB cyO h_x h_tg h_cr h_la h_sp a_x_splitRow h_tp h_tx h_fr h_se h_od h_kn a_x_sheets a_tp_bytes x_n x_blocker x_blockerBits x_tornBy out.2.1 tp_kind tp_start tp_value tp_place out.2.2 h_la h_sp) s.heap.size = Qc at hq ⊢
  have hQ : ∀ (H : Heap) (locs : List Loc) (pc : Nat) (ls : Array Slot), va_P (dC, dI) vwCl (wdX10_feed cyI cyZ cyJ cyB cyO h_x h_tg h_cr h_la h_sp a_x_splitRow h_tp h_tx h_fr h_se h_od h_kn a_x_sheets a_tp_bytes x_n x_blocker x_blockerBits x_tornBy out.2.1 tp_kind tp_start tp_value tp_place out.2.2 h_la h_sp) H → va_D A (wdX10_feed cyI cyZ cyJ cyB cyO h_x h_tg h_cr h_la h_sp a_x_splitRow h_tp h_tx h_fr h_se h_od h_kn a_x_sheets a_tp_bytes x_n x_blocker x_blockerBits x_tornBy out.2.1 tp_kind tp_start tp_value tp_place out.2.2 h_la h_sp) → va_S A s.heap H locs → decode cX10_feed pc = .ok (.ireturn, 1) → W p l e ({ frames := 1, cells := 0, slots := 0, locals := 23 } : Room) s m (([.ref h_x, .long v1] : List Value).toArray) below meth c H locs 0 0 (MQ below Qc (([.ref h_x, .long v1] : List Value).toArray) s 0 0 A) (F0 m pc ls [.int out.1]) := fun H locs pc ls hP hD hS hd => W.iret hx hb hr (fun t ht hW => hq _ t (by rw [ht]; exact hP) hD (hS.F ht)) hS.2.2 hd
  generalize MQ below Qc (([.ref h_x, .long v1] : List Value).toArray) s 0 0 A = Q at hQ ⊢
  have hl := lv_entry [.ref h_x, .long v1] (n := 3) (Nat.le_of_ble_eq_true rfl)
  rw [lg_entry_eq]
  generalize (lg_sl [.ref h_x, .long v1] ++ List.replicate (3 - (lg_sl [.ref h_x, .long v1]).length) Slot.unset).toArray = ls at hl ⊢
  have hl : lv_has ls 3 [(0, .ref h_x), (1, .long v1)] := hl
  unfold pX10_feed at hp
  refine lv_aload_n hx hb dX10_feed_0 rfl (lv_at hl 0 rfl) ?_
  refine va_get (D := (dC, dI)) (ci := 10) (v := .ref h_tp) (C := RX10) (T := TX10) (N := 16) hx hb hts fX10_feed_X10 hown hK hP 0 rfl rfl 9 (by decide) (hts _ kX10_feed_1) (fun _ h9 => h9) rfl dX10_feed_1 ?_
  refine va_get (D := (dC, dI)) (ci := 7) (v := .int tp_length) (C := RX7) (T := TX7) (N := 6) hx hb hts fX10_feed_X7 hown hK hP 1 rfl rfl 1 (by decide) (hts _ kX10_feed_2) (fun _ h9 => h9) rfl dX10_feed_4 ?_
  refine lv_bipush (v := (8 : Int32)) hx hb dX10_feed_7 (by decide) ?_
  refine lv_iadd hx hb dX10_feed_9 ?_
  refine lv_sipush (v := (200 : Int32)) hx hb dX10_feed_10 (by decide) ?_
  refine lv_icmp_le (tgt := 19) hx hb dX10_feed_13 (by decide) (fun c_1 => ?_) (fun c_1 => ?_)
  · have hp := px_t hp c_1
    refine lv_aload_n hx hb dX10_feed_19 rfl (lv_at hl 0 rfl) ?_
    refine va_get (D := (dC, dI)) (ci := 10) (v := .ref h_tp) (C := RX10) (T := TX10) (N := 16) hx hb hts fX10_feed_X10 hown hK hP 0 rfl rfl 9 (by decide) (hts _ kX10_feed_1) (fun _ h9 => h9) rfl dX10_feed_20 ?_
    refine lv_lload_n hx hb dX10_feed_23 rfl (lv_at hl 1 rfl) ?_
    obtain ⟨o_2, ho_2, hp⟩ := px_b_at hp
    refine px_callWv (wc := (wdX7_add cyI cyZ cyJ cyB cyO h_tp a_tp_bytes tp_length tp_kind tp_start tp_value tp_place tp_bytes)) (wr := [(h_x, .inr (10, [.int x_n, .int x_blocker, .int x_blockerBits, .int x_tornBy, .ref h_tg, .ref h_cr, .ref h_la, .ref h_sp, .ref a_x_splitRow, .ref h_tp, .ref h_tx, .ref h_fr, .ref h_se, .ref h_od, .ref h_kn, .ref a_x_sheets]))]) (w1 := (wdX7_add cyI cyZ cyJ cyB cyO h_tp a_tp_bytes o_2.1 tp_kind tp_start tp_value tp_place o_2.2)) (ws2 := (wdX10_feed cyI cyZ cyJ cyB cyO h_x h_tg h_cr h_la h_sp a_x_splitRow h_tp h_tx h_fr h_se h_od h_kn a_x_sheets a_tp_bytes x_n x_blocker x_blockerBits x_tornBy o_2.1 tp_kind tp_start tp_value tp_place o_2.2 h_la h_sp)) (va_runV (As := [.long v1]) (rest := []) ⟨hx, hb, hml, hown, hts⟩ (ccX7_add l dC dI cyI cyZ cyJ cyB cyO _ h_tp a_tp_bytes tp_length tp_kind tp_start tp_value tp_place tp_bytes v1 o_2 ho_2) (cwV 1 hts gX10_feed_X7_add rfl rfl rfl hvX7_add ⟨Nat.le_of_ble_eq_true rfl, Nat.le_of_ble_eq_true rfl⟩) (px_preWV (wc := (wdX7_add cyI cyZ cyJ cyB cyO h_tp a_tp_bytes tp_length tp_kind tp_start tp_value tp_place tp_bytes)) (ci := 7) (q0 := 1) hK hN hP hD [1, 2] (by decide) rfl rfl rfl) rfl rfl hl.1 rfl (lv_room (Nat.le_of_ble_eq_true rfl)) dX10_feed_24 ⟨Nat.zero_le _, Nat.zero_le _⟩) hP hD hS hA [1, 2] [0] [0, 1, 2] rfl rfl (by decide) (by decide) (by decide) rfl (fun H locs hP hD hS => ?_)
    refine lv_aload_n hx hb dX10_feed_27 rfl (lv_at hl 0 rfl) ?_
    refine va_get (D := (dC, dI)) (ci := 10) (v := .ref h_tp) (C := RX10) (T := TX10) (N := 16) hx hb hts fX10_feed_X10 hown hK hP 0 rfl rfl 9 (by decide) (hts _ kX10_feed_1) (fun _ h9 => h9) rfl dX10_feed_28 ?_
    refine va_get (D := (dC, dI)) (ci := 7) (v := .int o_2.1) (C := RX7) (T := TX7) (N := 6) hx hb hts fX10_feed_X7 hown hK hP 1 rfl rfl 1 (by decide) (hts _ kX10_feed_2) (fun _ h9 => h9) rfl dX10_feed_31 ?_
    have ho := px_s hp
    subst ho
    exact hQ _ _ _ _ hP hD hS dX10_feed_34
  · have hp := px_f hp c_1
    refine lv_bipush (v := (-3 : Int32)) hx hb dX10_feed_16 (by decide) ?_
    have ho := px_s hp
    subst ho
    exact hQ _ _ _ _ hP hD hS dX10_feed_18
/-! TagReader.end(I)I -/
theorem hvX10_end : yX10_end.cls = RX10 ∧ yX10_end.cls ≠ "java/lang/invoke/MethodHandle" ∧ yX10_end.cls ≠ "java/lang/invoke/VarHandle" ∧ (parseMethodDescriptor yX10_end.desc).map (fun d => d.parameters.length) = some 1 := by decide +kernel
theorem fX10_end_X10 : ∀ w ∈ u_ws RX10 TX10 16, w ∈ wsX10_end := fun _ h => List.mem_cons_of_mem _ (List.mem_append_left _ (List.mem_append_right _ h))
theorem kX10_end_1 : (.fieldLink RX10 53 "TagReader" "tape" "LTagReader$Tape;" : Cond) ∈ wsX10_end := List.mem_of_getElem? (i := 1) rfl
theorem fX10_end_X7 : ∀ w ∈ u_ws RX7 TX7 6, w ∈ wsX10_end := fun _ h => List.mem_cons_of_mem _ (List.mem_append_right _ h)
theorem kX10_end_2 : (.fieldLink RX10 200 "TagReader$Tape" "length" "I" : Cond) ∈ wsX10_end := List.mem_of_getElem? (i := 2) rfl
set_option maxHeartbeats 4000000 in
set_option maxRecDepth 100000 in
theorem ccX10_end (l : Launch) (dC : Nat → ClassId) (dI : Nat → Nat → Nat) (cyI cyZ cyJ cyB cyO : ClassId) (sz : Nat) (h_x h_tg h_cr h_la h_sp a_x_splitRow h_tp h_tx h_fr h_se h_od h_kn a_x_sheets a_tp_bytes : Nat) (x_n : Int32) (x_blocker : Int32) (x_blockerBits : Int32) (x_tornBy : Int32) (tp_length : Int32) (tp_kind : Int32) (tp_start : Int32) (tp_value : Int32) (tp_place : Int32) (tp_bytes : Nat → Int32) (v1 : Int32) (out : Int32 × Int32) (hp : pX10_end v1 tp_length = some out) : Met l yX10_end wsX10_end ({ frames := 1, cells := 0, slots := 0, locals := 22 } : Room) (px_PW (dC, dI) (px_TY cyI cyZ cyJ cyB cyO) [.ref h_x, .int v1] (wdX10_end cyI cyZ cyJ cyB cyO h_x h_tg h_cr h_la h_sp a_x_splitRow h_tp h_tx h_fr h_se h_od h_kn a_x_sheets a_tp_bytes x_n x_blocker x_blockerBits x_tornBy tp_length tp_kind tp_start tp_value tp_place tp_bytes h_la h_sp) sz) (px_QW (some (.int out.1)) (dC, dI) (wdX10_end cyI cyZ cyJ cyB cyO h_x h_tg h_cr h_la h_sp a_x_splitRow h_tp h_tx h_fr h_se h_od h_kn a_x_sheets a_tp_bytes x_n x_blocker x_blockerBits x_tornBy tp_length tp_kind tp_start tp_value tp_place tp_bytes h_la h_sp) (wdX10_end cyI cyZ cyJ cyB cyO h_x h_tg h_cr h_la h_sp a_x_splitRow h_tp h_tx h_fr h_se h_od h_kn a_x_sheets a_tp_bytes x_n x_blocker x_blockerBits x_tornBy out.2 tp_kind tp_start tp_value tp_place tp_bytes h_la h_sp) sz) 0 0 (va_A (wdX10_end cyI cyZ cyJ cyB cyO h_x h_tg h_cr h_la h_sp a_x_splitRow h_tp h_tx h_fr h_se h_od h_kn a_x_sheets a_tp_bytes x_n x_blocker x_blockerBits x_tornBy tp_length tp_kind tp_start tp_value tp_place tp_bytes h_la h_sp) sz) := by
  refine Met.ofW (cc := cX10_end) (maxL := 3) (ret := (some .int)) (by decide) rfl ?_
  intro p e s m args below meth c s₁ B hml hv
  obtain ⟨rfl, hsz, hP, hK, hD0, hN⟩ := hv
  have hx := B.exec
  have hb := B.bytes
  have hr := B.returns
  have hts := atoms_spec (ws := wsX10_end) B.pre
  have hown : s.vm.findClass RX10 = some m.cls := findClass_of_methodNamed B.named
  have hlocks := B.notSynchronized
  subst hsz
  have hD := hD0.self (sz := s.heap.size)
  generalize hAe : va_A (wdX10_end cyI cyZ cyJ cyB cyO h_x h_tg h_cr h_la h_sp a_x_splitRow h_tp h_tx h_fr h_se h_od h_kn a_x_sheets a_tp_bytes x_n x_blocker x_blockerBits x_tornBy tp_length tp_kind tp_start tp_value tp_place tp_bytes h_la h_sp) s.heap.size = A at hD ⊢
  have hA : ∀ q : Nat, s.heap.size ≤ q → A q := fun q h => by rw [← hAe]; exact Or.inr h
  have hS : va_S A s.heap s.heap [] := va_S.rf
  have hq := px_QWe (v := (some (.int out.1))) (D := (dC, dI)) (w1 := (wdX10_end cyI cyZ cyJ cyB cyO h_x h_tg h_cr h_la h_sp a_x_splitRow h_tp h_tx h_fr h_se h_od h_kn a_x_sheets a_tp_bytes x_n x_blocker x_blockerBits x_tornBy out.2 tp_kind tp_start tp_value tp_place tp_bytes h_la h_sp)) (st := s) hAe
  generalize px_QW (some (.int out.1)) (dC, dI) (wdX10_end cyI cyZ cyJ cyB cyO h_x h_tg h_cr h_la h_sp a_x_splitRow h_tp h_tx h_fr h_se h_od h_kn a_x_sheets a_tp_bytes x_n x_blocker x_blockerBits x_tornBy tp_length tp_kind tp_start tp_value tp_place tp_bytes h_la h_sp) (wdX10_end cyI cyZ cyJ cyB cyO h_x h_tg h_cr h_la h_sp a_x_splitRow h_tp h_tx h_fr h_se h_od h_kn a_x_sheets a_tp_bytes x_n x_blocker x_blockerBits x_tornBy out.2 tp_kind tp_start tp_value tp_place tp_bytes h_la h_sp) s.heap.size = Qc at hq ⊢
  have hQ : ∀ (H : Heap) (locs : List Loc) (pc : Nat) (ls : Array Slot), va_P (dC, dI) vwCl (wdX10_end cyI cyZ cyJ cyB cyO h_x h_tg h_cr h_la h_sp a_x_splitRow h_tp h_tx h_fr h_se h_od h_kn a_x_sheets a_tp_bytes x_n x_blocker x_blockerBits x_tornBy out.2 tp_kind tp_start tp_value tp_place tp_bytes h_la h_sp) H → va_D A (wdX10_end cyI cyZ cyJ cyB cyO h_x h_tg h_cr h_la h_sp a_x_splitRow h_tp h_tx h_fr h_se h_od h_kn a_x_sheets a_tp_bytes x_n x_blocker x_blockerBits x_tornBy out.2 tp_kind tp_start tp_value tp_place tp_bytes h_la h_sp) → va_S A s.heap H locs → decode cX10_end pc = .ok (.ireturn, 1) → W p l e ({ frames := 1, cells := 0, slots := 0, locals := 22 } : Room) s m (([.ref h_x, .int v1] : List Value).toArray) below meth c H locs 0 0 (MQ below Qc (([.ref h_x, .int v1] : List Value).toArray) s 0 0 A) (F0 m pc ls [.int out.1]) := fun H locs pc ls hP hD hS hd => W.iret hx hb hr (fun t ht hW => hq _ t (by rw [ht]; exact hP) hD (hS.F ht)) hS.2.2 hd
  generalize MQ below Qc (([.ref h_x, .int v1] : List Value).toArray) s 0 0 A = Q at hQ ⊢
  have hl := lv_entry [.ref h_x, .int v1] (n := 3) (Nat.le_of_ble_eq_true rfl)
  rw [lg_entry_eq]
  generalize (lg_sl [.ref h_x, .int v1] ++ List.replicate (3 - (lg_sl [.ref h_x, .int v1]).length) Slot.unset).toArray = ls at hl ⊢
  have hl : lv_has ls 3 [(0, .ref h_x), (1, .int v1)] := hl
  unfold pX10_end at hp
  refine lv_iload_n hx hb dX10_end_0 rfl (lv_at hl 1 rfl) ?_
  refine lv_iconst (v := (0 : Int32)) hx hb dX10_end_1 (by decide) ?_
  refine lv_aload_n hx hb dX10_end_2 rfl (lv_at hl 0 rfl) ?_
  refine va_get (D := (dC, dI)) (ci := 10) (v := .ref h_tp) (C := RX10) (T := TX10) (N := 16) hx hb hts fX10_end_X10 hown hK hP 0 rfl rfl 9 (by decide) (hts _ kX10_end_1) (fun _ h9 => h9) rfl dX10_end_3 ?_
  refine va_get (D := (dC, dI)) (ci := 7) (v := .int tp_length) (C := RX7) (T := TX7) (N := 6) hx hb hts fX10_end_X7 hown hK hP 1 rfl rfl 1 (by decide) (hts _ kX10_end_2) (fun _ h9 => h9) rfl dX10_end_6 ?_
  obtain ⟨o_1, ho_1, hp⟩ := px_b_at hp
  refine px_callR (v := .int o_1) (va_runS (As := [.int v1, .int (0 : Int32), .int tp_length]) (rest := []) ⟨hx, hb, hml, hown, hts⟩ (ccX10_within l dC dI cyI cyZ cyJ cyB cyO v1 (0 : Int32) tp_length o_1 ho_1) (va_cwS 3 hts gX10_end_X10_within rfl rfl rfl hsX10_within ⟨Nat.le_of_ble_eq_true rfl, Nat.le_of_ble_eq_true rfl⟩) (px_preR (wc := []) hK hN hP [] rfl) rfl rfl hl.1 rfl (lv_room (Nat.le_of_ble_eq_true rfl)) dX10_end_9 ⟨Nat.zero_le _, Nat.zero_le _⟩) ?_
  refine lv_if_ne (tgt := 17) hx hb dX10_end_12 (by decide) (fun c_2 => ?_) (fun c_2 => ?_)
  · have hp := px_f hp c_2
    refine lv_aload_n hx hb dX10_end_17 rfl (lv_at hl 0 rfl) ?_
    refine va_get (D := (dC, dI)) (ci := 10) (v := .ref h_tp) (C := RX10) (T := TX10) (N := 16) hx hb hts fX10_end_X10 hown hK hP 0 rfl rfl 9 (by decide) (hts _ kX10_end_1) (fun _ h9 => h9) rfl dX10_end_18 ?_
    refine va_get (D := (dC, dI)) (ci := 7) (v := .int tp_length) (C := RX7) (T := TX7) (N := 6) hx hb hts fX10_end_X7 hown hK hP 1 rfl rfl 1 (by decide) (hts _ kX10_end_2) (fun _ h9 => h9) rfl dX10_end_21 ?_
    refine lv_istore_n (lv' := [(2, .int tp_length), (0, .ref h_x), (1, .int v1)]) hx hb dX10_end_24 rfl hl (by decide) rfl (fun ls hl => ?_)
    refine lv_aload_n hx hb dX10_end_25 rfl (lv_at hl 1 rfl) ?_
    refine va_get (D := (dC, dI)) (ci := 10) (v := .ref h_tp) (C := RX10) (T := TX10) (N := 16) hx hb hts fX10_end_X10 hown hK hP 0 rfl rfl 9 (by decide) (hts _ kX10_end_1) (fun _ h9 => h9) rfl dX10_end_26 ?_
    refine lv_iload_n hx hb dX10_end_29 rfl (lv_at hl 2 rfl) ?_
    refine va_put (D := (dC, dI)) (ci := 7) (v := .int v1) (ty := .int) (C := RX7) (T := TX7) (N := 6) hx hb hts fX10_end_X7 tyX7 tyX7_ok nmX7 hown hK hP hD hS 1 rfl rfl 1 (by decide) (hts _ kX10_end_2) (fun _ h9 => h9) rfl (tyX7_ok 1 (by decide)) rfl rfl (Nat.le_of_ble_eq_true rfl) dX10_end_30 (fun H locs hP hD hS => ?_)
    have hP : va_P (dC, dI) vwCl (wdX10_end cyI cyZ cyJ cyB cyO h_x h_tg h_cr h_la h_sp a_x_splitRow h_tp h_tx h_fr h_se h_od h_kn a_x_sheets a_tp_bytes x_n x_blocker x_blockerBits x_tornBy v1 tp_kind tp_start tp_value tp_place tp_bytes h_la h_sp) H := hP
    have hD : va_D A (wdX10_end cyI cyZ cyJ cyB cyO h_x h_tg h_cr h_la h_sp a_x_splitRow h_tp h_tx h_fr h_se h_od h_kn a_x_sheets a_tp_bytes x_n x_blocker x_blockerBits x_tornBy v1 tp_kind tp_start tp_value tp_place tp_bytes h_la h_sp) := hD
    refine lv_iload_n hx hb dX10_end_33 rfl (lv_at hl 0 rfl) ?_
    have ho := px_s hp
    subst ho
    exact hQ _ _ _ _ hP hD hS dX10_end_34
  · have hp := px_t hp c_2
    refine lv_iconst (v := (-1 : Int32)) hx hb dX10_end_15 (by decide) ?_
    have ho := px_s hp
    subst ho
    exact hQ _ _ _ _ hP hD hS dX10_end_16
/-! TagReader.fault()I -/
theorem hvX10_fault : yX10_fault.cls = RX10 ∧ yX10_fault.cls ≠ "java/lang/invoke/MethodHandle" ∧ yX10_fault.cls ≠ "java/lang/invoke/VarHandle" ∧ (parseMethodDescriptor yX10_fault.desc).map (fun d => d.parameters.length) = some 0 := by decide +kernel
theorem fX10_fault_X10 : ∀ w ∈ u_ws RX10 TX10 16, w ∈ wsX10_fault := fun _ h => List.mem_cons_of_mem _ (List.mem_append_left _ (List.mem_append_right _ h))
theorem kX10_fault_1 : (.fieldLink RX10 60 "TagReader" "text" "LTagReader$Text;" : Cond) ∈ wsX10_fault := List.mem_of_getElem? (i := 1) rfl
theorem fX10_fault_X8 : ∀ w ∈ u_ws RX8 TX8 6, w ∈ wsX10_fault := fun _ h => List.mem_cons_of_mem _ (List.mem_append_right _ h)
theorem kX10_fault_2 : (.fieldLink RX10 210 "TagReader$Text" "faultMet" "I" : Cond) ∈ wsX10_fault := List.mem_of_getElem? (i := 2) rfl
set_option maxHeartbeats 4000000 in
set_option maxRecDepth 100000 in
theorem ccX10_fault (l : Launch) (dC : Nat → ClassId) (dI : Nat → Nat → Nat) (cyI cyZ cyJ cyB cyO : ClassId) (h_x h_tg h_cr h_la h_sp a_x_splitRow h_tp h_tx h_fr h_se h_od h_kn a_x_sheets a_tx_held a_tx_told a_tx_named : Nat) (x_n : Int32) (x_blocker : Int32) (x_blockerBits : Int32) (x_tornBy : Int32) (tx_faultMet : Int32) (tx_faultPlace : Int32) (tx_lines : Int32) (tx_held : Nat → Int32) (tx_told : Nat → Int32) (tx_named : Nat → Int32) (out : Int32) (hp : pX10_fault tx_faultMet = some out) : Met l yX10_fault wsX10_fault ({ frames := 0, cells := 0, slots := 0, locals := 0 } : Room) (px_PR (dC, dI) (px_TY cyI cyZ cyJ cyB cyO) [.ref h_x] (wdX10_fault cyI cyZ cyJ cyB cyO h_x h_tg h_cr h_la h_sp a_x_splitRow h_tp h_tx h_fr h_se h_od h_kn a_x_sheets a_tx_held a_tx_told a_tx_named x_n x_blocker x_blockerBits x_tornBy tx_faultMet tx_faultPlace tx_lines tx_held tx_told tx_named h_la h_sp)) (px_QR (.int out)) 0 0 (fun _ => False) := by
  refine Met.ofW (cc := cX10_fault) (maxL := 1) (ret := (some .int)) (by decide) rfl ?_
  intro p e s m args below meth c s₁ B hml hv
  obtain ⟨rfl, hP, hK, hN⟩ := hv
  have hx := B.exec
  have hb := B.bytes
  have hr := B.returns
  have hts := atoms_spec (ws := wsX10_fault) B.pre
  have hown : s.vm.findClass RX10 = some m.cls := findClass_of_methodNamed B.named
  have hlocks := B.notSynchronized
  have hQ : ∀ (pc : Nat) (ls : Array Slot), decode cX10_fault pc = .ok (.ireturn, 1) → W p l e ({ frames := 0, cells := 0, slots := 0, locals := 0 } : Room) s m (([.ref h_x] : List Value).toArray) below meth c s.heap [] 0 0 (MQ below (px_QR (.int out)) (([.ref h_x] : List Value).toArray) s 0 0 (fun _ => False)) (F0 m pc ls [.int out]) := fun pc ls hd => W.iret hx hb hr (fun t ht hW => ⟨rfl, ht⟩) (fun q h => by cases h) hd
  generalize MQ below (px_QR (.int out)) (([.ref h_x] : List Value).toArray) s 0 0 (fun _ => False) = Q at hQ ⊢
  have hl := lv_entry [.ref h_x] (n := 1) (Nat.le_of_ble_eq_true rfl)
  rw [lg_entry_eq]
  generalize (lg_sl [.ref h_x] ++ List.replicate (1 - (lg_sl [.ref h_x]).length) Slot.unset).toArray = ls at hl ⊢
  have hl : lv_has ls 1 [(0, .ref h_x)] := hl
  unfold pX10_fault at hp
  refine lv_aload_n hx hb dX10_fault_0 rfl (lv_at hl 0 rfl) ?_
  refine va_get (D := (dC, dI)) (ci := 10) (v := .ref h_tx) (C := RX10) (T := TX10) (N := 16) hx hb hts fX10_fault_X10 hown hK hP 0 rfl rfl 10 (by decide) (hts _ kX10_fault_1) (fun _ h9 => h9) rfl dX10_fault_1 ?_
  refine va_get (D := (dC, dI)) (ci := 8) (v := .int tx_faultMet) (C := RX8) (T := TX8) (N := 6) hx hb hts fX10_fault_X8 hown hK hP 1 rfl rfl 1 (by decide) (hts _ kX10_fault_2) (fun _ h9 => h9) rfl dX10_fault_4 ?_
  have ho := px_s hp
  subst ho
  exact hQ _ _ dX10_fault_7
/-! TagReader.rule(I)I -/
theorem hvX10_rule : yX10_rule.cls = RX10 ∧ yX10_rule.cls ≠ "java/lang/invoke/MethodHandle" ∧ yX10_rule.cls ≠ "java/lang/invoke/VarHandle" ∧ (parseMethodDescriptor yX10_rule.desc).map (fun d => d.parameters.length) = some 1 := by decide +kernel
theorem fX10_rule_X10 : ∀ w ∈ u_ws RX10 TX10 16, w ∈ wsX10_rule := fun _ h => List.mem_cons_of_mem _ (List.mem_append_left _ (List.mem_append_right _ h))
theorem kX10_rule_1 : (.fieldLink RX10 60 "TagReader" "text" "LTagReader$Text;" : Cond) ∈ wsX10_rule := List.mem_of_getElem? (i := 1) rfl
theorem fX10_rule_X8 : ∀ w ∈ u_ws RX8 TX8 6, w ∈ wsX10_rule := fun _ h => List.mem_cons_of_mem _ (List.mem_append_right _ h)
theorem kX10_rule_2 : (.fieldLink RX10 213 "TagReader$Text" "held" "[I" : Cond) ∈ wsX10_rule := List.mem_of_getElem? (i := 2) rfl
set_option maxHeartbeats 4000000 in
set_option maxRecDepth 100000 in
theorem ccX10_rule (l : Launch) (dC : Nat → ClassId) (dI : Nat → Nat → Nat) (cyI cyZ cyJ cyB cyO : ClassId) (h_x h_tg h_cr h_la h_sp a_x_splitRow h_tp h_tx h_fr h_se h_od h_kn a_x_sheets a_tx_held a_tx_told a_tx_named : Nat) (x_n : Int32) (x_blocker : Int32) (x_blockerBits : Int32) (x_tornBy : Int32) (tx_faultMet : Int32) (tx_faultPlace : Int32) (tx_lines : Int32) (tx_held : Nat → Int32) (tx_told : Nat → Int32) (tx_named : Nat → Int32) (v1 : Int32) (out : Int32) (hp : pX10_rule v1 tx_held = some out) : Met l yX10_rule wsX10_rule ({ frames := 1, cells := 0, slots := 0, locals := 22 } : Room) (px_PR (dC, dI) (px_TY cyI cyZ cyJ cyB cyO) [.ref h_x, .int v1] (wdX10_rule cyI cyZ cyJ cyB cyO h_x h_tg h_cr h_la h_sp a_x_splitRow h_tp h_tx h_fr h_se h_od h_kn a_x_sheets a_tx_held a_tx_told a_tx_named x_n x_blocker x_blockerBits x_tornBy tx_faultMet tx_faultPlace tx_lines tx_held tx_told tx_named h_la h_sp)) (px_QR (.int out)) 0 0 (fun _ => False) := by
  refine Met.ofW (cc := cX10_rule) (maxL := 2) (ret := (some .int)) (by decide) rfl ?_
  intro p e s m args below meth c s₁ B hml hv
  obtain ⟨rfl, hP, hK, hN⟩ := hv
  have hx := B.exec
  have hb := B.bytes
  have hr := B.returns
  have hts := atoms_spec (ws := wsX10_rule) B.pre
  have hown : s.vm.findClass RX10 = some m.cls := findClass_of_methodNamed B.named
  have hlocks := B.notSynchronized
  have hQ : ∀ (pc : Nat) (ls : Array Slot), decode cX10_rule pc = .ok (.ireturn, 1) → W p l e ({ frames := 1, cells := 0, slots := 0, locals := 22 } : Room) s m (([.ref h_x, .int v1] : List Value).toArray) below meth c s.heap [] 0 0 (MQ below (px_QR (.int out)) (([.ref h_x, .int v1] : List Value).toArray) s 0 0 (fun _ => False)) (F0 m pc ls [.int out]) := fun pc ls hd => W.iret hx hb hr (fun t ht hW => ⟨rfl, ht⟩) (fun q h => by cases h) hd
  generalize MQ below (px_QR (.int out)) (([.ref h_x, .int v1] : List Value).toArray) s 0 0 (fun _ => False) = Q at hQ ⊢
  have hl := lv_entry [.ref h_x, .int v1] (n := 2) (Nat.le_of_ble_eq_true rfl)
  rw [lg_entry_eq]
  generalize (lg_sl [.ref h_x, .int v1] ++ List.replicate (2 - (lg_sl [.ref h_x, .int v1]).length) Slot.unset).toArray = ls at hl ⊢
  have hl : lv_has ls 2 [(0, .ref h_x), (1, .int v1)] := hl
  unfold pX10_rule at hp
  refine lv_iload_n hx hb dX10_rule_0 rfl (lv_at hl 1 rfl) ?_
  refine lv_iconst (v := (0 : Int32)) hx hb dX10_rule_1 (by decide) ?_
  refine lv_aload_n hx hb dX10_rule_2 rfl (lv_at hl 0 rfl) ?_
  refine va_get (D := (dC, dI)) (ci := 10) (v := .ref h_tx) (C := RX10) (T := TX10) (N := 16) hx hb hts fX10_rule_X10 hown hK hP 0 rfl rfl 10 (by decide) (hts _ kX10_rule_1) (fun _ h9 => h9) rfl dX10_rule_3 ?_
  refine va_get (D := (dC, dI)) (ci := 8) (v := .ref a_tx_held) (C := RX8) (T := TX8) (N := 6) hx hb hts fX10_rule_X8 hown hK hP 1 rfl rfl 0 (by decide) (hts _ kX10_rule_2) (fun _ h9 => h9) rfl dX10_rule_6 ?_
  refine va_alen (D := (dC, dI)) (v := (9 : Int32)) hx hb hK hP 2 0 rfl rfl rfl dX10_rule_9 ?_
  refine lv_iconst (v := (1 : Int32)) hx hb dX10_rule_10 (by decide) ?_
  refine lv_isub hx hb dX10_rule_11 ?_
  obtain ⟨o_1, ho_1, hp⟩ := px_b_at hp
  refine px_callR (v := .int o_1) (va_runS (As := [.int v1, .int (0 : Int32), .int ((9 : Int32) - (1 : Int32))]) (rest := []) ⟨hx, hb, hml, hown, hts⟩ (ccX10_within l dC dI cyI cyZ cyJ cyB cyO v1 (0 : Int32) ((9 : Int32) - (1 : Int32)) o_1 ho_1) (va_cwS 3 hts gX10_rule_X10_within rfl rfl rfl hsX10_within ⟨Nat.le_of_ble_eq_true rfl, Nat.le_of_ble_eq_true rfl⟩) (px_preR (wc := []) hK hN hP [] rfl) rfl rfl hl.1 rfl (lv_room (Nat.le_of_ble_eq_true rfl)) dX10_rule_12 ⟨Nat.zero_le _, Nat.zero_le _⟩) ?_
  refine lv_if_eq (tgt := 30) hx hb dX10_rule_15 (by decide) (fun c_2 => ?_) (fun c_2 => ?_)
  · have hp := px_t hp c_2
    refine lv_iconst (v := (-1 : Int32)) hx hb dX10_rule_30 (by decide) ?_
    have ho := px_s hp
    subst ho
    exact hQ _ _ dX10_rule_31
  · have hp := px_f hp c_2
    refine lv_aload_n hx hb dX10_rule_18 rfl (lv_at hl 0 rfl) ?_
    refine va_get (D := (dC, dI)) (ci := 10) (v := .ref h_tx) (C := RX10) (T := TX10) (N := 16) hx hb hts fX10_rule_X10 hown hK hP 0 rfl rfl 10 (by decide) (hts _ kX10_rule_1) (fun _ h9 => h9) rfl dX10_rule_19 ?_
    refine va_get (D := (dC, dI)) (ci := 8) (v := .ref a_tx_held) (C := RX8) (T := TX8) (N := 6) hx hb hts fX10_rule_X8 hown hK hP 1 rfl rfl 0 (by decide) (hts _ kX10_rule_2) (fun _ h9 => h9) rfl dX10_rule_22 ?_
    refine lv_iload_n hx hb dX10_rule_25 rfl (lv_at hl 1 rfl) ?_
    obtain ⟨g_3, hp⟩ := px_i_at hp
    refine va_iald (D := (dC, dI)) hx hb hK hP 2 0 rfl rfl g_3 dX10_rule_26 ?_
    refine lv_goto (tgt := 31) hx hb dX10_rule_27 (by decide) ?_
    have ho := px_s hp
    subst ho
    exact hQ _ _ dX10_rule_31
/-! TagReader.slot(III)I -/
theorem hvX10_slot : yX10_slot.cls = RX10 ∧ yX10_slot.cls ≠ "java/lang/invoke/MethodHandle" ∧ yX10_slot.cls ≠ "java/lang/invoke/VarHandle" ∧ (parseMethodDescriptor yX10_slot.desc).map (fun d => d.parameters.length) = some 3 := by decide +kernel
set_option maxHeartbeats 4000000 in
set_option maxRecDepth 100000 in
theorem ccX10_slot (l : Launch) (dC : Nat → ClassId) (dI : Nat → Nat → Nat) (cyI cyZ cyJ cyB cyO : ClassId) (h_x h_tg h_cr h_la h_sp a_x_splitRow h_tp h_tx h_fr h_se h_od h_kn a_x_sheets : Nat) (x_n : Int32) (x_blocker : Int32) (x_blockerBits : Int32) (x_tornBy : Int32) (v1 : Int32) (v2 : Int32) (v3 : Int32) (out : Int32) (hp : pX10_slot v1 v2 v3 x_n = some out) : Met l yX10_slot wsX10_slot ({ frames := 2, cells := 0, slots := 0, locals := 43 } : Room) (px_PR (dC, dI) (px_TY cyI cyZ cyJ cyB cyO) [.ref h_x, .int v1, .int v2, .int v3] (wdX10_slot cyI cyZ cyJ cyB cyO h_x h_tg h_cr h_la h_sp a_x_splitRow h_tp h_tx h_fr h_se h_od h_kn a_x_sheets x_n x_blocker x_blockerBits x_tornBy h_la h_sp)) (px_QR (.int out)) 0 0 (fun _ => False) := by
  refine Met.ofW (cc := cX10_slot) (maxL := 4) (ret := (some .int)) (by decide) rfl ?_
  intro p e s m args below meth c s₁ B hml hv
  obtain ⟨rfl, hP, hK, hN⟩ := hv
  have hx := B.exec
  have hb := B.bytes
  have hr := B.returns
  have hts := atoms_spec (ws := wsX10_slot) B.pre
  have hown : s.vm.findClass RX10 = some m.cls := findClass_of_methodNamed B.named
  have hlocks := B.notSynchronized
  have hQ : ∀ (pc : Nat) (ls : Array Slot), decode cX10_slot pc = .ok (.ireturn, 1) → W p l e ({ frames := 2, cells := 0, slots := 0, locals := 43 } : Room) s m (([.ref h_x, .int v1, .int v2, .int v3] : List Value).toArray) below meth c s.heap [] 0 0 (MQ below (px_QR (.int out)) (([.ref h_x, .int v1, .int v2, .int v3] : List Value).toArray) s 0 0 (fun _ => False)) (F0 m pc ls [.int out]) := fun pc ls hd => W.iret hx hb hr (fun t ht hW => ⟨rfl, ht⟩) (fun q h => by cases h) hd
  generalize MQ below (px_QR (.int out)) (([.ref h_x, .int v1, .int v2, .int v3] : List Value).toArray) s 0 0 (fun _ => False) = Q at hQ ⊢
  have hl := lv_entry [.ref h_x, .int v1, .int v2, .int v3] (n := 4) (Nat.le_of_ble_eq_true rfl)
  rw [lg_entry_eq]
  generalize (lg_sl [.ref h_x, .int v1, .int v2, .int v3] ++ List.replicate (4 - (lg_sl [.ref h_x, .int v1, .int v2, .int v3]).length) Slot.unset).toArray = ls at hl ⊢
  have hl : lv_has ls 4 [(0, .ref h_x), (1, .int v1), (2, .int v2), (3, .int v3)] := hl
  unfold pX10_slot at hp
  refine lv_aload_n hx hb dX10_slot_0 rfl (lv_at hl 0 rfl) ?_
  refine lv_iload_n hx hb dX10_slot_1 rfl (lv_at hl 1 rfl) ?_
  obtain ⟨o_1, ho_1, hp⟩ := px_b_at hp
  refine px_callR (v := .int o_1) (va_runV (As := [.int v1]) (rest := []) ⟨hx, hb, hml, hown, hts⟩ (ccX10_isNumber l dC dI cyI cyZ cyJ cyB cyO h_x h_tg h_cr h_la h_sp a_x_splitRow h_tp h_tx h_fr h_se h_od h_kn a_x_sheets x_n x_blocker x_blockerBits x_tornBy v1 o_1 ho_1) (cwV 1 hts gX10_slot_X10_isNumber rfl rfl rfl hvX10_isNumber ⟨Nat.le_of_ble_eq_true rfl, Nat.le_of_ble_eq_true rfl⟩) (px_preRV (wc := (wdX10_isNumber cyI cyZ cyJ cyB cyO h_x h_tg h_cr h_la h_sp a_x_splitRow h_tp h_tx h_fr h_se h_od h_kn a_x_sheets x_n x_blocker x_blockerBits x_tornBy h_la h_sp)) (ci := 10) (q0 := 0) hK hN hP [0] rfl rfl rfl) rfl rfl hl.1 rfl (lv_room (Nat.le_of_ble_eq_true rfl)) dX10_slot_2 ⟨Nat.zero_le _, Nat.zero_le _⟩) ?_
  refine lv_if_eq (tgt := 18) hx hb dX10_slot_5 (by decide) (fun c_2 => ?_) (fun c_2 => ?_)
  · have hp := px_t hp c_2
    refine lv_iconst (v := (-1 : Int32)) hx hb dX10_slot_18 (by decide) ?_
    have ho := px_s hp
    subst ho
    exact hQ _ _ dX10_slot_19
  · have hp := px_f hp c_2
    refine lv_iload_n hx hb dX10_slot_8 rfl (lv_at hl 2 rfl) ?_
    refine lv_iconst (v := (1 : Int32)) hx hb dX10_slot_9 (by decide) ?_
    refine lv_bipush (v := (64 : Int32)) hx hb dX10_slot_10 (by decide) ?_
    obtain ⟨o_3, ho_3, hp⟩ := px_b_at hp
    refine px_callR (v := .int o_3) (va_runS (As := [.int v2, .int (1 : Int32), .int (64 : Int32)]) (rest := []) ⟨hx, hb, hml, hown, hts⟩ (ccX10_within l dC dI cyI cyZ cyJ cyB cyO v2 (1 : Int32) (64 : Int32) o_3 ho_3) (va_cwS 3 hts gX10_slot_X10_within rfl rfl rfl hsX10_within ⟨Nat.le_of_ble_eq_true rfl, Nat.le_of_ble_eq_true rfl⟩) (px_preR (wc := []) hK hN hP [] rfl) rfl rfl hl.1 rfl (lv_room (Nat.le_of_ble_eq_true rfl)) dX10_slot_12 ⟨Nat.zero_le _, Nat.zero_le _⟩) ?_
    refine lv_if_ne (tgt := 20) hx hb dX10_slot_15 (by decide) (fun c_4 => ?_) (fun c_4 => ?_)
    · have hp := px_f hp c_4
      refine lv_iload_n hx hb dX10_slot_20 rfl (lv_at hl 1 rfl) ?_
      refine lv_iload_n hx hb dX10_slot_21 rfl (lv_at hl 2 rfl) ?_
      refine lv_iload_n hx hb dX10_slot_22 rfl (lv_at hl 3 rfl) ?_
      obtain ⟨o_5, ho_5, hp⟩ := px_b_at hp
      refine px_callR (v := .int o_5) (va_runS (As := [.int v1, .int v2, .int v3]) (rest := []) ⟨hx, hb, hml, hown, hts⟩ (ccX10_slotOf l dC dI cyI cyZ cyJ cyB cyO v1 v2 v3 o_5 ho_5) (va_cwS 3 hts gX10_slot_X10_slotOf rfl rfl rfl hsX10_slotOf ⟨Nat.le_of_ble_eq_true rfl, Nat.le_of_ble_eq_true rfl⟩) (px_preR (wc := []) hK hN hP [] rfl) rfl rfl hl.1 rfl (lv_room (Nat.le_of_ble_eq_true rfl)) dX10_slot_23 ⟨Nat.zero_le _, Nat.zero_le _⟩) ?_
      have ho := px_s hp
      subst ho
      exact hQ _ _ dX10_slot_26
    · have hp := px_t hp c_4
      refine lv_iconst (v := (-1 : Int32)) hx hb dX10_slot_18 (by decide) ?_
      have ho := px_s hp
      subst ho
      exact hQ _ _ dX10_slot_19
/-! TagReader.frame(II)I -/
theorem hvX10_frame : yX10_frame.cls = RX10 ∧ yX10_frame.cls ≠ "java/lang/invoke/MethodHandle" ∧ yX10_frame.cls ≠ "java/lang/invoke/VarHandle" ∧ (parseMethodDescriptor yX10_frame.desc).map (fun d => d.parameters.length) = some 2 := by decide +kernel
theorem fX10_frame_X10 : ∀ w ∈ u_ws RX10 TX10 16, w ∈ wsX10_frame := fun _ h => List.mem_cons_of_mem _ (List.mem_append_left _ (List.mem_append_left _ (List.mem_append_left _ (List.mem_append_right _ h))))
theorem kX10_frame_1 : (.fieldLink RX10 67 "TagReader" "latestFrame" "LTagReader$Frame;" : Cond) ∈ wsX10_frame := List.mem_of_getElem? (i := 1) rfl
theorem kX10_frame_2 : (.fieldLink RX10 25 "TagReader" "tags" "LTagReader$Tags;" : Cond) ∈ wsX10_frame := List.mem_of_getElem? (i := 2) rfl
theorem kX10_frame_3 : (.fieldLink RX10 60 "TagReader" "text" "LTagReader$Text;" : Cond) ∈ wsX10_frame := List.mem_of_getElem? (i := 3) rfl
theorem fX10_frame_X8 : ∀ w ∈ u_ws RX8 TX8 6, w ∈ wsX10_frame := fun _ h => List.mem_cons_of_mem _ (List.mem_append_left _ (List.mem_append_left _ (List.mem_append_right _ h)))
theorem kX10_frame_4 : (.fieldLink RX10 213 "TagReader$Text" "held" "[I" : Cond) ∈ wsX10_frame := List.mem_of_getElem? (i := 4) rfl
set_option maxHeartbeats 4000000 in
set_option maxRecDepth 100000 in
theorem ccX10_frame (l : Launch) (dC : Nat → ClassId) (dI : Nat → Nat → Nat) (cyI cyZ cyJ cyB cyO : ClassId) (sz : Nat) (h_x h_tg h_cr h_la h_sp a_x_splitRow h_tp h_tx h_fr h_se h_od h_kn a_x_sheets a_tg_numbers a_tg_strengths a_tg_silent a_tx_held a_tx_told a_tx_named a_fr_counts a_fr_answered a_fr_strongest a_fr_secondStrength : Nat) (x_n : Int32) (x_blocker : Int32) (x_blockerBits : Int32) (x_tornBy : Int32) (tg_size : Int32) (tg_numbers : Nat → Int32) (tg_strengths : Nat → Int32) (tg_silent : Nat → Int32) (tx_faultMet : Int32) (tx_faultPlace : Int32) (tx_lines : Int32) (tx_held : Nat → Int32) (tx_told : Nat → Int32) (tx_named : Nat → Int32) (fr_counts : Nat → Int32) (fr_answered : Nat → Int32) (fr_strongest : Nat → Int32) (fr_secondStrength : Nat → Int32) (v1 : Int32) (v2 : Int32) (out : Int32 × (Nat → Int32) × (Nat → Int32) × (Nat → Int32) × (Nat → Int32) × (Nat → Int32)) (hp : pX10_frame v1 v2 tg_size tg_numbers tg_strengths tx_held tg_silent fr_counts fr_answered fr_strongest fr_secondStrength = some out) : Met l yX10_frame wsX10_frame ({ frames := 3, cells := 0, slots := 0, locals := 74 } : Room) (px_PW (dC, dI) (px_TY cyI cyZ cyJ cyB cyO) [.ref h_x, .int v1, .int v2] (wdX10_frame cyI cyZ cyJ cyB cyO h_x h_tg h_cr h_la h_sp a_x_splitRow h_tp h_tx h_fr h_se h_od h_kn a_x_sheets a_tg_numbers a_tg_strengths a_tg_silent a_tx_held a_tx_told a_tx_named a_fr_counts a_fr_answered a_fr_strongest a_fr_secondStrength x_n x_blocker x_blockerBits x_tornBy tg_size tg_numbers tg_strengths tg_silent tx_faultMet tx_faultPlace tx_lines tx_held tx_told tx_named fr_counts fr_answered fr_strongest fr_secondStrength h_la h_sp) sz) (px_QW (some (.int out.1)) (dC, dI) (wdX10_frame cyI cyZ cyJ cyB cyO h_x h_tg h_cr h_la h_sp a_x_splitRow h_tp h_tx h_fr h_se h_od h_kn a_x_sheets a_tg_numbers a_tg_strengths a_tg_silent a_tx_held a_tx_told a_tx_named a_fr_counts a_fr_answered a_fr_strongest a_fr_secondStrength x_n x_blocker x_blockerBits x_tornBy tg_size tg_numbers tg_strengths tg_silent tx_faultMet tx_faultPlace tx_lines tx_held tx_told tx_named fr_counts fr_answered fr_strongest fr_secondStrength h_la h_sp) (wdX10_frame cyI cyZ cyJ cyB cyO h_x h_tg h_cr h_la h_sp a_x_splitRow h_tp h_tx h_fr h_se h_od h_kn a_x_sheets a_tg_numbers a_tg_strengths a_tg_silent a_tx_held a_tx_told a_tx_named a_fr_counts a_fr_answered a_fr_strongest a_fr_secondStrength x_n x_blocker x_blockerBits x_tornBy tg_size tg_numbers tg_strengths out.2.1 tx_faultMet tx_faultPlace tx_lines tx_held tx_told tx_named out.2.2.1 out.2.2.2.1 out.2.2.2.2.1 out.2.2.2.2.2 h_la h_sp) sz) 0 0 (va_A (wdX10_frame cyI cyZ cyJ cyB cyO h_x h_tg h_cr h_la h_sp a_x_splitRow h_tp h_tx h_fr h_se h_od h_kn a_x_sheets a_tg_numbers a_tg_strengths a_tg_silent a_tx_held a_tx_told a_tx_named a_fr_counts a_fr_answered a_fr_strongest a_fr_secondStrength x_n x_blocker x_blockerBits x_tornBy tg_size tg_numbers tg_strengths tg_silent tx_faultMet tx_faultPlace tx_lines tx_held tx_told tx_named fr_counts fr_answered fr_strongest fr_secondStrength h_la h_sp) sz) := by
  refine Met.ofW (cc := cX10_frame) (maxL := 3) (ret := (some .int)) (by decide) rfl ?_
  intro p e s m args below meth c s₁ B hml hv
  obtain ⟨rfl, hsz, hP, hK, hD0, hN⟩ := hv
  have hx := B.exec
  have hb := B.bytes
  have hr := B.returns
  have hts := atoms_spec (ws := wsX10_frame) B.pre
  have hown : s.vm.findClass RX10 = some m.cls := findClass_of_methodNamed B.named
  have hlocks := B.notSynchronized
  subst hsz
  have hD := hD0.self (sz := s.heap.size)
  generalize hAe : va_A (wdX10_frame cyI cyZ cyJ cyB cyO h_x h_tg h_cr h_la h_sp a_x_splitRow h_tp h_tx h_fr h_se h_od h_kn a_x_sheets a_tg_numbers a_tg_strengths a_tg_silent a_tx_held a_tx_told a_tx_named a_fr_counts a_fr_answered a_fr_strongest a_fr_secondStrength x_n x_blocker x_blockerBits x_tornBy tg_size tg_numbers tg_strengths tg_silent tx_faultMet tx_faultPlace tx_lines tx_held tx_told tx_named fr_counts fr_answered fr_strongest fr_secondStrength h_la h_sp) s.heap.size = A at hD ⊢
  have hA : ∀ q : Nat, s.heap.size ≤ q → A q := fun q h => by rw [← hAe]; exact Or.inr h
  have hS : va_S A s.heap s.heap [] := va_S.rf
  have hq := px_QWe (v := (some (.int out.1))) (D := (dC, dI)) (w1 := (wdX10_frame cyI cyZ cyJ cyB cyO h_x h_tg h_cr h_la h_sp a_x_splitRow h_tp h_tx h_fr h_se h_od h_kn a_x_sheets a_tg_numbers a_tg_strengths a_tg_silent a_tx_held a_tx_told a_tx_named a_fr_counts a_fr_answered a_fr_strongest a_fr_secondStrength x_n x_blocker x_blockerBits x_tornBy tg_size tg_numbers tg_strengths out.2.1 tx_faultMet tx_faultPlace tx_lines tx_held tx_told tx_named out.2.2.1 out.2.2.2.1 out.2.2.2.2.1 out.2.2.2.2.2 h_la h_sp)) (st := s) hAe
  generalize px_QW (some (.int out.1)) (dC, dI) (wdX10_frame cyI cyZ cyJ cyB cyO h_x h_tg h_cr h_la h_sp a_x_splitRow h_tp h_tx h_fr h_se h_od h_kn a_x_sheets a_tg_numbers a_tg_strengths a_tg_silent a_tx_held a_tx_told a_tx_named a_fr_counts a_fr_answered a_fr_strongest a_fr_secondStrength x_n x_blocker x_blockerBits x_tornBy tg_size tg_numbers tg_strengths tg_silent tx_faultMet tx_faultPlace tx_lines tx_held tx_told tx_named fr_counts fr_answered fr_strongest fr_secondStrength h_la h_sp) (wdX10_frame cyI cyZ cyJ cyB cyO h_x h_tg h_cr h_la h_sp a_x_splitRow h_tp h_tx h_fr h_se h_od h_kn a_x_sheets a_tg_numbers a_tg_strengths a_tg_silent a_tx_held a_tx_told a_tx_named a_fr_counts a_fr_answered a_fr_strongest a_fr_secondStrength x_n x_blocker x_blockerBits x_tornBy tg_size tg_numbers tg_strengths out.2.1 tx_faultMet tx_faultPlace tx_lines tx_held tx_told tx_named out.2.2.1 out.2.2.2.1 out.2.2.2.2.1 out.2.2.2.2.2 h_la h_sp) s.heap.size = Qc at hq ⊢
  have hQ : ∀ (H : Heap) (locs : List Loc) (pc : Nat) (ls : Array Slot), va_P (dC, dI) vwCl (wdX10_frame cyI cyZ cyJ cyB cyO h_x h_tg h_cr h_la h_sp a_x_splitRow h_tp h_tx h_fr h_se h_od h_kn a_x_sheets a_tg_numbers a_tg_strengths a_tg_silent a_tx_held a_tx_told a_tx_named a_fr_counts a_fr_answered a_fr_strongest a_fr_secondStrength x_n x_blocker x_blockerBits x_tornBy tg_size tg_numbers tg_strengths out.2.1 tx_faultMet tx_faultPlace tx_lines tx_held tx_told tx_named out.2.2.1 out.2.2.2.1 out.2.2.2.2.1 out.2.2.2.2.2 h_la h_sp) H → va_D A (wdX10_frame cyI cyZ cyJ cyB cyO h_x h_tg h_cr h_la h_sp a_x_splitRow h_tp h_tx h_fr h_se h_od h_kn a_x_sheets a_tg_numbers a_tg_strengths a_tg_silent a_tx_held a_tx_told a_tx_named a_fr_counts a_fr_answered a_fr_strongest a_fr_secondStrength x_n x_blocker x_blockerBits x_tornBy tg_size tg_numbers tg_strengths out.2.1 tx_faultMet tx_faultPlace tx_lines tx_held tx_told tx_named out.2.2.1 out.2.2.2.1 out.2.2.2.2.1 out.2.2.2.2.2 h_la h_sp) → va_S A s.heap H locs → decode cX10_frame pc = .ok (.ireturn, 1) → W p l e ({ frames := 3, cells := 0, slots := 0, locals := 74 } : Room) s m (([.ref h_x, .int v1, .int v2] : List Value).toArray) below meth c H locs 0 0 (MQ below Qc (([.ref h_x, .int v1, .int v2] : List Value).toArray) s 0 0 A) (F0 m pc ls [.int out.1]) := fun H locs pc ls hP hD hS hd => W.iret hx hb hr (fun t ht hW => hq _ t (by rw [ht]; exact hP) hD (hS.F ht)) hS.2.2 hd
  generalize MQ below Qc (([.ref h_x, .int v1, .int v2] : List Value).toArray) s 0 0 A = Q at hQ ⊢
  have hl := lv_entry [.ref h_x, .int v1, .int v2] (n := 3) (Nat.le_of_ble_eq_true rfl)
  rw [lg_entry_eq]
  generalize (lg_sl [.ref h_x, .int v1, .int v2] ++ List.replicate (3 - (lg_sl [.ref h_x, .int v1, .int v2]).length) Slot.unset).toArray = ls at hl ⊢
  have hl : lv_has ls 3 [(0, .ref h_x), (1, .int v1), (2, .int v2)] := hl
  unfold pX10_frame at hp
  refine lv_iload_n hx hb dX10_frame_0 rfl (lv_at hl 1 rfl) ?_
  refine lv_iconst (v := (1 : Int32)) hx hb dX10_frame_1 (by decide) ?_
  refine lv_bipush (v := (64 : Int32)) hx hb dX10_frame_2 (by decide) ?_
  obtain ⟨o_1, ho_1, hp⟩ := px_b_at hp
  refine px_callR (v := .int o_1) (va_runS (As := [.int v1, .int (1 : Int32), .int (64 : Int32)]) (rest := []) ⟨hx, hb, hml, hown, hts⟩ (ccX10_within l dC dI cyI cyZ cyJ cyB cyO v1 (1 : Int32) (64 : Int32) o_1 ho_1) (va_cwS 3 hts gX10_frame_X10_within rfl rfl rfl hsX10_within ⟨Nat.le_of_ble_eq_true rfl, Nat.le_of_ble_eq_true rfl⟩) (px_preR (wc := []) hK hN hP [] rfl) rfl rfl hl.1 rfl (lv_room (Nat.le_of_ble_eq_true rfl)) dX10_frame_4 ⟨Nat.zero_le _, Nat.zero_le _⟩) ?_
  refine lv_if_ne (tgt := 12) hx hb dX10_frame_7 (by decide) (fun c_2 => ?_) (fun c_2 => ?_)
  · have hp := px_f hp c_2
    refine lv_aload_n hx hb dX10_frame_12 rfl (lv_at hl 0 rfl) ?_
    refine va_get (D := (dC, dI)) (ci := 10) (v := .ref h_fr) (C := RX10) (T := TX10) (N := 16) hx hb hts fX10_frame_X10 hown hK hP 0 rfl rfl 11 (by decide) (hts _ kX10_frame_1) (fun _ h9 => h9) rfl dX10_frame_13 ?_
    refine lv_aload_n hx hb dX10_frame_16 rfl (lv_at hl 0 rfl) ?_
    refine va_get (D := (dC, dI)) (ci := 10) (v := .ref h_tg) (C := RX10) (T := TX10) (N := 16) hx hb hts fX10_frame_X10 hown hK hP 0 rfl rfl 4 (by decide) (hts _ kX10_frame_2) (fun _ h9 => h9) rfl dX10_frame_17 ?_
    refine lv_iload_n hx hb dX10_frame_20 rfl (lv_at hl 1 rfl) ?_
    refine lv_iload_n hx hb dX10_frame_21 rfl (lv_at hl 2 rfl) ?_
    refine lv_aload_n hx hb dX10_frame_22 rfl (lv_at hl 0 rfl) ?_
    refine va_get (D := (dC, dI)) (ci := 10) (v := .ref h_tx) (C := RX10) (T := TX10) (N := 16) hx hb hts fX10_frame_X10 hown hK hP 0 rfl rfl 10 (by decide) (hts _ kX10_frame_3) (fun _ h9 => h9) rfl dX10_frame_23 ?_
    refine va_get (D := (dC, dI)) (ci := 8) (v := .ref a_tx_held) (C := RX8) (T := TX8) (N := 6) hx hb hts fX10_frame_X8 hown hK hP 5 rfl rfl 0 (by decide) (hts _ kX10_frame_4) (fun _ h9 => h9) rfl dX10_frame_26 ?_
    refine lv_bipush (v := (7 : Int32)) hx hb dX10_frame_29 (by decide) ?_
    refine va_iald (D := (dC, dI)) hx hb hK hP 6 0 rfl rfl (px_in7_9) dX10_frame_31 ?_
    obtain ⟨o_3, ho_3, hp⟩ := px_b_at hp
    refine px_callWi (r := o_3.1) (wc := (wdX1_hold cyI cyZ cyJ cyB cyO h_fr a_fr_counts a_fr_answered a_fr_strongest a_fr_secondStrength h_tg a_tg_numbers a_tg_strengths a_tg_silent fr_counts fr_answered fr_strongest fr_secondStrength tg_size tg_numbers tg_strengths tg_silent)) (wr := [(h_x, .inr (10, [.int x_n, .int x_blocker, .int x_blockerBits, .int x_tornBy, .ref h_tg, .ref h_cr, .ref h_la, .ref h_sp, .ref a_x_splitRow, .ref h_tp, .ref h_tx, .ref h_fr, .ref h_se, .ref h_od, .ref h_kn, .ref a_x_sheets])), (h_tx, .inr (8, [.ref a_tx_held, .int tx_faultMet, .ref a_tx_told, .ref a_tx_named, .int tx_faultPlace, .int tx_lines])), (a_tx_held, .inl (cyI, 9, .inl tx_held)), (a_tx_told, .inl (cyI, 9, .inl tx_told)), (a_tx_named, .inl (cyZ, 7, .inl tx_named))]) (w1 := (wdX1_hold cyI cyZ cyJ cyB cyO h_fr a_fr_counts a_fr_answered a_fr_strongest a_fr_secondStrength h_tg a_tg_numbers a_tg_strengths a_tg_silent o_3.2.1 o_3.2.2.1 o_3.2.2.2.1 o_3.2.2.2.2.1 tg_size tg_numbers tg_strengths o_3.2.2.2.2.2)) (ws2 := (wdX10_frame cyI cyZ cyJ cyB cyO h_x h_tg h_cr h_la h_sp a_x_splitRow h_tp h_tx h_fr h_se h_od h_kn a_x_sheets a_tg_numbers a_tg_strengths a_tg_silent a_tx_held a_tx_told a_tx_named a_fr_counts a_fr_answered a_fr_strongest a_fr_secondStrength x_n x_blocker x_blockerBits x_tornBy tg_size tg_numbers tg_strengths o_3.2.2.2.2.2 tx_faultMet tx_faultPlace tx_lines tx_held tx_told tx_named o_3.2.1 o_3.2.2.1 o_3.2.2.2.1 o_3.2.2.2.2.1 h_la h_sp)) (va_runV (As := [.ref h_tg, .int v1, .int v2, .int (tx_held (Int32.toNatClampNeg (7 : Int32)))]) (rest := []) ⟨hx, hb, hml, hown, hts⟩ (ccX1_hold l dC dI cyI cyZ cyJ cyB cyO _ h_fr a_fr_counts a_fr_answered a_fr_strongest a_fr_secondStrength h_tg a_tg_numbers a_tg_strengths a_tg_silent fr_counts fr_answered fr_strongest fr_secondStrength tg_size tg_numbers tg_strengths tg_silent v1 v2 (tx_held (Int32.toNatClampNeg (7 : Int32))) o_3 ho_3) (cwV 4 hts gX10_frame_X1_hold rfl rfl rfl hvX1_hold ⟨Nat.le_of_ble_eq_true rfl, Nat.le_of_ble_eq_true rfl⟩) (px_preWV (wc := (wdX1_hold cyI cyZ cyJ cyB cyO h_fr a_fr_counts a_fr_answered a_fr_strongest a_fr_secondStrength h_tg a_tg_numbers a_tg_strengths a_tg_silent fr_counts fr_answered fr_strongest fr_secondStrength tg_size tg_numbers tg_strengths tg_silent)) (ci := 1) (q0 := 9) hK hN hP hD [9, 10, 11, 12, 13, 1, 2, 3, 4] (by decide) rfl rfl rfl) rfl rfl hl.1 rfl (lv_room (Nat.le_of_ble_eq_true rfl)) dX10_frame_32 ⟨Nat.zero_le _, Nat.zero_le _⟩) hP hD hS hA [9, 10, 11, 12, 13, 1, 2, 3, 4] [0, 5, 6, 7, 8] [0, 10, 11, 12, 13, 1, 2, 3, 4, 5, 6, 7, 8, 9] rfl rfl (by decide) (by decide) (by decide) rfl (fun H locs hP hD hS => ?_)
    have ho := px_s hp
    subst ho
    exact hQ _ _ _ _ hP hD hS dX10_frame_35
  · have hp := px_t hp c_2
    refine lv_iconst (v := (-1 : Int32)) hx hb dX10_frame_10 (by decide) ?_
    have ho := px_s hp
    subst ho
    exact hQ _ _ _ _ hP hD hS dX10_frame_11
/-! TagReader.shown(I)I -/
theorem hvX10_shown : yX10_shown.cls = RX10 ∧ yX10_shown.cls ≠ "java/lang/invoke/MethodHandle" ∧ yX10_shown.cls ≠ "java/lang/invoke/VarHandle" ∧ (parseMethodDescriptor yX10_shown.desc).map (fun d => d.parameters.length) = some 1 := by decide +kernel
theorem fX10_shown_X10 : ∀ w ∈ u_ws RX10 TX10 16, w ∈ wsX10_shown := fun _ h => List.mem_cons_of_mem _ (List.mem_append_left _ (List.mem_append_right _ h))
theorem kX10_shown_1 : (.fieldLink RX10 67 "TagReader" "latestFrame" "LTagReader$Frame;" : Cond) ∈ wsX10_shown := List.mem_of_getElem? (i := 1) rfl
theorem fX10_shown_X1 : ∀ w ∈ u_ws RX1 TX1 4, w ∈ wsX10_shown := fun _ h => List.mem_cons_of_mem _ (List.mem_append_right _ h)
theorem kX10_shown_2 : (.fieldLink RX10 227 "TagReader$Frame" "counts" "[I" : Cond) ∈ wsX10_shown := List.mem_of_getElem? (i := 2) rfl
set_option maxHeartbeats 4000000 in
set_option maxRecDepth 100000 in
theorem ccX10_shown (l : Launch) (dC : Nat → ClassId) (dI : Nat → Nat → Nat) (cyI cyZ cyJ cyB cyO : ClassId) (h_x h_tg h_cr h_la h_sp a_x_splitRow h_tp h_tx h_fr h_se h_od h_kn a_x_sheets a_fr_counts a_fr_answered a_fr_strongest a_fr_secondStrength : Nat) (x_n : Int32) (x_blocker : Int32) (x_blockerBits : Int32) (x_tornBy : Int32) (fr_counts : Nat → Int32) (fr_answered : Nat → Int32) (fr_strongest : Nat → Int32) (fr_secondStrength : Nat → Int32) (v1 : Int32) (out : Int32) (hp : pX10_shown v1 fr_counts = some out) : Met l yX10_shown wsX10_shown ({ frames := 1, cells := 0, slots := 0, locals := 22 } : Room) (px_PR (dC, dI) (px_TY cyI cyZ cyJ cyB cyO) [.ref h_x, .int v1] (wdX10_shown cyI cyZ cyJ cyB cyO h_x h_tg h_cr h_la h_sp a_x_splitRow h_tp h_tx h_fr h_se h_od h_kn a_x_sheets a_fr_counts a_fr_answered a_fr_strongest a_fr_secondStrength x_n x_blocker x_blockerBits x_tornBy fr_counts fr_answered fr_strongest fr_secondStrength h_la h_sp)) (px_QR (.int out)) 0 0 (fun _ => False) := by
  refine Met.ofW (cc := cX10_shown) (maxL := 2) (ret := (some .int)) (by decide) rfl ?_
  intro p e s m args below meth c s₁ B hml hv
  obtain ⟨rfl, hP, hK, hN⟩ := hv
  have hx := B.exec
  have hb := B.bytes
  have hr := B.returns
  have hts := atoms_spec (ws := wsX10_shown) B.pre
  have hown : s.vm.findClass RX10 = some m.cls := findClass_of_methodNamed B.named
  have hlocks := B.notSynchronized
  have hQ : ∀ (pc : Nat) (ls : Array Slot), decode cX10_shown pc = .ok (.ireturn, 1) → W p l e ({ frames := 1, cells := 0, slots := 0, locals := 22 } : Room) s m (([.ref h_x, .int v1] : List Value).toArray) below meth c s.heap [] 0 0 (MQ below (px_QR (.int out)) (([.ref h_x, .int v1] : List Value).toArray) s 0 0 (fun _ => False)) (F0 m pc ls [.int out]) := fun pc ls hd => W.iret hx hb hr (fun t ht hW => ⟨rfl, ht⟩) (fun q h => by cases h) hd
  generalize MQ below (px_QR (.int out)) (([.ref h_x, .int v1] : List Value).toArray) s 0 0 (fun _ => False) = Q at hQ ⊢
  have hl := lv_entry [.ref h_x, .int v1] (n := 2) (Nat.le_of_ble_eq_true rfl)
  rw [lg_entry_eq]
  generalize (lg_sl [.ref h_x, .int v1] ++ List.replicate (2 - (lg_sl [.ref h_x, .int v1]).length) Slot.unset).toArray = ls at hl ⊢
  have hl : lv_has ls 2 [(0, .ref h_x), (1, .int v1)] := hl
  unfold pX10_shown at hp
  refine lv_iload_n hx hb dX10_shown_0 rfl (lv_at hl 1 rfl) ?_
  refine lv_iconst (v := (0 : Int32)) hx hb dX10_shown_1 (by decide) ?_
  refine lv_iconst (v := (4 : Int32)) hx hb dX10_shown_2 (by decide) ?_
  obtain ⟨o_1, ho_1, hp⟩ := px_b_at hp
  refine px_callR (v := .int o_1) (va_runS (As := [.int v1, .int (0 : Int32), .int (4 : Int32)]) (rest := []) ⟨hx, hb, hml, hown, hts⟩ (ccX10_within l dC dI cyI cyZ cyJ cyB cyO v1 (0 : Int32) (4 : Int32) o_1 ho_1) (va_cwS 3 hts gX10_shown_X10_within rfl rfl rfl hsX10_within ⟨Nat.le_of_ble_eq_true rfl, Nat.le_of_ble_eq_true rfl⟩) (px_preR (wc := []) hK hN hP [] rfl) rfl rfl hl.1 rfl (lv_room (Nat.le_of_ble_eq_true rfl)) dX10_shown_3 ⟨Nat.zero_le _, Nat.zero_le _⟩) ?_
  refine lv_if_ne (tgt := 11) hx hb dX10_shown_6 (by decide) (fun c_2 => ?_) (fun c_2 => ?_)
  · have hp := px_f hp c_2
    refine lv_aload_n hx hb dX10_shown_11 rfl (lv_at hl 0 rfl) ?_
    refine va_get (D := (dC, dI)) (ci := 10) (v := .ref h_fr) (C := RX10) (T := TX10) (N := 16) hx hb hts fX10_shown_X10 hown hK hP 0 rfl rfl 11 (by decide) (hts _ kX10_shown_1) (fun _ h9 => h9) rfl dX10_shown_12 ?_
    obtain ⟨o_3, ho_3, hp⟩ := px_b_at hp
    refine px_callR (v := .int o_3) (va_runV (As := []) (rest := []) ⟨hx, hb, hml, hown, hts⟩ (ccX1_wasHeld l dC dI cyI cyZ cyJ cyB cyO h_fr a_fr_counts a_fr_answered a_fr_strongest a_fr_secondStrength fr_counts fr_answered fr_strongest fr_secondStrength o_3 ho_3) (cwV 0 hts gX10_shown_X1_wasHeld rfl rfl rfl hvX1_wasHeld ⟨Nat.le_of_ble_eq_true rfl, Nat.le_of_ble_eq_true rfl⟩) (px_preRV (wc := (wdX1_wasHeld cyI cyZ cyJ cyB cyO h_fr a_fr_counts a_fr_answered a_fr_strongest a_fr_secondStrength fr_counts fr_answered fr_strongest fr_secondStrength)) (ci := 1) (q0 := 1) hK hN hP [1, 2, 3, 4, 5] rfl rfl rfl) rfl rfl hl.1 rfl (lv_room (Nat.le_of_ble_eq_true rfl)) dX10_shown_15 ⟨Nat.zero_le _, Nat.zero_le _⟩) ?_
    refine lv_if_eq (tgt := 33) hx hb dX10_shown_18 (by decide) (fun c_4 => ?_) (fun c_4 => ?_)
    · have hp := px_t hp c_4
      refine lv_bipush (v := (-2 : Int32)) hx hb dX10_shown_33 (by decide) ?_
      have ho := px_s hp
      subst ho
      exact hQ _ _ dX10_shown_35
    · have hp := px_f hp c_4
      refine lv_aload_n hx hb dX10_shown_21 rfl (lv_at hl 0 rfl) ?_
      refine va_get (D := (dC, dI)) (ci := 10) (v := .ref h_fr) (C := RX10) (T := TX10) (N := 16) hx hb hts fX10_shown_X10 hown hK hP 0 rfl rfl 11 (by decide) (hts _ kX10_shown_1) (fun _ h9 => h9) rfl dX10_shown_22 ?_
      refine va_get (D := (dC, dI)) (ci := 1) (v := .ref a_fr_counts) (C := RX1) (T := TX1) (N := 4) hx hb hts fX10_shown_X1 hown hK hP 1 rfl rfl 0 (by decide) (hts _ kX10_shown_2) (fun _ h9 => h9) rfl dX10_shown_25 ?_
      refine lv_iload_n hx hb dX10_shown_28 rfl (lv_at hl 1 rfl) ?_
      obtain ⟨g_5, hp⟩ := px_i_at hp
      refine va_iald (D := (dC, dI)) hx hb hK hP 2 0 rfl rfl g_5 dX10_shown_29 ?_
      refine lv_goto (tgt := 35) hx hb dX10_shown_30 (by decide) ?_
      have ho := px_s hp
      subst ho
      exact hQ _ _ dX10_shown_35
  · have hp := px_t hp c_2
    refine lv_iconst (v := (-1 : Int32)) hx hb dX10_shown_9 (by decide) ?_
    have ho := px_s hp
    subst ho
    exact hQ _ _ dX10_shown_10
/-! TagReader.all(I)I -/
theorem hvX10_all : yX10_all.cls = RX10 ∧ yX10_all.cls ≠ "java/lang/invoke/MethodHandle" ∧ yX10_all.cls ≠ "java/lang/invoke/VarHandle" ∧ (parseMethodDescriptor yX10_all.desc).map (fun d => d.parameters.length) = some 1 := by decide +kernel
theorem fX10_all_X10 : ∀ w ∈ u_ws RX10 TX10 16, w ∈ wsX10_all := fun _ h => List.mem_cons_of_mem _ (List.mem_append_left _ (List.mem_append_left _ (List.mem_append_left _ (List.mem_append_left _ (List.mem_append_right _ h)))))
theorem kX10_all_1 : (.fieldLink RX10 74 "TagReader" "series" "LTagReader$Series;" : Cond) ∈ wsX10_all := List.mem_of_getElem? (i := 1) rfl
theorem kX10_all_2 : (.fieldLink RX10 67 "TagReader" "latestFrame" "LTagReader$Frame;" : Cond) ∈ wsX10_all := List.mem_of_getElem? (i := 2) rfl
theorem kX10_all_3 : (.fieldLink RX10 25 "TagReader" "tags" "LTagReader$Tags;" : Cond) ∈ wsX10_all := List.mem_of_getElem? (i := 3) rfl
theorem kX10_all_4 : (.fieldLink RX10 60 "TagReader" "text" "LTagReader$Text;" : Cond) ∈ wsX10_all := List.mem_of_getElem? (i := 4) rfl
theorem fX10_all_X8 : ∀ w ∈ u_ws RX8 TX8 6, w ∈ wsX10_all := fun _ h => List.mem_cons_of_mem _ (List.mem_append_left _ (List.mem_append_left _ (List.mem_append_left _ (List.mem_append_right _ h))))
theorem kX10_all_5 : (.fieldLink RX10 213 "TagReader$Text" "held" "[I" : Cond) ∈ wsX10_all := List.mem_of_getElem? (i := 5) rfl
theorem fX10_all_X4 : ∀ w ∈ u_ws RX4 TX4 1, w ∈ wsX10_all := fun _ h => List.mem_cons_of_mem _ (List.mem_append_left _ (List.mem_append_left _ (List.mem_append_right _ h)))
theorem kX10_all_6 : (.fieldLink RX10 232 "TagReader$Series" "counts" "[I" : Cond) ∈ wsX10_all := List.mem_of_getElem? (i := 6) rfl
set_option maxHeartbeats 4000000 in
set_option maxRecDepth 100000 in
theorem ccX10_all (l : Launch) (dC : Nat → ClassId) (dI : Nat → Nat → Nat) (cyI cyZ cyJ cyB cyO : ClassId) (sz : Nat) (h_x h_tg h_cr h_la h_sp a_x_splitRow h_tp h_tx h_fr h_se h_od h_kn a_x_sheets a_tg_numbers a_tg_strengths a_tg_silent a_tx_held a_tx_told a_tx_named a_fr_counts a_fr_answered a_fr_strongest a_fr_secondStrength a_se_counts : Nat) (x_n : Int32) (x_blocker : Int32) (x_blockerBits : Int32) (x_tornBy : Int32) (tg_size : Int32) (tg_numbers : Nat → Int32) (tg_strengths : Nat → Int32) (tg_silent : Nat → Int32) (tx_faultMet : Int32) (tx_faultPlace : Int32) (tx_lines : Int32) (tx_held : Nat → Int32) (tx_told : Nat → Int32) (tx_named : Nat → Int32) (fr_counts : Nat → Int32) (fr_answered : Nat → Int32) (fr_strongest : Nat → Int32) (fr_secondStrength : Nat → Int32) (se_counts : Nat → Int32) (v1 : Int32) (out : Int32 × (Nat → Int32) × (Nat → Int32) × (Nat → Int32) × (Nat → Int32) × (Nat → Int32) × (Nat → Int32)) (hp : pX10_all v1 tg_size tg_numbers tg_strengths tx_held tg_silent fr_counts fr_answered fr_strongest fr_secondStrength se_counts = some out) : Met l yX10_all wsX10_all ({ frames := 4, cells := 0, slots := 0, locals := 101 } : Room) (px_PW (dC, dI) (px_TY cyI cyZ cyJ cyB cyO) [.ref h_x, .int v1] (wdX10_all cyI cyZ cyJ cyB cyO h_x h_tg h_cr h_la h_sp a_x_splitRow h_tp h_tx h_fr h_se h_od h_kn a_x_sheets a_tg_numbers a_tg_strengths a_tg_silent a_tx_held a_tx_told a_tx_named a_fr_counts a_fr_answered a_fr_strongest a_fr_secondStrength a_se_counts x_n x_blocker x_blockerBits x_tornBy tg_size tg_numbers tg_strengths tg_silent tx_faultMet tx_faultPlace tx_lines tx_held tx_told tx_named fr_counts fr_answered fr_strongest fr_secondStrength se_counts h_la h_sp) sz) (px_QW (some (.int out.1)) (dC, dI) (wdX10_all cyI cyZ cyJ cyB cyO h_x h_tg h_cr h_la h_sp a_x_splitRow h_tp h_tx h_fr h_se h_od h_kn a_x_sheets a_tg_numbers a_tg_strengths a_tg_silent a_tx_held a_tx_told a_tx_named a_fr_counts a_fr_answered a_fr_strongest a_fr_secondStrength a_se_counts x_n x_blocker x_blockerBits x_tornBy tg_size tg_numbers tg_strengths tg_silent tx_faultMet tx_faultPlace tx_lines tx_held tx_told tx_named fr_counts fr_answered fr_strongest fr_secondStrength se_counts h_la h_sp) (wdX10_all cyI cyZ cyJ cyB cyO h_x h_tg h_cr h_la h_sp a_x_splitRow h_tp h_tx h_fr h_se h_od h_kn a_x_sheets a_tg_numbers a_tg_strengths a_tg_silent a_tx_held a_tx_told a_tx_named a_fr_counts a_fr_answered a_fr_strongest a_fr_secondStrength a_se_counts x_n x_blocker x_blockerBits x_tornBy tg_size tg_numbers tg_strengths out.2.1 tx_faultMet tx_faultPlace tx_lines tx_held tx_told tx_named out.2.2.1 out.2.2.2.1 out.2.2.2.2.1 out.2.2.2.2.2.1 out.2.2.2.2.2.2 h_la h_sp) sz) 0 0 (va_A (wdX10_all cyI cyZ cyJ cyB cyO h_x h_tg h_cr h_la h_sp a_x_splitRow h_tp h_tx h_fr h_se h_od h_kn a_x_sheets a_tg_numbers a_tg_strengths a_tg_silent a_tx_held a_tx_told a_tx_named a_fr_counts a_fr_answered a_fr_strongest a_fr_secondStrength a_se_counts x_n x_blocker x_blockerBits x_tornBy tg_size tg_numbers tg_strengths tg_silent tx_faultMet tx_faultPlace tx_lines tx_held tx_told tx_named fr_counts fr_answered fr_strongest fr_secondStrength se_counts h_la h_sp) sz) := by
  refine Met.ofW (cc := cX10_all) (maxL := 3) (ret := (some .int)) (by decide) rfl ?_
  intro p e s m args below meth c s₁ B hml hv
  obtain ⟨rfl, hsz, hP, hK, hD0, hN⟩ := hv
  have hx := B.exec
  have hb := B.bytes
  have hr := B.returns
  have hts := atoms_spec (ws := wsX10_all) B.pre
  have hown : s.vm.findClass RX10 = some m.cls := findClass_of_methodNamed B.named
  have hlocks := B.notSynchronized
  subst hsz
  have hD := hD0.self (sz := s.heap.size)
  generalize hAe : va_A (wdX10_all cyI cyZ cyJ cyB cyO h_x h_tg h_cr h_la h_sp a_x_splitRow h_tp h_tx h_fr h_se h_od h_kn a_x_sheets a_tg_numbers a_tg_strengths a_tg_silent a_tx_held a_tx_told a_tx_named a_fr_counts a_fr_answered a_fr_strongest a_fr_secondStrength a_se_counts x_n x_blocker x_blockerBits x_tornBy tg_size tg_numbers tg_strengths tg_silent tx_faultMet tx_faultPlace tx_lines tx_held tx_told tx_named fr_counts fr_answered fr_strongest fr_secondStrength se_counts h_la h_sp) s.heap.size = A at hD ⊢
  have hA : ∀ q : Nat, s.heap.size ≤ q → A q := fun q h => by rw [← hAe]; exact Or.inr h
  have hS : va_S A s.heap s.heap [] := va_S.rf
  have hq := px_QWe (v := (some (.int out.1))) (D := (dC, dI)) (w1 := (wdX10_all cyI cyZ cyJ cyB cyO h_x h_tg h_cr h_la h_sp a_x_splitRow h_tp h_tx h_fr h_se h_od h_kn a_x_sheets a_tg_numbers a_tg_strengths a_tg_silent a_tx_held a_tx_told a_tx_named a_fr_counts a_fr_answered a_fr_strongest a_fr_secondStrength a_se_counts x_n x_blocker x_blockerBits x_tornBy tg_size tg_numbers tg_strengths out.2.1 tx_faultMet tx_faultPlace tx_lines tx_held tx_told tx_named out.2.2.1 out.2.2.2.1 out.2.2.2.2.1 out.2.2.2.2.2.1 out.2.2.2.2.2.2 h_la h_sp)) (st := s) hAe
  generalize px_QW (some (.int out.1)) (dC, dI) (wdX10_all cyI cyZ cyJ cyB cyO h_x h_tg h_cr h_la h_sp a_x_splitRow h_tp h_tx h_fr h_se h_od h_kn a_x_sheets a_tg_numbers a_tg_strengths a_tg_silent a_tx_held a_tx_told a_tx_named a_fr_counts a_fr_answered a_fr_strongest a_fr_secondStrength a_se_counts x_n x_blocker x_blockerBits x_tornBy tg_size tg_numbers tg_strengths tg_silent tx_faultMet tx_faultPlace tx_lines tx_held tx_told tx_named fr_counts fr_answered fr_strongest fr_secondStrength se_counts h_la h_sp) (wdX10_all cyI cyZ cyJ cyB cyO h_x h_tg h_cr h_la h_sp a_x_splitRow h_tp h_tx h_fr h_se h_od h_kn a_x_sheets a_tg_numbers a_tg_strengths a_tg_silent a_tx_held a_tx_told a_tx_named a_fr_counts a_fr_answered a_fr_strongest a_fr_secondStrength a_se_counts x_n x_blocker x_blockerBits x_tornBy tg_size tg_numbers tg_strengths out.2.1 tx_faultMet tx_faultPlace tx_lines tx_held tx_told tx_named out.2.2.1 out.2.2.2.1 out.2.2.2.2.1 out.2.2.2.2.2.1 out.2.2.2.2.2.2 h_la h_sp) s.heap.size = Qc at hq ⊢
  have hQ : ∀ (H : Heap) (locs : List Loc) (pc : Nat) (ls : Array Slot), va_P (dC, dI) vwCl (wdX10_all cyI cyZ cyJ cyB cyO h_x h_tg h_cr h_la h_sp a_x_splitRow h_tp h_tx h_fr h_se h_od h_kn a_x_sheets a_tg_numbers a_tg_strengths a_tg_silent a_tx_held a_tx_told a_tx_named a_fr_counts a_fr_answered a_fr_strongest a_fr_secondStrength a_se_counts x_n x_blocker x_blockerBits x_tornBy tg_size tg_numbers tg_strengths out.2.1 tx_faultMet tx_faultPlace tx_lines tx_held tx_told tx_named out.2.2.1 out.2.2.2.1 out.2.2.2.2.1 out.2.2.2.2.2.1 out.2.2.2.2.2.2 h_la h_sp) H → va_D A (wdX10_all cyI cyZ cyJ cyB cyO h_x h_tg h_cr h_la h_sp a_x_splitRow h_tp h_tx h_fr h_se h_od h_kn a_x_sheets a_tg_numbers a_tg_strengths a_tg_silent a_tx_held a_tx_told a_tx_named a_fr_counts a_fr_answered a_fr_strongest a_fr_secondStrength a_se_counts x_n x_blocker x_blockerBits x_tornBy tg_size tg_numbers tg_strengths out.2.1 tx_faultMet tx_faultPlace tx_lines tx_held tx_told tx_named out.2.2.1 out.2.2.2.1 out.2.2.2.2.1 out.2.2.2.2.2.1 out.2.2.2.2.2.2 h_la h_sp) → va_S A s.heap H locs → decode cX10_all pc = .ok (.ireturn, 1) → W p l e ({ frames := 4, cells := 0, slots := 0, locals := 101 } : Room) s m (([.ref h_x, .int v1] : List Value).toArray) below meth c H locs 0 0 (MQ below Qc (([.ref h_x, .int v1] : List Value).toArray) s 0 0 A) (F0 m pc ls [.int out.1]) := fun H locs pc ls hP hD hS hd => W.iret hx hb hr (fun t ht hW => hq _ t (by rw [ht]; exact hP) hD (hS.F ht)) hS.2.2 hd
  generalize MQ below Qc (([.ref h_x, .int v1] : List Value).toArray) s 0 0 A = Q at hQ ⊢
  have hl := lv_entry [.ref h_x, .int v1] (n := 3) (Nat.le_of_ble_eq_true rfl)
  rw [lg_entry_eq]
  generalize (lg_sl [.ref h_x, .int v1] ++ List.replicate (3 - (lg_sl [.ref h_x, .int v1]).length) Slot.unset).toArray = ls at hl ⊢
  have hl : lv_has ls 3 [(0, .ref h_x), (1, .int v1)] := hl
  unfold pX10_all at hp
  refine lv_aload_n hx hb dX10_all_0 rfl (lv_at hl 0 rfl) ?_
  refine va_get (D := (dC, dI)) (ci := 10) (v := .ref h_se) (C := RX10) (T := TX10) (N := 16) hx hb hts fX10_all_X10 hown hK hP 0 rfl rfl 12 (by decide) (hts _ kX10_all_1) (fun _ h9 => h9) rfl dX10_all_1 ?_
  refine lv_aload_n hx hb dX10_all_4 rfl (lv_at hl 0 rfl) ?_
  refine va_get (D := (dC, dI)) (ci := 10) (v := .ref h_fr) (C := RX10) (T := TX10) (N := 16) hx hb hts fX10_all_X10 hown hK hP 0 rfl rfl 11 (by decide) (hts _ kX10_all_2) (fun _ h9 => h9) rfl dX10_all_5 ?_
  refine lv_aload_n hx hb dX10_all_8 rfl (lv_at hl 0 rfl) ?_
  refine va_get (D := (dC, dI)) (ci := 10) (v := .ref h_tg) (C := RX10) (T := TX10) (N := 16) hx hb hts fX10_all_X10 hown hK hP 0 rfl rfl 4 (by decide) (hts _ kX10_all_3) (fun _ h9 => h9) rfl dX10_all_9 ?_
  refine lv_aload_n hx hb dX10_all_12 rfl (lv_at hl 0 rfl) ?_
  refine va_get (D := (dC, dI)) (ci := 10) (v := .ref h_tx) (C := RX10) (T := TX10) (N := 16) hx hb hts fX10_all_X10 hown hK hP 0 rfl rfl 10 (by decide) (hts _ kX10_all_4) (fun _ h9 => h9) rfl dX10_all_13 ?_
  refine va_get (D := (dC, dI)) (ci := 8) (v := .ref a_tx_held) (C := RX8) (T := TX8) (N := 6) hx hb hts fX10_all_X8 hown hK hP 5 rfl rfl 0 (by decide) (hts _ kX10_all_5) (fun _ h9 => h9) rfl dX10_all_16 ?_
  refine lv_iload_n hx hb dX10_all_19 rfl (lv_at hl 1 rfl) ?_
  obtain ⟨o_1, ho_1, hp⟩ := px_b_at hp
  refine px_callWi (r := o_1.1) (wc := (wdX4_run cyI cyZ cyJ cyB cyO h_se a_se_counts h_fr a_fr_counts a_fr_answered a_fr_strongest a_fr_secondStrength h_tg a_tg_numbers a_tg_strengths a_tg_silent a_tx_held se_counts fr_counts fr_answered fr_strongest fr_secondStrength tg_size tg_numbers tg_strengths tg_silent tx_held)) (wr := [(h_x, .inr (10, [.int x_n, .int x_blocker, .int x_blockerBits, .int x_tornBy, .ref h_tg, .ref h_cr, .ref h_la, .ref h_sp, .ref a_x_splitRow, .ref h_tp, .ref h_tx, .ref h_fr, .ref h_se, .ref h_od, .ref h_kn, .ref a_x_sheets])), (h_tx, .inr (8, [.ref a_tx_held, .int tx_faultMet, .ref a_tx_told, .ref a_tx_named, .int tx_faultPlace, .int tx_lines])), (a_tx_told, .inl (cyI, 9, .inl tx_told)), (a_tx_named, .inl (cyZ, 7, .inl tx_named))]) (w1 := (wdX4_run cyI cyZ cyJ cyB cyO h_se a_se_counts h_fr a_fr_counts a_fr_answered a_fr_strongest a_fr_secondStrength h_tg a_tg_numbers a_tg_strengths a_tg_silent a_tx_held o_1.2.1 o_1.2.2.1 o_1.2.2.2.1 o_1.2.2.2.2.1 o_1.2.2.2.2.2.1 tg_size tg_numbers tg_strengths o_1.2.2.2.2.2.2 tx_held)) (ws2 := (wdX10_all cyI cyZ cyJ cyB cyO h_x h_tg h_cr h_la h_sp a_x_splitRow h_tp h_tx h_fr h_se h_od h_kn a_x_sheets a_tg_numbers a_tg_strengths a_tg_silent a_tx_held a_tx_told a_tx_named a_fr_counts a_fr_answered a_fr_strongest a_fr_secondStrength a_se_counts x_n x_blocker x_blockerBits x_tornBy tg_size tg_numbers tg_strengths o_1.2.2.2.2.2.2 tx_faultMet tx_faultPlace tx_lines tx_held tx_told tx_named o_1.2.2.1 o_1.2.2.2.1 o_1.2.2.2.2.1 o_1.2.2.2.2.2.1 o_1.2.1 h_la h_sp)) (va_runV (As := [.ref h_fr, .ref h_tg, .ref a_tx_held, .int v1]) (rest := []) ⟨hx, hb, hml, hown, hts⟩ (ccX4_run l dC dI cyI cyZ cyJ cyB cyO _ h_se a_se_counts h_fr a_fr_counts a_fr_answered a_fr_strongest a_fr_secondStrength h_tg a_tg_numbers a_tg_strengths a_tg_silent a_tx_held se_counts fr_counts fr_answered fr_strongest fr_secondStrength tg_size tg_numbers tg_strengths tg_silent tx_held v1 o_1 ho_1) (cwV 4 hts gX10_all_X4_run rfl rfl rfl hvX4_run ⟨Nat.le_of_ble_eq_true rfl, Nat.le_of_ble_eq_true rfl⟩) (px_preWV (wc := (wdX4_run cyI cyZ cyJ cyB cyO h_se a_se_counts h_fr a_fr_counts a_fr_answered a_fr_strongest a_fr_secondStrength h_tg a_tg_numbers a_tg_strengths a_tg_silent a_tx_held se_counts fr_counts fr_answered fr_strongest fr_secondStrength tg_size tg_numbers tg_strengths tg_silent tx_held)) (ci := 4) (q0 := 14) hK hN hP hD [14, 15, 9, 10, 11, 12, 13, 1, 2, 3, 4, 6] (by decide) rfl rfl rfl) rfl rfl hl.1 rfl (lv_room (Nat.le_of_ble_eq_true rfl)) dX10_all_20 ⟨Nat.zero_le _, Nat.zero_le _⟩) hP hD hS hA [14, 15, 9, 10, 11, 12, 13, 1, 2, 3, 4, 6] [0, 5, 7, 8] [0, 11, 12, 13, 14, 1, 15, 2, 3, 6, 7, 8, 9, 10, 4, 5] rfl rfl (by decide) (by decide) (by decide) rfl (fun H locs hP hD hS => ?_)
  refine lv_istore_n (lv' := [(2, .int o_1.1), (0, .ref h_x), (1, .int v1)]) hx hb dX10_all_23 rfl hl (by decide) rfl (fun ls hl => ?_)
  refine lv_iload_n hx hb dX10_all_24 rfl (lv_at hl 0 rfl) ?_
  refine lv_if_eq (tgt := 40) hx hb dX10_all_25 (by decide) (fun c_2 => ?_) (fun c_2 => ?_)
  · have hp := px_t hp c_2
    refine lv_bipush (v := (-6 : Int32)) hx hb dX10_all_40 (by decide) ?_
    have ho := px_s hp
    subst ho
    exact hQ _ _ _ _ hP hD hS dX10_all_42
  · have hp := px_f hp c_2
    refine lv_aload_n hx hb dX10_all_28 rfl (lv_at hl 1 rfl) ?_
    refine va_get (D := (dC, dI)) (ci := 10) (v := .ref h_se) (C := RX10) (T := TX10) (N := 16) hx hb hts fX10_all_X10 hown hK hP 0 rfl rfl 12 (by decide) (hts _ kX10_all_1) (fun _ h9 => h9) rfl dX10_all_29 ?_
    refine va_get (D := (dC, dI)) (ci := 4) (v := .ref a_se_counts) (C := RX4) (T := TX4) (N := 1) hx hb hts fX10_all_X4 hown hK hP 14 rfl rfl 0 (by decide) (hts _ kX10_all_6) (fun _ h9 => h9) rfl dX10_all_32 ?_
    refine lv_iconst (v := (0 : Int32)) hx hb dX10_all_35 (by decide) ?_
    refine va_iald (D := (dC, dI)) hx hb hK hP 15 0 rfl rfl (px_in0_4) dX10_all_36 ?_
    refine lv_goto (tgt := 42) hx hb dX10_all_37 (by decide) ?_
    have ho := px_s hp
    subst ho
    exact hQ _ _ _ _ hP hD hS dX10_all_42
/-! TagReader.went(I)I -/
theorem hvX10_went : yX10_went.cls = RX10 ∧ yX10_went.cls ≠ "java/lang/invoke/MethodHandle" ∧ yX10_went.cls ≠ "java/lang/invoke/VarHandle" ∧ (parseMethodDescriptor yX10_went.desc).map (fun d => d.parameters.length) = some 1 := by decide +kernel
theorem fX10_went_X10 : ∀ w ∈ u_ws RX10 TX10 16, w ∈ wsX10_went := fun _ h => List.mem_cons_of_mem _ (List.mem_append_left _ (List.mem_append_right _ h))
theorem kX10_went_1 : (.fieldLink RX10 74 "TagReader" "series" "LTagReader$Series;" : Cond) ∈ wsX10_went := List.mem_of_getElem? (i := 1) rfl
theorem fX10_went_X4 : ∀ w ∈ u_ws RX4 TX4 1, w ∈ wsX10_went := fun _ h => List.mem_cons_of_mem _ (List.mem_append_right _ h)
theorem kX10_went_2 : (.fieldLink RX10 232 "TagReader$Series" "counts" "[I" : Cond) ∈ wsX10_went := List.mem_of_getElem? (i := 2) rfl
set_option maxHeartbeats 4000000 in
set_option maxRecDepth 100000 in
theorem ccX10_went (l : Launch) (dC : Nat → ClassId) (dI : Nat → Nat → Nat) (cyI cyZ cyJ cyB cyO : ClassId) (h_x h_tg h_cr h_la h_sp a_x_splitRow h_tp h_tx h_fr h_se h_od h_kn a_x_sheets a_se_counts : Nat) (x_n : Int32) (x_blocker : Int32) (x_blockerBits : Int32) (x_tornBy : Int32) (se_counts : Nat → Int32) (v1 : Int32) (out : Int32) (hp : pX10_went v1 se_counts = some out) : Met l yX10_went wsX10_went ({ frames := 1, cells := 0, slots := 0, locals := 22 } : Room) (px_PR (dC, dI) (px_TY cyI cyZ cyJ cyB cyO) [.ref h_x, .int v1] (wdX10_went cyI cyZ cyJ cyB cyO h_x h_tg h_cr h_la h_sp a_x_splitRow h_tp h_tx h_fr h_se h_od h_kn a_x_sheets a_se_counts x_n x_blocker x_blockerBits x_tornBy se_counts h_la h_sp)) (px_QR (.int out)) 0 0 (fun _ => False) := by
  refine Met.ofW (cc := cX10_went) (maxL := 2) (ret := (some .int)) (by decide) rfl ?_
  intro p e s m args below meth c s₁ B hml hv
  obtain ⟨rfl, hP, hK, hN⟩ := hv
  have hx := B.exec
  have hb := B.bytes
  have hr := B.returns
  have hts := atoms_spec (ws := wsX10_went) B.pre
  have hown : s.vm.findClass RX10 = some m.cls := findClass_of_methodNamed B.named
  have hlocks := B.notSynchronized
  have hQ : ∀ (pc : Nat) (ls : Array Slot), decode cX10_went pc = .ok (.ireturn, 1) → W p l e ({ frames := 1, cells := 0, slots := 0, locals := 22 } : Room) s m (([.ref h_x, .int v1] : List Value).toArray) below meth c s.heap [] 0 0 (MQ below (px_QR (.int out)) (([.ref h_x, .int v1] : List Value).toArray) s 0 0 (fun _ => False)) (F0 m pc ls [.int out]) := fun pc ls hd => W.iret hx hb hr (fun t ht hW => ⟨rfl, ht⟩) (fun q h => by cases h) hd
  generalize MQ below (px_QR (.int out)) (([.ref h_x, .int v1] : List Value).toArray) s 0 0 (fun _ => False) = Q at hQ ⊢
  have hl := lv_entry [.ref h_x, .int v1] (n := 2) (Nat.le_of_ble_eq_true rfl)
  rw [lg_entry_eq]
  generalize (lg_sl [.ref h_x, .int v1] ++ List.replicate (2 - (lg_sl [.ref h_x, .int v1]).length) Slot.unset).toArray = ls at hl ⊢
  have hl : lv_has ls 2 [(0, .ref h_x), (1, .int v1)] := hl
  unfold pX10_went at hp
  refine lv_iload_n hx hb dX10_went_0 rfl (lv_at hl 1 rfl) ?_
  refine lv_iconst (v := (0 : Int32)) hx hb dX10_went_1 (by decide) ?_
  refine lv_iconst (v := (3 : Int32)) hx hb dX10_went_2 (by decide) ?_
  obtain ⟨o_1, ho_1, hp⟩ := px_b_at hp
  refine px_callR (v := .int o_1) (va_runS (As := [.int v1, .int (0 : Int32), .int (3 : Int32)]) (rest := []) ⟨hx, hb, hml, hown, hts⟩ (ccX10_within l dC dI cyI cyZ cyJ cyB cyO v1 (0 : Int32) (3 : Int32) o_1 ho_1) (va_cwS 3 hts gX10_went_X10_within rfl rfl rfl hsX10_within ⟨Nat.le_of_ble_eq_true rfl, Nat.le_of_ble_eq_true rfl⟩) (px_preR (wc := []) hK hN hP [] rfl) rfl rfl hl.1 rfl (lv_room (Nat.le_of_ble_eq_true rfl)) dX10_went_3 ⟨Nat.zero_le _, Nat.zero_le _⟩) ?_
  refine lv_if_ne (tgt := 11) hx hb dX10_went_6 (by decide) (fun c_2 => ?_) (fun c_2 => ?_)
  · have hp := px_f hp c_2
    refine lv_aload_n hx hb dX10_went_11 rfl (lv_at hl 0 rfl) ?_
    refine va_get (D := (dC, dI)) (ci := 10) (v := .ref h_se) (C := RX10) (T := TX10) (N := 16) hx hb hts fX10_went_X10 hown hK hP 0 rfl rfl 12 (by decide) (hts _ kX10_went_1) (fun _ h9 => h9) rfl dX10_went_12 ?_
    obtain ⟨o_3, ho_3, hp⟩ := px_b_at hp
    refine px_callR (v := .int o_3) (va_runV (As := []) (rest := []) ⟨hx, hb, hml, hown, hts⟩ (ccX4_wasRun l dC dI cyI cyZ cyJ cyB cyO h_se a_se_counts se_counts o_3 ho_3) (cwV 0 hts gX10_went_X4_wasRun rfl rfl rfl hvX4_wasRun ⟨Nat.le_of_ble_eq_true rfl, Nat.le_of_ble_eq_true rfl⟩) (px_preRV (wc := (wdX4_wasRun cyI cyZ cyJ cyB cyO h_se a_se_counts se_counts)) (ci := 4) (q0 := 1) hK hN hP [1, 2] rfl rfl rfl) rfl rfl hl.1 rfl (lv_room (Nat.le_of_ble_eq_true rfl)) dX10_went_15 ⟨Nat.zero_le _, Nat.zero_le _⟩) ?_
    refine lv_if_eq (tgt := 33) hx hb dX10_went_18 (by decide) (fun c_4 => ?_) (fun c_4 => ?_)
    · have hp := px_t hp c_4
      refine lv_bipush (v := (-2 : Int32)) hx hb dX10_went_33 (by decide) ?_
      have ho := px_s hp
      subst ho
      exact hQ _ _ dX10_went_35
    · have hp := px_f hp c_4
      refine lv_aload_n hx hb dX10_went_21 rfl (lv_at hl 0 rfl) ?_
      refine va_get (D := (dC, dI)) (ci := 10) (v := .ref h_se) (C := RX10) (T := TX10) (N := 16) hx hb hts fX10_went_X10 hown hK hP 0 rfl rfl 12 (by decide) (hts _ kX10_went_1) (fun _ h9 => h9) rfl dX10_went_22 ?_
      refine va_get (D := (dC, dI)) (ci := 4) (v := .ref a_se_counts) (C := RX4) (T := TX4) (N := 1) hx hb hts fX10_went_X4 hown hK hP 1 rfl rfl 0 (by decide) (hts _ kX10_went_2) (fun _ h9 => h9) rfl dX10_went_25 ?_
      refine lv_iload_n hx hb dX10_went_28 rfl (lv_at hl 1 rfl) ?_
      obtain ⟨g_5, hp⟩ := px_i_at hp
      refine va_iald (D := (dC, dI)) hx hb hK hP 2 0 rfl rfl g_5 dX10_went_29 ?_
      refine lv_goto (tgt := 35) hx hb dX10_went_30 (by decide) ?_
      have ho := px_s hp
      subst ho
      exact hQ _ _ dX10_went_35
  · have hp := px_t hp c_2
    refine lv_iconst (v := (-1 : Int32)) hx hb dX10_went_9 (by decide) ?_
    have ho := px_s hp
    subst ho
    exact hQ _ _ dX10_went_10
