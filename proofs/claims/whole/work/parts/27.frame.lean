/-! TagReader$Frame.wasHeld()Z -/
def pX1_wasHeld (fr_counts : Nat → Int32) : Option (Int32) := (if (fr_counts (Int32.toNatClampNeg (0 : Int32))) ≤ (0 : Int32) then some (0 : Int32) else some (1 : Int32))
abbrev wdX1_wasHeld (cyI cyZ cyJ cyB cyO : ClassId) (h_fr a_fr_counts a_fr_answered a_fr_strongest a_fr_secondStrength : Nat) (fr_counts : Nat → Int32) (fr_answered : Nat → Int32) (fr_strongest : Nat → Int32) (fr_secondStrength : Nat → Int32) : va_W := [(h_fr, .inr (1, [.ref a_fr_counts, .ref a_fr_answered, .ref a_fr_strongest, .ref a_fr_secondStrength])), (a_fr_counts, .inl (cyI, 5, .inl fr_counts)), (a_fr_answered, .inl (cyI, 64, .inl fr_answered)), (a_fr_strongest, .inl (cyI, 64, .inl fr_strongest)), (a_fr_secondStrength, .inl (cyI, 64, .inl fr_secondStrength))]
/-! TagReader$Frame.clear(I)V -/
def pX1_clear_33B (v1 : Int32) (K_33 : Int32 → (Nat → Int32) → (Nat → Int32) → (Nat → Int32) → (Nat → Int32) → Option ((Nat → Int32) × (Nat → Int32) × (Nat → Int32) × (Nat → Int32))) (v2 : Int32) (fr_counts : Nat → Int32) (fr_answered : Nat → Int32) (fr_strongest : Nat → Int32) (fr_secondStrength : Nat → Int32) : Option ((Nat → Int32) × (Nat → Int32) × (Nat → Int32) × (Nat → Int32)) := (if v1 ≤ v2 then some (fr_counts, fr_answered, fr_strongest, fr_secondStrength) else px_i v2 64 (px_i v2 64 (px_i v2 64 (K_33 (v2 + (1 : Int32)) fr_counts (upd fr_answered (Int32.toNatClampNeg v2) (0 : Int32)) (upd fr_strongest (Int32.toNatClampNeg v2) (0 : Int32)) (upd fr_secondStrength (Int32.toNatClampNeg v2) (0 : Int32))))))
def pX1_clear_33 (v1 : Int32) : Nat → Int32 → (Nat → Int32) → (Nat → Int32) → (Nat → Int32) → (Nat → Int32) → Option ((Nat → Int32) × (Nat → Int32) × (Nat → Int32) × (Nat → Int32))
  | 0, _, _, _, _, _ => none
  | n + 1, v2, fr_counts, fr_answered, fr_strongest, fr_secondStrength => pX1_clear_33B v1 (pX1_clear_33 v1 n) v2 fr_counts fr_answered fr_strongest fr_secondStrength
def pX1_clear_24 (v1 : Int32) (fr_counts : Nat → Int32) (fr_answered : Nat → Int32) (fr_strongest : Nat → Int32) (fr_secondStrength : Nat → Int32) : Option ((Nat → Int32) × (Nat → Int32) × (Nat → Int32) × (Nat → Int32)) := pX1_clear_33 v1 px_FU (0 : Int32) (upd fr_counts (Int32.toNatClampNeg (0 : Int32)) v1) fr_answered fr_strongest fr_secondStrength
def pX1_clear_2B (v1 : Int32) (K_2 : Int32 → (Nat → Int32) → (Nat → Int32) → (Nat → Int32) → (Nat → Int32) → Option ((Nat → Int32) × (Nat → Int32) × (Nat → Int32) × (Nat → Int32))) (v2 : Int32) (fr_counts : Nat → Int32) (fr_answered : Nat → Int32) (fr_strongest : Nat → Int32) (fr_secondStrength : Nat → Int32) : Option ((Nat → Int32) × (Nat → Int32) × (Nat → Int32) × (Nat → Int32)) := (if (5 : Int32) ≤ v2 then pX1_clear_24 v1 fr_counts fr_answered fr_strongest fr_secondStrength else px_i v2 5 (K_2 (v2 + (1 : Int32)) (upd fr_counts (Int32.toNatClampNeg v2) (0 : Int32)) fr_answered fr_strongest fr_secondStrength))
def pX1_clear_2 (v1 : Int32) : Nat → Int32 → (Nat → Int32) → (Nat → Int32) → (Nat → Int32) → (Nat → Int32) → Option ((Nat → Int32) × (Nat → Int32) × (Nat → Int32) × (Nat → Int32))
  | 0, _, _, _, _, _ => none
  | n + 1, v2, fr_counts, fr_answered, fr_strongest, fr_secondStrength => pX1_clear_2B v1 (pX1_clear_2 v1 n) v2 fr_counts fr_answered fr_strongest fr_secondStrength
def pX1_clear (v1 : Int32) (fr_counts : Nat → Int32) (fr_answered : Nat → Int32) (fr_strongest : Nat → Int32) (fr_secondStrength : Nat → Int32) : Option ((Nat → Int32) × (Nat → Int32) × (Nat → Int32) × (Nat → Int32)) := pX1_clear_2 v1 px_FU (0 : Int32) fr_counts fr_answered fr_strongest fr_secondStrength
abbrev wdX1_clear (cyI cyZ cyJ cyB cyO : ClassId) (h_fr a_fr_counts a_fr_answered a_fr_strongest a_fr_secondStrength : Nat) (fr_counts : Nat → Int32) (fr_answered : Nat → Int32) (fr_strongest : Nat → Int32) (fr_secondStrength : Nat → Int32) : va_W := [(h_fr, .inr (1, [.ref a_fr_counts, .ref a_fr_answered, .ref a_fr_strongest, .ref a_fr_secondStrength])), (a_fr_counts, .inl (cyI, 5, .inl fr_counts)), (a_fr_answered, .inl (cyI, 64, .inl fr_answered)), (a_fr_strongest, .inl (cyI, 64, .inl fr_strongest)), (a_fr_secondStrength, .inl (cyI, 64, .inl fr_secondStrength))]
/-! TagReader$Frame.enter(LTagReader$Tags;II)V -/
def pX1_enter_87 (v2 : Int32) (v3 : Int32) (tg_strengths : Nat → Int32) (fr_answered : Nat → Int32) (fr_strongest : Nat → Int32) (fr_secondStrength : Nat → Int32) : Option ((Nat → Int32) × (Nat → Int32) × (Nat → Int32)) := px_i v3 64 (px_i v3 64 (some ((upd fr_answered (Int32.toNatClampNeg v3) ((fr_answered (Int32.toNatClampNeg v3)) + (1 : Int32))), fr_strongest, fr_secondStrength)))
def pX1_enter (v2 : Int32) (v3 : Int32) (tg_strengths : Nat → Int32) (fr_answered : Nat → Int32) (fr_strongest : Nat → Int32) (fr_secondStrength : Nat → Int32) : Option ((Nat → Int32) × (Nat → Int32) × (Nat → Int32)) := px_i v2 16 (px_i v3 64 ((if (fr_answered (Int32.toNatClampNeg v3)) = (0 : Int32) then px_i v3 64 (pX1_enter_87 v2 v3 tg_strengths fr_answered (upd fr_strongest (Int32.toNatClampNeg v3) v2) fr_secondStrength) else px_i v3 64 (px_i (fr_strongest (Int32.toNatClampNeg v3)) 16 ((if (tg_strengths (Int32.toNatClampNeg v2)) ≤ (tg_strengths (Int32.toNatClampNeg (fr_strongest (Int32.toNatClampNeg v3)))) then px_i v3 64 (px_lt (if (fr_secondStrength (Int32.toNatClampNeg v3)) < (tg_strengths (Int32.toNatClampNeg v2)) then (tg_strengths (Int32.toNatClampNeg v2)) else (fr_secondStrength (Int32.toNatClampNeg v3))) (fun x_8 => px_i v3 64 (pX1_enter_87 v2 v3 tg_strengths fr_answered fr_strongest (upd fr_secondStrength (Int32.toNatClampNeg v3) x_8)))) else px_i v3 64 (px_i (fr_strongest (Int32.toNatClampNeg v3)) 16 (px_lt (tg_strengths (Int32.toNatClampNeg (fr_strongest (Int32.toNatClampNeg v3)))) (fun x_14 => px_i v3 64 (px_i v3 64 (pX1_enter_87 v2 v3 tg_strengths fr_answered (upd fr_strongest (Int32.toNatClampNeg v3) v2) (upd fr_secondStrength (Int32.toNatClampNeg v3) x_14))))))))))))
abbrev wdX1_enter (cyI cyZ cyJ cyB cyO : ClassId) (h_fr a_fr_counts a_fr_answered a_fr_strongest a_fr_secondStrength h_tg a_tg_numbers a_tg_strengths a_tg_silent : Nat) (fr_counts : Nat → Int32) (fr_answered : Nat → Int32) (fr_strongest : Nat → Int32) (fr_secondStrength : Nat → Int32) (tg_size : Int32) (tg_numbers : Nat → Int32) (tg_strengths : Nat → Int32) (tg_silent : Nat → Int32) : va_W := [(h_fr, .inr (1, [.ref a_fr_counts, .ref a_fr_answered, .ref a_fr_strongest, .ref a_fr_secondStrength])), (a_fr_counts, .inl (cyI, 5, .inl fr_counts)), (a_fr_answered, .inl (cyI, 64, .inl fr_answered)), (a_fr_strongest, .inl (cyI, 64, .inl fr_strongest)), (a_fr_secondStrength, .inl (cyI, 64, .inl fr_secondStrength)), (h_tg, .inr (6, [.ref a_tg_numbers, .ref a_tg_strengths, .ref a_tg_silent, .int tg_size])), (a_tg_numbers, .inl (cyI, 16, .inl tg_numbers)), (a_tg_strengths, .inl (cyI, 16, .inl tg_strengths)), (a_tg_silent, .inl (cyZ, 16, .inl tg_silent))]
/-! TagReader$Frame.kindOf(LTagReader$Tags;II)I -/
def pX1_kindOf (v2 : Int32) (v3 : Int32) (fr_answered : Nat → Int32) (fr_strongest : Nat → Int32) (fr_secondStrength : Nat → Int32) (tg_strengths : Nat → Int32) : Option (Int32) := px_i v2 64 ((if (fr_answered (Int32.toNatClampNeg v2)) = (0 : Int32) then some (1 : Int32) else px_i v2 64 ((if (fr_answered (Int32.toNatClampNeg v2)) = (1 : Int32) then some (2 : Int32) else px_i v2 64 (px_i (fr_strongest (Int32.toNatClampNeg v2)) 16 (px_i v2 64 (px_lt ((tg_strengths (Int32.toNatClampNeg (fr_strongest (Int32.toNatClampNeg v2)))) - (fr_secondStrength (Int32.toNatClampNeg v2))) (fun x_8 => (if v3 ≤ (0 : Int32) then some (3 : Int32) else (if x_8 < v3 then some (3 : Int32) else some (4 : Int32)))))))))))
abbrev wdX1_kindOf (cyI cyZ cyJ cyB cyO : ClassId) (h_fr a_fr_counts a_fr_answered a_fr_strongest a_fr_secondStrength h_tg a_tg_numbers a_tg_strengths a_tg_silent : Nat) (fr_counts : Nat → Int32) (fr_answered : Nat → Int32) (fr_strongest : Nat → Int32) (fr_secondStrength : Nat → Int32) (tg_size : Int32) (tg_numbers : Nat → Int32) (tg_strengths : Nat → Int32) (tg_silent : Nat → Int32) : va_W := [(h_fr, .inr (1, [.ref a_fr_counts, .ref a_fr_answered, .ref a_fr_strongest, .ref a_fr_secondStrength])), (a_fr_counts, .inl (cyI, 5, .inl fr_counts)), (a_fr_answered, .inl (cyI, 64, .inl fr_answered)), (a_fr_strongest, .inl (cyI, 64, .inl fr_strongest)), (a_fr_secondStrength, .inl (cyI, 64, .inl fr_secondStrength)), (h_tg, .inr (6, [.ref a_tg_numbers, .ref a_tg_strengths, .ref a_tg_silent, .int tg_size])), (a_tg_numbers, .inl (cyI, 16, .inl tg_numbers)), (a_tg_strengths, .inl (cyI, 16, .inl tg_strengths)), (a_tg_silent, .inl (cyZ, 16, .inl tg_silent))]
/-! TagReader$Frame.hold(LTagReader$Tags;III)I -/
def pX1_hold_126 (v2 : Int32) (v3 : Int32) (v4 : Int32) (tg_size : Int32) (tg_numbers : Nat → Int32) (tg_strengths : Nat → Int32) (fr_counts : Nat → Int32) (fr_answered : Nat → Int32) (fr_strongest : Nat → Int32) (fr_secondStrength : Nat → Int32) (tg_silent : Nat → Int32) : Option (Int32 × (Nat → Int32) × (Nat → Int32) × (Nat → Int32) × (Nat → Int32) × (Nat → Int32)) := some (((fr_counts (Int32.toNatClampNeg (2 : Int32))) + (fr_counts (Int32.toNatClampNeg (4 : Int32)))), fr_counts, fr_answered, fr_strongest, fr_secondStrength, tg_silent)
def pX1_hold_107 (v2 : Int32) (v3 : Int32) (v4 : Int32) (tg_size : Int32) (tg_numbers : Nat → Int32) (tg_strengths : Nat → Int32) (K_67 : Int32 → (Nat → Int32) → (Nat → Int32) → (Nat → Int32) → (Nat → Int32) → (Nat → Int32) → Option (Int32 × (Nat → Int32) × (Nat → Int32) × (Nat → Int32) × (Nat → Int32) × (Nat → Int32))) (v5 : Int32) (fr_counts : Nat → Int32) (fr_answered : Nat → Int32) (fr_strongest : Nat → Int32) (fr_secondStrength : Nat → Int32) (tg_silent : Nat → Int32) : Option (Int32 × (Nat → Int32) × (Nat → Int32) × (Nat → Int32) × (Nat → Int32) × (Nat → Int32)) := px_i v5 64 (px_i (fr_strongest (Int32.toNatClampNeg v5)) 16 (K_67 (v5 + (1 : Int32)) fr_counts fr_answered fr_strongest fr_secondStrength (upd tg_silent (Int32.toNatClampNeg (fr_strongest (Int32.toNatClampNeg v5))) (vp_nar .boolean (1 : Int32)))))
def pX1_hold_67B (v2 : Int32) (v3 : Int32) (v4 : Int32) (tg_size : Int32) (tg_numbers : Nat → Int32) (tg_strengths : Nat → Int32) (K_67 : Int32 → (Nat → Int32) → (Nat → Int32) → (Nat → Int32) → (Nat → Int32) → (Nat → Int32) → Option (Int32 × (Nat → Int32) × (Nat → Int32) × (Nat → Int32) × (Nat → Int32) × (Nat → Int32))) (v5 : Int32) (fr_counts : Nat → Int32) (fr_answered : Nat → Int32) (fr_strongest : Nat → Int32) (fr_secondStrength : Nat → Int32) (tg_silent : Nat → Int32) : Option (Int32 × (Nat → Int32) × (Nat → Int32) × (Nat → Int32) × (Nat → Int32) × (Nat → Int32)) := (if v2 ≤ v5 then pX1_hold_126 v2 v3 v4 tg_size tg_numbers tg_strengths fr_counts fr_answered fr_strongest fr_secondStrength tg_silent else px_b (pX1_kindOf v5 v4 fr_answered fr_strongest fr_secondStrength tg_strengths) (fun o_6 => px_i o_6 5 (px_i o_6 5 ((if o_6 = (2 : Int32) then pX1_hold_107 v2 v3 v4 tg_size tg_numbers tg_strengths K_67 v5 (upd fr_counts (Int32.toNatClampNeg o_6) ((fr_counts (Int32.toNatClampNeg o_6)) + (1 : Int32))) fr_answered fr_strongest fr_secondStrength tg_silent else (if o_6 = (4 : Int32) then pX1_hold_107 v2 v3 v4 tg_size tg_numbers tg_strengths K_67 v5 (upd fr_counts (Int32.toNatClampNeg o_6) ((fr_counts (Int32.toNatClampNeg o_6)) + (1 : Int32))) fr_answered fr_strongest fr_secondStrength tg_silent else K_67 (v5 + (1 : Int32)) (upd fr_counts (Int32.toNatClampNeg o_6) ((fr_counts (Int32.toNatClampNeg o_6)) + (1 : Int32))) fr_answered fr_strongest fr_secondStrength tg_silent))))))
def pX1_hold_67 (v2 : Int32) (v3 : Int32) (v4 : Int32) (tg_size : Int32) (tg_numbers : Nat → Int32) (tg_strengths : Nat → Int32) : Nat → Int32 → (Nat → Int32) → (Nat → Int32) → (Nat → Int32) → (Nat → Int32) → (Nat → Int32) → Option (Int32 × (Nat → Int32) × (Nat → Int32) × (Nat → Int32) × (Nat → Int32) × (Nat → Int32))
  | 0, _, _, _, _, _, _ => none
  | n + 1, v5, fr_counts, fr_answered, fr_strongest, fr_secondStrength, tg_silent => pX1_hold_67B v2 v3 v4 tg_size tg_numbers tg_strengths (pX1_hold_67 v2 v3 v4 tg_size tg_numbers tg_strengths n) v5 fr_counts fr_answered fr_strongest fr_secondStrength tg_silent
def pX1_hold_20B (v2 : Int32) (v3 : Int32) (v4 : Int32) (tg_size : Int32) (tg_numbers : Nat → Int32) (tg_strengths : Nat → Int32) (K_20 : Int32 → (Nat → Int32) → (Nat → Int32) → (Nat → Int32) → (Nat → Int32) → (Nat → Int32) → Option (Int32 × (Nat → Int32) × (Nat → Int32) × (Nat → Int32) × (Nat → Int32) × (Nat → Int32))) (v5 : Int32) (fr_counts : Nat → Int32) (fr_answered : Nat → Int32) (fr_strongest : Nat → Int32) (fr_secondStrength : Nat → Int32) (tg_silent : Nat → Int32) : Option (Int32 × (Nat → Int32) × (Nat → Int32) × (Nat → Int32) × (Nat → Int32) × (Nat → Int32)) := (if tg_size ≤ v5 then pX1_hold_67 v2 v3 v4 tg_size tg_numbers tg_strengths px_FU (0 : Int32) fr_counts fr_answered fr_strongest fr_secondStrength tg_silent else px_i v5 16 ((if (tg_silent (Int32.toNatClampNeg v5)) = (0 : Int32) then px_i v5 16 (px_b (pX10_slotOf (tg_numbers (Int32.toNatClampNeg v5)) v2 v3) (fun o_16 => px_b (pX1_enter v5 o_16 tg_strengths fr_answered fr_strongest fr_secondStrength) (fun o_17 => K_20 (v5 + (1 : Int32)) fr_counts o_17.1 o_17.2.1 o_17.2.2 tg_silent))) else K_20 (v5 + (1 : Int32)) fr_counts fr_answered fr_strongest fr_secondStrength tg_silent)))
def pX1_hold_20 (v2 : Int32) (v3 : Int32) (v4 : Int32) (tg_size : Int32) (tg_numbers : Nat → Int32) (tg_strengths : Nat → Int32) : Nat → Int32 → (Nat → Int32) → (Nat → Int32) → (Nat → Int32) → (Nat → Int32) → (Nat → Int32) → Option (Int32 × (Nat → Int32) × (Nat → Int32) × (Nat → Int32) × (Nat → Int32) × (Nat → Int32))
  | 0, _, _, _, _, _, _ => none
  | n + 1, v5, fr_counts, fr_answered, fr_strongest, fr_secondStrength, tg_silent => pX1_hold_20B v2 v3 v4 tg_size tg_numbers tg_strengths (pX1_hold_20 v2 v3 v4 tg_size tg_numbers tg_strengths n) v5 fr_counts fr_answered fr_strongest fr_secondStrength tg_silent
def pX1_hold (v2 : Int32) (v3 : Int32) (v4 : Int32) (tg_size : Int32) (tg_numbers : Nat → Int32) (tg_strengths : Nat → Int32) (fr_counts : Nat → Int32) (fr_answered : Nat → Int32) (fr_strongest : Nat → Int32) (fr_secondStrength : Nat → Int32) (tg_silent : Nat → Int32) : Option (Int32 × (Nat → Int32) × (Nat → Int32) × (Nat → Int32) × (Nat → Int32) × (Nat → Int32)) := px_b (pX10_within v2 (1 : Int32) (64 : Int32)) (fun o_1 => (if o_1 = (0 : Int32) then some ((0 : Int32), fr_counts, fr_answered, fr_strongest, fr_secondStrength, tg_silent) else px_b (pX1_clear v2 fr_counts fr_answered fr_strongest fr_secondStrength) (fun o_3 => pX1_hold_20 v2 v3 v4 tg_size tg_numbers tg_strengths px_FU (0 : Int32) o_3.1 o_3.2.1 o_3.2.2.1 o_3.2.2.2 tg_silent)))
abbrev wdX1_hold (cyI cyZ cyJ cyB cyO : ClassId) (h_fr a_fr_counts a_fr_answered a_fr_strongest a_fr_secondStrength h_tg a_tg_numbers a_tg_strengths a_tg_silent : Nat) (fr_counts : Nat → Int32) (fr_answered : Nat → Int32) (fr_strongest : Nat → Int32) (fr_secondStrength : Nat → Int32) (tg_size : Int32) (tg_numbers : Nat → Int32) (tg_strengths : Nat → Int32) (tg_silent : Nat → Int32) : va_W := [(h_fr, .inr (1, [.ref a_fr_counts, .ref a_fr_answered, .ref a_fr_strongest, .ref a_fr_secondStrength])), (a_fr_counts, .inl (cyI, 5, .inl fr_counts)), (a_fr_answered, .inl (cyI, 64, .inl fr_answered)), (a_fr_strongest, .inl (cyI, 64, .inl fr_strongest)), (a_fr_secondStrength, .inl (cyI, 64, .inl fr_secondStrength)), (h_tg, .inr (6, [.ref a_tg_numbers, .ref a_tg_strengths, .ref a_tg_silent, .int tg_size])), (a_tg_numbers, .inl (cyI, 16, .inl tg_numbers)), (a_tg_strengths, .inl (cyI, 16, .inl tg_strengths)), (a_tg_silent, .inl (cyZ, 16, .inl tg_silent))]
/-! TagReader$Series.wasRun()Z -/
def pX4_wasRun (se_counts : Nat → Int32) : Option (Int32) := (if (se_counts (Int32.toNatClampNeg (0 : Int32))) ≤ (0 : Int32) then some (0 : Int32) else some (1 : Int32))
abbrev wdX4_wasRun (cyI cyZ cyJ cyB cyO : ClassId) (h_se a_se_counts : Nat) (se_counts : Nat → Int32) : va_W := [(h_se, .inr (4, [.ref a_se_counts])), (a_se_counts, .inl (cyI, 4, .inl se_counts))]
/-! TagReader$Series.bounded(I[I)I -/
def pX4_bounded (v0 : Int32) (ru : Nat → Int32) : Option (Int32) := some (if (ru (Int32.toNatClampNeg (2 : Int32))) < (if v0 < (ru (Int32.toNatClampNeg (1 : Int32))) then (ru (Int32.toNatClampNeg (1 : Int32))) else v0) then (ru (Int32.toNatClampNeg (2 : Int32))) else (if v0 < (ru (Int32.toNatClampNeg (1 : Int32))) then (ru (Int32.toNatClampNeg (1 : Int32))) else v0))
abbrev wdX4_bounded (cyI cyZ cyJ cyB cyO : ClassId) (a_ru : Nat) (ru : Nat → Int32) : va_W := [(a_ru, .inl (cyI, 9, .inl ru))]
/-! TagReader$Series.next(LTagReader$Frame;[I)I -/
def pX4_next_51 (fr_counts : Nat → Int32) (ru : Nat → Int32) (v2 : Int32) (v3 : Int32) : Option (Int32) := (if ((100 : Int32) * v3) < ((ru (Int32.toNatClampNeg (5 : Int32))) * v2) then some v2 else some ((v2 * (ru (Int32.toNatClampNeg (6 : Int32)))) / (100 : Int32)))
def pX4_next (fr_counts : Nat → Int32) (ru : Nat → Int32) : Option (Int32) := (if (fr_counts (Int32.toNatClampNeg (0 : Int32))) ≤ (fr_counts (Int32.toNatClampNeg (1 : Int32))) then pX4_next_51 fr_counts ru (fr_counts (Int32.toNatClampNeg (0 : Int32))) (fr_counts (Int32.toNatClampNeg (1 : Int32))) else (if ((100 : Int32) * (fr_counts (Int32.toNatClampNeg (3 : Int32)))) < ((ru (Int32.toNatClampNeg (3 : Int32))) * ((fr_counts (Int32.toNatClampNeg (0 : Int32))) - (fr_counts (Int32.toNatClampNeg (1 : Int32))))) then pX4_next_51 fr_counts ru (fr_counts (Int32.toNatClampNeg (0 : Int32))) (fr_counts (Int32.toNatClampNeg (1 : Int32))) else some (((fr_counts (Int32.toNatClampNeg (0 : Int32))) * (ru (Int32.toNatClampNeg (4 : Int32)))) / (100 : Int32))))
abbrev wdX4_next (cyI cyZ cyJ cyB cyO : ClassId) (h_fr a_fr_counts a_fr_answered a_fr_strongest a_fr_secondStrength a_ru : Nat) (fr_counts : Nat → Int32) (fr_answered : Nat → Int32) (fr_strongest : Nat → Int32) (fr_secondStrength : Nat → Int32) (ru : Nat → Int32) : va_W := [(h_fr, .inr (1, [.ref a_fr_counts, .ref a_fr_answered, .ref a_fr_strongest, .ref a_fr_secondStrength])), (a_fr_counts, .inl (cyI, 5, .inl fr_counts)), (a_fr_answered, .inl (cyI, 64, .inl fr_answered)), (a_fr_strongest, .inl (cyI, 64, .inl fr_strongest)), (a_fr_secondStrength, .inl (cyI, 64, .inl fr_secondStrength)), (a_ru, .inl (cyI, 9, .inl ru))]
/-! TagReader$Series.run(LTagReader$Frame;LTagReader$Tags;[II)Z -/
def pX4_run_126 (v4 : Int32) (tg_size : Int32) (tg_numbers : Nat → Int32) (tg_strengths : Nat → Int32) (ru : Nat → Int32) (K_42 : Int32 → Int32 → Int32 → (Nat → Int32) → (Nat → Int32) → (Nat → Int32) → (Nat → Int32) → (Nat → Int32) → (Nat → Int32) → Option (Int32 × (Nat → Int32) × (Nat → Int32) × (Nat → Int32) × (Nat → Int32) × (Nat → Int32) × (Nat → Int32))) (v7 : Int32) (t0 : Int32) (se_counts : Nat → Int32) (fr_counts : Nat → Int32) (fr_answered : Nat → Int32) (fr_strongest : Nat → Int32) (fr_secondStrength : Nat → Int32) (tg_silent : Nat → Int32) : Option (Int32 × (Nat → Int32) × (Nat → Int32) × (Nat → Int32) × (Nat → Int32) × (Nat → Int32) × (Nat → Int32)) := px_b (pX4_next fr_counts ru) (fun o_11 => px_b (pX4_bounded o_11 ru) (fun o_12 => K_42 o_12 t0 (v7 + (1 : Int32)) se_counts fr_counts fr_answered fr_strongest fr_secondStrength tg_silent))
def pX4_run_42B (v4 : Int32) (tg_size : Int32) (tg_numbers : Nat → Int32) (tg_strengths : Nat → Int32) (ru : Nat → Int32) (K_42 : Int32 → Int32 → Int32 → (Nat → Int32) → (Nat → Int32) → (Nat → Int32) → (Nat → Int32) → (Nat → Int32) → (Nat → Int32) → Option (Int32 × (Nat → Int32) × (Nat → Int32) × (Nat → Int32) × (Nat → Int32) × (Nat → Int32) × (Nat → Int32))) (v5 : Int32) (v6 : Int32) (v7 : Int32) (se_counts : Nat → Int32) (fr_counts : Nat → Int32) (fr_answered : Nat → Int32) (fr_strongest : Nat → Int32) (fr_secondStrength : Nat → Int32) (tg_silent : Nat → Int32) : Option (Int32 × (Nat → Int32) × (Nat → Int32) × (Nat → Int32) × (Nat → Int32) × (Nat → Int32) × (Nat → Int32)) := (if (ru (Int32.toNatClampNeg (8 : Int32))) ≤ v7 then px_o v6 (some (v6, se_counts, fr_counts, fr_answered, fr_strongest, fr_secondStrength, tg_silent)) else (if v6 = (0 : Int32) then px_b (pX1_hold v5 (v4 + v7) (ru (Int32.toNatClampNeg (7 : Int32))) tg_size tg_numbers tg_strengths fr_counts fr_answered fr_strongest fr_secondStrength tg_silent) (fun o_7 => px_lt (((upd se_counts (Int32.toNatClampNeg (2 : Int32)) ((se_counts (Int32.toNatClampNeg (2 : Int32))) + o_7.1)) (Int32.toNatClampNeg (0 : Int32))) + (1 : Int32)) (fun x_8 => px_lt (((upd (upd se_counts (Int32.toNatClampNeg (2 : Int32)) ((se_counts (Int32.toNatClampNeg (2 : Int32))) + o_7.1)) (Int32.toNatClampNeg (0 : Int32)) x_8) (Int32.toNatClampNeg (1 : Int32))) + v5) (fun x_9 => (if (o_7.2.1 (Int32.toNatClampNeg (1 : Int32))) = v5 then pX4_run_126 v4 tg_size tg_numbers tg_strengths ru K_42 v7 (1 : Int32) (upd (upd (upd (upd se_counts (Int32.toNatClampNeg (2 : Int32)) ((se_counts (Int32.toNatClampNeg (2 : Int32))) + o_7.1)) (Int32.toNatClampNeg (0 : Int32)) x_8) (Int32.toNatClampNeg (1 : Int32)) x_9) (Int32.toNatClampNeg (3 : Int32)) v5) o_7.2.1 o_7.2.2.1 o_7.2.2.2.1 o_7.2.2.2.2.1 o_7.2.2.2.2.2 else pX4_run_126 v4 tg_size tg_numbers tg_strengths ru K_42 v7 (0 : Int32) (upd (upd (upd (upd se_counts (Int32.toNatClampNeg (2 : Int32)) ((se_counts (Int32.toNatClampNeg (2 : Int32))) + o_7.1)) (Int32.toNatClampNeg (0 : Int32)) x_8) (Int32.toNatClampNeg (1 : Int32)) x_9) (Int32.toNatClampNeg (3 : Int32)) v5) o_7.2.1 o_7.2.2.1 o_7.2.2.2.1 o_7.2.2.2.2.1 o_7.2.2.2.2.2)))) else px_o v6 (some (v6, se_counts, fr_counts, fr_answered, fr_strongest, fr_secondStrength, tg_silent))))
def pX4_run_42 (v4 : Int32) (tg_size : Int32) (tg_numbers : Nat → Int32) (tg_strengths : Nat → Int32) (ru : Nat → Int32) : Nat → Int32 → Int32 → Int32 → (Nat → Int32) → (Nat → Int32) → (Nat → Int32) → (Nat → Int32) → (Nat → Int32) → (Nat → Int32) → Option (Int32 × (Nat → Int32) × (Nat → Int32) × (Nat → Int32) × (Nat → Int32) × (Nat → Int32) × (Nat → Int32))
  | 0, _, _, _, _, _, _, _, _, _ => none
  | n + 1, v5, v6, v7, se_counts, fr_counts, fr_answered, fr_strongest, fr_secondStrength, tg_silent => pX4_run_42B v4 tg_size tg_numbers tg_strengths ru (pX4_run_42 v4 tg_size tg_numbers tg_strengths ru n) v5 v6 v7 se_counts fr_counts fr_answered fr_strongest fr_secondStrength tg_silent
def pX4_run_27 (v4 : Int32) (tg_size : Int32) (tg_numbers : Nat → Int32) (tg_strengths : Nat → Int32) (ru : Nat → Int32) (se_counts : Nat → Int32) (fr_counts : Nat → Int32) (fr_answered : Nat → Int32) (fr_strongest : Nat → Int32) (fr_secondStrength : Nat → Int32) (tg_silent : Nat → Int32) : Option (Int32 × (Nat → Int32) × (Nat → Int32) × (Nat → Int32) × (Nat → Int32) × (Nat → Int32) × (Nat → Int32)) := px_b (pX4_bounded (ru (Int32.toNatClampNeg (0 : Int32))) ru) (fun o_2 => pX4_run_42 v4 tg_size tg_numbers tg_strengths ru px_FU o_2 (0 : Int32) (0 : Int32) se_counts fr_counts fr_answered fr_strongest fr_secondStrength tg_silent)
def pX4_run_3B (v4 : Int32) (tg_size : Int32) (tg_numbers : Nat → Int32) (tg_strengths : Nat → Int32) (ru : Nat → Int32) (K_3 : Int32 → (Nat → Int32) → (Nat → Int32) → (Nat → Int32) → (Nat → Int32) → (Nat → Int32) → (Nat → Int32) → Option (Int32 × (Nat → Int32) × (Nat → Int32) × (Nat → Int32) × (Nat → Int32) × (Nat → Int32) × (Nat → Int32))) (v5 : Int32) (se_counts : Nat → Int32) (fr_counts : Nat → Int32) (fr_answered : Nat → Int32) (fr_strongest : Nat → Int32) (fr_secondStrength : Nat → Int32) (tg_silent : Nat → Int32) : Option (Int32 × (Nat → Int32) × (Nat → Int32) × (Nat → Int32) × (Nat → Int32) × (Nat → Int32) × (Nat → Int32)) := (if (4 : Int32) ≤ v5 then pX4_run_27 v4 tg_size tg_numbers tg_strengths ru se_counts fr_counts fr_answered fr_strongest fr_secondStrength tg_silent else px_i v5 4 (K_3 (v5 + (1 : Int32)) (upd se_counts (Int32.toNatClampNeg v5) (0 : Int32)) fr_counts fr_answered fr_strongest fr_secondStrength tg_silent))
def pX4_run_3 (v4 : Int32) (tg_size : Int32) (tg_numbers : Nat → Int32) (tg_strengths : Nat → Int32) (ru : Nat → Int32) : Nat → Int32 → (Nat → Int32) → (Nat → Int32) → (Nat → Int32) → (Nat → Int32) → (Nat → Int32) → (Nat → Int32) → Option (Int32 × (Nat → Int32) × (Nat → Int32) × (Nat → Int32) × (Nat → Int32) × (Nat → Int32) × (Nat → Int32))
  | 0, _, _, _, _, _, _, _ => none
  | n + 1, v5, se_counts, fr_counts, fr_answered, fr_strongest, fr_secondStrength, tg_silent => pX4_run_3B v4 tg_size tg_numbers tg_strengths ru (pX4_run_3 v4 tg_size tg_numbers tg_strengths ru n) v5 se_counts fr_counts fr_answered fr_strongest fr_secondStrength tg_silent
def pX4_run (v4 : Int32) (tg_size : Int32) (tg_numbers : Nat → Int32) (tg_strengths : Nat → Int32) (ru : Nat → Int32) (se_counts : Nat → Int32) (fr_counts : Nat → Int32) (fr_answered : Nat → Int32) (fr_strongest : Nat → Int32) (fr_secondStrength : Nat → Int32) (tg_silent : Nat → Int32) : Option (Int32 × (Nat → Int32) × (Nat → Int32) × (Nat → Int32) × (Nat → Int32) × (Nat → Int32) × (Nat → Int32)) := pX4_run_3 v4 tg_size tg_numbers tg_strengths ru px_FU (0 : Int32) se_counts fr_counts fr_answered fr_strongest fr_secondStrength tg_silent
abbrev wdX4_run (cyI cyZ cyJ cyB cyO : ClassId) (h_se a_se_counts h_fr a_fr_counts a_fr_answered a_fr_strongest a_fr_secondStrength h_tg a_tg_numbers a_tg_strengths a_tg_silent a_ru : Nat) (se_counts : Nat → Int32) (fr_counts : Nat → Int32) (fr_answered : Nat → Int32) (fr_strongest : Nat → Int32) (fr_secondStrength : Nat → Int32) (tg_size : Int32) (tg_numbers : Nat → Int32) (tg_strengths : Nat → Int32) (tg_silent : Nat → Int32) (ru : Nat → Int32) : va_W := [(h_se, .inr (4, [.ref a_se_counts])), (a_se_counts, .inl (cyI, 4, .inl se_counts)), (h_fr, .inr (1, [.ref a_fr_counts, .ref a_fr_answered, .ref a_fr_strongest, .ref a_fr_secondStrength])), (a_fr_counts, .inl (cyI, 5, .inl fr_counts)), (a_fr_answered, .inl (cyI, 64, .inl fr_answered)), (a_fr_strongest, .inl (cyI, 64, .inl fr_strongest)), (a_fr_secondStrength, .inl (cyI, 64, .inl fr_secondStrength)), (h_tg, .inr (6, [.ref a_tg_numbers, .ref a_tg_strengths, .ref a_tg_silent, .int tg_size])), (a_tg_numbers, .inl (cyI, 16, .inl tg_numbers)), (a_tg_strengths, .inl (cyI, 16, .inl tg_strengths)), (a_tg_silent, .inl (cyZ, 16, .inl tg_silent)), (a_ru, .inl (cyI, 9, .inl ru))]
/-! TagReader$Frame.wasHeld()Z -/
theorem hvX1_wasHeld : yX1_wasHeld.cls = RX1 ∧ yX1_wasHeld.cls ≠ "java/lang/invoke/MethodHandle" ∧ yX1_wasHeld.cls ≠ "java/lang/invoke/VarHandle" ∧ (parseMethodDescriptor yX1_wasHeld.desc).map (fun d => d.parameters.length) = some 0 := by decide +kernel
theorem fX1_wasHeld_X1 : ∀ w ∈ u_ws RX1 TX1 4, w ∈ wsX1_wasHeld := fun _ h => List.mem_cons_of_mem _ (List.mem_append_right _ h)
theorem kX1_wasHeld_1 : (.fieldLink RX1 9 "TagReader$Frame" "counts" "[I" : Cond) ∈ wsX1_wasHeld := List.mem_of_getElem? (i := 1) rfl
set_option maxHeartbeats 4000000 in
set_option maxRecDepth 100000 in
theorem ccX1_wasHeld (l : Launch) (dC : Nat → ClassId) (dI : Nat → Nat → Nat) (cyI cyZ cyJ cyB cyO : ClassId) (h_fr a_fr_counts a_fr_answered a_fr_strongest a_fr_secondStrength : Nat) (fr_counts : Nat → Int32) (fr_answered : Nat → Int32) (fr_strongest : Nat → Int32) (fr_secondStrength : Nat → Int32) (out : Int32) (hp : pX1_wasHeld fr_counts = some out) : Met l yX1_wasHeld wsX1_wasHeld ({ frames := 0, cells := 0, slots := 0, locals := 0 } : Room) (px_PR (dC, dI) (px_TY cyI cyZ cyJ cyB cyO) [.ref h_fr] (wdX1_wasHeld cyI cyZ cyJ cyB cyO h_fr a_fr_counts a_fr_answered a_fr_strongest a_fr_secondStrength fr_counts fr_answered fr_strongest fr_secondStrength)) (px_QR (.int out)) 0 0 (fun _ => False) := by
  refine Met.ofW (cc := cX1_wasHeld) (maxL := 1) (ret := (some .boolean)) (by decide) rfl ?_
  intro p e s m args below meth c s₁ B hml hv
  obtain ⟨rfl, hP, hK, hN⟩ := hv
  have hx := B.exec
  have hb := B.bytes
  have hr := B.returns
  have hts := atoms_spec (ws := wsX1_wasHeld) B.pre
  have hown : s.vm.findClass RX1 = some m.cls := findClass_of_methodNamed B.named
  have hlocks := B.notSynchronized
  have hQ : ∀ (pc : Nat) (ls : Array Slot), narrow .boolean (.int out) = .int out → decode cX1_wasHeld pc = .ok (.ireturn, 1) → W p l e ({ frames := 0, cells := 0, slots := 0, locals := 0 } : Room) s m (([.ref h_fr] : List Value).toArray) below meth c s.heap [] 0 0 (MQ below (px_QR (.int out)) (([.ref h_fr] : List Value).toArray) s 0 0 (fun _ => False)) (F0 m pc ls [.int out]) := fun pc ls hz hd => W.zret hx hb hr hz (fun t ht hW => ⟨rfl, ht⟩) (fun q h => by cases h) hd
  generalize MQ below (px_QR (.int out)) (([.ref h_fr] : List Value).toArray) s 0 0 (fun _ => False) = Q at hQ ⊢
  have hl := lv_entry [.ref h_fr] (n := 1) (Nat.le_of_ble_eq_true rfl)
  rw [lg_entry_eq]
  generalize (lg_sl [.ref h_fr] ++ List.replicate (1 - (lg_sl [.ref h_fr]).length) Slot.unset).toArray = ls at hl ⊢
  have hl : lv_has ls 1 [(0, .ref h_fr)] := hl
  unfold pX1_wasHeld at hp
  refine lv_aload_n hx hb dX1_wasHeld_0 rfl (lv_at hl 0 rfl) ?_
  refine va_get (D := (dC, dI)) (ci := 1) (v := .ref a_fr_counts) (C := RX1) (T := TX1) (N := 4) hx hb hts fX1_wasHeld_X1 hown hK hP 0 rfl rfl 0 (by decide) (hts _ kX1_wasHeld_1) (fun _ h9 => h9) rfl dX1_wasHeld_1 ?_
  refine lv_iconst (v := (0 : Int32)) hx hb dX1_wasHeld_4 (by decide) ?_
  refine va_iald (D := (dC, dI)) hx hb hK hP 1 0 rfl rfl (px_in0_5) dX1_wasHeld_5 ?_
  refine lv_if_le (tgt := 13) hx hb dX1_wasHeld_6 (by decide) (fun c_1 => ?_) (fun c_1 => ?_)
  · have hp := px_t hp c_1
    refine lv_iconst (v := (0 : Int32)) hx hb dX1_wasHeld_13 (by decide) ?_
    have ho := px_s hp
    subst ho
    exact hQ _ _ narrow_b0 dX1_wasHeld_14
  · have hp := px_f hp c_1
    refine lv_iconst (v := (1 : Int32)) hx hb dX1_wasHeld_9 (by decide) ?_
    refine lv_goto (tgt := 14) hx hb dX1_wasHeld_10 (by decide) ?_
    have ho := px_s hp
    subst ho
    exact hQ _ _ narrow_b1 dX1_wasHeld_14
/-! TagReader$Frame.clear(I)V -/
theorem hvX1_clear : yX1_clear.cls = RX1 ∧ yX1_clear.cls ≠ "java/lang/invoke/MethodHandle" ∧ yX1_clear.cls ≠ "java/lang/invoke/VarHandle" ∧ (parseMethodDescriptor yX1_clear.desc).map (fun d => d.parameters.length) = some 1 := by decide +kernel
theorem fX1_clear_X1 : ∀ w ∈ u_ws RX1 TX1 4, w ∈ wsX1_clear := fun _ h => List.mem_cons_of_mem _ (List.mem_append_right _ h)
theorem kX1_clear_1 : (.fieldLink RX1 9 "TagReader$Frame" "counts" "[I" : Cond) ∈ wsX1_clear := List.mem_of_getElem? (i := 1) rfl
theorem kX1_clear_2 : (.fieldLink RX1 15 "TagReader$Frame" "answered" "[I" : Cond) ∈ wsX1_clear := List.mem_of_getElem? (i := 2) rfl
theorem kX1_clear_3 : (.fieldLink RX1 18 "TagReader$Frame" "strongest" "[I" : Cond) ∈ wsX1_clear := List.mem_of_getElem? (i := 3) rfl
theorem kX1_clear_4 : (.fieldLink RX1 21 "TagReader$Frame" "secondStrength" "[I" : Cond) ∈ wsX1_clear := List.mem_of_getElem? (i := 4) rfl
set_option maxHeartbeats 4000000 in
set_option maxRecDepth 100000 in
theorem lcX1_clear_33B {p : Program} {l : Launch} {e : Env} {s : State} {m : MethodId} {args : Array Value} {below : List Frame} {meth : Method} {c : Code} {Q : State → Prop} {A : Nat → Prop} (dC : Nat → ClassId) (dI : Nat → Nat → Nat) (cyI cyZ cyJ cyB cyO : ClassId) (h_fr a_fr_counts a_fr_answered a_fr_strongest a_fr_secondStrength : Nat) (fr_counts : Nat → Int32) (fr_answered : Nat → Int32) (fr_strongest : Nat → Int32) (fr_secondStrength : Nat → Int32) (v1 : Int32) (out : (Nat → Int32) × (Nat → Int32) × (Nat → Int32) × (Nat → Int32)) (hx : p.tables.exec = Jvm.exec) (hb : c.code = cX1_clear) (hml : c.maxLocals = 3) (hts : ∀ w ∈ wsX1_clear, w.before args s = true) (hown : s.vm.findClass RX1 = some m.cls) (hK : va_K (dC, dI) vwCl (px_TY cyI cyZ cyJ cyB cyO) s) (hN : px_NW s) (hA : ∀ q : Nat, s.heap.size ≤ q → A q) (hQ : ∀ (H : Heap) (locs : List Loc) (pc : Nat) (ls : Array Slot), va_P (dC, dI) vwCl (wdX1_clear cyI cyZ cyJ cyB cyO h_fr a_fr_counts a_fr_answered a_fr_strongest a_fr_secondStrength out.1 out.2.1 out.2.2.1 out.2.2.2) H → va_D A (wdX1_clear cyI cyZ cyJ cyB cyO h_fr a_fr_counts a_fr_answered a_fr_strongest a_fr_secondStrength out.1 out.2.1 out.2.2.1 out.2.2.2) → va_S A s.heap H locs → decode cX1_clear pc = .ok (.return_, 1) → W p l e ({ frames := 0, cells := 0, slots := 0, locals := 0 } : Room) s m args below meth c H locs 0 0 Q (F0 m pc ls []))  (K_33 : Int32 → (Nat → Int32) → (Nat → Int32) → (Nat → Int32) → (Nat → Int32) → Option ((Nat → Int32) × (Nat → Int32) × (Nat → Int32) × (Nat → Int32))) (hK_33 : ∀ (v2 : Int32) (fr_counts : Nat → Int32) (fr_answered : Nat → Int32) (fr_strongest : Nat → Int32) (fr_secondStrength : Nat → Int32) (H : Heap) (locs : List Loc) (ls : Array Slot), K_33 v2 fr_counts fr_answered fr_strongest fr_secondStrength = some out → va_P (dC, dI) vwCl (wdX1_clear cyI cyZ cyJ cyB cyO h_fr a_fr_counts a_fr_answered a_fr_strongest a_fr_secondStrength fr_counts fr_answered fr_strongest fr_secondStrength) H → va_D A (wdX1_clear cyI cyZ cyJ cyB cyO h_fr a_fr_counts a_fr_answered a_fr_strongest a_fr_secondStrength fr_counts fr_answered fr_strongest fr_secondStrength) → va_S A s.heap H locs → lv_has ls 3 [(0, .ref h_fr), (1, .int v1), (2, .int v2)] → W p l e ({ frames := 0, cells := 0, slots := 0, locals := 0 } : Room) s m args below meth c H locs 0 0 Q (F0 m 33 ls [])) : ∀ (v2 : Int32) (fr_counts : Nat → Int32) (fr_answered : Nat → Int32) (fr_strongest : Nat → Int32) (fr_secondStrength : Nat → Int32) (H : Heap) (locs : List Loc) (ls : Array Slot), pX1_clear_33B v1 K_33 v2 fr_counts fr_answered fr_strongest fr_secondStrength = some out → va_P (dC, dI) vwCl (wdX1_clear cyI cyZ cyJ cyB cyO h_fr a_fr_counts a_fr_answered a_fr_strongest a_fr_secondStrength fr_counts fr_answered fr_strongest fr_secondStrength) H → va_D A (wdX1_clear cyI cyZ cyJ cyB cyO h_fr a_fr_counts a_fr_answered a_fr_strongest a_fr_secondStrength fr_counts fr_answered fr_strongest fr_secondStrength) → va_S A s.heap H locs → lv_has ls 3 [(0, .ref h_fr), (1, .int v1), (2, .int v2)] → W p l e ({ frames := 0, cells := 0, slots := 0, locals := 0 } : Room) s m args below meth c H locs 0 0 Q (F0 m 33 ls []) := by
  intro v2 fr_counts fr_answered fr_strongest fr_secondStrength H locs ls hp hP hD hS hl
  unfold pX1_clear_33B at hp
  refine lv_iload_n hx hb dX1_clear_33 rfl (lv_at hl 2 rfl) ?_
  refine lv_iload_n hx hb dX1_clear_34 rfl (lv_at hl 1 rfl) ?_
  refine lv_icmp_ge (tgt := 65) hx hb dX1_clear_35 (by decide) (fun c_2 => ?_) (fun c_2 => ?_)
  · have hp := px_t hp c_2
    have ho := px_s hp
    subst ho
    exact hQ _ _ _ _ hP hD hS dX1_clear_65
  · have hp := px_f hp c_2
    refine lv_aload_n hx hb dX1_clear_38 rfl (lv_at hl 0 rfl) ?_
    refine va_get (D := (dC, dI)) (ci := 1) (v := .ref a_fr_answered) (C := RX1) (T := TX1) (N := 4) hx hb hts fX1_clear_X1 hown hK hP 0 rfl rfl 1 (by decide) (hts _ kX1_clear_2) (fun _ h9 => h9) rfl dX1_clear_39 ?_
    refine lv_iload_n hx hb dX1_clear_42 rfl (lv_at hl 2 rfl) ?_
    refine lv_iconst (v := (0 : Int32)) hx hb dX1_clear_43 (by decide) ?_
    obtain ⟨g_3, hp⟩ := px_i_at hp
    refine va_iast (D := (dC, dI)) hx hb hK hP hD hS 2 0 rfl rfl g_3 dX1_clear_44 (fun H locs hP hD hS => ?_)
    have hP : va_P (dC, dI) vwCl (wdX1_clear cyI cyZ cyJ cyB cyO h_fr a_fr_counts a_fr_answered a_fr_strongest a_fr_secondStrength fr_counts (upd fr_answered (Int32.toNatClampNeg v2) (0 : Int32)) fr_strongest fr_secondStrength) H := hP
    have hD : va_D A (wdX1_clear cyI cyZ cyJ cyB cyO h_fr a_fr_counts a_fr_answered a_fr_strongest a_fr_secondStrength fr_counts (upd fr_answered (Int32.toNatClampNeg v2) (0 : Int32)) fr_strongest fr_secondStrength) := hD
    refine lv_aload_n hx hb dX1_clear_45 rfl (lv_at hl 0 rfl) ?_
    refine va_get (D := (dC, dI)) (ci := 1) (v := .ref a_fr_strongest) (C := RX1) (T := TX1) (N := 4) hx hb hts fX1_clear_X1 hown hK hP 0 rfl rfl 2 (by decide) (hts _ kX1_clear_3) (fun _ h9 => h9) rfl dX1_clear_46 ?_
    refine lv_iload_n hx hb dX1_clear_49 rfl (lv_at hl 2 rfl) ?_
    refine lv_iconst (v := (0 : Int32)) hx hb dX1_clear_50 (by decide) ?_
    obtain ⟨g_4, hp⟩ := px_i_at hp
    refine va_iast (D := (dC, dI)) hx hb hK hP hD hS 3 0 rfl rfl g_4 dX1_clear_51 (fun H locs hP hD hS => ?_)
    have hP : va_P (dC, dI) vwCl (wdX1_clear cyI cyZ cyJ cyB cyO h_fr a_fr_counts a_fr_answered a_fr_strongest a_fr_secondStrength fr_counts (upd fr_answered (Int32.toNatClampNeg v2) (0 : Int32)) (upd fr_strongest (Int32.toNatClampNeg v2) (0 : Int32)) fr_secondStrength) H := hP
    have hD : va_D A (wdX1_clear cyI cyZ cyJ cyB cyO h_fr a_fr_counts a_fr_answered a_fr_strongest a_fr_secondStrength fr_counts (upd fr_answered (Int32.toNatClampNeg v2) (0 : Int32)) (upd fr_strongest (Int32.toNatClampNeg v2) (0 : Int32)) fr_secondStrength) := hD
    refine lv_aload_n hx hb dX1_clear_52 rfl (lv_at hl 0 rfl) ?_
    refine va_get (D := (dC, dI)) (ci := 1) (v := .ref a_fr_secondStrength) (C := RX1) (T := TX1) (N := 4) hx hb hts fX1_clear_X1 hown hK hP 0 rfl rfl 3 (by decide) (hts _ kX1_clear_4) (fun _ h9 => h9) rfl dX1_clear_53 ?_
    refine lv_iload_n hx hb dX1_clear_56 rfl (lv_at hl 2 rfl) ?_
    refine lv_iconst (v := (0 : Int32)) hx hb dX1_clear_57 (by decide) ?_
    obtain ⟨g_5, hp⟩ := px_i_at hp
    refine va_iast (D := (dC, dI)) hx hb hK hP hD hS 4 0 rfl rfl g_5 dX1_clear_58 (fun H locs hP hD hS => ?_)
    have hP : va_P (dC, dI) vwCl (wdX1_clear cyI cyZ cyJ cyB cyO h_fr a_fr_counts a_fr_answered a_fr_strongest a_fr_secondStrength fr_counts (upd fr_answered (Int32.toNatClampNeg v2) (0 : Int32)) (upd fr_strongest (Int32.toNatClampNeg v2) (0 : Int32)) (upd fr_secondStrength (Int32.toNatClampNeg v2) (0 : Int32))) H := hP
    have hD : va_D A (wdX1_clear cyI cyZ cyJ cyB cyO h_fr a_fr_counts a_fr_answered a_fr_strongest a_fr_secondStrength fr_counts (upd fr_answered (Int32.toNatClampNeg v2) (0 : Int32)) (upd fr_strongest (Int32.toNatClampNeg v2) (0 : Int32)) (upd fr_secondStrength (Int32.toNatClampNeg v2) (0 : Int32))) := hD
    refine lv_iinc (v := (v2 + (1 : Int32))) (lv' := [(2, .int (v2 + (1 : Int32))), (0, .ref h_fr), (1, .int v1)]) hx hb dX1_clear_59 hl (k := 2) rfl rfl (by decide) rfl (fun ls hl => ?_)
    refine lv_goto (tgt := 33) hx hb dX1_clear_62 (by decide) ?_
    exact hK_33 (v2 + (1 : Int32)) fr_counts (upd fr_answered (Int32.toNatClampNeg v2) (0 : Int32)) (upd fr_strongest (Int32.toNatClampNeg v2) (0 : Int32)) (upd fr_secondStrength (Int32.toNatClampNeg v2) (0 : Int32)) _ _ ls hp hP hD hS (lv_sub hl [1, 2, 0] rfl)
theorem lcX1_clear_33 {p : Program} {l : Launch} {e : Env} {s : State} {m : MethodId} {args : Array Value} {below : List Frame} {meth : Method} {c : Code} {Q : State → Prop} {A : Nat → Prop} (dC : Nat → ClassId) (dI : Nat → Nat → Nat) (cyI cyZ cyJ cyB cyO : ClassId) (h_fr a_fr_counts a_fr_answered a_fr_strongest a_fr_secondStrength : Nat) (fr_counts : Nat → Int32) (fr_answered : Nat → Int32) (fr_strongest : Nat → Int32) (fr_secondStrength : Nat → Int32) (v1 : Int32) (out : (Nat → Int32) × (Nat → Int32) × (Nat → Int32) × (Nat → Int32)) (hx : p.tables.exec = Jvm.exec) (hb : c.code = cX1_clear) (hml : c.maxLocals = 3) (hts : ∀ w ∈ wsX1_clear, w.before args s = true) (hown : s.vm.findClass RX1 = some m.cls) (hK : va_K (dC, dI) vwCl (px_TY cyI cyZ cyJ cyB cyO) s) (hN : px_NW s) (hA : ∀ q : Nat, s.heap.size ≤ q → A q) (hQ : ∀ (H : Heap) (locs : List Loc) (pc : Nat) (ls : Array Slot), va_P (dC, dI) vwCl (wdX1_clear cyI cyZ cyJ cyB cyO h_fr a_fr_counts a_fr_answered a_fr_strongest a_fr_secondStrength out.1 out.2.1 out.2.2.1 out.2.2.2) H → va_D A (wdX1_clear cyI cyZ cyJ cyB cyO h_fr a_fr_counts a_fr_answered a_fr_strongest a_fr_secondStrength out.1 out.2.1 out.2.2.1 out.2.2.2) → va_S A s.heap H locs → decode cX1_clear pc = .ok (.return_, 1) → W p l e ({ frames := 0, cells := 0, slots := 0, locals := 0 } : Room) s m args below meth c H locs 0 0 Q (F0 m pc ls []))  : ∀ n : Nat, ∀ (v2 : Int32) (fr_counts : Nat → Int32) (fr_answered : Nat → Int32) (fr_strongest : Nat → Int32) (fr_secondStrength : Nat → Int32) (H : Heap) (locs : List Loc) (ls : Array Slot), pX1_clear_33 v1 n v2 fr_counts fr_answered fr_strongest fr_secondStrength = some out → va_P (dC, dI) vwCl (wdX1_clear cyI cyZ cyJ cyB cyO h_fr a_fr_counts a_fr_answered a_fr_strongest a_fr_secondStrength fr_counts fr_answered fr_strongest fr_secondStrength) H → va_D A (wdX1_clear cyI cyZ cyJ cyB cyO h_fr a_fr_counts a_fr_answered a_fr_strongest a_fr_secondStrength fr_counts fr_answered fr_strongest fr_secondStrength) → va_S A s.heap H locs → lv_has ls 3 [(0, .ref h_fr), (1, .int v1), (2, .int v2)] → W p l e ({ frames := 0, cells := 0, slots := 0, locals := 0 } : Room) s m args below meth c H locs 0 0 Q (F0 m 33 ls []) := by
  intro n
  induction n with
  | zero =>
    intro v2 fr_counts fr_answered fr_strongest fr_secondStrength H locs ls hp hP hD hS hl
    exact nomatch hp
  | succ n ih => exact lcX1_clear_33B dC dI cyI cyZ cyJ cyB cyO h_fr a_fr_counts a_fr_answered a_fr_strongest a_fr_secondStrength fr_counts fr_answered fr_strongest fr_secondStrength v1 out hx hb hml hts hown hK hN hA hQ (pX1_clear_33 v1 n) ih
set_option maxHeartbeats 4000000 in
set_option maxRecDepth 100000 in
theorem lcX1_clear_24 {p : Program} {l : Launch} {e : Env} {s : State} {m : MethodId} {args : Array Value} {below : List Frame} {meth : Method} {c : Code} {Q : State → Prop} {A : Nat → Prop} (dC : Nat → ClassId) (dI : Nat → Nat → Nat) (cyI cyZ cyJ cyB cyO : ClassId) (h_fr a_fr_counts a_fr_answered a_fr_strongest a_fr_secondStrength : Nat) (fr_counts : Nat → Int32) (fr_answered : Nat → Int32) (fr_strongest : Nat → Int32) (fr_secondStrength : Nat → Int32) (v1 : Int32) (out : (Nat → Int32) × (Nat → Int32) × (Nat → Int32) × (Nat → Int32)) (hx : p.tables.exec = Jvm.exec) (hb : c.code = cX1_clear) (hml : c.maxLocals = 3) (hts : ∀ w ∈ wsX1_clear, w.before args s = true) (hown : s.vm.findClass RX1 = some m.cls) (hK : va_K (dC, dI) vwCl (px_TY cyI cyZ cyJ cyB cyO) s) (hN : px_NW s) (hA : ∀ q : Nat, s.heap.size ≤ q → A q) (hQ : ∀ (H : Heap) (locs : List Loc) (pc : Nat) (ls : Array Slot), va_P (dC, dI) vwCl (wdX1_clear cyI cyZ cyJ cyB cyO h_fr a_fr_counts a_fr_answered a_fr_strongest a_fr_secondStrength out.1 out.2.1 out.2.2.1 out.2.2.2) H → va_D A (wdX1_clear cyI cyZ cyJ cyB cyO h_fr a_fr_counts a_fr_answered a_fr_strongest a_fr_secondStrength out.1 out.2.1 out.2.2.1 out.2.2.2) → va_S A s.heap H locs → decode cX1_clear pc = .ok (.return_, 1) → W p l e ({ frames := 0, cells := 0, slots := 0, locals := 0 } : Room) s m args below meth c H locs 0 0 Q (F0 m pc ls []))  : ∀ (fr_counts : Nat → Int32) (fr_answered : Nat → Int32) (fr_strongest : Nat → Int32) (fr_secondStrength : Nat → Int32) (H : Heap) (locs : List Loc) (ls : Array Slot), pX1_clear_24 v1 fr_counts fr_answered fr_strongest fr_secondStrength = some out → va_P (dC, dI) vwCl (wdX1_clear cyI cyZ cyJ cyB cyO h_fr a_fr_counts a_fr_answered a_fr_strongest a_fr_secondStrength fr_counts fr_answered fr_strongest fr_secondStrength) H → va_D A (wdX1_clear cyI cyZ cyJ cyB cyO h_fr a_fr_counts a_fr_answered a_fr_strongest a_fr_secondStrength fr_counts fr_answered fr_strongest fr_secondStrength) → va_S A s.heap H locs → lv_has ls 3 [(0, .ref h_fr), (1, .int v1)] → W p l e ({ frames := 0, cells := 0, slots := 0, locals := 0 } : Room) s m args below meth c H locs 0 0 Q (F0 m 24 ls []) := by
  intro fr_counts fr_answered fr_strongest fr_secondStrength H locs ls hp hP hD hS hl
  unfold pX1_clear_24 at hp
  refine lv_aload_n hx hb dX1_clear_24 rfl (lv_at hl 0 rfl) ?_
  refine va_get (D := (dC, dI)) (ci := 1) (v := .ref a_fr_counts) (C := RX1) (T := TX1) (N := 4) hx hb hts fX1_clear_X1 hown hK hP 0 rfl rfl 0 (by decide) (hts _ kX1_clear_1) (fun _ h9 => h9) rfl dX1_clear_25 ?_
  refine lv_iconst (v := (0 : Int32)) hx hb dX1_clear_28 (by decide) ?_
  refine lv_iload_n hx hb dX1_clear_29 rfl (lv_at hl 1 rfl) ?_
  refine va_iast (D := (dC, dI)) hx hb hK hP hD hS 1 0 rfl rfl (px_in0_5) dX1_clear_30 (fun H locs hP hD hS => ?_)
  have hP : va_P (dC, dI) vwCl (wdX1_clear cyI cyZ cyJ cyB cyO h_fr a_fr_counts a_fr_answered a_fr_strongest a_fr_secondStrength (upd fr_counts (Int32.toNatClampNeg (0 : Int32)) v1) fr_answered fr_strongest fr_secondStrength) H := hP
  have hD : va_D A (wdX1_clear cyI cyZ cyJ cyB cyO h_fr a_fr_counts a_fr_answered a_fr_strongest a_fr_secondStrength (upd fr_counts (Int32.toNatClampNeg (0 : Int32)) v1) fr_answered fr_strongest fr_secondStrength) := hD
  refine lv_iconst (v := (0 : Int32)) hx hb dX1_clear_31 (by decide) ?_
  refine lv_istore_n (lv' := [(2, .int (0 : Int32)), (0, .ref h_fr), (1, .int v1)]) hx hb dX1_clear_32 rfl hl (by decide) rfl (fun ls hl => ?_)
  exact lcX1_clear_33 dC dI cyI cyZ cyJ cyB cyO h_fr a_fr_counts a_fr_answered a_fr_strongest a_fr_secondStrength fr_counts fr_answered fr_strongest fr_secondStrength v1 out hx hb hml hts hown hK hN hA hQ px_FU (0 : Int32) (upd fr_counts (Int32.toNatClampNeg (0 : Int32)) v1) fr_answered fr_strongest fr_secondStrength _ _ ls hp hP hD hS (lv_sub hl [1, 2, 0] rfl)
set_option maxHeartbeats 4000000 in
set_option maxRecDepth 100000 in
theorem lcX1_clear_2B {p : Program} {l : Launch} {e : Env} {s : State} {m : MethodId} {args : Array Value} {below : List Frame} {meth : Method} {c : Code} {Q : State → Prop} {A : Nat → Prop} (dC : Nat → ClassId) (dI : Nat → Nat → Nat) (cyI cyZ cyJ cyB cyO : ClassId) (h_fr a_fr_counts a_fr_answered a_fr_strongest a_fr_secondStrength : Nat) (fr_counts : Nat → Int32) (fr_answered : Nat → Int32) (fr_strongest : Nat → Int32) (fr_secondStrength : Nat → Int32) (v1 : Int32) (out : (Nat → Int32) × (Nat → Int32) × (Nat → Int32) × (Nat → Int32)) (hx : p.tables.exec = Jvm.exec) (hb : c.code = cX1_clear) (hml : c.maxLocals = 3) (hts : ∀ w ∈ wsX1_clear, w.before args s = true) (hown : s.vm.findClass RX1 = some m.cls) (hK : va_K (dC, dI) vwCl (px_TY cyI cyZ cyJ cyB cyO) s) (hN : px_NW s) (hA : ∀ q : Nat, s.heap.size ≤ q → A q) (hQ : ∀ (H : Heap) (locs : List Loc) (pc : Nat) (ls : Array Slot), va_P (dC, dI) vwCl (wdX1_clear cyI cyZ cyJ cyB cyO h_fr a_fr_counts a_fr_answered a_fr_strongest a_fr_secondStrength out.1 out.2.1 out.2.2.1 out.2.2.2) H → va_D A (wdX1_clear cyI cyZ cyJ cyB cyO h_fr a_fr_counts a_fr_answered a_fr_strongest a_fr_secondStrength out.1 out.2.1 out.2.2.1 out.2.2.2) → va_S A s.heap H locs → decode cX1_clear pc = .ok (.return_, 1) → W p l e ({ frames := 0, cells := 0, slots := 0, locals := 0 } : Room) s m args below meth c H locs 0 0 Q (F0 m pc ls []))  (K_2 : Int32 → (Nat → Int32) → (Nat → Int32) → (Nat → Int32) → (Nat → Int32) → Option ((Nat → Int32) × (Nat → Int32) × (Nat → Int32) × (Nat → Int32))) (hK_2 : ∀ (v2 : Int32) (fr_counts : Nat → Int32) (fr_answered : Nat → Int32) (fr_strongest : Nat → Int32) (fr_secondStrength : Nat → Int32) (H : Heap) (locs : List Loc) (ls : Array Slot), K_2 v2 fr_counts fr_answered fr_strongest fr_secondStrength = some out → va_P (dC, dI) vwCl (wdX1_clear cyI cyZ cyJ cyB cyO h_fr a_fr_counts a_fr_answered a_fr_strongest a_fr_secondStrength fr_counts fr_answered fr_strongest fr_secondStrength) H → va_D A (wdX1_clear cyI cyZ cyJ cyB cyO h_fr a_fr_counts a_fr_answered a_fr_strongest a_fr_secondStrength fr_counts fr_answered fr_strongest fr_secondStrength) → va_S A s.heap H locs → lv_has ls 3 [(0, .ref h_fr), (1, .int v1), (2, .int v2)] → W p l e ({ frames := 0, cells := 0, slots := 0, locals := 0 } : Room) s m args below meth c H locs 0 0 Q (F0 m 2 ls [])) : ∀ (v2 : Int32) (fr_counts : Nat → Int32) (fr_answered : Nat → Int32) (fr_strongest : Nat → Int32) (fr_secondStrength : Nat → Int32) (H : Heap) (locs : List Loc) (ls : Array Slot), pX1_clear_2B v1 K_2 v2 fr_counts fr_answered fr_strongest fr_secondStrength = some out → va_P (dC, dI) vwCl (wdX1_clear cyI cyZ cyJ cyB cyO h_fr a_fr_counts a_fr_answered a_fr_strongest a_fr_secondStrength fr_counts fr_answered fr_strongest fr_secondStrength) H → va_D A (wdX1_clear cyI cyZ cyJ cyB cyO h_fr a_fr_counts a_fr_answered a_fr_strongest a_fr_secondStrength fr_counts fr_answered fr_strongest fr_secondStrength) → va_S A s.heap H locs → lv_has ls 3 [(0, .ref h_fr), (1, .int v1), (2, .int v2)] → W p l e ({ frames := 0, cells := 0, slots := 0, locals := 0 } : Room) s m args below meth c H locs 0 0 Q (F0 m 2 ls []) := by
  intro v2 fr_counts fr_answered fr_strongest fr_secondStrength H locs ls hp hP hD hS hl
  unfold pX1_clear_2B at hp
  refine lv_iload_n hx hb dX1_clear_2 rfl (lv_at hl 2 rfl) ?_
  refine lv_aload_n hx hb dX1_clear_3 rfl (lv_at hl 0 rfl) ?_
  refine va_get (D := (dC, dI)) (ci := 1) (v := .ref a_fr_counts) (C := RX1) (T := TX1) (N := 4) hx hb hts fX1_clear_X1 hown hK hP 0 rfl rfl 0 (by decide) (hts _ kX1_clear_1) (fun _ h9 => h9) rfl dX1_clear_4 ?_
  refine va_alen (D := (dC, dI)) (v := (5 : Int32)) hx hb hK hP 1 0 rfl rfl rfl dX1_clear_7 ?_
  refine lv_icmp_ge (tgt := 24) hx hb dX1_clear_8 (by decide) (fun c_1 => ?_) (fun c_1 => ?_)
  · have hp := px_t hp c_1
    exact lcX1_clear_24 dC dI cyI cyZ cyJ cyB cyO h_fr a_fr_counts a_fr_answered a_fr_strongest a_fr_secondStrength fr_counts fr_answered fr_strongest fr_secondStrength v1 out hx hb hml hts hown hK hN hA hQ fr_counts fr_answered fr_strongest fr_secondStrength _ _ ls hp hP hD hS (lv_sub hl [0, 1] rfl)
  · have hp := px_f hp c_1
    refine lv_aload_n hx hb dX1_clear_11 rfl (lv_at hl 0 rfl) ?_
    refine va_get (D := (dC, dI)) (ci := 1) (v := .ref a_fr_counts) (C := RX1) (T := TX1) (N := 4) hx hb hts fX1_clear_X1 hown hK hP 0 rfl rfl 0 (by decide) (hts _ kX1_clear_1) (fun _ h9 => h9) rfl dX1_clear_12 ?_
    refine lv_iload_n hx hb dX1_clear_15 rfl (lv_at hl 2 rfl) ?_
    refine lv_iconst (v := (0 : Int32)) hx hb dX1_clear_16 (by decide) ?_
    obtain ⟨g_6, hp⟩ := px_i_at hp
    refine va_iast (D := (dC, dI)) hx hb hK hP hD hS 1 0 rfl rfl g_6 dX1_clear_17 (fun H locs hP hD hS => ?_)
    have hP : va_P (dC, dI) vwCl (wdX1_clear cyI cyZ cyJ cyB cyO h_fr a_fr_counts a_fr_answered a_fr_strongest a_fr_secondStrength (upd fr_counts (Int32.toNatClampNeg v2) (0 : Int32)) fr_answered fr_strongest fr_secondStrength) H := hP
    have hD : va_D A (wdX1_clear cyI cyZ cyJ cyB cyO h_fr a_fr_counts a_fr_answered a_fr_strongest a_fr_secondStrength (upd fr_counts (Int32.toNatClampNeg v2) (0 : Int32)) fr_answered fr_strongest fr_secondStrength) := hD
    refine lv_iinc (v := (v2 + (1 : Int32))) (lv' := [(2, .int (v2 + (1 : Int32))), (0, .ref h_fr), (1, .int v1)]) hx hb dX1_clear_18 hl (k := 2) rfl rfl (by decide) rfl (fun ls hl => ?_)
    refine lv_goto (tgt := 2) hx hb dX1_clear_21 (by decide) ?_
    exact hK_2 (v2 + (1 : Int32)) (upd fr_counts (Int32.toNatClampNeg v2) (0 : Int32)) fr_answered fr_strongest fr_secondStrength _ _ ls hp hP hD hS (lv_sub hl [1, 2, 0] rfl)
theorem lcX1_clear_2 {p : Program} {l : Launch} {e : Env} {s : State} {m : MethodId} {args : Array Value} {below : List Frame} {meth : Method} {c : Code} {Q : State → Prop} {A : Nat → Prop} (dC : Nat → ClassId) (dI : Nat → Nat → Nat) (cyI cyZ cyJ cyB cyO : ClassId) (h_fr a_fr_counts a_fr_answered a_fr_strongest a_fr_secondStrength : Nat) (fr_counts : Nat → Int32) (fr_answered : Nat → Int32) (fr_strongest : Nat → Int32) (fr_secondStrength : Nat → Int32) (v1 : Int32) (out : (Nat → Int32) × (Nat → Int32) × (Nat → Int32) × (Nat → Int32)) (hx : p.tables.exec = Jvm.exec) (hb : c.code = cX1_clear) (hml : c.maxLocals = 3) (hts : ∀ w ∈ wsX1_clear, w.before args s = true) (hown : s.vm.findClass RX1 = some m.cls) (hK : va_K (dC, dI) vwCl (px_TY cyI cyZ cyJ cyB cyO) s) (hN : px_NW s) (hA : ∀ q : Nat, s.heap.size ≤ q → A q) (hQ : ∀ (H : Heap) (locs : List Loc) (pc : Nat) (ls : Array Slot), va_P (dC, dI) vwCl (wdX1_clear cyI cyZ cyJ cyB cyO h_fr a_fr_counts a_fr_answered a_fr_strongest a_fr_secondStrength out.1 out.2.1 out.2.2.1 out.2.2.2) H → va_D A (wdX1_clear cyI cyZ cyJ cyB cyO h_fr a_fr_counts a_fr_answered a_fr_strongest a_fr_secondStrength out.1 out.2.1 out.2.2.1 out.2.2.2) → va_S A s.heap H locs → decode cX1_clear pc = .ok (.return_, 1) → W p l e ({ frames := 0, cells := 0, slots := 0, locals := 0 } : Room) s m args below meth c H locs 0 0 Q (F0 m pc ls []))  : ∀ n : Nat, ∀ (v2 : Int32) (fr_counts : Nat → Int32) (fr_answered : Nat → Int32) (fr_strongest : Nat → Int32) (fr_secondStrength : Nat → Int32) (H : Heap) (locs : List Loc) (ls : Array Slot), pX1_clear_2 v1 n v2 fr_counts fr_answered fr_strongest fr_secondStrength = some out → va_P (dC, dI) vwCl (wdX1_clear cyI cyZ cyJ cyB cyO h_fr a_fr_counts a_fr_answered a_fr_strongest a_fr_secondStrength fr_counts fr_answered fr_strongest fr_secondStrength) H → va_D A (wdX1_clear cyI cyZ cyJ cyB cyO h_fr a_fr_counts a_fr_answered a_fr_strongest a_fr_secondStrength fr_counts fr_answered fr_strongest fr_secondStrength) → va_S A s.heap H locs → lv_has ls 3 [(0, .ref h_fr), (1, .int v1), (2, .int v2)] → W p l e ({ frames := 0, cells := 0, slots := 0, locals := 0 } : Room) s m args below meth c H locs 0 0 Q (F0 m 2 ls []) := by
  intro n
  induction n with
  | zero =>
    intro v2 fr_counts fr_answered fr_strongest fr_secondStrength H locs ls hp hP hD hS hl
    exact nomatch hp
  | succ n ih => exact lcX1_clear_2B dC dI cyI cyZ cyJ cyB cyO h_fr a_fr_counts a_fr_answered a_fr_strongest a_fr_secondStrength fr_counts fr_answered fr_strongest fr_secondStrength v1 out hx hb hml hts hown hK hN hA hQ (pX1_clear_2 v1 n) ih
set_option maxHeartbeats 4000000 in
set_option maxRecDepth 100000 in
theorem ccX1_clear (l : Launch) (dC : Nat → ClassId) (dI : Nat → Nat → Nat) (cyI cyZ cyJ cyB cyO : ClassId) (sz : Nat) (h_fr a_fr_counts a_fr_answered a_fr_strongest a_fr_secondStrength : Nat) (fr_counts : Nat → Int32) (fr_answered : Nat → Int32) (fr_strongest : Nat → Int32) (fr_secondStrength : Nat → Int32) (v1 : Int32) (out : (Nat → Int32) × (Nat → Int32) × (Nat → Int32) × (Nat → Int32)) (hp : pX1_clear v1 fr_counts fr_answered fr_strongest fr_secondStrength = some out) : Met l yX1_clear wsX1_clear ({ frames := 0, cells := 0, slots := 0, locals := 0 } : Room) (px_PW (dC, dI) (px_TY cyI cyZ cyJ cyB cyO) [.ref h_fr, .int v1] (wdX1_clear cyI cyZ cyJ cyB cyO h_fr a_fr_counts a_fr_answered a_fr_strongest a_fr_secondStrength fr_counts fr_answered fr_strongest fr_secondStrength) sz) (px_QW none (dC, dI) (wdX1_clear cyI cyZ cyJ cyB cyO h_fr a_fr_counts a_fr_answered a_fr_strongest a_fr_secondStrength fr_counts fr_answered fr_strongest fr_secondStrength) (wdX1_clear cyI cyZ cyJ cyB cyO h_fr a_fr_counts a_fr_answered a_fr_strongest a_fr_secondStrength out.1 out.2.1 out.2.2.1 out.2.2.2) sz) 0 0 (va_A (wdX1_clear cyI cyZ cyJ cyB cyO h_fr a_fr_counts a_fr_answered a_fr_strongest a_fr_secondStrength fr_counts fr_answered fr_strongest fr_secondStrength) sz) := by
  refine Met.ofW (cc := cX1_clear) (maxL := 3) (ret := none) (by decide) rfl ?_
  intro p e s m args below meth c s₁ B hml hv
  obtain ⟨rfl, hsz, hP, hK, hD0, hN⟩ := hv
  have hx := B.exec
  have hb := B.bytes
  have hr := B.returns
  have hts := atoms_spec (ws := wsX1_clear) B.pre
  have hown : s.vm.findClass RX1 = some m.cls := findClass_of_methodNamed B.named
  have hlocks := B.notSynchronized
  subst hsz
  have hD := hD0.self (sz := s.heap.size)
  generalize hAe : va_A (wdX1_clear cyI cyZ cyJ cyB cyO h_fr a_fr_counts a_fr_answered a_fr_strongest a_fr_secondStrength fr_counts fr_answered fr_strongest fr_secondStrength) s.heap.size = A at hD ⊢
  have hA : ∀ q : Nat, s.heap.size ≤ q → A q := fun q h => by rw [← hAe]; exact Or.inr h
  have hS : va_S A s.heap s.heap [] := va_S.rf
  have hq := px_QWe (v := none) (D := (dC, dI)) (w1 := (wdX1_clear cyI cyZ cyJ cyB cyO h_fr a_fr_counts a_fr_answered a_fr_strongest a_fr_secondStrength out.1 out.2.1 out.2.2.1 out.2.2.2)) (st := s) hAe
  generalize px_QW none (dC, dI) (wdX1_clear cyI cyZ cyJ cyB cyO h_fr a_fr_counts a_fr_answered a_fr_strongest a_fr_secondStrength fr_counts fr_answered fr_strongest fr_secondStrength) (wdX1_clear cyI cyZ cyJ cyB cyO h_fr a_fr_counts a_fr_answered a_fr_strongest a_fr_secondStrength out.1 out.2.1 out.2.2.1 out.2.2.2) s.heap.size = Qc at hq ⊢
  have hQ : ∀ (H : Heap) (locs : List Loc) (pc : Nat) (ls : Array Slot), va_P (dC, dI) vwCl (wdX1_clear cyI cyZ cyJ cyB cyO h_fr a_fr_counts a_fr_answered a_fr_strongest a_fr_secondStrength out.1 out.2.1 out.2.2.1 out.2.2.2) H → va_D A (wdX1_clear cyI cyZ cyJ cyB cyO h_fr a_fr_counts a_fr_answered a_fr_strongest a_fr_secondStrength out.1 out.2.1 out.2.2.1 out.2.2.2) → va_S A s.heap H locs → decode cX1_clear pc = .ok (.return_, 1) → W p l e ({ frames := 0, cells := 0, slots := 0, locals := 0 } : Room) s m (([.ref h_fr, .int v1] : List Value).toArray) below meth c H locs 0 0 (MQ below Qc (([.ref h_fr, .int v1] : List Value).toArray) s 0 0 A) (F0 m pc ls []) := fun H locs pc ls hP hD hS hd => W.vret hx hb hr (fun t ht hW => hq _ t (by rw [ht]; exact hP) hD (hS.F ht)) hS.2.2 hd
  generalize MQ below Qc (([.ref h_fr, .int v1] : List Value).toArray) s 0 0 A = Q at hQ ⊢
  have hl := lv_entry [.ref h_fr, .int v1] (n := 3) (Nat.le_of_ble_eq_true rfl)
  rw [lg_entry_eq]
  generalize (lg_sl [.ref h_fr, .int v1] ++ List.replicate (3 - (lg_sl [.ref h_fr, .int v1]).length) Slot.unset).toArray = ls at hl ⊢
  have hl : lv_has ls 3 [(0, .ref h_fr), (1, .int v1)] := hl
  unfold pX1_clear at hp
  refine lv_iconst (v := (0 : Int32)) hx hb dX1_clear_0 (by decide) ?_
  refine lv_istore_n (lv' := [(2, .int (0 : Int32)), (0, .ref h_fr), (1, .int v1)]) hx hb dX1_clear_1 rfl hl (by decide) rfl (fun ls hl => ?_)
  exact lcX1_clear_2 dC dI cyI cyZ cyJ cyB cyO h_fr a_fr_counts a_fr_answered a_fr_strongest a_fr_secondStrength fr_counts fr_answered fr_strongest fr_secondStrength v1 out hx hb hml hts hown hK hN hA hQ px_FU (0 : Int32) fr_counts fr_answered fr_strongest fr_secondStrength _ _ ls hp hP hD hS (lv_sub hl [1, 2, 0] rfl)
/-! TagReader$Frame.enter(LTagReader$Tags;II)V -/
theorem hvX1_enter : yX1_enter.cls = RX1 ∧ yX1_enter.cls ≠ "java/lang/invoke/MethodHandle" ∧ yX1_enter.cls ≠ "java/lang/invoke/VarHandle" ∧ (parseMethodDescriptor yX1_enter.desc).map (fun d => d.parameters.length) = some 3 := by decide +kernel
theorem fX1_enter_X6 : ∀ w ∈ u_ws RX6 TX6 4, w ∈ wsX1_enter := fun _ h => List.mem_cons_of_mem _ (List.mem_append_left _ (List.mem_append_right _ h))
theorem kX1_enter_1 : (.fieldLink RX1 57 "TagReader$Tags" "strengths" "[I" : Cond) ∈ wsX1_enter := List.mem_of_getElem? (i := 1) rfl
theorem fX1_enter_X1 : ∀ w ∈ u_ws RX1 TX1 4, w ∈ wsX1_enter := fun _ h => List.mem_cons_of_mem _ (List.mem_append_right _ h)
theorem kX1_enter_2 : (.fieldLink RX1 15 "TagReader$Frame" "answered" "[I" : Cond) ∈ wsX1_enter := List.mem_of_getElem? (i := 2) rfl
theorem kX1_enter_3 : (.fieldLink RX1 18 "TagReader$Frame" "strongest" "[I" : Cond) ∈ wsX1_enter := List.mem_of_getElem? (i := 3) rfl
theorem kX1_enter_4 : (.fieldLink RX1 21 "TagReader$Frame" "secondStrength" "[I" : Cond) ∈ wsX1_enter := List.mem_of_getElem? (i := 4) rfl
theorem kX1_enter_5 : (.methodLink RX1 60 Lib.Math.max.name : Cond) ∈ wsX1_enter := List.mem_of_getElem? (i := 5) rfl
theorem kX1_enter_6 : (.static Lib.Math.max.name : Cond) ∈ wsX1_enter := List.mem_of_getElem? (i := 6) rfl
theorem kX1_enter_7 : (.initialized "java/lang/Math" : Cond) ∈ wsX1_enter := List.mem_of_getElem? (i := 7) rfl
theorem kX1_enter_8 : (.code Lib.Math.max.name Lib.Math.max.code 2 (some .int) : Cond) ∈ wsX1_enter := List.mem_of_getElem? (i := 8) rfl
set_option maxHeartbeats 4000000 in
set_option maxRecDepth 100000 in
theorem lcX1_enter_87 {p : Program} {l : Launch} {e : Env} {s : State} {m : MethodId} {args : Array Value} {below : List Frame} {meth : Method} {c : Code} {Q : State → Prop} {A : Nat → Prop} (dC : Nat → ClassId) (dI : Nat → Nat → Nat) (cyI cyZ cyJ cyB cyO : ClassId) (h_fr a_fr_counts a_fr_answered a_fr_strongest a_fr_secondStrength h_tg a_tg_numbers a_tg_strengths a_tg_silent : Nat) (fr_counts : Nat → Int32) (fr_answered : Nat → Int32) (fr_strongest : Nat → Int32) (fr_secondStrength : Nat → Int32) (tg_size : Int32) (tg_numbers : Nat → Int32) (tg_strengths : Nat → Int32) (tg_silent : Nat → Int32) (v2 : Int32) (v3 : Int32) (out : (Nat → Int32) × (Nat → Int32) × (Nat → Int32)) (hx : p.tables.exec = Jvm.exec) (hb : c.code = cX1_enter) (hml : c.maxLocals = 5) (hts : ∀ w ∈ wsX1_enter, w.before args s = true) (hown : s.vm.findClass RX1 = some m.cls) (hK : va_K (dC, dI) vwCl (px_TY cyI cyZ cyJ cyB cyO) s) (hN : px_NW s) (hA : ∀ q : Nat, s.heap.size ≤ q → A q) (hQ : ∀ (H : Heap) (locs : List Loc) (pc : Nat) (ls : Array Slot), va_P (dC, dI) vwCl (wdX1_enter cyI cyZ cyJ cyB cyO h_fr a_fr_counts a_fr_answered a_fr_strongest a_fr_secondStrength h_tg a_tg_numbers a_tg_strengths a_tg_silent fr_counts out.1 out.2.1 out.2.2 tg_size tg_numbers tg_strengths tg_silent) H → va_D A (wdX1_enter cyI cyZ cyJ cyB cyO h_fr a_fr_counts a_fr_answered a_fr_strongest a_fr_secondStrength h_tg a_tg_numbers a_tg_strengths a_tg_silent fr_counts out.1 out.2.1 out.2.2 tg_size tg_numbers tg_strengths tg_silent) → va_S A s.heap H locs → decode cX1_enter pc = .ok (.return_, 1) → W p l e ({ frames := 1, cells := 0, slots := 0, locals := 24 } : Room) s m args below meth c H locs 0 0 Q (F0 m pc ls []))  : ∀ (fr_answered : Nat → Int32) (fr_strongest : Nat → Int32) (fr_secondStrength : Nat → Int32) (H : Heap) (locs : List Loc) (ls : Array Slot), pX1_enter_87 v2 v3 tg_strengths fr_answered fr_strongest fr_secondStrength = some out → va_P (dC, dI) vwCl (wdX1_enter cyI cyZ cyJ cyB cyO h_fr a_fr_counts a_fr_answered a_fr_strongest a_fr_secondStrength h_tg a_tg_numbers a_tg_strengths a_tg_silent fr_counts fr_answered fr_strongest fr_secondStrength tg_size tg_numbers tg_strengths tg_silent) H → va_D A (wdX1_enter cyI cyZ cyJ cyB cyO h_fr a_fr_counts a_fr_answered a_fr_strongest a_fr_secondStrength h_tg a_tg_numbers a_tg_strengths a_tg_silent fr_counts fr_answered fr_strongest fr_secondStrength tg_size tg_numbers tg_strengths tg_silent) → va_S A s.heap H locs → lv_has ls 5 [(0, .ref h_fr), (3, .int v3)] → W p l e ({ frames := 1, cells := 0, slots := 0, locals := 24 } : Room) s m args below meth c H locs 0 0 Q (F0 m 87 ls []) := by
  intro fr_answered fr_strongest fr_secondStrength H locs ls hp hP hD hS hl
  unfold pX1_enter_87 at hp
  refine lv_aload_n hx hb dX1_enter_87 rfl (lv_at hl 0 rfl) ?_
  refine va_get (D := (dC, dI)) (ci := 1) (v := .ref a_fr_answered) (C := RX1) (T := TX1) (N := 4) hx hb hts fX1_enter_X1 hown hK hP 0 rfl rfl 1 (by decide) (hts _ kX1_enter_2) (fun _ h9 => h9) rfl dX1_enter_88 ?_
  refine lv_iload_n hx hb dX1_enter_91 rfl (lv_at hl 1 rfl) ?_
  refine lv_dup2_11 hx hb dX1_enter_92 rfl rfl ?_
  obtain ⟨g_10, hp⟩ := px_i_at hp
  refine va_iald (D := (dC, dI)) hx hb hK hP 2 0 rfl rfl g_10 dX1_enter_93 ?_
  refine lv_iconst (v := (1 : Int32)) hx hb dX1_enter_94 (by decide) ?_
  refine lv_iadd hx hb dX1_enter_95 ?_
  obtain ⟨g_11, hp⟩ := px_i_at hp
  refine va_iast (D := (dC, dI)) hx hb hK hP hD hS 2 0 rfl rfl g_11 dX1_enter_96 (fun H locs hP hD hS => ?_)
  have hP : va_P (dC, dI) vwCl (wdX1_enter cyI cyZ cyJ cyB cyO h_fr a_fr_counts a_fr_answered a_fr_strongest a_fr_secondStrength h_tg a_tg_numbers a_tg_strengths a_tg_silent fr_counts (upd fr_answered (Int32.toNatClampNeg v3) ((fr_answered (Int32.toNatClampNeg v3)) + (1 : Int32))) fr_strongest fr_secondStrength tg_size tg_numbers tg_strengths tg_silent) H := hP
  have hD : va_D A (wdX1_enter cyI cyZ cyJ cyB cyO h_fr a_fr_counts a_fr_answered a_fr_strongest a_fr_secondStrength h_tg a_tg_numbers a_tg_strengths a_tg_silent fr_counts (upd fr_answered (Int32.toNatClampNeg v3) ((fr_answered (Int32.toNatClampNeg v3)) + (1 : Int32))) fr_strongest fr_secondStrength tg_size tg_numbers tg_strengths tg_silent) := hD
  have ho := px_s hp
  subst ho
  exact hQ _ _ _ _ hP hD hS dX1_enter_97
set_option maxHeartbeats 4000000 in
set_option maxRecDepth 100000 in
theorem ccX1_enter (l : Launch) (dC : Nat → ClassId) (dI : Nat → Nat → Nat) (cyI cyZ cyJ cyB cyO : ClassId) (sz : Nat) (h_fr a_fr_counts a_fr_answered a_fr_strongest a_fr_secondStrength h_tg a_tg_numbers a_tg_strengths a_tg_silent : Nat) (fr_counts : Nat → Int32) (fr_answered : Nat → Int32) (fr_strongest : Nat → Int32) (fr_secondStrength : Nat → Int32) (tg_size : Int32) (tg_numbers : Nat → Int32) (tg_strengths : Nat → Int32) (tg_silent : Nat → Int32) (v2 : Int32) (v3 : Int32) (out : (Nat → Int32) × (Nat → Int32) × (Nat → Int32)) (hp : pX1_enter v2 v3 tg_strengths fr_answered fr_strongest fr_secondStrength = some out) : Met l yX1_enter wsX1_enter ({ frames := 1, cells := 0, slots := 0, locals := 24 } : Room) (px_PW (dC, dI) (px_TY cyI cyZ cyJ cyB cyO) [.ref h_fr, .ref h_tg, .int v2, .int v3] (wdX1_enter cyI cyZ cyJ cyB cyO h_fr a_fr_counts a_fr_answered a_fr_strongest a_fr_secondStrength h_tg a_tg_numbers a_tg_strengths a_tg_silent fr_counts fr_answered fr_strongest fr_secondStrength tg_size tg_numbers tg_strengths tg_silent) sz) (px_QW none (dC, dI) (wdX1_enter cyI cyZ cyJ cyB cyO h_fr a_fr_counts a_fr_answered a_fr_strongest a_fr_secondStrength h_tg a_tg_numbers a_tg_strengths a_tg_silent fr_counts fr_answered fr_strongest fr_secondStrength tg_size tg_numbers tg_strengths tg_silent) (wdX1_enter cyI cyZ cyJ cyB cyO h_fr a_fr_counts a_fr_answered a_fr_strongest a_fr_secondStrength h_tg a_tg_numbers a_tg_strengths a_tg_silent fr_counts out.1 out.2.1 out.2.2 tg_size tg_numbers tg_strengths tg_silent) sz) 0 0 (va_A (wdX1_enter cyI cyZ cyJ cyB cyO h_fr a_fr_counts a_fr_answered a_fr_strongest a_fr_secondStrength h_tg a_tg_numbers a_tg_strengths a_tg_silent fr_counts fr_answered fr_strongest fr_secondStrength tg_size tg_numbers tg_strengths tg_silent) sz) := by
  refine Met.ofW (cc := cX1_enter) (maxL := 5) (ret := none) (by decide) rfl ?_
  intro p e s m args below meth c s₁ B hml hv
  obtain ⟨rfl, hsz, hP, hK, hD0, hN⟩ := hv
  have hx := B.exec
  have hb := B.bytes
  have hr := B.returns
  have hts := atoms_spec (ws := wsX1_enter) B.pre
  have hown : s.vm.findClass RX1 = some m.cls := findClass_of_methodNamed B.named
  have hlocks := B.notSynchronized
  subst hsz
  have hD := hD0.self (sz := s.heap.size)
  generalize hAe : va_A (wdX1_enter cyI cyZ cyJ cyB cyO h_fr a_fr_counts a_fr_answered a_fr_strongest a_fr_secondStrength h_tg a_tg_numbers a_tg_strengths a_tg_silent fr_counts fr_answered fr_strongest fr_secondStrength tg_size tg_numbers tg_strengths tg_silent) s.heap.size = A at hD ⊢
  have hA : ∀ q : Nat, s.heap.size ≤ q → A q := fun q h => by rw [← hAe]; exact Or.inr h
  have hS : va_S A s.heap s.heap [] := va_S.rf
  have hq := px_QWe (v := none) (D := (dC, dI)) (w1 := (wdX1_enter cyI cyZ cyJ cyB cyO h_fr a_fr_counts a_fr_answered a_fr_strongest a_fr_secondStrength h_tg a_tg_numbers a_tg_strengths a_tg_silent fr_counts out.1 out.2.1 out.2.2 tg_size tg_numbers tg_strengths tg_silent)) (st := s) hAe
  generalize px_QW none (dC, dI) (wdX1_enter cyI cyZ cyJ cyB cyO h_fr a_fr_counts a_fr_answered a_fr_strongest a_fr_secondStrength h_tg a_tg_numbers a_tg_strengths a_tg_silent fr_counts fr_answered fr_strongest fr_secondStrength tg_size tg_numbers tg_strengths tg_silent) (wdX1_enter cyI cyZ cyJ cyB cyO h_fr a_fr_counts a_fr_answered a_fr_strongest a_fr_secondStrength h_tg a_tg_numbers a_tg_strengths a_tg_silent fr_counts out.1 out.2.1 out.2.2 tg_size tg_numbers tg_strengths tg_silent) s.heap.size = Qc at hq ⊢
  have hQ : ∀ (H : Heap) (locs : List Loc) (pc : Nat) (ls : Array Slot), va_P (dC, dI) vwCl (wdX1_enter cyI cyZ cyJ cyB cyO h_fr a_fr_counts a_fr_answered a_fr_strongest a_fr_secondStrength h_tg a_tg_numbers a_tg_strengths a_tg_silent fr_counts out.1 out.2.1 out.2.2 tg_size tg_numbers tg_strengths tg_silent) H → va_D A (wdX1_enter cyI cyZ cyJ cyB cyO h_fr a_fr_counts a_fr_answered a_fr_strongest a_fr_secondStrength h_tg a_tg_numbers a_tg_strengths a_tg_silent fr_counts out.1 out.2.1 out.2.2 tg_size tg_numbers tg_strengths tg_silent) → va_S A s.heap H locs → decode cX1_enter pc = .ok (.return_, 1) → W p l e ({ frames := 1, cells := 0, slots := 0, locals := 24 } : Room) s m (([.ref h_fr, .ref h_tg, .int v2, .int v3] : List Value).toArray) below meth c H locs 0 0 (MQ below Qc (([.ref h_fr, .ref h_tg, .int v2, .int v3] : List Value).toArray) s 0 0 A) (F0 m pc ls []) := fun H locs pc ls hP hD hS hd => W.vret hx hb hr (fun t ht hW => hq _ t (by rw [ht]; exact hP) hD (hS.F ht)) hS.2.2 hd
  generalize MQ below Qc (([.ref h_fr, .ref h_tg, .int v2, .int v3] : List Value).toArray) s 0 0 A = Q at hQ ⊢
  have hl := lv_entry [.ref h_fr, .ref h_tg, .int v2, .int v3] (n := 5) (Nat.le_of_ble_eq_true rfl)
  rw [lg_entry_eq]
  generalize (lg_sl [.ref h_fr, .ref h_tg, .int v2, .int v3] ++ List.replicate (5 - (lg_sl [.ref h_fr, .ref h_tg, .int v2, .int v3]).length) Slot.unset).toArray = ls at hl ⊢
  have hl : lv_has ls 5 [(0, .ref h_fr), (1, .ref h_tg), (2, .int v2), (3, .int v3)] := hl
  unfold pX1_enter at hp
  refine lv_aload_n hx hb dX1_enter_0 rfl (lv_at hl 1 rfl) ?_
  refine va_get (D := (dC, dI)) (ci := 6) (v := .ref a_tg_strengths) (C := RX6) (T := TX6) (N := 4) hx hb hts fX1_enter_X6 hown hK hP 5 rfl rfl 1 (by decide) (hts _ kX1_enter_1) (fun _ h9 => h9) rfl dX1_enter_1 ?_
  refine lv_iload_n hx hb dX1_enter_4 rfl (lv_at hl 2 rfl) ?_
  obtain ⟨g_1, hp⟩ := px_i_at hp
  refine va_iald (D := (dC, dI)) hx hb hK hP 7 0 rfl rfl g_1 dX1_enter_5 ?_
  refine lv_istore (lv' := [(4, .int (tg_strengths (Int32.toNatClampNeg v2))), (0, .ref h_fr), (1, .ref h_tg), (2, .int v2), (3, .int v3)]) hx hb dX1_enter_6 hl (by decide) rfl (fun ls hl => ?_)
  refine lv_aload_n hx hb dX1_enter_8 rfl (lv_at hl 1 rfl) ?_
  refine va_get (D := (dC, dI)) (ci := 1) (v := .ref a_fr_answered) (C := RX1) (T := TX1) (N := 4) hx hb hts fX1_enter_X1 hown hK hP 0 rfl rfl 1 (by decide) (hts _ kX1_enter_2) (fun _ h9 => h9) rfl dX1_enter_9 ?_
  refine lv_iload_n hx hb dX1_enter_12 rfl (lv_at hl 4 rfl) ?_
  obtain ⟨g_2, hp⟩ := px_i_at hp
  refine va_iald (D := (dC, dI)) hx hb hK hP 2 0 rfl rfl g_2 dX1_enter_13 ?_
  refine lv_if_ne (tgt := 27) hx hb dX1_enter_14 (by decide) (fun c_3 => ?_) (fun c_3 => ?_)
  · have hp := px_f hp c_3
    refine lv_iload hx hb dX1_enter_27 (lv_at hl 0 rfl) ?_
    refine lv_aload_n hx hb dX1_enter_29 rfl (lv_at hl 2 rfl) ?_
    refine va_get (D := (dC, dI)) (ci := 6) (v := .ref a_tg_strengths) (C := RX6) (T := TX6) (N := 4) hx hb hts fX1_enter_X6 hown hK hP 5 rfl rfl 1 (by decide) (hts _ kX1_enter_1) (fun _ h9 => h9) rfl dX1_enter_30 ?_
    refine lv_aload_n hx hb dX1_enter_33 rfl (lv_at hl 1 rfl) ?_
    refine va_get (D := (dC, dI)) (ci := 1) (v := .ref a_fr_strongest) (C := RX1) (T := TX1) (N := 4) hx hb hts fX1_enter_X1 hown hK hP 0 rfl rfl 2 (by decide) (hts _ kX1_enter_3) (fun _ h9 => h9) rfl dX1_enter_34 ?_
    refine lv_iload_n hx hb dX1_enter_37 rfl (lv_at hl 4 rfl) ?_
    obtain ⟨g_4, hp⟩ := px_i_at hp
    refine va_iald (D := (dC, dI)) hx hb hK hP 3 0 rfl rfl g_4 dX1_enter_38 ?_
    obtain ⟨g_5, hp⟩ := px_i_at hp
    refine va_iald (D := (dC, dI)) hx hb hK hP 7 0 rfl rfl g_5 dX1_enter_39 ?_
    refine lv_icmp_le (tgt := 70) hx hb dX1_enter_40 (by decide) (fun c_6 => ?_) (fun c_6 => ?_)
    · have hp := px_t hp c_6
      refine lv_aload_n hx hb dX1_enter_70 rfl (lv_at hl 1 rfl) ?_
      refine va_get (D := (dC, dI)) (ci := 1) (v := .ref a_fr_secondStrength) (C := RX1) (T := TX1) (N := 4) hx hb hts fX1_enter_X1 hown hK hP 0 rfl rfl 3 (by decide) (hts _ kX1_enter_4) (fun _ h9 => h9) rfl dX1_enter_71 ?_
      refine lv_iload_n hx hb dX1_enter_74 rfl (lv_at hl 4 rfl) ?_
      refine lv_aload_n hx hb dX1_enter_75 rfl (lv_at hl 1 rfl) ?_
      refine va_get (D := (dC, dI)) (ci := 1) (v := .ref a_fr_secondStrength) (C := RX1) (T := TX1) (N := 4) hx hb hts fX1_enter_X1 hown hK hP 0 rfl rfl 3 (by decide) (hts _ kX1_enter_4) (fun _ h9 => h9) rfl dX1_enter_76 ?_
      refine lv_iload_n hx hb dX1_enter_79 rfl (lv_at hl 4 rfl) ?_
      obtain ⟨g_7, hp⟩ := px_i_at hp
      refine va_iald (D := (dC, dI)) hx hb hK hP 4 0 rfl rfl g_7 dX1_enter_80 ?_
      refine lv_iload hx hb dX1_enter_81 (lv_at hl 0 rfl) ?_
      refine va_mmax hx hb (by rw [hml]; exact hl.1.symm) hown (hts _ kX1_enter_5) (hts _ kX1_enter_6) (hts _ kX1_enter_7) (hts _ kX1_enter_8) (Nat.le_of_ble_eq_true rfl) (Nat.le_of_ble_eq_true rfl) (Nat.zero_le _) (Nat.zero_le _) dX1_enter_83 ?_
      refine lv_topi (fun x_8 ex_8 => ?_)
      have hp := px_lt_at hp ex_8
      obtain ⟨g_9, hp⟩ := px_i_at hp
      refine va_iast (D := (dC, dI)) hx hb hK hP hD hS 4 0 rfl rfl g_9 dX1_enter_86 (fun H locs hP hD hS => ?_)
      have hP : va_P (dC, dI) vwCl (wdX1_enter cyI cyZ cyJ cyB cyO h_fr a_fr_counts a_fr_answered a_fr_strongest a_fr_secondStrength h_tg a_tg_numbers a_tg_strengths a_tg_silent fr_counts fr_answered fr_strongest (upd fr_secondStrength (Int32.toNatClampNeg v3) x_8) tg_size tg_numbers tg_strengths tg_silent) H := hP
      have hD : va_D A (wdX1_enter cyI cyZ cyJ cyB cyO h_fr a_fr_counts a_fr_answered a_fr_strongest a_fr_secondStrength h_tg a_tg_numbers a_tg_strengths a_tg_silent fr_counts fr_answered fr_strongest (upd fr_secondStrength (Int32.toNatClampNeg v3) x_8) tg_size tg_numbers tg_strengths tg_silent) := hD
      exact lcX1_enter_87 dC dI cyI cyZ cyJ cyB cyO h_fr a_fr_counts a_fr_answered a_fr_strongest a_fr_secondStrength h_tg a_tg_numbers a_tg_strengths a_tg_silent fr_counts fr_answered fr_strongest fr_secondStrength tg_size tg_numbers tg_strengths tg_silent v2 v3 out hx hb hml hts hown hK hN hA hQ fr_answered fr_strongest (upd fr_secondStrength (Int32.toNatClampNeg v3) x_8) _ _ ls hp hP hD hS (lv_sub hl [1, 4] rfl)
    · have hp := px_f hp c_6
      refine lv_aload_n hx hb dX1_enter_43 rfl (lv_at hl 1 rfl) ?_
      refine va_get (D := (dC, dI)) (ci := 1) (v := .ref a_fr_secondStrength) (C := RX1) (T := TX1) (N := 4) hx hb hts fX1_enter_X1 hown hK hP 0 rfl rfl 3 (by decide) (hts _ kX1_enter_4) (fun _ h9 => h9) rfl dX1_enter_44 ?_
      refine lv_iload_n hx hb dX1_enter_47 rfl (lv_at hl 4 rfl) ?_
      refine lv_aload_n hx hb dX1_enter_48 rfl (lv_at hl 2 rfl) ?_
      refine va_get (D := (dC, dI)) (ci := 6) (v := .ref a_tg_strengths) (C := RX6) (T := TX6) (N := 4) hx hb hts fX1_enter_X6 hown hK hP 5 rfl rfl 1 (by decide) (hts _ kX1_enter_1) (fun _ h9 => h9) rfl dX1_enter_49 ?_
      refine lv_aload_n hx hb dX1_enter_52 rfl (lv_at hl 1 rfl) ?_
      refine va_get (D := (dC, dI)) (ci := 1) (v := .ref a_fr_strongest) (C := RX1) (T := TX1) (N := 4) hx hb hts fX1_enter_X1 hown hK hP 0 rfl rfl 2 (by decide) (hts _ kX1_enter_3) (fun _ h9 => h9) rfl dX1_enter_53 ?_
      refine lv_iload_n hx hb dX1_enter_56 rfl (lv_at hl 4 rfl) ?_
      obtain ⟨g_12, hp⟩ := px_i_at hp
      refine va_iald (D := (dC, dI)) hx hb hK hP 3 0 rfl rfl g_12 dX1_enter_57 ?_
      obtain ⟨g_13, hp⟩ := px_i_at hp
      refine va_iald (D := (dC, dI)) hx hb hK hP 7 0 rfl rfl g_13 dX1_enter_58 ?_
      refine lv_topi (fun x_14 ex_14 => ?_)
      have hp := px_lt_at hp ex_14
      obtain ⟨g_15, hp⟩ := px_i_at hp
      refine va_iast (D := (dC, dI)) hx hb hK hP hD hS 4 0 rfl rfl g_15 dX1_enter_59 (fun H locs hP hD hS => ?_)
      have hP : va_P (dC, dI) vwCl (wdX1_enter cyI cyZ cyJ cyB cyO h_fr a_fr_counts a_fr_answered a_fr_strongest a_fr_secondStrength h_tg a_tg_numbers a_tg_strengths a_tg_silent fr_counts fr_answered fr_strongest (upd fr_secondStrength (Int32.toNatClampNeg v3) x_14) tg_size tg_numbers tg_strengths tg_silent) H := hP
      have hD : va_D A (wdX1_enter cyI cyZ cyJ cyB cyO h_fr a_fr_counts a_fr_answered a_fr_strongest a_fr_secondStrength h_tg a_tg_numbers a_tg_strengths a_tg_silent fr_counts fr_answered fr_strongest (upd fr_secondStrength (Int32.toNatClampNeg v3) x_14) tg_size tg_numbers tg_strengths tg_silent) := hD
      refine lv_aload_n hx hb dX1_enter_60 rfl (lv_at hl 1 rfl) ?_
      refine va_get (D := (dC, dI)) (ci := 1) (v := .ref a_fr_strongest) (C := RX1) (T := TX1) (N := 4) hx hb hts fX1_enter_X1 hown hK hP 0 rfl rfl 2 (by decide) (hts _ kX1_enter_3) (fun _ h9 => h9) rfl dX1_enter_61 ?_
      refine lv_iload_n hx hb dX1_enter_64 rfl (lv_at hl 4 rfl) ?_
      refine lv_iload_n hx hb dX1_enter_65 rfl (lv_at hl 3 rfl) ?_
      obtain ⟨g_16, hp⟩ := px_i_at hp
      refine va_iast (D := (dC, dI)) hx hb hK hP hD hS 3 0 rfl rfl g_16 dX1_enter_66 (fun H locs hP hD hS => ?_)
      have hP : va_P (dC, dI) vwCl (wdX1_enter cyI cyZ cyJ cyB cyO h_fr a_fr_counts a_fr_answered a_fr_strongest a_fr_secondStrength h_tg a_tg_numbers a_tg_strengths a_tg_silent fr_counts fr_answered (upd fr_strongest (Int32.toNatClampNeg v3) v2) (upd fr_secondStrength (Int32.toNatClampNeg v3) x_14) tg_size tg_numbers tg_strengths tg_silent) H := hP
      have hD : va_D A (wdX1_enter cyI cyZ cyJ cyB cyO h_fr a_fr_counts a_fr_answered a_fr_strongest a_fr_secondStrength h_tg a_tg_numbers a_tg_strengths a_tg_silent fr_counts fr_answered (upd fr_strongest (Int32.toNatClampNeg v3) v2) (upd fr_secondStrength (Int32.toNatClampNeg v3) x_14) tg_size tg_numbers tg_strengths tg_silent) := hD
      refine lv_goto (tgt := 87) hx hb dX1_enter_67 (by decide) ?_
      exact lcX1_enter_87 dC dI cyI cyZ cyJ cyB cyO h_fr a_fr_counts a_fr_answered a_fr_strongest a_fr_secondStrength h_tg a_tg_numbers a_tg_strengths a_tg_silent fr_counts fr_answered fr_strongest fr_secondStrength tg_size tg_numbers tg_strengths tg_silent v2 v3 out hx hb hml hts hown hK hN hA hQ fr_answered (upd fr_strongest (Int32.toNatClampNeg v3) v2) (upd fr_secondStrength (Int32.toNatClampNeg v3) x_14) _ _ ls hp hP hD hS (lv_sub hl [1, 4] rfl)
  · have hp := px_t hp c_3
    refine lv_aload_n hx hb dX1_enter_17 rfl (lv_at hl 1 rfl) ?_
    refine va_get (D := (dC, dI)) (ci := 1) (v := .ref a_fr_strongest) (C := RX1) (T := TX1) (N := 4) hx hb hts fX1_enter_X1 hown hK hP 0 rfl rfl 2 (by decide) (hts _ kX1_enter_3) (fun _ h9 => h9) rfl dX1_enter_18 ?_
    refine lv_iload_n hx hb dX1_enter_21 rfl (lv_at hl 4 rfl) ?_
    refine lv_iload_n hx hb dX1_enter_22 rfl (lv_at hl 3 rfl) ?_
    obtain ⟨g_17, hp⟩ := px_i_at hp
    refine va_iast (D := (dC, dI)) hx hb hK hP hD hS 3 0 rfl rfl g_17 dX1_enter_23 (fun H locs hP hD hS => ?_)
    have hP : va_P (dC, dI) vwCl (wdX1_enter cyI cyZ cyJ cyB cyO h_fr a_fr_counts a_fr_answered a_fr_strongest a_fr_secondStrength h_tg a_tg_numbers a_tg_strengths a_tg_silent fr_counts fr_answered (upd fr_strongest (Int32.toNatClampNeg v3) v2) fr_secondStrength tg_size tg_numbers tg_strengths tg_silent) H := hP
    have hD : va_D A (wdX1_enter cyI cyZ cyJ cyB cyO h_fr a_fr_counts a_fr_answered a_fr_strongest a_fr_secondStrength h_tg a_tg_numbers a_tg_strengths a_tg_silent fr_counts fr_answered (upd fr_strongest (Int32.toNatClampNeg v3) v2) fr_secondStrength tg_size tg_numbers tg_strengths tg_silent) := hD
    refine lv_goto (tgt := 87) hx hb dX1_enter_24 (by decide) ?_
    exact lcX1_enter_87 dC dI cyI cyZ cyJ cyB cyO h_fr a_fr_counts a_fr_answered a_fr_strongest a_fr_secondStrength h_tg a_tg_numbers a_tg_strengths a_tg_silent fr_counts fr_answered fr_strongest fr_secondStrength tg_size tg_numbers tg_strengths tg_silent v2 v3 out hx hb hml hts hown hK hN hA hQ fr_answered (upd fr_strongest (Int32.toNatClampNeg v3) v2) fr_secondStrength _ _ ls hp hP hD hS (lv_sub hl [1, 4] rfl)
/-! TagReader$Frame.kindOf(LTagReader$Tags;II)I -/
theorem hvX1_kindOf : yX1_kindOf.cls = RX1 ∧ yX1_kindOf.cls ≠ "java/lang/invoke/MethodHandle" ∧ yX1_kindOf.cls ≠ "java/lang/invoke/VarHandle" ∧ (parseMethodDescriptor yX1_kindOf.desc).map (fun d => d.parameters.length) = some 3 := by decide +kernel
theorem fX1_kindOf_X1 : ∀ w ∈ u_ws RX1 TX1 4, w ∈ wsX1_kindOf := fun _ h => List.mem_cons_of_mem _ (List.mem_append_left _ (List.mem_append_right _ h))
theorem kX1_kindOf_1 : (.fieldLink RX1 15 "TagReader$Frame" "answered" "[I" : Cond) ∈ wsX1_kindOf := List.mem_of_getElem? (i := 1) rfl
theorem fX1_kindOf_X6 : ∀ w ∈ u_ws RX6 TX6 4, w ∈ wsX1_kindOf := fun _ h => List.mem_cons_of_mem _ (List.mem_append_right _ h)
theorem kX1_kindOf_2 : (.fieldLink RX1 57 "TagReader$Tags" "strengths" "[I" : Cond) ∈ wsX1_kindOf := List.mem_of_getElem? (i := 2) rfl
theorem kX1_kindOf_3 : (.fieldLink RX1 18 "TagReader$Frame" "strongest" "[I" : Cond) ∈ wsX1_kindOf := List.mem_of_getElem? (i := 3) rfl
theorem kX1_kindOf_4 : (.fieldLink RX1 21 "TagReader$Frame" "secondStrength" "[I" : Cond) ∈ wsX1_kindOf := List.mem_of_getElem? (i := 4) rfl
set_option maxHeartbeats 4000000 in
set_option maxRecDepth 100000 in
theorem ccX1_kindOf (l : Launch) (dC : Nat → ClassId) (dI : Nat → Nat → Nat) (cyI cyZ cyJ cyB cyO : ClassId) (h_fr a_fr_counts a_fr_answered a_fr_strongest a_fr_secondStrength h_tg a_tg_numbers a_tg_strengths a_tg_silent : Nat) (fr_counts : Nat → Int32) (fr_answered : Nat → Int32) (fr_strongest : Nat → Int32) (fr_secondStrength : Nat → Int32) (tg_size : Int32) (tg_numbers : Nat → Int32) (tg_strengths : Nat → Int32) (tg_silent : Nat → Int32) (v2 : Int32) (v3 : Int32) (out : Int32) (hp : pX1_kindOf v2 v3 fr_answered fr_strongest fr_secondStrength tg_strengths = some out) : Met l yX1_kindOf wsX1_kindOf ({ frames := 0, cells := 0, slots := 0, locals := 0 } : Room) (px_PR (dC, dI) (px_TY cyI cyZ cyJ cyB cyO) [.ref h_fr, .ref h_tg, .int v2, .int v3] (wdX1_kindOf cyI cyZ cyJ cyB cyO h_fr a_fr_counts a_fr_answered a_fr_strongest a_fr_secondStrength h_tg a_tg_numbers a_tg_strengths a_tg_silent fr_counts fr_answered fr_strongest fr_secondStrength tg_size tg_numbers tg_strengths tg_silent)) (px_QR (.int out)) 0 0 (fun _ => False) := by
  refine Met.ofW (cc := cX1_kindOf) (maxL := 5) (ret := (some .int)) (by decide) rfl ?_
  intro p e s m args below meth c s₁ B hml hv
  obtain ⟨rfl, hP, hK, hN⟩ := hv
  have hx := B.exec
  have hb := B.bytes
  have hr := B.returns
  have hts := atoms_spec (ws := wsX1_kindOf) B.pre
  have hown : s.vm.findClass RX1 = some m.cls := findClass_of_methodNamed B.named
  have hlocks := B.notSynchronized
  have hQ : ∀ (pc : Nat) (ls : Array Slot), decode cX1_kindOf pc = .ok (.ireturn, 1) → W p l e ({ frames := 0, cells := 0, slots := 0, locals := 0 } : Room) s m (([.ref h_fr, .ref h_tg, .int v2, .int v3] : List Value).toArray) below meth c s.heap [] 0 0 (MQ below (px_QR (.int out)) (([.ref h_fr, .ref h_tg, .int v2, .int v3] : List Value).toArray) s 0 0 (fun _ => False)) (F0 m pc ls [.int out]) := fun pc ls hd => W.iret hx hb hr (fun t ht hW => ⟨rfl, ht⟩) (fun q h => by cases h) hd
  generalize MQ below (px_QR (.int out)) (([.ref h_fr, .ref h_tg, .int v2, .int v3] : List Value).toArray) s 0 0 (fun _ => False) = Q at hQ ⊢
  have hl := lv_entry [.ref h_fr, .ref h_tg, .int v2, .int v3] (n := 5) (Nat.le_of_ble_eq_true rfl)
  rw [lg_entry_eq]
  generalize (lg_sl [.ref h_fr, .ref h_tg, .int v2, .int v3] ++ List.replicate (5 - (lg_sl [.ref h_fr, .ref h_tg, .int v2, .int v3]).length) Slot.unset).toArray = ls at hl ⊢
  have hl : lv_has ls 5 [(0, .ref h_fr), (1, .ref h_tg), (2, .int v2), (3, .int v3)] := hl
  unfold pX1_kindOf at hp
  refine lv_aload_n hx hb dX1_kindOf_0 rfl (lv_at hl 0 rfl) ?_
  refine va_get (D := (dC, dI)) (ci := 1) (v := .ref a_fr_answered) (C := RX1) (T := TX1) (N := 4) hx hb hts fX1_kindOf_X1 hown hK hP 0 rfl rfl 1 (by decide) (hts _ kX1_kindOf_1) (fun _ h9 => h9) rfl dX1_kindOf_1 ?_
  refine lv_iload_n hx hb dX1_kindOf_4 rfl (lv_at hl 2 rfl) ?_
  obtain ⟨g_1, hp⟩ := px_i_at hp
  refine va_iald (D := (dC, dI)) hx hb hK hP 2 0 rfl rfl g_1 dX1_kindOf_5 ?_
  refine lv_if_ne (tgt := 11) hx hb dX1_kindOf_6 (by decide) (fun c_2 => ?_) (fun c_2 => ?_)
  · have hp := px_f hp c_2
    refine lv_aload_n hx hb dX1_kindOf_11 rfl (lv_at hl 0 rfl) ?_
    refine va_get (D := (dC, dI)) (ci := 1) (v := .ref a_fr_answered) (C := RX1) (T := TX1) (N := 4) hx hb hts fX1_kindOf_X1 hown hK hP 0 rfl rfl 1 (by decide) (hts _ kX1_kindOf_1) (fun _ h9 => h9) rfl dX1_kindOf_12 ?_
    refine lv_iload_n hx hb dX1_kindOf_15 rfl (lv_at hl 2 rfl) ?_
    obtain ⟨g_3, hp⟩ := px_i_at hp
    refine va_iald (D := (dC, dI)) hx hb hK hP 2 0 rfl rfl g_3 dX1_kindOf_16 ?_
    refine lv_iconst (v := (1 : Int32)) hx hb dX1_kindOf_17 (by decide) ?_
    refine lv_icmp_ne (tgt := 23) hx hb dX1_kindOf_18 (by decide) (fun c_4 => ?_) (fun c_4 => ?_)
    · have hp := px_f hp c_4
      refine lv_aload_n hx hb dX1_kindOf_23 rfl (lv_at hl 1 rfl) ?_
      refine va_get (D := (dC, dI)) (ci := 6) (v := .ref a_tg_strengths) (C := RX6) (T := TX6) (N := 4) hx hb hts fX1_kindOf_X6 hown hK hP 5 rfl rfl 1 (by decide) (hts _ kX1_kindOf_2) (fun _ h9 => h9) rfl dX1_kindOf_24 ?_
      refine lv_aload_n hx hb dX1_kindOf_27 rfl (lv_at hl 0 rfl) ?_
      refine va_get (D := (dC, dI)) (ci := 1) (v := .ref a_fr_strongest) (C := RX1) (T := TX1) (N := 4) hx hb hts fX1_kindOf_X1 hown hK hP 0 rfl rfl 2 (by decide) (hts _ kX1_kindOf_3) (fun _ h9 => h9) rfl dX1_kindOf_28 ?_
      refine lv_iload_n hx hb dX1_kindOf_31 rfl (lv_at hl 2 rfl) ?_
      obtain ⟨g_5, hp⟩ := px_i_at hp
      refine va_iald (D := (dC, dI)) hx hb hK hP 3 0 rfl rfl g_5 dX1_kindOf_32 ?_
      obtain ⟨g_6, hp⟩ := px_i_at hp
      refine va_iald (D := (dC, dI)) hx hb hK hP 7 0 rfl rfl g_6 dX1_kindOf_33 ?_
      refine lv_aload_n hx hb dX1_kindOf_34 rfl (lv_at hl 0 rfl) ?_
      refine va_get (D := (dC, dI)) (ci := 1) (v := .ref a_fr_secondStrength) (C := RX1) (T := TX1) (N := 4) hx hb hts fX1_kindOf_X1 hown hK hP 0 rfl rfl 3 (by decide) (hts _ kX1_kindOf_4) (fun _ h9 => h9) rfl dX1_kindOf_35 ?_
      refine lv_iload_n hx hb dX1_kindOf_38 rfl (lv_at hl 2 rfl) ?_
      obtain ⟨g_7, hp⟩ := px_i_at hp
      refine va_iald (D := (dC, dI)) hx hb hK hP 4 0 rfl rfl g_7 dX1_kindOf_39 ?_
      refine lv_isub hx hb dX1_kindOf_40 ?_
      refine lv_topi (fun x_8 ex_8 => ?_)
      have hp := px_lt_at hp ex_8
      refine lv_istore (lv' := [(4, .int x_8), (0, .ref h_fr), (1, .ref h_tg), (2, .int v2), (3, .int v3)]) hx hb dX1_kindOf_41 hl (by decide) rfl (fun ls hl => ?_)
      refine lv_iload_n hx hb dX1_kindOf_43 rfl (lv_at hl 4 rfl) ?_
      refine lv_if_le (tgt := 57) hx hb dX1_kindOf_44 (by decide) (fun c_9 => ?_) (fun c_9 => ?_)
      · have hp := px_t hp c_9
        refine lv_iconst (v := (3 : Int32)) hx hb dX1_kindOf_57 (by decide) ?_
        have ho := px_s hp
        subst ho
        exact hQ _ _ dX1_kindOf_58
      · have hp := px_f hp c_9
        refine lv_iload hx hb dX1_kindOf_47 (lv_at hl 0 rfl) ?_
        refine lv_iload_n hx hb dX1_kindOf_49 rfl (lv_at hl 4 rfl) ?_
        refine lv_icmp_lt (tgt := 57) hx hb dX1_kindOf_50 (by decide) (fun c_10 => ?_) (fun c_10 => ?_)
        · have hp := px_t hp c_10
          refine lv_iconst (v := (3 : Int32)) hx hb dX1_kindOf_57 (by decide) ?_
          have ho := px_s hp
          subst ho
          exact hQ _ _ dX1_kindOf_58
        · have hp := px_f hp c_10
          refine lv_iconst (v := (4 : Int32)) hx hb dX1_kindOf_53 (by decide) ?_
          refine lv_goto (tgt := 58) hx hb dX1_kindOf_54 (by decide) ?_
          have ho := px_s hp
          subst ho
          exact hQ _ _ dX1_kindOf_58
    · have hp := px_t hp c_4
      refine lv_iconst (v := (2 : Int32)) hx hb dX1_kindOf_21 (by decide) ?_
      have ho := px_s hp
      subst ho
      exact hQ _ _ dX1_kindOf_22
  · have hp := px_t hp c_2
    refine lv_iconst (v := (1 : Int32)) hx hb dX1_kindOf_9 (by decide) ?_
    have ho := px_s hp
    subst ho
    exact hQ _ _ dX1_kindOf_10
/-! TagReader$Frame.hold(LTagReader$Tags;III)I -/
theorem hvX1_hold : yX1_hold.cls = RX1 ∧ yX1_hold.cls ≠ "java/lang/invoke/MethodHandle" ∧ yX1_hold.cls ≠ "java/lang/invoke/VarHandle" ∧ (parseMethodDescriptor yX1_hold.desc).map (fun d => d.parameters.length) = some 4 := by decide +kernel
theorem kX1_hold_7 : (.initialized RX10 : Cond) ∈ wsX1_hold := List.mem_of_getElem? (i := 7) rfl
theorem kX1_hold_6 : (.static yX10_within : Cond) ∈ wsX1_hold := List.mem_of_getElem? (i := 6) rfl
theorem fX1_hold_X6 : ∀ w ∈ u_ws RX6 TX6 4, w ∈ wsX1_hold := fun _ h => List.mem_cons_of_mem _ (List.mem_append_left _ (List.mem_append_right _ h))
theorem kX1_hold_1 : (.fieldLink RX1 32 "TagReader$Tags" "size" "I" : Cond) ∈ wsX1_hold := List.mem_of_getElem? (i := 1) rfl
theorem fX1_hold_X1 : ∀ w ∈ u_ws RX1 TX1 4, w ∈ wsX1_hold := fun _ h => List.mem_cons_of_mem _ (List.mem_append_right _ h)
theorem kX1_hold_4 : (.fieldLink RX1 9 "TagReader$Frame" "counts" "[I" : Cond) ∈ wsX1_hold := List.mem_of_getElem? (i := 4) rfl
theorem kX1_hold_2 : (.fieldLink RX1 38 "TagReader$Tags" "silent" "[Z" : Cond) ∈ wsX1_hold := List.mem_of_getElem? (i := 2) rfl
theorem kX1_hold_5 : (.fieldLink RX1 18 "TagReader$Frame" "strongest" "[I" : Cond) ∈ wsX1_hold := List.mem_of_getElem? (i := 5) rfl
theorem kX1_hold_3 : (.fieldLink RX1 42 "TagReader$Tags" "numbers" "[I" : Cond) ∈ wsX1_hold := List.mem_of_getElem? (i := 3) rfl
theorem kX1_hold_16 : (.static yX10_slotOf : Cond) ∈ wsX1_hold := List.mem_of_getElem? (i := 16) rfl
set_option maxHeartbeats 4000000 in
set_option maxRecDepth 100000 in
theorem lcX1_hold_126 {p : Program} {l : Launch} {e : Env} {s : State} {m : MethodId} {args : Array Value} {below : List Frame} {meth : Method} {c : Code} {Q : State → Prop} {A : Nat → Prop} (dC : Nat → ClassId) (dI : Nat → Nat → Nat) (cyI cyZ cyJ cyB cyO : ClassId) (h_fr a_fr_counts a_fr_answered a_fr_strongest a_fr_secondStrength h_tg a_tg_numbers a_tg_strengths a_tg_silent : Nat) (fr_counts : Nat → Int32) (fr_answered : Nat → Int32) (fr_strongest : Nat → Int32) (fr_secondStrength : Nat → Int32) (tg_size : Int32) (tg_numbers : Nat → Int32) (tg_strengths : Nat → Int32) (tg_silent : Nat → Int32) (v2 : Int32) (v3 : Int32) (v4 : Int32) (out : Int32 × (Nat → Int32) × (Nat → Int32) × (Nat → Int32) × (Nat → Int32) × (Nat → Int32)) (hx : p.tables.exec = Jvm.exec) (hb : c.code = cX1_hold) (hml : c.maxLocals = 7) (hts : ∀ w ∈ wsX1_hold, w.before args s = true) (hown : s.vm.findClass RX1 = some m.cls) (hK : va_K (dC, dI) vwCl (px_TY cyI cyZ cyJ cyB cyO) s) (hN : px_NW s) (hA : ∀ q : Nat, s.heap.size ≤ q → A q) (hQ : ∀ (H : Heap) (locs : List Loc) (pc : Nat) (ls : Array Slot), va_P (dC, dI) vwCl (wdX1_hold cyI cyZ cyJ cyB cyO h_fr a_fr_counts a_fr_answered a_fr_strongest a_fr_secondStrength h_tg a_tg_numbers a_tg_strengths a_tg_silent out.2.1 out.2.2.1 out.2.2.2.1 out.2.2.2.2.1 tg_size tg_numbers tg_strengths out.2.2.2.2.2) H → va_D A (wdX1_hold cyI cyZ cyJ cyB cyO h_fr a_fr_counts a_fr_answered a_fr_strongest a_fr_secondStrength h_tg a_tg_numbers a_tg_strengths a_tg_silent out.2.1 out.2.2.1 out.2.2.2.1 out.2.2.2.2.1 tg_size tg_numbers tg_strengths out.2.2.2.2.2) → va_S A s.heap H locs → decode cX1_hold pc = .ok (.ireturn, 1) → W p l e ({ frames := 2, cells := 0, slots := 0, locals := 48 } : Room) s m args below meth c H locs 0 0 Q (F0 m pc ls [.int out.1]))  : ∀ (fr_counts : Nat → Int32) (fr_answered : Nat → Int32) (fr_strongest : Nat → Int32) (fr_secondStrength : Nat → Int32) (tg_silent : Nat → Int32) (H : Heap) (locs : List Loc) (ls : Array Slot), pX1_hold_126 v2 v3 v4 tg_size tg_numbers tg_strengths fr_counts fr_answered fr_strongest fr_secondStrength tg_silent = some out → va_P (dC, dI) vwCl (wdX1_hold cyI cyZ cyJ cyB cyO h_fr a_fr_counts a_fr_answered a_fr_strongest a_fr_secondStrength h_tg a_tg_numbers a_tg_strengths a_tg_silent fr_counts fr_answered fr_strongest fr_secondStrength tg_size tg_numbers tg_strengths tg_silent) H → va_D A (wdX1_hold cyI cyZ cyJ cyB cyO h_fr a_fr_counts a_fr_answered a_fr_strongest a_fr_secondStrength h_tg a_tg_numbers a_tg_strengths a_tg_silent fr_counts fr_answered fr_strongest fr_secondStrength tg_size tg_numbers tg_strengths tg_silent) → va_S A s.heap H locs → lv_has ls 7 [(0, .ref h_fr)] → W p l e ({ frames := 2, cells := 0, slots := 0, locals := 48 } : Room) s m args below meth c H locs 0 0 Q (F0 m 126 ls []) := by
  intro fr_counts fr_answered fr_strongest fr_secondStrength tg_silent H locs ls hp hP hD hS hl
  unfold pX1_hold_126 at hp
  refine lv_aload_n hx hb dX1_hold_126 rfl (lv_at hl 0 rfl) ?_
  refine va_get (D := (dC, dI)) (ci := 1) (v := .ref a_fr_counts) (C := RX1) (T := TX1) (N := 4) hx hb hts fX1_hold_X1 hown hK hP 0 rfl rfl 0 (by decide) (hts _ kX1_hold_4) (fun _ h9 => h9) rfl dX1_hold_127 ?_
  refine lv_iconst (v := (2 : Int32)) hx hb dX1_hold_130 (by decide) ?_
  refine va_iald (D := (dC, dI)) hx hb hK hP 1 0 rfl rfl (px_in2_5) dX1_hold_131 ?_
  refine lv_aload_n hx hb dX1_hold_132 rfl (lv_at hl 0 rfl) ?_
  refine va_get (D := (dC, dI)) (ci := 1) (v := .ref a_fr_counts) (C := RX1) (T := TX1) (N := 4) hx hb hts fX1_hold_X1 hown hK hP 0 rfl rfl 0 (by decide) (hts _ kX1_hold_4) (fun _ h9 => h9) rfl dX1_hold_133 ?_
  refine lv_iconst (v := (4 : Int32)) hx hb dX1_hold_136 (by decide) ?_
  refine va_iald (D := (dC, dI)) hx hb hK hP 1 0 rfl rfl (px_in4_5) dX1_hold_137 ?_
  refine lv_iadd hx hb dX1_hold_138 ?_
  have ho := px_s hp
  subst ho
  exact hQ _ _ _ _ hP hD hS dX1_hold_139
set_option maxHeartbeats 4000000 in
set_option maxRecDepth 100000 in
theorem lcX1_hold_107 {p : Program} {l : Launch} {e : Env} {s : State} {m : MethodId} {args : Array Value} {below : List Frame} {meth : Method} {c : Code} {Q : State → Prop} {A : Nat → Prop} (dC : Nat → ClassId) (dI : Nat → Nat → Nat) (cyI cyZ cyJ cyB cyO : ClassId) (h_fr a_fr_counts a_fr_answered a_fr_strongest a_fr_secondStrength h_tg a_tg_numbers a_tg_strengths a_tg_silent : Nat) (fr_counts : Nat → Int32) (fr_answered : Nat → Int32) (fr_strongest : Nat → Int32) (fr_secondStrength : Nat → Int32) (tg_size : Int32) (tg_numbers : Nat → Int32) (tg_strengths : Nat → Int32) (tg_silent : Nat → Int32) (v2 : Int32) (v3 : Int32) (v4 : Int32) (out : Int32 × (Nat → Int32) × (Nat → Int32) × (Nat → Int32) × (Nat → Int32) × (Nat → Int32)) (hx : p.tables.exec = Jvm.exec) (hb : c.code = cX1_hold) (hml : c.maxLocals = 7) (hts : ∀ w ∈ wsX1_hold, w.before args s = true) (hown : s.vm.findClass RX1 = some m.cls) (hK : va_K (dC, dI) vwCl (px_TY cyI cyZ cyJ cyB cyO) s) (hN : px_NW s) (hA : ∀ q : Nat, s.heap.size ≤ q → A q) (hQ : ∀ (H : Heap) (locs : List Loc) (pc : Nat) (ls : Array Slot), va_P (dC, dI) vwCl (wdX1_hold cyI cyZ cyJ cyB cyO h_fr a_fr_counts a_fr_answered a_fr_strongest a_fr_secondStrength h_tg a_tg_numbers a_tg_strengths a_tg_silent out.2.1 out.2.2.1 out.2.2.2.1 out.2.2.2.2.1 tg_size tg_numbers tg_strengths out.2.2.2.2.2) H → va_D A (wdX1_hold cyI cyZ cyJ cyB cyO h_fr a_fr_counts a_fr_answered a_fr_strongest a_fr_secondStrength h_tg a_tg_numbers a_tg_strengths a_tg_silent out.2.1 out.2.2.1 out.2.2.2.1 out.2.2.2.2.1 tg_size tg_numbers tg_strengths out.2.2.2.2.2) → va_S A s.heap H locs → decode cX1_hold pc = .ok (.ireturn, 1) → W p l e ({ frames := 2, cells := 0, slots := 0, locals := 48 } : Room) s m args below meth c H locs 0 0 Q (F0 m pc ls [.int out.1]))  (K_67 : Int32 → (Nat → Int32) → (Nat → Int32) → (Nat → Int32) → (Nat → Int32) → (Nat → Int32) → Option (Int32 × (Nat → Int32) × (Nat → Int32) × (Nat → Int32) × (Nat → Int32) × (Nat → Int32))) (hK_67 : ∀ (v5 : Int32) (fr_counts : Nat → Int32) (fr_answered : Nat → Int32) (fr_strongest : Nat → Int32) (fr_secondStrength : Nat → Int32) (tg_silent : Nat → Int32) (H : Heap) (locs : List Loc) (ls : Array Slot), K_67 v5 fr_counts fr_answered fr_strongest fr_secondStrength tg_silent = some out → va_P (dC, dI) vwCl (wdX1_hold cyI cyZ cyJ cyB cyO h_fr a_fr_counts a_fr_answered a_fr_strongest a_fr_secondStrength h_tg a_tg_numbers a_tg_strengths a_tg_silent fr_counts fr_answered fr_strongest fr_secondStrength tg_size tg_numbers tg_strengths tg_silent) H → va_D A (wdX1_hold cyI cyZ cyJ cyB cyO h_fr a_fr_counts a_fr_answered a_fr_strongest a_fr_secondStrength h_tg a_tg_numbers a_tg_strengths a_tg_silent fr_counts fr_answered fr_strongest fr_secondStrength tg_size tg_numbers tg_strengths tg_silent) → va_S A s.heap H locs → lv_has ls 7 [(0, .ref h_fr), (1, .ref h_tg), (2, .int v2), (4, .int v4), (5, .int v5)] → W p l e ({ frames := 2, cells := 0, slots := 0, locals := 48 } : Room) s m args below meth c H locs 0 0 Q (F0 m 67 ls [])) : ∀ (v5 : Int32) (fr_counts : Nat → Int32) (fr_answered : Nat → Int32) (fr_strongest : Nat → Int32) (fr_secondStrength : Nat → Int32) (tg_silent : Nat → Int32) (H : Heap) (locs : List Loc) (ls : Array Slot), pX1_hold_107 v2 v3 v4 tg_size tg_numbers tg_strengths K_67 v5 fr_counts fr_answered fr_strongest fr_secondStrength tg_silent = some out → va_P (dC, dI) vwCl (wdX1_hold cyI cyZ cyJ cyB cyO h_fr a_fr_counts a_fr_answered a_fr_strongest a_fr_secondStrength h_tg a_tg_numbers a_tg_strengths a_tg_silent fr_counts fr_answered fr_strongest fr_secondStrength tg_size tg_numbers tg_strengths tg_silent) H → va_D A (wdX1_hold cyI cyZ cyJ cyB cyO h_fr a_fr_counts a_fr_answered a_fr_strongest a_fr_secondStrength h_tg a_tg_numbers a_tg_strengths a_tg_silent fr_counts fr_answered fr_strongest fr_secondStrength tg_size tg_numbers tg_strengths tg_silent) → va_S A s.heap H locs → lv_has ls 7 [(0, .ref h_fr), (1, .ref h_tg), (2, .int v2), (4, .int v4), (5, .int v5)] → W p l e ({ frames := 2, cells := 0, slots := 0, locals := 48 } : Room) s m args below meth c H locs 0 0 Q (F0 m 107 ls []) := by
  intro v5 fr_counts fr_answered fr_strongest fr_secondStrength tg_silent H locs ls hp hP hD hS hl
  unfold pX1_hold_107 at hp
  refine lv_aload_n hx hb dX1_hold_107 rfl (lv_at hl 1 rfl) ?_
  refine va_get (D := (dC, dI)) (ci := 6) (v := .ref a_tg_silent) (C := RX6) (T := TX6) (N := 4) hx hb hts fX1_hold_X6 hown hK hP 5 rfl rfl 2 (by decide) (hts _ kX1_hold_2) (fun _ h9 => h9) rfl dX1_hold_108 ?_
  refine lv_aload_n hx hb dX1_hold_111 rfl (lv_at hl 0 rfl) ?_
  refine va_get (D := (dC, dI)) (ci := 1) (v := .ref a_fr_strongest) (C := RX1) (T := TX1) (N := 4) hx hb hts fX1_hold_X1 hown hK hP 0 rfl rfl 2 (by decide) (hts _ kX1_hold_5) (fun _ h9 => h9) rfl dX1_hold_112 ?_
  refine lv_iload hx hb dX1_hold_115 (lv_at hl 4 rfl) ?_
  obtain ⟨g_10, hp⟩ := px_i_at hp
  refine va_iald (D := (dC, dI)) hx hb hK hP 3 0 rfl rfl g_10 dX1_hold_117 ?_
  refine lv_iconst (v := (1 : Int32)) hx hb dX1_hold_118 (by decide) ?_
  obtain ⟨g_11, hp⟩ := px_i_at hp
  refine va_zast (D := (dC, dI)) hx hb hK hP hD hS 8 1 rfl rfl g_11 dX1_hold_119 (fun H locs hP hD hS => ?_)
  have hP : va_P (dC, dI) vwCl (wdX1_hold cyI cyZ cyJ cyB cyO h_fr a_fr_counts a_fr_answered a_fr_strongest a_fr_secondStrength h_tg a_tg_numbers a_tg_strengths a_tg_silent fr_counts fr_answered fr_strongest fr_secondStrength tg_size tg_numbers tg_strengths (upd tg_silent (Int32.toNatClampNeg (fr_strongest (Int32.toNatClampNeg v5))) (vp_nar .boolean (1 : Int32)))) H := hP
  have hD : va_D A (wdX1_hold cyI cyZ cyJ cyB cyO h_fr a_fr_counts a_fr_answered a_fr_strongest a_fr_secondStrength h_tg a_tg_numbers a_tg_strengths a_tg_silent fr_counts fr_answered fr_strongest fr_secondStrength tg_size tg_numbers tg_strengths (upd tg_silent (Int32.toNatClampNeg (fr_strongest (Int32.toNatClampNeg v5))) (vp_nar .boolean (1 : Int32)))) := hD
  refine lv_iinc (v := (v5 + (1 : Int32))) (lv' := [(5, .int (v5 + (1 : Int32))), (0, .ref h_fr), (1, .ref h_tg), (2, .int v2), (4, .int v4)]) hx hb dX1_hold_120 hl (k := 4) rfl rfl (by decide) rfl (fun ls hl => ?_)
  refine lv_goto (tgt := 67) hx hb dX1_hold_123 (by decide) ?_
  exact hK_67 (v5 + (1 : Int32)) fr_counts fr_answered fr_strongest fr_secondStrength (upd tg_silent (Int32.toNatClampNeg (fr_strongest (Int32.toNatClampNeg v5))) (vp_nar .boolean (1 : Int32))) _ _ ls hp hP hD hS (lv_sub hl [1, 2, 3, 4, 0] rfl)
set_option maxHeartbeats 4000000 in
set_option maxRecDepth 100000 in
theorem lcX1_hold_67B {p : Program} {l : Launch} {e : Env} {s : State} {m : MethodId} {args : Array Value} {below : List Frame} {meth : Method} {c : Code} {Q : State → Prop} {A : Nat → Prop} (dC : Nat → ClassId) (dI : Nat → Nat → Nat) (cyI cyZ cyJ cyB cyO : ClassId) (h_fr a_fr_counts a_fr_answered a_fr_strongest a_fr_secondStrength h_tg a_tg_numbers a_tg_strengths a_tg_silent : Nat) (fr_counts : Nat → Int32) (fr_answered : Nat → Int32) (fr_strongest : Nat → Int32) (fr_secondStrength : Nat → Int32) (tg_size : Int32) (tg_numbers : Nat → Int32) (tg_strengths : Nat → Int32) (tg_silent : Nat → Int32) (v2 : Int32) (v3 : Int32) (v4 : Int32) (out : Int32 × (Nat → Int32) × (Nat → Int32) × (Nat → Int32) × (Nat → Int32) × (Nat → Int32)) (hx : p.tables.exec = Jvm.exec) (hb : c.code = cX1_hold) (hml : c.maxLocals = 7) (hts : ∀ w ∈ wsX1_hold, w.before args s = true) (hown : s.vm.findClass RX1 = some m.cls) (hK : va_K (dC, dI) vwCl (px_TY cyI cyZ cyJ cyB cyO) s) (hN : px_NW s) (hA : ∀ q : Nat, s.heap.size ≤ q → A q) (hQ : ∀ (H : Heap) (locs : List Loc) (pc : Nat) (ls : Array Slot), va_P (dC, dI) vwCl (wdX1_hold cyI cyZ cyJ cyB cyO h_fr a_fr_counts a_fr_answered a_fr_strongest a_fr_secondStrength h_tg a_tg_numbers a_tg_strengths a_tg_silent out.2.1 out.2.2.1 out.2.2.2.1 out.2.2.2.2.1 tg_size tg_numbers tg_strengths out.2.2.2.2.2) H → va_D A (wdX1_hold cyI cyZ cyJ cyB cyO h_fr a_fr_counts a_fr_answered a_fr_strongest a_fr_secondStrength h_tg a_tg_numbers a_tg_strengths a_tg_silent out.2.1 out.2.2.1 out.2.2.2.1 out.2.2.2.2.1 tg_size tg_numbers tg_strengths out.2.2.2.2.2) → va_S A s.heap H locs → decode cX1_hold pc = .ok (.ireturn, 1) → W p l e ({ frames := 2, cells := 0, slots := 0, locals := 48 } : Room) s m args below meth c H locs 0 0 Q (F0 m pc ls [.int out.1]))  (K_67 : Int32 → (Nat → Int32) → (Nat → Int32) → (Nat → Int32) → (Nat → Int32) → (Nat → Int32) → Option (Int32 × (Nat → Int32) × (Nat → Int32) × (Nat → Int32) × (Nat → Int32) × (Nat → Int32))) (hK_67 : ∀ (v5 : Int32) (fr_counts : Nat → Int32) (fr_answered : Nat → Int32) (fr_strongest : Nat → Int32) (fr_secondStrength : Nat → Int32) (tg_silent : Nat → Int32) (H : Heap) (locs : List Loc) (ls : Array Slot), K_67 v5 fr_counts fr_answered fr_strongest fr_secondStrength tg_silent = some out → va_P (dC, dI) vwCl (wdX1_hold cyI cyZ cyJ cyB cyO h_fr a_fr_counts a_fr_answered a_fr_strongest a_fr_secondStrength h_tg a_tg_numbers a_tg_strengths a_tg_silent fr_counts fr_answered fr_strongest fr_secondStrength tg_size tg_numbers tg_strengths tg_silent) H → va_D A (wdX1_hold cyI cyZ cyJ cyB cyO h_fr a_fr_counts a_fr_answered a_fr_strongest a_fr_secondStrength h_tg a_tg_numbers a_tg_strengths a_tg_silent fr_counts fr_answered fr_strongest fr_secondStrength tg_size tg_numbers tg_strengths tg_silent) → va_S A s.heap H locs → lv_has ls 7 [(0, .ref h_fr), (1, .ref h_tg), (2, .int v2), (4, .int v4), (5, .int v5)] → W p l e ({ frames := 2, cells := 0, slots := 0, locals := 48 } : Room) s m args below meth c H locs 0 0 Q (F0 m 67 ls [])) : ∀ (v5 : Int32) (fr_counts : Nat → Int32) (fr_answered : Nat → Int32) (fr_strongest : Nat → Int32) (fr_secondStrength : Nat → Int32) (tg_silent : Nat → Int32) (H : Heap) (locs : List Loc) (ls : Array Slot), pX1_hold_67B v2 v3 v4 tg_size tg_numbers tg_strengths K_67 v5 fr_counts fr_answered fr_strongest fr_secondStrength tg_silent = some out → va_P (dC, dI) vwCl (wdX1_hold cyI cyZ cyJ cyB cyO h_fr a_fr_counts a_fr_answered a_fr_strongest a_fr_secondStrength h_tg a_tg_numbers a_tg_strengths a_tg_silent fr_counts fr_answered fr_strongest fr_secondStrength tg_size tg_numbers tg_strengths tg_silent) H → va_D A (wdX1_hold cyI cyZ cyJ cyB cyO h_fr a_fr_counts a_fr_answered a_fr_strongest a_fr_secondStrength h_tg a_tg_numbers a_tg_strengths a_tg_silent fr_counts fr_answered fr_strongest fr_secondStrength tg_size tg_numbers tg_strengths tg_silent) → va_S A s.heap H locs → lv_has ls 7 [(0, .ref h_fr), (1, .ref h_tg), (2, .int v2), (4, .int v4), (5, .int v5)] → W p l e ({ frames := 2, cells := 0, slots := 0, locals := 48 } : Room) s m args below meth c H locs 0 0 Q (F0 m 67 ls []) := by
  intro v5 fr_counts fr_answered fr_strongest fr_secondStrength tg_silent H locs ls hp hP hD hS hl
  unfold pX1_hold_67B at hp
  refine lv_iload hx hb dX1_hold_67 (lv_at hl 4 rfl) ?_
  refine lv_iload_n hx hb dX1_hold_69 rfl (lv_at hl 2 rfl) ?_
  refine lv_icmp_ge (tgt := 126) hx hb dX1_hold_70 (by decide) (fun c_5 => ?_) (fun c_5 => ?_)
  · have hp := px_t hp c_5
    exact lcX1_hold_126 dC dI cyI cyZ cyJ cyB cyO h_fr a_fr_counts a_fr_answered a_fr_strongest a_fr_secondStrength h_tg a_tg_numbers a_tg_strengths a_tg_silent fr_counts fr_answered fr_strongest fr_secondStrength tg_size tg_numbers tg_strengths tg_silent v2 v3 v4 out hx hb hml hts hown hK hN hA hQ fr_counts fr_answered fr_strongest fr_secondStrength tg_silent _ _ ls hp hP hD hS (lv_sub hl [0] rfl)
  · have hp := px_f hp c_5
    refine lv_aload_n hx hb dX1_hold_73 rfl (lv_at hl 0 rfl) ?_
    refine lv_aload_n hx hb dX1_hold_74 rfl (lv_at hl 1 rfl) ?_
    refine lv_iload hx hb dX1_hold_75 (lv_at hl 4 rfl) ?_
    refine lv_iload hx hb dX1_hold_77 (lv_at hl 3 rfl) ?_
    obtain ⟨o_6, ho_6, hp⟩ := px_b_at hp
    refine px_callR (v := .int o_6) (va_runV (As := [.ref h_tg, .int v5, .int v4]) (rest := []) ⟨hx, hb, hml, hown, hts⟩ (ccX1_kindOf l dC dI cyI cyZ cyJ cyB cyO h_fr a_fr_counts a_fr_answered a_fr_strongest a_fr_secondStrength h_tg a_tg_numbers a_tg_strengths a_tg_silent fr_counts fr_answered fr_strongest fr_secondStrength tg_size tg_numbers tg_strengths tg_silent v5 v4 o_6 ho_6) (cwV 3 hts gX1_hold_X1_kindOf rfl rfl rfl hvX1_kindOf ⟨Nat.le_of_ble_eq_true rfl, Nat.le_of_ble_eq_true rfl⟩) (px_preRV (wc := (wdX1_kindOf cyI cyZ cyJ cyB cyO h_fr a_fr_counts a_fr_answered a_fr_strongest a_fr_secondStrength h_tg a_tg_numbers a_tg_strengths a_tg_silent fr_counts fr_answered fr_strongest fr_secondStrength tg_size tg_numbers tg_strengths tg_silent)) (ci := 1) (q0 := 0) hK hN hP [0, 1, 2, 3, 4, 5, 6, 7, 8] rfl rfl rfl) rfl rfl hl.1 rfl (lv_room (Nat.le_of_ble_eq_true rfl)) dX1_hold_79 ⟨Nat.zero_le _, Nat.zero_le _⟩) ?_
    refine lv_istore (lv' := [(6, .int o_6), (0, .ref h_fr), (1, .ref h_tg), (2, .int v2), (4, .int v4), (5, .int v5)]) hx hb dX1_hold_82 hl (by decide) rfl (fun ls hl => ?_)
    refine lv_aload_n hx hb dX1_hold_84 rfl (lv_at hl 1 rfl) ?_
    refine va_get (D := (dC, dI)) (ci := 1) (v := .ref a_fr_counts) (C := RX1) (T := TX1) (N := 4) hx hb hts fX1_hold_X1 hown hK hP 0 rfl rfl 0 (by decide) (hts _ kX1_hold_4) (fun _ h9 => h9) rfl dX1_hold_85 ?_
    refine lv_iload hx hb dX1_hold_88 (lv_at hl 0 rfl) ?_
    refine lv_dup2_11 hx hb dX1_hold_90 rfl rfl ?_
    obtain ⟨g_7, hp⟩ := px_i_at hp
    refine va_iald (D := (dC, dI)) hx hb hK hP 1 0 rfl rfl g_7 dX1_hold_91 ?_
    refine lv_iconst (v := (1 : Int32)) hx hb dX1_hold_92 (by decide) ?_
    refine lv_iadd hx hb dX1_hold_93 ?_
    obtain ⟨g_8, hp⟩ := px_i_at hp
    refine va_iast (D := (dC, dI)) hx hb hK hP hD hS 1 0 rfl rfl g_8 dX1_hold_94 (fun H locs hP hD hS => ?_)
    have hP : va_P (dC, dI) vwCl (wdX1_hold cyI cyZ cyJ cyB cyO h_fr a_fr_counts a_fr_answered a_fr_strongest a_fr_secondStrength h_tg a_tg_numbers a_tg_strengths a_tg_silent (upd fr_counts (Int32.toNatClampNeg o_6) ((fr_counts (Int32.toNatClampNeg o_6)) + (1 : Int32))) fr_answered fr_strongest fr_secondStrength tg_size tg_numbers tg_strengths tg_silent) H := hP
    have hD : va_D A (wdX1_hold cyI cyZ cyJ cyB cyO h_fr a_fr_counts a_fr_answered a_fr_strongest a_fr_secondStrength h_tg a_tg_numbers a_tg_strengths a_tg_silent (upd fr_counts (Int32.toNatClampNeg o_6) ((fr_counts (Int32.toNatClampNeg o_6)) + (1 : Int32))) fr_answered fr_strongest fr_secondStrength tg_size tg_numbers tg_strengths tg_silent) := hD
    refine lv_iload hx hb dX1_hold_95 (lv_at hl 0 rfl) ?_
    refine lv_iconst (v := (2 : Int32)) hx hb dX1_hold_97 (by decide) ?_
    refine lv_icmp_eq (tgt := 107) hx hb dX1_hold_98 (by decide) (fun c_9 => ?_) (fun c_9 => ?_)
    · have hp := px_t hp c_9
      exact lcX1_hold_107 dC dI cyI cyZ cyJ cyB cyO h_fr a_fr_counts a_fr_answered a_fr_strongest a_fr_secondStrength h_tg a_tg_numbers a_tg_strengths a_tg_silent fr_counts fr_answered fr_strongest fr_secondStrength tg_size tg_numbers tg_strengths tg_silent v2 v3 v4 out hx hb hml hts hown hK hN hA hQ K_67 hK_67 v5 (upd fr_counts (Int32.toNatClampNeg o_6) ((fr_counts (Int32.toNatClampNeg o_6)) + (1 : Int32))) fr_answered fr_strongest fr_secondStrength tg_silent _ _ ls hp hP hD hS (lv_sub hl [1, 2, 3, 4, 5] rfl)
    · have hp := px_f hp c_9
      refine lv_iload hx hb dX1_hold_101 (lv_at hl 0 rfl) ?_
      refine lv_iconst (v := (4 : Int32)) hx hb dX1_hold_103 (by decide) ?_
      refine lv_icmp_ne (tgt := 120) hx hb dX1_hold_104 (by decide) (fun c_12 => ?_) (fun c_12 => ?_)
      · have hp := px_f hp c_12
        refine lv_iinc (v := (v5 + (1 : Int32))) (lv' := [(5, .int (v5 + (1 : Int32))), (6, .int o_6), (0, .ref h_fr), (1, .ref h_tg), (2, .int v2), (4, .int v4)]) hx hb dX1_hold_120 hl (k := 5) rfl rfl (by decide) rfl (fun ls hl => ?_)
        refine lv_goto (tgt := 67) hx hb dX1_hold_123 (by decide) ?_
        exact hK_67 (v5 + (1 : Int32)) (upd fr_counts (Int32.toNatClampNeg o_6) ((fr_counts (Int32.toNatClampNeg o_6)) + (1 : Int32))) fr_answered fr_strongest fr_secondStrength tg_silent _ _ ls hp hP hD hS (lv_sub hl [2, 3, 4, 5, 0] rfl)
      · have hp := px_t hp c_12
        exact lcX1_hold_107 dC dI cyI cyZ cyJ cyB cyO h_fr a_fr_counts a_fr_answered a_fr_strongest a_fr_secondStrength h_tg a_tg_numbers a_tg_strengths a_tg_silent fr_counts fr_answered fr_strongest fr_secondStrength tg_size tg_numbers tg_strengths tg_silent v2 v3 v4 out hx hb hml hts hown hK hN hA hQ K_67 hK_67 v5 (upd fr_counts (Int32.toNatClampNeg o_6) ((fr_counts (Int32.toNatClampNeg o_6)) + (1 : Int32))) fr_answered fr_strongest fr_secondStrength tg_silent _ _ ls hp hP hD hS (lv_sub hl [1, 2, 3, 4, 5] rfl)
theorem lcX1_hold_67 {p : Program} {l : Launch} {e : Env} {s : State} {m : MethodId} {args : Array Value} {below : List Frame} {meth : Method} {c : Code} {Q : State → Prop} {A : Nat → Prop} (dC : Nat → ClassId) (dI : Nat → Nat → Nat) (cyI cyZ cyJ cyB cyO : ClassId) (h_fr a_fr_counts a_fr_answered a_fr_strongest a_fr_secondStrength h_tg a_tg_numbers a_tg_strengths a_tg_silent : Nat) (fr_counts : Nat → Int32) (fr_answered : Nat → Int32) (fr_strongest : Nat → Int32) (fr_secondStrength : Nat → Int32) (tg_size : Int32) (tg_numbers : Nat → Int32) (tg_strengths : Nat → Int32) (tg_silent : Nat → Int32) (v2 : Int32) (v3 : Int32) (v4 : Int32) (out : Int32 × (Nat → Int32) × (Nat → Int32) × (Nat → Int32) × (Nat → Int32) × (Nat → Int32)) (hx : p.tables.exec = Jvm.exec) (hb : c.code = cX1_hold) (hml : c.maxLocals = 7) (hts : ∀ w ∈ wsX1_hold, w.before args s = true) (hown : s.vm.findClass RX1 = some m.cls) (hK : va_K (dC, dI) vwCl (px_TY cyI cyZ cyJ cyB cyO) s) (hN : px_NW s) (hA : ∀ q : Nat, s.heap.size ≤ q → A q) (hQ : ∀ (H : Heap) (locs : List Loc) (pc : Nat) (ls : Array Slot), va_P (dC, dI) vwCl (wdX1_hold cyI cyZ cyJ cyB cyO h_fr a_fr_counts a_fr_answered a_fr_strongest a_fr_secondStrength h_tg a_tg_numbers a_tg_strengths a_tg_silent out.2.1 out.2.2.1 out.2.2.2.1 out.2.2.2.2.1 tg_size tg_numbers tg_strengths out.2.2.2.2.2) H → va_D A (wdX1_hold cyI cyZ cyJ cyB cyO h_fr a_fr_counts a_fr_answered a_fr_strongest a_fr_secondStrength h_tg a_tg_numbers a_tg_strengths a_tg_silent out.2.1 out.2.2.1 out.2.2.2.1 out.2.2.2.2.1 tg_size tg_numbers tg_strengths out.2.2.2.2.2) → va_S A s.heap H locs → decode cX1_hold pc = .ok (.ireturn, 1) → W p l e ({ frames := 2, cells := 0, slots := 0, locals := 48 } : Room) s m args below meth c H locs 0 0 Q (F0 m pc ls [.int out.1]))  : ∀ n : Nat, ∀ (v5 : Int32) (fr_counts : Nat → Int32) (fr_answered : Nat → Int32) (fr_strongest : Nat → Int32) (fr_secondStrength : Nat → Int32) (tg_silent : Nat → Int32) (H : Heap) (locs : List Loc) (ls : Array Slot), pX1_hold_67 v2 v3 v4 tg_size tg_numbers tg_strengths n v5 fr_counts fr_answered fr_strongest fr_secondStrength tg_silent = some out → va_P (dC, dI) vwCl (wdX1_hold cyI cyZ cyJ cyB cyO h_fr a_fr_counts a_fr_answered a_fr_strongest a_fr_secondStrength h_tg a_tg_numbers a_tg_strengths a_tg_silent fr_counts fr_answered fr_strongest fr_secondStrength tg_size tg_numbers tg_strengths tg_silent) H → va_D A (wdX1_hold cyI cyZ cyJ cyB cyO h_fr a_fr_counts a_fr_answered a_fr_strongest a_fr_secondStrength h_tg a_tg_numbers a_tg_strengths a_tg_silent fr_counts fr_answered fr_strongest fr_secondStrength tg_size tg_numbers tg_strengths tg_silent) → va_S A s.heap H locs → lv_has ls 7 [(0, .ref h_fr), (1, .ref h_tg), (2, .int v2), (4, .int v4), (5, .int v5)] → W p l e ({ frames := 2, cells := 0, slots := 0, locals := 48 } : Room) s m args below meth c H locs 0 0 Q (F0 m 67 ls []) := by
  intro n
  induction n with
  | zero =>
    intro v5 fr_counts fr_answered fr_strongest fr_secondStrength tg_silent H locs ls hp hP hD hS hl
    exact nomatch hp
  | succ n ih => exact lcX1_hold_67B dC dI cyI cyZ cyJ cyB cyO h_fr a_fr_counts a_fr_answered a_fr_strongest a_fr_secondStrength h_tg a_tg_numbers a_tg_strengths a_tg_silent fr_counts fr_answered fr_strongest fr_secondStrength tg_size tg_numbers tg_strengths tg_silent v2 v3 v4 out hx hb hml hts hown hK hN hA hQ (pX1_hold_67 v2 v3 v4 tg_size tg_numbers tg_strengths n) ih
set_option maxHeartbeats 4000000 in
set_option maxRecDepth 100000 in
theorem lcX1_hold_20B {p : Program} {l : Launch} {e : Env} {s : State} {m : MethodId} {args : Array Value} {below : List Frame} {meth : Method} {c : Code} {Q : State → Prop} {A : Nat → Prop} (dC : Nat → ClassId) (dI : Nat → Nat → Nat) (cyI cyZ cyJ cyB cyO : ClassId) (h_fr a_fr_counts a_fr_answered a_fr_strongest a_fr_secondStrength h_tg a_tg_numbers a_tg_strengths a_tg_silent : Nat) (fr_counts : Nat → Int32) (fr_answered : Nat → Int32) (fr_strongest : Nat → Int32) (fr_secondStrength : Nat → Int32) (tg_size : Int32) (tg_numbers : Nat → Int32) (tg_strengths : Nat → Int32) (tg_silent : Nat → Int32) (v2 : Int32) (v3 : Int32) (v4 : Int32) (out : Int32 × (Nat → Int32) × (Nat → Int32) × (Nat → Int32) × (Nat → Int32) × (Nat → Int32)) (hx : p.tables.exec = Jvm.exec) (hb : c.code = cX1_hold) (hml : c.maxLocals = 7) (hts : ∀ w ∈ wsX1_hold, w.before args s = true) (hown : s.vm.findClass RX1 = some m.cls) (hK : va_K (dC, dI) vwCl (px_TY cyI cyZ cyJ cyB cyO) s) (hN : px_NW s) (hA : ∀ q : Nat, s.heap.size ≤ q → A q) (hQ : ∀ (H : Heap) (locs : List Loc) (pc : Nat) (ls : Array Slot), va_P (dC, dI) vwCl (wdX1_hold cyI cyZ cyJ cyB cyO h_fr a_fr_counts a_fr_answered a_fr_strongest a_fr_secondStrength h_tg a_tg_numbers a_tg_strengths a_tg_silent out.2.1 out.2.2.1 out.2.2.2.1 out.2.2.2.2.1 tg_size tg_numbers tg_strengths out.2.2.2.2.2) H → va_D A (wdX1_hold cyI cyZ cyJ cyB cyO h_fr a_fr_counts a_fr_answered a_fr_strongest a_fr_secondStrength h_tg a_tg_numbers a_tg_strengths a_tg_silent out.2.1 out.2.2.1 out.2.2.2.1 out.2.2.2.2.1 tg_size tg_numbers tg_strengths out.2.2.2.2.2) → va_S A s.heap H locs → decode cX1_hold pc = .ok (.ireturn, 1) → W p l e ({ frames := 2, cells := 0, slots := 0, locals := 48 } : Room) s m args below meth c H locs 0 0 Q (F0 m pc ls [.int out.1]))  (K_20 : Int32 → (Nat → Int32) → (Nat → Int32) → (Nat → Int32) → (Nat → Int32) → (Nat → Int32) → Option (Int32 × (Nat → Int32) × (Nat → Int32) × (Nat → Int32) × (Nat → Int32) × (Nat → Int32))) (hK_20 : ∀ (v5 : Int32) (fr_counts : Nat → Int32) (fr_answered : Nat → Int32) (fr_strongest : Nat → Int32) (fr_secondStrength : Nat → Int32) (tg_silent : Nat → Int32) (H : Heap) (locs : List Loc) (ls : Array Slot), K_20 v5 fr_counts fr_answered fr_strongest fr_secondStrength tg_silent = some out → va_P (dC, dI) vwCl (wdX1_hold cyI cyZ cyJ cyB cyO h_fr a_fr_counts a_fr_answered a_fr_strongest a_fr_secondStrength h_tg a_tg_numbers a_tg_strengths a_tg_silent fr_counts fr_answered fr_strongest fr_secondStrength tg_size tg_numbers tg_strengths tg_silent) H → va_D A (wdX1_hold cyI cyZ cyJ cyB cyO h_fr a_fr_counts a_fr_answered a_fr_strongest a_fr_secondStrength h_tg a_tg_numbers a_tg_strengths a_tg_silent fr_counts fr_answered fr_strongest fr_secondStrength tg_size tg_numbers tg_strengths tg_silent) → va_S A s.heap H locs → lv_has ls 7 [(0, .ref h_fr), (1, .ref h_tg), (2, .int v2), (3, .int v3), (4, .int v4), (5, .int v5)] → W p l e ({ frames := 2, cells := 0, slots := 0, locals := 48 } : Room) s m args below meth c H locs 0 0 Q (F0 m 20 ls [])) : ∀ (v5 : Int32) (fr_counts : Nat → Int32) (fr_answered : Nat → Int32) (fr_strongest : Nat → Int32) (fr_secondStrength : Nat → Int32) (tg_silent : Nat → Int32) (H : Heap) (locs : List Loc) (ls : Array Slot), pX1_hold_20B v2 v3 v4 tg_size tg_numbers tg_strengths K_20 v5 fr_counts fr_answered fr_strongest fr_secondStrength tg_silent = some out → va_P (dC, dI) vwCl (wdX1_hold cyI cyZ cyJ cyB cyO h_fr a_fr_counts a_fr_answered a_fr_strongest a_fr_secondStrength h_tg a_tg_numbers a_tg_strengths a_tg_silent fr_counts fr_answered fr_strongest fr_secondStrength tg_size tg_numbers tg_strengths tg_silent) H → va_D A (wdX1_hold cyI cyZ cyJ cyB cyO h_fr a_fr_counts a_fr_answered a_fr_strongest a_fr_secondStrength h_tg a_tg_numbers a_tg_strengths a_tg_silent fr_counts fr_answered fr_strongest fr_secondStrength tg_size tg_numbers tg_strengths tg_silent) → va_S A s.heap H locs → lv_has ls 7 [(0, .ref h_fr), (1, .ref h_tg), (2, .int v2), (3, .int v3), (4, .int v4), (5, .int v5)] → W p l e ({ frames := 2, cells := 0, slots := 0, locals := 48 } : Room) s m args below meth c H locs 0 0 Q (F0 m 20 ls []) := by
  intro v5 fr_counts fr_answered fr_strongest fr_secondStrength tg_silent H locs ls hp hP hD hS hl
  unfold pX1_hold_20B at hp
  refine lv_iload hx hb dX1_hold_20 (lv_at hl 5 rfl) ?_
  refine lv_aload_n hx hb dX1_hold_22 rfl (lv_at hl 1 rfl) ?_
  refine va_get (D := (dC, dI)) (ci := 6) (v := .int tg_size) (C := RX6) (T := TX6) (N := 4) hx hb hts fX1_hold_X6 hown hK hP 5 rfl rfl 3 (by decide) (hts _ kX1_hold_1) (fun _ h9 => h9) rfl dX1_hold_23 ?_
  refine lv_icmp_ge (tgt := 64) hx hb dX1_hold_26 (by decide) (fun c_4 => ?_) (fun c_4 => ?_)
  · have hp := px_t hp c_4
    refine lv_iconst (v := (0 : Int32)) hx hb dX1_hold_64 (by decide) ?_
    refine lv_istore (lv' := [(5, .int (0 : Int32)), (0, .ref h_fr), (1, .ref h_tg), (2, .int v2), (3, .int v3), (4, .int v4)]) hx hb dX1_hold_65 hl (by decide) rfl (fun ls hl => ?_)
    exact lcX1_hold_67 dC dI cyI cyZ cyJ cyB cyO h_fr a_fr_counts a_fr_answered a_fr_strongest a_fr_secondStrength h_tg a_tg_numbers a_tg_strengths a_tg_silent fr_counts fr_answered fr_strongest fr_secondStrength tg_size tg_numbers tg_strengths tg_silent v2 v3 v4 out hx hb hml hts hown hK hN hA hQ px_FU (0 : Int32) fr_counts fr_answered fr_strongest fr_secondStrength tg_silent _ _ ls hp hP hD hS (lv_sub hl [1, 2, 3, 5, 0] rfl)
  · have hp := px_f hp c_4
    refine lv_aload_n hx hb dX1_hold_29 rfl (lv_at hl 1 rfl) ?_
    refine va_get (D := (dC, dI)) (ci := 6) (v := .ref a_tg_silent) (C := RX6) (T := TX6) (N := 4) hx hb hts fX1_hold_X6 hown hK hP 5 rfl rfl 2 (by decide) (hts _ kX1_hold_2) (fun _ h9 => h9) rfl dX1_hold_30 ?_
    refine lv_iload hx hb dX1_hold_33 (lv_at hl 5 rfl) ?_
    obtain ⟨g_13, hp⟩ := px_i_at hp
    refine va_zald (D := (dC, dI)) hx hb hK hP 8 1 rfl rfl g_13 dX1_hold_35 ?_
    refine lv_if_ne (tgt := 58) hx hb dX1_hold_36 (by decide) (fun c_14 => ?_) (fun c_14 => ?_)
    · have hp := px_f hp c_14
      refine lv_iinc (v := (v5 + (1 : Int32))) (lv' := [(5, .int (v5 + (1 : Int32))), (0, .ref h_fr), (1, .ref h_tg), (2, .int v2), (3, .int v3), (4, .int v4)]) hx hb dX1_hold_58 hl (k := 5) rfl rfl (by decide) rfl (fun ls hl => ?_)
      refine lv_goto (tgt := 20) hx hb dX1_hold_61 (by decide) ?_
      exact hK_20 (v5 + (1 : Int32)) fr_counts fr_answered fr_strongest fr_secondStrength tg_silent _ _ ls hp hP hD hS (lv_sub hl [1, 2, 3, 4, 5, 0] rfl)
    · have hp := px_t hp c_14
      refine lv_aload_n hx hb dX1_hold_39 rfl (lv_at hl 0 rfl) ?_
      refine lv_aload_n hx hb dX1_hold_40 rfl (lv_at hl 1 rfl) ?_
      refine lv_iload hx hb dX1_hold_41 (lv_at hl 5 rfl) ?_
      refine lv_aload_n hx hb dX1_hold_43 rfl (lv_at hl 1 rfl) ?_
      refine va_get (D := (dC, dI)) (ci := 6) (v := .ref a_tg_numbers) (C := RX6) (T := TX6) (N := 4) hx hb hts fX1_hold_X6 hown hK hP 5 rfl rfl 0 (by decide) (hts _ kX1_hold_3) (fun _ h9 => h9) rfl dX1_hold_44 ?_
      refine lv_iload hx hb dX1_hold_47 (lv_at hl 5 rfl) ?_
      obtain ⟨g_15, hp⟩ := px_i_at hp
      refine va_iald (D := (dC, dI)) hx hb hK hP 6 0 rfl rfl g_15 dX1_hold_49 ?_
      refine lv_iload_n hx hb dX1_hold_50 rfl (lv_at hl 2 rfl) ?_
      refine lv_iload_n hx hb dX1_hold_51 rfl (lv_at hl 3 rfl) ?_
      obtain ⟨o_16, ho_16, hp⟩ := px_b_at hp
      refine px_callR (v := .int o_16) (va_runSN (host := RX10) (As := [.int (tg_numbers (Int32.toNatClampNeg v5)), .int v2, .int v3]) (rest := [.int v5, .ref h_tg, .ref h_fr]) ⟨hx, hb, hml, hown, hts⟩ (ccX10_slotOf l dC dI cyI cyZ cyJ cyB cyO (tg_numbers (Int32.toNatClampNeg v5)) v2 v3 o_16 ho_16) ⟨va_cnB 3 hts gX1_hold_X10_slotOf_n45 rfl rfl rfl hN.2.2.2.2.2.1 (hts _ kX1_hold_7) hsX10_slotOf ⟨Nat.le_of_ble_eq_true rfl, Nat.le_of_ble_eq_true rfl⟩, hts _ kX1_hold_16, trivial⟩ (px_preR (wc := []) hK hN hP [] rfl) rfl rfl hl.1 rfl (lv_room (Nat.le_of_ble_eq_true rfl)) dX1_hold_52 ⟨Nat.zero_le _, Nat.zero_le _⟩) ?_
      obtain ⟨o_17, ho_17, hp⟩ := px_b_at hp
      refine px_callWv (wc := (wdX1_enter cyI cyZ cyJ cyB cyO h_fr a_fr_counts a_fr_answered a_fr_strongest a_fr_secondStrength h_tg a_tg_numbers a_tg_strengths a_tg_silent fr_counts fr_answered fr_strongest fr_secondStrength tg_size tg_numbers tg_strengths tg_silent)) (wr := []) (w1 := (wdX1_enter cyI cyZ cyJ cyB cyO h_fr a_fr_counts a_fr_answered a_fr_strongest a_fr_secondStrength h_tg a_tg_numbers a_tg_strengths a_tg_silent fr_counts o_17.1 o_17.2.1 o_17.2.2 tg_size tg_numbers tg_strengths tg_silent)) (ws2 := (wdX1_hold cyI cyZ cyJ cyB cyO h_fr a_fr_counts a_fr_answered a_fr_strongest a_fr_secondStrength h_tg a_tg_numbers a_tg_strengths a_tg_silent fr_counts o_17.1 o_17.2.1 o_17.2.2 tg_size tg_numbers tg_strengths tg_silent)) (va_runV (As := [.ref h_tg, .int v5, .int o_16]) (rest := []) ⟨hx, hb, hml, hown, hts⟩ (ccX1_enter l dC dI cyI cyZ cyJ cyB cyO _ h_fr a_fr_counts a_fr_answered a_fr_strongest a_fr_secondStrength h_tg a_tg_numbers a_tg_strengths a_tg_silent fr_counts fr_answered fr_strongest fr_secondStrength tg_size tg_numbers tg_strengths tg_silent v5 o_16 o_17 ho_17) (cwV 3 hts gX1_hold_X1_enter rfl rfl rfl hvX1_enter ⟨Nat.le_of_ble_eq_true rfl, Nat.le_of_ble_eq_true rfl⟩) (px_preWV (wc := (wdX1_enter cyI cyZ cyJ cyB cyO h_fr a_fr_counts a_fr_answered a_fr_strongest a_fr_secondStrength h_tg a_tg_numbers a_tg_strengths a_tg_silent fr_counts fr_answered fr_strongest fr_secondStrength tg_size tg_numbers tg_strengths tg_silent)) (ci := 1) (q0 := 0) hK hN hP hD [0, 1, 2, 3, 4, 5, 6, 7, 8] (by decide) rfl rfl rfl) rfl rfl hl.1 rfl (lv_room (Nat.le_of_ble_eq_true rfl)) dX1_hold_55 ⟨Nat.zero_le _, Nat.zero_le _⟩) hP hD hS hA [0, 1, 2, 3, 4, 5, 6, 7, 8] [] [0, 1, 2, 3, 4, 5, 6, 7, 8] rfl rfl (by decide) (by decide) (by decide) rfl (fun H locs hP hD hS => ?_)
      refine lv_iinc (v := (v5 + (1 : Int32))) (lv' := [(5, .int (v5 + (1 : Int32))), (0, .ref h_fr), (1, .ref h_tg), (2, .int v2), (3, .int v3), (4, .int v4)]) hx hb dX1_hold_58 hl (k := 5) rfl rfl (by decide) rfl (fun ls hl => ?_)
      refine lv_goto (tgt := 20) hx hb dX1_hold_61 (by decide) ?_
      exact hK_20 (v5 + (1 : Int32)) fr_counts o_17.1 o_17.2.1 o_17.2.2 tg_silent _ _ ls hp hP hD hS (lv_sub hl [1, 2, 3, 4, 5, 0] rfl)
theorem lcX1_hold_20 {p : Program} {l : Launch} {e : Env} {s : State} {m : MethodId} {args : Array Value} {below : List Frame} {meth : Method} {c : Code} {Q : State → Prop} {A : Nat → Prop} (dC : Nat → ClassId) (dI : Nat → Nat → Nat) (cyI cyZ cyJ cyB cyO : ClassId) (h_fr a_fr_counts a_fr_answered a_fr_strongest a_fr_secondStrength h_tg a_tg_numbers a_tg_strengths a_tg_silent : Nat) (fr_counts : Nat → Int32) (fr_answered : Nat → Int32) (fr_strongest : Nat → Int32) (fr_secondStrength : Nat → Int32) (tg_size : Int32) (tg_numbers : Nat → Int32) (tg_strengths : Nat → Int32) (tg_silent : Nat → Int32) (v2 : Int32) (v3 : Int32) (v4 : Int32) (out : Int32 × (Nat → Int32) × (Nat → Int32) × (Nat → Int32) × (Nat → Int32) × (Nat → Int32)) (hx : p.tables.exec = Jvm.exec) (hb : c.code = cX1_hold) (hml : c.maxLocals = 7) (hts : ∀ w ∈ wsX1_hold, w.before args s = true) (hown : s.vm.findClass RX1 = some m.cls) (hK : va_K (dC, dI) vwCl (px_TY cyI cyZ cyJ cyB cyO) s) (hN : px_NW s) (hA : ∀ q : Nat, s.heap.size ≤ q → A q) (hQ : ∀ (H : Heap) (locs : List Loc) (pc : Nat) (ls : Array Slot), va_P (dC, dI) vwCl (wdX1_hold cyI cyZ cyJ cyB cyO h_fr a_fr_counts a_fr_answered a_fr_strongest a_fr_secondStrength h_tg a_tg_numbers a_tg_strengths a_tg_silent out.2.1 out.2.2.1 out.2.2.2.1 out.2.2.2.2.1 tg_size tg_numbers tg_strengths out.2.2.2.2.2) H → va_D A (wdX1_hold cyI cyZ cyJ cyB cyO h_fr a_fr_counts a_fr_answered a_fr_strongest a_fr_secondStrength h_tg a_tg_numbers a_tg_strengths a_tg_silent out.2.1 out.2.2.1 out.2.2.2.1 out.2.2.2.2.1 tg_size tg_numbers tg_strengths out.2.2.2.2.2) → va_S A s.heap H locs → decode cX1_hold pc = .ok (.ireturn, 1) → W p l e ({ frames := 2, cells := 0, slots := 0, locals := 48 } : Room) s m args below meth c H locs 0 0 Q (F0 m pc ls [.int out.1]))  : ∀ n : Nat, ∀ (v5 : Int32) (fr_counts : Nat → Int32) (fr_answered : Nat → Int32) (fr_strongest : Nat → Int32) (fr_secondStrength : Nat → Int32) (tg_silent : Nat → Int32) (H : Heap) (locs : List Loc) (ls : Array Slot), pX1_hold_20 v2 v3 v4 tg_size tg_numbers tg_strengths n v5 fr_counts fr_answered fr_strongest fr_secondStrength tg_silent = some out → va_P (dC, dI) vwCl (wdX1_hold cyI cyZ cyJ cyB cyO h_fr a_fr_counts a_fr_answered a_fr_strongest a_fr_secondStrength h_tg a_tg_numbers a_tg_strengths a_tg_silent fr_counts fr_answered fr_strongest fr_secondStrength tg_size tg_numbers tg_strengths tg_silent) H → va_D A (wdX1_hold cyI cyZ cyJ cyB cyO h_fr a_fr_counts a_fr_answered a_fr_strongest a_fr_secondStrength h_tg a_tg_numbers a_tg_strengths a_tg_silent fr_counts fr_answered fr_strongest fr_secondStrength tg_size tg_numbers tg_strengths tg_silent) → va_S A s.heap H locs → lv_has ls 7 [(0, .ref h_fr), (1, .ref h_tg), (2, .int v2), (3, .int v3), (4, .int v4), (5, .int v5)] → W p l e ({ frames := 2, cells := 0, slots := 0, locals := 48 } : Room) s m args below meth c H locs 0 0 Q (F0 m 20 ls []) := by
  intro n
  induction n with
  | zero =>
    intro v5 fr_counts fr_answered fr_strongest fr_secondStrength tg_silent H locs ls hp hP hD hS hl
    exact nomatch hp
  | succ n ih => exact lcX1_hold_20B dC dI cyI cyZ cyJ cyB cyO h_fr a_fr_counts a_fr_answered a_fr_strongest a_fr_secondStrength h_tg a_tg_numbers a_tg_strengths a_tg_silent fr_counts fr_answered fr_strongest fr_secondStrength tg_size tg_numbers tg_strengths tg_silent v2 v3 v4 out hx hb hml hts hown hK hN hA hQ (pX1_hold_20 v2 v3 v4 tg_size tg_numbers tg_strengths n) ih
set_option maxHeartbeats 4000000 in
set_option maxRecDepth 100000 in
theorem ccX1_hold (l : Launch) (dC : Nat → ClassId) (dI : Nat → Nat → Nat) (cyI cyZ cyJ cyB cyO : ClassId) (sz : Nat) (h_fr a_fr_counts a_fr_answered a_fr_strongest a_fr_secondStrength h_tg a_tg_numbers a_tg_strengths a_tg_silent : Nat) (fr_counts : Nat → Int32) (fr_answered : Nat → Int32) (fr_strongest : Nat → Int32) (fr_secondStrength : Nat → Int32) (tg_size : Int32) (tg_numbers : Nat → Int32) (tg_strengths : Nat → Int32) (tg_silent : Nat → Int32) (v2 : Int32) (v3 : Int32) (v4 : Int32) (out : Int32 × (Nat → Int32) × (Nat → Int32) × (Nat → Int32) × (Nat → Int32) × (Nat → Int32)) (hp : pX1_hold v2 v3 v4 tg_size tg_numbers tg_strengths fr_counts fr_answered fr_strongest fr_secondStrength tg_silent = some out) : Met l yX1_hold wsX1_hold ({ frames := 2, cells := 0, slots := 0, locals := 48 } : Room) (px_PW (dC, dI) (px_TY cyI cyZ cyJ cyB cyO) [.ref h_fr, .ref h_tg, .int v2, .int v3, .int v4] (wdX1_hold cyI cyZ cyJ cyB cyO h_fr a_fr_counts a_fr_answered a_fr_strongest a_fr_secondStrength h_tg a_tg_numbers a_tg_strengths a_tg_silent fr_counts fr_answered fr_strongest fr_secondStrength tg_size tg_numbers tg_strengths tg_silent) sz) (px_QW (some (.int out.1)) (dC, dI) (wdX1_hold cyI cyZ cyJ cyB cyO h_fr a_fr_counts a_fr_answered a_fr_strongest a_fr_secondStrength h_tg a_tg_numbers a_tg_strengths a_tg_silent fr_counts fr_answered fr_strongest fr_secondStrength tg_size tg_numbers tg_strengths tg_silent) (wdX1_hold cyI cyZ cyJ cyB cyO h_fr a_fr_counts a_fr_answered a_fr_strongest a_fr_secondStrength h_tg a_tg_numbers a_tg_strengths a_tg_silent out.2.1 out.2.2.1 out.2.2.2.1 out.2.2.2.2.1 tg_size tg_numbers tg_strengths out.2.2.2.2.2) sz) 0 0 (va_A (wdX1_hold cyI cyZ cyJ cyB cyO h_fr a_fr_counts a_fr_answered a_fr_strongest a_fr_secondStrength h_tg a_tg_numbers a_tg_strengths a_tg_silent fr_counts fr_answered fr_strongest fr_secondStrength tg_size tg_numbers tg_strengths tg_silent) sz) := by
  refine Met.ofW (cc := cX1_hold) (maxL := 7) (ret := (some .int)) (by decide) rfl ?_
  intro p e s m args below meth c s₁ B hml hv
  obtain ⟨rfl, hsz, hP, hK, hD0, hN⟩ := hv
  have hx := B.exec
  have hb := B.bytes
  have hr := B.returns
  have hts := atoms_spec (ws := wsX1_hold) B.pre
  have hown : s.vm.findClass RX1 = some m.cls := findClass_of_methodNamed B.named
  have hlocks := B.notSynchronized
  subst hsz
  have hD := hD0.self (sz := s.heap.size)
  generalize hAe : va_A (wdX1_hold cyI cyZ cyJ cyB cyO h_fr a_fr_counts a_fr_answered a_fr_strongest a_fr_secondStrength h_tg a_tg_numbers a_tg_strengths a_tg_silent fr_counts fr_answered fr_strongest fr_secondStrength tg_size tg_numbers tg_strengths tg_silent) s.heap.size = A at hD ⊢
  have hA : ∀ q : Nat, s.heap.size ≤ q → A q := fun q h => by rw [← hAe]; exact Or.inr h
  have hS : va_S A s.heap s.heap [] := va_S.rf
  have hq := px_QWe (v := (some (.int out.1))) (D := (dC, dI)) (w1 := (wdX1_hold cyI cyZ cyJ cyB cyO h_fr a_fr_counts a_fr_answered a_fr_strongest a_fr_secondStrength h_tg a_tg_numbers a_tg_strengths a_tg_silent out.2.1 out.2.2.1 out.2.2.2.1 out.2.2.2.2.1 tg_size tg_numbers tg_strengths out.2.2.2.2.2)) (st := s) hAe
  generalize px_QW (some (.int out.1)) (dC, dI) (wdX1_hold cyI cyZ cyJ cyB cyO h_fr a_fr_counts a_fr_answered a_fr_strongest a_fr_secondStrength h_tg a_tg_numbers a_tg_strengths a_tg_silent fr_counts fr_answered fr_strongest fr_secondStrength tg_size tg_numbers tg_strengths tg_silent) (wdX1_hold cyI cyZ cyJ cyB cyO h_fr a_fr_counts a_fr_answered a_fr_strongest a_fr_secondStrength h_tg a_tg_numbers a_tg_strengths a_tg_silent out.2.1 out.2.2.1 out.2.2.2.1 out.2.2.2.2.1 tg_size tg_numbers tg_strengths out.2.2.2.2.2) s.heap.size = Qc at hq ⊢
  have hQ : ∀ (H : Heap) (locs : List Loc) (pc : Nat) (ls : Array Slot), va_P (dC, dI) vwCl (wdX1_hold cyI cyZ cyJ cyB cyO h_fr a_fr_counts a_fr_answered a_fr_strongest a_fr_secondStrength h_tg a_tg_numbers a_tg_strengths a_tg_silent out.2.1 out.2.2.1 out.2.2.2.1 out.2.2.2.2.1 tg_size tg_numbers tg_strengths out.2.2.2.2.2) H → va_D A (wdX1_hold cyI cyZ cyJ cyB cyO h_fr a_fr_counts a_fr_answered a_fr_strongest a_fr_secondStrength h_tg a_tg_numbers a_tg_strengths a_tg_silent out.2.1 out.2.2.1 out.2.2.2.1 out.2.2.2.2.1 tg_size tg_numbers tg_strengths out.2.2.2.2.2) → va_S A s.heap H locs → decode cX1_hold pc = .ok (.ireturn, 1) → W p l e ({ frames := 2, cells := 0, slots := 0, locals := 48 } : Room) s m (([.ref h_fr, .ref h_tg, .int v2, .int v3, .int v4] : List Value).toArray) below meth c H locs 0 0 (MQ below Qc (([.ref h_fr, .ref h_tg, .int v2, .int v3, .int v4] : List Value).toArray) s 0 0 A) (F0 m pc ls [.int out.1]) := fun H locs pc ls hP hD hS hd => W.iret hx hb hr (fun t ht hW => hq _ t (by rw [ht]; exact hP) hD (hS.F ht)) hS.2.2 hd
  generalize MQ below Qc (([.ref h_fr, .ref h_tg, .int v2, .int v3, .int v4] : List Value).toArray) s 0 0 A = Q at hQ ⊢
  have hl := lv_entry [.ref h_fr, .ref h_tg, .int v2, .int v3, .int v4] (n := 7) (Nat.le_of_ble_eq_true rfl)
  rw [lg_entry_eq]
  generalize (lg_sl [.ref h_fr, .ref h_tg, .int v2, .int v3, .int v4] ++ List.replicate (7 - (lg_sl [.ref h_fr, .ref h_tg, .int v2, .int v3, .int v4]).length) Slot.unset).toArray = ls at hl ⊢
  have hl : lv_has ls 7 [(0, .ref h_fr), (1, .ref h_tg), (2, .int v2), (3, .int v3), (4, .int v4)] := hl
  unfold pX1_hold at hp
  refine lv_iload_n hx hb dX1_hold_0 rfl (lv_at hl 2 rfl) ?_
  refine lv_iconst (v := (1 : Int32)) hx hb dX1_hold_1 (by decide) ?_
  refine lv_bipush (v := (64 : Int32)) hx hb dX1_hold_2 (by decide) ?_
  obtain ⟨o_1, ho_1, hp⟩ := px_b_at hp
  refine px_callR (v := .int o_1) (va_runSN (host := RX10) (As := [.int v2, .int (1 : Int32), .int (64 : Int32)]) (rest := []) ⟨hx, hb, hml, hown, hts⟩ (ccX10_within l dC dI cyI cyZ cyJ cyB cyO v2 (1 : Int32) (64 : Int32) o_1 ho_1) ⟨va_cnB 3 hts gX1_hold_X10_within_n24 rfl rfl rfl hN.2.2.2.2.1 (hts _ kX1_hold_7) hsX10_within ⟨Nat.le_of_ble_eq_true rfl, Nat.le_of_ble_eq_true rfl⟩, hts _ kX1_hold_6, trivial⟩ (px_preR (wc := []) hK hN hP [] rfl) rfl rfl hl.1 rfl (lv_room (Nat.le_of_ble_eq_true rfl)) dX1_hold_4 ⟨Nat.zero_le _, Nat.zero_le _⟩) ?_
  refine lv_if_ne (tgt := 12) hx hb dX1_hold_7 (by decide) (fun c_2 => ?_) (fun c_2 => ?_)
  · have hp := px_f hp c_2
    refine lv_aload_n hx hb dX1_hold_12 rfl (lv_at hl 0 rfl) ?_
    refine lv_iload_n hx hb dX1_hold_13 rfl (lv_at hl 2 rfl) ?_
    obtain ⟨o_3, ho_3, hp⟩ := px_b_at hp
    refine px_callWv (wc := (wdX1_clear cyI cyZ cyJ cyB cyO h_fr a_fr_counts a_fr_answered a_fr_strongest a_fr_secondStrength fr_counts fr_answered fr_strongest fr_secondStrength)) (wr := [(h_tg, .inr (6, [.ref a_tg_numbers, .ref a_tg_strengths, .ref a_tg_silent, .int tg_size])), (a_tg_numbers, .inl (cyI, 16, .inl tg_numbers)), (a_tg_strengths, .inl (cyI, 16, .inl tg_strengths)), (a_tg_silent, .inl (cyZ, 16, .inl tg_silent))]) (w1 := (wdX1_clear cyI cyZ cyJ cyB cyO h_fr a_fr_counts a_fr_answered a_fr_strongest a_fr_secondStrength o_3.1 o_3.2.1 o_3.2.2.1 o_3.2.2.2)) (ws2 := (wdX1_hold cyI cyZ cyJ cyB cyO h_fr a_fr_counts a_fr_answered a_fr_strongest a_fr_secondStrength h_tg a_tg_numbers a_tg_strengths a_tg_silent o_3.1 o_3.2.1 o_3.2.2.1 o_3.2.2.2 tg_size tg_numbers tg_strengths tg_silent)) (va_runV (As := [.int v2]) (rest := []) ⟨hx, hb, hml, hown, hts⟩ (ccX1_clear l dC dI cyI cyZ cyJ cyB cyO _ h_fr a_fr_counts a_fr_answered a_fr_strongest a_fr_secondStrength fr_counts fr_answered fr_strongest fr_secondStrength v2 o_3 ho_3) (cwV 1 hts gX1_hold_X1_clear rfl rfl rfl hvX1_clear ⟨Nat.le_of_ble_eq_true rfl, Nat.le_of_ble_eq_true rfl⟩) (px_preWV (wc := (wdX1_clear cyI cyZ cyJ cyB cyO h_fr a_fr_counts a_fr_answered a_fr_strongest a_fr_secondStrength fr_counts fr_answered fr_strongest fr_secondStrength)) (ci := 1) (q0 := 0) hK hN hP hD [0, 1, 2, 3, 4] (by decide) rfl rfl rfl) rfl rfl hl.1 rfl (lv_room (Nat.le_of_ble_eq_true rfl)) dX1_hold_14 ⟨Nat.zero_le _, Nat.zero_le _⟩) hP hD hS hA [0, 1, 2, 3, 4] [5, 6, 7, 8] [4, 5, 6, 7, 8, 0, 1, 2, 3] rfl rfl (by decide) (by decide) (by decide) rfl (fun H locs hP hD hS => ?_)
    refine lv_iconst (v := (0 : Int32)) hx hb dX1_hold_17 (by decide) ?_
    refine lv_istore (lv' := [(5, .int (0 : Int32)), (0, .ref h_fr), (1, .ref h_tg), (2, .int v2), (3, .int v3), (4, .int v4)]) hx hb dX1_hold_18 hl (by decide) rfl (fun ls hl => ?_)
    exact lcX1_hold_20 dC dI cyI cyZ cyJ cyB cyO h_fr a_fr_counts a_fr_answered a_fr_strongest a_fr_secondStrength h_tg a_tg_numbers a_tg_strengths a_tg_silent fr_counts fr_answered fr_strongest fr_secondStrength tg_size tg_numbers tg_strengths tg_silent v2 v3 v4 out hx hb hml hts hown hK hN hA hQ px_FU (0 : Int32) o_3.1 o_3.2.1 o_3.2.2.1 o_3.2.2.2 tg_silent _ _ ls hp hP hD hS (lv_sub hl [1, 2, 3, 4, 5, 0] rfl)
  · have hp := px_t hp c_2
    refine lv_iconst (v := (0 : Int32)) hx hb dX1_hold_10 (by decide) ?_
    have ho := px_s hp
    subst ho
    exact hQ _ _ _ _ hP hD hS dX1_hold_11
/-! TagReader$Series.wasRun()Z -/
theorem hvX4_wasRun : yX4_wasRun.cls = RX4 ∧ yX4_wasRun.cls ≠ "java/lang/invoke/MethodHandle" ∧ yX4_wasRun.cls ≠ "java/lang/invoke/VarHandle" ∧ (parseMethodDescriptor yX4_wasRun.desc).map (fun d => d.parameters.length) = some 0 := by decide +kernel
theorem fX4_wasRun_X4 : ∀ w ∈ u_ws RX4 TX4 1, w ∈ wsX4_wasRun := fun _ h => List.mem_cons_of_mem _ (List.mem_append_right _ h)
theorem kX4_wasRun_1 : (.fieldLink RX4 9 "TagReader$Series" "counts" "[I" : Cond) ∈ wsX4_wasRun := List.mem_of_getElem? (i := 1) rfl
set_option maxHeartbeats 4000000 in
set_option maxRecDepth 100000 in
theorem ccX4_wasRun (l : Launch) (dC : Nat → ClassId) (dI : Nat → Nat → Nat) (cyI cyZ cyJ cyB cyO : ClassId) (h_se a_se_counts : Nat) (se_counts : Nat → Int32) (out : Int32) (hp : pX4_wasRun se_counts = some out) : Met l yX4_wasRun wsX4_wasRun ({ frames := 0, cells := 0, slots := 0, locals := 0 } : Room) (px_PR (dC, dI) (px_TY cyI cyZ cyJ cyB cyO) [.ref h_se] (wdX4_wasRun cyI cyZ cyJ cyB cyO h_se a_se_counts se_counts)) (px_QR (.int out)) 0 0 (fun _ => False) := by
  refine Met.ofW (cc := cX4_wasRun) (maxL := 1) (ret := (some .boolean)) (by decide) rfl ?_
  intro p e s m args below meth c s₁ B hml hv
  obtain ⟨rfl, hP, hK, hN⟩ := hv
  have hx := B.exec
  have hb := B.bytes
  have hr := B.returns
  have hts := atoms_spec (ws := wsX4_wasRun) B.pre
  have hown : s.vm.findClass RX4 = some m.cls := findClass_of_methodNamed B.named
  have hlocks := B.notSynchronized
  have hQ : ∀ (pc : Nat) (ls : Array Slot), narrow .boolean (.int out) = .int out → decode cX4_wasRun pc = .ok (.ireturn, 1) → W p l e ({ frames := 0, cells := 0, slots := 0, locals := 0 } : Room) s m (([.ref h_se] : List Value).toArray) below meth c s.heap [] 0 0 (MQ below (px_QR (.int out)) (([.ref h_se] : List Value).toArray) s 0 0 (fun _ => False)) (F0 m pc ls [.int out]) := fun pc ls hz hd => W.zret hx hb hr hz (fun t ht hW => ⟨rfl, ht⟩) (fun q h => by cases h) hd
  generalize MQ below (px_QR (.int out)) (([.ref h_se] : List Value).toArray) s 0 0 (fun _ => False) = Q at hQ ⊢
  have hl := lv_entry [.ref h_se] (n := 1) (Nat.le_of_ble_eq_true rfl)
  rw [lg_entry_eq]
  generalize (lg_sl [.ref h_se] ++ List.replicate (1 - (lg_sl [.ref h_se]).length) Slot.unset).toArray = ls at hl ⊢
  have hl : lv_has ls 1 [(0, .ref h_se)] := hl
  unfold pX4_wasRun at hp
  refine lv_aload_n hx hb dX4_wasRun_0 rfl (lv_at hl 0 rfl) ?_
  refine va_get (D := (dC, dI)) (ci := 4) (v := .ref a_se_counts) (C := RX4) (T := TX4) (N := 1) hx hb hts fX4_wasRun_X4 hown hK hP 0 rfl rfl 0 (by decide) (hts _ kX4_wasRun_1) (fun _ h9 => h9) rfl dX4_wasRun_1 ?_
  refine lv_iconst (v := (0 : Int32)) hx hb dX4_wasRun_4 (by decide) ?_
  refine va_iald (D := (dC, dI)) hx hb hK hP 1 0 rfl rfl (px_in0_4) dX4_wasRun_5 ?_
  refine lv_if_le (tgt := 13) hx hb dX4_wasRun_6 (by decide) (fun c_1 => ?_) (fun c_1 => ?_)
  · have hp := px_t hp c_1
    refine lv_iconst (v := (0 : Int32)) hx hb dX4_wasRun_13 (by decide) ?_
    have ho := px_s hp
    subst ho
    exact hQ _ _ narrow_b0 dX4_wasRun_14
  · have hp := px_f hp c_1
    refine lv_iconst (v := (1 : Int32)) hx hb dX4_wasRun_9 (by decide) ?_
    refine lv_goto (tgt := 14) hx hb dX4_wasRun_10 (by decide) ?_
    have ho := px_s hp
    subst ho
    exact hQ _ _ narrow_b1 dX4_wasRun_14
/-! TagReader$Series.bounded(I[I)I -/
theorem hsX4_bounded : yX4_bounded.cls ≠ "java/lang/invoke/MethodHandle" ∧ yX4_bounded.cls ≠ "java/lang/invoke/VarHandle" ∧ (parseMethodDescriptor yX4_bounded.desc).map (fun d => d.parameters.length) = some 2 := by decide +kernel
theorem kX4_bounded_1 : (.methodLink RX4 30 Lib.Math.max.name : Cond) ∈ wsX4_bounded := List.mem_of_getElem? (i := 1) rfl
theorem kX4_bounded_2 : (.static Lib.Math.max.name : Cond) ∈ wsX4_bounded := List.mem_of_getElem? (i := 2) rfl
theorem kX4_bounded_3 : (.initialized "java/lang/Math" : Cond) ∈ wsX4_bounded := List.mem_of_getElem? (i := 3) rfl
theorem kX4_bounded_4 : (.code Lib.Math.max.name Lib.Math.max.code 2 (some .int) : Cond) ∈ wsX4_bounded := List.mem_of_getElem? (i := 4) rfl
theorem kX4_bounded_5 : (.methodLink RX4 36 Lib.Math.min.name : Cond) ∈ wsX4_bounded := List.mem_of_getElem? (i := 5) rfl
theorem kX4_bounded_6 : (.static Lib.Math.min.name : Cond) ∈ wsX4_bounded := List.mem_of_getElem? (i := 6) rfl
theorem kX4_bounded_7 : (.code Lib.Math.min.name Lib.Math.min.code 2 (some .int) : Cond) ∈ wsX4_bounded := List.mem_of_getElem? (i := 7) rfl
set_option maxHeartbeats 4000000 in
set_option maxRecDepth 100000 in
theorem ccX4_bounded (l : Launch) (dC : Nat → ClassId) (dI : Nat → Nat → Nat) (cyI cyZ cyJ cyB cyO : ClassId) (a_ru : Nat) (ru : Nat → Int32) (v0 : Int32) (out : Int32) (hp : pX4_bounded v0 ru = some out) : Met l yX4_bounded wsX4_bounded ({ frames := 1, cells := 0, slots := 0, locals := 24 } : Room) (px_PR (dC, dI) (px_TY cyI cyZ cyJ cyB cyO) [.int v0, .ref a_ru] (wdX4_bounded cyI cyZ cyJ cyB cyO a_ru ru)) (px_QR (.int out)) 0 0 (fun _ => False) := by
  refine Met.ofW (cc := cX4_bounded) (maxL := 2) (ret := (some .int)) (by decide) rfl ?_
  intro p e s m args below meth c s₁ B hml hv
  obtain ⟨rfl, hP, hK, hN⟩ := hv
  have hx := B.exec
  have hb := B.bytes
  have hr := B.returns
  have hts := atoms_spec (ws := wsX4_bounded) B.pre
  have hown : s.vm.findClass RX4 = some m.cls := findClass_of_methodNamed B.named
  have hlocks := B.notSynchronized
  have hQ : ∀ (pc : Nat) (ls : Array Slot), decode cX4_bounded pc = .ok (.ireturn, 1) → W p l e ({ frames := 1, cells := 0, slots := 0, locals := 24 } : Room) s m (([.int v0, .ref a_ru] : List Value).toArray) below meth c s.heap [] 0 0 (MQ below (px_QR (.int out)) (([.int v0, .ref a_ru] : List Value).toArray) s 0 0 (fun _ => False)) (F0 m pc ls [.int out]) := fun pc ls hd => W.iret hx hb hr (fun t ht hW => ⟨rfl, ht⟩) (fun q h => by cases h) hd
  generalize MQ below (px_QR (.int out)) (([.int v0, .ref a_ru] : List Value).toArray) s 0 0 (fun _ => False) = Q at hQ ⊢
  have hl := lv_entry [.int v0, .ref a_ru] (n := 2) (Nat.le_of_ble_eq_true rfl)
  rw [lg_entry_eq]
  generalize (lg_sl [.int v0, .ref a_ru] ++ List.replicate (2 - (lg_sl [.int v0, .ref a_ru]).length) Slot.unset).toArray = ls at hl ⊢
  have hl : lv_has ls 2 [(0, .int v0), (1, .ref a_ru)] := hl
  unfold pX4_bounded at hp
  refine lv_iload_n hx hb dX4_bounded_0 rfl (lv_at hl 0 rfl) ?_
  refine lv_aload_n hx hb dX4_bounded_1 rfl (lv_at hl 1 rfl) ?_
  refine lv_iconst (v := (1 : Int32)) hx hb dX4_bounded_2 (by decide) ?_
  refine va_iald (D := (dC, dI)) hx hb hK hP 0 0 rfl rfl (px_in1_9) dX4_bounded_3 ?_
  refine va_mmax hx hb (by rw [hml]; exact hl.1.symm) hown (hts _ kX4_bounded_1) (hts _ kX4_bounded_2) (hts _ kX4_bounded_3) (hts _ kX4_bounded_4) (Nat.le_of_ble_eq_true rfl) (Nat.le_of_ble_eq_true rfl) (Nat.zero_le _) (Nat.zero_le _) dX4_bounded_4 ?_
  refine lv_aload_n hx hb dX4_bounded_7 rfl (lv_at hl 1 rfl) ?_
  refine lv_iconst (v := (2 : Int32)) hx hb dX4_bounded_8 (by decide) ?_
  refine va_iald (D := (dC, dI)) hx hb hK hP 0 0 rfl rfl (px_in2_9) dX4_bounded_9 ?_
  refine va_mmin hx hb (by rw [hml]; exact hl.1.symm) hown (hts _ kX4_bounded_5) (hts _ kX4_bounded_6) (hts _ kX4_bounded_3) (hts _ kX4_bounded_7) (Nat.le_of_ble_eq_true rfl) (Nat.le_of_ble_eq_true rfl) (Nat.zero_le _) (Nat.zero_le _) dX4_bounded_10 ?_
  have ho := px_s hp
  subst ho
  exact hQ _ _ dX4_bounded_13
/-! TagReader$Series.next(LTagReader$Frame;[I)I -/
theorem hsX4_next : yX4_next.cls ≠ "java/lang/invoke/MethodHandle" ∧ yX4_next.cls ≠ "java/lang/invoke/VarHandle" ∧ (parseMethodDescriptor yX4_next.desc).map (fun d => d.parameters.length) = some 2 := by decide +kernel
theorem fX4_next_X1 : ∀ w ∈ u_ws RX1 TX1 4, w ∈ wsX4_next := fun _ h => List.mem_cons_of_mem _ (List.mem_append_right _ h)
theorem kX4_next_1 : (.fieldLink RX4 25 "TagReader$Frame" "counts" "[I" : Cond) ∈ wsX4_next := List.mem_of_getElem? (i := 1) rfl
set_option maxHeartbeats 4000000 in
set_option maxRecDepth 100000 in
theorem lcX4_next_51 {p : Program} {l : Launch} {e : Env} {s : State} {m : MethodId} {args : Array Value} {below : List Frame} {meth : Method} {c : Code} {Q : State → Prop} (dC : Nat → ClassId) (dI : Nat → Nat → Nat) (cyI cyZ cyJ cyB cyO : ClassId) (h_fr a_fr_counts a_fr_answered a_fr_strongest a_fr_secondStrength a_ru : Nat) (fr_counts : Nat → Int32) (fr_answered : Nat → Int32) (fr_strongest : Nat → Int32) (fr_secondStrength : Nat → Int32) (ru : Nat → Int32) (out : Int32) (hx : p.tables.exec = Jvm.exec) (hb : c.code = cX4_next) (hml : c.maxLocals = 5) (hts : ∀ w ∈ wsX4_next, w.before args s = true) (hown : s.vm.findClass RX4 = some m.cls) (hK : va_K (dC, dI) vwCl (px_TY cyI cyZ cyJ cyB cyO) s) (hN : px_NW s) (hP : va_P (dC, dI) vwCl (wdX4_next cyI cyZ cyJ cyB cyO h_fr a_fr_counts a_fr_answered a_fr_strongest a_fr_secondStrength a_ru fr_counts fr_answered fr_strongest fr_secondStrength ru) s.heap) (hQ : ∀ (pc : Nat) (ls : Array Slot), decode cX4_next pc = .ok (.ireturn, 1) → W p l e ({ frames := 0, cells := 0, slots := 0, locals := 0 } : Room) s m args below meth c s.heap [] 0 0 Q (F0 m pc ls [.int out]))  : ∀ (v2 : Int32) (v3 : Int32) (ls : Array Slot), pX4_next_51 fr_counts ru v2 v3 = some out → lv_has ls 5 [(1, .ref a_ru), (2, .int v2), (3, .int v3)] → W p l e ({ frames := 0, cells := 0, slots := 0, locals := 0 } : Room) s m args below meth c s.heap [] 0 0 Q (F0 m 51 ls []) := by
  intro v2 v3 ls hp hl
  unfold pX4_next_51 at hp
  refine lv_bipush (v := (100 : Int32)) hx hb dX4_next_51 (by decide) ?_
  refine lv_iload_n hx hb dX4_next_53 rfl (lv_at hl 2 rfl) ?_
  refine lv_imul hx hb dX4_next_54 ?_
  refine lv_aload_n hx hb dX4_next_55 rfl (lv_at hl 0 rfl) ?_
  refine lv_iconst (v := (5 : Int32)) hx hb dX4_next_56 (by decide) ?_
  refine va_iald (D := (dC, dI)) hx hb hK hP 5 0 rfl rfl (px_in5_9) dX4_next_57 ?_
  refine lv_iload_n hx hb dX4_next_58 rfl (lv_at hl 1 rfl) ?_
  refine lv_imul hx hb dX4_next_59 ?_
  refine lv_icmp_lt (tgt := 73) hx hb dX4_next_60 (by decide) (fun c_2 => ?_) (fun c_2 => ?_)
  · have hp := px_t hp c_2
    refine lv_iload_n hx hb dX4_next_73 rfl (lv_at hl 1 rfl) ?_
    have ho := px_s hp
    subst ho
    exact hQ _ _ dX4_next_74
  · have hp := px_f hp c_2
    refine lv_iload_n hx hb dX4_next_63 rfl (lv_at hl 1 rfl) ?_
    refine lv_aload_n hx hb dX4_next_64 rfl (lv_at hl 0 rfl) ?_
    refine lv_bipush (v := (6 : Int32)) hx hb dX4_next_65 (by decide) ?_
    refine va_iald (D := (dC, dI)) hx hb hK hP 5 0 rfl rfl (px_in6_9) dX4_next_67 ?_
    refine lv_imul hx hb dX4_next_68 ?_
    refine lv_bipush (v := (100 : Int32)) hx hb dX4_next_69 (by decide) ?_
    refine lv_idiv hx hb dX4_next_71 (by decide) ?_
    have ho := px_s hp
    subst ho
    exact hQ _ _ dX4_next_72
set_option maxHeartbeats 4000000 in
set_option maxRecDepth 100000 in
theorem ccX4_next (l : Launch) (dC : Nat → ClassId) (dI : Nat → Nat → Nat) (cyI cyZ cyJ cyB cyO : ClassId) (h_fr a_fr_counts a_fr_answered a_fr_strongest a_fr_secondStrength a_ru : Nat) (fr_counts : Nat → Int32) (fr_answered : Nat → Int32) (fr_strongest : Nat → Int32) (fr_secondStrength : Nat → Int32) (ru : Nat → Int32) (out : Int32) (hp : pX4_next fr_counts ru = some out) : Met l yX4_next wsX4_next ({ frames := 0, cells := 0, slots := 0, locals := 0 } : Room) (px_PR (dC, dI) (px_TY cyI cyZ cyJ cyB cyO) [.ref h_fr, .ref a_ru] (wdX4_next cyI cyZ cyJ cyB cyO h_fr a_fr_counts a_fr_answered a_fr_strongest a_fr_secondStrength a_ru fr_counts fr_answered fr_strongest fr_secondStrength ru)) (px_QR (.int out)) 0 0 (fun _ => False) := by
  refine Met.ofW (cc := cX4_next) (maxL := 5) (ret := (some .int)) (by decide) rfl ?_
  intro p e s m args below meth c s₁ B hml hv
  obtain ⟨rfl, hP, hK, hN⟩ := hv
  have hx := B.exec
  have hb := B.bytes
  have hr := B.returns
  have hts := atoms_spec (ws := wsX4_next) B.pre
  have hown : s.vm.findClass RX4 = some m.cls := findClass_of_methodNamed B.named
  have hlocks := B.notSynchronized
  have hQ : ∀ (pc : Nat) (ls : Array Slot), decode cX4_next pc = .ok (.ireturn, 1) → W p l e ({ frames := 0, cells := 0, slots := 0, locals := 0 } : Room) s m (([.ref h_fr, .ref a_ru] : List Value).toArray) below meth c s.heap [] 0 0 (MQ below (px_QR (.int out)) (([.ref h_fr, .ref a_ru] : List Value).toArray) s 0 0 (fun _ => False)) (F0 m pc ls [.int out]) := fun pc ls hd => W.iret hx hb hr (fun t ht hW => ⟨rfl, ht⟩) (fun q h => by cases h) hd
  generalize MQ below (px_QR (.int out)) (([.ref h_fr, .ref a_ru] : List Value).toArray) s 0 0 (fun _ => False) = Q at hQ ⊢
  have hl := lv_entry [.ref h_fr, .ref a_ru] (n := 5) (Nat.le_of_ble_eq_true rfl)
  rw [lg_entry_eq]
  generalize (lg_sl [.ref h_fr, .ref a_ru] ++ List.replicate (5 - (lg_sl [.ref h_fr, .ref a_ru]).length) Slot.unset).toArray = ls at hl ⊢
  have hl : lv_has ls 5 [(0, .ref h_fr), (1, .ref a_ru)] := hl
  unfold pX4_next at hp
  refine lv_aload_n hx hb dX4_next_0 rfl (lv_at hl 0 rfl) ?_
  refine va_get (D := (dC, dI)) (ci := 1) (v := .ref a_fr_counts) (C := RX1) (T := TX1) (N := 4) hx hb hts fX4_next_X1 hown hK hP 0 rfl rfl 0 (by decide) (hts _ kX4_next_1) (fun _ h9 => h9) rfl dX4_next_1 ?_
  refine lv_iconst (v := (0 : Int32)) hx hb dX4_next_4 (by decide) ?_
  refine va_iald (D := (dC, dI)) hx hb hK hP 1 0 rfl rfl (px_in0_5) dX4_next_5 ?_
  refine lv_istore_n (lv' := [(2, .int (fr_counts (Int32.toNatClampNeg (0 : Int32)))), (0, .ref h_fr), (1, .ref a_ru)]) hx hb dX4_next_6 rfl hl (by decide) rfl (fun ls hl => ?_)
  refine lv_aload_n hx hb dX4_next_7 rfl (lv_at hl 1 rfl) ?_
  refine va_get (D := (dC, dI)) (ci := 1) (v := .ref a_fr_counts) (C := RX1) (T := TX1) (N := 4) hx hb hts fX4_next_X1 hown hK hP 0 rfl rfl 0 (by decide) (hts _ kX4_next_1) (fun _ h9 => h9) rfl dX4_next_8 ?_
  refine lv_iconst (v := (1 : Int32)) hx hb dX4_next_11 (by decide) ?_
  refine va_iald (D := (dC, dI)) hx hb hK hP 1 0 rfl rfl (px_in1_5) dX4_next_12 ?_
  refine lv_istore_n (lv' := [(3, .int (fr_counts (Int32.toNatClampNeg (1 : Int32)))), (2, .int (fr_counts (Int32.toNatClampNeg (0 : Int32)))), (0, .ref h_fr), (1, .ref a_ru)]) hx hb dX4_next_13 rfl hl (by decide) rfl (fun ls hl => ?_)
  refine lv_aload_n hx hb dX4_next_14 rfl (lv_at hl 2 rfl) ?_
  refine va_get (D := (dC, dI)) (ci := 1) (v := .ref a_fr_counts) (C := RX1) (T := TX1) (N := 4) hx hb hts fX4_next_X1 hown hK hP 0 rfl rfl 0 (by decide) (hts _ kX4_next_1) (fun _ h9 => h9) rfl dX4_next_15 ?_
  refine lv_iconst (v := (3 : Int32)) hx hb dX4_next_18 (by decide) ?_
  refine va_iald (D := (dC, dI)) hx hb hK hP 1 0 rfl rfl (px_in3_5) dX4_next_19 ?_
  refine lv_istore (lv' := [(4, .int (fr_counts (Int32.toNatClampNeg (3 : Int32)))), (3, .int (fr_counts (Int32.toNatClampNeg (1 : Int32)))), (2, .int (fr_counts (Int32.toNatClampNeg (0 : Int32)))), (0, .ref h_fr), (1, .ref a_ru)]) hx hb dX4_next_20 hl (by decide) rfl (fun ls hl => ?_)
  refine lv_iload_n hx hb dX4_next_22 rfl (lv_at hl 2 rfl) ?_
  refine lv_iload_n hx hb dX4_next_23 rfl (lv_at hl 1 rfl) ?_
  refine lv_icmp_le (tgt := 51) hx hb dX4_next_24 (by decide) (fun c_1 => ?_) (fun c_1 => ?_)
  · have hp := px_t hp c_1
    exact lcX4_next_51 dC dI cyI cyZ cyJ cyB cyO h_fr a_fr_counts a_fr_answered a_fr_strongest a_fr_secondStrength a_ru fr_counts fr_answered fr_strongest fr_secondStrength ru out hx hb hml hts hown hK hN hP hQ (fr_counts (Int32.toNatClampNeg (0 : Int32))) (fr_counts (Int32.toNatClampNeg (1 : Int32))) ls hp (lv_sub hl [4, 2, 1] rfl)
  · have hp := px_f hp c_1
    refine lv_bipush (v := (100 : Int32)) hx hb dX4_next_27 (by decide) ?_
    refine lv_iload hx hb dX4_next_29 (lv_at hl 0 rfl) ?_
    refine lv_imul hx hb dX4_next_31 ?_
    refine lv_aload_n hx hb dX4_next_32 rfl (lv_at hl 4 rfl) ?_
    refine lv_iconst (v := (3 : Int32)) hx hb dX4_next_33 (by decide) ?_
    refine va_iald (D := (dC, dI)) hx hb hK hP 5 0 rfl rfl (px_in3_9) dX4_next_34 ?_
    refine lv_iload_n hx hb dX4_next_35 rfl (lv_at hl 2 rfl) ?_
    refine lv_iload_n hx hb dX4_next_36 rfl (lv_at hl 1 rfl) ?_
    refine lv_isub hx hb dX4_next_37 ?_
    refine lv_imul hx hb dX4_next_38 ?_
    refine lv_icmp_lt (tgt := 51) hx hb dX4_next_39 (by decide) (fun c_3 => ?_) (fun c_3 => ?_)
    · have hp := px_t hp c_3
      exact lcX4_next_51 dC dI cyI cyZ cyJ cyB cyO h_fr a_fr_counts a_fr_answered a_fr_strongest a_fr_secondStrength a_ru fr_counts fr_answered fr_strongest fr_secondStrength ru out hx hb hml hts hown hK hN hP hQ (fr_counts (Int32.toNatClampNeg (0 : Int32))) (fr_counts (Int32.toNatClampNeg (1 : Int32))) ls hp (lv_sub hl [4, 2, 1] rfl)
    · have hp := px_f hp c_3
      refine lv_iload_n hx hb dX4_next_42 rfl (lv_at hl 2 rfl) ?_
      refine lv_aload_n hx hb dX4_next_43 rfl (lv_at hl 4 rfl) ?_
      refine lv_iconst (v := (4 : Int32)) hx hb dX4_next_44 (by decide) ?_
      refine va_iald (D := (dC, dI)) hx hb hK hP 5 0 rfl rfl (px_in4_9) dX4_next_45 ?_
      refine lv_imul hx hb dX4_next_46 ?_
      refine lv_bipush (v := (100 : Int32)) hx hb dX4_next_47 (by decide) ?_
      refine lv_idiv hx hb dX4_next_49 (by decide) ?_
      have ho := px_s hp
      subst ho
      exact hQ _ _ dX4_next_50
/-! TagReader$Series.run(LTagReader$Frame;LTagReader$Tags;[II)Z -/
theorem hvX4_run : yX4_run.cls = RX4 ∧ yX4_run.cls ≠ "java/lang/invoke/MethodHandle" ∧ yX4_run.cls ≠ "java/lang/invoke/VarHandle" ∧ (parseMethodDescriptor yX4_run.desc).map (fun d => d.parameters.length) = some 4 := by decide +kernel
theorem fX4_run_X4 : ∀ w ∈ u_ws RX4 TX4 1, w ∈ wsX4_run := fun _ h => List.mem_cons_of_mem _ (List.mem_append_left _ (List.mem_append_left _ (List.mem_append_right _ h)))
theorem kX4_run_1 : (.fieldLink RX4 9 "TagReader$Series" "counts" "[I" : Cond) ∈ wsX4_run := List.mem_of_getElem? (i := 1) rfl
theorem fX4_run_X1 : ∀ w ∈ u_ws RX1 TX1 4, w ∈ wsX4_run := fun _ h => List.mem_cons_of_mem _ (List.mem_append_left _ (List.mem_append_right _ h))
theorem kX4_run_2 : (.fieldLink RX4 25 "TagReader$Frame" "counts" "[I" : Cond) ∈ wsX4_run := List.mem_of_getElem? (i := 2) rfl
set_option maxHeartbeats 4000000 in
set_option maxRecDepth 100000 in
theorem lcX4_run_126 {p : Program} {l : Launch} {e : Env} {s : State} {m : MethodId} {args : Array Value} {below : List Frame} {meth : Method} {c : Code} {Q : State → Prop} {A : Nat → Prop} (dC : Nat → ClassId) (dI : Nat → Nat → Nat) (cyI cyZ cyJ cyB cyO : ClassId) (h_se a_se_counts h_fr a_fr_counts a_fr_answered a_fr_strongest a_fr_secondStrength h_tg a_tg_numbers a_tg_strengths a_tg_silent a_ru : Nat) (se_counts : Nat → Int32) (fr_counts : Nat → Int32) (fr_answered : Nat → Int32) (fr_strongest : Nat → Int32) (fr_secondStrength : Nat → Int32) (tg_size : Int32) (tg_numbers : Nat → Int32) (tg_strengths : Nat → Int32) (tg_silent : Nat → Int32) (ru : Nat → Int32) (v4 : Int32) (out : Int32 × (Nat → Int32) × (Nat → Int32) × (Nat → Int32) × (Nat → Int32) × (Nat → Int32) × (Nat → Int32)) (hx : p.tables.exec = Jvm.exec) (hb : c.code = cX4_run) (hml : c.maxLocals = 8) (hts : ∀ w ∈ wsX4_run, w.before args s = true) (hown : s.vm.findClass RX4 = some m.cls) (hK : va_K (dC, dI) vwCl (px_TY cyI cyZ cyJ cyB cyO) s) (hN : px_NW s) (hA : ∀ q : Nat, s.heap.size ≤ q → A q) (hQ : ∀ (H : Heap) (locs : List Loc) (pc : Nat) (ls : Array Slot), narrow .boolean (.int out.1) = .int out.1 → va_P (dC, dI) vwCl (wdX4_run cyI cyZ cyJ cyB cyO h_se a_se_counts h_fr a_fr_counts a_fr_answered a_fr_strongest a_fr_secondStrength h_tg a_tg_numbers a_tg_strengths a_tg_silent a_ru out.2.1 out.2.2.1 out.2.2.2.1 out.2.2.2.2.1 out.2.2.2.2.2.1 tg_size tg_numbers tg_strengths out.2.2.2.2.2.2 ru) H → va_D A (wdX4_run cyI cyZ cyJ cyB cyO h_se a_se_counts h_fr a_fr_counts a_fr_answered a_fr_strongest a_fr_secondStrength h_tg a_tg_numbers a_tg_strengths a_tg_silent a_ru out.2.1 out.2.2.1 out.2.2.2.1 out.2.2.2.2.1 out.2.2.2.2.2.1 tg_size tg_numbers tg_strengths out.2.2.2.2.2.2 ru) → va_S A s.heap H locs → decode cX4_run pc = .ok (.ireturn, 1) → W p l e ({ frames := 3, cells := 0, slots := 0, locals := 74 } : Room) s m args below meth c H locs 0 0 Q (F0 m pc ls [.int out.1]))  (K_42 : Int32 → Int32 → Int32 → (Nat → Int32) → (Nat → Int32) → (Nat → Int32) → (Nat → Int32) → (Nat → Int32) → (Nat → Int32) → Option (Int32 × (Nat → Int32) × (Nat → Int32) × (Nat → Int32) × (Nat → Int32) × (Nat → Int32) × (Nat → Int32))) (hK_42 : ∀ (v5 : Int32) (v6 : Int32) (v7 : Int32) (se_counts : Nat → Int32) (fr_counts : Nat → Int32) (fr_answered : Nat → Int32) (fr_strongest : Nat → Int32) (fr_secondStrength : Nat → Int32) (tg_silent : Nat → Int32) (H : Heap) (locs : List Loc) (ls : Array Slot), K_42 v5 v6 v7 se_counts fr_counts fr_answered fr_strongest fr_secondStrength tg_silent = some out → va_P (dC, dI) vwCl (wdX4_run cyI cyZ cyJ cyB cyO h_se a_se_counts h_fr a_fr_counts a_fr_answered a_fr_strongest a_fr_secondStrength h_tg a_tg_numbers a_tg_strengths a_tg_silent a_ru se_counts fr_counts fr_answered fr_strongest fr_secondStrength tg_size tg_numbers tg_strengths tg_silent ru) H → va_D A (wdX4_run cyI cyZ cyJ cyB cyO h_se a_se_counts h_fr a_fr_counts a_fr_answered a_fr_strongest a_fr_secondStrength h_tg a_tg_numbers a_tg_strengths a_tg_silent a_ru se_counts fr_counts fr_answered fr_strongest fr_secondStrength tg_size tg_numbers tg_strengths tg_silent ru) → va_S A s.heap H locs → lv_has ls 8 [(0, .ref h_se), (1, .ref h_fr), (2, .ref h_tg), (3, .ref a_ru), (4, .int v4), (5, .int v5), (6, .int v6), (7, .int v7)] → W p l e ({ frames := 3, cells := 0, slots := 0, locals := 74 } : Room) s m args below meth c H locs 0 0 Q (F0 m 42 ls [])) : ∀ (v7 : Int32) (t0 : Int32) (se_counts : Nat → Int32) (fr_counts : Nat → Int32) (fr_answered : Nat → Int32) (fr_strongest : Nat → Int32) (fr_secondStrength : Nat → Int32) (tg_silent : Nat → Int32) (H : Heap) (locs : List Loc) (ls : Array Slot), pX4_run_126 v4 tg_size tg_numbers tg_strengths ru K_42 v7 t0 se_counts fr_counts fr_answered fr_strongest fr_secondStrength tg_silent = some out → va_P (dC, dI) vwCl (wdX4_run cyI cyZ cyJ cyB cyO h_se a_se_counts h_fr a_fr_counts a_fr_answered a_fr_strongest a_fr_secondStrength h_tg a_tg_numbers a_tg_strengths a_tg_silent a_ru se_counts fr_counts fr_answered fr_strongest fr_secondStrength tg_size tg_numbers tg_strengths tg_silent ru) H → va_D A (wdX4_run cyI cyZ cyJ cyB cyO h_se a_se_counts h_fr a_fr_counts a_fr_answered a_fr_strongest a_fr_secondStrength h_tg a_tg_numbers a_tg_strengths a_tg_silent a_ru se_counts fr_counts fr_answered fr_strongest fr_secondStrength tg_size tg_numbers tg_strengths tg_silent ru) → va_S A s.heap H locs → lv_has ls 8 [(0, .ref h_se), (1, .ref h_fr), (2, .ref h_tg), (3, .ref a_ru), (4, .int v4), (7, .int v7)] → W p l e ({ frames := 3, cells := 0, slots := 0, locals := 74 } : Room) s m args below meth c H locs 0 0 Q (F0 m 126 ls [.int t0]) := by
  intro v7 t0 se_counts fr_counts fr_answered fr_strongest fr_secondStrength tg_silent H locs ls hp hP hD hS hl
  unfold pX4_run_126 at hp
  refine lv_istore (lv' := [(6, .int t0), (0, .ref h_se), (1, .ref h_fr), (2, .ref h_tg), (3, .ref a_ru), (4, .int v4), (7, .int v7)]) hx hb dX4_run_126 hl (by decide) rfl (fun ls hl => ?_)
  refine lv_aload_n hx hb dX4_run_128 rfl (lv_at hl 2 rfl) ?_
  refine lv_aload_n hx hb dX4_run_129 rfl (lv_at hl 4 rfl) ?_
  obtain ⟨o_11, ho_11, hp⟩ := px_b_at hp
  refine px_callR (v := .int o_11) (va_runS (As := [.ref h_fr, .ref a_ru]) (rest := []) ⟨hx, hb, hml, hown, hts⟩ (ccX4_next l dC dI cyI cyZ cyJ cyB cyO h_fr a_fr_counts a_fr_answered a_fr_strongest a_fr_secondStrength a_ru fr_counts fr_answered fr_strongest fr_secondStrength ru o_11 ho_11) (va_cwS 2 hts gX4_run_X4_next rfl rfl rfl hsX4_next ⟨Nat.le_of_ble_eq_true rfl, Nat.le_of_ble_eq_true rfl⟩) (px_preR (wc := (wdX4_next cyI cyZ cyJ cyB cyO h_fr a_fr_counts a_fr_answered a_fr_strongest a_fr_secondStrength a_ru fr_counts fr_answered fr_strongest fr_secondStrength ru)) hK hN hP [2, 3, 4, 5, 6, 11] rfl) rfl rfl hl.1 rfl (lv_room (Nat.le_of_ble_eq_true rfl)) dX4_run_130 ⟨Nat.zero_le _, Nat.zero_le _⟩) ?_
  refine lv_aload_n hx hb dX4_run_133 rfl (lv_at hl 4 rfl) ?_
  obtain ⟨o_12, ho_12, hp⟩ := px_b_at hp
  refine px_callR (v := .int o_12) (va_runS (As := [.int o_11, .ref a_ru]) (rest := []) ⟨hx, hb, hml, hown, hts⟩ (ccX4_bounded l dC dI cyI cyZ cyJ cyB cyO a_ru ru o_11 o_12 ho_12) (va_cwS 2 hts gX4_run_X4_bounded rfl rfl rfl hsX4_bounded ⟨Nat.le_of_ble_eq_true rfl, Nat.le_of_ble_eq_true rfl⟩) (px_preR (wc := (wdX4_bounded cyI cyZ cyJ cyB cyO a_ru ru)) hK hN hP [11] rfl) rfl rfl hl.1 rfl (lv_room (Nat.le_of_ble_eq_true rfl)) dX4_run_134 ⟨Nat.zero_le _, Nat.zero_le _⟩) ?_
  refine lv_istore (lv' := [(5, .int o_12), (6, .int t0), (0, .ref h_se), (1, .ref h_fr), (2, .ref h_tg), (3, .ref a_ru), (4, .int v4), (7, .int v7)]) hx hb dX4_run_137 hl (by decide) rfl (fun ls hl => ?_)
  refine lv_iinc (v := (v7 + (1 : Int32))) (lv' := [(7, .int (v7 + (1 : Int32))), (5, .int o_12), (6, .int t0), (0, .ref h_se), (1, .ref h_fr), (2, .ref h_tg), (3, .ref a_ru), (4, .int v4)]) hx hb dX4_run_139 hl (k := 7) rfl rfl (by decide) rfl (fun ls hl => ?_)
  refine lv_goto (tgt := 42) hx hb dX4_run_142 (by decide) ?_
  exact hK_42 o_12 t0 (v7 + (1 : Int32)) se_counts fr_counts fr_answered fr_strongest fr_secondStrength tg_silent _ _ ls hp hP hD hS (lv_sub hl [3, 4, 5, 6, 7, 1, 2, 0] rfl)
set_option maxHeartbeats 4000000 in
set_option maxRecDepth 100000 in
theorem lcX4_run_42B {p : Program} {l : Launch} {e : Env} {s : State} {m : MethodId} {args : Array Value} {below : List Frame} {meth : Method} {c : Code} {Q : State → Prop} {A : Nat → Prop} (dC : Nat → ClassId) (dI : Nat → Nat → Nat) (cyI cyZ cyJ cyB cyO : ClassId) (h_se a_se_counts h_fr a_fr_counts a_fr_answered a_fr_strongest a_fr_secondStrength h_tg a_tg_numbers a_tg_strengths a_tg_silent a_ru : Nat) (se_counts : Nat → Int32) (fr_counts : Nat → Int32) (fr_answered : Nat → Int32) (fr_strongest : Nat → Int32) (fr_secondStrength : Nat → Int32) (tg_size : Int32) (tg_numbers : Nat → Int32) (tg_strengths : Nat → Int32) (tg_silent : Nat → Int32) (ru : Nat → Int32) (v4 : Int32) (out : Int32 × (Nat → Int32) × (Nat → Int32) × (Nat → Int32) × (Nat → Int32) × (Nat → Int32) × (Nat → Int32)) (hx : p.tables.exec = Jvm.exec) (hb : c.code = cX4_run) (hml : c.maxLocals = 8) (hts : ∀ w ∈ wsX4_run, w.before args s = true) (hown : s.vm.findClass RX4 = some m.cls) (hK : va_K (dC, dI) vwCl (px_TY cyI cyZ cyJ cyB cyO) s) (hN : px_NW s) (hA : ∀ q : Nat, s.heap.size ≤ q → A q) (hQ : ∀ (H : Heap) (locs : List Loc) (pc : Nat) (ls : Array Slot), narrow .boolean (.int out.1) = .int out.1 → va_P (dC, dI) vwCl (wdX4_run cyI cyZ cyJ cyB cyO h_se a_se_counts h_fr a_fr_counts a_fr_answered a_fr_strongest a_fr_secondStrength h_tg a_tg_numbers a_tg_strengths a_tg_silent a_ru out.2.1 out.2.2.1 out.2.2.2.1 out.2.2.2.2.1 out.2.2.2.2.2.1 tg_size tg_numbers tg_strengths out.2.2.2.2.2.2 ru) H → va_D A (wdX4_run cyI cyZ cyJ cyB cyO h_se a_se_counts h_fr a_fr_counts a_fr_answered a_fr_strongest a_fr_secondStrength h_tg a_tg_numbers a_tg_strengths a_tg_silent a_ru out.2.1 out.2.2.1 out.2.2.2.1 out.2.2.2.2.1 out.2.2.2.2.2.1 tg_size tg_numbers tg_strengths out.2.2.2.2.2.2 ru) → va_S A s.heap H locs → decode cX4_run pc = .ok (.ireturn, 1) → W p l e ({ frames := 3, cells := 0, slots := 0, locals := 74 } : Room) s m args below meth c H locs 0 0 Q (F0 m pc ls [.int out.1]))  (K_42 : Int32 → Int32 → Int32 → (Nat → Int32) → (Nat → Int32) → (Nat → Int32) → (Nat → Int32) → (Nat → Int32) → (Nat → Int32) → Option (Int32 × (Nat → Int32) × (Nat → Int32) × (Nat → Int32) × (Nat → Int32) × (Nat → Int32) × (Nat → Int32))) (hK_42 : ∀ (v5 : Int32) (v6 : Int32) (v7 : Int32) (se_counts : Nat → Int32) (fr_counts : Nat → Int32) (fr_answered : Nat → Int32) (fr_strongest : Nat → Int32) (fr_secondStrength : Nat → Int32) (tg_silent : Nat → Int32) (H : Heap) (locs : List Loc) (ls : Array Slot), K_42 v5 v6 v7 se_counts fr_counts fr_answered fr_strongest fr_secondStrength tg_silent = some out → va_P (dC, dI) vwCl (wdX4_run cyI cyZ cyJ cyB cyO h_se a_se_counts h_fr a_fr_counts a_fr_answered a_fr_strongest a_fr_secondStrength h_tg a_tg_numbers a_tg_strengths a_tg_silent a_ru se_counts fr_counts fr_answered fr_strongest fr_secondStrength tg_size tg_numbers tg_strengths tg_silent ru) H → va_D A (wdX4_run cyI cyZ cyJ cyB cyO h_se a_se_counts h_fr a_fr_counts a_fr_answered a_fr_strongest a_fr_secondStrength h_tg a_tg_numbers a_tg_strengths a_tg_silent a_ru se_counts fr_counts fr_answered fr_strongest fr_secondStrength tg_size tg_numbers tg_strengths tg_silent ru) → va_S A s.heap H locs → lv_has ls 8 [(0, .ref h_se), (1, .ref h_fr), (2, .ref h_tg), (3, .ref a_ru), (4, .int v4), (5, .int v5), (6, .int v6), (7, .int v7)] → W p l e ({ frames := 3, cells := 0, slots := 0, locals := 74 } : Room) s m args below meth c H locs 0 0 Q (F0 m 42 ls [])) : ∀ (v5 : Int32) (v6 : Int32) (v7 : Int32) (se_counts : Nat → Int32) (fr_counts : Nat → Int32) (fr_answered : Nat → Int32) (fr_strongest : Nat → Int32) (fr_secondStrength : Nat → Int32) (tg_silent : Nat → Int32) (H : Heap) (locs : List Loc) (ls : Array Slot), pX4_run_42B v4 tg_size tg_numbers tg_strengths ru K_42 v5 v6 v7 se_counts fr_counts fr_answered fr_strongest fr_secondStrength tg_silent = some out → va_P (dC, dI) vwCl (wdX4_run cyI cyZ cyJ cyB cyO h_se a_se_counts h_fr a_fr_counts a_fr_answered a_fr_strongest a_fr_secondStrength h_tg a_tg_numbers a_tg_strengths a_tg_silent a_ru se_counts fr_counts fr_answered fr_strongest fr_secondStrength tg_size tg_numbers tg_strengths tg_silent ru) H → va_D A (wdX4_run cyI cyZ cyJ cyB cyO h_se a_se_counts h_fr a_fr_counts a_fr_answered a_fr_strongest a_fr_secondStrength h_tg a_tg_numbers a_tg_strengths a_tg_silent a_ru se_counts fr_counts fr_answered fr_strongest fr_secondStrength tg_size tg_numbers tg_strengths tg_silent ru) → va_S A s.heap H locs → lv_has ls 8 [(0, .ref h_se), (1, .ref h_fr), (2, .ref h_tg), (3, .ref a_ru), (4, .int v4), (5, .int v5), (6, .int v6), (7, .int v7)] → W p l e ({ frames := 3, cells := 0, slots := 0, locals := 74 } : Room) s m args below meth c H locs 0 0 Q (F0 m 42 ls []) := by
  intro v5 v6 v7 se_counts fr_counts fr_answered fr_strongest fr_secondStrength tg_silent H locs ls hp hP hD hS hl
  unfold pX4_run_42B at hp
  refine lv_iload hx hb dX4_run_42 (lv_at hl 7 rfl) ?_
  refine lv_aload_n hx hb dX4_run_44 rfl (lv_at hl 3 rfl) ?_
  refine lv_bipush (v := (8 : Int32)) hx hb dX4_run_45 (by decide) ?_
  refine va_iald (D := (dC, dI)) hx hb hK hP 11 0 rfl rfl (px_in8_9) dX4_run_47 ?_
  refine lv_icmp_ge (tgt := 145) hx hb dX4_run_48 (by decide) (fun c_3 => ?_) (fun c_3 => ?_)
  · have hp := px_t hp c_3
    refine lv_iload hx hb dX4_run_145 (lv_at hl 6 rfl) ?_
    obtain ⟨g_4, hp⟩ := px_o_at hp
    have ho := px_s hp
    subst ho
    exact hQ _ _ _ _ g_4 hP hD hS dX4_run_147
  · have hp := px_f hp c_3
    refine lv_iload hx hb dX4_run_51 (lv_at hl 6 rfl) ?_
    refine lv_if_ne (tgt := 145) hx hb dX4_run_53 (by decide) (fun c_5 => ?_) (fun c_5 => ?_)
    · have hp := px_f hp c_5
      refine lv_iload hx hb dX4_run_145 (lv_at hl 6 rfl) ?_
      obtain ⟨g_6, hp⟩ := px_o_at hp
      have ho := px_s hp
      subst ho
      exact hQ _ _ _ _ g_6 hP hD hS dX4_run_147
    · have hp := px_t hp c_5
      refine lv_aload_n hx hb dX4_run_56 rfl (lv_at hl 0 rfl) ?_
      refine va_get (D := (dC, dI)) (ci := 4) (v := .ref a_se_counts) (C := RX4) (T := TX4) (N := 1) hx hb hts fX4_run_X4 hown hK hP 0 rfl rfl 0 (by decide) (hts _ kX4_run_1) (fun _ h9 => h9) rfl dX4_run_57 ?_
      refine lv_iconst (v := (2 : Int32)) hx hb dX4_run_60 (by decide) ?_
      refine lv_dup2_11 hx hb dX4_run_61 rfl rfl ?_
      refine va_iald (D := (dC, dI)) hx hb hK hP 1 0 rfl rfl (px_in2_4) dX4_run_62 ?_
      refine lv_aload_n hx hb dX4_run_63 rfl (lv_at hl 1 rfl) ?_
      refine lv_aload_n hx hb dX4_run_64 rfl (lv_at hl 2 rfl) ?_
      refine lv_iload hx hb dX4_run_65 (lv_at hl 5 rfl) ?_
      refine lv_iload hx hb dX4_run_67 (lv_at hl 4 rfl) ?_
      refine lv_iload hx hb dX4_run_69 (lv_at hl 7 rfl) ?_
      refine lv_iadd hx hb dX4_run_71 ?_
      refine lv_aload_n hx hb dX4_run_72 rfl (lv_at hl 3 rfl) ?_
      refine lv_bipush (v := (7 : Int32)) hx hb dX4_run_73 (by decide) ?_
      refine va_iald (D := (dC, dI)) hx hb hK hP 11 0 rfl rfl (px_in7_9) dX4_run_75 ?_
      obtain ⟨o_7, ho_7, hp⟩ := px_b_at hp
      refine px_callWi (r := o_7.1) (wc := (wdX1_hold cyI cyZ cyJ cyB cyO h_fr a_fr_counts a_fr_answered a_fr_strongest a_fr_secondStrength h_tg a_tg_numbers a_tg_strengths a_tg_silent fr_counts fr_answered fr_strongest fr_secondStrength tg_size tg_numbers tg_strengths tg_silent)) (wr := [(h_se, .inr (4, [.ref a_se_counts])), (a_se_counts, .inl (cyI, 4, .inl se_counts)), (a_ru, .inl (cyI, 9, .inl ru))]) (w1 := (wdX1_hold cyI cyZ cyJ cyB cyO h_fr a_fr_counts a_fr_answered a_fr_strongest a_fr_secondStrength h_tg a_tg_numbers a_tg_strengths a_tg_silent o_7.2.1 o_7.2.2.1 o_7.2.2.2.1 o_7.2.2.2.2.1 tg_size tg_numbers tg_strengths o_7.2.2.2.2.2)) (ws2 := (wdX4_run cyI cyZ cyJ cyB cyO h_se a_se_counts h_fr a_fr_counts a_fr_answered a_fr_strongest a_fr_secondStrength h_tg a_tg_numbers a_tg_strengths a_tg_silent a_ru se_counts o_7.2.1 o_7.2.2.1 o_7.2.2.2.1 o_7.2.2.2.2.1 tg_size tg_numbers tg_strengths o_7.2.2.2.2.2 ru)) (va_runV (As := [.ref h_tg, .int v5, .int (v4 + v7), .int (ru (Int32.toNatClampNeg (7 : Int32)))]) (rest := [.int (se_counts (Int32.toNatClampNeg (2 : Int32))), .int (2 : Int32), .ref a_se_counts]) ⟨hx, hb, hml, hown, hts⟩ (ccX1_hold l dC dI cyI cyZ cyJ cyB cyO _ h_fr a_fr_counts a_fr_answered a_fr_strongest a_fr_secondStrength h_tg a_tg_numbers a_tg_strengths a_tg_silent fr_counts fr_answered fr_strongest fr_secondStrength tg_size tg_numbers tg_strengths tg_silent v5 (v4 + v7) (ru (Int32.toNatClampNeg (7 : Int32))) o_7 ho_7) (cwV 4 hts gX4_run_X1_hold rfl rfl rfl hvX1_hold ⟨Nat.le_of_ble_eq_true rfl, Nat.le_of_ble_eq_true rfl⟩) (px_preWV (wc := (wdX1_hold cyI cyZ cyJ cyB cyO h_fr a_fr_counts a_fr_answered a_fr_strongest a_fr_secondStrength h_tg a_tg_numbers a_tg_strengths a_tg_silent fr_counts fr_answered fr_strongest fr_secondStrength tg_size tg_numbers tg_strengths tg_silent)) (ci := 1) (q0 := 2) hK hN hP hD [2, 3, 4, 5, 6, 7, 8, 9, 10] (by decide) rfl rfl rfl) rfl rfl hl.1 rfl (lv_room (Nat.le_of_ble_eq_true rfl)) dX4_run_76 ⟨Nat.zero_le _, Nat.zero_le _⟩) hP hD hS hA [2, 3, 4, 5, 6, 7, 8, 9, 10] [0, 1, 11] [0, 1, 3, 4, 5, 6, 7, 8, 9, 10, 11, 2] rfl rfl (by decide) (by decide) (by decide) rfl (fun H locs hP hD hS => ?_)
      refine lv_iadd hx hb dX4_run_79 ?_
      refine va_iast (D := (dC, dI)) hx hb hK hP hD hS 1 0 rfl rfl (px_in2_4) dX4_run_80 (fun H locs hP hD hS => ?_)
      have hP : va_P (dC, dI) vwCl (wdX4_run cyI cyZ cyJ cyB cyO h_se a_se_counts h_fr a_fr_counts a_fr_answered a_fr_strongest a_fr_secondStrength h_tg a_tg_numbers a_tg_strengths a_tg_silent a_ru (upd se_counts (Int32.toNatClampNeg (2 : Int32)) ((se_counts (Int32.toNatClampNeg (2 : Int32))) + o_7.1)) o_7.2.1 o_7.2.2.1 o_7.2.2.2.1 o_7.2.2.2.2.1 tg_size tg_numbers tg_strengths o_7.2.2.2.2.2 ru) H := hP
      have hD : va_D A (wdX4_run cyI cyZ cyJ cyB cyO h_se a_se_counts h_fr a_fr_counts a_fr_answered a_fr_strongest a_fr_secondStrength h_tg a_tg_numbers a_tg_strengths a_tg_silent a_ru (upd se_counts (Int32.toNatClampNeg (2 : Int32)) ((se_counts (Int32.toNatClampNeg (2 : Int32))) + o_7.1)) o_7.2.1 o_7.2.2.1 o_7.2.2.2.1 o_7.2.2.2.2.1 tg_size tg_numbers tg_strengths o_7.2.2.2.2.2 ru) := hD
      refine lv_aload_n hx hb dX4_run_81 rfl (lv_at hl 0 rfl) ?_
      refine va_get (D := (dC, dI)) (ci := 4) (v := .ref a_se_counts) (C := RX4) (T := TX4) (N := 1) hx hb hts fX4_run_X4 hown hK hP 0 rfl rfl 0 (by decide) (hts _ kX4_run_1) (fun _ h9 => h9) rfl dX4_run_82 ?_
      refine lv_iconst (v := (0 : Int32)) hx hb dX4_run_85 (by decide) ?_
      refine lv_dup2_11 hx hb dX4_run_86 rfl rfl ?_
      refine va_iald (D := (dC, dI)) hx hb hK hP 1 0 rfl rfl (px_in0_4) dX4_run_87 ?_
      refine lv_iconst (v := (1 : Int32)) hx hb dX4_run_88 (by decide) ?_
      refine lv_iadd hx hb dX4_run_89 ?_
      refine lv_topi (fun x_8 ex_8 => ?_)
      have hp := px_lt_at hp ex_8
      refine va_iast (D := (dC, dI)) hx hb hK hP hD hS 1 0 rfl rfl (px_in0_4) dX4_run_90 (fun H locs hP hD hS => ?_)
      have hP : va_P (dC, dI) vwCl (wdX4_run cyI cyZ cyJ cyB cyO h_se a_se_counts h_fr a_fr_counts a_fr_answered a_fr_strongest a_fr_secondStrength h_tg a_tg_numbers a_tg_strengths a_tg_silent a_ru (upd (upd se_counts (Int32.toNatClampNeg (2 : Int32)) ((se_counts (Int32.toNatClampNeg (2 : Int32))) + o_7.1)) (Int32.toNatClampNeg (0 : Int32)) x_8) o_7.2.1 o_7.2.2.1 o_7.2.2.2.1 o_7.2.2.2.2.1 tg_size tg_numbers tg_strengths o_7.2.2.2.2.2 ru) H := hP
      have hD : va_D A (wdX4_run cyI cyZ cyJ cyB cyO h_se a_se_counts h_fr a_fr_counts a_fr_answered a_fr_strongest a_fr_secondStrength h_tg a_tg_numbers a_tg_strengths a_tg_silent a_ru (upd (upd se_counts (Int32.toNatClampNeg (2 : Int32)) ((se_counts (Int32.toNatClampNeg (2 : Int32))) + o_7.1)) (Int32.toNatClampNeg (0 : Int32)) x_8) o_7.2.1 o_7.2.2.1 o_7.2.2.2.1 o_7.2.2.2.2.1 tg_size tg_numbers tg_strengths o_7.2.2.2.2.2 ru) := hD
      refine lv_aload_n hx hb dX4_run_91 rfl (lv_at hl 0 rfl) ?_
      refine va_get (D := (dC, dI)) (ci := 4) (v := .ref a_se_counts) (C := RX4) (T := TX4) (N := 1) hx hb hts fX4_run_X4 hown hK hP 0 rfl rfl 0 (by decide) (hts _ kX4_run_1) (fun _ h9 => h9) rfl dX4_run_92 ?_
      refine lv_iconst (v := (1 : Int32)) hx hb dX4_run_95 (by decide) ?_
      refine lv_dup2_11 hx hb dX4_run_96 rfl rfl ?_
      refine va_iald (D := (dC, dI)) hx hb hK hP 1 0 rfl rfl (px_in1_4) dX4_run_97 ?_
      refine lv_iload hx hb dX4_run_98 (lv_at hl 5 rfl) ?_
      refine lv_iadd hx hb dX4_run_100 ?_
      refine lv_topi (fun x_9 ex_9 => ?_)
      have hp := px_lt_at hp ex_9
      refine va_iast (D := (dC, dI)) hx hb hK hP hD hS 1 0 rfl rfl (px_in1_4) dX4_run_101 (fun H locs hP hD hS => ?_)
      have hP : va_P (dC, dI) vwCl (wdX4_run cyI cyZ cyJ cyB cyO h_se a_se_counts h_fr a_fr_counts a_fr_answered a_fr_strongest a_fr_secondStrength h_tg a_tg_numbers a_tg_strengths a_tg_silent a_ru (upd (upd (upd se_counts (Int32.toNatClampNeg (2 : Int32)) ((se_counts (Int32.toNatClampNeg (2 : Int32))) + o_7.1)) (Int32.toNatClampNeg (0 : Int32)) x_8) (Int32.toNatClampNeg (1 : Int32)) x_9) o_7.2.1 o_7.2.2.1 o_7.2.2.2.1 o_7.2.2.2.2.1 tg_size tg_numbers tg_strengths o_7.2.2.2.2.2 ru) H := hP
      have hD : va_D A (wdX4_run cyI cyZ cyJ cyB cyO h_se a_se_counts h_fr a_fr_counts a_fr_answered a_fr_strongest a_fr_secondStrength h_tg a_tg_numbers a_tg_strengths a_tg_silent a_ru (upd (upd (upd se_counts (Int32.toNatClampNeg (2 : Int32)) ((se_counts (Int32.toNatClampNeg (2 : Int32))) + o_7.1)) (Int32.toNatClampNeg (0 : Int32)) x_8) (Int32.toNatClampNeg (1 : Int32)) x_9) o_7.2.1 o_7.2.2.1 o_7.2.2.2.1 o_7.2.2.2.2.1 tg_size tg_numbers tg_strengths o_7.2.2.2.2.2 ru) := hD
      refine lv_aload_n hx hb dX4_run_102 rfl (lv_at hl 0 rfl) ?_
      refine va_get (D := (dC, dI)) (ci := 4) (v := .ref a_se_counts) (C := RX4) (T := TX4) (N := 1) hx hb hts fX4_run_X4 hown hK hP 0 rfl rfl 0 (by decide) (hts _ kX4_run_1) (fun _ h9 => h9) rfl dX4_run_103 ?_
      refine lv_iconst (v := (3 : Int32)) hx hb dX4_run_106 (by decide) ?_
      refine lv_iload hx hb dX4_run_107 (lv_at hl 5 rfl) ?_
      refine va_iast (D := (dC, dI)) hx hb hK hP hD hS 1 0 rfl rfl (px_in3_4) dX4_run_109 (fun H locs hP hD hS => ?_)
      have hP : va_P (dC, dI) vwCl (wdX4_run cyI cyZ cyJ cyB cyO h_se a_se_counts h_fr a_fr_counts a_fr_answered a_fr_strongest a_fr_secondStrength h_tg a_tg_numbers a_tg_strengths a_tg_silent a_ru (upd (upd (upd (upd se_counts (Int32.toNatClampNeg (2 : Int32)) ((se_counts (Int32.toNatClampNeg (2 : Int32))) + o_7.1)) (Int32.toNatClampNeg (0 : Int32)) x_8) (Int32.toNatClampNeg (1 : Int32)) x_9) (Int32.toNatClampNeg (3 : Int32)) v5) o_7.2.1 o_7.2.2.1 o_7.2.2.2.1 o_7.2.2.2.2.1 tg_size tg_numbers tg_strengths o_7.2.2.2.2.2 ru) H := hP
      have hD : va_D A (wdX4_run cyI cyZ cyJ cyB cyO h_se a_se_counts h_fr a_fr_counts a_fr_answered a_fr_strongest a_fr_secondStrength h_tg a_tg_numbers a_tg_strengths a_tg_silent a_ru (upd (upd (upd (upd se_counts (Int32.toNatClampNeg (2 : Int32)) ((se_counts (Int32.toNatClampNeg (2 : Int32))) + o_7.1)) (Int32.toNatClampNeg (0 : Int32)) x_8) (Int32.toNatClampNeg (1 : Int32)) x_9) (Int32.toNatClampNeg (3 : Int32)) v5) o_7.2.1 o_7.2.2.1 o_7.2.2.2.1 o_7.2.2.2.2.1 tg_size tg_numbers tg_strengths o_7.2.2.2.2.2 ru) := hD
      refine lv_aload_n hx hb dX4_run_110 rfl (lv_at hl 1 rfl) ?_
      refine va_get (D := (dC, dI)) (ci := 1) (v := .ref a_fr_counts) (C := RX1) (T := TX1) (N := 4) hx hb hts fX4_run_X1 hown hK hP 2 rfl rfl 0 (by decide) (hts _ kX4_run_2) (fun _ h9 => h9) rfl dX4_run_111 ?_
      refine lv_iconst (v := (1 : Int32)) hx hb dX4_run_114 (by decide) ?_
      refine va_iald (D := (dC, dI)) hx hb hK hP 3 0 rfl rfl (px_in1_5) dX4_run_115 ?_
      refine lv_iload hx hb dX4_run_116 (lv_at hl 5 rfl) ?_
      refine lv_icmp_ne (tgt := 125) hx hb dX4_run_118 (by decide) (fun c_10 => ?_) (fun c_10 => ?_)
      · have hp := px_f hp c_10
        refine lv_iconst (v := (0 : Int32)) hx hb dX4_run_125 (by decide) ?_
        exact lcX4_run_126 dC dI cyI cyZ cyJ cyB cyO h_se a_se_counts h_fr a_fr_counts a_fr_answered a_fr_strongest a_fr_secondStrength h_tg a_tg_numbers a_tg_strengths a_tg_silent a_ru se_counts fr_counts fr_answered fr_strongest fr_secondStrength tg_size tg_numbers tg_strengths tg_silent ru v4 out hx hb hml hts hown hK hN hA hQ K_42 hK_42 v7 (0 : Int32) (upd (upd (upd (upd se_counts (Int32.toNatClampNeg (2 : Int32)) ((se_counts (Int32.toNatClampNeg (2 : Int32))) + o_7.1)) (Int32.toNatClampNeg (0 : Int32)) x_8) (Int32.toNatClampNeg (1 : Int32)) x_9) (Int32.toNatClampNeg (3 : Int32)) v5) o_7.2.1 o_7.2.2.1 o_7.2.2.2.1 o_7.2.2.2.2.1 o_7.2.2.2.2.2 _ _ ls hp hP hD hS (lv_sub hl [0, 1, 2, 3, 4, 7] rfl)
      · have hp := px_t hp c_10
        refine lv_iconst (v := (1 : Int32)) hx hb dX4_run_121 (by decide) ?_
        refine lv_goto (tgt := 126) hx hb dX4_run_122 (by decide) ?_
        exact lcX4_run_126 dC dI cyI cyZ cyJ cyB cyO h_se a_se_counts h_fr a_fr_counts a_fr_answered a_fr_strongest a_fr_secondStrength h_tg a_tg_numbers a_tg_strengths a_tg_silent a_ru se_counts fr_counts fr_answered fr_strongest fr_secondStrength tg_size tg_numbers tg_strengths tg_silent ru v4 out hx hb hml hts hown hK hN hA hQ K_42 hK_42 v7 (1 : Int32) (upd (upd (upd (upd se_counts (Int32.toNatClampNeg (2 : Int32)) ((se_counts (Int32.toNatClampNeg (2 : Int32))) + o_7.1)) (Int32.toNatClampNeg (0 : Int32)) x_8) (Int32.toNatClampNeg (1 : Int32)) x_9) (Int32.toNatClampNeg (3 : Int32)) v5) o_7.2.1 o_7.2.2.1 o_7.2.2.2.1 o_7.2.2.2.2.1 o_7.2.2.2.2.2 _ _ ls hp hP hD hS (lv_sub hl [0, 1, 2, 3, 4, 7] rfl)
theorem lcX4_run_42 {p : Program} {l : Launch} {e : Env} {s : State} {m : MethodId} {args : Array Value} {below : List Frame} {meth : Method} {c : Code} {Q : State → Prop} {A : Nat → Prop} (dC : Nat → ClassId) (dI : Nat → Nat → Nat) (cyI cyZ cyJ cyB cyO : ClassId) (h_se a_se_counts h_fr a_fr_counts a_fr_answered a_fr_strongest a_fr_secondStrength h_tg a_tg_numbers a_tg_strengths a_tg_silent a_ru : Nat) (se_counts : Nat → Int32) (fr_counts : Nat → Int32) (fr_answered : Nat → Int32) (fr_strongest : Nat → Int32) (fr_secondStrength : Nat → Int32) (tg_size : Int32) (tg_numbers : Nat → Int32) (tg_strengths : Nat → Int32) (tg_silent : Nat → Int32) (ru : Nat → Int32) (v4 : Int32) (out : Int32 × (Nat → Int32) × (Nat → Int32) × (Nat → Int32) × (Nat → Int32) × (Nat → Int32) × (Nat → Int32)) (hx : p.tables.exec = Jvm.exec) (hb : c.code = cX4_run) (hml : c.maxLocals = 8) (hts : ∀ w ∈ wsX4_run, w.before args s = true) (hown : s.vm.findClass RX4 = some m.cls) (hK : va_K (dC, dI) vwCl (px_TY cyI cyZ cyJ cyB cyO) s) (hN : px_NW s) (hA : ∀ q : Nat, s.heap.size ≤ q → A q) (hQ : ∀ (H : Heap) (locs : List Loc) (pc : Nat) (ls : Array Slot), narrow .boolean (.int out.1) = .int out.1 → va_P (dC, dI) vwCl (wdX4_run cyI cyZ cyJ cyB cyO h_se a_se_counts h_fr a_fr_counts a_fr_answered a_fr_strongest a_fr_secondStrength h_tg a_tg_numbers a_tg_strengths a_tg_silent a_ru out.2.1 out.2.2.1 out.2.2.2.1 out.2.2.2.2.1 out.2.2.2.2.2.1 tg_size tg_numbers tg_strengths out.2.2.2.2.2.2 ru) H → va_D A (wdX4_run cyI cyZ cyJ cyB cyO h_se a_se_counts h_fr a_fr_counts a_fr_answered a_fr_strongest a_fr_secondStrength h_tg a_tg_numbers a_tg_strengths a_tg_silent a_ru out.2.1 out.2.2.1 out.2.2.2.1 out.2.2.2.2.1 out.2.2.2.2.2.1 tg_size tg_numbers tg_strengths out.2.2.2.2.2.2 ru) → va_S A s.heap H locs → decode cX4_run pc = .ok (.ireturn, 1) → W p l e ({ frames := 3, cells := 0, slots := 0, locals := 74 } : Room) s m args below meth c H locs 0 0 Q (F0 m pc ls [.int out.1]))  : ∀ n : Nat, ∀ (v5 : Int32) (v6 : Int32) (v7 : Int32) (se_counts : Nat → Int32) (fr_counts : Nat → Int32) (fr_answered : Nat → Int32) (fr_strongest : Nat → Int32) (fr_secondStrength : Nat → Int32) (tg_silent : Nat → Int32) (H : Heap) (locs : List Loc) (ls : Array Slot), pX4_run_42 v4 tg_size tg_numbers tg_strengths ru n v5 v6 v7 se_counts fr_counts fr_answered fr_strongest fr_secondStrength tg_silent = some out → va_P (dC, dI) vwCl (wdX4_run cyI cyZ cyJ cyB cyO h_se a_se_counts h_fr a_fr_counts a_fr_answered a_fr_strongest a_fr_secondStrength h_tg a_tg_numbers a_tg_strengths a_tg_silent a_ru se_counts fr_counts fr_answered fr_strongest fr_secondStrength tg_size tg_numbers tg_strengths tg_silent ru) H → va_D A (wdX4_run cyI cyZ cyJ cyB cyO h_se a_se_counts h_fr a_fr_counts a_fr_answered a_fr_strongest a_fr_secondStrength h_tg a_tg_numbers a_tg_strengths a_tg_silent a_ru se_counts fr_counts fr_answered fr_strongest fr_secondStrength tg_size tg_numbers tg_strengths tg_silent ru) → va_S A s.heap H locs → lv_has ls 8 [(0, .ref h_se), (1, .ref h_fr), (2, .ref h_tg), (3, .ref a_ru), (4, .int v4), (5, .int v5), (6, .int v6), (7, .int v7)] → W p l e ({ frames := 3, cells := 0, slots := 0, locals := 74 } : Room) s m args below meth c H locs 0 0 Q (F0 m 42 ls []) := by
  intro n
  induction n with
  | zero =>
    intro v5 v6 v7 se_counts fr_counts fr_answered fr_strongest fr_secondStrength tg_silent H locs ls hp hP hD hS hl
    exact nomatch hp
  | succ n ih => exact lcX4_run_42B dC dI cyI cyZ cyJ cyB cyO h_se a_se_counts h_fr a_fr_counts a_fr_answered a_fr_strongest a_fr_secondStrength h_tg a_tg_numbers a_tg_strengths a_tg_silent a_ru se_counts fr_counts fr_answered fr_strongest fr_secondStrength tg_size tg_numbers tg_strengths tg_silent ru v4 out hx hb hml hts hown hK hN hA hQ (pX4_run_42 v4 tg_size tg_numbers tg_strengths ru n) ih
set_option maxHeartbeats 4000000 in
set_option maxRecDepth 100000 in
theorem lcX4_run_27 {p : Program} {l : Launch} {e : Env} {s : State} {m : MethodId} {args : Array Value} {below : List Frame} {meth : Method} {c : Code} {Q : State → Prop} {A : Nat → Prop} (dC : Nat → ClassId) (dI : Nat → Nat → Nat) (cyI cyZ cyJ cyB cyO : ClassId) (h_se a_se_counts h_fr a_fr_counts a_fr_answered a_fr_strongest a_fr_secondStrength h_tg a_tg_numbers a_tg_strengths a_tg_silent a_ru : Nat) (se_counts : Nat → Int32) (fr_counts : Nat → Int32) (fr_answered : Nat → Int32) (fr_strongest : Nat → Int32) (fr_secondStrength : Nat → Int32) (tg_size : Int32) (tg_numbers : Nat → Int32) (tg_strengths : Nat → Int32) (tg_silent : Nat → Int32) (ru : Nat → Int32) (v4 : Int32) (out : Int32 × (Nat → Int32) × (Nat → Int32) × (Nat → Int32) × (Nat → Int32) × (Nat → Int32) × (Nat → Int32)) (hx : p.tables.exec = Jvm.exec) (hb : c.code = cX4_run) (hml : c.maxLocals = 8) (hts : ∀ w ∈ wsX4_run, w.before args s = true) (hown : s.vm.findClass RX4 = some m.cls) (hK : va_K (dC, dI) vwCl (px_TY cyI cyZ cyJ cyB cyO) s) (hN : px_NW s) (hA : ∀ q : Nat, s.heap.size ≤ q → A q) (hQ : ∀ (H : Heap) (locs : List Loc) (pc : Nat) (ls : Array Slot), narrow .boolean (.int out.1) = .int out.1 → va_P (dC, dI) vwCl (wdX4_run cyI cyZ cyJ cyB cyO h_se a_se_counts h_fr a_fr_counts a_fr_answered a_fr_strongest a_fr_secondStrength h_tg a_tg_numbers a_tg_strengths a_tg_silent a_ru out.2.1 out.2.2.1 out.2.2.2.1 out.2.2.2.2.1 out.2.2.2.2.2.1 tg_size tg_numbers tg_strengths out.2.2.2.2.2.2 ru) H → va_D A (wdX4_run cyI cyZ cyJ cyB cyO h_se a_se_counts h_fr a_fr_counts a_fr_answered a_fr_strongest a_fr_secondStrength h_tg a_tg_numbers a_tg_strengths a_tg_silent a_ru out.2.1 out.2.2.1 out.2.2.2.1 out.2.2.2.2.1 out.2.2.2.2.2.1 tg_size tg_numbers tg_strengths out.2.2.2.2.2.2 ru) → va_S A s.heap H locs → decode cX4_run pc = .ok (.ireturn, 1) → W p l e ({ frames := 3, cells := 0, slots := 0, locals := 74 } : Room) s m args below meth c H locs 0 0 Q (F0 m pc ls [.int out.1]))  : ∀ (se_counts : Nat → Int32) (fr_counts : Nat → Int32) (fr_answered : Nat → Int32) (fr_strongest : Nat → Int32) (fr_secondStrength : Nat → Int32) (tg_silent : Nat → Int32) (H : Heap) (locs : List Loc) (ls : Array Slot), pX4_run_27 v4 tg_size tg_numbers tg_strengths ru se_counts fr_counts fr_answered fr_strongest fr_secondStrength tg_silent = some out → va_P (dC, dI) vwCl (wdX4_run cyI cyZ cyJ cyB cyO h_se a_se_counts h_fr a_fr_counts a_fr_answered a_fr_strongest a_fr_secondStrength h_tg a_tg_numbers a_tg_strengths a_tg_silent a_ru se_counts fr_counts fr_answered fr_strongest fr_secondStrength tg_size tg_numbers tg_strengths tg_silent ru) H → va_D A (wdX4_run cyI cyZ cyJ cyB cyO h_se a_se_counts h_fr a_fr_counts a_fr_answered a_fr_strongest a_fr_secondStrength h_tg a_tg_numbers a_tg_strengths a_tg_silent a_ru se_counts fr_counts fr_answered fr_strongest fr_secondStrength tg_size tg_numbers tg_strengths tg_silent ru) → va_S A s.heap H locs → lv_has ls 8 [(0, .ref h_se), (1, .ref h_fr), (2, .ref h_tg), (3, .ref a_ru), (4, .int v4)] → W p l e ({ frames := 3, cells := 0, slots := 0, locals := 74 } : Room) s m args below meth c H locs 0 0 Q (F0 m 27 ls []) := by
  intro se_counts fr_counts fr_answered fr_strongest fr_secondStrength tg_silent H locs ls hp hP hD hS hl
  unfold pX4_run_27 at hp
  refine lv_aload_n hx hb dX4_run_27 rfl (lv_at hl 3 rfl) ?_
  refine lv_iconst (v := (0 : Int32)) hx hb dX4_run_28 (by decide) ?_
  refine va_iald (D := (dC, dI)) hx hb hK hP 11 0 rfl rfl (px_in0_9) dX4_run_29 ?_
  refine lv_aload_n hx hb dX4_run_30 rfl (lv_at hl 3 rfl) ?_
  obtain ⟨o_2, ho_2, hp⟩ := px_b_at hp
  refine px_callR (v := .int o_2) (va_runS (As := [.int (ru (Int32.toNatClampNeg (0 : Int32))), .ref a_ru]) (rest := []) ⟨hx, hb, hml, hown, hts⟩ (ccX4_bounded l dC dI cyI cyZ cyJ cyB cyO a_ru ru (ru (Int32.toNatClampNeg (0 : Int32))) o_2 ho_2) (va_cwS 2 hts gX4_run_X4_bounded rfl rfl rfl hsX4_bounded ⟨Nat.le_of_ble_eq_true rfl, Nat.le_of_ble_eq_true rfl⟩) (px_preR (wc := (wdX4_bounded cyI cyZ cyJ cyB cyO a_ru ru)) hK hN hP [11] rfl) rfl rfl hl.1 rfl (lv_room (Nat.le_of_ble_eq_true rfl)) dX4_run_31 ⟨Nat.zero_le _, Nat.zero_le _⟩) ?_
  refine lv_istore (lv' := [(5, .int o_2), (0, .ref h_se), (1, .ref h_fr), (2, .ref h_tg), (3, .ref a_ru), (4, .int v4)]) hx hb dX4_run_34 hl (by decide) rfl (fun ls hl => ?_)
  refine lv_iconst (v := (0 : Int32)) hx hb dX4_run_36 (by decide) ?_
  refine lv_istore (lv' := [(6, .int (0 : Int32)), (5, .int o_2), (0, .ref h_se), (1, .ref h_fr), (2, .ref h_tg), (3, .ref a_ru), (4, .int v4)]) hx hb dX4_run_37 hl (by decide) rfl (fun ls hl => ?_)
  refine lv_iconst (v := (0 : Int32)) hx hb dX4_run_39 (by decide) ?_
  refine lv_istore (lv' := [(7, .int (0 : Int32)), (6, .int (0 : Int32)), (5, .int o_2), (0, .ref h_se), (1, .ref h_fr), (2, .ref h_tg), (3, .ref a_ru), (4, .int v4)]) hx hb dX4_run_40 hl (by decide) rfl (fun ls hl => ?_)
  exact lcX4_run_42 dC dI cyI cyZ cyJ cyB cyO h_se a_se_counts h_fr a_fr_counts a_fr_answered a_fr_strongest a_fr_secondStrength h_tg a_tg_numbers a_tg_strengths a_tg_silent a_ru se_counts fr_counts fr_answered fr_strongest fr_secondStrength tg_size tg_numbers tg_strengths tg_silent ru v4 out hx hb hml hts hown hK hN hA hQ px_FU o_2 (0 : Int32) (0 : Int32) se_counts fr_counts fr_answered fr_strongest fr_secondStrength tg_silent _ _ ls hp hP hD hS (lv_sub hl [3, 4, 5, 6, 7, 2, 1, 0] rfl)
set_option maxHeartbeats 4000000 in
set_option maxRecDepth 100000 in
theorem lcX4_run_3B {p : Program} {l : Launch} {e : Env} {s : State} {m : MethodId} {args : Array Value} {below : List Frame} {meth : Method} {c : Code} {Q : State → Prop} {A : Nat → Prop} (dC : Nat → ClassId) (dI : Nat → Nat → Nat) (cyI cyZ cyJ cyB cyO : ClassId) (h_se a_se_counts h_fr a_fr_counts a_fr_answered a_fr_strongest a_fr_secondStrength h_tg a_tg_numbers a_tg_strengths a_tg_silent a_ru : Nat) (se_counts : Nat → Int32) (fr_counts : Nat → Int32) (fr_answered : Nat → Int32) (fr_strongest : Nat → Int32) (fr_secondStrength : Nat → Int32) (tg_size : Int32) (tg_numbers : Nat → Int32) (tg_strengths : Nat → Int32) (tg_silent : Nat → Int32) (ru : Nat → Int32) (v4 : Int32) (out : Int32 × (Nat → Int32) × (Nat → Int32) × (Nat → Int32) × (Nat → Int32) × (Nat → Int32) × (Nat → Int32)) (hx : p.tables.exec = Jvm.exec) (hb : c.code = cX4_run) (hml : c.maxLocals = 8) (hts : ∀ w ∈ wsX4_run, w.before args s = true) (hown : s.vm.findClass RX4 = some m.cls) (hK : va_K (dC, dI) vwCl (px_TY cyI cyZ cyJ cyB cyO) s) (hN : px_NW s) (hA : ∀ q : Nat, s.heap.size ≤ q → A q) (hQ : ∀ (H : Heap) (locs : List Loc) (pc : Nat) (ls : Array Slot), narrow .boolean (.int out.1) = .int out.1 → va_P (dC, dI) vwCl (wdX4_run cyI cyZ cyJ cyB cyO h_se a_se_counts h_fr a_fr_counts a_fr_answered a_fr_strongest a_fr_secondStrength h_tg a_tg_numbers a_tg_strengths a_tg_silent a_ru out.2.1 out.2.2.1 out.2.2.2.1 out.2.2.2.2.1 out.2.2.2.2.2.1 tg_size tg_numbers tg_strengths out.2.2.2.2.2.2 ru) H → va_D A (wdX4_run cyI cyZ cyJ cyB cyO h_se a_se_counts h_fr a_fr_counts a_fr_answered a_fr_strongest a_fr_secondStrength h_tg a_tg_numbers a_tg_strengths a_tg_silent a_ru out.2.1 out.2.2.1 out.2.2.2.1 out.2.2.2.2.1 out.2.2.2.2.2.1 tg_size tg_numbers tg_strengths out.2.2.2.2.2.2 ru) → va_S A s.heap H locs → decode cX4_run pc = .ok (.ireturn, 1) → W p l e ({ frames := 3, cells := 0, slots := 0, locals := 74 } : Room) s m args below meth c H locs 0 0 Q (F0 m pc ls [.int out.1]))  (K_3 : Int32 → (Nat → Int32) → (Nat → Int32) → (Nat → Int32) → (Nat → Int32) → (Nat → Int32) → (Nat → Int32) → Option (Int32 × (Nat → Int32) × (Nat → Int32) × (Nat → Int32) × (Nat → Int32) × (Nat → Int32) × (Nat → Int32))) (hK_3 : ∀ (v5 : Int32) (se_counts : Nat → Int32) (fr_counts : Nat → Int32) (fr_answered : Nat → Int32) (fr_strongest : Nat → Int32) (fr_secondStrength : Nat → Int32) (tg_silent : Nat → Int32) (H : Heap) (locs : List Loc) (ls : Array Slot), K_3 v5 se_counts fr_counts fr_answered fr_strongest fr_secondStrength tg_silent = some out → va_P (dC, dI) vwCl (wdX4_run cyI cyZ cyJ cyB cyO h_se a_se_counts h_fr a_fr_counts a_fr_answered a_fr_strongest a_fr_secondStrength h_tg a_tg_numbers a_tg_strengths a_tg_silent a_ru se_counts fr_counts fr_answered fr_strongest fr_secondStrength tg_size tg_numbers tg_strengths tg_silent ru) H → va_D A (wdX4_run cyI cyZ cyJ cyB cyO h_se a_se_counts h_fr a_fr_counts a_fr_answered a_fr_strongest a_fr_secondStrength h_tg a_tg_numbers a_tg_strengths a_tg_silent a_ru se_counts fr_counts fr_answered fr_strongest fr_secondStrength tg_size tg_numbers tg_strengths tg_silent ru) → va_S A s.heap H locs → lv_has ls 8 [(0, .ref h_se), (1, .ref h_fr), (2, .ref h_tg), (3, .ref a_ru), (4, .int v4), (5, .int v5)] → W p l e ({ frames := 3, cells := 0, slots := 0, locals := 74 } : Room) s m args below meth c H locs 0 0 Q (F0 m 3 ls [])) : ∀ (v5 : Int32) (se_counts : Nat → Int32) (fr_counts : Nat → Int32) (fr_answered : Nat → Int32) (fr_strongest : Nat → Int32) (fr_secondStrength : Nat → Int32) (tg_silent : Nat → Int32) (H : Heap) (locs : List Loc) (ls : Array Slot), pX4_run_3B v4 tg_size tg_numbers tg_strengths ru K_3 v5 se_counts fr_counts fr_answered fr_strongest fr_secondStrength tg_silent = some out → va_P (dC, dI) vwCl (wdX4_run cyI cyZ cyJ cyB cyO h_se a_se_counts h_fr a_fr_counts a_fr_answered a_fr_strongest a_fr_secondStrength h_tg a_tg_numbers a_tg_strengths a_tg_silent a_ru se_counts fr_counts fr_answered fr_strongest fr_secondStrength tg_size tg_numbers tg_strengths tg_silent ru) H → va_D A (wdX4_run cyI cyZ cyJ cyB cyO h_se a_se_counts h_fr a_fr_counts a_fr_answered a_fr_strongest a_fr_secondStrength h_tg a_tg_numbers a_tg_strengths a_tg_silent a_ru se_counts fr_counts fr_answered fr_strongest fr_secondStrength tg_size tg_numbers tg_strengths tg_silent ru) → va_S A s.heap H locs → lv_has ls 8 [(0, .ref h_se), (1, .ref h_fr), (2, .ref h_tg), (3, .ref a_ru), (4, .int v4), (5, .int v5)] → W p l e ({ frames := 3, cells := 0, slots := 0, locals := 74 } : Room) s m args below meth c H locs 0 0 Q (F0 m 3 ls []) := by
  intro v5 se_counts fr_counts fr_answered fr_strongest fr_secondStrength tg_silent H locs ls hp hP hD hS hl
  unfold pX4_run_3B at hp
  refine lv_iload hx hb dX4_run_3 (lv_at hl 5 rfl) ?_
  refine lv_aload_n hx hb dX4_run_5 rfl (lv_at hl 0 rfl) ?_
  refine va_get (D := (dC, dI)) (ci := 4) (v := .ref a_se_counts) (C := RX4) (T := TX4) (N := 1) hx hb hts fX4_run_X4 hown hK hP 0 rfl rfl 0 (by decide) (hts _ kX4_run_1) (fun _ h9 => h9) rfl dX4_run_6 ?_
  refine va_alen (D := (dC, dI)) (v := (4 : Int32)) hx hb hK hP 1 0 rfl rfl rfl dX4_run_9 ?_
  refine lv_icmp_ge (tgt := 27) hx hb dX4_run_10 (by decide) (fun c_1 => ?_) (fun c_1 => ?_)
  · have hp := px_t hp c_1
    exact lcX4_run_27 dC dI cyI cyZ cyJ cyB cyO h_se a_se_counts h_fr a_fr_counts a_fr_answered a_fr_strongest a_fr_secondStrength h_tg a_tg_numbers a_tg_strengths a_tg_silent a_ru se_counts fr_counts fr_answered fr_strongest fr_secondStrength tg_size tg_numbers tg_strengths tg_silent ru v4 out hx hb hml hts hown hK hN hA hQ se_counts fr_counts fr_answered fr_strongest fr_secondStrength tg_silent _ _ ls hp hP hD hS (lv_sub hl [0, 1, 2, 3, 4] rfl)
  · have hp := px_f hp c_1
    refine lv_aload_n hx hb dX4_run_13 rfl (lv_at hl 0 rfl) ?_
    refine va_get (D := (dC, dI)) (ci := 4) (v := .ref a_se_counts) (C := RX4) (T := TX4) (N := 1) hx hb hts fX4_run_X4 hown hK hP 0 rfl rfl 0 (by decide) (hts _ kX4_run_1) (fun _ h9 => h9) rfl dX4_run_14 ?_
    refine lv_iload hx hb dX4_run_17 (lv_at hl 5 rfl) ?_
    refine lv_iconst (v := (0 : Int32)) hx hb dX4_run_19 (by decide) ?_
    obtain ⟨g_13, hp⟩ := px_i_at hp
    refine va_iast (D := (dC, dI)) hx hb hK hP hD hS 1 0 rfl rfl g_13 dX4_run_20 (fun H locs hP hD hS => ?_)
    have hP : va_P (dC, dI) vwCl (wdX4_run cyI cyZ cyJ cyB cyO h_se a_se_counts h_fr a_fr_counts a_fr_answered a_fr_strongest a_fr_secondStrength h_tg a_tg_numbers a_tg_strengths a_tg_silent a_ru (upd se_counts (Int32.toNatClampNeg v5) (0 : Int32)) fr_counts fr_answered fr_strongest fr_secondStrength tg_size tg_numbers tg_strengths tg_silent ru) H := hP
    have hD : va_D A (wdX4_run cyI cyZ cyJ cyB cyO h_se a_se_counts h_fr a_fr_counts a_fr_answered a_fr_strongest a_fr_secondStrength h_tg a_tg_numbers a_tg_strengths a_tg_silent a_ru (upd se_counts (Int32.toNatClampNeg v5) (0 : Int32)) fr_counts fr_answered fr_strongest fr_secondStrength tg_size tg_numbers tg_strengths tg_silent ru) := hD
    refine lv_iinc (v := (v5 + (1 : Int32))) (lv' := [(5, .int (v5 + (1 : Int32))), (0, .ref h_se), (1, .ref h_fr), (2, .ref h_tg), (3, .ref a_ru), (4, .int v4)]) hx hb dX4_run_21 hl (k := 5) rfl rfl (by decide) rfl (fun ls hl => ?_)
    refine lv_goto (tgt := 3) hx hb dX4_run_24 (by decide) ?_
    exact hK_3 (v5 + (1 : Int32)) (upd se_counts (Int32.toNatClampNeg v5) (0 : Int32)) fr_counts fr_answered fr_strongest fr_secondStrength tg_silent _ _ ls hp hP hD hS (lv_sub hl [1, 2, 3, 4, 5, 0] rfl)
theorem lcX4_run_3 {p : Program} {l : Launch} {e : Env} {s : State} {m : MethodId} {args : Array Value} {below : List Frame} {meth : Method} {c : Code} {Q : State → Prop} {A : Nat → Prop} (dC : Nat → ClassId) (dI : Nat → Nat → Nat) (cyI cyZ cyJ cyB cyO : ClassId) (h_se a_se_counts h_fr a_fr_counts a_fr_answered a_fr_strongest a_fr_secondStrength h_tg a_tg_numbers a_tg_strengths a_tg_silent a_ru : Nat) (se_counts : Nat → Int32) (fr_counts : Nat → Int32) (fr_answered : Nat → Int32) (fr_strongest : Nat → Int32) (fr_secondStrength : Nat → Int32) (tg_size : Int32) (tg_numbers : Nat → Int32) (tg_strengths : Nat → Int32) (tg_silent : Nat → Int32) (ru : Nat → Int32) (v4 : Int32) (out : Int32 × (Nat → Int32) × (Nat → Int32) × (Nat → Int32) × (Nat → Int32) × (Nat → Int32) × (Nat → Int32)) (hx : p.tables.exec = Jvm.exec) (hb : c.code = cX4_run) (hml : c.maxLocals = 8) (hts : ∀ w ∈ wsX4_run, w.before args s = true) (hown : s.vm.findClass RX4 = some m.cls) (hK : va_K (dC, dI) vwCl (px_TY cyI cyZ cyJ cyB cyO) s) (hN : px_NW s) (hA : ∀ q : Nat, s.heap.size ≤ q → A q) (hQ : ∀ (H : Heap) (locs : List Loc) (pc : Nat) (ls : Array Slot), narrow .boolean (.int out.1) = .int out.1 → va_P (dC, dI) vwCl (wdX4_run cyI cyZ cyJ cyB cyO h_se a_se_counts h_fr a_fr_counts a_fr_answered a_fr_strongest a_fr_secondStrength h_tg a_tg_numbers a_tg_strengths a_tg_silent a_ru out.2.1 out.2.2.1 out.2.2.2.1 out.2.2.2.2.1 out.2.2.2.2.2.1 tg_size tg_numbers tg_strengths out.2.2.2.2.2.2 ru) H → va_D A (wdX4_run cyI cyZ cyJ cyB cyO h_se a_se_counts h_fr a_fr_counts a_fr_answered a_fr_strongest a_fr_secondStrength h_tg a_tg_numbers a_tg_strengths a_tg_silent a_ru out.2.1 out.2.2.1 out.2.2.2.1 out.2.2.2.2.1 out.2.2.2.2.2.1 tg_size tg_numbers tg_strengths out.2.2.2.2.2.2 ru) → va_S A s.heap H locs → decode cX4_run pc = .ok (.ireturn, 1) → W p l e ({ frames := 3, cells := 0, slots := 0, locals := 74 } : Room) s m args below meth c H locs 0 0 Q (F0 m pc ls [.int out.1]))  : ∀ n : Nat, ∀ (v5 : Int32) (se_counts : Nat → Int32) (fr_counts : Nat → Int32) (fr_answered : Nat → Int32) (fr_strongest : Nat → Int32) (fr_secondStrength : Nat → Int32) (tg_silent : Nat → Int32) (H : Heap) (locs : List Loc) (ls : Array Slot), pX4_run_3 v4 tg_size tg_numbers tg_strengths ru n v5 se_counts fr_counts fr_answered fr_strongest fr_secondStrength tg_silent = some out → va_P (dC, dI) vwCl (wdX4_run cyI cyZ cyJ cyB cyO h_se a_se_counts h_fr a_fr_counts a_fr_answered a_fr_strongest a_fr_secondStrength h_tg a_tg_numbers a_tg_strengths a_tg_silent a_ru se_counts fr_counts fr_answered fr_strongest fr_secondStrength tg_size tg_numbers tg_strengths tg_silent ru) H → va_D A (wdX4_run cyI cyZ cyJ cyB cyO h_se a_se_counts h_fr a_fr_counts a_fr_answered a_fr_strongest a_fr_secondStrength h_tg a_tg_numbers a_tg_strengths a_tg_silent a_ru se_counts fr_counts fr_answered fr_strongest fr_secondStrength tg_size tg_numbers tg_strengths tg_silent ru) → va_S A s.heap H locs → lv_has ls 8 [(0, .ref h_se), (1, .ref h_fr), (2, .ref h_tg), (3, .ref a_ru), (4, .int v4), (5, .int v5)] → W p l e ({ frames := 3, cells := 0, slots := 0, locals := 74 } : Room) s m args below meth c H locs 0 0 Q (F0 m 3 ls []) := by
  intro n
  induction n with
  | zero =>
    intro v5 se_counts fr_counts fr_answered fr_strongest fr_secondStrength tg_silent H locs ls hp hP hD hS hl
    exact nomatch hp
  | succ n ih => exact lcX4_run_3B dC dI cyI cyZ cyJ cyB cyO h_se a_se_counts h_fr a_fr_counts a_fr_answered a_fr_strongest a_fr_secondStrength h_tg a_tg_numbers a_tg_strengths a_tg_silent a_ru se_counts fr_counts fr_answered fr_strongest fr_secondStrength tg_size tg_numbers tg_strengths tg_silent ru v4 out hx hb hml hts hown hK hN hA hQ (pX4_run_3 v4 tg_size tg_numbers tg_strengths ru n) ih
set_option maxHeartbeats 4000000 in
set_option maxRecDepth 100000 in
theorem ccX4_run (l : Launch) (dC : Nat → ClassId) (dI : Nat → Nat → Nat) (cyI cyZ cyJ cyB cyO : ClassId) (sz : Nat) (h_se a_se_counts h_fr a_fr_counts a_fr_answered a_fr_strongest a_fr_secondStrength h_tg a_tg_numbers a_tg_strengths a_tg_silent a_ru : Nat) (se_counts : Nat → Int32) (fr_counts : Nat → Int32) (fr_answered : Nat → Int32) (fr_strongest : Nat → Int32) (fr_secondStrength : Nat → Int32) (tg_size : Int32) (tg_numbers : Nat → Int32) (tg_strengths : Nat → Int32) (tg_silent : Nat → Int32) (ru : Nat → Int32) (v4 : Int32) (out : Int32 × (Nat → Int32) × (Nat → Int32) × (Nat → Int32) × (Nat → Int32) × (Nat → Int32) × (Nat → Int32)) (hp : pX4_run v4 tg_size tg_numbers tg_strengths ru se_counts fr_counts fr_answered fr_strongest fr_secondStrength tg_silent = some out) : Met l yX4_run wsX4_run ({ frames := 3, cells := 0, slots := 0, locals := 74 } : Room) (px_PW (dC, dI) (px_TY cyI cyZ cyJ cyB cyO) [.ref h_se, .ref h_fr, .ref h_tg, .ref a_ru, .int v4] (wdX4_run cyI cyZ cyJ cyB cyO h_se a_se_counts h_fr a_fr_counts a_fr_answered a_fr_strongest a_fr_secondStrength h_tg a_tg_numbers a_tg_strengths a_tg_silent a_ru se_counts fr_counts fr_answered fr_strongest fr_secondStrength tg_size tg_numbers tg_strengths tg_silent ru) sz) (px_QW (some (.int out.1)) (dC, dI) (wdX4_run cyI cyZ cyJ cyB cyO h_se a_se_counts h_fr a_fr_counts a_fr_answered a_fr_strongest a_fr_secondStrength h_tg a_tg_numbers a_tg_strengths a_tg_silent a_ru se_counts fr_counts fr_answered fr_strongest fr_secondStrength tg_size tg_numbers tg_strengths tg_silent ru) (wdX4_run cyI cyZ cyJ cyB cyO h_se a_se_counts h_fr a_fr_counts a_fr_answered a_fr_strongest a_fr_secondStrength h_tg a_tg_numbers a_tg_strengths a_tg_silent a_ru out.2.1 out.2.2.1 out.2.2.2.1 out.2.2.2.2.1 out.2.2.2.2.2.1 tg_size tg_numbers tg_strengths out.2.2.2.2.2.2 ru) sz) 0 0 (va_A (wdX4_run cyI cyZ cyJ cyB cyO h_se a_se_counts h_fr a_fr_counts a_fr_answered a_fr_strongest a_fr_secondStrength h_tg a_tg_numbers a_tg_strengths a_tg_silent a_ru se_counts fr_counts fr_answered fr_strongest fr_secondStrength tg_size tg_numbers tg_strengths tg_silent ru) sz) := by
  refine Met.ofW (cc := cX4_run) (maxL := 8) (ret := (some .boolean)) (by decide) rfl ?_
  intro p e s m args below meth c s₁ B hml hv
  obtain ⟨rfl, hsz, hP, hK, hD0, hN⟩ := hv
  have hx := B.exec
  have hb := B.bytes
  have hr := B.returns
  have hts := atoms_spec (ws := wsX4_run) B.pre
  have hown : s.vm.findClass RX4 = some m.cls := findClass_of_methodNamed B.named
  have hlocks := B.notSynchronized
  subst hsz
  have hD := hD0.self (sz := s.heap.size)
  generalize hAe : va_A (wdX4_run cyI cyZ cyJ cyB cyO h_se a_se_counts h_fr a_fr_counts a_fr_answered a_fr_strongest a_fr_secondStrength h_tg a_tg_numbers a_tg_strengths a_tg_silent a_ru se_counts fr_counts fr_answered fr_strongest fr_secondStrength tg_size tg_numbers tg_strengths tg_silent ru) s.heap.size = A at hD ⊢
  have hA : ∀ q : Nat, s.heap.size ≤ q → A q := fun q h => by rw [← hAe]; exact Or.inr h
  have hS : va_S A s.heap s.heap [] := va_S.rf
  have hq := px_QWe (v := (some (.int out.1))) (D := (dC, dI)) (w1 := (wdX4_run cyI cyZ cyJ cyB cyO h_se a_se_counts h_fr a_fr_counts a_fr_answered a_fr_strongest a_fr_secondStrength h_tg a_tg_numbers a_tg_strengths a_tg_silent a_ru out.2.1 out.2.2.1 out.2.2.2.1 out.2.2.2.2.1 out.2.2.2.2.2.1 tg_size tg_numbers tg_strengths out.2.2.2.2.2.2 ru)) (st := s) hAe
  generalize px_QW (some (.int out.1)) (dC, dI) (wdX4_run cyI cyZ cyJ cyB cyO h_se a_se_counts h_fr a_fr_counts a_fr_answered a_fr_strongest a_fr_secondStrength h_tg a_tg_numbers a_tg_strengths a_tg_silent a_ru se_counts fr_counts fr_answered fr_strongest fr_secondStrength tg_size tg_numbers tg_strengths tg_silent ru) (wdX4_run cyI cyZ cyJ cyB cyO h_se a_se_counts h_fr a_fr_counts a_fr_answered a_fr_strongest a_fr_secondStrength h_tg a_tg_numbers a_tg_strengths a_tg_silent a_ru out.2.1 out.2.2.1 out.2.2.2.1 out.2.2.2.2.1 out.2.2.2.2.2.1 tg_size tg_numbers tg_strengths out.2.2.2.2.2.2 ru) s.heap.size = Qc at hq ⊢
  have hQ : ∀ (H : Heap) (locs : List Loc) (pc : Nat) (ls : Array Slot), narrow .boolean (.int out.1) = .int out.1 → va_P (dC, dI) vwCl (wdX4_run cyI cyZ cyJ cyB cyO h_se a_se_counts h_fr a_fr_counts a_fr_answered a_fr_strongest a_fr_secondStrength h_tg a_tg_numbers a_tg_strengths a_tg_silent a_ru out.2.1 out.2.2.1 out.2.2.2.1 out.2.2.2.2.1 out.2.2.2.2.2.1 tg_size tg_numbers tg_strengths out.2.2.2.2.2.2 ru) H → va_D A (wdX4_run cyI cyZ cyJ cyB cyO h_se a_se_counts h_fr a_fr_counts a_fr_answered a_fr_strongest a_fr_secondStrength h_tg a_tg_numbers a_tg_strengths a_tg_silent a_ru out.2.1 out.2.2.1 out.2.2.2.1 out.2.2.2.2.1 out.2.2.2.2.2.1 tg_size tg_numbers tg_strengths out.2.2.2.2.2.2 ru) → va_S A s.heap H locs → decode cX4_run pc = .ok (.ireturn, 1) → W p l e ({ frames := 3, cells := 0, slots := 0, locals := 74 } : Room) s m (([.ref h_se, .ref h_fr, .ref h_tg, .ref a_ru, .int v4] : List Value).toArray) below meth c H locs 0 0 (MQ below Qc (([.ref h_se, .ref h_fr, .ref h_tg, .ref a_ru, .int v4] : List Value).toArray) s 0 0 A) (F0 m pc ls [.int out.1]) := fun H locs pc ls hz hP hD hS hd => W.zret hx hb hr hz (fun t ht hW => hq _ t (by rw [ht]; exact hP) hD (hS.F ht)) hS.2.2 hd
  generalize MQ below Qc (([.ref h_se, .ref h_fr, .ref h_tg, .ref a_ru, .int v4] : List Value).toArray) s 0 0 A = Q at hQ ⊢
  have hl := lv_entry [.ref h_se, .ref h_fr, .ref h_tg, .ref a_ru, .int v4] (n := 8) (Nat.le_of_ble_eq_true rfl)
  rw [lg_entry_eq]
  generalize (lg_sl [.ref h_se, .ref h_fr, .ref h_tg, .ref a_ru, .int v4] ++ List.replicate (8 - (lg_sl [.ref h_se, .ref h_fr, .ref h_tg, .ref a_ru, .int v4]).length) Slot.unset).toArray = ls at hl ⊢
  have hl : lv_has ls 8 [(0, .ref h_se), (1, .ref h_fr), (2, .ref h_tg), (3, .ref a_ru), (4, .int v4)] := hl
  unfold pX4_run at hp
  refine lv_iconst (v := (0 : Int32)) hx hb dX4_run_0 (by decide) ?_
  refine lv_istore (lv' := [(5, .int (0 : Int32)), (0, .ref h_se), (1, .ref h_fr), (2, .ref h_tg), (3, .ref a_ru), (4, .int v4)]) hx hb dX4_run_1 hl (by decide) rfl (fun ls hl => ?_)
  exact lcX4_run_3 dC dI cyI cyZ cyJ cyB cyO h_se a_se_counts h_fr a_fr_counts a_fr_answered a_fr_strongest a_fr_secondStrength h_tg a_tg_numbers a_tg_strengths a_tg_silent a_ru se_counts fr_counts fr_answered fr_strongest fr_secondStrength tg_size tg_numbers tg_strengths tg_silent ru v4 out hx hb hml hts hown hK hN hA hQ px_FU (0 : Int32) se_counts fr_counts fr_answered fr_strongest fr_secondStrength tg_silent _ _ ls hp hP hD hS (lv_sub hl [1, 2, 3, 4, 5, 0] rfl)
