/-! loops over the first k places: the answers of the programs that only look -/
theorem q_n5 : px_FU = 4983 + 17 := rfl
/-- how many of the first k are not 0 -/
def q_cnt (f : Nat → Int32) : Nat → Nat
  | 0 => 0
  | k + 1 => q_cnt f k + (if f k = 0 then 0 else 1)
theorem q_nle {k i : Nat} (hk : k < 2 ^ 31) (hi : i < k) : ¬ nI k ≤ nI i := fun h => by
  rw [q_le, nI_toInt hk, nI_toInt (by omega)] at h
  omega
theorem q_silx_go (sil : Nat → Int32) (k : Nat) (hk : k ≤ 16) : ∀ (d i n : Nat), i + d = k → d < n → pX6_silentOnes_4 (nI k) sil n (nI (q_cnt sil i)) (nI i) = some (nI (q_cnt sil k))
  | 0, i, n + 1, h, _ => by
    have e : i = k := by omega
    subst e
    unfold pX6_silentOnes_4 pX6_silentOnes_4B
    exact if_pos (nI_le (Nat.le_refl i) (by omega))
  | d + 1, i, n + 1, h, hn => by
    unfold pX6_silentOnes_4 pX6_silentOnes_4B
    rw [if_neg (q_nle (by omega) (by omega)), q_i (vp_in_nI (by omega) (by omega)), nI_clamp (by omega)]
    have ih := q_silx_go sil k hk d (i + 1) n (by omega) (by omega)
    by_cases c : sil i = 0
    · rw [if_pos c, show nI i + 1 = nI (i + 1) from nI_add i 1]
      have e : q_cnt sil (i + 1) = q_cnt sil i := by simp [q_cnt, c]
      rw [e] at ih
      exact ih
    · rw [if_neg c, show nI i + 1 = nI (i + 1) from nI_add i 1, show nI (q_cnt sil i) + 1 = nI (q_cnt sil i + 1) from nI_add _ 1]
      have e : q_cnt sil (i + 1) = q_cnt sil i + 1 := by simp [q_cnt, c]
      rw [e] at ih
      exact ih
theorem q_silx (sil : Nat → Int32) (k : Nat) (hk : k ≤ 16) : pX6_silentOnes (nI k) sil = some (nI (q_cnt sil k)) := by
  unfold pX6_silentOnes
  exact q_silx_go sil k hk k 0 px_FU (by omega) (by unfold px_FU; omega)
theorem q_flag (v : Int32) : pX11_flag v = some (if v = 0 then 0 else 1) := by
  unfold pX11_flag
  split <;> rfl
theorem q_silm_go (sil : Nat → Int32) (k : Nat) (hk : k ≤ 16) : ∀ (d i n : Nat), i + d = k → d < n → pX11_silentNow_4 (nI k) sil n (nI (q_cnt sil i)) (nI i) = some (nI (q_cnt sil k))
  | 0, i, n + 1, h, _ => by
    have e : i = k := by omega
    subst e
    unfold pX11_silentNow_4 pX11_silentNow_4B
    exact if_pos (nI_le (Nat.le_refl i) (by omega))
  | d + 1, i, n + 1, h, hn => by
    unfold pX11_silentNow_4 pX11_silentNow_4B
    rw [if_neg (q_nle (by omega) (by omega)), q_i (vp_in_nI (by omega) (by omega)), nI_clamp (by omega), q_b (q_flag _)]
    have ih := q_silm_go sil k hk d (i + 1) n (by omega) (by omega)
    by_cases c : sil i = 0
    · rw [if_pos c, show nI i + 1 = nI (i + 1) from nI_add i 1, show nI (q_cnt sil i) + 0 = nI (q_cnt sil i) from nI_add _ 0]
      have e : q_cnt sil (i + 1) = q_cnt sil i := by simp [q_cnt, c]
      rw [e] at ih
      exact ih
    · rw [if_neg c, show nI i + 1 = nI (i + 1) from nI_add i 1, show nI (q_cnt sil i) + 1 = nI (q_cnt sil i + 1) from nI_add _ 1]
      have e : q_cnt sil (i + 1) = q_cnt sil i + 1 := by simp [q_cnt, c]
      rw [e] at ih
      exact ih
theorem q_silm (sil : Nat → Int32) (k : Nat) (hk : k ≤ 16) : pX11_silentNow (nI k) sil = some (nI (q_cnt sil k)) := by
  unfold pX11_silentNow
  exact q_silm_go sil k hk k 0 px_FU (by omega) (by unfold px_FU; omega)
theorem q_cnt_cong {f g : Nat → Int32} : ∀ {k : Nat}, (∀ j, j < k → f j = g j) → q_cnt f k = q_cnt g k
  | 0, _ => rfl
  | k + 1, h => by rw [q_cnt, q_cnt, q_cnt_cong (fun j hj => h j (by omega)), h k (by omega)]
/-- f on the first i places v, else g -/
def q_fill (v : Int32) (f : Nat → Int32) (i : Nat) : Nat → Int32 := fun j => if j < i then v else f j
theorem q_fill_s (v : Int32) (f : Nat → Int32) (i : Nat) : upd (q_fill v f i) i v = q_fill v f (i + 1) := by
  funext j
  unfold upd q_fill
  by_cases h : j = i
  · rw [if_pos h, if_pos (by omega)]
  · rw [if_neg h]
    by_cases h2 : j < i
    · rw [if_pos h2, if_pos (by omega)]
    · rw [if_neg h2, if_neg (by omega)]
theorem q_fill_0 (v : Int32) (f : Nat → Int32) : q_fill v f 0 = f := by
  funext j
  exact if_neg (Nat.not_lt_zero j)
theorem q_nz0 : vp_nar .boolean 0 = 0 := rfl
theorem q_nz1 : vp_nar .boolean 1 = 1 := rfl
theorem q_silAll_go (v : Int32) (hv : v = 0 ∨ v = 1) (sil : Nat → Int32) (k : Nat) (hk : k ≤ 16) : ∀ (d i n : Nat), i + d = k → d < n → pX6_silenceAll_2 v (nI k) n (nI i) (q_fill v sil i) = some (q_fill v sil k)
  | 0, i, n + 1, h, _ => by
    have e : i = k := by omega
    subst e
    unfold pX6_silenceAll_2 pX6_silenceAll_2B
    exact if_pos (nI_le (Nat.le_refl i) (by omega))
  | d + 1, i, n + 1, h, hn => by
    unfold pX6_silenceAll_2 pX6_silenceAll_2B
    rw [if_neg (q_nle (by omega) (by omega)), q_i (vp_in_nI (by omega) (by omega)), nI_clamp (by omega)]
    have e : vp_nar .boolean v = v := by rcases hv with rfl | rfl <;> rfl
    rw [e, q_fill_s, show nI i + 1 = nI (i + 1) from nI_add i 1]
    exact q_silAll_go v hv sil k hk d (i + 1) n (by omega) (by omega)
theorem q_silAll (v : Int32) (hv : v = 0 ∨ v = 1) (sil : Nat → Int32) (k : Nat) (hk : k ≤ 16) : pX6_silenceAll v (nI k) sil = some (q_fill v sil k) := by
  unfold pX6_silenceAll
  have h := q_silAll_go v hv sil k hk k 0 px_FU (by omega) (by unfold px_FU; omega)
  rw [q_fill_0] at h
  exact h
theorem q_wakem_go (r : Int32) (sil : Nat → Int32) (k : Nat) (hk : k ≤ 16) : ∀ (d i n : Nat), i + d = k → d < n → pX11_wake_7 (nI k) n r (nI i) (q_fill 0 sil i) = some (r, q_fill 0 sil k)
  | 0, i, n + 1, h, _ => by
    have e : i = k := by omega
    subst e
    unfold pX11_wake_7 pX11_wake_7B
    exact if_pos (nI_le (Nat.le_refl i) (by omega))
  | d + 1, i, n + 1, h, hn => by
    unfold pX11_wake_7 pX11_wake_7B
    rw [if_neg (q_nle (by omega) (by omega)), q_i (vp_in_nI (by omega) (by omega)), nI_clamp (by omega), q_nz0, q_fill_s, show nI i + 1 = nI (i + 1) from nI_add i 1]
    exact q_wakem_go r sil k hk d (i + 1) n (by omega) (by omega)
theorem q_wakex (sil : Nat → Int32) (k : Nat) (hk : k ≤ 16) : pX10_wake (nI k) sil = some (nI (q_cnt sil k), q_fill 0 sil k) := by
  unfold pX10_wake
  rw [q_b (q_silx sil k hk), q_b (q_silAll 0 (Or.inl rfl) sil k hk)]
theorem q_wakem (sil : Nat → Int32) (k : Nat) (hk : k ≤ 16) : pX11_wake (nI k) sil = some (nI (q_cnt sil k), q_fill 0 sil k) := by
  unfold pX11_wake
  rw [q_b (q_silm sil k hk)]
  have h := q_wakem_go (nI (q_cnt sil k)) sil k hk k 0 px_FU (by omega) (by unfold px_FU; omega)
  rw [q_fill_0] at h
  exact h
/-- whether v is among the first k -/
def q_mem (f : Nat → Int32) (v : Int32) (k : Nat) : Prop := ∃ j, j < k ∧ f j = v
theorem q_hasN_go (v : Int32) (num : Nat → Int32) (k : Nat) (hk : k ≤ 16) : ∀ (d i n : Nat), i + d = k → d < n → (∀ j, j < i → num j ≠ v) → (q_mem num v k → pX6_hasNumber_2 v (nI k) num n (nI i) = some 1) ∧ (¬ q_mem num v k → pX6_hasNumber_2 v (nI k) num n (nI i) = some 0)
  | 0, i, n + 1, h, _, hb => by
    have e : i = k := by omega
    subst e
    unfold pX6_hasNumber_2 pX6_hasNumber_2B
    rw [if_pos (nI_le (Nat.le_refl i) (by omega))]
    exact ⟨fun ⟨j, hj, e⟩ => absurd e (hb j hj), fun _ => rfl⟩
  | d + 1, i, n + 1, h, hn, hb => by
    unfold pX6_hasNumber_2 pX6_hasNumber_2B
    rw [if_neg (q_nle (by omega) (by omega)), q_i (vp_in_nI (by omega) (by omega)), nI_clamp (by omega)]
    by_cases c : num i = v
    · rw [if_pos c]
      exact ⟨fun _ => rfl, fun q => absurd ⟨i, by omega, c⟩ q⟩
    · rw [if_neg c, show nI i + 1 = nI (i + 1) from nI_add i 1]
      exact q_hasN_go v num k hk d (i + 1) n (by omega) (by omega) (fun j hj => by
        rcases Nat.lt_or_ge j i with q | q
        · exact hb j q
        · have : j = i := by omega
          subst this
          exact c)
theorem q_hasN (v : Int32) (num : Nat → Int32) (k : Nat) (hk : k ≤ 16) : (q_mem num v k → pX6_hasNumber v (nI k) num = some 1) ∧ (¬ q_mem num v k → pX6_hasNumber v (nI k) num = some 0) := by
  unfold pX6_hasNumber
  exact q_hasN_go v num k hk k 0 px_FU (by omega) (by unfold px_FU; omega) (fun j hj => absurd hj (Nat.not_lt_zero j))
theorem q_thM_go (v : Int32) (num : Nat → Int32) (k : Nat) (hk : k ≤ 16) : ∀ (d i n : Nat) (b : Int32), i + d = k → d < n → ((b = 1 ∧ q_mem num v i) ∨ (b = 0 ∧ ¬ q_mem num v i)) → (q_mem num v k → pX11_isThere_4 v (nI k) num n b (nI i) = some 1) ∧ (¬ q_mem num v k → pX11_isThere_4 v (nI k) num n b (nI i) = some 0)
  | 0, i, n + 1, b, h, _, hb => by
    have e : i = k := by omega
    subst e
    unfold pX11_isThere_4 pX11_isThere_4B
    rw [if_pos (nI_le (Nat.le_refl i) (by omega))]
    rcases hb with ⟨rfl, hb⟩ | ⟨rfl, hb⟩
    · exact ⟨fun _ => q_o1 _, fun q => absurd hb q⟩
    · exact ⟨fun q => absurd q hb, fun _ => q_o0 _⟩
  | d + 1, i, n + 1, b, h, hn, hb => by
    unfold pX11_isThere_4 pX11_isThere_4B
    rw [if_neg (q_nle (by omega) (by omega))]
    have st : q_mem num v (i + 1) ↔ q_mem num v i ∨ num i = v := by
      constructor
      · rintro ⟨j, hj, e⟩
        rcases Nat.lt_or_ge j i with q | q
        · exact Or.inl ⟨j, q, e⟩
        · have : j = i := by omega
          subst this
          exact Or.inr e
      · rintro (⟨j, hj, e⟩ | e)
        · exact ⟨j, by omega, e⟩
        · exact ⟨i, by omega, e⟩
    rcases hb with ⟨rfl, hb⟩ | ⟨rfl, hb⟩
    · rw [if_neg (by decide)]
      unfold pX11_isThere_26
      rw [show nI i + 1 = nI (i + 1) from nI_add i 1]
      exact q_thM_go v num k hk d (i + 1) n 1 (by omega) (by omega) (Or.inl ⟨rfl, st.mpr (Or.inl hb)⟩)
    · rw [if_pos rfl, q_i (vp_in_nI (by omega) (by omega)), nI_clamp (by omega)]
      by_cases c : num i = v
      · rw [if_pos c]
        unfold pX11_isThere_26
        rw [show nI i + 1 = nI (i + 1) from nI_add i 1]
        exact q_thM_go v num k hk d (i + 1) n 1 (by omega) (by omega) (Or.inl ⟨rfl, st.mpr (Or.inr c)⟩)
      · rw [if_neg c, show nI i + 1 = nI (i + 1) from nI_add i 1]
        exact q_thM_go v num k hk d (i + 1) n 0 (by omega) (by omega) (Or.inr ⟨rfl, fun q => (st.mp q).elim hb c⟩)
theorem q_thM (v : Int32) (num : Nat → Int32) (k : Nat) (hk : k ≤ 16) : (q_mem num v k → pX11_isThere v (nI k) num = some 1) ∧ (¬ q_mem num v k → pX11_isThere v (nI k) num = some 0) := by
  unfold pX11_isThere
  exact q_thM_go v num k hk k 0 px_FU 0 (by omega) (by unfold px_FU; omega) (Or.inr ⟨rfl, fun ⟨j, hj, _⟩ => absurd hj (Nat.not_lt_zero j)⟩)
theorem q_mem_cong {f g : Nat → Int32} {v : Int32} {k : Nat} (h : ∀ j, j < k → f j = g j) : q_mem f v k ↔ q_mem g v k :=
  ⟨fun ⟨j, hj, e⟩ => ⟨j, hj, by rw [← h j hj]; exact e⟩, fun ⟨j, hj, e⟩ => ⟨j, hj, by rw [h j hj]; exact e⟩⟩
/-! TAGS: the relation, and the calls that touch them alone -/
def J_tags (n : Int32) (k : Nat) (num str sil mnum mstr msil : Nat → Int32) : Prop :=
  k ≤ 16 ∧ ∀ j, j < k → num j = mnum j ∧ str j = mstr j ∧ sil j = msil j ∧ (sil j = 0 ∨ sil j = 1) ∧ (0 ≤ num j ∧ num j ≤ ((1 : Int32) <<< (n &&& 31)) - 1) ∧ (1 ≤ str j ∧ str j ≤ 99) ∧ ∀ i, i < j → num i ≠ num j
theorem q_lt16 {k : Nat} (hk : k ≤ 16) : nI k < (16 : Int32) ↔ k < 16 := by
  have e : (16 : Int32) = nI 16 := rfl
  rw [e]
  exact nI_ltI (by omega) (by omega)
theorem q_eq16 {k : Nat} (hk : k ≤ 16) : nI k = (16 : Int32) ↔ k = 16 := by
  have e : (16 : Int32) = nI 16 := rfl
  rw [e]
  exact nI_eq (by omega) (by omega)
/-- tag(): the same answer, and the TAGS related again -/
theorem q_tag {n : Int32} {k : Nat} {num str sil mnum mstr msil : Nat → Int32} (J : J_tags n k num str sil mnum mstr msil) (v s : Int32) :
    ∃ (r : Int32) (k2 : Nat) (num2 str2 sil2 mnum2 mstr2 msil2 : Nat → Int32), pX10_tag v s n (nI k) num str sil = some (r, nI k2, num2, str2, sil2) ∧ pX11_tag v s n (nI k) mnum mstr msil = some (r, nI k2, mnum2, mstr2, msil2) ∧ J_tags n k2 num2 str2 sil2 mnum2 mstr2 msil2 := by
  have hk := J.1
  have hm : q_mem num v k ↔ q_mem mnum v k := q_mem_cong (fun j hj => (J.2 j hj).1)
  unfold pX10_tag pX11_tag pX10_refusalOfTag
  rw [q_b (q_isNx v n), q_b (q_isNm v n)]
  rw [q_ic, q_ic]
  by_cases c1 : 0 ≤ v ∧ v ≤ ((1 : Int32) <<< (n &&& 31)) - 1
  · rw [if_pos c1, if_pos c1, q_b (q_within s 1 99)]
    have hin : pX11_in (Int32.toInt64 s) (1 : Int64) (99 : Int64) = some (if 1 ≤ s ∧ s ≤ 99 then 1 else 0) := q_in s 1 99
    rw [q_ic]
    by_cases c2 : 1 ≤ s ∧ s ≤ 99
    · rw [if_pos c2]
      by_cases c3 : q_mem num v k
      · rw [q_b ((q_hasN v num k hk).1 c3), q_b ((q_thM v mnum k hk).1 (hm.mp c3))]
        exact ⟨-1, k, num, str, sil, mnum, mstr, msil, rfl, rfl, J⟩
      · rw [q_b ((q_hasN v num k hk).2 c3), q_b ((q_thM v mnum k hk).2 (fun q => c3 (hm.mpr q)))]
        rw [if_pos rfl, if_pos rfl, q_b hin, q_ic, if_pos c2]
        by_cases c4 : k = 16
        · rw [if_neg (fun q => by have := (q_lt16 hk).mp q; omega), if_pos ((q_eq16 hk).mpr c4)]
          exact ⟨-3, k, num, str, sil, mnum, mstr, msil, rfl, rfl, J⟩
        · have h16 : k < 16 := by omega
          rw [if_pos ((q_lt16 hk).mpr h16), if_neg (fun q => c4 ((q_eq16 hk).mp q))]
          have hin16 : vp_in (nI k) 16 := vp_in_nI h16 (by omega)
          have hx : pX6_add v s (nI k) num str sil = some (nI (k + 1), upd num k v, upd str k s, upd sil k 0) := by
            unfold pX6_add
            rw [if_pos ((q_lt16 hk).mpr h16), q_i hin16, q_i hin16, q_i hin16, nI_clamp (by omega), q_nz0, show nI k + 1 = nI (k + 1) from nI_add k 1]
          have hmm : pX11_adds v s (nI k) mnum mstr msil = some (nI (k + 1), upd mnum k v, upd mstr k s, upd msil k 0) := by
            unfold pX11_adds
            rw [q_i hin16, q_i hin16, q_i hin16, nI_clamp (by omega), q_nz0, show nI k + 1 = nI (k + 1) from nI_add k 1]
          refine ⟨nI (k + 1) - 1, k + 1, upd num k v, upd str k s, upd sil k 0, upd mnum k v, upd mstr k s, upd msil k 0, ?_, ?_, by omega, fun j hj => ?_⟩
          · show px_b (some 0) _ = _
            rw [q_b rfl, if_pos rfl, q_b hx]
          · rw [q_b hmm]
          · by_cases e : j = k
            · subst e
              rw [pk_us, pk_us, pk_us, pk_us, pk_us, pk_us]
              refine ⟨rfl, rfl, rfl, Or.inl rfl, c1, c2, fun i hi => ?_⟩
              rw [pk_un (by omega)]
              exact fun q => c3 ⟨i, hi, q⟩
            · rw [pk_un e, pk_un e, pk_un e, pk_un e, pk_un e, pk_un e]
              obtain ⟨a1, a2, a3, a4, a5, a6, a7⟩ := J.2 j (by omega)
              refine ⟨a1, a2, a3, a4, a5, a6, fun i hi => ?_⟩
              rw [pk_un (by omega)]
              exact a7 i hi
    · rw [if_neg c2]
      by_cases c3 : q_mem num v k
      · rw [q_b ((q_thM v mnum k hk).1 (hm.mp c3))]
        exact ⟨-1, k, num, str, sil, mnum, mstr, msil, rfl, rfl, J⟩
      · rw [q_b ((q_thM v mnum k hk).2 (fun q => c3 (hm.mpr q))), if_pos rfl, q_b hin, q_ic, if_neg c2]
        exact ⟨-1, k, num, str, sil, mnum, mstr, msil, rfl, rfl, J⟩
  · rw [if_neg c1, if_neg c1]
    exact ⟨-1, k, num, str, sil, mnum, mstr, msil, rfl, rfl, J⟩
