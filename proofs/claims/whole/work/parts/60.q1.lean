/-! plain facts for the pure programs -/
theorem q_le (a b : Int32) : a ≤ b ↔ a.toInt ≤ b.toInt := Int32.le_iff_toInt_le
theorem q_lt (a b : Int32) : a < b ↔ a.toInt < b.toInt := Int32.lt_iff_toInt_lt
theorem q_eq (a b : Int32) : a = b ↔ a.toInt = b.toInt := Int32.toInt_inj.symm
theorem q_leL (a b : Int64) : a ≤ b ↔ a.toInt ≤ b.toInt := Int64.le_iff_toInt_le
theorem q_ltL (a b : Int64) : a < b ↔ a.toInt < b.toInt := Int64.lt_iff_toInt_lt
theorem q_eqL (a b : Int64) : a = b ↔ a.toInt = b.toInt := Int64.toInt_inj.symm
theorem q_wide (a b : Int32) : a.toInt64 ≤ b.toInt64 ↔ a ≤ b := by
  rw [q_leL, q_le, Int32.toInt_toInt64, Int32.toInt_toInt64]
theorem q_b {α β : Type} {x : Option α} {a : α} (h : x = some a) (f : α → Option β) : px_b x f = f a := by rw [h]; rfl
theorem q_i {β : Type} {i : Int32} {n : Nat} (h : vp_in i n) (k : Option β) : px_i i n k = k := if_neg h
theorem q_z {β : Type} {y : Int32} (h : ¬ y = 0) (k : Option β) : px_z y k = k := if_neg h
theorem q_zl {β : Type} {y : Int64} (h : ¬ y = 0) (k : Option β) : px_zl y k = k := if_neg h
theorem q_oc {β : Type} (c : Prop) [Decidable c] (k : Option β) : px_o (if c then 1 else 0) k = k := by
  unfold px_o
  by_cases h : c
  · rw [if_pos h]; exact if_pos (Or.inr rfl)
  · rw [if_neg h]; exact if_pos (Or.inl rfl)
theorem q_o0 {β : Type} (k : Option β) : px_o 0 k = k := if_pos (Or.inl rfl)
theorem q_o1 {β : Type} (k : Option β) : px_o 1 k = k := if_pos (Or.inr rfl)
theorem q_ic {γ : Type} (c : Prop) [Decidable c] (a b : γ) : (if (if c then (1 : Int32) else 0) = 0 then a else b) = if c then b else a := by
  by_cases h : c
  · rw [if_pos h, if_pos h]; exact if_neg (by decide)
  · rw [if_neg h, if_neg h]; exact if_pos rfl
theorem q_lcl (x y : Int64) : lg_cmp x y < 0 ↔ x < y := by
  unfold lg_cmp
  by_cases h : x > y
  · rw [if_pos h]
    have h1 : y.toInt < x.toInt := (q_ltL _ _).mp h
    rw [q_ltL]
    constructor
    · intro q; exact absurd q (by decide)
    · intro q; omega
  · rw [if_neg h]
    have h1 : ¬ y.toInt < x.toInt := fun q => h ((q_ltL _ _).mpr q)
    by_cases e : x = y
    · rw [if_pos e, e]
      constructor
      · intro q; exact absurd q (by decide)
      · intro q; rw [q_ltL] at q; omega
    · rw [if_neg e, q_ltL]
      have h2 : ¬ x.toInt = y.toInt := fun q => e ((q_eqL _ _).mpr q)
      constructor
      · intro _; omega
      · intro _; decide
theorem q_lcg (x y : Int64) : 0 < lg_cmp x y ↔ y < x := by
  unfold lg_cmp
  by_cases h : x > y
  · rw [if_pos h]
    exact ⟨fun _ => h, fun _ => by decide⟩
  · rw [if_neg h]
    by_cases e : x = y
    · rw [if_pos e]
      exact ⟨fun q => absurd q (by decide), fun q => absurd q h⟩
    · rw [if_neg e]
      exact ⟨fun q => absurd q (by decide), fun q => absurd q h⟩
theorem q_within (v a b : Int32) : pX10_within v a b = some (if a ≤ v ∧ v ≤ b then 1 else 0) := by
  unfold pX10_within
  by_cases h1 : v < a
  · rw [if_pos h1, if_neg (fun q => by rw [q_lt] at h1; rw [q_le] at q; have := q.1; omega)]
  · rw [if_neg h1]
    by_cases h2 : b < v
    · rw [if_pos h2, if_neg (fun q => by rw [q_lt] at h2; have := q.2; rw [q_le] at this; omega)]
    · rw [if_neg h2, if_pos]
      rw [q_lt] at h1 h2
      rw [q_le, q_le]
      omega
theorem q_in64 (v a b : Int64) : pX11_in v a b = some (if a ≤ v ∧ v ≤ b then 1 else 0) := by
  unfold pX11_in
  by_cases h1 : v < a
  · rw [if_pos ((q_lcl _ _).mpr h1), if_neg (fun q => by rw [q_ltL] at h1; rw [q_leL] at q; have := q.1; omega)]
  · rw [if_neg (fun q => h1 ((q_lcl _ _).mp q))]
    by_cases h2 : b < v
    · rw [if_pos ((q_lcg _ _).mpr h2), if_neg (fun q => by rw [q_ltL] at h2; have := q.2; rw [q_leL] at this; omega)]
    · rw [if_neg (fun q => h2 ((q_lcg _ _).mp q)), if_pos]
      rw [q_ltL] at h1 h2
      rw [q_leL, q_leL]
      omega
theorem q_in (v a b : Int32) : pX11_in v.toInt64 a.toInt64 b.toInt64 = some (if a ≤ v ∧ v ≤ b then 1 else 0) := by
  rw [q_in64]
  by_cases h : a ≤ v ∧ v ≤ b
  · rw [if_pos h, if_pos ⟨(q_wide _ _).mpr h.1, (q_wide _ _).mpr h.2⟩]
  · rw [if_neg h, if_neg (fun q => h ⟨(q_wide _ _).mp q.1, (q_wide _ _).mp q.2⟩)]
theorem q_low (n : Int32) : pX10_lowBits n = some (((1 : Int32) <<< (n &&& 31)) - 1) := rfl
def q_isN (n v : Int32) : Prop := 0 ≤ v ∧ v ≤ ((1 : Int32) <<< (n &&& 31)) - 1
theorem q_isNx (v n : Int32) : pX10_isNumber v n = some (if 0 ≤ v ∧ v ≤ ((1 : Int32) <<< (n &&& 31)) - 1 then 1 else 0) := by
  unfold pX10_isNumber
  rw [q_b (q_low n), q_b (q_within _ _ _), q_oc]
theorem q_isNm (v n : Int32) : pX11_isNumber v n = some (if 0 ≤ v ∧ v ≤ ((1 : Int32) <<< (n &&& 31)) - 1 then 1 else 0) := by
  unfold pX11_isNumber
  have h : pX11_in (Int32.toInt64 v) (0 : Int64) (Int32.toInt64 (((1 : Int32) <<< (n &&& 31)) - 1)) = some (if 0 ≤ v ∧ v ≤ ((1 : Int32) <<< (n &&& 31)) - 1 then 1 else 0) := q_in v 0 _
  rw [q_b h, q_oc]
theorem q_has (v sz : Int32) : pX6_has v sz = some (if 0 ≤ v ∧ v ≤ sz - 1 then 1 else 0) := by
  unfold pX6_has
  rw [q_b (q_within _ _ _), q_oc]
theorem q_isT (v sz : Int32) : pX11_isTag v sz = some (if 0 ≤ v ∧ v ≤ sz - 1 then 1 else 0) := by
  unfold pX11_isTag
  have h : pX11_in (Int32.toInt64 v) (0 : Int64) (Int32.toInt64 (sz - 1)) = some (if 0 ≤ v ∧ v ≤ sz - 1 then 1 else 0) := q_in v 0 _
  rw [q_b h, q_oc]
theorem q_vin {v : Int32} {n : Nat} (h0 : 0 ≤ v.toInt) (h1 : v.toInt < n) : vp_in v n := vp_in_iff.mpr ⟨h0, h1⟩
/-- an index into the first k of at most n places -/
theorem q_ix {v sz : Int32} {k n : Nat} (hs : sz = nI k) (hk : k ≤ n) (hn : n < 1000) (h : 0 ≤ v ∧ v ≤ sz - 1) : vp_in v n ∧ ∃ j : Nat, j < k ∧ v = nI j ∧ v.toNatClampNeg = j := by
  obtain ⟨h1, h2⟩ := h
  have hz : (0 : Int32).toInt = 0 := by decide
  rw [q_le, hz] at h1
  rw [q_le, hs] at h2
  have e : (nI k - 1).toInt = (k : Int) - 1 := pk_sub_toInt (a := k) (b := 1) (by omega) (by omega)
  rw [e] at h2
  have hv : ∃ j : Nat, v.toInt = (j : Int) := ⟨v.toInt.toNat, by omega⟩
  obtain ⟨j, hj⟩ := hv
  have ej : v = nI j := by rw [q_eq, nI_toInt (by omega)]; exact hj
  exact ⟨q_vin (by omega) (by omega), j, by omega, ej, by rw [ej, nI_clamp (by omega)]⟩
