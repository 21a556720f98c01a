/-! the small methods: places, wires, inputs -/
theorem l5_isPlace {k : Nat} (h : k < 2 ^ 31) : f_X5_isPlace (nI k) = some (nI (if k < 24 then 1 else 0)) := by
  unfold f_X5_isPlace
  simp (disch := omega) only [nI_lit, nI_add, pk_mul, nI_ltI, nI_leI, nI_eq, pk_sub, pk_div, pz_d, pz_w, pz_neg, pz_gen, pz_ltn, pz_len, pz_ltz, pz_nn, Option.bind_some, ↓reduceIte]
  by_cases h1 : k < 24
  · simp (disch := omega) only [nI_lit, nI_add, pk_mul, nI_ltI, nI_leI, nI_eq, pk_sub, pk_div, pz_d, pz_w, pz_neg, pz_gen, pz_ltn, pz_len, pz_ltz, pz_nn, Option.bind_some, ↓reduceIte, h1, show ¬ (24 ≤ k) by omega, Nat.not_lt_zero]
  · simp (disch := omega) only [nI_lit, nI_add, pk_mul, nI_ltI, nI_leI, nI_eq, pk_sub, pk_div, pz_d, pz_w, pz_neg, pz_gen, pz_ltn, pz_len, pz_ltz, pz_nn, Option.bind_some, ↓reduceIte, h1, show (24 ≤ k) by omega, Nat.not_lt_zero]
theorem l5_isPlace_no {x : Int32} (h : x < 0 ∨ nI 24 ≤ x) : f_X5_isPlace x = some (nI 0) := by
  unfold f_X5_isPlace
  rcases h with h | h
  · rw [if_pos h]; rfl
  · split
    · rfl
    · rw [if_pos (show (24 : Int32) ≤ x from h)]; rfl
theorem l5_isWire {k : Nat} (h : k < 2 ^ 31) : f_X5_isWire (nI k) = some (nI (if k < 72 then 1 else 0)) := by
  unfold f_X5_isWire
  simp (disch := omega) only [nI_lit, nI_add, pk_mul, nI_ltI, nI_leI, nI_eq, pk_sub, pk_div, pz_d, pz_w, pz_neg, pz_gen, pz_ltn, pz_len, pz_ltz, pz_nn, Option.bind_some, ↓reduceIte]
  by_cases h1 : k < 72
  · simp (disch := omega) only [nI_lit, nI_add, pk_mul, nI_ltI, nI_leI, nI_eq, pk_sub, pk_div, pz_d, pz_w, pz_neg, pz_gen, pz_ltn, pz_len, pz_ltz, pz_nn, Option.bind_some, ↓reduceIte, h1, show ¬ (72 ≤ k) by omega, Nat.not_lt_zero]
  · simp (disch := omega) only [nI_lit, nI_add, pk_mul, nI_ltI, nI_leI, nI_eq, pk_sub, pk_div, pz_d, pz_w, pz_neg, pz_gen, pz_ltn, pz_len, pz_ltz, pz_nn, Option.bind_some, ↓reduceIte, h1, show (72 ≤ k) by omega, Nat.not_lt_zero]
theorem l5_isInput {k : Nat} (h : k < 2 ^ 31) : f_X5_isInput (nI k) = some (nI (if k < 3 then 1 else 0)) := by
  unfold f_X5_isInput
  simp (disch := omega) only [nI_lit, nI_add, pk_mul, nI_ltI, nI_leI, nI_eq, pk_sub, pk_div, pz_d, pz_w, pz_neg, pz_gen, pz_ltn, pz_len, pz_ltz, pz_nn, Option.bind_some, ↓reduceIte]
  by_cases h1 : k < 3
  · simp (disch := omega) only [nI_lit, nI_add, pk_mul, nI_ltI, nI_leI, nI_eq, pk_sub, pk_div, pz_d, pz_w, pz_neg, pz_gen, pz_ltn, pz_len, pz_ltz, pz_nn, Option.bind_some, ↓reduceIte, h1, show ¬ (3 ≤ k) by omega, Nat.not_lt_zero]
  · simp (disch := omega) only [nI_lit, nI_add, pk_mul, nI_ltI, nI_leI, nI_eq, pk_sub, pk_div, pz_d, pz_w, pz_neg, pz_gen, pz_ltn, pz_len, pz_ltz, pz_nn, Option.bind_some, ↓reduceIte, h1, show (3 ≤ k) by omega, Nat.not_lt_zero]
theorem l5_isInput_no {x : Int32} (h : x < 0 ∨ nI 3 ≤ x) : f_X5_isInput x = some (nI 0) := by
  unfold f_X5_isInput
  rcases h with h | h
  · rw [if_pos h]; rfl
  · split
    · rfl
    · rw [if_pos (show (3 : Int32) ≤ x from h)]; rfl
theorem l5_isTable {k : Nat} (h : k < 2 ^ 31) : f_X5_isTable (nI k) = some (nI (if k < 256 then 1 else 0)) := by
  unfold f_X5_isTable
  simp (disch := omega) only [nI_lit, nI_add, pk_mul, nI_ltI, nI_leI, nI_eq, pk_sub, pk_div, pz_d, pz_w, pz_neg, pz_gen, pz_ltn, pz_len, pz_ltz, pz_nn, Option.bind_some, ↓reduceIte]
  by_cases h1 : k < 256
  · simp (disch := omega) only [nI_lit, nI_add, pk_mul, nI_ltI, nI_leI, nI_eq, pk_sub, pk_div, pz_d, pz_w, pz_neg, pz_gen, pz_ltn, pz_len, pz_ltz, pz_nn, Option.bind_some, ↓reduceIte, h1, show ¬ (256 ≤ k) by omega, Nat.not_lt_zero]
  · simp (disch := omega) only [nI_lit, nI_add, pk_mul, nI_ltI, nI_leI, nI_eq, pk_sub, pk_div, pz_d, pz_w, pz_neg, pz_gen, pz_ltn, pz_len, pz_ltz, pz_nn, Option.bind_some, ↓reduceIte, h1, show (256 ≤ k) by omega, Nat.not_lt_zero]
theorem l5_isTable_no {x : Int32} (h : x < 0 ∨ nI 256 ≤ x) : f_X5_isTable x = some (nI 0) := by
  unfold f_X5_isTable
  rcases h with h | h
  · rw [if_pos h]; rfl
  · split
    · rfl
    · rw [if_pos (show (256 : Int32) ≤ x from h)]; rfl
/-- the reference's 'in' -/
theorem l6_in {k a b : Nat} (h : k < 2 ^ 31) (ha : a < 2 ^ 31) (hb : b < 2 ^ 31) : f_X6_in (nI k) (nI a) (nI b) = some (nI (if a ≤ k ∧ k ≤ b then 1 else 0)) := by
  unfold f_X6_in
  simp (disch := omega) only [nI_lit, nI_add, pk_mul, nI_ltI, nI_leI, nI_eq, pk_sub, pk_div, pz_d, pz_w, pz_neg, pz_gen, pz_ltn, pz_len, pz_ltz, pz_nn, Option.bind_some, ↓reduceIte]
  by_cases h1 : k < a
  · simp (disch := omega) only [nI_lit, nI_add, pk_mul, nI_ltI, nI_leI, nI_eq, pk_sub, pk_div, pz_d, pz_w, pz_neg, pz_gen, pz_ltn, pz_len, pz_ltz, pz_nn, Option.bind_some, ↓reduceIte, h1, show ¬ (a ≤ k ∧ k ≤ b) by omega]
  · by_cases h2 : b < k
    · simp (disch := omega) only [nI_lit, nI_add, pk_mul, nI_ltI, nI_leI, nI_eq, pk_sub, pk_div, pz_d, pz_w, pz_neg, pz_gen, pz_ltn, pz_len, pz_ltz, pz_nn, Option.bind_some, ↓reduceIte, h1, h2, show ¬ (a ≤ k ∧ k ≤ b) by omega]
    · simp (disch := omega) only [nI_lit, nI_add, pk_mul, nI_ltI, nI_leI, nI_eq, pk_sub, pk_div, pz_d, pz_w, pz_neg, pz_gen, pz_ltn, pz_len, pz_ltz, pz_nn, Option.bind_some, ↓reduceIte, h1, h2, show (a ≤ k ∧ k ≤ b) by omega, and_self]
theorem l6_in_no {x : Int32} {b : Nat} (hb : b + 1 < 2 ^ 31) (h : x < 0 ∨ nI (b + 1) ≤ x) : f_X6_in x (nI 0) (nI b) = some (nI 0) := by
  unfold f_X6_in
  rcases h with h | h
  · rw [if_pos (show x < nI 0 from h)]; rfl
  · split
    · rfl
    · rw [if_pos]
      · rfl
      · rw [Int32.lt_iff_toInt_lt, nI_toInt (by omega)]
        rw [Int32.le_iff_toInt_le, nI_toInt hb] at h
        omega
theorem pz_z {k : Nat} (h : k < 2) : xr_z (nI k) = some (nI k) := by
  unfold xr_z
  rw [if_pos]
  rcases (show k = 0 ∨ k = 1 by omega) with rfl | rfl
  · exact Or.inl rfl
  · exact Or.inr rfl
theorem l6_isPlace {k : Nat} (h : k < 2 ^ 31) : f_X6_isPlace (nI k) = some (nI (if k < 24 then 1 else 0)) := by
  unfold f_X6_isPlace
  have e : (if 0 ≤ k ∧ k ≤ 23 then 1 else 0) = (if k < 24 then 1 else 0) := by
    by_cases h1 : k < 24
    · rw [if_pos h1, if_pos (by omega)]
    · rw [if_neg h1, if_neg (by omega)]
  simp (disch := omega) only [nI_lit, nI_add, pk_mul, nI_ltI, nI_leI, nI_eq, pk_sub, pk_div, pz_d, pz_w, pz_neg, pz_gen, pz_ltn, pz_len, pz_ltz, pz_nn, Option.bind_some, ↓reduceIte, l6_in, e]
  rw [pz_z (by split <;> omega)]
  rfl
theorem l6_isPlace_no {x : Int32} (h : x < 0 ∨ nI 24 ≤ x) : f_X6_isPlace x = some (nI 0) := by
  unfold f_X6_isPlace
  rw [show f_X6_in x 0 23 = some (nI 0) from l6_in_no (b := 23) (by omega) h]
  rfl
