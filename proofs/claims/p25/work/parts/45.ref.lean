/-! the reference's row: reads and small writes -/
def mR (r : Nat → Int32) (tb sr lg : Nat → Nat) (jn : Nat → Nat → Nat) (cp su : Nat) : Prop := mT r tb ∧ mS r sr ∧ mL r lg ∧ mJ r lg jn ∧ mC r cp su
theorem mR_eq {r r' : Nat → Int32} {tb sr lg : Nat → Nat} {jn : Nat → Nat → Nat} {cp su : Nat} (hl : ∀ w, w < 72 → lg w ≤ 24) (h : ∀ k, k < 1898 → r' k = r k) (hR : mR r tb sr lg jn cp su) : mR r' tb sr lg jn cp su := by
  obtain ⟨h1, h2, h3, h4, h5, h6⟩ := hR
  refine ⟨fun p hp => ?_, fun w hw => ?_, fun w hw => ?_, fun w hw k hk => ?_, ?_, ?_⟩
  · rw [h _ (by omega)]; exact h1 p hp
  · rw [h _ (by omega)]; exact h2 w hw
  · rw [h _ (by omega)]; exact h3 w hw
  · have := hl w hw
    rw [h _ (by omega)]; exact h4 w hw k hk
  · rw [h _ (by omega)]; exact h5
  · rw [h _ (by omega)]; exact h6
theorem l6_isSource {r : Nat → Int32} {tb : Nat → Nat} (hT : mT r tb) (hb : wT tb) {s : Nat} (hs : s < 34) : f_X6_isSource r (nI s) = some (nI (zq tb s)) := by
  unfold f_X6_isSource zq
  rw [show f_X6_in (nI s) 24 33 = _ from l6_in (a := 24) (b := 33) (by omega) (by omega) (by omega), Option.bind_some]
  by_cases h : s < 24
  · have h3 := zc_lt tb s
    simp (disch := omega) only [nI_lit, nI_add, pk_mul, nI_ltI, nI_leI, nI_eq, pk_sub, pk_div, pz_d, pz_w, pz_neg, pz_gen, pz_ltn, pz_len, pz_ltz, pz_nn, Option.bind_some, Nat.one_ne_zero, Nat.zero_ne_one, and_self, and_true, true_and, and_false, false_and, ↓reduceIte, l6_isCell hT hb, h, show ¬ (24 ≤ s ∧ s ≤ 33) by omega]
    by_cases hc : zc tb s = 0
    · simp (disch := omega) only [nI_lit, nI_add, pk_mul, nI_ltI, nI_leI, nI_eq, pk_sub, pk_div, pz_d, pz_w, pz_neg, pz_gen, pz_ltn, pz_len, pz_ltz, pz_nn, Option.bind_some, Nat.one_ne_zero, Nat.zero_ne_one, and_self, and_true, true_and, and_false, false_and, ↓reduceIte, hc]
    · simp (disch := omega) only [nI_lit, nI_add, pk_mul, nI_ltI, nI_leI, nI_eq, pk_sub, pk_div, pz_d, pz_w, pz_neg, pz_gen, pz_ltn, pz_len, pz_ltz, pz_nn, Option.bind_some, Nat.one_ne_zero, Nat.zero_ne_one, and_self, and_true, true_and, and_false, false_and, ↓reduceIte, hc, show zc tb s = 1 by omega]
  · simp (disch := omega) only [nI_lit, nI_add, pk_mul, nI_ltI, nI_leI, nI_eq, pk_sub, pk_div, pz_d, pz_w, pz_neg, pz_gen, pz_ltn, pz_len, pz_ltz, pz_nn, Option.bind_some, Nat.one_ne_zero, Nat.zero_ne_one, and_self, and_true, true_and, and_false, false_and, ↓reduceIte, h, show (24 ≤ s ∧ s ≤ 33) by omega]
theorem l6_isSource_no {r : Nat → Int32} {x : Int32} (h : x < 0 ∨ nI 34 ≤ x) : f_X6_isSource r x = some (nI 0) := by
  unfold f_X6_isSource
  have h2 : x < 0 ∨ nI 24 ≤ x := h.imp id (fun h => by rw [Int32.le_iff_toInt_le, nI_toInt (by omega)] at h ⊢; omega)
  have h3 : f_X6_in x 24 33 = some 0 := by
    unfold f_X6_in
    rcases h with h | h
    · rw [if_pos (show x < 24 by rw [Int32.lt_iff_toInt_lt] at h ⊢; exact Int.lt_trans h (by decide))]
    · split
      · rfl
      · rw [if_pos]
        rw [Int32.le_iff_toInt_le, nI_toInt (by omega)] at h
        rw [Int32.lt_iff_toInt_lt, show (33 : Int32).toInt = 33 by decide]
        omega
  rw [h3, Option.bind_some, if_pos rfl, l6_isCell_no h2]
  rfl
theorem l6_isWire {r : Nat → Int32} {tb sr : Nat → Nat} (hT : mT r tb) (hS : mS r sr) (hb : wT tb) (hs : wS tb sr) {w : Nat} (hw : w < 72) : f_X6_isWire r (nI w) = some (nI (zw sr w)) := by
  have h3 := hs.1 w hw
  have h4 := hs.2 w hw
  have h5 := zc_lt tb (w / 3)
  unfold f_X6_isWire
  simp (disch := omega) only [nI_lit, nI_add, pk_mul, nI_ltI, nI_leI, nI_eq, pk_sub, pk_div, pz_d, pz_w, pz_neg, pz_gen, pz_ltn, pz_len, pz_ltz, pz_nn, Option.bind_some, Nat.one_ne_zero, Nat.zero_ne_one, and_self, and_true, true_and, and_false, false_and, ↓reduceIte, l6_isCell hT hb, hS w hw]
  by_cases hc : zc tb (w / 3) = 0
  · have h6 := h4 (zc_0.mp hc)
    rw [show zw sr w = 0 from if_neg (by omega)]
    simp (disch := omega) only [nI_lit, nI_add, pk_mul, nI_ltI, nI_leI, nI_eq, pk_sub, pk_div, pz_d, pz_w, pz_neg, pz_gen, pz_ltn, pz_len, pz_ltz, pz_nn, Option.bind_some, Nat.one_ne_zero, Nat.zero_ne_one, and_self, and_true, true_and, and_false, false_and, ↓reduceIte, hc]
  · by_cases h6 : sr w < 32
    · rw [show zw sr w = 1 from if_pos h6]
      simp (disch := omega) only [nI_lit, nI_add, pk_mul, nI_ltI, nI_leI, nI_eq, pk_sub, pk_div, pz_d, pz_w, pz_neg, pz_gen, pz_ltn, pz_len, pz_ltz, pz_nn, Option.bind_some, Nat.one_ne_zero, Nat.zero_ne_one, and_self, and_true, true_and, and_false, false_and, ↓reduceIte, hc, show ¬ (32 ≤ sr w) by omega]
    · rw [show zw sr w = 0 from if_neg h6]
      simp (disch := omega) only [nI_lit, nI_add, pk_mul, nI_ltI, nI_leI, nI_eq, pk_sub, pk_div, pz_d, pz_w, pz_neg, pz_gen, pz_ltn, pz_len, pz_ltz, pz_nn, Option.bind_some, Nat.one_ne_zero, Nat.zero_ne_one, and_self, and_true, true_and, and_false, false_and, ↓reduceIte, hc, show (32 ≤ sr w) by omega]
theorem l6_having_5 {r : Nat → Int32} {tb sr : Nat → Nat} (hT : mT r tb) (hS : mS r sr) (hb : wT tb) (hs : wS tb sr) {p : Nat} (hp : p < 24) (k : Int32 → Option Int32) : ∀ m i n : Nat, i + m = 72 → m < n → f_X6_having_5 r (nI p) (nI p) k n (nI (pz_su (fun w => if w / 3 = p then 0 else zu sr p w) i)) (nI i) = k (nI (pz_su (fun w => if w / 3 = p then 0 else zu sr p w) 72)) := by
  intro m
  induction m with
  | zero =>
    intro i n h1 h2
    obtain ⟨n, rfl⟩ : ∃ q, n = q + 1 := ⟨n - 1, by omega⟩
    obtain rfl : i = 72 := by omega
    unfold f_X6_having_5
    rw [if_pos (show (72 : Int32) ≤ nI 72 from nI_le (a := 72) (Nat.le_refl _) (by omega))]
  | succ m ih =>
    intro i n h1 h2
    obtain ⟨n, rfl⟩ : ∃ q, n = q + 1 := ⟨n - 1, by omega⟩
    have ih := ih (i + 1) n (by omega) (by omega)
    have hi : i < 72 := by omega
    rw [show pz_su (fun w => if w / 3 = p then 0 else zu sr p w) (i + 1) = pz_su (fun w => if w / 3 = p then 0 else zu sr p w) i + (fun w => if w / 3 = p then 0 else zu sr p w) i from rfl] at ih
    unfold f_X6_having_5
    rw [if_neg (show ¬ ((72 : Int32) ≤ nI i) from nI_ge (b := 72) hi (by omega))]
    have h3 := hs.1 i hi
    rw [l6_isWire hT hS hb hs hi, Option.bind_some]
    dsimp only at ih
    by_cases hw : sr i < 32
    · rw [show zw sr i = 1 from if_pos hw]
      by_cases hc : i / 3 = p
      · rw [if_pos hc] at ih
        simp (disch := omega) only [nI_lit, nI_add, pk_mul, nI_ltI, nI_leI, nI_eq, pk_sub, pk_div, pz_d, pz_w, pz_neg, pz_gen, pz_ltn, pz_len, pz_ltz, pz_nn, Option.bind_some, Nat.one_ne_zero, Nat.zero_ne_one, and_self, and_true, true_and, and_false, false_and, ↓reduceIte, hc, ih]
      · rw [if_neg hc] at ih
        simp (disch := omega) only [nI_lit, nI_add, pk_mul, nI_ltI, nI_leI, nI_eq, pk_sub, pk_div, pz_d, pz_w, pz_neg, pz_gen, pz_ltn, pz_len, pz_ltz, pz_nn, Option.bind_some, Nat.one_ne_zero, Nat.zero_ne_one, and_self, and_true, true_and, and_false, false_and, ↓reduceIte, hc, hS i hi]
        by_cases hq : sr i = p
        · rw [show zu sr p i = 1 from if_pos hq] at ih
          simp (disch := omega) only [nI_lit, nI_add, pk_mul, nI_ltI, nI_leI, nI_eq, pk_sub, pk_div, pz_d, pz_w, pz_neg, pz_gen, pz_ltn, pz_len, pz_ltz, pz_nn, Option.bind_some, Nat.one_ne_zero, Nat.zero_ne_one, and_self, and_true, true_and, and_false, false_and, ↓reduceIte, hq, ih]
        · rw [show zu sr p i = 0 from if_neg hq] at ih
          simp (disch := omega) only [nI_lit, nI_add, pk_mul, nI_ltI, nI_leI, nI_eq, pk_sub, pk_div, pz_d, pz_w, pz_neg, pz_gen, pz_ltn, pz_len, pz_ltz, pz_nn, Option.bind_some, Nat.one_ne_zero, Nat.zero_ne_one, and_self, and_true, true_and, and_false, false_and, ↓reduceIte, hq, ih]
    · rw [show zw sr i = 0 from if_neg hw]
      rw [show (if i / 3 = p then 0 else zu sr p i) = 0 by split; rfl; exact if_neg (by omega)] at ih
      simp (disch := omega) only [nI_lit, nI_add, pk_mul, nI_ltI, nI_leI, nI_eq, pk_sub, pk_div, pz_d, pz_w, pz_neg, pz_gen, pz_ltn, pz_len, pz_ltz, pz_nn, Option.bind_some, Nat.one_ne_zero, Nat.zero_ne_one, and_self, and_true, true_and, and_false, false_and, ↓reduceIte, ih]
theorem l6_having {r : Nat → Int32} {tb sr : Nat → Nat} (hT : mT r tb) (hS : mS r sr) (hb : wT tb) (hs : wS tb sr) {p : Nat} (hp : p < 24) : f_X6_having r (nI p) (nI p) = some (nI (pz_su (fun w => if w / 3 = p then 0 else zu sr p w) 72)) :=
  l6_having_5 hT hS hb hs hp (fun x => some x) 72 0 xFu (by omega) (by unfold xFu; omega)
theorem l6_havinga_5 {r : Nat → Int32} {tb sr : Nat → Nat} (hT : mT r tb) (hS : mS r sr) (hb : wT tb) (hs : wS tb sr) {p : Nat} (hp : p < 24) (k : Int32 → Option Int32) : ∀ m i n : Nat, i + m = 72 → m < n → f_X6_having_5 r (nI p) (-nI 5) k n (nI (pz_su (zu sr p) i)) (nI i) = k (nI (pz_su (zu sr p) 72)) := by
  intro m
  induction m with
  | zero =>
    intro i n h1 h2
    obtain ⟨n, rfl⟩ : ∃ q, n = q + 1 := ⟨n - 1, by omega⟩
    obtain rfl : i = 72 := by omega
    unfold f_X6_having_5
    rw [if_pos (show (72 : Int32) ≤ nI 72 from nI_le (a := 72) (Nat.le_refl _) (by omega))]
  | succ m ih =>
    intro i n h1 h2
    obtain ⟨n, rfl⟩ : ∃ q, n = q + 1 := ⟨n - 1, by omega⟩
    have ih := ih (i + 1) n (by omega) (by omega)
    have hi : i < 72 := by omega
    rw [show pz_su (zu sr p) (i + 1) = pz_su (zu sr p) i + (zu sr p) i from rfl] at ih
    unfold f_X6_having_5
    rw [if_neg (show ¬ ((72 : Int32) ≤ nI i) from nI_ge (b := 72) hi (by omega))]
    have h3 := hs.1 i hi
    rw [l6_isWire hT hS hb hs hi, Option.bind_some]
    by_cases hw : sr i < 32
    · rw [show zw sr i = 1 from if_pos hw]
      simp (disch := omega) only [nI_lit, nI_add, pk_mul, nI_ltI, nI_leI, nI_eq, pk_sub, pk_div, pz_d, pz_w, pz_neg, pz_gen, pz_ltn, pz_len, pz_ltz, pz_nn, Option.bind_some, Nat.one_ne_zero, Nat.zero_ne_one, and_self, and_true, true_and, and_false, false_and, ↓reduceIte, hS i hi]
      by_cases hq : sr i = p
      · rw [show zu sr p i = 1 from if_pos hq] at ih
        simp (disch := omega) only [nI_lit, nI_add, pk_mul, nI_ltI, nI_leI, nI_eq, pk_sub, pk_div, pz_d, pz_w, pz_neg, pz_gen, pz_ltn, pz_len, pz_ltz, pz_nn, Option.bind_some, Nat.one_ne_zero, Nat.zero_ne_one, and_self, and_true, true_and, and_false, false_and, ↓reduceIte, hq, ih]
      · rw [show zu sr p i = 0 from if_neg hq] at ih
        simp (disch := omega) only [nI_lit, nI_add, pk_mul, nI_ltI, nI_leI, nI_eq, pk_sub, pk_div, pz_d, pz_w, pz_neg, pz_gen, pz_ltn, pz_len, pz_ltz, pz_nn, Option.bind_some, Nat.one_ne_zero, Nat.zero_ne_one, and_self, and_true, true_and, and_false, false_and, ↓reduceIte, hq, ih]
    · rw [show zw sr i = 0 from if_neg hw]
      rw [show zu sr p i = 0 from if_neg (by omega)] at ih
      simp (disch := omega) only [nI_lit, nI_add, pk_mul, nI_ltI, nI_leI, nI_eq, pk_sub, pk_div, pz_d, pz_w, pz_neg, pz_gen, pz_ltn, pz_len, pz_ltz, pz_nn, Option.bind_some, Nat.one_ne_zero, Nat.zero_ne_one, and_self, and_true, true_and, and_false, false_and, ↓reduceIte, ih]
theorem l6_havinga {r : Nat → Int32} {tb sr : Nat → Nat} (hT : mT r tb) (hS : mS r sr) (hb : wT tb) (hs : wS tb sr) {p : Nat} (hp : p < 24) : f_X6_having r (nI p) (-5) = some (nI (pz_su (zu sr p) 72)) :=
  l6_havinga_5 hT hS hb hs hp (fun x => some x) 72 0 xFu (by omega) (by unfold xFu; omega)
theorem l6_wires_4 {r : Nat → Int32} {tb sr : Nat → Nat} (hT : mT r tb) (hS : mS r sr) (hb : wT tb) (hs : wS tb sr) (k : Int32 → Option Int32) : ∀ m i n : Nat, i + m = 72 → m < n → f_X6_wires_4 r k n (nI (pz_su (zw sr) i)) (nI i) = k (nI (pz_su (zw sr) 72)) := by
  intro m
  induction m with
  | zero =>
    intro i n h1 h2
    obtain ⟨n, rfl⟩ : ∃ q, n = q + 1 := ⟨n - 1, by omega⟩
    obtain rfl : i = 72 := by omega
    unfold f_X6_wires_4
    rw [if_pos (show (72 : Int32) ≤ nI 72 from nI_le (a := 72) (Nat.le_refl _) (by omega))]
  | succ m ih =>
    intro i n h1 h2
    obtain ⟨n, rfl⟩ : ∃ q, n = q + 1 := ⟨n - 1, by omega⟩
    have ih := ih (i + 1) n (by omega) (by omega)
    have hi : i < 72 := by omega
    rw [show pz_su (zw sr) (i + 1) = pz_su (zw sr) i + (zw sr) i from rfl] at ih
    unfold f_X6_wires_4
    rw [if_neg (show ¬ ((72 : Int32) ≤ nI i) from nI_ge (b := 72) hi (by omega))]
    rw [l6_isWire hT hS hb hs hi, Option.bind_some]
    by_cases hw : sr i < 32
    · rw [show zw sr i = 1 from if_pos hw] at ih ⊢
      simp (disch := omega) only [nI_lit, nI_add, pk_mul, nI_ltI, nI_leI, nI_eq, pk_sub, pk_div, pz_d, pz_w, pz_neg, pz_gen, pz_ltn, pz_len, pz_ltz, pz_nn, Option.bind_some, Nat.one_ne_zero, Nat.zero_ne_one, and_self, and_true, true_and, and_false, false_and, ↓reduceIte, ih]
    · rw [show zw sr i = 0 from if_neg hw] at ih ⊢
      simp (disch := omega) only [nI_lit, nI_add, pk_mul, nI_ltI, nI_leI, nI_eq, pk_sub, pk_div, pz_d, pz_w, pz_neg, pz_gen, pz_ltn, pz_len, pz_ltz, pz_nn, Option.bind_some, Nat.one_ne_zero, Nat.zero_ne_one, and_self, and_true, true_and, and_false, false_and, ↓reduceIte, ih]
theorem l6_wires {r : Nat → Int32} {tb sr : Nat → Nat} (hT : mT r tb) (hS : mS r sr) (hb : wT tb) (hs : wS tb sr) : f_X6_wires r = some (nI (pz_su (zw sr) 72)) :=
  l6_wires_4 hT hS hb hs (fun x => some x) 72 0 xFu (by omega) (by unfold xFu; omega)
theorem l6_segments_4 {r : Nat → Int32} {lg : Nat → Nat} (hL : mL r lg) (hl : ∀ w, w < 72 → lg w ≤ 24) (k : Int32 → Option Int32) : ∀ m i n : Nat, i + m = 72 → m < n → f_X6_segments_4 r k n (nI (pz_su (zl lg) i)) (nI i) = k (nI (pz_su (zl lg) 72)) := by
  intro m
  induction m with
  | zero =>
    intro i n h1 h2
    obtain ⟨n, rfl⟩ : ∃ q, n = q + 1 := ⟨n - 1, by omega⟩
    obtain rfl : i = 72 := by omega
    unfold f_X6_segments_4
    rw [if_pos (show (72 : Int32) ≤ nI 72 from nI_le (a := 72) (Nat.le_refl _) (by omega))]
  | succ m ih =>
    intro i n h1 h2
    obtain ⟨n, rfl⟩ : ∃ q, n = q + 1 := ⟨n - 1, by omega⟩
    have ih := ih (i + 1) n (by omega) (by omega)
    have hi : i < 72 := by omega
    rw [show pz_su (zl lg) (i + 1) = pz_su (zl lg) i + (zl lg) i from rfl] at ih
    unfold f_X6_segments_4
    rw [if_neg (show ¬ ((72 : Int32) ≤ nI i) from nI_ge (b := 72) hi (by omega))]
    have h3 := hl i hi
    rw [show zl lg i = lg i - 1 from rfl] at ih
    simp (disch := omega) only [nI_lit, nI_add, pk_mul, nI_ltI, nI_leI, nI_eq, pk_sub, pk_div, pz_d, pz_w, pz_neg, pz_gen, pz_ltn, pz_len, pz_ltz, pz_nn, Option.bind_some, Nat.one_ne_zero, Nat.zero_ne_one, and_self, and_true, true_and, and_false, false_and, ↓reduceIte, hL i hi]
    by_cases hq : lg i ≤ 0
    · rw [show lg i - 1 = 0 by omega] at ih
      simp (disch := omega) only [nI_lit, nI_add, pk_mul, nI_ltI, nI_leI, nI_eq, pk_sub, pk_div, pz_d, pz_w, pz_neg, pz_gen, pz_ltn, pz_len, pz_ltz, pz_nn, Option.bind_some, Nat.one_ne_zero, Nat.zero_ne_one, and_self, and_true, true_and, and_false, false_and, ↓reduceIte, hq, ih]
    · simp (disch := omega) only [nI_lit, nI_add, pk_mul, nI_ltI, nI_leI, nI_eq, pk_sub, pk_div, pz_d, pz_w, pz_neg, pz_gen, pz_ltn, pz_len, pz_ltz, pz_nn, Option.bind_some, Nat.one_ne_zero, Nat.zero_ne_one, and_self, and_true, true_and, and_false, false_and, ↓reduceIte, hq, ih]
theorem l6_segments {r : Nat → Int32} {lg : Nat → Nat} (hL : mL r lg) (hl : ∀ w, w < 72 → lg w ≤ 24) : f_X6_segments r = some (nI (pz_su (zl lg) 72)) :=
  l6_segments_4 hL hl (fun x => some x) 72 0 xFu (by omega) (by unfold xFu; omega)
theorem l6_ofWires {r : Nat → Int32} {lg : Nat → Nat} (hL : mL r lg) (hl : ∀ w, w < 72 → lg w ≤ 24) {p : Nat} (hp : p < 24) : f_X6_ofWires r (nI p) = some (nI (pz_su (fun j => zl lg (3 * p + j)) 3)) := by
  have st : ∀ (j n a b : Nat), j < 3 → b = a + zl lg (3 * p + j) → (∀ k : Int32 → Option Int32, f_X6_ofWires_6 r (nI p) k (n + 1) (nI a) (nI (3 * p + j)) = f_X6_ofWires_6 r (nI p) k n (nI b) (nI (3 * p + (j + 1)))) := by
    intro j n a b hj hb k
    have h3 := hl (3 * p + j) (by omega)
    conv => lhs; unfold f_X6_ofWires_6
    unfold zl at hb
    simp (disch := omega) only [nI_lit, nI_add, pk_mul, nI_ltI, nI_leI, nI_eq, pk_sub, pk_div, pz_d, pz_w, pz_neg, pz_gen, pz_ltn, pz_len, pz_ltz, pz_nn, Option.bind_some, Nat.one_ne_zero, Nat.zero_ne_one, and_self, and_true, true_and, and_false, false_and, ↓reduceIte, hL (3 * p + j) (by omega), show ¬ (3 * p + 3 ≤ 3 * p + j) by omega]
    by_cases hq : lg (3 * p + j) ≤ 0
    · obtain rfl : b = a := by omega
      simp (disch := omega) only [nI_lit, nI_add, pk_mul, nI_ltI, nI_leI, nI_eq, pk_sub, pk_div, pz_d, pz_w, pz_neg, pz_gen, pz_ltn, pz_len, pz_ltz, pz_nn, Option.bind_some, Nat.one_ne_zero, Nat.zero_ne_one, and_self, and_true, true_and, and_false, false_and, ↓reduceIte, hq, Nat.add_zero, Nat.add_assoc]
    · subst hb
      simp (disch := omega) only [nI_lit, nI_add, pk_mul, nI_ltI, nI_leI, nI_eq, pk_sub, pk_div, pz_d, pz_w, pz_neg, pz_gen, pz_ltn, pz_len, pz_ltz, pz_nn, Option.bind_some, Nat.one_ne_zero, Nat.zero_ne_one, and_self, and_true, true_and, and_false, false_and, ↓reduceIte, hq, Nat.add_assoc]
  unfold f_X6_ofWires
  rw [show xFu = 99996 + 1 + 1 + 1 + 1 from rfl, show (3 : Int32) * nI p = nI (3 * p + 0) from pk_mul 3 p]
  refine (st 0 _ 0 _ (by omega) rfl _).trans ?_
  refine (st 1 _ _ _ (by omega) rfl _).trans ?_
  refine (st 2 _ _ _ (by omega) rfl _).trans ?_
  unfold f_X6_ofWires_6
  simp (disch := omega) only [nI_lit, nI_add, pk_mul, nI_ltI, nI_leI, nI_eq, pk_sub, pk_div, pz_d, pz_w, pz_neg, pz_gen, pz_ltn, pz_len, pz_ltz, pz_nn, Option.bind_some, Nat.one_ne_zero, Nat.zero_ne_one, and_self, and_true, true_and, and_false, false_and, ↓reduceIte, show 3 * p + 3 ≤ 3 * p + (2 + 1) by omega]
  rfl
