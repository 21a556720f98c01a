/-! the class' board: reads and small writes -/
theorem l0_tableOf {T : Nat → Int32} {tb : Nat → Nat} (hT : cT T tb) {p : Nat} (hp : p < 24) : f_X0_tableOf T (nI p) = some (cz_t (tb p)) := by
  unfold f_X0_tableOf
  rw [l5_isPlace (by omega), if_pos hp, Option.bind_some, if_neg (by decide), pz_d hp (by omega), Option.bind_some, hT p hp]
theorem l0_changeTable {T : Nat → Int32} {p : Nat} (x : Int32) (hp : p < 24) : f_X0_changeTable T (nI p) x = some (upd T p x) := by
  unfold f_X0_changeTable
  rw [l5_isPlace (by omega), if_pos hp, Option.bind_some, if_neg (by decide), pz_w hp (by omega), Option.bind_some]
theorem cT_up {T : Nat → Int32} {tb : Nat → Nat} (hT : cT T tb) {p t : Nat} : cT (upd T p (cz_t t)) (pz_up tb p t) := by
  intro q hq
  by_cases h : q = p
  · subst h; rw [pz_us, pz_ups]
  · rw [pz_un h, pz_upn h]; exact hT q hq
theorem l0_sourceOf {S : Nat → Int32} {sr : Nat → Nat} (hS : cS S sr) {w : Nat} (hw : w < 72) : f_X0_sourceOf S (nI w) = some (nI (sr w)) := by
  unfold f_X0_sourceOf
  rw [l5_isWire (by omega), if_pos hw, Option.bind_some, if_neg (by decide), pz_d hw (by omega), Option.bind_some, hS w hw]
theorem l0_changeSource {S : Nat → Int32} {w : Nat} (x : Int32) (hw : w < 72) : f_X0_changeSource S (nI w) x = some (upd S w x) := by
  unfold f_X0_changeSource
  rw [l5_isWire (by omega), if_pos hw, Option.bind_some, if_neg (by decide), pz_w hw (by omega), Option.bind_some]
theorem cS_up {S : Nat → Int32} {sr : Nat → Nat} (hS : cS S sr) {p t : Nat} : cS (upd S p (nI t)) (pz_up sr p t) := by
  intro q hq
  by_cases h : q = p
  · subst h; rw [pz_us, pz_ups]
  · rw [pz_un h, pz_upn h]; exact hS q hq
/-- is a number up to 33 a source -/
def zq (tb : Nat → Nat) (s : Nat) : Nat := if s < 24 then zc tb s else 1
theorem l0_isSource {T : Nat → Int32} {tb : Nat → Nat} (hT : cT T tb) (hb : wT tb) {s : Nat} (hs : s < 34) : f_X0_isSource T (nI s) = some (nI (zq tb s)) := by
  unfold f_X0_isSource zq
  by_cases h : s < 24
  · have h3 := zc_lt tb s
    simp (disch := omega) only [nI_lit, nI_add, pk_mul, nI_ltI, nI_leI, nI_eq, pk_sub, pk_div, pz_d, pz_w, pz_neg, pz_gen, pz_ltn, pz_len, pz_ltz, pz_nn, Option.bind_some, Nat.one_ne_zero, Nat.zero_ne_one, and_self, and_true, true_and, and_false, false_and, ↓reduceIte, l0_hasCell hT hb, h]
    by_cases hc : zc tb s = 0
    · simp (disch := omega) only [nI_lit, nI_add, pk_mul, nI_ltI, nI_leI, nI_eq, pk_sub, pk_div, pz_d, pz_w, pz_neg, pz_gen, pz_ltn, pz_len, pz_ltz, pz_nn, Option.bind_some, Nat.one_ne_zero, Nat.zero_ne_one, and_self, and_true, true_and, and_false, false_and, ↓reduceIte, hc]
    · simp (disch := omega) only [nI_lit, nI_add, pk_mul, nI_ltI, nI_leI, nI_eq, pk_sub, pk_div, pz_d, pz_w, pz_neg, pz_gen, pz_ltn, pz_len, pz_ltz, pz_nn, Option.bind_some, Nat.one_ne_zero, Nat.zero_ne_one, and_self, and_true, true_and, and_false, false_and, ↓reduceIte, hc, show zc tb s = 1 by omega]
  · rw [l0_hasCell_no (Or.inr (nI_le (by omega) (by omega)))]
    simp (disch := omega) only [nI_lit, nI_add, pk_mul, nI_ltI, nI_leI, nI_eq, pk_sub, pk_div, pz_d, pz_w, pz_neg, pz_gen, pz_ltn, pz_len, pz_ltz, pz_nn, Option.bind_some, Nat.one_ne_zero, Nat.zero_ne_one, and_self, and_true, true_and, and_false, false_and, ↓reduceIte, h, show ¬ (33 < s) by omega]
theorem l0_isSource_no {T : Nat → Int32} {x : Int32} (h : x < 0 ∨ nI 34 ≤ x) : f_X0_isSource T x = some (nI 0) := by
  unfold f_X0_isSource
  have h2 : x < 0 ∨ nI 24 ≤ x := h.imp id (fun h => by rw [Int32.le_iff_toInt_le, nI_toInt (by omega)] at h ⊢; omega)
  rw [l0_hasCell_no h2, Option.bind_some, if_pos (show nI 0 = 0 from rfl)]
  rcases h with h | h
  · rw [if_pos (show x < 24 by rw [Int32.lt_iff_toInt_lt] at h ⊢; exact Int.lt_trans h (by decide))]; rfl
  · split
    · rfl
    · rw [if_pos]
      · rfl
      · rw [Int32.le_iff_toInt_le, nI_toInt (by omega)] at h
        rw [Int32.lt_iff_toInt_lt, show (33 : Int32).toInt = 33 by decide]
        omega
/-- counts of a source -/
def zu (sr : Nat → Nat) (p w : Nat) : Nat := if sr w = p then 1 else 0
theorem zu_le (sr : Nat → Nat) (p w : Nat) : zu sr p w ≤ 1 := by unfold zu; split <;> omega
theorem l0_uses_4 {S : Nat → Int32} {sr : Nat → Nat} (hS : cS S sr) (hs : ∀ w, w < 72 → sr w ≤ 33) {p : Nat} (hp : p < 24) (k : Int32 → Option Int32) : ∀ m i n : Nat, i + m = 72 → m < n → f_X0_uses_4 S (nI p) k n (nI (pz_su (zu sr p) i)) (nI i) = k (nI (pz_su (zu sr p) 72)) := by
  intro m
  induction m with
  | zero =>
    intro i n h1 h2
    obtain ⟨n, rfl⟩ : ∃ q, n = q + 1 := ⟨n - 1, by omega⟩
    obtain rfl : i = 72 := by omega
    unfold f_X0_uses_4
    rw [if_pos (show (72 : Int32) ≤ nI 72 from nI_le (a := 72) (Nat.le_refl _) (by omega))]
  | succ m ih =>
    intro i n h1 h2
    obtain ⟨n, rfl⟩ : ∃ q, n = q + 1 := ⟨n - 1, by omega⟩
    have ih := ih (i + 1) n (by omega) (by omega)
    have hi : i < 72 := by omega
    rw [show pz_su (zu sr p) (i + 1) = pz_su (zu sr p) i + (zu sr p) i from rfl] at ih
    unfold f_X0_uses_4
    rw [if_neg (show ¬ ((72 : Int32) ≤ nI i) from nI_ge (b := 72) hi (by omega))]
    have h3 := hs i hi
    rw [pz_d hi (by omega), Option.bind_some, hS i hi]
    by_cases hc : sr i = p
    · rw [show zu sr p i = 1 from if_pos hc] at ih
      simp (disch := omega) only [nI_lit, nI_add, pk_mul, nI_ltI, nI_leI, nI_eq, pk_sub, pk_div, pz_d, pz_w, pz_neg, pz_gen, pz_ltn, pz_len, pz_ltz, pz_nn, Option.bind_some, Nat.one_ne_zero, Nat.zero_ne_one, and_self, and_true, true_and, and_false, false_and, ↓reduceIte, hc, ih]
    · rw [show zu sr p i = 0 from if_neg hc] at ih
      simp (disch := omega) only [nI_lit, nI_add, pk_mul, nI_ltI, nI_leI, nI_eq, pk_sub, pk_div, pz_d, pz_w, pz_neg, pz_gen, pz_ltn, pz_len, pz_ltz, pz_nn, Option.bind_some, Nat.one_ne_zero, Nat.zero_ne_one, and_self, and_true, true_and, and_false, false_and, ↓reduceIte, hc, ih]
theorem l0_uses {S : Nat → Int32} {sr : Nat → Nat} (hS : cS S sr) (hs : ∀ w, w < 72 → sr w ≤ 33) {p : Nat} (hp : p < 24) : f_X0_uses S (nI p) = some (nI (pz_su (zu sr p) 72)) :=
  l0_uses_4 hS hs hp (fun x => some x) 72 0 xFu (by omega) (by unfold xFu; omega)
/-- the part of a sum that a place's own three inputs make -/
theorem pz_own (g : Nat → Nat) (p : Nat) : ∀ q, pz_su (fun w => if w / 3 = p then g w else 0) (3 * q) = if p < q then g (3 * p) + g (3 * p + 1) + g (3 * p + 2) else 0
  | 0 => by rw [if_neg (by omega)]; rfl
  | q + 1 => by
    have ih := pz_own g p q
    rw [show 3 * (q + 1) = 3 * q + 1 + 1 + 1 by omega]
    show pz_su _ (3 * q) + (if 3 * q / 3 = p then g (3 * q) else 0) + (if (3 * q + 1) / 3 = p then g (3 * q + 1) else 0) + (if (3 * q + 1 + 1) / 3 = p then g (3 * q + 1 + 1) else 0) = _
    rw [ih, show 3 * q / 3 = q by omega, show (3 * q + 1) / 3 = q by omega, show (3 * q + 1 + 1) / 3 = q by omega]
    by_cases h : q = p
    · subst h
      rw [show 3 * q + 1 + 1 = 3 * q + 2 from rfl, if_neg (Nat.lt_irrefl _), if_pos rfl, if_pos rfl, if_pos rfl, if_pos (Nat.lt_succ_self _)]
      omega
    · rw [if_neg h, if_neg h, if_neg h]
      by_cases h2 : p < q
      · rw [if_pos h2, if_pos (by omega)]
        rfl
      · rw [if_neg h2, if_neg (by omega)]
theorem pz_split (g : Nat → Nat) (p n : Nat) : pz_su g n = pz_su (fun w => if w / 3 = p then 0 else g w) n + pz_su (fun w => if w / 3 = p then g w else 0) n := by
  rw [← pz_su_add]
  exact pz_su_eq (fun i _ => by split <;> omega)
/-- how many inputs of others have a place as their source -/
theorem l0_usesByOthers {S : Nat → Int32} {sr : Nat → Nat} (hS : cS S sr) (hs : ∀ w, w < 72 → sr w ≤ 33) {p : Nat} (hp : p < 24) : f_X0_usesByOthers S (nI p) = some (nI (pz_su (fun w => if w / 3 = p then 0 else zu sr p w) 72)) := by
  have e1 := pz_split (zu sr p) p 72
  rw [show (72 : Nat) = 3 * 24 from rfl, pz_own, if_pos hp] at e1
  unfold f_X0_usesByOthers
  rw [l0_uses hS hs hp, Option.bind_some, show (72 : Nat) = 3 * 24 from rfl, e1]
  generalize pz_su (fun w => if w / 3 = p then 0 else zu sr p w) (3 * 24) = U
  have st : ∀ (i n : Nat) (a b : Nat), i < 3 → b = a + zu sr p (3 * p + i) → (∀ k : Int32 → Option Int32, f_X0_usesByOthers_8 S (nI p) k (n + 1) (nI b) (nI i) = f_X0_usesByOthers_8 S (nI p) k n (nI a) (nI (i + 1))) := by
    intro i n a b hi hb k
    have h3 := hs (3 * p + i) (by omega)
    conv => lhs; unfold f_X0_usesByOthers_8
    rw [if_neg (show ¬ ((3 : Int32) ≤ nI i) from nI_ge (b := 3) hi (by omega)), show nI p * 3 + nI i = nI (3 * p + i) by rw [show (3 : Int32) = nI 3 from rfl, pk_mul, nI_add, Nat.mul_comm], l0_sourceOf hS (by omega), Option.bind_some]
    unfold zu at hb
    by_cases hc : sr (3 * p + i) = p
    · rw [if_pos hc] at hb
      subst hb
      simp (disch := omega) only [nI_lit, nI_add, pk_mul, nI_ltI, nI_leI, nI_eq, pk_sub, pk_div, pz_d, pz_w, pz_neg, pz_gen, pz_ltn, pz_len, pz_ltz, pz_nn, Option.bind_some, Nat.one_ne_zero, Nat.zero_ne_one, and_self, and_true, true_and, and_false, false_and, ↓reduceIte, hc]
      rfl
    · rw [if_neg hc] at hb
      subst hb
      simp (disch := omega) only [nI_lit, nI_add, pk_mul, nI_ltI, nI_leI, nI_eq, pk_sub, pk_div, pz_d, pz_w, pz_neg, pz_gen, pz_ltn, pz_len, pz_ltz, pz_nn, Option.bind_some, Nat.one_ne_zero, Nat.zero_ne_one, and_self, and_true, true_and, and_false, false_and, ↓reduceIte, hc]
      rfl
  rw [show xFu = 99997 + 1 + 1 + 1 from rfl, show U + (zu sr p (3 * p) + zu sr p (3 * p + 1) + zu sr p (3 * p + 2)) = (U + (zu sr p (3 * p + 1) + zu sr p (3 * p + 2))) + zu sr p (3 * p + 0) by show U + (zu sr p (3 * p) + zu sr p (3 * p + 1) + zu sr p (3 * p + 2)) = U + (zu sr p (3 * p + 1) + zu sr p (3 * p + 2)) + zu sr p (3 * p); omega]
  refine (st 0 _ _ _ (by omega) rfl _).trans ?_
  refine (st 1 _ (U + zu sr p (3 * p + 2)) _ (by omega) (by omega) _).trans ?_
  refine (st 2 _ U _ (by omega) rfl _).trans ?_
  rfl
/-- how many wires -/
def zw (sr : Nat → Nat) (w : Nat) : Nat := if sr w < 32 then 1 else 0
theorem l0_wires_4 {S : Nat → Int32} {sr : Nat → Nat} (hS : cS S sr) (hs : ∀ w, w < 72 → sr w ≤ 33) (k : Int32 → Option Int32) : ∀ m i n : Nat, i + m = 72 → m < n → f_X0_wires_4 S k n (nI (pz_su (zw sr) i)) (nI i) = k (nI (pz_su (zw sr) 72)) := by
  intro m
  induction m with
  | zero =>
    intro i n h1 h2
    obtain ⟨n, rfl⟩ : ∃ q, n = q + 1 := ⟨n - 1, by omega⟩
    obtain rfl : i = 72 := by omega
    unfold f_X0_wires_4
    rw [if_pos (show (72 : Int32) ≤ nI 72 from nI_le (a := 72) (Nat.le_refl _) (by omega))]
  | succ m ih =>
    intro i n h1 h2
    obtain ⟨n, rfl⟩ : ∃ q, n = q + 1 := ⟨n - 1, by omega⟩
    have ih := ih (i + 1) n (by omega) (by omega)
    have hi : i < 72 := by omega
    rw [show pz_su (zw sr) (i + 1) = pz_su (zw sr) i + (zw sr) i from rfl] at ih
    unfold f_X0_wires_4
    rw [if_neg (show ¬ ((72 : Int32) ≤ nI i) from nI_ge (b := 72) hi (by omega))]
    have h3 := hs i hi
    rw [pz_d hi (by omega), Option.bind_some, hS i hi, l5_junctionOf _ (by omega), Option.bind_some]
    by_cases hc : sr i < 32
    · have h4 := gz_ju_lt _ hc
      rw [show zw sr i = 1 from if_pos hc] at ih
      simp (disch := omega) only [nI_lit, nI_add, pk_mul, nI_ltI, nI_leI, nI_eq, pk_sub, pk_div, pz_d, pz_w, pz_neg, pz_gen, pz_ltn, pz_len, pz_ltz, pz_nn, Option.bind_some, Nat.one_ne_zero, Nat.zero_ne_one, and_self, and_true, true_and, and_false, false_and, ↓reduceIte, hc, ih]
    · rw [show zw sr i = 0 from if_neg hc] at ih
      simp (disch := omega) only [nI_lit, nI_add, pk_mul, nI_ltI, nI_leI, nI_eq, pk_sub, pk_div, pz_d, pz_w, pz_neg, pz_gen, pz_ltn, pz_len, pz_ltz, pz_nn, Option.bind_some, Nat.one_ne_zero, Nat.zero_ne_one, and_self, and_true, true_and, and_false, false_and, ↓reduceIte, hc, ih]
theorem l0_wires {S : Nat → Int32} {sr : Nat → Nat} (hS : cS S sr) (hs : ∀ w, w < 72 → sr w ≤ 33) : f_X0_wires S = some (nI (pz_su (zw sr) 72)) :=
  l0_wires_4 hS hs (fun x => some x) 72 0 xFu (by omega) (by unfold xFu; omega)
theorem l0_lengthOf {L : Nat → Int32} {lg : Nat → Nat} (hL : cL L lg) {w : Nat} (hw : w < 72) : f_X0_lengthOf L (nI w) = some (nI (lg w - 1)) := by
  unfold f_X0_lengthOf
  rw [l5_isWire (by omega), if_pos hw, Option.bind_some, if_neg (by decide), pz_d hw (by omega), Option.bind_some, hL w hw]
def zl (lg : Nat → Nat) (w : Nat) : Nat := lg w - 1
theorem l0_segsOfAll_4 {L : Nat → Int32} {lg : Nat → Nat} (hL : cL L lg) (k : Int32 → Option Int32) : ∀ m i n : Nat, i + m = 72 → m < n → f_X0_segmentsOfAll_4 L k n (nI (pz_su (zl lg) i)) (nI i) = k (nI (pz_su (zl lg) 72)) := by
  intro m
  induction m with
  | zero =>
    intro i n h1 h2
    obtain ⟨n, rfl⟩ : ∃ q, n = q + 1 := ⟨n - 1, by omega⟩
    obtain rfl : i = 72 := by omega
    unfold f_X0_segmentsOfAll_4
    rw [if_pos (show (72 : Int32) ≤ nI 72 from nI_le (a := 72) (Nat.le_refl _) (by omega))]
  | succ m ih =>
    intro i n h1 h2
    obtain ⟨n, rfl⟩ : ∃ q, n = q + 1 := ⟨n - 1, by omega⟩
    have ih := ih (i + 1) n (by omega) (by omega)
    have hi : i < 72 := by omega
    rw [show pz_su (zl lg) (i + 1) = pz_su (zl lg) i + (zl lg) i from rfl] at ih
    unfold f_X0_segmentsOfAll_4
    rw [if_neg (show ¬ ((72 : Int32) ≤ nI i) from nI_ge (b := 72) hi (by omega))]
    rw [show zl lg i = lg i - 1 from rfl] at ih
    rw [pz_d hi (by omega), Option.bind_some, hL i hi]
    simp (disch := omega) only [nI_lit, nI_add, pk_mul, nI_ltI, nI_leI, nI_eq, pk_sub, pk_div, pz_d, pz_w, pz_neg, pz_gen, pz_ltn, pz_len, pz_ltz, pz_nn, Option.bind_some, Nat.one_ne_zero, Nat.zero_ne_one, and_self, and_true, true_and, and_false, false_and, ↓reduceIte, ih]
theorem l0_segsOfAll {L : Nat → Int32} {lg : Nat → Nat} (hL : cL L lg) : f_X0_segmentsOfAll L = some (nI (pz_su (zl lg) 72)) :=
  l0_segsOfAll_4 hL (fun x => some x) 72 0 xFu (by omega) (by unfold xFu; omega)
theorem l0_segsOfCell_4 {L : Nat → Int32} {lg : Nat → Nat} (hL : cL L lg) {p : Nat} (hp : p < 24) (k : Int32 → Option Int32) : ∀ m i n : Nat, i + m = 3 → m < n → f_X0_segmentsOfCell_4 L (nI p) k n (nI (pz_su (fun j => zl lg (3 * p + j)) i)) (nI i) = k (nI (pz_su (fun j => zl lg (3 * p + j)) 3)) := by
  intro m
  induction m with
  | zero =>
    intro i n h1 h2
    obtain ⟨n, rfl⟩ : ∃ q, n = q + 1 := ⟨n - 1, by omega⟩
    obtain rfl : i = 3 := by omega
    unfold f_X0_segmentsOfCell_4
    rw [if_pos (show (3 : Int32) ≤ nI 3 from nI_le (a := 3) (Nat.le_refl _) (by omega))]
  | succ m ih =>
    intro i n h1 h2
    obtain ⟨n, rfl⟩ : ∃ q, n = q + 1 := ⟨n - 1, by omega⟩
    have ih := ih (i + 1) n (by omega) (by omega)
    have hi : i < 3 := by omega
    rw [show pz_su (fun j => zl lg (3 * p + j)) (i + 1) = pz_su (fun j => zl lg (3 * p + j)) i + (fun j => zl lg (3 * p + j)) i from rfl] at ih
    unfold f_X0_segmentsOfCell_4
    rw [if_neg (show ¬ ((3 : Int32) ≤ nI i) from nI_ge (b := 3) hi (by omega))]
    rw [show nI p * 3 + nI i = nI (3 * p + i) by rw [show (3 : Int32) = nI 3 from rfl, pk_mul, nI_add, Nat.mul_comm], l0_lengthOf hL (by omega), Option.bind_some]
    dsimp only [zl] at ih ⊢
    simp (disch := omega) only [nI_lit, nI_add, pk_mul, nI_ltI, nI_leI, nI_eq, pk_sub, pk_div, pz_d, pz_w, pz_neg, pz_gen, pz_ltn, pz_len, pz_ltz, pz_nn, Option.bind_some, Nat.one_ne_zero, Nat.zero_ne_one, and_self, and_true, true_and, and_false, false_and, ↓reduceIte, ih]
theorem l0_segsOfCell {L : Nat → Int32} {lg : Nat → Nat} (hL : cL L lg) {p : Nat} (hp : p < 24) : f_X0_segmentsOfCell L (nI p) = some (nI (pz_su (fun j => zl lg (3 * p + j)) 3)) :=
  l0_segsOfCell_4 hL hp (fun x => some x) 3 0 xFu (by omega) (by unfold xFu; omega)
theorem l0_distanceOf {S : Nat → Int32} {sr : Nat → Nat} (hS : cS S sr) (hs : ∀ w, w < 72 → sr w ≤ 33) {w : Nat} (hw : w < 72) : f_X0_distanceOf S (nI w) = some (if sr w < 32 then nI (gz_di (gz_ju (sr w)) (w / 3)) else -1) := by
  have h3 := hs w hw
  unfold f_X0_distanceOf
  rw [l0_sourceOf hS hw, Option.bind_some, l5_junctionOf _ (by omega), Option.bind_some]
  by_cases hc : sr w < 32
  · have h4 := gz_ju_lt _ hc
    rw [show nI w / 3 = nI (w / 3) from pk_div (d := 3) (by omega) (by omega) (by omega)]
    simp (disch := omega) only [nI_lit, nI_add, pk_mul, nI_ltI, nI_leI, nI_eq, pk_sub, pk_div, pz_d, pz_w, pz_neg, pz_gen, pz_ltn, pz_len, pz_ltz, pz_nn, Option.bind_some, Nat.one_ne_zero, Nat.zero_ne_one, and_self, and_true, true_and, and_false, false_and, ↓reduceIte, hc, l5_distanceBetween _ h4 (w / 3) (by omega)]
  · simp (disch := omega) only [nI_lit, nI_add, pk_mul, nI_ltI, nI_leI, nI_eq, pk_sub, pk_div, pz_d, pz_w, pz_neg, pz_gen, pz_ltn, pz_len, pz_ltz, pz_nn, Option.bind_some, Nat.one_ne_zero, Nat.zero_ne_one, and_self, and_true, true_and, and_false, false_and, ↓reduceIte, hc]
theorem l0_junctionAt {S L J : Nat → Int32} {sr lg : Nat → Nat} {jn : Nat → Nat → Nat} (hS : cS S sr) (hL : cL L lg) (hJ : cJ J lg jn) (hs : ∀ w, w < 72 → sr w ≤ 33) (hl : ∀ w, w < 72 → lg w ≤ 24) {w k : Nat} (hw : w < 72) (hk : k < 2 ^ 31) (h0 : sr w < 32 → 0 < lg w) : f_X0_junctionAt S L J (nI w) (nI k) = some (if sr w < 32 ∧ k < lg w then nI (jn w k) else -1) := by
  have h3 := hs w hw
  have h5 := hl w hw
  unfold f_X0_junctionAt
  rw [l0_sourceOf hS hw, Option.bind_some, l5_junctionOf _ (by omega), Option.bind_some]
  by_cases hc : sr w < 32
  · have h4 := gz_ju_lt _ hc
    have h6 := h0 hc
    simp (disch := omega) only [nI_lit, nI_add, pk_mul, nI_ltI, nI_leI, nI_eq, pk_sub, pk_div, pz_d, pz_w, pz_neg, pz_gen, pz_ltn, pz_len, pz_ltz, pz_nn, Option.bind_some, Nat.one_ne_zero, Nat.zero_ne_one, and_self, and_true, true_and, and_false, false_and, ↓reduceIte, hc, Nat.not_lt_zero, l0_lengthOf hL]
    by_cases hk2 : k < lg w
    · simp (disch := omega) only [nI_lit, nI_add, pk_mul, nI_ltI, nI_leI, nI_eq, pk_sub, pk_div, pz_d, pz_w, pz_neg, pz_gen, pz_ltn, pz_len, pz_ltz, pz_nn, Option.bind_some, Nat.one_ne_zero, Nat.zero_ne_one, and_self, and_true, true_and, and_false, false_and, ↓reduceIte, hk2, show ¬ (lg w - 1 < k) by omega, show ¬ (1728 ≤ w * 24 + k) by omega, true_and]
      rw [hJ w hw k hk2]
    · simp (disch := omega) only [nI_lit, nI_add, pk_mul, nI_ltI, nI_leI, nI_eq, pk_sub, pk_div, pz_d, pz_w, pz_neg, pz_gen, pz_ltn, pz_len, pz_ltz, pz_nn, Option.bind_some, Nat.one_ne_zero, Nat.zero_ne_one, and_self, and_true, true_and, and_false, false_and, ↓reduceIte, hk2, show (lg w - 1 < k) by omega, and_false]
  · simp (disch := omega) only [nI_lit, nI_add, pk_mul, nI_ltI, nI_leI, nI_eq, pk_sub, pk_div, pz_d, pz_w, pz_neg, pz_gen, pz_ltn, pz_len, pz_ltz, pz_nn, Option.bind_some, Nat.one_ne_zero, Nat.zero_ne_one, and_self, and_true, true_and, and_false, false_and, ↓reduceIte, hc, false_and]
theorem l0_heldBy {E : Nat → Int32} {hd : Nat → Nat} (hE : cE E hd) {s : Nat} (hs : s < 48) : f_X0_heldBy E (nI s) = some (nI (hd s)) := by
  unfold f_X0_heldBy
  simp (disch := omega) only [nI_lit, nI_add, pk_mul, nI_ltI, nI_leI, nI_eq, pk_sub, pk_div, pz_d, pz_w, pz_neg, pz_gen, pz_ltn, pz_len, pz_ltz, pz_nn, Option.bind_some, Nat.one_ne_zero, Nat.zero_ne_one, and_self, and_true, true_and, and_false, false_and, ↓reduceIte, Nat.not_lt_zero, show ¬ (48 ≤ s) by omega]
  rw [hE s hs]
/-- what one more wire costs -/
def zp (hd : Nat → Nat) (cp su s : Nat) : Nat := if hd s < cp then 1 + su * hd s else 1000000
theorem zp_pos (hd : Nat → Nat) (cp su s : Nat) : 1 ≤ zp hd cp su s := by unfold zp; split <;> omega
theorem zp_le {hd : Nat → Nat} {cp su : Nat} (hc : wC cp su) (s : Nat) : zp hd cp su s ≤ 1000000 := by
  unfold zp
  split
  · have h1 : su * hd s ≤ 9 * 4 := Nat.mul_le_mul hc.2.2 (by have := hc.2.1; omega)
    omega
  · omega
theorem l0_priceOf {E : Nat → Int32} {hd : Nat → Nat} {cp su : Nat} (hE : cE E hd) (hh : ∀ s, s < 48 → hd s ≤ 100000) (hc : wC cp su) {s : Nat} (hs : s < 48) : f_X0_priceOf E (nI cp) (nI su) (nI s) = some (nI (zp hd cp su s)) := by
  have h1 := hh s hs
  have h2 := hc.2.1
  unfold f_X0_priceOf zp
  simp (disch := omega) only [nI_lit, nI_add, pk_mul, nI_ltI, nI_leI, nI_eq, pk_sub, pk_div, pz_d, pz_w, pz_neg, pz_gen, pz_ltn, pz_len, pz_ltz, pz_nn, Option.bind_some, Nat.one_ne_zero, Nat.zero_ne_one, and_self, and_true, true_and, and_false, false_and, ↓reduceIte, Nat.not_lt_zero, show ¬ (48 ≤ s) by omega, hE s hs]
  by_cases h : hd s < cp
  · simp (disch := omega) only [nI_lit, nI_add, pk_mul, nI_ltI, nI_leI, nI_eq, pk_sub, pk_div, pz_d, pz_w, pz_neg, pz_gen, pz_ltn, pz_len, pz_ltz, pz_nn, Option.bind_some, Nat.one_ne_zero, Nat.zero_ne_one, and_self, and_true, true_and, and_false, false_and, ↓reduceIte, h]
  · simp (disch := omega) only [nI_lit, nI_add, pk_mul, nI_ltI, nI_leI, nI_eq, pk_sub, pk_div, pz_d, pz_w, pz_neg, pz_gen, pz_ltn, pz_len, pz_ltz, pz_nn, Option.bind_some, Nat.one_ne_zero, Nat.zero_ne_one, and_self, and_true, true_and, and_false, false_and, ↓reduceIte, h]
def zf (hd : Nat → Nat) (cp s : Nat) : Nat := if hd s < cp then 0 else 1
theorem l0_fullSegs_4 {E : Nat → Int32} {hd : Nat → Nat} {cp : Nat} (hE : cE E hd) (hh : ∀ s, s < 48 → hd s ≤ 100000) (hc : cp ≤ 4) (k : Int32 → Option Int32) : ∀ m i n : Nat, i + m = 48 → m < n → f_X0_fullSegments_4 E (nI cp) k n (nI (pz_su (zf hd cp) i)) (nI i) = k (nI (pz_su (zf hd cp) 48)) := by
  intro m
  induction m with
  | zero =>
    intro i n h1 h2
    obtain ⟨n, rfl⟩ : ∃ q, n = q + 1 := ⟨n - 1, by omega⟩
    obtain rfl : i = 48 := by omega
    unfold f_X0_fullSegments_4
    rw [if_pos (show (48 : Int32) ≤ nI 48 from nI_le (a := 48) (Nat.le_refl _) (by omega))]
  | succ m ih =>
    intro i n h1 h2
    obtain ⟨n, rfl⟩ : ∃ q, n = q + 1 := ⟨n - 1, by omega⟩
    have ih := ih (i + 1) n (by omega) (by omega)
    have hi : i < 48 := by omega
    rw [show pz_su (zf hd cp) (i + 1) = pz_su (zf hd cp) i + (zf hd cp) i from rfl] at ih
    unfold f_X0_fullSegments_4
    rw [if_neg (show ¬ ((48 : Int32) ≤ nI i) from nI_ge (b := 48) hi (by omega))]
    have h3 := hh i hi
    rw [pz_d hi (by omega), Option.bind_some, hE i hi]
    by_cases hc : hd i < cp
    · rw [show zf hd cp i = 0 from if_pos hc] at ih
      simp (disch := omega) only [nI_lit, nI_add, pk_mul, nI_ltI, nI_leI, nI_eq, pk_sub, pk_div, pz_d, pz_w, pz_neg, pz_gen, pz_ltn, pz_len, pz_ltz, pz_nn, Option.bind_some, Nat.one_ne_zero, Nat.zero_ne_one, and_self, and_true, true_and, and_false, false_and, ↓reduceIte, hc, ih]
    · rw [show zf hd cp i = 1 from if_neg hc] at ih
      simp (disch := omega) only [nI_lit, nI_add, pk_mul, nI_ltI, nI_leI, nI_eq, pk_sub, pk_div, pz_d, pz_w, pz_neg, pz_gen, pz_ltn, pz_len, pz_ltz, pz_nn, Option.bind_some, Nat.one_ne_zero, Nat.zero_ne_one, and_self, and_true, true_and, and_false, false_and, ↓reduceIte, hc, ih]
theorem l0_fullSegs {E : Nat → Int32} {hd : Nat → Nat} {cp : Nat} (hE : cE E hd) (hh : ∀ s, s < 48 → hd s ≤ 100000) (hc : cp ≤ 4) : f_X0_fullSegments E (nI cp) = some (nI (pz_su (zf hd cp) 48)) :=
  l0_fullSegs_4 hE hh hc (fun x => some x) 48 0 xFu (by omega) (by unfold xFu; omega)
theorem l0_mostHeld_4 {E : Nat → Int32} {hd : Nat → Nat} (hE : cE E hd) (hh : ∀ s, s < 48 → hd s ≤ 100000) (k : Int32 → Option Int32) : ∀ m i n : Nat, i + m = 48 → m < n → f_X0_mostHeld_4 E k n (nI (pz_mx hd i)) (nI i) = k (nI (pz_mx hd 48)) := by
  intro m
  induction m with
  | zero =>
    intro i n h1 h2
    obtain ⟨n, rfl⟩ : ∃ q, n = q + 1 := ⟨n - 1, by omega⟩
    obtain rfl : i = 48 := by omega
    unfold f_X0_mostHeld_4
    rw [if_pos (show (48 : Int32) ≤ nI 48 from nI_le (a := 48) (Nat.le_refl _) (by omega))]
  | succ m ih =>
    intro i n h1 h2
    obtain ⟨n, rfl⟩ : ∃ q, n = q + 1 := ⟨n - 1, by omega⟩
    have ih := ih (i + 1) n (by omega) (by omega)
    have hi : i < 48 := by omega
    have h3 := hh i hi
    have h4 : pz_mx hd i ≤ 100000 := pz_mx_le (fun j hj => hh j (by omega))
    rw [show pz_mx hd (i + 1) = if pz_mx hd i < hd i then hd i else pz_mx hd i from rfl] at ih
    unfold f_X0_mostHeld_4
    rw [if_neg (show ¬ ((48 : Int32) ≤ nI i) from nI_ge (b := 48) hi (by omega)), pz_d hi (by omega), Option.bind_some, hE i hi]
    by_cases hc : pz_mx hd i < hd i
    · rw [if_pos hc] at ih
      simp (disch := omega) only [nI_lit, nI_add, pk_mul, nI_ltI, nI_leI, nI_eq, pk_sub, pk_div, pz_d, pz_w, pz_neg, pz_gen, pz_ltn, pz_len, pz_ltz, pz_nn, Option.bind_some, Nat.one_ne_zero, Nat.zero_ne_one, and_self, and_true, true_and, and_false, false_and, ↓reduceIte, hc, ih]
    · rw [if_neg hc] at ih
      simp (disch := omega) only [nI_lit, nI_add, pk_mul, nI_ltI, nI_leI, nI_eq, pk_sub, pk_div, pz_d, pz_w, pz_neg, pz_gen, pz_ltn, pz_len, pz_ltz, pz_nn, Option.bind_some, Nat.one_ne_zero, Nat.zero_ne_one, and_self, and_true, true_and, and_false, false_and, ↓reduceIte, hc, ih]
theorem l0_mostHeld {E : Nat → Int32} {hd : Nat → Nat} (hE : cE E hd) (hh : ∀ s, s < 48 → hd s ≤ 100000) : f_X0_mostHeld E = some (nI (pz_mx hd 48)) :=
  l0_mostHeld_4 hE hh (fun x => some x) 48 0 xFu (by omega) (by unfold xFu; omega)
