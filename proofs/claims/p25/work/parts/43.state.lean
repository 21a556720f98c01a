/-! what a board holds, said in rows of numbers; of the class' board and of the reference's row -/
/-- a table: 0 stands for none -/
def cz_t (t : Nat) : Int32 := if t = 0 then -1 else nI (t - 1)
def mz_t (t : Nat) : Int32 := if t = 0 then -5 else nI (t - 1)
def zc (tb : Nat → Nat) (p : Nat) : Nat := if tb p = 0 then 0 else 1
/-- how many of the first steps of a path go over a segment -/
def gz_ed (j : Nat → Nat) (s : Nat) : Nat → Nat
  | 0 => 0
  | n + 1 => gz_ed j s n + (if gz_sg (j n) (j (n + 1)) = s then 1 else 0)
def cT (T : Nat → Int32) (tb : Nat → Nat) : Prop := ∀ p, p < 24 → T p = cz_t (tb p)
def cS (S : Nat → Int32) (sr : Nat → Nat) : Prop := ∀ w, w < 72 → S w = nI (sr w)
def cL (L : Nat → Int32) (lg : Nat → Nat) : Prop := ∀ w, w < 72 → L w = nI (lg w - 1)
def cJ (J : Nat → Int32) (lg : Nat → Nat) (jn : Nat → Nat → Nat) : Prop := ∀ w, w < 72 → ∀ k, k < lg w → J (w * 24 + k) = nI (jn w k)
def cE (E : Nat → Int32) (hd : Nat → Nat) : Prop := ∀ s, s < 48 → E s = nI (hd s)
def mT (r : Nat → Int32) (tb : Nat → Nat) : Prop := ∀ p, p < 24 → r p = mz_t (tb p)
def mS (r : Nat → Int32) (sr : Nat → Nat) : Prop := ∀ w, w < 72 → r (24 + w) = nI (sr w)
def mL (r : Nat → Int32) (lg : Nat → Nat) : Prop := ∀ w, w < 72 → r (96 + w) = nI (lg w)
def mJ (r : Nat → Int32) (lg : Nat → Nat) (jn : Nat → Nat → Nat) : Prop := ∀ w, w < 72 → ∀ k, k < lg w → r (168 + 24 * w + k) = nI (jn w k)
def mC (r : Nat → Int32) (cp su : Nat) : Prop := r 1896 = nI cp ∧ r 1897 = nI su
/-- tables and sources fit -/
def wT (tb : Nat → Nat) : Prop := ∀ p, p < 24 → tb p ≤ 256
def wS (tb sr : Nat → Nat) : Prop := (∀ w, w < 72 → sr w ≤ 33) ∧ ∀ w, w < 72 → tb (w / 3) = 0 → sr w = 32
def wC (cp su : Nat) : Prop := 1 ≤ cp ∧ cp ≤ 4 ∧ su ≤ 9
/-- paths are paths -/
def wP (lg : Nat → Nat) (jn : Nat → Nat → Nat) : Prop := (∀ w, w < 72 → lg w ≤ 24) ∧ (∀ w, w < 72 → ∀ k, k < lg w → jn w k < 24) ∧ ∀ w, w < 72 → ∀ k, k + 1 < lg w → gz_be (jn w k) (jn w (k + 1)) = 1
/-- every wire is laid -/
def wA (sr lg : Nat → Nat) : Prop := ∀ w, w < 72 → (lg w = 0 ↔ 32 ≤ sr w)
/-- what segments hold is what goes over them -/
def wH (lg : Nat → Nat) (jn : Nat → Nat → Nat) (hd : Nat → Nat) : Prop := ∀ s, s < 48 → hd s = pz_su (fun w => gz_ed (jn w) s (lg w - 1)) 72
theorem gz_ed_le (j : Nat → Nat) (s : Nat) : ∀ n, gz_ed j s n ≤ n
  | 0 => Nat.le_refl 0
  | n + 1 => by
    have := gz_ed_le j s n
    show gz_ed j s n + (if gz_sg (j n) (j (n + 1)) = s then 1 else 0) ≤ n + 1
    split <;> omega
theorem wH_le {lg : Nat → Nat} {jn : Nat → Nat → Nat} {hd : Nat → Nat} (hP : wP lg jn) (hH : wH lg jn hd) {s : Nat} (hs : s < 48) : hd s ≤ 1656 := by
  rw [hH s hs]
  exact pz_su_le (B := 23) (fun w hw => Nat.le_trans (gz_ed_le _ _ _) (by have := hP.1 w hw; omega))
/-! reads -/
theorem l0_hasCell {T : Nat → Int32} {tb : Nat → Nat} (hT : cT T tb) (hb : wT tb) {p : Nat} (hp : p < 24) : f_X0_hasCell T (nI p) = some (nI (zc tb p)) := by
  unfold f_X0_hasCell zc
  have h2 := hb p hp
  rw [l5_isPlace (by omega), if_pos hp, Option.bind_some, if_neg (by decide), pz_d hp (by omega), Option.bind_some, hT p hp]
  unfold cz_t
  by_cases h : tb p = 0
  · rw [if_pos h, if_pos rfl, if_pos h]; rfl
  · rw [if_neg h, if_neg h, if_neg]
    · rfl
    · exact fun h3 => by rw [show (-1 : Int32) = -nI 1 from rfl, pz_neg (by omega) (by omega) (by omega)] at h3; exact h3
theorem l0_hasCell_no {T : Nat → Int32} {x : Int32} (h : x < 0 ∨ nI 24 ≤ x) : f_X0_hasCell T x = some (nI 0) := by
  unfold f_X0_hasCell
  rw [l5_isPlace_no h]
  rfl
theorem l6_isCell {r : Nat → Int32} {tb : Nat → Nat} (hT : mT r tb) (hb : wT tb) {p : Nat} (hp : p < 24) : f_X6_isCell r (nI p) = some (nI (zc tb p)) := by
  unfold f_X6_isCell zc
  have h2 := hb p hp
  rw [l6_isPlace (by omega), if_pos hp, Option.bind_some, if_neg (by decide), show (0 : Int32) + nI p = nI p from by rw [show (0 : Int32) = nI 0 from rfl, nI_add, Nat.zero_add], pz_d (by omega) (by omega), Option.bind_some, hT p hp]
  unfold mz_t
  by_cases h : tb p = 0
  · rw [if_pos h, if_pos rfl, if_pos h]; rfl
  · rw [if_neg h, if_neg h, if_neg]
    · rfl
    · exact fun h3 => by rw [show (-5 : Int32) = -nI 5 from rfl, pz_neg (by omega) (by omega) (by omega)] at h3; exact h3
theorem l6_isCell_no {r : Nat → Int32} {x : Int32} (h : x < 0 ∨ nI 24 ≤ x) : f_X6_isCell r x = some (nI 0) := by
  unfold f_X6_isCell
  rw [l6_isPlace_no h]
  rfl
theorem zc_lt (tb : Nat → Nat) (p : Nat) : zc tb p < 2 := by
  unfold zc
  split <;> omega
theorem zc_0 {tb : Nat → Nat} {p : Nat} : zc tb p = 0 ↔ tb p = 0 := by
  unfold zc
  split <;> simp_all
theorem nI_s1 (i : Nat) : nI i + nI 1 = nI (i + 1) := nI_add i 1
theorem l0_cells_4 {T : Nat → Int32} {tb : Nat → Nat} (hT : cT T tb) (hb : wT tb) (k : Int32 → Option Int32) : ∀ m i n : Nat, i + m = 24 → m < n → f_X0_cells_4 T k n (nI (pz_su (zc tb) i)) (nI i) = k (nI (pz_su (zc tb) 24)) := by
  intro m
  induction m with
  | zero =>
    intro i n h1 h2
    obtain ⟨n, rfl⟩ : ∃ q, n = q + 1 := ⟨n - 1, by omega⟩
    obtain rfl : i = 24 := by omega
    unfold f_X0_cells_4
    rw [if_pos (show (24 : Int32) ≤ nI 24 from nI_le (a := 24) (Nat.le_refl _) (by omega))]
  | succ m ih =>
    intro i n h1 h2
    obtain ⟨n, rfl⟩ : ∃ q, n = q + 1 := ⟨n - 1, by omega⟩
    have ih := ih (i + 1) n (by omega) (by omega)
    have hi : i < 24 := by omega
    rw [show pz_su (zc tb) (i + 1) = pz_su (zc tb) i + (zc tb) i from rfl] at ih
    unfold f_X0_cells_4
    rw [if_neg (show ¬ ((24 : Int32) ≤ nI i) from nI_ge (b := 24) hi (by omega))]
    have h3 := zc_lt tb i
    simp (disch := omega) only [nI_lit, nI_add, pk_mul, nI_ltI, nI_leI, nI_eq, pk_sub, pk_div, pz_d, pz_w, pz_neg, pz_gen, pz_ltn, pz_len, pz_ltz, pz_nn, Option.bind_some, ↓reduceIte, l0_hasCell hT hb]
    by_cases hc : zc tb i = 0
    · rw [hc] at ih
      simp (disch := omega) only [nI_lit, nI_add, pk_mul, nI_ltI, nI_leI, nI_eq, pk_sub, pk_div, pz_d, pz_w, pz_neg, pz_gen, pz_ltn, pz_len, pz_ltz, pz_nn, Option.bind_some, ↓reduceIte, hc, ih]
    · rw [show zc tb i = 1 by omega] at ih
      simp (disch := omega) only [nI_lit, nI_add, pk_mul, nI_ltI, nI_leI, nI_eq, pk_sub, pk_div, pz_d, pz_w, pz_neg, pz_gen, pz_ltn, pz_len, pz_ltz, pz_nn, Option.bind_some, ↓reduceIte, hc, ih]
theorem l0_cells {T : Nat → Int32} {tb : Nat → Nat} (hT : cT T tb) (hb : wT tb) : f_X0_cells T = some (nI (pz_su (zc tb) 24)) :=
  l0_cells_4 hT hb (fun x => some x) 24 0 xFu (by omega) (by unfold xFu; omega)
theorem l6_cells_4 {r : Nat → Int32} {tb : Nat → Nat} (hT : mT r tb) (hb : wT tb) (k : Int32 → Option Int32) : ∀ m i n : Nat, i + m = 24 → m < n → f_X6_cells_4 r k n (nI (pz_su (zc tb) i)) (nI i) = k (nI (pz_su (zc tb) 24)) := by
  intro m
  induction m with
  | zero =>
    intro i n h1 h2
    obtain ⟨n, rfl⟩ : ∃ q, n = q + 1 := ⟨n - 1, by omega⟩
    obtain rfl : i = 24 := by omega
    unfold f_X6_cells_4
    rw [if_pos (show (24 : Int32) ≤ nI 24 from nI_le (a := 24) (Nat.le_refl _) (by omega))]
  | succ m ih =>
    intro i n h1 h2
    obtain ⟨n, rfl⟩ : ∃ q, n = q + 1 := ⟨n - 1, by omega⟩
    have ih := ih (i + 1) n (by omega) (by omega)
    have hi : i < 24 := by omega
    rw [show pz_su (zc tb) (i + 1) = pz_su (zc tb) i + (zc tb) i from rfl] at ih
    unfold f_X6_cells_4
    rw [if_neg (show ¬ ((24 : Int32) ≤ nI i) from nI_ge (b := 24) hi (by omega))]
    have h3 := zc_lt tb i
    simp (disch := omega) only [nI_lit, nI_add, pk_mul, nI_ltI, nI_leI, nI_eq, pk_sub, pk_div, pz_d, pz_w, pz_neg, pz_gen, pz_ltn, pz_len, pz_ltz, pz_nn, Option.bind_some, ↓reduceIte, l6_isCell hT hb]
    by_cases hc : zc tb i = 0
    · rw [hc] at ih
      simp (disch := omega) only [nI_lit, nI_add, pk_mul, nI_ltI, nI_leI, nI_eq, pk_sub, pk_div, pz_d, pz_w, pz_neg, pz_gen, pz_ltn, pz_len, pz_ltz, pz_nn, Option.bind_some, ↓reduceIte, hc, ih]
    · rw [show zc tb i = 1 by omega] at ih
      simp (disch := omega) only [nI_lit, nI_add, pk_mul, nI_ltI, nI_leI, nI_eq, pk_sub, pk_div, pz_d, pz_w, pz_neg, pz_gen, pz_ltn, pz_len, pz_ltz, pz_nn, Option.bind_some, ↓reduceIte, hc, ih]
theorem l6_cells {r : Nat → Int32} {tb : Nat → Nat} (hT : mT r tb) (hb : wT tb) : f_X6_cells r = some (nI (pz_su (zc tb) 24)) :=
  l6_cells_4 hT hb (fun x => some x) 24 0 xFu (by omega) (by unfold xFu; omega)
