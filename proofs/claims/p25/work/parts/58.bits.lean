/-! what cells answer for bits at the pads -/
def lk_s (bt : Nat → Int32) (b : Int32) (s : Nat) : Int32 := if s < 24 then bt s else if s < 32 then (b >>> ((nI s - 24) &&& 31)) &&& 1 else nI s - 32
def lk_n (sr : Nat → Nat) (bt : Nat → Int32) (b : Int32) (p : Nat) : Nat → Int32
  | 0 => 0
  | i + 1 => lk_n sr bt b p i ||| (lk_s bt b (sr (3 * p + i)) <<< (nI i &&& 31))
def lk (tb sr : Nat → Nat) (bt : Nat → Int32) (b : Int32) (p : Nat) : Int32 := (nI (tb p - 1) >>> (lk_n sr bt b p 3 &&& 31)) &&& 1
theorem lk_n_eq {sr : Nat → Nat} {bt bu : Nat → Int32} {b : Int32} {p : Nat} (h : ∀ j, j < 3 → sr (3 * p + j) < 24 → bt (sr (3 * p + j)) = bu (sr (3 * p + j))) : ∀ i, i ≤ 3 → lk_n sr bt b p i = lk_n sr bu b p i
  | 0, _ => rfl
  | i + 1, hi => by
    unfold lk_n
    rw [lk_n_eq h i (by omega)]
    congr 2
    unfold lk_s
    by_cases hs : sr (3 * p + i) < 24
    · rw [if_pos hs, if_pos hs, h i (by omega) hs]
    · rw [if_neg hs, if_neg hs]
theorem lk_eq {tb sr : Nat → Nat} {bt bu : Nat → Int32} {b : Int32} {p : Nat} (h : ∀ j, j < 3 → sr (3 * p + j) < 24 → bt (sr (3 * p + j)) = bu (sr (3 * p + j))) : lk tb sr bt b p = lk tb sr bu b p := by
  unfold lk
  rw [lk_n_eq h 3 (Nat.le_refl _)]
/-- the first i settled cells have what they answer -/
def lb (tb sr : Nat → Nat) (st : ls_T) (b : Int32) (bt : Nat → Int32) (i : Nat) : Prop := ∀ j, j < i → bt (st.2.1 j) = lk tb sr bt b (st.2.1 j)
theorem lb_up {tb sr : Nat → Nat} {st : ls_T} {b : Int32} {bt : Nat → Int32} {i : Nat} (hI : ls_I tb sr st) (hi : i < st.2.2) (h : lb tb sr st b bt i) : lb tb sr st b (upd bt (st.2.1 i) (lk tb sr bt b (st.2.1 i))) (i + 1) := by
  obtain ⟨-, -, h3, -, h5, h6⟩ := hI
  have hsame : ∀ j, j ≤ i → lk tb sr (upd bt (st.2.1 i) (lk tb sr bt b (st.2.1 i))) b (st.2.1 j) = lk tb sr bt b (st.2.1 j) := by
    intro j hj
    refine lk_eq (fun q hq hs => ?_)
    obtain ⟨i', a, e⟩ := h6 j (by omega) q hq hs
    rw [pz_un]
    intro hz
    rw [← e] at hz
    have := h5 i' i (by omega) hi hz
    omega
  intro j hj
  rw [hsame j (by omega)]
  by_cases hq : j = i
  · rw [hq, pz_us]
  · rw [pz_un (fun z => hq (h5 j i (by omega) hi z))]
    exact h j (by omega)
/-- both have the same -/
theorem lb_same {tb sr : Nat → Nat} {st : ls_T} {b : Int32} {bt bu : Nat → Int32} (hI : ls_I tb sr st) (h1 : lb tb sr st b bt st.2.2) (h2 : lb tb sr st b bu st.2.2) : ∀ i, i < st.2.2 → bt (st.2.1 i) = bu (st.2.1 i) := by
  obtain ⟨-, -, h3, -, h5, h6⟩ := hI
  intro i
  induction i using Nat.strongRecOn with
  | _ i ih =>
    intro hi
    rw [h1 i hi, h2 i hi]
    refine lk_eq (fun q hq hs => ?_)
    obtain ⟨i', a, e⟩ := h6 i hi q hq hs
    rw [← e]
    exact ih i' a (by omega)
/-! the class -/
theorem l3_sourceBit {Bt : Nat → Int32} {b : Int32} {s : Nat} (hs : s ≤ 33) : f_X3_sourceBit Bt (nI s) b = some (lk_s Bt b s) := by
  unfold f_X3_sourceBit lk_s
  rw [l5_isPlace (by omega), Option.bind_some]
  by_cases h : s < 24
  · rw [if_pos h, if_pos h, if_neg (show ¬ (nI 1 = 0) by decide), pz_d h (by omega)]
    rfl
  · rw [if_neg h, if_neg h, if_pos (show nI 0 = 0 from rfl), if_neg (show ¬ (nI s < 24) from nI_nlt (b := 24) (by omega) (by omega))]
    by_cases h2 : s < 32
    · rw [if_neg (show ¬ ((32 : Int32) ≤ nI s) from nI_ge (b := 32) h2 (by omega)), if_pos h2]
    · rw [if_pos (show (32 : Int32) ≤ nI s from nI_le (a := 32) (by omega) (by omega)), if_neg h2]
      rcases (show s = 32 ∨ s = 33 by omega) with rfl | rfl
      · decide
      · decide
theorem l3_wk_33 {Bt S : Nat → Int32} {sr : Nat → Nat} {b : Int32} {p : Nat} (hS : cS S sr) (hs : ∀ w, w < 72 → sr w ≤ 33) (hp : p < 24) (k : Int32 → Option (Nat → Int32)) : ∀ (m i n : Nat), i + m = 3 → m < n → f_X3_work_33 Bt S b (nI p) k n (lk_n sr Bt b p i) (nI i) = k (lk_n sr Bt b p 3) := by
  intro m
  induction m with
  | zero =>
    intro i n h1 h2
    obtain ⟨n, rfl⟩ : ∃ q, n = q + 1 := ⟨n - 1, by omega⟩
    obtain rfl : i = 3 := by omega
    unfold f_X3_work_33
    rw [if_pos (show (3 : Int32) ≤ nI 3 from nI_le (a := 3) (Nat.le_refl _) (by omega))]
  | succ m ih =>
    intro i n h1 h2
    obtain ⟨n, rfl⟩ : ∃ q, n = q + 1 := ⟨n - 1, by omega⟩
    have ih := ih (i + 1) n (by omega) (by omega)
    unfold f_X3_work_33
    rw [if_neg (show ¬ ((3 : Int32) ≤ nI i) from nI_ge (b := 3) (by omega) (by omega)), show nI p * 3 + nI i = nI (3 * p + i) by rw [show (3 : Int32) = nI 3 from rfl, pk_mul, nI_add, Nat.mul_comm], l0_sourceOf hS (by omega), Option.bind_some, l3_sourceBit (hs _ (by omega)), Option.bind_some, nI_1]
    exact ih
theorem l3_wk_2 {Sq T S : Nat → Int32} {tb sr : Nat → Nat} {b : Int32} {st : ls_T} (hT : cT T tb) (hS : cS S sr) (hs : ∀ w, w < 72 → sr w ≤ 33) (hI : ls_I tb sr st) (hQ : ∀ i, i < st.2.2 → Sq i = nI (st.2.1 i)) (k : (Nat → Int32) → Option (Nat → Int32)) : ∀ (m i n : Nat) (Bt : Nat → Int32), i + m = st.2.2 → m < n → lb tb sr st b Bt i → ∃ Bt', f_X3_work_2 Sq (nI st.2.2) T S b k n (nI i) Bt = k Bt' ∧ lb tb sr st b Bt' st.2.2 := by
  have hle := ls_I_le hI
  intro m
  induction m with
  | zero =>
    intro i n Bt h1 h2 h3
    obtain ⟨n, rfl⟩ : ∃ q, n = q + 1 := ⟨n - 1, by omega⟩
    obtain rfl : i = st.2.2 := by omega
    refine ⟨Bt, ?_, h3⟩
    unfold f_X3_work_2
    rw [if_pos (nI_le (Nat.le_refl _) (by omega))]
  | succ m ih =>
    intro i n Bt h1 h2 h3
    obtain ⟨n, rfl⟩ : ∃ q, n = q + 1 := ⟨n - 1, by omega⟩
    obtain ⟨g1, g2, g3⟩ := hI.2.2.1 i (by omega)
    obtain ⟨Bt', e1, e2⟩ := ih (i + 1) n (upd Bt (st.2.1 i) (lk tb sr Bt b (st.2.1 i))) (by omega) (by omega) (lb_up hI (by omega) h3)
    refine ⟨Bt', ?_, e2⟩
    unfold f_X3_work_2
    rw [if_neg (show ¬ (nI st.2.2 ≤ nI i) from nI_ge (by omega) (by omega)), if_neg (show ¬ ((24 : Int32) ≤ nI i) from nI_ge (b := 24) (by omega) (by omega)), pz_d (by omega) (by omega), Option.bind_some, hQ i (by omega)]
    refine (l3_wk_33 (sr := sr) hS hs g1 _ 3 0 xFu (by omega) (by unfold xFu; omega)).trans ?_
    try dsimp only
    rw [l5_isPlace (by omega), if_pos g1, Option.bind_some, if_neg (by decide), l0_tableOf hT g1, Option.bind_some, pz_w g1 (by omega), Option.bind_some, nI_1, show cz_t (tb (st.2.1 i)) = nI (tb (st.2.1 i) - 1) from if_neg g2]
    exact e1
theorem l3_work {Bt Sq T S : Nat → Int32} {tb sr : Nat → Nat} {b : Int32} {st : ls_T} (hT : cT T tb) (hS : cS S sr) (hs : ∀ w, w < 72 → sr w ≤ 33) (hI : ls_I tb sr st) (hQ : ∀ i, i < st.2.2 → Sq i = nI (st.2.1 i)) : ∃ Bt', f_X3_work Bt Sq (nI st.2.2) T S b = some Bt' ∧ lb tb sr st b Bt' st.2.2 :=
  l3_wk_2 hT hS hs hI hQ (fun x => some x) st.2.2 0 xFu Bt (by omega) (by have := ls_I_le hI; unfold xFu; omega) (fun j h => absurd h (Nat.not_lt_zero _))
theorem l3_depthOf {Dp : Nat → Int32} {dz : Nat → Nat} (hD : cK Dp dz) {p : Nat} (hp : p < 24) : f_X3_depthOf Dp (nI p) = some (nI (dz p)) := by
  unfold f_X3_depthOf
  rw [l5_isPlace (by omega), if_pos hp, Option.bind_some, if_neg (by decide), pz_d hp (by omega), Option.bind_some, hD p hp]
theorem l3_answers {Dp : Nat → Int32} {dz : Nat → Nat} (hD : cK Dp dz) {p : Nat} (hp : p < 24) (hb : dz p ≤ 24) : f_X3_answers Dp (nI p) = some (nI (if dz p = 0 then 0 else 1)) := by
  unfold f_X3_answers
  rw [l3_depthOf hD hp, Option.bind_some]
  by_cases h : dz p = 0
  · rw [if_pos h, h]; rfl
  · rw [if_neg h, if_neg (nI_nle (by omega) (by omega))]; rfl
theorem l3_bitOf {Bt : Nat → Int32} {p : Nat} (hp : p < 24) : f_X3_bitOf Bt (nI p) = some (Bt p) := by
  unfold f_X3_bitOf
  rw [l5_isPlace (by omega), if_pos hp, Option.bind_some, if_neg (by decide), pz_d hp (by omega), Option.bind_some]
theorem l3_greatest {Dp : Nat → Int32} {dz : Nat → Nat} (hD : cK Dp dz) (hb : ∀ v, v < 24 → dz v ≤ 24) : f_X3_greatestDepth Dp = some (nI (pz_mx dz 24)) := by
  have st : ∀ (m i n : Nat), i + m = 24 → m < n → f_X3_greatestDepth_4 Dp (fun x => some x) n (nI (pz_mx dz i)) (nI i) = some (nI (pz_mx dz 24)) := by
    intro m
    induction m with
    | zero =>
      intro i n h1 h2
      obtain ⟨n, rfl⟩ : ∃ q, n = q + 1 := ⟨n - 1, by omega⟩
      obtain rfl : i = 24 := by omega
      unfold f_X3_greatestDepth_4
      rw [if_pos (show (24 : Int32) ≤ nI 24 from nI_le (a := 24) (Nat.le_refl _) (by omega))]
    | succ m ih =>
      intro i n h1 h2
      obtain ⟨n, rfl⟩ : ∃ q, n = q + 1 := ⟨n - 1, by omega⟩
      have ih := ih (i + 1) n (by omega) (by omega)
      have hi : i < 24 := by omega
      have h3 := hb i hi
      have h4 : pz_mx dz i ≤ 24 := pz_mx_le (fun j hj => hb j (by omega))
      rw [show pz_mx dz (i + 1) = if pz_mx dz i < dz i then dz i else pz_mx dz i from rfl] at ih
      unfold f_X3_greatestDepth_4
      rw [if_neg (show ¬ ((24 : Int32) ≤ nI i) from nI_ge (b := 24) hi (by omega)), pz_d hi (by omega), Option.bind_some, hD i hi, Option.bind_some, nI_1]
      by_cases hc : pz_mx dz i < dz i
      · rw [if_pos hc] at ih
        rw [if_pos (nI_lt hc (by omega))]
        exact ih
      · rw [if_neg hc] at ih
        rw [if_neg (nI_nlt (by omega) (by omega))]
        exact ih
  exact st 24 0 xFu (by omega) (by unfold xFu; omega)
/-! the reference -/
def mD (dep : Nat → Int32) (dz : Nat → Nat) : Prop := ∀ v, v < 24 → dep v = if dz v = 0 then -5 else nI (dz v)
theorem l6_under {now dep : Nat → Int32} {dz sr : Nat → Nat} {p n : Nat} (hS : mS now sr) (hs : ∀ w, w < 72 → sr w ≤ 33) (hD : mD dep dz) (hb : ∀ v, v < 24 → dz v ≤ n) (hn : n ≤ 24) (hp : p < 24) : f_X6_under now dep (nI p) = some (if lu dz sr p 3 = 0 then -5 else nI (lu dz sr p 3 - 1)) := by
  have st : ∀ (m i q : Nat), i + m = 3 → m < q → f_X6_under_4 now dep (nI p) (fun x => some x) q (if lu dz sr p i = 0 then -5 else nI (lu dz sr p i - 1)) (nI i) = some (if lu dz sr p 3 = 0 then -5 else nI (lu dz sr p 3 - 1)) := by
    intro m
    induction m with
    | zero =>
      intro i q h1 h2
      obtain ⟨q, rfl⟩ : ∃ z, q = z + 1 := ⟨q - 1, by omega⟩
      obtain rfl : i = 3 := by omega
      unfold f_X6_under_4
      rw [if_pos (show (3 : Int32) ≤ nI 3 from nI_le (a := 3) (Nat.le_refl _) (by omega))]
    | succ m ih =>
      intro i q h1 h2
      obtain ⟨q, rfl⟩ : ∃ z, q = z + 1 := ⟨q - 1, by omega⟩
      have hw : 3 * p + i < 72 := by omega
      have hsw := hs _ hw
      have hle := lu_le (sr := sr) (p := p) hb i
      have ih := ih (i + 1) q (by omega) (by omega)
      have e : lu dz sr p (i + 1) = if lu dz sr p i = 0 then 0 else if 24 ≤ sr (3 * p + i) then lu dz sr p i else if dz (sr (3 * p + i)) = 0 then 0 else if lu dz sr p i < dz (sr (3 * p + i)) + 1 then dz (sr (3 * p + i)) + 1 else lu dz sr p i := rfl
      unfold f_X6_under_4
      rw [if_neg (show ¬ ((3 : Int32) ≤ nI i) from nI_ge (b := 3) (by omega) (by omega)), show (24 : Int32) + 3 * nI p + nI i = nI (24 + (3 * p + i)) by rw [show (24 : Int32) = nI 24 from rfl, show (3 : Int32) = nI 3 from rfl, pk_mul, nI_add, nI_add, Nat.add_assoc], pz_d (by omega) (by omega), Option.bind_some, hS _ hw]
      by_cases h24 : 24 ≤ sr (3 * p + i)
      · rw [if_pos (show (24 : Int32) ≤ nI _ from nI_le (a := 24) h24 (by omega)), nI_1]
        rw [if_pos h24] at e
        by_cases h0 : lu dz sr p i = 0
        · rw [if_pos h0] at e ⊢
          rw [e] at ih
          exact ih
        · rw [if_neg h0] at e ⊢
          rw [e, if_neg h0] at ih
          exact ih
      · rw [if_neg (show ¬ ((24 : Int32) ≤ nI (sr (3 * p + i))) from nI_ge (b := 24) (by omega) (by omega))]
        rw [if_neg h24] at e
        by_cases h0 : lu dz sr p i = 0
        · rw [if_pos h0] at e ⊢
          rw [if_pos rfl, nI_1]
          rw [e] at ih
          exact ih
        · rw [if_neg h0] at e ⊢
          have hbs := hb (sr (3 * p + i)) (by omega)
          rw [if_neg (nI_ne5 (by omega)), pz_d (by omega) (by omega), Option.bind_some, hD _ (by omega)]
          by_cases hz : dz (sr (3 * p + i)) = 0
          · rw [if_pos hz] at e ⊢
            rw [if_pos rfl, nI_1]
            rw [e] at ih
            exact ih
          · rw [if_neg hz] at e ⊢
            rw [if_neg (nI_ne5 (by omega)), Option.bind_some, nI_1]
            rw [e] at ih
            by_cases hlt : lu dz sr p i < dz (sr (3 * p + i)) + 1
            · rw [if_pos hlt, if_neg (by omega)] at ih
              by_cases heq : dz (sr (3 * p + i)) ≤ lu dz sr p i - 1
              · rw [if_pos (nI_le heq (by omega)), show lu dz sr p i - 1 = dz (sr (3 * p + i)) + 1 - 1 by omega]
                exact ih
              · rw [if_neg (nI_ge (by omega) (by omega)), Option.bind_some]
                exact ih
            · rw [if_neg hlt, if_neg h0] at ih
              rw [if_pos (nI_le (by omega) (by omega))]
              exact ih
  exact st 3 0 xFu (by omega) (by unfold xFu; omega)
theorem l6_bitOf {bit : Nat → Int32} {b : Int32} {s : Nat} (hs : s ≤ 33) : f_X6_bitOf bit (nI s) b = some (lk_s bit b s) := by
  unfold f_X6_bitOf lk_s
  by_cases h : s < 24
  · rw [if_neg (show ¬ ((24 : Int32) ≤ nI s) from nI_ge (b := 24) h (by omega)), if_pos h, pz_d h (by omega)]
    rfl
  · rw [if_pos (show (24 : Int32) ≤ nI s from nI_le (a := 24) (by omega) (by omega)), if_neg h]
    by_cases h2 : s < 32
    · rw [if_neg (show ¬ ((32 : Int32) ≤ nI s) from nI_ge (b := 32) h2 (by omega)), if_pos h2]
    · rw [if_pos (show (32 : Int32) ≤ nI s from nI_le (a := 32) (by omega) (by omega)), if_neg h2]
theorem l6_lookedUp {now bit : Nat → Int32} {tb sr : Nat → Nat} {b : Int32} {p : Nat} (hT : mT now tb) (hS : mS now sr) (hs : ∀ w, w < 72 → sr w ≤ 33) (hp : p < 24) (ht : tb p ≠ 0) : f_X6_lookedUp now bit (nI p) b = some (lk tb sr bit b p) := by
  have st : ∀ (k : Int32 → Option Int32) (m i n : Nat), i + m = 3 → m < n → f_X6_lookedUp_5 now bit (nI p) b k n (lk_n sr bit b p i) (nI i) = k (lk_n sr bit b p 3) := by
    intro k m
    induction m with
    | zero =>
      intro i n h1 h2
      obtain ⟨n, rfl⟩ : ∃ q, n = q + 1 := ⟨n - 1, by omega⟩
      obtain rfl : i = 3 := by omega
      unfold f_X6_lookedUp_5
      rw [if_pos (show (3 : Int32) ≤ nI 3 from nI_le (a := 3) (Nat.le_refl _) (by omega))]
    | succ m ih =>
      intro i n h1 h2
      obtain ⟨n, rfl⟩ : ∃ q, n = q + 1 := ⟨n - 1, by omega⟩
      have ih := ih (i + 1) n (by omega) (by omega)
      unfold f_X6_lookedUp_5
      rw [if_neg (show ¬ ((3 : Int32) ≤ nI i) from nI_ge (b := 3) (by omega) (by omega)), show (24 : Int32) + 3 * nI p + nI i = nI (24 + (3 * p + i)) by rw [show (24 : Int32) = nI 24 from rfl, show (3 : Int32) = nI 3 from rfl, pk_mul, nI_add, nI_add, Nat.add_assoc], pz_d (by omega) (by omega), Option.bind_some, hS _ (by omega), l6_bitOf (hs _ (by omega)), Option.bind_some, nI_1]
      exact ih
  unfold f_X6_lookedUp
  refine (st _ 3 0 xFu (by omega) (by unfold xFu; omega)).trans ?_
  try dsimp only
  rw [show (0 : Int32) + nI p = nI p by rw [show (0 : Int32) = nI 0 from rfl, nI_add, Nat.zero_add], pz_d (by omega) (by omega), Option.bind_some, hT p hp, show mz_t (tb p) = nI (tb p - 1) from if_neg ht]
  rfl
/-- what holds of the reference's depths and bits on the way -/
def mB (tb sr : Nat → Nat) (b : Int32) (st : ls_T) (dep bit : Nat → Int32) : Prop := mD dep st.1 ∧ lb tb sr st b bit st.2.2
theorem mB_up {tb sr : Nat → Nat} {b : Int32} {st : ls_T} {dep bit : Nat → Int32} {p : Nat} (hI : ls_I tb sr st) (hp : p < 24) (h : mB tb sr b st dep bit) (h1 : tb p ≠ 0) (h2 : st.1 p = 0) (h3 : lu st.1 sr p 3 ≠ 0) : mB tb sr b (ls_1 tb sr st p) (upd dep p (nI (lu st.1 sr p 3))) (upd bit p (lk tb sr bit b p)) := by
  have hI1 := ls_I_1 hI hp
  have e : ls_1 tb sr st p = (pz_up st.1 p (lu st.1 sr p 3), pz_up st.2.1 st.2.2 p, st.2.2 + 1) := if_pos ⟨h1, h2, h3⟩
  rw [e] at hI1 ⊢
  constructor
  · intro v hv
    show upd dep p (nI (lu st.1 sr p 3)) v = if pz_up st.1 p (lu st.1 sr p 3) v = 0 then -5 else nI (pz_up st.1 p (lu st.1 sr p 3) v)
    by_cases hq : v = p
    · subst hq; rw [pz_us, pz_ups, if_neg h3]
    · rw [pz_un hq, pz_upn hq]; exact h.1 v hv
  · have hl : lb tb sr (pz_up st.1 p (lu st.1 sr p 3), pz_up st.2.1 st.2.2 p, st.2.2 + 1) b bit st.2.2 := by
      intro j hj
      show bit (pz_up st.2.1 st.2.2 p j) = lk tb sr bit b (pz_up st.2.1 st.2.2 p j)
      rw [pz_upn (by omega)]
      exact h.2 j hj
    have := lb_up hI1 (show st.2.2 < st.2.2 + 1 by omega) hl
    have e2 : pz_up st.2.1 st.2.2 p st.2.2 = p := pz_ups
    simp only [e2] at this
    exact this
theorem l6_an_39 {now : Nat → Int32} {tb sr : Nat → Nat} {b : Int32} (hT : mT now tb) (hS : mS now sr) (hb : wT tb) (hs : ∀ w, w < 72 → sr w ≤ 33) (st0 : ls_T) (hI : ls_I tb sr st0) (k : Int32 → (Nat → Int32) → (Nat → Int32) → Option ((Nat → Int32) × (Nat → Int32))) : ∀ (m p n : Nat) (dep bit : Nat → Int32), p + m = 24 → m < n → mB tb sr b (ls_p tb sr st0 p) dep bit → ∃ dep' bit', f_X6_answers_39 now b k n (nI (if (ls_p tb sr st0 p).2.2 = st0.2.2 then 0 else 1)) (nI p) dep bit = k (nI (if (ls_p tb sr st0 24).2.2 = st0.2.2 then 0 else 1)) dep' bit' ∧ mB tb sr b (ls_p tb sr st0 24) dep' bit' := by
  intro m
  induction m with
  | zero =>
    intro p n dep bit h1 h2 h3
    obtain ⟨n, rfl⟩ : ∃ q, n = q + 1 := ⟨n - 1, by omega⟩
    obtain rfl : p = 24 := by omega
    refine ⟨dep, bit, ?_, h3⟩
    unfold f_X6_answers_39
    rw [if_pos (show (24 : Int32) ≤ nI 24 from nI_le (a := 24) (Nat.le_refl _) (by omega))]
  | succ m ih =>
    intro p n dep bit h1 h2 h3
    obtain ⟨n, rfl⟩ : ∃ q, n = q + 1 := ⟨n - 1, by omega⟩
    have hp : p < 24 := by omega
    have hIp := ls_I_p hI p (by omega)
    have hle := ls_I_le hIp
    have hge := (ls_p_n tb sr st0 p).1
    have hst : ls_p tb sr st0 (p + 1) = ls_1 tb sr (ls_p tb sr st0 p) p := rfl
    have hdle := hIp.2.1 p hp
    have ihn := ih (p + 1) n
    rw [hst] at ihn
    have stay : ¬ (tb p ≠ 0 ∧ (ls_p tb sr st0 p).1 p = 0 ∧ lu (ls_p tb sr st0 p).1 sr p 3 ≠ 0) → ∃ dep' bit', f_X6_answers_39 now b k n (nI (if (ls_p tb sr st0 p).2.2 = st0.2.2 then 0 else 1)) (nI p + 1) dep bit = k (nI (if (ls_p tb sr st0 24).2.2 = st0.2.2 then 0 else 1)) dep' bit' ∧ mB tb sr b (ls_p tb sr st0 24) dep' bit' := by
      intro hc
      have e : ls_1 tb sr (ls_p tb sr st0 p) p = ls_p tb sr st0 p := if_neg hc
      rw [e] at ihn
      rw [nI_1]
      exact ihn dep bit (by omega) (by omega) h3
    unfold f_X6_answers_39
    rw [if_neg (show ¬ ((24 : Int32) ≤ nI p) from nI_ge (b := 24) hp (by omega)), l6_isCell hT hb hp, Option.bind_some]
    by_cases hc : tb p = 0
    · rw [if_pos (show nI (zc tb p) = 0 by rw [zc_0.mpr hc]; rfl)]
      exact stay (fun q => q.1 hc)
    · rw [if_neg (show ¬ (nI (zc tb p) = 0) from nI_ne0 (Nat.pos_of_ne_zero fun q => hc (zc_0.mp q)) (by have := zc_lt tb p; omega)), pz_d hp (by omega), Option.bind_some, h3.1 p hp]
      by_cases hd : (ls_p tb sr st0 p).1 p = 0
      · have hul := lu_le (sr := sr) (p := p) hIp.2.1 3
        rw [if_pos hd, if_pos rfl, l6_under hS hs h3.1 hIp.2.1 hle hp, Option.bind_some]
        by_cases hu : lu (ls_p tb sr st0 p).1 sr p 3 = 0
        · rw [if_pos hu, if_pos rfl]
          exact stay (fun q => q.2.2 hu)
        · have e : ls_1 tb sr (ls_p tb sr st0 p) p = (pz_up (ls_p tb sr st0 p).1 p (lu (ls_p tb sr st0 p).1 sr p 3), pz_up (ls_p tb sr st0 p).2.1 (ls_p tb sr st0 p).2.2 p, (ls_p tb sr st0 p).2.2 + 1) := if_pos ⟨hc, hd, hu⟩
          rw [if_neg hu, if_neg (nI_ne5 (by omega)), Option.bind_some, nI_1, show lu (ls_p tb sr st0 p).1 sr p 3 - 1 + 1 = lu (ls_p tb sr st0 p).1 sr p 3 by omega, pz_w hp (by omega), Option.bind_some, l6_lookedUp hT hS hs hp hc, Option.bind_some, pz_w hp (by omega), Option.bind_some, nI_1]
          have hgo := ihn _ _ (by omega) (by omega) (mB_up hIp hp h3 hc hd hu)
          rw [if_neg (show ¬ ((ls_1 tb sr (ls_p tb sr st0 p) p).2.2 = st0.2.2) by rw [e]; show ¬ ((ls_p tb sr st0 p).2.2 + 1 = st0.2.2); omega)] at hgo
          exact hgo
      · rw [if_neg hd, if_neg (nI_ne5 (by omega))]
        exact stay (fun q => hd q.2.1)
theorem l6_an_31 {now : Nat → Int32} {tb sr : Nat → Nat} {b : Int32} (hT : mT now tb) (hS : mS now sr) (hb : wT tb) (hs : ∀ w, w < 72 → sr w ≤ 33) (k : (Nat → Int32) → (Nat → Int32) → Option ((Nat → Int32) × (Nat → Int32))) : ∀ (m i n x : Nat) (dep bit : Nat → Int32), i + m = 25 → m + 1 < n → x ≤ 1 → (x = 0 → ls_i tb sr i = ls_i tb sr 24) → (i = 25 → x = 0) → mB tb sr b (ls_i tb sr i) dep bit → ∃ dep' bit', f_X6_answers_31 now b k n (nI x) dep bit = k dep' bit' ∧ mB tb sr b (ls_i tb sr 24) dep' bit' := by
  intro m
  induction m with
  | zero =>
    intro i n x dep bit h1 h2 h3 h4 h6 h5
    obtain ⟨n, rfl⟩ : ∃ q, n = q + 1 := ⟨n - 1, by omega⟩
    have hx := h6 (by omega)
    rw [h4 hx] at h5
    refine ⟨dep, bit, ?_, h5⟩
    unfold f_X6_answers_31
    rw [if_pos (show nI x = 0 by rw [hx]; rfl)]
  | succ m ih =>
    intro i n x dep bit h1 h2 h3 h4 h6 h5
    obtain ⟨n, rfl⟩ : ∃ q, n = q + 1 := ⟨n - 1, by omega⟩
    unfold f_X6_answers_31
    by_cases hx : x = 0
    · rw [h4 hx] at h5
      rw [if_pos (show nI x = 0 by rw [hx]; rfl)]
      exact ⟨dep, bit, rfl, h5⟩
    · obtain ⟨d1, b1, e1, e2⟩ := l6_an_39 hT hS hb hs (ls_i tb sr i) (ls_I_i tb sr i) (fun x2z26 depz26 bitz26 => f_X6_answers_31 now b k n x2z26 depz26 bitz26) 24 0 xFu dep bit (by omega) (by unfold xFu; omega) h5
      have e1 : f_X6_answers_39 now b (fun x2z26 depz26 bitz26 => f_X6_answers_31 now b k n x2z26 depz26 bitz26) xFu (nI (if (ls_i tb sr i).2.2 = (ls_i tb sr i).2.2 then 0 else 1)) (nI 0) dep bit = _ := e1
      rw [if_pos rfl] at e1
      rw [if_neg (show ¬ (nI x = 0) from nI_ne0 (by omega) (by omega))]
      have hstep : ∀ z, z = 0 → (if (ls_p tb sr (ls_i tb sr i) 24).2.2 = (ls_i tb sr i).2.2 then 0 else 1) = z → ls_i tb sr (i + 1) = ls_i tb sr i := by
        intro z hz h
        have hq : (ls_p tb sr (ls_i tb sr i) 24).2.2 = (ls_i tb sr i).2.2 := by
          refine Classical.byContradiction fun q => ?_
          rw [if_neg q] at h
          omega
        exact (ls_p_n tb sr (ls_i tb sr i) 24).2 hq
      obtain ⟨d2, b2, e3, e4⟩ := ih (i + 1) n (if (ls_p tb sr (ls_i tb sr i) 24).2.2 = (ls_i tb sr i).2.2 then 0 else 1) d1 b1 (by omega) (by omega) (by split <;> omega) (fun hz => by
        have e := hstep _ rfl hz
        rw [e]
        exact ls_late (by omega) e) (fun hz => by
        obtain rfl : i = 24 := by omega
        have e := ls_i_24 tb sr
        have e : ls_p tb sr (ls_i tb sr 24) 24 = ls_i tb sr 24 := e
        rw [e, if_pos rfl]) e2
      exact ⟨d2, b2, e1.trans e3, e4⟩
theorem l6_an_2 (k : (Nat → Int32) → (Nat → Int32) → Option ((Nat → Int32) × (Nat → Int32))) : ∀ (m i n : Nat) (dep bit : Nat → Int32), i + m = 24 → m < n → (∀ j, j < i → dep j = -5) → ∃ dep' bit', f_X6_answers_2 k n (nI i) dep bit = k dep' bit' ∧ ∀ j, j < 24 → dep' j = -5 := by
  intro m
  induction m with
  | zero =>
    intro i n dep bit h1 h2 h3
    obtain ⟨n, rfl⟩ : ∃ q, n = q + 1 := ⟨n - 1, by omega⟩
    obtain rfl : i = 24 := by omega
    unfold f_X6_answers_2
    rw [if_pos (show (24 : Int32) ≤ nI 24 from nI_le (a := 24) (Nat.le_refl _) (by omega))]
    exact ⟨dep, bit, rfl, h3⟩
  | succ m ih =>
    intro i n dep bit h1 h2 h3
    obtain ⟨n, rfl⟩ : ∃ q, n = q + 1 := ⟨n - 1, by omega⟩
    obtain ⟨d', b', e1, e2⟩ := ih (i + 1) n (upd dep i (-5)) (upd bit i 0) (by omega) (by omega) (fun j hj => by
      by_cases h : j = i
      · subst h; rw [pz_us]
      · rw [pz_un (by omega)]; exact h3 j (by omega))
    refine ⟨d', b', ?_, e2⟩
    unfold f_X6_answers_2
    rw [if_neg (show ¬ ((24 : Int32) ≤ nI i) from nI_ge (b := 24) (by omega) (by omega)), pz_w (by omega) (by omega), Option.bind_some, pz_w (by omega) (by omega), Option.bind_some, nI_1]
    exact e1
theorem l6_answers {now dep bit : Nat → Int32} {tb sr : Nat → Nat} {b : Int32} (hT : mT now tb) (hS : mS now sr) (hb : wT tb) (hs : ∀ w, w < 72 → sr w ≤ 33) : ∃ dep' bit', f_X6_answers now dep bit b = some (dep', bit') ∧ mB tb sr b (ls_i tb sr 24) dep' bit' := by
  obtain ⟨d1, b1, e1, e2⟩ := l6_an_2 (fun depz6 bitz6 => f_X6_answers_31 now b (fun depz27 bitz27 => some (depz27, bitz27)) xFu 1 depz6 bitz6) 24 0 xFu dep bit (by omega) (by unfold xFu; omega) (fun j h => absurd h (Nat.not_lt_zero _))
  obtain ⟨d2, b2, e3, e4⟩ := l6_an_31 (b := b) hT hS hb hs (fun x y => some (x, y)) 25 0 xFu 1 d1 b1 (by omega) (by unfold xFu; omega) (by omega) (fun h => by omega) (fun h => by omega) ⟨fun v hv => by rw [e2 v hv]; rfl, fun j h => absurd h (Nat.not_lt_zero _)⟩
  exact ⟨d2, b2, e1.trans e3, e4⟩
