/-! the reference: copies, what segments hold -/
theorem l6_lays_3 {N M : Nat} {f : Nat → Int32} {a b : Nat} (ha : a + 1898 ≤ N) (hb : b + 1898 ≤ M) (hN : N < 100000) (hM : M < 100000) (k : (Nat → Int32) → Option (Nat → Int32)) (g0 : Nat → Int32) : ∀ (m i n : Nat) (g : Nat → Int32), i + m = 1898 → m < n → (∀ j, j < i → g (b + j) = f (a + j)) → (∀ j, j < b ∨ b + 1898 ≤ j → g j = g0 j) → ∃ g', f_X6_lays_3 N M f (nI a) (nI b) k n (nI i) g = k g' ∧ (∀ j, j < 1898 → g' (b + j) = f (a + j)) ∧ ∀ j, j < b ∨ b + 1898 ≤ j → g' j = g0 j := by
  intro m
  induction m with
  | zero =>
    intro i n g h1 h2 h3 h4
    obtain ⟨n, rfl⟩ : ∃ q, n = q + 1 := ⟨n - 1, by omega⟩
    obtain rfl : i = 1898 := by omega
    unfold f_X6_lays_3
    rw [if_pos (show (1898 : Int32) ≤ nI 1898 from nI_le (a := 1898) (Nat.le_refl _) (by omega))]
    exact ⟨g, rfl, h3, h4⟩
  | succ m ih =>
    intro i n g h1 h2 h3 h4
    obtain ⟨n, rfl⟩ : ∃ q, n = q + 1 := ⟨n - 1, by omega⟩
    obtain ⟨g', e1, e2, e3⟩ := ih (i + 1) n (upd g (b + i) (f (a + i))) (by omega) (by omega) (fun j hj => by
      by_cases h : j = i
      · subst h; rw [pz_us]
      · rw [pz_un (by omega)]; exact h3 j (by omega)) (fun j hj => by rw [pz_un (by omega)]; exact h4 j hj)
    refine ⟨g', ?_, e2, e3⟩
    unfold f_X6_lays_3
    rw [if_neg (show ¬ ((1898 : Int32) ≤ nI i) from nI_ge (b := 1898) (by omega) (by omega)), nI_add, nI_add, pz_d (by omega) (by omega), Option.bind_some, pz_w (by omega) (by omega), Option.bind_some, nI_1]
    exact e1
theorem l6_lays {N M : Nat} {f g : Nat → Int32} {a b : Nat} (ha : a + 1898 ≤ N) (hb : b + 1898 ≤ M) (hN : N < 100000) (hM : M < 100000) : ∃ g', f_X6_lays N M f g (nI a) (nI b) = some g' ∧ (∀ j, j < 1898 → g' (b + j) = f (a + j)) ∧ ∀ j, j < b ∨ b + 1898 ≤ j → g' j = g j :=
  l6_lays_3 ha hb hN hM (fun x => some x) g 1898 0 xFu g (by omega) (by unfold xFu; omega) (fun j hj => by omega) (fun j _ => rfl)
/-- a whole row copied -/
theorem l6_lays0 {f g : Nat → Int32} : ∃ g', f_X6_lays 1898 1898 f g 0 0 = some g' ∧ ∀ j, j < 1898 → g' j = f j := by
  obtain ⟨g', e1, e2, -⟩ := l6_lays (N := 1898) (M := 1898) (f := f) (g := g) (a := 0) (b := 0) (by omega) (by omega) (by omega) (by omega)
  exact ⟨g', e1, fun j hj => by have := e2 j hj; rwa [Nat.zero_add] at this⟩
/-! the past: state j of st stands in place j -/
theorem l6_records_10 (k : (Nat → Int32) → Option (Int32 × (Nat → Int32))) (p0 : Nat → Int32) : ∀ (m i n : Nat) (p : Nat → Int32), i + m = 5694 → m < n → (∀ j, j < i → p j = p0 (j + 1898)) → (∀ j, i ≤ j → p j = p0 j) → ∃ p', f_X6_records_10 k n (nI i) p = k p' ∧ ∀ j, j < 5694 → p' j = p0 (j + 1898) := by
  intro m
  induction m with
  | zero =>
    intro i n p h1 h2 h3 h4
    obtain ⟨n, rfl⟩ : ∃ q, n = q + 1 := ⟨n - 1, by omega⟩
    obtain rfl : i = 5694 := by omega
    unfold f_X6_records_10
    rw [if_pos (show (5694 : Int32) ≤ nI 5694 from nI_le (a := 5694) (Nat.le_refl _) (by omega))]
    exact ⟨p, rfl, h3⟩
  | succ m ih =>
    intro i n p h1 h2 h3 h4
    obtain ⟨n, rfl⟩ : ∃ q, n = q + 1 := ⟨n - 1, by omega⟩
    obtain ⟨p', e1, e2⟩ := ih (i + 1) n (upd p i (p (i + 1898))) (by omega) (by omega) (fun j hj => by
      by_cases h : j = i
      · subst h; rw [pz_us, h4 _ (by omega)]
      · rw [pz_un (by omega)]; exact h3 j (by omega)) (fun j hj => by rw [pz_un (by omega)]; exact h4 j (by omega))
    refine ⟨p', ?_, e2⟩
    unfold f_X6_records_10
    rw [if_neg (show ¬ ((5694 : Int32) ≤ nI i) from nI_ge (b := 5694) (by omega) (by omega)), show nI i + 1898 = nI (i + 1898) from nI_add i 1898, pz_d (by omega) (by omega), Option.bind_some, pz_w (by omega) (by omega), Option.bind_some, nI_1]
    exact e1
/-- a state more: the older ones as they stood, the oldest gone where there were four -/
theorem l6_records {h : Nat} (hh : h ≤ 4) {now pst : Nat → Int32} : ∃ pst', f_X6_records (nI h) now pst = some (nI (if h = 4 then 4 else h + 1), pst') ∧ (∀ j k, j < (if h = 4 then 3 else h) → k < 1898 → pst' (1898 * j + k) = pst (1898 * (if h = 4 then j + 1 else j) + k)) ∧ ∀ k, k < 1898 → pst' (1898 * (if h = 4 then 3 else h) + k) = now k := by
  unfold f_X6_records
  by_cases hc : h = 4
  · subst hc
    rw [if_pos (show nI 4 = 4 from rfl)]
    obtain ⟨p1, e1, e2⟩ := l6_records_10 (fun pstz9 => (f_X6_lays 1898 7592 now pstz9 0 (1898 * (nI 4 - 1))).bind fun g10 => some ((nI 4 - 1) + 1, g10)) pst 5694 0 xFu pst (by omega) (by unfold xFu; omega) (fun j hj => by omega) (fun j _ => rfl)
    obtain ⟨p2, e3, e4, e5⟩ := l6_lays (N := 1898) (M := 7592) (f := now) (g := p1) (a := 0) (b := 5694) (by omega) (by omega) (by omega) (by omega)
    refine ⟨p2, ?_, fun j k hj hk => ?_, fun k hk => ?_⟩
    · refine e1.trans ?_
      rw [show (1898 : Int32) * (nI 4 - 1) = nI 5694 by decide, show (0 : Int32) = nI 0 from rfl, e3]
      rfl
    · rw [if_pos rfl] at hj ⊢
      rw [e5 _ (by omega), e2 _ (by omega), show 1898 * j + k + 1898 = 1898 * (j + 1) + k by omega]
    · rw [if_pos rfl]
      have := e4 k hk
      rwa [Nat.zero_add] at this
  · rw [if_neg (show ¬ (nI h = 4) from fun q => hc ((nI_eq (b := 4) (by omega) (by omega)).mp q))]
    obtain ⟨p2, e3, e4, e5⟩ := l6_lays (N := 1898) (M := 7592) (f := now) (g := pst) (a := 0) (b := 1898 * h) (by omega) (by omega) (by omega) (by omega)
    refine ⟨p2, ?_, fun j k hj hk => ?_, fun k hk => ?_⟩
    · rw [show (1898 : Int32) * nI h = nI (1898 * h) from pk_mul 1898 h, show (0 : Int32) = nI 0 from rfl, e3, if_neg hc, nI_1]
      rfl
    · rw [if_neg hc] at hj ⊢
      exact e5 _ (by omega)
    · rw [if_neg hc]
      have := e4 k hk
      rwa [Nat.zero_add] at this
/-! what segments hold -/
theorem l6_counts_2 (k : (Nat → Int32) → Option (Nat → Int32)) : ∀ (m i n : Nat) (h : Nat → Int32), i + m = 48 → m < n → (∀ j, j < i → h j = nI 0) → ∃ h', f_X6_counts_2 k n (nI i) h = k h' ∧ ∀ j, j < 48 → h' j = nI 0 := by
  intro m
  induction m with
  | zero =>
    intro i n h h1 h2 h3
    obtain ⟨n, rfl⟩ : ∃ q, n = q + 1 := ⟨n - 1, by omega⟩
    obtain rfl : i = 48 := by omega
    unfold f_X6_counts_2
    rw [if_pos (show (48 : Int32) ≤ nI 48 from nI_le (a := 48) (Nat.le_refl _) (by omega))]
    exact ⟨h, rfl, h3⟩
  | succ m ih =>
    intro i n h h1 h2 h3
    obtain ⟨n, rfl⟩ : ∃ q, n = q + 1 := ⟨n - 1, by omega⟩
    obtain ⟨h', e1, e2⟩ := ih (i + 1) n (upd h i 0) (by omega) (by omega) (fun j hj => by
      by_cases hc : j = i
      · subst hc; rw [pz_us]; rfl
      · rw [pz_un (by omega)]; exact h3 j (by omega))
    refine ⟨h', ?_, e2⟩
    unfold f_X6_counts_2
    rw [if_neg (show ¬ ((48 : Int32) ≤ nI i) from nI_ge (b := 48) (by omega) (by omega)), pz_w (by omega) (by omega), Option.bind_some, nI_1]
    exact e1
theorem cE_inc {E : Nat → Int32} {hd : Nat → Nat} {s0 : Nat} (hE : cE E hd) (hs : s0 < 48) : cE (upd E s0 (E s0 + 1)) (fun s => hd s + if s0 = s then 1 else 0) := by
  intro s h
  by_cases hc : s = s0
  · subst hc
    dsimp only
    rw [pz_us, hE s h, nI_1, if_pos rfl]
  · dsimp only
    rw [pz_un hc, hE s h, if_neg (Ne.symm hc), Nat.add_zero]
theorem l6_counts_31 {r : Nat → Int32} {lg : Nat → Nat} {jn : Nat → Nat → Nat} (hL : mL r lg) (hJ : mJ r lg jn) (hP : wP lg jn) {w : Nat} (hw : w < 72) (k : (Nat → Int32) → Option (Nat → Int32)) (h0 : Nat → Nat) : ∀ (m i n : Nat) (h : Nat → Int32), i + m = lg w - 1 → m < n → cE h (fun s => h0 s + gz_ed (jn w) s i) → ∃ h', f_X6_counts_31 r (nI w) k n (nI (i + 1)) h = k h' ∧ cE h' (fun s => h0 s + gz_ed (jn w) s (lg w - 1)) := by
  have hl := hP.1 w hw
  intro m
  induction m with
  | zero =>
    intro i n h h1 h2 h3
    obtain ⟨n, rfl⟩ : ∃ q, n = q + 1 := ⟨n - 1, by omega⟩
    obtain rfl : i = lg w - 1 := by omega
    refine ⟨h, ?_, h3⟩
    unfold f_X6_counts_31
    simp (disch := omega) only [nI_lit, nI_add, pk_mul, nI_ltI, nI_leI, nI_eq, pk_sub, pk_div, pz_d, pz_w, pz_neg, pz_gen, pz_ltn, pz_len, pz_ltz, pz_nn, Option.bind_some, Nat.one_ne_zero, Nat.zero_ne_one, and_self, and_true, true_and, and_false, false_and, ↓reduceIte, hL w hw, show lg w ≤ lg w - 1 + 1 by omega]
  | succ m ih =>
    intro i n h h1 h2 h3
    obtain ⟨n, rfl⟩ : ∃ q, n = q + 1 := ⟨n - 1, by omega⟩
    have hb := hP.2.2 w hw i (by omega)
    have hp := hP.2.1 w hw i (by omega)
    have hq := hP.2.1 w hw (i + 1) (by omega)
    have hs := gz_sg_lt _ hp _ hq hb
    obtain ⟨h', e1, e2⟩ := ih (i + 1) n (upd h (gz_sg (jn w i) (jn w (i + 1))) (h (gz_sg (jn w i) (jn w (i + 1))) + 1)) (by omega) (by omega) (by
      have := cE_inc h3 hs
      intro s hs
      rw [this s hs]
      show nI (h0 s + gz_ed (jn w) s i + _) = nI (h0 s + (gz_ed (jn w) s i + _))
      rw [Nat.add_assoc])
    refine ⟨h', ?_, e2⟩
    have j1 := hJ w hw i (by omega)
    have j2 := hJ w hw (i + 1) (by omega)
    unfold f_X6_counts_31
    simp (disch := omega) only [nI_lit, nI_add, pk_mul, nI_ltI, nI_leI, nI_eq, pk_sub, pk_div, pz_d, pz_w, pz_neg, pz_gen, pz_ltn, pz_len, pz_ltz, pz_nn, Option.bind_some, Nat.one_ne_zero, Nat.zero_ne_one, and_self, and_true, true_and, and_false, false_and, ↓reduceIte, hL w hw, show ¬ (lg w ≤ i + 1) by omega]
    rw [show 168 + 24 * w + (i + 1) - 1 = 168 + 24 * w + i by omega, j1, j2]
    simp (disch := omega) only [nI_lit, nI_add, pk_mul, nI_ltI, nI_leI, nI_eq, pk_sub, pk_div, pz_d, pz_w, pz_neg, pz_gen, pz_ltn, pz_len, pz_ltz, pz_nn, Option.bind_some, Nat.one_ne_zero, Nat.zero_ne_one, and_self, and_true, true_and, and_false, false_and, ↓reduceIte, l6_segment _ hp _ hq]
    exact e1
theorem l6_counts_23 {r : Nat → Int32} {lg : Nat → Nat} {jn : Nat → Nat → Nat} (hL : mL r lg) (hJ : mJ r lg jn) (hP : wP lg jn) (k : (Nat → Int32) → Option (Nat → Int32)) : ∀ (m i n : Nat) (h : Nat → Int32), i + m = 72 → m < n → cE h (fun s => pz_su (fun w => gz_ed (jn w) s (lg w - 1)) i) → ∃ h', f_X6_counts_23 r k n (nI i) h = k h' ∧ cE h' (fun s => pz_su (fun w => gz_ed (jn w) s (lg w - 1)) 72) := by
  intro m
  induction m with
  | zero =>
    intro i n h h1 h2 h3
    obtain ⟨n, rfl⟩ : ∃ q, n = q + 1 := ⟨n - 1, by omega⟩
    obtain rfl : i = 72 := by omega
    unfold f_X6_counts_23
    rw [if_pos (show (72 : Int32) ≤ nI 72 from nI_le (a := 72) (Nat.le_refl _) (by omega))]
    exact ⟨h, rfl, h3⟩
  | succ m ih =>
    intro i n h h1 h2 h3
    obtain ⟨n, rfl⟩ : ∃ q, n = q + 1 := ⟨n - 1, by omega⟩
    have hl := hP.1 i (by omega)
    obtain ⟨h1', e1, e2⟩ := l6_counts_31 hL hJ hP (show i < 72 by omega) (fun hldz19 => f_X6_counts_23 r k n (nI i + 1) hldz19) (fun s => pz_su (fun w => gz_ed (jn w) s (lg w - 1)) i) (lg i - 1) 0 xFu h (by omega) (by unfold xFu; omega) h3
    obtain ⟨h', e3, e4⟩ := ih (i + 1) n h1' (by omega) (by omega) e2
    refine ⟨h', ?_, e4⟩
    unfold f_X6_counts_23
    rw [if_neg (show ¬ ((72 : Int32) ≤ nI i) from nI_ge (b := 72) (by omega) (by omega))]
    refine e1.trans ?_
    rw [nI_1]
    exact e3
/-- the reference counts them anew -/
theorem l6_counts {r h : Nat → Int32} {lg : Nat → Nat} {jn : Nat → Nat → Nat} (hL : mL r lg) (hJ : mJ r lg jn) (hP : wP lg jn) : ∃ h', f_X6_counts h r = some h' ∧ cE h' (fun s => pz_su (fun w => gz_ed (jn w) s (lg w - 1)) 72) := by
  unfold f_X6_counts
  obtain ⟨h1, e1, e2⟩ := l6_counts_2 (fun hldz4 => f_X6_counts_23 r (fun hldz20 => some hldz20) xFu 0 hldz4) 48 0 xFu h (by omega) (by unfold xFu; omega) (fun j hj => by omega)
  obtain ⟨h2, e3, e4⟩ := l6_counts_23 hL hJ hP (fun x => some x) 72 0 xFu h1 (by omega) (by unfold xFu; omega) e2
  exact ⟨h2, e1.trans e3, e4⟩
theorem l6_mostHeld_4 {E : Nat → Int32} {hd : Nat → Nat} (hE : cE E hd) (hh : ∀ s, s < 48 → hd s ≤ 100000) (k : Int32 → Option Int32) : ∀ m i n : Nat, i + m = 48 → m < n → f_X6_mostHeld_4 E k n (nI (pz_mx hd i)) (nI i) = k (nI (pz_mx hd 48)) := by
  intro m
  induction m with
  | zero =>
    intro i n h1 h2
    obtain ⟨n, rfl⟩ : ∃ q, n = q + 1 := ⟨n - 1, by omega⟩
    obtain rfl : i = 48 := by omega
    unfold f_X6_mostHeld_4
    rw [if_pos (show (48 : Int32) ≤ nI 48 from nI_le (a := 48) (Nat.le_refl _) (by omega))]
  | succ m ih =>
    intro i n h1 h2
    obtain ⟨n, rfl⟩ : ∃ q, n = q + 1 := ⟨n - 1, by omega⟩
    have ih := ih (i + 1) n (by omega) (by omega)
    have hi : i < 48 := by omega
    have h3 := hh i hi
    have h4 : pz_mx hd i ≤ 100000 := pz_mx_le (fun j hj => hh j (by omega))
    rw [show pz_mx hd (i + 1) = if pz_mx hd i < hd i then hd i else pz_mx hd i from rfl] at ih
    unfold f_X6_mostHeld_4
    rw [if_neg (show ¬ ((48 : Int32) ≤ nI i) from nI_ge (b := 48) hi (by omega)), pz_d hi (by omega), Option.bind_some, hE i hi]
    by_cases hc : pz_mx hd i < hd i
    · rw [if_pos hc] at ih
      simp (disch := omega) only [nI_lit, nI_add, pk_mul, nI_ltI, nI_leI, nI_eq, pk_sub, pk_div, pz_d, pz_w, pz_neg, pz_gen, pz_ltn, pz_len, pz_ltz, pz_nn, Option.bind_some, Nat.one_ne_zero, Nat.zero_ne_one, and_self, and_true, true_and, and_false, false_and, ↓reduceIte, show ¬ (hd i ≤ pz_mx hd i) by omega, ih]
    · rw [if_neg hc] at ih
      simp (disch := omega) only [nI_lit, nI_add, pk_mul, nI_ltI, nI_leI, nI_eq, pk_sub, pk_div, pz_d, pz_w, pz_neg, pz_gen, pz_ltn, pz_len, pz_ltz, pz_nn, Option.bind_some, Nat.one_ne_zero, Nat.zero_ne_one, and_self, and_true, true_and, and_false, false_and, ↓reduceIte, show (hd i ≤ pz_mx hd i) by omega, ih]
theorem l6_mostHeld {E : Nat → Int32} {hd : Nat → Nat} (hE : cE E hd) (hh : ∀ s, s < 48 → hd s ≤ 100000) : f_X6_mostHeld E = some (nI (pz_mx hd 48)) :=
  l6_mostHeld_4 hE hh (fun x => some x) 48 0 xFu (by omega) (by unfold xFu; omega)
theorem l6_cost {E r : Nat → Int32} {hd : Nat → Nat} {cp su : Nat} (hE : cE E hd) (hC : mC r cp su) (hh : ∀ s, s < 48 → hd s ≤ 100000) (hc : wC cp su) {p q : Nat} (hp : p < 24) (hq : q < 24) (hb : gz_be p q = 1) : f_X6_cost E r (nI p) (nI q) = some (nI (zp hd cp su (gz_sg p q))) := by
  have hs := gz_sg_lt p hp q hq hb
  have h1 := hh _ hs
  have h2 := hc.2.1
  unfold f_X6_cost zp
  rw [l6_segment p hp q hq, Option.bind_some, pz_d hs (by omega), Option.bind_some, show (1896 : Int32) = nI 1896 from rfl, pz_d (by omega) (by omega), Option.bind_some, hE _ hs, hC.1]
  by_cases h : hd (gz_sg p q) < cp
  · rw [show (1897 : Int32) = nI 1897 from rfl]
    simp (disch := omega) only [nI_lit, nI_add, pk_mul, nI_ltI, nI_leI, nI_eq, pk_sub, pk_div, pz_d, pz_w, pz_neg, pz_gen, pz_ltn, pz_len, pz_ltz, pz_nn, Option.bind_some, Nat.one_ne_zero, Nat.zero_ne_one, and_self, and_true, true_and, and_false, false_and, ↓reduceIte, h, hC.2]
    rw [Nat.mul_comm]
  · simp (disch := omega) only [nI_lit, nI_add, pk_mul, nI_ltI, nI_leI, nI_eq, pk_sub, pk_div, pz_d, pz_w, pz_neg, pz_gen, pz_ltn, pz_len, pz_ltz, pz_nn, Option.bind_some, Nat.one_ne_zero, Nat.zero_ne_one, and_self, and_true, true_and, and_false, false_and, ↓reduceIte, h]
theorem l6_mostHeld_most {r h : Nat → Int32} {lg : Nat → Nat} {jn : Nat → Nat → Nat} {hd : Nat → Nat} (hL : mL r lg) (hJ : mJ r lg jn) (hP : wP lg jn) (hH : wH lg jn hd) : ∃ h', f_X6_counts h r = some h' ∧ cE h' hd := by
  obtain ⟨h', e1, e2⟩ := l6_counts (h := h) hL hJ hP
  exact ⟨h', e1, fun s hs => by rw [e2 s hs, hH s hs]⟩
