/-! the plan of a text: both read the same, or find the same fault -/
def rT (T S tld : Nat → Int32) (tb sr : Nat → Nat) : Prop := cT T tb ∧ cS S sr ∧ (∀ p, p < 24 → tld p = mz_t (tb p)) ∧ (∀ w, w < 72 → tb (w / 3) ≠ 0 → tld (24 + w) = nI (sr w)) ∧ wT tb ∧ wS tb sr
theorem tz_n_fail {Sg : Nat → Int32} {c most a : Nat} (h : (tz_n Sg c most a).1 = 0) : (tz_n Sg c most a).2 = a := by
  unfold tz_n at h ⊢
  split
  · rfl
  · next q =>
    rw [if_neg q] at h
    exfalso
    split at h
    · exact q (Or.inl h)
    · next q2 =>
      dsimp only at h
      exact q2 (Or.inr (Or.inl (by omega)))
section PL
variable {Sg txt : Nat → Int32} {c : Nat}
theorem pl_rest {p a : Nat} (hc : c ≤ 80) (ha : a ≤ c) (hp : p < 24) (h0 : tz_p Sg c a 47 = 0) (T : Nat → Int32) (k : Int32 → (Nat → Int32) → Option (Int32 × Int32 × (Nat → Int32) × (Nat → Int32))) : ∀ (m i n : Nat) (S : Nat → Int32) (sr : Nat → Nat), i + m = 3 → m < n → cS S sr → ∃ S' sr', f_X4_readCell_66 Sg (nI c) T (nI p) k n (nI i) (nI a) S = k (nI a) S' ∧ cS S' sr' ∧ ∀ w, sr' w = if 3 * p + i ≤ w ∧ w < 3 * p + 3 then 32 else sr w := by
  intro m
  induction m with
  | zero =>
    intro i n S sr h1 h2 h3
    obtain ⟨n, rfl⟩ : ∃ q, n = q + 1 := ⟨n - 1, by omega⟩
    obtain rfl : i = 3 := by omega
    refine ⟨S, sr, ?_, h3, fun w => by rw [if_neg (by omega)]⟩
    unfold f_X4_readCell_66
    rw [if_pos (show (3 : Int32) ≤ nI 3 from nI_le (a := 3) (Nat.le_refl _) (by omega))]
  | succ m ih =>
    intro i n S sr h1 h2 h3
    obtain ⟨n, rfl⟩ : ∃ q, n = q + 1 := ⟨n - 1, by omega⟩
    obtain ⟨S', sr', e1, e2, e3⟩ := ih (i + 1) n (upd S (3 * p + i) (nI 32)) (pz_up sr (3 * p + i) 32) (by omega) (by omega) (cS_up h3)
    refine ⟨S', sr', ?_, e2, fun w => ?_⟩
    · unfold f_X4_readCell_66
      rw [if_neg (show ¬ ((3 : Int32) ≤ nI i) from nI_ge (b := 3) (by omega) (by omega)), show (47 : Int32) = nI 47 from rfl, l4_pass hc (by omega) (by omega), Option.bind_some, h0]
      try dsimp only
      rw [if_pos (show nI 0 = 0 from rfl), show nI p * 3 + nI i = nI (3 * p + i) by rw [show (3 : Int32) = nI 3 from rfl, pk_mul, nI_add, Nat.mul_comm], l0_changeSource _ (by omega), Option.bind_some, nI_1, Nat.add_zero]
      exact e1
    · rw [e3 w]
      by_cases h : w = 3 * p + i
      · rw [if_neg (by omega), if_pos (by omega), h, pz_ups]
      · rw [pz_upn h]
        by_cases h2 : 3 * p + (i + 1) ≤ w ∧ w < 3 * p + 3
        · rw [if_pos h2, if_pos (by omega)]
        · rw [if_neg h2, if_neg (by omega)]
theorem pl_src {p : Nat} (hc : c ≤ 80) (hp : p < 24) (hX : ∀ k, k < 80 → txt k = Sg k) (T : Nat → Int32) (kc : Int32 → (Nat → Int32) → Option (Int32 × Int32 × (Nat → Int32) × (Nat → Int32))) (km : Int32 → Int32 → (Nat → Int32) → Option (Int32 × Int32 × Int32 × (Nat → Int32))) : ∀ (m i n1 n2 a : Nat) (nu : Int32) (S tld : Nat → Int32) (sr : Nat → Nat), i + m = 3 → m < n1 → m < n2 → a ≤ c → cS S sr → (∀ j, j < i → tld (24 + (3 * p + j)) = nI (sr (3 * p + j)) ∧ sr (3 * p + j) ≤ 33) → (∀ j, i ≤ j → j < 3 → tld (24 + (3 * p + j)) = nI 32) →
    (∃ (f : Nat) (nu' : Int32) (S' tld' : Nat → Int32), f ≤ 90 ∧ f_X4_readCell_66 Sg (nI c) T (nI p) kc n1 (nI i) (nI a) S = some (0, nI f, T, S') ∧ f_X6_areSources_30 (nI c) txt (nI p) km n2 (nI i) (nI a) nu tld = some (0, nI f, nu', tld')) ∨
    ∃ (f : Nat) (nu' : Int32) (S' tld' : Nat → Int32) (sr' : Nat → Nat), a ≤ f ∧ f ≤ c ∧ f_X4_readCell_66 Sg (nI c) T (nI p) kc n1 (nI i) (nI a) S = kc (nI f) S' ∧ f_X6_areSources_30 (nI c) txt (nI p) km n2 (nI i) (nI a) nu tld = km (nI f) nu' tld' ∧ cS S' sr' ∧ (∀ w, w / 3 ≠ p → sr' w = sr w) ∧ (∀ j, j < 3 → tld' (24 + (3 * p + j)) = nI (sr' (3 * p + j)) ∧ sr' (3 * p + j) ≤ 33) ∧ ∀ x, x < 24 + 3 * p ∨ 24 + 3 * p + 3 ≤ x → tld' x = tld x := by
  intro m
  induction m with
  | zero =>
    intro i n1 n2 a nu S tld sr h1 h2 h3 h4 h5 h6 h7
    obtain ⟨n1, rfl⟩ : ∃ q, n1 = q + 1 := ⟨n1 - 1, by omega⟩
    obtain ⟨n2, rfl⟩ : ∃ q, n2 = q + 1 := ⟨n2 - 1, by omega⟩
    obtain rfl : i = 3 := by omega
    right
    refine ⟨a, nu, S, tld, sr, Nat.le_refl _, h4, ?_, ?_, h5, fun _ _ => rfl, h6, fun _ _ => rfl⟩
    · unfold f_X4_readCell_66
      rw [if_pos (show (3 : Int32) ≤ nI 3 from nI_le (a := 3) (Nat.le_refl _) (by omega))]
    · unfold f_X6_areSources_30
      rw [if_pos (show (3 : Int32) ≤ nI 3 from nI_le (a := 3) (Nat.le_refl _) (by omega))]
  | succ m ih =>
    intro i n1 n2 a nu S tld sr h1 h2 h3 h4 h5 h6 h7
    obtain ⟨n1, rfl⟩ : ∃ q, n1 = q + 1 := ⟨n1 - 1, by omega⟩
    obtain ⟨n2, rfl⟩ : ∃ q, n2 = q + 1 := ⟨n2 - 1, by omega⟩
    have ppl := tz_p_le Sg c a 47
    by_cases hps : tz_p Sg c a 47 = 1
    · have hac := tz_p_lt hps
      have hso := tz_s_ok (Sg := Sg) (c := c) (a := a + 1)
      obtain ⟨nu1, g1, g2⟩ := l6_source (Sg := Sg) hc (show a + 1 < 84 by omega) hX nu
      by_cases hz : (tz_s Sg c (a + 1)).1 = 0
      · left
        refine ⟨(tz_s Sg c (a + 1)).2, nu1, S, tld, by omega, ?_, ?_⟩
        · unfold f_X4_readCell_66
          rw [if_neg (show ¬ ((3 : Int32) ≤ nI i) from nI_ge (b := 3) (by omega) (by omega)), show (47 : Int32) = nI 47 from rfl, l4_pass hc (by omega) (by omega), Option.bind_some, hps]
          try dsimp only
          rw [if_neg (show ¬ (nI 1 = 0) by decide), l4_source hc (by omega), Option.bind_some, if_pos hz]
          rfl
        · unfold f_X6_areSources_30
          rw [if_neg (show ¬ ((3 : Int32) ≤ nI i) from nI_ge (b := 3) (by omega) (by omega)), show (47 : Int32) = nI 47 from rfl, l6_takes (Sg := Sg) hc (by omega) (by omega) hX, Option.bind_some, hps]
          try dsimp only
          rw [if_neg (show ¬ (nI 1 = 0) by decide), g1, Option.bind_some, if_pos hz]
          rfl
      · have g2 := g2 hz
        have hle := hso.2.2.1 hz
        have q5 : cS (upd S (3 * p + i) (nI ((tz_s Sg c (a + 1)).1 - 1))) (pz_up sr (3 * p + i) ((tz_s Sg c (a + 1)).1 - 1)) := cS_up h5
        have hgo := ih (i + 1) n1 n2 (tz_s Sg c (a + 1)).2 nu1 (upd S (3 * p + i) (nI ((tz_s Sg c (a + 1)).1 - 1))) (upd tld (24 + (3 * p + i)) nu1) (pz_up sr (3 * p + i) ((tz_s Sg c (a + 1)).1 - 1)) (by omega) (by omega) (by omega) hle q5 (fun j hj => by
          by_cases h : j = i
          · subst h; rw [pz_us, pz_ups, g2]; exact ⟨rfl, by omega⟩
          · rw [pz_un (by omega), pz_upn (by omega)]; exact h6 j (by omega)) (fun j hj hj3 => by rw [pz_un (by omega)]; exact h7 j (by omega) hj3)
        have eC : f_X4_readCell_66 Sg (nI c) T (nI p) kc (n1 + 1) (nI i) (nI a) S = f_X4_readCell_66 Sg (nI c) T (nI p) kc n1 (nI (i + 1)) (nI (tz_s Sg c (a + 1)).2) (upd S (3 * p + i) (nI ((tz_s Sg c (a + 1)).1 - 1))) := by
          conv => lhs; unfold f_X4_readCell_66
          rw [if_neg (show ¬ ((3 : Int32) ≤ nI i) from nI_ge (b := 3) (by omega) (by omega)), show (47 : Int32) = nI 47 from rfl, l4_pass hc (by omega) (by omega), Option.bind_some, hps]
          try dsimp only
          rw [if_neg (show ¬ (nI 1 = 0) by decide), l4_source hc (by omega), Option.bind_some, if_neg hz]
          try dsimp only
          rw [if_neg (show ¬ (nI ((tz_s Sg c (a + 1)).1 - 1) = -1) from fun q => by rw [show (-1 : Int32) = -nI 1 from rfl, pz_neg (by omega) (by omega) (by omega)] at q; exact q), show nI p * 3 + nI i = nI (3 * p + i) by rw [show (3 : Int32) = nI 3 from rfl, pk_mul, nI_add, Nat.mul_comm], l0_changeSource _ (by omega), Option.bind_some, nI_1]
        have eM : f_X6_areSources_30 (nI c) txt (nI p) km (n2 + 1) (nI i) (nI a) nu tld = f_X6_areSources_30 (nI c) txt (nI p) km n2 (nI (i + 1)) (nI (tz_s Sg c (a + 1)).2) nu1 (upd tld (24 + (3 * p + i)) nu1) := by
          conv => lhs; unfold f_X6_areSources_30
          rw [if_neg (show ¬ ((3 : Int32) ≤ nI i) from nI_ge (b := 3) (by omega) (by omega)), show (47 : Int32) = nI 47 from rfl, l6_takes (Sg := Sg) hc (by omega) (by omega) hX, Option.bind_some, hps]
          try dsimp only
          rw [if_neg (show ¬ (nI 1 = 0) by decide), g1, Option.bind_some, if_neg hz]
          try dsimp only
          rw [if_neg (show ¬ (nI 1 = 0) by decide), show (24 : Int32) + 3 * nI p + nI i = nI (24 + (3 * p + i)) by rw [show (24 : Int32) = nI 24 from rfl, show (3 : Int32) = nI 3 from rfl, pk_mul, nI_add, nI_add, Nat.add_assoc], pz_w (by omega) (by omega), Option.bind_some, nI_1]
        rw [eC, eM]
        rcases hgo with ⟨f, nu', S', tld', b1, b2, b3⟩ | ⟨f, nu', S', tld', sr', b1, b2, b3, b4, b5, b6, b7, b8⟩
        · exact Or.inl ⟨f, nu', S', tld', b1, b2, b3⟩
        · exact Or.inr ⟨f, nu', S', tld', sr', by omega, b2, b3, b4, b5, fun w hw => by rw [b6 w hw, pz_upn (by omega)], b7, fun x hx => by rw [b8 x hx, pz_un (by omega)]⟩
    · have h0 : tz_p Sg c a 47 = 0 := by omega
      obtain ⟨S', sr', e1, e2, e3⟩ := pl_rest hc h4 hp h0 T kc (m + 1) i (n1 + 1) S sr h1 h2 h5
      right
      refine ⟨a, nu, S', tld, sr', Nat.le_refl _, h4, e1, ?_, e2, fun w hw => ?_, fun j hj => ?_, fun _ _ => rfl⟩
      · unfold f_X6_areSources_30
        rw [if_neg (show ¬ ((3 : Int32) ≤ nI i) from nI_ge (b := 3) (by omega) (by omega)), show (47 : Int32) = nI 47 from rfl, l6_takes (Sg := Sg) hc (by omega) (by omega) hX, Option.bind_some, h0]
        rfl
      · rw [e3 w, if_neg (by omega)]
      · rw [e3]
        by_cases h : j < i
        · rw [if_neg (by omega)]; exact h6 j h
        · rw [if_pos (by omega)]; exact ⟨h7 j (by omega) hj, by omega⟩
theorem pl_as_2 {p : Nat} (hp : p < 24) (t0 : Nat → Int32) (k : (Nat → Int32) → Option (Int32 × Int32 × Int32 × (Nat → Int32))) : ∀ (m i n : Nat) (tld : Nat → Int32), i + m = 3 → m < n → (∀ j, j < i → tld (24 + (3 * p + j)) = nI 32) → (∀ x, x < 24 + 3 * p ∨ 24 + 3 * p + 3 ≤ x → tld x = t0 x) → ∃ tld', f_X6_areSources_2 (nI p) k n (nI i) tld = k tld' ∧ (∀ j, j < 3 → tld' (24 + (3 * p + j)) = nI 32) ∧ ∀ x, x < 24 + 3 * p ∨ 24 + 3 * p + 3 ≤ x → tld' x = t0 x := by
  intro m
  induction m with
  | zero =>
    intro i n tld h1 h2 h3 h4
    obtain ⟨n, rfl⟩ : ∃ q, n = q + 1 := ⟨n - 1, by omega⟩
    obtain rfl : i = 3 := by omega
    refine ⟨tld, ?_, h3, h4⟩
    unfold f_X6_areSources_2
    rw [if_pos (show (3 : Int32) ≤ nI 3 from nI_le (a := 3) (Nat.le_refl _) (by omega))]
  | succ m ih =>
    intro i n tld h1 h2 h3 h4
    obtain ⟨n, rfl⟩ : ∃ q, n = q + 1 := ⟨n - 1, by omega⟩
    obtain ⟨tld', e1, e2⟩ := ih (i + 1) n (upd tld (24 + (3 * p + i)) (nI 32)) (by omega) (by omega) (fun j hj => by
      by_cases h : j = i
      · subst h; rw [pz_us]
      · rw [pz_un (by omega)]; exact h3 j (by omega)) (fun x hx => by rw [pz_un (by omega)]; exact h4 x hx)
    refine ⟨tld', ?_, e2⟩
    unfold f_X6_areSources_2
    rw [if_neg (show ¬ ((3 : Int32) ≤ nI i) from nI_ge (b := 3) (by omega) (by omega)), show (24 : Int32) + 3 * nI p + nI i = nI (24 + (3 * p + i)) by rw [show (24 : Int32) = nI 24 from rfl, show (3 : Int32) = nI 3 from rfl, pk_mul, nI_add, nI_add, Nat.add_assoc], pz_w (by omega) (by omega), Option.bind_some, nI_1]
    exact e1
/-- a cell of the plan -/
theorem pl_cell {a : Nat} {nu : Int32} {T S tld : Nat → Int32} {tb sr : Nat → Nat} (hc : c ≤ 80) (ha : a ≤ c) (hX : ∀ k, k < 80 → txt k = Sg k) (hR : rT T S tld tb sr) :
    (∃ (f : Nat) (nu' : Int32) (T' S' tld' : Nat → Int32), f ≤ 90 ∧ f_X4_readCell Sg (nI c) (nI a) T S = some (0, nI f, T', S') ∧ f_X6_isCellTold (nI c) (nI a) nu txt tld = some (0, nI f, nu', tld')) ∨
    ∃ (f : Nat) (nu' : Int32) (T' S' tld' : Nat → Int32) (tb' sr' : Nat → Nat), a < f ∧ f ≤ c ∧ f_X4_readCell Sg (nI c) (nI a) T S = some (1, nI f, T', S') ∧ f_X6_isCellTold (nI c) (nI a) nu txt tld = some (1, nI f, nu', tld') ∧ rT T' S' tld' tb' sr' := by
  obtain ⟨r1, r2, r3, r4, r5, r6⟩ := hR
  have hn := tz_n_ok (Sg := Sg) (c := c) (a := a) (most := 23) (by omega)
  unfold f_X4_readCell f_X6_isCellTold
  rw [show (23 : Int32) = nI 23 from rfl, l4_number hc (by omega) (by omega), Option.bind_some, l6_number (Sg := Sg) hc (by omega) hX (Or.inr rfl)]
  try dsimp only
  by_cases hz : (tz_n Sg c 23 a).1 = 0
  · left
    rw [if_pos hz, if_pos hz, if_pos rfl, tz_n_fail hz]
    exact ⟨a, nu, T, S, tld, by omega, rfl, rfl⟩
  · obtain ⟨n1, n2⟩ := hn.2.2.1 hz
    obtain ⟨b, hb⟩ : ∃ b, b = (tz_n Sg c 23 a).2 := ⟨_, rfl⟩
    obtain ⟨p, hp⟩ : ∃ p, p = (tz_n Sg c 23 a).1 - 1 := ⟨_, rfl⟩
    have hp24 : p < 24 := by omega
    rw [if_neg hz, if_neg hz, ← hb, ← hp, if_neg (show ¬ (nI p = -1) from fun q => by rw [show (-1 : Int32) = -nI 1 from rfl, pz_neg (by omega) (by omega) (by omega)] at q; exact q), Option.bind_some]
    try dsimp only
    rw [if_neg (show ¬ ((1 : Int32) = 0) by decide), show (61 : Int32) = nI 61 from rfl, l4_pass hc (by omega) (by omega), Option.bind_some, l6_takes (Sg := Sg) hc (by omega) (by omega) hX, Option.bind_some]
    try dsimp only
    have p1 := tz_p_le Sg c b 61
    by_cases he : tz_p Sg c b 61 = 1
    · have hbc := tz_p_lt he
      have t1 := tz_h_le (Sg := Sg) (c := c) (a := b + 1)
      rw [he, if_neg (show ¬ (nI 1 = 0) by decide), if_neg (show ¬ (nI 1 = 0) by decide), l4_table hc (by omega), Option.bind_some, l6_table (Sg := Sg) hc (by omega) hX, Option.bind_some]
      try dsimp only
      by_cases hh : tz_h Sg c (b + 1) = 0
      · left
        rw [if_pos hh, if_pos rfl, if_pos hh, if_pos hh, if_pos rfl]
        exact ⟨b + 1 + 0, nI p, T, S, tld, by omega, rfl, rfl⟩
      · have t1c := t1.2 hh
        have t2 := tz_h_le (Sg := Sg) (c := c) (a := b + 1 + 1)
        rw [if_neg hh, if_neg (show ¬ (nI (tz_h Sg c (b + 1) - 1) = -1) from fun q => by rw [show (-1 : Int32) = -nI 1 from rfl, pz_neg (by omega) (by omega) (by omega)] at q; exact q), if_neg hh, if_neg hh, if_neg (nI_ne5 (by omega)), l4_table hc (by omega), Option.bind_some, l6_table (Sg := Sg) hc (by omega) hX, Option.bind_some]
        try dsimp only
        by_cases hl : tz_h Sg c (b + 1 + 1) = 0
        · left
          rw [if_pos hl, if_pos rfl, if_pos hl, if_pos hl, if_pos rfl]
          exact ⟨b + 1 + 1 + 0, nI p, T, S, tld, by omega, rfl, rfl⟩
        · have t2c := t2.2 hl
          obtain ⟨t, ht⟩ : ∃ t, t = 16 * (tz_h Sg c (b + 1) - 1) + (tz_h Sg c (b + 1 + 1) - 1) := ⟨_, rfl⟩
          obtain ⟨d, hd⟩ : ∃ d, d = b + 1 + 1 + 1 := ⟨_, rfl⟩
          have ev : nI (tz_h Sg c (b + 1) - 1) * 16 + nI (tz_h Sg c (b + 1 + 1) - 1) = cz_t (t + 1) := by
            rw [show (16 : Int32) = nI 16 from rfl, pk_mul, nI_add]
            show _ = nI (t + 1 - 1)
            congr 1
            omega
          have ew : (16 : Int32) * nI (tz_h Sg c (b + 1) - 1) + nI (tz_h Sg c (b + 1 + 1) - 1) = mz_t (t + 1) := by
            rw [show (16 : Int32) = nI 16 from rfl, pk_mul, nI_add]
            show _ = nI (t + 1 - 1)
            congr 1
            omega
          rw [if_neg hl, if_neg (show ¬ (nI (tz_h Sg c (b + 1 + 1) - 1) = -1) from fun q => by rw [show (-1 : Int32) = -nI 1 from rfl, pz_neg (by omega) (by omega) (by omega)] at q; exact q), if_neg hl, if_neg hl, if_neg (nI_ne5 (by omega)), ← hd, ev, ew, l0_changeTable _ hp24, Option.bind_some, pz_w (by omega) (by omega), Option.bind_some]
          obtain ⟨tl1, a1, a2, a3⟩ := pl_as_2 hp24 (upd tld p (mz_t (t + 1))) (fun tldz4 => f_X6_areSources_30 (nI c) txt (nI p) (fun spz17 nuz17 tldz17 => some (1, spz17, nuz17, tldz17)) xFu 0 (nI d) (nI p) tldz4) 3 0 xFu (upd tld p (mz_t (t + 1))) (by omega) (by unfold xFu; omega) (fun j h => absurd h (Nat.not_lt_zero _)) (fun _ _ => rfl)
          have eM : f_X6_areSources (nI c) (nI d) (nI p) txt (upd tld p (mz_t (t + 1))) (nI p) = f_X6_areSources_30 (nI c) txt (nI p) (fun spz17 nuz17 tldz17 => some (1, spz17, nuz17, tldz17)) xFu (nI 0) (nI d) (nI p) tl1 := a1
          rw [eM]
          have hgo := pl_src hc hp24 hX (upd T p (cz_t (t + 1))) (fun at_z33 Sz33 => some (1, at_z33, upd T p (cz_t (t + 1)), Sz33)) (fun spz17 nuz17 tldz17 => some (1, spz17, nuz17, tldz17)) 3 0 xFu xFu d (nI p) S tl1 sr (by omega) (by unfold xFu; omega) (by unfold xFu; omega) (by omega) r2 (fun j h => absurd h (Nat.not_lt_zero _)) (fun j _ h => a2 j h)
          rcases hgo with ⟨f, nu', S', tld', b1, b2, b3⟩ | ⟨f, nu', S', tld', sr', b1, b2, b3, b4, b5, b6, b7, b8⟩
          · left
            refine ⟨f, nu', upd T p (cz_t (t + 1)), S', tld', b1, b2, ?_⟩
            rw [b3]
            rfl
          · right
            refine ⟨f, nu', upd T p (cz_t (t + 1)), S', tld', pz_up tb p (t + 1), sr', by omega, b2, b3, ?_, cT_up r1, b5, fun q hq => ?_, fun w hw hz => ?_, fun q hq => ?_, fun w hw => ?_, fun w hw hz => ?_⟩
            · rw [b4]
              rfl
            · rw [b8 _ (by omega), a3 _ (by omega)]
              by_cases h : q = p
              · subst h; rw [pz_us, pz_ups]
              · rw [pz_un h, pz_upn h]; exact r3 q hq
            · by_cases h : w / 3 = p
              · have := b7 (w - 3 * p) (by omega)
                rw [show 3 * p + (w - 3 * p) = w by omega] at this
                exact this.1
              · rw [pz_upn h] at hz
                rw [b8 _ (by omega), a3 _ (by omega), pz_un (by omega), b6 w h]
                exact r4 w hw hz
            · by_cases h : q = p
              · subst h; rw [pz_ups]; omega
              · rw [pz_upn h]; exact r5 q hq
            · by_cases h : w / 3 = p
              · have := b7 (w - 3 * p) (by omega)
                rw [show 3 * p + (w - 3 * p) = w by omega] at this
                exact this.2
              · rw [b6 w h]; exact r6.1 w hw
            · by_cases h : w / 3 = p
              · rw [h, pz_ups] at hz; omega
              · rw [pz_upn h] at hz
                rw [b6 w h]; exact r6.2 w hw hz
    · left
      rw [show tz_p Sg c b 61 = 0 by omega, if_pos (show nI 0 = 0 from rfl), if_pos (show nI 0 = 0 from rfl)]
      exact ⟨b + 0, nI p, T, S, tld, by omega, rfl, rfl⟩
/-- the whole text -/
theorem pl_loop (hc : c ≤ 80) (hX : ∀ k, k < 80 → txt k = Sg k) (kc : Int32 → (Nat → Int32) → (Nat → Int32) → Option (Int32 × Int32 × (Nat → Int32) × (Nat → Int32))) : ∀ (m x n1 n2 a : Nat) (nu : Int32) (T S tld : Nat → Int32) (tb sr : Nat → Nat), m = c - a → m < n1 → m + 1 < n2 → a ≤ c → 2 * x ≤ a → rT T S tld tb sr →
    (∃ (f : Nat) (nu' : Int32) (T' S' tld' : Nat → Int32), f ≤ 90 ∧ f_X4_readInto_7 Sg (nI c) kc n1 (nI x) (nI a) T S = some (nI f, nI f, T', S') ∧ f_X6_fault_29 (nI c) txt (fun spz15 nuz15 tldz15 => if spz15 = nI c then some (-5, spz15, nuz15, tldz15) else some (spz15, spz15, nuz15, tldz15)) n2 (nI 1) (nI a) nu tld = some (nI f, nI f, nu', tld')) ∨
    ∃ (nu' : Int32) (T' S' tld' : Nat → Int32) (tb' sr' : Nat → Nat), f_X4_readInto_7 Sg (nI c) kc n1 (nI x) (nI a) T S = some (-1, nI c, T', S') ∧ f_X6_fault_29 (nI c) txt (fun spz15 nuz15 tldz15 => if spz15 = nI c then some (-5, spz15, nuz15, tldz15) else some (spz15, spz15, nuz15, tldz15)) n2 (nI 1) (nI a) nu tld = some (-5, nI c, nu', tld') ∧ rT T' S' tld' tb' sr' := by
  intro m
  induction m using Nat.strongRecOn with
  | _ m ih =>
    intro x n1 n2 a nu T S tld tb sr hm h1 h2 ha hx hR
    obtain ⟨n1, rfl⟩ : ∃ q, n1 = q + 1 := ⟨n1 - 1, by omega⟩
    obtain ⟨n2, rfl⟩ : ∃ q, n2 = q + 1 + 1 := ⟨n2 - 2, by omega⟩
    rw [show f_X4_readInto_7 Sg (nI c) kc (n1 + 1) (nI x) (nI a) T S = (f_X4_readCell Sg (nI c) (nI a) T S).bind fun (v2, at3, T4, S5) => if v2 = 0 then some (at3, at3, T4, S5) else if at3 = nI c then some (-1, at3, T4, S5) else (f_X4_pass Sg (nI c) at3 59).bind fun (v9, at10) => if v9 = 0 then some (at10, at10, T4, S5) else f_X4_readInto_7 Sg (nI c) kc n1 (nI x + 1) at10 T4 S5 by
      conv => lhs; unfold f_X4_readInto_7
      rw [if_neg (show ¬ ((80 : Int32) ≤ nI x) from nI_ge (b := 80) (by omega) (by omega))]]
    have eF : ∀ (n : Nat) (sp nu : Int32) (tld : Nat → Int32), f_X6_fault_29 (nI c) txt (fun spz15 nuz15 tldz15 => if spz15 = nI c then some (-5, spz15, nuz15, tldz15) else some (spz15, spz15, nuz15, tldz15)) (n + 1) (nI 1) sp nu tld = (f_X6_isCellTold (nI c) sp nu txt tld).bind fun (v6, sp7, nu8, tld9) => if v6 = 0 then some (sp7, sp7, nu8, tld9) else (f_X6_takes (nI c) sp7 txt 59).bind fun (v12, sp13) => f_X6_fault_29 (nI c) txt (fun spz15 nuz15 tldz15 => if spz15 = nI c then some (-5, spz15, nuz15, tldz15) else some (spz15, spz15, nuz15, tldz15)) n v12 sp13 nu8 tld9 := by
      intro n sp nu tld
      conv => lhs; unfold f_X6_fault_29
      rw [if_neg (show ¬ (nI 1 = 0) by decide)]
    rw [eF]
    rcases pl_cell (nu := nu) hc ha hX hR with ⟨f, nu', T', S', tld', b1, b2, b3⟩ | ⟨f, nu', T', S', tld', tb', sr', b0, b1, b2, b3, b4⟩
    · left
      rw [b2, b3]
      exact ⟨f, nu', T', S', tld', b1, rfl, rfl⟩
    · rw [b2, b3, Option.bind_some, Option.bind_some]
      try dsimp only
      rw [if_neg (show ¬ ((1 : Int32) = 0) by decide), if_neg (show ¬ ((1 : Int32) = 0) by decide), show (59 : Int32) = nI 59 from rfl, l6_takes (Sg := Sg) hc (by omega) (by omega) hX, Option.bind_some]
      try dsimp only
      have pp := tz_p_le Sg c f 59
      by_cases hfc : f = c
      · right
        have hp0 : tz_p Sg c f 59 = 0 := by unfold tz_p; rw [if_neg (by omega)]
        rw [if_pos (by rw [hfc]), hp0]
        refine ⟨nu', T', S', tld', tb', sr', by rw [hfc], ?_, b4⟩
        unfold f_X6_fault_29
        rw [if_pos (show nI 0 = 0 from rfl)]
        try dsimp only
        rw [Nat.add_zero, if_pos (by rw [hfc]), hfc]
      · rw [if_neg (fun q => hfc ((nI_eq (by omega) (by omega)).mp q)), l4_pass hc (by omega) (by omega), Option.bind_some]
        try dsimp only
        by_cases hp1 : tz_p Sg c f 59 = 1
        · have hlt := tz_p_lt hp1
          rw [hp1, if_neg (show ¬ (nI 1 = 0) by decide), nI_1]
          exact ih (c - (f + 1)) (by omega) (x + 1) n1 (n2 + 1) (f + 1) nu' T' S' tld' tb' sr' rfl (by omega) (by omega) (by omega) (by omega) b4
        · left
          rw [show tz_p Sg c f 59 = 0 by omega, if_pos (show nI 0 = 0 from rfl)]
          refine ⟨f, nu', T', S', tld', by omega, rfl, ?_⟩
          unfold f_X6_fault_29
          rw [if_pos (show nI 0 = 0 from rfl)]
          try dsimp only
          rw [Nat.add_zero, if_neg (fun q => hfc ((nI_eq (by omega) (by omega)).mp q))]
theorem pl_fa_7 (k : (Nat → Int32) → Option (Int32 × Int32 × Int32 × (Nat → Int32))) : ∀ (m i n : Nat) (tld : Nat → Int32), i + m = 24 → m < n → (∀ j, j < i → tld j = -5) → ∃ tld', f_X6_fault_7 k n (nI i) tld = k tld' ∧ ∀ j, j < 24 → tld' j = -5 := by
  intro m
  induction m with
  | zero =>
    intro i n tld h1 h2 h3
    obtain ⟨n, rfl⟩ : ∃ q, n = q + 1 := ⟨n - 1, by omega⟩
    obtain rfl : i = 24 := by omega
    unfold f_X6_fault_7
    rw [if_pos (show (24 : Int32) ≤ nI 24 from nI_le (a := 24) (Nat.le_refl _) (by omega))]
    exact ⟨tld, rfl, h3⟩
  | succ m ih =>
    intro i n tld h1 h2 h3
    obtain ⟨n, rfl⟩ : ∃ q, n = q + 1 := ⟨n - 1, by omega⟩
    obtain ⟨t', e1, e2⟩ := ih (i + 1) n (upd tld i (-5)) (by omega) (by omega) (fun j hj => by
      by_cases h : j = i
      · subst h; rw [pz_us]
      · rw [pz_un (by omega)]; exact h3 j (by omega))
    refine ⟨t', ?_, e2⟩
    unfold f_X6_fault_7
    rw [if_neg (show ¬ ((24 : Int32) ≤ nI i) from nI_ge (b := 24) (by omega) (by omega)), pz_w (by omega) (by omega), Option.bind_some, nI_1]
    exact e1
/-- THE TEXT: the same fault, or the same plan -/
theorem pl_text {at_ sp nu : Int32} {T S tld : Nat → Int32} (hc : c ≤ 80) (hX : ∀ k, k < 80 → txt k = Sg k) (hT : cT T (fun _ => 0)) (hS : cS S (fun _ => 32)) :
    (∃ (f : Nat) (nu' : Int32) (T' S' tld' : Nat → Int32), f ≤ 90 ∧ f_X4_readInto Sg (nI c) at_ T S = some (nI f, nI f, T', S') ∧ f_X6_fault (nI c) sp nu txt tld = some (nI f, nI f, nu', tld')) ∨
    ∃ (nu' : Int32) (T' S' tld' : Nat → Int32) (tb' sr' : Nat → Nat), f_X4_readInto Sg (nI c) at_ T S = some (-1, nI c, T', S') ∧ f_X6_fault (nI c) sp nu txt tld = some (-5, nI c, nu', tld') ∧ rT T' S' tld' tb' sr' := by
  obtain ⟨t1, e1, e2⟩ := pl_fa_7 (fun tldz4 => f_X6_fault_29 (nI c) txt (fun spz15 nuz15 tldz15 => if spz15 = nI c then some (-5, spz15, nuz15, tldz15) else some (spz15, spz15, nuz15, tldz15)) xFu 1 0 nu tldz4) 24 0 xFu tld (by omega) (by unfold xFu; omega) (fun j h => absurd h (Nat.not_lt_zero _))
  have hR : rT T S t1 (fun _ => 0) (fun _ => 32) := ⟨hT, hS, fun p hp => e2 p hp, fun w hw h => absurd rfl h, fun _ _ => Nat.zero_le _, fun _ _ => (show (32 : Nat) ≤ 33 by omega), fun _ _ _ => rfl⟩
  have hgo := pl_loop hc hX (fun at_z13 Tz13 Sz13 => some (at_z13, at_z13, Tz13, Sz13)) c 0 xFu xFu 0 nu T S t1 _ _ (by omega) (by unfold xFu; omega) (by unfold xFu; omega) (by omega) (by omega) hR
  have eM : f_X6_fault (nI c) sp nu txt tld = f_X6_fault_29 (nI c) txt (fun spz15 nuz15 tldz15 => if spz15 = nI c then some (-5, spz15, nuz15, tldz15) else some (spz15, spz15, nuz15, tldz15)) xFu (nI 1) (nI 0) nu t1 := e1
  rw [eM]
  exact hgo
end PL
