/-! the text, read as a plan by both -/
theorem ch_rng {v : Int32} {a b : Nat} (ha : a ≤ b) (hb : b < 1000) (h1 : ¬ v < nI a) (h2 : ¬ nI b < v) : ∃ k, k ≤ b - a ∧ v = nI (a + k) := by
  rw [Int32.lt_iff_toInt_lt, nI_toInt (by omega)] at h1 h2
  refine ⟨(v.toInt - a).toNat, by omega, ?_⟩
  apply Int32.toInt_inj.mp
  rw [nI_toInt (by omega)]
  omega
/-- the figure at a sign, and one more; 0: none -/
def tz_d (Sg : Nat → Int32) (c a : Nat) : Nat := if a < c ∧ ¬ Sg a < nI 48 ∧ ¬ nI 57 < Sg a then (Sg a).toNatClampNeg - 47 else 0
def tz_h (Sg : Nat → Int32) (c a : Nat) : Nat := if tz_d Sg c a ≠ 0 then tz_d Sg c a else if a < c ∧ ¬ Sg a < nI 97 ∧ ¬ nI 102 < Sg a then (Sg a).toNatClampNeg - 86 else 0
def tz_p (Sg : Nat → Int32) (c a s : Nat) : Nat := if a < c ∧ Sg a = nI s then 1 else 0
theorem tz_d_yes {Sg : Nat → Int32} {c a : Nat} (h : tz_d Sg c a ≠ 0) : a < c ∧ ∃ k, k ≤ 9 ∧ Sg a = nI (48 + k) ∧ tz_d Sg c a = k + 1 := by
  unfold tz_d at h ⊢
  split at h
  · next hc =>
    obtain ⟨k, h1, h2⟩ := ch_rng (a := 48) (b := 57) (by omega) (by omega) hc.2.1 hc.2.2
    refine ⟨hc.1, k, by omega, h2, ?_⟩
    rw [if_pos hc, h2, nI_clamp (by omega)]
    omega
  · exact absurd rfl h
theorem tz_d_no {Sg : Nat → Int32} {c a : Nat} (h : tz_d Sg c a = 0) (ha : a < c) : Sg a < nI 48 ∨ nI 57 < Sg a := by
  refine Classical.byContradiction fun q => ?_
  have q1 : ¬ Sg a < nI 48 := fun z => q (Or.inl z)
  have q2 : ¬ nI 57 < Sg a := fun z => q (Or.inr z)
  obtain ⟨k, h1, h2⟩ := ch_rng (a := 48) (b := 57) (by omega) (by omega) q1 q2
  unfold tz_d at h
  rw [if_pos ⟨ha, q1, q2⟩, h2, nI_clamp (by omega)] at h
  omega
theorem tz_d_le (Sg : Nat → Int32) (c a : Nat) : tz_d Sg c a ≤ 10 := by
  by_cases h : tz_d Sg c a = 0
  · omega
  · obtain ⟨-, k, h1, -, h2⟩ := tz_d_yes h
    omega
theorem tz_p_le (Sg : Nat → Int32) (c a s : Nat) : tz_p Sg c a s ≤ 1 := by unfold tz_p; split <;> omega
section TZ
variable {Sg txt : Nat → Int32} {c a : Nat}
theorem l4_sign (hc : c ≤ 80) (ha : a < 100) : f_X4_signHere Sg (nI c) (nI a) = some (if a < c then Sg a else -1) := by
  unfold f_X4_signHere
  rw [if_neg (show ¬ (nI a < 0) from nI_pos (by omega))]
  by_cases h : a < c
  · rw [if_neg (nI_ge h (by omega)), if_neg (show ¬ ((80 : Int32) ≤ nI a) from nI_ge (b := 80) (by omega) (by omega)), pz_d (by omega) (by omega), if_pos h]
    rfl
  · rw [if_pos (nI_le (by omega) (by omega)), if_neg h]
theorem l4_digit (hc : c ≤ 80) (ha : a < 100) : f_X4_digitHere Sg (nI c) (nI a) = some (if tz_d Sg c a = 0 then -1 else nI (tz_d Sg c a - 1)) := by
  unfold f_X4_digitHere
  rw [l4_sign hc ha, Option.bind_some]
  by_cases h : tz_d Sg c a = 0
  · rw [if_pos h]
    by_cases h2 : a < c
    · rw [if_pos h2]
      rcases tz_d_no h h2 with q | q
      · rw [if_pos (show Sg a < 48 from q)]
      · rw [if_pos (show (57 : Int32) < Sg a from q)]
        split <;> rfl
    · rw [if_neg h2]
      rfl
  · obtain ⟨h2, k, h3, h4, h5⟩ := tz_d_yes h
    rw [if_neg h, if_pos h2, h4, h5, if_neg (show ¬ (nI (48 + k) < 48) from nI_nlt (b := 48) (by omega) (by omega)), if_neg (show ¬ ((57 : Int32) < nI (48 + k)) from nI_nlt (a := 57) (by omega) (by omega)), show nI (48 + k) - 48 = nI k by rw [show (48 : Int32) = nI 48 from rfl, pk_sub (by omega)]; congr 1; omega]
    rfl
theorem l4_pass (hc : c ≤ 80) (ha : a < 100) {s : Nat} (hs : s < 1000) : f_X4_pass Sg (nI c) (nI a) (nI s) = some (nI (tz_p Sg c a s), nI (a + tz_p Sg c a s)) := by
  unfold f_X4_pass tz_p
  rw [l4_sign hc ha, Option.bind_some]
  by_cases h : a < c
  · rw [if_pos h]
    by_cases h2 : Sg a = nI s
    · rw [if_pos h2, if_pos ⟨h, h2⟩, nI_1]
      rfl
    · rw [if_neg h2, if_neg (fun q => h2 q.2)]
      rfl
  · rw [if_neg h, if_neg (show ¬ ((-1 : Int32) = nI s) from fun q => by rw [show (-1 : Int32) = -nI 1 from rfl, pz_gen (by omega) (by omega) (by omega)] at q; exact q), if_neg (fun q => h q.1)]
    rfl
/-- a number up to most, read: what it is and one more (0: none), and where the reading then stands -/
def tz_n (Sg : Nat → Int32) (c most a : Nat) : Nat × Nat := if tz_d Sg c a = 0 ∨ most < tz_d Sg c a - 1 then (0, a) else if tz_d Sg c a = 1 ∨ tz_d Sg c (a + 1) = 0 ∨ most < (tz_d Sg c a - 1) * 10 + (tz_d Sg c (a + 1) - 1) then (tz_d Sg c a, a + 1) else ((tz_d Sg c a - 1) * 10 + tz_d Sg c (a + 1), a + 1 + 1)
theorem tz_n_ok {most : Nat} (hm : most < 24) : (tz_n Sg c most a).1 ≤ most + 1 ∧ a ≤ (tz_n Sg c most a).2 ∧ ((tz_n Sg c most a).1 ≠ 0 → a < (tz_n Sg c most a).2 ∧ (tz_n Sg c most a).2 ≤ c) ∧ (tz_n Sg c most a).2 ≤ a + 2 := by
  have h1 := tz_d_le Sg c a
  have h2 := tz_d_le Sg c (a + 1)
  unfold tz_n
  split
  · exact ⟨by dsimp only; omega, Nat.le_refl _, fun h => absurd rfl h, by dsimp only; omega⟩
  · next hq =>
    have hac : a < c := (tz_d_yes (fun z => hq (Or.inl z))).1
    split
    · exact ⟨by dsimp only; omega, by dsimp only; omega, fun _ => ⟨by dsimp only; omega, by dsimp only; omega⟩, by dsimp only; omega⟩
    · next hq2 =>
      have hac2 : a + 1 < c := (tz_d_yes (fun z => hq2 (Or.inr (Or.inl z)))).1
      exact ⟨by dsimp only; omega, by dsimp only; omega, fun _ => ⟨by dsimp only; omega, by dsimp only; omega⟩, by dsimp only; omega⟩
theorem tz_n_0 {most : Nat} (h : tz_d Sg c a = 0 ∨ most < tz_d Sg c a - 1) : tz_n Sg c most a = (0, a) := if_pos h
theorem tz_n_1 {most : Nat} (h : ¬ (tz_d Sg c a = 0 ∨ most < tz_d Sg c a - 1)) (h2 : tz_d Sg c a = 1 ∨ tz_d Sg c (a + 1) = 0 ∨ most < (tz_d Sg c a - 1) * 10 + (tz_d Sg c (a + 1) - 1)) : tz_n Sg c most a = (tz_d Sg c a, a + 1) := by
  unfold tz_n
  rw [if_neg h, if_pos h2]
theorem tz_n_2 {most : Nat} (h : ¬ (tz_d Sg c a = 0 ∨ most < tz_d Sg c a - 1)) (h2 : ¬ (tz_d Sg c a = 1 ∨ tz_d Sg c (a + 1) = 0 ∨ most < (tz_d Sg c a - 1) * 10 + (tz_d Sg c (a + 1) - 1))) : tz_n Sg c most a = ((tz_d Sg c a - 1) * 10 + tz_d Sg c (a + 1), a + 1 + 1) := by
  unfold tz_n
  rw [if_neg h, if_neg h2]
theorem l4_number (hc : c ≤ 80) (ha : a < 90) {most : Nat} (hm : most < 24) : f_X4_readNumber Sg (nI c) (nI a) (nI most) = some (if (tz_n Sg c most a).1 = 0 then -1 else nI ((tz_n Sg c most a).1 - 1), nI (tz_n Sg c most a).2) := by
  have h1 := tz_d_le Sg c a
  have h2 := tz_d_le Sg c (a + 1)
  unfold f_X4_readNumber
  rw [l4_digit hc (by omega), Option.bind_some]
  by_cases h : tz_d Sg c a = 0
  · rw [if_pos h, if_pos rfl, tz_n_0 (Or.inl h)]
    rfl
  · rw [if_neg h, if_neg (show ¬ (nI (tz_d Sg c a - 1) = -1) from fun q => by rw [show (-1 : Int32) = -nI 1 from rfl, pz_neg (by omega) (by omega) (by omega)] at q; exact q)]
    by_cases hgt : most < tz_d Sg c a - 1
    · rw [if_neg (nI_ge hgt (by omega)), tz_n_0 (Or.inr hgt)]
      rfl
    · have hn : ¬ (tz_d Sg c a = 0 ∨ most < tz_d Sg c a - 1) := fun q => q.elim h hgt
      rw [if_pos (nI_le (by omega) (by omega)), nI_1, l4_digit hc (by omega), Option.bind_some]
      by_cases hz : tz_d Sg c a = 1
      · rw [if_pos (show nI (tz_d Sg c a - 1) ≤ 0 by rw [hz]; decide), tz_n_1 hn (Or.inl hz), if_neg (show ¬ (tz_d Sg c a = 0) from h)]
      · rw [if_neg (show ¬ (nI (tz_d Sg c a - 1) ≤ 0) from nI_nle (by omega) (by omega))]
        by_cases hd : tz_d Sg c (a + 1) = 0
        · rw [if_pos hd, if_pos rfl, tz_n_1 hn (Or.inr (Or.inl hd)), if_neg (show ¬ (tz_d Sg c a = 0) from h)]
        · rw [if_neg hd, if_neg (show ¬ (nI (tz_d Sg c (a + 1) - 1) = -1) from fun q => by rw [show (-1 : Int32) = -nI 1 from rfl, pz_neg (by omega) (by omega) (by omega)] at q; exact q), show nI (tz_d Sg c a - 1) * 10 + nI (tz_d Sg c (a + 1) - 1) = nI ((tz_d Sg c a - 1) * 10 + (tz_d Sg c (a + 1) - 1)) by rw [show (10 : Int32) = nI 10 from rfl, pk_mul, nI_add]]
          by_cases hm2 : most < (tz_d Sg c a - 1) * 10 + (tz_d Sg c (a + 1) - 1)
          · rw [if_pos (nI_lt hm2 (by omega)), tz_n_1 hn (Or.inr (Or.inr hm2)), if_neg (show ¬ (tz_d Sg c a = 0) from h)]
          · rw [if_neg (nI_nlt (by omega) (by omega)), nI_1, tz_n_2 hn (fun q => q.elim hz (fun q => q.elim hd hm2)), if_neg (show ¬ ((tz_d Sg c a - 1) * 10 + tz_d Sg c (a + 1) = 0) by omega), show (tz_d Sg c a - 1) * 10 + (tz_d Sg c (a + 1) - 1) = (tz_d Sg c a - 1) * 10 + tz_d Sg c (a + 1) - 1 by omega]
theorem l4_table (hc : c ≤ 80) (ha : a < 90) : f_X4_readTableSign Sg (nI c) (nI a) = some (if tz_h Sg c a = 0 then -1 else nI (tz_h Sg c a - 1), nI (a + if tz_h Sg c a = 0 then 0 else 1)) := by
  have h1 := tz_d_le Sg c a
  unfold f_X4_readTableSign
  rw [l4_sign hc (by omega), Option.bind_some, l4_digit hc (by omega), Option.bind_some]
  by_cases h : tz_d Sg c a = 0
  · by_cases hac : a < c
    · by_cases q1 : Sg a < nI 97
      · have e : tz_h Sg c a = 0 := by
          unfold tz_h
          rw [if_neg (fun q => q h), if_neg (fun q => q.2.1 q1)]
        rw [if_pos hac, if_pos (show Sg a < 97 from q1), if_pos h, if_pos rfl, e]
        rfl
      · by_cases q2 : nI 102 < Sg a
        · have e : tz_h Sg c a = 0 := by
            unfold tz_h
            rw [if_neg (fun q => q h), if_neg (fun q => q.2.2 q2)]
          rw [if_pos hac, if_neg (show ¬ (Sg a < 97) from q1), if_pos (show (102 : Int32) < Sg a from q2), if_pos h, if_pos rfl, e]
          rfl
        · obtain ⟨k, g1, g2⟩ := ch_rng (a := 97) (b := 102) (by omega) (by omega) q1 q2
          have e : tz_h Sg c a = k + 11 := by
            unfold tz_h
            rw [if_neg (fun q => q h), if_pos ⟨hac, q1, q2⟩, g2, nI_clamp (by omega)]
            omega
          rw [if_pos hac, if_neg (show ¬ (Sg a < 97) from q1), if_neg (show ¬ ((102 : Int32) < Sg a) from q2), g2, show nI (97 + k) - 97 + 10 = nI (k + 10) by rw [show (97 : Int32) = nI 97 from rfl, show (10 : Int32) = nI 10 from rfl, pk_sub (by omega), nI_add]; congr 1; omega, if_neg (show ¬ (nI (k + 10) = -1) from fun q => by rw [show (-1 : Int32) = -nI 1 from rfl, pz_neg (by omega) (by omega) (by omega)] at q; exact q), e, if_neg (show ¬ (k + 11 = 0) by omega), if_neg (show ¬ (k + 11 = 0) by omega), nI_1]
          rfl
    · have e : tz_h Sg c a = 0 := by
        unfold tz_h
        rw [if_neg (fun q => q h), if_neg (fun q => hac q.1)]
      rw [if_neg hac, if_pos (show (-1 : Int32) < 97 by decide), if_pos h, if_pos rfl, e]
      rfl
  · obtain ⟨hac, k, h3, h4, h5⟩ := tz_d_yes h
    have e : tz_h Sg c a = tz_d Sg c a := by unfold tz_h; rw [if_pos h]
    rw [if_pos hac, h4, if_pos (show nI (48 + k) < 97 from nI_lt (b := 97) (by omega) (by omega)), if_neg h, if_neg (show ¬ (nI (tz_d Sg c a - 1) = -1) from fun q => by rw [show (-1 : Int32) = -nI 1 from rfl, pz_neg (by omega) (by omega) (by omega)] at q; exact q), e, if_neg h, if_neg h, nI_1]
theorem tz_h_le : tz_h Sg c a ≤ 16 ∧ (tz_h Sg c a ≠ 0 → a < c) := by
  have h1 := tz_d_le Sg c a
  unfold tz_h
  split
  · next h => exact ⟨by omega, fun _ => (tz_d_yes h).1⟩
  · split
    · next h =>
      obtain ⟨k, g1, g2⟩ := ch_rng (a := 97) (b := 102) (by omega) (by omega) h.2.1 h.2.2
      rw [g2, nI_clamp (by omega)]
      exact ⟨by omega, fun _ => h.1⟩
    · exact ⟨by omega, fun q => absurd rfl q⟩
/-- a source, read -/
def tz_s (Sg : Nat → Int32) (c a : Nat) : Nat × Nat := if tz_p Sg c a 99 = 1 then tz_n Sg c 23 (a + 1) else if tz_p Sg c a 112 = 1 then (if (tz_n Sg c 7 (a + 1)).1 = 0 then 0 else (tz_n Sg c 7 (a + 1)).1 + 24, (tz_n Sg c 7 (a + 1)).2) else if tz_p Sg c a 48 = 1 then (33, a + 1) else if tz_p Sg c a 49 = 1 then (34, a + 1) else (0, a)
theorem tz_p_lt {s : Nat} (h : tz_p Sg c a s = 1) : a < c := by
  unfold tz_p at h
  split at h
  · next q => exact q.1
  · omega
theorem tz_s_ok : (tz_s Sg c a).1 ≤ 34 ∧ a ≤ (tz_s Sg c a).2 ∧ ((tz_s Sg c a).1 ≠ 0 → (tz_s Sg c a).2 ≤ c) ∧ (tz_s Sg c a).2 ≤ a + 3 := by
  have h1 := tz_n_ok (Sg := Sg) (c := c) (a := a + 1) (most := 23) (by omega)
  have h2 := tz_n_ok (Sg := Sg) (c := c) (a := a + 1) (most := 7) (by omega)
  unfold tz_s
  split
  · exact ⟨by omega, by omega, fun h => (h1.2.2.1 h).2, by omega⟩
  · split
    · refine ⟨?_, by dsimp only; omega, fun h => ?_, by dsimp only; omega⟩
      · dsimp only
        split <;> omega
      · dsimp only at h ⊢
        split at h
        · exact absurd rfl h
        · next q => exact (h2.2.2.1 q).2
    · split
      · next q => exact ⟨by dsimp only; omega, by dsimp only; omega, fun _ => by have := tz_p_lt q; dsimp only; omega, by dsimp only; omega⟩
      · split
        · next q => exact ⟨by dsimp only; omega, by dsimp only; omega, fun _ => by have := tz_p_lt q; dsimp only; omega, by dsimp only; omega⟩
        · exact ⟨by dsimp only; omega, Nat.le_refl _, fun q => absurd rfl q, by dsimp only; omega⟩
theorem l4_source (hc : c ≤ 80) (ha : a < 85) : f_X4_readSource Sg (nI c) (nI a) = some (if (tz_s Sg c a).1 = 0 then -1 else nI ((tz_s Sg c a).1 - 1), nI (tz_s Sg c a).2) := by
  have p1 := tz_p_le Sg c a 99
  have p2 := tz_p_le Sg c a 112
  have p3 := tz_p_le Sg c a 48
  have p4 := tz_p_le Sg c a 49
  unfold f_X4_readSource tz_s
  rw [show (99 : Int32) = nI 99 from rfl, l4_pass hc (by omega) (by omega), Option.bind_some]
  try dsimp only
  by_cases h1 : tz_p Sg c a 99 = 1
  · rw [h1, if_neg (show ¬ (nI 1 = 0) by decide), show (23 : Int32) = nI 23 from rfl, l4_number hc (by omega) (by omega), Option.bind_some, if_pos rfl]
  · rw [show tz_p Sg c a 99 = 0 by omega, if_pos (show nI 0 = 0 from rfl), Nat.add_zero, if_neg (show ¬ ((0 : Nat) = 1) by omega), show (112 : Int32) = nI 112 from rfl, l4_pass hc (by omega) (by omega), Option.bind_some]
    try dsimp only
    by_cases h2 : tz_p Sg c a 112 = 1
    · have hn := tz_n_ok (Sg := Sg) (c := c) (a := a + 1) (most := 7) (by omega)
      rw [h2, if_neg (show ¬ (nI 1 = 0) by decide), show (7 : Int32) = nI 7 from rfl, l4_number hc (by omega) (by omega), Option.bind_some, if_pos rfl]
      try dsimp only
      by_cases hz : (tz_n Sg c 7 (a + 1)).1 = 0
      · rw [if_pos hz, if_pos rfl, if_pos hz]
        rfl
      · rw [if_neg hz, if_neg (show ¬ (nI ((tz_n Sg c 7 (a + 1)).1 - 1) = -1) from fun q => by rw [show (-1 : Int32) = -nI 1 from rfl, pz_neg (by omega) (by omega) (by omega)] at q; exact q), if_neg hz, if_neg (by omega), show (24 : Int32) = nI 24 from rfl, nI_add]
        congr 2
        congr 1
        omega
    · rw [show tz_p Sg c a 112 = 0 by omega, if_pos (show nI 0 = 0 from rfl), Nat.add_zero, if_neg (show ¬ ((0 : Nat) = 1) by omega), show (48 : Int32) = nI 48 from rfl, l4_pass hc (by omega) (by omega), Option.bind_some]
      try dsimp only
      by_cases h3 : tz_p Sg c a 48 = 1
      · rw [h3, if_neg (show ¬ (nI 1 = 0) by decide), if_pos rfl]
        rfl
      · rw [show tz_p Sg c a 48 = 0 by omega, if_pos (show nI 0 = 0 from rfl), Nat.add_zero, if_neg (show ¬ ((0 : Nat) = 1) by omega), show (49 : Int32) = nI 49 from rfl, l4_pass hc (by omega) (by omega), Option.bind_some]
        try dsimp only
        by_cases h4 : tz_p Sg c a 49 = 1
        · rw [h4, if_neg (show ¬ (nI 1 = 0) by decide), if_pos rfl]
          rfl
        · rw [show tz_p Sg c a 49 = 0 by omega, if_pos (show nI 0 = 0 from rfl), Nat.add_zero, if_neg (show ¬ ((0 : Nat) = 1) by omega)]
          rfl
/-! the reference reads the same signs -/
theorem l6_sees (hc : c ≤ 80) (ha : a < 100) {x y : Nat} (hx : x < 1000) (hy : y < 1000) (hT : ∀ k, k < 80 → txt k = Sg k) : f_X6_sees (nI c) (nI a) txt (nI x) (nI y) = some (nI (if a < c ∧ ¬ Sg a < nI x ∧ ¬ nI y < Sg a then 1 else 0)) := by
  unfold f_X6_sees
  by_cases h : a < c
  · rw [if_neg (nI_ge h (by omega)), pz_d (by omega) (by omega), Option.bind_some, hT a (by omega)]
    unfold f_X6_in
    by_cases q1 : Sg a < nI x
    · rw [if_pos q1, if_neg (fun q => q.2.1 q1)]; rfl
    · rw [if_neg q1]
      by_cases q2 : nI y < Sg a
      · rw [if_pos q2, if_neg (fun q => q.2.2 q2)]; rfl
      · rw [if_neg q2, if_pos ⟨h, q1, q2⟩]; rfl
  · rw [if_pos (nI_le (by omega) (by omega)), if_neg (fun q => h q.1)]
    rfl
theorem l6_sees_d (hc : c ≤ 80) (ha : a < 100) (hT : ∀ k, k < 80 → txt k = Sg k) : f_X6_sees (nI c) (nI a) txt 48 57 = some (nI (if tz_d Sg c a = 0 then 0 else 1)) := by
  rw [show (48 : Int32) = nI 48 from rfl, show (57 : Int32) = nI 57 from rfl, l6_sees hc ha (by omega) (by omega) hT]
  by_cases h : tz_d Sg c a = 0
  · rw [if_pos h, if_neg]
    intro q
    rcases tz_d_no h q.1 with z | z
    · exact q.2.1 z
    · exact q.2.2 z
  · obtain ⟨h2, k, h3, h4, h5⟩ := tz_d_yes h
    rw [if_neg h, if_pos ⟨h2, by rw [h4]; exact nI_nlt (by omega) (by omega), by rw [h4]; exact nI_nlt (by omega) (by omega)⟩]
theorem l6_takes (hc : c ≤ 80) (ha : a < 100) {s : Nat} (hs : s < 1000) (hT : ∀ k, k < 80 → txt k = Sg k) : f_X6_takes (nI c) (nI a) txt (nI s) = some (nI (tz_p Sg c a s), nI (a + tz_p Sg c a s)) := by
  unfold f_X6_takes
  rw [l6_sees hc ha hs hs hT, Option.bind_some]
  have e : (if a < c ∧ ¬ Sg a < nI s ∧ ¬ nI s < Sg a then 1 else 0) = tz_p Sg c a s := by
    unfold tz_p
    by_cases h : a < c ∧ Sg a = nI s
    · rw [if_pos h, if_pos ⟨h.1, by rw [h.2]; exact nI_nlt (Nat.le_refl _) (by omega), by rw [h.2]; exact nI_nlt (Nat.le_refl _) (by omega)⟩]
    · rw [if_neg h, if_neg]
      intro q
      obtain ⟨k, h1, h2⟩ := ch_rng (a := s) (b := s) (by omega) (by omega) q.2.1 q.2.2
      refine h ⟨q.1, ?_⟩
      rw [h2]
      congr 1
      omega
  rw [e]
  have := tz_p_le Sg c a s
  rcases (show tz_p Sg c a s = 0 ∨ tz_p Sg c a s = 1 by omega) with q | q
  · rw [q, if_pos (show nI 0 = 0 from rfl), pz_z (by omega), Option.bind_some, show (0 : Int32) = nI 0 from rfl, nI_add]
  · rw [q, if_neg (show ¬ (nI 1 = 0) by decide), pz_z (by omega), Option.bind_some, nI_1]
theorem l6_num_52 (hc : c ≤ 80) (ha : a < 90) (hT : ∀ k, k < 80 → txt k = Sg k) {most v : Nat} (hm : most < 24) (hv : v ≤ most) (hv9 : v ≤ 9) : f_X6_isNumber_52 (nI c) txt (nI most) (fun sp nu => some (1, sp, nu)) xFu (nI a) (nI v) = if v = 0 ∨ tz_d Sg c a = 0 ∨ most < v * 10 + (tz_d Sg c a - 1) then some (1, nI a, nI v) else some (1, nI (a + 1), nI (v * 10 + (tz_d Sg c a - 1))) := by
  have hd := tz_d_le Sg c a
  have one : ∀ (n u b : Nat), u < 240 → b < 95 → f_X6_isNumber_52 (nI c) txt (nI most) (fun sp nu => some (1, sp, nu)) (n + 1) (nI b) (nI u) = if u = 0 ∨ tz_d Sg c b = 0 ∨ most < 10 * u + (tz_d Sg c b - 1) then some (1, nI b, nI u) else f_X6_isNumber_52 (nI c) txt (nI most) (fun sp nu => some (1, sp, nu)) n (nI (b + 1)) (nI (10 * u + (tz_d Sg c b - 1))) := by
    intro n u b hu hb
    have hdb := tz_d_le Sg c b
    conv => lhs; unfold f_X6_isNumber_52
    by_cases h0 : u = 0
    · rw [if_pos (show nI u ≤ 0 by rw [h0]; decide), if_pos (Or.inl h0)]
    · rw [if_neg (show ¬ (nI u ≤ 0) from nI_nle (by omega) (by omega)), l6_sees_d hc (by omega) hT, Option.bind_some]
      by_cases h1 : tz_d Sg c b = 0
      · rw [if_pos h1, if_pos (show nI 0 = 0 from rfl), if_pos (Or.inr (Or.inl h1))]
      · obtain ⟨h2, k, h3, h4, h5⟩ := tz_d_yes h1
        have e : (10 : Int32) * nI u + nI (48 + k) - 48 = nI (10 * u + (tz_d Sg c b - 1)) := by
          rw [show (10 : Int32) = nI 10 from rfl, show (48 : Int32) = nI 48 from rfl, pk_mul, nI_add, pk_sub (by omega)]
          congr 1
          omega
        rw [if_neg h1, if_neg (show ¬ (nI 1 = 0) by decide), pz_d (by omega) (by omega), Option.bind_some, hT b (by omega), h4, e]
        by_cases h6 : most < 10 * u + (tz_d Sg c b - 1)
        · rw [if_pos (nI_lt h6 (by omega)), if_pos (Or.inr (Or.inr h6))]
        · rw [if_neg (nI_nlt (by omega) (by omega)), Option.bind_some, e, if_neg (fun q => q.elim h0 (fun q => q.elim h1 h6)), nI_1]
  rw [show xFu = 99998 + 1 + 1 from rfl, one _ v a (by omega) (by omega), Nat.mul_comm v 10]
  by_cases hq : v = 0 ∨ tz_d Sg c a = 0 ∨ most < 10 * v + (tz_d Sg c a - 1)
  · rw [if_pos hq, if_pos hq]
  · rw [if_neg hq, if_neg hq, one _ _ _ (by omega) (by omega), if_pos]
    refine Classical.byContradiction fun z => ?_
    have z1 : ¬ tz_d Sg c (a + 1) = 0 := fun q => z (Or.inr (Or.inl q))
    refine z (Or.inr (Or.inr ?_))
    have : ¬ v = 0 := fun q => hq (Or.inl q)
    omega
theorem l6_number (hc : c ≤ 80) (ha : a < 85) (hT : ∀ k, k < 80 → txt k = Sg k) {most : Nat} (hm : most = 7 ∨ most = 23) (nu : Int32) : f_X6_isNumber (nI c) (nI a) nu txt (nI most) = if (tz_n Sg c most a).1 = 0 then some (0, nI a, nu) else some (1, nI (tz_n Sg c most a).2, nI ((tz_n Sg c most a).1 - 1)) := by
  have h1 := tz_d_le Sg c a
  have h2 := tz_d_le Sg c (a + 1)
  have fin : tz_d Sg c a ≠ 0 → tz_d Sg c a - 1 ≤ most → f_X6_isNumber_52 (nI c) txt (nI most) (fun sp nu => some (1, sp, nu)) xFu (nI a + 1) (txt a - 48) = if (tz_n Sg c most a).1 = 0 then some (0, nI a, nu) else some (1, nI (tz_n Sg c most a).2, nI ((tz_n Sg c most a).1 - 1)) := by
    intro hz hle
    obtain ⟨h3, k, h4, h5, h6⟩ := tz_d_yes hz
    rw [hT a (by omega), h5, show nI (48 + k) - 48 = nI (tz_d Sg c a - 1) by rw [show (48 : Int32) = nI 48 from rfl, pk_sub (by omega)]; congr 1; omega, nI_1, l6_num_52 hc (by omega) hT (by omega) hle (by omega)]
    have hn : ¬ (tz_d Sg c a = 0 ∨ most < tz_d Sg c a - 1) := fun q => q.elim hz (fun q => by omega)
    by_cases hq : tz_d Sg c a = 1 ∨ tz_d Sg c (a + 1) = 0 ∨ most < (tz_d Sg c a - 1) * 10 + (tz_d Sg c (a + 1) - 1)
    · rw [if_pos (hq.imp (fun q => by omega) id), tz_n_1 hn hq, if_neg (show ¬ (tz_d Sg c a = 0) from hz)]
    · have hz2 : ¬ tz_d Sg c (a + 1) = 0 := fun q => hq (Or.inr (Or.inl q))
      rw [if_neg (fun q => hq (q.imp (fun q => by omega) id)), tz_n_2 hn hq, if_neg (show ¬ ((tz_d Sg c a - 1) * 10 + tz_d Sg c (a + 1) = 0) by omega), show (tz_d Sg c a - 1) * 10 + (tz_d Sg c (a + 1) - 1) = (tz_d Sg c a - 1) * 10 + tz_d Sg c (a + 1) - 1 by omega]
  unfold f_X6_isNumber
  rcases hm with rfl | rfl
  · rw [if_neg (show ¬ ((9 : Int32) ≤ nI 7) by decide), show (48 : Int32) + nI 7 = nI 55 by decide, show (48 : Int32) = nI 48 from rfl, l6_sees hc (by omega) (by omega) (by omega) hT, Option.bind_some]
    by_cases hq : tz_d Sg c a = 0 ∨ 7 < tz_d Sg c a - 1
    · have e : (tz_n Sg c 7 a) = (0, a) := by unfold tz_n; rw [if_pos hq]
      have hz0 : (if a < c ∧ ¬ Sg a < nI 48 ∧ ¬ nI 55 < Sg a then 1 else 0) = 0 := by
        rw [if_neg]
        intro z
        obtain ⟨k, g1, g2⟩ := ch_rng (a := 48) (b := 55) (by omega) (by omega) z.2.1 z.2.2
        rcases hq with q | q
        · rcases tz_d_no q z.1 with y | y
          · exact z.2.1 y
          · rw [g2] at y
            exact nI_nlt (by omega) (by omega) y
        · obtain ⟨-, k2, g3, g4, g5⟩ := tz_d_yes (show tz_d Sg c a ≠ 0 by omega)
          have := (nI_eq (by omega) (by omega)).mp (g2.symm.trans g4)
          omega
      rw [hz0, if_pos (show nI 0 = 0 from rfl), e, if_pos rfl]
    · have hz : tz_d Sg c a ≠ 0 := fun q => hq (Or.inl q)
      obtain ⟨h3, k, h4, h5, h6⟩ := tz_d_yes hz
      have hz1 : (if a < c ∧ ¬ Sg a < nI 48 ∧ ¬ nI 55 < Sg a then 1 else 0) = 1 := if_pos ⟨h3, by rw [h5]; exact nI_nlt (by omega) (by omega), by rw [h5]; exact nI_nlt (by omega) (by omega)⟩
      rw [hz1, if_neg (show ¬ (nI 1 = 0) by decide), pz_d (by omega) (by omega), Option.bind_some]
      exact fin hz (by omega)
  · rw [if_pos (show (9 : Int32) ≤ nI 23 by decide), l6_sees_d hc (by omega) hT, Option.bind_some]
    by_cases hz : tz_d Sg c a = 0
    · have e : (tz_n Sg c 23 a) = (0, a) := by unfold tz_n; rw [if_pos (Or.inl hz)]
      rw [e, if_pos hz, if_pos (show nI 0 = 0 from rfl)]
      rfl
    · obtain ⟨h3, -⟩ := tz_d_yes hz
      rw [if_neg hz, if_neg (show ¬ (nI 1 = 0) by decide), pz_d (by omega) (by omega), Option.bind_some]
      exact fin hz (by omega)
theorem l6_table (hc : c ≤ 80) (ha : a < 90) (hT : ∀ k, k < 80 → txt k = Sg k) : f_X6_sixteenth (nI c) (nI a) txt = some (if tz_h Sg c a = 0 then -5 else nI (tz_h Sg c a - 1), nI (a + if tz_h Sg c a = 0 then 0 else 1)) := by
  have h1 := tz_d_le Sg c a
  unfold f_X6_sixteenth
  rw [l6_sees_d hc (by omega) hT, Option.bind_some, nI_1, nI_pred]
  by_cases h : tz_d Sg c a = 0
  · rw [if_pos h, if_pos (show nI 0 = 0 from rfl), show (97 : Int32) = nI 97 from rfl, show (102 : Int32) = nI 102 from rfl, l6_sees hc (by omega) (by omega) (by omega) hT, Option.bind_some]
    by_cases q : a < c ∧ ¬ Sg a < nI 97 ∧ ¬ nI 102 < Sg a
    · obtain ⟨k, g1, g2⟩ := ch_rng (a := 97) (b := 102) (by omega) (by omega) q.2.1 q.2.2
      have e : tz_h Sg c a = k + 11 := by
        unfold tz_h
        rw [if_neg (fun q => q h), if_pos q, g2, nI_clamp (by omega)]
        omega
      rw [if_pos q, if_neg (show ¬ (nI 1 = 0) by decide), if_pos (show nI 0 = 0 from rfl), pz_d (by omega) (by omega), Option.bind_some, hT a (by omega), e, if_neg (by omega), if_neg (by omega), g2, show nI (97 + k) - nI 97 + 10 = nI (k + 10) by rw [show (10 : Int32) = nI 10 from rfl, pk_sub (by omega), nI_add]; congr 1; omega]
      rfl
    · have e : tz_h Sg c a = 0 := by
        unfold tz_h
        rw [if_neg (fun q => q h), if_neg q]
      rw [if_neg q, if_pos (show nI 0 = 0 from rfl), e]
      rfl
  · obtain ⟨h3, k, h4, h5, h6⟩ := tz_d_yes h
    have e : tz_h Sg c a = tz_d Sg c a := by unfold tz_h; rw [if_pos h]
    rw [if_neg h, if_neg (show ¬ (nI 1 = 0) by decide), if_neg (show ¬ (nI 1 = 0) by decide), pz_d (by omega) (by omega), Option.bind_some, hT a (by omega), h5, e, if_neg h, if_neg h, show nI (48 + k) - 48 = nI (tz_d Sg c a - 1) by rw [show (48 : Int32) = nI 48 from rfl, pk_sub (by omega)]; congr 1; omega]
theorem l6_source (hc : c ≤ 80) (ha : a < 84) (hT : ∀ k, k < 80 → txt k = Sg k) (nu : Int32) : ∃ nu', f_X6_isSourceTold (nI c) (nI a) nu txt = some (nI (if (tz_s Sg c a).1 = 0 then 0 else 1), nI (tz_s Sg c a).2, nu') ∧ ((tz_s Sg c a).1 ≠ 0 → nu' = nI ((tz_s Sg c a).1 - 1)) := by
  have p1 := tz_p_le Sg c a 99
  have p2 := tz_p_le Sg c a 112
  have p3 := tz_p_le Sg c a 48
  have p4 := tz_p_le Sg c a 49
  have hfail : ∀ m, (tz_n Sg c m (a + 1)).1 = 0 → (tz_n Sg c m (a + 1)).2 = a + 1 := by
    intro m h
    unfold tz_n at h ⊢
    split
    · rfl
    · next q =>
      rw [if_neg q] at h
      exfalso
      split at h
      · exact q (Or.inl h)
      · next q2 =>
        dsimp only at h
        exact q2 (Or.inr (Or.inl (by omega)))
  unfold f_X6_isSourceTold
  rw [show (99 : Int32) = nI 99 from rfl, l6_takes hc (by omega) (by omega) hT, Option.bind_some]
  try dsimp only
  unfold tz_s
  by_cases h1 : tz_p Sg c a 99 = 1
  · rw [h1, if_neg (show ¬ (nI 1 = 0) by decide), if_pos rfl, show (23 : Int32) = nI 23 from rfl, l6_number hc (by omega) hT (Or.inr rfl)]
    by_cases hz : (tz_n Sg c 23 (a + 1)).1 = 0
    · rw [if_pos hz, if_pos hz, hfail 23 hz]
      exact ⟨nu, rfl, fun h => absurd hz h⟩
    · rw [if_neg hz, if_neg hz]
      exact ⟨_, rfl, fun _ => rfl⟩
  · rw [show tz_p Sg c a 99 = 0 by omega, if_pos (show nI 0 = 0 from rfl), Nat.add_zero, if_neg (show ¬ ((0 : Nat) = 1) by omega), show (112 : Int32) = nI 112 from rfl, l6_takes hc (by omega) (by omega) hT, Option.bind_some]
    try dsimp only
    by_cases h2 : tz_p Sg c a 112 = 1
    · have hn := tz_n_ok (Sg := Sg) (c := c) (a := a + 1) (most := 7) (by omega)
      rw [h2, if_neg (show ¬ (nI 1 = 0) by decide), if_pos rfl, show (7 : Int32) = nI 7 from rfl, l6_number hc (by omega) hT (Or.inl rfl)]
      try dsimp only
      by_cases hz : (tz_n Sg c 7 (a + 1)).1 = 0
      · rw [if_pos hz, if_pos hz, if_pos rfl, hfail 7 hz]
        exact ⟨_, rfl, fun h => absurd rfl h⟩
      · rw [if_neg hz, if_neg hz, if_neg (by omega)]
        refine ⟨_, rfl, fun _ => ?_⟩
        rw [show (24 : Int32) = nI 24 from rfl, nI_add]
        congr 1
        omega
    · rw [show tz_p Sg c a 112 = 0 by omega, if_pos (show nI 0 = 0 from rfl), Nat.add_zero, if_neg (show ¬ ((0 : Nat) = 1) by omega)]
      have e49 : (if a < c ∧ ¬ Sg a < nI 49 ∧ ¬ nI 49 < Sg a then 1 else 0) = tz_p Sg c a 49 := by
        unfold tz_p
        by_cases h : a < c ∧ Sg a = nI 49
        · rw [if_pos h, if_pos ⟨h.1, by rw [h.2]; decide, by rw [h.2]; decide⟩]
        · rw [if_neg h, if_neg]
          intro q
          obtain ⟨k, g1, g2⟩ := ch_rng (a := 49) (b := 49) (by omega) (by omega) q.2.1 q.2.2
          exact h ⟨q.1, by rw [g2]; congr 1; omega⟩
      rw [show (49 : Int32) = nI 49 from rfl, l6_sees hc (by omega) (by omega) (by omega) hT, Option.bind_some, e49]
      by_cases h4 : tz_p Sg c a 49 = 1
      · have h3 : tz_p Sg c a 48 = 0 := by
          unfold tz_p at h4 ⊢
          split at h4
          · next q =>
            rw [if_neg]
            intro z
            have := (nI_eq (by omega) (by omega)).mp (q.2.symm.trans z.2)
            omega
          · omega
        rw [h4, if_neg (show ¬ (nI 1 = 0) by decide), if_neg (show ¬ (nI 1 = 0) by decide), l6_takes hc (by omega) (by omega) hT, Option.bind_some, h4, h3]
        exact ⟨33, rfl, fun _ => rfl⟩
      · rw [show tz_p Sg c a 49 = 0 by omega, if_pos (show nI 0 = 0 from rfl), if_pos (show nI 0 = 0 from rfl), show (48 : Int32) = nI 48 from rfl, l6_takes hc (by omega) (by omega) hT, Option.bind_some]
        try dsimp only
        by_cases h3 : tz_p Sg c a 48 = 1
        · rw [h3]
          exact ⟨32, rfl, fun _ => rfl⟩
        · rw [show tz_p Sg c a 48 = 0 by omega]
          exact ⟨32, rfl, fun h => absurd rfl h⟩
end TZ
