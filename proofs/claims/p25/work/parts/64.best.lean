/-! load, the best swap, the best order -/
section OB
variable {b s : xBd} {hs hn st ik le ln : Int32} {pm : Nat → Nat} {hb : Nat → xBd} {Sg now pst snp txt : Nat → Int32}
theorem nI_le0 {V : Nat} (h : V < 2 ^ 31) : ¬ (nI V < 0) := nI_pos h
theorem nI_ne3 {w : Nat} (h : w < 2 ^ 31) : ¬ (nI w = -3) := fun q => by
  rw [show (-3 : Int32) = -nI 3 from rfl, pz_neg h (by omega) (by omega)] at q
  exact q
theorem bo_loop (hB : bR b now) : ∀ (m o n1 n2 : Nat) (t : xBd) (K thn H F D : Nat → Int32) (fw best : Int32), o + m = 3 → m < n1 → m < n2 → ∃ v t' K' thn' H' F' D', f_X5_bestOrder_8 b (fun a b c => some (a, b, c)) n1 fw best (nI o) t K = some (v, t', K') ∧ f_X6_bestOrder_8 now (fun a b c d e => some (a, b, c, d, e)) n2 best fw (nI o) thn H F D = some (v, thn', H', F', D') := by
  intro m
  induction m with
  | zero =>
    intro o n1 n2 t K thn H F D fw best h1 h2 h3
    obtain ⟨n1, rfl⟩ : ∃ z, n1 = z + 1 := ⟨n1 - 1, by omega⟩
    obtain ⟨n2, rfl⟩ : ∃ z, n2 = z + 1 := ⟨n2 - 1, by omega⟩
    obtain rfl : o = 3 := by omega
    refine ⟨best, t, K, thn, H, F, D, ?_, ?_⟩
    · unfold f_X5_bestOrder_8
      rw [if_pos (show (3 : Int32) ≤ nI 3 from nI_le (a := 3) (Nat.le_refl _) (by omega))]
    · unfold f_X6_bestOrder_8
      rw [if_pos (show (3 : Int32) ≤ nI 3 from nI_le (a := 3) (Nat.le_refl _) (by omega))]
  | succ m ih =>
    intro o n1 n2 t K thn H F D fw best h1 h2 h3
    obtain ⟨n1, rfl⟩ : ∃ z, n1 = z + 1 := ⟨n1 - 1, by omega⟩
    obtain ⟨n2, rfl⟩ : ∃ z, n2 = z + 1 := ⟨n2 - 1, by omega⟩
    obtain ⟨v, t', K', thn', H', F', D', e1, e2, e3⟩ := tr_order hB t K thn H F D (show o < 3 by omega)
    have hge : ¬ ((3 : Int32) ≤ nI o) := nI_ge (b := 3) (by omega) (by omega)
    unfold f_X5_bestOrder_8 f_X6_bestOrder_8
    rw [if_neg hge, if_neg hge, e1, Option.bind_some, e2, Option.bind_some]
    try dsimp only
    rcases e3 with h | ⟨V, hV, h, -⟩
    · rw [h, if_pos (show (-3 : Int32) < 0 by decide), if_pos rfl, nI_1]
      exact ih (o + 1) n1 n2 t' K' thn' H' F' D' fw best (by omega) (by omega) (by omega)
    · rw [h, if_neg (nI_le0 (by omega)), if_neg (nI_ne3 (by omega)), nI_1]
      by_cases hf : fw ≤ nI V
      · rw [if_pos hf, if_pos hf]
        exact ih (o + 1) n1 n2 t' K' thn' H' F' D' fw best (by omega) (by omega) (by omega)
      · rw [if_neg hf, if_neg hf]
        exact ih (o + 1) n1 n2 t' K' thn' H' F' D' (nI V) (nI o) (by omega) (by omega) (by omega)
theorem o_bestOrder (R : RR b s hs hn pm hb Sg ln st ik le now pst snp txt) (t : xBd) (K thn H F D : Nat → Int32) : ∃ v t' K' thn' H' F' D', f_X5_bestOrder b t K = some (v, t', K') ∧ f_X6_bestOrder now thn H F D = some (v, thn', H', F', D') :=
  bo_loop R.1 3 0 xFu xFu t K thn H F D 1000000 (-5) (by omega) (by unfold xFu; omega) (by unfold xFu; omega)
theorem bs_loop (hB : bR b now) {p : Nat} (hp : p < 24) (hcell : ∀ (t : xBd) (K thn H F D : Nat → Int32) (q : Nat), q < 24 → p ≠ q → ∃ v t' K' thn' H' F' D', f_X5_trySwap b t K (nI p) (nI q) = some (v, t', K') ∧ f_X6_swapped now thn H F D (nI p) (nI q) = some (v, thn', H', F', D') ∧ tr_E v t' thn') (hsame : ∀ (t : xBd) (K : Nat → Int32), f_X5_trySwap b t K (nI p) (nI p) = some (-5, t, K)) : ∀ (m q n1 n2 : Nat) (t : xBd) (K thn H F D : Nat → Int32) (fw best : Int32), q + m = 24 → m < n1 → m < n2 → ∃ v t' K' thn' H' F' D', f_X5_bestSwap_27 b (nI p) (fun a b c => some (a, b, c)) n1 fw best (nI q) t K = some (v, t', K') ∧ f_X6_bestSwap_27 now (nI p) (fun a b c d e => some (a, b, c, d, e)) n2 best fw (nI q) thn H F D = some (v, thn', H', F', D') := by
  intro m
  induction m with
  | zero =>
    intro o n1 n2 t K thn H F D fw best h1 h2 h3
    obtain ⟨n1, rfl⟩ : ∃ z, n1 = z + 1 := ⟨n1 - 1, by omega⟩
    obtain ⟨n2, rfl⟩ : ∃ z, n2 = z + 1 := ⟨n2 - 1, by omega⟩
    obtain rfl : o = 24 := by omega
    refine ⟨best, t, K, thn, H, F, D, ?_, ?_⟩
    · unfold f_X5_bestSwap_27
      rw [if_pos (show (24 : Int32) ≤ nI 24 from nI_le (a := 24) (Nat.le_refl _) (by omega))]
    · unfold f_X6_bestSwap_27
      rw [if_pos (show (24 : Int32) ≤ nI 24 from nI_le (a := 24) (Nat.le_refl _) (by omega))]
  | succ m ih =>
    intro o n1 n2 t K thn H F D fw best h1 h2 h3
    obtain ⟨n1, rfl⟩ : ∃ z, n1 = z + 1 := ⟨n1 - 1, by omega⟩
    obtain ⟨n2, rfl⟩ : ∃ z, n2 = z + 1 := ⟨n2 - 1, by omega⟩
    have hge : ¬ ((24 : Int32) ≤ nI o) := nI_ge (b := 24) (by omega) (by omega)
    unfold f_X5_bestSwap_27 f_X6_bestSwap_27
    rw [if_neg hge, if_neg hge]
    by_cases hpo : p = o
    · subst hpo
      rw [hsame, Option.bind_some, if_pos rfl]
      try dsimp only
      rw [if_pos (show (-5 : Int32) < 0 by decide), nI_1]
      exact ih (p + 1) n1 n2 t K thn H F D fw best (by omega) (by omega) (by omega)
    · obtain ⟨v, t', K', thn', H', F', D', e1, e2, e3⟩ := hcell t K thn H F D o (by omega) hpo
      rw [e1, Option.bind_some, if_neg (fun z => hpo ((nI_eq (by omega) (by omega)).mp z).symm), e2, Option.bind_some]
      try dsimp only
      rcases e3 with h | ⟨V, hV, h, -⟩
      · rw [h, if_pos (show (-3 : Int32) < 0 by decide), if_pos rfl, nI_1]
        exact ih (o + 1) n1 n2 t' K' thn' H' F' D' fw best (by omega) (by omega) (by omega)
      · rw [h, if_neg (nI_le0 (by omega)), if_neg (nI_ne3 (by omega)), nI_1]
        by_cases hf : fw ≤ nI V
        · rw [if_pos hf, if_pos hf]
          exact ih (o + 1) n1 n2 t' K' thn' H' F' D' fw best (by omega) (by omega) (by omega)
        · rw [if_neg hf, if_neg hf]
          exact ih (o + 1) n1 n2 t' K' thn' H' F' D' (nI V) (nI o) (by omega) (by omega) (by omega)
theorem o_bestSwap (R : RR b s hs hn pm hb Sg ln st ik le now pst snp txt) (t : xBd) (K thn H F D : Nat → Int32) (p1 : Int32) : ∃ v t' K' thn' H' F' D', f_X5_bestSwap b t K p1 = some (v, t', K') ∧ f_X6_bestSwap now thn H F D p1 = some (v, thn', H', F', D') := by
  obtain ⟨tb, sr, lg, jn, hd, cp, su, hB⟩ := id R.1
  obtain ⟨c1, c2, c3, c4, c5, c6, c7, ⟨m1, m2, m3, m4, m5⟩, w1, w2, w3, w4, w5, w6⟩ := id hB
  unfold f_X5_bestSwap f_X6_bestSwap
  rcases pz_ix p1 24 (by omega) with ⟨p, hp, rfl⟩ | hno
  · rw [l0_hasCell c1 w1 hp, Option.bind_some, l6_isCell m1 w1 hp, Option.bind_some]
    by_cases hc : tb p = 0
    · rw [if_pos (show nI (zc tb p) = 0 by rw [zc_0.mpr hc]; rfl), if_pos (show nI (zc tb p) = 0 by rw [zc_0.mpr hc]; rfl)]
      exact ⟨-1, t, K, thn, H, F, D, rfl, rfl⟩
    · have hz : ¬ (nI (zc tb p) = 0) := nI_ne0 (Nat.pos_of_ne_zero fun q => hc (zc_0.mp q)) (by have := zc_lt tb p; omega)
      have i1 : f_X5_isPlace (nI p) = some (nI 1) := by rw [l5_isPlace (by omega), if_pos hp]
      have n1 : ¬ (nI 1 = 0) := by decide
      rw [if_neg hz, if_neg hz, l0_segsOfAll c3, Option.bind_some, l6_segments m3 w4.1, Option.bind_some]
      refine bs_loop R.1 hp (fun t K thn H F D q hq hpq => ?_) (fun t K => ?_) 24 0 xFu xFu t K thn H F D _ (-5) (by omega) (by unfold xFu; omega) (by unfold xFu; omega)
      · obtain ⟨v, t', K', thn', H', F', D', e1, e2, e3⟩ := tr_swap R.1 t K thn H F D hp hq hpq
        refine ⟨v, t', K', thn', H', F', D', ?_, e2, e3⟩
        have i2 : f_X5_isPlace (nI q) = some (nI 1) := by rw [l5_isPlace (by omega), if_pos hq]
        unfold f_X5_trySwap
        rw [i1, Option.bind_some, if_neg n1, i2, Option.bind_some, if_neg n1, if_neg (fun z => hpq ((nI_eq (by omega) (by omega)).mp z)), l0_hasCell c1 w1 hp, Option.bind_some, if_neg hz]
        exact e1
      · unfold f_X5_trySwap
        rw [i1, Option.bind_some, if_neg n1, Option.bind_some, if_neg n1, if_pos rfl]
  · rw [l0_hasCell_no hno, l6_isCell_no hno]
    exact ⟨-1, t, K, thn, H, F, D, rfl, rfl⟩
/-! load -/
theorem l0_removeAllCells {T S L E : Nat → Int32} : ∃ T' S' L' E', f_X0_removeAllCells T S L E = some (T', S', L', E') ∧ cT T' (fun _ => 0) ∧ cS S' (fun _ => 32) := by
  obtain ⟨L', E', e1, e2, e3⟩ := l0_removeAllWires (L := L) (E := E)
  obtain ⟨T', e4, e5⟩ := l7_fill (N := 24) (by omega) T (-1)
  obtain ⟨S', e6, e7⟩ := l7_fill (N := 72) (by omega) S 32
  refine ⟨T', S', L', E', ?_, fun p hp => e5 p hp, fun w hw => e7 w hw⟩
  unfold f_X0_removeAllCells
  rw [e1, Option.bind_some]
  try dsimp only
  rw [e4, Option.bind_some, e6, Option.bind_some]
theorem l0_has_2 {T S : Nat → Int32} {tb sr : Nat → Nat} (hT : cT T tb) (hS : cS S sr) (hb : wT tb) (hs : ∀ w, w < 72 → sr w ≤ 33) : ∀ m i n : Nat, i + m = 72 → m < n → ((∀ w, i ≤ w → w < 72 → zq tb (sr w) ≠ 0) ∧ f_X0_hasAllSources_2 T S (some 1) n (nI i) = some (nI 1)) ∨ ((∃ w, i ≤ w ∧ w < 72 ∧ zq tb (sr w) = 0) ∧ f_X0_hasAllSources_2 T S (some 1) n (nI i) = some (nI 0)) := by
  intro m
  induction m with
  | zero =>
    intro i n h1 h2
    obtain ⟨n, rfl⟩ : ∃ q, n = q + 1 := ⟨n - 1, by omega⟩
    obtain rfl : i = 72 := by omega
    left
    refine ⟨fun w h3 h4 => by omega, ?_⟩
    unfold f_X0_hasAllSources_2
    rw [if_pos (show (72 : Int32) ≤ nI 72 from nI_le (a := 72) (Nat.le_refl _) (by omega))]
    rfl
  | succ m ih =>
    intro i n h1 h2
    obtain ⟨n, rfl⟩ : ∃ q, n = q + 1 := ⟨n - 1, by omega⟩
    have hi : i < 72 := by omega
    have hsi := hs i hi
    have hzl : zq tb (sr i) < 2 := by unfold zq; have := zc_lt tb (sr i); split <;> omega
    unfold f_X0_hasAllSources_2
    rw [if_neg (show ¬ ((72 : Int32) ≤ nI i) from nI_ge (b := 72) hi (by omega)), pz_d hi (by omega), Option.bind_some, hS i hi, l0_isSource hT hb (by omega), Option.bind_some]
    by_cases hz : zq tb (sr i) = 0
    · right
      rw [hz, if_pos (show nI 0 = 0 from rfl)]
      exact ⟨⟨i, Nat.le_refl _, hi, hz⟩, rfl⟩
    · rw [if_neg (show ¬ (nI (zq tb (sr i)) = 0) from nI_ne0 (by omega) (by omega)), nI_1]
      rcases ih (i + 1) n (by omega) (by omega) with ⟨a, e⟩ | ⟨⟨w, a1, a2, a3⟩, e⟩
      · left
        refine ⟨fun w h3 h4 => ?_, e⟩
        by_cases h : w = i
        · rw [h]; exact hz
        · exact a w (by omega) h4
      · exact Or.inr ⟨⟨w, by omega, a2, a3⟩, e⟩
/-- the reference lays the plan on its second row: the tables -/
theorem l6_ld_31 {tld : Nat → Int32} {tb : Nat → Nat} {cp su : Nat} (ht : ∀ p, p < 24 → tld p = mz_t (tb p)) (k : (Nat → Int32) → Option (Int32 × Int32 × Int32 × Int32 × (Nat → Int32) × (Nat → Int32) × (Nat → Int32) × (Nat → Int32) × (Nat → Int32) × (Nat → Int32) × (Nat → Int32))) : ∀ (m i n : Nat) (r : Nat → Int32) (tb0 sr0 lg0 : Nat → Nat) (jn0 : Nat → Nat → Nat), i + m = 24 → m < n → mR r tb0 sr0 lg0 jn0 cp su → (∀ v, v < 72 → lg0 v ≤ 24) → (∀ p, p < i → tb0 p = tb p) → (∀ w, w < 3 * i → sr0 w = 32) → ∃ r', f_X6_load_31 tld k n (nI i) r = k r' ∧ mT r' tb ∧ mS r' (fun _ => 32) ∧ mC r' cp su := by
  intro m
  induction m with
  | zero =>
    intro i n r tb0 sr0 lg0 jn0 h1 h2 h3 h4 h5 h6
    obtain ⟨n, rfl⟩ : ∃ q, n = q + 1 := ⟨n - 1, by omega⟩
    obtain rfl : i = 24 := by omega
    refine ⟨r, ?_, fun p hp => by rw [h3.1 p hp, h5 p hp], fun w hw => by rw [h3.2.1 w hw, h6 w (by omega)], h3.2.2.2.2⟩
    unfold f_X6_load_31
    rw [if_pos (show (24 : Int32) ≤ nI 24 from nI_le (a := 24) (Nat.le_refl _) (by omega))]
  | succ m ih =>
    intro i n r tb0 sr0 lg0 jn0 h1 h2 h3 h4 h5 h6
    obtain ⟨n, rfl⟩ : ∃ q, n = q + 1 := ⟨n - 1, by omega⟩
    have hi : i < 24 := by omega
    obtain ⟨r1, e1, e2⟩ := l6_empties hi h4 h3
    obtain ⟨g1, g2, g3, g4, g5, g6⟩ := e2
    obtain ⟨r', e3, e4⟩ := ih (i + 1) n (upd r1 i (mz_t (tb i))) (pz_up tb0 i (tb i)) (zi sr0 i 3 32) (zi lg0 i 3 0) jn0 (by omega) (by omega) ⟨fun q hq => by
      by_cases h : q = i
      · subst h; rw [pz_us, pz_ups]
      · have := g1 q hq
        rw [pz_upn h] at this
        rw [pz_un h, pz_upn h]; exact this, fun w hw => by rw [pz_un (by omega)]; exact g2 w hw, fun w hw => by rw [pz_un (by omega)]; exact g3 w hw, fun w hw k hk => by rw [pz_un (by omega)]; exact g4 w hw k hk, by rw [pz_un (by omega)]; exact g5, by rw [pz_un (by omega)]; exact g6⟩ (fun v hv => by
      have := h4 v hv
      unfold zi
      split <;> omega) (fun p hp => by
      by_cases h : p = i
      · subst h; rw [pz_ups]
      · rw [pz_upn h]; exact h5 p (by omega)) (fun w hw => by
      unfold zi
      by_cases h : 3 * i ≤ w ∧ w < 3 * i + 3
      · rw [if_pos h]
      · rw [if_neg h]; exact h6 w (by omega))
    refine ⟨r', ?_, e4⟩
    unfold f_X6_load_31
    rw [if_neg (show ¬ ((24 : Int32) ≤ nI i) from nI_ge (b := 24) hi (by omega)), e1, Option.bind_some, pz_d (by omega) (by omega), Option.bind_some, nI_0a, pz_w (by omega) (by omega), Option.bind_some, ht i hi, nI_1]
    exact e3
/-- the sources -/
theorem l6_ld_67 {tld : Nat → Int32} {tb sr : Nat → Nat} {cp su : Nat} (ht : ∀ p, p < 24 → tld p = mz_t (tb p)) (hts : ∀ w, w < 72 → tb (w / 3) ≠ 0 → tld (24 + w) = nI (sr w)) (w1 : wT tb) (w2 : wS tb sr) (st sp nu : Int32) (now pst hld far don : Nat → Int32) (k : (Nat → Int32) → Option (Int32 × Int32 × Int32 × Int32 × (Nat → Int32) × (Nat → Int32) × (Nat → Int32) × (Nat → Int32) × (Nat → Int32) × (Nat → Int32) × (Nat → Int32))) : ∀ (m i n : Nat) (r : Nat → Int32), i + m = 72 → m < n → mT r tb → (∀ w, w < 72 → r (24 + w) = nI (if w < i then sr w else 32)) → mC r cp su → (∀ w, w < i → zq tb (sr w) ≠ 0) → ((∃ w, w < 72 ∧ zq tb (sr w) = 0) ∧ ∃ r', f_X6_load_67 st sp nu now pst hld far don tld k n (nI i) r = some (-4, st, sp, nu, now, r', pst, hld, far, don, tld)) ∨ ((∀ w, w < 72 → zq tb (sr w) ≠ 0) ∧ ∃ r', f_X6_load_67 st sp nu now pst hld far don tld k n (nI i) r = k r' ∧ mT r' tb ∧ mS r' sr ∧ mC r' cp su) := by
  intro m
  induction m with
  | zero =>
    intro i n r h1 h2 h3 h4 h5 h6
    obtain ⟨n, rfl⟩ : ∃ q, n = q + 1 := ⟨n - 1, by omega⟩
    obtain rfl : i = 72 := by omega
    right
    refine ⟨h6, r, ?_, h3, fun w hw => by rw [h4 w hw, if_pos hw], h5⟩
    unfold f_X6_load_67
    rw [if_pos (show (72 : Int32) ≤ nI 72 from nI_le (a := 72) (Nat.le_refl _) (by omega))]
  | succ m ih =>
    intro i n r h1 h2 h3 h4 h5 h6
    obtain ⟨n, rfl⟩ : ∃ q, n = q + 1 := ⟨n - 1, by omega⟩
    have hi : i < 72 := by omega
    have hsi := w2.1 i hi
    unfold f_X6_load_67
    rw [if_neg (show ¬ ((72 : Int32) ≤ nI i) from nI_ge (b := 72) hi (by omega)), show nI i / 3 = nI (i / 3) from pk_div (d := 3) (by omega) (by omega) (by omega), pz_d (by omega) (by omega), Option.bind_some, ht _ (by omega)]
    by_cases hc : tb (i / 3) = 0
    · have hs32 := w2.2 i hi hc
      rw [show mz_t (tb (i / 3)) = -5 from if_pos hc, if_pos rfl, nI_1]
      refine ih (i + 1) n r (by omega) (by omega) h3 (fun w hw => ?_) h5 (fun w hw => ?_)
      · rw [h4 w hw]
        by_cases h : w = i
        · rw [h, if_neg (Nat.lt_irrefl _), if_pos (Nat.lt_succ_self _), hs32]
        · by_cases h' : w < i
          · rw [if_pos h', if_pos (by omega)]
          · rw [if_neg h', if_neg (by omega)]
      · by_cases h : w = i
        · rw [h, hs32]
          unfold zq
          rw [if_neg (by omega)]
          omega
        · exact h6 w (by omega)
    · have hz5 : ¬ (mz_t (tb (i / 3)) = -5) := by
        have := w1 (i / 3) (by omega)
        rw [show mz_t (tb (i / 3)) = nI (tb (i / 3) - 1) from if_neg hc]
        exact nI_ne5 (by omega)
      have h3' : mT (upd r (24 + i) (nI (sr i))) tb := fun p hp => by rw [pz_un (by omega)]; exact h3 p hp
      have hzl : zq tb (sr i) < 2 := by unfold zq; have := zc_lt tb (sr i); split <;> omega
      rw [if_neg hz5, show (24 : Int32) + nI i = nI (24 + i) from nI_add 24 i, pz_d (by omega) (by omega), Option.bind_some, hts i hi hc, pz_w (by omega) (by omega), Option.bind_some, pz_d (by omega) (by omega), Option.bind_some, pz_us, l6_isSource h3' w1 (by omega), Option.bind_some]
      by_cases hz : zq tb (sr i) = 0
      · left
        rw [hz, if_pos (show nI 0 = 0 from rfl)]
        exact ⟨⟨i, hi, hz⟩, _, rfl⟩
      · rw [if_neg (show ¬ (nI (zq tb (sr i)) = 0) from nI_ne0 (by omega) (by omega)), nI_1]
        refine ih (i + 1) n _ (by omega) (by omega) h3' (fun w hw => ?_) ⟨by rw [pz_un (by omega)]; exact h5.1, by rw [pz_un (by omega)]; exact h5.2⟩ (fun w hw => ?_)
        · by_cases h : w = i
          · rw [h, pz_us, if_pos (Nat.lt_succ_self _)]
          · rw [pz_un (by omega), h4 w hw]
            by_cases h' : w < i
            · rw [if_pos h', if_pos (by omega)]
            · rw [if_neg h', if_neg (by omega)]
        · by_cases h : w = i
          · rw [h]; exact hz
          · exact h6 w (by omega)
theorem o_load (R : RR b s hs hn pm hb Sg ln st ik le now pst snp txt) (t : xBd) (K thn H F D tld : Nat → Int32) (at_ sp nu : Int32) : ∃ v b' t' hn' pm' hb' K' at' st' sp' nu' now' thn' pst' H' F' D' tld', f_X5_load b t hn pm hb K Sg ln at_ = some (v, b', t', hn', pm', hb', K', at') ∧ f_X6_load st le sp nu now thn pst txt H F D tld = some (v, st', sp', nu', now', thn', pst', H', F', D', tld') ∧ RR b' s hs hn' pm' hb' Sg ln st' ik le now' pst' snp txt := by
  obtain ⟨⟨tb, sr, lg, jn, hd, cp, su, hB⟩, hH, hsn, ⟨c, hc, rfl, rfl⟩, hX⟩ := id R
  obtain ⟨t1, e1, e2⟩ := l0_copy t b
  obtain ⟨T1, S1, L1, J1, E1, cp1, su1⟩ := t1
  have d6 : cp1 = nI cp := e2.2.2.2.2.2.1.trans hB.2.2.2.2.2.1
  have d7 : su1 = nI su := e2.2.2.2.2.2.2.trans hB.2.2.2.2.2.2.1
  have w3 := hB.2.2.2.2.2.2.2.2.2.2.1
  obtain ⟨T2, S2, L2, E2, e3, e4, e5⟩ := l0_removeAllCells (T := T1) (S := S1) (L := L1) (E := E1)
  unfold f_X5_load f_X6_load
  rw [e1, Option.bind_some]
  try dsimp only
  rw [e3, Option.bind_some]
  try dsimp only
  rcases pl_text (at_ := at_) (sp := sp) (nu := nu) (tld := tld) hc hX e4 e5 with ⟨f, nu', T', S', tld', b1, b2, b3⟩ | ⟨nu', T', S', tld', tb', sr', b2, b3, ⟨q1, q2, q3, q4, q5, q6⟩⟩
  · rw [b2, Option.bind_some, b3, Option.bind_some]
    try dsimp only
    rw [if_neg (show ¬ (nI f = -1) from fun q => by rw [show (-1 : Int32) = -nI 1 from rfl, pz_neg (by omega) (by omega) (by omega)] at q; exact q), if_neg (nI_ne5 (by omega))]
    exact ⟨_, b, _, hn, pm, hb, K, _, st, _, nu', now, thn, pst, H, F, D, tld', rfl, rfl, R⟩
  · obtain ⟨g1, e6, e7⟩ := l6_lays0 (f := now) (g := thn)
    have hm1 := mR_eq hB.2.2.2.2.2.2.2.2.2.2.2.1.1 e7 hB.2.2.2.2.2.2.2.1
    have hm1 : mR g1 tb sr lg jn cp su := hm1
    obtain ⟨g2, a1, a2, a3, a4⟩ := l6_ld_31 (tb := tb') q3 (fun thnz16 => f_X6_load_67 st (nI c) nu' now pst H F D tld' (fun thnz30 =>
        (f_X6_laysAll H F D thnz30 0).bind fun (v31, hld32, far33, don34, rr35) =>
        (f_X6_accepts st now rr35 pst v31).bind fun (v37, st38, now39, pst40) =>
        if 0 ≤ v37 then
          (f_X6_cells now39).bind fun v43 =>
          some (v43, st38, nI c, nu', now39, rr35, pst40, hld32, far33, don34, tld')
        else
          some (v37, st38, nI c, nu', now39, rr35, pst40, hld32, far33, don34, tld')) xFu 0 thnz16) 24 0 xFu g1 tb sr lg jn (by omega) (by unfold xFu; omega) hm1 hB.2.2.2.2.2.2.2.2.2.2.2.1.1 (fun p h => absurd h (Nat.not_lt_zero _)) (fun w h => absurd h (by omega))
    rw [b2, Option.bind_some, b3, Option.bind_some]
    try dsimp only
    rw [if_pos rfl, if_pos rfl, e6, Option.bind_some]
    have a1 : f_X6_load_31 tld' (fun thnz16 => f_X6_load_67 st (nI c) nu' now pst H F D tld' (fun thnz30 =>
        (f_X6_laysAll H F D thnz30 0).bind fun (v31, hld32, far33, don34, rr35) =>
        (f_X6_accepts st now rr35 pst v31).bind fun (v37, st38, now39, pst40) =>
        if 0 ≤ v37 then
          (f_X6_cells now39).bind fun v43 =>
          some (v43, st38, nI c, nu', now39, rr35, pst40, hld32, far33, don34, tld')
        else
          some (v37, st38, nI c, nu', now39, rr35, pst40, hld32, far33, don34, tld')) xFu 0 thnz16) xFu 0 g1 = _ := a1
    rw [a1]
    try dsimp only
    have hgo := l6_ld_67 (cp := cp) (su := su) q3 q4 q5 q6 st (nI c) nu' now pst H F D (fun thnz30 =>
        (f_X6_laysAll H F D thnz30 0).bind fun (v31, hld32, far33, don34, rr35) =>
        (f_X6_accepts st now rr35 pst v31).bind fun (v37, st38, now39, pst40) =>
        if 0 ≤ v37 then
          (f_X6_cells now39).bind fun v43 =>
          some (v43, st38, nI c, nu', now39, rr35, pst40, hld32, far33, don34, tld')
        else
          some (v37, st38, nI c, nu', now39, rr35, pst40, hld32, far33, don34, tld')) 72 0 xFu g2 (by omega) (by unfold xFu; omega) a2 (fun w hw => by rw [if_neg (Nat.not_lt_zero _)]; exact a3 w hw) a4 (fun w h => absurd h (Nat.not_lt_zero _))
    unfold f_X0_hasAllSources
    have hcl := l0_has_2 q1 q2 q5 q6.1 72 0 xFu (by omega) (by unfold xFu; omega)
    rcases hgo with ⟨hbad, r', h1⟩ | ⟨hall, r', h1, h2, h3, h4⟩
    · have h1 : f_X6_load_67 st (nI c) nu' now pst H F D tld' (fun thnz30 =>
        (f_X6_laysAll H F D thnz30 0).bind fun (v31, hld32, far33, don34, rr35) =>
        (f_X6_accepts st now rr35 pst v31).bind fun (v37, st38, now39, pst40) =>
        if 0 ≤ v37 then
          (f_X6_cells now39).bind fun v43 =>
          some (v43, st38, nI c, nu', now39, rr35, pst40, hld32, far33, don34, tld')
        else
          some (v37, st38, nI c, nu', now39, rr35, pst40, hld32, far33, don34, tld')) xFu 0 g2 = _ := h1
      rcases hcl with ⟨z1, z2⟩ | ⟨z1, z2⟩
      · obtain ⟨w, y1, y2⟩ := hbad
        exact absurd y2 (z1 w (Nat.zero_le _) y1)
      · rw [show f_X0_hasAllSources_2 T' S' (some 1) xFu 0 = some (nI 0) from z2, Option.bind_some, if_pos (show nI 0 = 0 from rfl), h1]
        exact ⟨-4, b, _, hn, pm, hb, K, _, st, _, nu', now, r', pst, H, F, D, tld', rfl, rfl, R⟩
    · have h1 : f_X6_load_67 st (nI c) nu' now pst H F D tld' (fun thnz30 =>
        (f_X6_laysAll H F D thnz30 0).bind fun (v31, hld32, far33, don34, rr35) =>
        (f_X6_accepts st now rr35 pst v31).bind fun (v37, st38, now39, pst40) =>
        if 0 ≤ v37 then
          (f_X6_cells now39).bind fun v43 =>
          some (v43, st38, nI c, nu', now39, rr35, pst40, hld32, far33, don34, tld')
        else
          some (v37, st38, nI c, nu', now39, rr35, pst40, hld32, far33, don34, tld')) xFu 0 g2 = _ := h1
      rcases hcl with ⟨z1, z2⟩ | ⟨⟨w, y0, y1, y2⟩, z2⟩
      · obtain ⟨v, K', L', J', E', H', F', D', r3, k1, k2, k3⟩ := tr_lay (o := 0) (K := K) (L := L2) (J := J1) (E := E2) (H := H) (F := F) (D := D) q1 q2 h2 h3 h4 q5 q6 w3 (by omega)
        obtain ⟨b', hn', pm', hb', st', now', pst', y1, y2, y3⟩ := tr_accept R (Or.inr k3)
        rw [show f_X0_hasAllSources_2 T' S' (some 1) xFu 0 = some (nI 1) from z2, Option.bind_some, if_neg (show ¬ (nI 1 = 0) by decide), d6, d7, show (0 : Int32) = nI 0 from rfl, k1, Option.bind_some]
        rw [show (nI 0) = (0 : Int32) from rfl, h1]
        try dsimp only
        rw [show f_X6_laysAll H F D r' 0 = _ from k2, Option.bind_some]
        try dsimp only
        rw [y2, Option.bind_some]
        try dsimp only
        rcases k3 with hv | ⟨V, hV, hv, -⟩
        · rw [hv] at y1 ⊢
          rw [if_pos (show (-3 : Int32) < 0 by decide)] at y1
          have := Option.some.inj y1
          cases this
          rw [if_neg (show ¬ ((0 : Int32) ≤ -3) by decide), if_neg (show ¬ ((0 : Int32) ≤ -3) by decide)]
          exact ⟨-3, b, _, hn, pm, hb, K', _, st', _, nu', now', r3, pst', H', F', D', tld', rfl, rfl, y3⟩
        · rw [hv] at y1 ⊢
          rw [if_neg (nI_le0 (by omega))] at y1
          have hge : (0 : Int32) ≤ nI V := nI_pos' (by omega)
          obtain ⟨tb2, sr2, lg2, jn2, hd2, cp2, su2, hB2⟩ := id y3.1
          rw [if_pos hge, if_pos hge, y1, Option.bind_some]
          try dsimp only
          rw [l0_cells hB2.1 hB2.2.2.2.2.2.2.2.2.1, Option.bind_some, l6_cells hB2.2.2.2.2.2.2.2.1.1 hB2.2.2.2.2.2.2.2.2.1, Option.bind_some]
          exact ⟨_, b', _, hn', pm', hb', K', _, st', _, nu', now', r3, pst', H', F', D', tld', rfl, rfl, y3⟩
      · exact absurd y2 (hall w y1)
end OB
