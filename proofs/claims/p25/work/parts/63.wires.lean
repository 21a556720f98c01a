/-! connect, swaps, orders -/
section OW
variable {b s : xBd} {hs hn st ik le ln : Int32} {pm : Nat → Nat} {hb : Nat → xBd} {Sg now pst snp txt : Nat → Int32}
theorem o_connect (R : RR b s hs hn pm hb Sg ln st ik le now pst snp txt) (t : xBd) (K thn hld far : Nat → Int32) (p1 p2 p3 : Int32) : ∃ v b' t' hn' pm' hb' K' st' now' thn' pst' hld' far', f_X5_connect b t hn pm hb K p1 p2 p3 = some (v, b', t', hn', pm', hb', K') ∧ f_X6_connect st now thn pst hld far p1 p2 p3 = some (v, st', now', thn', pst', hld', far') ∧ RR b' s hs hn' pm' hb' Sg ln st' ik le now' pst' snp txt := by
  obtain ⟨⟨tb, sr, lg, jn, hd, cp, su, hB⟩, hH, hrest⟩ := id R
  obtain ⟨c1, c2, c3, c4, c5, c6, c7, ⟨m1, m2, m3, m4, m5⟩, w1, w2, w3, w4, w5, w6⟩ := id hB
  have no : ∀ v : Int32, ∃ v' b' t' hn' pm' hb' K' st' now' thn' pst' hld' far', (some (v, b, t, hn, pm, hb, K) : Option (Int32 × xBd × xBd × Int32 × (Nat → Nat) × (Nat → xBd) × (Nat → Int32))) = some (v', b', t', hn', pm', hb', K') ∧ (some (v, st, now, thn, pst, hld, far) : Option (Int32 × Int32 × (Nat → Int32) × (Nat → Int32) × (Nat → Int32) × (Nat → Int32) × (Nat → Int32))) = some (v', st', now', thn', pst', hld', far') ∧ RR b' s hs hn' pm' hb' Sg ln st' ik le now' pst' snp txt := fun v => ⟨v, b, t, hn, pm, hb, K, st, now, thn, pst, hld, far, rfl, rfl, R⟩
  unfold f_X5_connect f_X6_connect
  rcases pz_ix p1 24 (by omega) with ⟨p, hp, rfl⟩ | hno
  · rw [l0_hasCell c1 w1 hp, Option.bind_some, l6_isCell m1 w1 hp, Option.bind_some]
    by_cases hc : tb p = 0
    · rw [if_pos (show nI (zc tb p) = 0 by rw [zc_0.mpr hc]; rfl), if_pos (show nI (zc tb p) = 0 by rw [zc_0.mpr hc]; rfl)]
      exact no (-1)
    · have hz : ¬ (nI (zc tb p) = 0) := nI_ne0 (Nat.pos_of_ne_zero fun q => hc (zc_0.mp q)) (by have := zc_lt tb p; omega)
      rw [if_neg hz, if_neg hz]
      rcases pz_ix p2 3 (by omega) with ⟨i, hi, rfl⟩ | hno2
      · rw [l5_isInput (by omega), if_pos hi, Option.bind_some, if_neg (show ¬ (nI 1 = 0) by decide), show f_X6_in (nI i) 0 2 = _ from l6_in (a := 0) (b := 2) (by omega) (by omega) (by omega), if_pos (show 0 ≤ i ∧ i ≤ 2 by omega), Option.bind_some, if_neg (show ¬ (nI 1 = 0) by decide)]
        rcases pz_ix p3 34 (by omega) with ⟨x, hx, rfl⟩ | hno3
        · rw [l0_isSource c1 w1 hx, Option.bind_some, l6_isSource m1 w1 hx, Option.bind_some]
          by_cases hq : zq tb x = 0
          · rw [hq, if_pos (show nI 0 = 0 from rfl), if_pos (show nI 0 = 0 from rfl)]
            exact no (-1)
          · have hqz : ¬ (nI (zq tb x) = 0) := nI_ne0 (Nat.pos_of_ne_zero hq) (by unfold zq; have := zc_lt tb x; split <;> omega)
            obtain ⟨w, hw⟩ : ∃ w, w = 3 * p + i := ⟨_, rfl⟩
            have hw72 : w < 72 := by omega
            have hw3 : w / 3 = p := by omega
            rw [if_neg hqz, if_neg hqz, show nI p * 3 + nI i = nI w by rw [show (3 : Int32) = nI 3 from rfl, pk_mul, nI_add, hw, Nat.mul_comm], show (3 : Int32) * nI p + nI i = nI w by rw [show (3 : Int32) = nI 3 from rfl, pk_mul, nI_add, hw], l0_sourceOf c2 hw72, Option.bind_some, show (24 : Int32) + nI w = nI (24 + w) from nI_add 24 w, pz_d (by omega) (by omega), Option.bind_some, m2 w hw72]
            by_cases he : nI (sr w) = nI x
            · rw [if_pos he, if_pos he]
              exact no (-5)
            · obtain ⟨t1, e1, e2⟩ := l0_copy t b
              obtain ⟨g1, e3, e4⟩ := l6_lays0 (f := now) (g := thn)
              have hB1 := bQ_eq e2 e4 hB
              obtain ⟨T1, S1, L1, J1, E1, cp1, su1⟩ := t1
              obtain ⟨d1, d2, d3, d4, d5, d6, d7, ⟨r1, r2, r3, r4, r5⟩, -, -, -, -, -, -⟩ := id hB1
              have d6 : cp1 = nI cp := d6
              have d7 : su1 = nI su := d7
              obtain ⟨L2, E2, e5, e6, e7⟩ := l0_removeWire d2 d3 d4 d5 w2.1 w4 w6 hw72 (fun h => by have := w5 w hw72; omega)
              obtain ⟨g2, e8, e9, e10⟩ := l6_takesWire hw72 g1
              have ml2 := mL_take hw72 r3 e9 e10
              have mj2 := mJ_take hw72 w4.1 r4 e10
              -- the new source
              have hS3 : cS (upd S1 w (nI x)) (pz_up sr w x) := cS_up d2
              have mt3 : mT (upd g2 (24 + w) (nI x)) tb := fun q hq => by rw [pz_un (by omega), e10 _ (by omega) (by omega)]; exact r1 q hq
              have ms3 : mS (upd g2 (24 + w) (nI x)) (pz_up sr w x) := fun v hv => by
                by_cases h : v = w
                · subst h; rw [pz_us, pz_ups]
                · rw [pz_un (by omega), pz_upn h, e10 _ (by omega) (by omega)]; exact r2 v hv
              have ml3 : mL (upd g2 (24 + w) (nI x)) (pz_up lg w 0) := fun v hv => by rw [pz_un (by omega)]; exact ml2 v hv
              have mj3 : mJ (upd g2 (24 + w) (nI x)) (pz_up lg w 0) jn := fun v hv k hk => by rw [pz_un (by omega)]; exact mj2 v hv k hk
              have mc3 : mC (upd g2 (24 + w) (nI x)) cp su := ⟨by rw [pz_un (by omega), e10 _ (by omega) (by omega)]; exact r5.1, by rw [pz_un (by omega), e10 _ (by omega) (by omega)]; exact r5.2⟩
              have wp3 := wP_down (w := w) w4
              have ws3 : wS tb (pz_up sr w x) := by
                refine ⟨fun v hv => ?_, fun v hv hz => ?_⟩
                · by_cases h : v = w
                  · subst h; rw [pz_ups]; omega
                  · rw [pz_upn h]; exact w2.1 v hv
                · by_cases h : v = w
                  · subst h; rw [hw3] at hz; exact absurd hz hc
                  · rw [pz_upn h]; exact w2.2 v hv hz
              obtain ⟨h1, k1, k2⟩ := l6_counts (h := hld) ml3 mj3 wp3
              rw [if_neg he, if_neg he, e1, Option.bind_some, e3, Option.bind_some]
              try dsimp only
              rw [e5, Option.bind_some, e8, Option.bind_some]
              try dsimp only
              rw [l0_changeSource _ hw72, Option.bind_some, pz_w (by omega) (by omega), Option.bind_some, k1, Option.bind_some, l6_isWire mt3 ms3 w1 ws3 hw72, Option.bind_some, d6, d7]
              by_cases hx32 : x < 32
              · have hzw : zw (pz_up sr w x) w = 1 := by unfold zw; rw [pz_ups, if_pos hx32]
                have hh : ∀ s, s < 48 → zh (pz_up lg w 0) jn s ≤ 10000 := fun s hs => by have := wH_le wp3 (wH_zh _ _) hs; omega
                rw [hzw, if_neg (show ¬ (nI 1 = 0) by decide)]
                rcases lay_one (K := K) (far := far) hS3 e6 (cJ_down d4) e7 ms3 ml3 mj3 mc3 k2 hh w3 wp3.1 hw72 (by rw [pz_ups]; exact hx32) with ⟨K', far', a1, a2⟩ | ⟨n, pth, K', L', J', E', H', far', r', hn3, hp1, hp2, a1, a2, g1', g2', g3', g4', g5', g6', g7'⟩
                · rw [a1, Option.bind_some, a2, Option.bind_some]
                  try dsimp only
                  rw [if_pos (show nI 0 = 0 from rfl), if_pos (show nI 0 = 0 from rfl)]
                  exact ⟨-3, b, _, hn, pm, hb, K', st, now, _, pst, _, far', rfl, rfl, R⟩
                · have hB4 : bQ (T1, upd S1 w (nI x), L', J', E', nI cp, nI su) r' tb (pz_up sr w x) (pz_up (pz_up lg w 0) w (n + 1)) (bz_jn jn w pth) (fun s => zh (pz_up lg w 0) jn s + gz_ed pth s n) cp su := by
                    refine ⟨d1, hS3, g1', g2', g3', rfl, rfl, ⟨fun q hq => by rw [g7' _ (by omega)]; exact mt3 q hq, fun v hv => by rw [g7' _ (by omega)]; exact ms3 v hv, g5', g6', by rw [g7' _ (by omega)]; exact mc3.1, by rw [g7' _ (by omega)]; exact mc3.2⟩, w1, ws3, w3, wP_up wp3 hn3 hp1 hp2, fun v hv => ?_, wH_up hw72 (wH_zh _ _) pz_ups⟩
                    by_cases h : v = w
                    · subst h; rw [pz_ups, pz_ups]; omega
                    · rw [pz_upn h, pz_upn h, pz_upn h]; exact w5 v hv
                  obtain ⟨b', hn', pm', hb', st', now', pst', a3, a4, a5, a6, a7⟩ := l5_accept hH R.1 hB4
                  have hl' : f_X0_lengthOf b'.2.2.1 (nI w) = some (nI n) := by rw [l0_lengthOf a7.2.2.1 hw72, pz_ups]; rfl
                  have hn' : now' (96 + w) = nI (n + 1) := by have := a7.2.2.2.2.2.2.2.1.2.2.1 w hw72; rwa [pz_ups] at this
                  rw [a1, Option.bind_some, a2, Option.bind_some]
                  try dsimp only
                  rw [if_neg (show ¬ (nI 1 = 0) by decide), if_neg (show ¬ (nI 1 = 0) by decide), a3, Option.bind_some, a4, Option.bind_some]
                  try dsimp only
                  rw [hl', Option.bind_some, a5, Option.bind_some, show (96 : Int32) + nI w = nI (96 + w) from nI_add 96 w, pz_d (by omega) (by omega), Option.bind_some, hn', if_neg (nI_nle (by omega) (by omega)), Option.bind_some, nI_pred]
                  exact ⟨nI n, b', _, _, pm', hb', K', st', now', _, pst', _, far', rfl, rfl, ⟨_, _, _, _, _, _, _, a7⟩, a6, hrest⟩
              · have hzw : zw (pz_up sr w x) w = 0 := by unfold zw; rw [pz_ups, if_neg hx32]
                have hB4 : bQ (T1, upd S1 w (nI x), L2, J1, E2, nI cp, nI su) (upd g2 (24 + w) (nI x)) tb (pz_up sr w x) (pz_up lg w 0) jn (zh (pz_up lg w 0) jn) cp su := by
                  refine ⟨d1, hS3, e6, cJ_down d4, e7, rfl, rfl, ⟨mt3, ms3, ml3, mj3, mc3⟩, w1, ws3, w3, wp3, fun v hv => ?_, wH_zh _ _⟩
                  by_cases h : v = w
                  · subst h; rw [pz_ups, pz_ups]; omega
                  · rw [pz_upn h, pz_upn h]; exact w5 v hv
                obtain ⟨b', hn', pm', hb', st', now', pst', a3, a4, a5, a6, a7⟩ := l5_accept hH R.1 hB4
                have hl' : f_X0_lengthOf b'.2.2.1 (nI w) = some (nI 0) := by rw [l0_lengthOf a7.2.2.1 hw72, pz_ups]
                have hn' : now' (96 + w) = nI 0 := by have := a7.2.2.2.2.2.2.2.1.2.2.1 w hw72; rwa [pz_ups] at this
                rw [hzw, if_pos (show nI 0 = 0 from rfl), l2_layWire_no hS3 hw72 (by rw [pz_ups]; omega) (by rw [pz_ups]; omega), Option.bind_some]
                try dsimp only
                rw [if_neg (show ¬ (nI 1 = 0) by decide), a3, Option.bind_some, a4, Option.bind_some]
                try dsimp only
                rw [hl', Option.bind_some, a5, Option.bind_some, show (96 : Int32) + nI w = nI (96 + w) from nI_add 96 w, pz_d (by omega) (by omega), Option.bind_some, hn', if_pos (show nI 0 ≤ 0 by decide)]
                exact ⟨nI 0, b', _, _, pm', hb', K, st', now', _, pst', _, far, rfl, rfl, ⟨_, _, _, _, _, _, _, a7⟩, a6, hrest⟩
        · rw [l0_isSource_no hno3, l6_isSource_no hno3]
          exact no (-1)
      · rw [l5_isInput_no hno2, show f_X6_in p2 0 2 = _ from l6_in_no (b := 2) (by omega) hno2]
        exact no (-1)
  · rw [l0_hasCell_no hno, l6_isCell_no hno]
    exact no (-1)
/-- how a trial ends: crowded, or a board that is told -/
def tr_E (v : Int32) (t : xBd) (r : Nat → Int32) : Prop := v = -3 ∨ ∃ V, V ≤ 1656 ∧ v = nI V ∧ bR t r
theorem tr_lay {T S L J E r H F D K : Nat → Int32} {tb sr : Nat → Nat} {cp su o : Nat} (hT : cT T tb) (hS : cS S sr) (rT : mT r tb) (rS : mS r sr) (rC : mC r cp su) (w1 : wT tb) (w2 : wS tb sr) (w3 : wC cp su) (ho : o < 3) : ∃ v K' L' J' E' H' F' D' r', f_X2_layAll K S L J E (nI cp) (nI su) (nI o) = some (v, K', L', J', E') ∧ f_X6_laysAll H F D r (nI o) = some (v, H', F', D', r') ∧ tr_E v (T, S, L', J', E', nI cp, nI su) r' := by
  rcases lay_all (K := K) (L := L) (J := J) (E := E) (H := H) (F := F) (D := D) hS rT rS rC w1 w2 w3 ho with ⟨K', L', J', E', H', F', D', r', h1, h2⟩ | ⟨K', L', J', E', H', F', D', r', lg, hd, jn, h1, h2, g1, g2, g3, g4, g5, g6, g7, g8⟩
  · exact ⟨-3, K', L', J', E', H', F', D', r', h1, h2, Or.inl rfl⟩
  · exact ⟨_, K', L', J', E', H', F', D', r', h1, h2, Or.inr ⟨_, g8, rfl, tb, sr, lg, jn, hd, cp, su, hT, hS, g1, g2, g3, rfl, rfl, g4, w1, w2, w3, g5, g7, g6⟩⟩
/-- the reference swaps on its second row -/
theorem l6_sw_47 {sr : Nat → Nat} {p q : Nat} (hp : p < 24) (hq : q < 24) (hpq : p ≠ q) (rS : mS now sr) (r0 : Nat → Int32) (k : (Nat → Int32) → az_R) : ∀ (m i n : Nat) (r : Nat → Int32), i + m = 3 → m < n → mS r (xs_i sr p q i) → (∀ x, x < 24 ∨ 96 ≤ x → r x = r0 x) → ∃ r', f_X6_swapped_47 now (nI p) (nI q) k n (nI i) r = k r' ∧ mS r' (xs_i sr p q 3) ∧ ∀ x, x < 24 ∨ 96 ≤ x → r' x = r0 x := by
  intro m
  induction m with
  | zero =>
    intro i n r h1 h2 h3 h4
    obtain ⟨n, rfl⟩ : ∃ z, n = z + 1 := ⟨n - 1, by omega⟩
    obtain rfl : i = 3 := by omega
    refine ⟨r, ?_, h3, h4⟩
    unfold f_X6_swapped_47
    rw [if_pos (show (3 : Int32) ≤ nI 3 from nI_le (a := 3) (Nat.le_refl _) (by omega))]
  | succ m ih =>
    intro i n r h1 h2 h3 h4
    obtain ⟨n, rfl⟩ : ∃ z, n = z + 1 := ⟨n - 1, by omega⟩
    have hi : i < 3 := by omega
    obtain ⟨r', e1, e2⟩ := ih (i + 1) n (upd (upd r (24 + (3 * p + i)) (nI (sr (3 * q + i)))) (24 + (3 * q + i)) (nI (sr (3 * p + i)))) (by omega) (by omega) (by
      rw [xs_is sr hpq hi]
      intro v hv
      by_cases h : v = 3 * q + i
      · subst h; rw [pz_us, pz_ups]
      · rw [pz_un (by omega), pz_upn h]
        by_cases h' : v = 3 * p + i
        · subst h'; rw [pz_us, pz_ups]
        · rw [pz_un (by omega), pz_upn h']; exact h3 v hv) (fun x hx => by rw [pz_un (by omega), pz_un (by omega)]; exact h4 x hx)
    refine ⟨r', ?_, e2⟩
    have ix : ∀ y : Nat, (24 : Int32) + 3 * nI y + nI i = nI (24 + (3 * y + i)) := fun y => by rw [show (24 : Int32) = nI 24 from rfl, show (3 : Int32) = nI 3 from rfl, pk_mul, nI_add, nI_add, Nat.add_assoc]
    unfold f_X6_swapped_47
    rw [if_neg (show ¬ ((3 : Int32) ≤ nI i) from nI_ge (b := 3) hi (by omega)), ix, ix, pz_d (by omega) (by omega), Option.bind_some, pz_w (by omega) (by omega), Option.bind_some, pz_d (by omega) (by omega), Option.bind_some, pz_w (by omega) (by omega), Option.bind_some, rS _ (by omega), rS _ (by omega), nI_1]
    exact e1
theorem l6_sw_112 {f : Nat → Nat} {p q : Nat} (hp : p < 24) (hq : q < 24) (hf : ∀ w, w < 72 → f w ≤ 33) (r0 : Nat → Int32) (k : (Nat → Int32) → az_R) : ∀ (m i n : Nat) (r : Nat → Int32), i + m = 72 → m < n → mS r (xs_j f p q i) → (∀ x, x < 24 ∨ 96 ≤ x → r x = r0 x) → ∃ r', f_X6_swapped_112 (nI p) (nI q) k n (nI i) r = k r' ∧ mS r' (xs_j f p q 72) ∧ ∀ x, x < 24 ∨ 96 ≤ x → r' x = r0 x := by
  intro m
  induction m with
  | zero =>
    intro i n r h1 h2 h3 h4
    obtain ⟨n, rfl⟩ : ∃ z, n = z + 1 := ⟨n - 1, by omega⟩
    obtain rfl : i = 72 := by omega
    refine ⟨r, ?_, h3, h4⟩
    unfold f_X6_swapped_112
    rw [if_pos (show (72 : Int32) ≤ nI 72 from nI_le (a := 72) (Nat.le_refl _) (by omega))]
  | succ m ih =>
    intro i n r h1 h2 h3 h4
    obtain ⟨n, rfl⟩ : ∃ z, n = z + 1 := ⟨n - 1, by omega⟩
    have hi : i < 72 := by omega
    have hfi := hf i hi
    have hv : r (24 + i) = nI (f i) := by
      rw [h3 i hi]
      unfold xs_j
      rw [if_neg (Nat.lt_irrefl _)]
    have go : ∀ y : Nat, y = xs_r f p q i → ∃ r', f_X6_swapped_112 (nI p) (nI q) k n (nI i + 1) (upd r (24 + i) (nI y)) = k r' ∧ mS r' (xs_j f p q 72) ∧ ∀ x, x < 24 ∨ 96 ≤ x → r' x = r0 x := fun y hy => by
      rw [nI_1]
      refine ih (i + 1) n _ (by omega) (by omega) ?_ (fun x hx => by rw [pz_un (by omega)]; exact h4 x hx)
      rw [xs_js, ← hy]
      intro v hv
      by_cases h : v = i
      · subst h; rw [pz_us, pz_ups]
      · rw [pz_un (by omega), pz_upn h]; exact h3 v hv
    unfold f_X6_swapped_112
    rw [if_neg (show ¬ ((72 : Int32) ≤ nI i) from nI_ge (b := 72) hi (by omega)), show (24 : Int32) + nI i = nI (24 + i) from nI_add 24 i, pz_d (by omega) (by omega), Option.bind_some, hv]
    by_cases h5 : f i = p
    · rw [if_pos (by rw [h5]), pz_w (by omega) (by omega), Option.bind_some]
      exact go q (by unfold xs_r; rw [if_pos h5])
    · rw [if_neg (fun z => h5 ((nI_eq (by omega) (by omega)).mp z))]
      by_cases h6 : f i = q
      · rw [if_pos (by rw [h6]), pz_w (by omega) (by omega), Option.bind_some]
        exact go p (by unfold xs_r; rw [if_neg h5, if_pos h6])
      · rw [if_neg (fun z => h6 ((nI_eq (by omega) (by omega)).mp z)), pz_w (by omega) (by omega), Option.bind_some]
        exact go (f i) (by unfold xs_r; rw [if_neg h5, if_neg h6])
/-- a swap that is tried, by both -/
theorem tr_swap (hb : bR b now) (t : xBd) (K thn H F D : Nat → Int32) {p q : Nat} (hp : p < 24) (hq : q < 24) (hpq : p ≠ q) : ∃ v t' K' thn' H' F' D', ((f_X0_copyFrom t.1 t.2.1 t.2.2.1 t.2.2.2.1 t.2.2.2.2.1 t.2.2.2.2.2.1 t.2.2.2.2.2.2 b.1 b.2.1 b.2.2.1 b.2.2.2.1 b.2.2.2.2.1 b.2.2.2.2.2.1 b.2.2.2.2.2.2).bind fun (T31, S32, L33, J34, E35, cp36, su37) =>
            (f_X0_exchange T31 S32 (nI p) (nI q)).bind fun (T39, S40) =>
            (f_X2_layAll K S40 L33 J34 E35 cp36 su37 0).bind fun (v42, K43, L44, J45, E46) =>
            some (v42, (T39, S40, L44, J45, E46, cp36, su37), K43)) = some (v, t', K') ∧ f_X6_swapped now thn H F D (nI p) (nI q) = some (v, thn', H', F', D') ∧ tr_E v t' thn' := by
  obtain ⟨tb, sr, lg, jn, hd, cp, su, hB⟩ := hb
  obtain ⟨t1, e1, e2⟩ := l0_copy t b
  obtain ⟨g1, e3, e4⟩ := l6_lays0 (f := now) (g := thn)
  have hB1 := bQ_eq e2 e4 hB
  obtain ⟨T1, S1, L1, J1, E1, cp1, su1⟩ := t1
  obtain ⟨c1, c2, c3, c4, c5, c6, c7, ⟨m1, m2, m3, m4, m5⟩, w1, w2, w3, w4, w5, w6⟩ := id hB
  obtain ⟨d1, d2, d3, d4, d5, d6, d7, ⟨r1, r2, r3, r4, r5⟩, -, -, -, -, -, -⟩ := id hB1
  have d6 : cp1 = nI cp := d6
  have d7 : su1 = nI su := d7
  obtain ⟨T2, S2, e5, e6, e7⟩ := l0_exchange hp hq hpq d1 d2 w2.1
  -- the reference's second row
  have hS0 : mS (upd (upd g1 p (now q)) q (now p)) (xs_i sr p q 0) := fun v hv => by rw [xs_i0, pz_un (by omega), pz_un (by omega)]; exact r2 v hv
  obtain ⟨g3, a1, a2, a3⟩ := l6_sw_47 hp hq hpq m2 (upd (upd g1 p (now q)) q (now p)) (fun thnz20 => f_X6_swapped_112 (nI p) (nI q) (fun thnz32 => (f_X6_laysAll H F D thnz32 0).bind fun (v33, hld34, far35, don36, rr37) => some (v33, rr37, hld34, far35, don36)) xFu 0 thnz20) 3 0 xFu _ (by omega) (by unfold xFu; omega) hS0 (fun _ _ => rfl)
  obtain ⟨g4, b1, b2, b3⟩ := l6_sw_112 (f := xs_i sr p q 3) hp hq (xs_le hp hq w2.1).1 (upd (upd g1 p (now q)) q (now p)) (fun thnz32 => (f_X6_laysAll H F D thnz32 0).bind fun (v33, hld34, far35, don36, rr37) => some (v33, rr37, hld34, far35, don36)) 72 0 xFu g3 (by omega) (by unfold xFu; omega) (fun w hw => by rw [a2 w hw]; unfold xs_j; rw [if_neg (Nat.not_lt_zero _)]) a3
  have mt4 : mT g4 (xt tb p q) := by
    intro v hv
    rw [b3 _ (by omega)]
    unfold xt
    by_cases h : v = q
    · subst h; rw [pz_us, if_pos rfl]; exact m1 p hp
    · rw [pz_un h, if_neg h]
      by_cases h2 : v = p
      · subst h2; rw [pz_us, if_pos rfl]; exact m1 q hq
      · rw [pz_un h2, if_neg h2]; exact r1 v hv
  have ms4 : mS g4 (xs sr p q) := fun w hw => by
    rw [b2 w hw]
    unfold xs_j xs
    rw [if_pos hw]
  have mc4 : mC g4 cp su := ⟨by rw [b3 _ (by omega), pz_un (by omega), pz_un (by omega)]; exact r5.1, by rw [b3 _ (by omega), pz_un (by omega), pz_un (by omega)]; exact r5.2⟩
  obtain ⟨v, K', L', J', E', H', F', D', r', h1, h2, h3⟩ := tr_lay (o := 0) (K := K) (L := L1) (J := J1) (E := E1) (H := H) (F := F) (D := D) e6 e7 mt4 ms4 mc4 (wT_x hp hq w1) (wS_x hp hq w2) w3 (by omega)
  refine ⟨v, (T2, S2, L', J', E', nI cp, nI su), K', r', H', F', D', ?_, ?_, h3⟩
  · rw [e1, Option.bind_some]
    try dsimp only
    rw [e5, Option.bind_some, d6, d7]
    try dsimp only
    rw [show (0 : Int32) = nI 0 from rfl, h1]
    rfl
  · unfold f_X6_swapped
    rw [e3, Option.bind_some, nI_0a, nI_0a, pz_d (by omega) (by omega), Option.bind_some, pz_w (by omega) (by omega), Option.bind_some, pz_d (by omega) (by omega), Option.bind_some, pz_w (by omega) (by omega), Option.bind_some]
    refine a1.trans (b1.trans ?_)
    try dsimp only
    rw [show (0 : Int32) = nI 0 from rfl, h2]
    rfl
/-- the answers of a swap that is tried -/
theorem tr_trySwap (hb : bR b now) (t : xBd) (K thn H F D : Nat → Int32) (p1 p2 : Int32) : ∃ v t' K' thn' H' F' D', f_X5_trySwap b t K p1 p2 = some (v, t', K') ∧ f_X6_ifSwap now thn H F D p1 p2 = some (v, thn', H', F', D') ∧ ((v < 0 ∧ v ≠ -3) ∨ tr_E v t' thn') ∧ (∀ (st : Int32) (pst : Nat → Int32), f_X6_swap st now thn pst H F D p1 p2 = (f_X6_accepts st now thn' pst v).bind fun (v16, st17, now18, pst19) => some (v16, st17, now18, thn', pst19, H', F', D')) := by
  obtain ⟨tb, sr, lg, jn, hd, cp, su, hB⟩ := id hb
  obtain ⟨c1, c2, c3, c4, c5, c6, c7, ⟨m1, m2, m3, m4, m5⟩, w1, w2, w3, w4, w5, w6⟩ := id hB
  have no : ∀ v : Int32, v < 0 → v ≠ -3 → (∀ (st : Int32) (pst : Nat → Int32), f_X6_swap st now thn pst H F D p1 p2 = some (v, st, now, thn, pst, H, F, D)) → f_X5_trySwap b t K p1 p2 = some (v, t, K) → f_X6_ifSwap now thn H F D p1 p2 = some (v, thn, H, F, D) → ∃ v t' K' thn' H' F' D', f_X5_trySwap b t K p1 p2 = some (v, t', K') ∧ f_X6_ifSwap now thn H F D p1 p2 = some (v, thn', H', F', D') ∧ ((v < 0 ∧ v ≠ -3) ∨ tr_E v t' thn') ∧ (∀ (st : Int32) (pst : Nat → Int32), f_X6_swap st now thn pst H F D p1 p2 = (f_X6_accepts st now thn' pst v).bind fun (v16, st17, now18, pst19) => some (v16, st17, now18, thn', pst19, H', F', D')) := by
    intro v h1 h2 h3 h4 h5
    refine ⟨v, t, K, thn, H, F, D, h4, h5, Or.inl ⟨h1, h2⟩, fun st pst => ?_⟩
    rw [h3]
    unfold f_X6_accepts
    rw [if_pos h1]
    rfl
  rcases pz_ix p1 24 (by omega) with ⟨p, hp, rfl⟩ | hno
  · rcases pz_ix p2 24 (by omega) with ⟨q, hq, rfl⟩ | hno2
    · have i1 : f_X5_isPlace (nI p) = some (nI 1) := by rw [l5_isPlace (by omega), if_pos hp]
      have i2 : f_X5_isPlace (nI q) = some (nI 1) := by rw [l5_isPlace (by omega), if_pos hq]
      have j1 : f_X6_isPlace (nI p) = some (nI 1) := by rw [l6_isPlace (by omega), if_pos hp]
      have j2 : f_X6_isPlace (nI q) = some (nI 1) := by rw [l6_isPlace (by omega), if_pos hq]
      have n1 : ¬ (nI 1 = 0) := by decide
      by_cases hpq : p = q
      · subst hpq
        refine no (-5) (by decide) (by decide) (fun st pst => ?_) ?_ ?_
        · unfold f_X6_swap f_X6_isChange
          rw [j1, Option.bind_some, if_neg n1, Option.bind_some, if_neg n1, if_pos rfl]
          rfl
        · unfold f_X5_trySwap
          rw [i1, Option.bind_some, if_neg n1, Option.bind_some, if_neg n1, if_pos rfl]
        · unfold f_X6_ifSwap f_X6_isChange
          rw [j1, Option.bind_some, if_neg n1, Option.bind_some, if_neg n1, if_pos rfl]
          rfl
      · have hne : ¬ (nI p = nI q) := fun z => hpq ((nI_eq (by omega) (by omega)).mp z)
        have hz : ∀ y, tb y ≠ 0 → ¬ (nI (zc tb y) = 0) := fun y hy => nI_ne0 (Nat.pos_of_ne_zero fun z => hy (zc_0.mp z)) (by have := zc_lt tb y; omega)
        have hz0 : ∀ y, tb y = 0 → nI (zc tb y) = 0 := fun y hy => by rw [zc_0.mpr hy]; rfl
        by_cases hboth : tb p = 0 ∧ tb q = 0
        · refine no (-5) (by decide) (by decide) (fun st pst => ?_) ?_ ?_
          · unfold f_X6_swap f_X6_isChange
            rw [j1, Option.bind_some, if_neg n1, j2, Option.bind_some, if_neg n1, if_neg hne, l6_isCell m1 w1 hp, Option.bind_some, if_pos (hz0 p hboth.1), l6_isCell m1 w1 hq, Option.bind_some, if_pos (hz0 q hboth.2)]
            rfl
          · unfold f_X5_trySwap
            rw [i1, Option.bind_some, if_neg n1, i2, Option.bind_some, if_neg n1, if_neg hne, l0_hasCell c1 w1 hp, Option.bind_some, if_pos (hz0 p hboth.1), l0_hasCell c1 w1 hq, Option.bind_some, if_pos (hz0 q hboth.2)]
          · unfold f_X6_ifSwap f_X6_isChange
            rw [j1, Option.bind_some, if_neg n1, j2, Option.bind_some, if_neg n1, if_neg hne, l6_isCell m1 w1 hp, Option.bind_some, if_pos (hz0 p hboth.1), l6_isCell m1 w1 hq, Option.bind_some, if_pos (hz0 q hboth.2)]
            rfl
        · obtain ⟨v, t', K', thn', H', F', D', e1, e2, e3⟩ := tr_swap hb t K thn H F D hp hq hpq
          have hch : f_X6_isChange now (nI p) (nI q) = some 1 := by
            unfold f_X6_isChange
            rw [if_neg hne, l6_isCell m1 w1 hp, Option.bind_some]
            by_cases h : tb p = 0
            · rw [if_pos (hz0 p h), l6_isCell m1 w1 hq, Option.bind_some, if_neg (hz q (fun z => hboth ⟨h, z⟩))]
            · rw [if_neg (hz p h)]
          refine ⟨v, t', K', thn', H', F', D', ?_, ?_, Or.inr e3, fun st pst => ?_⟩
          · unfold f_X5_trySwap
            rw [i1, Option.bind_some, if_neg n1, i2, Option.bind_some, if_neg n1, if_neg hne, l0_hasCell c1 w1 hp, Option.bind_some]
            by_cases h : tb p = 0
            · rw [if_pos (hz0 p h), l0_hasCell c1 w1 hq, Option.bind_some, if_neg (hz q (fun z => hboth ⟨h, z⟩))]
              exact e1
            · rw [if_neg (hz p h)]
              exact e1
          · unfold f_X6_ifSwap
            rw [j1, Option.bind_some, if_neg n1, j2, Option.bind_some, if_neg n1, hch, Option.bind_some, if_neg (show ¬ ((1 : Int32) = 0) by decide), e2]
            rfl
          · unfold f_X6_swap
            rw [j1, Option.bind_some, if_neg n1, j2, Option.bind_some, if_neg n1, hch, Option.bind_some, if_neg (show ¬ ((1 : Int32) = 0) by decide), e2]
            rfl
    · refine no (-1) (by decide) (by decide) (fun st pst => ?_) ?_ ?_
      · unfold f_X6_swap
        rw [l6_isPlace (by omega), if_pos hp, Option.bind_some, if_neg (show ¬ (nI 1 = 0) by decide), l6_isPlace_no hno2]
        rfl
      · unfold f_X5_trySwap
        rw [l5_isPlace (by omega), if_pos hp, Option.bind_some, if_neg (show ¬ (nI 1 = 0) by decide), l5_isPlace_no hno2]
        rfl
      · unfold f_X6_ifSwap
        rw [l6_isPlace (by omega), if_pos hp, Option.bind_some, if_neg (show ¬ (nI 1 = 0) by decide), l6_isPlace_no hno2]
        rfl
  · refine no (-1) (by decide) (by decide) (fun st pst => ?_) ?_ ?_
    · unfold f_X6_swap
      rw [l6_isPlace_no hno]
      rfl
    · unfold f_X5_trySwap
      rw [l5_isPlace_no hno]
      rfl
    · unfold f_X6_ifSwap
      rw [l6_isPlace_no hno]
      rfl
/-- what is told is so, if it is no error -/
theorem tr_accept (R : RR b s hs hn pm hb Sg ln st ik le now pst snp txt) {v : Int32} {t : xBd} {thn : Nat → Int32} (h : (v < 0 ∧ v ≠ -3) ∨ tr_E v t thn) : ∃ b' hn' pm' hb' st' now' pst', (if v < 0 then some (b, hn, pm, hb) else f_X5_acceptTrial b t hn pm hb) = some (b', hn', pm', hb') ∧ f_X6_accepts st now thn pst v = some (v, st', now', pst') ∧ RR b' s hs hn' pm' hb' Sg ln st' ik le now' pst' snp txt := by
  unfold f_X6_accepts
  by_cases hv : v < 0
  · rw [if_pos hv, if_pos hv]
    exact ⟨b, hn, pm, hb, st, now, pst, rfl, rfl, R⟩
  · rw [if_neg hv, if_neg hv]
    rcases h with h | h | ⟨V, hV, rfl, tb, sr, lg, jn, hd, cp, su, hB⟩
    · exact absurd h.1 hv
    · rw [h] at hv
      exact absurd (by decide) hv
    · obtain ⟨b', hn', pm', hb', st', now', pst', a3, a4, a5, a6, a7⟩ := l5_accept R.2.1 R.1 hB
      refine ⟨b', hn', pm', hb', st', now', pst', a3, ?_, ⟨_, _, _, _, _, _, _, a7⟩, a6, R.2.2⟩
      rw [a4, Option.bind_some]
      try dsimp only
      rw [a5]
      rfl
theorem o_swap (R : RR b s hs hn pm hb Sg ln st ik le now pst snp txt) (t : xBd) (K thn H F D : Nat → Int32) (p1 p2 : Int32) : ∃ v b' t' hn' pm' hb' K' st' now' thn' pst' H' F' D', f_X5_swap b t hn pm hb K p1 p2 = some (v, b', t', hn', pm', hb', K') ∧ f_X6_swap st now thn pst H F D p1 p2 = some (v, st', now', thn', pst', H', F', D') ∧ RR b' s hs hn' pm' hb' Sg ln st' ik le now' pst' snp txt := by
  obtain ⟨v, t', K', thn', H', F', D', e1, -, e3, e4⟩ := tr_trySwap R.1 t K thn H F D p1 p2
  obtain ⟨b', hn', pm', hb', st', now', pst', a1, a2, a3⟩ := tr_accept R e3
  refine ⟨v, b', t', hn', pm', hb', K', st', now', thn', pst', H', F', D', ?_, ?_, a3⟩
  · unfold f_X5_swap
    rw [e1, Option.bind_some]
    try dsimp only
    by_cases hv : v < 0
    · rw [if_pos hv] at a1 ⊢
      have := Option.some.inj a1
      cases this
      rfl
    · rw [if_neg hv] at a1 ⊢
      rw [a1]
      rfl
  · rw [e4, a2]
    rfl
theorem o_ifSwap (R : RR b s hs hn pm hb Sg ln st ik le now pst snp txt) (t : xBd) (K thn H F D : Nat → Int32) (p1 p2 : Int32) : ∃ v t' K' thn' H' F' D', f_X5_ifSwap b t K p1 p2 = some (v, t', K') ∧ f_X6_ifSwap now thn H F D p1 p2 = some (v, thn', H', F', D') := by
  obtain ⟨v, t', K', thn', H', F', D', e1, e2, -, -⟩ := tr_trySwap R.1 t K thn H F D p1 p2
  refine ⟨v, t', K', thn', H', F', D', ?_, e2⟩
  unfold f_X5_ifSwap
  rw [e1]
  rfl
theorem tr_order (hb : bR b now) (t : xBd) (K thn H F D : Nat → Int32) {o : Nat} (ho : o < 3) : ∃ v t' K' thn' H' F' D', f_X5_tryOrder b t K (nI o) = some (v, t', K') ∧ f_X6_ordered now thn H F D (nI o) = some (v, thn', H', F', D') ∧ tr_E v t' thn' := by
  obtain ⟨tb, sr, lg, jn, hd, cp, su, hB⟩ := hb
  obtain ⟨t1, e1, e2⟩ := l0_copy t b
  obtain ⟨g1, e3, e4⟩ := l6_lays0 (f := now) (g := thn)
  have hB1 := bQ_eq e2 e4 hB
  obtain ⟨T1, S1, L1, J1, E1, cp1, su1⟩ := t1
  obtain ⟨d1, d2, d3, d4, d5, d6, d7, ⟨r1, r2, r3, r4, r5⟩, w1, w2, w3, w4, w5, w6⟩ := id hB1
  have d6 : cp1 = nI cp := d6
  have d7 : su1 = nI su := d7
  obtain ⟨v, K', L', J', E', H', F', D', r', h1, h2, h3⟩ := tr_lay (o := o) (K := K) (L := L1) (J := J1) (E := E1) (H := H) (F := F) (D := D) d1 d2 r1 r2 r5 w1 w2 w3 ho
  refine ⟨v, (T1, S1, L', J', E', nI cp, nI su), K', r', H', F', D', ?_, ?_, h3⟩
  · unfold f_X5_tryOrder
    rw [e1, Option.bind_some, d6, d7]
    try dsimp only
    rw [h1]
    rfl
  · unfold f_X6_ordered
    rw [e3, Option.bind_some, h2]
    rfl
theorem o_layAnew (R : RR b s hs hn pm hb Sg ln st ik le now pst snp txt) (t : xBd) (K thn H F D : Nat → Int32) (p1 : Int32) : ∃ v b' t' hn' pm' hb' K' st' now' thn' pst' H' F' D', f_X5_layAnew b t hn pm hb K p1 = some (v, b', t', hn', pm', hb', K') ∧ f_X6_layAnew st now thn pst H F D p1 = some (v, st', now', thn', pst', H', F', D') ∧ RR b' s hs hn' pm' hb' Sg ln st' ik le now' pst' snp txt := by
  unfold f_X5_layAnew f_X6_layAnew
  rcases pz_ix p1 3 (by omega) with ⟨o, ho, rfl⟩ | hno
  · obtain ⟨v, t', K', thn', H', F', D', e1, e2, e3⟩ := tr_order R.1 t K thn H F D ho
    obtain ⟨b', hn', pm', hb', st', now', pst', a1, a2, a3⟩ := tr_accept R (Or.inr e3)
    rw [if_neg (show ¬ (nI o < 0) from nI_pos (by omega)), if_pos (show nI o < 3 from nI_lt (b := 3) ho (by omega)), show f_X6_in (nI o) 0 2 = _ from l6_in (a := 0) (b := 2) (by omega) (by omega) (by omega), if_pos (show 0 ≤ o ∧ o ≤ 2 by omega), Option.bind_some, if_neg (show ¬ (nI 1 = 0) by decide), e1, Option.bind_some, e2, Option.bind_some]
    try dsimp only
    rw [a2, Option.bind_some]
    by_cases hv : v < 0
    · rw [if_pos hv] at a1 ⊢
      have := Option.some.inj a1
      cases this
      exact ⟨v, b, t', hn, pm, hb, K', st', now', thn', pst', H', F', D', rfl, rfl, a3⟩
    · rw [if_neg hv] at a1 ⊢
      rw [a1]
      exact ⟨v, b', t', hn', pm', hb', K', st', now', thn', pst', H', F', D', rfl, rfl, a3⟩
  · rw [show f_X6_in p1 0 2 = _ from l6_in_no (b := 2) (by omega) hno]
    refine ⟨-2, b, t, hn, pm, hb, K, st, now, thn, pst, H, F, D, ?_, rfl, R⟩
    rcases hno with h | h
    · rw [if_pos h]
    · split
      · rfl
      · rw [if_neg]
        intro h2
        rw [Int32.lt_iff_toInt_lt, show (3 : Int32).toInt = 3 by decide] at h2
        rw [Int32.le_iff_toInt_le, nI_toInt (by omega)] at h
        omega
end OW
