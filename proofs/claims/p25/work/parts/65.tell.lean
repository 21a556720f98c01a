/-! what is told: cell, path, held, answer, ones, count -/
section OT
variable {b s : xBd} {hs hn st ik le ln : Int32} {pm : Nat → Nat} {hb : Nat → xBd} {Sg now pst snp txt : Nat → Int32}
theorem o_cell (R : RR b s hs hn pm hb Sg ln st ik le now pst snp txt) (Dp Sq dep bit : Nat → Int32) (se p1 p2 : Int32) : ∃ v Dp' Sq' se' dep' bit', f_X5_cell b Dp Sq se p1 p2 = some (v, Dp', Sq', se') ∧ f_X6_cell now dep bit p1 p2 = some (v, dep', bit') := by
  obtain ⟨tb, sr, lg, jn, hd, cp, su, hB⟩ := id R.1
  obtain ⟨c1, c2, c3, c4, c5, c6, c7, ⟨m1, m2, m3, m4, m5⟩, w1, w2, w3, w4, w5, w6⟩ := id hB
  unfold f_X5_cell f_X6_cell
  rcases pz_ix p1 24 (by omega) with ⟨p, hp, rfl⟩ | hno
  · rw [l0_hasCell c1 w1 hp, Option.bind_some, l6_isCell m1 w1 hp, Option.bind_some]
    by_cases hc : tb p = 0
    · rw [if_pos (show nI (zc tb p) = 0 by rw [zc_0.mpr hc]; rfl), if_pos (show nI (zc tb p) = 0 by rw [zc_0.mpr hc]; rfl)]
      exact ⟨-1, Dp, Sq, se, dep, bit, rfl, rfl⟩
    · have hz : ¬ (nI (zc tb p) = 0) := nI_ne0 (Nat.pos_of_ne_zero fun q => hc (zc_0.mp q)) (by have := zc_lt tb p; omega)
      obtain ⟨dep', bit', a1, a2, a3⟩ := l6_answers (dep := dep) (bit := bit) (b := 0) m1 m2 w1 w2.1
      rw [if_neg hz, if_neg hz, a1, Option.bind_some]
      try dsimp only
      by_cases h0 : p2 = 0
      · rw [if_pos h0, if_pos h0, l0_tableOf c1 hp, Option.bind_some, nI_0a, pz_d (by omega) (by omega), Option.bind_some, m1 p hp, show cz_t (tb p) = nI (tb p - 1) from if_neg hc, show mz_t (tb p) = nI (tb p - 1) from if_neg hc]
        exact ⟨_, Dp, Sq, se, dep', bit', rfl, rfl⟩
      · rw [if_neg h0, if_neg h0]
        have src : ∀ (k : Nat), k < 3 → f_X0_sourceOf b.2.1 (nI p * 3 + nI (k + 1) - 1) = some (nI (sr (3 * p + k))) ∧ xr_d now 1898 (24 + 3 * nI p + nI (k + 1) - 1) = some (nI (sr (3 * p + k))) := by
          intro k hk
          constructor
          · rw [show (3 : Int32) = nI 3 from rfl, pk_mul, nI_add, show p * 3 + (k + 1) = (3 * p + k) + 1 by omega, nI_pred, l0_sourceOf c2 (by omega)]
          · rw [show (24 : Int32) = nI 24 from rfl, show (3 : Int32) = nI 3 from rfl, pk_mul, nI_add, nI_add, show 24 + 3 * p + (k + 1) = (24 + (3 * p + k)) + 1 by omega, nI_pred, pz_d (by omega) (by omega), m2 _ (by omega)]
        by_cases h1 : p2 = 1
        · obtain ⟨s1, s2⟩ := src 0 (by omega)
          subst h1
          have s1 : f_X0_sourceOf b.2.1 (nI p * 3 + 1 - 1) = _ := s1
          have s2 : xr_d now 1898 (24 + 3 * nI p + 1 - 1) = _ := s2
          rw [if_pos rfl, if_pos rfl, s1, Option.bind_some, s2, Option.bind_some]
          exact ⟨_, Dp, Sq, se, dep', bit', rfl, rfl⟩
        · rw [if_neg h1, if_neg h1]
          by_cases h2 : p2 = 2
          · obtain ⟨s1, s2⟩ := src 1 (by omega)
            subst h2
            have s1 : f_X0_sourceOf b.2.1 (nI p * 3 + 2 - 1) = _ := s1
            have s2 : xr_d now 1898 (24 + 3 * nI p + 2 - 1) = _ := s2
            rw [if_pos rfl, if_pos rfl, s1, Option.bind_some, s2, Option.bind_some]
            exact ⟨_, Dp, Sq, se, dep', bit', rfl, rfl⟩
          · rw [if_neg h2, if_neg h2]
            by_cases h3 : p2 = 3
            · obtain ⟨s1, s2⟩ := src 2 (by omega)
              subst h3
              have s1 : f_X0_sourceOf b.2.1 (nI p * 3 + 3 - 1) = _ := s1
              have s2 : xr_d now 1898 (24 + 3 * nI p + 3 - 1) = _ := s2
              rw [if_pos rfl, if_pos rfl, s1, Option.bind_some, s2, Option.bind_some]
              exact ⟨_, Dp, Sq, se, dep', bit', rfl, rfl⟩
            · rw [if_neg h3, if_neg h3]
              by_cases h4 : p2 = 4
              · obtain ⟨Dp', Sq', e1, e2, e3⟩ := l3_study (Dp := Dp) (Sq := Sq) (se := se) c1 c2 w1 w2.1
                have hI := ls_I_i tb sr 24
                have hle := ls_I_le hI
                have hdp := hI.2.1 p hp
                rw [if_pos h4, if_pos h4, e1, Option.bind_some]
                try dsimp only
                rw [l3_answers e2 hp (by omega), Option.bind_some, pz_d hp (by omega), Option.bind_some, a2 p hp]
                by_cases hd0 : (ls_i tb sr 24).1 p = 0
                · rw [if_pos hd0, if_pos (show nI 0 = 0 from rfl), if_pos hd0]
                  exact ⟨-5, Dp', Sq', _, dep', bit', rfl, rfl⟩
                · rw [if_neg hd0, if_neg (show ¬ (nI 1 = 0) by decide), if_neg hd0, l3_depthOf e2 hp, Option.bind_some]
                  exact ⟨_, Dp', Sq', _, dep', bit', rfl, rfl⟩
              · rw [if_neg h4, if_neg h4]
                by_cases h5 : p2 = 5
                · rw [if_pos h5, if_pos h5, l0_uses c2 w2.1 hp, Option.bind_some, l6_havinga m1 m2 w1 w2 hp, Option.bind_some]
                  exact ⟨_, Dp, Sq, se, dep', bit', rfl, rfl⟩
                · rw [if_neg h5, if_neg h5]
                  by_cases h6 : p2 = 6
                  · rw [if_pos h6, if_pos h6, l0_segsOfCell c3 hp, Option.bind_some, l6_ofWires m3 w4.1 hp, Option.bind_some]
                    exact ⟨_, Dp, Sq, se, dep', bit', rfl, rfl⟩
                  · rw [if_neg h6, if_neg h6]
                    exact ⟨-2, Dp, Sq, se, dep', bit', rfl, rfl⟩
  · rw [l0_hasCell_no hno, l6_isCell_no hno]
    exact ⟨-1, Dp, Sq, se, dep, bit, rfl, rfl⟩
theorem o_path (R : RR b s hs hn pm hb Sg ln st ik le now pst snp txt) (p1 p2 p3 : Int32) : ∃ v, f_X5_path b p1 p2 p3 = some v ∧ f_X6_path now p1 p2 p3 = some v := by
  obtain ⟨tb, sr, lg, jn, hd, cp, su, hB⟩ := id R.1
  obtain ⟨c1, c2, c3, c4, c5, c6, c7, ⟨m1, m2, m3, m4, m5⟩, w1, w2, w3, w4, w5, w6⟩ := id hB
  unfold f_X5_path f_X6_path
  rcases pz_ix p1 24 (by omega) with ⟨p, hp, rfl⟩ | hno
  · rw [l0_hasCell c1 w1 hp, Option.bind_some, l6_isCell m1 w1 hp, Option.bind_some]
    by_cases hc : tb p = 0
    · rw [if_pos (show nI (zc tb p) = 0 by rw [zc_0.mpr hc]; rfl), if_pos (show nI (zc tb p) = 0 by rw [zc_0.mpr hc]; rfl)]
      exact ⟨-1, rfl, rfl⟩
    · have hz : ¬ (nI (zc tb p) = 0) := nI_ne0 (Nat.pos_of_ne_zero fun q => hc (zc_0.mp q)) (by have := zc_lt tb p; omega)
      rw [if_neg hz, if_neg hz]
      rcases pz_ix p2 3 (by omega) with ⟨i, hi, rfl⟩ | hno2
      · rw [l5_isInput (by omega), if_pos hi, Option.bind_some, if_neg (show ¬ (nI 1 = 0) by decide), show f_X6_in (nI i) 0 2 = _ from l6_in (a := 0) (b := 2) (by omega) (by omega) (by omega), if_pos (show 0 ≤ i ∧ i ≤ 2 by omega), Option.bind_some, if_neg (show ¬ (nI 1 = 0) by decide)]
        by_cases h0 : 0 ≤ p3
        · obtain ⟨k, hk, rfl⟩ := nI_of (x := p3) (Int32.not_lt.mpr h0)
          obtain ⟨w, hw⟩ : ∃ w, w = 3 * p + i := ⟨_, rfl⟩
          have hw72 : w < 72 := by omega
          have hl := w4.1 w hw72
          have hs33 := w2.1 w hw72
          have ha := w5 w hw72
          rw [if_pos h0, if_pos h0, show nI p * 3 + nI i = nI w by rw [show (3 : Int32) = nI 3 from rfl, pk_mul, nI_add, hw, Nat.mul_comm], show (3 : Int32) * nI p + nI i = nI w by rw [show (3 : Int32) = nI 3 from rfl, pk_mul, nI_add, hw], l0_junctionAt c2 c3 c4 w2.1 w4.1 hw72 hk (fun h => by omega), Option.bind_some, show (96 : Int32) + nI w = nI (96 + w) from nI_add 96 w, pz_d (by omega) (by omega), Option.bind_some, m3 w hw72]
          by_cases hkl : k < lg w
          · have hj := w4.2.1 w hw72 k hkl
            have hv : (if sr w < 32 ∧ k < lg w then nI (jn w k) else (-1 : Int32)) = nI (jn w k) := if_pos ⟨by omega, hkl⟩
            rw [hv, if_neg (show ¬ (nI (jn w k) = -1) from fun q => by rw [show (-1 : Int32) = -nI 1 from rfl, pz_neg (by omega) (by omega) (by omega)] at q; exact q), if_neg (nI_ge hkl (by omega)), show (168 : Int32) + 24 * nI w + nI k = nI (168 + 24 * w + k) by rw [show (168 : Int32) = nI 168 from rfl, show (24 : Int32) = nI 24 from rfl, pk_mul, nI_add, nI_add], pz_d (by omega) (by omega), Option.bind_some, m4 w hw72 k hkl]
            exact ⟨_, rfl, rfl⟩
          · have hv : (if sr w < 32 ∧ k < lg w then nI (jn w k) else (-1 : Int32)) = -1 := if_neg (fun q => hkl q.2)
            rw [hv, if_pos rfl, if_pos (nI_le (by omega) (by omega))]
            exact ⟨-5, rfl, rfl⟩
        · rw [if_neg h0, if_neg h0]
          exact ⟨-2, rfl, rfl⟩
      · rw [l5_isInput_no hno2, show f_X6_in p2 0 2 = _ from l6_in_no (b := 2) (by omega) hno2]
        exact ⟨-1, rfl, rfl⟩
  · rw [l0_hasCell_no hno, l6_isCell_no hno]
    exact ⟨-1, rfl, rfl⟩
theorem gz_be_01 (p q : Nat) : gz_be p q = 0 ∨ gz_be p q = 1 := by
  unfold gz_be
  split
  · exact Or.inr rfl
  · exact Or.inl rfl
theorem o_held (R : RR b s hs hn pm hb Sg ln st ik le now pst snp txt) (hld : Nat → Int32) (p1 p2 : Int32) : ∃ v hld', f_X5_held b p1 p2 = some v ∧ f_X6_held now hld p1 p2 = some (v, hld') := by
  obtain ⟨tb, sr, lg, jn, hd, cp, su, hB⟩ := id R.1
  obtain ⟨c1, c2, c3, c4, c5, c6, c7, ⟨m1, m2, m3, m4, m5⟩, w1, w2, w3, w4, w5, w6⟩ := id hB
  unfold f_X5_held f_X6_held
  rcases pz_ix p1 24 (by omega) with ⟨p, hp, rfl⟩ | hno
  · rw [l6_isPlace (by omega), if_pos hp, Option.bind_some, if_neg (show ¬ (nI 1 = 0) by decide)]
    rcases pz_ix p2 24 (by omega) with ⟨q, hq, rfl⟩ | hno2
    · rw [l6_isPlace (by omega), if_pos hq, Option.bind_some, if_neg (show ¬ (nI 1 = 0) by decide), l5_segmentBetween p hp q hq, Option.bind_some, l6_areBeside p hp q hq, Option.bind_some]
      rcases gz_be_01 p q with h | h
      · rw [h, if_neg (show ¬ ((0 : Nat) = 1) by omega), if_pos rfl, if_pos (show nI 0 = 0 from rfl)]
        exact ⟨-1, hld, rfl, rfl⟩
      · have hs := gz_sg_lt p hp q hq h
        obtain ⟨hld', k1, k2⟩ := l6_mostHeld_most (h := hld) m3 m4 w4 w6
        rw [if_pos h, if_neg (show ¬ (nI (gz_sg p q) = -1) from fun z => by rw [show (-1 : Int32) = -nI 1 from rfl, pz_neg (by omega) (by omega) (by omega)] at z; exact z), h, if_neg (show ¬ (nI 1 = 0) by decide), l0_heldBy c5 hs, Option.bind_some, k1, Option.bind_some, l6_segment p hp q hq, Option.bind_some, pz_d hs (by omega), Option.bind_some, k2 _ hs]
        exact ⟨_, hld', rfl, rfl⟩
    · rw [l6_isPlace_no hno2, l5_segmentBetween_no (Or.inr hno2)]
      exact ⟨-1, hld, rfl, rfl⟩
  · rw [l6_isPlace_no hno, l5_segmentBetween_no (Or.inl hno)]
    exact ⟨-1, hld, rfl, rfl⟩
theorem o_answer (R : RR b s hs hn pm hb Sg ln st ik le now pst snp txt) (Dp Bt Sq dep bit : Nat → Int32) (se p1 p2 : Int32) : ∃ v Dp' Bt' Sq' se' dep' bit', f_X5_answer b Dp Bt Sq se p1 p2 = some (v, Dp', Bt', Sq', se') ∧ f_X6_answer now dep bit p1 p2 = some (v, dep', bit') := by
  obtain ⟨tb, sr, lg, jn, hd, cp, su, hB⟩ := id R.1
  obtain ⟨c1, c2, c3, c4, c5, c6, c7, ⟨m1, m2, m3, m4, m5⟩, w1, w2, w3, w4, w5, w6⟩ := id hB
  unfold f_X5_answer f_X6_answer
  rcases pz_ix p1 24 (by omega) with ⟨p, hp, rfl⟩ | hno
  · rw [l0_hasCell c1 w1 hp, Option.bind_some, l6_isCell m1 w1 hp, Option.bind_some]
    by_cases hc : tb p = 0
    · rw [if_pos (show nI (zc tb p) = 0 by rw [zc_0.mpr hc]; rfl), if_pos (show nI (zc tb p) = 0 by rw [zc_0.mpr hc]; rfl)]
      exact ⟨-1, Dp, Bt, Sq, se, dep, bit, rfl, rfl⟩
    · have hz : ¬ (nI (zc tb p) = 0) := nI_ne0 (Nat.pos_of_ne_zero fun q => hc (zc_0.mp q)) (by have := zc_lt tb p; omega)
      rw [if_neg hz, if_neg hz]
      rcases pz_ix p2 256 (by omega) with ⟨x, hx, rfl⟩ | hno2
      · obtain ⟨dep', bit', a1, a2, a3⟩ := l6_answers (dep := dep) (bit := bit) (b := nI x) m1 m2 w1 w2.1
        obtain ⟨Dp', Sq', e1, e2, e3⟩ := l3_study (Dp := Dp) (Sq := Sq) (se := se) c1 c2 w1 w2.1
        have hI := ls_I_i tb sr 24
        have hle := ls_I_le hI
        have hdp := hI.2.1 p hp
        rw [if_neg (show ¬ (nI x < 0) from nI_pos (by omega)), if_pos (show nI x < 256 from nI_lt (b := 256) hx (by omega)), show f_X6_in (nI x) 0 255 = _ from l6_in (a := 0) (b := 255) (by omega) (by omega) (by omega), if_pos (show 0 ≤ x ∧ x ≤ 255 by omega), Option.bind_some, if_neg (show ¬ (nI 1 = 0) by decide), e1, Option.bind_some, a1, Option.bind_some]
        try dsimp only
        rw [l3_answers e2 hp (by omega), Option.bind_some, pz_d hp (by omega), Option.bind_some, a2 p hp]
        by_cases hd0 : (ls_i tb sr 24).1 p = 0
        · rw [if_pos hd0, if_pos (show nI 0 = 0 from rfl), if_pos hd0, if_pos rfl]
          exact ⟨-5, Dp', Bt, Sq', _, dep', bit', rfl, rfl⟩
        · obtain ⟨Bt', f1, f2⟩ := l3_work (Bt := Bt) (b := nI x) c1 c2 w2.1 hI e3
          obtain ⟨i, hi, he⟩ := hI.2.2.2.1 p hp hd0
          have hsame := lb_same hI f2 a3 i hi
          rw [he] at hsame
          rw [if_neg hd0, if_neg (show ¬ (nI 1 = 0) by decide), if_neg hd0, if_neg (nI_ne5 (by omega)), f1, Option.bind_some, l3_bitOf hp, Option.bind_some, pz_d hp (by omega), Option.bind_some, hsame]
          exact ⟨_, Dp', Bt', Sq', _, dep', bit', rfl, rfl⟩
      · rw [show f_X6_in p2 0 255 = _ from l6_in_no (b := 255) (by omega) hno2]
        refine ⟨-2, Dp, Bt, Sq, se, dep, bit, ?_, rfl⟩
        rcases hno2 with h | h
        · rw [if_pos h]
        · split
          · rfl
          · rw [if_neg]
            intro h2
            rw [Int32.lt_iff_toInt_lt, show (256 : Int32).toInt = 256 by decide] at h2
            rw [Int32.le_iff_toInt_le, nI_toInt (by omega)] at h
            omega
  · rw [l0_hasCell_no hno, l6_isCell_no hno]
    exact ⟨-1, Dp, Bt, Sq, se, dep, bit, rfl, rfl⟩
theorem o_ones (R : RR b s hs hn pm hb Sg ln st ik le now pst snp txt) (Dp Bt Sq dep bit : Nat → Int32) (se p1 : Int32) : ∃ v Dp' Bt' Sq' se' dep' bit', f_X5_ones b Dp Bt Sq se p1 = some (v, Dp', Bt', Sq', se') ∧ f_X6_ones now dep bit p1 = some (v, dep', bit') := by
  obtain ⟨tb, sr, lg, jn, hd, cp, su, hB⟩ := id R.1
  obtain ⟨c1, c2, c3, c4, c5, c6, c7, ⟨m1, m2, m3, m4, m5⟩, w1, w2, w3, w4, w5, w6⟩ := id hB
  unfold f_X5_ones f_X6_ones
  rcases pz_ix p1 24 (by omega) with ⟨p, hp, rfl⟩ | hno
  · rw [l0_hasCell c1 w1 hp, Option.bind_some, l6_isCell m1 w1 hp, Option.bind_some]
    by_cases hc : tb p = 0
    · rw [if_pos (show nI (zc tb p) = 0 by rw [zc_0.mpr hc]; rfl), if_pos (show nI (zc tb p) = 0 by rw [zc_0.mpr hc]; rfl)]
      exact ⟨-1, Dp, Bt, Sq, se, dep, bit, rfl, rfl⟩
    · have hz : ¬ (nI (zc tb p) = 0) := nI_ne0 (Nat.pos_of_ne_zero fun q => hc (zc_0.mp q)) (by have := zc_lt tb p; omega)
      obtain ⟨Dp', Sq', e1, e2, e3⟩ := l3_study (Dp := Dp) (Sq := Sq) (se := se) c1 c2 w1 w2.1
      have hI := ls_I_i tb sr 24
      have hle := ls_I_le hI
      have hdp := hI.2.1 p hp
      rw [if_neg hz, if_neg hz, e1, Option.bind_some]
      try dsimp only
      rw [l3_answers e2 hp (by omega), Option.bind_some]
      -- the reference's own loop, whatever the class does
      have mo : ∀ (m x n : Nat) (acc : Int32) (dep bit : Nat → Int32), x + m = 256 → m < n → mD dep (ls_i tb sr 24).1 ∨ 0 < m → ∃ acc' dep' bit', f_X6_ones_17 now (nI p) (fun x2z10 depz10 bitz10 => (xr_d depz10 24 (nI p)).bind fun v11 => if v11 = -5 then some (-5, depz10, bitz10) else some (x2z10, depz10, bitz10)) n acc (nI x) dep bit = (if (ls_i tb sr 24).1 p = 0 then some (-5, dep', bit') else some (acc', dep', bit')) ∧ ((ls_i tb sr 24).1 p ≠ 0 → ∀ (q : Nat) (Bt : Nat → Int32), m < q → ∃ Bt', f_X5_ones_42 b Sq' (nI (ls_i tb sr 24).2.2) (nI p) (fun x2z16 Btz16 => some (x2z16, Dp', Btz16, Sq', nI (ls_i tb sr 24).2.2)) q acc (nI x) Bt = some (acc', Dp', Bt', Sq', nI (ls_i tb sr 24).2.2)) := by
        intro m
        induction m with
        | zero =>
          intro x n acc dep bit h1 h2 h3
          obtain ⟨n, rfl⟩ : ∃ z, n = z + 1 := ⟨n - 1, by omega⟩
          obtain rfl : x = 256 := by omega
          have hD := h3.resolve_right (Nat.lt_irrefl _)
          refine ⟨acc, dep, bit, ?_, fun hd q Bt hq => ⟨Bt, ?_⟩⟩
          · unfold f_X6_ones_17
            rw [if_pos (show (256 : Int32) ≤ nI 256 from nI_le (a := 256) (Nat.le_refl _) (by omega))]
            try dsimp only
            rw [pz_d hp (by omega), Option.bind_some, hD p hp]
            by_cases hd0 : (ls_i tb sr 24).1 p = 0
            · rw [if_pos hd0, if_pos rfl, if_pos hd0]
            · rw [if_neg hd0, if_neg (nI_ne5 (by omega)), if_neg hd0]
          · obtain ⟨q, rfl⟩ : ∃ z, q = z + 1 := ⟨q - 1, by omega⟩
            unfold f_X5_ones_42
            rw [if_pos (show (256 : Int32) ≤ nI 256 from nI_le (a := 256) (Nat.le_refl _) (by omega))]
        | succ m ih =>
          intro x n acc dep bit h1 h2 h3
          obtain ⟨n, rfl⟩ : ∃ z, n = z + 1 := ⟨n - 1, by omega⟩
          have hge : ¬ ((256 : Int32) ≤ nI x) := nI_ge (b := 256) (by omega) (by omega)
          obtain ⟨dep1, bit1, a1, a2, a3⟩ := l6_answers (dep := dep) (bit := bit) (b := nI x) m1 m2 w1 w2.1
          obtain ⟨acc', dep', bit', g1, g2⟩ := ih (x + 1) n (acc + bit1 p) dep1 bit1 (by omega) (by omega) (Or.inl a2)
          refine ⟨acc', dep', bit', ?_, fun hd q Bt hq => ?_⟩
          · unfold f_X6_ones_17
            rw [if_neg hge, a1, Option.bind_some]
            try dsimp only
            rw [pz_d hp (by omega), Option.bind_some, nI_1]
            exact g1
          · obtain ⟨q, rfl⟩ : ∃ z, q = z + 1 := ⟨q - 1, by omega⟩
            obtain ⟨Bt1, f1, f2⟩ := l3_work (Bt := Bt) (b := nI x) c1 c2 w2.1 hI e3
            obtain ⟨i, hi, he⟩ := hI.2.2.2.1 p hp hd
            have hsame := lb_same hI f2 a3 i hi
            rw [he] at hsame
            obtain ⟨Bt', g3⟩ := g2 hd q Bt1 (by omega)
            refine ⟨Bt', ?_⟩
            unfold f_X5_ones_42
            rw [if_neg hge, f1, Option.bind_some, l3_bitOf hp, Option.bind_some, hsame, nI_1]
            exact g3
      obtain ⟨acc', dep', bit', g1, g2⟩ := mo 256 0 xFu 0 dep bit (by omega) (by unfold xFu; omega) (Or.inr (by omega))
      have g1 : f_X6_ones_17 now (nI p) (fun x2z10 depz10 bitz10 => (xr_d depz10 24 (nI p)).bind fun v11 => if v11 = -5 then some (-5, depz10, bitz10) else some (x2z10, depz10, bitz10)) xFu 0 0 dep bit = _ := g1
      rw [g1]
      by_cases hd0 : (ls_i tb sr 24).1 p = 0
      · rw [if_pos hd0, if_pos (show nI 0 = 0 from rfl), if_pos hd0]
        exact ⟨-5, Dp', Bt, Sq', _, dep', bit', rfl, rfl⟩
      · obtain ⟨Bt', g3⟩ := g2 hd0 xFu Bt (by unfold xFu; omega)
        have g3 : f_X5_ones_42 b Sq' (nI (ls_i tb sr 24).2.2) (nI p) (fun x2z16 Btz16 => some (x2z16, Dp', Btz16, Sq', nI (ls_i tb sr 24).2.2)) xFu 0 0 Bt = _ := g3
        rw [if_neg hd0, if_neg (show ¬ (nI 1 = 0) by decide), if_neg hd0, g3]
        exact ⟨acc', Dp', Bt', Sq', _, dep', bit', rfl, rfl⟩
  · rw [l0_hasCell_no hno, l6_isCell_no hno]
    exact ⟨-1, Dp, Bt, Sq, se, dep, bit, rfl, rfl⟩
/-! counts -/
theorem l6_full (hld : Nat → Int32) {tb sr lg : Nat → Nat} {jn : Nat → Nat → Nat} {hd : Nat → Nat} {cp su : Nat} (hR : mR now tb sr lg jn cp su) (w3 : wC cp su) (w4 : wP lg jn) (w6 : wH lg jn hd) : ∃ hld', f_X6_full now hld = some (nI (pz_su (zf hd cp) 48), hld') := by
  obtain ⟨m1, m2, m3, m4, m5⟩ := hR
  obtain ⟨hld', k1, k2⟩ := l6_mostHeld_most (h := hld) m3 m4 w4 w6
  have st : ∀ (m i n : Nat), i + m = 48 → m < n → f_X6_full_12 now hld' (fun x => some (x, hld')) n (nI (pz_su (zf hd cp) i)) (nI i) = some (nI (pz_su (zf hd cp) 48), hld') := by
    intro m
    induction m with
    | zero =>
      intro i n h1 h2
      obtain ⟨n, rfl⟩ : ∃ z, n = z + 1 := ⟨n - 1, by omega⟩
      obtain rfl : i = 48 := by omega
      unfold f_X6_full_12
      rw [if_pos (show (48 : Int32) ≤ nI 48 from nI_le (a := 48) (Nat.le_refl _) (by omega))]
    | succ m ih =>
      intro i n h1 h2
      obtain ⟨n, rfl⟩ : ∃ z, n = z + 1 := ⟨n - 1, by omega⟩
      have hi : i < 48 := by omega
      have h3 := wH_le w4 w6 hi
      have h4 := w3.2.1
      have ih := ih (i + 1) n (by omega) (by omega)
      rw [show pz_su (zf hd cp) (i + 1) = pz_su (zf hd cp) i + zf hd cp i from rfl] at ih
      unfold f_X6_full_12
      rw [if_neg (show ¬ ((48 : Int32) ≤ nI i) from nI_ge (b := 48) hi (by omega)), pz_d hi (by omega), Option.bind_some, show (1896 : Int32) = nI 1896 from rfl, pz_d (by omega) (by omega), Option.bind_some, k2 i hi, m5.1]
      by_cases hc : hd i < cp
      · rw [show zf hd cp i = 0 from if_pos hc] at ih
        rw [if_pos (nI_lt hc (by omega)), show (0 : Int32) = nI 0 from rfl, nI_add, nI_1]
        exact ih
      · rw [show zf hd cp i = 1 from if_neg hc] at ih
        rw [if_neg (nI_nlt (by omega) (by omega)), nI_1, nI_1]
        exact ih
  refine ⟨hld', ?_⟩
  unfold f_X6_full
  rw [k1, Option.bind_some]
  exact st 48 0 xFu (by omega) (by unfold xFu; omega)
/-- cells without an answer -/
def zx (tb dz : Nat → Nat) (v : Nat) : Nat := if tb v ≠ 0 ∧ dz v = 0 then 1 else 0
theorem l6_ofDepths {tb sr : Nat → Nat} (m1 : mT now tb) (m2 : mS now sr) (w1 : wT tb) (w2 : wS tb sr) (dep bit : Nat → Int32) (x : Int32) : ∃ dep' bit', f_X6_ofDepths now dep bit x = some (if x = 0 then nI (pz_su (zx tb (ls_i tb sr 24).1) 24) else nI (pz_mx (ls_i tb sr 24).1 24), dep', bit') := by
  obtain ⟨dep', bit', a1, a2, a3⟩ := l6_answers (dep := dep) (bit := bit) (b := 0) m1 m2 w1 w2.1
  have hI := ls_I_i tb sr 24
  have hle := ls_I_le hI
  obtain ⟨dz, hdz⟩ : ∃ dz, dz = (ls_i tb sr 24).1 := ⟨_, rfl⟩
  have hb : ∀ v, v < 24 → dz v ≤ 24 := fun v hv => by rw [hdz]; have := hI.2.1 v hv; omega
  rw [← hdz] at a2 ⊢
  have st : ∀ (k : Int32 → Int32 → Option (Int32 × (Nat → Int32) × (Nat → Int32))) (m i n : Nat), i + m = 24 → m < n → f_X6_ofDepths_12 now dep' k n (nI (pz_su (zx tb dz) i)) (nI (pz_mx dz i)) (nI i) = k (nI (pz_su (zx tb dz) 24)) (nI (pz_mx dz 24)) := by
    intro k m
    induction m with
    | zero =>
      intro i n h1 h2
      obtain ⟨n, rfl⟩ : ∃ z, n = z + 1 := ⟨n - 1, by omega⟩
      obtain rfl : i = 24 := by omega
      unfold f_X6_ofDepths_12
      rw [if_pos (show (24 : Int32) ≤ nI 24 from nI_le (a := 24) (Nat.le_refl _) (by omega))]
    | succ m ih =>
      intro i n h1 h2
      obtain ⟨n, rfl⟩ : ∃ z, n = z + 1 := ⟨n - 1, by omega⟩
      have hi : i < 24 := by omega
      have h3 := hb i hi
      have h4 : pz_mx dz i ≤ 24 := pz_mx_le (fun j hj => hb j (by omega))
      have ih := ih (i + 1) n (by omega) (by omega)
      rw [show pz_su (zx tb dz) (i + 1) = pz_su (zx tb dz) i + zx tb dz i from rfl, show pz_mx dz (i + 1) = if pz_mx dz i < dz i then dz i else pz_mx dz i from rfl] at ih
      -- the greatest depth
      have mx : ∀ (acc : Nat), (if dep' i ≤ nI (pz_mx dz i) then f_X6_ofDepths_12 now dep' k n (nI acc) (nI (pz_mx dz i)) (nI i + 1) else (xr_d dep' 24 (nI i)).bind fun v => f_X6_ofDepths_12 now dep' k n (nI acc) v (nI i + 1)) = f_X6_ofDepths_12 now dep' k n (nI acc) (nI (if pz_mx dz i < dz i then dz i else pz_mx dz i)) (nI (i + 1)) := by
        intro acc
        rw [nI_1, pz_d hi (by omega), Option.bind_some, a2 i hi]
        by_cases hz : dz i = 0
        · rw [if_pos hz, if_neg (show ¬ (pz_mx dz i < dz i) by omega), if_pos (show (-5 : Int32) ≤ nI (pz_mx dz i) by
            rw [Int32.le_iff_toInt_le, nI_toInt (by omega), show (-5 : Int32).toInt = -5 by decide]; omega)]
        · rw [if_neg hz]
          by_cases hlt : pz_mx dz i < dz i
          · rw [if_pos hlt, if_neg (nI_ge hlt (by omega))]
          · rw [if_neg hlt, if_pos (nI_le (by omega) (by omega))]
      unfold f_X6_ofDepths_12
      rw [if_neg (show ¬ ((24 : Int32) ≤ nI i) from nI_ge (b := 24) hi (by omega)), l6_isCell m1 w1 hi, Option.bind_some]
      by_cases hc : tb i = 0
      · rw [show zx tb dz i = 0 from if_neg (fun q => q.1 hc)] at ih
        rw [if_pos (show nI (zc tb i) = 0 by rw [zc_0.mpr hc]; rfl), show (0 : Int32) = nI 0 from rfl, nI_add, pz_d hi (by omega), Option.bind_some]
        have := mx (pz_su (zx tb dz) i + 0)
        rw [pz_d hi (by omega)] at this
        rw [this]
        exact ih
      · rw [if_neg (show ¬ (nI (zc tb i) = 0) from nI_ne0 (Nat.pos_of_ne_zero fun q => hc (zc_0.mp q)) (by have := zc_lt tb i; omega)), pz_d hi (by omega), Option.bind_some, Option.bind_some]
        by_cases hz : dz i = 0
        · rw [show zx tb dz i = 1 from if_pos ⟨hc, hz⟩] at ih
          rw [if_pos (show dep' i = -5 by rw [a2 i hi, if_pos hz]), nI_1]
          have := mx (pz_su (zx tb dz) i + 1)
          rw [pz_d hi (by omega)] at this
          rw [this]
          exact ih
        · rw [show zx tb dz i = 0 from if_neg (fun q => hz q.2)] at ih
          rw [if_neg (show ¬ (dep' i = -5) by rw [a2 i hi, if_neg hz]; exact nI_ne5 (by omega)), Option.bind_some, show (0 : Int32) = nI 0 from rfl, nI_add]
          have := mx (pz_su (zx tb dz) i + 0)
          rw [pz_d hi (by omega)] at this
          rw [this]
          exact ih
  refine ⟨dep', bit', ?_⟩
  unfold f_X6_ofDepths
  rw [a1, Option.bind_some]
  refine (st _ 24 0 xFu (by omega) (by unfold xFu; omega)).trans ?_
  by_cases hx : x = 0
  · rw [if_pos hx, if_pos hx]
  · rw [if_neg hx, if_neg hx]
/-- cells less those that are settled -/
theorem zx_su {tb sr : Nat → Nat} {st : ls_T} (hI : ls_I tb sr st) : pz_su (zc tb) 24 = pz_su (zx tb st.1) 24 + st.2.2 := by
  rw [hI.1, ← pz_su_add]
  refine pz_su_eq (fun i hi => ?_)
  unfold zc zx ls_n
  by_cases h1 : tb i = 0
  · have h2 : st.1 i = 0 := by
      refine Classical.byContradiction fun q => ?_
      obtain ⟨j, hj, he⟩ := hI.2.2.2.1 i hi q
      have := (hI.2.2.1 j hj).2.1
      rw [he] at this
      exact this h1
    rw [if_pos h1, if_neg (fun q => q.1 h1), if_pos h2]
  · rw [if_neg h1]
    by_cases h2 : st.1 i = 0
    · rw [if_pos ⟨h1, h2⟩, if_pos h2]
    · rw [if_neg (fun q => h2 q.2), if_neg h2]
theorem o_count (R : RR b s hs hn pm hb Sg ln st ik le now pst snp txt) (Dp Sq dep bit hld : Nat → Int32) (se p1 : Int32) : ∃ v Dp' Sq' se' hld' dep' bit', f_X5_count b hn Dp Sq se ln p1 = some (v, Dp', Sq', se') ∧ f_X6_count st le now hld dep bit p1 = some (v, hld', dep', bit') := by
  obtain ⟨tb, sr, lg, jn, hd, cp, su, hB⟩ := id R.1
  obtain ⟨c1, c2, c3, c4, c5, c6, c7, hm, w1, w2, w3, w4, w5, w6⟩ := id hB
  obtain ⟨m1, m2, m3, m4, m5⟩ := id hm
  have hh : ∀ s, s < 48 → hd s ≤ 100000 := fun s hs => by have := wH_le w4 w6 hs; omega
  obtain ⟨-, -, h, hle, hn1, hst1, -⟩ := R.2.1
  obtain ⟨c, hc, hln, hle1⟩ := R.2.2.2.1
  unfold f_X5_count f_X6_count
  by_cases h0 : p1 = 0
  · rw [if_pos h0, if_pos h0, l0_cells c1 w1, Option.bind_some, l6_cells m1 w1, Option.bind_some]
    exact ⟨_, Dp, Sq, se, hld, dep, bit, rfl, rfl⟩
  rw [if_neg h0, if_neg h0]
  by_cases h1 : p1 = 1
  · rw [if_pos h1, if_pos h1, l0_wires c2 w2.1, Option.bind_some, l6_wires m1 m2 w1 w2, Option.bind_some]
    exact ⟨_, Dp, Sq, se, hld, dep, bit, rfl, rfl⟩
  rw [if_neg h1, if_neg h1]
  by_cases h2 : p1 = 2
  · rw [if_pos h2, if_pos h2, l0_segsOfAll c3, Option.bind_some, l6_segments m3 w4.1, Option.bind_some]
    exact ⟨_, Dp, Sq, se, hld, dep, bit, rfl, rfl⟩
  rw [if_neg h2, if_neg h2]
  by_cases h3 : p1 = 3
  · obtain ⟨hld', e⟩ := l6_full hld hm w3 w4 w6
    rw [if_pos h3, if_pos h3, c6, l0_fullSegs c5 hh w3.2.1, Option.bind_some, e, Option.bind_some]
    exact ⟨_, Dp, Sq, se, hld', dep, bit, rfl, rfl⟩
  rw [if_neg h3, if_neg h3]
  by_cases h4 : p1 = 4
  · obtain ⟨hld', k1, k2⟩ := l6_mostHeld_most (h := hld) m3 m4 w4 w6
    unfold f_X6_most
    rw [if_pos h4, if_pos h4, l0_mostHeld c5 hh, Option.bind_some, k1, Option.bind_some, l6_mostHeld k2 hh, Option.bind_some]
    exact ⟨_, Dp, Sq, se, hld', dep, bit, rfl, rfl⟩
  rw [if_neg h4, if_neg h4]
  by_cases h5 : p1 = 5
  · obtain ⟨Dp', Sq', e1, e2, e3⟩ := l3_study (Dp := Dp) (Sq := Sq) (se := se) c1 c2 w1 w2.1
    obtain ⟨dep', bit', e4⟩ := l6_ofDepths m1 m2 w1 w2 dep bit 0
    have hI := ls_I_i tb sr 24
    have hx := zx_su hI
    unfold f_X3_cellsThatAnswer
    rw [if_pos h5, if_pos h5, if_neg (show ¬ (p1 = 6) by rw [h5]; decide), e1, Option.bind_some, e4, Option.bind_some, if_pos rfl]
    try dsimp only
    rw [l0_cells c1 w1, Option.bind_some, Option.bind_some, pk_sub (by omega), hx, Nat.add_sub_cancel]
    exact ⟨_, Dp', Sq', _, hld, dep', bit', rfl, rfl⟩
  rw [if_neg h5, if_neg h5]
  by_cases h6 : p1 = 6
  · obtain ⟨Dp', Sq', e1, e2, e3⟩ := l3_study (Dp := Dp) (Sq := Sq) (se := se) c1 c2 w1 w2.1
    obtain ⟨dep', bit', e4⟩ := l6_ofDepths m1 m2 w1 w2 dep bit 1
    have hI := ls_I_i tb sr 24
    have hle24 := ls_I_le hI
    rw [if_pos h6, if_pos h6, if_pos h6, e1, Option.bind_some, e4, Option.bind_some, if_neg (show ¬ ((1 : Int32) = 0) by decide)]
    try dsimp only
    rw [l3_greatest e2 (fun v hv => by have := hI.2.1 v hv; omega), Option.bind_some]
    exact ⟨_, Dp', Sq', _, hld, dep', bit', rfl, rfl⟩
  rw [if_neg h6, if_neg h6]
  by_cases h7 : p1 = 7
  · subst h7
    unfold f_X0_setting
    rw [if_pos rfl, if_pos rfl, if_pos rfl, Option.bind_some, show (1896 : Int32) + 7 - 7 = nI 1896 by decide, pz_d (by omega) (by omega), Option.bind_some, m5.1, c6]
    exact ⟨_, Dp, Sq, se, hld, dep, bit, rfl, rfl⟩
  rw [if_neg h7, if_neg h7]
  by_cases h8 : p1 = 8
  · subst h8
    unfold f_X0_setting
    rw [if_pos rfl, if_pos rfl, if_neg (show ¬ ((1 : Int32) = 0) by decide), Option.bind_some, show (1896 : Int32) + 8 - 7 = nI 1897 by decide, pz_d (by omega) (by omega), Option.bind_some, m5.2, c7]
    exact ⟨_, Dp, Sq, se, hld, dep, bit, rfl, rfl⟩
  rw [if_neg h8, if_neg h8]
  by_cases h9 : p1 = 9
  · unfold f_X1_size
    rw [if_pos h9, if_pos h9, Option.bind_some, hn1, hst1]
    exact ⟨_, Dp, Sq, se, hld, dep, bit, rfl, rfl⟩
  rw [if_neg h9, if_neg h9]
  by_cases h10 : p1 = 10
  · unfold f_X4_length
    rw [if_pos h10, if_pos h10, Option.bind_some, hln, hle1]
    exact ⟨_, Dp, Sq, se, hld, dep, bit, rfl, rfl⟩
  rw [if_neg h10, if_neg h10]
  exact ⟨-2, Dp, Sq, se, hld, dep, bit, rfl, rfl⟩
end OT
