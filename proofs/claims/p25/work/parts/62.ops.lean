/-! single calls: cells, settings, text, the past, the snapshot -/
theorem cz_s (t : Nat) : cz_t (t + 1) = nI t := if_neg (by omega)
theorem mz_s (t : Nat) : mz_t (t + 1) = nI t := if_neg (by omega)
theorem nI_0a (p : Nat) : (0 : Int32) + nI p = nI p := by rw [show (0 : Int32) = nI 0 from rfl, nI_add, Nat.zero_add]
theorem bQ_table {b : xBd} {r : Nat → Int32} {tb sr lg : Nat → Nat} {jn : Nat → Nat → Nat} {hd : Nat → Nat} {cp su p t : Nat} (h : bQ b r tb sr lg jn hd cp su) (hp : p < 24) (ht : t < 256) : bQ (upd b.1 p (nI t), b.2.1, b.2.2.1, b.2.2.2.1, b.2.2.2.2.1, b.2.2.2.2.2.1, b.2.2.2.2.2.2) (upd r p (nI t)) (pz_up tb p (t + 1)) sr lg jn hd cp su := by
  obtain ⟨c1, c2, c3, c4, c5, c6, c7, ⟨m1, m2, m3, m4, m5, m6⟩, w1, w2, w3, w4, w5, w6⟩ := h
  refine ⟨?_, c2, c3, c4, c5, c6, c7, ⟨fun q hq => ?_, fun w hw => by rw [pz_un (by omega)]; exact m2 w hw, fun w hw => by rw [pz_un (by omega)]; exact m3 w hw, fun w hw k hk => by rw [pz_un (by omega)]; exact m4 w hw k hk, by rw [pz_un (by omega)]; exact m5, by rw [pz_un (by omega)]; exact m6⟩, fun q hq => ?_, ⟨w2.1, fun w hw hz => ?_⟩, w3, w4, w5, w6⟩
  · rw [← cz_s]; exact cT_up c1
  · by_cases h : q = p
    · subst h; rw [pz_us, pz_ups, mz_s]
    · rw [pz_un h, pz_upn h]; exact m1 q hq
  · by_cases h : q = p
    · subst h; rw [pz_ups]; omega
    · rw [pz_upn h]; exact w1 q hq
  · by_cases h : w / 3 = p
    · rw [h, pz_ups] at hz; omega
    · rw [pz_upn h] at hz; exact w2.2 w hw hz
section OP
variable {b s : xBd} {hs hn st ik le ln : Int32} {pm : Nat → Nat} {hb : Nat → xBd} {Sg now pst snp txt : Nat → Int32}
theorem o_put (R : RR b s hs hn pm hb Sg ln st ik le now pst snp txt) (p1 p2 : Int32) : ∃ v b' hn' pm' hb' st' now' pst', f_X5_put b hn pm hb p1 p2 = some (v, b', hn', pm', hb') ∧ f_X6_put st now pst p1 p2 = some (v, st', now', pst') ∧ RR b' s hs hn' pm' hb' Sg ln st' ik le now' pst' snp txt := by
  obtain ⟨⟨tb, sr, lg, jn, hd, cp, su, hB⟩, hH, hrest⟩ := id R
  obtain ⟨c1, c2, c3, c4, c5, c6, c7, ⟨m1, m2, m3, m4, m5⟩, w1, w2, w3, w4, w5, w6⟩ := id hB
  unfold f_X5_put f_X6_put
  rcases pz_ix p1 24 (by omega) with ⟨p, hp, rfl⟩ | hno
  · rw [l5_isPlace (by omega), l6_isPlace (by omega), if_pos hp, Option.bind_some, Option.bind_some, if_neg (show ¬ (nI 1 = 0) by decide), if_neg (show ¬ (nI 1 = 0) by decide)]
    rcases pz_ix p2 256 (by omega) with ⟨t, ht, rfl⟩ | hno2
    · rw [l5_isTable (by omega), if_pos ht, Option.bind_some, if_neg (show ¬ (nI 1 = 0) by decide), show f_X6_in (nI t) 0 255 = _ from l6_in (a := 0) (b := 255) (by omega) (by omega) (by omega), if_pos (show 0 ≤ t ∧ t ≤ 255 by omega), Option.bind_some, if_neg (show ¬ (nI 1 = 0) by decide), l0_hasCell c1 w1 hp, Option.bind_some, l6_isCell m1 w1 hp, Option.bind_some]
      by_cases hc : tb p = 0
      · obtain ⟨hn', pm', hb', st', pst', e1, e2, e3⟩ := l1_remember hH R.1
        have hB' := bQ_table hB hp ht
        have q1 := hB'.1
        have q2 := hB'.2.2.2.2.2.2.2.1.1
        have q3 := hB'.2.2.2.2.2.2.2.2.1
        rw [if_pos (show nI (zc tb p) = 0 by rw [zc_0.mpr hc]; rfl), if_pos (show nI (zc tb p) = 0 by rw [zc_0.mpr hc]; rfl), e1, Option.bind_some, e2, Option.bind_some]
        try dsimp only
        rw [l0_changeTable _ hp, Option.bind_some, l0_cells q1 q3, Option.bind_some, nI_0a, pz_w (by omega) (by omega), Option.bind_some, l6_cells q2 q3, Option.bind_some]
        exact ⟨_, _, hn', pm', hb', st', _, pst', rfl, rfl, ⟨_, _, _, _, _, _, _, hB'⟩, e3, hrest⟩
      · have hz : ¬ (nI (zc tb p) = 0) := nI_ne0 (Nat.pos_of_ne_zero fun q => hc (zc_0.mp q)) (by have := zc_lt tb p; omega)
        rw [if_neg hz, if_neg hz]
        exact ⟨-4, b, hn, pm, hb, st, now, pst, rfl, rfl, R⟩
    · rw [l5_isTable_no hno2, show f_X6_in p2 0 255 = _ from l6_in_no (b := 255) (by omega) hno2]
      exact ⟨-2, b, hn, pm, hb, st, now, pst, rfl, rfl, R⟩
  · rw [l5_isPlace_no hno, l6_isPlace_no hno]
    exact ⟨-1, b, hn, pm, hb, st, now, pst, rfl, rfl, R⟩
theorem bQ_take {r : Nat → Int32} {tb sr lg : Nat → Nat} {jn : Nat → Nat → Nat} {hd : Nat → Nat} {cp su p : Nat} (h : bQ b r tb sr lg jn hd cp su) (hp : p < 24) : ∃ T' S' L' E' r', f_X0_removeCell b.1 b.2.1 b.2.2.1 b.2.2.2.1 b.2.2.2.2.1 (nI p) = some (T', S', L', E') ∧ f_X6_empties r (nI p) = some r' ∧ bQ (T', S', L', b.2.2.2.1, E', b.2.2.2.2.2.1, b.2.2.2.2.2.2) r' (pz_up tb p 0) (zi sr p 3 32) (zi lg p 3 0) jn (zh (zi lg p 3 0) jn) cp su := by
  obtain ⟨c1, c2, c3, c4, c5, c6, c7, hm, w1, w2, w3, w4, w5, w6⟩ := h
  obtain ⟨T', S', L', E', e1, e2, e3, e4, e5⟩ := l0_removeCell hp c1 c2 c3 c4 c5 w2.1 w4 w6 w5
  obtain ⟨r', e6, e7⟩ := l6_empties hp w4.1 hm
  refine ⟨T', S', L', E', r', e1, e6, e2, e3, e4, cJ_zi c4 3, e5, c6, c7, e7, fun q hq => ?_, ⟨fun w hw => ?_, fun w hw hz => ?_⟩, w3, wP_zi w4 3, fun w hw => ?_, wH_zh _ _⟩
  · by_cases h : q = p
    · subst h; rw [pz_ups]; omega
    · rw [pz_upn h]; exact w1 q hq
  · have := w2.1 w hw
    unfold zi
    split <;> omega
  · unfold zi
    by_cases h : 3 * p ≤ w ∧ w < 3 * p + 3
    · rw [if_pos h]
    · rw [if_neg h]
      rw [pz_upn (by omega)] at hz
      exact w2.2 w hw hz
  · have := w5 w hw
    unfold zi
    by_cases h : 3 * p ≤ w ∧ w < 3 * p + 3
    · rw [if_pos h, if_pos h]; omega
    · rw [if_neg h, if_neg h]; exact this
theorem o_take (R : RR b s hs hn pm hb Sg ln st ik le now pst snp txt) (p1 : Int32) : ∃ v b' hn' pm' hb' st' now' pst', f_X5_take b hn pm hb p1 = some (v, b', hn', pm', hb') ∧ f_X6_take st now pst p1 = some (v, st', now', pst') ∧ RR b' s hs hn' pm' hb' Sg ln st' ik le now' pst' snp txt := by
  obtain ⟨⟨tb, sr, lg, jn, hd, cp, su, hB⟩, hH, hrest⟩ := id R
  obtain ⟨c1, c2, c3, c4, c5, c6, c7, ⟨m1, m2, m3, m4, m5⟩, w1, w2, w3, w4, w5, w6⟩ := id hB
  unfold f_X5_take f_X6_take
  rcases pz_ix p1 24 (by omega) with ⟨p, hp, rfl⟩ | hno
  · rw [l0_hasCell c1 w1 hp, Option.bind_some, l6_isCell m1 w1 hp, Option.bind_some]
    by_cases hc : tb p = 0
    · rw [if_pos (show nI (zc tb p) = 0 by rw [zc_0.mpr hc]; rfl), if_pos (show nI (zc tb p) = 0 by rw [zc_0.mpr hc]; rfl)]
      exact ⟨-1, b, hn, pm, hb, st, now, pst, rfl, rfl, R⟩
    · have hz : ¬ (nI (zc tb p) = 0) := nI_ne0 (Nat.pos_of_ne_zero fun q => hc (zc_0.mp q)) (by have := zc_lt tb p; omega)
      have hub : pz_su (fun w => if w / 3 = p then 0 else zu sr p w) 72 ≤ 72 * 1 := pz_su_le (fun i _ => by have := zu_le sr p i; split <;> omega)
      rw [if_neg hz, if_neg hz, l0_usesByOthers c2 w2.1 hp, Option.bind_some, l6_having m1 m2 w1 w2 hp, Option.bind_some]
      by_cases hu : pz_su (fun w => if w / 3 = p then 0 else zu sr p w) 72 = 0
      · obtain ⟨hn', pm', hb', st', pst', e1, e2, e3⟩ := l1_remember hH R.1
        obtain ⟨T', S', L', E', r', e4, e5, hB'⟩ := bQ_take hB hp
        rw [hu, if_pos (show nI 0 ≤ 0 by decide), if_pos (show nI 0 ≤ 0 by decide), e1, Option.bind_some, e2, Option.bind_some]
        try dsimp only
        rw [e4, Option.bind_some, e5, Option.bind_some]
        try dsimp only
        rw [l0_cells hB'.1 hB'.2.2.2.2.2.2.2.2.1, Option.bind_some, l6_cells hB'.2.2.2.2.2.2.2.1.1 hB'.2.2.2.2.2.2.2.2.1, Option.bind_some]
        exact ⟨_, _, hn', pm', hb', st', _, pst', rfl, rfl, ⟨_, _, _, _, _, _, _, hB'⟩, e3, hrest⟩
      · rw [if_neg (show ¬ (nI _ ≤ 0) from nI_nle (Nat.pos_of_ne_zero hu) (by omega)), if_neg (show ¬ (nI _ ≤ 0) from nI_nle (Nat.pos_of_ne_zero hu) (by omega))]
        exact ⟨-4, b, hn, pm, hb, st, now, pst, rfl, rfl, R⟩
  · rw [l0_hasCell_no hno, l6_isCell_no hno]
    exact ⟨-1, b, hn, pm, hb, st, now, pst, rfl, rfl, R⟩
theorem o_setTable (R : RR b s hs hn pm hb Sg ln st ik le now pst snp txt) (p1 p2 : Int32) : ∃ v b' hn' pm' hb' st' now' pst', f_X5_setTable b hn pm hb p1 p2 = some (v, b', hn', pm', hb') ∧ f_X6_setTable st now pst p1 p2 = some (v, st', now', pst') ∧ RR b' s hs hn' pm' hb' Sg ln st' ik le now' pst' snp txt := by
  obtain ⟨⟨tb, sr, lg, jn, hd, cp, su, hB⟩, hH, hrest⟩ := id R
  obtain ⟨c1, c2, c3, c4, c5, c6, c7, ⟨m1, m2, m3, m4, m5⟩, w1, w2, w3, w4, w5, w6⟩ := id hB
  unfold f_X5_setTable f_X6_setTable
  rcases pz_ix p1 24 (by omega) with ⟨p, hp, rfl⟩ | hno
  · rw [l0_hasCell c1 w1 hp, Option.bind_some, l6_isCell m1 w1 hp, Option.bind_some]
    by_cases hc : tb p = 0
    · rw [if_pos (show nI (zc tb p) = 0 by rw [zc_0.mpr hc]; rfl), if_pos (show nI (zc tb p) = 0 by rw [zc_0.mpr hc]; rfl)]
      exact ⟨-1, b, hn, pm, hb, st, now, pst, rfl, rfl, R⟩
    · have hz : ¬ (nI (zc tb p) = 0) := nI_ne0 (Nat.pos_of_ne_zero fun q => hc (zc_0.mp q)) (by have := zc_lt tb p; omega)
      rw [if_neg hz, if_neg hz]
      rcases pz_ix p2 256 (by omega) with ⟨t, ht, rfl⟩ | hno2
      · rw [l5_isTable (by omega), if_pos ht, Option.bind_some, if_neg (show ¬ (nI 1 = 0) by decide), show f_X6_in (nI t) 0 255 = _ from l6_in (a := 0) (b := 255) (by omega) (by omega) (by omega), if_pos (show 0 ≤ t ∧ t ≤ 255 by omega), Option.bind_some, if_neg (show ¬ (nI 1 = 0) by decide), l0_tableOf c1 hp, Option.bind_some, nI_0a]
        unfold f_X6_becomes
        rw [pz_d (by omega) (by omega), Option.bind_some, m1 p hp, show cz_t (tb p) = nI (tb p - 1) from if_neg hc, show mz_t (tb p) = nI (tb p - 1) from if_neg hc]
        by_cases he : nI (tb p - 1) = nI t
        · rw [if_pos he, if_pos he]
          exact ⟨-5, b, hn, pm, hb, st, now, pst, rfl, rfl, R⟩
        · obtain ⟨hn', pm', hb', st', pst', e1, e2, e3⟩ := l1_remember hH R.1
          have hB' := bQ_table hB hp ht
          rw [if_neg he, if_neg he, e1, Option.bind_some, e2, Option.bind_some]
          try dsimp only
          rw [l0_changeTable _ hp, Option.bind_some, pz_w (by omega) (by omega), Option.bind_some]
          exact ⟨_, _, hn', pm', hb', st', _, pst', rfl, rfl, ⟨_, _, _, _, _, _, _, hB'⟩, e3, hrest⟩
      · rw [l5_isTable_no hno2, show f_X6_in p2 0 255 = _ from l6_in_no (b := 255) (by omega) hno2]
        exact ⟨-2, b, hn, pm, hb, st, now, pst, rfl, rfl, R⟩
  · rw [l0_hasCell_no hno, l6_isCell_no hno]
    exact ⟨-1, b, hn, pm, hb, st, now, pst, rfl, rfl, R⟩
theorem bQ_set0 {r : Nat → Int32} {tb sr lg : Nat → Nat} {jn : Nat → Nat → Nat} {hd : Nat → Nat} {cp su v : Nat} (h : bQ b r tb sr lg jn hd cp su) (h1 : 1 ≤ v) (h2 : v ≤ 4) : bQ (b.1, b.2.1, b.2.2.1, b.2.2.2.1, b.2.2.2.2.1, nI v, b.2.2.2.2.2.2) (upd r 1896 (nI v)) tb sr lg jn hd v su := by
  obtain ⟨c1, c2, c3, c4, c5, c6, c7, ⟨m1, m2, m3, m4, m5, m6⟩, w1, w2, w3, w4, w5, w6⟩ := h
  exact ⟨c1, c2, c3, c4, c5, rfl, c7, ⟨fun q hq => by rw [pz_un (by omega)]; exact m1 q hq, fun w hw => by rw [pz_un (by omega)]; exact m2 w hw, fun w hw => by rw [pz_un (by omega)]; exact m3 w hw, fun w hw k hk => by have := w4.1 w hw; rw [pz_un (by omega)]; exact m4 w hw k hk, pz_us, by rw [pz_un (by omega)]; exact m6⟩, w1, w2, ⟨h1, h2, w3.2.2⟩, w4, w5, w6⟩
theorem bQ_set1 {r : Nat → Int32} {tb sr lg : Nat → Nat} {jn : Nat → Nat → Nat} {hd : Nat → Nat} {cp su v : Nat} (h : bQ b r tb sr lg jn hd cp su) (h2 : v ≤ 9) : bQ (b.1, b.2.1, b.2.2.1, b.2.2.2.1, b.2.2.2.2.1, b.2.2.2.2.2.1, nI v) (upd r 1897 (nI v)) tb sr lg jn hd cp v := by
  obtain ⟨c1, c2, c3, c4, c5, c6, c7, ⟨m1, m2, m3, m4, m5, m6⟩, w1, w2, w3, w4, w5, w6⟩ := h
  exact ⟨c1, c2, c3, c4, c5, c6, rfl, ⟨fun q hq => by rw [pz_un (by omega)]; exact m1 q hq, fun w hw => by rw [pz_un (by omega)]; exact m2 w hw, fun w hw => by rw [pz_un (by omega)]; exact m3 w hw, fun w hw k hk => by have := w4.1 w hw; rw [pz_un (by omega)]; exact m4 w hw k hk, by rw [pz_un (by omega)]; exact m5, pz_us⟩, w1, w2, ⟨w3.1, w3.2.1, h2⟩, w4, w5, w6⟩
theorem o_set (R : RR b s hs hn pm hb Sg ln st ik le now pst snp txt) (hld : Nat → Int32) (p1 p2 : Int32) : ∃ v b' hn' pm' hb' st' now' pst' hld', f_X5_set b hn pm hb p1 p2 = some (v, b', hn', pm', hb') ∧ f_X6_set st now pst hld p1 p2 = some (v, st', now', pst', hld') ∧ RR b' s hs hn' pm' hb' Sg ln st' ik le now' pst' snp txt := by
  obtain ⟨⟨tb, sr, lg, jn, hd, cp, su, hB⟩, hH, hrest⟩ := id R
  obtain ⟨c1, c2, c3, c4, c5, c6, c7, ⟨m1, m2, m3, m4, m5, m6⟩, w1, w2, w3, w4, w5, w6⟩ := id hB
  obtain ⟨hld', k1, k2⟩ := l6_mostHeld_most (h := hld) m3 m4 w4 w6
  have hh : ∀ s, s < 48 → hd s ≤ 100000 := fun s hs => by have := wH_le w4 w6 hs; omega
  have hmx : pz_mx hd 48 ≤ 100000 := pz_mx_le hh
  unfold f_X5_set f_X6_set
  by_cases h0 : p1 = 0
  · subst h0
    rw [if_pos rfl, if_pos rfl, show f_X6_in (0 : Int32) 0 1 = some 1 by decide, Option.bind_some, if_neg (show ¬ ((1 : Int32) = 0) by decide), if_pos rfl, if_pos rfl]
    by_cases hlo : p2 < 1
    · rw [if_pos hlo, show f_X6_in p2 1 4 = some 0 by unfold f_X6_in; rw [if_pos hlo], Option.bind_some, if_pos rfl]
      exact ⟨-2, b, hn, pm, hb, st, now, pst, hld, rfl, rfl, R⟩
    · by_cases hhi : 4 < p2
      · rw [if_neg hlo, if_pos hhi, show f_X6_in p2 1 4 = some 0 by unfold f_X6_in; rw [if_neg hlo, if_pos hhi], Option.bind_some, if_pos rfl]
        exact ⟨-2, b, hn, pm, hb, st, now, pst, hld, rfl, rfl, R⟩
      · obtain ⟨k, hk, hv⟩ := ch_rng (a := 1) (b := 4) (by omega) (by omega) hlo hhi
        rw [if_neg hlo, if_neg hhi, show f_X6_in p2 1 4 = some 1 by unfold f_X6_in; rw [if_neg hlo, if_neg hhi], Option.bind_some, if_neg (show ¬ ((1 : Int32) = 0) by decide), k1, Option.bind_some, if_pos rfl, if_pos rfl, l0_mostHeld c5 hh, Option.bind_some, l6_mostHeld k2 hh, Option.bind_some]
        by_cases hm : pz_mx hd 48 ≤ 1 + k
        · rw [if_pos (by rw [hv]; exact nI_le hm (by omega)), if_pos (by rw [hv]; exact nI_le hm (by omega))]
          unfold f_X0_setting f_X6_becomes f_X0_changeSetting
          rw [if_pos rfl, if_pos rfl, Option.bind_some, show (1896 : Int32) + 0 = nI 1896 by decide, pz_d (by omega) (by omega), Option.bind_some, m5, c6, hv]
          by_cases he : nI cp = nI (1 + k)
          · rw [if_pos he, if_pos he]
            exact ⟨-5, b, hn, pm, hb, st, now, pst, hld', rfl, rfl, R⟩
          · obtain ⟨hn', pm', hb', st', pst', e1, e2, e3⟩ := l1_remember hH R.1
            have hB' := bQ_set0 (v := 1 + k) hB (by omega) (by omega)
            rw [if_neg he, if_neg he, e1, Option.bind_some, e2, Option.bind_some]
            try dsimp only
            rw [pz_w (by omega) (by omega), Option.bind_some, Option.bind_some]
            exact ⟨_, _, hn', pm', hb', st', _, pst', hld', rfl, rfl, ⟨_, _, _, _, _, _, _, hB'⟩, e3, hrest⟩
        · rw [if_neg (by rw [hv]; exact nI_ge (by omega) (by omega)), if_neg (by rw [hv]; exact nI_ge (by omega) (by omega))]
          exact ⟨-4, b, hn, pm, hb, st, now, pst, hld', rfl, rfl, R⟩
  · rw [if_neg h0]
    by_cases h1 : p1 = 1
    · subst h1
      rw [if_pos rfl, if_neg h0, show f_X6_in (1 : Int32) 0 1 = some 1 by decide, Option.bind_some, if_neg (show ¬ ((1 : Int32) = 0) by decide), if_neg h0, if_neg h0]
      by_cases hlo : p2 < 0
      · rw [if_pos hlo, show f_X6_in p2 0 9 = some 0 by unfold f_X6_in; rw [if_pos hlo], Option.bind_some, if_pos rfl]
        exact ⟨-2, b, hn, pm, hb, st, now, pst, hld, rfl, rfl, R⟩
      · by_cases hhi : 9 < p2
        · rw [if_neg hlo, if_pos hhi, show f_X6_in p2 0 9 = some 0 by unfold f_X6_in; rw [if_neg hlo, if_pos hhi], Option.bind_some, if_pos rfl]
          exact ⟨-2, b, hn, pm, hb, st, now, pst, hld, rfl, rfl, R⟩
        · obtain ⟨k, hk, hv⟩ := ch_rng (a := 0) (b := 9) (by omega) (by omega) hlo hhi
          rw [if_neg hlo, if_neg hhi, show f_X6_in p2 0 9 = some 1 by unfold f_X6_in; rw [if_neg hlo, if_neg hhi], Option.bind_some, if_neg (show ¬ ((1 : Int32) = 0) by decide), k1, Option.bind_some, if_neg h0, if_neg h0]
          unfold f_X0_setting f_X6_becomes f_X0_changeSetting
          rw [if_neg h0, if_neg h0, Option.bind_some, show (1896 : Int32) + 1 = nI 1897 by decide, pz_d (by omega) (by omega), Option.bind_some, m6, c7, hv, Nat.zero_add]
          by_cases he : nI su = nI k
          · rw [if_pos he, if_pos he]
            exact ⟨-5, b, hn, pm, hb, st, now, pst, hld', rfl, rfl, R⟩
          · obtain ⟨hn', pm', hb', st', pst', e1, e2, e3⟩ := l1_remember hH R.1
            have hB' := bQ_set1 (v := k) hB (by omega)
            rw [if_neg he, if_neg he, e1, Option.bind_some, e2, Option.bind_some]
            try dsimp only
            rw [pz_w (by omega) (by omega), Option.bind_some, Option.bind_some]
            exact ⟨_, _, hn', pm', hb', st', _, pst', hld', rfl, rfl, ⟨_, _, _, _, _, _, _, hB'⟩, e3, hrest⟩
    · rw [if_neg h1]
      have e : f_X6_in p1 0 1 = some 0 := by
        unfold f_X6_in
        by_cases hlo : p1 < 0
        · rw [if_pos hlo]
        · rw [if_neg hlo]
          by_cases hhi : 1 < p1
          · rw [if_pos hhi]
          · exfalso
            obtain ⟨k, hk, hv⟩ := ch_rng (a := 0) (b := 1) (by omega) (by omega) hlo hhi
            rcases (show k = 0 ∨ k = 1 by omega) with rfl | rfl
            · exact h0 hv
            · exact h1 hv
      rw [e, Option.bind_some, if_pos rfl]
      exact ⟨-1, b, hn, pm, hb, st, now, pst, hld, rfl, rfl, R⟩
theorem o_type (R : RR b s hs hn pm hb Sg ln st ik le now pst snp txt) (p1 : Int32) : ∃ v Sg' ln' le' txt', f_X5_type Sg ln p1 = some (v, Sg', ln') ∧ f_X6_type le txt p1 = some (v, le', txt') ∧ RR b s hs hn pm hb Sg' ln' st ik le' now pst snp txt' := by
  obtain ⟨q1, q2, q3, ⟨c, hc, rfl, rfl⟩, q5⟩ := id R
  unfold f_X5_type f_X6_type f_X4_append f_X4_length
  by_cases h : c = 80
  · subst h
    rw [if_neg (show ¬ (nI 80 < 80) by decide), if_pos (show nI 80 = 80 from rfl), Option.bind_some]
    exact ⟨-6, Sg, nI 80, nI 80, txt, rfl, rfl, R⟩
  · rw [if_pos (show nI c < 80 from nI_lt (b := 80) (by omega) (by omega)), if_neg (show ¬ (nI c = 80) from fun q => h ((nI_eq (b := 80) (by omega) (by omega)).mp q)), pz_w (by omega) (by omega), Option.bind_some, pz_w (by omega) (by omega), Option.bind_some, Option.bind_some]
    try dsimp only
    rw [if_neg (show ¬ ((1 : Int32) = 0) by decide), Option.bind_some, nI_1]
    refine ⟨nI (c + 1), _, nI (c + 1), nI (c + 1), _, rfl, rfl, q1, q2, q3, ⟨c + 1, by omega, rfl, rfl⟩, fun k hk => ?_⟩
    by_cases hq : k = c
    · subst hq; rw [pz_us, pz_us]
    · rw [pz_un hq, pz_un hq]; exact q5 k hk
theorem o_clearText (R : RR b s hs hn pm hb Sg ln st ik le now pst snp txt) : ∃ v ln' le', f_X5_clearText ln = some (v, ln') ∧ f_X6_clearText le = some (v, le') ∧ RR b s hs hn pm hb Sg ln' st ik le' now pst snp txt := by
  obtain ⟨q1, q2, q3, ⟨c, hc, rfl, rfl⟩, q5⟩ := id R
  exact ⟨nI c, 0, 0, rfl, rfl, q1, q2, q3, ⟨0, by omega, rfl, rfl⟩, q5⟩
theorem o_undo (R : RR b s hs hn pm hb Sg ln st ik le now pst snp txt) : ∃ v b' hn' st' now', f_X5_undo b hn pm hb = some (v, b', hn') ∧ f_X6_undo st now pst = some (v, st', now') ∧ RR b' s hs hn' pm hb Sg ln st' ik le now' pst snp txt := by
  obtain ⟨q1, ⟨p1, p2, h, hle, rfl, rfl, hp⟩, q3, q4, q5⟩ := id R
  unfold f_X5_undo f_X6_undo f_X1_bringBack f_X1_size
  by_cases h0 : h = 0
  · subst h0
    rw [if_pos (show nI 0 = 0 from rfl), if_pos (show nI 0 = 0 from rfl), Option.bind_some]
    exact ⟨-5, b, nI 0, nI 0, now, rfl, rfl, R⟩
  · obtain ⟨k, rfl⟩ : ∃ k, h = k + 1 := ⟨h - 1, by omega⟩
    obtain ⟨t, e1, e2⟩ := l0_copy b (hb (pm k))
    obtain ⟨g, e3, e4, e5⟩ := l6_lays (N := 7592) (M := 1898) (f := pst) (g := now) (a := 1898 * k) (b := 0) (by omega) (by omega) (by omega) (by omega)
    rw [if_neg (show ¬ (nI (k + 1) = 0) from nI_ne0 (by omega) (by omega)), if_neg (show ¬ (nI (k + 1) = 0) from nI_ne0 (by omega) (by omega)), nI_pred, nI_toInt (by omega), nI_clamp (by omega), if_pos ⟨by omega, by omega, p1 k (by omega)⟩, e1, Option.bind_some, Option.bind_some]
    try dsimp only
    rw [if_neg (show ¬ ((1 : Int32) = 0) by decide), Option.bind_some, show (1898 : Int32) * nI k = nI (1898 * k) from pk_mul 1898 k, show (0 : Int32) = nI 0 from rfl, e3, Option.bind_some]
    refine ⟨nI k, t, nI k, nI k, g, rfl, rfl, bR_eq e2 (fun j hj => ?_) (hp k (by omega)), ⟨p1, p2, k, by omega, rfl, rfl, fun j hj => hp j (by omega)⟩, q3, q4, q5⟩
    have := e4 j hj
    rwa [Nat.zero_add] at this
theorem o_keep (R : RR b s hs hn pm hb Sg ln st ik le now pst snp txt) : ∃ v hs' s' ik' snp', f_X5_keep hs b s = some (v, hs', s') ∧ f_X6_keep ik now snp = some (v, ik', snp') ∧ RR b s' hs' hn pm hb Sg ln st ik' le now pst snp' txt := by
  obtain ⟨q1, q2, q3, q4, q5⟩ := id R
  obtain ⟨tb, sr, lg, jn, hd, cp, su, hB⟩ := id q1
  obtain ⟨t, e1, e2⟩ := l0_copy s b
  obtain ⟨g, e3, e4⟩ := l6_lays0 (f := now) (g := snp)
  unfold f_X5_keep f_X6_keep
  rw [e1, Option.bind_some, e3, Option.bind_some, l0_cells hB.1 hB.2.2.2.2.2.2.2.2.1, l6_cells hB.2.2.2.2.2.2.2.1.1 hB.2.2.2.2.2.2.2.2.1]
  exact ⟨_, 1, t, 1, g, rfl, rfl, q1, q2, Or.inr ⟨rfl, rfl, bR_eq e2 e4 q1⟩, q4, q5⟩
theorem o_restore (R : RR b s hs hn pm hb Sg ln st ik le now pst snp txt) : ∃ v b' hn' pm' hb' st' now' pst', f_X5_restore hs b s hn pm hb = some (v, b', hn', pm', hb') ∧ f_X6_restore st ik now pst snp = some (v, st', now', pst') ∧ RR b' s hs hn' pm' hb' Sg ln st' ik le now' pst' snp txt := by
  obtain ⟨q1, q2, q3, q4, q5⟩ := id R
  unfold f_X5_restore f_X6_restore
  rcases q3 with ⟨rfl, rfl⟩ | ⟨rfl, rfl, q3⟩
  · exact ⟨-5, b, hn, pm, hb, st, now, pst, rfl, rfl, R⟩
  · obtain ⟨hn', pm', hb', st', pst', e1, e2, e3⟩ := l1_remember q2 q1
    obtain ⟨t, e4, e5⟩ := l0_copy b s
    obtain ⟨g, e6, e7⟩ := l6_lays0 (f := snp) (g := now)
    have q := bR_eq e5 e7 q3
    obtain ⟨tb, sr, lg, jn, hd, cp, su, hB⟩ := id q
    rw [if_neg (show ¬ ((1 : Int32) = 0) by decide), if_neg (show ¬ ((1 : Int32) = 0) by decide), e1, Option.bind_some, e2, Option.bind_some]
    try dsimp only
    rw [e4, Option.bind_some, e6, Option.bind_some]
    try dsimp only
    rw [l0_cells hB.1 hB.2.2.2.2.2.2.2.2.1, l6_cells hB.2.2.2.2.2.2.2.1.1 hB.2.2.2.2.2.2.2.2.1]
    exact ⟨_, t, hn', pm', hb', st', g, pst', rfl, rfl, q, e3, Or.inr ⟨rfl, rfl, q3⟩, q4, q5⟩
end OP
