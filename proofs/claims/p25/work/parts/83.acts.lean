/-! an act: nothing changed, or the state recorded and another board, whose sources are sources -/
def aE (m m' : xMu) : Prop := m'.1 = m.1 ∧ m'.2.2.1 = m.2.2.1 ∧ m'.2.2.2.1 = m.2.2.2.1 ∧ m'.2.2.2.2.1 = m.2.2.2.2.1 ∧ m'.2.2.2.2.2.1 = m.2.2.2.2.2.1 ∧ m'.2.2.2.2.2.2.1 = m.2.2.2.2.2.2.1
def aR (m m' : xMu) : Prop := f_X1_remember m.2.2.2.2.1 m.2.2.2.2.2.1 m.2.2.2.2.2.2.1 m.1 = some (m'.2.2.2.2.1, m'.2.2.2.2.2.1, m'.2.2.2.2.2.2.1) ∧ m'.2.2.1 = m.2.2.1 ∧ m'.2.2.2.1 = m.2.2.2.1
def aX (m m' : xMu) (v : Int32) : Prop := (v < 0 ∧ aE m m') ∨ (¬ v < 0 ∧ aR m m' ∧ (wV m.1 → wV m'.1))
theorem ce_nn {m : xMu} (J : GG m) {v : Int32} (h : f_X0_cells m.1.1 = some v) : ¬ v < 0 := by
  obtain ⟨st, ik, le, now, pst, snp, txt, R⟩ := J
  obtain ⟨⟨tb, sr, lg, jn, hd, cp, su, h1, h2, h3, h4, h5, h6, h7, h8, h9, -⟩, -⟩ := R
  rw [l0_cells h1 h9] at h
  rw [← Option.some.inj h]
  exact nI_pos (by have := pz_su_le (f := zc tb) (B := 1) (n := 24) (fun i _ => by have := zc_lt tb i; omega); omega)
theorem le_nn {m : xMu} (J : GG m) {v : Int32} {w : Nat} (hw : w < 72) (h : f_X0_lengthOf m.1.2.2.1 (nI w) = some v) : ¬ v < 0 := by
  obtain ⟨st, ik, le, now, pst, snp, txt, R⟩ := J
  obtain ⟨⟨tb, sr, lg, jn, hd, cp, su, h1, h2, h3, h4, h5, h6, h7, h8, h9, h10, h11, h12, -⟩, -⟩ := R
  rw [l0_lengthOf h3 hw] at h
  rw [← Option.some.inj h]
  exact nI_pos (by have := h12.1 w hw; omega)
theorem ta_nn {m : xMu} (J : GG m) {v x v1 : Int32} (hc : f_X0_hasCell m.1.1 x = some v1) (hv : ¬ v1 = 0) (h : f_X0_tableOf m.1.1 x = some v) : ¬ v < 0 := by
  obtain ⟨p, hp, rfl, hn⟩ := hc_of hc hv
  obtain ⟨st, ik, le, now, pst, snp, txt, R⟩ := J
  obtain ⟨⟨tb, sr, lg, jn, hd, cp, su, h1, h2, h3, h4, h5, h6, h7, h8, h9, -⟩, -⟩ := R
  rw [l0_tableOf h1 hp] at h
  rw [← Option.some.inj h, ← h1 p hp]
  rw [h1 p hp] at hn ⊢
  unfold cz_t at hn ⊢
  by_cases c : tb p = 0
  · rw [if_pos c] at hn; exact absurd rfl hn
  · rw [if_neg c]; exact nI_pos (by have := h9 p hp; omega)
theorem se_nn {m : xMu} (J : GG m) {v x : Int32} (h : f_X0_setting m.1.2.2.2.2.2.1 m.1.2.2.2.2.2.2 x = some v) : ¬ v < 0 := by
  obtain ⟨st, ik, le, now, pst, snp, txt, R⟩ := J
  obtain ⟨⟨tb, sr, lg, jn, hd, cp, su, h1, h2, h3, h4, h5, h6, h7, h8, h9, h10, h11, -⟩, -⟩ := R
  unfold f_X0_setting at h
  rw [h6, h7] at h
  by_cases c : x = 0
  · have h := it_i c h
    rw [← Option.some.inj h]; exact nI_pos (by have := h11.2.1; omega)
  · have h := ie_i c h
    rw [← Option.some.inj h]; exact nI_pos (by have := h11.2.2; omega)
theorem ct_w {T T' : Nat → Int32} {x y v : Int32} (hp : f_X5_isPlace x = some v) (hv : ¬ v = 0) {t : Nat} (ht : t < 256) (hy : y = nI t) (h : f_X0_changeTable T x y = some T') : ∀ q, q < 24 → T q ≠ -1 → T' q ≠ -1 := by
  obtain ⟨p, hp2, rfl⟩ := ip_of hp hv
  rw [l0_changeTable _ hp2] at h
  rw [← Option.some.inj h]
  intro q hq hn
  by_cases c : q = p
  · subst c
    rw [pz_us, hy]
    exact nI_nm1 (by omega)
  · rw [pz_un c]
    exact hn
theorem acc_eq {b t b' : xBd} {hn hn' : Int32} {pm pm' : Nat → Nat} {hb hb' : Nat → xBd} (h : f_X5_acceptTrial b t hn pm hb = some (b', hn', pm', hb')) : b' = t ∧ f_X1_remember hn pm hb b = some (hn', pm', hb') := by
  unfold f_X5_acceptTrial at h
  obtain ⟨⟨x1, x2, x3⟩, e1, h⟩ := ob_i h
  rw [copy_eq] at h
  have w := Option.some.inj h
  obtain ⟨z0, y0⟩ := Prod.mk.inj w
  rw [y0] at e1
  exact ⟨z0.symm, e1⟩
theorem or_eq {b t t' : xBd} {K K' : Nat → Int32} {x v : Int32} (h : f_X5_tryOrder b t K x = some (v, t', K')) : t'.1 = b.1 ∧ t'.2.1 = b.2.1 := by
  unfold f_X5_tryOrder at h
  rw [copy_eq] at h
  obtain ⟨⟨x1, x2, x3, x4, x5⟩, e1, h⟩ := ob_i (ob_v h)
  have w := Option.some.inj h
  obtain ⟨z0, y0⟩ := Prod.mk.inj w
  obtain ⟨z1, y1⟩ := Prod.mk.inj y0
  rw [← z1]
  exact ⟨rfl, rfl⟩
theorem sw_ex {m : xMu} (J : GG m) (V : wV m.1) {p1 p2 : Int32} {T' S' : Nat → Int32} {v1 v4 : Int32} (h1 : f_X5_isPlace p1 = some v1) (c1 : ¬ v1 = 0) (h2 : f_X5_isPlace p2 = some v4) (c2 : ¬ v4 = 0) (c3 : ¬ p1 = p2) (h : f_X0_exchange m.1.1 m.1.2.1 p1 p2 = some (T', S')) : ∀ w, w < 72 → iS T' (S' w) := by
  obtain ⟨p, hp, rfl⟩ := ip_of h1 c1
  obtain ⟨q, hq, rfl⟩ := ip_of h2 c2
  obtain ⟨st, ik, le, now, pst, snp, txt, R⟩ := J
  obtain ⟨⟨tb, sr, lg, jn, hd, cp, su, g1, g2, g3, g4, g5, g6, g7, g8, g9, g10, -⟩, -⟩ := R
  obtain ⟨T2, S2, e, a1, a2⟩ := l0_exchange hp hq (fun z => c3 (by rw [z])) g1 g2 g10.1
  rw [h] at e
  obtain ⟨z0, z1⟩ := Prod.mk.inj (Option.some.inj e)
  rw [← z0] at a1
  rw [← z1] at a2
  have hx := (xs_le hp hq g10.1).2
  intro w hw
  rw [a2 w hw]
  exact (iS_zq a1 (wT_x hp hq g9) (hx w hw)).mpr (zq_x hp hq ((wV_zq g1 g2 g9 g10.1).mp V) w hw)
theorem sw_eq {m : xMu} (J : GG m) (V : wV m.1) {t t' : xBd} {K K' : Nat → Int32} {p1 p2 v : Int32} (h : f_X5_trySwap m.1 t K p1 p2 = some (v, t', K')) (hv : ¬ v < 0) : wV t' := by
  unfold f_X5_trySwap at h
  obtain ⟨v1, e1, h⟩ := ob_i h
  by_cases c1 : v1 = 0
  · have h := it_i c1 h
    exact absurd (show v < 0 by rw [← (Prod.mk.inj (Option.some.inj h)).1]; decide) hv
  have h := ie_i c1 h
  obtain ⟨v4, e4, h⟩ := ob_i h
  by_cases c4 : v4 = 0
  · have h := it_i c4 h
    exact absurd (show v < 0 by rw [← (Prod.mk.inj (Option.some.inj h)).1]; decide) hv
  have h := ie_i c4 h
  by_cases c5 : p1 = p2
  · have h := it_i c5 h
    exact absurd (show v < 0 by rw [← (Prod.mk.inj (Option.some.inj h)).1]; decide) hv
  have h := ie_i c5 h
  have fin : (f_X0_copyFrom t.1 t.2.1 t.2.2.1 t.2.2.2.1 t.2.2.2.2.1 t.2.2.2.2.2.1 t.2.2.2.2.2.2 m.1.1 m.1.2.1 m.1.2.2.1 m.1.2.2.2.1 m.1.2.2.2.2.1 m.1.2.2.2.2.2.1 m.1.2.2.2.2.2.2).bind (fun (T11, S12, L13, J14, E15, cp16, su17) => (f_X0_exchange T11 S12 p1 p2).bind fun (T19, S20) => (f_X2_layAll K S20 L13 J14 E15 cp16 su17 0).bind fun (v22, K23, L24, J25, E26) => some (v22, (T19, S20, L24, J25, E26, cp16, su17), K23)) = some (v, t', K') → wV t' := by
    intro h
    rw [copy_eq] at h
    obtain ⟨⟨T19, S20⟩, e19, h⟩ := ob_i (ob_v h)
    obtain ⟨⟨v22, K23, L24, J25, E26⟩, e22, h⟩ := ob_i h
    obtain ⟨z0, y0⟩ := Prod.mk.inj (Option.some.inj h)
    obtain ⟨z1, y1⟩ := Prod.mk.inj y0
    rw [← z1]
    exact sw_ex J V e1 c1 e4 c4 c5 e19
  obtain ⟨v8, e8, h⟩ := ob_i h
  by_cases c8 : v8 = 0
  · have h := it_i c8 h
    obtain ⟨v28, e28, h⟩ := ob_i h
    by_cases c28 : v28 = 0
    · have h := it_i c28 h
      exact absurd (show v < 0 by rw [← (Prod.mk.inj (Option.some.inj h)).1]; decide) hv
    · have h := ie_i c28 h
      exact fin h
  · have h := ie_i c8 h
    exact fin h
theorem tk_eq {m : xMu} (J : GG m) (V : wV m.1) {x v1 v4 : Int32} {T' S' L' E' : Nat → Int32} (h1 : f_X0_hasCell m.1.1 x = some v1) (c1 : ¬ v1 = 0) (h2 : f_X0_usesByOthers m.1.2.1 x = some v4) (c2 : v4 ≤ 0) (h : f_X0_removeCell m.1.1 m.1.2.1 m.1.2.2.1 m.1.2.2.2.1 m.1.2.2.2.2.1 x = some (T', S', L', E')) : ∀ w, w < 72 → iS T' (S' w) := by
  obtain ⟨p, hp, rfl, -⟩ := hc_of h1 c1
  obtain ⟨st, ik, le, now, pst, snp, txt, R⟩ := J
  obtain ⟨⟨tb, sr, lg, jn, hd, cp, su, g1, g2, g3, g4, g5, g6, g7, g8, g9, g10, g11, g12, g13, g14⟩, -⟩ := R
  rw [l0_usesByOthers g2 g10.1 hp] at h2
  have hle : pz_su (fun w => if w / 3 = p then 0 else zu sr p w) 72 ≤ 72 * 1 := pz_su_le (fun i _ => by
    split
    · omega
    · exact zu_le _ _ _)
  have hz : pz_su (fun w => if w / 3 = p then 0 else zu sr p w) 72 = 0 := by
    have := Int32.le_iff_toInt_le.mp c2
    rw [← Option.some.inj h2, nI_toInt (by omega)] at this
    have h0 : (0 : Int32).toInt = 0 := rfl
    omega
  obtain ⟨T2, S2, L2, E2, e, a1, a2, -, -⟩ := l0_removeCell hp g1 g2 g3 g4 g5 g10.1 g12 g14 g13
  rw [h] at e
  obtain ⟨z0, y0⟩ := Prod.mk.inj (Option.some.inj e)
  obtain ⟨z1, y1⟩ := Prod.mk.inj y0
  rw [← z0] at a1
  rw [← z1] at a2
  have hb : wT (pz_up tb p 0) := fun q hq => by
    by_cases c : q = p
    · subst c; rw [pz_ups]; omega
    · rw [pz_upn c]; exact g9 q hq
  intro w hw
  rw [a2 w hw]
  have hs : zi sr p 3 32 w ≤ 33 := by
    unfold zi
    split
    · omega
    · exact g10.1 w hw
  exact (iS_zq a1 hb hs).mpr (zq_t hp ((wV_zq g1 g2 g9 g10.1).mp V) hz w hw)
theorem co_eq {m : xMu} (V : wV m.1) {p3 v7 x : Int32} {S' : Nat → Int32} (h7 : f_X0_isSource m.1.1 p3 = some v7) (c7 : ¬ v7 = 0) (h : f_X0_changeSource m.1.2.1 x p3 = some S') : ∀ w, w < 72 → iS m.1.1 (S' w) := by
  have hs := iS_of h7 c7
  unfold f_X0_changeSource at h
  obtain ⟨v1, e1, h⟩ := ob_i h
  by_cases c1 : v1 = 0
  · have h := it_i c1 h
    rw [← Option.some.inj h]
    exact V
  · have h := ie_i c1 h
    obtain ⟨S5, e5, h⟩ := ob_i h
    rw [← Option.some.inj h]
    obtain ⟨-, e6⟩ := xr_w_spec e5
    rw [← e6]
    intro w hw
    by_cases c : w = x.toNatClampNeg
    · rw [c, pz_us]; exact hs
    · rw [pz_un c]; exact V w hw
set_option maxHeartbeats 1000000 in
theorem ax_0 {a1 a2 a3 : Nat} {v : Int32} {m m' : xMu} (J : GG m) (h : qf_0 a1 a2 a3 m = some (v, m')) : aX m m' v := by
  have J' := gg_0 J h
  unfold qf_0 at h
  obtain ⟨⟨v0, b', hn', pm', hb'⟩, e, h⟩ := ob_i h
  have w0 := Option.some.inj h
  obtain ⟨q0, w1⟩ := Prod.mk.inj w0
  rw [← q0, ← w1]
  rw [← w1] at J'
  clear h w0 q0 w1
  unfold f_X5_put at e
  obtain ⟨v1, e1, e⟩ := ob_i e
  by_cases c2 : v1 = 0
  · have e := it_i c2 e
    have w := Option.some.inj e
    obtain ⟨z0, y0⟩ := Prod.mk.inj w
    obtain ⟨z1, y1⟩ := Prod.mk.inj y0
    obtain ⟨z2, y2⟩ := Prod.mk.inj y1
    obtain ⟨z3, y3⟩ := Prod.mk.inj y2
    exact Or.inl ⟨by rw [← z0]; decide, z1.symm, rfl, rfl, z2.symm, z3.symm, y3.symm⟩
  · have e := ie_i c2 e
    obtain ⟨v4, e3, e⟩ := ob_i e
    by_cases c4 : v4 = 0
    · have e := it_i c4 e
      have w := Option.some.inj e
      obtain ⟨z0, y0⟩ := Prod.mk.inj w
      obtain ⟨z1, y1⟩ := Prod.mk.inj y0
      obtain ⟨z2, y2⟩ := Prod.mk.inj y1
      obtain ⟨z3, y3⟩ := Prod.mk.inj y2
      exact Or.inl ⟨by rw [← z0]; decide, z1.symm, rfl, rfl, z2.symm, z3.symm, y3.symm⟩
    · have e := ie_i c4 e
      obtain ⟨v7, e5, e⟩ := ob_i e
      by_cases c6 : v7 = 0
      · have e := it_i c6 e
        obtain ⟨⟨hn10, pm11, hb12⟩, e7, e⟩ := ob_i e
        obtain ⟨T14, e8, e⟩ := ob_i e
        obtain ⟨v16, e9, e⟩ := ob_i e
        have w := Option.some.inj e
        obtain ⟨z0, y0⟩ := Prod.mk.inj w
        obtain ⟨z1, y1⟩ := Prod.mk.inj y0
        obtain ⟨z2, y2⟩ := Prod.mk.inj y1
        obtain ⟨z3, y3⟩ := Prod.mk.inj y2
        rw [z2, z3, y3] at e7
        rw [← z1] at J'
        refine Or.inr ⟨by rw [← z0]; exact ce_nn J' e9, ⟨e7, rfl, rfl⟩, fun V => ?_⟩
        obtain ⟨t, ht, hy⟩ := it_of e3 c4
        rw [← z1]
        exact fun w hw => iS_mono (ct_w e1 c2 ht hy e8) (V w hw)
      · have e := ie_i c6 e
        have w := Option.some.inj e
        obtain ⟨z0, y0⟩ := Prod.mk.inj w
        obtain ⟨z1, y1⟩ := Prod.mk.inj y0
        obtain ⟨z2, y2⟩ := Prod.mk.inj y1
        obtain ⟨z3, y3⟩ := Prod.mk.inj y2
        exact Or.inl ⟨by rw [← z0]; decide, z1.symm, rfl, rfl, z2.symm, z3.symm, y3.symm⟩
set_option maxHeartbeats 1000000 in
theorem ax_1 {a1 a2 a3 : Nat} {v : Int32} {m m' : xMu} (J : GG m) (h : qf_1 a1 a2 a3 m = some (v, m')) : aX m m' v := by
  have J' := gg_1 J h
  unfold qf_1 at h
  obtain ⟨⟨v0, b', hn', pm', hb'⟩, e, h⟩ := ob_i h
  have w0 := Option.some.inj h
  obtain ⟨q0, w1⟩ := Prod.mk.inj w0
  rw [← q0, ← w1]
  rw [← w1] at J'
  clear h w0 q0 w1
  unfold f_X5_take at e
  obtain ⟨v1, e1, e⟩ := ob_i e
  by_cases c2 : v1 = 0
  · have e := it_i c2 e
    have w := Option.some.inj e
    obtain ⟨z0, y0⟩ := Prod.mk.inj w
    obtain ⟨z1, y1⟩ := Prod.mk.inj y0
    obtain ⟨z2, y2⟩ := Prod.mk.inj y1
    obtain ⟨z3, y3⟩ := Prod.mk.inj y2
    exact Or.inl ⟨by rw [← z0]; decide, z1.symm, rfl, rfl, z2.symm, z3.symm, y3.symm⟩
  · have e := ie_i c2 e
    obtain ⟨v4, e3, e⟩ := ob_i e
    by_cases c4 : v4 ≤ 0
    · have e := it_i c4 e
      obtain ⟨⟨hn7, pm8, hb9⟩, e5, e⟩ := ob_i e
      obtain ⟨⟨T11, S12, L13, E14⟩, e6, e⟩ := ob_i e
      obtain ⟨v16, e7, e⟩ := ob_i e
      have w := Option.some.inj e
      obtain ⟨z0, y0⟩ := Prod.mk.inj w
      obtain ⟨z1, y1⟩ := Prod.mk.inj y0
      obtain ⟨z2, y2⟩ := Prod.mk.inj y1
      obtain ⟨z3, y3⟩ := Prod.mk.inj y2
      rw [z2, z3, y3] at e5
      rw [← z1] at J'
      refine Or.inr ⟨by rw [← z0]; exact ce_nn J' e7, ⟨e5, rfl, rfl⟩, fun V => ?_⟩
      rw [← z1]
      exact tk_eq J V e1 c2 e3 c4 e6
    · have e := ie_i c4 e
      have w := Option.some.inj e
      obtain ⟨z0, y0⟩ := Prod.mk.inj w
      obtain ⟨z1, y1⟩ := Prod.mk.inj y0
      obtain ⟨z2, y2⟩ := Prod.mk.inj y1
      obtain ⟨z3, y3⟩ := Prod.mk.inj y2
      exact Or.inl ⟨by rw [← z0]; decide, z1.symm, rfl, rfl, z2.symm, z3.symm, y3.symm⟩
set_option maxHeartbeats 1000000 in
theorem ax_2 {a1 a2 a3 : Nat} {v : Int32} {m m' : xMu} (J : GG m) (h : qf_2 a1 a2 a3 m = some (v, m')) : aX m m' v := by
  have J' := gg_2 J h
  unfold qf_2 at h
  obtain ⟨⟨v0, b', hn', pm', hb'⟩, e, h⟩ := ob_i h
  have w0 := Option.some.inj h
  obtain ⟨q0, w1⟩ := Prod.mk.inj w0
  rw [← q0, ← w1]
  rw [← w1] at J'
  clear h w0 q0 w1
  unfold f_X5_setTable at e
  obtain ⟨v1, e1, e⟩ := ob_i e
  by_cases c2 : v1 = 0
  · have e := it_i c2 e
    have w := Option.some.inj e
    obtain ⟨z0, y0⟩ := Prod.mk.inj w
    obtain ⟨z1, y1⟩ := Prod.mk.inj y0
    obtain ⟨z2, y2⟩ := Prod.mk.inj y1
    obtain ⟨z3, y3⟩ := Prod.mk.inj y2
    exact Or.inl ⟨by rw [← z0]; decide, z1.symm, rfl, rfl, z2.symm, z3.symm, y3.symm⟩
  · have e := ie_i c2 e
    obtain ⟨v4, e3, e⟩ := ob_i e
    by_cases c4 : v4 = 0
    · have e := it_i c4 e
      have w := Option.some.inj e
      obtain ⟨z0, y0⟩ := Prod.mk.inj w
      obtain ⟨z1, y1⟩ := Prod.mk.inj y0
      obtain ⟨z2, y2⟩ := Prod.mk.inj y1
      obtain ⟨z3, y3⟩ := Prod.mk.inj y2
      exact Or.inl ⟨by rw [← z0]; decide, z1.symm, rfl, rfl, z2.symm, z3.symm, y3.symm⟩
    · have e := ie_i c4 e
      obtain ⟨v7, e5, e⟩ := ob_i e
      by_cases c6 : v7 = nI a2
      · have e := it_i c6 e
        have w := Option.some.inj e
        obtain ⟨z0, y0⟩ := Prod.mk.inj w
        obtain ⟨z1, y1⟩ := Prod.mk.inj y0
        obtain ⟨z2, y2⟩ := Prod.mk.inj y1
        obtain ⟨z3, y3⟩ := Prod.mk.inj y2
        exact Or.inl ⟨by rw [← z0]; decide, z1.symm, rfl, rfl, z2.symm, z3.symm, y3.symm⟩
      · have e := ie_i c6 e
        obtain ⟨⟨hn10, pm11, hb12⟩, e7, e⟩ := ob_i e
        obtain ⟨T14, e8, e⟩ := ob_i e
        have w := Option.some.inj e
        obtain ⟨z0, y0⟩ := Prod.mk.inj w
        obtain ⟨z1, y1⟩ := Prod.mk.inj y0
        obtain ⟨z2, y2⟩ := Prod.mk.inj y1
        obtain ⟨z3, y3⟩ := Prod.mk.inj y2
        rw [z2, z3, y3] at e7
        refine Or.inr ⟨by rw [← z0]; exact ta_nn J e1 c2 e5, ⟨e7, rfl, rfl⟩, fun V => ?_⟩
        obtain ⟨t, ht, hy⟩ := it_of e3 c4
        obtain ⟨p, hp, hx, -⟩ := hc_of e1 c2
        rw [← z1]
        exact fun w hw => iS_mono (ct_w (show f_X5_isPlace (nI a1) = some (nI 1) by rw [hx]; exact hP_is hp) n1ne ht hy e8) (V w hw)
set_option maxHeartbeats 1000000 in
theorem ax_3 {a1 a2 a3 : Nat} {v : Int32} {m m' : xMu} (J : GG m) (h : qf_3 a1 a2 a3 m = some (v, m')) : aX m m' v := by
  have J' := gg_3 J h
  unfold qf_3 at h
  obtain ⟨⟨v0, b', t', hn', pm', hb', K'⟩, e, h⟩ := ob_i h
  have w0 := Option.some.inj h
  obtain ⟨q0, w1⟩ := Prod.mk.inj w0
  rw [← q0, ← w1]
  rw [← w1] at J'
  clear h w0 q0 w1
  unfold f_X5_connect at e
  obtain ⟨v1, e1, e⟩ := ob_i e
  by_cases c2 : v1 = 0
  · have e := it_i c2 e
    have w := Option.some.inj e
    obtain ⟨z0, y0⟩ := Prod.mk.inj w
    obtain ⟨z1, y1⟩ := Prod.mk.inj y0
    obtain ⟨z2, y2⟩ := Prod.mk.inj y1
    obtain ⟨z3, y3⟩ := Prod.mk.inj y2
    obtain ⟨z4, y4⟩ := Prod.mk.inj y3
    obtain ⟨z5, y5⟩ := Prod.mk.inj y4
    exact Or.inl ⟨by rw [← z0]; decide, z1.symm, rfl, rfl, z3.symm, z4.symm, z5.symm⟩
  · have e := ie_i c2 e
    obtain ⟨v4, e3, e⟩ := ob_i e
    by_cases c4 : v4 = 0
    · have e := it_i c4 e
      have w := Option.some.inj e
      obtain ⟨z0, y0⟩ := Prod.mk.inj w
      obtain ⟨z1, y1⟩ := Prod.mk.inj y0
      obtain ⟨z2, y2⟩ := Prod.mk.inj y1
      obtain ⟨z3, y3⟩ := Prod.mk.inj y2
      obtain ⟨z4, y4⟩ := Prod.mk.inj y3
      obtain ⟨z5, y5⟩ := Prod.mk.inj y4
      exact Or.inl ⟨by rw [← z0]; decide, z1.symm, rfl, rfl, z3.symm, z4.symm, z5.symm⟩
    · have e := ie_i c4 e
      obtain ⟨v7, e5, e⟩ := ob_i e
      by_cases c6 : v7 = 0
      · have e := it_i c6 e
        have w := Option.some.inj e
        obtain ⟨z0, y0⟩ := Prod.mk.inj w
        obtain ⟨z1, y1⟩ := Prod.mk.inj y0
        obtain ⟨z2, y2⟩ := Prod.mk.inj y1
        obtain ⟨z3, y3⟩ := Prod.mk.inj y2
        obtain ⟨z4, y4⟩ := Prod.mk.inj y3
        obtain ⟨z5, y5⟩ := Prod.mk.inj y4
        exact Or.inl ⟨by rw [← z0]; decide, z1.symm, rfl, rfl, z3.symm, z4.symm, z5.symm⟩
      · have e := ie_i c6 e
        obtain ⟨v10, e7, e⟩ := ob_i e
        by_cases c8 : v10 = nI a3
        · have e := it_i c8 e
          have w := Option.some.inj e
          obtain ⟨z0, y0⟩ := Prod.mk.inj w
          obtain ⟨z1, y1⟩ := Prod.mk.inj y0
          obtain ⟨z2, y2⟩ := Prod.mk.inj y1
          obtain ⟨z3, y3⟩ := Prod.mk.inj y2
          obtain ⟨z4, y4⟩ := Prod.mk.inj y3
          obtain ⟨z5, y5⟩ := Prod.mk.inj y4
          exact Or.inl ⟨by rw [← z0]; decide, z1.symm, rfl, rfl, z3.symm, z4.symm, z5.symm⟩
        · have e := ie_i c8 e
          obtain ⟨⟨T13, S14, L15, J16, E17, cp18, su19⟩, e9, e⟩ := ob_i e
          obtain ⟨⟨L21, E22⟩, e10, e⟩ := ob_i e
          obtain ⟨S24, e11, e⟩ := ob_i e
          obtain ⟨⟨v26, K27, L28, J29, E30⟩, e12, e⟩ := ob_i e
          by_cases c13 : v26 = 0
          · have e := it_i c13 e
            have w := Option.some.inj e
            obtain ⟨z0, y0⟩ := Prod.mk.inj w
            obtain ⟨z1, y1⟩ := Prod.mk.inj y0
            obtain ⟨z2, y2⟩ := Prod.mk.inj y1
            obtain ⟨z3, y3⟩ := Prod.mk.inj y2
            obtain ⟨z4, y4⟩ := Prod.mk.inj y3
            obtain ⟨z5, y5⟩ := Prod.mk.inj y4
            exact Or.inl ⟨by rw [← z0]; decide, z1.symm, rfl, rfl, z3.symm, z4.symm, z5.symm⟩
          · have e := ie_i c13 e
            obtain ⟨⟨b33, hn34, pm35, hb36⟩, e14, e⟩ := ob_i e
            obtain ⟨v38, e15, e⟩ := ob_i e
            have w := Option.some.inj e
            obtain ⟨z0, y0⟩ := Prod.mk.inj w
            obtain ⟨z1, y1⟩ := Prod.mk.inj y0
            obtain ⟨z2, y2⟩ := Prod.mk.inj y1
            obtain ⟨z3, y3⟩ := Prod.mk.inj y2
            obtain ⟨z4, y4⟩ := Prod.mk.inj y3
            obtain ⟨z5, y5⟩ := Prod.mk.inj y4
            obtain ⟨ab, ar⟩ := acc_eq e14
            rw [z3, z4, z5] at ar
            obtain ⟨p, hp, hx, -⟩ := hc_of e1 c2
            obtain ⟨i, hi, hy⟩ := ii_of e3 c4
            have hw : nI a1 * 3 + nI a2 = nI (p * 3 + i) := by rw [hx, hy, show (3 : Int32) = nI 3 from rfl, pk_mul, nI_add]
            rw [hw, z1] at e15
            refine Or.inr ⟨by rw [← z0]; exact le_nn J' (w := p * 3 + i) (by omega) e15, ⟨ar, rfl, rfl⟩, fun V => ?_⟩
            rw [← z1, ab]
            rw [copy_eq] at e9
            have hc := Option.some.inj e9
            have hT : m.1.1 = T13 := congrArg (fun x : xBd => x.1) hc
            have hS : m.1.2.1 = S14 := congrArg (fun x : xBd => x.2.1) hc
            rw [← hS] at e11
            have r := co_eq V e5 c6 e11
            rw [hT] at r
            exact r
set_option maxHeartbeats 1000000 in
theorem ax_4 {a1 a2 a3 : Nat} {v : Int32} {m m' : xMu} (J : GG m) (h : qf_4 a1 a2 a3 m = some (v, m')) : aX m m' v := by
  have J' := gg_4 J h
  unfold qf_4 at h
  obtain ⟨⟨v0, b', t', hn', pm', hb', K'⟩, e, h⟩ := ob_i h
  have w0 := Option.some.inj h
  obtain ⟨q0, w1⟩ := Prod.mk.inj w0
  rw [← q0, ← w1]
  rw [← w1] at J'
  clear h w0 q0 w1
  unfold f_X5_swap at e
  obtain ⟨⟨v1, t2, K3⟩, e1, e⟩ := ob_i e
  by_cases c2 : v1 < 0
  · have e := it_i c2 e
    have w := Option.some.inj e
    obtain ⟨z0, y0⟩ := Prod.mk.inj w
    obtain ⟨z1, y1⟩ := Prod.mk.inj y0
    obtain ⟨z2, y2⟩ := Prod.mk.inj y1
    obtain ⟨z3, y3⟩ := Prod.mk.inj y2
    obtain ⟨z4, y4⟩ := Prod.mk.inj y3
    obtain ⟨z5, y5⟩ := Prod.mk.inj y4
    exact Or.inl ⟨by rw [← z0]; exact c2, z1.symm, rfl, rfl, z3.symm, z4.symm, z5.symm⟩
  · have e := ie_i c2 e
    obtain ⟨⟨b6, hn7, pm8, hb9⟩, e3, e⟩ := ob_i e
    have w := Option.some.inj e
    obtain ⟨z0, y0⟩ := Prod.mk.inj w
    obtain ⟨z1, y1⟩ := Prod.mk.inj y0
    obtain ⟨z2, y2⟩ := Prod.mk.inj y1
    obtain ⟨z3, y3⟩ := Prod.mk.inj y2
    obtain ⟨z4, y4⟩ := Prod.mk.inj y3
    obtain ⟨z5, y5⟩ := Prod.mk.inj y4
    obtain ⟨ab, ar⟩ := acc_eq e3
    rw [z3, z4, z5] at ar
    refine Or.inr ⟨by rw [← z0]; exact c2, ⟨ar, rfl, rfl⟩, fun V => ?_⟩
    rw [← z1, ab]
    exact sw_eq J V e1 c2
set_option maxHeartbeats 1000000 in
theorem ax_5 {a1 a2 a3 : Nat} {v : Int32} {m m' : xMu} (J : GG m) (h : qf_5 a1 a2 a3 m = some (v, m')) : aX m m' v := by
  have J' := gg_5 J h
  unfold qf_5 at h
  obtain ⟨⟨v0, b', t', hn', pm', hb', K'⟩, e, h⟩ := ob_i h
  have w0 := Option.some.inj h
  obtain ⟨q0, w1⟩ := Prod.mk.inj w0
  rw [← q0, ← w1]
  rw [← w1] at J'
  clear h w0 q0 w1
  unfold f_X5_layAnew at e
  by_cases c1 : nI a1 < 0
  · have e := it_i c1 e
    have w := Option.some.inj e
    obtain ⟨z0, y0⟩ := Prod.mk.inj w
    obtain ⟨z1, y1⟩ := Prod.mk.inj y0
    obtain ⟨z2, y2⟩ := Prod.mk.inj y1
    obtain ⟨z3, y3⟩ := Prod.mk.inj y2
    obtain ⟨z4, y4⟩ := Prod.mk.inj y3
    obtain ⟨z5, y5⟩ := Prod.mk.inj y4
    exact Or.inl ⟨by rw [← z0]; decide, z1.symm, rfl, rfl, z3.symm, z4.symm, z5.symm⟩
  · have e := ie_i c1 e
    by_cases c2 : nI a1 < 3
    · have e := it_i c2 e
      obtain ⟨⟨v3, t4, K5⟩, e3, e⟩ := ob_i e
      by_cases c4 : v3 < 0
      · have e := it_i c4 e
        have w := Option.some.inj e
        obtain ⟨z0, y0⟩ := Prod.mk.inj w
        obtain ⟨z1, y1⟩ := Prod.mk.inj y0
        obtain ⟨z2, y2⟩ := Prod.mk.inj y1
        obtain ⟨z3, y3⟩ := Prod.mk.inj y2
        obtain ⟨z4, y4⟩ := Prod.mk.inj y3
        obtain ⟨z5, y5⟩ := Prod.mk.inj y4
        exact Or.inl ⟨by rw [← z0]; exact c4, z1.symm, rfl, rfl, z3.symm, z4.symm, z5.symm⟩
      · have e := ie_i c4 e
        obtain ⟨⟨b8, hn9, pm10, hb11⟩, e5, e⟩ := ob_i e
        have w := Option.some.inj e
        obtain ⟨z0, y0⟩ := Prod.mk.inj w
        obtain ⟨z1, y1⟩ := Prod.mk.inj y0
        obtain ⟨z2, y2⟩ := Prod.mk.inj y1
        obtain ⟨z3, y3⟩ := Prod.mk.inj y2
        obtain ⟨z4, y4⟩ := Prod.mk.inj y3
        obtain ⟨z5, y5⟩ := Prod.mk.inj y4
        obtain ⟨ab, ar⟩ := acc_eq e5
        rw [z3, z4, z5] at ar
        refine Or.inr ⟨by rw [← z0]; exact c4, ⟨ar, rfl, rfl⟩, fun V => ?_⟩
        rw [← z1, ab]
        obtain ⟨o1, o2⟩ := or_eq e3
        intro w hw
        rw [o1, o2]
        exact V w hw
    · have e := ie_i c2 e
      have w := Option.some.inj e
      obtain ⟨z0, y0⟩ := Prod.mk.inj w
      obtain ⟨z1, y1⟩ := Prod.mk.inj y0
      obtain ⟨z2, y2⟩ := Prod.mk.inj y1
      obtain ⟨z3, y3⟩ := Prod.mk.inj y2
      obtain ⟨z4, y4⟩ := Prod.mk.inj y3
      obtain ⟨z5, y5⟩ := Prod.mk.inj y4
      exact Or.inl ⟨by rw [← z0]; decide, z1.symm, rfl, rfl, z3.symm, z4.symm, z5.symm⟩
set_option maxHeartbeats 1000000 in
theorem ax_6 {a1 a2 a3 : Nat} {v : Int32} {m m' : xMu} (J : GG m) (h : qf_6 a1 a2 a3 m = some (v, m')) : aX m m' v := by
  have J' := gg_6 J h
  unfold qf_6 at h
  obtain ⟨⟨v0, b', hn', pm', hb'⟩, e, h⟩ := ob_i h
  have w0 := Option.some.inj h
  obtain ⟨q0, w1⟩ := Prod.mk.inj w0
  rw [← q0, ← w1]
  rw [← w1] at J'
  clear h w0 q0 w1
  unfold f_X5_set at e
  by_cases c1 : nI a1 = 0
  · have e := it_i c1 e
    by_cases c2 : nI a1 = 0
    · have e := it_i c2 e
      by_cases c3 : nI a2 < 1
      · have e := it_i c3 e
        have w := Option.some.inj e
        obtain ⟨z0, y0⟩ := Prod.mk.inj w
        obtain ⟨z1, y1⟩ := Prod.mk.inj y0
        obtain ⟨z2, y2⟩ := Prod.mk.inj y1
        obtain ⟨z3, y3⟩ := Prod.mk.inj y2
        exact Or.inl ⟨by rw [← z0]; decide, z1.symm, rfl, rfl, z2.symm, z3.symm, y3.symm⟩
      · have e := ie_i c3 e
        by_cases c4 : 4 < nI a2
        · have e := it_i c4 e
          have w := Option.some.inj e
          obtain ⟨z0, y0⟩ := Prod.mk.inj w
          obtain ⟨z1, y1⟩ := Prod.mk.inj y0
          obtain ⟨z2, y2⟩ := Prod.mk.inj y1
          obtain ⟨z3, y3⟩ := Prod.mk.inj y2
          exact Or.inl ⟨by rw [← z0]; decide, z1.symm, rfl, rfl, z2.symm, z3.symm, y3.symm⟩
        · have e := ie_i c4 e
          by_cases c5 : nI a1 = 0
          · have e := it_i c5 e
            obtain ⟨v48, e6, e⟩ := ob_i e
            by_cases c7 : v48 ≤ nI a2
            · have e := it_i c7 e
              obtain ⟨v51, e8, e⟩ := ob_i e
              by_cases c9 : v51 = nI a2
              · have e := it_i c9 e
                have w := Option.some.inj e
                obtain ⟨z0, y0⟩ := Prod.mk.inj w
                obtain ⟨z1, y1⟩ := Prod.mk.inj y0
                obtain ⟨z2, y2⟩ := Prod.mk.inj y1
                obtain ⟨z3, y3⟩ := Prod.mk.inj y2
                exact Or.inl ⟨by rw [← z0]; decide, z1.symm, rfl, rfl, z2.symm, z3.symm, y3.symm⟩
              · have e := ie_i c9 e
                obtain ⟨⟨hn54, pm55, hb56⟩, e10, e⟩ := ob_i e
                obtain ⟨⟨cp58, su59⟩, e11, e⟩ := ob_i e
                have w := Option.some.inj e
                obtain ⟨z0, y0⟩ := Prod.mk.inj w
                obtain ⟨z1, y1⟩ := Prod.mk.inj y0
                obtain ⟨z2, y2⟩ := Prod.mk.inj y1
                obtain ⟨z3, y3⟩ := Prod.mk.inj y2
                rw [z2, z3, y3] at e10
                refine Or.inr ⟨by rw [← z0]; exact se_nn J e8, ⟨e10, rfl, rfl⟩, fun V => ?_⟩
                rw [← z1]
                exact V
            · have e := ie_i c7 e
              have w := Option.some.inj e
              obtain ⟨z0, y0⟩ := Prod.mk.inj w
              obtain ⟨z1, y1⟩ := Prod.mk.inj y0
              obtain ⟨z2, y2⟩ := Prod.mk.inj y1
              obtain ⟨z3, y3⟩ := Prod.mk.inj y2
              exact Or.inl ⟨by rw [← z0]; decide, z1.symm, rfl, rfl, z2.symm, z3.symm, y3.symm⟩
          · have e := ie_i c5 e
            obtain ⟨v38, e12, e⟩ := ob_i e
            by_cases c13 : v38 = nI a2
            · have e := it_i c13 e
              have w := Option.some.inj e
              obtain ⟨z0, y0⟩ := Prod.mk.inj w
              obtain ⟨z1, y1⟩ := Prod.mk.inj y0
              obtain ⟨z2, y2⟩ := Prod.mk.inj y1
              obtain ⟨z3, y3⟩ := Prod.mk.inj y2
              exact Or.inl ⟨by rw [← z0]; decide, z1.symm, rfl, rfl, z2.symm, z3.symm, y3.symm⟩
            · have e := ie_i c13 e
              obtain ⟨⟨hn41, pm42, hb43⟩, e14, e⟩ := ob_i e
              obtain ⟨⟨cp45, su46⟩, e15, e⟩ := ob_i e
              have w := Option.some.inj e
              obtain ⟨z0, y0⟩ := Prod.mk.inj w
              obtain ⟨z1, y1⟩ := Prod.mk.inj y0
              obtain ⟨z2, y2⟩ := Prod.mk.inj y1
              obtain ⟨z3, y3⟩ := Prod.mk.inj y2
              rw [z2, z3, y3] at e14
              refine Or.inr ⟨by rw [← z0]; exact se_nn J e12, ⟨e14, rfl, rfl⟩, fun V => ?_⟩
              rw [← z1]
              exact V
    · have e := ie_i c2 e
      by_cases c16 : nI a2 < 0
      · have e := it_i c16 e
        have w := Option.some.inj e
        obtain ⟨z0, y0⟩ := Prod.mk.inj w
        obtain ⟨z1, y1⟩ := Prod.mk.inj y0
        obtain ⟨z2, y2⟩ := Prod.mk.inj y1
        obtain ⟨z3, y3⟩ := Prod.mk.inj y2
        exact Or.inl ⟨by rw [← z0]; decide, z1.symm, rfl, rfl, z2.symm, z3.symm, y3.symm⟩
      · have e := ie_i c16 e
        by_cases c17 : 9 < nI a2
        · have e := it_i c17 e
          have w := Option.some.inj e
          obtain ⟨z0, y0⟩ := Prod.mk.inj w
          obtain ⟨z1, y1⟩ := Prod.mk.inj y0
          obtain ⟨z2, y2⟩ := Prod.mk.inj y1
          obtain ⟨z3, y3⟩ := Prod.mk.inj y2
          exact Or.inl ⟨by rw [← z0]; decide, z1.symm, rfl, rfl, z2.symm, z3.symm, y3.symm⟩
        · have e := ie_i c17 e
          by_cases c18 : nI a1 = 0
          · have e := it_i c18 e
            obtain ⟨v19, e19, e⟩ := ob_i e
            by_cases c20 : v19 ≤ nI a2
            · have e := it_i c20 e
              obtain ⟨v22, e21, e⟩ := ob_i e
              by_cases c22 : v22 = nI a2
              · have e := it_i c22 e
                have w := Option.some.inj e
                obtain ⟨z0, y0⟩ := Prod.mk.inj w
                obtain ⟨z1, y1⟩ := Prod.mk.inj y0
                obtain ⟨z2, y2⟩ := Prod.mk.inj y1
                obtain ⟨z3, y3⟩ := Prod.mk.inj y2
                exact Or.inl ⟨by rw [← z0]; decide, z1.symm, rfl, rfl, z2.symm, z3.symm, y3.symm⟩
              · have e := ie_i c22 e
                obtain ⟨⟨hn25, pm26, hb27⟩, e23, e⟩ := ob_i e
                obtain ⟨⟨cp29, su30⟩, e24, e⟩ := ob_i e
                have w := Option.some.inj e
                obtain ⟨z0, y0⟩ := Prod.mk.inj w
                obtain ⟨z1, y1⟩ := Prod.mk.inj y0
                obtain ⟨z2, y2⟩ := Prod.mk.inj y1
                obtain ⟨z3, y3⟩ := Prod.mk.inj y2
                rw [z2, z3, y3] at e23
                refine Or.inr ⟨by rw [← z0]; exact se_nn J e21, ⟨e23, rfl, rfl⟩, fun V => ?_⟩
                rw [← z1]
                exact V
            · have e := ie_i c20 e
              have w := Option.some.inj e
              obtain ⟨z0, y0⟩ := Prod.mk.inj w
              obtain ⟨z1, y1⟩ := Prod.mk.inj y0
              obtain ⟨z2, y2⟩ := Prod.mk.inj y1
              obtain ⟨z3, y3⟩ := Prod.mk.inj y2
              exact Or.inl ⟨by rw [← z0]; decide, z1.symm, rfl, rfl, z2.symm, z3.symm, y3.symm⟩
          · have e := ie_i c18 e
            obtain ⟨v9, e25, e⟩ := ob_i e
            by_cases c26 : v9 = nI a2
            · have e := it_i c26 e
              have w := Option.some.inj e
              obtain ⟨z0, y0⟩ := Prod.mk.inj w
              obtain ⟨z1, y1⟩ := Prod.mk.inj y0
              obtain ⟨z2, y2⟩ := Prod.mk.inj y1
              obtain ⟨z3, y3⟩ := Prod.mk.inj y2
              exact Or.inl ⟨by rw [← z0]; decide, z1.symm, rfl, rfl, z2.symm, z3.symm, y3.symm⟩
            · have e := ie_i c26 e
              obtain ⟨⟨hn12, pm13, hb14⟩, e27, e⟩ := ob_i e
              obtain ⟨⟨cp16, su17⟩, e28, e⟩ := ob_i e
              have w := Option.some.inj e
              obtain ⟨z0, y0⟩ := Prod.mk.inj w
              obtain ⟨z1, y1⟩ := Prod.mk.inj y0
              obtain ⟨z2, y2⟩ := Prod.mk.inj y1
              obtain ⟨z3, y3⟩ := Prod.mk.inj y2
              rw [z2, z3, y3] at e27
              refine Or.inr ⟨by rw [← z0]; exact se_nn J e25, ⟨e27, rfl, rfl⟩, fun V => ?_⟩
              rw [← z1]
              exact V
  · have e := ie_i c1 e
    by_cases c29 : nI a1 = 1
    · have e := it_i c29 e
      by_cases c30 : nI a1 = 0
      · have e := it_i c30 e
        by_cases c31 : nI a2 < 1
        · have e := it_i c31 e
          have w := Option.some.inj e
          obtain ⟨z0, y0⟩ := Prod.mk.inj w
          obtain ⟨z1, y1⟩ := Prod.mk.inj y0
          obtain ⟨z2, y2⟩ := Prod.mk.inj y1
          obtain ⟨z3, y3⟩ := Prod.mk.inj y2
          exact Or.inl ⟨by rw [← z0]; decide, z1.symm, rfl, rfl, z2.symm, z3.symm, y3.symm⟩
        · have e := ie_i c31 e
          by_cases c32 : 4 < nI a2
          · have e := it_i c32 e
            have w := Option.some.inj e
            obtain ⟨z0, y0⟩ := Prod.mk.inj w
            obtain ⟨z1, y1⟩ := Prod.mk.inj y0
            obtain ⟨z2, y2⟩ := Prod.mk.inj y1
            obtain ⟨z3, y3⟩ := Prod.mk.inj y2
            exact Or.inl ⟨by rw [← z0]; decide, z1.symm, rfl, rfl, z2.symm, z3.symm, y3.symm⟩
          · have e := ie_i c32 e
            by_cases c33 : nI a1 = 0
            · have e := it_i c33 e
              obtain ⟨v108, e34, e⟩ := ob_i e
              by_cases c35 : v108 ≤ nI a2
              · have e := it_i c35 e
                obtain ⟨v111, e36, e⟩ := ob_i e
                by_cases c37 : v111 = nI a2
                · have e := it_i c37 e
                  have w := Option.some.inj e
                  obtain ⟨z0, y0⟩ := Prod.mk.inj w
                  obtain ⟨z1, y1⟩ := Prod.mk.inj y0
                  obtain ⟨z2, y2⟩ := Prod.mk.inj y1
                  obtain ⟨z3, y3⟩ := Prod.mk.inj y2
                  exact Or.inl ⟨by rw [← z0]; decide, z1.symm, rfl, rfl, z2.symm, z3.symm, y3.symm⟩
                · have e := ie_i c37 e
                  obtain ⟨⟨hn114, pm115, hb116⟩, e38, e⟩ := ob_i e
                  obtain ⟨⟨cp118, su119⟩, e39, e⟩ := ob_i e
                  have w := Option.some.inj e
                  obtain ⟨z0, y0⟩ := Prod.mk.inj w
                  obtain ⟨z1, y1⟩ := Prod.mk.inj y0
                  obtain ⟨z2, y2⟩ := Prod.mk.inj y1
                  obtain ⟨z3, y3⟩ := Prod.mk.inj y2
                  rw [z2, z3, y3] at e38
                  refine Or.inr ⟨by rw [← z0]; exact se_nn J e36, ⟨e38, rfl, rfl⟩, fun V => ?_⟩
                  rw [← z1]
                  exact V
              · have e := ie_i c35 e
                have w := Option.some.inj e
                obtain ⟨z0, y0⟩ := Prod.mk.inj w
                obtain ⟨z1, y1⟩ := Prod.mk.inj y0
                obtain ⟨z2, y2⟩ := Prod.mk.inj y1
                obtain ⟨z3, y3⟩ := Prod.mk.inj y2
                exact Or.inl ⟨by rw [← z0]; decide, z1.symm, rfl, rfl, z2.symm, z3.symm, y3.symm⟩
            · have e := ie_i c33 e
              obtain ⟨v98, e40, e⟩ := ob_i e
              by_cases c41 : v98 = nI a2
              · have e := it_i c41 e
                have w := Option.some.inj e
                obtain ⟨z0, y0⟩ := Prod.mk.inj w
                obtain ⟨z1, y1⟩ := Prod.mk.inj y0
                obtain ⟨z2, y2⟩ := Prod.mk.inj y1
                obtain ⟨z3, y3⟩ := Prod.mk.inj y2
                exact Or.inl ⟨by rw [← z0]; decide, z1.symm, rfl, rfl, z2.symm, z3.symm, y3.symm⟩
              · have e := ie_i c41 e
                obtain ⟨⟨hn101, pm102, hb103⟩, e42, e⟩ := ob_i e
                obtain ⟨⟨cp105, su106⟩, e43, e⟩ := ob_i e
                have w := Option.some.inj e
                obtain ⟨z0, y0⟩ := Prod.mk.inj w
                obtain ⟨z1, y1⟩ := Prod.mk.inj y0
                obtain ⟨z2, y2⟩ := Prod.mk.inj y1
                obtain ⟨z3, y3⟩ := Prod.mk.inj y2
                rw [z2, z3, y3] at e42
                refine Or.inr ⟨by rw [← z0]; exact se_nn J e40, ⟨e42, rfl, rfl⟩, fun V => ?_⟩
                rw [← z1]
                exact V
      · have e := ie_i c30 e
        by_cases c44 : nI a2 < 0
        · have e := it_i c44 e
          have w := Option.some.inj e
          obtain ⟨z0, y0⟩ := Prod.mk.inj w
          obtain ⟨z1, y1⟩ := Prod.mk.inj y0
          obtain ⟨z2, y2⟩ := Prod.mk.inj y1
          obtain ⟨z3, y3⟩ := Prod.mk.inj y2
          exact Or.inl ⟨by rw [← z0]; decide, z1.symm, rfl, rfl, z2.symm, z3.symm, y3.symm⟩
        · have e := ie_i c44 e
          by_cases c45 : 9 < nI a2
          · have e := it_i c45 e
            have w := Option.some.inj e
            obtain ⟨z0, y0⟩ := Prod.mk.inj w
            obtain ⟨z1, y1⟩ := Prod.mk.inj y0
            obtain ⟨z2, y2⟩ := Prod.mk.inj y1
            obtain ⟨z3, y3⟩ := Prod.mk.inj y2
            exact Or.inl ⟨by rw [← z0]; decide, z1.symm, rfl, rfl, z2.symm, z3.symm, y3.symm⟩
          · have e := ie_i c45 e
            by_cases c46 : nI a1 = 0
            · have e := it_i c46 e
              obtain ⟨v79, e47, e⟩ := ob_i e
              by_cases c48 : v79 ≤ nI a2
              · have e := it_i c48 e
                obtain ⟨v82, e49, e⟩ := ob_i e
                by_cases c50 : v82 = nI a2
                · have e := it_i c50 e
                  have w := Option.some.inj e
                  obtain ⟨z0, y0⟩ := Prod.mk.inj w
                  obtain ⟨z1, y1⟩ := Prod.mk.inj y0
                  obtain ⟨z2, y2⟩ := Prod.mk.inj y1
                  obtain ⟨z3, y3⟩ := Prod.mk.inj y2
                  exact Or.inl ⟨by rw [← z0]; decide, z1.symm, rfl, rfl, z2.symm, z3.symm, y3.symm⟩
                · have e := ie_i c50 e
                  obtain ⟨⟨hn85, pm86, hb87⟩, e51, e⟩ := ob_i e
                  obtain ⟨⟨cp89, su90⟩, e52, e⟩ := ob_i e
                  have w := Option.some.inj e
                  obtain ⟨z0, y0⟩ := Prod.mk.inj w
                  obtain ⟨z1, y1⟩ := Prod.mk.inj y0
                  obtain ⟨z2, y2⟩ := Prod.mk.inj y1
                  obtain ⟨z3, y3⟩ := Prod.mk.inj y2
                  rw [z2, z3, y3] at e51
                  refine Or.inr ⟨by rw [← z0]; exact se_nn J e49, ⟨e51, rfl, rfl⟩, fun V => ?_⟩
                  rw [← z1]
                  exact V
              · have e := ie_i c48 e
                have w := Option.some.inj e
                obtain ⟨z0, y0⟩ := Prod.mk.inj w
                obtain ⟨z1, y1⟩ := Prod.mk.inj y0
                obtain ⟨z2, y2⟩ := Prod.mk.inj y1
                obtain ⟨z3, y3⟩ := Prod.mk.inj y2
                exact Or.inl ⟨by rw [← z0]; decide, z1.symm, rfl, rfl, z2.symm, z3.symm, y3.symm⟩
            · have e := ie_i c46 e
              obtain ⟨v69, e53, e⟩ := ob_i e
              by_cases c54 : v69 = nI a2
              · have e := it_i c54 e
                have w := Option.some.inj e
                obtain ⟨z0, y0⟩ := Prod.mk.inj w
                obtain ⟨z1, y1⟩ := Prod.mk.inj y0
                obtain ⟨z2, y2⟩ := Prod.mk.inj y1
                obtain ⟨z3, y3⟩ := Prod.mk.inj y2
                exact Or.inl ⟨by rw [← z0]; decide, z1.symm, rfl, rfl, z2.symm, z3.symm, y3.symm⟩
              · have e := ie_i c54 e
                obtain ⟨⟨hn72, pm73, hb74⟩, e55, e⟩ := ob_i e
                obtain ⟨⟨cp76, su77⟩, e56, e⟩ := ob_i e
                have w := Option.some.inj e
                obtain ⟨z0, y0⟩ := Prod.mk.inj w
                obtain ⟨z1, y1⟩ := Prod.mk.inj y0
                obtain ⟨z2, y2⟩ := Prod.mk.inj y1
                obtain ⟨z3, y3⟩ := Prod.mk.inj y2
                rw [z2, z3, y3] at e55
                refine Or.inr ⟨by rw [← z0]; exact se_nn J e53, ⟨e55, rfl, rfl⟩, fun V => ?_⟩
                rw [← z1]
                exact V
    · have e := ie_i c29 e
      have w := Option.some.inj e
      obtain ⟨z0, y0⟩ := Prod.mk.inj w
      obtain ⟨z1, y1⟩ := Prod.mk.inj y0
      obtain ⟨z2, y2⟩ := Prod.mk.inj y1
      obtain ⟨z3, y3⟩ := Prod.mk.inj y2
      exact Or.inl ⟨by rw [← z0]; decide, z1.symm, rfl, rfl, z2.symm, z3.symm, y3.symm⟩
