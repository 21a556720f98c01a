/-! calls come to an end; restore, undo, keep; the past as a row of boards -/
theorem tt_0 {m : xMu} (J : GG m) (a1 a2 a3 : Nat) : ∃ (v : Int32) (m' : xMu), qf 0 a1 a2 a3 m = some (v, m') := by
  obtain ⟨st, ik, le, now, pst, snp, txt, R⟩ := J
  obtain ⟨vz, b'z, hn'z, pm'z, hb'z, st'z, now'z, pst'z, e, -⟩ := o_put R (nI a1) (nI a2)
  have h : ∃ (v : Int32) (m' : xMu), qf_0 a1 a2 a3 m = some (v, m') := by
    unfold qf_0
    exact ⟨_, _, ob_s e rfl⟩
  exact h
theorem tt_1 {m : xMu} (J : GG m) (a1 a2 a3 : Nat) : ∃ (v : Int32) (m' : xMu), qf 1 a1 a2 a3 m = some (v, m') := by
  obtain ⟨st, ik, le, now, pst, snp, txt, R⟩ := J
  obtain ⟨vz, b'z, hn'z, pm'z, hb'z, st'z, now'z, pst'z, e, -⟩ := o_take R (nI a1)
  have h : ∃ (v : Int32) (m' : xMu), qf_1 a1 a2 a3 m = some (v, m') := by
    unfold qf_1
    exact ⟨_, _, ob_s e rfl⟩
  exact h
theorem tt_2 {m : xMu} (J : GG m) (a1 a2 a3 : Nat) : ∃ (v : Int32) (m' : xMu), qf 2 a1 a2 a3 m = some (v, m') := by
  obtain ⟨st, ik, le, now, pst, snp, txt, R⟩ := J
  obtain ⟨vz, b'z, hn'z, pm'z, hb'z, st'z, now'z, pst'z, e, -⟩ := o_setTable R (nI a1) (nI a2)
  have h : ∃ (v : Int32) (m' : xMu), qf_2 a1 a2 a3 m = some (v, m') := by
    unfold qf_2
    exact ⟨_, _, ob_s e rfl⟩
  exact h
theorem tt_3 {m : xMu} (J : GG m) (a1 a2 a3 : Nat) : ∃ (v : Int32) (m' : xMu), qf 3 a1 a2 a3 m = some (v, m') := by
  obtain ⟨st, ik, le, now, pst, snp, txt, R⟩ := J
  obtain ⟨vz, b'z, t'z, hn'z, pm'z, hb'z, K'z, st'z, now'z, thn'z, pst'z, hld'z, far'z, e, -⟩ := o_connect R m.2.1 m.2.2.2.2.2.2.2.1 z0 z0 z0 (nI a1) (nI a2) (nI a3)
  have h : ∃ (v : Int32) (m' : xMu), qf_3 a1 a2 a3 m = some (v, m') := by
    unfold qf_3
    exact ⟨_, _, ob_s e rfl⟩
  exact h
theorem tt_4 {m : xMu} (J : GG m) (a1 a2 a3 : Nat) : ∃ (v : Int32) (m' : xMu), qf 4 a1 a2 a3 m = some (v, m') := by
  obtain ⟨st, ik, le, now, pst, snp, txt, R⟩ := J
  obtain ⟨vz, b'z, t'z, hn'z, pm'z, hb'z, K'z, st'z, now'z, thn'z, pst'z, H'z, F'z, D'z, e, -⟩ := o_swap R m.2.1 m.2.2.2.2.2.2.2.1 z0 z0 z0 z0 (nI a1) (nI a2)
  have h : ∃ (v : Int32) (m' : xMu), qf_4 a1 a2 a3 m = some (v, m') := by
    unfold qf_4
    exact ⟨_, _, ob_s e rfl⟩
  exact h
theorem tt_5 {m : xMu} (J : GG m) (a1 a2 a3 : Nat) : ∃ (v : Int32) (m' : xMu), qf 5 a1 a2 a3 m = some (v, m') := by
  obtain ⟨st, ik, le, now, pst, snp, txt, R⟩ := J
  obtain ⟨vz, b'z, t'z, hn'z, pm'z, hb'z, K'z, st'z, now'z, thn'z, pst'z, H'z, F'z, D'z, e, -⟩ := o_layAnew R m.2.1 m.2.2.2.2.2.2.2.1 z0 z0 z0 z0 (nI a1)
  have h : ∃ (v : Int32) (m' : xMu), qf_5 a1 a2 a3 m = some (v, m') := by
    unfold qf_5
    exact ⟨_, _, ob_s e rfl⟩
  exact h
theorem tt_6 {m : xMu} (J : GG m) (a1 a2 a3 : Nat) : ∃ (v : Int32) (m' : xMu), qf 6 a1 a2 a3 m = some (v, m') := by
  obtain ⟨st, ik, le, now, pst, snp, txt, R⟩ := J
  obtain ⟨vz, b'z, hn'z, pm'z, hb'z, st'z, now'z, pst'z, hld'z, e, -⟩ := o_set R z0 (nI a1) (nI a2)
  have h : ∃ (v : Int32) (m' : xMu), qf_6 a1 a2 a3 m = some (v, m') := by
    unfold qf_6
    exact ⟨_, _, ob_s e rfl⟩
  exact h
theorem tt_10 {m : xMu} (J : GG m) (a1 a2 a3 : Nat) : ∃ (v : Int32) (m' : xMu), qf 10 a1 a2 a3 m = some (v, m') := by
  obtain ⟨st, ik, le, now, pst, snp, txt, R⟩ := J
  obtain ⟨vz, b'z, hn'z, st'z, now'z, e, -⟩ := o_undo R 
  have h : ∃ (v : Int32) (m' : xMu), qf_10 a1 a2 a3 m = some (v, m') := by
    unfold qf_10
    exact ⟨_, _, ob_s e rfl⟩
  exact h
theorem tt_11 {m : xMu} (J : GG m) (a1 a2 a3 : Nat) : ∃ (v : Int32) (m' : xMu), qf 11 a1 a2 a3 m = some (v, m') := by
  obtain ⟨st, ik, le, now, pst, snp, txt, R⟩ := J
  obtain ⟨vz, hs'z, s'z, ik'z, snp'z, e, -⟩ := o_keep R 
  have h : ∃ (v : Int32) (m' : xMu), qf_11 a1 a2 a3 m = some (v, m') := by
    unfold qf_11
    exact ⟨_, _, ob_s e rfl⟩
  exact h
theorem tt_12 {m : xMu} (J : GG m) (a1 a2 a3 : Nat) : ∃ (v : Int32) (m' : xMu), qf 12 a1 a2 a3 m = some (v, m') := by
  obtain ⟨st, ik, le, now, pst, snp, txt, R⟩ := J
  obtain ⟨vz, b'z, hn'z, pm'z, hb'z, st'z, now'z, pst'z, e, -⟩ := o_restore R 
  have h : ∃ (v : Int32) (m' : xMu), qf_12 a1 a2 a3 m = some (v, m') := by
    unfold qf_12
    exact ⟨_, _, ob_s e rfl⟩
  exact h
theorem ax_12 {v : Int32} {m m' : xMu} (J : GG m) (h : qf_12 0 0 0 m = some (v, m')) (hs : ¬ m.2.2.2.1 = 0) : ¬ v < 0 ∧ aR m m' ∧ m'.1 = m.2.2.1 ∧ f_X0_cells m.2.2.1.1 = some v := by
  have J' := gg_12 J h
  unfold qf_12 at h
  obtain ⟨⟨v0, b', hn', pm', hb'⟩, e, h⟩ := ob_i h
  have w0 := Option.some.inj h
  obtain ⟨q0, w1⟩ := Prod.mk.inj w0
  rw [← q0, ← w1]
  rw [← w1] at J'
  clear h w0 q0 w1
  unfold f_X5_restore at e
  have e := ie_i hs e
  obtain ⟨⟨x1, x2, x3⟩, e1, e⟩ := ob_i e
  rw [copy_eq] at e
  obtain ⟨v14, e14, e⟩ := ob_i (ob_v e)
  have w := Option.some.inj e
  obtain ⟨z0, y0⟩ := Prod.mk.inj w
  obtain ⟨z1, y1⟩ := Prod.mk.inj y0
  rw [y1] at e1
  rw [z0] at e14
  rw [← z1] at J'
  exact ⟨ce_nn J' e14, ⟨e1, rfl, rfl⟩, z1.symm, e14⟩
theorem ax_10 {v : Int32} {m m' : xMu} (h : qf_10 0 0 0 m = some (v, m')) : (m.2.2.2.2.1 = 0 ∧ v = nI 4294967291 ∧ aE m m') ∨ (¬ m.2.2.2.2.1 = 0 ∧ v = m.2.2.2.2.1 - 1 ∧ m'.1 = m.2.2.2.2.2.2.1 (m.2.2.2.2.2.1 (m.2.2.2.2.1 - 1).toNatClampNeg) ∧ m'.2.2.1 = m.2.2.1 ∧ m'.2.2.2.1 = m.2.2.2.1 ∧ m'.2.2.2.2.1 = m.2.2.2.2.1 - 1 ∧ m'.2.2.2.2.2.1 = m.2.2.2.2.2.1 ∧ m'.2.2.2.2.2.2.1 = m.2.2.2.2.2.2.1) := by
  unfold qf_10 at h
  obtain ⟨⟨v0, b', hn'⟩, e, h⟩ := ob_i h
  have w0 := Option.some.inj h
  obtain ⟨q0, w1⟩ := Prod.mk.inj w0
  rw [← q0, ← w1]
  clear h w0 q0 w1
  unfold f_X5_undo at e
  obtain ⟨⟨v1, hn2, b3⟩, e1, e⟩ := ob_i e
  unfold f_X1_bringBack at e1
  by_cases c : m.2.2.2.2.1 = 0
  · have e1 := it_i c e1
    obtain ⟨x0, x1⟩ := Prod.mk.inj (Option.some.inj e1)
    obtain ⟨x2, x3⟩ := Prod.mk.inj x1
    have e := it_i (show v1 = 0 from x0.symm) e
    obtain ⟨z0, y0⟩ := Prod.mk.inj (Option.some.inj e)
    obtain ⟨z1, y1⟩ := Prod.mk.inj y0
    refine Or.inl ⟨c, z0.symm, ?_, rfl, rfl, ?_, rfl, rfl⟩
    · exact (x3.trans z1).symm
    · exact (x2.trans y1).symm
  · have e1 := ie_i c e1
    by_cases c2 : 0 ≤ (m.2.2.2.2.1 - 1).toInt ∧ (m.2.2.2.2.1 - 1).toInt < 4 ∧ m.2.2.2.2.2.1 (m.2.2.2.2.1 - 1).toNatClampNeg < 4
    · have e1 := it_i c2 e1
      rw [copy_eq] at e1
      obtain ⟨x0, x1⟩ := Prod.mk.inj (Option.some.inj (ob_v e1))
      obtain ⟨x2, x3⟩ := Prod.mk.inj x1
      have e := ie_i (show ¬ v1 = 0 by rw [← x0]; decide) e
      obtain ⟨v6, e6, e⟩ := ob_i e
      obtain ⟨z0, y0⟩ := Prod.mk.inj (Option.some.inj e)
      obtain ⟨z1, y1⟩ := Prod.mk.inj y0
      unfold f_X1_size at e6
      have e7 := Option.some.inj e6
      refine Or.inr ⟨c, ?_, (x3.trans z1).symm, rfl, rfl, (x2.trans y1).symm, rfl, rfl⟩
      rw [← z0, ← e7, ← x2]
    · have e1 := ie_i c2 e1
      cases e1
theorem ax_11 {v : Int32} {m m' : xMu} (h : qf_11 0 0 0 m = some (v, m')) : f_X0_cells m.1.1 = some v ∧ m'.1 = m.1 ∧ m'.2.2.1 = m.1 ∧ m'.2.2.2.1 = 1 ∧ m'.2.2.2.2.1 = m.2.2.2.2.1 ∧ m'.2.2.2.2.2.1 = m.2.2.2.2.2.1 ∧ m'.2.2.2.2.2.2.1 = m.2.2.2.2.2.2.1 := by
  unfold qf_11 at h
  obtain ⟨⟨v0, hs', s'⟩, e, h⟩ := ob_i h
  have w0 := Option.some.inj h
  obtain ⟨q0, w1⟩ := Prod.mk.inj w0
  rw [← q0, ← w1]
  clear h w0 q0 w1
  unfold f_X5_keep at e
  rw [copy_eq] at e
  obtain ⟨v9, e9, e⟩ := ob_i (ob_v e)
  obtain ⟨z0, y0⟩ := Prod.mk.inj (Option.some.inj e)
  obtain ⟨z1, y1⟩ := Prod.mk.inj y0
  rw [z0] at e9
  exact ⟨e9, rfl, y1.symm, z1.symm, rfl, rfl, rfl⟩
/-- the past: h states, the latest first, as boards -/
def Hs (hn : Int32) (pm : Nat → Nat) (hb : Nat → xBd) (L : List xBd) (h : Nat) : Prop := hn = nI h ∧ h ≤ 4 ∧ (∀ j, j < 4 → pm j < 4) ∧ (∀ i j, i < 4 → j < 4 → pm i = pm j → i = j) ∧ ∀ j, j < h → L[j]? = some (hb (pm (h - 1 - j)))
theorem Hs_rem {hn hn' : Int32} {pm pm' : Nat → Nat} {hb hb' : Nat → xBd} {b : xBd} {L : List xBd} {h : Nat} (H : Hs hn pm hb L h) (e : f_X1_remember hn pm hb b = some (hn', pm', hb')) : ∃ h', Hs hn' pm' hb' (b :: L) h' := by
  obtain ⟨rfl, h4, p1, p2, hL⟩ := H
  have rest : ∀ (g : Nat) (pq : Nat → Nat), g < 4 → (∀ j, j < 4 → pq j < 4) → (∀ i j, i < 4 → j < 4 → pq i = pq j → i = j) → (∀ j, j < g → L[j]? = some (hb (pq (g - 1 - j)))) → f_X1_rest (nI g) pq hb b = some (hn', pm', hb') → ∃ h', Hs hn' pm' hb' (b :: L) h' := by
    intro g pq hg q1 q2 hq e
    unfold f_X1_rest at e
    rw [nI_toInt (by omega), nI_clamp (by omega), if_pos ⟨by omega, by omega, q1 g hg⟩, copy_eq] at e
    obtain ⟨z0, y0⟩ := Prod.mk.inj (Option.some.inj (ob_v e))
    obtain ⟨z1, y1⟩ := Prod.mk.inj y0
    refine ⟨g + 1, ?_, by omega, by rw [← z1]; exact q1, by rw [← z1]; exact q2, fun j hj => ?_⟩
    · rw [← z0, nI_1]
    · rw [← z1, ← y1]
      cases j with
      | zero =>
        show some b = some (xh_set hb (pq g) b (pq (g + 1 - 1 - 0)))
        rw [show g + 1 - 1 - 0 = g by omega]
        exact congrArg some (if_pos rfl).symm
      | succ j =>
        show L[j]? = _
        rw [hq j (by omega), show g + 1 - 1 - (j + 1) = g - 1 - j by omega]
        refine congrArg some (if_neg (fun z => ?_)).symm
        have := q2 _ _ (by omega) hg z
        omega
  unfold f_X1_remember at e
  by_cases c : h < 4
  · have e := it_i (show nI h < 4 from nI_lt (b := 4) c (by omega)) e
    exact rest h pm c p1 p2 hL e
  · obtain rfl : h = 4 := by omega
    have e := ie_i (show ¬ nI 4 < 4 by decide) e
    have e := it_i (show pm 0 < 4 ∧ pm 1 < 4 ∧ pm 2 < 4 ∧ pm 3 < 4 from ⟨p1 0 (by omega), p1 1 (by omega), p1 2 (by omega), p1 3 (by omega)⟩) e
    have er : ∀ k, k < 4 → xh_rot pm k = pm ((k + 1) % 4) := fun k hk => by
      rcases (show k = 0 ∨ k = 1 ∨ k = 2 ∨ k = 3 by omega) with rfl | rfl | rfl | rfl <;> rfl
    refine rest 3 (xh_rot pm) (by omega) (fun j hj => by rw [er j hj]; exact p1 _ (by omega)) (fun i j hi hj z => ?_) (fun j hj => ?_) e
    · rw [er i hi, er j hj] at z
      have := p2 _ _ (by omega) (by omega) z
      omega
    · rw [hL j (by omega), er _ (by omega)]
      congr 3
      omega
theorem Hs_tl {pm : Nat → Nat} {hb : Nat → xBd} {b : xBd} {L : List xBd} {h : Nat} (H : Hs (nI (h + 1)) pm hb (b :: L) (h + 1)) : Hs (nI h) pm hb L h ∧ b = hb (pm h) := by
  obtain ⟨-, h4, p1, p2, hL⟩ := H
  refine ⟨⟨rfl, by omega, p1, p2, fun j hj => ?_⟩, ?_⟩
  · have := hL (j + 1) (by omega)
    rw [show h + 1 - 1 - (j + 1) = h - 1 - j by omega] at this
    exact this
  · have := hL 0 (by omega)
    rw [show h + 1 - 1 - 0 = h by omega] at this
    exact Option.some.inj this
/-- a state before is brought back -/
theorem Hs_undo {v : Int32} {m m' : xMu} {L : List xBd} {h : Nat} (H : Hs m.2.2.2.2.1 m.2.2.2.2.2.1 m.2.2.2.2.2.2.1 L h) (e : qf 10 0 0 0 m = some (v, m')) : (h = 0 ∧ v = nI 4294967291 ∧ aE m m') ∨ (∃ g b L', h = g + 1 ∧ L = b :: L' ∧ v = nI g ∧ m'.1 = b ∧ Hs m'.2.2.2.2.1 m'.2.2.2.2.2.1 m'.2.2.2.2.2.2.1 L' g ∧ m'.2.2.1 = m.2.2.1 ∧ m'.2.2.2.1 = m.2.2.2.1) := by
  have e0 := H.1
  rcases ax_10 (show qf_10 0 0 0 m = some (v, m') from e) with ⟨c, a1, a2⟩ | ⟨c, a1, a2, a3, a4, a5, a6, a7⟩
  · refine Or.inl ⟨?_, a1, a2⟩
    rw [e0] at c
    exact nI_inj' (by have := H.2.1; omega) (by omega) c
  · refine Or.inr ?_
    obtain ⟨g, rfl⟩ : ∃ g, h = g + 1 := ⟨h - 1, by
      have : h ≠ 0 := fun z => c (by rw [e0, z]; rfl)
      omega⟩
    have h4 := H.2.1
    have es : m.2.2.2.2.1 - 1 = nI g := by rw [e0]; exact pk_sub (a := g + 1) (b := 1) (by omega)
    have hL0 := H.2.2.2.2 0 (by omega)
    cases L with
    | nil => cases hL0
    | cons b L' =>
      rw [e0] at H
      obtain ⟨H1, H2⟩ := Hs_tl H
      refine ⟨g, b, L', rfl, rfl, by rw [a1, es], ?_, ?_, a3, a4⟩
      · rw [a2, es, nI_clamp (by omega), H2]
      · rw [a5, a6, a7, es]
        exact H1
