/-! THE STATE of both: a board and a row, the past, the snapshot, the text -/
def bQ (b : xBd) (r : Nat → Int32) (tb sr lg : Nat → Nat) (jn : Nat → Nat → Nat) (hd : Nat → Nat) (cp su : Nat) : Prop :=
  cT b.1 tb ∧ cS b.2.1 sr ∧ cL b.2.2.1 lg ∧ cJ b.2.2.2.1 lg jn ∧ cE b.2.2.2.2.1 hd ∧ b.2.2.2.2.2.1 = nI cp ∧ b.2.2.2.2.2.2 = nI su ∧ mR r tb sr lg jn cp su ∧ wT tb ∧ wS tb sr ∧ wC cp su ∧ wP lg jn ∧ wA sr lg ∧ wH lg jn hd
def bR (b : xBd) (r : Nat → Int32) : Prop := ∃ (tb sr lg : Nat → Nat) (jn : Nat → Nat → Nat) (hd : Nat → Nat) (cp su : Nat), bQ b r tb sr lg jn hd cp su
/-- the same board, place by place -/
def bE (t b : xBd) : Prop := (∀ p, p < 24 → t.1 p = b.1 p) ∧ (∀ w, w < 72 → t.2.1 w = b.2.1 w) ∧ (∀ w, w < 72 → t.2.2.1 w = b.2.2.1 w) ∧ (∀ x, x < 1728 → t.2.2.2.1 x = b.2.2.2.1 x) ∧ (∀ s, s < 48 → t.2.2.2.2.1 s = b.2.2.2.2.1 s) ∧ t.2.2.2.2.2.1 = b.2.2.2.2.2.1 ∧ t.2.2.2.2.2.2 = b.2.2.2.2.2.2
theorem bQ_eq {t b : xBd} {r r' : Nat → Int32} {tb sr lg : Nat → Nat} {jn : Nat → Nat → Nat} {hd : Nat → Nat} {cp su : Nat} (hE : bE t b) (hr : ∀ k, k < 1898 → r' k = r k) (h : bQ b r tb sr lg jn hd cp su) : bQ t r' tb sr lg jn hd cp su := by
  obtain ⟨e1, e2, e3, e4, e5, e6, e7⟩ := hE
  obtain ⟨h1, h2, h3, h4, h5, h6, h7, h8, h9, h10, h11, h12, h13, h14⟩ := h
  refine ⟨fun p hp => by rw [e1 p hp]; exact h1 p hp, fun w hw => by rw [e2 w hw]; exact h2 w hw, fun w hw => by rw [e3 w hw]; exact h3 w hw, fun w hw k hk => ?_, fun s hs => by rw [e5 s hs]; exact h5 s hs, by rw [e6]; exact h6, by rw [e7]; exact h7, mR_eq h12.1 hr h8, h9, h10, h11, h12, h13, h14⟩
  have := h12.1 w hw
  rw [e4 _ (by omega)]
  exact h4 w hw k hk
theorem bR_eq {t b : xBd} {r r' : Nat → Int32} (hE : bE t b) (hr : ∀ k, k < 1898 → r' k = r k) (h : bR b r) : bR t r' := by
  obtain ⟨tb, sr, lg, jn, hd, cp, su, h⟩ := h
  exact ⟨tb, sr, lg, jn, hd, cp, su, bQ_eq hE hr h⟩
/-- a board copied -/
theorem l0_copy (t b : xBd) : ∃ t' : xBd, f_X0_copyFrom t.1 t.2.1 t.2.2.1 t.2.2.2.1 t.2.2.2.2.1 t.2.2.2.2.2.1 t.2.2.2.2.2.2 b.1 b.2.1 b.2.2.1 b.2.2.2.1 b.2.2.2.2.1 b.2.2.2.2.2.1 b.2.2.2.2.2.2 = some t' ∧ bE t' b :=
  ⟨b, copy_eq _ _ _ _ _ _ _ b, fun _ _ => rfl, fun _ _ => rfl, fun _ _ => rfl, fun _ _ => rfl, fun _ _ => rfl, rfl, rfl⟩
/-- the past -/
def hR (hn : Int32) (pm : Nat → Nat) (hb : Nat → xBd) (st : Int32) (pst : Nat → Int32) : Prop := (∀ j, j < 4 → pm j < 4) ∧ (∀ i j, i < 4 → j < 4 → pm i = pm j → i = j) ∧ ∃ h, h ≤ 4 ∧ hn = nI h ∧ st = nI h ∧ ∀ j, j < h → bR (hb (pm j)) (fun k => pst (1898 * j + k))
theorem l1_rest {pm : Nat → Nat} {hb : Nat → xBd} {b : xBd} {j : Nat} (hj : j < 4) (hp : pm j < 4) : ∃ t, f_X1_rest (nI j) pm hb b = some (nI (j + 1), pm, xh_set hb (pm j) t) ∧ bE t b := by
  obtain ⟨t, e1, e2⟩ := l0_copy (hb (pm j)) b
  refine ⟨t, ?_, e2⟩
  unfold f_X1_rest
  rw [nI_toInt (by omega), nI_clamp (by omega), if_pos ⟨by omega, by omega, hp⟩, e1, Option.bind_some, nI_1]
theorem l1_remember {hn st : Int32} {pm : Nat → Nat} {hb : Nat → xBd} {b : xBd} {now pst : Nat → Int32} (hH : hR hn pm hb st pst) (hB : bR b now) : ∃ hn' pm' hb' st' pst', f_X1_remember hn pm hb b = some (hn', pm', hb') ∧ f_X6_records st now pst = some (st', pst') ∧ hR hn' pm' hb' st' pst' := by
  obtain ⟨p1, p2, h, hle, rfl, rfl, hs⟩ := hH
  obtain ⟨pst', r1, r2, r3⟩ := l6_records hle (now := now) (pst := pst)
  by_cases h4 : h = 4
  · subst h4
    have q0 : xh_rot pm 0 = pm 1 := rfl
    have q1 : xh_rot pm 1 = pm 2 := rfl
    have q2 : xh_rot pm 2 = pm 3 := rfl
    have q3 : xh_rot pm 3 = pm 0 := rfl
    obtain ⟨t, e1, e2⟩ := l1_rest (pm := xh_rot pm) (hb := hb) (b := b) (j := 3) (by omega) (by rw [q3]; exact p1 0 (by omega))
    refine ⟨nI 4, xh_rot pm, xh_set hb (xh_rot pm 3) t, nI 4, pst', ?_, r1, fun j hj => ?_, fun i j hi hj he => ?_, 4, Nat.le_refl _, rfl, rfl, fun j hj => ?_⟩
    · unfold f_X1_remember
      rw [if_neg (show ¬ (nI 4 < 4) by decide), if_pos ⟨p1 0 (by omega), p1 1 (by omega), p1 2 (by omega), p1 3 (by omega)⟩]
      exact e1
    · rcases (show j = 0 ∨ j = 1 ∨ j = 2 ∨ j = 3 by omega) with rfl | rfl | rfl | rfl
      · exact p1 1 (by omega)
      · exact p1 2 (by omega)
      · exact p1 3 (by omega)
      · exact p1 0 (by omega)
    · have e : ∀ k, k < 4 → xh_rot pm k = pm ((k + 1) % 4) := fun k hk => by
        rcases (show k = 0 ∨ k = 1 ∨ k = 2 ∨ k = 3 by omega) with rfl | rfl | rfl | rfl <;> rfl
      rw [e i hi, e j hj] at he
      have := p2 _ _ (by omega) (by omega) he
      omega
    · by_cases h3 : j = 3
      · subst h3
        rw [show xh_set hb (xh_rot pm 3) t (xh_rot pm 3) = t from if_pos rfl]
        refine bR_eq e2 (fun k hk => ?_) hB
        have := r3 k hk
        rw [if_pos rfl] at this
        exact this
      · have hj3 : j < 3 := by omega
        have e : xh_rot pm j = pm (j + 1) := by
          rcases (show j = 0 ∨ j = 1 ∨ j = 2 by omega) with rfl | rfl | rfl <;> rfl
        rw [e, q3, show xh_set hb (pm 0) t (pm (j + 1)) = hb (pm (j + 1)) from if_neg (fun q => by have := p2 _ _ (by omega) (by omega) q; omega)]
        refine bR_eq ⟨fun _ _ => rfl, fun _ _ => rfl, fun _ _ => rfl, fun _ _ => rfl, fun _ _ => rfl, rfl, rfl⟩ (fun k hk => ?_) (hs (j + 1) (by omega))
        have := r2 j k (by rw [if_pos rfl]; exact hj3) hk
        rw [if_pos rfl] at this
        exact this
  · rw [if_neg h4] at r1 r2 r3
    have r2 : ∀ j k, j < h → k < 1898 → pst' (1898 * j + k) = pst (1898 * j + k) := fun j k hj hk => by
      have := r2 j k hj hk
      rwa [if_neg h4] at this
    obtain ⟨t, e1, e2⟩ := l1_rest (pm := pm) (hb := hb) (b := b) (j := h) (by omega) (p1 h (by omega))
    refine ⟨nI (h + 1), pm, xh_set hb (pm h) t, nI (h + 1), pst', ?_, r1, p1, p2, h + 1, by omega, rfl, rfl, fun j hj => ?_⟩
    · unfold f_X1_remember
      rw [if_pos (show nI h < 4 from nI_lt (b := 4) (by omega) (by omega))]
      exact e1
    · by_cases hjh : j = h
      · subst hjh
        rw [show xh_set hb (pm j) t (pm j) = t from if_pos rfl]
        exact bR_eq e2 (fun k hk => r3 k hk) hB
      · rw [show xh_set hb (pm h) t (pm j) = hb (pm j) from if_neg (fun q => hjh (p2 _ _ (by omega) (by omega) q))]
        exact bR_eq ⟨fun _ _ => rfl, fun _ _ => rfl, fun _ _ => rfl, fun _ _ => rfl, fun _ _ => rfl, rfl, rfl⟩ (fun k hk => r2 j k (by omega) hk) (hs j (by omega))
/-- what was tried is so -/
theorem l5_accept {hn st : Int32} {pm : Nat → Nat} {hb : Nat → xBd} {b t : xBd} {now pst thn : Nat → Int32} (hH : hR hn pm hb st pst) (hB : bR b now) {tb sr lg : Nat → Nat} {jn : Nat → Nat → Nat} {hd : Nat → Nat} {cp su : Nat} (hT : bQ t thn tb sr lg jn hd cp su) : ∃ b' hn' pm' hb' st' now' pst', f_X5_acceptTrial b t hn pm hb = some (b', hn', pm', hb') ∧ f_X6_records st now pst = some (st', pst') ∧ f_X6_lays 1898 1898 thn now 0 0 = some now' ∧ hR hn' pm' hb' st' pst' ∧ bQ b' now' tb sr lg jn hd cp su := by
  obtain ⟨hn', pm', hb', st', pst', e1, e2, e3⟩ := l1_remember hH hB
  obtain ⟨b', e4, e5⟩ := l0_copy b t
  obtain ⟨g, e6, e7⟩ := l6_lays0 (f := thn) (g := now)
  refine ⟨b', hn', pm', hb', st', g, pst', ?_, e2, e6, e3, bQ_eq e5 e7 hT⟩
  unfold f_X5_acceptTrial
  rw [e1, Option.bind_some]
  try dsimp only
  rw [e4]
  rfl
/-- all of it -/
def RR (b s : xBd) (hs hn : Int32) (pm : Nat → Nat) (hb : Nat → xBd) (Sg : Nat → Int32) (ln st ik le : Int32) (now pst snp txt : Nat → Int32) : Prop :=
  bR b now ∧ hR hn pm hb st pst ∧ ((hs = 0 ∧ ik = 0) ∨ (hs = 1 ∧ ik = 1 ∧ bR s snp)) ∧ (∃ c, c ≤ 80 ∧ ln = nI c ∧ le = nI c) ∧ ∀ k, k < 80 → txt k = Sg k
