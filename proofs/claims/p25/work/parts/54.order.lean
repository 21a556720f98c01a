/-! the order in which wires are laid -/
def oz_d (sr : Nat → Nat) (w : Nat) : Nat := gz_di (gz_ju (sr w)) (w / 3)
/-- the turn at which a wire is due -/
def oz_t (sr : Nat → Nat) (o w : Nat) : Nat := if o = 0 then 0 else if o = 1 then 8 - oz_d sr w else oz_d sr w
def oz_k (sr : Nat → Nat) (o w : Nat) : Nat := 72 * oz_t sr o w + w
/-- still to be laid -/
def oz_c (sr dn : Nat → Nat) (w : Nat) : Prop := sr w < 32 ∧ dn w = 0
def cD (don : Nat → Int32) (dn : Nat → Nat) : Prop := ∀ w, w < 72 → don w = nI (dn w) ∧ dn w ≤ 1
theorem oz_d_le {sr : Nat → Nat} {w : Nat} (hw : w < 72) (h : sr w < 32) : oz_d sr w ≤ 8 := gz_di_le _ (gz_ju_lt _ h) _ (by omega)
theorem oz_t_le {sr : Nat → Nat} {o w : Nat} (hw : w < 72) (h : sr w < 32) : oz_t sr o w ≤ 8 := by
  have := oz_d_le hw h
  unfold oz_t
  split
  · omega
  · split <;> omega
def oz_inv (sr dn : Nat → Nat) (o i : Nat) (x : Int32) : Prop := (x = -5 ∧ ∀ v, v < i → ¬ oz_c sr dn v) ∨ ∃ w, w < i ∧ oz_c sr dn w ∧ (∀ v, v < i → oz_c sr dn v → oz_k sr o w ≤ oz_k sr o v) ∧ x = nI w
theorem nI_ne5 {w : Nat} (h : w < 2 ^ 31) : ¬ (nI w = -5) := fun q => by
  rw [show (-5 : Int32) = -nI 5 from rfl, pz_neg h (by omega) (by omega)] at q
  exact q
theorem nI_sub_le0 {a b : Nat} (ha : a < 100) (hb : b < 100) : (nI a - nI b ≤ 0) = (a ≤ b) := by
  rw [Int32.le_iff_toInt_le, pk_sub_toInt (by omega) (by omega)]
  refine propext ⟨fun h => ?_, fun h => ?_⟩
  · have : (a : Int) - b ≤ 0 := h
    omega
  · show (a : Int) - b ≤ 0
    omega
theorem nI_sub_ge0 {a b : Nat} (ha : a < 100) (hb : b < 100) : (0 ≤ nI a - nI b) = (b ≤ a) := by
  rw [Int32.le_iff_toInt_le, pk_sub_toInt (by omega) (by omega)]
  refine propext ⟨fun h => ?_, fun h => ?_⟩
  · have : 0 ≤ (a : Int) - b := h
    omega
  · show 0 ≤ (a : Int) - b
    omega
theorem l6_nextWire_6 {don r : Nat → Int32} {tb sr dn : Nat → Nat} {o : Nat} (hT : mT r tb) (hS : mS r sr) (hb : wT tb) (hs : wS tb sr) (hD : cD don dn) (ho : o < 3) (k : Int32 → Option Int32) : ∀ (m i n : Nat) (x : Int32), i + m = 72 → m < n → oz_inv sr dn o i x → ∃ x', f_X6_nextWire_6 don r (nI o) k n x (nI i) = k x' ∧ oz_inv sr dn o 72 x' := by
  intro m
  induction m with
  | zero =>
    intro i n x h1 h2 h3
    obtain ⟨n, rfl⟩ : ∃ q, n = q + 1 := ⟨n - 1, by omega⟩
    obtain rfl : i = 72 := by omega
    refine ⟨x, ?_, h3⟩
    unfold f_X6_nextWire_6
    rw [if_pos (show (72 : Int32) ≤ nI 72 from nI_le (a := 72) (Nat.le_refl _) (by omega))]
  | succ m ih =>
    intro i n x h1 h2 h3
    obtain ⟨n, rfl⟩ : ∃ q, n = q + 1 := ⟨n - 1, by omega⟩
    have hi : i < 72 := by omega
    -- the old best stays, or i is the new one
    have keep : (¬ oz_c sr dn i ∨ ∃ w, x = nI w ∧ w < i ∧ oz_k sr o w ≤ oz_k sr o i) → ∃ x', f_X6_nextWire_6 don r (nI o) k n x (nI i + 1) = k x' ∧ oz_inv sr dn o 72 x' := by
      intro hq
      rw [nI_1]
      refine ih (i + 1) n x (by omega) (by omega) ?_
      rcases h3 with ⟨q1, q2⟩ | ⟨w, q1, q2, q3, q4⟩
      · rcases hq with hq | ⟨w, e, hwi, -⟩
        · refine Or.inl ⟨q1, fun v hv => ?_⟩
          by_cases h : v = i
          · rw [h]; exact hq
          · exact q2 v (by omega)
        · exact absurd (e.symm.trans q1) (nI_ne5 (by omega))
      · refine Or.inr ⟨w, by omega, q2, fun v hv hc => ?_, q4⟩
        by_cases h : v = i
        · subst h
          rcases hq with hq | ⟨w', e, hw', hk⟩
          · exact absurd hc hq
          · rw [q4] at e
            have := (nI_eq (by omega) (by omega)).mp e
            subst this
            exact hk
        · exact q3 v (by omega) hc
    have take : oz_c sr dn i → (∀ w, x = nI w → w < i → oz_k sr o i ≤ oz_k sr o w) → ∃ x', f_X6_nextWire_6 don r (nI o) k n (nI i) (nI i + 1) = k x' ∧ oz_inv sr dn o 72 x' := by
      intro hc hq
      rw [nI_1]
      refine ih (i + 1) n (nI i) (by omega) (by omega) (Or.inr ⟨i, by omega, hc, fun v hv hcv => ?_, rfl⟩)
      by_cases h : v = i
      · rw [h]; exact Nat.le_refl _
      · rcases h3 with ⟨q1, q2⟩ | ⟨w, q1, q2, q3, q4⟩
        · exact absurd hcv (q2 v (by omega))
        · exact Nat.le_trans (hq w q4 q1) (q3 v (by omega) hcv)
    unfold f_X6_nextWire_6
    rw [if_neg (show ¬ ((72 : Int32) ≤ nI i) from nI_ge (b := 72) hi (by omega)), l6_isWire hT hS hb hs hi, Option.bind_some]
    by_cases hw : sr i < 32
    · rw [show zw sr i = 1 from if_pos hw, if_neg (show ¬ (nI 1 = 0) by decide), pz_d hi (by omega), Option.bind_some, (hD i hi).1]
      by_cases hd : dn i = 0
      · rw [if_pos (show nI (dn i) = 0 by rw [hd]; rfl)]
        have hdi := oz_d_le hi hw
        by_cases hx : x = -5
        · rw [if_pos hx, if_pos hx]
          exact take ⟨hw, hd⟩ (fun w e hwi => absurd (e.symm.trans hx) (nI_ne5 (by omega)))
        · rw [if_neg hx]
          rcases h3 with ⟨q1, q2⟩ | ⟨w, q1, q2, q3, q4⟩
          · exact absurd q1 hx
          have hdw := oz_d_le (show w < 72 by omega) q2.1
          by_cases h0 : o = 0
          · rw [if_pos (show nI o = 0 by rw [h0]; rfl), if_neg hx, if_neg (show ¬ (nI o = 1) by rw [h0]; decide)]
            exact keep (Or.inr ⟨w, q4, q1, by unfold oz_k oz_t; rw [if_pos h0, if_pos h0]; omega⟩)
          · rw [if_neg (show ¬ (nI o = 0) from nI_ne0 (by omega) (by omega)), l6_span hi hw (hS i hi), Option.bind_some, q4, l6_span (show w < 72 by omega) q2.1 (hS w (by omega)), Option.bind_some, if_neg (nI_ne5 (show w < 2 ^ 31 by omega)), ← q4]
            change ∃ x', (if nI o = 1 then if nI (oz_d sr i) - nI (oz_d sr w) ≤ 0 then _ else _ else if 0 ≤ nI (oz_d sr i) - nI (oz_d sr w) then _ else _) = _ ∧ _
            by_cases h1o : o = 1
            · rw [if_pos (show nI o = 1 by rw [h1o]; rfl)]
              by_cases hle : oz_d sr i ≤ oz_d sr w
              · rw [if_pos (by rw [nI_sub_le0 (by omega) (by omega)]; exact hle)]
                exact keep (Or.inr ⟨w, q4, q1, by unfold oz_k oz_t; rw [if_neg h0, if_pos h1o, if_neg h0, if_pos h1o]; omega⟩)
              · rw [if_neg (by rw [nI_sub_le0 (by omega) (by omega)]; exact hle)]
                refine take ⟨hw, hd⟩ (fun w' e hwi => ?_)
                rw [q4] at e
                have := (nI_eq (by omega) (by omega)).mp e
                subst this
                unfold oz_k oz_t
                rw [if_neg h0, if_pos h1o, if_neg h0, if_pos h1o]
                omega
            · rw [if_neg (show ¬ (nI o = 1) from fun q => h1o ((nI_eq (b := 1) (by omega) (by omega)).mp q))]
              by_cases hle : oz_d sr w ≤ oz_d sr i
              · rw [if_pos (by rw [nI_sub_ge0 (by omega) (by omega)]; exact hle)]
                exact keep (Or.inr ⟨w, q4, q1, by unfold oz_k oz_t; rw [if_neg h0, if_neg h1o, if_neg h0, if_neg h1o]; omega⟩)
              · rw [if_neg (by rw [nI_sub_ge0 (by omega) (by omega)]; exact hle)]
                refine take ⟨hw, hd⟩ (fun w' e hwi => ?_)
                rw [q4] at e
                have := (nI_eq (by omega) (by omega)).mp e
                subst this
                unfold oz_k oz_t
                rw [if_neg h0, if_neg h1o, if_neg h0, if_neg h1o]
                omega
      · rw [if_neg (show ¬ (nI (dn i) = 0) from nI_ne0 (by omega) (by have := (hD i hi).2; omega))]
        exact keep (Or.inl fun q => hd q.2)
    · rw [show zw sr i = 0 from if_neg hw, if_pos (show nI 0 = 0 from rfl)]
      exact keep (Or.inl fun q => hw q.1)
theorem l6_nextWire {don r : Nat → Int32} {tb sr dn : Nat → Nat} {o : Nat} (hT : mT r tb) (hS : mS r sr) (hb : wT tb) (hs : wS tb sr) (hD : cD don dn) (ho : o < 3) : ∃ x, f_X6_nextWire don r (nI o) = some x ∧ oz_inv sr dn o 72 x :=
  l6_nextWire_6 hT hS hb hs hD ho (fun x => some x) 72 0 xFu (-5) (by omega) (by unfold xFu; omega) (Or.inl ⟨rfl, fun v h => absurd h (Nat.not_lt_zero _)⟩)
/-! what laying a wire keeps -/
theorem wP_up {lg : Nat → Nat} {jn : Nat → Nat → Nat} {w n : Nat} {p : Nat → Nat} (hP : wP lg jn) (hn : n ≤ 23) (h1 : ∀ i, i ≤ n → p i < 24) (h2 : ∀ i, i < n → gz_be (p i) (p (i + 1)) = 1) : wP (pz_up lg w (n + 1)) (bz_jn jn w p) := by
  refine ⟨fun v hv => ?_, fun v hv k hk => ?_, fun v hv k hk => ?_⟩
  · by_cases h : v = w
    · subst h; rw [pz_ups]; omega
    · rw [pz_upn h]; exact hP.1 v hv
  · by_cases h : v = w
    · subst h; rw [pz_ups] at hk; rw [bz_jns]; exact h1 k (by omega)
    · rw [pz_upn h] at hk; rw [bz_jnn h]; exact hP.2.1 v hv k hk
  · by_cases h : v = w
    · subst h; rw [pz_ups] at hk; rw [bz_jns]; exact h2 k (by omega)
    · rw [pz_upn h] at hk; rw [bz_jnn h]; exact hP.2.2 v hv k hk
theorem wH_up {lg hd : Nat → Nat} {jn : Nat → Nat → Nat} {w n : Nat} {p : Nat → Nat} (hw : w < 72) (hH : wH lg jn hd) (h0 : lg w = 0) : wH (pz_up lg w (n + 1)) (bz_jn jn w p) (fun s => hd s + gz_ed p s n) := by
  intro s hs
  have e := pz_su_up (f := fun v => gz_ed (bz_jn jn w p v) s (pz_up lg w (n + 1) v - 1)) (g := fun v => gz_ed (jn v) s (lg v - 1)) (k := w) (n := 72) hw (fun i _ hne => by
    show gz_ed (bz_jn jn w p i) s (pz_up lg w (n + 1) i - 1) = gz_ed (jn i) s (lg i - 1)
    rw [bz_jnn hne, pz_upn hne])
  have e2 := hH s hs
  have e3 : gz_ed (bz_jn jn w p w) s (pz_up lg w (n + 1) w - 1) = gz_ed p s n := by rw [bz_jns, pz_ups]; rfl
  have e4 : gz_ed (jn w) s (lg w - 1) = 0 := by rw [h0]; rfl
  simp only [e3, e4] at e
  show hd s + gz_ed p s n = _
  omega
