/-! which cells answer, how deep they are, what they answer -/
abbrev ls_T : Type := (Nat → Nat) × (Nat → Nat) × Nat
/-- one more than the greatest depth of a cell's sources; 0: one of them has none -/
def lu (dz sr : Nat → Nat) (p : Nat) : Nat → Nat
  | 0 => 1
  | i + 1 => if lu dz sr p i = 0 then 0 else if 24 ≤ sr (3 * p + i) then lu dz sr p i else if dz (sr (3 * p + i)) = 0 then 0 else if lu dz sr p i < dz (sr (3 * p + i)) + 1 then dz (sr (3 * p + i)) + 1 else lu dz sr p i
def ls_1 (tb sr : Nat → Nat) (st : ls_T) (p : Nat) : ls_T := if tb p ≠ 0 ∧ st.1 p = 0 ∧ lu st.1 sr p 3 ≠ 0 then (pz_up st.1 p (lu st.1 sr p 3), pz_up st.2.1 st.2.2 p, st.2.2 + 1) else st
def ls_p (tb sr : Nat → Nat) (st : ls_T) : Nat → ls_T
  | 0 => st
  | p + 1 => ls_1 tb sr (ls_p tb sr st p) p
def ls_i (tb sr : Nat → Nat) : Nat → ls_T
  | 0 => (fun _ => 0, fun _ => 0, 0)
  | i + 1 => ls_p tb sr (ls_i tb sr i) 24
def ls_n (dz : Nat → Nat) (v : Nat) : Nat := if dz v = 0 then 0 else 1
/-- what holds of what is settled -/
def ls_I (tb sr : Nat → Nat) (st : ls_T) : Prop := st.2.2 = pz_su (ls_n st.1) 24 ∧ (∀ v, v < 24 → st.1 v ≤ st.2.2) ∧ (∀ i, i < st.2.2 → st.2.1 i < 24 ∧ tb (st.2.1 i) ≠ 0 ∧ st.1 (st.2.1 i) ≠ 0) ∧ (∀ v, v < 24 → st.1 v ≠ 0 → ∃ i, i < st.2.2 ∧ st.2.1 i = v) ∧ (∀ i j, i < st.2.2 → j < st.2.2 → st.2.1 i = st.2.1 j → i = j) ∧ ∀ i, i < st.2.2 → ∀ j, j < 3 → sr (3 * st.2.1 i + j) < 24 → ∃ i', i' < i ∧ st.2.1 i' = sr (3 * st.2.1 i + j)
theorem lu_src {dz sr : Nat → Nat} {p : Nat} : ∀ {i : Nat}, lu dz sr p i ≠ 0 → ∀ j, j < i → sr (3 * p + j) < 24 → dz (sr (3 * p + j)) ≠ 0
  | 0, _, j, hj, _ => absurd hj (Nat.not_lt_zero _)
  | i + 1, h, j, hj, hs => by
    unfold lu at h
    split at h
    · exact absurd rfl h
    · next h0 =>
      by_cases hji : j = i
      · subst hji
        rw [if_neg (by omega)] at h
        split at h
        · exact absurd rfl h
        · assumption
      · exact lu_src h0 j (by omega) hs
theorem lu_le {dz sr : Nat → Nat} {p n : Nat} (h : ∀ v, v < 24 → dz v ≤ n) : ∀ i, lu dz sr p i ≤ n + 1
  | 0 => by show 1 ≤ n + 1; omega
  | i + 1 => by
    have := lu_le (sr := sr) (p := p) h i
    unfold lu
    split
    · omega
    · split
      · omega
      · next hq =>
        have := h (sr (3 * p + i)) (by omega)
        split
        · omega
        · split <;> omega
theorem ls_n_le (dz : Nat → Nat) (v : Nat) : ls_n dz v ≤ 1 := by unfold ls_n; split <;> omega
theorem ls_I_lt {tb sr : Nat → Nat} {st : ls_T} (h : ls_I tb sr st) {p : Nat} (hp : p < 24) (h0 : st.1 p = 0) : st.2.2 < 24 := by
  have h1 := pz_su_lt (f := ls_n st.1) (g := fun _ => 1) (k := p) (n := 24) (fun i _ => ls_n_le _ i) hp (by unfold ls_n; rw [if_pos h0]; omega)
  have h2 : pz_su (fun _ => 1) 24 = 24 := by decide
  have h3 := h.1
  omega
theorem ls_I_le {tb sr : Nat → Nat} {st : ls_T} (h : ls_I tb sr st) : st.2.2 ≤ 24 := by
  have h1 := pz_su_le (f := ls_n st.1) (B := 1) (n := 24) (fun i _ => ls_n_le _ i)
  have h3 := h.1
  omega
theorem ls_I_1 {tb sr : Nat → Nat} {st : ls_T} (h : ls_I tb sr st) {p : Nat} (hp : p < 24) : ls_I tb sr (ls_1 tb sr st p) := by
  unfold ls_1
  split
  · next hc =>
    obtain ⟨c1, c2, c3⟩ := hc
    obtain ⟨h1, h2, h3, h4, h5, h6⟩ := id h
    have hne : ∀ i, i < st.2.2 → st.2.1 i ≠ p := fun i hi q => (h3 i hi).2.2 (by rw [q]; exact c2)
    refine ⟨?_, fun v hv => ?_, fun i hi => ?_, fun v hv hz => ?_, fun i j hi hj he => ?_, fun i hi j hj hs => ?_⟩
    · have e := pz_su_up (f := ls_n st.1) (g := ls_n (pz_up st.1 p (lu st.1 sr p 3))) (k := p) (n := 24) hp (fun i _ hi => by unfold ls_n; rw [pz_upn hi])
      have e1 : ls_n st.1 p = 0 := if_pos c2
      have e2 : ls_n (pz_up st.1 p (lu st.1 sr p 3)) p = 1 := by unfold ls_n; rw [pz_ups, if_neg c3]
      show st.2.2 + 1 = pz_su (ls_n (pz_up st.1 p (lu st.1 sr p 3))) 24
      omega
    · show pz_up st.1 p (lu st.1 sr p 3) v ≤ st.2.2 + 1
      by_cases hq : v = p
      · subst hq; rw [pz_ups]; exact lu_le h2 3
      · rw [pz_upn hq]; have := h2 v hv; omega
    · show pz_up st.2.1 st.2.2 p i < 24 ∧ tb (pz_up st.2.1 st.2.2 p i) ≠ 0 ∧ pz_up st.1 p (lu st.1 sr p 3) (pz_up st.2.1 st.2.2 p i) ≠ 0
      by_cases hq : i = st.2.2
      · rw [hq, pz_ups, pz_ups]; exact ⟨hp, c1, c3⟩
      · have hi2 : i < st.2.2 := by have hi : i < st.2.2 + 1 := hi; omega
        rw [pz_upn hq, pz_upn (hne i hi2)]; exact h3 i hi2
    · show ∃ i, i < st.2.2 + 1 ∧ pz_up st.2.1 st.2.2 p i = v
      have hz : pz_up st.1 p (lu st.1 sr p 3) v ≠ 0 := hz
      by_cases hq : v = p
      · exact ⟨st.2.2, by omega, by rw [pz_ups, hq]⟩
      · rw [pz_upn hq] at hz
        obtain ⟨i, hi, he⟩ := h4 v hv hz
        exact ⟨i, by omega, by rw [pz_upn (by omega)]; exact he⟩
    · have hi : i < st.2.2 + 1 := hi
      have hj : j < st.2.2 + 1 := hj
      have he : pz_up st.2.1 st.2.2 p i = pz_up st.2.1 st.2.2 p j := he
      by_cases hq : i = st.2.2
      · by_cases hq2 : j = st.2.2
        · omega
        · rw [hq, pz_ups, pz_upn hq2] at he
          exact absurd he.symm (hne j (by omega))
      · by_cases hq2 : j = st.2.2
        · rw [hq2, pz_ups, pz_upn hq] at he
          exact absurd he (hne i (by omega))
        · rw [pz_upn hq, pz_upn hq2] at he
          exact h5 i j (by omega) (by omega) he
    · have hi : i < st.2.2 + 1 := hi
      show ∃ i', i' < i ∧ pz_up st.2.1 st.2.2 p i' = sr (3 * pz_up st.2.1 st.2.2 p i + j)
      have hs : sr (3 * pz_up st.2.1 st.2.2 p i + j) < 24 := hs
      by_cases hq : i = st.2.2
      · rw [hq, pz_ups] at hs ⊢
        obtain ⟨i', a, b⟩ := h4 _ hs (lu_src c3 j hj hs)
        exact ⟨i', a, by rw [pz_upn (by omega)]; exact b⟩
      · rw [pz_upn hq] at hs ⊢
        obtain ⟨i', a, b⟩ := h6 i (by omega) j hj hs
        exact ⟨i', a, by rw [pz_upn (by omega)]; exact b⟩
  · exact h
theorem ls_I_p {tb sr : Nat → Nat} {st : ls_T} (h : ls_I tb sr st) : ∀ p, p ≤ 24 → ls_I tb sr (ls_p tb sr st p)
  | 0, _ => h
  | p + 1, hp => ls_I_1 (ls_I_p h p (by omega)) (by omega)
theorem ls_I_i (tb sr : Nat → Nat) : ∀ i, ls_I tb sr (ls_i tb sr i)
  | 0 => ⟨(pz_su_zero (fun _ _ => rfl)).symm, fun _ _ => Nat.le_refl _, fun i hi => absurd hi (Nat.not_lt_zero _), fun _ _ h => absurd rfl h, fun i _ hi => absurd hi (Nat.not_lt_zero _), fun i hi => absurd hi (Nat.not_lt_zero _)⟩
  | i + 1 => ls_I_p (ls_I_i tb sr i) 24 (Nat.le_refl _)
theorem ls_1_n (tb sr : Nat → Nat) (st : ls_T) (p : Nat) : st.2.2 ≤ (ls_1 tb sr st p).2.2 ∧ ((ls_1 tb sr st p).2.2 = st.2.2 → ls_1 tb sr st p = st) := by
  unfold ls_1
  split
  · exact ⟨Nat.le_succ _, fun h => absurd h (show ¬ (st.2.2 + 1 = st.2.2) by omega)⟩
  · exact ⟨Nat.le_refl _, fun _ => rfl⟩
theorem ls_p_n (tb sr : Nat → Nat) (st : ls_T) : ∀ p, st.2.2 ≤ (ls_p tb sr st p).2.2 ∧ ((ls_p tb sr st p).2.2 = st.2.2 → ls_p tb sr st p = st)
  | 0 => ⟨Nat.le_refl _, fun _ => rfl⟩
  | p + 1 => by
    obtain ⟨h1, h2⟩ := ls_p_n tb sr st p
    obtain ⟨h3, h4⟩ := ls_1_n tb sr (ls_p tb sr st p) p
    refine ⟨Nat.le_trans h1 h3, fun h => ?_⟩
    have h : (ls_1 tb sr (ls_p tb sr st p) p).2.2 = st.2.2 := h
    show ls_1 tb sr (ls_p tb sr st p) p = st
    rw [h4 (by omega)]
    exact h2 (by omega)
theorem ls_i_fix {tb sr : Nat → Nat} {i : Nat} (h : ls_i tb sr (i + 1) = ls_i tb sr i) : ∀ d, ls_i tb sr (i + d) = ls_i tb sr i
  | 0 => rfl
  | d + 1 => by
    show ls_p tb sr (ls_i tb sr (i + d)) 24 = _
    rw [ls_i_fix h d]
    exact h
theorem ls_i_n (tb sr : Nat → Nat) : ∀ i, i ≤ (ls_i tb sr i).2.2 ∨ ls_i tb sr (i + 1) = ls_i tb sr i
  | 0 => Or.inl (Nat.le_refl _)
  | i + 1 => by
    obtain ⟨h1, h2⟩ := ls_p_n tb sr (ls_i tb sr i) 24
    rcases ls_i_n tb sr i with h | h
    · by_cases hq : (ls_p tb sr (ls_i tb sr i) 24).2.2 = (ls_i tb sr i).2.2
      · right
        have e : ls_i tb sr (i + 1) = ls_i tb sr i := h2 hq
        show ls_p tb sr (ls_i tb sr (i + 1)) 24 = ls_i tb sr (i + 1)
        rw [e]
        exact e
      · left
        show i + 1 ≤ (ls_p tb sr (ls_i tb sr i) 24).2.2
        omega
    · right
      show ls_p tb sr (ls_i tb sr (i + 1)) 24 = ls_i tb sr (i + 1)
      rw [h]
      exact h
theorem ls_full {tb sr : Nat → Nat} {st : ls_T} (h : ls_I tb sr st) (h2 : 24 ≤ st.2.2) : ∀ p, p ≤ 24 → ls_p tb sr st p = st
  | 0, _ => rfl
  | p + 1, hp => by
    show ls_1 tb sr (ls_p tb sr st p) p = st
    rw [ls_full h h2 p (by omega)]
    unfold ls_1
    rw [if_neg]
    intro q
    have := ls_I_lt h (show p < 24 by omega) q.2.1
    omega
theorem ls_i_24 (tb sr : Nat → Nat) : ls_i tb sr (24 + 1) = ls_i tb sr 24 := by
  rcases ls_i_n tb sr 24 with h | h
  · exact ls_full (ls_I_i tb sr 24) h 24 (Nat.le_refl _)
  · exact h
/-- a pass that settles nothing is the last -/
theorem ls_late {tb sr : Nat → Nat} {i : Nat} (hi : i ≤ 24) (h : ls_i tb sr (i + 1) = ls_i tb sr i) : ls_i tb sr i = ls_i tb sr 24 := by
  have := ls_i_fix h (24 - i)
  rw [show i + (24 - i) = 24 by omega] at this
  exact this.symm
/-! the class -/
def cQ (Dp Sq : Nat → Int32) (st : ls_T) : Prop := cK Dp st.1 ∧ ∀ i, i < st.2.2 → Sq i = nI (st.2.1 i)
theorem l3_depth {Dp S : Nat → Int32} {dz sr : Nat → Nat} {p n : Nat} (hS : cS S sr) (hs : ∀ w, w < 72 → sr w ≤ 33) (hD : cK Dp dz) (hb : ∀ v, v < 24 → dz v ≤ n) (hn : n ≤ 24) (hp : p < 24) : f_X3_depthBySources Dp S (nI p) = some (nI (lu dz sr p 3)) := by
  have st : ∀ (m i q : Nat), i + m = 3 → m < q → lu dz sr p i ≠ 0 → f_X3_depthBySources_5 Dp S (nI p) (fun x => some x) q (nI (lu dz sr p i)) (nI i) = some (nI (lu dz sr p 3)) := by
    intro m
    induction m with
    | zero =>
      intro i q h1 h2 h3
      obtain ⟨q, rfl⟩ : ∃ z, q = z + 1 := ⟨q - 1, by omega⟩
      obtain rfl : i = 3 := by omega
      unfold f_X3_depthBySources_5
      rw [if_pos (show (3 : Int32) ≤ nI 3 from nI_le (a := 3) (Nat.le_refl _) (by omega))]
    | succ m ih =>
      intro i q h1 h2 h3
      obtain ⟨q, rfl⟩ : ∃ z, q = z + 1 := ⟨q - 1, by omega⟩
      have hw : 3 * p + i < 72 := by omega
      have hsw := hs _ hw
      have hle := lu_le (sr := sr) (p := p) hb i
      have e : lu dz sr p (i + 1) = if 24 ≤ sr (3 * p + i) then lu dz sr p i else if dz (sr (3 * p + i)) = 0 then 0 else if lu dz sr p i < dz (sr (3 * p + i)) + 1 then dz (sr (3 * p + i)) + 1 else lu dz sr p i := by
        conv => lhs; unfold lu
        rw [if_neg h3]
      unfold f_X3_depthBySources_5
      rw [if_neg (show ¬ ((3 : Int32) ≤ nI i) from nI_ge (b := 3) (by omega) (by omega)), show nI p * 3 + nI i = nI (3 * p + i) by rw [show (3 : Int32) = nI 3 from rfl, pk_mul, nI_add, Nat.mul_comm], l0_sourceOf hS hw, Option.bind_some, l5_isPlace (by omega), Option.bind_some]
      by_cases h24 : 24 ≤ sr (3 * p + i)
      · rw [if_pos h24] at e
        rw [if_neg (show ¬ sr (3 * p + i) < 24 by omega), if_pos (show nI 0 = 0 from rfl), nI_1, ← e]
        exact ih (i + 1) q (by omega) (by omega) (by rw [e]; exact h3)
      · rw [if_neg h24] at e
        have hbs := hb (sr (3 * p + i)) (by omega)
        rw [if_pos (show sr (3 * p + i) < 24 by omega), if_neg (show ¬ (nI 1 = 0) by decide), pz_d (by omega) (by omega), Option.bind_some, hD _ (by omega)]
        by_cases hz : dz (sr (3 * p + i)) = 0
        · rw [if_pos hz] at e
          rw [if_pos (show nI (dz (sr (3 * p + i))) = 0 by rw [hz]; rfl)]
          have h0 : ∀ d, lu dz sr p (i + 1 + d) = 0 := by
            intro d
            induction d with
            | zero => exact e
            | succ d ihd => show (if lu dz sr p (i + 1 + d) = 0 then 0 else _) = 0; rw [if_pos ihd]
          have := h0 (2 - i)
          rw [show i + 1 + (2 - i) = 3 by omega] at this
          rw [this]
          rfl
        · rw [if_neg hz] at e
          rw [if_neg (show ¬ (nI (dz (sr (3 * p + i))) = 0) from nI_ne0 (by omega) (by omega)), Option.bind_some, nI_1, Option.bind_some]
          have hgo := ih (i + 1) q (by omega) (by omega) (by rw [e]; split <;> omega)
          rw [nI_1]
          rw [e] at hgo
          by_cases hlt : lu dz sr p i < dz (sr (3 * p + i)) + 1
          · rw [if_pos hlt] at hgo
            rw [if_pos (nI_lt hlt (by omega))]
            exact hgo
          · rw [if_neg hlt] at hgo
            rw [if_neg (nI_nlt (by omega) (by omega))]
            exact hgo
  exact st 3 0 xFu (by omega) (by unfold xFu; omega) (show (1 : Nat) ≠ 0 by omega)
theorem l3_ss_7 {T S : Nat → Int32} {tb sr : Nat → Nat} (hT : cT T tb) (hS : cS S sr) (hb : wT tb) (hs : ∀ w, w < 72 → sr w ≤ 33) (st0 : ls_T) (hI : ls_I tb sr st0) (k : (Nat → Int32) → (Nat → Int32) → Int32 → Option (Int32 × (Nat → Int32) × (Nat → Int32) × Int32)) : ∀ (m p n : Nat) (Dp Sq : Nat → Int32), p + m = 24 → m < n → cQ Dp Sq (ls_p tb sr st0 p) → ∃ Dp' Sq', f_X3_settleSome_7 T S k n (nI p) Dp Sq (nI (ls_p tb sr st0 p).2.2) = k Dp' Sq' (nI (ls_p tb sr st0 24).2.2) ∧ cQ Dp' Sq' (ls_p tb sr st0 24) := by
  intro m
  induction m with
  | zero =>
    intro p n Dp Sq h1 h2 h3
    obtain ⟨n, rfl⟩ : ∃ q, n = q + 1 := ⟨n - 1, by omega⟩
    obtain rfl : p = 24 := by omega
    refine ⟨Dp, Sq, ?_, h3⟩
    unfold f_X3_settleSome_7
    rw [if_pos (show (24 : Int32) ≤ nI 24 from nI_le (a := 24) (Nat.le_refl _) (by omega))]
  | succ m ih =>
    intro p n Dp Sq h1 h2 h3
    obtain ⟨n, rfl⟩ : ∃ q, n = q + 1 := ⟨n - 1, by omega⟩
    have hp : p < 24 := by omega
    have hIp := ls_I_p hI p (by omega)
    have hle := ls_I_le hIp
    have hst : ls_p tb sr st0 (p + 1) = ls_1 tb sr (ls_p tb sr st0 p) p := rfl
    have hdle := hIp.2.1 p hp
    have ihn := ih (p + 1) n
    rw [hst] at ihn
    have stay : ¬ (tb p ≠ 0 ∧ (ls_p tb sr st0 p).1 p = 0 ∧ lu (ls_p tb sr st0 p).1 sr p 3 ≠ 0) → ∃ Dp' Sq', f_X3_settleSome_7 T S k n (nI p + 1) Dp Sq (nI (ls_p tb sr st0 p).2.2) = k Dp' Sq' (nI (ls_p tb sr st0 24).2.2) ∧ cQ Dp' Sq' (ls_p tb sr st0 24) := by
      intro hc
      have e : ls_1 tb sr (ls_p tb sr st0 p) p = ls_p tb sr st0 p := if_neg hc
      rw [e] at ihn
      rw [nI_1]
      exact ihn Dp Sq (by omega) (by omega) h3
    unfold f_X3_settleSome_7
    rw [if_neg (show ¬ ((24 : Int32) ≤ nI p) from nI_ge (b := 24) hp (by omega)), l0_hasCell hT hb hp, Option.bind_some]
    by_cases hc : tb p = 0
    · rw [if_pos (show nI (zc tb p) = 0 by rw [zc_0.mpr hc]; rfl)]
      exact stay (fun q => q.1 hc)
    · rw [if_neg (show ¬ (nI (zc tb p) = 0) from nI_ne0 (Nat.pos_of_ne_zero fun q => hc (zc_0.mp q)) (by have := zc_lt tb p; omega)), pz_d hp (by omega), Option.bind_some, h3.1 p hp]
      by_cases hd : (ls_p tb sr st0 p).1 p = 0
      · have hlt := ls_I_lt hIp hp hd
        have hul := lu_le (sr := sr) (p := p) hIp.2.1 3
        rw [if_pos (show nI ((ls_p tb sr st0 p).1 p) = 0 by rw [hd]; rfl), l3_depth hS hs h3.1 hIp.2.1 hle hp, Option.bind_some]
        by_cases hu : lu (ls_p tb sr st0 p).1 sr p 3 = 0
        · rw [if_pos (show nI (lu (ls_p tb sr st0 p).1 sr p 3) ≤ 0 by rw [hu]; decide)]
          exact stay (fun q => q.2.2 hu)
        · have e : ls_1 tb sr (ls_p tb sr st0 p) p = (pz_up (ls_p tb sr st0 p).1 p (lu (ls_p tb sr st0 p).1 sr p 3), pz_up (ls_p tb sr st0 p).2.1 (ls_p tb sr st0 p).2.2 p, (ls_p tb sr st0 p).2.2 + 1) := if_pos ⟨hc, hd, hu⟩
          rw [e] at ihn
          rw [if_neg (show ¬ (nI (lu (ls_p tb sr st0 p).1 sr p 3) ≤ 0) from nI_nle (by omega) (by omega)), if_neg (show ¬ ((24 : Int32) ≤ nI (ls_p tb sr st0 p).2.2) from nI_ge (b := 24) hlt (by omega)), pz_w hp (by omega), Option.bind_some, pz_w hlt (by omega), Option.bind_some, nI_1, nI_1]
          refine ihn _ _ (by omega) (by omega) ⟨cK_rx h3.1, fun i hi => ?_⟩
          show upd Sq (ls_p tb sr st0 p).2.2 (nI p) i = nI (pz_up (ls_p tb sr st0 p).2.1 (ls_p tb sr st0 p).2.2 p i)
          by_cases hq : i = (ls_p tb sr st0 p).2.2
          · rw [hq, pz_us, pz_ups]
          · rw [pz_un hq, pz_upn hq]
            exact h3.2 i (by have hi : i < (ls_p tb sr st0 p).2.2 + 1 := hi; omega)
      · rw [if_neg (show ¬ (nI ((ls_p tb sr st0 p).1 p) = 0) from nI_ne0 (by omega) (by omega))]
        exact stay (fun q => hd q.2.1)
theorem l3_settleSome {T S Dp Sq : Nat → Int32} {tb sr : Nat → Nat} (hT : cT T tb) (hS : cS S sr) (hb : wT tb) (hs : ∀ w, w < 72 → sr w ≤ 33) (st0 : ls_T) (hI : ls_I tb sr st0) (hQ : cQ Dp Sq st0) : ∃ Dp' Sq', f_X3_settleSome Dp Sq (nI st0.2.2) T S = some (nI (if (ls_p tb sr st0 24).2.2 = st0.2.2 then 0 else 1), Dp', Sq', nI (ls_p tb sr st0 24).2.2) ∧ cQ Dp' Sq' (ls_p tb sr st0 24) := by
  obtain ⟨Dp', Sq', e1, e2⟩ := l3_ss_7 hT hS hb hs st0 hI (fun Dpz18 Sqz18 sez18 => if sez18 ≤ nI st0.2.2 then some (0, Dpz18, Sqz18, sez18) else some (1, Dpz18, Sqz18, sez18)) 24 0 xFu Dp Sq (by omega) (by unfold xFu; omega) hQ
  refine ⟨Dp', Sq', ?_, e2⟩
  have h1 := (ls_p_n tb sr st0 24).1
  have h2 := ls_I_le (ls_I_p hI 24 (Nat.le_refl _))
  unfold f_X3_settleSome
  refine e1.trans ?_
  by_cases hq : (ls_p tb sr st0 24).2.2 = st0.2.2
  · rw [if_pos hq]
    try dsimp only
    rw [if_pos (nI_le (by omega) (by omega))]
    rfl
  · rw [if_neg hq]
    try dsimp only
    rw [if_neg (nI_ge (by omega) (by omega))]
    rfl
theorem l3_st_17 {T S : Nat → Int32} {tb sr : Nat → Nat} (hT : cT T tb) (hS : cS S sr) (hb : wT tb) (hs : ∀ w, w < 72 → sr w ≤ 33) (k : (Nat → Int32) → (Nat → Int32) → Int32 → Option ((Nat → Int32) × (Nat → Int32) × Int32)) : ∀ (m i n x : Nat) (Dp Sq : Nat → Int32), i + m = 24 → m < n → x ≤ 1 → (x = 0 → ls_i tb sr (i + 1) = ls_i tb sr i) → cQ Dp Sq (ls_i tb sr i) → ∃ Dp' Sq', f_X3_study_17 T S k n (nI x) (nI i) Dp Sq (nI (ls_i tb sr i).2.2) = k Dp' Sq' (nI (ls_i tb sr 24).2.2) ∧ cQ Dp' Sq' (ls_i tb sr 24) := by
  intro m
  induction m with
  | zero =>
    intro i n x Dp Sq h1 h2 h3 h4 h5
    obtain ⟨n, rfl⟩ : ∃ q, n = q + 1 := ⟨n - 1, by omega⟩
    obtain rfl : i = 24 := by omega
    refine ⟨Dp, Sq, ?_, h5⟩
    unfold f_X3_study_17
    rw [if_pos (show (24 : Int32) ≤ nI 24 from nI_le (a := 24) (Nat.le_refl _) (by omega))]
  | succ m ih =>
    intro i n x Dp Sq h1 h2 h3 h4 h5
    obtain ⟨n, rfl⟩ : ∃ q, n = q + 1 := ⟨n - 1, by omega⟩
    unfold f_X3_study_17
    rw [if_neg (show ¬ ((24 : Int32) ≤ nI i) from nI_ge (b := 24) (by omega) (by omega))]
    by_cases hx : x = 0
    · have e := ls_late (by omega) (h4 hx)
      rw [if_pos (show nI x = 0 by rw [hx]; rfl), ← e]
      exact ⟨Dp, Sq, rfl, h5⟩
    · obtain ⟨D1, S1, e1, e2⟩ := l3_settleSome hT hS hb hs (ls_i tb sr i) (ls_I_i tb sr i) h5
      rw [if_neg (show ¬ (nI x = 0) from nI_ne0 (by omega) (by omega)), e1, Option.bind_some]
      try dsimp only
      rw [nI_1]
      refine ih (i + 1) n _ D1 S1 (by omega) (by omega) (by split <;> omega) (fun hz => ?_) e2
      have hq : (ls_p tb sr (ls_i tb sr i) 24).2.2 = (ls_i tb sr i).2.2 := by
        refine Classical.byContradiction fun q => ?_
        rw [if_neg q] at hz
        omega
      have e : ls_i tb sr (i + 1) = ls_i tb sr i := (ls_p_n tb sr (ls_i tb sr i) 24).2 hq
      show ls_p tb sr (ls_i tb sr (i + 1)) 24 = ls_i tb sr (i + 1)
      rw [e]
      exact e
theorem l3_study {T S Dp Sq : Nat → Int32} {se : Int32} {tb sr : Nat → Nat} (hT : cT T tb) (hS : cS S sr) (hb : wT tb) (hs : ∀ w, w < 72 → sr w ≤ 33) : ∃ Dp' Sq', f_X3_study Dp Sq se T S = some (Dp', Sq', nI (ls_i tb sr 24).2.2) ∧ cQ Dp' Sq' (ls_i tb sr 24) := by
  obtain ⟨f1, e1, e2⟩ := l7_fill (N := 24) (by omega) Dp 0
  obtain ⟨Dp', Sq', e3, e4⟩ := l3_st_17 hT hS hb hs (fun a b c => some (a, b, c)) 24 0 xFu 1 f1 Sq (by omega) (by unfold xFu; omega) (by omega) (fun h => by omega) ⟨fun v hv => e2 v hv, fun i hi => absurd hi (Nat.not_lt_zero _)⟩
  refine ⟨Dp', Sq', ?_, e4⟩
  unfold f_X3_study
  rw [e1, Option.bind_some]
  exact e3
