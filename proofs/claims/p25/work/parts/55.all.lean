/-! all wires are laid anew, by both in the same order -/
theorem vp_nar_b1 : vp_nar .boolean 1 = nI 1 := by
  unfold vp_nar
  rw [xb_nz1]
  rfl
theorem vp_nar_b0 : vp_nar .boolean 0 = nI 0 := by
  unfold vp_nar
  rw [xb_nz0]
  rfl
/-- where both stand: at turn t, ahead of wire j -/
def az_I (sr : Nat → Nat) (o t j : Nat) (L J E H don r r0 : Nat → Int32) (lg hd dn : Nat → Nat) (jn : Nat → Nat → Nat) : Prop :=
  cL L lg ∧ cJ J lg jn ∧ cE E hd ∧ cE H hd ∧ mL r lg ∧ mJ r lg jn ∧ (∀ x, x < 96 ∨ 1896 ≤ x → r x = r0 x) ∧ cD don dn ∧ wP lg jn ∧ wH lg jn hd ∧ (∀ w, w < 72 → (dn w = 1 ↔ sr w < 32 ∧ oz_k sr o w < 72 * t + j)) ∧ ∀ w, w < 72 → (lg w = 0 ↔ dn w = 0)
abbrev az_R : Type := Option (Int32 × (Nat → Int32) × (Nat → Int32) × (Nat → Int32) × (Nat → Int32))
/-- how both end -/
def az_E (sr : Nat → Nat) (r0 : Nat → Int32) (ka kb : (Nat → Int32) → (Nat → Int32) → (Nat → Int32) → (Nat → Int32) → az_R) (A B : az_R) : Prop :=
  (∃ K L J E H F D r : Nat → Int32, A = some (-3, K, L, J, E) ∧ B = some (-3, H, F, D, r)) ∨
  ∃ (K L J E H F D r : Nat → Int32) (lg hd : Nat → Nat) (jn : Nat → Nat → Nat), A = ka K L J E ∧ B = kb H F D r ∧ cL L lg ∧ cJ J lg jn ∧ cE E hd ∧ mL r lg ∧ mJ r lg jn ∧ (∀ x, x < 96 ∨ 1896 ≤ x → r x = r0 x) ∧ wP lg jn ∧ wH lg jn hd ∧ wA sr lg
section AZ
variable {S r0 : Nat → Int32} {tb sr : Nat → Nat} {cp su o : Nat}
theorem az_loop (hS : cS S sr) (rT : mT r0 tb) (rS : mS r0 sr) (rC : mC r0 cp su) (hb : wT tb) (hs : wS tb sr) (hc : wC cp su) (ho : o < 3) (ka kb : (Nat → Int32) → (Nat → Int32) → (Nat → Int32) → (Nat → Int32) → az_R) :
    ∀ (m t j n1 n2 q : Nat) (K L J E H F D r : Nat → Int32) (x : Int32) (lg hd dn : Nat → Nat) (jn : Nat → Nat → Nat), (9 - t) * 73 - j = m → t ≤ 8 → j ≤ 72 → 72 - j < n1 → 9 - t < n2 → m < q → az_I sr o t j L J E H D r r0 lg hd dn jn → oz_inv sr dn o 72 x →
      az_E sr r0 ka kb (f_X2_layAll_30 S (nI cp) (nI su) (nI o) (nI t) (nI (if o = 1 then 8 - t else t)) (fun K L J E => f_X2_layAll_6 S (nI cp) (nI su) (nI o) ka n2 (nI t + 1) K L J E) n1 (nI j) K L J E) (f_X6_laysAll_38 (nI o) kb q x H F D r) := by
  intro m
  induction m using Nat.strongRecOn with
  | _ m ih =>
    intro t j n1 n2 q K L J E H F D r x lg hd dn jn hm ht hj hn1 hn2 hq hI hx
    obtain ⟨n1, rfl⟩ : ∃ z, n1 = z + 1 := ⟨n1 - 1, by omega⟩
    obtain ⟨cl, cj, ce, ch, ml, mj, hr, hD, hP, hH, hdn, hl0⟩ := id hI
    by_cases hj72 : j = 72
    · -- the turn is over
      subst hj72
      obtain ⟨n2, rfl⟩ : ∃ z, n2 = z + 1 := ⟨n2 - 1, by omega⟩
      conv => arg 5; unfold f_X2_layAll_30
      rw [if_pos (show (72 : Int32) ≤ nI 72 from nI_le (a := 72) (Nat.le_refl _) (by omega))]
      try dsimp only
      rw [nI_1]
      conv => arg 5; unfold f_X2_layAll_6
      by_cases ht8 : t = 8
      · subst ht8
        rw [if_pos (show (8 : Int32) < nI (8 + 1) by decide)]
        obtain ⟨q, rfl⟩ : ∃ z, q = z + 1 := ⟨q - 1, by omega⟩
        right
        have hx5 : x = -5 := by
          rcases hx with ⟨h1, -⟩ | ⟨w, h1, h2, -, -⟩
          · exact h1
          · exfalso
            have h3 := oz_t_le (o := o) h1 h2.1
            have h4 := (hdn w h1).mpr ⟨h2.1, by unfold oz_k; omega⟩
            have h5 := h2.2
            omega
        refine ⟨K, L, J, E, H, F, D, r, lg, hd, jn, rfl, ?_, cl, cj, ce, ml, mj, hr, hP, hH, fun w hw => ?_⟩
        · unfold f_X6_laysAll_38
          rw [if_pos hx5]
        · have h1 := hdn w hw
          have h2 := hl0 w hw
          have h3 := (hD w hw).2
          constructor
          · intro h
            have h4 := h2.mp h
            refine Classical.byContradiction fun h5 => ?_
            have h6 := oz_t_le (o := o) hw (show sr w < 32 by omega)
            have h7 := h1.mpr ⟨by omega, by unfold oz_k; omega⟩
            omega
          · intro h
            refine h2.mpr ?_
            refine Classical.byContradiction fun h5 => ?_
            have := (h1.mp (by omega)).1
            omega
      · rw [if_neg (show ¬ ((8 : Int32) < nI (t + 1)) from nI_nlt (a := 8) (by omega) (by omega))]
        have hI2 : az_I sr o (t + 1) 0 L J E H D r r0 lg hd dn jn := by
          refine ⟨cl, cj, ce, ch, ml, mj, hr, hD, hP, hH, fun w hw => ?_, hl0⟩
          rw [hdn w hw, show 72 * (t + 1) + 0 = 72 * t + 72 by omega]
        have hgo := ih ((9 - (t + 1)) * 73 - 0) (by omega) (t + 1) 0 xFu n2 q K L J E H F D r x lg hd dn jn rfl (by omega) (by omega) (by unfold xFu; omega) (by omega) (by omega) hI2 hx
        by_cases h1o : o = 1
        · rw [if_pos (show nI o = 1 by rw [h1o]; rfl)]
          rw [if_pos h1o] at hgo
          rw [show (8 : Int32) - nI (t + 1) = nI (8 - (t + 1)) from pk_sub (a := 8) (by omega)]
          exact hgo
        · rw [if_neg (show ¬ (nI o = 1) from fun z => h1o ((nI_eq (b := 1) (by omega) (by omega)).mp z))]
          rw [if_neg h1o] at hgo
          exact hgo
    · have hj1 : j < 72 := by omega
      have hs33 := hs.1 j hj1
      -- nothing is due here
      have skip : (∀ w, w < 72 → sr w < 32 → oz_k sr o w ≠ 72 * t + j) → az_E sr r0 ka kb (f_X2_layAll_30 S (nI cp) (nI su) (nI o) (nI t) (nI (if o = 1 then 8 - t else t)) (fun K L J E => f_X2_layAll_6 S (nI cp) (nI su) (nI o) ka n2 (nI t + 1) K L J E) n1 (nI j + 1) K L J E) (f_X6_laysAll_38 (nI o) kb q x H F D r) := by
        intro hne
        rw [nI_1 j]
        refine ih ((9 - t) * 73 - (j + 1)) (by omega) t (j + 1) n1 n2 q K L J E H F D r x lg hd dn jn rfl ht (by omega) (by omega) hn2 (by omega) ⟨cl, cj, ce, ch, ml, mj, hr, hD, hP, hH, fun w hw => ?_, hl0⟩ hx
        rw [hdn w hw]
        constructor
        · exact fun ⟨h1, h2⟩ => ⟨h1, by omega⟩
        · exact fun ⟨h1, h2⟩ => ⟨h1, by have := hne w hw h1; omega⟩
      -- wire j is due
      have due : sr j < 32 → oz_t sr o j = t → az_E sr r0 ka kb ((f_X2_layWire K S L J E (nI cp) (nI su) (nI j)).bind fun v => if v.1 = 0 then some (-3, v.2) else f_X2_layAll_30 S (nI cp) (nI su) (nI o) (nI t) (nI (if o = 1 then 8 - t else t)) (fun K L J E => f_X2_layAll_6 S (nI cp) (nI su) (nI o) ka n2 (nI t + 1) K L J E) n1 (nI j + 1) v.2.1 v.2.2.1 v.2.2.2.1 v.2.2.2.2) (f_X6_laysAll_38 (nI o) kb q x H F D r) := by
        intro hsj htj
        have hkj : oz_k sr o j = 72 * t + j := by unfold oz_k; rw [htj]
        have hdj : dn j = 0 := by
          have h1 := (hD j hj1).2
          refine Classical.byContradiction fun h2 => ?_
          have h3 := ((hdn j hj1).mp (by omega)).2
          omega
        have hxj : x = nI j := by
          rcases hx with ⟨-, h1⟩ | ⟨w, h1, h2, h3, h4⟩
          · exact absurd ⟨hsj, hdj⟩ (h1 j hj1)
          · have h5 := h3 j hj1 ⟨hsj, hdj⟩
            have h6 : ¬ (oz_k sr o w < 72 * t + j) := fun z => by
              have := (hdn w h1).mpr ⟨h2.1, z⟩
              have := h2.2
              omega
            have h7 : oz_k sr o w = oz_k sr o j := by omega
            have : w = j := by
              unfold oz_k at h7
              omega
            rw [h4, this]
        obtain ⟨q, rfl⟩ : ∃ z, q = z + 1 := ⟨q - 1, by omega⟩
        have rS2 : mS r sr := fun w hw => by rw [hr _ (by omega)]; exact rS w hw
        have rC2 : mC r cp su := ⟨by rw [hr _ (by omega)]; exact rC.1, by rw [hr _ (by omega)]; exact rC.2⟩
        have rT2 : mT r tb := fun p hp => by rw [hr _ (by omega)]; exact rT p hp
        have hh : ∀ s, s < 48 → hd s ≤ 10000 := fun s hs => by have := wH_le hP hH hs; omega
        conv => arg 6; unfold f_X6_laysAll_38
        rw [hxj, if_neg (nI_ne5 (by omega))]
        rcases lay_one (K := K) (far := F) hS cl cj ce rS2 ml mj rC2 ch hh hc hP.1 hj1 hsj with ⟨K', F', e1, e2⟩ | ⟨n, p, K', L', J', E', H', F', r', hn, hp1, hp2, e1, e2, g1, g2, g3, g4, g5, g6, g7⟩
        · rw [e1, e2, Option.bind_some, Option.bind_some]
          exact Or.inl ⟨K', L, J, E, H, F', D, r, rfl, rfl⟩
        · have hl : lg j = 0 := (hl0 j hj1).mpr hdj
          have hr' : ∀ x, x < 96 ∨ 1896 ≤ x → r' x = r0 x := fun x hx => by rw [g7 x hx]; exact hr x hx
          have rT3 : mT r' tb := fun p hp => by rw [hr' _ (by omega)]; exact rT p hp
          have rS3 : mS r' sr := fun w hw => by rw [hr' _ (by omega)]; exact rS w hw
          have hD2 : cD (upd D j (nI 1)) (pz_up dn j 1) := by
            intro w hw
            by_cases h : w = j
            · subst h; rw [pz_us, pz_ups]; exact ⟨rfl, Nat.le_refl _⟩
            · rw [pz_un h, pz_upn h]; exact hD w hw
          obtain ⟨x2, i1, i2⟩ := l6_nextWire (o := o) rT3 rS3 hb hs hD2 ho
          rw [e1, e2, Option.bind_some, Option.bind_some]
          have hstep : ∀ (z : az_R), z = f_X6_laysAll_38 (nI o) kb q x2 H' F' (upd D j (nI 1)) r' → az_E sr r0 ka kb (f_X2_layAll_30 S (nI cp) (nI su) (nI o) (nI t) (nI (if o = 1 then 8 - t else t)) (fun K L J E => f_X2_layAll_6 S (nI cp) (nI su) (nI o) ka n2 (nI t + 1) K L J E) n1 (nI j + 1) K' L' J' E') z := by
            intro z hz
            rw [hz, nI_1 j]
            refine ih ((9 - t) * 73 - (j + 1)) (by omega) t (j + 1) n1 n2 q K' L' J' E' H' F' (upd D j (nI 1)) r' x2 (pz_up lg j (n + 1)) (fun s => hd s + gz_ed p s n) (pz_up dn j 1) (bz_jn jn j p) rfl ht (by omega) (by omega) hn2 (by omega) ⟨g1, g2, g3, g4, g5, g6, hr', hD2, wP_up hP hn hp1 hp2, wH_up hj1 hH hl, fun w hw => ?_, fun w hw => ?_⟩ i2
            · by_cases h : w = j
              · subst h
                rw [pz_ups]
                exact ⟨fun _ => ⟨hsj, by omega⟩, fun _ => rfl⟩
              · rw [pz_upn h, hdn w hw]
                constructor
                · exact fun ⟨h1, h2⟩ => ⟨h1, by omega⟩
                · exact fun ⟨h1, h2⟩ => ⟨h1, by
                    have h3 : oz_k sr o w ≠ 72 * t + j := fun h4 => h (by unfold oz_k at h4; omega)
                    omega⟩
            · by_cases h : w = j
              · subst h
                rw [pz_ups, pz_ups]
                exact ⟨fun h => by omega, fun h => by omega⟩
              · rw [pz_upn h, pz_upn h]
                exact hl0 w hw
          refine hstep _ ?_
          show (if nI 1 = 0 then _ else _) = _
          rw [if_neg (show ¬ (nI 1 = 0) by decide), vp_nar_b1, pz_w hj1 (by omega), Option.bind_some, i1, Option.bind_some]
      conv => arg 5; unfold f_X2_layAll_30
      rw [if_neg (show ¬ ((72 : Int32) ≤ nI j) from nI_ge (b := 72) hj1 (by omega))]
      by_cases h0 : o = 0
      · rw [if_pos (show nI o = 0 by rw [h0]; rfl)]
        by_cases ht0 : t = 0
        · rw [if_pos (show nI t = 0 by rw [ht0]; rfl)]
          by_cases hsj : sr j < 32
          · exact due hsj (by unfold oz_t; rw [if_pos h0, ht0])
          · rw [l2_layWire_no hS hj1 (by omega) hs33, Option.bind_some]
            refine skip (fun w hw hsw hk => ?_)
            unfold oz_k at hk
            have : w = j := by omega
            subst this
            exact hsj hsw
        · rw [if_neg (show ¬ (nI t = 0) from nI_ne0 (by omega) (by omega))]
          refine skip (fun w hw hsw hk => ?_)
          unfold oz_k oz_t at hk
          rw [if_pos h0] at hk
          omega
      · rw [if_neg (show ¬ (nI o = 0) from nI_ne0 (by omega) (by omega)), l0_distanceOf hS hs.1 hj1, Option.bind_some]
        by_cases hsj : sr j < 32
        · have hdj := oz_d_le hj1 hsj
          rw [if_pos hsj]
          change az_E _ _ _ _ (if nI (oz_d sr j) = nI (if o = 1 then 8 - t else t) then _ else _) _
          by_cases hd : oz_t sr o j = t
          · rw [if_pos (by
              congr 1
              unfold oz_t at hd
              rw [if_neg h0] at hd
              by_cases h1 : o = 1
              · rw [if_pos h1] at hd ⊢; omega
              · rw [if_neg h1] at hd ⊢; exact hd)]
            exact due hsj hd
          · rw [if_neg (fun z => hd (by
              have z := (nI_eq (by omega) (by split <;> omega)).mp z
              unfold oz_t
              rw [if_neg h0]
              by_cases h1 : o = 1
              · rw [if_pos h1] at z ⊢; omega
              · rw [if_neg h1] at z ⊢; exact z))]
            refine skip (fun w hw hsw hk => ?_)
            unfold oz_k at hk
            have hh := oz_t_le (o := o) hw hsw
            have : w = j := by omega
            subst this
            exact hd (by omega)
        · rw [if_neg hsj, if_neg (show ¬ ((-1 : Int32) = nI (if o = 1 then 8 - t else t)) from fun z => by
            rw [show (-1 : Int32) = -nI 1 from rfl, pz_gen (by split <;> omega) (by omega) (by omega)] at z
            exact z)]
          refine skip (fun w hw hsw hk => ?_)
          unfold oz_k at hk
          have : w = j := by omega
          subst this
          exact hsj hsw
end AZ

/-! the start: no wire is laid -/
theorem l6_tw_2 {w : Nat} (hw : w < 72) (r0 : Nat → Int32) (k : (Nat → Int32) → Option (Nat → Int32)) : ∀ (m i n : Nat) (r : Nat → Int32), i + m = 24 → m < n → (∀ x, x < 168 + 24 * w ∨ 168 + 24 * w + 24 ≤ x → r x = r0 x) → ∃ r', f_X6_takesWire_2 (nI w) k n (nI i) r = k r' ∧ ∀ x, x < 168 + 24 * w ∨ 168 + 24 * w + 24 ≤ x → r' x = r0 x := by
  intro m
  induction m with
  | zero =>
    intro i n r h1 h2 h3
    obtain ⟨n, rfl⟩ : ∃ q, n = q + 1 := ⟨n - 1, by omega⟩
    obtain rfl : i = 24 := by omega
    unfold f_X6_takesWire_2
    rw [if_pos (show (24 : Int32) ≤ nI 24 from nI_le (a := 24) (Nat.le_refl _) (by omega))]
    exact ⟨r, rfl, h3⟩
  | succ m ih =>
    intro i n r h1 h2 h3
    obtain ⟨n, rfl⟩ : ∃ q, n = q + 1 := ⟨n - 1, by omega⟩
    obtain ⟨r', e1, e2⟩ := ih (i + 1) n (upd r (168 + 24 * w + i) 0) (by omega) (by omega) (fun x hx => by rw [pz_un (by omega)]; exact h3 x hx)
    refine ⟨r', ?_, e2⟩
    unfold f_X6_takesWire_2
    rw [if_neg (show ¬ ((24 : Int32) ≤ nI i) from nI_ge (b := 24) (by omega) (by omega)), show (168 : Int32) + 24 * nI w + nI i = nI (168 + 24 * w + i) by rw [show (168 : Int32) = nI 168 from rfl, show (24 : Int32) = nI 24 from rfl, pk_mul, nI_add, nI_add], pz_w (by omega) (by omega), Option.bind_some, nI_1]
    exact e1
theorem l6_takesWire {w : Nat} (hw : w < 72) (r : Nat → Int32) : ∃ r', f_X6_takesWire r (nI w) = some r' ∧ r' (96 + w) = nI 0 ∧ ∀ x, x ≠ 96 + w → (x < 168 + 24 * w ∨ 168 + 24 * w + 24 ≤ x) → r' x = r x := by
  obtain ⟨r', e1, e2⟩ := l6_tw_2 hw r (fun rrz4 => (xr_w rrz4 1898 (96 + nI w) 0).bind fun rr6 => some rr6) 24 0 xFu r (by omega) (by unfold xFu; omega) (fun x _ => rfl)
  refine ⟨upd r' (96 + w) (nI 0), ?_, pz_us, fun x h1 h2 => by rw [pz_un h1]; exact e2 x h2⟩
  unfold f_X6_takesWire
  refine e1.trans ?_
  try dsimp only
  rw [show (96 : Int32) + nI w = nI (96 + w) from nI_add 96 w, pz_w (by omega) (by omega)]
  rfl
theorem mL_take {r r' : Nat → Int32} {lg : Nat → Nat} {w : Nat} (hw : w < 72) (hL : mL r lg) (h0 : r' (96 + w) = nI 0) (h : ∀ x, x ≠ 96 + w → (x < 168 + 24 * w ∨ 168 + 24 * w + 24 ≤ x) → r' x = r x) : mL r' (pz_up lg w 0) := by
  intro v hv
  by_cases hc : v = w
  · subst hc; rw [pz_ups]; exact h0
  · rw [pz_upn hc, h _ (by omega) (by omega)]; exact hL v hv
theorem mJ_take {r r' : Nat → Int32} {lg : Nat → Nat} {jn : Nat → Nat → Nat} {w : Nat} (hw : w < 72) (hl : ∀ v, v < 72 → lg v ≤ 24) (hJ : mJ r lg jn) (h : ∀ x, x ≠ 96 + w → (x < 168 + 24 * w ∨ 168 + 24 * w + 24 ≤ x) → r' x = r x) : mJ r' (pz_up lg w 0) jn := by
  intro v hv k hk
  by_cases hc : v = w
  · subst hc; rw [pz_ups] at hk; omega
  · rw [pz_upn hc] at hk
    have := hl v hv
    rw [h _ (by omega) (by omega)]; exact hJ v hv k hk
theorem l6_la_2 (r0 : Nat → Int32) (k : (Nat → Int32) → (Nat → Int32) → az_R) : ∀ (m i n : Nat) (D r : Nat → Int32), i + m = 72 → m < n → (∀ w, w < i → D w = nI 0 ∧ r (96 + w) = nI 0) → (∀ x, x < 96 ∨ 1896 ≤ x → r x = r0 x) → ∃ D' r', f_X6_laysAll_2 k n (nI i) D r = k D' r' ∧ (∀ w, w < 72 → D' w = nI 0 ∧ r' (96 + w) = nI 0) ∧ ∀ x, x < 96 ∨ 1896 ≤ x → r' x = r0 x := by
  intro m
  induction m with
  | zero =>
    intro i n D r h1 h2 h3 h4
    obtain ⟨n, rfl⟩ : ∃ q, n = q + 1 := ⟨n - 1, by omega⟩
    obtain rfl : i = 72 := by omega
    unfold f_X6_laysAll_2
    rw [if_pos (show (72 : Int32) ≤ nI 72 from nI_le (a := 72) (Nat.le_refl _) (by omega))]
    exact ⟨D, r, rfl, h3, h4⟩
  | succ m ih =>
    intro i n D r h1 h2 h3 h4
    obtain ⟨n, rfl⟩ : ∃ q, n = q + 1 := ⟨n - 1, by omega⟩
    obtain ⟨r1, e1, e2, e3⟩ := l6_takesWire (show i < 72 by omega) r
    obtain ⟨D', r', g1, g2⟩ := ih (i + 1) n (upd D i (nI 0)) r1 (by omega) (by omega) (fun w hw => by
      by_cases h : w = i
      · subst h; exact ⟨pz_us, e2⟩
      · rw [pz_un h, e3 _ (by omega) (by omega)]; exact h3 w (by omega)) (fun x hx => by rw [e3 _ (by omega) (by omega)]; exact h4 x hx)
    refine ⟨D', r', ?_, g2⟩
    unfold f_X6_laysAll_2
    rw [if_neg (show ¬ ((72 : Int32) ≤ nI i) from nI_ge (b := 72) (by omega) (by omega)), e1, Option.bind_some, vp_nar_b0, pz_w (by omega) (by omega), Option.bind_some, nI_1]
    exact g1
theorem l0_removeAllWires {L E : Nat → Int32} : ∃ L' E', f_X0_removeAllWires L E = some (L', E') ∧ (∀ w, w < 72 → L' w = nI 0) ∧ ∀ s, s < 48 → E' s = nI 0 := by
  obtain ⟨L', e1, e2⟩ := l7_fill (N := 72) (by omega) L 0
  obtain ⟨E', e3, e4⟩ := l7_fill (N := 48) (by omega) E 0
  refine ⟨L', E', ?_, e2, e4⟩
  unfold f_X0_removeAllWires
  rw [e1, Option.bind_some, e3, Option.bind_some]
/-- ALL WIRES: both find one crowded, or both lay the same -/
theorem lay_all {S K L J E r H F D : Nat → Int32} {tb sr : Nat → Nat} {cp su o : Nat} (hS : cS S sr) (rT : mT r tb) (rS : mS r sr) (rC : mC r cp su) (hb : wT tb) (hs : wS tb sr) (hc : wC cp su) (ho : o < 3) :
    (∃ K' L' J' E' H' F' D' r', f_X2_layAll K S L J E (nI cp) (nI su) (nI o) = some (-3, K', L', J', E') ∧ f_X6_laysAll H F D r (nI o) = some (-3, H', F', D', r')) ∨
    ∃ (K' L' J' E' H' F' D' r' : Nat → Int32) (lg hd : Nat → Nat) (jn : Nat → Nat → Nat), f_X2_layAll K S L J E (nI cp) (nI su) (nI o) = some (nI (pz_su (zl lg) 72), K', L', J', E') ∧ f_X6_laysAll H F D r (nI o) = some (nI (pz_su (zl lg) 72), H', F', D', r') ∧ cL L' lg ∧ cJ J' lg jn ∧ cE E' hd ∧ mR r' tb sr lg jn cp su ∧ wP lg jn ∧ wH lg jn hd ∧ wA sr lg ∧ pz_su (zl lg) 72 ≤ 1656 := by
  obtain ⟨L1, E1, a1, a2, a3⟩ := l0_removeAllWires (L := L) (E := E)
  obtain ⟨D1, r1, b1, b2, b3⟩ := l6_la_2 r (fun donz6 rrz6 => (f_X6_counts H rrz6).bind fun hld7 => (f_X6_nextWire donz6 rrz6 (nI o)).bind fun v9 => f_X6_laysAll_38 (nI o) (fun hldz22 farz22 donz22 rrz22 => (f_X6_segments rrz22).bind fun v23 => some (v23, hldz22, farz22, donz22, rrz22)) xFu v9 hld7 F donz6 rrz6) 72 0 xFu D r (by omega) (by unfold xFu; omega) (fun w h => absurd h (Nat.not_lt_zero _)) (fun x _ => rfl)
  have rT1 : mT r1 tb := fun p hp => by rw [b3 _ (by omega)]; exact rT p hp
  have rS1 : mS r1 sr := fun w hw => by rw [b3 _ (by omega)]; exact rS w hw
  have rC1 : mC r1 cp su := ⟨by rw [b3 _ (by omega)]; exact rC.1, by rw [b3 _ (by omega)]; exact rC.2⟩
  have ml : mL r1 (fun _ => 0) := fun w hw => (b2 w hw).2
  have mj : mJ r1 (fun _ => 0) (fun _ _ => 0) := fun w hw k hk => absurd hk (Nat.not_lt_zero _)
  have hP : wP (fun _ => 0) (fun _ _ => 0) := ⟨fun _ _ => Nat.zero_le _, fun _ _ k hk => absurd hk (Nat.not_lt_zero _), fun _ _ k hk => absurd hk (Nat.not_lt_zero _)⟩
  have hz : ∀ s, pz_su (fun w => gz_ed ((fun (_ _ : Nat) => 0) w) s ((fun (_ : Nat) => 0) w - 1)) 72 = 0 := fun s => pz_su_zero (fun i _ => rfl)
  obtain ⟨H1, c1, c2⟩ := l6_counts (h := H) ml mj hP
  have hD1 : cD D1 (fun _ => 0) := fun w hw => ⟨(b2 w hw).1, Nat.zero_le _⟩
  obtain ⟨x, d1, d2⟩ := l6_nextWire (o := o) rT1 rS1 hb hs hD1 ho
  have hI : az_I sr o 0 0 L1 J E1 H1 D1 r1 r1 (fun _ => 0) (fun _ => 0) (fun _ => 0) (fun _ _ => 0) := by
    refine ⟨a2, fun w hw k hk => absurd hk (Nat.not_lt_zero _), a3, fun s hs => by rw [c2 s hs]; exact congrArg nI (hz s), ml, mj, fun _ _ => rfl, hD1, hP, fun s hs => (hz s).symm, fun w hw => ?_, fun w hw => ?_⟩
    · exact ⟨fun h => absurd h (show ¬ ((0 : Nat) = 1) by omega), fun h => absurd h.2 (by omega)⟩
    · exact ⟨fun _ => rfl, fun _ => rfl⟩
  have hgo := az_loop (cp := cp) (su := su) hS rT1 rS1 rC1 hb hs hc ho (fun Kz32 Lz32 Jz32 Ez32 => (f_X0_segmentsOfAll Lz32).bind fun v33 => some (v33, Kz32, Lz32, Jz32, Ez32)) (fun hldz22 farz22 donz22 rrz22 => (f_X6_segments rrz22).bind fun v23 => some (v23, hldz22, farz22, donz22, rrz22)) _ 0 0 xFu 99999 xFu K L1 J E1 H1 F D1 r1 x (fun _ => 0) (fun _ => 0) (fun _ => 0) (fun _ _ => 0) rfl (by omega) (by omega) (by unfold xFu; omega) (by omega) (by unfold xFu; omega) hI d2
  have eA : f_X2_layAll K S L J E (nI cp) (nI su) (nI o) = f_X2_layAll_30 S (nI cp) (nI su) (nI o) (nI 0) (nI (if o = 1 then 8 - 0 else 0)) (fun K L J E => f_X2_layAll_6 S (nI cp) (nI su) (nI o) (fun Kz32 Lz32 Jz32 Ez32 => (f_X0_segmentsOfAll Lz32).bind fun v33 => some (v33, Kz32, Lz32, Jz32, Ez32)) 99999 (nI 0 + 1) K L J E) xFu (nI 0) K L1 J E1 := by
    unfold f_X2_layAll
    rw [a1, Option.bind_some]
    try dsimp only
    rw [show xFu = 99999 + 1 from rfl]
    conv => lhs; unfold f_X2_layAll_6
    rw [if_neg (show ¬ ((8 : Int32) < 0) by decide)]
    by_cases h1 : o = 1
    · rw [if_pos (show nI o = 1 by rw [h1]; rfl), if_pos h1]
      rfl
    · rw [if_neg (show ¬ (nI o = 1) from fun z => h1 ((nI_eq (b := 1) (by omega) (by omega)).mp z)), if_neg h1]
      rfl
  have eB : f_X6_laysAll H F D r (nI o) = f_X6_laysAll_38 (nI o) (fun hldz22 farz22 donz22 rrz22 => (f_X6_segments rrz22).bind fun v23 => some (v23, hldz22, farz22, donz22, rrz22)) xFu x H1 F D1 r1 := by
    unfold f_X6_laysAll
    refine b1.trans ?_
    try dsimp only
    rw [c1, Option.bind_some, d1, Option.bind_some]
  rw [← eA, ← eB] at hgo
  rcases hgo with ⟨K', L', J', E', H', F', D', r', h1, h2⟩ | ⟨K', L', J', E', H', F', D', r', lg, hd, jn, h1, h2, g1, g2, g3, g4, g5, g6, g7, g8, g9⟩
  · exact Or.inl ⟨K', L', J', E', H', F', D', r', h1, h2⟩
  · refine Or.inr ⟨K', L', J', E', H', F', D', r', lg, hd, jn, ?_, ?_, g1, g2, g3, ⟨fun p hp => ?_, fun w hw => ?_, g4, g5, ?_, ?_⟩, g7, g8, g9, ?_⟩
    · rw [h1]; show (f_X0_segmentsOfAll L').bind _ = _; rw [l0_segsOfAll g1]; rfl
    · rw [h2]; show (f_X6_segments r').bind _ = _; rw [l6_segments g4 g7.1]; rfl
    · rw [g6 _ (by omega)]; exact rT1 p hp
    · rw [g6 _ (by omega)]; exact rS1 w hw
    · rw [g6 _ (by omega)]; exact rC1.1
    · rw [g6 _ (by omega)]; exact rC1.2
    · exact pz_su_le (B := 23) (fun w hw => by unfold zl; have := g7.1 w hw; omega)
