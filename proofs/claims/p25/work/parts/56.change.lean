/-! wires taken off, cells taken and changed -/
theorem wP_down {lg : Nat → Nat} {jn : Nat → Nat → Nat} {w : Nat} (hP : wP lg jn) : wP (pz_up lg w 0) jn := by
  refine ⟨fun v hv => ?_, fun v hv k hk => ?_, fun v hv k hk => ?_⟩
  · by_cases h : v = w
    · subst h; rw [pz_ups]; omega
    · rw [pz_upn h]; exact hP.1 v hv
  · by_cases h : v = w
    · subst h; rw [pz_ups] at hk; omega
    · rw [pz_upn h] at hk; exact hP.2.1 v hv k hk
  · by_cases h : v = w
    · subst h; rw [pz_ups] at hk; omega
    · rw [pz_upn h] at hk; exact hP.2.2 v hv k hk
theorem cJ_down {J : Nat → Int32} {lg : Nat → Nat} {jn : Nat → Nat → Nat} {w : Nat} (hJ : cJ J lg jn) : cJ J (pz_up lg w 0) jn := by
  intro v hv k hk
  by_cases h : v = w
  · subst h; rw [pz_ups] at hk; omega
  · rw [pz_upn h] at hk; exact hJ v hv k hk
/-- what segments hold without one wire -/
def zh (lg : Nat → Nat) (jn : Nat → Nat → Nat) (s : Nat) : Nat := pz_su (fun w => gz_ed (jn w) s (lg w - 1)) 72
theorem zh_up {lg hd : Nat → Nat} {jn : Nat → Nat → Nat} {w : Nat} (hw : w < 72) (hH : wH lg jn hd) {s : Nat} (hs : s < 48) : hd s = zh (pz_up lg w 0) jn s + gz_ed (jn w) s (lg w - 1) := by
  have e := pz_su_up (f := fun v => gz_ed (jn v) s (pz_up lg w 0 v - 1)) (g := fun v => gz_ed (jn v) s (lg v - 1)) (k := w) (n := 72) hw (fun i _ hne => by
    show gz_ed (jn i) s (pz_up lg w 0 i - 1) = gz_ed (jn i) s (lg i - 1)
    rw [pz_upn hne])
  have e2 := hH s hs
  have e3 : gz_ed (jn w) s (pz_up lg w 0 w - 1) = 0 := by rw [pz_ups]; rfl
  simp only [e3] at e
  unfold zh
  omega
theorem cE_dec {E : Nat → Int32} {hd : Nat → Nat} {s0 : Nat} (hE : cE E (fun s => hd s + if s0 = s then 1 else 0)) (hs : s0 < 48) : cE (upd E s0 (E s0 - 1)) hd := by
  intro s h
  by_cases hc : s = s0
  · subst hc
    rw [pz_us, hE s h]
    dsimp only
    rw [if_pos rfl]
    exact nI_pred _
  · rw [pz_un hc, hE s h]
    dsimp only
    rw [if_neg (Ne.symm hc), Nat.add_zero]
theorem l0_rw_6 {S L J : Nat → Int32} {sr lg : Nat → Nat} {jn : Nat → Nat → Nat} {w : Nat} (hS : cS S sr) (hL : cL L lg) (hJ : cJ J lg jn) (hs : ∀ w, w < 72 → sr w ≤ 33) (hP : wP lg jn) (hw : w < 72) (hsw : sr w < 32) (h0 : Nat → Nat) (k : (Nat → Int32) → Option ((Nat → Int32) × (Nat → Int32))) : ∀ (i n : Nat) (E : Nat → Int32), i < lg w → i < n → cE E (fun s => h0 s + gz_ed (jn w) s i) → ∃ E', f_X0_removeWire_6 S L J (nI w) k n (nI i) E = k E' ∧ cE E' h0 := by
  have hlw := hP.1 w hw
  intro i
  induction i with
  | zero =>
    intro n E h1 h2 h3
    obtain ⟨n, rfl⟩ : ∃ q, n = q + 1 := ⟨n - 1, by omega⟩
    refine ⟨E, ?_, h3⟩
    unfold f_X0_removeWire_6
    rw [if_pos (show nI 0 ≤ 0 by decide)]
  | succ i ih =>
    intro n E h1 h2 h3
    obtain ⟨n, rfl⟩ : ∃ q, n = q + 1 := ⟨n - 1, by omega⟩
    have hpi := hP.2.1 w hw i (by omega)
    have hpj := hP.2.1 w hw (i + 1) h1
    have hb := hP.2.2 w hw i h1
    have hs0 := gz_sg_lt _ hpi _ hpj hb
    obtain ⟨E', e1, e2⟩ := ih n (upd E (gz_sg (jn w i) (jn w (i + 1))) (E (gz_sg (jn w i) (jn w (i + 1))) - 1)) (by omega) (by omega) (by
      refine cE_dec ?_ hs0
      intro s hs
      rw [h3 s hs]
      show nI (h0 s + (gz_ed (jn w) s i + _)) = nI (h0 s + gz_ed (jn w) s i + _)
      rw [Nat.add_assoc])
    refine ⟨E', ?_, e2⟩
    unfold f_X0_removeWire_6
    rw [if_neg (show ¬ (nI (i + 1) ≤ 0) from nI_nle (by omega) (by omega)), nI_pred, l0_junctionAt hS hL hJ hs hP.1 hw (by omega) (fun _ => by omega), Option.bind_some, if_pos ⟨hsw, by omega⟩, l0_junctionAt hS hL hJ hs hP.1 hw (by omega) (fun _ => by omega), Option.bind_some, if_pos ⟨hsw, h1⟩, l5_segmentBetween _ hpi _ hpj, Option.bind_some, if_pos hb, if_neg (show ¬ (nI (gz_sg (jn w i) (jn w (i + 1))) = -1) from fun q => by rw [show (-1 : Int32) = -nI 1 from rfl, pz_neg (by omega) (by omega) (by omega)] at q; exact q), pz_d hs0 (by omega), Option.bind_some, pz_w hs0 (by omega), Option.bind_some, pk_m1]
    exact e1
/-- a wire comes off -/
theorem l0_removeWire {S L J E : Nat → Int32} {sr lg hd : Nat → Nat} {jn : Nat → Nat → Nat} {w : Nat} (hS : cS S sr) (hL : cL L lg) (hJ : cJ J lg jn) (hE : cE E hd) (hs : ∀ w, w < 72 → sr w ≤ 33) (hP : wP lg jn) (hH : wH lg jn hd) (hw : w < 72) (hA : lg w ≠ 0 → sr w < 32) : ∃ L' E', f_X0_removeWire S L J E (nI w) = some (L', E') ∧ cL L' (pz_up lg w 0) ∧ cE E' (zh (pz_up lg w 0) jn) := by
  have hlw := hP.1 w hw
  obtain ⟨E', e1, e2⟩ : ∃ E', f_X0_removeWire_6 S L J (nI w) (fun Ez15 => (f_X5_isWire (nI w)).bind fun v16 => if v16 = 0 then some (L, Ez15) else (xr_w L 72 (nI w) 0).bind fun L20 => some (L20, Ez15)) xFu (nI (lg w - 1)) E = (fun Ez15 => (f_X5_isWire (nI w)).bind fun v16 => if v16 = 0 then some (L, Ez15) else (xr_w L 72 (nI w) 0).bind fun L20 => some (L20, Ez15)) E' ∧ cE E' (zh (pz_up lg w 0) jn) := by
    by_cases h0 : lg w = 0
    · refine ⟨E, ?_, fun s hs => ?_⟩
      · rw [show xFu = 99999 + 1 from rfl]
        unfold f_X0_removeWire_6
        rw [if_pos (show nI (lg w - 1) ≤ 0 by rw [h0]; decide)]
      · rw [hE s hs, zh_up hw hH hs, h0]
        rfl
    · exact l0_rw_6 hS hL hJ hs hP hw (hA h0) (zh (pz_up lg w 0) jn) _ (lg w - 1) xFu E (by omega) (by unfold xFu; omega) (fun s hs => by rw [hE s hs, zh_up hw hH hs])
  refine ⟨upd L w (nI 0), E', ?_, ?_, e2⟩
  · unfold f_X0_removeWire
    rw [l0_lengthOf hL hw, Option.bind_some, e1]
    try dsimp only
    rw [l5_isWire (by omega), if_pos hw, Option.bind_some, if_neg (by decide), pz_w hw (by omega)]
    rfl
  · intro v hv
    by_cases h : v = w
    · subst h; rw [pz_us, pz_ups]
    · rw [pz_un h, pz_upn h]; exact hL v hv
/-- a place's inputs from the first to the i-th become a number -/
def zi (f : Nat → Nat) (p i x w : Nat) : Nat := if 3 * p ≤ w ∧ w < 3 * p + i then x else f w
theorem zi_0 (f : Nat → Nat) (p x : Nat) : zi f p 0 x = f := by
  funext w
  unfold zi
  rw [if_neg (by omega)]
theorem zi_s (f : Nat → Nat) (p i x : Nat) : zi f p (i + 1) x = pz_up (zi f p i x) (3 * p + i) x := by
  funext w
  unfold zi pz_up
  dsimp only
  by_cases h : w = 3 * p + i
  · rw [if_pos h, if_pos (by omega)]
  · rw [if_neg h]
    by_cases h2 : 3 * p ≤ w ∧ w < 3 * p + i
    · rw [if_pos h2, if_pos (by omega)]
    · rw [if_neg h2, if_neg (by omega)]
theorem wH_zh (lg : Nat → Nat) (jn : Nat → Nat → Nat) : wH lg jn (zh lg jn) := fun _ _ => rfl
theorem wP_zi {lg : Nat → Nat} {jn : Nat → Nat → Nat} {p : Nat} (hP : wP lg jn) : ∀ i, wP (zi lg p i 0) jn
  | 0 => by rw [zi_0]; exact hP
  | i + 1 => by rw [zi_s]; exact wP_down (wP_zi hP i)
theorem cJ_zi {J : Nat → Int32} {lg : Nat → Nat} {jn : Nat → Nat → Nat} {p : Nat} (hJ : cJ J lg jn) : ∀ i, cJ J (zi lg p i 0) jn
  | 0 => by rw [zi_0]; exact hJ
  | i + 1 => by rw [zi_s]; exact cJ_down (cJ_zi hJ i)
theorem l0_rc_2 {J : Nat → Int32} {sr lg : Nat → Nat} {jn : Nat → Nat → Nat} {p : Nat} (hp : p < 24) (hJ : cJ J lg jn) (hs : ∀ w, w < 72 → sr w ≤ 33) (hP : wP lg jn) (hA : wA sr lg) (k : (Nat → Int32) → (Nat → Int32) → (Nat → Int32) → Option ((Nat → Int32) × (Nat → Int32) × (Nat → Int32) × (Nat → Int32))) : ∀ (m i n : Nat) (S L E : Nat → Int32), i + m = 3 → m < n → cS S (zi sr p i 32) → cL L (zi lg p i 0) → cE E (zh (zi lg p i 0) jn) → ∃ S' L' E', f_X0_removeCell_2 J (nI p) k n (nI i) S L E = k S' L' E' ∧ cS S' (zi sr p 3 32) ∧ cL L' (zi lg p 3 0) ∧ cE E' (zh (zi lg p 3 0) jn) := by
  intro m
  induction m with
  | zero =>
    intro i n S L E h1 h2 h3 h4 h5
    obtain ⟨n, rfl⟩ : ∃ q, n = q + 1 := ⟨n - 1, by omega⟩
    obtain rfl : i = 3 := by omega
    refine ⟨S, L, E, ?_, h3, h4, h5⟩
    unfold f_X0_removeCell_2
    rw [if_pos (show (3 : Int32) ≤ nI 3 from nI_le (a := 3) (Nat.le_refl _) (by omega))]
  | succ m ih =>
    intro i n S L E h1 h2 h3 h4 h5
    obtain ⟨n, rfl⟩ : ∃ q, n = q + 1 := ⟨n - 1, by omega⟩
    have hw : 3 * p + i < 72 := by omega
    have hs2 : ∀ w, w < 72 → zi sr p i 32 w ≤ 33 := fun w hw => by
      have := hs w hw
      unfold zi
      split <;> omega
    obtain ⟨L1, E1, e1, e2, e3⟩ := l0_removeWire (w := 3 * p + i) h3 h4 (cJ_zi hJ i) h5 hs2 (wP_zi hP i) (wH_zh _ _) hw (fun h => by
      unfold zi at h ⊢
      rw [if_neg (by omega)] at h ⊢
      have := hA (3 * p + i) hw
      omega)
    rw [← zi_s] at e2 e3
    obtain ⟨S', L', E', g1, g2⟩ := ih (i + 1) n (upd S (3 * p + i) (nI 32)) L1 E1 (by omega) (by omega) (by rw [zi_s]; exact cS_up h3) e2 e3
    refine ⟨S', L', E', ?_, g2⟩
    unfold f_X0_removeCell_2
    rw [if_neg (show ¬ ((3 : Int32) ≤ nI i) from nI_ge (b := 3) (by omega) (by omega)), show nI p * 3 + nI i = nI (3 * p + i) by rw [show (3 : Int32) = nI 3 from rfl, pk_mul, nI_add, Nat.mul_comm], e1, Option.bind_some]
    try dsimp only
    rw [l0_changeSource _ hw, Option.bind_some, nI_1]
    exact g1
theorem zh_eq {lg hd : Nat → Nat} {jn : Nat → Nat → Nat} (hH : wH lg jn hd) {E : Nat → Int32} (hE : cE E hd) : cE E (zh lg jn) := fun s hs => by rw [hE s hs, hH s hs]; rfl
theorem l0_removeCell {T S L J E : Nat → Int32} {tb sr lg hd : Nat → Nat} {jn : Nat → Nat → Nat} {p : Nat} (hp : p < 24) (hT : cT T tb) (hS : cS S sr) (hL : cL L lg) (hJ : cJ J lg jn) (hE : cE E hd) (hs : ∀ w, w < 72 → sr w ≤ 33) (hP : wP lg jn) (hH : wH lg jn hd) (hA : wA sr lg) : ∃ T' S' L' E', f_X0_removeCell T S L J E (nI p) = some (T', S', L', E') ∧ cT T' (pz_up tb p 0) ∧ cS S' (zi sr p 3 32) ∧ cL L' (zi lg p 3 0) ∧ cE E' (zh (zi lg p 3 0) jn) := by
  obtain ⟨S', L', E', e1, e2, e3, e4⟩ := l0_rc_2 hp hJ hs hP hA (fun Sz7 Lz7 Ez7 => (f_X0_changeTable T (nI p) (-1)).bind fun T8 => some (T8, Sz7, Lz7, Ez7)) 3 0 xFu S L E (by omega) (by unfold xFu; omega) (by rw [zi_0]; exact hS) (by rw [zi_0]; exact hL) (by rw [zi_0]; exact zh_eq hH hE)
  refine ⟨upd T p (-1), S', L', E', ?_, cT_up (t := 0) hT, e2, e3, e4⟩
  unfold f_X0_removeCell
  refine e1.trans ?_
  try dsimp only
  rw [l0_changeTable _ hp]
  rfl
/-- the reference empties a place -/
theorem l6_em_11 {r0 : Nat → Int32} {sr lg : Nat → Nat} {jn : Nat → Nat → Nat} {p : Nat} (hp : p < 24) (hl : ∀ v, v < 72 → lg v ≤ 24) (k : (Nat → Int32) → Option (Nat → Int32)) : ∀ (m i n : Nat) (r : Nat → Int32), i + m = 3 → m < n → mS r (zi sr p i 32) → mL r (zi lg p i 0) → mJ r (zi lg p i 0) jn → (∀ x, x < 24 ∨ 1896 ≤ x → r x = r0 x) → ∃ r', f_X6_empties_11 (nI p) k n (nI (3 * p + i)) r = k r' ∧ mS r' (zi sr p 3 32) ∧ mL r' (zi lg p 3 0) ∧ mJ r' (zi lg p 3 0) jn ∧ ∀ x, x < 24 ∨ 1896 ≤ x → r' x = r0 x := by
  intro m
  induction m with
  | zero =>
    intro i n r h1 h2 h3 h4 h5 h6
    obtain ⟨n, rfl⟩ : ∃ q, n = q + 1 := ⟨n - 1, by omega⟩
    obtain rfl : i = 3 := by omega
    refine ⟨r, ?_, h3, h4, h5, h6⟩
    unfold f_X6_empties_11
    rw [if_pos (show (3 : Int32) * nI p + 3 ≤ nI (3 * p + 3) by rw [show (3 : Int32) = nI 3 from rfl, pk_mul, nI_add]; exact nI_le (Nat.le_refl _) (by omega))]
  | succ m ih =>
    intro i n r h1 h2 h3 h4 h5 h6
    obtain ⟨n, rfl⟩ : ∃ q, n = q + 1 := ⟨n - 1, by omega⟩
    have hw : 3 * p + i < 72 := by omega
    have hl2 : ∀ v, v < 72 → zi lg p i 0 v ≤ 24 := fun v hv => by
      have := hl v hv
      unfold zi
      split <;> omega
    obtain ⟨r1, e1, e2, e3⟩ := l6_takesWire hw (upd r (24 + (3 * p + i)) (nI 32))
    have q1 : mL (upd r (24 + (3 * p + i)) (nI 32)) (zi lg p i 0) := fun v hv => by rw [pz_un (by omega)]; exact h4 v hv
    have q2 : mJ (upd r (24 + (3 * p + i)) (nI 32)) (zi lg p i 0) jn := fun v hv k hk => by rw [pz_un (by omega)]; exact h5 v hv k hk
    obtain ⟨r', g1, g2⟩ := ih (i + 1) n r1 (by omega) (by omega) (by
      intro v hv
      rw [e3 _ (by omega) (by omega), zi_s]
      by_cases h : v = 3 * p + i
      · subst h; rw [pz_us, pz_ups]
      · rw [pz_un (by omega), pz_upn h]; exact h3 v hv) (by rw [zi_s]; exact mL_take hw q1 e2 e3) (by rw [zi_s]; exact mJ_take hw hl2 q2 e3) (fun x hx => by rw [e3 _ (by omega) (by omega), pz_un (by omega)]; exact h6 x hx)
    refine ⟨r', ?_, g2⟩
    unfold f_X6_empties_11
    rw [if_neg (show ¬ ((3 : Int32) * nI p + 3 ≤ nI (3 * p + i)) by rw [show (3 : Int32) = nI 3 from rfl, pk_mul, nI_add]; exact nI_ge (by omega) (by omega)), show (24 : Int32) + nI (3 * p + i) = nI (24 + (3 * p + i)) from nI_add 24 _, pz_w (by omega) (by omega), Option.bind_some, show (32 : Int32) = nI 32 from rfl, e1, Option.bind_some, nI_1]
    exact g1
theorem l6_empties {r : Nat → Int32} {tb sr lg : Nat → Nat} {jn : Nat → Nat → Nat} {cp su p : Nat} (hp : p < 24) (hl : ∀ v, v < 72 → lg v ≤ 24) (hR : mR r tb sr lg jn cp su) : ∃ r', f_X6_empties r (nI p) = some r' ∧ mR r' (pz_up tb p 0) (zi sr p 3 32) (zi lg p 3 0) jn cp su := by
  obtain ⟨h1, h2, h3, h4, h5, h6⟩ := hR
  obtain ⟨r', e1, e2, e3, e4, e5⟩ := l6_em_11 (r0 := upd r p (-5)) (sr := sr) (lg := lg) (jn := jn) hp hl (fun rrz8 => some rrz8) 3 0 xFu (upd r p (-5)) (by omega) (by unfold xFu; omega) (fun v hv => by rw [zi_0, pz_un (by omega)]; exact h2 v hv) (fun v hv => by rw [zi_0, pz_un (by omega)]; exact h3 v hv) (fun v hv k hk => by rw [zi_0] at hk; rw [pz_un (by omega)]; exact h4 v hv k hk) (fun x _ => rfl)
  refine ⟨r', ?_, fun q hq => ?_, e2, e3, e4, ?_, ?_⟩
  · unfold f_X6_empties
    rw [show (0 : Int32) + nI p = nI p by rw [show (0 : Int32) = nI 0 from rfl, nI_add, Nat.zero_add], pz_w (by omega) (by omega), Option.bind_some, show (3 : Int32) * nI p = nI (3 * p + 0) from pk_mul 3 p]
    exact e1
  · rw [e5 _ (by omega)]
    by_cases h : q = p
    · subst h; rw [pz_us, pz_ups]; rfl
    · rw [pz_un h, pz_upn h]; exact h1 q hq
  · rw [e5 _ (by omega), pz_un (by omega)]; exact h5
  · rw [e5 _ (by omega), pz_un (by omega)]; exact h6
/-! two places change -/
def xt (tb : Nat → Nat) (p q v : Nat) : Nat := if v = q then tb p else if v = p then tb q else tb v
def xs_i (sr : Nat → Nat) (p q i w : Nat) : Nat := if w / 3 = q ∧ w % 3 < i then sr (3 * p + w % 3) else if w / 3 = p ∧ w % 3 < i then sr (3 * q + w % 3) else sr w
def xs_r (sr : Nat → Nat) (p q : Nat) (w : Nat) : Nat := if sr w = p then q else if sr w = q then p else sr w
def xs (sr : Nat → Nat) (p q : Nat) : Nat → Nat := xs_r (xs_i sr p q 3) p q
def xs_j (f : Nat → Nat) (p q i w : Nat) : Nat := if w < i then xs_r f p q w else f w
theorem xs_i0 (sr : Nat → Nat) (p q : Nat) : xs_i sr p q 0 = sr := by
  funext w
  unfold xs_i
  rw [if_neg (by omega), if_neg (by omega)]
theorem xs_is (sr : Nat → Nat) {p q i : Nat} (hpq : p ≠ q) (hi : i < 3) : xs_i sr p q (i + 1) = pz_up (pz_up (xs_i sr p q i) (3 * p + i) (sr (3 * q + i))) (3 * q + i) (sr (3 * p + i)) := by
  funext w
  unfold xs_i pz_up
  dsimp only
  by_cases h1 : w = 3 * q + i
  · rw [if_pos h1, if_pos (by omega), show w % 3 = i by omega]
  · rw [if_neg h1]
    by_cases h2 : w = 3 * p + i
    · rw [if_pos h2, if_neg (by omega), if_pos (by omega), show w % 3 = i by omega]
    · rw [if_neg h2]
      by_cases h3 : w / 3 = q ∧ w % 3 < i
      · rw [if_pos h3, if_pos (by omega)]
      · rw [if_neg h3, if_neg (by omega)]
        by_cases h4 : w / 3 = p ∧ w % 3 < i
        · rw [if_pos h4, if_pos (by omega)]
        · rw [if_neg h4, if_neg (by omega)]
theorem xs_i_own (sr : Nat → Nat) {p q i : Nat} : xs_i sr p q i (3 * p + i) = sr (3 * p + i) ∧ xs_i sr p q i (3 * q + i) = sr (3 * q + i) ∨ 3 ≤ i := by
  by_cases hi : 3 ≤ i
  · exact Or.inr hi
  · left
    unfold xs_i
    constructor
    · rw [if_neg (by omega), if_neg (by omega)]
    · rw [if_neg (by omega), if_neg (by omega)]
theorem xs_js (f : Nat → Nat) (p q i : Nat) : xs_j f p q (i + 1) = pz_up (xs_j f p q i) i (xs_r f p q i) := by
  funext w
  unfold xs_j pz_up
  dsimp only
  by_cases h : w = i
  · subst h; rw [if_pos rfl, if_pos (by omega)]
  · rw [if_neg h]
    by_cases h2 : w < i
    · rw [if_pos h2, if_pos (by omega)]
    · rw [if_neg h2, if_neg (by omega)]
theorem xs_le {sr : Nat → Nat} {p q : Nat} (hp : p < 24) (hq : q < 24) (hs : ∀ w, w < 72 → sr w ≤ 33) : (∀ w, w < 72 → xs_i sr p q 3 w ≤ 33) ∧ ∀ w, w < 72 → xs sr p q w ≤ 33 := by
  have h : ∀ w, w < 72 → xs_i sr p q 3 w ≤ 33 := by
    intro w hw
    unfold xs_i
    split
    · exact hs _ (by omega)
    · split
      · exact hs _ (by omega)
      · exact hs w hw
  refine ⟨h, fun w hw => ?_⟩
  have := h w hw
  unfold xs xs_r
  split
  · omega
  · split <;> omega
theorem wS_x {tb sr : Nat → Nat} {p q : Nat} (hp : p < 24) (hq : q < 24) (hs : wS tb sr) : wS (xt tb p q) (xs sr p q) := by
  refine ⟨(xs_le hp hq hs.1).2, fun w hw h => ?_⟩
  have hz : xs_i sr p q 3 w = 32 := by
    unfold xt at h
    unfold xs_i
    by_cases h1 : w / 3 = q
    · rw [if_pos h1] at h
      rw [if_pos ⟨h1, by omega⟩]
      exact hs.2 _ (by omega) (by rw [show (3 * p + w % 3) / 3 = p by omega]; exact h)
    · rw [if_neg h1] at h
      rw [if_neg (fun z => h1 z.1)]
      by_cases h2 : w / 3 = p
      · rw [if_pos h2] at h
        rw [if_pos ⟨h2, by omega⟩]
        exact hs.2 _ (by omega) (by rw [show (3 * q + w % 3) / 3 = q by omega]; exact h)
      · rw [if_neg h2] at h
        rw [if_neg (fun z => h2 z.1)]
        exact hs.2 w hw h
  unfold xs xs_r
  rw [hz, if_neg (by omega), if_neg (by omega)]
theorem wT_x {tb : Nat → Nat} {p q : Nat} (hp : p < 24) (hq : q < 24) (hb : wT tb) : wT (xt tb p q) := by
  intro v hv
  unfold xt
  split
  · exact hb p hp
  · split
    · exact hb q hq
    · exact hb v hv
theorem l0_ex_84 {f : Nat → Nat} {p q : Nat} (hp : p < 24) (hq : q < 24) (hf : ∀ w, w < 72 → f w ≤ 33) (k : (Nat → Int32) → Option ((Nat → Int32) × (Nat → Int32))) : ∀ (m i n : Nat) (S : Nat → Int32), i + m = 72 → m < n → cS S (xs_j f p q i) → ∃ S', f_X0_exchange_84 (nI p) (nI q) k n (nI i) S = k S' ∧ cS S' (xs_j f p q 72) := by
  intro m
  induction m with
  | zero =>
    intro i n S h1 h2 h3
    obtain ⟨n, rfl⟩ : ∃ z, n = z + 1 := ⟨n - 1, by omega⟩
    obtain rfl : i = 72 := by omega
    refine ⟨S, ?_, h3⟩
    unfold f_X0_exchange_84
    rw [if_pos (show (72 : Int32) ≤ nI 72 from nI_le (a := 72) (Nat.le_refl _) (by omega))]
  | succ m ih =>
    intro i n S h1 h2 h3
    obtain ⟨n, rfl⟩ : ∃ z, n = z + 1 := ⟨n - 1, by omega⟩
    have hi : i < 72 := by omega
    have hfi := hf i hi
    have hv : S i = nI (f i) := by
      rw [h3 i hi]
      unfold xs_j
      rw [if_neg (Nat.lt_irrefl _)]
    have go : ∀ S1, cS S1 (pz_up (xs_j f p q i) i (xs_r f p q i)) → ∃ S', f_X0_exchange_84 (nI p) (nI q) k n (nI i + 1) S1 = k S' ∧ cS S' (xs_j f p q 72) := fun S1 h => by
      rw [nI_1]
      exact ih (i + 1) n S1 (by omega) (by omega) (by rw [xs_js]; exact h)
    unfold f_X0_exchange_84
    rw [if_neg (show ¬ ((72 : Int32) ≤ nI i) from nI_ge (b := 72) hi (by omega)), pz_d hi (by omega), Option.bind_some, hv]
    by_cases h4 : f i = p
    · rw [if_pos (by rw [h4]), pz_w hi (by omega), Option.bind_some]
      refine go _ ?_
      rw [show xs_r f p q i = q by unfold xs_r; rw [if_pos h4]]
      exact cS_up h3
    · rw [if_neg (fun z => h4 ((nI_eq (by omega) (by omega)).mp z)), Option.bind_some]
      by_cases h5 : f i = q
      · rw [if_pos (by rw [h5]), pz_w hi (by omega), Option.bind_some]
        refine go _ ?_
        rw [show xs_r f p q i = p by unfold xs_r; rw [if_neg h4, if_pos h5]]
        exact cS_up h3
      · rw [if_neg (fun z => h5 ((nI_eq (by omega) (by omega)).mp z))]
        refine go _ ?_
        rw [show xs_r f p q i = f i by unfold xs_r; rw [if_neg h4, if_neg h5]]
        intro w hw
        by_cases h : w = i
        · subst h; rw [pz_ups]; exact hv
        · rw [pz_upn h]; exact h3 w hw
theorem l0_ex_25 {sr : Nat → Nat} {p q : Nat} (hp : p < 24) (hq : q < 24) (hpq : p ≠ q) (k : (Nat → Int32) → Option ((Nat → Int32) × (Nat → Int32))) : ∀ (m i n : Nat) (S : Nat → Int32), i + m = 3 → m < n → cS S (xs_i sr p q i) → ∃ S', f_X0_exchange_25 (nI p) (nI q) k n (nI i) S = k S' ∧ cS S' (xs_i sr p q 3) := by
  intro m
  induction m with
  | zero =>
    intro i n S h1 h2 h3
    obtain ⟨n, rfl⟩ : ∃ z, n = z + 1 := ⟨n - 1, by omega⟩
    obtain rfl : i = 3 := by omega
    refine ⟨S, ?_, h3⟩
    unfold f_X0_exchange_25
    rw [if_pos (show (3 : Int32) ≤ nI 3 from nI_le (a := 3) (Nat.le_refl _) (by omega))]
  | succ m ih =>
    intro i n S h1 h2 h3
    obtain ⟨n, rfl⟩ : ∃ z, n = z + 1 := ⟨n - 1, by omega⟩
    have hi : i < 3 := by omega
    obtain ⟨o1, o2⟩ := (xs_i_own sr (p := p) (q := q) (i := i)).resolve_right (by omega)
    obtain ⟨S', e1, e2⟩ := ih (i + 1) n (upd (upd S (3 * p + i) (nI (sr (3 * q + i)))) (3 * q + i) (nI (sr (3 * p + i)))) (by omega) (by omega) (by rw [xs_is sr hpq hi]; exact cS_up (cS_up h3))
    refine ⟨S', ?_, e2⟩
    unfold f_X0_exchange_25
    rw [if_neg (show ¬ ((3 : Int32) ≤ nI i) from nI_ge (b := 3) hi (by omega)), show nI p * 3 + nI i = nI (3 * p + i) by rw [show (3 : Int32) = nI 3 from rfl, pk_mul, nI_add, Nat.mul_comm], show nI q * 3 + nI i = nI (3 * q + i) by rw [show (3 : Int32) = nI 3 from rfl, pk_mul, nI_add, Nat.mul_comm], l0_sourceOf h3 (by omega), Option.bind_some, l0_sourceOf h3 (by omega), Option.bind_some, l0_changeSource _ (by omega), Option.bind_some, l0_changeSource _ (by omega), Option.bind_some, o1, o2, nI_1]
    exact e1
theorem cT_x {T : Nat → Int32} {tb : Nat → Nat} {p q : Nat} (hT : cT T tb) : cT (upd (upd T p (cz_t (tb q))) q (cz_t (tb p))) (xt tb p q) := by
  intro v hv
  unfold xt
  by_cases h : v = q
  · subst h; rw [pz_us, if_pos rfl]
  · rw [pz_un h, if_neg h]
    by_cases h2 : v = p
    · subst h2; rw [pz_us, if_pos rfl]
    · rw [pz_un h2, if_neg h2]; exact hT v hv
theorem l0_exchange {T S : Nat → Int32} {tb sr : Nat → Nat} {p q : Nat} (hp : p < 24) (hq : q < 24) (hpq : p ≠ q) (hT : cT T tb) (hS : cS S sr) (hs : ∀ w, w < 72 → sr w ≤ 33) : ∃ T' S', f_X0_exchange T S (nI p) (nI q) = some (T', S') ∧ cT T' (xt tb p q) ∧ cS S' (xs sr p q) := by
  obtain ⟨S1, e1, e2⟩ := l0_ex_25 hp hq hpq (fun Sz18 => f_X0_exchange_84 (nI p) (nI q) (fun Sz30 => some (upd (upd T p (cz_t (tb q))) q (cz_t (tb p)), Sz30)) xFu 0 Sz18) 3 0 xFu S (by omega) (by unfold xFu; omega) (by rw [xs_i0]; exact hS)
  obtain ⟨S2, e3, e4⟩ := l0_ex_84 (f := xs_i sr p q 3) hp hq (xs_le hp hq hs).1 (fun Sz30 => some (upd (upd T p (cz_t (tb q))) q (cz_t (tb p)), Sz30)) 72 0 xFu S1 (by omega) (by unfold xFu; omega) (fun w hw => by rw [e2 w hw]; unfold xs_j; rw [if_neg (Nat.not_lt_zero _)])
  refine ⟨upd (upd T p (cz_t (tb q))) q (cz_t (tb p)), S2, ?_, cT_x hT, fun w hw => ?_⟩
  · unfold f_X0_exchange
    rw [l0_tableOf hT hp, Option.bind_some, l0_tableOf hT hq, Option.bind_some, l0_changeTable _ hp, Option.bind_some, l0_changeTable _ hq, Option.bind_some]
    exact e1.trans e3
  · rw [e4 w hw]
    unfold xs_j xs
    rw [if_pos hw]
