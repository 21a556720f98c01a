/-! a wire is laid: by the class, by the reference -/
def bz_jn (jn : Nat → Nat → Nat) (w : Nat) (p : Nat → Nat) : Nat → Nat → Nat := fun v => if v = w then p else jn v
theorem bz_jns {jn : Nat → Nat → Nat} {w : Nat} {p : Nat → Nat} : bz_jn jn w p w = p := if_pos rfl
theorem bz_jnn {jn : Nat → Nat → Nat} {w v : Nat} {p : Nat → Nat} (h : v ≠ w) : bz_jn jn w p v = jn v := if_neg h
section LZ
variable {L J E K : Nat → Int32} {lg hd kz p : Nat → Nat} {jn : Nat → Nat → Nat} {cp su g w n : Nat}
/-- one junction more -/
theorem l0_extend {i : Nat} (hw : w < 72) (hi : i < 23) (hL : cL L (pz_up lg w (i + 1))) (hJ : cJ J (pz_up lg w (i + 1)) (bz_jn jn w p)) (hE : cE E hd) (hl : ∀ v, v < 72 → lg v ≤ 24) (hp : p i < 24) (hq : p (i + 1) < 24) (hb : gz_be (p i) (p (i + 1)) = 1) : ∃ L' J' E', f_X0_extendWire L J E (nI w) (nI (p (i + 1))) = some (L', J', E') ∧ cL L' (pz_up lg w (i + 1 + 1)) ∧ cJ J' (pz_up lg w (i + 1 + 1)) (bz_jn jn w p) ∧ cE E' (fun s => hd s + if gz_sg (p i) (p (i + 1)) = s then 1 else 0) := by
  have hs := gz_sg_lt _ hp _ hq hb
  have hLw := hL w hw
  rw [pz_ups] at hLw
  have hJw := hJ w hw i (by rw [pz_ups]; omega)
  rw [bz_jns] at hJw
  refine ⟨upd L w (nI (i + 1)), upd J (w * 24 + (i + 1)) (nI (p (i + 1))), upd E (gz_sg (p i) (p (i + 1))) (E (gz_sg (p i) (p (i + 1))) + 1), ?_, ?_, ?_, ?_⟩
  · unfold f_X0_extendWire
    rw [l5_isWire (by omega), if_pos hw, Option.bind_some, if_neg (by decide)]
    simp (disch := omega) only [nI_lit, nI_add, pk_mul, nI_ltI, nI_leI, nI_eq, pk_sub, pk_div, pz_d, pz_w, pz_neg, pz_gen, pz_ltn, pz_len, pz_ltz, pz_nn, Option.bind_some, Nat.one_ne_zero, Nat.zero_ne_one, and_self, and_true, true_and, and_false, false_and, ↓reduceIte, hLw, Nat.not_lt_zero, show i + 1 - 1 = i by omega, show i < 23 by omega, hJw, l5_segmentBetween _ hp _ hq, hb]
    simp (disch := omega) only [nI_lit, nI_add, pk_mul, nI_ltI, nI_leI, nI_eq, pk_sub, pk_div, pz_d, pz_w, pz_neg, pz_gen, pz_ltn, pz_len, pz_ltz, pz_nn, Option.bind_some, Nat.one_ne_zero, Nat.zero_ne_one, and_self, and_true, true_and, and_false, false_and, ↓reduceIte, pz_us, show ¬ (nI (gz_sg (p i) (p (i + 1))) = -nI 1) from fun q => by rw [pz_neg (by omega) (by omega) (by omega)] at q; exact q]
  · intro v hv
    by_cases h : v = w
    · subst h; rw [pz_us, pz_ups]; rfl
    · rw [pz_un h, pz_upn h]
      have := hL v hv
      rwa [pz_upn h] at this
  · intro v hv k hk
    by_cases h : v = w
    · subst h
      rw [pz_ups] at hk
      rw [bz_jns]
      by_cases hki : k = i + 1
      · subst hki; rw [pz_us]
      · rw [pz_un (by omega)]
        have := hJ v hv k (by rw [pz_ups]; omega)
        rwa [bz_jns] at this
    · rw [pz_upn h] at hk
      have hl2 := hl v hv
      rw [pz_un (by omega)]
      exact hJ v hv k (by rw [pz_upn h]; exact hk)
  · exact cE_inc hE hs
/-- the class walks the way -/
theorem l2_lw_55 (hw : w < 72) (hn : n ≤ 23) (hc : wC cp su) (hh : ∀ s, s < 48 → hd s ≤ 10000) (hK : cK K kz) (hf : bz_fix (zp hd cp su) kz) (ht : bz_ti (zp hd cp su) g kz) (kb : ∀ v, kz v ≤ 1000000) (hg : g < 24) {a : Nat} (hp : p = bz_pt (zp hd cp su) kz a) (hW : bz_way kz g p n) (hp24 : ∀ i, i ≤ n → p i < 24 ∧ kz (p i) < 1000000) (hl : ∀ v, v < 72 → lg v ≤ 24) (k : (Nat → Int32) → (Nat → Int32) → (Nat → Int32) → Option (Int32 × (Nat → Int32) × (Nat → Int32) × (Nat → Int32) × (Nat → Int32))) :
    ∀ (m i q : Nat) (L J E : Nat → Int32), i + m = n → m < q → cL L (pz_up lg w (i + 1)) → cJ J (pz_up lg w (i + 1)) (bz_jn jn w p) → cE E (fun s => hd s + gz_ed p s i) → ∃ L' J' E', f_X2_layWire_55 K (nI cp) (nI su) (nI w) (nI g) k q (nI (p i)) (nI (i + 1)) L J E = k L' J' E' ∧ cL L' (pz_up lg w (n + 1)) ∧ cJ J' (pz_up lg w (n + 1)) (bz_jn jn w p) ∧ cE E' (fun s => hd s + gz_ed p s n) := by
  intro m
  induction m with
  | zero =>
    intro i q L J E h1 h2 h3 h4 h5
    obtain ⟨q, rfl⟩ : ∃ z, q = z + 1 := ⟨q - 1, by omega⟩
    obtain rfl : i = n := by omega
    refine ⟨L, J, E, ?_, h3, h4, h5⟩
    unfold f_X2_layWire_55
    split
    · rfl
    · rw [if_pos (by rw [hW.1])]
  | succ m ih =>
    intro i q L J E h1 h2 h3 h4 h5
    obtain ⟨q, rfl⟩ : ∃ z, q = z + 1 := ⟨q - 1, by omega⟩
    obtain ⟨hpi, hki⟩ := hp24 i (by omega)
    obtain ⟨hpj, -⟩ := hp24 (i + 1) (by omega)
    obtain ⟨w1, w2, w3⟩ := hW.2 i (by omega)
    have hnx : bz_nx (zp hd cp su) kz (p i) = p (i + 1) := by rw [hp]; rfl
    have hh2 : ∀ s, s < 48 → (fun s => hd s + gz_ed p s i) s ≤ 100000 := fun s hs => by
      have := hh s hs
      have := gz_ed_le p s i
      show hd s + gz_ed p s i ≤ 100000
      omega
    have hnj := l2_nextJunction (K := K) h5 hh2 hc hK hf ht hpi w1 hki kb (fun s hs hnb => bz_same hW (fun j hj => (hp24 j hj).1) (show i < n by omega) hs hnb)
    rw [hnx] at hnj
    obtain ⟨L1, J1, E1, e1, e2, e3, e4⟩ := l0_extend (p := p) (i := i) hw (by omega) h3 h4 h5 hl hpi hpj w2
    obtain ⟨L', J', E', e5, e6⟩ := ih (i + 1) q L1 J1 E1 (by omega) (by omega) e2 e3 (by
      intro s hs
      rw [e4 s hs]
      show nI (hd s + gz_ed p s i + _) = nI (hd s + (gz_ed p s i + _))
      rw [Nat.add_assoc])
    refine ⟨L', J', E', ?_, e6⟩
    unfold f_X2_layWire_55
    rw [if_neg (show ¬ ((24 : Int32) ≤ nI (i + 1)) from nI_ge (b := 24) (by omega) (by omega)), if_neg (fun z => w1 ((nI_eq (by omega) (by omega)).mp z)), hnj, Option.bind_some, e1, Option.bind_some]
    try dsimp only
    rw [nI_1]
    exact e5
end LZ
/-- a wire without a junction to start from: nothing is laid -/
theorem l2_layWire_no {S K L J E : Nat → Int32} {sr : Nat → Nat} {w : Nat} {c u : Int32} (hS : cS S sr) (hw : w < 72) (h1 : 32 ≤ sr w) (h2 : sr w ≤ 33) : f_X2_layWire K S L J E c u (nI w) = some (nI 1, K, L, J, E) := by
  unfold f_X2_layWire
  rw [l0_sourceOf hS hw, Option.bind_some, l5_junctionOf _ (by omega), if_neg (by omega), Option.bind_some, l5_isPlace_no (Or.inl (by decide)), Option.bind_some]
  rfl
/-- the reference notes the way -/
theorem l6_il_50 {E K : Nat → Int32} {hd kz p : Nat → Nat} {cp su g w n a : Nat} (hw : w < 72) (hn : n ≤ 23) (hc : wC cp su) (hh : ∀ s, s < 48 → hd s ≤ 10000) (hE : cE E hd) (hK : cK K kz) (hf : bz_fix (zp hd cp su) kz) (ht : bz_ti (zp hd cp su) g kz) (kb : ∀ v, kz v ≤ 1000000) (hg : g < 24) (hp : p = bz_pt (zp hd cp su) kz a) (hW : bz_way kz g p n) (hp24 : ∀ i, i ≤ n → p i < 24 ∧ kz (p i) < 1000000) (r0 : Nat → Int32) (hC : mC r0 cp su) (k : Int32 → (Nat → Int32) → Option (Int32 × (Nat → Int32) × (Nat → Int32) × (Nat → Int32))) :
    ∀ (m i q : Nat) (r : Nat → Int32), i + m = n → m < q → (∀ j, j ≤ i → r (168 + 24 * w + j) = nI (p j)) → (∀ x, x < 168 + 24 * w ∨ 168 + 24 * w + 24 ≤ x → r x = r0 x) → ∃ r', f_X6_isLaid_50 E K (nI w) (nI g) k q (nI (p i)) (nI (i + 1)) r = k (nI (n + 1)) r' ∧ (∀ j, j ≤ n → r' (168 + 24 * w + j) = nI (p j)) ∧ ∀ x, x < 168 + 24 * w ∨ 168 + 24 * w + 24 ≤ x → r' x = r0 x := by
  have hh2 : ∀ s, s < 48 → hd s ≤ 100000 := fun s hs => by have := hh s hs; omega
  intro m
  induction m with
  | zero =>
    intro i q r h1 h2 h3 h4
    obtain ⟨q, rfl⟩ : ∃ z, q = z + 1 := ⟨q - 1, by omega⟩
    obtain rfl : i = n := by omega
    refine ⟨r, ?_, h3, h4⟩
    unfold f_X6_isLaid_50
    rw [if_pos (by rw [hW.1])]
  | succ m ih =>
    intro i q r h1 h2 h3 h4
    obtain ⟨q, rfl⟩ : ∃ z, q = z + 1 := ⟨q - 1, by omega⟩
    obtain ⟨hpi, hki⟩ := hp24 i (by omega)
    obtain ⟨hpj, -⟩ := hp24 (i + 1) (by omega)
    obtain ⟨w1, w2, w3⟩ := hW.2 i (by omega)
    have hnx : bz_nx (zp hd cp su) kz (p i) = p (i + 1) := by rw [hp]; rfl
    have hC2 : mC r cp su := ⟨by rw [h4 _ (by omega)]; exact hC.1, by rw [h4 _ (by omega)]; exact hC.2⟩
    have hnj := l6_nextOn (r := r) hE hC2 hh2 hc hK hf ht hpi w1 hki kb
    rw [hnx] at hnj
    obtain ⟨r', e1, e2⟩ := ih (i + 1) q (upd r (168 + 24 * w + (i + 1)) (nI (p (i + 1)))) (by omega) (by omega) (fun j hj => by
      by_cases h : j = i + 1
      · subst h; rw [pz_us]
      · rw [pz_un (by omega)]; exact h3 j (by omega)) (fun x hx => by rw [pz_un (by omega)]; exact h4 x hx)
    refine ⟨r', ?_, e2⟩
    unfold f_X6_isLaid_50
    rw [if_neg (fun z => w1 ((nI_eq (by omega) (by omega)).mp z)), hnj, Option.bind_some, show (168 : Int32) + 24 * nI w + nI (i + 1) = nI (168 + 24 * w + (i + 1)) by rw [show (168 : Int32) = nI 168 from rfl, show (24 : Int32) = nI 24 from rfl, pk_mul, nI_add, nI_add], pz_w (by omega) (by omega), Option.bind_some, nI_1]
    exact e1
theorem l6_il_101 {r : Nat → Int32} {hd p : Nat → Nat} {w n : Nat} (hw : w < 72) (hn : n ≤ 23) (hr : ∀ j, j ≤ n → r (168 + 24 * w + j) = nI (p j)) (hp : ∀ j, j ≤ n → p j < 24) (hb : ∀ i, i < n → gz_be (p i) (p (i + 1)) = 1) (k : (Nat → Int32) → Option (Int32 × (Nat → Int32) × (Nat → Int32) × (Nat → Int32))) : ∀ (m i q : Nat) (E : Nat → Int32), i + m = n → m < q → cE E (fun s => hd s + gz_ed p s i) → ∃ E', f_X6_isLaid_101 r (nI w) (nI (n + 1)) k q (nI (i + 1)) E = k E' ∧ cE E' (fun s => hd s + gz_ed p s n) := by
  intro m
  induction m with
  | zero =>
    intro i q E h1 h2 h3
    obtain ⟨q, rfl⟩ : ∃ z, q = z + 1 := ⟨q - 1, by omega⟩
    obtain rfl : i = n := by omega
    refine ⟨E, ?_, h3⟩
    unfold f_X6_isLaid_101
    rw [if_pos (nI_le (Nat.le_refl _) (by omega))]
  | succ m ih =>
    intro i q E h1 h2 h3
    obtain ⟨q, rfl⟩ : ∃ z, q = z + 1 := ⟨q - 1, by omega⟩
    have hpi := hp i (by omega)
    have hpj := hp (i + 1) (by omega)
    have hbi := hb i (by omega)
    have hs := gz_sg_lt _ hpi _ hpj hbi
    obtain ⟨E', e1, e2⟩ := ih (i + 1) q (upd E (gz_sg (p i) (p (i + 1))) (E (gz_sg (p i) (p (i + 1))) + 1)) (by omega) (by omega) (by
      have := cE_inc h3 hs
      intro s hs
      rw [this s hs]
      show nI (hd s + gz_ed p s i + _) = nI (hd s + (gz_ed p s i + _))
      rw [Nat.add_assoc])
    refine ⟨E', ?_, e2⟩
    unfold f_X6_isLaid_101
    have j1 := hr i (by omega)
    have j2 := hr (i + 1) (by omega)
    simp (disch := omega) only [nI_lit, nI_add, pk_mul, nI_ltI, nI_leI, nI_eq, pk_sub, pk_div, pz_d, pz_w, pz_neg, pz_gen, pz_ltn, pz_len, pz_ltz, pz_nn, Option.bind_some, Nat.one_ne_zero, Nat.zero_ne_one, and_self, and_true, true_and, and_false, false_and, ↓reduceIte, show ¬ (n + 1 ≤ i + 1) by omega]
    rw [show 168 + 24 * w + (i + 1) - 1 = 168 + 24 * w + i by omega, j1, j2]
    simp (disch := omega) only [nI_lit, nI_add, pk_mul, nI_ltI, nI_leI, nI_eq, pk_sub, pk_div, pz_d, pz_w, pz_neg, pz_gen, pz_ltn, pz_len, pz_ltz, pz_nn, Option.bind_some, Nat.one_ne_zero, Nat.zero_ne_one, and_self, and_true, true_and, and_false, false_and, ↓reduceIte, l6_segment _ hpi _ hpj]
    exact e1
/-- A WIRE: both find no way, or both lay the same -/
theorem lay_one {S K L J E r H far : Nat → Int32} {sr lg hd : Nat → Nat} {jn : Nat → Nat → Nat} {cp su w : Nat} (hS : cS S sr) (hL : cL L lg) (hJ : cJ J lg jn) (hE : cE E hd) (rS : mS r sr) (rL : mL r lg) (rJ : mJ r lg jn) (rC : mC r cp su) (hH : cE H hd) (hh : ∀ s, s < 48 → hd s ≤ 10000) (hc : wC cp su) (hl : ∀ v, v < 72 → lg v ≤ 24) (hw : w < 72) (hs : sr w < 32) :
    (∃ K' far', f_X2_layWire K S L J E (nI cp) (nI su) (nI w) = some (nI 0, K', L, J, E) ∧ f_X6_isLaid H far r (nI w) = some (nI 0, H, far', r)) ∨
    ∃ (n : Nat) (p : Nat → Nat) (K' L' J' E' H' far' r' : Nat → Int32), n ≤ 23 ∧ (∀ i, i ≤ n → p i < 24) ∧ (∀ i, i < n → gz_be (p i) (p (i + 1)) = 1) ∧ f_X2_layWire K S L J E (nI cp) (nI su) (nI w) = some (nI 1, K', L', J', E') ∧ f_X6_isLaid H far r (nI w) = some (nI 1, H', far', r') ∧ cL L' (pz_up lg w (n + 1)) ∧ cJ J' (pz_up lg w (n + 1)) (bz_jn jn w p) ∧ cE E' (fun s => hd s + gz_ed p s n) ∧ cE H' (fun s => hd s + gz_ed p s n) ∧ mL r' (pz_up lg w (n + 1)) ∧ mJ r' (pz_up lg w (n + 1)) (bz_jn jn w p) ∧ ∀ x, x < 96 ∨ 1896 ≤ x → r' x = r x := by
  have hh2 : ∀ s, s < 48 → hd s ≤ 100000 := fun s hs => by have := hh s hs; omega
  have ha := gz_ju_lt _ hs
  have hg : w / 3 < 24 := by omega
  have hpr := zp_pos hd cp su
  obtain ⟨K1, c1, c2⟩ := l2_measureCosts (K := K) hE hh2 hc hg
  obtain ⟨F1, d1, d2⟩ := l6_reaches (far := far) hH rC hh2 hc hg
  have h3 : nI w / 3 = nI (w / 3) := pk_div (d := 3) (by omega) (by omega) (by omega)
  have hf : bz_fix (zp hd cp su) (bz_K hd cp su (w / 3)) := bz_23 hpr hg
  have ht : bz_ti (zp hd cp su) (w / 3) (bz_K hd cp su (w / 3)) := bz_ti_it (bz_ti_0 _ _) 23
  have kb : ∀ v, bz_K hd cp su (w / 3) v ≤ 1000000 := fun v => bz_it_b _ _ v 23
  have hg0 : bz_K hd cp su (w / 3) (w / 3) = 0 := bz_it_g _ _ 23
  have hka := kb (gz_ju (sr w))
  by_cases hk : bz_K hd cp su (w / 3) (gz_ju (sr w)) < 1000000
  · right
    obtain ⟨n, hn, hW, hp24⟩ := bz_way_ex hf ht hpr hg0 hg ha hk
    obtain ⟨p, hp⟩ : ∃ p, p = bz_pt (zp hd cp su) (bz_K hd cp su (w / 3)) (gz_ju (sr w)) := ⟨_, rfl⟩
    rw [← hp] at hW hp24
    have hp0 : p 0 = gz_ju (sr w) := by rw [hp]; rfl
    -- the class
    have s1 : cL (upd L w 0) (pz_up lg w (0 + 1)) := by
      intro v hv
      by_cases h : v = w
      · subst h; rw [pz_us, pz_ups]; rfl
      · rw [pz_un h, pz_upn h]; exact hL v hv
    have s2 : cJ (upd J (w * 24) (nI (gz_ju (sr w)))) (pz_up lg w (0 + 1)) (bz_jn jn w p) := by
      intro v hv k hk
      by_cases h : v = w
      · subst h
        rw [pz_ups] at hk
        obtain rfl : k = 0 := by omega
        rw [Nat.add_zero, pz_us, bz_jns, hp0]
      · rw [pz_upn h] at hk
        have := hl v hv
        rw [pz_un (by omega), bz_jnn h]
        exact hJ v hv k hk
    obtain ⟨L', J', E', e1, e2, e3, e4⟩ := l2_lw_55 (lg := lg) (jn := jn) hw hn hc hh c2 hf ht kb hg hp hW hp24 hl (fun Lz24 Jz24 Ez24 => some (1, K1, Lz24, Jz24, Ez24)) n 0 xFu (upd L w 0) (upd J (w * 24) (nI (gz_ju (sr w)))) E (by omega) (by unfold xFu; omega) s1 s2 hE
    -- the reference
    obtain ⟨r1, g1, g2, g3⟩ := l6_il_50 (p := p) hw hn hc hh hH d2 hf ht kb hg hp hW hp24 r rC (fun x5z17 rrz17 => (xr_w rrz17 1898 (96 + nI w) x5z17).bind fun rr19 => f_X6_isLaid_101 rr19 (nI w) x5z17 (fun hldz31 => some (1, hldz31, F1, rr19)) xFu 1 H) n 0 xFu (upd r (168 + 24 * w) (nI (gz_ju (sr w)))) (by omega) (by unfold xFu; omega) (fun j hj => by
      obtain rfl : j = 0 := by omega
      rw [Nat.add_zero, pz_us, hp0]) (fun x hx => pz_un (by omega))
    have g2' : ∀ j, j ≤ n → upd r1 (96 + w) (nI (n + 1)) (168 + 24 * w + j) = nI (p j) := fun j hj => by rw [pz_un (by omega)]; exact g2 j hj
    obtain ⟨H', i1, i2⟩ := l6_il_101 (hd := hd) hw hn g2' (fun j hj => (hp24 j hj).1) (fun i hi => (hW.2 i hi).2.1) (fun hldz31 => some (1, hldz31, F1, upd r1 (96 + w) (nI (n + 1)))) n 0 xFu H (by omega) (by unfold xFu; omega) hH
    refine ⟨n, p, K1, L', J', E', H', F1, upd r1 (96 + w) (nI (n + 1)), hn, fun i hi => (hp24 i hi).1, fun i hi => (hW.2 i hi).2.1, ?_, ?_, e2, e3, e4, i2, ?_, ?_, ?_⟩
    · unfold f_X2_layWire
      rw [l0_sourceOf hS hw, Option.bind_some, l5_junctionOf _ (by omega), if_pos hs, Option.bind_some, l5_isPlace (by omega), if_pos ha, Option.bind_some, if_neg (by decide), h3, c1, Option.bind_some, pz_d ha (by omega), Option.bind_some, c2 _ ha, if_pos (show nI _ < (1000000 : Int32) from nI_lt (b := 1000000) hk (by omega))]
      have est : f_X0_startWire L J (nI w) (nI (gz_ju (sr w))) = some (upd L w 0, upd J (w * 24) (nI (gz_ju (sr w)))) := by
        unfold f_X0_startWire
        rw [l5_isWire (by omega), if_pos hw, Option.bind_some, if_neg (by decide), pz_w hw (by omega), Option.bind_some, show nI w * 24 = nI (w * 24) from pk_mul w 24, pz_w (by omega) (by omega), Option.bind_some]
      rw [est, Option.bind_some]
      try dsimp only
      rw [← hp0]
      rw [hp0]
      rw [hp0] at e1
      exact e1
    · unfold f_X6_isLaid
      rw [show (24 : Int32) + nI w = nI (24 + w) from nI_add 24 w, pz_d (by omega) (by omega), Option.bind_some, rS w hw, l6_junction _ (by omega), if_pos hs, Option.bind_some, h3, d1, Option.bind_some, pz_d ha (by omega), Option.bind_some, d2 _ ha, if_pos (show nI _ < (1000000 : Int32) from nI_lt (b := 1000000) hk (by omega)), show (168 : Int32) + 24 * nI w = nI (168 + 24 * w) by rw [show (168 : Int32) = nI 168 from rfl, show (24 : Int32) = nI 24 from rfl, pk_mul, nI_add], pz_w (by omega) (by omega), Option.bind_some]
      rw [hp0] at g1
      refine g1.trans ?_
      try dsimp only
      rw [show (96 : Int32) + nI w = nI (96 + w) from nI_add 96 w, pz_w (by omega) (by omega), Option.bind_some]
      exact i1
    · intro v hv
      by_cases h : v = w
      · subst h; rw [pz_us, pz_ups]
      · rw [pz_un (by omega), pz_upn h, g3 _ (by omega)]
        exact rL v hv
    · intro v hv k hk
      by_cases h : v = w
      · subst h
        rw [pz_ups] at hk
        rw [bz_jns]
        exact g2' k (by omega)
      · rw [pz_upn h] at hk
        have := hl v hv
        rw [pz_un (by omega), bz_jnn h, g3 _ (by omega)]
        exact rJ v hv k hk
    · intro x hx
      rw [pz_un (by omega), g3 _ (by omega)]
  · left
    refine ⟨K1, F1, ?_, ?_⟩
    · unfold f_X2_layWire
      rw [l0_sourceOf hS hw, Option.bind_some, l5_junctionOf _ (by omega), if_pos hs, Option.bind_some, l5_isPlace (by omega), if_pos ha, Option.bind_some, if_neg (by decide), h3, c1, Option.bind_some, pz_d ha (by omega), Option.bind_some, c2 _ ha, if_neg (show ¬ (nI _ < (1000000 : Int32)) from nI_nlt (b := 1000000) (by omega) (by omega))]
      rfl
    · unfold f_X6_isLaid
      rw [show (24 : Int32) + nI w = nI (24 + w) from nI_add 24 w, pz_d (by omega) (by omega), Option.bind_some, rS w hw, l6_junction _ (by omega), if_pos hs, Option.bind_some, h3, d1, Option.bind_some, pz_d ha (by omega), Option.bind_some, d2 _ ha, if_neg (show ¬ (nI _ < (1000000 : Int32)) from nI_nlt (b := 1000000) (by omega) (by omega))]
      rfl
