/-! both sides measure costs so -/
def cK (K : Nat → Int32) (kz : Nat → Nat) : Prop := ∀ v, v < 24 → K v = nI (kz v)
theorem cK_rx {K : Nat → Int32} {kz : Nat → Nat} {x a : Nat} (hK : cK K kz) : cK (upd K a (nI x)) (pz_up kz a x) := by
  intro q hq
  by_cases h : q = a
  · subst h; rw [pz_us, pz_ups]
  · rw [pz_un h, pz_upn h]; exact hK q hq
theorem bz_fl_s (pr K : Nat → Nat) {t a s : Nat} (h1 : t / 4 = a) (h2 : t % 4 = s) : bz_fl pr K (t + 1) = if gz_nb a s < 24 ∧ bz_st pr K t (gz_nb a s) + pr (gz_sa a s) < bz_st pr K t a then 1 else bz_fl pr K t := by
  subst h1
  subst h2
  simp only [bz_fl]
theorem bz_st_s (pr K : Nat → Nat) {t a s : Nat} (h1 : t / 4 = a) (h2 : t % 4 = s) : bz_st pr K (t + 1) = bz_rx pr (bz_st pr K t) a s := by
  subst h1
  subst h2
  simp only [bz_st]
section BZ
variable {E K : Nat → Int32} {hd kz : Nat → Nat} {cp su : Nat}
theorem l2_costOver (hE : cE E hd) (hh : ∀ s, s < 48 → hd s ≤ 100000) (hc : wC cp su) (hK : cK K kz) {a s : Nat} (ha : a < 24) (hs : s < 4) : f_X2_costOver K E (nI cp) (nI su) (nI a) (nI s) = some (nI (if gz_nb a s < 24 then kz (gz_nb a s) + zp hd cp su (gz_sa a s) else 1000000)) := by
  unfold f_X2_costOver
  rw [l5_segmentAt a ha s hs, Option.bind_some, pz_d hs (by omega), Option.bind_some]
  by_cases hn : gz_nb a s < 24
  · have h1 := (gz_nb_sg a ha s hs hn).2.2
    rw [if_pos hn, if_pos hn, l5_stp a ha s hs hn, if_neg (show ¬ (nI (gz_sa a s) = -1) from fun q => by rw [show (-1 : Int32) = -nI 1 from rfl, pz_neg (by omega) (by omega) (by omega)] at q; exact q), l5_isPlace (by omega), if_pos hn, Option.bind_some, if_neg (by decide), l0_priceOf hE hh hc h1, Option.bind_some, pz_d hn (by omega), Option.bind_some, hK _ hn, nI_add, Nat.add_comm]
  · rw [if_neg hn, if_neg hn, if_pos rfl]
    rfl
/-- one step of the class -/
theorem l2_mc_54 (hE : cE E hd) (hh : ∀ s, s < 48 → hd s ≤ 100000) (hc : wC cp su) {a : Nat} (ha : a < 24) (k : Int32 → (Nat → Int32) → Option (Nat → Int32)) (kb : ∀ v, kz v ≤ 1000000) : ∀ (m i n : Nat) (K : Nat → Int32), i + m = 4 → m < n → cK K (bz_st (zp hd cp su) kz (4 * a + i)) → ∃ K', f_X2_measureCosts_54 E (nI cp) (nI su) (nI a) k n (nI (bz_fl (zp hd cp su) kz (4 * a + i))) (nI i) K = k (nI (bz_fl (zp hd cp su) kz (4 * a + 4))) K' ∧ cK K' (bz_st (zp hd cp su) kz (4 * a + 4)) := by
  intro m
  induction m with
  | zero =>
    intro i n K h1 h2 h3
    obtain ⟨n, rfl⟩ : ∃ q, n = q + 1 := ⟨n - 1, by omega⟩
    obtain rfl : i = 4 := by omega
    refine ⟨K, ?_, h3⟩
    unfold f_X2_measureCosts_54
    rw [if_pos (show (4 : Int32) ≤ nI 4 from nI_le (a := 4) (Nat.le_refl _) (by omega))]
  | succ m ih =>
    intro i n K h1 h2 h3
    obtain ⟨n, rfl⟩ : ∃ q, n = q + 1 := ⟨n - 1, by omega⟩
    have hi : i < 4 := by omega
    have hb1 := bz_st_b (zp hd cp su) kb (4 * a + i) (gz_nb a i)
    have hb2 := bz_st_b (zp hd cp su) kb (4 * a + i) a
    have hb3 := zp_le (hd := hd) hc (gz_sa a i)
    have ef := bz_fl_s (zp hd cp su) kz (t := 4 * a + i) (a := a) (s := i) (by omega) (by omega)
    have es := bz_st_s (zp hd cp su) kz (t := 4 * a + i) (a := a) (s := i) (by omega) (by omega)
    rw [show 4 * a + i + 1 = 4 * a + (i + 1) by omega] at ef es
    have fin : ∀ (K1 : Nat → Int32), cK K1 (bz_st (zp hd cp su) kz (4 * a + (i + 1))) → _ := fun K1 => ih (i + 1) n K1 (by omega) (by omega)
    unfold bz_rx at es
    unfold f_X2_measureCosts_54
    rw [if_neg (show ¬ ((4 : Int32) ≤ nI i) from nI_ge (b := 4) hi (by omega)), l2_costOver hE hh hc h3 ha hi, Option.bind_some, pz_d ha (by omega), Option.bind_some, h3 a ha]
    by_cases hcnd : gz_nb a i < 24 ∧ bz_st (zp hd cp su) kz (4 * a + i) (gz_nb a i) + zp hd cp su (gz_sa a i) < bz_st (zp hd cp su) kz (4 * a + i) a
    · rw [if_pos hcnd] at ef es
      rw [if_pos hcnd.1, if_neg (show ¬ (nI (bz_st (zp hd cp su) kz (4 * a + i) a) ≤ nI _) from nI_ge hcnd.2 (by omega)), pz_w ha (by omega), Option.bind_some]
      obtain ⟨K', e1, e2⟩ := fin (upd K a (nI (bz_st (zp hd cp su) kz (4 * a + i) (gz_nb a i) + zp hd cp su (gz_sa a i)))) (by rw [es]; exact cK_rx h3)
      refine ⟨K', ?_, e2⟩
      rw [ef] at e1
      rw [nI_1]
      exact e1
    · rw [if_neg hcnd] at ef es
      have hle : bz_st (zp hd cp su) kz (4 * a + i) a ≤ (if gz_nb a i < 24 then bz_st (zp hd cp su) kz (4 * a + i) (gz_nb a i) + zp hd cp su (gz_sa a i) else 1000000) := by
        split
        · next q => exact Nat.le_of_not_lt fun q2 => hcnd ⟨q, q2⟩
        · exact hb2
      rw [if_pos (nI_le hle (by split <;> omega))]
      obtain ⟨K', e1, e2⟩ := fin K (by rw [es]; exact h3)
      refine ⟨K', ?_, e2⟩
      rw [ef] at e1
      rw [nI_1]
      exact e1
theorem l2_mc_44 (hE : cE E hd) (hh : ∀ s, s < 48 → hd s ≤ 100000) (hc : wC cp su) (k : Int32 → (Nat → Int32) → Option (Nat → Int32)) (kb : ∀ v, kz v ≤ 1000000) : ∀ (m a n : Nat) (K : Nat → Int32), a + m = 24 → m < n → cK K (bz_st (zp hd cp su) kz (4 * a)) → ∃ K', f_X2_measureCosts_44 E (nI cp) (nI su) k n (nI (bz_fl (zp hd cp su) kz (4 * a))) (nI a) K = k (nI (bz_fl (zp hd cp su) kz 96)) K' ∧ cK K' (bz_st (zp hd cp su) kz 96) := by
  intro m
  induction m with
  | zero =>
    intro a n K h1 h2 h3
    obtain ⟨n, rfl⟩ : ∃ q, n = q + 1 := ⟨n - 1, by omega⟩
    obtain rfl : a = 24 := by omega
    refine ⟨K, ?_, h3⟩
    unfold f_X2_measureCosts_44
    rw [if_pos (show (24 : Int32) ≤ nI 24 from nI_le (a := 24) (Nat.le_refl _) (by omega))]
  | succ m ih =>
    intro a n K h1 h2 h3
    obtain ⟨n, rfl⟩ : ∃ q, n = q + 1 := ⟨n - 1, by omega⟩
    obtain ⟨K1, e1, e2⟩ := l2_mc_54 hE hh hc (show a < 24 by omega) (fun x3z17 Kz17 => f_X2_measureCosts_44 E (nI cp) (nI su) k n x3z17 (nI a + 1) Kz17) kb 4 0 xFu K (by omega) (by unfold xFu; omega) h3
    obtain ⟨K2, e3, e4⟩ := ih (a + 1) n K1 (by omega) (by omega) e2
    refine ⟨K2, ?_, e4⟩
    unfold f_X2_measureCosts_44
    rw [if_neg (show ¬ ((24 : Int32) ≤ nI a) from nI_ge (b := 24) (by omega) (by omega))]
    refine e1.trans ?_
    rw [nI_1]
    exact e3
/-- what the passes come to -/
noncomputable def bz_K (hd : Nat → Nat) (cp su g : Nat) : Nat → Nat := bz_it (zp hd cp su) (bz_0 g) 23
theorem bz_late {pr : Nat → Nat} (hpr : ∀ s, 1 ≤ pr s) {g i : Nat} (hg : g < 24) (hf : bz_fix pr (bz_it pr (bz_0 g) i)) : bz_it pr (bz_0 g) i = bz_it pr (bz_0 g) 23 := by
  rcases Nat.le_total i 23 with h | h
  · have := bz_it_fix hf (23 - i)
    rw [show i + (23 - i) = 23 by omega] at this
    exact this.symm
  · have := bz_it_fix (bz_23 hpr hg) (i - 23)
    rwa [show 23 + (i - 23) = i by omega] at this
theorem l2_mc_28 (hE : cE E hd) (hh : ∀ s, s < 48 → hd s ≤ 100000) (hc : wC cp su) {g : Nat} (hg : g < 24) (k : (Nat → Int32) → Option (Nat → Int32)) : ∀ (m i n x : Nat) (K : Nat → Int32), i + m = 24 → m < n → x ≤ 1 → (x = 0 → bz_fix (zp hd cp su) (bz_it (zp hd cp su) (bz_0 g) i)) → cK K (bz_it (zp hd cp su) (bz_0 g) i) → ∃ K', f_X2_measureCosts_28 E (nI cp) (nI su) k n (nI x) (nI i) K = k K' ∧ cK K' (bz_K hd cp su g) := by
  have hpr := zp_pos hd cp su
  intro m
  induction m with
  | zero =>
    intro i n x K h1 h2 hx hf h3
    obtain ⟨n, rfl⟩ : ∃ q, n = q + 1 := ⟨n - 1, by omega⟩
    obtain rfl : i = 24 := by omega
    refine ⟨K, ?_, ?_⟩
    · unfold f_X2_measureCosts_28
      rw [if_pos (show (24 : Int32) ≤ nI 24 from nI_le (a := 24) (Nat.le_refl _) (by omega))]
    · have := bz_it_fix (bz_23 hpr hg) 1
      unfold bz_K
      rw [← this]
      exact h3
  | succ m ih =>
    intro i n x K h1 h2 hx hf h3
    obtain ⟨n, rfl⟩ : ∃ q, n = q + 1 := ⟨n - 1, by omega⟩
    unfold f_X2_measureCosts_28
    rw [if_neg (show ¬ ((24 : Int32) ≤ nI i) from nI_ge (b := 24) (by omega) (by omega))]
    by_cases h0 : x = 0
    · refine ⟨K, by rw [if_pos (by rw [h0]; rfl)], ?_⟩
      unfold bz_K
      rw [← bz_late hpr hg (hf h0)]
      exact h3
    · rw [if_neg (show ¬ (nI x = 0) from nI_ne0 (by omega) (by omega))]
      have hkb : ∀ v, bz_it (zp hd cp su) (bz_0 g) i v ≤ 1000000 := fun v => bz_it_b _ g v i
      obtain ⟨K1, e1, e2⟩ := l2_mc_44 hE hh hc (fun x3z18 Kz18 => f_X2_measureCosts_28 E (nI cp) (nI su) k n x3z18 (nI i + 1) Kz18) hkb 24 0 xFu K (by omega) (by unfold xFu; omega) h3
      obtain ⟨K2, e3, e4⟩ := ih (i + 1) n (bz_fl (zp hd cp su) (bz_it (zp hd cp su) (bz_0 g) i) 96) K1 (by omega) (by omega) (bz_fl_le _ _ _) (fun q => by
        have hfx := bz_fl_fix q
        have := bz_it_fix hfx 1
        rw [this]
        exact hfx) e2
      refine ⟨K2, ?_, e4⟩
      refine e1.trans ?_
      rw [nI_1]
      exact e3
end BZ
theorem l7_fill_5 {N x : Nat} (hN : N < 100000) (X : Int32) (k : (Nat → Int32) → Option (Nat → Int32)) : ∀ (m i n : Nat) (f : Nat → Int32), i + m = N → m < n → (∀ j, j < i → f j = X) → ∃ f', f_J7_fill_53178_5 N X (Int32.ofNat N) k n (nI i) f = k f' ∧ ∀ j, j < N → f' j = X := by
  intro m
  induction m with
  | zero =>
    intro i n f h1 h2 h3
    obtain ⟨n, rfl⟩ : ∃ q, n = q + 1 := ⟨n - 1, by omega⟩
    obtain rfl : i = N := by omega
    unfold f_J7_fill_53178_5
    rw [if_pos (show Int32.ofNat i ≤ nI i from nI_le (a := i) (Nat.le_refl _) (by omega))]
    exact ⟨f, rfl, h3⟩
  | succ m ih =>
    intro i n f h1 h2 h3
    obtain ⟨n, rfl⟩ : ∃ q, n = q + 1 := ⟨n - 1, by omega⟩
    obtain ⟨f', e1, e2⟩ := ih (i + 1) n (upd f i X) (by omega) (by omega) (fun j hj => by
      by_cases h : j = i
      · subst h; rw [pz_us]
      · rw [pz_un (by omega)]; exact h3 j (by omega))
    refine ⟨f', ?_, e2⟩
    unfold f_J7_fill_53178_5
    rw [if_neg (show ¬ (Int32.ofNat N ≤ nI i) from nI_ge (b := N) (by omega) (by omega)), pz_w (by omega) (by omega), Option.bind_some, nI_1]
    exact e1
theorem l7_fill {N : Nat} (hN : N < 100000) (f : Nat → Int32) (X : Int32) : ∃ f', f_J7_fill_53178 N f X = some f' ∧ ∀ j, j < N → f' j = X :=
  l7_fill_5 (x := 0) hN X (fun x => some x) N 0 xFu f (by omega) (by unfold xFu; omega) (fun j hj => by omega)
theorem l2_measureCosts {E K : Nat → Int32} {hd : Nat → Nat} {cp su : Nat} (hE : cE E hd) (hh : ∀ s, s < 48 → hd s ≤ 100000) (hc : wC cp su) {g : Nat} (hg : g < 24) : ∃ K', f_X2_measureCosts K E (nI cp) (nI su) (nI g) = some K' ∧ cK K' (bz_K hd cp su g) := by
  obtain ⟨f1, e1, e2⟩ := l7_fill (N := 24) (by omega) K 1000000
  have h0 : cK (upd f1 g 0) (bz_0 g) := by
    intro v hv
    unfold bz_0
    by_cases h : v = g
    · subst h; rw [pz_us, if_pos rfl]; rfl
    · rw [pz_un h, if_neg h, e2 v hv]; rfl
  obtain ⟨K', e3, e4⟩ := l2_mc_28 hE hh hc hg (fun x => some x) 24 0 xFu 1 (upd f1 g 0) (by omega) (by unfold xFu; omega) (by omega) (fun q => by omega) h0
  refine ⟨K', ?_, e4⟩
  unfold f_X2_measureCosts
  rw [e1, Option.bind_some, l5_isPlace (by omega), if_pos hg, Option.bind_some, if_neg (by decide), pz_w hg (by omega), Option.bind_some]
  exact e3
/-! the reference -/
section MZ
variable {E K r : Nat → Int32} {hd kz : Nat → Nat} {cp su : Nat}
theorem l6_re_42 (hE : cE E hd) (hC : mC r cp su) (hh : ∀ s, s < 48 → hd s ≤ 100000) (hc : wC cp su) (k : Int32 → (Nat → Int32) → Option (Nat → Int32)) (kb : ∀ v, kz v ≤ 1000000) : ∀ (m t n : Nat) (K : Nat → Int32), t + m = 96 → m < n → cK K (bz_st (zp hd cp su) kz t) → ∃ K', f_X6_reaches_42 E r k n (nI (bz_fl (zp hd cp su) kz t)) (nI t) K = k (nI (bz_fl (zp hd cp su) kz 96)) K' ∧ cK K' (bz_st (zp hd cp su) kz 96) := by
  intro m
  induction m with
  | zero =>
    intro i n K h1 h2 h3
    obtain ⟨n, rfl⟩ : ∃ q, n = q + 1 := ⟨n - 1, by omega⟩
    obtain rfl : i = 96 := by omega
    refine ⟨K, ?_, h3⟩
    unfold f_X6_reaches_42
    rw [if_pos (show (96 : Int32) ≤ nI 96 from nI_le (a := 96) (Nat.le_refl _) (by omega))]
  | succ m ih =>
    intro t n K h1 h2 h3
    obtain ⟨n, rfl⟩ : ∃ q, n = q + 1 := ⟨n - 1, by omega⟩
    have ha : t / 4 < 24 := by omega
    have hi : t % 4 < 4 := by omega
    have hb1 := bz_st_b (zp hd cp su) kb t (gz_nb (t / 4) (t % 4))
    have hb2 := bz_st_b (zp hd cp su) kb t (t / 4)
    have hb3 := zp_le (hd := hd) hc (gz_sa (t / 4) (t % 4))
    have ef := bz_fl_s (zp hd cp su) kz (t := t) rfl rfl
    have es := bz_st_s (zp hd cp su) kz (t := t) rfl rfl
    have fin : ∀ (K1 : Nat → Int32), cK K1 (bz_st (zp hd cp su) kz (t + 1)) → _ := fun K1 => ih (t + 1) n K1 (by omega) (by omega)
    unfold bz_rx at es
    have e4 : nI t / 4 = nI (t / 4) := pk_div (d := 4) (by omega) (by omega) (by omega)
    have e5 : nI t - nI (t / 4) * 4 = nI (t % 4) := by
      rw [show (4 : Int32) = nI 4 from rfl, pk_mul, pk_sub (by omega)]
      congr 1
      omega
    unfold f_X6_reaches_42
    rw [if_neg (show ¬ ((96 : Int32) ≤ nI t) from nI_ge (b := 96) (by omega) (by omega)), e4, e5, l6_beside _ ha _ hi, Option.bind_some]
    by_cases hn : gz_nb (t / 4) (t % 4) < 24
    · have hg := gz_nb_sg _ ha _ hi hn
      rw [if_pos hn, if_neg (show ¬ (nI (gz_nb (t / 4) (t % 4)) = -5) from fun q => by rw [show (-5 : Int32) = -nI 5 from rfl, pz_neg (by omega) (by omega) (by omega)] at q; exact q), pz_d hn (by omega), Option.bind_some, l6_cost hE hC hh hc ha hn hg.2.1, Option.bind_some, pz_d ha (by omega), Option.bind_some, hg.1, h3 _ hn, h3 _ ha, nI_add]
      by_cases hcnd : bz_st (zp hd cp su) kz t (gz_nb (t / 4) (t % 4)) + zp hd cp su (gz_sa (t / 4) (t % 4)) < bz_st (zp hd cp su) kz t (t / 4)
      · rw [if_pos ⟨hn, hcnd⟩] at ef es
        rw [if_neg (show ¬ (nI (bz_st (zp hd cp su) kz t (t / 4)) ≤ nI _) from nI_ge hcnd (by omega)), pz_w ha (by omega), Option.bind_some]
        obtain ⟨K', e1, e2⟩ := fin (upd K (t / 4) (nI (bz_st (zp hd cp su) kz t (gz_nb (t / 4) (t % 4)) + zp hd cp su (gz_sa (t / 4) (t % 4))))) (by rw [es]; exact cK_rx h3)
        refine ⟨K', ?_, e2⟩
        rw [ef] at e1
        rw [nI_1]
        exact e1
      · rw [if_neg (fun q => hcnd q.2)] at ef es
        rw [if_pos (nI_le (Nat.le_of_not_lt hcnd) (by omega))]
        obtain ⟨K', e1, e2⟩ := fin K (by rw [es]; exact h3)
        refine ⟨K', ?_, e2⟩
        rw [ef] at e1
        rw [nI_1]
        exact e1
    · rw [if_neg (fun q => hn q.1)] at ef es
      rw [if_neg hn, if_pos rfl, pz_d ha (by omega), Option.bind_some, h3 _ ha, if_pos (show nI _ ≤ (1000000 : Int32) from nI_le (b := 1000000) hb2 (by omega))]
      obtain ⟨K', e1, e2⟩ := fin K (by rw [es]; exact h3)
      refine ⟨K', ?_, e2⟩
      rw [ef] at e1
      rw [nI_1]
      exact e1
theorem l6_re_33 (hE : cE E hd) (hC : mC r cp su) (hh : ∀ s, s < 48 → hd s ≤ 100000) (hc : wC cp su) {g : Nat} (hg : g < 24) (k : (Nat → Int32) → Option (Nat → Int32)) : ∀ (m i n x : Nat) (K : Nat → Int32), i + m = 24 → m + 1 < n → x ≤ 1 → (x = 0 → bz_fix (zp hd cp su) (bz_it (zp hd cp su) (bz_0 g) i)) → (i = 24 → x = 0) → cK K (bz_it (zp hd cp su) (bz_0 g) i) → ∃ K', f_X6_reaches_33 E r k n (nI x) K = k K' ∧ cK K' (bz_K hd cp su g) := by
  have hpr := zp_pos hd cp su
  intro m
  induction m with
  | zero =>
    intro i n x K h1 h2 hx hf hx0 h3
    obtain ⟨n, rfl⟩ : ∃ q, n = q + 1 := ⟨n - 1, by omega⟩
    obtain rfl : i = 24 := by omega
    have h0 := hx0 rfl
    refine ⟨K, ?_, ?_⟩
    · unfold f_X6_reaches_33
      rw [if_pos (by rw [h0]; rfl)]
    · unfold bz_K
      rw [← bz_late hpr hg (hf h0)]
      exact h3
  | succ m ih =>
    intro i n x K h1 h2 hx hf hx0 h3
    obtain ⟨n, rfl⟩ : ∃ q, n = q + 1 := ⟨n - 1, by omega⟩
    unfold f_X6_reaches_33
    by_cases h0 : x = 0
    · refine ⟨K, by rw [if_pos (by rw [h0]; rfl)], ?_⟩
      unfold bz_K
      rw [← bz_late hpr hg (hf h0)]
      exact h3
    · rw [if_neg (show ¬ (nI x = 0) from nI_ne0 (by omega) (by omega))]
      have hkb : ∀ v, bz_it (zp hd cp su) (bz_0 g) i v ≤ 1000000 := fun v => bz_it_b _ g v i
      obtain ⟨K1, e1, e2⟩ := l6_re_42 hE hC hh hc (fun x3z27 farz27 => f_X6_reaches_33 E r k n x3z27 farz27) hkb 96 0 xFu K (by omega) (by unfold xFu; omega) h3
      obtain ⟨K2, e3, e4⟩ := ih (i + 1) n (bz_fl (zp hd cp su) (bz_it (zp hd cp su) (bz_0 g) i) 96) K1 (by omega) (by omega) (bz_fl_le _ _ _) (fun q => by
        have hfx := bz_fl_fix q
        have := bz_it_fix hfx 1
        rw [this]
        exact hfx) (fun q => by
        obtain rfl : i = 23 := by omega
        exact (bz_fix_st (bz_23 hpr hg) 96 (Nat.le_refl _)).2) e2
      refine ⟨K2, ?_, e4⟩
      exact e1.trans e3
theorem l6_re_2 {g : Nat} (k : (Nat → Int32) → Option (Nat → Int32)) (hg : g < 24) : ∀ (m i n : Nat) (f : Nat → Int32), i + m = 24 → m < n → (∀ j, j < i → f j = nI (bz_0 g j)) → ∃ f', f_X6_reaches_2 (nI g) k n (nI i) f = k f' ∧ cK f' (bz_0 g) := by
  intro m
  induction m with
  | zero =>
    intro i n f h1 h2 h3
    obtain ⟨n, rfl⟩ : ∃ q, n = q + 1 := ⟨n - 1, by omega⟩
    obtain rfl : i = 24 := by omega
    unfold f_X6_reaches_2
    rw [if_pos (show (24 : Int32) ≤ nI 24 from nI_le (a := 24) (Nat.le_refl _) (by omega))]
    exact ⟨f, rfl, h3⟩
  | succ m ih =>
    intro i n f h1 h2 h3
    obtain ⟨n, rfl⟩ : ∃ q, n = q + 1 := ⟨n - 1, by omega⟩
    obtain ⟨f', e1, e2⟩ := ih (i + 1) n (upd f i (nI (bz_0 g i))) (by omega) (by omega) (fun j hj => by
      by_cases h : j = i
      · subst h; rw [pz_us]
      · rw [pz_un (by omega)]; exact h3 j (by omega))
    refine ⟨f', ?_, e2⟩
    unfold f_X6_reaches_2
    rw [if_neg (show ¬ ((24 : Int32) ≤ nI i) from nI_ge (b := 24) (by omega) (by omega)), pz_w (by omega) (by omega), pz_w (by omega) (by omega), Option.bind_some, Option.bind_some, nI_1]
    unfold bz_0 at e1
    by_cases h : i = g
    · rw [if_pos h] at e1
      rw [if_pos (by rw [h])]
      exact e1
    · rw [if_neg h] at e1
      rw [if_neg (fun q => h ((nI_eq (by omega) (by omega)).mp q))]
      exact e1
theorem l6_reaches {far : Nat → Int32} (hE : cE E hd) (hC : mC r cp su) (hh : ∀ s, s < 48 → hd s ≤ 100000) (hc : wC cp su) {g : Nat} (hg : g < 24) : ∃ K', f_X6_reaches E far r (nI g) = some K' ∧ cK K' (bz_K hd cp su g) := by
  unfold f_X6_reaches
  obtain ⟨f1, e1, e2⟩ := l6_re_2 (fun farz7 => f_X6_reaches_33 E r (fun farz28 => some farz28) xFu 1 farz7) hg 24 0 xFu far (by omega) (by unfold xFu; omega) (fun j hj => by omega)
  obtain ⟨K', e3, e4⟩ := l6_re_33 hE hC hh hc hg (fun x => some x) 24 0 xFu 1 f1 (by omega) (by unfold xFu; omega) (by omega) (fun q => by omega) (fun q => by omega) e2
  exact ⟨K', e1.trans e3, e4⟩
end MZ
