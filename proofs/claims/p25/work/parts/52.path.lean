/-! the way from a junction to the goal -/
section PZ
/-- the first side that leads on -/
noncomputable def bz_nx (pr kz : Nat → Nat) (a : Nat) : Nat :=
  if gz_nb a 0 < 24 ∧ kz (gz_nb a 0) + pr (gz_sa a 0) = kz a then gz_nb a 0
  else if gz_nb a 1 < 24 ∧ kz (gz_nb a 1) + pr (gz_sa a 1) = kz a then gz_nb a 1
  else if gz_nb a 2 < 24 ∧ kz (gz_nb a 2) + pr (gz_sa a 2) = kz a then gz_nb a 2
  else gz_nb a 3
noncomputable def bz_pt (pr kz : Nat → Nat) (a : Nat) : Nat → Nat
  | 0 => a
  | i + 1 => bz_nx pr kz (bz_pt pr kz a i)
variable {pr kz : Nat → Nat} {g a : Nat}
theorem bz_nx_ok (hf : bz_fix pr kz) (ht : bz_ti pr g kz) (hpr : ∀ s, 1 ≤ pr s) (ha : a < 24) (hg : a ≠ g) (hk : kz a < 1000000) : ∃ s, s < 4 ∧ gz_nb a s < 24 ∧ kz (gz_nb a s) + pr (gz_sa a s) = kz a ∧ bz_nx pr kz a = gz_nb a s := by
  obtain ⟨s, hs, hn, hle⟩ := ht a ha hg hk
  have he : kz (gz_nb a s) + pr (gz_sa a s) = kz a := by have := hf a ha s hs hn; omega
  unfold bz_nx
  by_cases h0 : gz_nb a 0 < 24 ∧ kz (gz_nb a 0) + pr (gz_sa a 0) = kz a
  · rw [if_pos h0]; exact ⟨0, by omega, h0.1, h0.2, rfl⟩
  · rw [if_neg h0]
    by_cases h1 : gz_nb a 1 < 24 ∧ kz (gz_nb a 1) + pr (gz_sa a 1) = kz a
    · rw [if_pos h1]; exact ⟨1, by omega, h1.1, h1.2, rfl⟩
    · rw [if_neg h1]
      by_cases h2 : gz_nb a 2 < 24 ∧ kz (gz_nb a 2) + pr (gz_sa a 2) = kz a
      · rw [if_pos h2]; exact ⟨2, by omega, h2.1, h2.2, rfl⟩
      · rw [if_neg h2]
        rcases (show s = 0 ∨ s = 1 ∨ s = 2 ∨ s = 3 by omega) with rfl | rfl | rfl | rfl
        · exact absurd ⟨hn, he⟩ h0
        · exact absurd ⟨hn, he⟩ h1
        · exact absurd ⟨hn, he⟩ h2
        · exact ⟨3, by omega, hn, he, rfl⟩
/-- a step goes to a junction beside it that costs less -/
theorem bz_nx_st (hf : bz_fix pr kz) (ht : bz_ti pr g kz) (hpr : ∀ s, 1 ≤ pr s) (ha : a < 24) (hg : a ≠ g) (hk : kz a < 1000000) : bz_nx pr kz a < 24 ∧ gz_be a (bz_nx pr kz a) = 1 ∧ kz (bz_nx pr kz a) < kz a := by
  obtain ⟨s, h1, h2, h3, h4⟩ := bz_nx_ok hf ht hpr ha hg hk
  rw [h4]
  have := hpr (gz_sa a s)
  exact ⟨h2, (gz_nb_sg a ha s h1 h2).2.1, by omega⟩
/-- a way: n steps, each to a junction beside that costs less, none of them but the last at the goal -/
def bz_way (kz : Nat → Nat) (g : Nat) (p : Nat → Nat) (n : Nat) : Prop := p n = g ∧ ∀ i, i < n → p i ≠ g ∧ gz_be (p i) (p (i + 1)) = 1 ∧ kz (p (i + 1)) < kz (p i)
theorem bz_way_ex (hf : bz_fix pr kz) (ht : bz_ti pr g kz) (hpr : ∀ s, 1 ≤ pr s) (hg0 : kz g = 0) (hg : g < 24) (ha : a < 24) (hk : kz a < 1000000) : ∃ n, n ≤ 23 ∧ bz_way kz g (bz_pt pr kz a) n ∧ ∀ i, i ≤ n → bz_pt pr kz a i < 24 ∧ kz (bz_pt pr kz a i) < 1000000 := by
  have key : ∀ i, i ≤ 23 → (∃ n, n ≤ i ∧ bz_way kz g (bz_pt pr kz a) n ∧ ∀ j, j ≤ n → bz_pt pr kz a j < 24 ∧ kz (bz_pt pr kz a j) < 1000000) ∨
      ((∀ j, j < i → bz_pt pr kz a j ≠ g ∧ gz_be (bz_pt pr kz a j) (bz_pt pr kz a (j + 1)) = 1 ∧ kz (bz_pt pr kz a (j + 1)) < kz (bz_pt pr kz a j)) ∧ (∀ j, j ≤ i → bz_pt pr kz a j < 24 ∧ kz (bz_pt pr kz a j) < 1000000) ∧ bz_pt pr kz a i ≠ g ∧ pz_su (fun u => if kz u < kz (bz_pt pr kz a i) then 1 else 0) 24 + i ≤ 23) := by
    intro i
    induction i with
    | zero =>
      intro _
      by_cases hag : a = g
      · exact Or.inl ⟨0, Nat.le_refl _, ⟨hag, fun i h => absurd h (Nat.not_lt_zero _)⟩, fun j hj => by obtain rfl : j = 0 := (by omega); exact ⟨ha, hk⟩⟩
      · refine Or.inr ⟨fun j h => absurd h (Nat.not_lt_zero _), fun j hj => by obtain rfl : j = 0 := (by omega); exact ⟨ha, hk⟩, hag, ?_⟩
        have h1 := pz_su_lt (f := fun u => if kz u < kz (bz_pt pr kz a 0) then 1 else 0) (g := fun _ => 1) (k := a) (n := 24) (fun i _ => by (try dsimp only); split <;> omega) ha (by show (if kz a < kz a then 1 else 0) < 1; rw [if_neg (Nat.lt_irrefl _)]; omega)
        have h2 : pz_su (fun _ => 1) 24 = 24 := by decide
        omega
    | succ i ih =>
      intro hi
      rcases ih (by omega) with h | ⟨h1, h2, h3, h4⟩
      · obtain ⟨n, q1, q2⟩ := h
        exact Or.inl ⟨n, by omega, q2⟩
      · obtain ⟨hp, hpk⟩ := h2 i (Nat.le_refl _)
        obtain ⟨s1, s2, s3⟩ := bz_nx_st hf ht hpr hp h3 hpk
        have hall : ∀ j, j < i + 1 → bz_pt pr kz a j ≠ g ∧ gz_be (bz_pt pr kz a j) (bz_pt pr kz a (j + 1)) = 1 ∧ kz (bz_pt pr kz a (j + 1)) < kz (bz_pt pr kz a j) := by
          intro j hj
          by_cases hq : j = i
          · subst hq; exact ⟨h3, s2, s3⟩
          · exact h1 j (by omega)
        have hall2 : ∀ j, j ≤ i + 1 → bz_pt pr kz a j < 24 ∧ kz (bz_pt pr kz a j) < 1000000 := by
          intro j hj
          by_cases hq : j = i + 1
          · subst hq; exact ⟨s1, Nat.lt_trans s3 hpk⟩
          · exact h2 j (by omega)
        by_cases hag : bz_pt pr kz a (i + 1) = g
        · exact Or.inl ⟨i + 1, Nat.le_refl _, ⟨hag, hall⟩, hall2⟩
        · refine Or.inr ⟨hall, hall2, hag, ?_⟩
          have h5 := pz_su_lt (f := fun u => if kz u < kz (bz_pt pr kz a (i + 1)) then 1 else 0) (g := fun u => if kz u < kz (bz_pt pr kz a i) then 1 else 0) (k := bz_pt pr kz a (i + 1)) (n := 24) (fun u _ => by
            try dsimp only
            have s3 : kz (bz_pt pr kz a (i + 1)) < kz (bz_pt pr kz a i) := s3
            by_cases q : kz u < kz (bz_pt pr kz a (i + 1))
            · rw [if_pos q, if_pos (by omega)]; exact Nat.le_refl _
            · rw [if_neg q]; exact Nat.zero_le _) s1 (by (try dsimp only); rw [if_neg (Nat.lt_irrefl _), if_pos (show kz (bz_pt pr kz a (i + 1)) < kz (bz_pt pr kz a i) from s3)]; omega)
          omega
  rcases key 23 (Nat.le_refl _) with ⟨n, h1, h2⟩ | ⟨h1, h2, h3, h4⟩
  · exact ⟨n, h1, h2⟩
  · exfalso
    obtain ⟨hp, hpk⟩ := h2 23 (Nat.le_refl _)
    obtain ⟨s1, s2, s3⟩ := bz_nx_st hf ht hpr hp h3 hpk
    have h5 := pz_su_lt (f := fun _ => 0) (g := fun u => if kz u < kz (bz_pt pr kz a 23) then 1 else 0) (k := g) (n := 24) (fun u _ => Nat.zero_le _) hg (by (try dsimp only); rw [if_pos (by omega)]; omega)
    omega
/-- on a way costs fall -/
theorem bz_way_lt {p : Nat → Nat} {n : Nat} (h : bz_way kz g p n) : ∀ d i, i + d + 1 ≤ n → kz (p (i + d + 1)) < kz (p i)
  | 0, i, hi => (h.2 i (by omega)).2.2
  | d + 1, i, hi => Nat.lt_trans (h.2 (i + d + 1) (by omega)).2.2 (bz_way_lt h d i (by omega))
theorem gz_ed_ne {p : Nat → Nat} {s : Nat} : ∀ {i : Nat}, gz_ed p s i ≠ 0 → ∃ j, j < i ∧ gz_sg (p j) (p (j + 1)) = s
  | 0, h => absurd rfl h
  | i + 1, h => by
    by_cases hq : gz_sg (p i) (p (i + 1)) = s
    · exact ⟨i, by omega, hq⟩
    · have h2 : gz_ed p s i ≠ 0 := by
        intro q
        refine h ?_
        show gz_ed p s i + (if gz_sg (p i) (p (i + 1)) = s then 1 else 0) = 0
        rw [q, if_neg hq]
      obtain ⟨j, h3, h4⟩ := gz_ed_ne h2
      exact ⟨j, by omega, h4⟩
/-- what the way holds already changes nothing for the next step -/
theorem bz_same {hd : Nat → Nat} {cp su : Nat} {p : Nat → Nat} {n i s : Nat} (h : bz_way kz g p n) (hp : ∀ j, j ≤ n → p j < 24) (hi : i < n) (hs : s < 4) (hn : gz_nb (p i) s < 24) : (kz (gz_nb (p i) s) + zp (fun s => hd s + gz_ed p s i) cp su (gz_sa (p i) s) = kz (p i)) = (kz (gz_nb (p i) s) + zp hd cp su (gz_sa (p i) s) = kz (p i)) := by
  by_cases hz : gz_ed p (gz_sa (p i) s) i = 0
  · unfold zp
    simp only [hz, Nat.add_zero]
  · obtain ⟨j, hj, he⟩ := gz_ed_ne hz
    have hb := (h.2 j (by omega)).2.1
    have hlt := bz_way_lt h (i - j - 1) j (by omega)
    rw [show j + (i - j - 1) + 1 = i by omega] at hlt
    rcases gz_sg_inj (p j) (hp j (by omega)) (p (j + 1)) (hp (j + 1) (by omega)) hb (p i) (hp i (by omega)) s hs hn he.symm with ⟨q1, q2⟩ | ⟨q1, q2⟩
    · rw [q1] at hlt
      exact absurd hlt (Nat.lt_irrefl _)
    · rw [q2]
      exact propext ⟨fun q => by omega, fun q => by omega⟩
end PZ
/-! the class' next junction, the reference's -/
theorem l2_nextJunction {E K : Nat → Int32} {hd hd' kz : Nat → Nat} {cp su g a : Nat} (hE : cE E hd') (hh : ∀ s, s < 48 → hd' s ≤ 100000) (hc : wC cp su) (hK : cK K kz) (hf : bz_fix (zp hd cp su) kz) (ht : bz_ti (zp hd cp su) g kz) (ha : a < 24) (hg : a ≠ g) (hk : kz a < 1000000) (kb : ∀ v, kz v ≤ 1000000) (hsm : ∀ s, s < 4 → gz_nb a s < 24 → (kz (gz_nb a s) + zp hd' cp su (gz_sa a s) = kz a) = (kz (gz_nb a s) + zp hd cp su (gz_sa a s) = kz a)) : f_X2_nextJunction K E (nI cp) (nI su) (nI a) = some (nI (bz_nx (zp hd cp su) kz a)) := by
  obtain ⟨s0, hs0, hn0, he0, -⟩ := bz_nx_ok hf ht (zp_pos hd cp su) ha hg hk
  unfold f_X2_nextJunction
  rw [l5_isPlace (by omega), if_pos ha, Option.bind_some, if_neg (by decide)]
  have st : ∀ (s n : Nat), s < 4 → f_X2_nextJunction_11 K E (nI cp) (nI su) (nI a) (some (-1)) (n + 1) (nI s) = if gz_nb a s < 24 ∧ kz (gz_nb a s) + zp hd cp su (gz_sa a s) = kz a then some (nI (gz_nb a s)) else f_X2_nextJunction_11 K E (nI cp) (nI su) (nI a) (some (-1)) n (nI (s + 1)) := by
    intro s n hs
    have hb3 := zp_le (hd := hd') hc (gz_sa a s)
    have hb1 := kb (gz_nb a s)
    have hb2 := kb a
    conv => lhs; unfold f_X2_nextJunction_11
    rw [if_neg (show ¬ ((4 : Int32) ≤ nI s) from nI_ge (b := 4) hs (by omega)), l2_costOver hE hh hc hK ha hs, Option.bind_some, pz_d ha (by omega), Option.bind_some, hK a ha]
    by_cases hn : gz_nb a s < 24
    · rw [if_pos hn]
      by_cases hq : kz (gz_nb a s) + zp hd cp su (gz_sa a s) = kz a
      · rw [if_pos (show nI (kz (gz_nb a s) + zp hd' cp su (gz_sa a s)) = nI (kz a) by rw [(hsm s hs hn).mpr hq]), pz_d hs (by omega), Option.bind_some, l5_stp a ha s hs hn, if_pos ⟨hn, hq⟩]
      · rw [if_neg (fun q => hq ((hsm s hs hn).mp ((nI_eq (by omega) (by omega)).mp q))), if_neg (fun q => hq q.2), nI_1]
    · rw [if_neg hn, if_neg (show ¬ (nI 1000000 = nI (kz a)) from fun q => by have := (nI_eq (by omega) (by omega)).mp q; omega), if_neg (fun q => hn q.1), nI_1]
  rw [show xFu = 99996 + 1 + 1 + 1 + 1 from rfl, show (0 : Int32) = nI 0 from rfl, st 0 _ (by omega), st 1 _ (by omega), st 2 _ (by omega), st 3 _ (by omega)]
  unfold bz_nx
  by_cases h0 : gz_nb a 0 < 24 ∧ kz (gz_nb a 0) + zp hd cp su (gz_sa a 0) = kz a
  · rw [if_pos h0, if_pos h0]
  · rw [if_neg h0, if_neg h0]
    by_cases h1 : gz_nb a 1 < 24 ∧ kz (gz_nb a 1) + zp hd cp su (gz_sa a 1) = kz a
    · rw [if_pos h1, if_pos h1]
    · rw [if_neg h1, if_neg h1]
      by_cases h2 : gz_nb a 2 < 24 ∧ kz (gz_nb a 2) + zp hd cp su (gz_sa a 2) = kz a
      · rw [if_pos h2, if_pos h2]
      · rw [if_neg h2, if_neg h2, if_pos]
        rcases (show s0 = 0 ∨ s0 = 1 ∨ s0 = 2 ∨ s0 = 3 by omega) with rfl | rfl | rfl | rfl
        · exact absurd ⟨hn0, he0⟩ h0
        · exact absurd ⟨hn0, he0⟩ h1
        · exact absurd ⟨hn0, he0⟩ h2
        · exact ⟨hn0, he0⟩
theorem l6_nextOn {E K r : Nat → Int32} {hd kz : Nat → Nat} {cp su g a : Nat} (hE : cE E hd) (hC : mC r cp su) (hh : ∀ s, s < 48 → hd s ≤ 100000) (hc : wC cp su) (hK : cK K kz) (hf : bz_fix (zp hd cp su) kz) (ht : bz_ti (zp hd cp su) g kz) (ha : a < 24) (hg : a ≠ g) (hk : kz a < 1000000) (kb : ∀ v, kz v ≤ 1000000) : f_X6_nextOn E K r (nI a) = some (nI (bz_nx (zp hd cp su) kz a)) := by
  obtain ⟨s0, hs0, hn0, he0, -⟩ := bz_nx_ok hf ht (zp_pos hd cp su) ha hg hk
  unfold f_X6_nextOn
  have st : ∀ (s n : Nat), s < 4 → f_X6_nextOn_2 E K r (nI a) (some (-5)) (n + 1) (nI s) = if gz_nb a s < 24 ∧ kz (gz_nb a s) + zp hd cp su (gz_sa a s) = kz a then some (nI (gz_nb a s)) else f_X6_nextOn_2 E K r (nI a) (some (-5)) n (nI (s + 1)) := by
    intro s n hs
    have hb3 := zp_le (hd := hd) hc (gz_sa a s)
    have hb1 := kb (gz_nb a s)
    have hb2 := kb a
    conv => lhs; unfold f_X6_nextOn_2
    rw [if_neg (show ¬ ((4 : Int32) ≤ nI s) from nI_ge (b := 4) hs (by omega)), l6_beside a ha s hs, Option.bind_some]
    by_cases hn : gz_nb a s < 24
    · have hq2 := gz_nb_sg a ha s hs hn
      rw [if_pos hn, if_neg (show ¬ (nI (gz_nb a s) = -5) from fun q => by rw [show (-5 : Int32) = -nI 5 from rfl, pz_neg (by omega) (by omega) (by omega)] at q; exact q), pz_d hn (by omega), Option.bind_some, l6_cost hE hC hh hc ha hn hq2.2.1, Option.bind_some, pz_d ha (by omega), Option.bind_some, hq2.1, hK _ hn, hK a ha, nI_add]
      by_cases hq : kz (gz_nb a s) + zp hd cp su (gz_sa a s) = kz a
      · rw [if_pos (show nI (kz (gz_nb a s) + zp hd cp su (gz_sa a s)) = nI (kz a) by rw [hq]), if_pos ⟨hn, hq⟩]
      · rw [if_neg (fun q => hq ((nI_eq (by omega) (by omega)).mp q)), if_neg (fun q => hq q.2), nI_1]
    · rw [if_neg hn, if_pos rfl, if_neg (fun q => hn q.1), nI_1]
  rw [show xFu = 99996 + 1 + 1 + 1 + 1 from rfl, show (0 : Int32) = nI 0 from rfl, st 0 _ (by omega), st 1 _ (by omega), st 2 _ (by omega), st 3 _ (by omega)]
  unfold bz_nx
  by_cases h0 : gz_nb a 0 < 24 ∧ kz (gz_nb a 0) + zp hd cp su (gz_sa a 0) = kz a
  · rw [if_pos h0, if_pos h0]
  · rw [if_neg h0, if_neg h0]
    by_cases h1 : gz_nb a 1 < 24 ∧ kz (gz_nb a 1) + zp hd cp su (gz_sa a 1) = kz a
    · rw [if_pos h1, if_pos h1]
    · rw [if_neg h1, if_neg h1]
      by_cases h2 : gz_nb a 2 < 24 ∧ kz (gz_nb a 2) + zp hd cp su (gz_sa a 2) = kz a
      · rw [if_pos h2, if_pos h2]
      · rw [if_neg h2, if_neg h2, if_pos]
        rcases (show s0 = 0 ∨ s0 = 1 ∨ s0 = 2 ∨ s0 = 3 by omega) with rfl | rfl | rfl | rfl
        · exact absurd ⟨hn0, he0⟩ h0
        · exact absurd ⟨hn0, he0⟩ h1
        · exact absurd ⟨hn0, he0⟩ h2
        · exact ⟨hn0, he0⟩
