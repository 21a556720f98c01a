/-! cheapest paths: one step, a pass, passes; the pass 24 changes nothing -/
def bz_c (pr K : Nat → Nat) (a s : Nat) : Prop := gz_nb a s < 24 ∧ K (gz_nb a s) + pr (gz_sa a s) < K a
noncomputable def bz_rx (pr K : Nat → Nat) (a s : Nat) : Nat → Nat := if gz_nb a s < 24 ∧ K (gz_nb a s) + pr (gz_sa a s) < K a then pz_up K a (K (gz_nb a s) + pr (gz_sa a s)) else K
noncomputable def bz_st (pr K : Nat → Nat) : Nat → (Nat → Nat)
  | 0 => K
  | t + 1 => bz_rx pr (bz_st pr K t) (t / 4) (t % 4)
noncomputable def bz_fl (pr K : Nat → Nat) : Nat → Nat
  | 0 => 0
  | t + 1 => if gz_nb (t / 4) (t % 4) < 24 ∧ bz_st pr K t (gz_nb (t / 4) (t % 4)) + pr (gz_sa (t / 4) (t % 4)) < bz_st pr K t (t / 4) then 1 else bz_fl pr K t
noncomputable def bz_it (pr K : Nat → Nat) : Nat → (Nat → Nat)
  | 0 => K
  | i + 1 => bz_st pr (bz_it pr K i) 96
def bz_fix (pr K : Nat → Nat) : Prop := ∀ v, v < 24 → ∀ s, s < 4 → gz_nb v s < 24 → K v ≤ K (gz_nb v s) + pr (gz_sa v s)
theorem bz_rx_le (pr K : Nat → Nat) (a s v : Nat) : bz_rx pr K a s v ≤ K v := by
  unfold bz_rx
  split
  · next h =>
    by_cases hv : v = a
    · subst hv; rw [pz_ups]; omega
    · rw [pz_upn hv]; exact Nat.le_refl _
  · exact Nat.le_refl _
theorem bz_st_le (pr K : Nat → Nat) (v : Nat) : ∀ t d, bz_st pr K (t + d) v ≤ bz_st pr K t v
  | t, 0 => Nat.le_refl _
  | t, d + 1 => Nat.le_trans (bz_rx_le pr _ _ _ v) (bz_st_le pr K v t d)
theorem bz_st_le0 (pr K : Nat → Nat) (v t : Nat) : bz_st pr K t v ≤ K v := by
  have := bz_st_le pr K v 0 t
  rwa [Nat.zero_add] at this
theorem bz_it_le (pr K : Nat → Nat) (v : Nat) : ∀ i d, bz_it pr K (i + d) v ≤ bz_it pr K i v
  | i, 0 => Nat.le_refl _
  | i, d + 1 => Nat.le_trans (bz_st_le0 pr _ v 96) (bz_it_le pr K v i d)
theorem bz_fl_le (pr K : Nat → Nat) : ∀ t, bz_fl pr K t ≤ 1
  | 0 => Nat.zero_le _
  | t + 1 => by
    unfold bz_fl
    split
    · exact Nat.le_refl _
    · exact bz_fl_le pr K t
theorem bz_fl0 {pr K : Nat → Nat} : ∀ {t}, bz_fl pr K t = 0 → bz_st pr K t = K ∧ ∀ u, u < t → ¬ (gz_nb (u / 4) (u % 4) < 24 ∧ K (gz_nb (u / 4) (u % 4)) + pr (gz_sa (u / 4) (u % 4)) < K (u / 4))
  | 0, _ => ⟨rfl, fun u h => absurd h (Nat.not_lt_zero _)⟩
  | t + 1, h => by
    unfold bz_fl at h
    split at h
    · cases h
    · next hc =>
      obtain ⟨h1, h2⟩ := bz_fl0 h
      rw [h1] at hc
      refine ⟨?_, fun u hu => ?_⟩
      · show bz_rx pr (bz_st pr K t) (t / 4) (t % 4) = K
        unfold bz_rx
        rw [h1, if_neg hc]
      · by_cases hq : u = t
        · subst hq; exact hc
        · exact h2 u (by omega)
theorem bz_fl_fix {pr K : Nat → Nat} (h : bz_fl pr K 96 = 0) : bz_fix pr K := by
  intro v hv s hs hn
  have h1 := (bz_fl0 h).2 (4 * v + s) (by omega)
  rw [show (4 * v + s) / 4 = v by omega, show (4 * v + s) % 4 = s by omega] at h1
  by_cases hc : K (gz_nb v s) + pr (gz_sa v s) < K v
  · exact absurd ⟨hn, hc⟩ h1
  · omega
theorem bz_fix_st {pr K : Nat → Nat} (h : bz_fix pr K) : ∀ t, t ≤ 96 → bz_st pr K t = K ∧ bz_fl pr K t = 0
  | 0, _ => ⟨rfl, rfl⟩
  | t + 1, ht => by
    obtain ⟨h1, h2⟩ := bz_fix_st h t (by omega)
    have hc : ¬ (gz_nb (t / 4) (t % 4) < 24 ∧ K (gz_nb (t / 4) (t % 4)) + pr (gz_sa (t / 4) (t % 4)) < K (t / 4)) := fun ⟨q1, q2⟩ => by
      have := h (t / 4) (by omega) (t % 4) (by omega) q1
      omega
    constructor
    · show bz_rx pr (bz_st pr K t) (t / 4) (t % 4) = K
      unfold bz_rx
      rw [h1, if_neg hc]
    · unfold bz_fl
      rw [h1, if_neg hc, h2]
theorem bz_it_fix {pr K : Nat → Nat} {i : Nat} (h : bz_fix pr (bz_it pr K i)) : ∀ d, bz_it pr K (i + d) = bz_it pr K i
  | 0 => rfl
  | d + 1 => by
    show bz_st pr (bz_it pr K (i + d)) 96 = _
    rw [bz_it_fix h d]
    exact (bz_fix_st h 96 (Nat.le_refl _)).1
/-! sums of rows that differ -/
theorem pz_su_le2 {f g : Nat → Nat} : ∀ {n : Nat}, (∀ i, i < n → f i ≤ g i) → pz_su f n ≤ pz_su g n
  | 0, _ => Nat.le_refl _
  | n + 1, h => by
    have h1 := pz_su_le2 (n := n) (fun i hi => h i (by omega))
    have h2 := h n (by omega)
    show pz_su f n + f n ≤ pz_su g n + g n
    omega
theorem pz_su_lt {f g : Nat → Nat} {k : Nat} : ∀ {n : Nat}, (∀ i, i < n → f i ≤ g i) → k < n → f k < g k → pz_su f n < pz_su g n
  | 0, _, h, _ => absurd h (Nat.not_lt_zero _)
  | n + 1, h, hk, hl => by
    show pz_su f n + f n < pz_su g n + g n
    have h2 := h n (by omega)
    by_cases hn : k = n
    · subst hn
      have h1 := pz_su_le2 (n := k) (f := f) (g := g) (fun i hi => h i (by omega))
      omega
    · have h1 := pz_su_lt (n := n) (fun i hi => h i (by omega)) (by omega) hl
      omega
theorem bz_ends (pr : Nat → Nat) : ∀ (S : Nat) (K : Nat → Nat), pz_su K 24 ≤ S → ∃ N, bz_fix pr (bz_it pr K N)
  | S, K, hS => by
    by_cases hf : bz_fl pr K 96 = 0
    · exact ⟨0, bz_fl_fix hf⟩
    · -- a place fell
      have hlt : pz_su (bz_st pr K 96) 24 < pz_su K 24 := by
        have : ∀ t, t ≤ 96 → bz_fl pr K t ≠ 0 → ∃ v, v < 24 ∧ bz_st pr K t v < K v := by
          intro t
          induction t with
          | zero => intro _ h; exact absurd rfl h
          | succ t ih =>
            intro ht h
            unfold bz_fl at h
            split at h
            · next hc =>
              refine ⟨t / 4, by omega, ?_⟩
              show bz_rx pr (bz_st pr K t) (t / 4) (t % 4) (t / 4) < _
              unfold bz_rx
              rw [if_pos hc, pz_ups]
              exact Nat.lt_of_lt_of_le hc.2 (bz_st_le0 pr K _ t)
            · obtain ⟨v, h1, h2⟩ := ih (by omega) h
              exact ⟨v, h1, Nat.lt_of_le_of_lt (bz_rx_le pr _ _ _ v) h2⟩
        obtain ⟨v, h1, h2⟩ := this 96 (Nat.le_refl _) hf
        exact pz_su_lt (fun i _ => bz_st_le0 pr K i 96) h1 h2
      match S, hS with
      | 0, hS => exact absurd hlt (by omega)
      | S + 1, hS =>
        obtain ⟨N, hN⟩ := bz_ends pr S (bz_st pr K 96) (by omega)
        refine ⟨N + 1, ?_⟩
        have e : ∀ n, bz_it pr K (n + 1) = bz_it pr (bz_st pr K 96) n := by
          intro n
          induction n with
          | zero => simp only [bz_it]
          | succ n ih => show bz_st pr (bz_it pr K (n + 1)) 96 = bz_st pr (bz_it pr (bz_st pr K 96) n) 96; rw [ih]
        rw [e]
        exact hN
/-- every cost but the goal's own is made of one beside it -/
def bz_ti (pr : Nat → Nat) (g : Nat) (K : Nat → Nat) : Prop := ∀ v, v < 24 → v ≠ g → K v < 1000000 → ∃ s, s < 4 ∧ gz_nb v s < 24 ∧ K (gz_nb v s) + pr (gz_sa v s) ≤ K v
theorem gz_nb_ne : ∀ a, a < 24 → ∀ s, s < 4 → gz_nb a s ≠ a := by decide +kernel
theorem bz_ti_rx {pr : Nat → Nat} {g : Nat} {K : Nat → Nat} (h : bz_ti pr g K) (a s : Nat) (hs : s < 4) : bz_ti pr g (bz_rx pr K a s) := by
  intro v hv hg hlt
  have hle := bz_rx_le pr K a s
  unfold bz_rx at hlt hle ⊢
  split at hlt
  · next hc =>
    rw [if_pos hc] at hle ⊢
    by_cases hva : v = a
    · subst hva
      refine ⟨s, hs, hc.1, ?_⟩
      rw [pz_ups, pz_upn (gz_nb_ne v hv s hs)]
      exact Nat.le_refl _
    · rw [pz_upn hva] at hlt ⊢
      obtain ⟨s', h1, h2, h3⟩ := h v hv hg hlt
      exact ⟨s', h1, h2, Nat.le_trans (Nat.add_le_add_right (hle _) _) h3⟩
  · next hc =>
    rw [if_neg hc]
    exact h v hv hg hlt
theorem bz_ti_st {pr : Nat → Nat} {g : Nat} {K : Nat → Nat} (h : bz_ti pr g K) : ∀ t, bz_ti pr g (bz_st pr K t)
  | 0 => h
  | t + 1 => bz_ti_rx (bz_ti_st h t) _ _ (by omega)
theorem bz_ti_it {pr : Nat → Nat} {g : Nat} {K : Nat → Nat} (h : bz_ti pr g K) : ∀ i, bz_ti pr g (bz_it pr K i)
  | 0 => h
  | i + 1 => bz_ti_st (bz_ti_it h i) 96
/-- the start -/
def bz_0 (g : Nat) : Nat → Nat := fun v => if v = g then 0 else 1000000
theorem bz_ti_0 (pr : Nat → Nat) (g : Nat) : bz_ti pr g (bz_0 g) := by
  intro v _ hg hlt
  unfold bz_0 at hlt
  rw [if_neg hg] at hlt
  exact absurd hlt (Nat.lt_irrefl _)
theorem bz_0_le (g v : Nat) : bz_0 g v ≤ 1000000 := by unfold bz_0; split <;> omega
theorem bz_it_b (pr : Nat → Nat) (g v i : Nat) : bz_it pr (bz_0 g) i v ≤ 1000000 := by
  have := bz_it_le pr (bz_0 g) v 0 i
  rw [Nat.zero_add] at this
  exact Nat.le_trans this (bz_0_le g v)
theorem bz_st_b (pr : Nat → Nat) {K : Nat → Nat} (h : ∀ v, K v ≤ 1000000) (t v : Nat) : bz_st pr K t v ≤ 1000000 := Nat.le_trans (bz_st_le0 pr K v t) (h v)
theorem bz_it_g (pr : Nat → Nat) (g i : Nat) : bz_it pr (bz_0 g) i g = 0 := by
  have := bz_it_le pr (bz_0 g) g 0 i
  rw [Nat.zero_add] at this
  have h2 : bz_it pr (bz_0 g) 0 g = 0 := by show bz_0 g g = 0; unfold bz_0; rw [if_pos rfl]
  omega
/-- in a pass a place learns what a place beside it knew before -/
theorem bz_pass {pr K : Nat → Nat} {v s : Nat} (hv : v < 24) (hs : s < 4) (hn : gz_nb v s < 24) : bz_st pr K 96 v ≤ K (gz_nb v s) + pr (gz_sa v s) := by
  have h1 := bz_st_le pr K v (4 * v + s + 1) (96 - (4 * v + s + 1))
  rw [show 4 * v + s + 1 + (96 - (4 * v + s + 1)) = 96 by omega] at h1
  refine Nat.le_trans h1 ?_
  have h2 := bz_st_le0 pr K (gz_nb v s) (4 * v + s)
  show bz_rx pr (bz_st pr K (4 * v + s)) ((4 * v + s) / 4) ((4 * v + s) % 4) v ≤ _
  rw [show (4 * v + s) / 4 = v by omega, show (4 * v + s) % 4 = s by omega]
  unfold bz_rx
  split
  · rw [pz_ups]; omega
  · next hc =>
    by_cases q : bz_st pr K (4 * v + s) (gz_nb v s) + pr (gz_sa v s) < bz_st pr K (4 * v + s) v
    · exact absurd ⟨hn, q⟩ hc
    · omega
theorem bz_least {D : Nat → Nat} {P : Nat → Prop} : ∀ (d v : Nat), D v ≤ d → v < 24 → ¬ P v → ∃ v, v < 24 ∧ ¬ P v ∧ ∀ u, u < 24 → D u < D v → P u
  | d, v, hd, hv, hp => by
    by_cases h : ∃ u, u < 24 ∧ D u < D v ∧ ¬ P u
    · obtain ⟨u, h1, h2, h3⟩ := h
      match d, hd with
      | 0, hd => exact absurd h2 (by omega)
      | d + 1, hd => exact bz_least d u (by omega) h1 h3
    · exact ⟨v, hv, hp, fun u h1 h2 => Classical.byContradiction fun h3 => h ⟨u, h1, h2, h3⟩⟩
/-- after 23 passes nothing changes any more -/
theorem bz_23 {pr : Nat → Nat} (hpr : ∀ s, 1 ≤ pr s) {g : Nat} (hg : g < 24) : bz_fix pr (bz_it pr (bz_0 g) 23) := by
  obtain ⟨N, hN⟩ := bz_ends pr _ (bz_0 g) (Nat.le_refl _)
  obtain ⟨D, hD⟩ : ∃ D, D = bz_it pr (bz_0 g) N := ⟨_, rfl⟩
  have hle : ∀ k v, D v ≤ bz_it pr (bz_0 g) k v := by
    intro k v
    rw [hD]
    rcases Nat.le_total k N with h | h
    · have := bz_it_le pr (bz_0 g) v k (N - k)
      rwa [show k + (N - k) = N by omega] at this
    · have := congrFun (bz_it_fix hN (k - N)) v
      rw [show N + (k - N) = k by omega] at this
      omega
  have hti : bz_ti pr g D := by rw [hD]; exact bz_ti_it (bz_ti_0 pr g) N
  have hDg : D g = 0 := by rw [hD]; exact bz_it_g pr g N
  have key : ∀ k, k + 1 ≤ pz_su (fun v => if bz_it pr (bz_0 g) k v = D v then 1 else 0) 24 ∨ ∀ v, v < 24 → bz_it pr (bz_0 g) k v = D v := by
    intro k
    induction k with
    | zero =>
      left
      have h1 := pz_su_lt (f := fun _ => 0) (g := fun v => if bz_it pr (bz_0 g) 0 v = D v then 1 else 0) (k := g) (n := 24) (fun i _ => Nat.zero_le _) hg (by (try dsimp only); rw [if_pos (by rw [bz_it_g, hDg])]; omega)
      omega
    | succ k ih =>
      rcases ih with ih | ih
      · by_cases hall : ∀ v, v < 24 → bz_it pr (bz_0 g) k v = D v
        · right
          intro v hv
          have h1 := hle (k + 1) v
          have h2 := bz_it_le pr (bz_0 g) v k 1
          have h3 := hall v hv
          omega
        · left
          obtain ⟨v0, hv0, hn0⟩ : ∃ v, v < 24 ∧ ¬ bz_it pr (bz_0 g) k v = D v := Classical.byContradiction fun q => hall fun v hv => Classical.byContradiction fun q2 => q ⟨v, hv, q2⟩
          obtain ⟨v, hv, hn, hu⟩ := bz_least (D := D) (P := fun v => bz_it pr (bz_0 g) k v = D v) _ v0 (Nat.le_refl _) hv0 hn0
          have hvg : v ≠ g := fun q => by subst q; exact hn (by rw [bz_it_g, hDg])
          have hlt : D v < 1000000 := by
            have h1 := bz_it_b pr g v k
            have h2 := hle k v
            omega
          obtain ⟨s, hs, hnb, ht⟩ := hti v hv hvg hlt
          have hp1 := hpr (gz_sa v s)
          have hset : bz_it pr (bz_0 g) k (gz_nb v s) = D (gz_nb v s) := hu _ hnb (by omega)
          have hps : bz_it pr (bz_0 g) (k + 1) v ≤ bz_it pr (bz_0 g) k (gz_nb v s) + pr (gz_sa v s) := bz_pass hv hs hnb
          have hnew : bz_it pr (bz_0 g) (k + 1) v = D v := by
            have h1 := hle (k + 1) v
            omega
          have h3 := pz_su_lt (f := fun v => if bz_it pr (bz_0 g) k v = D v then 1 else 0) (g := fun v => if bz_it pr (bz_0 g) (k + 1) v = D v then 1 else 0) (k := v) (n := 24) (fun i _ => by
            try dsimp only
            by_cases q : bz_it pr (bz_0 g) k i = D i
            · have h1 := hle (k + 1) i
              have h2 := bz_it_le pr (bz_0 g) i k 1
              rw [if_pos q, if_pos (by omega)]
              exact Nat.le_refl _
            · rw [if_neg q]; exact Nat.zero_le _) hv (by (try dsimp only); rw [if_neg hn, if_pos hnew]; omega)
          omega
      · right
        intro v hv
        have h1 := hle (k + 1) v
        have h2 := bz_it_le pr (bz_0 g) v k 1
        have h3 := ih v hv
        omega
  have hall : ∀ v, v < 24 → bz_it pr (bz_0 g) 23 v = D v := by
    rcases key 23 with h | h
    · intro v hv
      refine Classical.byContradiction fun q => ?_
      have h1 := pz_su_lt (f := fun v => if bz_it pr (bz_0 g) 23 v = D v then 1 else 0) (g := fun _ => 1) (k := v) (n := 24) (fun i _ => by (try dsimp only); split <;> omega) hv (by (try dsimp only); rw [if_neg q]; omega)
      have h2 : pz_su (fun _ => 1) 24 = 24 := by decide
      omega
    · exact h
  intro v hv s hs hn
  rw [hall v hv, hall _ hn, hD]
  exact hN v hv s hs hn
