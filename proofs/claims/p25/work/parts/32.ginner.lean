def g_X2_costOver (K : Nat) (E : Nat) (cp : Nat) (su : Nat) (p2 : Nat) (p3 : Nat) : Option (Nat) :=
  (g_X5_segmentAt p2 p3).bind fun v1 =>
  (gr_d gSt 4 p3).bind fun v5 =>
  bif geq v1 4294967295 then
    some 1000000
  else
    (g_X5_isPlace (ga p2 v5)).bind fun v8 =>
    bif geq v8 0 then
      some 1000000
    else
      (g_X0_priceOf E cp su v1).bind fun v11 =>
      (gr_d K 24 (ga p2 v5)).bind fun v13 =>
      some (ga v11 v13)
theorem s_X2_costOver {K : Nat} {E : Nat} {cp : Nat} {su : Nat} {p2 : Nat} {p3 : Nat} {XK : Nat → Int32} {XE : Nat → Int32} {Xcp : Int32} {Xsu : Int32} {Xp2 : Int32} {Xp3 : Int32} {r0 : Nat} (h : g_X2_costOver K E cp su p2 p3 = some r0) (eK : XK = dA K) (eE : XE = dA E) (ecp : Xcp = nI cp) (esu : Xsu = nI su) (ep2 : Xp2 = nI p2) (ep3 : Xp3 = nI p3) : f_X2_costOver XK XE Xcp Xsu Xp2 Xp3 = some (nI r0) := by
  subst eK eE ecp esu ep2 ep3
  unfold g_X2_costOver at h
  unfold f_X2_costOver
  obtain ⟨v1, e7, h⟩ := ob_i h
  refine ob_s (s_X5_segmentAt e7 rfl rfl) ?_
  obtain ⟨v5, e6, h⟩ := ob_i h
  refine ob_s (sr_st e6 rfl) ?_
  rcases g_if h with ⟨c5, h⟩ | ⟨c5, h⟩
  · refine (if_pos (seq_t rfl n_m1 c5)).trans ?_
    have w0 := Option.some.inj h
    subst w0
    exact congrArg some rfl
  · refine (if_neg (seq_f rfl n_m1 c5)).trans ?_
    obtain ⟨v8, e4, h⟩ := ob_i h
    refine ob_s (s_X5_isPlace e4 (s_add rfl rfl)) ?_
    rcases g_if h with ⟨c3, h⟩ | ⟨c3, h⟩
    · refine (if_pos (seq_t rfl rfl c3)).trans ?_
      have w0 := Option.some.inj h
      subst w0
      exact congrArg some rfl
    · refine (if_neg (seq_f rfl rfl c3)).trans ?_
      obtain ⟨v11, e2, h⟩ := ob_i h
      refine ob_s (s_X0_priceOf e2 rfl rfl rfl rfl) ?_
      obtain ⟨v13, e1, h⟩ := ob_i h
      refine ob_s (sr_d e1 (by decide) rfl (s_add rfl rfl)) ?_
      have w0 := Option.some.inj h
      subst w0
      exact congrArg some (s_add rfl rfl)
def g_X2_measureCosts_54 (E : Nat) (cp : Nat) (su : Nat) (x5_54 : Nat) (k : Nat → Nat → Option (Nat)) : Nat → Nat → Nat → Nat → Option (Nat)
  | 0, _, _, _ => none
  | n + 1, x3_54, x6_54, K_54 =>
    bif gle 4 x6_54 then
      k x3_54 K_54
    else
      (g_X2_costOver K_54 E cp su x5_54 x6_54).bind fun v10 =>
      (gr_d K_54 24 x5_54).bind fun v12 =>
      bif gle v12 v10 then
        g_X2_measureCosts_54 E cp su x5_54 k n x3_54 (ga x6_54 1) K_54
      else
        (gr_w K_54 24 x5_54 v10).bind fun K16 =>
        g_X2_measureCosts_54 E cp su x5_54 k n 1 (ga x6_54 1) K16
theorem s_X2_measureCosts_54 {E : Nat} {cp : Nat} {su : Nat} {x5_54 : Nat} {XE : Nat → Int32} {Xcp : Int32} {Xsu : Int32} {Xx5_54 : Int32} {k : Nat → Nat → Option (Nat)} {Xk : Int32 → (Nat → Int32) → Option ((Nat → Int32))} {r0 : Nat} (eE : XE = dA E) (ecp : Xcp = nI cp) (esu : Xsu = nI su) (ex5_54 : Xx5_54 = nI x5_54) (hk : ∀ (Xz0 : Int32) (z0 : Nat), Xz0 = nI z0 → ∀ (Xz1 : Nat → Int32) (z1 : Nat), Xz1 = dA z1 → k z0 z1 = some r0 → Xk Xz0 Xz1 = some (dA r0)) : ∀ (n : Nat) (Xx3_54 : Int32) (x3_54 : Nat), Xx3_54 = nI x3_54 → ∀ (Xx6_54 : Int32) (x6_54 : Nat), Xx6_54 = nI x6_54 → ∀ (XK_54 : Nat → Int32) (K_54 : Nat), XK_54 = dA K_54 → g_X2_measureCosts_54 E cp su x5_54 k n x3_54 x6_54 K_54 = some r0 → f_X2_measureCosts_54 XE Xcp Xsu Xx5_54 Xk n Xx3_54 Xx6_54 XK_54 = some (dA r0) := by
  subst eE ecp esu ex5_54
  intro n
  induction n with
  | zero => intro Xx3_54 x3_54 ex3_54 Xx6_54 x6_54 ex6_54 XK_54 K_54 eK_54 h; unfold g_X2_measureCosts_54 at h; cases h
  | succ n ih =>
    intro Xx3_54 x3_54 ex3_54 Xx6_54 x6_54 ex6_54 XK_54 K_54 eK_54 h
    subst ex3_54 ex6_54 eK_54
    unfold g_X2_measureCosts_54 at h
    unfold f_X2_measureCosts_54
    rcases g_if h with ⟨c5, h⟩ | ⟨c5, h⟩
    · refine (if_pos (sle_t rfl rfl c5)).trans ?_
      exact hk _ _ rfl _ _ rfl h
    · refine (if_neg (sle_f rfl rfl c5)).trans ?_
      obtain ⟨v10, e4, h⟩ := ob_i h
      refine ob_s (s_X2_costOver e4 rfl rfl rfl rfl rfl rfl) ?_
      obtain ⟨v12, e3, h⟩ := ob_i h
      refine ob_s (sr_d e3 (by decide) rfl rfl) ?_
      rcases g_if h with ⟨c2, h⟩ | ⟨c2, h⟩
      · refine (if_pos (sle_t rfl rfl c2)).trans ?_
        exact ih _ _ rfl _ _ (s_add rfl rfl) _ _ rfl h
      · refine (if_neg (sle_f rfl rfl c2)).trans ?_
        obtain ⟨K16, e1, h⟩ := ob_i h
        refine ob_s (sr_w e1 (by decide) rfl rfl rfl) ?_
        exact ih _ _ rfl _ _ (s_add rfl rfl) _ _ rfl h
def g_X2_measureCosts_44 (E : Nat) (cp : Nat) (su : Nat) (k : Nat → Nat → Option (Nat)) : Nat → Nat → Nat → Nat → Option (Nat)
  | 0, _, _, _ => none
  | n + 1, x3_44, x5_44, K_44 =>
    bif gle 24 x5_44 then
      k x3_44 K_44
    else
      g_X2_measureCosts_54 E cp su x5_44 (fun x3z17 Kz17 =>
        g_X2_measureCosts_44 E cp su k n x3z17 (ga x5_44 1) Kz17) xFu x3_44 0 K_44
theorem s_X2_measureCosts_44 {E : Nat} {cp : Nat} {su : Nat} {XE : Nat → Int32} {Xcp : Int32} {Xsu : Int32} {k : Nat → Nat → Option (Nat)} {Xk : Int32 → (Nat → Int32) → Option ((Nat → Int32))} {r0 : Nat} (eE : XE = dA E) (ecp : Xcp = nI cp) (esu : Xsu = nI su) (hk : ∀ (Xz0 : Int32) (z0 : Nat), Xz0 = nI z0 → ∀ (Xz1 : Nat → Int32) (z1 : Nat), Xz1 = dA z1 → k z0 z1 = some r0 → Xk Xz0 Xz1 = some (dA r0)) : ∀ (n : Nat) (Xx3_44 : Int32) (x3_44 : Nat), Xx3_44 = nI x3_44 → ∀ (Xx5_44 : Int32) (x5_44 : Nat), Xx5_44 = nI x5_44 → ∀ (XK_44 : Nat → Int32) (K_44 : Nat), XK_44 = dA K_44 → g_X2_measureCosts_44 E cp su k n x3_44 x5_44 K_44 = some r0 → f_X2_measureCosts_44 XE Xcp Xsu Xk n Xx3_44 Xx5_44 XK_44 = some (dA r0) := by
  subst eE ecp esu
  intro n
  induction n with
  | zero => intro Xx3_44 x3_44 ex3_44 Xx5_44 x5_44 ex5_44 XK_44 K_44 eK_44 h; unfold g_X2_measureCosts_44 at h; cases h
  | succ n ih =>
    intro Xx3_44 x3_44 ex3_44 Xx5_44 x5_44 ex5_44 XK_44 K_44 eK_44 h
    subst ex3_44 ex5_44 eK_44
    unfold g_X2_measureCosts_44 at h
    unfold f_X2_measureCosts_44
    rcases g_if h with ⟨c1, h⟩ | ⟨c1, h⟩
    · refine (if_pos (sle_t rfl rfl c1)).trans ?_
      exact hk _ _ rfl _ _ rfl h
    · refine (if_neg (sle_f rfl rfl c1)).trans ?_
      refine s_X2_measureCosts_54 rfl rfl rfl rfl (fun Xx3z17 x3z17 ex3z17 XKz17 Kz17 eKz17 h => ?_) _ _ _ rfl _ _ rfl _ _ rfl h
      subst ex3z17 eKz17
      exact ih _ _ rfl _ _ (s_add rfl rfl) _ _ rfl h
def g_X2_measureCosts_28 (E : Nat) (cp : Nat) (su : Nat) (k : Nat → Option (Nat)) : Nat → Nat → Nat → Nat → Option (Nat)
  | 0, _, _, _ => none
  | n + 1, x3_28, x4_28, K_28 =>
    bif gle 24 x4_28 then
      k K_28
    else
      bif geq x3_28 0 then
        k K_28
      else
        g_X2_measureCosts_44 E cp su (fun x3z18 Kz18 =>
          g_X2_measureCosts_28 E cp su k n x3z18 (ga x4_28 1) Kz18) xFu 0 0 K_28
theorem s_X2_measureCosts_28 {E : Nat} {cp : Nat} {su : Nat} {XE : Nat → Int32} {Xcp : Int32} {Xsu : Int32} {k : Nat → Option (Nat)} {Xk : (Nat → Int32) → Option ((Nat → Int32))} {r0 : Nat} (eE : XE = dA E) (ecp : Xcp = nI cp) (esu : Xsu = nI su) (hk : ∀ (Xz0 : Nat → Int32) (z0 : Nat), Xz0 = dA z0 → k z0 = some r0 → Xk Xz0 = some (dA r0)) : ∀ (n : Nat) (Xx3_28 : Int32) (x3_28 : Nat), Xx3_28 = nI x3_28 → ∀ (Xx4_28 : Int32) (x4_28 : Nat), Xx4_28 = nI x4_28 → ∀ (XK_28 : Nat → Int32) (K_28 : Nat), XK_28 = dA K_28 → g_X2_measureCosts_28 E cp su k n x3_28 x4_28 K_28 = some r0 → f_X2_measureCosts_28 XE Xcp Xsu Xk n Xx3_28 Xx4_28 XK_28 = some (dA r0) := by
  subst eE ecp esu
  intro n
  induction n with
  | zero => intro Xx3_28 x3_28 ex3_28 Xx4_28 x4_28 ex4_28 XK_28 K_28 eK_28 h; unfold g_X2_measureCosts_28 at h; cases h
  | succ n ih =>
    intro Xx3_28 x3_28 ex3_28 Xx4_28 x4_28 ex4_28 XK_28 K_28 eK_28 h
    subst ex3_28 ex4_28 eK_28
    unfold g_X2_measureCosts_28 at h
    unfold f_X2_measureCosts_28
    rcases g_if h with ⟨c2, h⟩ | ⟨c2, h⟩
    · refine (if_pos (sle_t rfl rfl c2)).trans ?_
      exact hk _ _ rfl h
    · refine (if_neg (sle_f rfl rfl c2)).trans ?_
      rcases g_if h with ⟨c1, h⟩ | ⟨c1, h⟩
      · refine (if_pos (seq_t rfl rfl c1)).trans ?_
        exact hk _ _ rfl h
      · refine (if_neg (seq_f rfl rfl c1)).trans ?_
        refine s_X2_measureCosts_44 rfl rfl rfl (fun Xx3z18 x3z18 ex3z18 XKz18 Kz18 eKz18 h => ?_) _ _ _ rfl _ _ rfl _ _ rfl h
        subst ex3z18 eKz18
        exact ih _ _ rfl _ _ (s_add rfl rfl) _ _ rfl h
def g_X2_measureCosts (K : Nat) (E : Nat) (cp : Nat) (su : Nat) (p2 : Nat) : Option (Nat) :=
  (g_J7_fill_53178 24 K 1000000).bind fun f1 =>
  (g_X5_isPlace p2).bind fun v3 =>
  bif geq v3 0 then
    g_X2_measureCosts_28 E cp su (fun Kz19 =>
      some Kz19) xFu 1 0 f1
  else
    (gr_w f1 24 p2 0).bind fun K21 =>
    g_X2_measureCosts_28 E cp su (fun Kz22 =>
      some Kz22) xFu 1 0 K21
theorem s_X2_measureCosts {K : Nat} {E : Nat} {cp : Nat} {su : Nat} {p2 : Nat} {XK : Nat → Int32} {XE : Nat → Int32} {Xcp : Int32} {Xsu : Int32} {Xp2 : Int32} {r0 : Nat} (h : g_X2_measureCosts K E cp su p2 = some r0) (eK : XK = dA K) (eE : XE = dA E) (ecp : Xcp = nI cp) (esu : Xsu = nI su) (ep2 : Xp2 = nI p2) : f_X2_measureCosts XK XE Xcp Xsu Xp2 = some (dA r0) := by
  subst eK eE ecp esu ep2
  unfold g_X2_measureCosts at h
  unfold f_X2_measureCosts
  obtain ⟨f1, e4, h⟩ := ob_i h
  refine ob_s (s_J7_fill_53178 (by decide) e4 rfl rfl) ?_
  obtain ⟨v3, e3, h⟩ := ob_i h
  refine ob_s (s_X5_isPlace e3 rfl) ?_
  rcases g_if h with ⟨c2, h⟩ | ⟨c2, h⟩
  · refine (if_pos (seq_t rfl rfl c2)).trans ?_
    refine s_X2_measureCosts_28 rfl rfl rfl (fun XKz19 Kz19 eKz19 h => ?_) _ _ _ rfl _ _ rfl _ _ rfl h
    subst eKz19
    have w0 := Option.some.inj h
    subst w0
    exact congrArg some rfl
  · refine (if_neg (seq_f rfl rfl c2)).trans ?_
    obtain ⟨K21, e1, h⟩ := ob_i h
    refine ob_s (sr_w e1 (by decide) rfl rfl rfl) ?_
    refine s_X2_measureCosts_28 rfl rfl rfl (fun XKz22 Kz22 eKz22 h => ?_) _ _ _ rfl _ _ rfl _ _ rfl h
    subst eKz22
    have w0 := Option.some.inj h
    subst w0
    exact congrArg some rfl
def g_X2_nextJunction_11 (K : Nat) (E : Nat) (cp : Nat) (su : Nat) (x2_11 : Nat) (k : Option (Nat)) : Nat → Nat → Option (Nat)
  | 0, _ => none
  | n + 1, x3_11 =>
    bif gle 4 x3_11 then
      k
    else
      (g_X2_costOver K E cp su x2_11 x3_11).bind fun v5 =>
      (gr_d K 24 x2_11).bind fun v7 =>
      bif geq v5 v7 then
        (gr_d gSt 4 x3_11).bind fun v12 =>
        some (ga x2_11 v12)
      else
        g_X2_nextJunction_11 K E cp su x2_11 k n (ga x3_11 1)
theorem s_X2_nextJunction_11 {K : Nat} {E : Nat} {cp : Nat} {su : Nat} {x2_11 : Nat} {XK : Nat → Int32} {XE : Nat → Int32} {Xcp : Int32} {Xsu : Int32} {Xx2_11 : Int32} {k : Option (Nat)} {Xk : Option (Int32)} {r0 : Nat} (eK : XK = dA K) (eE : XE = dA E) (ecp : Xcp = nI cp) (esu : Xsu = nI su) (ex2_11 : Xx2_11 = nI x2_11) (hk : k = some r0 → Xk = some (nI r0)) : ∀ (n : Nat) (Xx3_11 : Int32) (x3_11 : Nat), Xx3_11 = nI x3_11 → g_X2_nextJunction_11 K E cp su x2_11 k n x3_11 = some r0 → f_X2_nextJunction_11 XK XE Xcp Xsu Xx2_11 Xk n Xx3_11 = some (nI r0) := by
  subst eK eE ecp esu ex2_11
  intro n
  induction n with
  | zero => intro Xx3_11 x3_11 ex3_11 h; unfold g_X2_nextJunction_11 at h; cases h
  | succ n ih =>
    intro Xx3_11 x3_11 ex3_11 h
    subst ex3_11
    unfold g_X2_nextJunction_11 at h
    unfold f_X2_nextJunction_11
    rcases g_if h with ⟨c5, h⟩ | ⟨c5, h⟩
    · refine (if_pos (sle_t rfl rfl c5)).trans ?_
      exact hk h
    · refine (if_neg (sle_f rfl rfl c5)).trans ?_
      obtain ⟨v5, e4, h⟩ := ob_i h
      refine ob_s (s_X2_costOver e4 rfl rfl rfl rfl rfl rfl) ?_
      obtain ⟨v7, e3, h⟩ := ob_i h
      refine ob_s (sr_d e3 (by decide) rfl rfl) ?_
      rcases g_if h with ⟨c2, h⟩ | ⟨c2, h⟩
      · refine (if_pos (seq_t rfl rfl c2)).trans ?_
        obtain ⟨v12, e1, h⟩ := ob_i h
        refine ob_s (sr_st e1 rfl) ?_
        have w0 := Option.some.inj h
        subst w0
        exact congrArg some (s_add rfl rfl)
      · refine (if_neg (seq_f rfl rfl c2)).trans ?_
        exact ih _ _ (s_add rfl rfl) h
def g_X2_nextJunction (K : Nat) (E : Nat) (cp : Nat) (su : Nat) (p2 : Nat) : Option (Nat) :=
  (g_X5_isPlace p2).bind fun v1 =>
  bif geq v1 0 then
    some 4294967295
  else
    g_X2_nextJunction_11 K E cp su p2 (
      some 4294967295) xFu 0
theorem s_X2_nextJunction {K : Nat} {E : Nat} {cp : Nat} {su : Nat} {p2 : Nat} {XK : Nat → Int32} {XE : Nat → Int32} {Xcp : Int32} {Xsu : Int32} {Xp2 : Int32} {r0 : Nat} (h : g_X2_nextJunction K E cp su p2 = some r0) (eK : XK = dA K) (eE : XE = dA E) (ecp : Xcp = nI cp) (esu : Xsu = nI su) (ep2 : Xp2 = nI p2) : f_X2_nextJunction XK XE Xcp Xsu Xp2 = some (nI r0) := by
  subst eK eE ecp esu ep2
  unfold g_X2_nextJunction at h
  unfold f_X2_nextJunction
  obtain ⟨v1, e2, h⟩ := ob_i h
  refine ob_s (s_X5_isPlace e2 rfl) ?_
  rcases g_if h with ⟨c1, h⟩ | ⟨c1, h⟩
  · refine (if_pos (seq_t rfl rfl c1)).trans ?_
    have w0 := Option.some.inj h
    subst w0
    exact congrArg some n_m1
  · refine (if_neg (seq_f rfl rfl c1)).trans ?_
    refine s_X2_nextJunction_11 rfl rfl rfl rfl rfl (fun h => ?_) _ _ _ rfl h
    have w0 := Option.some.inj h
    subst w0
    exact congrArg some n_m1
def g_X2_layWire_55 (K_55 : Nat) (cp : Nat) (su : Nat) (x2_55 : Nat) (x4_55 : Nat) (k : Nat → Nat → Nat → Option (Nat × Nat × Nat × Nat × Nat)) : Nat → Nat → Nat → Nat → Nat → Nat → Option (Nat × Nat × Nat × Nat × Nat)
  | 0, _, _, _, _, _ => none
  | n + 1, x5_55, x6_55, L_55, J_55, E_55 =>
    bif gle 24 x6_55 then
      k L_55 J_55 E_55
    else
      bif geq x5_55 x4_55 then
        k L_55 J_55 E_55
      else
        (g_X2_nextJunction K_55 E_55 cp su x5_55).bind fun v18 =>
        (g_X0_extendWire L_55 J_55 E_55 x2_55 v18).bind fun (L20, J21, E22) =>
        g_X2_layWire_55 K_55 cp su x2_55 x4_55 k n v18 (ga x6_55 1) L20 J21 E22
theorem s_X2_layWire_55 {K_55 : Nat} {cp : Nat} {su : Nat} {x2_55 : Nat} {x4_55 : Nat} {XK_55 : Nat → Int32} {Xcp : Int32} {Xsu : Int32} {Xx2_55 : Int32} {Xx4_55 : Int32} {k : Nat → Nat → Nat → Option (Nat × Nat × Nat × Nat × Nat)} {Xk : (Nat → Int32) → (Nat → Int32) → (Nat → Int32) → Option (Int32 × (Nat → Int32) × (Nat → Int32) × (Nat → Int32) × (Nat → Int32))} {r0 : Nat} {r1 : Nat} {r2 : Nat} {r3 : Nat} {r4 : Nat} (eK_55 : XK_55 = dA K_55) (ecp : Xcp = nI cp) (esu : Xsu = nI su) (ex2_55 : Xx2_55 = nI x2_55) (ex4_55 : Xx4_55 = nI x4_55) (hk : ∀ (Xz0 : Nat → Int32) (z0 : Nat), Xz0 = dA z0 → ∀ (Xz1 : Nat → Int32) (z1 : Nat), Xz1 = dA z1 → ∀ (Xz2 : Nat → Int32) (z2 : Nat), Xz2 = dA z2 → k z0 z1 z2 = some (r0, r1, r2, r3, r4) → Xk Xz0 Xz1 Xz2 = some (nI r0, dA r1, dA r2, dA r3, dA r4)) : ∀ (n : Nat) (Xx5_55 : Int32) (x5_55 : Nat), Xx5_55 = nI x5_55 → ∀ (Xx6_55 : Int32) (x6_55 : Nat), Xx6_55 = nI x6_55 → ∀ (XL_55 : Nat → Int32) (L_55 : Nat), XL_55 = dA L_55 → ∀ (XJ_55 : Nat → Int32) (J_55 : Nat), XJ_55 = dA J_55 → ∀ (XE_55 : Nat → Int32) (E_55 : Nat), XE_55 = dA E_55 → g_X2_layWire_55 K_55 cp su x2_55 x4_55 k n x5_55 x6_55 L_55 J_55 E_55 = some (r0, r1, r2, r3, r4) → f_X2_layWire_55 XK_55 Xcp Xsu Xx2_55 Xx4_55 Xk n Xx5_55 Xx6_55 XL_55 XJ_55 XE_55 = some (nI r0, dA r1, dA r2, dA r3, dA r4) := by
  subst eK_55 ecp esu ex2_55 ex4_55
  intro n
  induction n with
  | zero => intro Xx5_55 x5_55 ex5_55 Xx6_55 x6_55 ex6_55 XL_55 L_55 eL_55 XJ_55 J_55 eJ_55 XE_55 E_55 eE_55 h; unfold g_X2_layWire_55 at h; cases h
  | succ n ih =>
    intro Xx5_55 x5_55 ex5_55 Xx6_55 x6_55 ex6_55 XL_55 L_55 eL_55 XJ_55 J_55 eJ_55 XE_55 E_55 eE_55 h
    subst ex5_55 ex6_55 eL_55 eJ_55 eE_55
    unfold g_X2_layWire_55 at h
    unfold f_X2_layWire_55
    rcases g_if h with ⟨c4, h⟩ | ⟨c4, h⟩
    · refine (if_pos (sle_t rfl rfl c4)).trans ?_
      exact hk _ _ rfl _ _ rfl _ _ rfl h
    · refine (if_neg (sle_f rfl rfl c4)).trans ?_
      rcases g_if h with ⟨c3, h⟩ | ⟨c3, h⟩
      · refine (if_pos (seq_t rfl rfl c3)).trans ?_
        exact hk _ _ rfl _ _ rfl _ _ rfl h
      · refine (if_neg (seq_f rfl rfl c3)).trans ?_
        obtain ⟨v18, e2, h⟩ := ob_i h
        refine ob_s (s_X2_nextJunction e2 rfl rfl rfl rfl rfl) ?_
        obtain ⟨⟨L20, J21, E22⟩, e1, h⟩ := ob_i h
        refine ob_s (s_X0_extendWire e1 rfl rfl rfl rfl rfl) ?_
        exact ih _ _ rfl _ _ (s_add rfl rfl) _ _ rfl _ _ rfl _ _ rfl h
def g_X2_layWire (K : Nat) (S : Nat) (L : Nat) (J : Nat) (E : Nat) (cp : Nat) (su : Nat) (p2 : Nat) : Option (Nat × Nat × Nat × Nat × Nat) :=
  (g_X0_sourceOf S p2).bind fun v1 =>
  (g_X5_junctionOf v1).bind fun v3 =>
  (g_X5_isPlace v3).bind fun v5 =>
  bif geq v5 0 then
    some (1, K, L, J, E)
  else
    bif Nat.ble 2147483648 p2 then none else
    (g_X2_measureCosts K E cp su (gdv p2 3)).bind fun K8 =>
    (gr_d K8 24 v3).bind fun v10 =>
    bif glt v10 1000000 then
      (g_X0_startWire L J p2 v3).bind fun (L13, J14) =>
      bif Nat.ble 2147483648 p2 then none else
      g_X2_layWire_55 K8 cp su p2 (gdv p2 3) (fun Lz24 Jz24 Ez24 =>
        some (1, K8, Lz24, Jz24, Ez24)) xFu v3 1 L13 J14 E
    else
      some (0, K8, L, J, E)
theorem s_X2_layWire {K : Nat} {S : Nat} {L : Nat} {J : Nat} {E : Nat} {cp : Nat} {su : Nat} {p2 : Nat} {XK : Nat → Int32} {XS : Nat → Int32} {XL : Nat → Int32} {XJ : Nat → Int32} {XE : Nat → Int32} {Xcp : Int32} {Xsu : Int32} {Xp2 : Int32} {r0 : Nat} {r1 : Nat} {r2 : Nat} {r3 : Nat} {r4 : Nat} (h : g_X2_layWire K S L J E cp su p2 = some (r0, r1, r2, r3, r4)) (eK : XK = dA K) (eS : XS = dA S) (eL : XL = dA L) (eJ : XJ = dA J) (eE : XE = dA E) (ecp : Xcp = nI cp) (esu : Xsu = nI su) (ep2 : Xp2 = nI p2) : f_X2_layWire XK XS XL XJ XE Xcp Xsu Xp2 = some (nI r0, dA r1, dA r2, dA r3, dA r4) := by
  subst eK eS eL eJ eE ecp esu ep2
  unfold g_X2_layWire at h
  unfold f_X2_layWire
  obtain ⟨v1, e10, h⟩ := ob_i h
  refine ob_s (s_X0_sourceOf e10 rfl rfl) ?_
  obtain ⟨v3, e9, h⟩ := ob_i h
  refine ob_s (s_X5_junctionOf e9 rfl) ?_
  obtain ⟨v5, e8, h⟩ := ob_i h
  refine ob_s (s_X5_isPlace e8 rfl) ?_
  rcases g_if h with ⟨c7, h⟩ | ⟨c7, h⟩
  · refine (if_pos (seq_t rfl rfl c7)).trans ?_
    have w0 := Option.some.inj h
    obtain ⟨q0, w1⟩ := Prod.mk.inj w0
    obtain ⟨q1, w2⟩ := Prod.mk.inj w1
    obtain ⟨q2, w3⟩ := Prod.mk.inj w2
    obtain ⟨q3, w4⟩ := Prod.mk.inj w3
    subst q0
    subst q1
    subst q2
    subst q3
    subst w4
    exact congrArg some (tup5 rfl rfl rfl rfl rfl)
  · refine (if_neg (seq_f rfl rfl c7)).trans ?_
    obtain ⟨w1, h⟩ := g_gd h
    obtain ⟨K8, e6, h⟩ := ob_i h
    refine ob_s (s_X2_measureCosts e6 rfl rfl rfl rfl (s_div w1 rfl rfl (by decide) (by decide))) ?_
    obtain ⟨v10, e5, h⟩ := ob_i h
    refine ob_s (sr_d e5 (by decide) rfl rfl) ?_
    rcases g_if h with ⟨c4, h⟩ | ⟨c4, h⟩
    · refine (if_pos (slt_t rfl rfl c4)).trans ?_
      obtain ⟨⟨L13, J14⟩, e3, h⟩ := ob_i h
      refine ob_s (s_X0_startWire e3 rfl rfl rfl rfl) ?_
      obtain ⟨w2, h⟩ := g_gd h
      refine s_X2_layWire_55 rfl rfl rfl rfl (s_div w2 rfl rfl (by decide) (by decide)) (fun XLz24 Lz24 eLz24 XJz24 Jz24 eJz24 XEz24 Ez24 eEz24 h => ?_) _ _ _ rfl _ _ rfl _ _ rfl _ _ rfl _ _ rfl h
      subst eLz24 eJz24 eEz24
      have w0 := Option.some.inj h
      obtain ⟨q0, w1⟩ := Prod.mk.inj w0
      obtain ⟨q1, w2⟩ := Prod.mk.inj w1
      obtain ⟨q2, w3⟩ := Prod.mk.inj w2
      obtain ⟨q3, w4⟩ := Prod.mk.inj w3
      subst q0
      subst q1
      subst q2
      subst q3
      subst w4
      exact congrArg some (tup5 rfl rfl rfl rfl rfl)
    · refine (if_neg (slt_f rfl rfl c4)).trans ?_
      have w0 := Option.some.inj h
      obtain ⟨q0, w1⟩ := Prod.mk.inj w0
      obtain ⟨q1, w2⟩ := Prod.mk.inj w1
      obtain ⟨q2, w3⟩ := Prod.mk.inj w2
      obtain ⟨q3, w4⟩ := Prod.mk.inj w3
      subst q0
      subst q1
      subst q2
      subst q3
      subst w4
      exact congrArg some (tup5 rfl rfl rfl rfl rfl)
def g_X2_layAll_30 (S : Nat) (cp : Nat) (su : Nat) (x2_30 : Nat) (x3_30 : Nat) (x4_30 : Nat) (k : Nat → Nat → Nat → Nat → Option (Nat × Nat × Nat × Nat × Nat)) : Nat → Nat → Nat → Nat → Nat → Nat → Option (Nat × Nat × Nat × Nat × Nat)
  | 0, _, _, _, _, _ => none
  | n + 1, x5_30, K_30, L_30, J_30, E_30 =>
    bif gle 72 x5_30 then
      k K_30 L_30 J_30 E_30
    else
      bif geq x2_30 0 then
        bif geq x3_30 0 then
          (g_X2_layWire K_30 S L_30 J_30 E_30 cp su x5_30).bind fun (v23, K24, L25, J26, E27) =>
          bif geq v23 0 then
            some (4294967293, K24, L25, J26, E27)
          else
            g_X2_layAll_30 S cp su x2_30 x3_30 x4_30 k n (ga x5_30 1) K24 L25 J26 E27
        else
          g_X2_layAll_30 S cp su x2_30 x3_30 x4_30 k n (ga x5_30 1) K_30 L_30 J_30 E_30
      else
        (g_X0_distanceOf S x5_30).bind fun v8 =>
        bif geq v8 x4_30 then
          (g_X2_layWire K_30 S L_30 J_30 E_30 cp su x5_30).bind fun (v13, K14, L15, J16, E17) =>
          bif geq v13 0 then
            some (4294967293, K14, L15, J16, E17)
          else
            g_X2_layAll_30 S cp su x2_30 x3_30 x4_30 k n (ga x5_30 1) K14 L15 J16 E17
        else
          g_X2_layAll_30 S cp su x2_30 x3_30 x4_30 k n (ga x5_30 1) K_30 L_30 J_30 E_30
theorem s_X2_layAll_30 {S : Nat} {cp : Nat} {su : Nat} {x2_30 : Nat} {x3_30 : Nat} {x4_30 : Nat} {XS : Nat → Int32} {Xcp : Int32} {Xsu : Int32} {Xx2_30 : Int32} {Xx3_30 : Int32} {Xx4_30 : Int32} {k : Nat → Nat → Nat → Nat → Option (Nat × Nat × Nat × Nat × Nat)} {Xk : (Nat → Int32) → (Nat → Int32) → (Nat → Int32) → (Nat → Int32) → Option (Int32 × (Nat → Int32) × (Nat → Int32) × (Nat → Int32) × (Nat → Int32))} {r0 : Nat} {r1 : Nat} {r2 : Nat} {r3 : Nat} {r4 : Nat} (eS : XS = dA S) (ecp : Xcp = nI cp) (esu : Xsu = nI su) (ex2_30 : Xx2_30 = nI x2_30) (ex3_30 : Xx3_30 = nI x3_30) (ex4_30 : Xx4_30 = nI x4_30) (hk : ∀ (Xz0 : Nat → Int32) (z0 : Nat), Xz0 = dA z0 → ∀ (Xz1 : Nat → Int32) (z1 : Nat), Xz1 = dA z1 → ∀ (Xz2 : Nat → Int32) (z2 : Nat), Xz2 = dA z2 → ∀ (Xz3 : Nat → Int32) (z3 : Nat), Xz3 = dA z3 → k z0 z1 z2 z3 = some (r0, r1, r2, r3, r4) → Xk Xz0 Xz1 Xz2 Xz3 = some (nI r0, dA r1, dA r2, dA r3, dA r4)) : ∀ (n : Nat) (Xx5_30 : Int32) (x5_30 : Nat), Xx5_30 = nI x5_30 → ∀ (XK_30 : Nat → Int32) (K_30 : Nat), XK_30 = dA K_30 → ∀ (XL_30 : Nat → Int32) (L_30 : Nat), XL_30 = dA L_30 → ∀ (XJ_30 : Nat → Int32) (J_30 : Nat), XJ_30 = dA J_30 → ∀ (XE_30 : Nat → Int32) (E_30 : Nat), XE_30 = dA E_30 → g_X2_layAll_30 S cp su x2_30 x3_30 x4_30 k n x5_30 K_30 L_30 J_30 E_30 = some (r0, r1, r2, r3, r4) → f_X2_layAll_30 XS Xcp Xsu Xx2_30 Xx3_30 Xx4_30 Xk n Xx5_30 XK_30 XL_30 XJ_30 XE_30 = some (nI r0, dA r1, dA r2, dA r3, dA r4) := by
  subst eS ecp esu ex2_30 ex3_30 ex4_30
  intro n
  induction n with
  | zero => intro Xx5_30 x5_30 ex5_30 XK_30 K_30 eK_30 XL_30 L_30 eL_30 XJ_30 J_30 eJ_30 XE_30 E_30 eE_30 h; unfold g_X2_layAll_30 at h; cases h
  | succ n ih =>
    intro Xx5_30 x5_30 ex5_30 XK_30 K_30 eK_30 XL_30 L_30 eL_30 XJ_30 J_30 eJ_30 XE_30 E_30 eE_30 h
    subst ex5_30 eK_30 eL_30 eJ_30 eE_30
    unfold g_X2_layAll_30 at h
    unfold f_X2_layAll_30
    rcases g_if h with ⟨c9, h⟩ | ⟨c9, h⟩
    · refine (if_pos (sle_t rfl rfl c9)).trans ?_
      exact hk _ _ rfl _ _ rfl _ _ rfl _ _ rfl h
    · refine (if_neg (sle_f rfl rfl c9)).trans ?_
      rcases g_if h with ⟨c8, h⟩ | ⟨c8, h⟩
      · refine (if_pos (seq_t rfl rfl c8)).trans ?_
        rcases g_if h with ⟨c3, h⟩ | ⟨c3, h⟩
        · refine (if_pos (seq_t rfl rfl c3)).trans ?_
          obtain ⟨⟨v23, K24, L25, J26, E27⟩, e2, h⟩ := ob_i h
          refine ob_s (s_X2_layWire e2 rfl rfl rfl rfl rfl rfl rfl rfl) ?_
          rcases g_if h with ⟨c1, h⟩ | ⟨c1, h⟩
          · refine (if_pos (seq_t rfl rfl c1)).trans ?_
            have w0 := Option.some.inj h
            obtain ⟨q0, w1⟩ := Prod.mk.inj w0
            obtain ⟨q1, w2⟩ := Prod.mk.inj w1
            obtain ⟨q2, w3⟩ := Prod.mk.inj w2
            obtain ⟨q3, w4⟩ := Prod.mk.inj w3
            subst q0
            subst q1
            subst q2
            subst q3
            subst w4
            exact congrArg some (tup5 n_m3 rfl rfl rfl rfl)
          · refine (if_neg (seq_f rfl rfl c1)).trans ?_
            exact ih _ _ (s_add rfl rfl) _ _ rfl _ _ rfl _ _ rfl _ _ rfl h
        · refine (if_neg (seq_f rfl rfl c3)).trans ?_
          exact ih _ _ (s_add rfl rfl) _ _ rfl _ _ rfl _ _ rfl _ _ rfl h
      · refine (if_neg (seq_f rfl rfl c8)).trans ?_
        obtain ⟨v8, e7, h⟩ := ob_i h
        refine ob_s (s_X0_distanceOf e7 rfl rfl) ?_
        rcases g_if h with ⟨c6, h⟩ | ⟨c6, h⟩
        · refine (if_pos (seq_t rfl rfl c6)).trans ?_
          obtain ⟨⟨v13, K14, L15, J16, E17⟩, e5, h⟩ := ob_i h
          refine ob_s (s_X2_layWire e5 rfl rfl rfl rfl rfl rfl rfl rfl) ?_
          rcases g_if h with ⟨c4, h⟩ | ⟨c4, h⟩
          · refine (if_pos (seq_t rfl rfl c4)).trans ?_
            have w0 := Option.some.inj h
            obtain ⟨q0, w1⟩ := Prod.mk.inj w0
            obtain ⟨q1, w2⟩ := Prod.mk.inj w1
            obtain ⟨q2, w3⟩ := Prod.mk.inj w2
            obtain ⟨q3, w4⟩ := Prod.mk.inj w3
            subst q0
            subst q1
            subst q2
            subst q3
            subst w4
            exact congrArg some (tup5 n_m3 rfl rfl rfl rfl)
          · refine (if_neg (seq_f rfl rfl c4)).trans ?_
            exact ih _ _ (s_add rfl rfl) _ _ rfl _ _ rfl _ _ rfl _ _ rfl h
        · refine (if_neg (seq_f rfl rfl c6)).trans ?_
          exact ih _ _ (s_add rfl rfl) _ _ rfl _ _ rfl _ _ rfl _ _ rfl h
def g_X2_layAll_6 (S : Nat) (cp : Nat) (su : Nat) (x2_6 : Nat) (k : Nat → Nat → Nat → Nat → Option (Nat × Nat × Nat × Nat × Nat)) : Nat → Nat → Nat → Nat → Nat → Nat → Option (Nat × Nat × Nat × Nat × Nat)
  | 0, _, _, _, _, _ => none
  | n + 1, x3_6, K_6, L_6, J_6, E_6 =>
    bif glt 8 x3_6 then
      k K_6 L_6 J_6 E_6
    else
      bif geq x2_6 1 then
        g_X2_layAll_30 S cp su x2_6 x3_6 (gs 8 x3_6) (fun Kz31 Lz31 Jz31 Ez31 =>
          g_X2_layAll_6 S cp su x2_6 k n (ga x3_6 1) Kz31 Lz31 Jz31 Ez31) xFu 0 K_6 L_6 J_6 E_6
      else
        g_X2_layAll_30 S cp su x2_6 x3_6 x3_6 (fun Kz30 Lz30 Jz30 Ez30 =>
          g_X2_layAll_6 S cp su x2_6 k n (ga x3_6 1) Kz30 Lz30 Jz30 Ez30) xFu 0 K_6 L_6 J_6 E_6
theorem s_X2_layAll_6 {S : Nat} {cp : Nat} {su : Nat} {x2_6 : Nat} {XS : Nat → Int32} {Xcp : Int32} {Xsu : Int32} {Xx2_6 : Int32} {k : Nat → Nat → Nat → Nat → Option (Nat × Nat × Nat × Nat × Nat)} {Xk : (Nat → Int32) → (Nat → Int32) → (Nat → Int32) → (Nat → Int32) → Option (Int32 × (Nat → Int32) × (Nat → Int32) × (Nat → Int32) × (Nat → Int32))} {r0 : Nat} {r1 : Nat} {r2 : Nat} {r3 : Nat} {r4 : Nat} (eS : XS = dA S) (ecp : Xcp = nI cp) (esu : Xsu = nI su) (ex2_6 : Xx2_6 = nI x2_6) (hk : ∀ (Xz0 : Nat → Int32) (z0 : Nat), Xz0 = dA z0 → ∀ (Xz1 : Nat → Int32) (z1 : Nat), Xz1 = dA z1 → ∀ (Xz2 : Nat → Int32) (z2 : Nat), Xz2 = dA z2 → ∀ (Xz3 : Nat → Int32) (z3 : Nat), Xz3 = dA z3 → k z0 z1 z2 z3 = some (r0, r1, r2, r3, r4) → Xk Xz0 Xz1 Xz2 Xz3 = some (nI r0, dA r1, dA r2, dA r3, dA r4)) : ∀ (n : Nat) (Xx3_6 : Int32) (x3_6 : Nat), Xx3_6 = nI x3_6 → ∀ (XK_6 : Nat → Int32) (K_6 : Nat), XK_6 = dA K_6 → ∀ (XL_6 : Nat → Int32) (L_6 : Nat), XL_6 = dA L_6 → ∀ (XJ_6 : Nat → Int32) (J_6 : Nat), XJ_6 = dA J_6 → ∀ (XE_6 : Nat → Int32) (E_6 : Nat), XE_6 = dA E_6 → g_X2_layAll_6 S cp su x2_6 k n x3_6 K_6 L_6 J_6 E_6 = some (r0, r1, r2, r3, r4) → f_X2_layAll_6 XS Xcp Xsu Xx2_6 Xk n Xx3_6 XK_6 XL_6 XJ_6 XE_6 = some (nI r0, dA r1, dA r2, dA r3, dA r4) := by
  subst eS ecp esu ex2_6
  intro n
  induction n with
  | zero => intro Xx3_6 x3_6 ex3_6 XK_6 K_6 eK_6 XL_6 L_6 eL_6 XJ_6 J_6 eJ_6 XE_6 E_6 eE_6 h; unfold g_X2_layAll_6 at h; cases h
  | succ n ih =>
    intro Xx3_6 x3_6 ex3_6 XK_6 K_6 eK_6 XL_6 L_6 eL_6 XJ_6 J_6 eJ_6 XE_6 E_6 eE_6 h
    subst ex3_6 eK_6 eL_6 eJ_6 eE_6
    unfold g_X2_layAll_6 at h
    unfold f_X2_layAll_6
    rcases g_if h with ⟨c2, h⟩ | ⟨c2, h⟩
    · refine (if_pos (slt_t rfl rfl c2)).trans ?_
      exact hk _ _ rfl _ _ rfl _ _ rfl _ _ rfl h
    · refine (if_neg (slt_f rfl rfl c2)).trans ?_
      rcases g_if h with ⟨c1, h⟩ | ⟨c1, h⟩
      · refine (if_pos (seq_t rfl rfl c1)).trans ?_
        refine s_X2_layAll_30 rfl rfl rfl rfl rfl (s_sub rfl rfl) (fun XKz31 Kz31 eKz31 XLz31 Lz31 eLz31 XJz31 Jz31 eJz31 XEz31 Ez31 eEz31 h => ?_) _ _ _ rfl _ _ rfl _ _ rfl _ _ rfl _ _ rfl h
        subst eKz31 eLz31 eJz31 eEz31
        exact ih _ _ (s_add rfl rfl) _ _ rfl _ _ rfl _ _ rfl _ _ rfl h
      · refine (if_neg (seq_f rfl rfl c1)).trans ?_
        refine s_X2_layAll_30 rfl rfl rfl rfl rfl rfl (fun XKz30 Kz30 eKz30 XLz30 Lz30 eLz30 XJz30 Jz30 eJz30 XEz30 Ez30 eEz30 h => ?_) _ _ _ rfl _ _ rfl _ _ rfl _ _ rfl _ _ rfl h
        subst eKz30 eLz30 eJz30 eEz30
        exact ih _ _ (s_add rfl rfl) _ _ rfl _ _ rfl _ _ rfl _ _ rfl h
def g_X2_layAll (K : Nat) (S : Nat) (L : Nat) (J : Nat) (E : Nat) (cp : Nat) (su : Nat) (p2 : Nat) : Option (Nat × Nat × Nat × Nat × Nat) :=
  (g_X0_removeAllWires L E).bind fun (L1, E2) =>
  g_X2_layAll_6 S cp su p2 (fun Kz32 Lz32 Jz32 Ez32 =>
    (g_X0_segmentsOfAll Lz32).bind fun v33 =>
    some (v33, Kz32, Lz32, Jz32, Ez32)) xFu 0 K L1 J E2
theorem s_X2_layAll {K : Nat} {S : Nat} {L : Nat} {J : Nat} {E : Nat} {cp : Nat} {su : Nat} {p2 : Nat} {XK : Nat → Int32} {XS : Nat → Int32} {XL : Nat → Int32} {XJ : Nat → Int32} {XE : Nat → Int32} {Xcp : Int32} {Xsu : Int32} {Xp2 : Int32} {r0 : Nat} {r1 : Nat} {r2 : Nat} {r3 : Nat} {r4 : Nat} (h : g_X2_layAll K S L J E cp su p2 = some (r0, r1, r2, r3, r4)) (eK : XK = dA K) (eS : XS = dA S) (eL : XL = dA L) (eJ : XJ = dA J) (eE : XE = dA E) (ecp : Xcp = nI cp) (esu : Xsu = nI su) (ep2 : Xp2 = nI p2) : f_X2_layAll XK XS XL XJ XE Xcp Xsu Xp2 = some (nI r0, dA r1, dA r2, dA r3, dA r4) := by
  subst eK eS eL eJ eE ecp esu ep2
  unfold g_X2_layAll at h
  unfold f_X2_layAll
  obtain ⟨⟨L1, E2⟩, e2, h⟩ := ob_i h
  refine ob_s (s_X0_removeAllWires e2 rfl rfl) ?_
  refine s_X2_layAll_6 rfl rfl rfl rfl (fun XKz32 Kz32 eKz32 XLz32 Lz32 eLz32 XJz32 Jz32 eJz32 XEz32 Ez32 eEz32 h => ?_) _ _ _ rfl _ _ rfl _ _ rfl _ _ rfl _ _ rfl h
  subst eKz32 eLz32 eJz32 eEz32
  obtain ⟨v33, e1, h⟩ := ob_i h
  refine ob_s (s_X0_segmentsOfAll e1 rfl) ?_
  have w0 := Option.some.inj h
  obtain ⟨q0, w1⟩ := Prod.mk.inj w0
  obtain ⟨q1, w2⟩ := Prod.mk.inj w1
  obtain ⟨q2, w3⟩ := Prod.mk.inj w2
  obtain ⟨q3, w4⟩ := Prod.mk.inj w3
  subst q0
  subst q1
  subst q2
  subst q3
  subst w4
  exact congrArg some (tup5 rfl rfl rfl rfl rfl)
def g_X3_depthBySources_5 (Dp : Nat) (S : Nat) (x2_5 : Nat) (k : Nat → Option (Nat)) : Nat → Nat → Nat → Option (Nat)
  | 0, _, _ => none
  | n + 1, x3_5, x4_5 =>
    bif gle 3 x4_5 then
      k x3_5
    else
      (g_X0_sourceOf S (ga (gm x2_5 3) x4_5)).bind fun v2 =>
      (g_X5_isPlace v2).bind fun v4 =>
      bif geq v4 0 then
        g_X3_depthBySources_5 Dp S x2_5 k n x3_5 (ga x4_5 1)
      else
        (gr_d Dp 24 v2).bind fun v7 =>
        bif geq v7 0 then
          some 0
        else
          (gr_d Dp 24 v2).bind fun v10 =>
          (some (bif glt x3_5 (ga v10 1) then (ga v10 1) else x3_5)).bind fun v12 =>
          g_X3_depthBySources_5 Dp S x2_5 k n v12 (ga x4_5 1)
theorem s_X3_depthBySources_5 {Dp : Nat} {S : Nat} {x2_5 : Nat} {XDp : Nat → Int32} {XS : Nat → Int32} {Xx2_5 : Int32} {k : Nat → Option (Nat)} {Xk : Int32 → Option (Int32)} {r0 : Nat} (eDp : XDp = dA Dp) (eS : XS = dA S) (ex2_5 : Xx2_5 = nI x2_5) (hk : ∀ (Xz0 : Int32) (z0 : Nat), Xz0 = nI z0 → k z0 = some r0 → Xk Xz0 = some (nI r0)) : ∀ (n : Nat) (Xx3_5 : Int32) (x3_5 : Nat), Xx3_5 = nI x3_5 → ∀ (Xx4_5 : Int32) (x4_5 : Nat), Xx4_5 = nI x4_5 → g_X3_depthBySources_5 Dp S x2_5 k n x3_5 x4_5 = some r0 → f_X3_depthBySources_5 XDp XS Xx2_5 Xk n Xx3_5 Xx4_5 = some (nI r0) := by
  subst eDp eS ex2_5
  intro n
  induction n with
  | zero => intro Xx3_5 x3_5 ex3_5 Xx4_5 x4_5 ex4_5 h; unfold g_X3_depthBySources_5 at h; cases h
  | succ n ih =>
    intro Xx3_5 x3_5 ex3_5 Xx4_5 x4_5 ex4_5 h
    subst ex3_5 ex4_5
    unfold g_X3_depthBySources_5 at h
    unfold f_X3_depthBySources_5
    rcases g_if h with ⟨c8, h⟩ | ⟨c8, h⟩
    · refine (if_pos (sle_t rfl rfl c8)).trans ?_
      exact hk _ _ rfl h
    · refine (if_neg (sle_f rfl rfl c8)).trans ?_
      obtain ⟨v2, e7, h⟩ := ob_i h
      refine ob_s (s_X0_sourceOf e7 rfl (s_add (s_mul rfl rfl) rfl)) ?_
      obtain ⟨v4, e6, h⟩ := ob_i h
      refine ob_s (s_X5_isPlace e6 rfl) ?_
      rcases g_if h with ⟨c5, h⟩ | ⟨c5, h⟩
      · refine (if_pos (seq_t rfl rfl c5)).trans ?_
        exact ih _ _ rfl _ _ (s_add rfl rfl) h
      · refine (if_neg (seq_f rfl rfl c5)).trans ?_
        obtain ⟨v7, e4, h⟩ := ob_i h
        refine ob_s (sr_d e4 (by decide) rfl rfl) ?_
        rcases g_if h with ⟨c3, h⟩ | ⟨c3, h⟩
        · refine (if_pos (seq_t rfl rfl c3)).trans ?_
          have w0 := Option.some.inj h
          subst w0
          exact congrArg some rfl
        · refine (if_neg (seq_f rfl rfl c3)).trans ?_
          obtain ⟨v10, e2, h⟩ := ob_i h
          refine ob_s (sr_d e2 (by decide) rfl rfl) ?_
          replace h := ob_v h
          refine ob_s (congrArg some (s_itelt rfl (s_add rfl rfl) (s_add rfl rfl) rfl)) ?_
          generalize (bif glt x3_5 (ga v10 1) then (ga v10 1) else x3_5) = v12 at h ⊢
          exact ih _ _ rfl _ _ (s_add rfl rfl) h
def g_X3_depthBySources (Dp : Nat) (S : Nat) (p2 : Nat) : Option (Nat) :=
  g_X3_depthBySources_5 Dp S p2 (fun x3z14 =>
    some x3z14) xFu 1 0
theorem s_X3_depthBySources {Dp : Nat} {S : Nat} {p2 : Nat} {XDp : Nat → Int32} {XS : Nat → Int32} {Xp2 : Int32} {r0 : Nat} (h : g_X3_depthBySources Dp S p2 = some r0) (eDp : XDp = dA Dp) (eS : XS = dA S) (ep2 : Xp2 = nI p2) : f_X3_depthBySources XDp XS Xp2 = some (nI r0) := by
  subst eDp eS ep2
  unfold g_X3_depthBySources at h
  unfold f_X3_depthBySources
  refine s_X3_depthBySources_5 rfl rfl rfl (fun Xx3z14 x3z14 ex3z14 h => ?_) _ _ _ rfl _ _ rfl h
  subst ex3z14
  have w0 := Option.some.inj h
  subst w0
  exact congrArg some rfl
def g_X3_settleSome_7 (T : Nat) (S : Nat) (k : Nat → Nat → Nat → Option (Nat × Nat × Nat × Nat)) : Nat → Nat → Nat → Nat → Nat → Option (Nat × Nat × Nat × Nat)
  | 0, _, _, _, _ => none
  | n + 1, x3_7, Dp_7, Sq_7, se_7 =>
    bif gle 24 x3_7 then
      k Dp_7 Sq_7 se_7
    else
      (g_X0_hasCell T x3_7).bind fun v2 =>
      bif geq v2 0 then
        g_X3_settleSome_7 T S k n (ga x3_7 1) Dp_7 Sq_7 se_7
      else
        (gr_d Dp_7 24 x3_7).bind fun v6 =>
        bif geq v6 0 then
          (g_X3_depthBySources Dp_7 S x3_7).bind fun v10 =>
          bif gle v10 0 then
            g_X3_settleSome_7 T S k n (ga x3_7 1) Dp_7 Sq_7 se_7
          else
            bif gle 24 se_7 then
              g_X3_settleSome_7 T S k n (ga x3_7 1) Dp_7 Sq_7 se_7
            else
              (gr_w Dp_7 24 x3_7 v10).bind fun Dp15 =>
              (gr_w Sq_7 24 se_7 x3_7).bind fun Sq17 =>
              g_X3_settleSome_7 T S k n (ga x3_7 1) Dp15 Sq17 (ga se_7 1)
        else
          g_X3_settleSome_7 T S k n (ga x3_7 1) Dp_7 Sq_7 se_7
theorem s_X3_settleSome_7 {T : Nat} {S : Nat} {XT : Nat → Int32} {XS : Nat → Int32} {k : Nat → Nat → Nat → Option (Nat × Nat × Nat × Nat)} {Xk : (Nat → Int32) → (Nat → Int32) → Int32 → Option (Int32 × (Nat → Int32) × (Nat → Int32) × Int32)} {r0 : Nat} {r1 : Nat} {r2 : Nat} {r3 : Nat} (eT : XT = dA T) (eS : XS = dA S) (hk : ∀ (Xz0 : Nat → Int32) (z0 : Nat), Xz0 = dA z0 → ∀ (Xz1 : Nat → Int32) (z1 : Nat), Xz1 = dA z1 → ∀ (Xz2 : Int32) (z2 : Nat), Xz2 = nI z2 → k z0 z1 z2 = some (r0, r1, r2, r3) → Xk Xz0 Xz1 Xz2 = some (nI r0, dA r1, dA r2, nI r3)) : ∀ (n : Nat) (Xx3_7 : Int32) (x3_7 : Nat), Xx3_7 = nI x3_7 → ∀ (XDp_7 : Nat → Int32) (Dp_7 : Nat), XDp_7 = dA Dp_7 → ∀ (XSq_7 : Nat → Int32) (Sq_7 : Nat), XSq_7 = dA Sq_7 → ∀ (Xse_7 : Int32) (se_7 : Nat), Xse_7 = nI se_7 → g_X3_settleSome_7 T S k n x3_7 Dp_7 Sq_7 se_7 = some (r0, r1, r2, r3) → f_X3_settleSome_7 XT XS Xk n Xx3_7 XDp_7 XSq_7 Xse_7 = some (nI r0, dA r1, dA r2, nI r3) := by
  subst eT eS
  intro n
  induction n with
  | zero => intro Xx3_7 x3_7 ex3_7 XDp_7 Dp_7 eDp_7 XSq_7 Sq_7 eSq_7 Xse_7 se_7 ese_7 h; unfold g_X3_settleSome_7 at h; cases h
  | succ n ih =>
    intro Xx3_7 x3_7 ex3_7 XDp_7 Dp_7 eDp_7 XSq_7 Sq_7 eSq_7 Xse_7 se_7 ese_7 h
    subst ex3_7 eDp_7 eSq_7 ese_7
    unfold g_X3_settleSome_7 at h
    unfold f_X3_settleSome_7
    rcases g_if h with ⟨c10, h⟩ | ⟨c10, h⟩
    · refine (if_pos (sle_t rfl rfl c10)).trans ?_
      exact hk _ _ rfl _ _ rfl _ _ rfl h
    · refine (if_neg (sle_f rfl rfl c10)).trans ?_
      obtain ⟨v2, e9, h⟩ := ob_i h
      refine ob_s (s_X0_hasCell e9 rfl rfl) ?_
      rcases g_if h with ⟨c8, h⟩ | ⟨c8, h⟩
      · refine (if_pos (seq_t rfl rfl c8)).trans ?_
        exact ih _ _ (s_add rfl rfl) _ _ rfl _ _ rfl _ _ rfl h
      · refine (if_neg (seq_f rfl rfl c8)).trans ?_
        obtain ⟨v6, e7, h⟩ := ob_i h
        refine ob_s (sr_d e7 (by decide) rfl rfl) ?_
        rcases g_if h with ⟨c6, h⟩ | ⟨c6, h⟩
        · refine (if_pos (seq_t rfl rfl c6)).trans ?_
          obtain ⟨v10, e5, h⟩ := ob_i h
          refine ob_s (s_X3_depthBySources e5 rfl rfl rfl) ?_
          rcases g_if h with ⟨c4, h⟩ | ⟨c4, h⟩
          · refine (if_pos (sle_t rfl rfl c4)).trans ?_
            exact ih _ _ (s_add rfl rfl) _ _ rfl _ _ rfl _ _ rfl h
          · refine (if_neg (sle_f rfl rfl c4)).trans ?_
            rcases g_if h with ⟨c3, h⟩ | ⟨c3, h⟩
            · refine (if_pos (sle_t rfl rfl c3)).trans ?_
              exact ih _ _ (s_add rfl rfl) _ _ rfl _ _ rfl _ _ rfl h
            · refine (if_neg (sle_f rfl rfl c3)).trans ?_
              obtain ⟨Dp15, e2, h⟩ := ob_i h
              refine ob_s (sr_w e2 (by decide) rfl rfl rfl) ?_
              obtain ⟨Sq17, e1, h⟩ := ob_i h
              refine ob_s (sr_w e1 (by decide) rfl rfl rfl) ?_
              exact ih _ _ (s_add rfl rfl) _ _ rfl _ _ rfl _ _ (s_add rfl rfl) h
        · refine (if_neg (seq_f rfl rfl c6)).trans ?_
          exact ih _ _ (s_add rfl rfl) _ _ rfl _ _ rfl _ _ rfl h
def g_X3_settleSome (Dp : Nat) (Sq : Nat) (se : Nat) (T : Nat) (S : Nat) : Option (Nat × Nat × Nat × Nat) :=
  g_X3_settleSome_7 T S (fun Dpz18 Sqz18 sez18 =>
    bif gle sez18 se then
      some (0, Dpz18, Sqz18, sez18)
    else
      some (1, Dpz18, Sqz18, sez18)) xFu 0 Dp Sq se
theorem s_X3_settleSome {Dp : Nat} {Sq : Nat} {se : Nat} {T : Nat} {S : Nat} {XDp : Nat → Int32} {XSq : Nat → Int32} {Xse : Int32} {XT : Nat → Int32} {XS : Nat → Int32} {r0 : Nat} {r1 : Nat} {r2 : Nat} {r3 : Nat} (h : g_X3_settleSome Dp Sq se T S = some (r0, r1, r2, r3)) (eDp : XDp = dA Dp) (eSq : XSq = dA Sq) (ese : Xse = nI se) (eT : XT = dA T) (eS : XS = dA S) : f_X3_settleSome XDp XSq Xse XT XS = some (nI r0, dA r1, dA r2, nI r3) := by
  subst eDp eSq ese eT eS
  unfold g_X3_settleSome at h
  unfold f_X3_settleSome
  refine s_X3_settleSome_7 rfl rfl (fun XDpz18 Dpz18 eDpz18 XSqz18 Sqz18 eSqz18 Xsez18 sez18 esez18 h => ?_) _ _ _ rfl _ _ rfl _ _ rfl _ _ rfl h
  subst eDpz18 eSqz18 esez18
  rcases g_if h with ⟨c1, h⟩ | ⟨c1, h⟩
  · refine (if_pos (sle_t rfl rfl c1)).trans ?_
    have w0 := Option.some.inj h
    obtain ⟨q0, w1⟩ := Prod.mk.inj w0
    obtain ⟨q1, w2⟩ := Prod.mk.inj w1
    obtain ⟨q2, w3⟩ := Prod.mk.inj w2
    subst q0
    subst q1
    subst q2
    subst w3
    exact congrArg some (tup4 rfl rfl rfl rfl)
  · refine (if_neg (sle_f rfl rfl c1)).trans ?_
    have w0 := Option.some.inj h
    obtain ⟨q0, w1⟩ := Prod.mk.inj w0
    obtain ⟨q1, w2⟩ := Prod.mk.inj w1
    obtain ⟨q2, w3⟩ := Prod.mk.inj w2
    subst q0
    subst q1
    subst q2
    subst w3
    exact congrArg some (tup4 rfl rfl rfl rfl)
def g_X3_study_17 (T : Nat) (S : Nat) (k : Nat → Nat → Nat → Option (Nat × Nat × Nat)) : Nat → Nat → Nat → Nat → Nat → Nat → Option (Nat × Nat × Nat)
  | 0, _, _, _, _, _ => none
  | n + 1, x2_17, x3_17, Dp_17, Sq_17, se_17 =>
    bif gle 24 x3_17 then
      k Dp_17 Sq_17 se_17
    else
      bif geq x2_17 0 then
        k Dp_17 Sq_17 se_17
      else
        (g_X3_settleSome Dp_17 Sq_17 se_17 T S).bind fun (v5, Dp6, Sq7, se8) =>
        g_X3_study_17 T S k n v5 (ga x3_17 1) Dp6 Sq7 se8
theorem s_X3_study_17 {T : Nat} {S : Nat} {XT : Nat → Int32} {XS : Nat → Int32} {k : Nat → Nat → Nat → Option (Nat × Nat × Nat)} {Xk : (Nat → Int32) → (Nat → Int32) → Int32 → Option ((Nat → Int32) × (Nat → Int32) × Int32)} {r0 : Nat} {r1 : Nat} {r2 : Nat} (eT : XT = dA T) (eS : XS = dA S) (hk : ∀ (Xz0 : Nat → Int32) (z0 : Nat), Xz0 = dA z0 → ∀ (Xz1 : Nat → Int32) (z1 : Nat), Xz1 = dA z1 → ∀ (Xz2 : Int32) (z2 : Nat), Xz2 = nI z2 → k z0 z1 z2 = some (r0, r1, r2) → Xk Xz0 Xz1 Xz2 = some (dA r0, dA r1, nI r2)) : ∀ (n : Nat) (Xx2_17 : Int32) (x2_17 : Nat), Xx2_17 = nI x2_17 → ∀ (Xx3_17 : Int32) (x3_17 : Nat), Xx3_17 = nI x3_17 → ∀ (XDp_17 : Nat → Int32) (Dp_17 : Nat), XDp_17 = dA Dp_17 → ∀ (XSq_17 : Nat → Int32) (Sq_17 : Nat), XSq_17 = dA Sq_17 → ∀ (Xse_17 : Int32) (se_17 : Nat), Xse_17 = nI se_17 → g_X3_study_17 T S k n x2_17 x3_17 Dp_17 Sq_17 se_17 = some (r0, r1, r2) → f_X3_study_17 XT XS Xk n Xx2_17 Xx3_17 XDp_17 XSq_17 Xse_17 = some (dA r0, dA r1, nI r2) := by
  subst eT eS
  intro n
  induction n with
  | zero => intro Xx2_17 x2_17 ex2_17 Xx3_17 x3_17 ex3_17 XDp_17 Dp_17 eDp_17 XSq_17 Sq_17 eSq_17 Xse_17 se_17 ese_17 h; unfold g_X3_study_17 at h; cases h
  | succ n ih =>
    intro Xx2_17 x2_17 ex2_17 Xx3_17 x3_17 ex3_17 XDp_17 Dp_17 eDp_17 XSq_17 Sq_17 eSq_17 Xse_17 se_17 ese_17 h
    subst ex2_17 ex3_17 eDp_17 eSq_17 ese_17
    unfold g_X3_study_17 at h
    unfold f_X3_study_17
    rcases g_if h with ⟨c3, h⟩ | ⟨c3, h⟩
    · refine (if_pos (sle_t rfl rfl c3)).trans ?_
      exact hk _ _ rfl _ _ rfl _ _ rfl h
    · refine (if_neg (sle_f rfl rfl c3)).trans ?_
      rcases g_if h with ⟨c2, h⟩ | ⟨c2, h⟩
      · refine (if_pos (seq_t rfl rfl c2)).trans ?_
        exact hk _ _ rfl _ _ rfl _ _ rfl h
      · refine (if_neg (seq_f rfl rfl c2)).trans ?_
        obtain ⟨⟨v5, Dp6, Sq7, se8⟩, e1, h⟩ := ob_i h
        refine ob_s (s_X3_settleSome e1 rfl rfl rfl rfl rfl) ?_
        exact ih _ _ rfl _ _ (s_add rfl rfl) _ _ rfl _ _ rfl _ _ rfl h
def g_X3_study (Dp : Nat) (Sq : Nat) (se : Nat) (T : Nat) (S : Nat) : Option (Nat × Nat × Nat) :=
  (g_J7_fill_53178 24 Dp 0).bind fun f1 =>
  g_X3_study_17 T S (fun Dpz10 Sqz10 sez10 =>
    some (Dpz10, Sqz10, sez10)) xFu 1 0 f1 Sq 0
theorem s_X3_study {Dp : Nat} {Sq : Nat} {se : Nat} {T : Nat} {S : Nat} {XDp : Nat → Int32} {XSq : Nat → Int32} {Xse : Int32} {XT : Nat → Int32} {XS : Nat → Int32} {r0 : Nat} {r1 : Nat} {r2 : Nat} (h : g_X3_study Dp Sq se T S = some (r0, r1, r2)) (eDp : XDp = dA Dp) (eSq : XSq = dA Sq) (ese : Xse = nI se) (eT : XT = dA T) (eS : XS = dA S) : f_X3_study XDp XSq Xse XT XS = some (dA r0, dA r1, nI r2) := by
  subst eDp eSq ese eT eS
  unfold g_X3_study at h
  unfold f_X3_study
  obtain ⟨f1, e1, h⟩ := ob_i h
  refine ob_s (s_J7_fill_53178 (by decide) e1 rfl rfl) ?_
  refine s_X3_study_17 rfl rfl (fun XDpz10 Dpz10 eDpz10 XSqz10 Sqz10 eSqz10 Xsez10 sez10 esez10 h => ?_) _ _ _ rfl _ _ rfl _ _ rfl _ _ rfl _ _ rfl h
  subst eDpz10 eSqz10 esez10
  have w0 := Option.some.inj h
  obtain ⟨q0, w1⟩ := Prod.mk.inj w0
  obtain ⟨q1, w2⟩ := Prod.mk.inj w1
  subst q0
  subst q1
  subst w2
  exact congrArg some (tup3 rfl rfl rfl)
def g_X3_sourceBit (Bt : Nat) (p1 : Nat) (p2 : Nat) : Option (Nat) :=
  (g_X5_isPlace p1).bind fun v1 =>
  bif geq v1 0 then
    bif glt p1 24 then
      bif geq p1 33 then
        some 1
      else
        some 0
    else
      bif gle 32 p1 then
        bif geq p1 33 then
          some 1
        else
          some 0
      else
        bif Nat.ble 2147483648 p2 then none else
        bif Nat.ble 32 (gs p1 24) then none else
        some (gand (gsr p2 (gs p1 24)) 1)
  else
    (gr_d Bt 24 p1).bind fun v8 =>
    some v8
theorem s_X3_sourceBit {Bt : Nat} {p1 : Nat} {p2 : Nat} {XBt : Nat → Int32} {Xp1 : Int32} {Xp2 : Int32} {r0 : Nat} (h : g_X3_sourceBit Bt p1 p2 = some r0) (eBt : XBt = dA Bt) (ep1 : Xp1 = nI p1) (ep2 : Xp2 = nI p2) : f_X3_sourceBit XBt Xp1 Xp2 = some (nI r0) := by
  subst eBt ep1 ep2
  unfold g_X3_sourceBit at h
  unfold f_X3_sourceBit
  obtain ⟨v1, e9, h⟩ := ob_i h
  refine ob_s (s_X5_isPlace e9 rfl) ?_
  rcases g_if h with ⟨c8, h⟩ | ⟨c8, h⟩
  · refine (if_pos (seq_t rfl rfl c8)).trans ?_
    rcases g_if h with ⟨c6, h⟩ | ⟨c6, h⟩
    · refine (if_pos (slt_t rfl rfl c6)).trans ?_
      rcases g_if h with ⟨c1, h⟩ | ⟨c1, h⟩
      · refine (if_pos (seq_t rfl rfl c1)).trans ?_
        have w0 := Option.some.inj h
        subst w0
        exact congrArg some rfl
      · refine (if_neg (seq_f rfl rfl c1)).trans ?_
        have w0 := Option.some.inj h
        subst w0
        exact congrArg some rfl
    · refine (if_neg (slt_f rfl rfl c6)).trans ?_
      rcases g_if h with ⟨c5, h⟩ | ⟨c5, h⟩
      · refine (if_pos (sle_t rfl rfl c5)).trans ?_
        rcases g_if h with ⟨c2, h⟩ | ⟨c2, h⟩
        · refine (if_pos (seq_t rfl rfl c2)).trans ?_
          have w0 := Option.some.inj h
          subst w0
          exact congrArg some rfl
        · refine (if_neg (seq_f rfl rfl c2)).trans ?_
          have w0 := Option.some.inj h
          subst w0
          exact congrArg some rfl
      · refine (if_neg (sle_f rfl rfl c5)).trans ?_
        obtain ⟨w3, h⟩ := g_gd h
        obtain ⟨w4, h⟩ := g_gd h
        have w0 := Option.some.inj h
        subst w0
        exact congrArg some (s_and (s_shr w3 w4 rfl (s_sub rfl rfl)) rfl)
  · refine (if_neg (seq_f rfl rfl c8)).trans ?_
    obtain ⟨v8, e7, h⟩ := ob_i h
    refine ob_s (sr_d e7 (by decide) rfl rfl) ?_
    have w0 := Option.some.inj h
    subst w0
    exact congrArg some rfl
def g_X3_work_33 (Bt_33 : Nat) (S : Nat) (x2_33 : Nat) (x4_33 : Nat) (k : Nat → Option (Nat)) : Nat → Nat → Nat → Option (Nat)
  | 0, _, _ => none
  | n + 1, x5_33, x6_33 =>
    bif gle 3 x6_33 then
      k x5_33
    else
      (g_X0_sourceOf S (ga (gm x4_33 3) x6_33)).bind fun v6 =>
      (g_X3_sourceBit Bt_33 v6 x2_33).bind fun v8 =>
      bif Nat.ble 32 x6_33 then none else
      bif Nat.ble 4294967296 (gsl v8 x6_33) then none else
      g_X3_work_33 Bt_33 S x2_33 x4_33 k n (gor x5_33 (gsl v8 x6_33)) (ga x6_33 1)
theorem s_X3_work_33 {Bt_33 : Nat} {S : Nat} {x2_33 : Nat} {x4_33 : Nat} {XBt_33 : Nat → Int32} {XS : Nat → Int32} {Xx2_33 : Int32} {Xx4_33 : Int32} {k : Nat → Option (Nat)} {Xk : Int32 → Option ((Nat → Int32))} {r0 : Nat} (eBt_33 : XBt_33 = dA Bt_33) (eS : XS = dA S) (ex2_33 : Xx2_33 = nI x2_33) (ex4_33 : Xx4_33 = nI x4_33) (hk : ∀ (Xz0 : Int32) (z0 : Nat), Xz0 = nI z0 → k z0 = some r0 → Xk Xz0 = some (dA r0)) : ∀ (n : Nat) (Xx5_33 : Int32) (x5_33 : Nat), Xx5_33 = nI x5_33 → ∀ (Xx6_33 : Int32) (x6_33 : Nat), Xx6_33 = nI x6_33 → g_X3_work_33 Bt_33 S x2_33 x4_33 k n x5_33 x6_33 = some r0 → f_X3_work_33 XBt_33 XS Xx2_33 Xx4_33 Xk n Xx5_33 Xx6_33 = some (dA r0) := by
  subst eBt_33 eS ex2_33 ex4_33
  intro n
  induction n with
  | zero => intro Xx5_33 x5_33 ex5_33 Xx6_33 x6_33 ex6_33 h; unfold g_X3_work_33 at h; cases h
  | succ n ih =>
    intro Xx5_33 x5_33 ex5_33 Xx6_33 x6_33 ex6_33 h
    subst ex5_33 ex6_33
    unfold g_X3_work_33 at h
    unfold f_X3_work_33
    rcases g_if h with ⟨c5, h⟩ | ⟨c5, h⟩
    · refine (if_pos (sle_t rfl rfl c5)).trans ?_
      exact hk _ _ rfl h
    · refine (if_neg (sle_f rfl rfl c5)).trans ?_
      obtain ⟨v6, e4, h⟩ := ob_i h
      refine ob_s (s_X0_sourceOf e4 rfl (s_add (s_mul rfl rfl) rfl)) ?_
      obtain ⟨v8, e3, h⟩ := ob_i h
      refine ob_s (s_X3_sourceBit e3 rfl rfl rfl) ?_
      obtain ⟨w1, h⟩ := g_gd h
      obtain ⟨w2, h⟩ := g_gd h
      exact ih _ _ (s_or rfl (s_shl w1 w2 rfl rfl)) _ _ (s_add rfl rfl) h
def g_X3_work_2 (Sq : Nat) (se : Nat) (T : Nat) (S : Nat) (x2_2 : Nat) (k : Nat → Option (Nat)) : Nat → Nat → Nat → Option (Nat)
  | 0, _, _ => none
  | n + 1, x3_2, Bt_2 =>
    bif gle se x3_2 then
      k Bt_2
    else
      bif gle 24 x3_2 then
        k Bt_2
      else
        (gr_d Sq 24 x3_2).bind fun v3 =>
        g_X3_work_33 Bt_2 S x2_2 v3 (fun x5z10 =>
          (g_X5_isPlace v3).bind fun v11 =>
          bif geq v11 0 then
            g_X3_work_2 Sq se T S x2_2 k n (ga x3_2 1) Bt_2
          else
            (g_X0_tableOf T v3).bind fun v14 =>
            bif Nat.ble 2147483648 v14 then none else
            bif Nat.ble 32 x5z10 then none else
            (gr_w Bt_2 24 v3 (gand (gsr v14 x5z10) 1)).bind fun Bt17 =>
            g_X3_work_2 Sq se T S x2_2 k n (ga x3_2 1) Bt17) xFu 0 0
theorem s_X3_work_2 {Sq : Nat} {se : Nat} {T : Nat} {S : Nat} {x2_2 : Nat} {XSq : Nat → Int32} {Xse : Int32} {XT : Nat → Int32} {XS : Nat → Int32} {Xx2_2 : Int32} {k : Nat → Option (Nat)} {Xk : (Nat → Int32) → Option ((Nat → Int32))} {r0 : Nat} (eSq : XSq = dA Sq) (ese : Xse = nI se) (eT : XT = dA T) (eS : XS = dA S) (ex2_2 : Xx2_2 = nI x2_2) (hk : ∀ (Xz0 : Nat → Int32) (z0 : Nat), Xz0 = dA z0 → k z0 = some r0 → Xk Xz0 = some (dA r0)) : ∀ (n : Nat) (Xx3_2 : Int32) (x3_2 : Nat), Xx3_2 = nI x3_2 → ∀ (XBt_2 : Nat → Int32) (Bt_2 : Nat), XBt_2 = dA Bt_2 → g_X3_work_2 Sq se T S x2_2 k n x3_2 Bt_2 = some r0 → f_X3_work_2 XSq Xse XT XS Xx2_2 Xk n Xx3_2 XBt_2 = some (dA r0) := by
  subst eSq ese eT eS ex2_2
  intro n
  induction n with
  | zero => intro Xx3_2 x3_2 ex3_2 XBt_2 Bt_2 eBt_2 h; unfold g_X3_work_2 at h; cases h
  | succ n ih =>
    intro Xx3_2 x3_2 ex3_2 XBt_2 Bt_2 eBt_2 h
    subst ex3_2 eBt_2
    unfold g_X3_work_2 at h
    unfold f_X3_work_2
    rcases g_if h with ⟨c9, h⟩ | ⟨c9, h⟩
    · refine (if_pos (sle_t rfl rfl c9)).trans ?_
      exact hk _ _ rfl h
    · refine (if_neg (sle_f rfl rfl c9)).trans ?_
      rcases g_if h with ⟨c8, h⟩ | ⟨c8, h⟩
      · refine (if_pos (sle_t rfl rfl c8)).trans ?_
        exact hk _ _ rfl h
      · refine (if_neg (sle_f rfl rfl c8)).trans ?_
        obtain ⟨v3, e7, h⟩ := ob_i h
        refine ob_s (sr_d e7 (by decide) rfl rfl) ?_
        refine s_X3_work_33 rfl rfl rfl rfl (fun Xx5z10 x5z10 ex5z10 h => ?_) _ _ _ rfl _ _ rfl h
        subst ex5z10
        obtain ⟨v11, e6, h⟩ := ob_i h
        refine ob_s (s_X5_isPlace e6 rfl) ?_
        rcases g_if h with ⟨c5, h⟩ | ⟨c5, h⟩
        · refine (if_pos (seq_t rfl rfl c5)).trans ?_
          exact ih _ _ (s_add rfl rfl) _ _ rfl h
        · refine (if_neg (seq_f rfl rfl c5)).trans ?_
          obtain ⟨v14, e4, h⟩ := ob_i h
          refine ob_s (s_X0_tableOf e4 rfl rfl) ?_
          obtain ⟨w1, h⟩ := g_gd h
          obtain ⟨w2, h⟩ := g_gd h
          obtain ⟨Bt17, e3, h⟩ := ob_i h
          refine ob_s (sr_w e3 (by decide) rfl rfl (s_and (s_shr w1 w2 rfl rfl) rfl)) ?_
          exact ih _ _ (s_add rfl rfl) _ _ rfl h
def g_X3_work (Bt : Nat) (Sq : Nat) (se : Nat) (T : Nat) (S : Nat) (p2 : Nat) : Option (Nat) :=
  g_X3_work_2 Sq se T S p2 (fun Btz18 =>
    some Btz18) xFu 0 Bt
theorem s_X3_work {Bt : Nat} {Sq : Nat} {se : Nat} {T : Nat} {S : Nat} {p2 : Nat} {XBt : Nat → Int32} {XSq : Nat → Int32} {Xse : Int32} {XT : Nat → Int32} {XS : Nat → Int32} {Xp2 : Int32} {r0 : Nat} (h : g_X3_work Bt Sq se T S p2 = some r0) (eBt : XBt = dA Bt) (eSq : XSq = dA Sq) (ese : Xse = nI se) (eT : XT = dA T) (eS : XS = dA S) (ep2 : Xp2 = nI p2) : f_X3_work XBt XSq Xse XT XS Xp2 = some (dA r0) := by
  subst eBt eSq ese eT eS ep2
  unfold g_X3_work at h
  unfold f_X3_work
  refine s_X3_work_2 rfl rfl rfl rfl rfl (fun XBtz18 Btz18 eBtz18 h => ?_) _ _ _ rfl _ _ rfl h
  subst eBtz18
  have w0 := Option.some.inj h
  subst w0
  exact congrArg some rfl
def g_X3_depthOf (Dp : Nat) (p1 : Nat) : Option (Nat) :=
  (g_X5_isPlace p1).bind fun v1 =>
  bif geq v1 0 then
    some 0
  else
    (gr_d Dp 24 p1).bind fun v4 =>
    some v4
theorem s_X3_depthOf {Dp : Nat} {p1 : Nat} {XDp : Nat → Int32} {Xp1 : Int32} {r0 : Nat} (h : g_X3_depthOf Dp p1 = some r0) (eDp : XDp = dA Dp) (ep1 : Xp1 = nI p1) : f_X3_depthOf XDp Xp1 = some (nI r0) := by
  subst eDp ep1
  unfold g_X3_depthOf at h
  unfold f_X3_depthOf
  obtain ⟨v1, e3, h⟩ := ob_i h
  refine ob_s (s_X5_isPlace e3 rfl) ?_
  rcases g_if h with ⟨c2, h⟩ | ⟨c2, h⟩
  · refine (if_pos (seq_t rfl rfl c2)).trans ?_
    have w0 := Option.some.inj h
    subst w0
    exact congrArg some rfl
  · refine (if_neg (seq_f rfl rfl c2)).trans ?_
    obtain ⟨v4, e1, h⟩ := ob_i h
    refine ob_s (sr_d e1 (by decide) rfl rfl) ?_
    have w0 := Option.some.inj h
    subst w0
    exact congrArg some rfl
def g_X3_answers (Dp : Nat) (p1 : Nat) : Option (Nat) :=
  (g_X3_depthOf Dp p1).bind fun v1 =>
  bif gle v1 0 then
    some 0
  else
    some 1
theorem s_X3_answers {Dp : Nat} {p1 : Nat} {XDp : Nat → Int32} {Xp1 : Int32} {r0 : Nat} (h : g_X3_answers Dp p1 = some r0) (eDp : XDp = dA Dp) (ep1 : Xp1 = nI p1) : f_X3_answers XDp Xp1 = some (nI r0) := by
  subst eDp ep1
  unfold g_X3_answers at h
  unfold f_X3_answers
  obtain ⟨v1, e2, h⟩ := ob_i h
  refine ob_s (s_X3_depthOf e2 rfl rfl) ?_
  rcases g_if h with ⟨c1, h⟩ | ⟨c1, h⟩
  · refine (if_pos (sle_t rfl rfl c1)).trans ?_
    have w0 := Option.some.inj h
    subst w0
    exact congrArg some rfl
  · refine (if_neg (sle_f rfl rfl c1)).trans ?_
    have w0 := Option.some.inj h
    subst w0
    exact congrArg some rfl
def g_X3_bitOf (Bt : Nat) (p1 : Nat) : Option (Nat) :=
  (g_X5_isPlace p1).bind fun v1 =>
  bif geq v1 0 then
    some 0
  else
    (gr_d Bt 24 p1).bind fun v4 =>
    some v4
theorem s_X3_bitOf {Bt : Nat} {p1 : Nat} {XBt : Nat → Int32} {Xp1 : Int32} {r0 : Nat} (h : g_X3_bitOf Bt p1 = some r0) (eBt : XBt = dA Bt) (ep1 : Xp1 = nI p1) : f_X3_bitOf XBt Xp1 = some (nI r0) := by
  subst eBt ep1
  unfold g_X3_bitOf at h
  unfold f_X3_bitOf
  obtain ⟨v1, e3, h⟩ := ob_i h
  refine ob_s (s_X5_isPlace e3 rfl) ?_
  rcases g_if h with ⟨c2, h⟩ | ⟨c2, h⟩
  · refine (if_pos (seq_t rfl rfl c2)).trans ?_
    have w0 := Option.some.inj h
    subst w0
    exact congrArg some rfl
  · refine (if_neg (seq_f rfl rfl c2)).trans ?_
    obtain ⟨v4, e1, h⟩ := ob_i h
    refine ob_s (sr_d e1 (by decide) rfl rfl) ?_
    have w0 := Option.some.inj h
    subst w0
    exact congrArg some rfl
def g_X3_cellsThatAnswer (se : Nat) : Option (Nat) :=
  some se
theorem s_X3_cellsThatAnswer {se : Nat} {Xse : Int32} {r0 : Nat} (h : g_X3_cellsThatAnswer se = some r0) (ese : Xse = nI se) : f_X3_cellsThatAnswer Xse = some (nI r0) := by
  subst ese
  unfold g_X3_cellsThatAnswer at h
  unfold f_X3_cellsThatAnswer
  have w0 := Option.some.inj h
  subst w0
  exact congrArg some rfl
def g_X3_greatestDepth_4 (Dp : Nat) (k : Nat → Option (Nat)) : Nat → Nat → Nat → Option (Nat)
  | 0, _, _ => none
  | n + 1, x1_4, x2_4 =>
    bif gle 24 x2_4 then
      k x1_4
    else
      (gr_d Dp 24 x2_4).bind fun v2 =>
      (some (bif glt x1_4 v2 then v2 else x1_4)).bind fun v4 =>
      g_X3_greatestDepth_4 Dp k n v4 (ga x2_4 1)
theorem s_X3_greatestDepth_4 {Dp : Nat} {XDp : Nat → Int32} {k : Nat → Option (Nat)} {Xk : Int32 → Option (Int32)} {r0 : Nat} (eDp : XDp = dA Dp) (hk : ∀ (Xz0 : Int32) (z0 : Nat), Xz0 = nI z0 → k z0 = some r0 → Xk Xz0 = some (nI r0)) : ∀ (n : Nat) (Xx1_4 : Int32) (x1_4 : Nat), Xx1_4 = nI x1_4 → ∀ (Xx2_4 : Int32) (x2_4 : Nat), Xx2_4 = nI x2_4 → g_X3_greatestDepth_4 Dp k n x1_4 x2_4 = some r0 → f_X3_greatestDepth_4 XDp Xk n Xx1_4 Xx2_4 = some (nI r0) := by
  subst eDp
  intro n
  induction n with
  | zero => intro Xx1_4 x1_4 ex1_4 Xx2_4 x2_4 ex2_4 h; unfold g_X3_greatestDepth_4 at h; cases h
  | succ n ih =>
    intro Xx1_4 x1_4 ex1_4 Xx2_4 x2_4 ex2_4 h
    subst ex1_4 ex2_4
    unfold g_X3_greatestDepth_4 at h
    unfold f_X3_greatestDepth_4
    rcases g_if h with ⟨c3, h⟩ | ⟨c3, h⟩
    · refine (if_pos (sle_t rfl rfl c3)).trans ?_
      exact hk _ _ rfl h
    · refine (if_neg (sle_f rfl rfl c3)).trans ?_
      obtain ⟨v2, e2, h⟩ := ob_i h
      refine ob_s (sr_d e2 (by decide) rfl rfl) ?_
      replace h := ob_v h
      refine ob_s (congrArg some (s_itelt rfl rfl rfl rfl)) ?_
      generalize (bif glt x1_4 v2 then v2 else x1_4) = v4 at h ⊢
      exact ih _ _ rfl _ _ (s_add rfl rfl) h
def g_X3_greatestDepth (Dp : Nat) : Option (Nat) :=
  g_X3_greatestDepth_4 Dp (fun x1z6 =>
    some x1z6) xFu 0 0
theorem s_X3_greatestDepth {Dp : Nat} {XDp : Nat → Int32} {r0 : Nat} (h : g_X3_greatestDepth Dp = some r0) (eDp : XDp = dA Dp) : f_X3_greatestDepth XDp = some (nI r0) := by
  subst eDp
  unfold g_X3_greatestDepth at h
  unfold f_X3_greatestDepth
  refine s_X3_greatestDepth_4 rfl (fun Xx1z6 x1z6 ex1z6 h => ?_) _ _ _ rfl _ _ rfl h
  subst ex1z6
  have w0 := Option.some.inj h
  subst w0
  exact congrArg some rfl
def g_X4_length (ln : Nat) : Option (Nat) :=
  some ln
theorem s_X4_length {ln : Nat} {Xln : Int32} {r0 : Nat} (h : g_X4_length ln = some r0) (eln : Xln = nI ln) : f_X4_length Xln = some (nI r0) := by
  subst eln
  unfold g_X4_length at h
  unfold f_X4_length
  have w0 := Option.some.inj h
  subst w0
  exact congrArg some rfl
def g_X4_append (Sg : Nat) (ln : Nat) (p1 : Nat) : Option (Nat × Nat × Nat) :=
  bif glt ln 80 then
    (gr_w Sg 80 ln (gch p1)).bind fun Sg3 =>
    some (1, Sg3, (ga ln 1))
  else
    some (0, Sg, ln)
theorem s_X4_append {Sg : Nat} {ln : Nat} {p1 : Nat} {XSg : Nat → Int32} {Xln : Int32} {Xp1 : Int32} {r0 : Nat} {r1 : Nat} {r2 : Nat} (h : g_X4_append Sg ln p1 = some (r0, r1, r2)) (eSg : XSg = dA Sg) (eln : Xln = nI ln) (ep1 : Xp1 = nI p1) : f_X4_append XSg Xln Xp1 = some (nI r0, dA r1, nI r2) := by
  subst eSg eln ep1
  unfold g_X4_append at h
  unfold f_X4_append
  rcases g_if h with ⟨c2, h⟩ | ⟨c2, h⟩
  · refine (if_pos (slt_t rfl rfl c2)).trans ?_
    obtain ⟨Sg3, e1, h⟩ := ob_i h
    refine ob_s (sr_w e1 (by decide) rfl rfl (s_char rfl)) ?_
    have w0 := Option.some.inj h
    obtain ⟨q0, w1⟩ := Prod.mk.inj w0
    obtain ⟨q1, w2⟩ := Prod.mk.inj w1
    subst q0
    subst q1
    subst w2
    exact congrArg some (tup3 rfl rfl (s_add rfl rfl))
  · refine (if_neg (slt_f rfl rfl c2)).trans ?_
    have w0 := Option.some.inj h
    obtain ⟨q0, w1⟩ := Prod.mk.inj w0
    obtain ⟨q1, w2⟩ := Prod.mk.inj w1
    subst q0
    subst q1
    subst w2
    exact congrArg some (tup3 rfl rfl rfl)
def g_X4_empty (ln : Nat) : Option (Nat) :=
  some 0
theorem s_X4_empty {ln : Nat} {Xln : Int32} {r0 : Nat} (h : g_X4_empty ln = some r0) (eln : Xln = nI ln) : f_X4_empty Xln = some (nI r0) := by
  subst eln
  unfold g_X4_empty at h
  unfold f_X4_empty
  have w0 := Option.some.inj h
  subst w0
  exact congrArg some rfl
def g_X4_signHere (Sg : Nat) (ln : Nat) (at_ : Nat) : Option (Nat) :=
  bif glt at_ 0 then
    some 4294967295
  else
    bif gle ln at_ then
      some 4294967295
    else
      bif gle 80 at_ then
        some 4294967295
      else
        (gr_d Sg 80 at_).bind fun v4 =>
        some v4
theorem s_X4_signHere {Sg : Nat} {ln : Nat} {at_ : Nat} {XSg : Nat → Int32} {Xln : Int32} {Xat_ : Int32} {r0 : Nat} (h : g_X4_signHere Sg ln at_ = some r0) (eSg : XSg = dA Sg) (eln : Xln = nI ln) (eat_ : Xat_ = nI at_) : f_X4_signHere XSg Xln Xat_ = some (nI r0) := by
  subst eSg eln eat_
  unfold g_X4_signHere at h
  unfold f_X4_signHere
  rcases g_if h with ⟨c4, h⟩ | ⟨c4, h⟩
  · refine (if_pos (slt_t rfl rfl c4)).trans ?_
    have w0 := Option.some.inj h
    subst w0
    exact congrArg some n_m1
  · refine (if_neg (slt_f rfl rfl c4)).trans ?_
    rcases g_if h with ⟨c3, h⟩ | ⟨c3, h⟩
    · refine (if_pos (sle_t rfl rfl c3)).trans ?_
      have w0 := Option.some.inj h
      subst w0
      exact congrArg some n_m1
    · refine (if_neg (sle_f rfl rfl c3)).trans ?_
      rcases g_if h with ⟨c2, h⟩ | ⟨c2, h⟩
      · refine (if_pos (sle_t rfl rfl c2)).trans ?_
        have w0 := Option.some.inj h
        subst w0
        exact congrArg some n_m1
      · refine (if_neg (sle_f rfl rfl c2)).trans ?_
        obtain ⟨v4, e1, h⟩ := ob_i h
        refine ob_s (sr_d e1 (by decide) rfl rfl) ?_
        have w0 := Option.some.inj h
        subst w0
        exact congrArg some rfl
def g_X4_digitHere (Sg : Nat) (ln : Nat) (at_ : Nat) : Option (Nat) :=
  (g_X4_signHere Sg ln at_).bind fun v1 =>
  bif glt v1 48 then
    some 4294967295
  else
    bif glt 57 v1 then
      some 4294967295
    else
      some (gs v1 48)
theorem s_X4_digitHere {Sg : Nat} {ln : Nat} {at_ : Nat} {XSg : Nat → Int32} {Xln : Int32} {Xat_ : Int32} {r0 : Nat} (h : g_X4_digitHere Sg ln at_ = some r0) (eSg : XSg = dA Sg) (eln : Xln = nI ln) (eat_ : Xat_ = nI at_) : f_X4_digitHere XSg Xln Xat_ = some (nI r0) := by
  subst eSg eln eat_
  unfold g_X4_digitHere at h
  unfold f_X4_digitHere
  obtain ⟨v1, e3, h⟩ := ob_i h
  refine ob_s (s_X4_signHere e3 rfl rfl rfl) ?_
  rcases g_if h with ⟨c2, h⟩ | ⟨c2, h⟩
  · refine (if_pos (slt_t rfl rfl c2)).trans ?_
    have w0 := Option.some.inj h
    subst w0
    exact congrArg some n_m1
  · refine (if_neg (slt_f rfl rfl c2)).trans ?_
    rcases g_if h with ⟨c1, h⟩ | ⟨c1, h⟩
    · refine (if_pos (slt_t rfl rfl c1)).trans ?_
      have w0 := Option.some.inj h
      subst w0
      exact congrArg some n_m1
    · refine (if_neg (slt_f rfl rfl c1)).trans ?_
      have w0 := Option.some.inj h
      subst w0
      exact congrArg some (s_sub rfl rfl)
def g_X4_readNumber (Sg : Nat) (ln : Nat) (at_ : Nat) (p1 : Nat) : Option (Nat × Nat) :=
  (g_X4_digitHere Sg ln at_).bind fun v1 =>
  bif geq v1 4294967295 then
    some (4294967295, at_)
  else
    bif gle v1 p1 then
      (g_X4_digitHere Sg ln (ga at_ 1)).bind fun v5 =>
      bif gle v1 0 then
        some (v1, (ga at_ 1))
      else
        bif geq v5 4294967295 then
          some (v1, (ga at_ 1))
        else
          bif glt p1 (ga (gm v1 10) v5) then
            some (v1, (ga at_ 1))
          else
            some ((ga (gm v1 10) v5), (ga (ga at_ 1) 1))
    else
      some (4294967295, at_)
theorem s_X4_readNumber {Sg : Nat} {ln : Nat} {at_ : Nat} {p1 : Nat} {XSg : Nat → Int32} {Xln : Int32} {Xat_ : Int32} {Xp1 : Int32} {r0 : Nat} {r1 : Nat} (h : g_X4_readNumber Sg ln at_ p1 = some (r0, r1)) (eSg : XSg = dA Sg) (eln : Xln = nI ln) (eat_ : Xat_ = nI at_) (ep1 : Xp1 = nI p1) : f_X4_readNumber XSg Xln Xat_ Xp1 = some (nI r0, nI r1) := by
  subst eSg eln eat_ ep1
  unfold g_X4_readNumber at h
  unfold f_X4_readNumber
  obtain ⟨v1, e7, h⟩ := ob_i h
  refine ob_s (s_X4_digitHere e7 rfl rfl rfl) ?_
  rcases g_if h with ⟨c6, h⟩ | ⟨c6, h⟩
  · refine (if_pos (seq_t rfl n_m1 c6)).trans ?_
    have w0 := Option.some.inj h
    obtain ⟨q0, w1⟩ := Prod.mk.inj w0
    subst q0
    subst w1
    exact congrArg some (tup2 n_m1 rfl)
  · refine (if_neg (seq_f rfl n_m1 c6)).trans ?_
    rcases g_if h with ⟨c5, h⟩ | ⟨c5, h⟩
    · refine (if_pos (sle_t rfl rfl c5)).trans ?_
      obtain ⟨v5, e4, h⟩ := ob_i h
      refine ob_s (s_X4_digitHere e4 rfl rfl (s_add rfl rfl)) ?_
      rcases g_if h with ⟨c3, h⟩ | ⟨c3, h⟩
      · refine (if_pos (sle_t rfl rfl c3)).trans ?_
        have w0 := Option.some.inj h
        obtain ⟨q0, w1⟩ := Prod.mk.inj w0
        subst q0
        subst w1
        exact congrArg some (tup2 rfl (s_add rfl rfl))
      · refine (if_neg (sle_f rfl rfl c3)).trans ?_
        rcases g_if h with ⟨c2, h⟩ | ⟨c2, h⟩
        · refine (if_pos (seq_t rfl n_m1 c2)).trans ?_
          have w0 := Option.some.inj h
          obtain ⟨q0, w1⟩ := Prod.mk.inj w0
          subst q0
          subst w1
          exact congrArg some (tup2 rfl (s_add rfl rfl))
        · refine (if_neg (seq_f rfl n_m1 c2)).trans ?_
          rcases g_if h with ⟨c1, h⟩ | ⟨c1, h⟩
          · refine (if_pos (slt_t rfl (s_add (s_mul rfl rfl) rfl) c1)).trans ?_
            have w0 := Option.some.inj h
            obtain ⟨q0, w1⟩ := Prod.mk.inj w0
            subst q0
            subst w1
            exact congrArg some (tup2 rfl (s_add rfl rfl))
          · refine (if_neg (slt_f rfl (s_add (s_mul rfl rfl) rfl) c1)).trans ?_
            have w0 := Option.some.inj h
            obtain ⟨q0, w1⟩ := Prod.mk.inj w0
            subst q0
            subst w1
            exact congrArg some (tup2 (s_add (s_mul rfl rfl) rfl) (s_add (s_add rfl rfl) rfl))
    · refine (if_neg (sle_f rfl rfl c5)).trans ?_
      have w0 := Option.some.inj h
      obtain ⟨q0, w1⟩ := Prod.mk.inj w0
      subst q0
      subst w1
      exact congrArg some (tup2 n_m1 rfl)
def g_X4_pass (Sg : Nat) (ln : Nat) (at_ : Nat) (p1 : Nat) : Option (Nat × Nat) :=
  (g_X4_signHere Sg ln at_).bind fun v1 =>
  bif geq v1 p1 then
    some (1, (ga at_ 1))
  else
    some (0, at_)
theorem s_X4_pass {Sg : Nat} {ln : Nat} {at_ : Nat} {p1 : Nat} {XSg : Nat → Int32} {Xln : Int32} {Xat_ : Int32} {Xp1 : Int32} {r0 : Nat} {r1 : Nat} (h : g_X4_pass Sg ln at_ p1 = some (r0, r1)) (eSg : XSg = dA Sg) (eln : Xln = nI ln) (eat_ : Xat_ = nI at_) (ep1 : Xp1 = nI p1) : f_X4_pass XSg Xln Xat_ Xp1 = some (nI r0, nI r1) := by
  subst eSg eln eat_ ep1
  unfold g_X4_pass at h
  unfold f_X4_pass
  obtain ⟨v1, e2, h⟩ := ob_i h
  refine ob_s (s_X4_signHere e2 rfl rfl rfl) ?_
  rcases g_if h with ⟨c1, h⟩ | ⟨c1, h⟩
  · refine (if_pos (seq_t rfl rfl c1)).trans ?_
    have w0 := Option.some.inj h
    obtain ⟨q0, w1⟩ := Prod.mk.inj w0
    subst q0
    subst w1
    exact congrArg some (tup2 rfl (s_add rfl rfl))
  · refine (if_neg (seq_f rfl rfl c1)).trans ?_
    have w0 := Option.some.inj h
    obtain ⟨q0, w1⟩ := Prod.mk.inj w0
    subst q0
    subst w1
    exact congrArg some (tup2 rfl rfl)
def g_X4_readTableSign (Sg : Nat) (ln : Nat) (at_ : Nat) : Option (Nat × Nat) :=
  (g_X4_signHere Sg ln at_).bind fun v1 =>
  bif glt v1 97 then
    (g_X4_digitHere Sg ln at_).bind fun v4 =>
    bif geq v4 4294967295 then
      some (v4, at_)
    else
      some (v4, (ga at_ 1))
  else
    bif glt 102 v1 then
      (g_X4_digitHere Sg ln at_).bind fun v8 =>
      bif geq v8 4294967295 then
        some (v8, at_)
      else
        some (v8, (ga at_ 1))
    else
      bif geq (ga (gs v1 97) 10) 4294967295 then
        some ((ga (gs v1 97) 10), at_)
      else
        some ((ga (gs v1 97) 10), (ga at_ 1))
theorem s_X4_readTableSign {Sg : Nat} {ln : Nat} {at_ : Nat} {XSg : Nat → Int32} {Xln : Int32} {Xat_ : Int32} {r0 : Nat} {r1 : Nat} (h : g_X4_readTableSign Sg ln at_ = some (r0, r1)) (eSg : XSg = dA Sg) (eln : Xln = nI ln) (eat_ : Xat_ = nI at_) : f_X4_readTableSign XSg Xln Xat_ = some (nI r0, nI r1) := by
  subst eSg eln eat_
  unfold g_X4_readTableSign at h
  unfold f_X4_readTableSign
  obtain ⟨v1, e8, h⟩ := ob_i h
  refine ob_s (s_X4_signHere e8 rfl rfl rfl) ?_
  rcases g_if h with ⟨c7, h⟩ | ⟨c7, h⟩
  · refine (if_pos (slt_t rfl rfl c7)).trans ?_
    obtain ⟨v4, e2, h⟩ := ob_i h
    refine ob_s (s_X4_digitHere e2 rfl rfl rfl) ?_
    rcases g_if h with ⟨c1, h⟩ | ⟨c1, h⟩
    · refine (if_pos (seq_t rfl n_m1 c1)).trans ?_
      have w0 := Option.some.inj h
      obtain ⟨q0, w1⟩ := Prod.mk.inj w0
      subst q0
      subst w1
      exact congrArg some (tup2 rfl rfl)
    · refine (if_neg (seq_f rfl n_m1 c1)).trans ?_
      have w0 := Option.some.inj h
      obtain ⟨q0, w1⟩ := Prod.mk.inj w0
      subst q0
      subst w1
      exact congrArg some (tup2 rfl (s_add rfl rfl))
  · refine (if_neg (slt_f rfl rfl c7)).trans ?_
    rcases g_if h with ⟨c6, h⟩ | ⟨c6, h⟩
    · refine (if_pos (slt_t rfl rfl c6)).trans ?_
      obtain ⟨v8, e4, h⟩ := ob_i h
      refine ob_s (s_X4_digitHere e4 rfl rfl rfl) ?_
      rcases g_if h with ⟨c3, h⟩ | ⟨c3, h⟩
      · refine (if_pos (seq_t rfl n_m1 c3)).trans ?_
        have w0 := Option.some.inj h
        obtain ⟨q0, w1⟩ := Prod.mk.inj w0
        subst q0
        subst w1
        exact congrArg some (tup2 rfl rfl)
      · refine (if_neg (seq_f rfl n_m1 c3)).trans ?_
        have w0 := Option.some.inj h
        obtain ⟨q0, w1⟩ := Prod.mk.inj w0
        subst q0
        subst w1
        exact congrArg some (tup2 rfl (s_add rfl rfl))
    · refine (if_neg (slt_f rfl rfl c6)).trans ?_
      rcases g_if h with ⟨c5, h⟩ | ⟨c5, h⟩
      · refine (if_pos (seq_t (s_add (s_sub rfl rfl) rfl) n_m1 c5)).trans ?_
        have w0 := Option.some.inj h
        obtain ⟨q0, w1⟩ := Prod.mk.inj w0
        subst q0
        subst w1
        exact congrArg some (tup2 (s_add (s_sub rfl rfl) rfl) rfl)
      · refine (if_neg (seq_f (s_add (s_sub rfl rfl) rfl) n_m1 c5)).trans ?_
        have w0 := Option.some.inj h
        obtain ⟨q0, w1⟩ := Prod.mk.inj w0
        subst q0
        subst w1
        exact congrArg some (tup2 (s_add (s_sub rfl rfl) rfl) (s_add rfl rfl))
def g_X4_readSource (Sg : Nat) (ln : Nat) (at_ : Nat) : Option (Nat × Nat) :=
  (g_X4_pass Sg ln at_ 99).bind fun (v1, at2) =>
  bif geq v1 0 then
    (g_X4_pass Sg ln at2 112).bind fun (v5, at6) =>
    bif geq v5 0 then
      (g_X4_pass Sg ln at6 48).bind fun (v9, at10) =>
      bif geq v9 0 then
        (g_X4_pass Sg ln at10 49).bind fun (v13, at14) =>
        bif geq v13 0 then
          some (4294967295, at14)
        else
          some (33, at14)
      else
        some (32, at10)
    else
      (g_X4_readNumber Sg ln at6 7).bind fun (v17, at18) =>
      bif geq v17 4294967295 then
        some (4294967295, at18)
      else
        some ((ga 24 v17), at18)
  else
    (g_X4_readNumber Sg ln at2 23).bind fun (v21, at22) =>
    some (v21, at22)
theorem s_X4_readSource {Sg : Nat} {ln : Nat} {at_ : Nat} {XSg : Nat → Int32} {Xln : Int32} {Xat_ : Int32} {r0 : Nat} {r1 : Nat} (h : g_X4_readSource Sg ln at_ = some (r0, r1)) (eSg : XSg = dA Sg) (eln : Xln = nI ln) (eat_ : Xat_ = nI at_) : f_X4_readSource XSg Xln Xat_ = some (nI r0, nI r1) := by
  subst eSg eln eat_
  unfold g_X4_readSource at h
  unfold f_X4_readSource
  obtain ⟨⟨v1, at2⟩, e11, h⟩ := ob_i h
  refine ob_s (s_X4_pass e11 rfl rfl rfl rfl) ?_
  rcases g_if h with ⟨c10, h⟩ | ⟨c10, h⟩
  · refine (if_pos (seq_t rfl rfl c10)).trans ?_
    obtain ⟨⟨v5, at6⟩, e8, h⟩ := ob_i h
    refine ob_s (s_X4_pass e8 rfl rfl rfl rfl) ?_
    rcases g_if h with ⟨c7, h⟩ | ⟨c7, h⟩
    · refine (if_pos (seq_t rfl rfl c7)).trans ?_
      obtain ⟨⟨v9, at10⟩, e4, h⟩ := ob_i h
      refine ob_s (s_X4_pass e4 rfl rfl rfl rfl) ?_
      rcases g_if h with ⟨c3, h⟩ | ⟨c3, h⟩
      · refine (if_pos (seq_t rfl rfl c3)).trans ?_
        obtain ⟨⟨v13, at14⟩, e2, h⟩ := ob_i h
        refine ob_s (s_X4_pass e2 rfl rfl rfl rfl) ?_
        rcases g_if h with ⟨c1, h⟩ | ⟨c1, h⟩
        · refine (if_pos (seq_t rfl rfl c1)).trans ?_
          have w0 := Option.some.inj h
          obtain ⟨q0, w1⟩ := Prod.mk.inj w0
          subst q0
          subst w1
          exact congrArg some (tup2 n_m1 rfl)
        · refine (if_neg (seq_f rfl rfl c1)).trans ?_
          have w0 := Option.some.inj h
          obtain ⟨q0, w1⟩ := Prod.mk.inj w0
          subst q0
          subst w1
          exact congrArg some (tup2 rfl rfl)
      · refine (if_neg (seq_f rfl rfl c3)).trans ?_
        have w0 := Option.some.inj h
        obtain ⟨q0, w1⟩ := Prod.mk.inj w0
        subst q0
        subst w1
        exact congrArg some (tup2 rfl rfl)
    · refine (if_neg (seq_f rfl rfl c7)).trans ?_
      obtain ⟨⟨v17, at18⟩, e6, h⟩ := ob_i h
      refine ob_s (s_X4_readNumber e6 rfl rfl rfl rfl) ?_
      rcases g_if h with ⟨c5, h⟩ | ⟨c5, h⟩
      · refine (if_pos (seq_t rfl n_m1 c5)).trans ?_
        have w0 := Option.some.inj h
        obtain ⟨q0, w1⟩ := Prod.mk.inj w0
        subst q0
        subst w1
        exact congrArg some (tup2 n_m1 rfl)
      · refine (if_neg (seq_f rfl n_m1 c5)).trans ?_
        have w0 := Option.some.inj h
        obtain ⟨q0, w1⟩ := Prod.mk.inj w0
        subst q0
        subst w1
        exact congrArg some (tup2 (s_add rfl rfl) rfl)
  · refine (if_neg (seq_f rfl rfl c10)).trans ?_
    obtain ⟨⟨v21, at22⟩, e9, h⟩ := ob_i h
    refine ob_s (s_X4_readNumber e9 rfl rfl rfl rfl) ?_
    have w0 := Option.some.inj h
    obtain ⟨q0, w1⟩ := Prod.mk.inj w0
    subst q0
    subst w1
    exact congrArg some (tup2 rfl rfl)
def g_X4_readCell_66 (Sg : Nat) (ln : Nat) (T_66 : Nat) (x2_66 : Nat) (k : Nat → Nat → Option (Nat × Nat × Nat × Nat)) : Nat → Nat → Nat → Nat → Option (Nat × Nat × Nat × Nat)
  | 0, _, _, _ => none
  | n + 1, x5_66, at__66, S_66 =>
    bif gle 3 x5_66 then
      k at__66 S_66
    else
      (g_X4_pass Sg ln at__66 47).bind fun (v20, at21) =>
      bif geq v20 0 then
        (g_X0_changeSource S_66 (ga (gm x2_66 3) x5_66) 32).bind fun S25 =>
        g_X4_readCell_66 Sg ln T_66 x2_66 k n (ga x5_66 1) at21 S25
      else
        (g_X4_readSource Sg ln at21).bind fun (v27, at28) =>
        bif geq v27 4294967295 then
          some (0, at28, T_66, S_66)
        else
          (g_X0_changeSource S_66 (ga (gm x2_66 3) x5_66) v27).bind fun S31 =>
          g_X4_readCell_66 Sg ln T_66 x2_66 k n (ga x5_66 1) at28 S31
theorem s_X4_readCell_66 {Sg : Nat} {ln : Nat} {T_66 : Nat} {x2_66 : Nat} {XSg : Nat → Int32} {Xln : Int32} {XT_66 : Nat → Int32} {Xx2_66 : Int32} {k : Nat → Nat → Option (Nat × Nat × Nat × Nat)} {Xk : Int32 → (Nat → Int32) → Option (Int32 × Int32 × (Nat → Int32) × (Nat → Int32))} {r0 : Nat} {r1 : Nat} {r2 : Nat} {r3 : Nat} (eSg : XSg = dA Sg) (eln : Xln = nI ln) (eT_66 : XT_66 = dA T_66) (ex2_66 : Xx2_66 = nI x2_66) (hk : ∀ (Xz0 : Int32) (z0 : Nat), Xz0 = nI z0 → ∀ (Xz1 : Nat → Int32) (z1 : Nat), Xz1 = dA z1 → k z0 z1 = some (r0, r1, r2, r3) → Xk Xz0 Xz1 = some (nI r0, nI r1, dA r2, dA r3)) : ∀ (n : Nat) (Xx5_66 : Int32) (x5_66 : Nat), Xx5_66 = nI x5_66 → ∀ (Xat__66 : Int32) (at__66 : Nat), Xat__66 = nI at__66 → ∀ (XS_66 : Nat → Int32) (S_66 : Nat), XS_66 = dA S_66 → g_X4_readCell_66 Sg ln T_66 x2_66 k n x5_66 at__66 S_66 = some (r0, r1, r2, r3) → f_X4_readCell_66 XSg Xln XT_66 Xx2_66 Xk n Xx5_66 Xat__66 XS_66 = some (nI r0, nI r1, dA r2, dA r3) := by
  subst eSg eln eT_66 ex2_66
  intro n
  induction n with
  | zero => intro Xx5_66 x5_66 ex5_66 Xat__66 at__66 eat__66 XS_66 S_66 eS_66 h; unfold g_X4_readCell_66 at h; cases h
  | succ n ih =>
    intro Xx5_66 x5_66 ex5_66 Xat__66 at__66 eat__66 XS_66 S_66 eS_66 h
    subst ex5_66 eat__66 eS_66
    unfold g_X4_readCell_66 at h
    unfold f_X4_readCell_66
    rcases g_if h with ⟨c7, h⟩ | ⟨c7, h⟩
    · refine (if_pos (sle_t rfl rfl c7)).trans ?_
      exact hk _ _ rfl _ _ rfl h
    · refine (if_neg (sle_f rfl rfl c7)).trans ?_
      obtain ⟨⟨v20, at21⟩, e6, h⟩ := ob_i h
      refine ob_s (s_X4_pass e6 rfl rfl rfl rfl) ?_
      rcases g_if h with ⟨c5, h⟩ | ⟨c5, h⟩
      · refine (if_pos (seq_t rfl rfl c5)).trans ?_
        obtain ⟨S25, e1, h⟩ := ob_i h
        refine ob_s (s_X0_changeSource e1 rfl (s_add (s_mul rfl rfl) rfl) rfl) ?_
        exact ih _ _ (s_add rfl rfl) _ _ rfl _ _ rfl h
      · refine (if_neg (seq_f rfl rfl c5)).trans ?_
        obtain ⟨⟨v27, at28⟩, e4, h⟩ := ob_i h
        refine ob_s (s_X4_readSource e4 rfl rfl rfl) ?_
        rcases g_if h with ⟨c3, h⟩ | ⟨c3, h⟩
        · refine (if_pos (seq_t rfl n_m1 c3)).trans ?_
          have w0 := Option.some.inj h
          obtain ⟨q0, w1⟩ := Prod.mk.inj w0
          obtain ⟨q1, w2⟩ := Prod.mk.inj w1
          obtain ⟨q2, w3⟩ := Prod.mk.inj w2
          subst q0
          subst q1
          subst q2
          subst w3
          exact congrArg some (tup4 rfl rfl rfl rfl)
        · refine (if_neg (seq_f rfl n_m1 c3)).trans ?_
          obtain ⟨S31, e2, h⟩ := ob_i h
          refine ob_s (s_X0_changeSource e2 rfl (s_add (s_mul rfl rfl) rfl) rfl) ?_
          exact ih _ _ (s_add rfl rfl) _ _ rfl _ _ rfl h
def g_X4_readCell (Sg : Nat) (ln : Nat) (at_ : Nat) (T : Nat) (S : Nat) : Option (Nat × Nat × Nat × Nat) :=
  (g_X4_readNumber Sg ln at_ 23).bind fun (v1, at2) =>
  bif geq v1 4294967295 then
    some (0, at2, T, S)
  else
    (g_X4_pass Sg ln at2 61).bind fun (v5, at6) =>
    bif geq v5 0 then
      some (0, at6, T, S)
    else
      (g_X4_readTableSign Sg ln at6).bind fun (v9, at10) =>
      bif geq v9 4294967295 then
        some (0, at10, T, S)
      else
        (g_X4_readTableSign Sg ln at10).bind fun (v13, at14) =>
        bif geq v13 4294967295 then
          some (0, at14, T, S)
        else
          (g_X0_changeTable T v1 (ga (gm v9 16) v13)).bind fun T17 =>
          g_X4_readCell_66 Sg ln T17 v1 (fun at_z33 Sz33 =>
            some (1, at_z33, T17, Sz33)) xFu 0 at14 S
theorem s_X4_readCell {Sg : Nat} {ln : Nat} {at_ : Nat} {T : Nat} {S : Nat} {XSg : Nat → Int32} {Xln : Int32} {Xat_ : Int32} {XT : Nat → Int32} {XS : Nat → Int32} {r0 : Nat} {r1 : Nat} {r2 : Nat} {r3 : Nat} (h : g_X4_readCell Sg ln at_ T S = some (r0, r1, r2, r3)) (eSg : XSg = dA Sg) (eln : Xln = nI ln) (eat_ : Xat_ = nI at_) (eT : XT = dA T) (eS : XS = dA S) : f_X4_readCell XSg Xln Xat_ XT XS = some (nI r0, nI r1, dA r2, dA r3) := by
  subst eSg eln eat_ eT eS
  unfold g_X4_readCell at h
  unfold f_X4_readCell
  obtain ⟨⟨v1, at2⟩, e9, h⟩ := ob_i h
  refine ob_s (s_X4_readNumber e9 rfl rfl rfl rfl) ?_
  rcases g_if h with ⟨c8, h⟩ | ⟨c8, h⟩
  · refine (if_pos (seq_t rfl n_m1 c8)).trans ?_
    have w0 := Option.some.inj h
    obtain ⟨q0, w1⟩ := Prod.mk.inj w0
    obtain ⟨q1, w2⟩ := Prod.mk.inj w1
    obtain ⟨q2, w3⟩ := Prod.mk.inj w2
    subst q0
    subst q1
    subst q2
    subst w3
    exact congrArg some (tup4 rfl rfl rfl rfl)
  · refine (if_neg (seq_f rfl n_m1 c8)).trans ?_
    obtain ⟨⟨v5, at6⟩, e7, h⟩ := ob_i h
    refine ob_s (s_X4_pass e7 rfl rfl rfl rfl) ?_
    rcases g_if h with ⟨c6, h⟩ | ⟨c6, h⟩
    · refine (if_pos (seq_t rfl rfl c6)).trans ?_
      have w0 := Option.some.inj h
      obtain ⟨q0, w1⟩ := Prod.mk.inj w0
      obtain ⟨q1, w2⟩ := Prod.mk.inj w1
      obtain ⟨q2, w3⟩ := Prod.mk.inj w2
      subst q0
      subst q1
      subst q2
      subst w3
      exact congrArg some (tup4 rfl rfl rfl rfl)
    · refine (if_neg (seq_f rfl rfl c6)).trans ?_
      obtain ⟨⟨v9, at10⟩, e5, h⟩ := ob_i h
      refine ob_s (s_X4_readTableSign e5 rfl rfl rfl) ?_
      rcases g_if h with ⟨c4, h⟩ | ⟨c4, h⟩
      · refine (if_pos (seq_t rfl n_m1 c4)).trans ?_
        have w0 := Option.some.inj h
        obtain ⟨q0, w1⟩ := Prod.mk.inj w0
        obtain ⟨q1, w2⟩ := Prod.mk.inj w1
        obtain ⟨q2, w3⟩ := Prod.mk.inj w2
        subst q0
        subst q1
        subst q2
        subst w3
        exact congrArg some (tup4 rfl rfl rfl rfl)
      · refine (if_neg (seq_f rfl n_m1 c4)).trans ?_
        obtain ⟨⟨v13, at14⟩, e3, h⟩ := ob_i h
        refine ob_s (s_X4_readTableSign e3 rfl rfl rfl) ?_
        rcases g_if h with ⟨c2, h⟩ | ⟨c2, h⟩
        · refine (if_pos (seq_t rfl n_m1 c2)).trans ?_
          have w0 := Option.some.inj h
          obtain ⟨q0, w1⟩ := Prod.mk.inj w0
          obtain ⟨q1, w2⟩ := Prod.mk.inj w1
          obtain ⟨q2, w3⟩ := Prod.mk.inj w2
          subst q0
          subst q1
          subst q2
          subst w3
          exact congrArg some (tup4 rfl rfl rfl rfl)
        · refine (if_neg (seq_f rfl n_m1 c2)).trans ?_
          obtain ⟨T17, e1, h⟩ := ob_i h
          refine ob_s (s_X0_changeTable e1 rfl rfl (s_add (s_mul rfl rfl) rfl)) ?_
          refine s_X4_readCell_66 rfl rfl rfl rfl (fun Xat_z33 at_z33 eat_z33 XSz33 Sz33 eSz33 h => ?_) _ _ _ rfl _ _ rfl _ _ rfl h
          subst eat_z33 eSz33
          have w0 := Option.some.inj h
          obtain ⟨q0, w1⟩ := Prod.mk.inj w0
          obtain ⟨q1, w2⟩ := Prod.mk.inj w1
          obtain ⟨q2, w3⟩ := Prod.mk.inj w2
          subst q0
          subst q1
          subst q2
          subst w3
          exact congrArg some (tup4 rfl rfl rfl rfl)
def g_X4_readInto_7 (Sg : Nat) (ln : Nat) (k : Nat → Nat → Nat → Option (Nat × Nat × Nat × Nat)) : Nat → Nat → Nat → Nat → Nat → Option (Nat × Nat × Nat × Nat)
  | 0, _, _, _, _ => none
  | n + 1, x2_7, at__7, T_7, S_7 =>
    bif gle 80 x2_7 then
      k at__7 T_7 S_7
    else
      (g_X4_readCell Sg ln at__7 T_7 S_7).bind fun (v2, at3, T4, S5) =>
      bif geq v2 0 then
        some (at3, at3, T4, S5)
      else
        bif geq at3 ln then
          some (4294967295, at3, T4, S5)
        else
          (g_X4_pass Sg ln at3 59).bind fun (v9, at10) =>
          bif geq v9 0 then
            some (at10, at10, T4, S5)
          else
            g_X4_readInto_7 Sg ln k n (ga x2_7 1) at10 T4 S5
theorem s_X4_readInto_7 {Sg : Nat} {ln : Nat} {XSg : Nat → Int32} {Xln : Int32} {k : Nat → Nat → Nat → Option (Nat × Nat × Nat × Nat)} {Xk : Int32 → (Nat → Int32) → (Nat → Int32) → Option (Int32 × Int32 × (Nat → Int32) × (Nat → Int32))} {r0 : Nat} {r1 : Nat} {r2 : Nat} {r3 : Nat} (eSg : XSg = dA Sg) (eln : Xln = nI ln) (hk : ∀ (Xz0 : Int32) (z0 : Nat), Xz0 = nI z0 → ∀ (Xz1 : Nat → Int32) (z1 : Nat), Xz1 = dA z1 → ∀ (Xz2 : Nat → Int32) (z2 : Nat), Xz2 = dA z2 → k z0 z1 z2 = some (r0, r1, r2, r3) → Xk Xz0 Xz1 Xz2 = some (nI r0, nI r1, dA r2, dA r3)) : ∀ (n : Nat) (Xx2_7 : Int32) (x2_7 : Nat), Xx2_7 = nI x2_7 → ∀ (Xat__7 : Int32) (at__7 : Nat), Xat__7 = nI at__7 → ∀ (XT_7 : Nat → Int32) (T_7 : Nat), XT_7 = dA T_7 → ∀ (XS_7 : Nat → Int32) (S_7 : Nat), XS_7 = dA S_7 → g_X4_readInto_7 Sg ln k n x2_7 at__7 T_7 S_7 = some (r0, r1, r2, r3) → f_X4_readInto_7 XSg Xln Xk n Xx2_7 Xat__7 XT_7 XS_7 = some (nI r0, nI r1, dA r2, dA r3) := by
  subst eSg eln
  intro n
  induction n with
  | zero => intro Xx2_7 x2_7 ex2_7 Xat__7 at__7 eat__7 XT_7 T_7 eT_7 XS_7 S_7 eS_7 h; unfold g_X4_readInto_7 at h; cases h
  | succ n ih =>
    intro Xx2_7 x2_7 ex2_7 Xat__7 at__7 eat__7 XT_7 T_7 eT_7 XS_7 S_7 eS_7 h
    subst ex2_7 eat__7 eT_7 eS_7
    unfold g_X4_readInto_7 at h
    unfold f_X4_readInto_7
    rcases g_if h with ⟨c6, h⟩ | ⟨c6, h⟩
    · refine (if_pos (sle_t rfl rfl c6)).trans ?_
      exact hk _ _ rfl _ _ rfl _ _ rfl h
    · refine (if_neg (sle_f rfl rfl c6)).trans ?_
      obtain ⟨⟨v2, at3, T4, S5⟩, e5, h⟩ := ob_i h
      refine ob_s (s_X4_readCell e5 rfl rfl rfl rfl rfl) ?_
      rcases g_if h with ⟨c4, h⟩ | ⟨c4, h⟩
      · refine (if_pos (seq_t rfl rfl c4)).trans ?_
        have w0 := Option.some.inj h
        obtain ⟨q0, w1⟩ := Prod.mk.inj w0
        obtain ⟨q1, w2⟩ := Prod.mk.inj w1
        obtain ⟨q2, w3⟩ := Prod.mk.inj w2
        subst q0
        subst q1
        subst q2
        subst w3
        exact congrArg some (tup4 rfl rfl rfl rfl)
      · refine (if_neg (seq_f rfl rfl c4)).trans ?_
        rcases g_if h with ⟨c3, h⟩ | ⟨c3, h⟩
        · refine (if_pos (seq_t rfl rfl c3)).trans ?_
          have w0 := Option.some.inj h
          obtain ⟨q0, w1⟩ := Prod.mk.inj w0
          obtain ⟨q1, w2⟩ := Prod.mk.inj w1
          obtain ⟨q2, w3⟩ := Prod.mk.inj w2
          subst q0
          subst q1
          subst q2
          subst w3
          exact congrArg some (tup4 n_m1 rfl rfl rfl)
        · refine (if_neg (seq_f rfl rfl c3)).trans ?_
          obtain ⟨⟨v9, at10⟩, e2, h⟩ := ob_i h
          refine ob_s (s_X4_pass e2 rfl rfl rfl rfl) ?_
          rcases g_if h with ⟨c1, h⟩ | ⟨c1, h⟩
          · refine (if_pos (seq_t rfl rfl c1)).trans ?_
            have w0 := Option.some.inj h
            obtain ⟨q0, w1⟩ := Prod.mk.inj w0
            obtain ⟨q1, w2⟩ := Prod.mk.inj w1
            obtain ⟨q2, w3⟩ := Prod.mk.inj w2
            subst q0
            subst q1
            subst q2
            subst w3
            exact congrArg some (tup4 rfl rfl rfl rfl)
          · refine (if_neg (seq_f rfl rfl c1)).trans ?_
            exact ih _ _ (s_add rfl rfl) _ _ rfl _ _ rfl _ _ rfl h
def g_X4_readInto (Sg : Nat) (ln : Nat) (at_ : Nat) (T : Nat) (S : Nat) : Option (Nat × Nat × Nat × Nat) :=
  g_X4_readInto_7 Sg ln (fun at_z13 Tz13 Sz13 =>
    some (at_z13, at_z13, Tz13, Sz13)) xFu 0 0 T S
theorem s_X4_readInto {Sg : Nat} {ln : Nat} {at_ : Nat} {T : Nat} {S : Nat} {XSg : Nat → Int32} {Xln : Int32} {Xat_ : Int32} {XT : Nat → Int32} {XS : Nat → Int32} {r0 : Nat} {r1 : Nat} {r2 : Nat} {r3 : Nat} (h : g_X4_readInto Sg ln at_ T S = some (r0, r1, r2, r3)) (eSg : XSg = dA Sg) (eln : Xln = nI ln) (eat_ : Xat_ = nI at_) (eT : XT = dA T) (eS : XS = dA S) : f_X4_readInto XSg Xln Xat_ XT XS = some (nI r0, nI r1, dA r2, dA r3) := by
  subst eSg eln eat_ eT eS
  unfold g_X4_readInto at h
  unfold f_X4_readInto
  refine s_X4_readInto_7 rfl rfl (fun Xat_z13 at_z13 eat_z13 XTz13 Tz13 eTz13 XSz13 Sz13 eSz13 h => ?_) _ _ _ rfl _ _ rfl _ _ rfl _ _ rfl h
  subst eat_z13 eTz13 eSz13
  have w0 := Option.some.inj h
  obtain ⟨q0, w1⟩ := Prod.mk.inj w0
  obtain ⟨q1, w2⟩ := Prod.mk.inj w1
  obtain ⟨q2, w3⟩ := Prod.mk.inj w2
  subst q0
  subst q1
  subst q2
  subst w3
  exact congrArg some (tup4 rfl rfl rfl rfl)
