/-! an object is made: it is the state of the start -/
def ce_q (q0 q : Nat × va_E) : Prop := q0 = q ∨ ∃ (a : Nat) (c : ClassId) (N : Nat) (f g : Nat → Int32), q0 = (a, .inl (c, N, .inl f)) ∧ q = (a, .inl (c, N, .inl g)) ∧ ∀ j, j < N → f j = g j
def we_q : va_W → va_W → Prop
  | [], [] => True
  | q0 :: w, q :: w' => ce_q q0 q ∧ we_q w w'
  | _, _ => False
theorem we_rf : ∀ w : va_W, we_q w w
  | [] => trivial
  | _ :: w => ⟨Or.inl rfl, we_rf w⟩
theorem we_app : ∀ {a a' b b' : va_W}, we_q a a' → we_q b b' → we_q (a ++ b) (a' ++ b')
  | [], [], b, b', _, h => h
  | _ :: _, _ :: _, b, b', h1, h2 => ⟨h1.1, we_app h1.2 h2⟩
  | [], _ :: _, _, _, h, _ => h.elim
  | _ :: _, [], _, _, h, _ => h.elim
theorem we_at : ∀ {w w' : va_W}, we_q w w' → ∀ (k : Nat) (q : Nat × va_E), w'[k]? = some q → ∃ q0, w[k]? = some q0 ∧ ce_q q0 q
  | [], [], _, k, q, h => by simp at h
  | q0 :: w, q1 :: w', h, 0, q, hq => by
    cases hq
    exact ⟨q0, rfl, h.1⟩
  | q0 :: w, q1 :: w', h, k + 1, q, hq => we_at h.2 k q hq
  | [], _ :: _, h, _, _, _ => h.elim
  | _ :: _, [], h, _, _, _ => h.elim
theorem ce_fst {q0 q : Nat × va_E} (h : ce_q q0 q) : q0.1 = q.1 := by
  rcases h with rfl | ⟨a, c, N, f, g, rfl, rfl, -⟩ <;> rfl
theorem we_G {X : xb_C} {k n : Nat} {w w' : va_W} {lv : List (Nat × Value)} {pc : Nat} {st : List Value} (h : we_q w w') (g : xb_G X k n w' lv pc st) : xb_G X k n w lv pc st := by
  obtain ⟨p, l, e, R, s, m, args, below, meth, c, A, Q, nL', D'⟩ := X
  intro H locs ls hP hD hS hl
  refine g H locs ls (fun k q hk => ?_) (xb_D_addr (fun k q hk => ?_) hD) hS hl
  · obtain ⟨q0, h0, h1⟩ := we_at h k q hk
    have h2 := hP k q0 h0
    rcases h1 with rfl | ⟨a, c, N, f, g, rfl, rfl, hj⟩
    · exact h2
    · show H[a]? = some (vp_cell c (N, .inl g))
      rw [← vp_cell_ext hj]
      exact h2
  · obtain ⟨q0, h0, h1⟩ := we_at h k q hk
    exact ⟨q0, h0, ce_fst h1⟩
theorem bS0_T : ∀ i, i < 24 → (dB gB0).1 i = -1 := by decide +kernel
theorem bS0_S : ∀ i, i < 72 → (dB gB0).2.1 i = 32 := by decide +kernel
theorem bS0_0 : bS0 (dB gB0) := ⟨bS0_T, bS0_S, dA_0, dA_0, dA_0, rfl, rfl⟩
theorem we_bd {cI : ClassId} {h a1 a2 a3 a4 a5 : Nat} {b : xBd} (hb : bS0 b) : we_q (wBd cI h a1 a2 a3 a4 a5 b.1 b.2.1 b.2.2.1 b.2.2.2.1 b.2.2.2.2.1 b.2.2.2.2.2.1 b.2.2.2.2.2.2) (wBd cI h a1 a2 a3 a4 a5 (dB gB0).1 (dB gB0).2.1 (dB gB0).2.2.1 (dB gB0).2.2.2.1 (dB gB0).2.2.2.2.1 (dB gB0).2.2.2.2.2.1 (dB gB0).2.2.2.2.2.2) := by
  obtain ⟨h1, h2, h3, h4, h5, h6, h7⟩ := hb
  obtain ⟨g1, g2, g3, g4, g5, g6, g7⟩ := bS0_0
  rw [h3, h4, h5, h6, h7, g3, g4, g5, g6, g7]
  exact ⟨Or.inl rfl, Or.inr ⟨_, _, _, _, _, rfl, rfl, fun j hj => by rw [h1 j hj, g1 j hj]⟩, Or.inr ⟨_, _, _, _, _, rfl, rfl, fun j hj => by rw [h2 j hj, g2 j hj]⟩, Or.inl rfl, Or.inl rfl, Or.inl rfl, trivial⟩
theorem dP_id : dP (0, 1, 2, 3) = id := by
  funext q
  match q with
  | 0 => rfl
  | 1 => rfl
  | 2 => rfl
  | 3 => rfl
  | q + 4 => simp [dP]
theorem z0_dA : dA 0 = z0 := dA_0
theorem we_hi {cI cR : ClassId} {h a : Nat} {ha : Nat → Nat → Nat} {hb : Nat → xBd} (hh : ∀ j, j < 4 → bS0 (hb j)) : we_q (wHi cI cR h a ha 0 id hb) (wHi cI cR h a ha 0 (dP (0, 1, 2, 3)) (dH (gB0, gB0, gB0, gB0))) := by
  rw [dP_id]
  exact ⟨Or.inl rfl, Or.inl rfl, we_app (we_app (we_app (we_bd (hh 0 (by decide))) (we_bd (hh 1 (by decide)))) (we_bd (hh 2 (by decide)))) (we_bd (hh 3 (by decide)))⟩
theorem we_W5 {cI cC cR : ClassId} {ad : Nat → Nat} {ha : Nat → Nat → Nat} {b t s : xBd} {hb : Nat → xBd} (h1 : bS0 b) (h2 : bS0 t) (h3 : bS0 s) (h4 : ∀ j, j < 4 → bS0 (hb j)) : we_q (W5 cI cC cR ad ha 0 b t s 0 id hb z0 z0 z0 z0 0 z0 0 0) (W5m cI cC cR ad ha (dM gM0) z0 z0 z0 0) := by
  show we_q (W5 cI cC cR ad ha 0 b t s 0 id hb z0 z0 z0 z0 0 z0 0 0) (W5 cI cC cR ad ha 0 (dB gB0) (dB gB0) (dB gB0) 0 (dP (0, 1, 2, 3)) (dH (gB0, gB0, gB0, gB0)) (dA 0) z0 z0 z0 0 (dA 0) 0 0)
  rw [z0_dA]
  exact we_app (we_app (we_app (we_app (we_app (we_app (we_app (we_rf _) (we_bd h1)) (we_bd h2)) (we_bd h3)) (we_hi h4)) (we_rf _)) (we_rf _)) (we_rf _)
/-- the other reading's row at the start -/
def nS0 (now : Nat → Int32) : Prop := ∀ j, j < 1898 → now j = if j < 24 then -5 else if j < 96 then 32 else if j < 1896 then 0 else if j = 1896 then 2 else 1
theorem RR_start {b s : xBd} {hb : Nat → xBd} {now : Nat → Int32} (h0 : bS0 b) (h1 : nS0 now) : RR b s 0 0 id hb z0 0 0 0 0 now z0 z0 z0 := by
  obtain ⟨a1, a2, a3, a4, a5, a6, a7⟩ := h0
  refine ⟨⟨fun _ => 0, fun _ => 32, fun _ => 0, fun _ _ => 0, fun _ => 0, 2, 1, fun p hp => a1 p hp, fun w hw => a2 w hw, fun w hw => by rw [a3]; rfl, fun w hw k hk => absurd hk (Nat.not_lt_zero k), fun x hx => by rw [a5]; rfl, a6, a7, ⟨fun p hp => ?_, fun w hw => ?_, fun w hw => ?_, fun w hw k hk => absurd hk (Nat.not_lt_zero k), ?_, ?_⟩, fun p hp => Nat.zero_le _, ⟨fun w hw => (by decide : 32 ≤ 33), fun w hw _ => rfl⟩, ⟨by omega, by omega, by omega⟩, ⟨fun w hw => Nat.zero_le _, fun w hw k hk => absurd hk (Nat.not_lt_zero k), fun w hw k hk => absurd hk (Nat.not_lt_zero _)⟩, fun w hw => ⟨fun _ => Nat.le_refl _, fun _ => rfl⟩, fun x hx => ?_⟩, ⟨fun j hj => hj, fun i j hi hj h => h, 0, by omega, rfl, rfl, fun j hj => absurd hj (Nat.not_lt_zero j)⟩, Or.inl ⟨rfl, rfl⟩, ⟨0, by omega, rfl, rfl⟩, fun k hk => rfl⟩
  · rw [h1 p (by omega), if_pos hp]; rfl
  · rw [h1 _ (by omega), if_neg (by omega), if_pos (by omega)]; rfl
  · rw [h1 _ (by omega), if_neg (by omega), if_neg (by omega), if_pos (by omega)]; rfl
  · rw [h1 _ (by omega)]; rfl
  · rw [h1 _ (by omega)]; rfl
  · exact (pz_su_zero (fun w hw => rfl)).symm
theorem GG_0 : GG (dM gM0) := by
  refine ⟨0, 0, 0, fun j => if j < 24 then -5 else if j < 96 then 32 else if j < 1896 then 0 else if j = 1896 then 2 else 1, z0, z0, z0, ?_⟩
  have h := RR_start (b := dB gB0) (s := dB gB0) (hb := dH (gB0, gB0, gB0, gB0)) bS0_0 (now := fun j => if j < 24 then -5 else if j < 96 then 32 else if j < 1896 then 0 else if j = 1896 then 2 else 1) (fun j _ => rfl)
  rw [← dP_id] at h
  have h2 : z0 = dA 0 := dA_0.symm
  show RR (dB gB0) (dB gB0) 0 0 (dP (0, 1, 2, 3)) (dH (gB0, gB0, gB0, gB0)) (dA 0) 0 0 0 0 _ z0 z0 z0
  rw [z0_dA]
  exact h
/-- new LookupBoard() -/
theorem on_new {X : xb_C} {k n : Nat} {lv : List (Nat × Value)} {pc : Nat} {st : List Value} {cc : ByteArray} {ws : List Cond} {rm : Room} {ret : Option FieldType} {nL : Nat} {tys : List (ClassId × FieldType)} {D : va_G} {cI cC cZ cR : ClassId} (C : xb_LW X cc ws rm ret nL tys D cI cC cZ cR) (hO : xb_EE X (va_AO RX0)) (hk : k + 53 ≤ rm.cells ∧ n + 13855 ≤ rm.slots) (hd0 : decode cc pc = .ok (.new 14, 3)) (hd1 : decode cc (pc + 3) = .ok (.dup, 1)) (hd2 : decode cc (pc + 4) = .ok (.invokespecial 73, 3)) (hcat : (st.map fun v => v.category).sum ≤ 7) (g : ∀ (ad : Nat → Nat) (ha : Nat → Nat → Nat), oG X (k + 53) (n + 13855) cI cC cR ad ha (dM gM0) [] lv (pc + 7) (.ref (ad 0) :: st)) : xb_G X k n [] lv pc st := by
  obtain ⟨C, hsub, hts, hf, hlo⟩ := C
  have I : ∀ s : State, (match X with | (_, _, _, _, s', _, _, _, _, _, _, _, _, _) => s' = s) → va_AO RX0 s := by
    obtain ⟨p, l, e, R, s, m, args, below, meth, c, A, Q, nL', D'⟩ := X
    exact fun s' h => by cases h; exact hO
  have hin5 : ∀ w ∈ u_ws RX5 TX5 8, w ∈ ws := fun w h => hsub w (inlX5 w h)
  refine xi_new (fs := [.null, .null, .null, .null, .null, .null, .null, .int 0]) (ci := 5) (Cn := RX5) (T := TX5) (N := 8) C hd0 hin5 tyX5 tyX5_ok (hsub _ wn_link) (hsub _ wn_inst) (hsub _ wn_init) rfl (fun j hj => match j, hj with | 0, _ => rfl | 1, _ => rfl | 2, _ => rfl | 3, _ => rfl | 4, _ => rfl | 5, _ => rfl | 6, _ => rfl | 7, _ => rfl | j + 8, h => absurd h (by omega)) (by omega) (by omega) (fun q5 => ?_)
  refine xi_dup C hd1 rfl ?_
  refine xi_callI (e0 := .inr (5, [.null, .null, .null, .null, .null, .null, .null, .int 0])) (w0 := []) (rest := .ref q5 :: st) (P := pLB cI cC cR q5) C I (m_X5_init D cI cC cZ cR q5) (by decide) rfl (show wsX5_init = Cond.code yX5_init cX5_init 1 none :: _ from rfl) ⟨by decide, by decide, by decide +kernel⟩ rfl rfl (gMono hsub gg_X5_init) (hsub _ wn_init) (hsub _ wn_ml) (hsub _ wn_im) hd2 ⟨by show 3 + 1 ≤ _; omega, by show 8 + (1 + 11) + 64 ≤ _; omega, Nat.le_of_ble_eq_true rfl⟩ [0, 1, 2, 3] hts rfl (by show 1 + (st.map fun v => v.category).sum ≤ 8; omega) ⟨by show k + 1 + 52 ≤ _; omega, by show n + 8 + 13847 ≤ _; omega⟩ (fun w5 hw5 => ?_)
  obtain ⟨ad, ha, b, t, s, hb, h0, rfl, b1, b2, b3, b4⟩ := pLB_W5 hw5
  subst h0
  refine we_G (w' := W5m cI cC cR ad ha (dM gM0) z0 z0 z0 0 ++ []) (by rw [List.append_nil, List.nil_append]; exact we_W5 b1 b2 b3 b4) ?_
  have e1 : k + 1 + 52 = k + 53 := by omega
  have e2 : n + 8 + 13847 = n + 13855 := by omega
  rw [e1, e2]
  exact g ad ha z0 z0 z0 0
