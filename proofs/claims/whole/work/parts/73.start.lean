/-! the law from its entry -/
set_option maxHeartbeats 4000000 in
set_option maxRecDepth 100000 in
theorem law_E {s : State} {b : Nat} (hts : ∀ w ∈ lw_tbl, w.before #[Value.ref b] s = true) (hgv : (Jvm.Cond.and given_1 narrow_1).before #[Value.ref b] s = true) : xb_E (fun q : Nat => s.heap.size ≤ q) s := by
  have hs := flat_of_before _ hgv
  have hA : ∀ a : Nat, a < s.heap.size → ¬ (fun q : Nat => s.heap.size ≤ q) a := fun a h => Nat.not_le.mpr h
  have hel : ∀ j : Nat, j < 4 → (Term.elem (.static "LookupBoard" "STEPS" "[I") (.int (Int32.ofNat j))).eval #[Value.ref b] s none [] s = some (xb_st j) := by
    intro j hj
    rcases (show j = 0 ∨ j = 1 ∨ j = 2 ∨ j = 3 by omega) with rfl | rfl | rfl | rfl
    · exact va_eqt (z := -6) (hs _ (by decide +kernel))
    · exact va_eqt (z := -1) (hs _ (by decide +kernel))
    · exact va_eqt (z := 1) (hs _ (by decide +kernel))
    · exact va_eqt (z := 6) (hs _ (by decide +kernel))
  obtain ⟨t, ht, hT⟩ := va_Tof (args := #[Value.ref b]) (s := s) (tm := .static "LookupBoard" "STEPS" "[I") (ty := .int) (N := 4) (f := xb_st) (A := fun q : Nat => s.heap.size ≤ q) (by omega) (hs _ (by decide +kernel)) (va_eqt (hs _ (by decide +kernel))) hel hA
  have hn : ∀ q ∈ xb_nl, Cond.methodLinkNest q.1 q.2.1 q.2.2 "LookupBoard" ∈ lw_tbl := by decide +kernel
  exact ⟨fun q hq => va_Nw.of rfl (hts _ (hn q hq)), va_Nw.of rfl (hts _ (by decide +kernel)), t, va_Zref (hts _ (by decide +kernel)) (hts _ (by decide +kernel)) ht hA, hT⟩
set_option maxHeartbeats 4000000 in
set_option maxRecDepth 100000 in
theorem law_K {s : State} {b : Nat} (hts : ∀ w ∈ lw_tbl, w.before #[Value.ref b] s = true) (htL : ∀ w ∈ wsL_law, w.before #[Value.ref b] s = true) : ∃ (D : va_G) (cI cC cZ cR : ClassId), va_K D vwCl (xb_ty cI cC cZ cR) s ∧ va_AO RX0 s := by
  obtain ⟨c0, i0, k0⟩ := u_known (C := RX0) (T := TX0) (N := 7) (n := 7) htL inlX0 (hts (.instantiable RX0 7) (by decide +kernel))
  obtain ⟨c1, i1, k1⟩ := u_known (C := RX1) (T := TX1) (N := 2) (n := 2) htL inlX1 (hts (.instantiable RX1 2) (by decide +kernel))
  obtain ⟨c2, i2, k2⟩ := u_known (C := RX2) (T := TX2) (N := 1) (n := 1) htL inlX2 (hts (.instantiable RX2 1) (by decide +kernel))
  obtain ⟨c3, i3, k3⟩ := u_known (C := RX3) (T := TX3) (N := 4) (n := 4) htL inlX3 (hts (.instantiable RX3 4) (by decide +kernel))
  obtain ⟨c4, i4, k4⟩ := u_known (C := RX4) (T := TX4) (N := 3) (n := 3) htL inlX4 (hts (.instantiable RX4 3) (by decide +kernel))
  obtain ⟨c5, i5, k5⟩ := u_known (C := RX5) (T := TX5) (N := 8) (n := 8) htL inlX5 (hts (.instantiable RX5 8) (by decide +kernel))
  obtain ⟨c6, i6, k6⟩ := u_known (C := RX6) (T := TX6) (N := 16) (n := 16) htL inlX6 (hts (.instantiable RX6 16) (by decide +kernel))
  obtain ⟨dC, dI, hKc⟩ : ∃ (dC : Nat → ClassId) (dI : Nat → Nat → Nat), ∀ (k : Nat) (q : vw_C), vwCl[k]? = some q → u_Kn s q.1 q.2.1 q.2.2 (dC k) (dI k) := by
    refine ⟨fun k => match k with | 0 => c0 | 1 => c1 | 2 => c2 | 3 => c3 | 4 => c4 | 5 => c5 | _ => c6, fun k => match k with | 0 => i0 | 1 => i1 | 2 => i2 | 3 => i3 | 4 => i4 | 5 => i5 | _ => i6, ?_⟩
    intro k q hq
    match k, hq with
    | 0, hq => cases hq; exact k0
    | 1, hq => cases hq; exact k1
    | 2, hq => cases hq; exact k2
    | 3, hq => cases hq; exact k3
    | 4, hq => cases hq; exact k4
    | 5, hq => cases hq; exact k5
    | 6, hq => cases hq; exact k6
    | k + 7, hq => simp [vwCl] at hq
  have hO : (Cond.arrayOver (.object "LookupBoard$Board")).before #[Value.ref b] s = true := hts _ (by decide +kernel)
  obtain ⟨cI, kI, mI, a1, a2, a3⟩ := Cond.arrayClass_spec (hts (.arrayClass .int) (by decide +kernel))
  obtain ⟨cC, kC, mC, b1, b2, b3⟩ := Cond.arrayClass_spec (hts (.arrayClass .char) (by decide +kernel))
  obtain ⟨cZ, kZ, mZ, d1, d2, d3⟩ := Cond.arrayClass_spec (hts (.arrayClass .boolean) (by decide +kernel))
  obtain ⟨comp, cR, kR, e1, e2, e3, e4, e5⟩ := Cond.arrayOver_spec hO
  refine ⟨(dC, dI), cI, cC, cZ, cR, ⟨hKc, fun k q hq => ?_⟩, va_AO.of hO⟩
  match k, hq with
  | 0, hq => cases hq; exact ⟨fun N z => ⟨(fun k h => by cases h), kI, a2, mI, a3⟩, a1⟩
  | 1, hq => cases hq; exact ⟨fun N z => ⟨(fun k h => by cases h), kC, b2, mC, b3⟩, b1⟩
  | 2, hq => cases hq; exact ⟨fun N z => ⟨(fun k h => by cases h), kZ, d2, mZ, d3⟩, d1⟩
  | 3, hq => cases hq; exact ⟨fun N z => ⟨(fun k h => by cases h), kR, e3, comp, e4⟩, kR, comp, e3, e4, e1, e5⟩
  | k + 4, hq => simp at hq
set_option maxHeartbeats 4000000 in
set_option maxRecDepth 100000 in
theorem law_walk {X : xb_C} {D : va_G} {cI cC cZ cR : ClassId} {sc L : Nat} {xs : Nat → Int32} (C : xb_OK X cL_law wsL_law RL room_1 ret 4 (xb_ty cI cC cZ cR) D) (hX : xb_X X sc L xs) (Z : xb_Law X sc) (hL : L ≤ 2048) (hI : ∀ s : State, (match X with | (_, _, _, _, s', _, _, _, _, _, _, _, _, _) => s' = s) → va_AO RX0 s) : xb_G X 0 0 [] [(0, .ref sc)] 0 [] := by
  refine xi_new (fs := [.null, .null, .null, .null, .null, .null, .null, .int 0]) (ci := 5) (Cn := RX5) (T := TX5) (N := 8) C dL_law_0 inlX5 tyX5 tyX5_ok (by decide +kernel) (by decide +kernel) (by decide +kernel) rfl (fun j hj => match j, hj with | 0, _ => rfl | 1, _ => rfl | 2, _ => rfl | 3, _ => rfl | 4, _ => rfl | 5, _ => rfl | 6, _ => rfl | 7, _ => rfl | j + 8, h => absurd h (by omega)) (Nat.le_of_ble_eq_true rfl) (Nat.le_of_ble_eq_true rfl) (fun q5 => ?_)
  refine xi_dup C dL_law_3 rfl ?_
  refine xi_callI (e0 := .inr (5, [.null, .null, .null, .null, .null, .null, .null, .int 0])) (w0 := []) (rest := [.ref q5]) (P := pLB cI cC cR q5) C hI (m_X5_init D cI cC cZ cR q5) (by decide) rfl (show wsX5_init = Cond.code yX5_init cX5_init 1 none :: _ from rfl) ⟨by decide, by decide, by decide +kernel⟩ rfl rfl gL_law_X5_init (by decide +kernel) (by decide +kernel) (by decide +kernel) dL_law_4 ⟨Nat.le_of_ble_eq_true rfl, Nat.le_of_ble_eq_true rfl, Nat.le_of_ble_eq_true rfl⟩ [0, 1, 2, 3] rfl rfl (Nat.le_of_ble_eq_true rfl) ⟨Nat.le_of_ble_eq_true rfl, Nat.le_of_ble_eq_true rfl⟩ (fun w5 hw5 => ?_)
  obtain ⟨ad, ha, b0, t0, s0, hb0, rfl, rfl, hS5⟩ := pLB_W5 hw5
  refine xi_astore_n (lv2 := [(1, .ref (ad 0)), (0, .ref sc)]) C dL_law_7 rfl (by decide) [0] [0, 1] rfl ?_
  refine xi_new (fs := [.null, .null, .null, .int 0, .null, .int 0, .null, .int 0, .null, .null, .null, .int 0, .null, .int 0, .null, .null]) (ci := 6) (Cn := RX6) (T := TX6) (N := 16) C dL_law_8 inlX6 tyX6 tyX6_ok (by decide +kernel) (by decide +kernel) (by decide +kernel) rfl (fun j hj => match j, hj with | 0, _ => rfl | 1, _ => rfl | 2, _ => rfl | 3, _ => rfl | 4, _ => rfl | 5, _ => rfl | 6, _ => rfl | 7, _ => rfl | 8, _ => rfl | 9, _ => rfl | 10, _ => rfl | 11, _ => rfl | 12, _ => rfl | 13, _ => rfl | 14, _ => rfl | 15, _ => rfl | j + 16, h => absurd h (by omega)) (Nat.le_of_ble_eq_true rfl) (Nat.le_of_ble_eq_true rfl) (fun q6 => ?_)
  refine xi_dup C dL_law_11 rfl ?_
  refine xi_callI (e0 := .inr (6, [.null, .null, .null, .int 0, .null, .int 0, .null, .int 0, .null, .null, .null, .int 0, .null, .int 0, .null, .null])) (w0 := [] ++ W5 cI cC cR ad ha 0 b0 t0 s0 0 id hb0 z0 z0 z0 z0 0 z0 0 0) (rest := [.ref q6]) (P := pMo cI cC cZ q6) C hI (m_X6_init D cI cC cZ cR q6) (by decide) rfl (show wsX6_init = Cond.code yX6_init cX6_init 2 none :: _ from rfl) ⟨by decide, by decide, by decide +kernel⟩ rfl rfl gL_law_X6_init (by decide +kernel) (by decide +kernel) (by decide +kernel) dL_law_12 ⟨Nat.le_of_ble_eq_true rfl, Nat.le_of_ble_eq_true rfl, Nat.le_of_ble_eq_true rfl⟩ [0, 1, 2, 3] rfl rfl (Nat.le_of_ble_eq_true rfl) ⟨Nat.le_of_ble_eq_true rfl, Nat.le_of_ble_eq_true rfl⟩ (fun w6 hw6 => ?_)
  obtain ⟨ma, now, rfl, hN⟩ := pMo_W6 hw6
  refine xi_astore_n (lv2 := [(2, .ref q6), (1, .ref (ad 0)), (0, .ref sc)]) C dL_law_15 rfl (by decide) [0, 1] [0, 1, 2] rfl ?_
  refine xi_iconst (v := nI 0) C dL_law_16 (by decide +kernel) ?_
  refine xi_istore_n (lv2 := [(0, .ref sc), (1, .ref (ad 0)), (2, .ref q6), (3, .int (nI 0))]) C dL_law_17 rfl (by decide) [0, 1, 2] [3, 2, 1, 0] rfl ?_
  exact law_loop C hX Z hL (L + 1) 0 (by omega) (by omega) 0 b0 t0 s0 0 id hb0 z0 z0 z0 z0 0 z0 0 0 0 0 0 0 0 now z0 z0 z0 z0 z0 z0 z0 z0 z0 z0 (RR_start hS5 hN)
set_option maxHeartbeats 4000000 in
set_option maxRecDepth 100000 in
theorem whole_start {p : Program} {e : Env} {s : State} {m : MethodId} {below : List Frame} {meth : Method} {c : Code} (l : Launch) (hflags : l.flags = flags0) {b L : Nat} {xs : Nat → Int32} (hL : L ≤ 2048) (C0 : lw_At p s m meth c b L xs) : W p l e room_1 s m #[Value.ref b] below meth c s.heap [] 0 0 (lw_Z below #[Value.ref b] s) (entryFrame m ([Value.ref b] : List Value).toArray 4) := by
  obtain ⟨hx, hb, hr, hml, hown, hts, hX, hbl, hlocks, hgv⟩ := id C0
  have htL : ∀ w ∈ wsL_law, w.before #[Value.ref b] s = true := fun w h => hts w (wsL_law_in w h)
  obtain ⟨D, cI, cC, cZ, cR, hK, hO⟩ := law_K hts htL
  have hE := law_E hts hgv
  rw [lg_entry_eq]
  refine law_walk (X := (p, l, e, room_1, s, m, #[Value.ref b], below, meth, c, (fun q : Nat => s.heap.size ≤ q), lw_Z below #[Value.ref b] s, 4, D)) (cI := cI) (cC := cC) (cZ := cZ) (cR := cR) ⟨hx, hb, hr, hml, hown, htL, hlocks, hK, hE, fun _ h => h, rfl, rfl, rfl⟩ ⟨hX, hbl, Nat.not_le.mpr hbl⟩ ⟨rfl, rfl, rfl, rfl⟩ hL (fun s' h => by cases h; exact hO) s.heap [] _ (fun k q h => by simp at h) ⟨fun i j p q h => by simp at h, fun k q h => by simp at h⟩ va_S.rf (lv_entry [.ref b] (n := 4) (Nat.le_of_ble_eq_true rfl))
