/-! law(): from its end to its beginning -/
theorem lw_gt0 {h : Nat} (hh : h + 1 < 2 ^ 31) : ¬ nI (h + 1) ≤ 0 := fun z => by
  have := Int32.le_iff_toInt_le.mp z
  rw [nI_toInt hh] at this
  have h0 : (0 : Int32).toInt = 0 := rfl
  omega
theorem lw_le {a b : Nat} (h : a ≤ b) (hb : b < 2 ^ 31) : ¬ nI b < nI a := fun z => by
  have := Int32.lt_iff_toInt_lt.mp z
  rw [nI_toInt hb, nI_toInt (by omega)] at this
  omega
theorem dE_b {sc L : Nat} {xs : Nat → Int32} : ∀ (U : State) (g : JFrame) (mk : MethodId) (a : Array Value), dE sc L xs U → dE sc L xs (U.calling g mk a) := fun U g mk a h => ⟨va_AO.moved (u := U) (U := U.calling g mk a) (Vm.Alike.refl U.vm) h.1, va_X.moved (u := U) (U := U.calling g mk a) (Vm.Alike.refl U.vm) h.2.1, h.2.2⟩
theorem dE_c {X : xb_C} {sc L : Nat} {xs : Nat → Int32} (hX : xb_X X sc L xs) (hI : xb_EE X (va_AO RX0)) : match X with | (_, _, _, _, s, _, _, _, _, _, A, _, _, _) => ∀ (H : Heap) (locs : List Loc) (U : State), va_S A s.heap H locs → U.heap = H → s.WarmedH U.vm → dE sc L xs U := by
  obtain ⟨p, l, e, R, s, m, args, below, meth, c, A, Q, nL', D'⟩ := X
  intro H locs U hS hU hW
  have hX : va_X sc L xs s s.heap ∧ sc < s.heap.size ∧ ¬ A sc := hX
  refine ⟨va_AO.moved hW.alike hI, ?_, ?_⟩
  · rw [hU]
    exact (hX.1.kept (hS.2.1 sc hX.2.1 hX.2.2)).moved hW.alike
  · rw [hU]
    exact Nat.lt_of_lt_of_le hX.2.1 hS.1
theorem rem_0 {hn' : Int32} {pm pm' : Nat → Nat} {hb hb' : Nat → xBd} {b : xBd} {L : List xBd} (H : Hs (nI 0) pm hb L 0) (e : f_X1_remember (nI 0) pm hb b = some (hn', pm', hb')) : hn' = nI 1 := by
  unfold f_X1_remember at e
  have e := it_i (show nI 0 < 4 by decide) e
  unfold f_X1_rest at e
  rw [nI_toInt (by omega), nI_clamp (by omega), if_pos ⟨by omega, by omega, H.2.2.1 0 (by omega)⟩, copy_eq] at e
  exact (Prod.mk.inj (Option.some.inj (ob_v e))).1.symm
set_option maxHeartbeats 4000000 in
set_option maxRecDepth 100000 in
theorem law_end {X : xb_C} {D : va_G} {cI cC cZ cR cL : ClassId} {ad : Nat → Nat} {ha : Nat → Nat → Nat} {sc L q : Nat} {xs : Nat → Int32} {B0 : xBd} (C : xb_LW X cL_law wsL_law room_1 ret 12 (xb_ty cI cC cZ cR ++ [(cL, .long)]) D cI cC cZ cR) (hI : xb_EE X (va_AO RX0)) (hX : xb_X X sc L xs) (Z : xb_Law X sc) (hL : L ≤ 260) (hc0 : f_X0_cells B0.1 = some (nI 1)) (hv0 : wV B0) {m : xMu} {f : Nat → Int64} {Ls : List xBd} (J : GG m) (h1 : m.2.2.1 = B0) (h2 : m.2.2.2.1 = 1) (H : Hs m.2.2.2.2.1 m.2.2.2.2.2.1 m.2.2.2.2.2.2.1 Ls 0) : oG X 1220 318729 cI cC cR ad ha m (wLg cL q f) [(1, .ref (ad 0)), (4, .long (sv B0))] 552 [] := by
  intro Dp Bt Sq se
  refine xi_aload_n C.1 dL_law_552 rfl 0 rfl ?_
  obtain ⟨v, m1, e1⟩ := tt_10 J 0 0 0
  have J1 := gg_q (by decide) J e1
  rcases Hs_undo H e1 with ⟨-, hv, a⟩ | ⟨g, b, L2, hg, -⟩
  rotate_left
  · exact absurd hg (by omega)
  obtain ⟨a1, a2, a3, a4, a5, a6⟩ := a
  rw [hv] at e1
  refine ow_10 (a1 := 0) (a2 := 0) (a3 := 0) C J e1 dL_law_553 (Nat.le_of_ble_eq_true rfl) ⟨Nat.le_of_ble_eq_true rfl, Nat.le_of_ble_eq_true rfl⟩ ?_ Dp Bt Sq se
  intro Dp Bt Sq se
  refine xi_bipush (v := nI 4294967291) C.1 dL_law_556 (by decide +kernel) ?_
  refine xi_icmp_ne (tgt := 593) C.1 dL_law_558 (by decide) (fun c => absurd c (by decide +kernel)) (fun _ => ?_)
  refine xi_aload_n C.1 dL_law_561 rfl 0 rfl ?_
  obtain ⟨v2, m2, e2⟩ := tt_12 J1 0 0 0
  have J2 := gg_q (by decide) J1 e2
  obtain ⟨-, r1, r2, r3⟩ := ax_12 J1 (show qf_12 0 0 0 m1 = some (v2, m2) from e2) (by rw [a3, h2]; decide)
  rw [a2, h1] at r2 r3
  rw [hc0] at r3
  rw [← Option.some.inj r3] at e2
  have hn2 : m2.2.2.2.2.1 = nI 1 := by
    have r4 := r1.1
    rw [a4, a5, a6, H.1] at r4
    exact rem_0 (by have := H; rw [H.1] at this; exact this) r4
  refine ow_12 (a1 := 0) (a2 := 0) (a3 := 0) C J1 e2 dL_law_562 (Nat.le_of_ble_eq_true rfl) ⟨Nat.le_of_ble_eq_true rfl, Nat.le_of_ble_eq_true rfl⟩ ?_ Dp Bt Sq se
  intro Dp Bt Sq se
  refine xi_iconst (v := nI 1) C.1 dL_law_565 (by decide +kernel) ?_
  refine xi_icmp_ne (tgt := 593) C.1 dL_law_566 (by decide) (fun c => absurd c (by decide +kernel)) (fun _ => ?_)
  refine xi_aload_n C.1 dL_law_569 rfl 0 rfl ?_
  refine oc_P (As := []) (rest := []) C kL_seen (fun Dp Bt Sq se => m_seen D cI cC cZ cR ad ha J2 Dp Bt Sq se) gB_seen dL_law_570 ⟨by decide, by decide, Nat.le_of_ble_eq_true rfl⟩ rfl (Nat.le_of_ble_eq_true rfl) ⟨Nat.le_of_ble_eq_true rfl, Nat.le_of_ble_eq_true rfl⟩ ?_ Dp Bt Sq se
  intro Dp Bt Sq se
  refine xb_topl (b := sv B0) (by rw [r2]) ?_
  refine xi_lload C.1 dL_law_573 1 rfl ?_
  refine xi_lcmp C.1 dL_law_575 ?_
  refine xb_top (b := 0) (lg_cmp_self _) ?_
  refine xi_if_ne (tgt := 593) C.1 dL_law_576 (by decide) (fun c => absurd c (by decide +kernel)) (fun _ => ?_)
  refine xi_aload_n C.1 dL_law_579 rfl 0 rfl ?_
  refine xi_bipush (v := nI 9) C.1 dL_law_580 (by decide +kernel) ?_
  refine ow_21 (a1 := 9) (a2 := 0) (a3 := 0) C J2 (tq_c9 m2) dL_law_582 (Nat.le_of_ble_eq_true rfl) ⟨Nat.le_of_ble_eq_true rfl, Nat.le_of_ble_eq_true rfl⟩ ?_ Dp Bt Sq se
  intro Dp Bt Sq se
  refine xb_top (b := nI 1) hn2 ?_
  refine xi_iconst (v := nI 1) C.1 dL_law_585 (by decide +kernel) ?_
  refine xi_icmp_ne (tgt := 593) C.1 dL_law_586 (by decide) (fun c => absurd c (by decide +kernel)) (fun _ => ?_)
  refine xi_iconst (v := nI 1) C.1 dL_law_589 (by decide +kernel) ?_
  refine xi_goto (tgt := 594) C.1 dL_law_590 (by decide) ?_
  exact xi_lawret C.1 Z (Nat.le_of_ble_eq_true rfl) (Nat.le_of_ble_eq_true rfl) dL_law_594
set_option maxHeartbeats 4000000 in
set_option maxRecDepth 100000 in
theorem law_drain {X : xb_C} {D : va_G} {cI cC cZ cR cL : ClassId} {ad : Nat → Nat} {ha : Nat → Nat → Nat} {sc L q : Nat} {xs : Nat → Int32} {B0 : xBd} (C : xb_LW X cL_law wsL_law room_1 ret 12 (xb_ty cI cC cZ cR ++ [(cL, .long)]) D cI cC cZ cR) (hI : xb_EE X (va_AO RX0)) (hX : xb_X X sc L xs) (Z : xb_Law X sc) (hL : L ≤ 260) (hc0 : f_X0_cells B0.1 = some (nI 1)) (hv0 : wV B0) {f : Nat → Int64} : ∀ (h : Nat) (m : xMu) (Ls : List xBd), GG m → m.2.2.1 = B0 → m.2.2.2.1 = 1 → Hs m.2.2.2.2.1 m.2.2.2.2.2.1 m.2.2.2.2.2.2.1 Ls h → oG X 1220 318729 cI cC cR ad ha m (wLg cL q f) [(1, .ref (ad 0)), (4, .long (sv B0))] 534 [] := by
  intro h
  induction h with
  | zero =>
    intro m Ls J h1 h2 H Dp Bt Sq se
    refine xi_aload_n C.1 dL_law_534 rfl 0 rfl ?_
    refine xi_bipush (v := nI 9) C.1 dL_law_535 (by decide +kernel) ?_
    refine ow_21 (a1 := 9) (a2 := 0) (a3 := 0) C J (tq_c9 m) dL_law_537 (Nat.le_of_ble_eq_true rfl) ⟨Nat.le_of_ble_eq_true rfl, Nat.le_of_ble_eq_true rfl⟩ ?_ Dp Bt Sq se
    intro Dp Bt Sq se
    refine xb_top (b := nI 0) H.1 ?_
    refine xi_if_le (tgt := 552) C.1 dL_law_540 (by decide) (fun _ => ?_) (fun c => absurd (by decide +kernel) c)
    exact law_end C hI hX Z hL hc0 hv0 J h1 h2 H Dp Bt Sq se
  | succ h ih =>
    intro m Ls J h1 h2 H Dp Bt Sq se
    refine xi_aload_n C.1 dL_law_534 rfl 0 rfl ?_
    refine xi_bipush (v := nI 9) C.1 dL_law_535 (by decide +kernel) ?_
    refine ow_21 (a1 := 9) (a2 := 0) (a3 := 0) C J (tq_c9 m) dL_law_537 (Nat.le_of_ble_eq_true rfl) ⟨Nat.le_of_ble_eq_true rfl, Nat.le_of_ble_eq_true rfl⟩ ?_ Dp Bt Sq se
    intro Dp Bt Sq se
    refine xb_top (b := nI (h + 1)) H.1 ?_
    have h4 := H.2.1
    refine xi_if_le (tgt := 552) C.1 dL_law_540 (by decide) (fun c => absurd c (lw_gt0 (by omega))) (fun _ => ?_)
    refine xi_aload_n C.1 dL_law_543 rfl 0 rfl ?_
    obtain ⟨v, m1, e1⟩ := tt_10 J 0 0 0
    have J1 := gg_q (by decide) J e1
    rcases Hs_undo H e1 with ⟨hz, -⟩ | ⟨g, b, L2, hg, hl, hv, hb, H1, h3, h5⟩
    · exact absurd hz (by omega)
    have hgh : g = h := by omega
    rw [hgh] at hv H1
    rw [hv] at e1
    refine ow_10 (a1 := 0) (a2 := 0) (a3 := 0) C J e1 dL_law_544 (Nat.le_of_ble_eq_true rfl) ⟨Nat.le_of_ble_eq_true rfl, Nat.le_of_ble_eq_true rfl⟩ ?_ Dp Bt Sq se
    intro Dp Bt Sq se
    refine xi_if_ge (tgt := 534) C.1 dL_law_547 (by decide) (fun _ => ?_) (fun c => absurd (nI_pos' (by omega)) c)
    exact ih m1 L2 J1 (h3.trans h1) (h5.trans h2) H1 Dp Bt Sq se
set_option maxHeartbeats 4000000 in
set_option maxRecDepth 100000 in
theorem law_back {X : xb_C} {D : va_G} {cI cC cZ cR cL : ClassId} {ad : Nat → Nat} {ha : Nat → Nat → Nat} {sc L q : Nat} {xs : Nat → Int32} {B0 : xBd} (C : xb_LW X cL_law wsL_law room_1 ret 12 (xb_ty cI cC cZ cR ++ [(cL, .long)]) D cI cC cZ cR) (hI : xb_EE X (va_AO RX0)) (hX : xb_X X sc L xs) (Z : xb_Law X sc) (hL : L ≤ 260) (hc0 : f_X0_cells B0.1 = some (nI 1)) (hv0 : wV B0) {f : Nat → Int64} {A : Nat} (hA : A ≤ 28) : ∀ (h k r : Nat) (m : xMu) (Ls : List xBd), GG m → m.2.2.1 = B0 → m.2.2.2.1 = 1 → Hs m.2.2.2.2.1 m.2.2.2.2.2.1 m.2.2.2.2.2.2.1 Ls h → h + k ≤ 4 → A = k + r → f r = sv m.1 → (∀ j, j < r → ∃ b, Ls[r - 1 - j]? = some b ∧ f j = sv b) → oG X 1220 318729 cI cC cR ad ha m (wLg cL q f) [(1, .ref (ad 0)), (2, .ref q), (3, .int (nI A)), (4, .long (sv B0)), (6, .int (nI k))] 472 [] := by
  intro h
  induction h with
  | zero =>
    intro k r m Ls J h1 h2 H hk hr hf hs Dp Bt Sq se
    refine xi_aload_n C.1 dL_law_472 rfl 0 rfl ?_
    refine xi_bipush (v := nI 9) C.1 dL_law_473 (by decide +kernel) ?_
    refine ow_21 (a1 := 9) (a2 := 0) (a3 := 0) C J (tq_c9 m) dL_law_475 (Nat.le_of_ble_eq_true rfl) ⟨Nat.le_of_ble_eq_true rfl, Nat.le_of_ble_eq_true rfl⟩ ?_ Dp Bt Sq se
    intro Dp Bt Sq se
    refine xb_top (b := nI 0) H.1 ?_
    refine xi_if_le (tgt := 534) C.1 dL_law_478 (by decide) (fun _ => ?_) (fun c => absurd (by decide +kernel) c)
    exact xb_lv (law_drain C hI hX Z hL hc0 hv0 0 m Ls J h1 h2 H Dp Bt Sq se) [0, 3] rfl
  | succ h ih =>
    intro k r m Ls J h1 h2 H hk hr hf hs Dp Bt Sq se
    refine xi_aload_n C.1 dL_law_472 rfl 0 rfl ?_
    refine xi_bipush (v := nI 9) C.1 dL_law_473 (by decide +kernel) ?_
    refine ow_21 (a1 := 9) (a2 := 0) (a3 := 0) C J (tq_c9 m) dL_law_475 (Nat.le_of_ble_eq_true rfl) ⟨Nat.le_of_ble_eq_true rfl, Nat.le_of_ble_eq_true rfl⟩ ?_ Dp Bt Sq se
    intro Dp Bt Sq se
    refine xb_top (b := nI (h + 1)) H.1 ?_
    refine xi_if_le (tgt := 534) C.1 dL_law_478 (by decide) (fun c => absurd c (lw_gt0 (by omega))) (fun _ => ?_)
    refine xi_iload C.1 dL_law_481 4 rfl ?_
    refine xi_iload_n C.1 dL_law_483 rfl 2 rfl ?_
    refine xi_icmp_ge (tgt := 534) C.1 dL_law_484 (by decide) (fun _ => ?_) (fun c => ?_)
    · exact xb_lv (law_drain C hI hX Z hL hc0 hv0 (h + 1) m Ls J h1 h2 H Dp Bt Sq se) [0, 3] rfl
    have hr0 : 0 < r := by
      rcases Nat.eq_zero_or_pos r with z | z
      · exact absurd (nI_le (by omega) (by omega)) c
      · exact z
    refine xi_aload_n C.1 dL_law_487 rfl 0 rfl ?_
    refine xi_bipush (v := nI 9) C.1 dL_law_488 (by decide +kernel) ?_
    refine ow_21 (a1 := 9) (a2 := 0) (a3 := 0) C J (tq_c9 m) dL_law_490 (Nat.le_of_ble_eq_true rfl) ⟨Nat.le_of_ble_eq_true rfl, Nat.le_of_ble_eq_true rfl⟩ ?_ Dp Bt Sq se
    intro Dp Bt Sq se
    refine xb_top (b := nI (h + 1)) H.1 ?_
    refine xj_istore (lv2 := [(1, .ref (ad 0)), (2, .ref q), (3, .int (nI A)), (4, .long (sv B0)), (6, .int (nI k)), (7, .int (nI (h + 1)))]) C.1 dL_law_493 (by decide) [0, 1, 2, 3, 4] [1, 2, 3, 4, 5, 0] rfl ?_
    refine xi_iload C.1 dL_law_495 4 rfl ?_
    refine xi_iconst (v := nI 3) C.1 dL_law_497 (by decide +kernel) ?_
    refine xi_icmp_gt (tgt := 526) C.1 dL_law_498 (by decide) (fun c => absurd c (lw_le (by omega) (by omega))) (fun _ => ?_)
    refine xi_aload_n C.1 dL_law_501 rfl 0 rfl ?_
    refine oc_P (As := []) (rest := []) C kL_seen (fun Dp Bt Sq se => m_seen D cI cC cZ cR ad ha J Dp Bt Sq se) gB_seen dL_law_502 ⟨by decide, by decide, Nat.le_of_ble_eq_true rfl⟩ rfl (Nat.le_of_ble_eq_true rfl) ⟨Nat.le_of_ble_eq_true rfl, Nat.le_of_ble_eq_true rfl⟩ ?_ Dp Bt Sq se
    intro Dp Bt Sq se
    refine xi_aload_n C.1 dL_law_505 rfl 1 rfl ?_
    refine xi_iload_n C.1 dL_law_506 rfl 2 rfl ?_
    refine xi_iload C.1 dL_law_507 4 rfl ?_
    refine xi_isub C.1 dL_law_509 ?_
    refine xb_top (b := nI r) (by rw [pk_sub (by omega)]; congr 1; omega) ?_
    refine xi_lald C.1 dL_law_510 53 4 wLg_at rfl r rfl (by omega) (by decide) ?_
    refine xb_topl (b := sv m.1) hf ?_
    refine xi_lcmp C.1 dL_law_511 ?_
    refine xb_top (b := 0) (lg_cmp_self _) ?_
    refine xi_if_ne (tgt := 526) C.1 dL_law_512 (by decide) (fun c => absurd c (by decide +kernel)) (fun _ => ?_)
    refine xi_aload_n C.1 dL_law_515 rfl 0 rfl ?_
    obtain ⟨v, m1, e1⟩ := tt_10 J 0 0 0
    have J1 := gg_q (by decide) J e1
    rcases Hs_undo H e1 with ⟨hz, -⟩ | ⟨g, b, L2, hg, hl, hv, hb, H1, h3, h5⟩
    · exact absurd hz (by omega)
    have hgh : g = h := by omega
    rw [hgh] at hv H1
    rw [hv] at e1
    refine ow_10 (a1 := 0) (a2 := 0) (a3 := 0) C J e1 dL_law_516 (Nat.le_of_ble_eq_true rfl) ⟨Nat.le_of_ble_eq_true rfl, Nat.le_of_ble_eq_true rfl⟩ ?_ Dp Bt Sq se
    intro Dp Bt Sq se
    refine xi_iload C.1 dL_law_519 5 rfl ?_
    refine xi_iconst (v := nI 1) C.1 dL_law_521 (by decide +kernel) ?_
    refine xi_isub C.1 dL_law_522 ?_
    refine xb_top (b := nI h) (pk_sub (a := h + 1) (b := 1) (by omega)) ?_
    refine xi_icmp_eq (tgt := 528) C.1 dL_law_523 (by decide) (fun _ => ?_) (fun c => absurd rfl c)
    refine xj_iinc (v := nI (k + 1)) (lv2 := [(1, .ref (ad 0)), (2, .ref q), (3, .int (nI A)), (4, .long (sv B0)), (6, .int (nI (k + 1))), (7, .int (nI (h + 1)))]) C.1 dL_law_528 4 rfl (nI_add _ 1) (by decide) [0, 1, 2, 3, 5] [1, 2, 3, 4, 0, 5] rfl ?_
    refine xi_goto (tgt := 472) C.1 dL_law_531 (by decide) ?_
    rw [hl] at hs
    refine xb_lv (ih (k + 1) (r - 1) m1 L2 J1 (h3.trans h1) (h5.trans h2) H1 (by omega) (by omega) ?_ (fun j hj => ?_) Dp Bt Sq se) [0, 1, 2, 3, 4] rfl
    · obtain ⟨b2, b3, b4⟩ := hs (r - 1) (by omega)
      rw [show r - 1 - (r - 1) = 0 by omega] at b3
      rw [b4, hb, show b = b2 from Option.some.inj b3]
    · obtain ⟨b2, b3, b4⟩ := hs j (by omega)
      rw [show r - 1 - j = (r - 1 - 1 - j) + 1 by omega] at b3
      exact ⟨b2, b3, b4⟩
set_option maxHeartbeats 4000000 in
set_option maxRecDepth 100000 in
theorem law_ref {X : xb_C} {D : va_G} {cI cC cZ cR cL : ClassId} {ad : Nat → Nat} {ha : Nat → Nat → Nat} {sc L q : Nat} {xs : Nat → Int32} {B0 : xBd} (C : xb_LW X cL_law wsL_law room_1 ret 12 (xb_ty cI cC cZ cR ++ [(cL, .long)]) D cI cC cZ cR) (hI : xb_EE X (va_AO RX0)) (hX : xb_X X sc L xs) (Z : xb_Law X sc) (hL : L ≤ 260) (hc0 : f_X0_cells B0.1 = some (nI 1)) (hv0 : wV B0) {m : xMu} {f : Nat → Int64} {A : Nat} (I : LI B0 28 A m f) : oG X 1220 318729 cI cC cR ad ha m (wLg cL q f) [(1, .ref (ad 0)), (2, .ref q), (3, .int (nI A)), (4, .long (sv B0))] 451 [] := by
  obtain ⟨J, V, h1, h2, hA, Ls, h, H, hs⟩ := I
  intro Dp Bt Sq se
  refine xi_aload_n C.1 dL_law_451 rfl 1 rfl ?_
  refine xi_iload_n C.1 dL_law_452 rfl 2 rfl ?_
  refine xi_aload_n C.1 dL_law_453 rfl 0 rfl ?_
  refine oc_P (As := []) (rest := [.int (nI A), .ref q]) C kL_seen (fun Dp Bt Sq se => m_seen D cI cC cZ cR ad ha J Dp Bt Sq se) gB_seen dL_law_454 ⟨by decide, by decide, Nat.le_of_ble_eq_true rfl⟩ rfl (Nat.le_of_ble_eq_true rfl) ⟨Nat.le_of_ble_eq_true rfl, Nat.le_of_ble_eq_true rfl⟩ ?_ Dp Bt Sq se
  intro Dp Bt Sq se
  refine xi_last (w2 := W5m cI cC cR ad ha m Dp Bt Sq se ++ wLg cL q (vp_updL f A (sv m.1))) C.1 dL_law_457 53 4 wLg_at rfl A rfl (by omega) (by decide) wLg_set ?_
  refine xi_aload_n C.1 dL_law_458 rfl 0 rfl ?_
  refine xi_bipush (v := nI 8) C.1 dL_law_459 (by decide +kernel) ?_
  refine oc_P (As := [.int (nI 8)]) (rest := []) C kL_refused (fun Dp Bt Sq se => m_refused D cI cC cZ cR ad ha J (p := 8) (by decide) (wV_so V (by decide)) Dp Bt Sq se) gB_refused dL_law_461 ⟨by decide, by decide, Nat.le_of_ble_eq_true rfl⟩ rfl (Nat.le_of_ble_eq_true rfl) ⟨Nat.le_of_ble_eq_true rfl, Nat.le_of_ble_eq_true rfl⟩ ?_ Dp Bt Sq se
  intro Dp Bt Sq se
  refine xi_if_ne (tgt := 469) C.1 dL_law_464 (by decide) (fun _ => ?_) (fun c => absurd c (by decide +kernel))
  refine xi_iconst (v := nI 0) C.1 dL_law_469 (by decide +kernel) ?_
  refine xj_istore (lv2 := [(1, .ref (ad 0)), (2, .ref q), (3, .int (nI A)), (4, .long (sv B0)), (6, .int (nI 0))]) C.1 dL_law_470 (by decide) [0, 1, 2, 3] [1, 2, 3, 4, 0] rfl ?_
  exact law_back C hI hX Z hL hc0 hv0 hA h 0 A m Ls J h1 h2 H (by have := H.2.1; omega) (by omega) up_at (fun j hj => by obtain ⟨b, b1, b2⟩ := hs j hj; exact ⟨b, b1, by rw [up_ne hj]; exact b2⟩) Dp Bt Sq se
set_option maxHeartbeats 4000000 in
set_option maxRecDepth 100000 in
theorem law_act {X : xb_C} {D : va_G} {cI cC cZ cR cL : ClassId} {ad : Nat → Nat} {ha : Nat → Nat → Nat} {sc L q : Nat} {xs : Nat → Int32} {B0 : xBd} (C : xb_LW X cL_law wsL_law room_1 ret 12 (xb_ty cI cC cZ cR ++ [(cL, .long)]) D cI cC cZ cR) (hI : xb_EE X (va_AO RX0)) (hX : xb_X X sc L xs) (Z : xb_Law X sc) (hL : L ≤ 260) (hc0 : f_X0_cells B0.1 = some (nI 1)) (hv0 : wV B0) {m m' : xMu} {f : Nat → Int64} {A k : Nat} {v : Int32} (hk : k < 28) (I : LI B0 k A m f) (J' : GG m') (hx : aXX m m' v) (ih : ∀ (A2 : Nat) (m2 : xMu) (f2 : Nat → Int64), LI B0 (k + 1) A2 m2 f2 → oG X 1220 318729 cI cC cR ad ha m2 (wLg cL q f2) [(0, .ref sc), (1, .ref (ad 0)), (2, .ref q), (3, .int (nI A2)), (4, .long (sv B0)), (6, .int (nI (k + 1)))] 85 []) : oG X 1220 318729 cI cC cR ad ha m' (wLg cL q (vp_updL f A (sv m.1))) [(0, .ref sc), (1, .ref (ad 0)), (2, .ref q), (3, .int (nI A)), (4, .long (sv B0)), (6, .int (nI k)), (9, .int m.2.2.2.2.1)] 401 [.int v] := by
  have hA := I.2.2.2.2.1
  have J := I.1
  intro Dp Bt Sq se
  refine xj_istore (lv2 := [(0, .ref sc), (1, .ref (ad 0)), (2, .ref q), (3, .int (nI A)), (4, .long (sv B0)), (6, .int (nI k)), (9, .int m.2.2.2.2.1), (11, .int v)]) C.1 dL_law_401 (by decide) [0, 1, 2, 3, 4, 5, 6] [1, 2, 3, 4, 5, 6, 7, 0] rfl ?_
  refine xi_iload C.1 dL_law_403 7 rfl ?_
  rcases hx with ⟨hv, he⟩ | ⟨hv, hr, hw⟩
  · refine xi_if_ge (tgt := 432) C.1 dL_law_405 (by decide) (fun c => absurd hv (Int32.not_lt.mpr c)) (fun _ => ?_)
    refine xi_aload_n C.1 dL_law_408 rfl 1 rfl ?_
    refine xi_bipush (v := nI 9) C.1 dL_law_409 (by decide +kernel) ?_
    refine ow_21 (a1 := 9) (a2 := 0) (a3 := 0) C J' (tq_c9 m') dL_law_411 (Nat.le_of_ble_eq_true rfl) ⟨Nat.le_of_ble_eq_true rfl, Nat.le_of_ble_eq_true rfl⟩ ?_ Dp Bt Sq se
    intro Dp Bt Sq se
    refine xb_top (b := m.2.2.2.2.1) he.2.2.2.1 ?_
    refine xi_iload C.1 dL_law_414 6 rfl ?_
    refine xi_icmp_ne (tgt := 430) C.1 dL_law_416 (by decide) (fun c => absurd rfl c) (fun _ => ?_)
    refine xi_aload_n C.1 dL_law_419 rfl 1 rfl ?_
    refine oc_P (As := []) (rest := []) C kL_seen (fun Dp Bt Sq se => m_seen D cI cC cZ cR ad ha J' Dp Bt Sq se) gB_seen dL_law_420 ⟨by decide, by decide, Nat.le_of_ble_eq_true rfl⟩ rfl (Nat.le_of_ble_eq_true rfl) ⟨Nat.le_of_ble_eq_true rfl, Nat.le_of_ble_eq_true rfl⟩ ?_ Dp Bt Sq se
    intro Dp Bt Sq se
    refine xb_topl (b := sv m.1) (by rw [he.1]) ?_
    refine xi_aload_n C.1 dL_law_423 rfl 2 rfl ?_
    refine xi_iload_n C.1 dL_law_424 rfl 3 rfl ?_
    refine xi_lald C.1 dL_law_425 53 4 wLg_at rfl A rfl (by omega) (by decide) ?_
    refine xb_topl (b := sv m.1) up_at ?_
    refine xi_lcmp C.1 dL_law_426 ?_
    refine xb_top (b := 0) (lg_cmp_self _) ?_
    refine xi_if_eq (tgt := 432) C.1 dL_law_427 (by decide) (fun _ => ?_) (fun c => absurd (by decide +kernel) c)
    refine xi_iload_n C.1 dL_law_432 rfl 3 rfl ?_
    refine xi_iload C.1 dL_law_433 7 rfl ?_
    refine xi_if_ge (tgt := 442) C.1 dL_law_435 (by decide) (fun c => absurd hv (Int32.not_lt.mpr c)) (fun _ => ?_)
    refine xi_iconst (v := nI 0) C.1 dL_law_438 (by decide +kernel) ?_
    refine xi_goto (tgt := 443) C.1 dL_law_439 (by decide) ?_
    refine xi_iadd C.1 dL_law_443 ?_
    refine xb_top (b := nI (A + 0)) (nI_add _ 0) ?_
    refine xj_istore_n (lv2 := [(0, .ref sc), (1, .ref (ad 0)), (2, .ref q), (3, .int (nI (A + 0))), (4, .long (sv B0)), (6, .int (nI k)), (9, .int m.2.2.2.2.1), (11, .int v)]) C.1 dL_law_444 rfl (by decide) [0, 1, 2, 4, 5, 6, 7] [1, 2, 3, 0, 4, 5, 6, 7] rfl ?_
    refine xj_iinc (v := nI (k + 1)) (lv2 := [(0, .ref sc), (1, .ref (ad 0)), (2, .ref q), (3, .int (nI (A + 0))), (4, .long (sv B0)), (6, .int (nI (k + 1))), (9, .int m.2.2.2.2.1), (11, .int v)]) C.1 dL_law_445 5 rfl (nI_add _ 1) (by decide) [0, 1, 2, 3, 4, 6, 7] [1, 2, 3, 4, 5, 0, 6, 7] rfl ?_
    refine xi_goto (tgt := 85) C.1 dL_law_448 (by decide) ?_
    exact xb_lv (ih (A + 0) m' (vp_updL f A (sv m.1)) (LI_n I (fun j hj => up_ne hj) J' he) Dp Bt Sq se) [0, 1, 2, 3, 4, 5] rfl
  · refine xi_if_ge (tgt := 432) C.1 dL_law_405 (by decide) (fun _ => ?_) (fun c => absurd (Int32.not_lt.mp hv) c)
    refine xi_iload_n C.1 dL_law_432 rfl 3 rfl ?_
    refine xi_iload C.1 dL_law_433 7 rfl ?_
    refine xi_if_ge (tgt := 442) C.1 dL_law_435 (by decide) (fun _ => ?_) (fun c => absurd (Int32.not_lt.mp hv) c)
    refine xi_iconst (v := nI 1) C.1 dL_law_442 (by decide +kernel) ?_
    refine xi_iadd C.1 dL_law_443 ?_
    refine xb_top (b := nI (A + 1)) (nI_add _ 1) ?_
    refine xj_istore_n (lv2 := [(0, .ref sc), (1, .ref (ad 0)), (2, .ref q), (3, .int (nI (A + 1))), (4, .long (sv B0)), (6, .int (nI k)), (9, .int m.2.2.2.2.1), (11, .int v)]) C.1 dL_law_444 rfl (by decide) [0, 1, 2, 4, 5, 6, 7] [1, 2, 3, 0, 4, 5, 6, 7] rfl ?_
    refine xj_iinc (v := nI (k + 1)) (lv2 := [(0, .ref sc), (1, .ref (ad 0)), (2, .ref q), (3, .int (nI (A + 1))), (4, .long (sv B0)), (6, .int (nI (k + 1))), (9, .int m.2.2.2.2.1), (11, .int v)]) C.1 dL_law_445 5 rfl (nI_add _ 1) (by decide) [0, 1, 2, 3, 4, 6, 7] [1, 2, 3, 4, 5, 0, 6, 7] rfl ?_
    refine xi_goto (tgt := 85) C.1 dL_law_448 (by decide) ?_
    exact xb_lv (ih (A + 1) m' (vp_updL f A (sv m.1)) (LI_s I (fun j hj => up_ne hj) up_at J' hr hw) Dp Bt Sq se) [0, 1, 2, 3, 4, 5] rfl
set_option maxHeartbeats 4000000 in
set_option maxRecDepth 100000 in
theorem law_kind {X : xb_C} {D : va_G} {cI cC cZ cR cL : ClassId} {ad : Nat → Nat} {ha : Nat → Nat → Nat} {sc L q : Nat} {xs : Nat → Int32} {B0 : xBd} (C : xb_LW X cL_law wsL_law room_1 ret 12 (xb_ty cI cC cZ cR ++ [(cL, .long)]) D cI cC cZ cR) (hI : xb_EE X (va_AO RX0)) (hX : xb_X X sc L xs) (Z : xb_Law X sc) (hL : L ≤ 260) (hc0 : f_X0_cells B0.1 = some (nI 1)) (hv0 : wV B0) {m : xMu} {f : Nat → Int64} {A k kd a : Nat} {x : Int32} (hk : k < 28) (ha24 : a ≤ 24) (I : LI B0 k A m f) (ih : ∀ (A2 : Nat) (m2 : xMu) (f2 : Nat → Int64), LI B0 (k + 1) A2 m2 f2 → oG X 1220 318729 cI cC cR ad ha m2 (wLg cL q f2) [(0, .ref sc), (1, .ref (ad 0)), (2, .ref q), (3, .int (nI A2)), (4, .long (sv B0)), (6, .int (nI (k + 1)))] 85 []) : oG X 1220 318729 cI cC cR ad ha m (wLg cL q (vp_updL f A (sv m.1))) [(0, .ref sc), (1, .ref (ad 0)), (2, .ref q), (3, .int (nI A)), (4, .long (sv B0)), (6, .int (nI k)), (7, .int x), (8, .int (nI kd)), (9, .int m.2.2.2.2.1), (10, .int (nI a))] 183 [] := by
  have J := I.1
  have V := I.2.1
  intro Dp Bt Sq se
  refine xi_iload C.1 dL_law_183 7 rfl ?_
  refine xi_iconst (v := nI 4) C.1 dL_law_185 (by decide +kernel) ?_
  refine xi_icmp_ge (tgt := 209) C.1 dL_law_186 (by decide) (fun _ => ?_) (fun _ => ?_)
  · refine xi_iload C.1 dL_law_209 7 rfl ?_
    refine xi_bipush (v := nI 8) C.1 dL_law_211 (by decide +kernel) ?_
    refine xi_icmp_ge (tgt := 272) C.1 dL_law_213 (by decide) (fun _ => ?_) (fun _ => ?_)
    · refine xi_iload C.1 dL_law_272 7 rfl ?_
      refine xi_bipush (v := nI 8) C.1 dL_law_274 (by decide +kernel) ?_
      refine xi_icmp_ne (tgt := 288) C.1 dL_law_276 (by decide) (fun _ => ?_) (fun _ => ?_)
      · refine xi_iload C.1 dL_law_288 7 rfl ?_
        refine xi_bipush (v := nI 9) C.1 dL_law_290 (by decide +kernel) ?_
        refine xi_icmp_ne (tgt := 314) C.1 dL_law_292 (by decide) (fun _ => ?_) (fun _ => ?_)
        · refine xi_iload C.1 dL_law_314 7 rfl ?_
          refine xi_bipush (v := nI 10) C.1 dL_law_316 (by decide +kernel) ?_
          refine xi_icmp_ne (tgt := 336) C.1 dL_law_318 (by decide) (fun _ => ?_) (fun _ => ?_)
          · refine xi_iload C.1 dL_law_336 7 rfl ?_
            refine xi_bipush (v := nI 11) C.1 dL_law_338 (by decide +kernel) ?_
            refine xi_icmp_ne (tgt := 367) C.1 dL_law_340 (by decide) (fun _ => ?_) (fun _ => ?_)
            · refine xi_iload C.1 dL_law_367 6 rfl ?_
              refine xi_iconst (v := nI 4) C.1 dL_law_369 (by decide +kernel) ?_
              refine xi_ishr C.1 dL_law_370 ?_
              refine xi_iconst (v := nI 2) C.1 dL_law_371 (by decide +kernel) ?_
              obtain ⟨r1, hr1, er1⟩ := pt_lt (x >>> ((nI 4) &&& 31)) (n := 2) (by decide) (by decide)
              refine oc_N (As := [.int (x >>> ((nI 4) &&& 31)), .int (nI 2)]) (rest := []) (v := .int (pt_n (x >>> ((nI 4) &&& 31)) (nI 2))) C kL_part hI (m_part D cI cC cZ cR (x >>> ((nI 4) &&& 31)) (nI 2) (by decide +kernel)) gB_part dL_law_372 ⟨by decide, by decide, Nat.le_of_ble_eq_true rfl⟩ rfl (Nat.le_of_ble_eq_true rfl) ⟨Nat.le_of_ble_eq_true rfl, Nat.le_of_ble_eq_true rfl⟩ ?_
              refine xb_top (b := nI r1) er1 ?_
              refine xi_if_ne (tgt := 397) C.1 dL_law_375 (by decide) (fun _ => ?_) (fun _ => ?_)
              · refine xi_aload_n C.1 dL_law_397 rfl 1 rfl ?_
                obtain ⟨v, m', e⟩ := tt_12 J 0 0 0
                have J' := gg_q (by decide) J e
                refine ow_12 (a1 := 0) (a2 := 0) (a3 := 0) C J e dL_law_398 (Nat.le_of_ble_eq_true rfl) ⟨Nat.le_of_ble_eq_true rfl, Nat.le_of_ble_eq_true rfl⟩ ?_ Dp Bt Sq se
                intro Dp Bt Sq se
                obtain ⟨r0, r1, r2, -⟩ := ax_12 J (show qf_12 0 0 0 m = some (v, m') from e) (by rw [I.2.2.2.1]; decide)
                exact xb_lv (law_act C hI hX Z hL hc0 hv0 hk I J' (Or.inr ⟨r0, r1, by rw [r2, I.2.2.1]; exact hv0⟩) ih Dp Bt Sq se) [0, 1, 2, 3, 4, 5, 8] rfl
              · refine xi_aload_n C.1 dL_law_378 rfl 1 rfl ?_
                refine xi_bipush (v := nI 8) C.1 dL_law_379 (by decide +kernel) ?_
                refine xi_iload C.1 dL_law_381 6 rfl ?_
                refine xi_iconst (v := nI 5) C.1 dL_law_383 (by decide +kernel) ?_
                refine xi_ishr C.1 dL_law_384 ?_
                refine xi_sipush (v := nI 256) C.1 dL_law_385 (by decide +kernel) ?_
                obtain ⟨r2, hr2, er2⟩ := pt_lt (x >>> ((nI 5) &&& 31)) (n := 256) (by decide) (by decide)
                refine oc_N (As := [.int (x >>> ((nI 5) &&& 31)), .int (nI 256)]) (rest := [.int (nI 8), .ref (ad 0)]) (v := .int (pt_n (x >>> ((nI 5) &&& 31)) (nI 256))) C kL_part hI (m_part D cI cC cZ cR (x >>> ((nI 5) &&& 31)) (nI 256) (by decide +kernel)) gB_part dL_law_388 ⟨by decide, by decide, Nat.le_of_ble_eq_true rfl⟩ rfl (Nat.le_of_ble_eq_true rfl) ⟨Nat.le_of_ble_eq_true rfl, Nat.le_of_ble_eq_true rfl⟩ ?_
                refine xb_top (b := nI r2) er2 ?_
                obtain ⟨v, m', e⟩ := tt_2 J 8 r2 0
                have J' := gg_q (by decide) J e
                refine ow_2 (a1 := 8) (a2 := r2) (a3 := 0) C J e dL_law_391 (Nat.le_of_ble_eq_true rfl) ⟨Nat.le_of_ble_eq_true rfl, Nat.le_of_ble_eq_true rfl⟩ ?_ Dp Bt Sq se
                intro Dp Bt Sq se
                refine xi_goto (tgt := 401) C.1 dL_law_394 (by decide) ?_
                exact xb_lv (law_act C hI hX Z hL hc0 hv0 hk I J' (aXX_of V (ax_2 J (show qf_2 8 r2 0 m = some (v, m') from e))) ih Dp Bt Sq se) [0, 1, 2, 3, 4, 5, 8] rfl
            · refine xi_aload_n C.1 dL_law_343 rfl 1 rfl ?_
              refine xi_iload C.1 dL_law_344 6 rfl ?_
              refine xi_iconst (v := nI 4) C.1 dL_law_346 (by decide +kernel) ?_
              refine xi_ishr C.1 dL_law_347 ?_
              refine xi_iconst (v := nI 2) C.1 dL_law_348 (by decide +kernel) ?_
              obtain ⟨r1, hr1, er1⟩ := pt_lt (x >>> ((nI 4) &&& 31)) (n := 2) (by decide) (by decide)
              refine oc_N (As := [.int (x >>> ((nI 4) &&& 31)), .int (nI 2)]) (rest := [.ref (ad 0)]) (v := .int (pt_n (x >>> ((nI 4) &&& 31)) (nI 2))) C kL_part hI (m_part D cI cC cZ cR (x >>> ((nI 4) &&& 31)) (nI 2) (by decide +kernel)) gB_part dL_law_349 ⟨by decide, by decide, Nat.le_of_ble_eq_true rfl⟩ rfl (Nat.le_of_ble_eq_true rfl) ⟨Nat.le_of_ble_eq_true rfl, Nat.le_of_ble_eq_true rfl⟩ ?_
              refine xb_top (b := nI r1) er1 ?_
              refine xi_iload C.1 dL_law_352 6 rfl ?_
              refine xi_iconst (v := nI 5) C.1 dL_law_354 (by decide +kernel) ?_
              refine xi_ishr C.1 dL_law_355 ?_
              refine xi_bipush (v := nI 6) C.1 dL_law_356 (by decide +kernel) ?_
              obtain ⟨r2, hr2, er2⟩ := pt_lt (x >>> ((nI 5) &&& 31)) (n := 6) (by decide) (by decide)
              refine oc_N (As := [.int (x >>> ((nI 5) &&& 31)), .int (nI 6)]) (rest := [.int (nI r1), .ref (ad 0)]) (v := .int (pt_n (x >>> ((nI 5) &&& 31)) (nI 6))) C kL_part hI (m_part D cI cC cZ cR (x >>> ((nI 5) &&& 31)) (nI 6) (by decide +kernel)) gB_part dL_law_358 ⟨by decide, by decide, Nat.le_of_ble_eq_true rfl⟩ rfl (Nat.le_of_ble_eq_true rfl) ⟨Nat.le_of_ble_eq_true rfl, Nat.le_of_ble_eq_true rfl⟩ ?_
              refine xb_top (b := nI r2) er2 ?_
              obtain ⟨v, m', e⟩ := tt_6 J r1 r2 0
              have J' := gg_q (by decide) J e
              refine ow_6 (a1 := r1) (a2 := r2) (a3 := 0) C J e dL_law_361 (Nat.le_of_ble_eq_true rfl) ⟨Nat.le_of_ble_eq_true rfl, Nat.le_of_ble_eq_true rfl⟩ ?_ Dp Bt Sq se
              intro Dp Bt Sq se
              refine xi_goto (tgt := 401) C.1 dL_law_364 (by decide) ?_
              exact xb_lv (law_act C hI hX Z hL hc0 hv0 hk I J' (aXX_of V (ax_6 J (show qf_6 r1 r2 0 m = some (v, m') from e))) ih Dp Bt Sq se) [0, 1, 2, 3, 4, 5, 8] rfl
          · refine xi_aload_n C.1 dL_law_321 rfl 1 rfl ?_
            refine xi_iload C.1 dL_law_322 6 rfl ?_
            refine xi_iconst (v := nI 4) C.1 dL_law_324 (by decide +kernel) ?_
            refine xi_ishr C.1 dL_law_325 ?_
            refine xi_iconst (v := nI 4) C.1 dL_law_326 (by decide +kernel) ?_
            obtain ⟨r1, hr1, er1⟩ := pt_lt (x >>> ((nI 4) &&& 31)) (n := 4) (by decide) (by decide)
            refine oc_N (As := [.int (x >>> ((nI 4) &&& 31)), .int (nI 4)]) (rest := [.ref (ad 0)]) (v := .int (pt_n (x >>> ((nI 4) &&& 31)) (nI 4))) C kL_part hI (m_part D cI cC cZ cR (x >>> ((nI 4) &&& 31)) (nI 4) (by decide +kernel)) gB_part dL_law_327 ⟨by decide, by decide, Nat.le_of_ble_eq_true rfl⟩ rfl (Nat.le_of_ble_eq_true rfl) ⟨Nat.le_of_ble_eq_true rfl, Nat.le_of_ble_eq_true rfl⟩ ?_
            refine xb_top (b := nI r1) er1 ?_
            obtain ⟨v, m', e⟩ := tt_5 J r1 0 0
            have J' := gg_q (by decide) J e
            refine ow_5 (a1 := r1) (a2 := 0) (a3 := 0) C J e dL_law_330 (Nat.le_of_ble_eq_true rfl) ⟨Nat.le_of_ble_eq_true rfl, Nat.le_of_ble_eq_true rfl⟩ ?_ Dp Bt Sq se
            intro Dp Bt Sq se
            refine xi_goto (tgt := 401) C.1 dL_law_333 (by decide) ?_
            exact xb_lv (law_act C hI hX Z hL hc0 hv0 hk I J' (aXX_of V (ax_5 J (show qf_5 r1 0 0 m = some (v, m') from e))) ih Dp Bt Sq se) [0, 1, 2, 3, 4, 5, 8] rfl
        · refine xi_aload_n C.1 dL_law_295 rfl 1 rfl ?_
          refine xi_iload C.1 dL_law_296 9 rfl ?_
          refine xi_iload C.1 dL_law_298 6 rfl ?_
          refine xi_bipush (v := nI 9) C.1 dL_law_300 (by decide +kernel) ?_
          refine xi_ishr C.1 dL_law_302 ?_
          refine xi_bipush (v := nI 24) C.1 dL_law_303 (by decide +kernel) ?_
          obtain ⟨r1, hr1, er1⟩ := pt_lt (x >>> ((nI 9) &&& 31)) (n := 24) (by decide) (by decide)
          refine oc_N (As := [.int (x >>> ((nI 9) &&& 31)), .int (nI 24)]) (rest := [.int (nI a), .ref (ad 0)]) (v := .int (pt_n (x >>> ((nI 9) &&& 31)) (nI 24))) C kL_part hI (m_part D cI cC cZ cR (x >>> ((nI 9) &&& 31)) (nI 24) (by decide +kernel)) gB_part dL_law_305 ⟨by decide, by decide, Nat.le_of_ble_eq_true rfl⟩ rfl (Nat.le_of_ble_eq_true rfl) ⟨Nat.le_of_ble_eq_true rfl, Nat.le_of_ble_eq_true rfl⟩ ?_
          refine xb_top (b := nI r1) er1 ?_
          obtain ⟨v, m', e⟩ := tt_4 J a r1 0
          have J' := gg_q (by decide) J e
          refine ow_4 (a1 := a) (a2 := r1) (a3 := 0) C J e dL_law_308 (Nat.le_of_ble_eq_true rfl) ⟨Nat.le_of_ble_eq_true rfl, Nat.le_of_ble_eq_true rfl⟩ ?_ Dp Bt Sq se
          intro Dp Bt Sq se
          refine xi_goto (tgt := 401) C.1 dL_law_311 (by decide) ?_
          exact xb_lv (law_act C hI hX Z hL hc0 hv0 hk I J' (aXX_of V (ax_4 J (show qf_4 a r1 0 m = some (v, m') from e))) ih Dp Bt Sq se) [0, 1, 2, 3, 4, 5, 8] rfl
      · refine xi_aload_n C.1 dL_law_279 rfl 1 rfl ?_
        refine xi_iload C.1 dL_law_280 9 rfl ?_
        obtain ⟨v, m', e⟩ := tt_1 J a 0 0
        have J' := gg_q (by decide) J e
        refine ow_1 (a1 := a) (a2 := 0) (a3 := 0) C J e dL_law_282 (Nat.le_of_ble_eq_true rfl) ⟨Nat.le_of_ble_eq_true rfl, Nat.le_of_ble_eq_true rfl⟩ ?_ Dp Bt Sq se
        intro Dp Bt Sq se
        refine xi_goto (tgt := 401) C.1 dL_law_285 (by decide) ?_
        exact xb_lv (law_act C hI hX Z hL hc0 hv0 hk I J' (aXX_of V (ax_1 J (show qf_1 a 0 0 m = some (v, m') from e))) ih Dp Bt Sq se) [0, 1, 2, 3, 4, 5, 8] rfl
    · refine xi_aload_n C.1 dL_law_216 rfl 1 rfl ?_
      refine xi_iload C.1 dL_law_217 9 rfl ?_
      refine xi_iload C.1 dL_law_219 6 rfl ?_
      refine xi_bipush (v := nI 9) C.1 dL_law_221 (by decide +kernel) ?_
      refine xi_ishr C.1 dL_law_223 ?_
      refine xi_iconst (v := nI 4) C.1 dL_law_224 (by decide +kernel) ?_
      obtain ⟨r1, hr1, er1⟩ := pt_lt (x >>> ((nI 9) &&& 31)) (n := 4) (by decide) (by decide)
      refine oc_N (As := [.int (x >>> ((nI 9) &&& 31)), .int (nI 4)]) (rest := [.int (nI a), .ref (ad 0)]) (v := .int (pt_n (x >>> ((nI 9) &&& 31)) (nI 4))) C kL_part hI (m_part D cI cC cZ cR (x >>> ((nI 9) &&& 31)) (nI 4) (by decide +kernel)) gB_part dL_law_225 ⟨by decide, by decide, Nat.le_of_ble_eq_true rfl⟩ rfl (Nat.le_of_ble_eq_true rfl) ⟨Nat.le_of_ble_eq_true rfl, Nat.le_of_ble_eq_true rfl⟩ ?_
      refine xb_top (b := nI r1) er1 ?_
      refine xi_iload C.1 dL_law_228 6 rfl ?_
      refine xi_bipush (v := nI 11) C.1 dL_law_230 (by decide +kernel) ?_
      refine xi_ishr C.1 dL_law_232 ?_
      refine xi_iconst (v := nI 2) C.1 dL_law_233 (by decide +kernel) ?_
      obtain ⟨r2, hr2, er2⟩ := pt_lt (x >>> ((nI 11) &&& 31)) (n := 2) (by decide) (by decide)
      refine oc_N (As := [.int (x >>> ((nI 11) &&& 31)), .int (nI 2)]) (rest := [.int (nI r1), .int (nI a), .ref (ad 0)]) (v := .int (pt_n (x >>> ((nI 11) &&& 31)) (nI 2))) C kL_part hI (m_part D cI cC cZ cR (x >>> ((nI 11) &&& 31)) (nI 2) (by decide +kernel)) gB_part dL_law_234 ⟨by decide, by decide, Nat.le_of_ble_eq_true rfl⟩ rfl (Nat.le_of_ble_eq_true rfl) ⟨Nat.le_of_ble_eq_true rfl, Nat.le_of_ble_eq_true rfl⟩ ?_
      refine xb_top (b := nI r2) er2 ?_
      refine xi_if_ne (tgt := 253) C.1 dL_law_237 (by decide) (fun _ => ?_) (fun _ => ?_)
      · refine xi_bipush (v := nI 24) C.1 dL_law_253 (by decide +kernel) ?_
        refine xi_iload C.1 dL_law_255 6 rfl ?_
        refine xi_bipush (v := nI 12) C.1 dL_law_257 (by decide +kernel) ?_
        refine xi_ishr C.1 dL_law_259 ?_
        refine xi_bipush (v := nI 11) C.1 dL_law_260 (by decide +kernel) ?_
        obtain ⟨r3, hr3, er3⟩ := pt_lt (x >>> ((nI 12) &&& 31)) (n := 11) (by decide) (by decide)
        refine oc_N (As := [.int (x >>> ((nI 12) &&& 31)), .int (nI 11)]) (rest := [.int (nI 24), .int (nI r1), .int (nI a), .ref (ad 0)]) (v := .int (pt_n (x >>> ((nI 12) &&& 31)) (nI 11))) C kL_part hI (m_part D cI cC cZ cR (x >>> ((nI 12) &&& 31)) (nI 11) (by decide +kernel)) gB_part dL_law_262 ⟨by decide, by decide, Nat.le_of_ble_eq_true rfl⟩ rfl (Nat.le_of_ble_eq_true rfl) ⟨Nat.le_of_ble_eq_true rfl, Nat.le_of_ble_eq_true rfl⟩ ?_
        refine xb_top (b := nI r3) er3 ?_
        refine xi_iadd C.1 dL_law_265 ?_
        refine xb_top (b := nI (24 + r3)) (nI_add 24 r3) ?_
        obtain ⟨v, m', e⟩ := tt_3 J a r1 (24 + r3)
        have J' := gg_q (by decide) J e
        refine ow_3 (a1 := a) (a2 := r1) (a3 := (24 + r3)) C J e dL_law_266 (Nat.le_of_ble_eq_true rfl) ⟨Nat.le_of_ble_eq_true rfl, Nat.le_of_ble_eq_true rfl⟩ ?_ Dp Bt Sq se
        intro Dp Bt Sq se
        refine xi_goto (tgt := 401) C.1 dL_law_269 (by decide) ?_
        exact xb_lv (law_act C hI hX Z hL hc0 hv0 hk I J' (aXX_of V (ax_3 J (show qf_3 a r1 (24 + r3) m = some (v, m') from e))) ih Dp Bt Sq se) [0, 1, 2, 3, 4, 5, 8] rfl
      · refine xi_iload C.1 dL_law_240 6 rfl ?_
        refine xi_bipush (v := nI 12) C.1 dL_law_242 (by decide +kernel) ?_
        refine xi_ishr C.1 dL_law_244 ?_
        refine xi_bipush (v := nI 24) C.1 dL_law_245 (by decide +kernel) ?_
        obtain ⟨r3, hr3, er3⟩ := pt_lt (x >>> ((nI 12) &&& 31)) (n := 24) (by decide) (by decide)
        refine oc_N (As := [.int (x >>> ((nI 12) &&& 31)), .int (nI 24)]) (rest := [.int (nI r1), .int (nI a), .ref (ad 0)]) (v := .int (pt_n (x >>> ((nI 12) &&& 31)) (nI 24))) C kL_part hI (m_part D cI cC cZ cR (x >>> ((nI 12) &&& 31)) (nI 24) (by decide +kernel)) gB_part dL_law_247 ⟨by decide, by decide, Nat.le_of_ble_eq_true rfl⟩ rfl (Nat.le_of_ble_eq_true rfl) ⟨Nat.le_of_ble_eq_true rfl, Nat.le_of_ble_eq_true rfl⟩ ?_
        refine xb_top (b := nI r3) er3 ?_
        refine xi_goto (tgt := 266) C.1 dL_law_250 (by decide) ?_
        obtain ⟨v, m', e⟩ := tt_3 J a r1 r3
        have J' := gg_q (by decide) J e
        refine ow_3 (a1 := a) (a2 := r1) (a3 := r3) C J e dL_law_266 (Nat.le_of_ble_eq_true rfl) ⟨Nat.le_of_ble_eq_true rfl, Nat.le_of_ble_eq_true rfl⟩ ?_ Dp Bt Sq se
        intro Dp Bt Sq se
        refine xi_goto (tgt := 401) C.1 dL_law_269 (by decide) ?_
        exact xb_lv (law_act C hI hX Z hL hc0 hv0 hk I J' (aXX_of V (ax_3 J (show qf_3 a r1 r3 m = some (v, m') from e))) ih Dp Bt Sq se) [0, 1, 2, 3, 4, 5, 8] rfl
  · refine xi_aload_n C.1 dL_law_189 rfl 1 rfl ?_
    refine xi_iload C.1 dL_law_190 9 rfl ?_
    refine xi_iload C.1 dL_law_192 6 rfl ?_
    refine xi_bipush (v := nI 9) C.1 dL_law_194 (by decide +kernel) ?_
    refine xi_ishr C.1 dL_law_196 ?_
    refine xi_sipush (v := nI 260) C.1 dL_law_197 (by decide +kernel) ?_
    obtain ⟨r1, hr1, er1⟩ := pt_lt (x >>> ((nI 9) &&& 31)) (n := 260) (by decide) (by decide)
    refine oc_N (As := [.int (x >>> ((nI 9) &&& 31)), .int (nI 260)]) (rest := [.int (nI a), .ref (ad 0)]) (v := .int (pt_n (x >>> ((nI 9) &&& 31)) (nI 260))) C kL_part hI (m_part D cI cC cZ cR (x >>> ((nI 9) &&& 31)) (nI 260) (by decide +kernel)) gB_part dL_law_200 ⟨by decide, by decide, Nat.le_of_ble_eq_true rfl⟩ rfl (Nat.le_of_ble_eq_true rfl) ⟨Nat.le_of_ble_eq_true rfl, Nat.le_of_ble_eq_true rfl⟩ ?_
    refine xb_top (b := nI r1) er1 ?_
    obtain ⟨v, m', e⟩ := tt_0 J a r1 0
    have J' := gg_q (by decide) J e
    refine ow_0 (a1 := a) (a2 := r1) (a3 := 0) C J e dL_law_203 (Nat.le_of_ble_eq_true rfl) ⟨Nat.le_of_ble_eq_true rfl, Nat.le_of_ble_eq_true rfl⟩ ?_ Dp Bt Sq se
    intro Dp Bt Sq se
    refine xi_goto (tgt := 401) C.1 dL_law_206 (by decide) ?_
    exact xb_lv (law_act C hI hX Z hL hc0 hv0 hk I J' (aXX_of V (ax_0 J (show qf_0 a r1 0 m = some (v, m') from e))) ih Dp Bt Sq se) [0, 1, 2, 3, 4, 5, 8] rfl
set_option maxHeartbeats 4000000 in
set_option maxRecDepth 100000 in
theorem law_find {X : xb_C} {D : va_G} {cI cC cZ cR cL : ClassId} {ad : Nat → Nat} {ha : Nat → Nat → Nat} {sc L q : Nat} {xs : Nat → Int32} {B0 : xBd} (C : xb_LW X cL_law wsL_law room_1 ret 12 (xb_ty cI cC cZ cR ++ [(cL, .long)]) D cI cC cZ cR) (hI : xb_EE X (va_AO RX0)) (hX : xb_X X sc L xs) (Z : xb_Law X sc) (hL : L ≤ 260) (hc0 : f_X0_cells B0.1 = some (nI 1)) (hv0 : wV B0) {m : xMu} {f : Nat → Int64} {A k kd : Nat} {x : Int32} (J : GG m) (ih : ∀ a, a ≤ 24 → oG X 1220 318729 cI cC cR ad ha m (wLg cL q (vp_updL f A (sv m.1))) [(0, .ref sc), (1, .ref (ad 0)), (2, .ref q), (3, .int (nI A)), (4, .long (sv B0)), (6, .int (nI k)), (7, .int x), (8, .int (nI kd)), (9, .int m.2.2.2.2.1), (10, .int (nI a))] 183 []) : ∀ (j i a : Nat), i + j = 24 → a ≤ 24 → oG X 1220 318729 cI cC cR ad ha m (wLg cL q (vp_updL f A (sv m.1))) [(0, .ref sc), (1, .ref (ad 0)), (2, .ref q), (3, .int (nI A)), (4, .long (sv B0)), (6, .int (nI k)), (7, .int x), (8, .int (nI kd)), (9, .int m.2.2.2.2.1), (10, .int (nI a)), (11, .int (nI i))] 138 [] := by
  intro j
  induction j with
  | zero =>
    intro i a hi ha2 Dp Bt Sq se
    obtain rfl : i = 24 := by omega
    refine xi_iload C.1 dL_law_138 10 rfl ?_
    refine xi_bipush (v := nI 24) C.1 dL_law_140 (by decide +kernel) ?_
    refine xi_icmp_ge (tgt := 183) C.1 dL_law_142 (by decide) (fun _ => ?_) (fun c => absurd (by decide +kernel) c)
    exact xb_lv (ih a ha2 Dp Bt Sq se) [0, 1, 2, 3, 4, 5, 6, 7, 8, 9] rfl
  | succ j hj =>
    intro i a hi ha2 Dp Bt Sq se
    refine xi_iload C.1 dL_law_138 10 rfl ?_
    refine xi_bipush (v := nI 24) C.1 dL_law_140 (by decide +kernel) ?_
    refine xi_icmp_ge (tgt := 183) C.1 dL_law_142 (by decide) (fun c => absurd c (nI_ge (b := 24) (by omega) (by decide))) (fun _ => ?_)
    refine xi_iload C.1 dL_law_145 7 rfl ?_
    refine xi_iconst (v := nI 3) C.1 dL_law_147 (by decide +kernel) ?_
    refine xi_icmp_le (tgt := 183) C.1 dL_law_148 (by decide) (fun _ => xb_lv (ih a ha2 Dp Bt Sq se) [0, 1, 2, 3, 4, 5, 6, 7, 8, 9] rfl) (fun _ => ?_)
    refine xi_iload C.1 dL_law_151 7 rfl ?_
    refine xi_bipush (v := nI 9) C.1 dL_law_153 (by decide +kernel) ?_
    refine xi_icmp_ge (tgt := 183) C.1 dL_law_155 (by decide) (fun _ => xb_lv (ih a ha2 Dp Bt Sq se) [0, 1, 2, 3, 4, 5, 6, 7, 8, 9] rfl) (fun _ => ?_)
    refine xi_aload_n C.1 dL_law_158 rfl 1 rfl ?_
    refine xi_iload C.1 dL_law_159 9 rfl ?_
    refine xi_iconst (v := nI 0) C.1 dL_law_161 (by decide +kernel) ?_
    refine ow_13 (a1 := a) (a2 := 0) (a3 := 0) C J (tq_cell J a 0) dL_law_162 (Nat.le_of_ble_eq_true rfl) ⟨Nat.le_of_ble_eq_true rfl, Nat.le_of_ble_eq_true rfl⟩ ?_ Dp Bt Sq se
    intro Dp Bt Sq se
    refine xi_if_ge (tgt := 183) C.1 dL_law_165 (by decide) (fun _ => xb_lv (ih a ha2 Dp Bt Sq se) [0, 1, 2, 3, 4, 5, 6, 7, 8, 9] rfl) (fun _ => ?_)
    refine xi_iload C.1 dL_law_168 9 rfl ?_
    refine xi_iconst (v := nI 1) C.1 dL_law_170 (by decide +kernel) ?_
    refine xi_iadd C.1 dL_law_171 ?_
    refine xb_top (b := nI (a + 1)) (nI_add _ 1) ?_
    refine xi_bipush (v := nI 24) C.1 dL_law_172 (by decide +kernel) ?_
    refine xi_irem C.1 dL_law_174 (by decide +kernel) ?_
    refine xb_top (b := nI ((a + 1) % 24)) (rm_n (k := a + 1) (L := 24) (by omega) (by decide) (by decide)) ?_
    refine xj_istore (lv2 := [(0, .ref sc), (1, .ref (ad 0)), (2, .ref q), (3, .int (nI A)), (4, .long (sv B0)), (6, .int (nI k)), (7, .int x), (8, .int (nI kd)), (9, .int m.2.2.2.2.1), (10, .int (nI ((a + 1) % 24))), (11, .int (nI i))]) C.1 dL_law_175 (by decide) [0, 1, 2, 3, 4, 5, 6, 7, 8, 10] [1, 2, 3, 4, 5, 6, 7, 8, 9, 0, 10] rfl ?_
    refine xj_iinc (v := nI (i + 1)) (lv2 := [(0, .ref sc), (1, .ref (ad 0)), (2, .ref q), (3, .int (nI A)), (4, .long (sv B0)), (6, .int (nI k)), (7, .int x), (8, .int (nI kd)), (9, .int m.2.2.2.2.1), (10, .int (nI ((a + 1) % 24))), (11, .int (nI (i + 1)))]) C.1 dL_law_177 10 rfl (nI_add _ 1) (by decide) [0, 1, 2, 3, 4, 5, 6, 7, 8, 9] [1, 2, 3, 4, 5, 6, 7, 8, 9, 10, 0] rfl ?_
    refine xi_goto (tgt := 138) C.1 dL_law_180 (by decide) ?_
    exact xb_lv (hj (i + 1) ((a + 1) % 24) (by omega) (by omega) Dp Bt Sq se) [0, 1, 2, 3, 4, 5, 6, 7, 8, 9, 10] rfl
set_option maxHeartbeats 4000000 in
set_option maxRecDepth 100000 in
theorem law_loop {X : xb_C} {D : va_G} {cI cC cZ cR cL : ClassId} {ad : Nat → Nat} {ha : Nat → Nat → Nat} {sc L q : Nat} {xs : Nat → Int32} {B0 : xBd} (C : xb_LW X cL_law wsL_law room_1 ret 12 (xb_ty cI cC cZ cR ++ [(cL, .long)]) D cI cC cZ cR) (hI : xb_EE X (va_AO RX0)) (hX : xb_X X sc L xs) (Z : xb_Law X sc) (hL : L ≤ 260) (hc0 : f_X0_cells B0.1 = some (nI 1)) (hv0 : wV B0) : ∀ (j k A : Nat) (m : xMu) (f : Nat → Int64), k + j = 28 → LI B0 k A m f → oG X 1220 318729 cI cC cR ad ha m (wLg cL q f) [(0, .ref sc), (1, .ref (ad 0)), (2, .ref q), (3, .int (nI A)), (4, .long (sv B0)), (6, .int (nI k))] 85 [] := by
  intro j
  induction j with
  | zero =>
    intro k A m f hk I Dp Bt Sq se
    obtain rfl : k = 28 := by omega
    refine xi_iload C.1 dL_law_85 5 rfl ?_
    refine xi_bipush (v := nI 28) C.1 dL_law_87 (by decide +kernel) ?_
    refine xi_icmp_ge (tgt := 451) C.1 dL_law_89 (by decide) (fun _ => ?_) (fun c => absurd (by decide +kernel) c)
    exact xb_lv (law_ref C hI hX Z hL hc0 hv0 I Dp Bt Sq se) [1, 2, 3, 4] rfl
  | succ j ih =>
    intro k A m f hk I Dp Bt Sq se
    have J := I.1
    have hA := I.2.2.2.2.1
    refine xi_iload C.1 dL_law_85 5 rfl ?_
    refine xi_bipush (v := nI 28) C.1 dL_law_87 (by decide +kernel) ?_
    refine xi_icmp_ge (tgt := 451) C.1 dL_law_89 (by decide) (fun c => absurd c (nI_ge (b := 28) (by omega) (by decide))) (fun _ => ?_)
    refine xi_aload_n C.1 dL_law_92 rfl 0 rfl ?_
    refine xi_iload C.1 dL_law_93 5 rfl ?_
    refine xi_callP (As := [.ref sc, .int (nI k)]) (rest := []) (P := fun o w1 => (∃ v : Int32, o = some (.int v)) ∧ w1 = []) (E := dE sc L xs) C.1 kL_drawn (m_drawn D cI cC cZ cR hL k (by omega)) dE_b (dE_c hX hI) gB_drawn dL_law_95 ⟨by decide, by decide, Nat.le_of_ble_eq_true rfl⟩ [] rfl rfl [0, 1, 2, 3] C.2.2.1 (fun o w1 hP => by obtain ⟨-, rfl⟩ := hP; rfl) rfl (Nat.le_of_ble_eq_true rfl) ⟨Nat.le_of_ble_eq_true rfl, Nat.le_of_ble_eq_true rfl⟩ (fun o w1 hP => ?_)
    obtain ⟨⟨x, rfl⟩, rfl⟩ := hP
    show xb_G X 1220 318729 (W5m cI cC cR ad ha m Dp Bt Sq se ++ (wLg cL q f)) [(0, .ref sc), (1, .ref (ad 0)), (2, .ref q), (3, .int (nI A)), (4, .long (sv B0)), (6, .int (nI k))] 98 [.int x]
    refine xj_istore (lv2 := [(0, .ref sc), (1, .ref (ad 0)), (2, .ref q), (3, .int (nI A)), (4, .long (sv B0)), (6, .int (nI k)), (7, .int x)]) C.1 dL_law_98 (by decide) [0, 1, 2, 3, 4, 5] [1, 2, 3, 4, 5, 6, 0] rfl ?_
    refine xi_iload C.1 dL_law_100 6 rfl ?_
    refine xi_bipush (v := nI 13) C.1 dL_law_102 (by decide +kernel) ?_
    obtain ⟨kd, hkd, ekd⟩ := pt_lt x (n := 13) (by decide) (by decide)
    refine oc_N (As := [.int x, .int (nI 13)]) (rest := []) (v := .int (pt_n x (nI 13))) C kL_part hI (m_part D cI cC cZ cR x (nI 13) (by decide +kernel)) gB_part dL_law_104 ⟨by decide, by decide, Nat.le_of_ble_eq_true rfl⟩ rfl (Nat.le_of_ble_eq_true rfl) ⟨Nat.le_of_ble_eq_true rfl, Nat.le_of_ble_eq_true rfl⟩ ?_
    refine xb_top (b := nI kd) ekd ?_
    refine xj_istore (lv2 := [(0, .ref sc), (1, .ref (ad 0)), (2, .ref q), (3, .int (nI A)), (4, .long (sv B0)), (6, .int (nI k)), (7, .int x), (8, .int (nI kd))]) C.1 dL_law_107 (by decide) [0, 1, 2, 3, 4, 5, 6] [1, 2, 3, 4, 5, 6, 7, 0] rfl ?_
    refine xi_aload_n C.1 dL_law_109 rfl 2 rfl ?_
    refine xi_iload_n C.1 dL_law_110 rfl 3 rfl ?_
    refine xi_aload_n C.1 dL_law_111 rfl 1 rfl ?_
    refine oc_P (As := []) (rest := [.int (nI A), .ref q]) C kL_seen (fun Dp Bt Sq se => m_seen D cI cC cZ cR ad ha J Dp Bt Sq se) gB_seen dL_law_112 ⟨by decide, by decide, Nat.le_of_ble_eq_true rfl⟩ rfl (Nat.le_of_ble_eq_true rfl) ⟨Nat.le_of_ble_eq_true rfl, Nat.le_of_ble_eq_true rfl⟩ ?_ Dp Bt Sq se
    intro Dp Bt Sq se
    refine xi_last (w2 := W5m cI cC cR ad ha m Dp Bt Sq se ++ wLg cL q (vp_updL f A (sv m.1))) C.1 dL_law_115 53 4 wLg_at rfl A rfl (by omega) (by decide) wLg_set ?_
    refine xi_aload_n C.1 dL_law_116 rfl 1 rfl ?_
    refine xi_bipush (v := nI 9) C.1 dL_law_117 (by decide +kernel) ?_
    refine ow_21 (a1 := 9) (a2 := 0) (a3 := 0) C J (tq_c9 m) dL_law_119 (Nat.le_of_ble_eq_true rfl) ⟨Nat.le_of_ble_eq_true rfl, Nat.le_of_ble_eq_true rfl⟩ ?_ Dp Bt Sq se
    intro Dp Bt Sq se
    refine xj_istore (lv2 := [(0, .ref sc), (1, .ref (ad 0)), (2, .ref q), (3, .int (nI A)), (4, .long (sv B0)), (6, .int (nI k)), (7, .int x), (8, .int (nI kd)), (9, .int m.2.2.2.2.1)]) C.1 dL_law_122 (by decide) [0, 1, 2, 3, 4, 5, 6, 7] [1, 2, 3, 4, 5, 6, 7, 8, 0] rfl ?_
    refine xi_iload C.1 dL_law_124 6 rfl ?_
    refine xi_iconst (v := nI 4) C.1 dL_law_126 (by decide +kernel) ?_
    refine xi_ishr C.1 dL_law_127 ?_
    refine xi_bipush (v := nI 25) C.1 dL_law_128 (by decide +kernel) ?_
    obtain ⟨a, ha, ea⟩ := pt_lt (x >>> ((nI 4) &&& 31)) (n := 25) (by decide) (by decide)
    refine oc_N (As := [.int (x >>> ((nI 4) &&& 31)), .int (nI 25)]) (rest := []) (v := .int (pt_n (x >>> ((nI 4) &&& 31)) (nI 25))) C kL_part hI (m_part D cI cC cZ cR (x >>> ((nI 4) &&& 31)) (nI 25) (by decide +kernel)) gB_part dL_law_130 ⟨by decide, by decide, Nat.le_of_ble_eq_true rfl⟩ rfl (Nat.le_of_ble_eq_true rfl) ⟨Nat.le_of_ble_eq_true rfl, Nat.le_of_ble_eq_true rfl⟩ ?_
    refine xb_top (b := nI a) ea ?_
    refine xj_istore (lv2 := [(0, .ref sc), (1, .ref (ad 0)), (2, .ref q), (3, .int (nI A)), (4, .long (sv B0)), (6, .int (nI k)), (7, .int x), (8, .int (nI kd)), (9, .int m.2.2.2.2.1), (10, .int (nI a))]) C.1 dL_law_133 (by decide) [0, 1, 2, 3, 4, 5, 6, 7, 8] [1, 2, 3, 4, 5, 6, 7, 8, 9, 0] rfl ?_
    refine xi_iconst (v := nI 0) C.1 dL_law_135 (by decide +kernel) ?_
    refine xj_istore (lv2 := [(0, .ref sc), (1, .ref (ad 0)), (2, .ref q), (3, .int (nI A)), (4, .long (sv B0)), (6, .int (nI k)), (7, .int x), (8, .int (nI kd)), (9, .int m.2.2.2.2.1), (10, .int (nI a)), (11, .int (nI 0))]) C.1 dL_law_136 (by decide) [0, 1, 2, 3, 4, 5, 6, 7, 8, 9] [1, 2, 3, 4, 5, 6, 7, 8, 9, 10, 0] rfl ?_
    exact law_find C hI hX Z hL hc0 hv0 J (fun a ha2 => law_kind C hI hX Z hL hc0 hv0 (by omega) ha2 I (fun A2 m2 f2 I2 => ih (k + 1) A2 m2 f2 (by omega) I2)) 24 0 a (by omega) (by omega) Dp Bt Sq se
