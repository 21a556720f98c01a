def f_X6_put (st : Int32) (now : Nat → Int32) (pst : Nat → Int32) (p1 : Int32) (p2 : Int32) : Option (Int32 × Int32 × (Nat → Int32) × (Nat → Int32)) :=
  (f_X6_isPlace p1).bind fun v1 =>
  if v1 = 0 then
    some ((-1), st, now, pst)
  else
    (f_X6_in p2 0 255).bind fun v4 =>
    if v4 = 0 then
      some ((-2), st, now, pst)
    else
      (f_X6_isCell now p1).bind fun v7 =>
      if v7 = 0 then
        (f_X6_records st now pst).bind fun (st10, pst11) =>
        (xr_w now 1898 (0 + p1) p2).bind fun now14 =>
        (f_X6_cells now14).bind fun v15 =>
        some (v15, st10, now14, pst11)
      else
        some ((-4), st, now, pst)
theorem k_X6_put : xb_Y yX6_put cX6_put wsX6_put 3 (some .int) { frames := 4, cells := 0, slots := 0, locals := 85 } 2 := ⟨⟨_, rfl⟩, by decide, ⟨by decide, by decide, by decide +kernel⟩, rfl, rfl⟩
theorem fl_X6_put_7 : Cond.fieldLink RX6 7 "LookupBoardModel" "now" "[I" ∈ wsX6_put := List.mem_of_getElem? (i := 1) rfl
theorem iw_X6_put_6 : ∀ w ∈ wsX60, w ∈ wsX6_put := fun w h => List.mem_cons_of_mem _ (List.mem_append_right _ h)
set_option maxHeartbeats 4000000 in
set_option maxRecDepth 100000 in
theorem m_X6_put (D : va_G) (cI cC cZ cR : ClassId) (o0 : Nat) (ma : Nat → Nat) (st : Int32) (ik : Int32) (le : Int32) (sp : Int32) (nu : Int32) (now : Nat → Int32) (thn : Nat → Int32) (pst : Nat → Int32) (snp : Nat → Int32) (txt : Nat → Int32) (hld : Nat → Int32) (far : Nat → Int32) (don : Nat → Int32) (tld : Nat → Int32) (dep : Nat → Int32) (bit : Nat → Int32) (p1 : Int32) (p2 : Int32) (r : Int32) (st' : Int32) (now' : Nat → Int32) (pst' : Nat → Int32) (h : f_X6_put st now pst p1 p2 = some (r, st', now', pst')) : xb_M cX6_put wsX6_put RX6 { frames := 4, cells := 0, slots := 0, locals := 85 } (some .int) 3 (xb_ty cI cC cZ cR) D [.ref o0, .int p1, .int p2] (wMo o0 ma st ik le sp nu ++ wAr cI (ma 0) 1898 now ++ wAr cI (ma 1) 1898 thn ++ wAr cI (ma 2) 7592 pst ++ wAr cI (ma 3) 1898 snp ++ wAr cC (ma 4) 80 txt ++ wAr cI (ma 5) 48 hld ++ wAr cI (ma 6) 24 far ++ wAr cZ (ma 7) 72 don ++ wAr cI (ma 8) 96 tld ++ wAr cI (ma 9) 24 dep ++ wAr cI (ma 10) 24 bit) (some (.int r)) (wMo o0 ma st' ik le sp nu ++ wAr cI (ma 0) 1898 now' ++ wAr cI (ma 1) 1898 thn ++ wAr cI (ma 2) 7592 pst' ++ wAr cI (ma 3) 1898 snp ++ wAr cC (ma 4) 80 txt ++ wAr cI (ma 5) 48 hld ++ wAr cI (ma 6) 24 far ++ wAr cZ (ma 7) 72 don ++ wAr cI (ma 8) 96 tld ++ wAr cI (ma 9) 24 dep ++ wAr cI (ma 10) 24 bit) := by
  intro X C Z
  show xb_G X 0 0 (wMo o0 ma st ik le sp nu ++ wAr cI (ma 0) 1898 now ++ wAr cI (ma 1) 1898 thn ++ wAr cI (ma 2) 7592 pst ++ wAr cI (ma 3) 1898 snp ++ wAr cC (ma 4) 80 txt ++ wAr cI (ma 5) 48 hld ++ wAr cI (ma 6) 24 far ++ wAr cZ (ma 7) 72 don ++ wAr cI (ma 8) 96 tld ++ wAr cI (ma 9) 24 dep ++ wAr cI (ma 10) 24 bit) [(0, .ref o0), (1, .int p1), (2, .int p2)] 0 []
  unfold f_X6_put at h
  refine xi_iload_n C dX6_put_0 rfl 1 rfl ?_
  obtain ⟨v1, e2, h⟩ := ob_i h
  refine xi_callS (As := [.int p1]) (o := some (.int v1)) (rest := []) (w2 := (wMo o0 ma st ik le sp nu ++ wAr cI (ma 0) 1898 now ++ wAr cI (ma 1) 1898 thn ++ wAr cI (ma 2) 7592 pst ++ wAr cI (ma 3) 1898 snp ++ wAr cC (ma 4) 80 txt ++ wAr cI (ma 5) 48 hld ++ wAr cI (ma 6) 24 far ++ wAr cZ (ma 7) 72 don ++ wAr cI (ma 8) 96 tld ++ wAr cI (ma 9) 24 dep ++ wAr cI (ma 10) 24 bit)) (st2 := [.int v1]) C k_X6_isPlace (m_X6_isPlace D cI cC cZ cR p1 v1 e2) gX6_put_X6_isPlace dX6_put_1 ⟨Nat.le_of_ble_eq_true rfl, Nat.le_of_ble_eq_true rfl, Nat.le_of_ble_eq_true rfl⟩ [] rfl rfl [0, 1, 2, 3] rfl rfl rfl rfl (Nat.le_of_ble_eq_true rfl) ⟨Nat.zero_le _, Nat.zero_le _⟩ rfl ?_
  refine xi_if_ne (tgt := 9) C dX6_put_4 (by decide) (fun c3 => ?_) (fun c3 => ?_)
  · have h := ie_i c3 h
    refine xi_iload_n C dX6_put_9 rfl 2 rfl ?_
    refine xi_iconst (v := 0) C dX6_put_10 (by decide) ?_
    refine xi_sipush (v := 255) C dX6_put_11 (by decide) ?_
    obtain ⟨v4, e5, h⟩ := ob_i h
    refine xi_callS (As := [.int p2, .int 0, .int 255]) (o := some (.int v4)) (rest := []) (w2 := (wMo o0 ma st ik le sp nu ++ wAr cI (ma 0) 1898 now ++ wAr cI (ma 1) 1898 thn ++ wAr cI (ma 2) 7592 pst ++ wAr cI (ma 3) 1898 snp ++ wAr cC (ma 4) 80 txt ++ wAr cI (ma 5) 48 hld ++ wAr cI (ma 6) 24 far ++ wAr cZ (ma 7) 72 don ++ wAr cI (ma 8) 96 tld ++ wAr cI (ma 9) 24 dep ++ wAr cI (ma 10) 24 bit)) (st2 := [.int v4]) C k_X6_in (m_X6_in D cI cC cZ cR p2 0 255 v4 e5) gX6_put_X6_in dX6_put_14 ⟨Nat.le_of_ble_eq_true rfl, Nat.le_of_ble_eq_true rfl, Nat.le_of_ble_eq_true rfl⟩ [] rfl rfl [0, 1, 2, 3] rfl rfl rfl rfl (Nat.le_of_ble_eq_true rfl) ⟨Nat.zero_le _, Nat.zero_le _⟩ rfl ?_
    refine xi_if_ne (tgt := 23) C dX6_put_17 (by decide) (fun c6 => ?_) (fun c6 => ?_)
    · have h := ie_i c6 h
      refine xi_aload_n C dX6_put_23 rfl 0 rfl ?_
      refine xi_get C dX6_put_24 iw_X6_put_6 0 rfl rfl 0 (by decide) fl_X6_put_7 rfl ?_
      refine xi_iload_n C dX6_put_27 rfl 1 rfl ?_
      obtain ⟨v7, e8, h⟩ := ob_i h
      refine xi_callS (As := [.ref (ma 0), .int p1]) (o := some (.int v7)) (rest := []) (w2 := (wMo o0 ma st ik le sp nu ++ wAr cI (ma 0) 1898 now ++ wAr cI (ma 1) 1898 thn ++ wAr cI (ma 2) 7592 pst ++ wAr cI (ma 3) 1898 snp ++ wAr cC (ma 4) 80 txt ++ wAr cI (ma 5) 48 hld ++ wAr cI (ma 6) 24 far ++ wAr cZ (ma 7) 72 don ++ wAr cI (ma 8) 96 tld ++ wAr cI (ma 9) 24 dep ++ wAr cI (ma 10) 24 bit)) (st2 := [.int v7]) C k_X6_isCell (m_X6_isCell D cI cC cZ cR (ma 0) now p1 v7 e8) gX6_put_X6_isCell dX6_put_28 ⟨Nat.le_of_ble_eq_true rfl, Nat.le_of_ble_eq_true rfl, Nat.le_of_ble_eq_true rfl⟩ [1] rfl rfl [0, 1, 2, 3] rfl rfl rfl rfl (Nat.le_of_ble_eq_true rfl) ⟨Nat.zero_le _, Nat.zero_le _⟩ rfl ?_
      refine xi_if_eq (tgt := 37) C dX6_put_31 (by decide) (fun c9 => ?_) (fun c9 => ?_)
      · have h := it_i c9 h
        refine xi_aload_n C dX6_put_37 rfl 0 rfl ?_
        obtain ⟨⟨st10, pst11⟩, e12, h⟩ := ob_i h
        refine xi_callV (As := []) (o := none) (rest := []) (w2 := (wMo o0 ma st10 ik le sp nu ++ wAr cI (ma 0) 1898 now ++ wAr cI (ma 1) 1898 thn ++ wAr cI (ma 2) 7592 pst11 ++ wAr cI (ma 3) 1898 snp ++ wAr cC (ma 4) 80 txt ++ wAr cI (ma 5) 48 hld ++ wAr cI (ma 6) 24 far ++ wAr cZ (ma 7) 72 don ++ wAr cI (ma 8) 96 tld ++ wAr cI (ma 9) 24 dep ++ wAr cI (ma 10) 24 bit)) (st2 := []) C k_X6_records (m_X6_records D cI cC cZ cR o0 ma st ik le sp nu now thn pst snp txt hld far don tld dep bit st10 pst11 e12) gX6_put_X6_records dX6_put_38 ⟨Nat.le_of_ble_eq_true rfl, Nat.le_of_ble_eq_true rfl, Nat.le_of_ble_eq_true rfl⟩ 0 rfl rfl [0, 1, 2, 3, 4, 5, 6, 7, 8, 9, 10, 11] rfl sorry [0, 1, 2, 3] rfl rfl sorry rfl (Nat.le_of_ble_eq_true rfl) ⟨Nat.zero_le _, Nat.zero_le _⟩ rfl ?_
        refine xi_aload_n C dX6_put_41 rfl 0 rfl ?_
        refine xi_get C dX6_put_42 iw_X6_put_6 0 rfl rfl 0 (by decide) fl_X6_put_7 rfl ?_
        refine xi_iconst (v := 0) C dX6_put_45 (by decide) ?_
        refine xi_iload_n C dX6_put_46 rfl 1 rfl ?_
        refine xi_iadd C dX6_put_47 ?_
        refine xi_iload_n C dX6_put_48 rfl 2 rfl ?_
        obtain ⟨now14, e13, h⟩ := ob_i h
        refine xi_iast (w2 := (wMo o0 ma st10 ik le sp nu ++ wAr cI (ma 0) 1898 now14 ++ wAr cI (ma 1) 1898 thn ++ wAr cI (ma 2) 7592 pst11 ++ wAr cI (ma 3) 1898 snp ++ wAr cC (ma 4) 80 txt ++ wAr cI (ma 5) 48 hld ++ wAr cI (ma 6) 24 far ++ wAr cZ (ma 7) 72 don ++ wAr cI (ma 8) 96 tld ++ wAr cI (ma 9) 24 dep ++ wAr cI (ma 10) 24 bit)) C dX6_put_49 1 0 rfl rfl e13 rfl ?_
        refine xi_aload_n C dX6_put_50 rfl 0 rfl ?_
        refine xi_get C dX6_put_51 iw_X6_put_6 0 rfl rfl 0 (by decide) fl_X6_put_7 rfl ?_
        obtain ⟨v15, e16, h⟩ := ob_i h
        refine xi_callS (As := [.ref (ma 0)]) (o := some (.int v15)) (rest := []) (w2 := (wMo o0 ma st10 ik le sp nu ++ wAr cI (ma 0) 1898 now14 ++ wAr cI (ma 1) 1898 thn ++ wAr cI (ma 2) 7592 pst11 ++ wAr cI (ma 3) 1898 snp ++ wAr cC (ma 4) 80 txt ++ wAr cI (ma 5) 48 hld ++ wAr cI (ma 6) 24 far ++ wAr cZ (ma 7) 72 don ++ wAr cI (ma 8) 96 tld ++ wAr cI (ma 9) 24 dep ++ wAr cI (ma 10) 24 bit)) (st2 := [.int v15]) C k_X6_cells (m_X6_cells D cI cC cZ cR (ma 0) now14 v15 e16) gX6_put_X6_cells dX6_put_54 ⟨Nat.le_of_ble_eq_true rfl, Nat.le_of_ble_eq_true rfl, Nat.le_of_ble_eq_true rfl⟩ [1] rfl rfl [0, 1, 2, 3] rfl rfl rfl rfl (Nat.le_of_ble_eq_true rfl) ⟨Nat.zero_le _, Nat.zero_le _⟩ rfl ?_
        have w0 := Option.some.inj h
        obtain ⟨q0, w1⟩ := Prod.mk.inj w0
        obtain ⟨q1, w2⟩ := Prod.mk.inj w1
        obtain ⟨q2, w3⟩ := Prod.mk.inj w2
        subst q0
        subst q1
        subst q2
        subst w3
        exact xi_iret C Z dX6_put_57
      · have h := ie_i c9 h
        refine xi_bipush (v := (-4)) C dX6_put_34 (by decide) ?_
        have w0 := Option.some.inj h
        obtain ⟨q0, w1⟩ := Prod.mk.inj w0
        obtain ⟨q1, w2⟩ := Prod.mk.inj w1
        obtain ⟨q2, w3⟩ := Prod.mk.inj w2
        subst q0
        subst q1
        subst q2
        subst w3
        exact xi_iret C Z dX6_put_36
    · have h := it_i c6 h
      refine xi_bipush (v := (-2)) C dX6_put_20 (by decide) ?_
      have w0 := Option.some.inj h
      obtain ⟨q0, w1⟩ := Prod.mk.inj w0
      obtain ⟨q1, w2⟩ := Prod.mk.inj w1
      obtain ⟨q2, w3⟩ := Prod.mk.inj w2
      subst q0
      subst q1
      subst q2
      subst w3
      exact xi_iret C Z dX6_put_22
  · have h := it_i c3 h
    refine xi_iconst (v := (-1)) C dX6_put_7 (by decide) ?_
    have w0 := Option.some.inj h
    obtain ⟨q0, w1⟩ := Prod.mk.inj w0
    obtain ⟨q1, w2⟩ := Prod.mk.inj w1
    obtain ⟨q2, w3⟩ := Prod.mk.inj w2
    subst q0
    subst q1
    subst q2
    subst w3
    exact xi_iret C Z dX6_put_8
