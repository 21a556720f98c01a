def f_X6_laysAll_38 (x2_38 : Int32) (k : (Nat → Int32) → (Nat → Int32) → (Nat → Int32) → (Nat → Int32) → Option (Int32 × (Nat → Int32) × (Nat → Int32) × (Nat → Int32) × (Nat → Int32))) : Nat → Int32 → (Nat → Int32) → (Nat → Int32) → (Nat → Int32) → (Nat → Int32) → Option (Int32 × (Nat → Int32) × (Nat → Int32) × (Nat → Int32) × (Nat → Int32))
  | 0, _, _, _, _, _ => none
  | n + 1, x3_38, hld_38, far_38, don_38, rr_38 =>
    if x3_38 = (-5) then
      k hld_38 far_38 don_38 rr_38
    else
      (f_X6_isLaid hld_38 far_38 rr_38 x3_38).bind fun (v12, hld13, far14, rr15) =>
      if v12 = 0 then
        some ((-3), hld13, far14, don_38, rr15)
      else
        (xr_w don_38 72 x3_38 (vp_nar .boolean 1)).bind fun don19 =>
        (f_X6_nextWire don19 rr15 x2_38).bind fun v20 =>
        f_X6_laysAll_38 x2_38 k n v20 hld13 far14 don19 rr15
def f_X6_laysAll_2 (k : (Nat → Int32) → (Nat → Int32) → Option (Int32 × (Nat → Int32) × (Nat → Int32) × (Nat → Int32) × (Nat → Int32))) : Nat → Int32 → (Nat → Int32) → (Nat → Int32) → Option (Int32 × (Nat → Int32) × (Nat → Int32) × (Nat → Int32) × (Nat → Int32))
  | 0, _, _, _ => none
  | n + 1, x3_2, don_2, rr_2 =>
    if 72 ≤ x3_2 then
      k don_2 rr_2
    else
      (f_X6_takesWire rr_2 x3_2).bind fun rr2 =>
      (xr_w don_2 72 x3_2 (vp_nar .boolean 0)).bind fun don5 =>
      f_X6_laysAll_2 k n (x3_2 + 1) don5 rr2
def f_X6_laysAll (hld : Nat → Int32) (far : Nat → Int32) (don : Nat → Int32) (rr : Nat → Int32) (p2 : Int32) : Option (Int32 × (Nat → Int32) × (Nat → Int32) × (Nat → Int32) × (Nat → Int32)) :=
  f_X6_laysAll_2 (fun donz6 rrz6 =>
    (f_X6_counts hld rrz6).bind fun hld7 =>
    (f_X6_nextWire donz6 rrz6 p2).bind fun v9 =>
    f_X6_laysAll_38 p2 (fun hldz22 farz22 donz22 rrz22 =>
      (f_X6_segments rrz22).bind fun v23 =>
      some (v23, hldz22, farz22, donz22, rrz22)) xFu v9 hld7 far donz6 rrz6) xFu 0 don rr
theorem k_X6_laysAll : xb_Y yX6_laysAll cX6_laysAll wsX6_laysAll 4 (some .int) { frames := 5, cells := 0, slots := 0, locals := 117 } 2 := ⟨⟨_, rfl⟩, by decide, ⟨by decide, by decide, by decide +kernel⟩, rfl, rfl⟩
theorem fl_X6_laysAll_32 : Cond.fieldLink RX6 32 "LookupBoardModel" "done" "[Z" ∈ wsX6_laysAll := List.mem_of_getElem? (i := 1) rfl
theorem iw_X6_laysAll_6 : ∀ w ∈ wsX60, w ∈ wsX6_laysAll := fun w h => List.mem_cons_of_mem _ (List.mem_append_right _ h)
set_option maxHeartbeats 4000000 in
set_option maxRecDepth 100000 in
theorem m_X6_laysAll (D : va_G) (cI cC cZ cR : ClassId) (o0 : Nat) (ma : Nat → Nat) (q : Nat) (st : Int32) (ik : Int32) (le : Int32) (sp : Int32) (nu : Int32) (hld : Nat → Int32) (far : Nat → Int32) (don : Nat → Int32) (rr : Nat → Int32) (p2 : Int32) (r : Int32) (hld' : Nat → Int32) (far' : Nat → Int32) (don' : Nat → Int32) (rr' : Nat → Int32) (h : f_X6_laysAll hld far don rr p2 = some (r, hld', far', don', rr')) : xb_M cX6_laysAll wsX6_laysAll RX6 { frames := 5, cells := 0, slots := 0, locals := 117 } (some .int) 4 (xb_ty cI cC cZ cR) D [.ref o0, .ref q, .int p2] (wMo o0 ma st ik le sp nu ++ wAr cI (ma 5) 48 hld ++ wAr cI (ma 6) 24 far ++ wAr cZ (ma 7) 72 don ++ wAr cI q 1898 rr) (some (.int r)) (wMo o0 ma st ik le sp nu ++ wAr cI (ma 5) 48 hld' ++ wAr cI (ma 6) 24 far' ++ wAr cZ (ma 7) 72 don' ++ wAr cI q 1898 rr') := by
  intro X C Z
  show xb_G X 0 0 (wMo o0 ma st ik le sp nu ++ wAr cI (ma 5) 48 hld ++ wAr cI (ma 6) 24 far ++ wAr cZ (ma 7) 72 don ++ wAr cI q 1898 rr) [(0, .ref o0), (1, .ref q), (2, .int p2)] 0 []
  have lp38 : ∀ (x2_38 : Int32) (k : (Nat → Int32) → (Nat → Int32) → (Nat → Int32) → (Nat → Int32) → Option (Int32 × (Nat → Int32) × (Nat → Int32) × (Nat → Int32) × (Nat → Int32))) (n : Nat) (x3_38 : Int32) (hld_38 : Nat → Int32) (far_38 : Nat → Int32) (don_38 : Nat → Int32) (rr_38 : Nat → Int32), f_X6_laysAll_38 x2_38 k n x3_38 hld_38 far_38 don_38 rr_38 = some (r, hld', far', don', rr') → (∀ (hld_38e : Nat → Int32) (far_38e : Nat → Int32) (don_38e : Nat → Int32) (rr_38e : Nat → Int32), k hld_38e far_38e don_38e rr_38e = some (r, hld', far', don', rr') → xb_G X 0 0 (wMo o0 ma st ik le sp nu ++ wAr cI (ma 5) 48 hld_38e ++ wAr cI (ma 6) 24 far_38e ++ wAr cZ (ma 7) 72 don_38e ++ wAr cI q 1898 rr_38e) [(1, .ref q)] 73 []) → xb_G X 0 0 (wMo o0 ma st ik le sp nu ++ wAr cI (ma 5) 48 hld_38 ++ wAr cI (ma 6) 24 far_38 ++ wAr cZ (ma 7) 72 don_38 ++ wAr cI q 1898 rr_38) [(0, .ref o0), (1, .ref q), (2, .int x2_38), (3, .int x3_38)] 38 [] := by
    intro x2_38 k n
    induction n with
    | zero => intro x3_38 hld_38 far_38 don_38 rr_38 h hk; unfold f_X6_laysAll_38 at h; cases h
    | succ n ih =>
      intro x3_38 hld_38 far_38 don_38 rr_38 h hk
      unfold f_X6_laysAll_38 at h
      refine xi_iload_n C dX6_laysAll_38 rfl 3 rfl ?_
      refine xi_bipush (v := (-5)) C dX6_laysAll_39 (by decide) ?_
      refine xi_icmp_eq (tgt := 73) C dX6_laysAll_41 (by decide) (fun c11 => ?_) (fun c11 => ?_)
      · have h := it_i c11 h
        exact xb_lv (hk hld_38 far_38 don_38 rr_38 h) [1] rfl
      · have h := ie_i c11 h
        refine xi_aload_n C dX6_laysAll_44 rfl 0 rfl ?_
        refine xi_aload_n C dX6_laysAll_45 rfl 1 rfl ?_
        refine xi_iload_n C dX6_laysAll_46 rfl 3 rfl ?_
        obtain ⟨⟨v12, hld13, far14, rr15⟩, e16, h⟩ := ob_i h
        refine xi_callV (As := [.ref q, .int x3_38]) (o := some (.int v12)) (rest := []) (w2 := (wMo o0 ma st ik le sp nu ++ wAr cI (ma 5) 48 hld13 ++ wAr cI (ma 6) 24 far14 ++ wAr cZ (ma 7) 72 don_38 ++ wAr cI q 1898 rr15)) (st2 := [.int v12]) C k_X6_isLaid (m_X6_isLaid D cI cC cZ cR o0 ma q st ik le sp nu hld_38 far_38 don_38 rr_38 x3_38 v12 hld13 far14 rr15 e16) gX6_laysAll_X6_isLaid dX6_laysAll_47 ⟨Nat.le_of_ble_eq_true rfl, Nat.le_of_ble_eq_true rfl, Nat.le_of_ble_eq_true rfl⟩ 0 rfl rfl [0, 1, 2, 3, 4] rfl rfl [0, 1, 2, 3] rfl rfl rfl rfl (Nat.le_of_ble_eq_true rfl) ⟨Nat.zero_le _, Nat.zero_le _⟩ rfl ?_
        refine xi_if_ne (tgt := 56) C dX6_laysAll_50 (by decide) (fun c17 => ?_) (fun c17 => ?_)
        · have h := ie_i c17 h
          refine xi_aload_n C dX6_laysAll_56 rfl 0 rfl ?_
          refine xi_get C dX6_laysAll_57 iw_X6_laysAll_6 0 rfl rfl 10 (by decide) fl_X6_laysAll_32 rfl ?_
          refine xi_iload_n C dX6_laysAll_60 rfl 3 rfl ?_
          refine xi_iconst (v := 1) C dX6_laysAll_61 (by decide) ?_
          obtain ⟨don19, e18, h⟩ := ob_i h
          refine xi_zast (w2 := (wMo o0 ma st ik le sp nu ++ wAr cI (ma 5) 48 hld13 ++ wAr cI (ma 6) 24 far14 ++ wAr cZ (ma 7) 72 don19 ++ wAr cI q 1898 rr15)) C dX6_laysAll_62 3 2 rfl rfl e18 rfl ?_
          refine xi_aload_n C dX6_laysAll_63 rfl 0 rfl ?_
          refine xi_aload_n C dX6_laysAll_64 rfl 1 rfl ?_
          refine xi_iload_n C dX6_laysAll_65 rfl 2 rfl ?_
          obtain ⟨v20, e21, h⟩ := ob_i h
          refine xi_callV (As := [.ref q, .int x2_38]) (o := some (.int v20)) (rest := []) (w2 := (wMo o0 ma st ik le sp nu ++ wAr cI (ma 5) 48 hld13 ++ wAr cI (ma 6) 24 far14 ++ wAr cZ (ma 7) 72 don19 ++ wAr cI q 1898 rr15)) (st2 := [.int v20]) C k_X6_nextWire (m_X6_nextWire D cI cC cZ cR o0 ma q st ik le sp nu hld13 far14 don19 rr15 x2_38 v20 e21) gX6_laysAll_X6_nextWire dX6_laysAll_66 ⟨Nat.le_of_ble_eq_true rfl, Nat.le_of_ble_eq_true rfl, Nat.le_of_ble_eq_true rfl⟩ 0 rfl rfl [0, 1, 2, 3, 4] rfl rfl [0, 1, 2, 3] rfl rfl rfl rfl (Nat.le_of_ble_eq_true rfl) ⟨Nat.zero_le _, Nat.zero_le _⟩ rfl ?_
          refine xi_istore_n (lv2 := [(0, .ref o0), (1, .ref q), (2, .int x2_38), (3, .int v20)]) C dX6_laysAll_69 rfl (by decide) [0, 1, 2] [1, 2, 3, 0] rfl ?_
          refine xi_goto (tgt := 38) C dX6_laysAll_70 (by decide) ?_
          exact xb_lv (ih v20 hld13 far14 don19 rr15 h hk) [0, 1, 2, 3] rfl
        · have h := it_i c17 h
          refine xi_bipush (v := (-3)) C dX6_laysAll_53 (by decide) ?_
          have w0 := Option.some.inj h
          obtain ⟨q0, w1⟩ := Prod.mk.inj w0
          obtain ⟨q1, w2⟩ := Prod.mk.inj w1
          obtain ⟨q2, w3⟩ := Prod.mk.inj w2
          obtain ⟨q3, w4⟩ := Prod.mk.inj w3
          subst q0
          subst q1
          subst q2
          subst q3
          subst w4
          exact xi_iret C Z dX6_laysAll_55
  have lp2 : ∀ (hld_2 : Nat → Int32) (far_2 : Nat → Int32) (x2_2 : Int32) (k : (Nat → Int32) → (Nat → Int32) → Option (Int32 × (Nat → Int32) × (Nat → Int32) × (Nat → Int32) × (Nat → Int32))) (n : Nat) (x3_2 : Int32) (don_2 : Nat → Int32) (rr_2 : Nat → Int32), f_X6_laysAll_2 k n x3_2 don_2 rr_2 = some (r, hld', far', don', rr') → (∀ (don_2e : Nat → Int32) (rr_2e : Nat → Int32), k don_2e rr_2e = some (r, hld', far', don', rr') → xb_G X 0 0 (wMo o0 ma st ik le sp nu ++ wAr cI (ma 5) 48 hld_2 ++ wAr cI (ma 6) 24 far_2 ++ wAr cZ (ma 7) 72 don_2e ++ wAr cI q 1898 rr_2e) [(0, .ref o0), (1, .ref q), (2, .int x2_2)] 26 []) → xb_G X 0 0 (wMo o0 ma st ik le sp nu ++ wAr cI (ma 5) 48 hld_2 ++ wAr cI (ma 6) 24 far_2 ++ wAr cZ (ma 7) 72 don_2 ++ wAr cI q 1898 rr_2) [(0, .ref o0), (1, .ref q), (2, .int x2_2), (3, .int x3_2)] 2 [] := by
    intro hld_2 far_2 x2_2 k n
    induction n with
    | zero => intro x3_2 don_2 rr_2 h hk; unfold f_X6_laysAll_2 at h; cases h
    | succ n ih =>
      intro x3_2 don_2 rr_2 h hk
      unfold f_X6_laysAll_2 at h
      refine xi_iload_n C dX6_laysAll_2 rfl 3 rfl ?_
      refine xi_bipush (v := 72) C dX6_laysAll_3 (by decide) ?_
      refine xi_icmp_ge (tgt := 26) C dX6_laysAll_5 (by decide) (fun c1 => ?_) (fun c1 => ?_)
      · have h := it_i c1 h
        exact xb_lv (hk don_2 rr_2 h) [0, 1, 2] rfl
      · have h := ie_i c1 h
        refine xi_aload_n C dX6_laysAll_8 rfl 1 rfl ?_
        refine xi_iload_n C dX6_laysAll_9 rfl 3 rfl ?_
        obtain ⟨rr2, e3, h⟩ := ob_i h
        refine xi_callS (As := [.ref q, .int x3_2]) (o := none) (rest := []) (w2 := (wMo o0 ma st ik le sp nu ++ wAr cI (ma 5) 48 hld_2 ++ wAr cI (ma 6) 24 far_2 ++ wAr cZ (ma 7) 72 don_2 ++ wAr cI q 1898 rr2)) (st2 := []) C k_X6_takesWire (m_X6_takesWire D cI cC cZ cR q rr_2 x3_2 rr2 e3) gX6_laysAll_X6_takesWire dX6_laysAll_10 ⟨Nat.le_of_ble_eq_true rfl, Nat.le_of_ble_eq_true rfl, Nat.le_of_ble_eq_true rfl⟩ [4] rfl rfl [0, 1, 2, 3] rfl rfl rfl rfl (Nat.le_of_ble_eq_true rfl) ⟨Nat.zero_le _, Nat.zero_le _⟩ rfl ?_
        refine xi_aload_n C dX6_laysAll_13 rfl 0 rfl ?_
        refine xi_get C dX6_laysAll_14 iw_X6_laysAll_6 0 rfl rfl 10 (by decide) fl_X6_laysAll_32 rfl ?_
        refine xi_iload_n C dX6_laysAll_17 rfl 3 rfl ?_
        refine xi_iconst (v := 0) C dX6_laysAll_18 (by decide) ?_
        obtain ⟨don5, e4, h⟩ := ob_i h
        refine xi_zast (w2 := (wMo o0 ma st ik le sp nu ++ wAr cI (ma 5) 48 hld_2 ++ wAr cI (ma 6) 24 far_2 ++ wAr cZ (ma 7) 72 don5 ++ wAr cI q 1898 rr2)) C dX6_laysAll_19 3 2 rfl rfl e4 rfl ?_
        refine xi_iinc (v := x3_2 + 1) (lv2 := [(0, .ref o0), (1, .ref q), (2, .int x2_2), (3, .int (x3_2 + 1))]) C dX6_laysAll_20 3 rfl (by rfl) (by decide) [0, 1, 2] [1, 2, 3, 0] rfl ?_
        refine xi_goto (tgt := 2) C dX6_laysAll_23 (by decide) ?_
        exact xb_lv (ih (x3_2 + 1) don5 rr2 h hk) [0, 1, 2, 3] rfl
  unfold f_X6_laysAll at h
  refine xi_iconst (v := 0) C dX6_laysAll_0 (by decide) ?_
  refine xi_istore_n (lv2 := [(0, .ref o0), (1, .ref q), (2, .int p2), (3, .int 0)]) C dX6_laysAll_1 rfl (by decide) [0, 1, 2] [1, 2, 3, 0] rfl ?_
  refine xb_lv (lp2 hld far p2 _ xFu 0 don rr h (fun donz6 rrz6 h => ?_)) [0, 1, 2, 3] rfl
  refine xi_aload_n C dX6_laysAll_26 rfl 0 rfl ?_
  refine xi_aload_n C dX6_laysAll_27 rfl 1 rfl ?_
  obtain ⟨hld7, e8, h⟩ := ob_i h
  refine xi_callV (As := [.ref q]) (o := none) (rest := []) (w2 := (wMo o0 ma st ik le sp nu ++ wAr cI (ma 5) 48 hld7 ++ wAr cI (ma 6) 24 far ++ wAr cZ (ma 7) 72 donz6 ++ wAr cI q 1898 rrz6)) (st2 := []) C k_X6_counts (m_X6_counts D cI cC cZ cR o0 ma q st ik le sp nu hld far donz6 rrz6 hld7 e8) gX6_laysAll_X6_counts dX6_laysAll_28 ⟨Nat.le_of_ble_eq_true rfl, Nat.le_of_ble_eq_true rfl, Nat.le_of_ble_eq_true rfl⟩ 0 rfl rfl [0, 1, 2, 3, 4] rfl rfl [0, 1, 2, 3] rfl rfl rfl rfl (Nat.le_of_ble_eq_true rfl) ⟨Nat.zero_le _, Nat.zero_le _⟩ rfl ?_
  refine xi_aload_n C dX6_laysAll_31 rfl 0 rfl ?_
  refine xi_aload_n C dX6_laysAll_32 rfl 1 rfl ?_
  refine xi_iload_n C dX6_laysAll_33 rfl 2 rfl ?_
  obtain ⟨v9, e10, h⟩ := ob_i h
  refine xi_callV (As := [.ref q, .int p2]) (o := some (.int v9)) (rest := []) (w2 := (wMo o0 ma st ik le sp nu ++ wAr cI (ma 5) 48 hld7 ++ wAr cI (ma 6) 24 far ++ wAr cZ (ma 7) 72 donz6 ++ wAr cI q 1898 rrz6)) (st2 := [.int v9]) C k_X6_nextWire (m_X6_nextWire D cI cC cZ cR o0 ma q st ik le sp nu hld7 far donz6 rrz6 p2 v9 e10) gX6_laysAll_X6_nextWire dX6_laysAll_34 ⟨Nat.le_of_ble_eq_true rfl, Nat.le_of_ble_eq_true rfl, Nat.le_of_ble_eq_true rfl⟩ 0 rfl rfl [0, 1, 2, 3, 4] rfl rfl [0, 1, 2, 3] rfl rfl rfl rfl (Nat.le_of_ble_eq_true rfl) ⟨Nat.zero_le _, Nat.zero_le _⟩ rfl ?_
  refine xi_istore_n (lv2 := [(0, .ref o0), (1, .ref q), (2, .int p2), (3, .int v9)]) C dX6_laysAll_37 rfl (by decide) [0, 1, 2] [1, 2, 3, 0] rfl ?_
  refine xb_lv (lp38 p2 _ xFu v9 hld7 far donz6 rrz6 h (fun hldz22 farz22 donz22 rrz22 h => ?_)) [0, 1, 2, 3] rfl
  refine xi_aload_n C dX6_laysAll_73 rfl 0 rfl ?_
  obtain ⟨v23, e24, h⟩ := ob_i h
  refine xi_callS (As := [.ref q]) (o := some (.int v23)) (rest := []) (w2 := (wMo o0 ma st ik le sp nu ++ wAr cI (ma 5) 48 hldz22 ++ wAr cI (ma 6) 24 farz22 ++ wAr cZ (ma 7) 72 donz22 ++ wAr cI q 1898 rrz22)) (st2 := [.int v23]) C k_X6_segments (m_X6_segments D cI cC cZ cR q rrz22 v23 e24) gX6_laysAll_X6_segments dX6_laysAll_74 ⟨Nat.le_of_ble_eq_true rfl, Nat.le_of_ble_eq_true rfl, Nat.le_of_ble_eq_true rfl⟩ [4] rfl rfl [0, 1, 2, 3] rfl rfl rfl rfl (Nat.le_of_ble_eq_true rfl) ⟨Nat.zero_le _, Nat.zero_le _⟩ rfl ?_
  have w0 := Option.some.inj h
  obtain ⟨q0, w1⟩ := Prod.mk.inj w0
  obtain ⟨q1, w2⟩ := Prod.mk.inj w1
  obtain ⟨q2, w3⟩ := Prod.mk.inj w2
  obtain ⟨q3, w4⟩ := Prod.mk.inj w3
  subst q0
  subst q1
  subst q2
  subst q3
  subst w4
  exact xi_iret C Z dX6_laysAll_77
