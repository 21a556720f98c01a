def f_X6_having_5 (now : Nat → Int32) (x1_5 : Int32) (x2_5 : Int32) (k : Int32 → Option (Int32)) : Nat → Int32 → Int32 → Option (Int32)
  | 0, _, _ => none
  | n + 1, x3_5, x4_5 =>
    if 72 ≤ x4_5 then
      k x3_5
    else
      (f_X6_isWire now x4_5).bind fun v2 =>
      if v2 = 0 then
        f_X6_having_5 now x1_5 x2_5 k n (x3_5 + 0) (x4_5 + 1)
      else
        if (x4_5 / 3) = x2_5 then
          f_X6_having_5 now x1_5 x2_5 k n (x3_5 + 0) (x4_5 + 1)
        else
          (xr_d now 1898 (24 + x4_5)).bind fun v6 =>
          if v6 = x1_5 then
            f_X6_having_5 now x1_5 x2_5 k n (x3_5 + 1) (x4_5 + 1)
          else
            f_X6_having_5 now x1_5 x2_5 k n (x3_5 + 0) (x4_5 + 1)
def f_X6_having (now : Nat → Int32) (p1 : Int32) (p2 : Int32) : Option (Int32) :=
  f_X6_having_5 now p1 p2 (fun x3z9 =>
    some x3z9) xFu 0 0
theorem k_X6_having : xb_Y yX6_having cX6_having wsX6_having 5 (some .int) { frames := 4, cells := 0, slots := 0, locals := 84 } 2 := ⟨⟨_, rfl⟩, by decide, ⟨by decide, by decide, by decide +kernel⟩, rfl, rfl⟩
theorem fl_X6_having_7 : Cond.fieldLink RX6 7 "LookupBoardModel" "now" "[I" ∈ wsX6_having := List.mem_of_getElem? (i := 1) rfl
theorem iw_X6_having_6 : ∀ w ∈ wsX60, w ∈ wsX6_having := fun w h => List.mem_cons_of_mem _ (List.mem_append_right _ h)
set_option maxHeartbeats 4000000 in
set_option maxRecDepth 100000 in
theorem m_X6_having (D : va_G) (cI cC cZ cR : ClassId) (o0 : Nat) (ma : Nat → Nat) (st : Int32) (ik : Int32) (le : Int32) (sp : Int32) (nu : Int32) (now : Nat → Int32) (thn : Nat → Int32) (pst : Nat → Int32) (snp : Nat → Int32) (txt : Nat → Int32) (hld : Nat → Int32) (far : Nat → Int32) (don : Nat → Int32) (tld : Nat → Int32) (dep : Nat → Int32) (bit : Nat → Int32) (p1 : Int32) (p2 : Int32) (r : Int32) (h : f_X6_having now p1 p2 = some r) : xb_M cX6_having wsX6_having RX6 { frames := 4, cells := 0, slots := 0, locals := 84 } (some .int) 5 (xb_ty cI cC cZ cR) D [.ref o0, .int p1, .int p2] (wMo o0 ma st ik le sp nu ++ wAr cI (ma 0) 1898 now ++ wAr cI (ma 1) 1898 thn ++ wAr cI (ma 2) 7592 pst ++ wAr cI (ma 3) 1898 snp ++ wAr cC (ma 4) 80 txt ++ wAr cI (ma 5) 48 hld ++ wAr cI (ma 6) 24 far ++ wAr cZ (ma 7) 72 don ++ wAr cI (ma 8) 96 tld ++ wAr cI (ma 9) 24 dep ++ wAr cI (ma 10) 24 bit) (some (.int r)) (wMo o0 ma st ik le sp nu ++ wAr cI (ma 0) 1898 now ++ wAr cI (ma 1) 1898 thn ++ wAr cI (ma 2) 7592 pst ++ wAr cI (ma 3) 1898 snp ++ wAr cC (ma 4) 80 txt ++ wAr cI (ma 5) 48 hld ++ wAr cI (ma 6) 24 far ++ wAr cZ (ma 7) 72 don ++ wAr cI (ma 8) 96 tld ++ wAr cI (ma 9) 24 dep ++ wAr cI (ma 10) 24 bit) := by
  intro X C Z
  show xb_G X 0 0 (wMo o0 ma st ik le sp nu ++ wAr cI (ma 0) 1898 now ++ wAr cI (ma 1) 1898 thn ++ wAr cI (ma 2) 7592 pst ++ wAr cI (ma 3) 1898 snp ++ wAr cC (ma 4) 80 txt ++ wAr cI (ma 5) 48 hld ++ wAr cI (ma 6) 24 far ++ wAr cZ (ma 7) 72 don ++ wAr cI (ma 8) 96 tld ++ wAr cI (ma 9) 24 dep ++ wAr cI (ma 10) 24 bit) [(0, .ref o0), (1, .int p1), (2, .int p2)] 0 []
  have lp5 : ∀ (x1_5 : Int32) (x2_5 : Int32) (k : Int32 → Option (Int32)) (n : Nat) (x3_5 : Int32) (x4_5 : Int32), f_X6_having_5 now x1_5 x2_5 k n x3_5 x4_5 = some r → (∀ (x3_5e : Int32), k x3_5e = some r → xb_G X 0 0 (wMo o0 ma st ik le sp nu ++ wAr cI (ma 0) 1898 now ++ wAr cI (ma 1) 1898 thn ++ wAr cI (ma 2) 7592 pst ++ wAr cI (ma 3) 1898 snp ++ wAr cC (ma 4) 80 txt ++ wAr cI (ma 5) 48 hld ++ wAr cI (ma 6) 24 far ++ wAr cZ (ma 7) 72 don ++ wAr cI (ma 8) 96 tld ++ wAr cI (ma 9) 24 dep ++ wAr cI (ma 10) 24 bit) [(3, .int x3_5e)] 60 []) → xb_G X 0 0 (wMo o0 ma st ik le sp nu ++ wAr cI (ma 0) 1898 now ++ wAr cI (ma 1) 1898 thn ++ wAr cI (ma 2) 7592 pst ++ wAr cI (ma 3) 1898 snp ++ wAr cC (ma 4) 80 txt ++ wAr cI (ma 5) 48 hld ++ wAr cI (ma 6) 24 far ++ wAr cZ (ma 7) 72 don ++ wAr cI (ma 8) 96 tld ++ wAr cI (ma 9) 24 dep ++ wAr cI (ma 10) 24 bit) [(0, .ref o0), (1, .int x1_5), (2, .int x2_5), (3, .int x3_5), (4, .int x4_5)] 5 [] := by
    intro x1_5 x2_5 k n
    induction n with
    | zero => intro x3_5 x4_5 h hk; unfold f_X6_having_5 at h; cases h
    | succ n ih =>
      intro x3_5 x4_5 h hk
      unfold f_X6_having_5 at h
      refine xi_iload C dX6_having_5 4 rfl ?_
      refine xi_bipush (v := 72) C dX6_having_7 (by decide) ?_
      refine xi_icmp_ge (tgt := 60) C dX6_having_9 (by decide) (fun c1 => ?_) (fun c1 => ?_)
      · have h := it_i c1 h
        exact xb_lv (hk x3_5 h) [3] rfl
      · have h := ie_i c1 h
        refine xi_iload_n C dX6_having_12 rfl 3 rfl ?_
        refine xi_aload_n C dX6_having_13 rfl 0 rfl ?_
        refine xi_get C dX6_having_14 iw_X6_having_6 0 rfl rfl 0 (by decide) fl_X6_having_7 rfl ?_
        refine xi_iload C dX6_having_17 4 rfl ?_
        obtain ⟨v2, e3, h⟩ := ob_i h
        refine xi_callS (As := [.ref (ma 0), .int x4_5]) (o := some (.int v2)) (rest := [.int x3_5]) (w2 := (wMo o0 ma st ik le sp nu ++ wAr cI (ma 0) 1898 now ++ wAr cI (ma 1) 1898 thn ++ wAr cI (ma 2) 7592 pst ++ wAr cI (ma 3) 1898 snp ++ wAr cC (ma 4) 80 txt ++ wAr cI (ma 5) 48 hld ++ wAr cI (ma 6) 24 far ++ wAr cZ (ma 7) 72 don ++ wAr cI (ma 8) 96 tld ++ wAr cI (ma 9) 24 dep ++ wAr cI (ma 10) 24 bit)) (st2 := [.int v2, .int x3_5]) C k_X6_isWire (m_X6_isWire D cI cC cZ cR (ma 0) now x4_5 v2 e3) gX6_having_X6_isWire dX6_having_19 ⟨Nat.le_of_ble_eq_true rfl, Nat.le_of_ble_eq_true rfl, Nat.le_of_ble_eq_true rfl⟩ [1] mxC_X6_1 rfl [0, 1, 2, 3] rfl mxF_X6_1 mxM_X6_1 rfl (Nat.le_of_ble_eq_true rfl) ⟨Nat.zero_le _, Nat.zero_le _⟩ rfl ?_
        refine xi_if_eq (tgt := 51) C dX6_having_22 (by decide) (fun c4 => ?_) (fun c4 => ?_)
        · have h := it_i c4 h
          refine xi_iconst (v := 0) C dX6_having_51 (by decide) ?_
          refine xi_iadd C dX6_having_52 ?_
          refine xi_istore_n (lv2 := [(0, .ref o0), (1, .int x1_5), (2, .int x2_5), (3, .int (x3_5 + 0)), (4, .int x4_5)]) C dX6_having_53 rfl (by decide) [0, 1, 2, 4] [1, 2, 3, 0, 4] rfl ?_
          refine xi_iinc (v := x4_5 + 1) (lv2 := [(0, .ref o0), (1, .int x1_5), (2, .int x2_5), (3, .int (x3_5 + 0)), (4, .int (x4_5 + 1))]) C dX6_having_54 4 rfl (by rfl) (by decide) [0, 1, 2, 3] [1, 2, 3, 4, 0] rfl ?_
          refine xi_goto (tgt := 5) C dX6_having_57 (by decide) ?_
          exact xb_lv (ih (x3_5 + 0) (x4_5 + 1) h hk) [0, 1, 2, 3, 4] rfl
        · have h := ie_i c4 h
          refine xi_iload C dX6_having_25 4 rfl ?_
          refine xi_iconst (v := 3) C dX6_having_27 (by decide) ?_
          refine xi_idiv C dX6_having_28 (by decide) ?_
          refine xi_iload_n C dX6_having_29 rfl 2 rfl ?_
          refine xi_icmp_eq (tgt := 51) C dX6_having_30 (by decide) (fun c5 => ?_) (fun c5 => ?_)
          · have h := it_i c5 h
            refine xi_iconst (v := 0) C dX6_having_51 (by decide) ?_
            refine xi_iadd C dX6_having_52 ?_
            refine xi_istore_n (lv2 := [(0, .ref o0), (1, .int x1_5), (2, .int x2_5), (3, .int (x3_5 + 0)), (4, .int x4_5)]) C dX6_having_53 rfl (by decide) [0, 1, 2, 4] [1, 2, 3, 0, 4] rfl ?_
            refine xi_iinc (v := x4_5 + 1) (lv2 := [(0, .ref o0), (1, .int x1_5), (2, .int x2_5), (3, .int (x3_5 + 0)), (4, .int (x4_5 + 1))]) C dX6_having_54 4 rfl (by rfl) (by decide) [0, 1, 2, 3] [1, 2, 3, 4, 0] rfl ?_
            refine xi_goto (tgt := 5) C dX6_having_57 (by decide) ?_
            exact xb_lv (ih (x3_5 + 0) (x4_5 + 1) h hk) [0, 1, 2, 3, 4] rfl
          · have h := ie_i c5 h
            refine xi_aload_n C dX6_having_33 rfl 0 rfl ?_
            refine xi_get C dX6_having_34 iw_X6_having_6 0 rfl rfl 0 (by decide) fl_X6_having_7 rfl ?_
            refine xi_bipush (v := 24) C dX6_having_37 (by decide) ?_
            refine xi_iload C dX6_having_39 4 rfl ?_
            refine xi_iadd C dX6_having_41 ?_
            obtain ⟨v6, e7, h⟩ := ob_i h
            refine xi_iald C dX6_having_42 1 0 rfl rfl e7 ?_
            refine xi_iload_n C dX6_having_43 rfl 1 rfl ?_
            refine xi_icmp_ne (tgt := 51) C dX6_having_44 (by decide) (fun c8 => ?_) (fun c8 => ?_)
            · have h := ie_i c8 h
              refine xi_iconst (v := 0) C dX6_having_51 (by decide) ?_
              refine xi_iadd C dX6_having_52 ?_
              refine xi_istore_n (lv2 := [(0, .ref o0), (1, .int x1_5), (2, .int x2_5), (3, .int (x3_5 + 0)), (4, .int x4_5)]) C dX6_having_53 rfl (by decide) [0, 1, 2, 4] [1, 2, 3, 0, 4] rfl ?_
              refine xi_iinc (v := x4_5 + 1) (lv2 := [(0, .ref o0), (1, .int x1_5), (2, .int x2_5), (3, .int (x3_5 + 0)), (4, .int (x4_5 + 1))]) C dX6_having_54 4 rfl (by rfl) (by decide) [0, 1, 2, 3] [1, 2, 3, 4, 0] rfl ?_
              refine xi_goto (tgt := 5) C dX6_having_57 (by decide) ?_
              exact xb_lv (ih (x3_5 + 0) (x4_5 + 1) h hk) [0, 1, 2, 3, 4] rfl
            · have h := it_i c8 h
              refine xi_iconst (v := 1) C dX6_having_47 (by decide) ?_
              refine xi_goto (tgt := 52) C dX6_having_48 (by decide) ?_
              refine xi_iadd C dX6_having_52 ?_
              refine xi_istore_n (lv2 := [(0, .ref o0), (1, .int x1_5), (2, .int x2_5), (3, .int (x3_5 + 1)), (4, .int x4_5)]) C dX6_having_53 rfl (by decide) [0, 1, 2, 4] [1, 2, 3, 0, 4] rfl ?_
              refine xi_iinc (v := x4_5 + 1) (lv2 := [(0, .ref o0), (1, .int x1_5), (2, .int x2_5), (3, .int (x3_5 + 1)), (4, .int (x4_5 + 1))]) C dX6_having_54 4 rfl (by rfl) (by decide) [0, 1, 2, 3] [1, 2, 3, 4, 0] rfl ?_
              refine xi_goto (tgt := 5) C dX6_having_57 (by decide) ?_
              exact xb_lv (ih (x3_5 + 1) (x4_5 + 1) h hk) [0, 1, 2, 3, 4] rfl
  unfold f_X6_having at h
  refine xi_iconst (v := 0) C dX6_having_0 (by decide) ?_
  refine xi_istore_n (lv2 := [(0, .ref o0), (1, .int p1), (2, .int p2), (3, .int 0)]) C dX6_having_1 rfl (by decide) [0, 1, 2] [1, 2, 3, 0] rfl ?_
  refine xi_iconst (v := 0) C dX6_having_2 (by decide) ?_
  refine xi_istore (lv2 := [(0, .ref o0), (1, .int p1), (2, .int p2), (3, .int 0), (4, .int 0)]) C dX6_having_3 (by decide) [0, 1, 2, 3] [1, 2, 3, 4, 0] rfl ?_
  refine xb_lv (lp5 p1 p2 _ xFu 0 0 h (fun x3z9 h => ?_)) [0, 1, 2, 3, 4] rfl
  refine xi_iload_n C dX6_having_60 rfl 0 rfl ?_
  have w0 := Option.some.inj h
  subst w0
  exact xi_iret C Z dX6_having_61
def f_X6_empties_11 (x1_11 : Int32) (k : (Nat → Int32) → Option ((Nat → Int32))) : Nat → Int32 → (Nat → Int32) → Option ((Nat → Int32))
  | 0, _, _ => none
  | n + 1, x2_11, rr_11 =>
    if ((3 * x1_11) + 3) ≤ x2_11 then
      k rr_11
    else
      (xr_w rr_11 1898 (24 + x2_11) 32).bind fun rr5 =>
      (f_X6_takesWire rr5 x2_11).bind fun rr6 =>
      f_X6_empties_11 x1_11 k n (x2_11 + 1) rr6
def f_X6_empties (rr : Nat → Int32) (p1 : Int32) : Option ((Nat → Int32)) :=
  (xr_w rr 1898 (0 + p1) (-5)).bind fun rr2 =>
  f_X6_empties_11 p1 (fun rrz8 =>
    some rrz8) xFu (3 * p1) rr2
theorem k_X6_empties : xb_Y yX6_empties cX6_empties wsX6_empties 3 none { frames := 1, cells := 0, slots := 0, locals := 22 } 2 := ⟨⟨_, rfl⟩, by decide, ⟨by decide, by decide, by decide +kernel⟩, rfl, rfl⟩
set_option maxHeartbeats 4000000 in
set_option maxRecDepth 100000 in
theorem m_X6_empties (D : va_G) (cI cC cZ cR : ClassId) (q : Nat) (rr : Nat → Int32) (p1 : Int32) (rr' : Nat → Int32) (h : f_X6_empties rr p1 = some rr') : xb_M cX6_empties wsX6_empties RX6 { frames := 1, cells := 0, slots := 0, locals := 22 } none 3 (xb_ty cI cC cZ cR) D [.ref q, .int p1] (wAr cI q 1898 rr) none (wAr cI q 1898 rr') := by
  intro X C Z
  show xb_G X 0 0 (wAr cI q 1898 rr) [(0, .ref q), (1, .int p1)] 0 []
  have lp11 : ∀ (x1_11 : Int32) (k : (Nat → Int32) → Option ((Nat → Int32))) (n : Nat) (x2_11 : Int32) (rr_11 : Nat → Int32), f_X6_empties_11 x1_11 k n x2_11 rr_11 = some rr' → (∀ (rr_11e : Nat → Int32), k rr_11e = some rr' → xb_G X 0 0 (wAr cI q 1898 rr_11e) [] 39 []) → xb_G X 0 0 (wAr cI q 1898 rr_11) [(0, .ref q), (1, .int x1_11), (2, .int x2_11)] 11 [] := by
    intro x1_11 k n
    induction n with
    | zero => intro x2_11 rr_11 h hk; unfold f_X6_empties_11 at h; cases h
    | succ n ih =>
      intro x2_11 rr_11 h hk
      unfold f_X6_empties_11 at h
      refine xi_iload_n C dX6_empties_11 rfl 2 rfl ?_
      refine xi_iconst (v := 3) C dX6_empties_12 (by decide) ?_
      refine xi_iload_n C dX6_empties_13 rfl 1 rfl ?_
      refine xi_imul C dX6_empties_14 ?_
      refine xi_iconst (v := 3) C dX6_empties_15 (by decide) ?_
      refine xi_iadd C dX6_empties_16 ?_
      refine xi_icmp_ge (tgt := 39) C dX6_empties_17 (by decide) (fun c3 => ?_) (fun c3 => ?_)
      · have h := it_i c3 h
        exact xb_lv (hk rr_11 h) [] rfl
      · have h := ie_i c3 h
        refine xi_aload_n C dX6_empties_20 rfl 0 rfl ?_
        refine xi_bipush (v := 24) C dX6_empties_21 (by decide) ?_
        refine xi_iload_n C dX6_empties_23 rfl 2 rfl ?_
        refine xi_iadd C dX6_empties_24 ?_
        refine xi_bipush (v := 32) C dX6_empties_25 (by decide) ?_
        obtain ⟨rr5, e4, h⟩ := ob_i h
        refine xi_iast (w2 := (wAr cI q 1898 rr5)) C dX6_empties_27 0 0 rfl rfl e4 rfl ?_
        refine xi_aload_n C dX6_empties_28 rfl 0 rfl ?_
        refine xi_iload_n C dX6_empties_29 rfl 2 rfl ?_
        obtain ⟨rr6, e7, h⟩ := ob_i h
        refine xi_callS (As := [.ref q, .int x2_11]) (o := none) (rest := []) (w2 := (wAr cI q 1898 rr6)) (st2 := []) C k_X6_takesWire (m_X6_takesWire D cI cC cZ cR q rr5 x2_11 rr6 e7) gX6_empties_X6_takesWire dX6_empties_30 ⟨Nat.le_of_ble_eq_true rfl, Nat.le_of_ble_eq_true rfl, Nat.le_of_ble_eq_true rfl⟩ [0] rfl rfl [0, 1, 2, 3] rfl rfl rfl rfl (Nat.le_of_ble_eq_true rfl) ⟨Nat.zero_le _, Nat.zero_le _⟩ rfl ?_
        refine xi_iinc (v := x2_11 + 1) (lv2 := [(0, .ref q), (1, .int x1_11), (2, .int (x2_11 + 1))]) C dX6_empties_33 2 rfl (by rfl) (by decide) [0, 1] [1, 2, 0] rfl ?_
        refine xi_goto (tgt := 11) C dX6_empties_36 (by decide) ?_
        exact xb_lv (ih (x2_11 + 1) rr6 h hk) [0, 1, 2] rfl
  unfold f_X6_empties at h
  refine xi_aload_n C dX6_empties_0 rfl 0 rfl ?_
  refine xi_iconst (v := 0) C dX6_empties_1 (by decide) ?_
  refine xi_iload_n C dX6_empties_2 rfl 1 rfl ?_
  refine xi_iadd C dX6_empties_3 ?_
  refine xi_bipush (v := (-5)) C dX6_empties_4 (by decide) ?_
  obtain ⟨rr2, e1, h⟩ := ob_i h
  refine xi_iast (w2 := (wAr cI q 1898 rr2)) C dX6_empties_6 0 0 rfl rfl e1 rfl ?_
  refine xi_iconst (v := 3) C dX6_empties_7 (by decide) ?_
  refine xi_iload_n C dX6_empties_8 rfl 1 rfl ?_
  refine xi_imul C dX6_empties_9 ?_
  refine xi_istore_n (lv2 := [(0, .ref q), (1, .int p1), (2, .int (3 * p1))]) C dX6_empties_10 rfl (by decide) [0, 1] [1, 2, 0] rfl ?_
  refine xb_lv (lp11 p1 _ xFu (3 * p1) rr2 h (fun rrz8 h => ?_)) [0, 1, 2] rfl
  have w0 := Option.some.inj h
  subst w0
  exact xi_ret C Z dX6_empties_39
def f_X6_take (st : Int32) (now : Nat → Int32) (pst : Nat → Int32) (p1 : Int32) : Option (Int32 × Int32 × (Nat → Int32) × (Nat → Int32)) :=
  (f_X6_isCell now p1).bind fun v1 =>
  if v1 = 0 then
    some ((-1), st, now, pst)
  else
    (f_X6_having now p1 p1).bind fun v4 =>
    if v4 ≤ 0 then
      (f_X6_records st now pst).bind fun (st7, pst8) =>
      (f_X6_empties now p1).bind fun rr10 =>
      (f_X6_cells rr10).bind fun v12 =>
      some (v12, st7, rr10, pst8)
    else
      some ((-4), st, now, pst)
theorem k_X6_take : xb_Y yX6_take cX6_take wsX6_take 2 (some .int) { frames := 5, cells := 0, slots := 0, locals := 108 } 1 := ⟨⟨_, rfl⟩, by decide, ⟨by decide, by decide, by decide +kernel⟩, rfl, rfl⟩
theorem fl_X6_take_7 : Cond.fieldLink RX6 7 "LookupBoardModel" "now" "[I" ∈ wsX6_take := List.mem_of_getElem? (i := 1) rfl
theorem iw_X6_take_6 : ∀ w ∈ wsX60, w ∈ wsX6_take := fun w h => List.mem_cons_of_mem _ (List.mem_append_right _ h)
set_option maxHeartbeats 4000000 in
set_option maxRecDepth 100000 in
theorem m_X6_take (D : va_G) (cI cC cZ cR : ClassId) (o0 : Nat) (ma : Nat → Nat) (st : Int32) (ik : Int32) (le : Int32) (sp : Int32) (nu : Int32) (now : Nat → Int32) (thn : Nat → Int32) (pst : Nat → Int32) (snp : Nat → Int32) (txt : Nat → Int32) (hld : Nat → Int32) (far : Nat → Int32) (don : Nat → Int32) (tld : Nat → Int32) (dep : Nat → Int32) (bit : Nat → Int32) (p1 : Int32) (r : Int32) (st' : Int32) (now' : Nat → Int32) (pst' : Nat → Int32) (h : f_X6_take st now pst p1 = some (r, st', now', pst')) : xb_M cX6_take wsX6_take RX6 { frames := 5, cells := 0, slots := 0, locals := 108 } (some .int) 2 (xb_ty cI cC cZ cR) D [.ref o0, .int p1] (wMo o0 ma st ik le sp nu ++ wAr cI (ma 0) 1898 now ++ wAr cI (ma 1) 1898 thn ++ wAr cI (ma 2) 7592 pst ++ wAr cI (ma 3) 1898 snp ++ wAr cC (ma 4) 80 txt ++ wAr cI (ma 5) 48 hld ++ wAr cI (ma 6) 24 far ++ wAr cZ (ma 7) 72 don ++ wAr cI (ma 8) 96 tld ++ wAr cI (ma 9) 24 dep ++ wAr cI (ma 10) 24 bit) (some (.int r)) (wMo o0 ma st' ik le sp nu ++ wAr cI (ma 0) 1898 now' ++ wAr cI (ma 1) 1898 thn ++ wAr cI (ma 2) 7592 pst' ++ wAr cI (ma 3) 1898 snp ++ wAr cC (ma 4) 80 txt ++ wAr cI (ma 5) 48 hld ++ wAr cI (ma 6) 24 far ++ wAr cZ (ma 7) 72 don ++ wAr cI (ma 8) 96 tld ++ wAr cI (ma 9) 24 dep ++ wAr cI (ma 10) 24 bit) := by
  intro X C Z
  show xb_G X 0 0 (wMo o0 ma st ik le sp nu ++ wAr cI (ma 0) 1898 now ++ wAr cI (ma 1) 1898 thn ++ wAr cI (ma 2) 7592 pst ++ wAr cI (ma 3) 1898 snp ++ wAr cC (ma 4) 80 txt ++ wAr cI (ma 5) 48 hld ++ wAr cI (ma 6) 24 far ++ wAr cZ (ma 7) 72 don ++ wAr cI (ma 8) 96 tld ++ wAr cI (ma 9) 24 dep ++ wAr cI (ma 10) 24 bit) [(0, .ref o0), (1, .int p1)] 0 []
  unfold f_X6_take at h
  refine xi_aload_n C dX6_take_0 rfl 0 rfl ?_
  refine xi_get C dX6_take_1 iw_X6_take_6 0 rfl rfl 0 (by decide) fl_X6_take_7 rfl ?_
  refine xi_iload_n C dX6_take_4 rfl 1 rfl ?_
  obtain ⟨v1, e2, h⟩ := ob_i h
  refine xi_callS (As := [.ref (ma 0), .int p1]) (o := some (.int v1)) (rest := []) (w2 := (wMo o0 ma st ik le sp nu ++ wAr cI (ma 0) 1898 now ++ wAr cI (ma 1) 1898 thn ++ wAr cI (ma 2) 7592 pst ++ wAr cI (ma 3) 1898 snp ++ wAr cC (ma 4) 80 txt ++ wAr cI (ma 5) 48 hld ++ wAr cI (ma 6) 24 far ++ wAr cZ (ma 7) 72 don ++ wAr cI (ma 8) 96 tld ++ wAr cI (ma 9) 24 dep ++ wAr cI (ma 10) 24 bit)) (st2 := [.int v1]) C k_X6_isCell (m_X6_isCell D cI cC cZ cR (ma 0) now p1 v1 e2) gX6_take_X6_isCell dX6_take_5 ⟨Nat.le_of_ble_eq_true rfl, Nat.le_of_ble_eq_true rfl, Nat.le_of_ble_eq_true rfl⟩ [1] mxC_X6_1 rfl [0, 1, 2, 3] rfl mxF_X6_1 mxM_X6_1 rfl (Nat.le_of_ble_eq_true rfl) ⟨Nat.zero_le _, Nat.zero_le _⟩ rfl ?_
  refine xi_if_ne (tgt := 13) C dX6_take_8 (by decide) (fun c3 => ?_) (fun c3 => ?_)
  · have h := ie_i c3 h
    refine xi_aload_n C dX6_take_13 rfl 0 rfl ?_
    refine xi_iload_n C dX6_take_14 rfl 1 rfl ?_
    refine xi_iload_n C dX6_take_15 rfl 1 rfl ?_
    obtain ⟨v4, e5, h⟩ := ob_i h
    refine xi_callV (As := [.int p1, .int p1]) (o := some (.int v4)) (rest := []) (w2 := (wMo o0 ma st ik le sp nu ++ wAr cI (ma 0) 1898 now ++ wAr cI (ma 1) 1898 thn ++ wAr cI (ma 2) 7592 pst ++ wAr cI (ma 3) 1898 snp ++ wAr cC (ma 4) 80 txt ++ wAr cI (ma 5) 48 hld ++ wAr cI (ma 6) 24 far ++ wAr cZ (ma 7) 72 don ++ wAr cI (ma 8) 96 tld ++ wAr cI (ma 9) 24 dep ++ wAr cI (ma 10) 24 bit)) (st2 := [.int v4]) C k_X6_having (m_X6_having D cI cC cZ cR o0 ma st ik le sp nu now thn pst snp txt hld far don tld dep bit p1 p1 v4 e5) gX6_take_X6_having dX6_take_16 ⟨Nat.le_of_ble_eq_true rfl, Nat.le_of_ble_eq_true rfl, Nat.le_of_ble_eq_true rfl⟩ 0 rfl rfl [0, 1, 2, 3, 4, 5, 6, 7, 8, 9, 10, 11] mxC_X6_0_1_2_3_4_5_6_7_8_9_10_11 rfl [0, 1, 2, 3] rfl mxF_X6_0_1_2_3_4_5_6_7_8_9_10_11 mxM_X6_0_1_2_3_4_5_6_7_8_9_10_11 rfl (Nat.le_of_ble_eq_true rfl) ⟨Nat.zero_le _, Nat.zero_le _⟩ rfl ?_
    refine xi_if_le (tgt := 25) C dX6_take_19 (by decide) (fun c6 => ?_) (fun c6 => ?_)
    · have h := it_i c6 h
      refine xi_aload_n C dX6_take_25 rfl 0 rfl ?_
      obtain ⟨⟨st7, pst8⟩, e9, h⟩ := ob_i h
      refine xi_callV (As := []) (o := none) (rest := []) (w2 := (wMo o0 ma st7 ik le sp nu ++ wAr cI (ma 0) 1898 now ++ wAr cI (ma 1) 1898 thn ++ wAr cI (ma 2) 7592 pst8 ++ wAr cI (ma 3) 1898 snp ++ wAr cC (ma 4) 80 txt ++ wAr cI (ma 5) 48 hld ++ wAr cI (ma 6) 24 far ++ wAr cZ (ma 7) 72 don ++ wAr cI (ma 8) 96 tld ++ wAr cI (ma 9) 24 dep ++ wAr cI (ma 10) 24 bit)) (st2 := []) C k_X6_records (m_X6_records D cI cC cZ cR o0 ma st ik le sp nu now thn pst snp txt hld far don tld dep bit st7 pst8 e9) gX6_take_X6_records dX6_take_26 ⟨Nat.le_of_ble_eq_true rfl, Nat.le_of_ble_eq_true rfl, Nat.le_of_ble_eq_true rfl⟩ 0 rfl rfl [0, 1, 2, 3, 4, 5, 6, 7, 8, 9, 10, 11] mxC_X6_0_1_2_3_4_5_6_7_8_9_10_11 rfl [0, 1, 2, 3] rfl mxF_X6_0_1_2_3_4_5_6_7_8_9_10_11 mxM_X6_0_1_2_3_4_5_6_7_8_9_10_11 rfl (Nat.le_of_ble_eq_true rfl) ⟨Nat.zero_le _, Nat.zero_le _⟩ rfl ?_
      refine xi_aload_n C dX6_take_29 rfl 0 rfl ?_
      refine xi_get C dX6_take_30 iw_X6_take_6 0 rfl rfl 0 (by decide) fl_X6_take_7 rfl ?_
      refine xi_iload_n C dX6_take_33 rfl 1 rfl ?_
      obtain ⟨rr10, e11, h⟩ := ob_i h
      refine xi_callS (As := [.ref (ma 0), .int p1]) (o := none) (rest := []) (w2 := (wMo o0 ma st7 ik le sp nu ++ wAr cI (ma 0) 1898 rr10 ++ wAr cI (ma 1) 1898 thn ++ wAr cI (ma 2) 7592 pst8 ++ wAr cI (ma 3) 1898 snp ++ wAr cC (ma 4) 80 txt ++ wAr cI (ma 5) 48 hld ++ wAr cI (ma 6) 24 far ++ wAr cZ (ma 7) 72 don ++ wAr cI (ma 8) 96 tld ++ wAr cI (ma 9) 24 dep ++ wAr cI (ma 10) 24 bit)) (st2 := []) C k_X6_empties (m_X6_empties D cI cC cZ cR (ma 0) now p1 rr10 e11) gX6_take_X6_empties dX6_take_34 ⟨Nat.le_of_ble_eq_true rfl, Nat.le_of_ble_eq_true rfl, Nat.le_of_ble_eq_true rfl⟩ [1] mxC_X6_1 rfl [0, 1, 2, 3] rfl mxF_X6_1 mxM_X6_1 rfl (Nat.le_of_ble_eq_true rfl) ⟨Nat.zero_le _, Nat.zero_le _⟩ rfl ?_
      refine xi_aload_n C dX6_take_37 rfl 0 rfl ?_
      refine xi_get C dX6_take_38 iw_X6_take_6 0 rfl rfl 0 (by decide) fl_X6_take_7 rfl ?_
      obtain ⟨v12, e13, h⟩ := ob_i h
      refine xi_callS (As := [.ref (ma 0)]) (o := some (.int v12)) (rest := []) (w2 := (wMo o0 ma st7 ik le sp nu ++ wAr cI (ma 0) 1898 rr10 ++ wAr cI (ma 1) 1898 thn ++ wAr cI (ma 2) 7592 pst8 ++ wAr cI (ma 3) 1898 snp ++ wAr cC (ma 4) 80 txt ++ wAr cI (ma 5) 48 hld ++ wAr cI (ma 6) 24 far ++ wAr cZ (ma 7) 72 don ++ wAr cI (ma 8) 96 tld ++ wAr cI (ma 9) 24 dep ++ wAr cI (ma 10) 24 bit)) (st2 := [.int v12]) C k_X6_cells (m_X6_cells D cI cC cZ cR (ma 0) rr10 v12 e13) gX6_take_X6_cells dX6_take_41 ⟨Nat.le_of_ble_eq_true rfl, Nat.le_of_ble_eq_true rfl, Nat.le_of_ble_eq_true rfl⟩ [1] mxC_X6_1 rfl [0, 1, 2, 3] rfl mxF_X6_1 mxM_X6_1 rfl (Nat.le_of_ble_eq_true rfl) ⟨Nat.zero_le _, Nat.zero_le _⟩ rfl ?_
      have w0 := Option.some.inj h
      obtain ⟨q0, w1⟩ := Prod.mk.inj w0
      obtain ⟨q1, w2⟩ := Prod.mk.inj w1
      obtain ⟨q2, w3⟩ := Prod.mk.inj w2
      subst q0
      subst q1
      subst q2
      subst w3
      exact xi_iret C Z dX6_take_44
    · have h := ie_i c6 h
      refine xi_bipush (v := (-4)) C dX6_take_22 (by decide) ?_
      have w0 := Option.some.inj h
      obtain ⟨q0, w1⟩ := Prod.mk.inj w0
      obtain ⟨q1, w2⟩ := Prod.mk.inj w1
      obtain ⟨q2, w3⟩ := Prod.mk.inj w2
      subst q0
      subst q1
      subst q2
      subst w3
      exact xi_iret C Z dX6_take_24
  · have h := it_i c3 h
    refine xi_iconst (v := (-1)) C dX6_take_11 (by decide) ?_
    have w0 := Option.some.inj h
    obtain ⟨q0, w1⟩ := Prod.mk.inj w0
    obtain ⟨q1, w2⟩ := Prod.mk.inj w1
    obtain ⟨q2, w3⟩ := Prod.mk.inj w2
    subst q0
    subst q1
    subst q2
    subst w3
    exact xi_iret C Z dX6_take_12
def f_X6_becomes (st : Int32) (now : Nat → Int32) (pst : Nat → Int32) (p1 : Int32) (p2 : Int32) : Option (Int32 × Int32 × (Nat → Int32) × (Nat → Int32)) :=
  (xr_d now 1898 p1).bind fun v1 =>
  if v1 = p2 then
    some ((-5), st, now, pst)
  else
    (f_X6_records st now pst).bind fun (st4, pst5) =>
    (xr_w now 1898 p1 p2).bind fun now8 =>
    some (v1, st4, now8, pst5)
theorem k_X6_becomes : xb_Y yX6_becomes cX6_becomes wsX6_becomes 4 (some .int) { frames := 2, cells := 0, slots := 0, locals := 45 } 2 := ⟨⟨_, rfl⟩, by decide, ⟨by decide, by decide, by decide +kernel⟩, rfl, rfl⟩
theorem fl_X6_becomes_7 : Cond.fieldLink RX6 7 "LookupBoardModel" "now" "[I" ∈ wsX6_becomes := List.mem_of_getElem? (i := 1) rfl
theorem iw_X6_becomes_6 : ∀ w ∈ wsX60, w ∈ wsX6_becomes := fun w h => List.mem_cons_of_mem _ (List.mem_append_right _ h)
set_option maxHeartbeats 4000000 in
set_option maxRecDepth 100000 in
theorem m_X6_becomes (D : va_G) (cI cC cZ cR : ClassId) (o0 : Nat) (ma : Nat → Nat) (st : Int32) (ik : Int32) (le : Int32) (sp : Int32) (nu : Int32) (now : Nat → Int32) (thn : Nat → Int32) (pst : Nat → Int32) (snp : Nat → Int32) (txt : Nat → Int32) (hld : Nat → Int32) (far : Nat → Int32) (don : Nat → Int32) (tld : Nat → Int32) (dep : Nat → Int32) (bit : Nat → Int32) (p1 : Int32) (p2 : Int32) (r : Int32) (st' : Int32) (now' : Nat → Int32) (pst' : Nat → Int32) (h : f_X6_becomes st now pst p1 p2 = some (r, st', now', pst')) : xb_M cX6_becomes wsX6_becomes RX6 { frames := 2, cells := 0, slots := 0, locals := 45 } (some .int) 4 (xb_ty cI cC cZ cR) D [.ref o0, .int p1, .int p2] (wMo o0 ma st ik le sp nu ++ wAr cI (ma 0) 1898 now ++ wAr cI (ma 1) 1898 thn ++ wAr cI (ma 2) 7592 pst ++ wAr cI (ma 3) 1898 snp ++ wAr cC (ma 4) 80 txt ++ wAr cI (ma 5) 48 hld ++ wAr cI (ma 6) 24 far ++ wAr cZ (ma 7) 72 don ++ wAr cI (ma 8) 96 tld ++ wAr cI (ma 9) 24 dep ++ wAr cI (ma 10) 24 bit) (some (.int r)) (wMo o0 ma st' ik le sp nu ++ wAr cI (ma 0) 1898 now' ++ wAr cI (ma 1) 1898 thn ++ wAr cI (ma 2) 7592 pst' ++ wAr cI (ma 3) 1898 snp ++ wAr cC (ma 4) 80 txt ++ wAr cI (ma 5) 48 hld ++ wAr cI (ma 6) 24 far ++ wAr cZ (ma 7) 72 don ++ wAr cI (ma 8) 96 tld ++ wAr cI (ma 9) 24 dep ++ wAr cI (ma 10) 24 bit) := by
  intro X C Z
  show xb_G X 0 0 (wMo o0 ma st ik le sp nu ++ wAr cI (ma 0) 1898 now ++ wAr cI (ma 1) 1898 thn ++ wAr cI (ma 2) 7592 pst ++ wAr cI (ma 3) 1898 snp ++ wAr cC (ma 4) 80 txt ++ wAr cI (ma 5) 48 hld ++ wAr cI (ma 6) 24 far ++ wAr cZ (ma 7) 72 don ++ wAr cI (ma 8) 96 tld ++ wAr cI (ma 9) 24 dep ++ wAr cI (ma 10) 24 bit) [(0, .ref o0), (1, .int p1), (2, .int p2)] 0 []
  unfold f_X6_becomes at h
  refine xi_aload_n C dX6_becomes_0 rfl 0 rfl ?_
  refine xi_get C dX6_becomes_1 iw_X6_becomes_6 0 rfl rfl 0 (by decide) fl_X6_becomes_7 rfl ?_
  refine xi_iload_n C dX6_becomes_4 rfl 1 rfl ?_
  obtain ⟨v1, e2, h⟩ := ob_i h
  refine xi_iald C dX6_becomes_5 1 0 rfl rfl e2 ?_
  refine xi_istore_n (lv2 := [(0, .ref o0), (1, .int p1), (2, .int p2), (3, .int v1)]) C dX6_becomes_6 rfl (by decide) [0, 1, 2] [1, 2, 3, 0] rfl ?_
  refine xi_iload_n C dX6_becomes_7 rfl 3 rfl ?_
  refine xi_iload_n C dX6_becomes_8 rfl 2 rfl ?_
  refine xi_icmp_ne (tgt := 15) C dX6_becomes_9 (by decide) (fun c3 => ?_) (fun c3 => ?_)
  · have h := ie_i c3 h
    refine xi_aload_n C dX6_becomes_15 rfl 0 rfl ?_
    obtain ⟨⟨st4, pst5⟩, e6, h⟩ := ob_i h
    refine xi_callV (As := []) (o := none) (rest := []) (w2 := (wMo o0 ma st4 ik le sp nu ++ wAr cI (ma 0) 1898 now ++ wAr cI (ma 1) 1898 thn ++ wAr cI (ma 2) 7592 pst5 ++ wAr cI (ma 3) 1898 snp ++ wAr cC (ma 4) 80 txt ++ wAr cI (ma 5) 48 hld ++ wAr cI (ma 6) 24 far ++ wAr cZ (ma 7) 72 don ++ wAr cI (ma 8) 96 tld ++ wAr cI (ma 9) 24 dep ++ wAr cI (ma 10) 24 bit)) (st2 := []) C k_X6_records (m_X6_records D cI cC cZ cR o0 ma st ik le sp nu now thn pst snp txt hld far don tld dep bit st4 pst5 e6) gX6_becomes_X6_records dX6_becomes_16 ⟨Nat.le_of_ble_eq_true rfl, Nat.le_of_ble_eq_true rfl, Nat.le_of_ble_eq_true rfl⟩ 0 rfl rfl [0, 1, 2, 3, 4, 5, 6, 7, 8, 9, 10, 11] mxC_X6_0_1_2_3_4_5_6_7_8_9_10_11 rfl [0, 1, 2, 3] rfl mxF_X6_0_1_2_3_4_5_6_7_8_9_10_11 mxM_X6_0_1_2_3_4_5_6_7_8_9_10_11 rfl (Nat.le_of_ble_eq_true rfl) ⟨Nat.zero_le _, Nat.zero_le _⟩ rfl ?_
    refine xi_aload_n C dX6_becomes_19 rfl 0 rfl ?_
    refine xi_get C dX6_becomes_20 iw_X6_becomes_6 0 rfl rfl 0 (by decide) fl_X6_becomes_7 rfl ?_
    refine xi_iload_n C dX6_becomes_23 rfl 1 rfl ?_
    refine xi_iload_n C dX6_becomes_24 rfl 2 rfl ?_
    obtain ⟨now8, e7, h⟩ := ob_i h
    refine xi_iast (w2 := (wMo o0 ma st4 ik le sp nu ++ wAr cI (ma 0) 1898 now8 ++ wAr cI (ma 1) 1898 thn ++ wAr cI (ma 2) 7592 pst5 ++ wAr cI (ma 3) 1898 snp ++ wAr cC (ma 4) 80 txt ++ wAr cI (ma 5) 48 hld ++ wAr cI (ma 6) 24 far ++ wAr cZ (ma 7) 72 don ++ wAr cI (ma 8) 96 tld ++ wAr cI (ma 9) 24 dep ++ wAr cI (ma 10) 24 bit)) C dX6_becomes_25 1 0 rfl rfl e7 rfl ?_
    refine xi_iload_n C dX6_becomes_26 rfl 3 rfl ?_
    have w0 := Option.some.inj h
    obtain ⟨q0, w1⟩ := Prod.mk.inj w0
    obtain ⟨q1, w2⟩ := Prod.mk.inj w1
    obtain ⟨q2, w3⟩ := Prod.mk.inj w2
    subst q0
    subst q1
    subst q2
    subst w3
    exact xi_iret C Z dX6_becomes_27
  · have h := it_i c3 h
    refine xi_bipush (v := (-5)) C dX6_becomes_12 (by decide) ?_
    have w0 := Option.some.inj h
    obtain ⟨q0, w1⟩ := Prod.mk.inj w0
    obtain ⟨q1, w2⟩ := Prod.mk.inj w1
    obtain ⟨q2, w3⟩ := Prod.mk.inj w2
    subst q0
    subst q1
    subst q2
    subst w3
    exact xi_iret C Z dX6_becomes_14
def f_X6_setTable (st : Int32) (now : Nat → Int32) (pst : Nat → Int32) (p1 : Int32) (p2 : Int32) : Option (Int32 × Int32 × (Nat → Int32) × (Nat → Int32)) :=
  (f_X6_isCell now p1).bind fun v1 =>
  if v1 = 0 then
    some ((-1), st, now, pst)
  else
    (f_X6_in p2 0 255).bind fun v4 =>
    if v4 = 0 then
      some ((-2), st, now, pst)
    else
      (f_X6_becomes st now pst (0 + p1) p2).bind fun (v7, st8, now9, pst10) =>
      some (v7, st8, now9, pst10)
theorem k_X6_setTable : xb_Y yX6_setTable cX6_setTable wsX6_setTable 3 (some .int) { frames := 3, cells := 0, slots := 0, locals := 68 } 2 := ⟨⟨_, rfl⟩, by decide, ⟨by decide, by decide, by decide +kernel⟩, rfl, rfl⟩
theorem fl_X6_setTable_7 : Cond.fieldLink RX6 7 "LookupBoardModel" "now" "[I" ∈ wsX6_setTable := List.mem_of_getElem? (i := 1) rfl
theorem iw_X6_setTable_6 : ∀ w ∈ wsX60, w ∈ wsX6_setTable := fun w h => List.mem_cons_of_mem _ (List.mem_append_right _ h)
set_option maxHeartbeats 4000000 in
set_option maxRecDepth 100000 in
theorem m_X6_setTable (D : va_G) (cI cC cZ cR : ClassId) (o0 : Nat) (ma : Nat → Nat) (st : Int32) (ik : Int32) (le : Int32) (sp : Int32) (nu : Int32) (now : Nat → Int32) (thn : Nat → Int32) (pst : Nat → Int32) (snp : Nat → Int32) (txt : Nat → Int32) (hld : Nat → Int32) (far : Nat → Int32) (don : Nat → Int32) (tld : Nat → Int32) (dep : Nat → Int32) (bit : Nat → Int32) (p1 : Int32) (p2 : Int32) (r : Int32) (st' : Int32) (now' : Nat → Int32) (pst' : Nat → Int32) (h : f_X6_setTable st now pst p1 p2 = some (r, st', now', pst')) : xb_M cX6_setTable wsX6_setTable RX6 { frames := 3, cells := 0, slots := 0, locals := 68 } (some .int) 3 (xb_ty cI cC cZ cR) D [.ref o0, .int p1, .int p2] (wMo o0 ma st ik le sp nu ++ wAr cI (ma 0) 1898 now ++ wAr cI (ma 1) 1898 thn ++ wAr cI (ma 2) 7592 pst ++ wAr cI (ma 3) 1898 snp ++ wAr cC (ma 4) 80 txt ++ wAr cI (ma 5) 48 hld ++ wAr cI (ma 6) 24 far ++ wAr cZ (ma 7) 72 don ++ wAr cI (ma 8) 96 tld ++ wAr cI (ma 9) 24 dep ++ wAr cI (ma 10) 24 bit) (some (.int r)) (wMo o0 ma st' ik le sp nu ++ wAr cI (ma 0) 1898 now' ++ wAr cI (ma 1) 1898 thn ++ wAr cI (ma 2) 7592 pst' ++ wAr cI (ma 3) 1898 snp ++ wAr cC (ma 4) 80 txt ++ wAr cI (ma 5) 48 hld ++ wAr cI (ma 6) 24 far ++ wAr cZ (ma 7) 72 don ++ wAr cI (ma 8) 96 tld ++ wAr cI (ma 9) 24 dep ++ wAr cI (ma 10) 24 bit) := by
  intro X C Z
  show xb_G X 0 0 (wMo o0 ma st ik le sp nu ++ wAr cI (ma 0) 1898 now ++ wAr cI (ma 1) 1898 thn ++ wAr cI (ma 2) 7592 pst ++ wAr cI (ma 3) 1898 snp ++ wAr cC (ma 4) 80 txt ++ wAr cI (ma 5) 48 hld ++ wAr cI (ma 6) 24 far ++ wAr cZ (ma 7) 72 don ++ wAr cI (ma 8) 96 tld ++ wAr cI (ma 9) 24 dep ++ wAr cI (ma 10) 24 bit) [(0, .ref o0), (1, .int p1), (2, .int p2)] 0 []
  unfold f_X6_setTable at h
  refine xi_aload_n C dX6_setTable_0 rfl 0 rfl ?_
  refine xi_get C dX6_setTable_1 iw_X6_setTable_6 0 rfl rfl 0 (by decide) fl_X6_setTable_7 rfl ?_
  refine xi_iload_n C dX6_setTable_4 rfl 1 rfl ?_
  obtain ⟨v1, e2, h⟩ := ob_i h
  refine xi_callS (As := [.ref (ma 0), .int p1]) (o := some (.int v1)) (rest := []) (w2 := (wMo o0 ma st ik le sp nu ++ wAr cI (ma 0) 1898 now ++ wAr cI (ma 1) 1898 thn ++ wAr cI (ma 2) 7592 pst ++ wAr cI (ma 3) 1898 snp ++ wAr cC (ma 4) 80 txt ++ wAr cI (ma 5) 48 hld ++ wAr cI (ma 6) 24 far ++ wAr cZ (ma 7) 72 don ++ wAr cI (ma 8) 96 tld ++ wAr cI (ma 9) 24 dep ++ wAr cI (ma 10) 24 bit)) (st2 := [.int v1]) C k_X6_isCell (m_X6_isCell D cI cC cZ cR (ma 0) now p1 v1 e2) gX6_setTable_X6_isCell dX6_setTable_5 ⟨Nat.le_of_ble_eq_true rfl, Nat.le_of_ble_eq_true rfl, Nat.le_of_ble_eq_true rfl⟩ [1] mxC_X6_1 rfl [0, 1, 2, 3] rfl mxF_X6_1 mxM_X6_1 rfl (Nat.le_of_ble_eq_true rfl) ⟨Nat.zero_le _, Nat.zero_le _⟩ rfl ?_
  refine xi_if_ne (tgt := 13) C dX6_setTable_8 (by decide) (fun c3 => ?_) (fun c3 => ?_)
  · have h := ie_i c3 h
    refine xi_iload_n C dX6_setTable_13 rfl 2 rfl ?_
    refine xi_iconst (v := 0) C dX6_setTable_14 (by decide) ?_
    refine xi_sipush (v := 255) C dX6_setTable_15 (by decide) ?_
    obtain ⟨v4, e5, h⟩ := ob_i h
    refine xi_callS (As := [.int p2, .int 0, .int 255]) (o := some (.int v4)) (rest := []) (w2 := (wMo o0 ma st ik le sp nu ++ wAr cI (ma 0) 1898 now ++ wAr cI (ma 1) 1898 thn ++ wAr cI (ma 2) 7592 pst ++ wAr cI (ma 3) 1898 snp ++ wAr cC (ma 4) 80 txt ++ wAr cI (ma 5) 48 hld ++ wAr cI (ma 6) 24 far ++ wAr cZ (ma 7) 72 don ++ wAr cI (ma 8) 96 tld ++ wAr cI (ma 9) 24 dep ++ wAr cI (ma 10) 24 bit)) (st2 := [.int v4]) C k_X6_in (m_X6_in D cI cC cZ cR p2 0 255 v4 e5) gX6_setTable_X6_in dX6_setTable_18 ⟨Nat.le_of_ble_eq_true rfl, Nat.le_of_ble_eq_true rfl, Nat.le_of_ble_eq_true rfl⟩ [] rfl rfl [0, 1, 2, 3] rfl rfl rfl rfl (Nat.le_of_ble_eq_true rfl) ⟨Nat.zero_le _, Nat.zero_le _⟩ rfl ?_
    refine xi_if_eq (tgt := 35) C dX6_setTable_21 (by decide) (fun c6 => ?_) (fun c6 => ?_)
    · have h := it_i c6 h
      refine xi_bipush (v := (-2)) C dX6_setTable_35 (by decide) ?_
      have w0 := Option.some.inj h
      obtain ⟨q0, w1⟩ := Prod.mk.inj w0
      obtain ⟨q1, w2⟩ := Prod.mk.inj w1
      obtain ⟨q2, w3⟩ := Prod.mk.inj w2
      subst q0
      subst q1
      subst q2
      subst w3
      exact xi_iret C Z dX6_setTable_37
    · have h := ie_i c6 h
      refine xi_aload_n C dX6_setTable_24 rfl 0 rfl ?_
      refine xi_iconst (v := 0) C dX6_setTable_25 (by decide) ?_
      refine xi_iload_n C dX6_setTable_26 rfl 1 rfl ?_
      refine xi_iadd C dX6_setTable_27 ?_
      refine xi_iload_n C dX6_setTable_28 rfl 2 rfl ?_
      obtain ⟨⟨v7, st8, now9, pst10⟩, e11, h⟩ := ob_i h
      refine xi_callV (As := [.int (0 + p1), .int p2]) (o := some (.int v7)) (rest := []) (w2 := (wMo o0 ma st8 ik le sp nu ++ wAr cI (ma 0) 1898 now9 ++ wAr cI (ma 1) 1898 thn ++ wAr cI (ma 2) 7592 pst10 ++ wAr cI (ma 3) 1898 snp ++ wAr cC (ma 4) 80 txt ++ wAr cI (ma 5) 48 hld ++ wAr cI (ma 6) 24 far ++ wAr cZ (ma 7) 72 don ++ wAr cI (ma 8) 96 tld ++ wAr cI (ma 9) 24 dep ++ wAr cI (ma 10) 24 bit)) (st2 := [.int v7]) C k_X6_becomes (m_X6_becomes D cI cC cZ cR o0 ma st ik le sp nu now thn pst snp txt hld far don tld dep bit (0 + p1) p2 v7 st8 now9 pst10 e11) gX6_setTable_X6_becomes dX6_setTable_29 ⟨Nat.le_of_ble_eq_true rfl, Nat.le_of_ble_eq_true rfl, Nat.le_of_ble_eq_true rfl⟩ 0 rfl rfl [0, 1, 2, 3, 4, 5, 6, 7, 8, 9, 10, 11] mxC_X6_0_1_2_3_4_5_6_7_8_9_10_11 rfl [0, 1, 2, 3] rfl mxF_X6_0_1_2_3_4_5_6_7_8_9_10_11 mxM_X6_0_1_2_3_4_5_6_7_8_9_10_11 rfl (Nat.le_of_ble_eq_true rfl) ⟨Nat.zero_le _, Nat.zero_le _⟩ rfl ?_
      refine xi_goto (tgt := 37) C dX6_setTable_32 (by decide) ?_
      have w0 := Option.some.inj h
      obtain ⟨q0, w1⟩ := Prod.mk.inj w0
      obtain ⟨q1, w2⟩ := Prod.mk.inj w1
      obtain ⟨q2, w3⟩ := Prod.mk.inj w2
      subst q0
      subst q1
      subst q2
      subst w3
      exact xi_iret C Z dX6_setTable_37
  · have h := it_i c3 h
    refine xi_iconst (v := (-1)) C dX6_setTable_11 (by decide) ?_
    have w0 := Option.some.inj h
    obtain ⟨q0, w1⟩ := Prod.mk.inj w0
    obtain ⟨q1, w2⟩ := Prod.mk.inj w1
    obtain ⟨q2, w3⟩ := Prod.mk.inj w2
    subst q0
    subst q1
    subst q2
    subst w3
    exact xi_iret C Z dX6_setTable_12
def f_X6_isSource (rr : Nat → Int32) (p1 : Int32) : Option (Int32) :=
  (f_X6_in p1 24 33).bind fun v1 =>
  if v1 = 0 then
    (f_X6_isCell rr p1).bind fun v4 =>
    if v4 = 0 then
      some 0
    else
      some 1
  else
    some 1
theorem k_X6_isSource : xb_Y yX6_isSource cX6_isSource wsX6_isSource 2 (some .boolean) { frames := 3, cells := 0, slots := 0, locals := 63 } 2 := ⟨⟨_, rfl⟩, by decide, ⟨by decide, by decide, by decide +kernel⟩, rfl, rfl⟩
set_option maxHeartbeats 4000000 in
set_option maxRecDepth 100000 in
theorem m_X6_isSource (D : va_G) (cI cC cZ cR : ClassId) (q : Nat) (rr : Nat → Int32) (p1 : Int32) (r : Int32) (h : f_X6_isSource rr p1 = some r) : xb_M cX6_isSource wsX6_isSource RX6 { frames := 3, cells := 0, slots := 0, locals := 63 } (some .boolean) 2 (xb_ty cI cC cZ cR) D [.ref q, .int p1] (wAr cI q 1898 rr) (some (.int r)) (wAr cI q 1898 rr) := by
  intro X C Z
  show xb_G X 0 0 (wAr cI q 1898 rr) [(0, .ref q), (1, .int p1)] 0 []
  unfold f_X6_isSource at h
  refine xi_iload_n C dX6_isSource_0 rfl 1 rfl ?_
  refine xi_bipush (v := 24) C dX6_isSource_1 (by decide) ?_
  refine xi_bipush (v := 33) C dX6_isSource_3 (by decide) ?_
  obtain ⟨v1, e2, h⟩ := ob_i h
  refine xi_callS (As := [.int p1, .int 24, .int 33]) (o := some (.int v1)) (rest := []) (w2 := (wAr cI q 1898 rr)) (st2 := [.int v1]) C k_X6_in (m_X6_in D cI cC cZ cR p1 24 33 v1 e2) gX6_isSource_X6_in dX6_isSource_5 ⟨Nat.le_of_ble_eq_true rfl, Nat.le_of_ble_eq_true rfl, Nat.le_of_ble_eq_true rfl⟩ [] rfl rfl [0, 1, 2, 3] rfl rfl rfl rfl (Nat.le_of_ble_eq_true rfl) ⟨Nat.zero_le _, Nat.zero_le _⟩ rfl ?_
  refine xi_if_ne (tgt := 19) C dX6_isSource_8 (by decide) (fun c3 => ?_) (fun c3 => ?_)
  · have h := ie_i c3 h
    refine xi_iconst (v := 1) C dX6_isSource_19 (by decide) ?_
    refine xi_goto (tgt := 24) C dX6_isSource_20 (by decide) ?_
    have w0 := Option.some.inj h
    subst w0
    exact xi_zret C Z dX6_isSource_24 xb_nz1
  · have h := it_i c3 h
    refine xi_aload_n C dX6_isSource_11 rfl 0 rfl ?_
    refine xi_iload_n C dX6_isSource_12 rfl 1 rfl ?_
    obtain ⟨v4, e5, h⟩ := ob_i h
    refine xi_callS (As := [.ref q, .int p1]) (o := some (.int v4)) (rest := []) (w2 := (wAr cI q 1898 rr)) (st2 := [.int v4]) C k_X6_isCell (m_X6_isCell D cI cC cZ cR q rr p1 v4 e5) gX6_isSource_X6_isCell dX6_isSource_13 ⟨Nat.le_of_ble_eq_true rfl, Nat.le_of_ble_eq_true rfl, Nat.le_of_ble_eq_true rfl⟩ [0] rfl rfl [0, 1, 2, 3] rfl rfl rfl rfl (Nat.le_of_ble_eq_true rfl) ⟨Nat.zero_le _, Nat.zero_le _⟩ rfl ?_
    refine xi_if_eq (tgt := 23) C dX6_isSource_16 (by decide) (fun c6 => ?_) (fun c6 => ?_)
    · have h := it_i c6 h
      refine xi_iconst (v := 0) C dX6_isSource_23 (by decide) ?_
      have w0 := Option.some.inj h
      subst w0
      exact xi_zret C Z dX6_isSource_24 xb_nz0
    · have h := ie_i c6 h
      refine xi_iconst (v := 1) C dX6_isSource_19 (by decide) ?_
      refine xi_goto (tgt := 24) C dX6_isSource_20 (by decide) ?_
      have w0 := Option.some.inj h
      subst w0
      exact xi_zret C Z dX6_isSource_24 xb_nz1
def f_X6_connect (st : Int32) (now : Nat → Int32) (thn : Nat → Int32) (pst : Nat → Int32) (hld : Nat → Int32) (far : Nat → Int32) (p1 : Int32) (p2 : Int32) (p3 : Int32) : Option (Int32 × Int32 × (Nat → Int32) × (Nat → Int32) × (Nat → Int32) × (Nat → Int32) × (Nat → Int32)) :=
  (f_X6_isCell now p1).bind fun v1 =>
  if v1 = 0 then
    some ((-1), st, now, thn, pst, hld, far)
  else
    (f_X6_in p2 0 2).bind fun v4 =>
    if v4 = 0 then
      some ((-1), st, now, thn, pst, hld, far)
    else
      (f_X6_isSource now p3).bind fun v7 =>
      if v7 = 0 then
        some ((-1), st, now, thn, pst, hld, far)
      else
        (xr_d now 1898 (24 + ((3 * p1) + p2))).bind fun v10 =>
        if v10 = p3 then
          some ((-5), st, now, thn, pst, hld, far)
        else
          (f_X6_lays 1898 1898 now thn 0 0).bind fun g13 =>
          (f_X6_takesWire g13 ((3 * p1) + p2)).bind fun rr15 =>
          (xr_w rr15 1898 (24 + ((3 * p1) + p2)) p3).bind fun thn18 =>
          (f_X6_counts hld thn18).bind fun hld19 =>
          (f_X6_isWire thn18 ((3 * p1) + p2)).bind fun v21 =>
          if v21 = 0 then
            (f_X6_records st now pst).bind fun (st24, pst25) =>
            (f_X6_lays 1898 1898 thn18 now 0 0).bind fun g27 =>
            (xr_d g27 1898 (96 + ((3 * p1) + p2))).bind fun v29 =>
            if v29 ≤ 0 then
              some (0, st24, g27, thn18, pst25, hld19, far)
            else
              (xr_d g27 1898 (96 + ((3 * p1) + p2))).bind fun v32 =>
              some (v32 - 1, st24, g27, thn18, pst25, hld19, far)
          else
            (f_X6_isLaid hld19 far thn18 ((3 * p1) + p2)).bind fun (v34, hld35, far36, rr37) =>
            if v34 = 0 then
              some ((-3), st, now, rr37, pst, hld35, far36)
            else
              (f_X6_records st now pst).bind fun (st40, pst41) =>
              (f_X6_lays 1898 1898 rr37 now 0 0).bind fun g43 =>
              (xr_d g43 1898 (96 + ((3 * p1) + p2))).bind fun v45 =>
              if v45 ≤ 0 then
                some (0, st40, g43, rr37, pst41, hld35, far36)
              else
                (xr_d g43 1898 (96 + ((3 * p1) + p2))).bind fun v48 =>
                some (v48 - 1, st40, g43, rr37, pst41, hld35, far36)
theorem k_X6_connect : xb_Y yX6_connect cX6_connect wsX6_connect 5 (some .int) { frames := 5, cells := 0, slots := 0, locals := 117 } 3 := ⟨⟨_, rfl⟩, by decide, ⟨by decide, by decide, by decide +kernel⟩, rfl, rfl⟩
theorem fl_X6_connect_7 : Cond.fieldLink RX6 7 "LookupBoardModel" "now" "[I" ∈ wsX6_connect := List.mem_of_getElem? (i := 1) rfl
theorem fl_X6_connect_13 : Cond.fieldLink RX6 13 "LookupBoardModel" "then" "[I" ∈ wsX6_connect := List.mem_of_getElem? (i := 2) rfl
theorem iw_X6_connect_6 : ∀ w ∈ wsX60, w ∈ wsX6_connect := fun w h => List.mem_cons_of_mem _ (List.mem_append_right _ h)
set_option maxHeartbeats 4000000 in
set_option maxRecDepth 100000 in
theorem m_X6_connect (D : va_G) (cI cC cZ cR : ClassId) (o0 : Nat) (ma : Nat → Nat) (st : Int32) (ik : Int32) (le : Int32) (sp : Int32) (nu : Int32) (now : Nat → Int32) (thn : Nat → Int32) (pst : Nat → Int32) (snp : Nat → Int32) (txt : Nat → Int32) (hld : Nat → Int32) (far : Nat → Int32) (don : Nat → Int32) (tld : Nat → Int32) (dep : Nat → Int32) (bit : Nat → Int32) (p1 : Int32) (p2 : Int32) (p3 : Int32) (r : Int32) (st' : Int32) (now' : Nat → Int32) (thn' : Nat → Int32) (pst' : Nat → Int32) (hld' : Nat → Int32) (far' : Nat → Int32) (h : f_X6_connect st now thn pst hld far p1 p2 p3 = some (r, st', now', thn', pst', hld', far')) : xb_M cX6_connect wsX6_connect RX6 { frames := 5, cells := 0, slots := 0, locals := 117 } (some .int) 5 (xb_ty cI cC cZ cR) D [.ref o0, .int p1, .int p2, .int p3] (wMo o0 ma st ik le sp nu ++ wAr cI (ma 0) 1898 now ++ wAr cI (ma 1) 1898 thn ++ wAr cI (ma 2) 7592 pst ++ wAr cI (ma 3) 1898 snp ++ wAr cC (ma 4) 80 txt ++ wAr cI (ma 5) 48 hld ++ wAr cI (ma 6) 24 far ++ wAr cZ (ma 7) 72 don ++ wAr cI (ma 8) 96 tld ++ wAr cI (ma 9) 24 dep ++ wAr cI (ma 10) 24 bit) (some (.int r)) (wMo o0 ma st' ik le sp nu ++ wAr cI (ma 0) 1898 now' ++ wAr cI (ma 1) 1898 thn' ++ wAr cI (ma 2) 7592 pst' ++ wAr cI (ma 3) 1898 snp ++ wAr cC (ma 4) 80 txt ++ wAr cI (ma 5) 48 hld' ++ wAr cI (ma 6) 24 far' ++ wAr cZ (ma 7) 72 don ++ wAr cI (ma 8) 96 tld ++ wAr cI (ma 9) 24 dep ++ wAr cI (ma 10) 24 bit) := by
  intro X C Z
  show xb_G X 0 0 (wMo o0 ma st ik le sp nu ++ wAr cI (ma 0) 1898 now ++ wAr cI (ma 1) 1898 thn ++ wAr cI (ma 2) 7592 pst ++ wAr cI (ma 3) 1898 snp ++ wAr cC (ma 4) 80 txt ++ wAr cI (ma 5) 48 hld ++ wAr cI (ma 6) 24 far ++ wAr cZ (ma 7) 72 don ++ wAr cI (ma 8) 96 tld ++ wAr cI (ma 9) 24 dep ++ wAr cI (ma 10) 24 bit) [(0, .ref o0), (1, .int p1), (2, .int p2), (3, .int p3)] 0 []
  unfold f_X6_connect at h
  refine xi_aload_n C dX6_connect_0 rfl 0 rfl ?_
  refine xi_get C dX6_connect_1 iw_X6_connect_6 0 rfl rfl 0 (by decide) fl_X6_connect_7 rfl ?_
  refine xi_iload_n C dX6_connect_4 rfl 1 rfl ?_
  obtain ⟨v1, e2, h⟩ := ob_i h
  refine xi_callS (As := [.ref (ma 0), .int p1]) (o := some (.int v1)) (rest := []) (w2 := (wMo o0 ma st ik le sp nu ++ wAr cI (ma 0) 1898 now ++ wAr cI (ma 1) 1898 thn ++ wAr cI (ma 2) 7592 pst ++ wAr cI (ma 3) 1898 snp ++ wAr cC (ma 4) 80 txt ++ wAr cI (ma 5) 48 hld ++ wAr cI (ma 6) 24 far ++ wAr cZ (ma 7) 72 don ++ wAr cI (ma 8) 96 tld ++ wAr cI (ma 9) 24 dep ++ wAr cI (ma 10) 24 bit)) (st2 := [.int v1]) C k_X6_isCell (m_X6_isCell D cI cC cZ cR (ma 0) now p1 v1 e2) gX6_connect_X6_isCell dX6_connect_5 ⟨Nat.le_of_ble_eq_true rfl, Nat.le_of_ble_eq_true rfl, Nat.le_of_ble_eq_true rfl⟩ [1] mxC_X6_1 rfl [0, 1, 2, 3] rfl mxF_X6_1 mxM_X6_1 rfl (Nat.le_of_ble_eq_true rfl) ⟨Nat.zero_le _, Nat.zero_le _⟩ rfl ?_
  refine xi_if_eq (tgt := 31) C dX6_connect_8 (by decide) (fun c3 => ?_) (fun c3 => ?_)
  · have h := it_i c3 h
    refine xi_iconst (v := (-1)) C dX6_connect_31 (by decide) ?_
    have w0 := Option.some.inj h
    obtain ⟨q0, w1⟩ := Prod.mk.inj w0
    obtain ⟨q1, w2⟩ := Prod.mk.inj w1
    obtain ⟨q2, w3⟩ := Prod.mk.inj w2
    obtain ⟨q3, w4⟩ := Prod.mk.inj w3
    obtain ⟨q4, w5⟩ := Prod.mk.inj w4
    obtain ⟨q5, w6⟩ := Prod.mk.inj w5
    subst q0
    subst q1
    subst q2
    subst q3
    subst q4
    subst q5
    subst w6
    exact xi_iret C Z dX6_connect_32
  · have h := ie_i c3 h
    refine xi_iload_n C dX6_connect_11 rfl 2 rfl ?_
    refine xi_iconst (v := 0) C dX6_connect_12 (by decide) ?_
    refine xi_iconst (v := 2) C dX6_connect_13 (by decide) ?_
    obtain ⟨v4, e5, h⟩ := ob_i h
    refine xi_callS (As := [.int p2, .int 0, .int 2]) (o := some (.int v4)) (rest := []) (w2 := (wMo o0 ma st ik le sp nu ++ wAr cI (ma 0) 1898 now ++ wAr cI (ma 1) 1898 thn ++ wAr cI (ma 2) 7592 pst ++ wAr cI (ma 3) 1898 snp ++ wAr cC (ma 4) 80 txt ++ wAr cI (ma 5) 48 hld ++ wAr cI (ma 6) 24 far ++ wAr cZ (ma 7) 72 don ++ wAr cI (ma 8) 96 tld ++ wAr cI (ma 9) 24 dep ++ wAr cI (ma 10) 24 bit)) (st2 := [.int v4]) C k_X6_in (m_X6_in D cI cC cZ cR p2 0 2 v4 e5) gX6_connect_X6_in dX6_connect_14 ⟨Nat.le_of_ble_eq_true rfl, Nat.le_of_ble_eq_true rfl, Nat.le_of_ble_eq_true rfl⟩ [] rfl rfl [0, 1, 2, 3] rfl rfl rfl rfl (Nat.le_of_ble_eq_true rfl) ⟨Nat.zero_le _, Nat.zero_le _⟩ rfl ?_
    refine xi_if_eq (tgt := 31) C dX6_connect_17 (by decide) (fun c6 => ?_) (fun c6 => ?_)
    · have h := it_i c6 h
      refine xi_iconst (v := (-1)) C dX6_connect_31 (by decide) ?_
      have w0 := Option.some.inj h
      obtain ⟨q0, w1⟩ := Prod.mk.inj w0
      obtain ⟨q1, w2⟩ := Prod.mk.inj w1
      obtain ⟨q2, w3⟩ := Prod.mk.inj w2
      obtain ⟨q3, w4⟩ := Prod.mk.inj w3
      obtain ⟨q4, w5⟩ := Prod.mk.inj w4
      obtain ⟨q5, w6⟩ := Prod.mk.inj w5
      subst q0
      subst q1
      subst q2
      subst q3
      subst q4
      subst q5
      subst w6
      exact xi_iret C Z dX6_connect_32
    · have h := ie_i c6 h
      refine xi_aload_n C dX6_connect_20 rfl 0 rfl ?_
      refine xi_get C dX6_connect_21 iw_X6_connect_6 0 rfl rfl 0 (by decide) fl_X6_connect_7 rfl ?_
      refine xi_iload_n C dX6_connect_24 rfl 3 rfl ?_
      obtain ⟨v7, e8, h⟩ := ob_i h
      refine xi_callS (As := [.ref (ma 0), .int p3]) (o := some (.int v7)) (rest := []) (w2 := (wMo o0 ma st ik le sp nu ++ wAr cI (ma 0) 1898 now ++ wAr cI (ma 1) 1898 thn ++ wAr cI (ma 2) 7592 pst ++ wAr cI (ma 3) 1898 snp ++ wAr cC (ma 4) 80 txt ++ wAr cI (ma 5) 48 hld ++ wAr cI (ma 6) 24 far ++ wAr cZ (ma 7) 72 don ++ wAr cI (ma 8) 96 tld ++ wAr cI (ma 9) 24 dep ++ wAr cI (ma 10) 24 bit)) (st2 := [.int v7]) C k_X6_isSource (m_X6_isSource D cI cC cZ cR (ma 0) now p3 v7 e8) gX6_connect_X6_isSource dX6_connect_25 ⟨Nat.le_of_ble_eq_true rfl, Nat.le_of_ble_eq_true rfl, Nat.le_of_ble_eq_true rfl⟩ [1] mxC_X6_1 rfl [0, 1, 2, 3] rfl mxF_X6_1 mxM_X6_1 rfl (Nat.le_of_ble_eq_true rfl) ⟨Nat.zero_le _, Nat.zero_le _⟩ rfl ?_
      refine xi_if_ne (tgt := 33) C dX6_connect_28 (by decide) (fun c9 => ?_) (fun c9 => ?_)
      · have h := ie_i c9 h
        refine xi_iconst (v := 3) C dX6_connect_33 (by decide) ?_
        refine xi_iload_n C dX6_connect_34 rfl 1 rfl ?_
        refine xi_imul C dX6_connect_35 ?_
        refine xi_iload_n C dX6_connect_36 rfl 2 rfl ?_
        refine xi_iadd C dX6_connect_37 ?_
        refine xi_istore (lv2 := [(0, .ref o0), (1, .int p1), (2, .int p2), (3, .int p3), (4, .int ((3 * p1) + p2))]) C dX6_connect_38 (by decide) [0, 1, 2, 3] [1, 2, 3, 4, 0] rfl ?_
        refine xi_aload_n C dX6_connect_40 rfl 0 rfl ?_
        refine xi_get C dX6_connect_41 iw_X6_connect_6 0 rfl rfl 0 (by decide) fl_X6_connect_7 rfl ?_
        refine xi_bipush (v := 24) C dX6_connect_44 (by decide) ?_
        refine xi_iload C dX6_connect_46 4 rfl ?_
        refine xi_iadd C dX6_connect_48 ?_
        obtain ⟨v10, e11, h⟩ := ob_i h
        refine xi_iald C dX6_connect_49 1 0 rfl rfl e11 ?_
        refine xi_iload_n C dX6_connect_50 rfl 3 rfl ?_
        refine xi_icmp_ne (tgt := 57) C dX6_connect_51 (by decide) (fun c12 => ?_) (fun c12 => ?_)
        · have h := ie_i c12 h
          refine xi_aload_n C dX6_connect_57 rfl 0 rfl ?_
          refine xi_get C dX6_connect_58 iw_X6_connect_6 0 rfl rfl 0 (by decide) fl_X6_connect_7 rfl ?_
          refine xi_iconst (v := 0) C dX6_connect_61 (by decide) ?_
          refine xi_aload_n C dX6_connect_62 rfl 0 rfl ?_
          refine xi_get C dX6_connect_63 iw_X6_connect_6 0 rfl rfl 1 (by decide) fl_X6_connect_13 rfl ?_
          refine xi_iconst (v := 0) C dX6_connect_66 (by decide) ?_
          obtain ⟨g13, e14, h⟩ := ob_i h
          refine xi_callS (As := [.ref (ma 0), .int 0, .ref (ma 1), .int 0]) (o := none) (rest := []) (w2 := (wMo o0 ma st ik le sp nu ++ wAr cI (ma 0) 1898 now ++ wAr cI (ma 1) 1898 g13 ++ wAr cI (ma 2) 7592 pst ++ wAr cI (ma 3) 1898 snp ++ wAr cC (ma 4) 80 txt ++ wAr cI (ma 5) 48 hld ++ wAr cI (ma 6) 24 far ++ wAr cZ (ma 7) 72 don ++ wAr cI (ma 8) 96 tld ++ wAr cI (ma 9) 24 dep ++ wAr cI (ma 10) 24 bit)) (st2 := []) C k_X6_lays (m_X6_lays D cI cC cZ cR 1898 1898 (ma 0) (ma 1) now thn 0 0 g13 e14) gX6_connect_X6_lays dX6_connect_67 ⟨Nat.le_of_ble_eq_true rfl, Nat.le_of_ble_eq_true rfl, Nat.le_of_ble_eq_true rfl⟩ [1, 2] mxC_X6_1_2 rfl [0, 1, 2, 3] rfl mxF_X6_1_2 mxM_X6_1_2 rfl (Nat.le_of_ble_eq_true rfl) ⟨Nat.zero_le _, Nat.zero_le _⟩ rfl ?_
          refine xi_aload_n C dX6_connect_70 rfl 0 rfl ?_
          refine xi_get C dX6_connect_71 iw_X6_connect_6 0 rfl rfl 1 (by decide) fl_X6_connect_13 rfl ?_
          refine xi_iload C dX6_connect_74 4 rfl ?_
          obtain ⟨rr15, e16, h⟩ := ob_i h
          refine xi_callS (As := [.ref (ma 1), .int ((3 * p1) + p2)]) (o := none) (rest := []) (w2 := (wMo o0 ma st ik le sp nu ++ wAr cI (ma 0) 1898 now ++ wAr cI (ma 1) 1898 rr15 ++ wAr cI (ma 2) 7592 pst ++ wAr cI (ma 3) 1898 snp ++ wAr cC (ma 4) 80 txt ++ wAr cI (ma 5) 48 hld ++ wAr cI (ma 6) 24 far ++ wAr cZ (ma 7) 72 don ++ wAr cI (ma 8) 96 tld ++ wAr cI (ma 9) 24 dep ++ wAr cI (ma 10) 24 bit)) (st2 := []) C k_X6_takesWire (m_X6_takesWire D cI cC cZ cR (ma 1) g13 ((3 * p1) + p2) rr15 e16) gX6_connect_X6_takesWire dX6_connect_76 ⟨Nat.le_of_ble_eq_true rfl, Nat.le_of_ble_eq_true rfl, Nat.le_of_ble_eq_true rfl⟩ [2] mxC_X6_2 rfl [0, 1, 2, 3] rfl mxF_X6_2 mxM_X6_2 rfl (Nat.le_of_ble_eq_true rfl) ⟨Nat.zero_le _, Nat.zero_le _⟩ rfl ?_
          refine xi_aload_n C dX6_connect_79 rfl 0 rfl ?_
          refine xi_get C dX6_connect_80 iw_X6_connect_6 0 rfl rfl 1 (by decide) fl_X6_connect_13 rfl ?_
          refine xi_bipush (v := 24) C dX6_connect_83 (by decide) ?_
          refine xi_iload C dX6_connect_85 4 rfl ?_
          refine xi_iadd C dX6_connect_87 ?_
          refine xi_iload_n C dX6_connect_88 rfl 3 rfl ?_
          obtain ⟨thn18, e17, h⟩ := ob_i h
          refine xi_iast (w2 := (wMo o0 ma st ik le sp nu ++ wAr cI (ma 0) 1898 now ++ wAr cI (ma 1) 1898 thn18 ++ wAr cI (ma 2) 7592 pst ++ wAr cI (ma 3) 1898 snp ++ wAr cC (ma 4) 80 txt ++ wAr cI (ma 5) 48 hld ++ wAr cI (ma 6) 24 far ++ wAr cZ (ma 7) 72 don ++ wAr cI (ma 8) 96 tld ++ wAr cI (ma 9) 24 dep ++ wAr cI (ma 10) 24 bit)) C dX6_connect_89 2 0 rfl rfl e17 rfl ?_
          refine xi_aload_n C dX6_connect_90 rfl 0 rfl ?_
          refine xi_aload_n C dX6_connect_91 rfl 0 rfl ?_
          refine xi_get C dX6_connect_92 iw_X6_connect_6 0 rfl rfl 1 (by decide) fl_X6_connect_13 rfl ?_
          obtain ⟨hld19, e20, h⟩ := ob_i h
          refine xi_callV (As := [.ref (ma 1)]) (o := none) (rest := []) (w2 := (wMo o0 ma st ik le sp nu ++ wAr cI (ma 0) 1898 now ++ wAr cI (ma 1) 1898 thn18 ++ wAr cI (ma 2) 7592 pst ++ wAr cI (ma 3) 1898 snp ++ wAr cC (ma 4) 80 txt ++ wAr cI (ma 5) 48 hld19 ++ wAr cI (ma 6) 24 far ++ wAr cZ (ma 7) 72 don ++ wAr cI (ma 8) 96 tld ++ wAr cI (ma 9) 24 dep ++ wAr cI (ma 10) 24 bit)) (st2 := []) C k_X6_counts (m_X6_counts D cI cC cZ cR o0 ma (ma 1) st ik le sp nu hld far don thn18 hld19 e20) gX6_connect_X6_counts dX6_connect_95 ⟨Nat.le_of_ble_eq_true rfl, Nat.le_of_ble_eq_true rfl, Nat.le_of_ble_eq_true rfl⟩ 0 rfl rfl [0, 6, 7, 8, 2] mxC_X6_0_6_7_8_2 rfl [0, 1, 2, 3] rfl mxF_X6_0_6_7_8_2 mxM_X6_0_6_7_8_2 rfl (Nat.le_of_ble_eq_true rfl) ⟨Nat.zero_le _, Nat.zero_le _⟩ rfl ?_
          refine xi_aload_n C dX6_connect_98 rfl 0 rfl ?_
          refine xi_get C dX6_connect_99 iw_X6_connect_6 0 rfl rfl 1 (by decide) fl_X6_connect_13 rfl ?_
          refine xi_iload C dX6_connect_102 4 rfl ?_
          obtain ⟨v21, e22, h⟩ := ob_i h
          refine xi_callS (As := [.ref (ma 1), .int ((3 * p1) + p2)]) (o := some (.int v21)) (rest := []) (w2 := (wMo o0 ma st ik le sp nu ++ wAr cI (ma 0) 1898 now ++ wAr cI (ma 1) 1898 thn18 ++ wAr cI (ma 2) 7592 pst ++ wAr cI (ma 3) 1898 snp ++ wAr cC (ma 4) 80 txt ++ wAr cI (ma 5) 48 hld19 ++ wAr cI (ma 6) 24 far ++ wAr cZ (ma 7) 72 don ++ wAr cI (ma 8) 96 tld ++ wAr cI (ma 9) 24 dep ++ wAr cI (ma 10) 24 bit)) (st2 := [.int v21]) C k_X6_isWire (m_X6_isWire D cI cC cZ cR (ma 1) thn18 ((3 * p1) + p2) v21 e22) gX6_connect_X6_isWire dX6_connect_104 ⟨Nat.le_of_ble_eq_true rfl, Nat.le_of_ble_eq_true rfl, Nat.le_of_ble_eq_true rfl⟩ [2] mxC_X6_2 rfl [0, 1, 2, 3] rfl mxF_X6_2 mxM_X6_2 rfl (Nat.le_of_ble_eq_true rfl) ⟨Nat.zero_le _, Nat.zero_le _⟩ rfl ?_
          refine xi_if_eq (tgt := 126) C dX6_connect_107 (by decide) (fun c23 => ?_) (fun c23 => ?_)
          · have h := it_i c23 h
            refine xi_aload_n C dX6_connect_126 rfl 0 rfl ?_
            obtain ⟨⟨st24, pst25⟩, e26, h⟩ := ob_i h
            refine xi_callV (As := []) (o := none) (rest := []) (w2 := (wMo o0 ma st24 ik le sp nu ++ wAr cI (ma 0) 1898 now ++ wAr cI (ma 1) 1898 thn18 ++ wAr cI (ma 2) 7592 pst25 ++ wAr cI (ma 3) 1898 snp ++ wAr cC (ma 4) 80 txt ++ wAr cI (ma 5) 48 hld19 ++ wAr cI (ma 6) 24 far ++ wAr cZ (ma 7) 72 don ++ wAr cI (ma 8) 96 tld ++ wAr cI (ma 9) 24 dep ++ wAr cI (ma 10) 24 bit)) (st2 := []) C k_X6_records (m_X6_records D cI cC cZ cR o0 ma st ik le sp nu now thn18 pst snp txt hld19 far don tld dep bit st24 pst25 e26) gX6_connect_X6_records dX6_connect_127 ⟨Nat.le_of_ble_eq_true rfl, Nat.le_of_ble_eq_true rfl, Nat.le_of_ble_eq_true rfl⟩ 0 rfl rfl [0, 1, 2, 3, 4, 5, 6, 7, 8, 9, 10, 11] mxC_X6_0_1_2_3_4_5_6_7_8_9_10_11 rfl [0, 1, 2, 3] rfl mxF_X6_0_1_2_3_4_5_6_7_8_9_10_11 mxM_X6_0_1_2_3_4_5_6_7_8_9_10_11 rfl (Nat.le_of_ble_eq_true rfl) ⟨Nat.zero_le _, Nat.zero_le _⟩ rfl ?_
            refine xi_aload_n C dX6_connect_130 rfl 0 rfl ?_
            refine xi_get C dX6_connect_131 iw_X6_connect_6 0 rfl rfl 1 (by decide) fl_X6_connect_13 rfl ?_
            refine xi_iconst (v := 0) C dX6_connect_134 (by decide) ?_
            refine xi_aload_n C dX6_connect_135 rfl 0 rfl ?_
            refine xi_get C dX6_connect_136 iw_X6_connect_6 0 rfl rfl 0 (by decide) fl_X6_connect_7 rfl ?_
            refine xi_iconst (v := 0) C dX6_connect_139 (by decide) ?_
            obtain ⟨g27, e28, h⟩ := ob_i h
            refine xi_callS (As := [.ref (ma 1), .int 0, .ref (ma 0), .int 0]) (o := none) (rest := []) (w2 := (wMo o0 ma st24 ik le sp nu ++ wAr cI (ma 0) 1898 g27 ++ wAr cI (ma 1) 1898 thn18 ++ wAr cI (ma 2) 7592 pst25 ++ wAr cI (ma 3) 1898 snp ++ wAr cC (ma 4) 80 txt ++ wAr cI (ma 5) 48 hld19 ++ wAr cI (ma 6) 24 far ++ wAr cZ (ma 7) 72 don ++ wAr cI (ma 8) 96 tld ++ wAr cI (ma 9) 24 dep ++ wAr cI (ma 10) 24 bit)) (st2 := []) C k_X6_lays (m_X6_lays D cI cC cZ cR 1898 1898 (ma 1) (ma 0) thn18 now 0 0 g27 e28) gX6_connect_X6_lays dX6_connect_140 ⟨Nat.le_of_ble_eq_true rfl, Nat.le_of_ble_eq_true rfl, Nat.le_of_ble_eq_true rfl⟩ [2, 1] mxC_X6_2_1 rfl [0, 1, 2, 3] rfl mxF_X6_2_1 mxM_X6_2_1 rfl (Nat.le_of_ble_eq_true rfl) ⟨Nat.zero_le _, Nat.zero_le _⟩ rfl ?_
            refine xi_aload_n C dX6_connect_143 rfl 0 rfl ?_
            refine xi_get C dX6_connect_144 iw_X6_connect_6 0 rfl rfl 0 (by decide) fl_X6_connect_7 rfl ?_
            refine xi_bipush (v := 96) C dX6_connect_147 (by decide) ?_
            refine xi_iload C dX6_connect_149 4 rfl ?_
            refine xi_iadd C dX6_connect_151 ?_
            obtain ⟨v29, e30, h⟩ := ob_i h
            refine xi_iald C dX6_connect_152 1 0 rfl rfl e30 ?_
            refine xi_if_le (tgt := 171) C dX6_connect_153 (by decide) (fun c31 => ?_) (fun c31 => ?_)
            · have h := it_i c31 h
              refine xi_iconst (v := 0) C dX6_connect_171 (by decide) ?_
              have w0 := Option.some.inj h
              obtain ⟨q0, w1⟩ := Prod.mk.inj w0
              obtain ⟨q1, w2⟩ := Prod.mk.inj w1
              obtain ⟨q2, w3⟩ := Prod.mk.inj w2
              obtain ⟨q3, w4⟩ := Prod.mk.inj w3
              obtain ⟨q4, w5⟩ := Prod.mk.inj w4
              obtain ⟨q5, w6⟩ := Prod.mk.inj w5
              subst q0
              subst q1
              subst q2
              subst q3
              subst q4
              subst q5
              subst w6
              exact xi_iret C Z dX6_connect_172
            · have h := ie_i c31 h
              refine xi_aload_n C dX6_connect_156 rfl 0 rfl ?_
              refine xi_get C dX6_connect_157 iw_X6_connect_6 0 rfl rfl 0 (by decide) fl_X6_connect_7 rfl ?_
              refine xi_bipush (v := 96) C dX6_connect_160 (by decide) ?_
              refine xi_iload C dX6_connect_162 4 rfl ?_
              refine xi_iadd C dX6_connect_164 ?_
              obtain ⟨v32, e33, h⟩ := ob_i h
              refine xi_iald C dX6_connect_165 1 0 rfl rfl e33 ?_
              refine xi_iconst (v := 1) C dX6_connect_166 (by decide) ?_
              refine xi_isub C dX6_connect_167 ?_
              refine xi_goto (tgt := 172) C dX6_connect_168 (by decide) ?_
              have w0 := Option.some.inj h
              obtain ⟨q0, w1⟩ := Prod.mk.inj w0
              obtain ⟨q1, w2⟩ := Prod.mk.inj w1
              obtain ⟨q2, w3⟩ := Prod.mk.inj w2
              obtain ⟨q3, w4⟩ := Prod.mk.inj w3
              obtain ⟨q4, w5⟩ := Prod.mk.inj w4
              obtain ⟨q5, w6⟩ := Prod.mk.inj w5
              subst q0
              subst q1
              subst q2
              subst q3
              subst q4
              subst q5
              subst w6
              exact xi_iret C Z dX6_connect_172
          · have h := ie_i c23 h
            refine xi_aload_n C dX6_connect_110 rfl 0 rfl ?_
            refine xi_aload_n C dX6_connect_111 rfl 0 rfl ?_
            refine xi_get C dX6_connect_112 iw_X6_connect_6 0 rfl rfl 1 (by decide) fl_X6_connect_13 rfl ?_
            refine xi_iload C dX6_connect_115 4 rfl ?_
            obtain ⟨⟨v34, hld35, far36, rr37⟩, e38, h⟩ := ob_i h
            refine xi_callV (As := [.ref (ma 1), .int ((3 * p1) + p2)]) (o := some (.int v34)) (rest := []) (w2 := (wMo o0 ma st ik le sp nu ++ wAr cI (ma 0) 1898 now ++ wAr cI (ma 1) 1898 rr37 ++ wAr cI (ma 2) 7592 pst ++ wAr cI (ma 3) 1898 snp ++ wAr cC (ma 4) 80 txt ++ wAr cI (ma 5) 48 hld35 ++ wAr cI (ma 6) 24 far36 ++ wAr cZ (ma 7) 72 don ++ wAr cI (ma 8) 96 tld ++ wAr cI (ma 9) 24 dep ++ wAr cI (ma 10) 24 bit)) (st2 := [.int v34]) C k_X6_isLaid (m_X6_isLaid D cI cC cZ cR o0 ma (ma 1) st ik le sp nu hld19 far don thn18 ((3 * p1) + p2) v34 hld35 far36 rr37 e38) gX6_connect_X6_isLaid dX6_connect_117 ⟨Nat.le_of_ble_eq_true rfl, Nat.le_of_ble_eq_true rfl, Nat.le_of_ble_eq_true rfl⟩ 0 rfl rfl [0, 6, 7, 8, 2] mxC_X6_0_6_7_8_2 rfl [0, 1, 2, 3] rfl mxF_X6_0_6_7_8_2 mxM_X6_0_6_7_8_2 rfl (Nat.le_of_ble_eq_true rfl) ⟨Nat.zero_le _, Nat.zero_le _⟩ rfl ?_
            refine xi_if_ne (tgt := 126) C dX6_connect_120 (by decide) (fun c39 => ?_) (fun c39 => ?_)
            · have h := ie_i c39 h
              refine xi_aload_n C dX6_connect_126 rfl 0 rfl ?_
              obtain ⟨⟨st40, pst41⟩, e42, h⟩ := ob_i h
              refine xi_callV (As := []) (o := none) (rest := []) (w2 := (wMo o0 ma st40 ik le sp nu ++ wAr cI (ma 0) 1898 now ++ wAr cI (ma 1) 1898 rr37 ++ wAr cI (ma 2) 7592 pst41 ++ wAr cI (ma 3) 1898 snp ++ wAr cC (ma 4) 80 txt ++ wAr cI (ma 5) 48 hld35 ++ wAr cI (ma 6) 24 far36 ++ wAr cZ (ma 7) 72 don ++ wAr cI (ma 8) 96 tld ++ wAr cI (ma 9) 24 dep ++ wAr cI (ma 10) 24 bit)) (st2 := []) C k_X6_records (m_X6_records D cI cC cZ cR o0 ma st ik le sp nu now rr37 pst snp txt hld35 far36 don tld dep bit st40 pst41 e42) gX6_connect_X6_records dX6_connect_127 ⟨Nat.le_of_ble_eq_true rfl, Nat.le_of_ble_eq_true rfl, Nat.le_of_ble_eq_true rfl⟩ 0 rfl rfl [0, 1, 2, 3, 4, 5, 6, 7, 8, 9, 10, 11] mxC_X6_0_1_2_3_4_5_6_7_8_9_10_11 rfl [0, 1, 2, 3] rfl mxF_X6_0_1_2_3_4_5_6_7_8_9_10_11 mxM_X6_0_1_2_3_4_5_6_7_8_9_10_11 rfl (Nat.le_of_ble_eq_true rfl) ⟨Nat.zero_le _, Nat.zero_le _⟩ rfl ?_
              refine xi_aload_n C dX6_connect_130 rfl 0 rfl ?_
              refine xi_get C dX6_connect_131 iw_X6_connect_6 0 rfl rfl 1 (by decide) fl_X6_connect_13 rfl ?_
              refine xi_iconst (v := 0) C dX6_connect_134 (by decide) ?_
              refine xi_aload_n C dX6_connect_135 rfl 0 rfl ?_
              refine xi_get C dX6_connect_136 iw_X6_connect_6 0 rfl rfl 0 (by decide) fl_X6_connect_7 rfl ?_
              refine xi_iconst (v := 0) C dX6_connect_139 (by decide) ?_
              obtain ⟨g43, e44, h⟩ := ob_i h
              refine xi_callS (As := [.ref (ma 1), .int 0, .ref (ma 0), .int 0]) (o := none) (rest := []) (w2 := (wMo o0 ma st40 ik le sp nu ++ wAr cI (ma 0) 1898 g43 ++ wAr cI (ma 1) 1898 rr37 ++ wAr cI (ma 2) 7592 pst41 ++ wAr cI (ma 3) 1898 snp ++ wAr cC (ma 4) 80 txt ++ wAr cI (ma 5) 48 hld35 ++ wAr cI (ma 6) 24 far36 ++ wAr cZ (ma 7) 72 don ++ wAr cI (ma 8) 96 tld ++ wAr cI (ma 9) 24 dep ++ wAr cI (ma 10) 24 bit)) (st2 := []) C k_X6_lays (m_X6_lays D cI cC cZ cR 1898 1898 (ma 1) (ma 0) rr37 now 0 0 g43 e44) gX6_connect_X6_lays dX6_connect_140 ⟨Nat.le_of_ble_eq_true rfl, Nat.le_of_ble_eq_true rfl, Nat.le_of_ble_eq_true rfl⟩ [2, 1] mxC_X6_2_1 rfl [0, 1, 2, 3] rfl mxF_X6_2_1 mxM_X6_2_1 rfl (Nat.le_of_ble_eq_true rfl) ⟨Nat.zero_le _, Nat.zero_le _⟩ rfl ?_
              refine xi_aload_n C dX6_connect_143 rfl 0 rfl ?_
              refine xi_get C dX6_connect_144 iw_X6_connect_6 0 rfl rfl 0 (by decide) fl_X6_connect_7 rfl ?_
              refine xi_bipush (v := 96) C dX6_connect_147 (by decide) ?_
              refine xi_iload C dX6_connect_149 4 rfl ?_
              refine xi_iadd C dX6_connect_151 ?_
              obtain ⟨v45, e46, h⟩ := ob_i h
              refine xi_iald C dX6_connect_152 1 0 rfl rfl e46 ?_
              refine xi_if_le (tgt := 171) C dX6_connect_153 (by decide) (fun c47 => ?_) (fun c47 => ?_)
              · have h := it_i c47 h
                refine xi_iconst (v := 0) C dX6_connect_171 (by decide) ?_
                have w0 := Option.some.inj h
                obtain ⟨q0, w1⟩ := Prod.mk.inj w0
                obtain ⟨q1, w2⟩ := Prod.mk.inj w1
                obtain ⟨q2, w3⟩ := Prod.mk.inj w2
                obtain ⟨q3, w4⟩ := Prod.mk.inj w3
                obtain ⟨q4, w5⟩ := Prod.mk.inj w4
                obtain ⟨q5, w6⟩ := Prod.mk.inj w5
                subst q0
                subst q1
                subst q2
                subst q3
                subst q4
                subst q5
                subst w6
                exact xi_iret C Z dX6_connect_172
              · have h := ie_i c47 h
                refine xi_aload_n C dX6_connect_156 rfl 0 rfl ?_
                refine xi_get C dX6_connect_157 iw_X6_connect_6 0 rfl rfl 0 (by decide) fl_X6_connect_7 rfl ?_
                refine xi_bipush (v := 96) C dX6_connect_160 (by decide) ?_
                refine xi_iload C dX6_connect_162 4 rfl ?_
                refine xi_iadd C dX6_connect_164 ?_
                obtain ⟨v48, e49, h⟩ := ob_i h
                refine xi_iald C dX6_connect_165 1 0 rfl rfl e49 ?_
                refine xi_iconst (v := 1) C dX6_connect_166 (by decide) ?_
                refine xi_isub C dX6_connect_167 ?_
                refine xi_goto (tgt := 172) C dX6_connect_168 (by decide) ?_
                have w0 := Option.some.inj h
                obtain ⟨q0, w1⟩ := Prod.mk.inj w0
                obtain ⟨q1, w2⟩ := Prod.mk.inj w1
                obtain ⟨q2, w3⟩ := Prod.mk.inj w2
                obtain ⟨q3, w4⟩ := Prod.mk.inj w3
                obtain ⟨q4, w5⟩ := Prod.mk.inj w4
                obtain ⟨q5, w6⟩ := Prod.mk.inj w5
                subst q0
                subst q1
                subst q2
                subst q3
                subst q4
                subst q5
                subst w6
                exact xi_iret C Z dX6_connect_172
            · have h := it_i c39 h
              refine xi_bipush (v := (-3)) C dX6_connect_123 (by decide) ?_
              have w0 := Option.some.inj h
              obtain ⟨q0, w1⟩ := Prod.mk.inj w0
              obtain ⟨q1, w2⟩ := Prod.mk.inj w1
              obtain ⟨q2, w3⟩ := Prod.mk.inj w2
              obtain ⟨q3, w4⟩ := Prod.mk.inj w3
              obtain ⟨q4, w5⟩ := Prod.mk.inj w4
              obtain ⟨q5, w6⟩ := Prod.mk.inj w5
              subst q0
              subst q1
              subst q2
              subst q3
              subst q4
              subst q5
              subst w6
              exact xi_iret C Z dX6_connect_125
        · have h := it_i c12 h
          refine xi_bipush (v := (-5)) C dX6_connect_54 (by decide) ?_
          have w0 := Option.some.inj h
          obtain ⟨q0, w1⟩ := Prod.mk.inj w0
          obtain ⟨q1, w2⟩ := Prod.mk.inj w1
          obtain ⟨q2, w3⟩ := Prod.mk.inj w2
          obtain ⟨q3, w4⟩ := Prod.mk.inj w3
          obtain ⟨q4, w5⟩ := Prod.mk.inj w4
          obtain ⟨q5, w6⟩ := Prod.mk.inj w5
          subst q0
          subst q1
          subst q2
          subst q3
          subst q4
          subst q5
          subst w6
          exact xi_iret C Z dX6_connect_56
      · have h := it_i c9 h
        refine xi_iconst (v := (-1)) C dX6_connect_31 (by decide) ?_
        have w0 := Option.some.inj h
        obtain ⟨q0, w1⟩ := Prod.mk.inj w0
        obtain ⟨q1, w2⟩ := Prod.mk.inj w1
        obtain ⟨q2, w3⟩ := Prod.mk.inj w2
        obtain ⟨q3, w4⟩ := Prod.mk.inj w3
        obtain ⟨q4, w5⟩ := Prod.mk.inj w4
        obtain ⟨q5, w6⟩ := Prod.mk.inj w5
        subst q0
        subst q1
        subst q2
        subst q3
        subst q4
        subst q5
        subst w6
        exact xi_iret C Z dX6_connect_32
def f_X6_isChange (rr : Nat → Int32) (p1 : Int32) (p2 : Int32) : Option (Int32) :=
  if p1 = p2 then
    some 0
  else
    (f_X6_isCell rr p1).bind fun v2 =>
    if v2 = 0 then
      (f_X6_isCell rr p2).bind fun v5 =>
      if v5 = 0 then
        some 0
      else
        some 1
    else
      some 1
theorem k_X6_isChange : xb_Y yX6_isChange cX6_isChange wsX6_isChange 3 (some .boolean) { frames := 3, cells := 0, slots := 0, locals := 63 } 3 := ⟨⟨_, rfl⟩, by decide, ⟨by decide, by decide, by decide +kernel⟩, rfl, rfl⟩
set_option maxHeartbeats 4000000 in
set_option maxRecDepth 100000 in
theorem m_X6_isChange (D : va_G) (cI cC cZ cR : ClassId) (q : Nat) (rr : Nat → Int32) (p1 : Int32) (p2 : Int32) (r : Int32) (h : f_X6_isChange rr p1 p2 = some r) : xb_M cX6_isChange wsX6_isChange RX6 { frames := 3, cells := 0, slots := 0, locals := 63 } (some .boolean) 3 (xb_ty cI cC cZ cR) D [.ref q, .int p1, .int p2] (wAr cI q 1898 rr) (some (.int r)) (wAr cI q 1898 rr) := by
  intro X C Z
  show xb_G X 0 0 (wAr cI q 1898 rr) [(0, .ref q), (1, .int p1), (2, .int p2)] 0 []
  unfold f_X6_isChange at h
  refine xi_iload_n C dX6_isChange_0 rfl 1 rfl ?_
  refine xi_iload_n C dX6_isChange_1 rfl 2 rfl ?_
  refine xi_icmp_eq (tgt := 25) C dX6_isChange_2 (by decide) (fun c1 => ?_) (fun c1 => ?_)
  · have h := it_i c1 h
    refine xi_iconst (v := 0) C dX6_isChange_25 (by decide) ?_
    have w0 := Option.some.inj h
    subst w0
    exact xi_zret C Z dX6_isChange_26 xb_nz0
  · have h := ie_i c1 h
    refine xi_aload_n C dX6_isChange_5 rfl 0 rfl ?_
    refine xi_iload_n C dX6_isChange_6 rfl 1 rfl ?_
    obtain ⟨v2, e3, h⟩ := ob_i h
    refine xi_callS (As := [.ref q, .int p1]) (o := some (.int v2)) (rest := []) (w2 := (wAr cI q 1898 rr)) (st2 := [.int v2]) C k_X6_isCell (m_X6_isCell D cI cC cZ cR q rr p1 v2 e3) gX6_isChange_X6_isCell dX6_isChange_7 ⟨Nat.le_of_ble_eq_true rfl, Nat.le_of_ble_eq_true rfl, Nat.le_of_ble_eq_true rfl⟩ [0] rfl rfl [0, 1, 2, 3] rfl rfl rfl rfl (Nat.le_of_ble_eq_true rfl) ⟨Nat.zero_le _, Nat.zero_le _⟩ rfl ?_
    refine xi_if_ne (tgt := 21) C dX6_isChange_10 (by decide) (fun c4 => ?_) (fun c4 => ?_)
    · have h := ie_i c4 h
      refine xi_iconst (v := 1) C dX6_isChange_21 (by decide) ?_
      refine xi_goto (tgt := 26) C dX6_isChange_22 (by decide) ?_
      have w0 := Option.some.inj h
      subst w0
      exact xi_zret C Z dX6_isChange_26 xb_nz1
    · have h := it_i c4 h
      refine xi_aload_n C dX6_isChange_13 rfl 0 rfl ?_
      refine xi_iload_n C dX6_isChange_14 rfl 2 rfl ?_
      obtain ⟨v5, e6, h⟩ := ob_i h
      refine xi_callS (As := [.ref q, .int p2]) (o := some (.int v5)) (rest := []) (w2 := (wAr cI q 1898 rr)) (st2 := [.int v5]) C k_X6_isCell (m_X6_isCell D cI cC cZ cR q rr p2 v5 e6) gX6_isChange_X6_isCell dX6_isChange_15 ⟨Nat.le_of_ble_eq_true rfl, Nat.le_of_ble_eq_true rfl, Nat.le_of_ble_eq_true rfl⟩ [0] rfl rfl [0, 1, 2, 3] rfl rfl rfl rfl (Nat.le_of_ble_eq_true rfl) ⟨Nat.zero_le _, Nat.zero_le _⟩ rfl ?_
      refine xi_if_eq (tgt := 25) C dX6_isChange_18 (by decide) (fun c7 => ?_) (fun c7 => ?_)
      · have h := it_i c7 h
        refine xi_iconst (v := 0) C dX6_isChange_25 (by decide) ?_
        have w0 := Option.some.inj h
        subst w0
        exact xi_zret C Z dX6_isChange_26 xb_nz0
      · have h := ie_i c7 h
        refine xi_iconst (v := 1) C dX6_isChange_21 (by decide) ?_
        refine xi_goto (tgt := 26) C dX6_isChange_22 (by decide) ?_
        have w0 := Option.some.inj h
        subst w0
        exact xi_zret C Z dX6_isChange_26 xb_nz1
