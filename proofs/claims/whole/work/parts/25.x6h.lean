def f_X6_ofWires_6 (now : Nat → Int32) (x1_6 : Int32) (k : Int32 → Option (Int32)) : Nat → Int32 → Int32 → Option (Int32)
  | 0, _, _ => none
  | n + 1, x2_6, x3_6 =>
    if ((3 * x1_6) + 3) ≤ x3_6 then
      k x2_6
    else
      (xr_d now 1898 (96 + x3_6)).bind fun v2 =>
      if v2 ≤ 0 then
        f_X6_ofWires_6 now x1_6 k n (x2_6 + 0) (x3_6 + 1)
      else
        (xr_d now 1898 (96 + x3_6)).bind fun v5 =>
        f_X6_ofWires_6 now x1_6 k n (x2_6 + (v5 - 1)) (x3_6 + 1)
def f_X6_ofWires (now : Nat → Int32) (p1 : Int32) : Option (Int32) :=
  f_X6_ofWires_6 now p1 (fun x2z7 =>
    some x2z7) xFu 0 (3 * p1)
theorem k_X6_ofWires : xb_Y yX6_ofWires cX6_ofWires wsX6_ofWires 4 (some .int) { frames := 0, cells := 0, slots := 0, locals := 0 } 1 := ⟨⟨_, rfl⟩, by decide, ⟨by decide, by decide, by decide +kernel⟩, rfl, rfl⟩
theorem fl_X6_ofWires_7 : Cond.fieldLink RX6 7 "LookupBoardModel" "now" "[I" ∈ wsX6_ofWires := List.mem_of_getElem? (i := 1) rfl
theorem iw_X6_ofWires_6 : ∀ w ∈ wsX60, w ∈ wsX6_ofWires := fun w h => List.mem_cons_of_mem _ (List.mem_append_right _ h)
set_option maxHeartbeats 4000000 in
set_option maxRecDepth 100000 in
theorem m_X6_ofWires (D : va_G) (cI cC cZ cR : ClassId) (o0 : Nat) (ma : Nat → Nat) (st : Int32) (ik : Int32) (le : Int32) (sp : Int32) (nu : Int32) (now : Nat → Int32) (thn : Nat → Int32) (pst : Nat → Int32) (snp : Nat → Int32) (txt : Nat → Int32) (hld : Nat → Int32) (far : Nat → Int32) (don : Nat → Int32) (tld : Nat → Int32) (dep : Nat → Int32) (bit : Nat → Int32) (p1 : Int32) (r : Int32) (h : f_X6_ofWires now p1 = some r) : xb_M cX6_ofWires wsX6_ofWires RX6 { frames := 0, cells := 0, slots := 0, locals := 0 } (some .int) 4 (xb_ty cI cC cZ cR) D [.ref o0, .int p1] (wMo o0 ma st ik le sp nu ++ wAr cI (ma 0) 1898 now ++ wAr cI (ma 1) 1898 thn ++ wAr cI (ma 2) 7592 pst ++ wAr cI (ma 3) 1898 snp ++ wAr cC (ma 4) 80 txt ++ wAr cI (ma 5) 48 hld ++ wAr cI (ma 6) 24 far ++ wAr cZ (ma 7) 72 don ++ wAr cI (ma 8) 96 tld ++ wAr cI (ma 9) 24 dep ++ wAr cI (ma 10) 24 bit) (some (.int r)) (wMo o0 ma st ik le sp nu ++ wAr cI (ma 0) 1898 now ++ wAr cI (ma 1) 1898 thn ++ wAr cI (ma 2) 7592 pst ++ wAr cI (ma 3) 1898 snp ++ wAr cC (ma 4) 80 txt ++ wAr cI (ma 5) 48 hld ++ wAr cI (ma 6) 24 far ++ wAr cZ (ma 7) 72 don ++ wAr cI (ma 8) 96 tld ++ wAr cI (ma 9) 24 dep ++ wAr cI (ma 10) 24 bit) := by
  intro X C Z
  show xb_G X 0 0 (wMo o0 ma st ik le sp nu ++ wAr cI (ma 0) 1898 now ++ wAr cI (ma 1) 1898 thn ++ wAr cI (ma 2) 7592 pst ++ wAr cI (ma 3) 1898 snp ++ wAr cC (ma 4) 80 txt ++ wAr cI (ma 5) 48 hld ++ wAr cI (ma 6) 24 far ++ wAr cZ (ma 7) 72 don ++ wAr cI (ma 8) 96 tld ++ wAr cI (ma 9) 24 dep ++ wAr cI (ma 10) 24 bit) [(0, .ref o0), (1, .int p1)] 0 []
  have lp6 : ∀ (x1_6 : Int32) (k : Int32 → Option (Int32)) (n : Nat) (x2_6 : Int32) (x3_6 : Int32), f_X6_ofWires_6 now x1_6 k n x2_6 x3_6 = some r → (∀ (x2_6e : Int32), k x2_6e = some r → xb_G X 0 0 (wMo o0 ma st ik le sp nu ++ wAr cI (ma 0) 1898 now ++ wAr cI (ma 1) 1898 thn ++ wAr cI (ma 2) 7592 pst ++ wAr cI (ma 3) 1898 snp ++ wAr cC (ma 4) 80 txt ++ wAr cI (ma 5) 48 hld ++ wAr cI (ma 6) 24 far ++ wAr cZ (ma 7) 72 don ++ wAr cI (ma 8) 96 tld ++ wAr cI (ma 9) 24 dep ++ wAr cI (ma 10) 24 bit) [(2, .int x2_6e)] 51 []) → xb_G X 0 0 (wMo o0 ma st ik le sp nu ++ wAr cI (ma 0) 1898 now ++ wAr cI (ma 1) 1898 thn ++ wAr cI (ma 2) 7592 pst ++ wAr cI (ma 3) 1898 snp ++ wAr cC (ma 4) 80 txt ++ wAr cI (ma 5) 48 hld ++ wAr cI (ma 6) 24 far ++ wAr cZ (ma 7) 72 don ++ wAr cI (ma 8) 96 tld ++ wAr cI (ma 9) 24 dep ++ wAr cI (ma 10) 24 bit) [(0, .ref o0), (1, .int x1_6), (2, .int x2_6), (3, .int x3_6)] 6 [] := by
    intro x1_6 k n
    induction n with
    | zero => intro x2_6 x3_6 h hk; unfold f_X6_ofWires_6 at h; cases h
    | succ n ih =>
      intro x2_6 x3_6 h hk
      unfold f_X6_ofWires_6 at h
      refine xi_iload_n C dX6_ofWires_6 rfl 3 rfl ?_
      refine xi_iconst (v := 3) C dX6_ofWires_7 (by decide) ?_
      refine xi_iload_n C dX6_ofWires_8 rfl 1 rfl ?_
      refine xi_imul C dX6_ofWires_9 ?_
      refine xi_iconst (v := 3) C dX6_ofWires_10 (by decide) ?_
      refine xi_iadd C dX6_ofWires_11 ?_
      refine xi_icmp_ge (tgt := 51) C dX6_ofWires_12 (by decide) (fun c1 => ?_) (fun c1 => ?_)
      · have h := it_i c1 h
        exact xb_lv (hk x2_6 h) [2] rfl
      · have h := ie_i c1 h
        refine xi_iload_n C dX6_ofWires_15 rfl 2 rfl ?_
        refine xi_aload_n C dX6_ofWires_16 rfl 0 rfl ?_
        refine xi_get C dX6_ofWires_17 iw_X6_ofWires_6 0 rfl rfl 0 (by decide) fl_X6_ofWires_7 rfl ?_
        refine xi_bipush (v := 96) C dX6_ofWires_20 (by decide) ?_
        refine xi_iload_n C dX6_ofWires_22 rfl 3 rfl ?_
        refine xi_iadd C dX6_ofWires_23 ?_
        obtain ⟨v2, e3, h⟩ := ob_i h
        refine xi_iald C dX6_ofWires_24 1 0 rfl rfl e3 ?_
        refine xi_if_le (tgt := 42) C dX6_ofWires_25 (by decide) (fun c4 => ?_) (fun c4 => ?_)
        · have h := it_i c4 h
          refine xi_iconst (v := 0) C dX6_ofWires_42 (by decide) ?_
          refine xi_iadd C dX6_ofWires_43 ?_
          refine xi_istore_n (lv2 := [(0, .ref o0), (1, .int x1_6), (2, .int (x2_6 + 0)), (3, .int x3_6)]) C dX6_ofWires_44 rfl (by decide) [0, 1, 3] [1, 2, 0, 3] rfl ?_
          refine xi_iinc (v := x3_6 + 1) (lv2 := [(0, .ref o0), (1, .int x1_6), (2, .int (x2_6 + 0)), (3, .int (x3_6 + 1))]) C dX6_ofWires_45 3 rfl (by rfl) (by decide) [0, 1, 2] [1, 2, 3, 0] rfl ?_
          refine xi_goto (tgt := 6) C dX6_ofWires_48 (by decide) ?_
          exact xb_lv (ih (x2_6 + 0) (x3_6 + 1) h hk) [0, 1, 2, 3] rfl
        · have h := ie_i c4 h
          refine xi_aload_n C dX6_ofWires_28 rfl 0 rfl ?_
          refine xi_get C dX6_ofWires_29 iw_X6_ofWires_6 0 rfl rfl 0 (by decide) fl_X6_ofWires_7 rfl ?_
          refine xi_bipush (v := 96) C dX6_ofWires_32 (by decide) ?_
          refine xi_iload_n C dX6_ofWires_34 rfl 3 rfl ?_
          refine xi_iadd C dX6_ofWires_35 ?_
          obtain ⟨v5, e6, h⟩ := ob_i h
          refine xi_iald C dX6_ofWires_36 1 0 rfl rfl e6 ?_
          refine xi_iconst (v := 1) C dX6_ofWires_37 (by decide) ?_
          refine xi_isub C dX6_ofWires_38 ?_
          refine xi_goto (tgt := 43) C dX6_ofWires_39 (by decide) ?_
          refine xi_iadd C dX6_ofWires_43 ?_
          refine xi_istore_n (lv2 := [(0, .ref o0), (1, .int x1_6), (2, .int (x2_6 + (v5 - 1))), (3, .int x3_6)]) C dX6_ofWires_44 rfl (by decide) [0, 1, 3] [1, 2, 0, 3] rfl ?_
          refine xi_iinc (v := x3_6 + 1) (lv2 := [(0, .ref o0), (1, .int x1_6), (2, .int (x2_6 + (v5 - 1))), (3, .int (x3_6 + 1))]) C dX6_ofWires_45 3 rfl (by rfl) (by decide) [0, 1, 2] [1, 2, 3, 0] rfl ?_
          refine xi_goto (tgt := 6) C dX6_ofWires_48 (by decide) ?_
          exact xb_lv (ih (x2_6 + (v5 - 1)) (x3_6 + 1) h hk) [0, 1, 2, 3] rfl
  unfold f_X6_ofWires at h
  refine xi_iconst (v := 0) C dX6_ofWires_0 (by decide) ?_
  refine xi_istore_n (lv2 := [(0, .ref o0), (1, .int p1), (2, .int 0)]) C dX6_ofWires_1 rfl (by decide) [0, 1] [1, 2, 0] rfl ?_
  refine xi_iconst (v := 3) C dX6_ofWires_2 (by decide) ?_
  refine xi_iload_n C dX6_ofWires_3 rfl 1 rfl ?_
  refine xi_imul C dX6_ofWires_4 ?_
  refine xi_istore_n (lv2 := [(0, .ref o0), (1, .int p1), (2, .int 0), (3, .int (3 * p1))]) C dX6_ofWires_5 rfl (by decide) [0, 1, 2] [1, 2, 3, 0] rfl ?_
  refine xb_lv (lp6 p1 _ xFu 0 (3 * p1) h (fun x2z7 h => ?_)) [0, 1, 2, 3] rfl
  refine xi_iload_n C dX6_ofWires_51 rfl 0 rfl ?_
  have w0 := Option.some.inj h
  subst w0
  exact xi_iret C Z dX6_ofWires_52
def f_X6_cell (now : Nat → Int32) (dep : Nat → Int32) (bit : Nat → Int32) (p1 : Int32) (p2 : Int32) : Option (Int32 × (Nat → Int32) × (Nat → Int32)) :=
  (f_X6_isCell now p1).bind fun v1 =>
  if v1 = 0 then
    some ((-1), dep, bit)
  else
    (f_X6_answers now dep bit 0).bind fun (dep4, bit5) =>
    if p2 = 0 then
      (xr_d now 1898 (0 + p1)).bind fun v7 =>
      some (v7, dep4, bit5)
    else
      if p2 = 1 then
        (xr_d now 1898 (((24 + (3 * p1)) + p2) - 1)).bind fun v9 =>
        some (v9, dep4, bit5)
      else
        if p2 = 2 then
          (xr_d now 1898 (((24 + (3 * p1)) + p2) - 1)).bind fun v11 =>
          some (v11, dep4, bit5)
        else
          if p2 = 3 then
            (xr_d now 1898 (((24 + (3 * p1)) + p2) - 1)).bind fun v13 =>
            some (v13, dep4, bit5)
          else
            if p2 = 4 then
              (xr_d dep4 24 p1).bind fun v15 =>
              some (v15, dep4, bit5)
            else
              if p2 = 5 then
                (f_X6_having now p1 (-5)).bind fun v17 =>
                some (v17, dep4, bit5)
              else
                if p2 = 6 then
                  (f_X6_ofWires now p1).bind fun v19 =>
                  some (v19, dep4, bit5)
                else
                  some ((-2), dep4, bit5)
theorem k_X6_cell : xb_Y yX6_cell cX6_cell wsX6_cell 3 (some .int) { frames := 5, cells := 0, slots := 0, locals := 108 } 2 := ⟨⟨_, rfl⟩, by decide, ⟨by decide, by decide, by decide +kernel⟩, rfl, rfl⟩
theorem fl_X6_cell_7 : Cond.fieldLink RX6 7 "LookupBoardModel" "now" "[I" ∈ wsX6_cell := List.mem_of_getElem? (i := 1) rfl
theorem fl_X6_cell_39 : Cond.fieldLink RX6 39 "LookupBoardModel" "depth" "[I" ∈ wsX6_cell := List.mem_of_getElem? (i := 2) rfl
theorem iw_X6_cell_6 : ∀ w ∈ wsX60, w ∈ wsX6_cell := fun w h => List.mem_cons_of_mem _ (List.mem_append_right _ h)
set_option maxHeartbeats 4000000 in
set_option maxRecDepth 100000 in
theorem m_X6_cell (D : va_G) (cI cC cZ cR : ClassId) (o0 : Nat) (ma : Nat → Nat) (st : Int32) (ik : Int32) (le : Int32) (sp : Int32) (nu : Int32) (now : Nat → Int32) (thn : Nat → Int32) (pst : Nat → Int32) (snp : Nat → Int32) (txt : Nat → Int32) (hld : Nat → Int32) (far : Nat → Int32) (don : Nat → Int32) (tld : Nat → Int32) (dep : Nat → Int32) (bit : Nat → Int32) (p1 : Int32) (p2 : Int32) (r : Int32) (dep' : Nat → Int32) (bit' : Nat → Int32) (h : f_X6_cell now dep bit p1 p2 = some (r, dep', bit')) : xb_M cX6_cell wsX6_cell RX6 { frames := 5, cells := 0, slots := 0, locals := 108 } (some .int) 3 (xb_ty cI cC cZ cR) D [.ref o0, .int p1, .int p2] (wMo o0 ma st ik le sp nu ++ wAr cI (ma 0) 1898 now ++ wAr cI (ma 1) 1898 thn ++ wAr cI (ma 2) 7592 pst ++ wAr cI (ma 3) 1898 snp ++ wAr cC (ma 4) 80 txt ++ wAr cI (ma 5) 48 hld ++ wAr cI (ma 6) 24 far ++ wAr cZ (ma 7) 72 don ++ wAr cI (ma 8) 96 tld ++ wAr cI (ma 9) 24 dep ++ wAr cI (ma 10) 24 bit) (some (.int r)) (wMo o0 ma st ik le sp nu ++ wAr cI (ma 0) 1898 now ++ wAr cI (ma 1) 1898 thn ++ wAr cI (ma 2) 7592 pst ++ wAr cI (ma 3) 1898 snp ++ wAr cC (ma 4) 80 txt ++ wAr cI (ma 5) 48 hld ++ wAr cI (ma 6) 24 far ++ wAr cZ (ma 7) 72 don ++ wAr cI (ma 8) 96 tld ++ wAr cI (ma 9) 24 dep' ++ wAr cI (ma 10) 24 bit') := by
  intro X C Z
  show xb_G X 0 0 (wMo o0 ma st ik le sp nu ++ wAr cI (ma 0) 1898 now ++ wAr cI (ma 1) 1898 thn ++ wAr cI (ma 2) 7592 pst ++ wAr cI (ma 3) 1898 snp ++ wAr cC (ma 4) 80 txt ++ wAr cI (ma 5) 48 hld ++ wAr cI (ma 6) 24 far ++ wAr cZ (ma 7) 72 don ++ wAr cI (ma 8) 96 tld ++ wAr cI (ma 9) 24 dep ++ wAr cI (ma 10) 24 bit) [(0, .ref o0), (1, .int p1), (2, .int p2)] 0 []
  unfold f_X6_cell at h
  refine xi_aload_n C dX6_cell_0 rfl 0 rfl ?_
  refine xi_get C dX6_cell_1 iw_X6_cell_6 0 rfl rfl 0 (by decide) fl_X6_cell_7 rfl ?_
  refine xi_iload_n C dX6_cell_4 rfl 1 rfl ?_
  obtain ⟨v1, e2, h⟩ := ob_i h
  refine xi_callS (As := [.ref (ma 0), .int p1]) (o := some (.int v1)) (rest := []) (w2 := (wMo o0 ma st ik le sp nu ++ wAr cI (ma 0) 1898 now ++ wAr cI (ma 1) 1898 thn ++ wAr cI (ma 2) 7592 pst ++ wAr cI (ma 3) 1898 snp ++ wAr cC (ma 4) 80 txt ++ wAr cI (ma 5) 48 hld ++ wAr cI (ma 6) 24 far ++ wAr cZ (ma 7) 72 don ++ wAr cI (ma 8) 96 tld ++ wAr cI (ma 9) 24 dep ++ wAr cI (ma 10) 24 bit)) (st2 := [.int v1]) C k_X6_isCell (m_X6_isCell D cI cC cZ cR (ma 0) now p1 v1 e2) gX6_cell_X6_isCell dX6_cell_5 ⟨Nat.le_of_ble_eq_true rfl, Nat.le_of_ble_eq_true rfl, Nat.le_of_ble_eq_true rfl⟩ [1] mxC_X6_1 rfl [0, 1, 2, 3] rfl mxF_X6_1 mxM_X6_1 rfl (Nat.le_of_ble_eq_true rfl) ⟨Nat.zero_le _, Nat.zero_le _⟩ rfl ?_
  refine xi_if_ne (tgt := 13) C dX6_cell_8 (by decide) (fun c3 => ?_) (fun c3 => ?_)
  · have h := ie_i c3 h
    refine xi_aload_n C dX6_cell_13 rfl 0 rfl ?_
    refine xi_iconst (v := 0) C dX6_cell_14 (by decide) ?_
    obtain ⟨⟨dep4, bit5⟩, e6, h⟩ := ob_i h
    refine xi_callV (As := [.int 0]) (o := none) (rest := []) (w2 := (wMo o0 ma st ik le sp nu ++ wAr cI (ma 0) 1898 now ++ wAr cI (ma 1) 1898 thn ++ wAr cI (ma 2) 7592 pst ++ wAr cI (ma 3) 1898 snp ++ wAr cC (ma 4) 80 txt ++ wAr cI (ma 5) 48 hld ++ wAr cI (ma 6) 24 far ++ wAr cZ (ma 7) 72 don ++ wAr cI (ma 8) 96 tld ++ wAr cI (ma 9) 24 dep4 ++ wAr cI (ma 10) 24 bit5)) (st2 := []) C k_X6_answers (m_X6_answers D cI cC cZ cR o0 ma st ik le sp nu now thn pst snp txt hld far don tld dep bit 0 dep4 bit5 e6) gX6_cell_X6_answers dX6_cell_15 ⟨Nat.le_of_ble_eq_true rfl, Nat.le_of_ble_eq_true rfl, Nat.le_of_ble_eq_true rfl⟩ 0 rfl rfl [0, 1, 2, 3, 4, 5, 6, 7, 8, 9, 10, 11] mxC_X6_0_1_2_3_4_5_6_7_8_9_10_11 rfl [0, 1, 2, 3] rfl mxF_X6_0_1_2_3_4_5_6_7_8_9_10_11 mxM_X6_0_1_2_3_4_5_6_7_8_9_10_11 rfl (Nat.le_of_ble_eq_true rfl) ⟨Nat.zero_le _, Nat.zero_le _⟩ rfl ?_
    refine xi_iload_n C dX6_cell_18 rfl 2 rfl ?_
    rcases Decidable.em (p2 = 0) with w19_0 | w19_0
    · have h := it_i w19_0 h
      refine xi_tabIn (tgt := 60) C 0 w19_0 dX6_cell_19 (by decide) (by decide) rfl (by decide) ?_
      refine xi_aload_n C dX6_cell_60 rfl 0 rfl ?_
      refine xi_get C dX6_cell_61 iw_X6_cell_6 0 rfl rfl 0 (by decide) fl_X6_cell_7 rfl ?_
      refine xi_iconst (v := 0) C dX6_cell_64 (by decide) ?_
      refine xi_iload_n C dX6_cell_65 rfl 1 rfl ?_
      refine xi_iadd C dX6_cell_66 ?_
      obtain ⟨v7, e8, h⟩ := ob_i h
      refine xi_iald C dX6_cell_67 1 0 rfl rfl e8 ?_
      have w0 := Option.some.inj h
      obtain ⟨q0, w1⟩ := Prod.mk.inj w0
      obtain ⟨q1, w2⟩ := Prod.mk.inj w1
      subst q0
      subst q1
      subst w2
      exact xi_iret C Z dX6_cell_68
    have h := ie_i w19_0 h
    rcases Decidable.em (p2 = 1) with w19_1 | w19_1
    · have h := it_i w19_1 h
      refine xi_tabIn (tgt := 69) C 1 w19_1 dX6_cell_19 (by decide) (by decide) rfl (by decide) ?_
      refine xi_aload_n C dX6_cell_69 rfl 0 rfl ?_
      refine xi_get C dX6_cell_70 iw_X6_cell_6 0 rfl rfl 0 (by decide) fl_X6_cell_7 rfl ?_
      refine xi_bipush (v := 24) C dX6_cell_73 (by decide) ?_
      refine xi_iconst (v := 3) C dX6_cell_75 (by decide) ?_
      refine xi_iload_n C dX6_cell_76 rfl 1 rfl ?_
      refine xi_imul C dX6_cell_77 ?_
      refine xi_iadd C dX6_cell_78 ?_
      refine xi_iload_n C dX6_cell_79 rfl 2 rfl ?_
      refine xi_iadd C dX6_cell_80 ?_
      refine xi_iconst (v := 1) C dX6_cell_81 (by decide) ?_
      refine xi_isub C dX6_cell_82 ?_
      obtain ⟨v9, e10, h⟩ := ob_i h
      refine xi_iald C dX6_cell_83 1 0 rfl rfl e10 ?_
      have w0 := Option.some.inj h
      obtain ⟨q0, w1⟩ := Prod.mk.inj w0
      obtain ⟨q1, w2⟩ := Prod.mk.inj w1
      subst q0
      subst q1
      subst w2
      exact xi_iret C Z dX6_cell_84
    have h := ie_i w19_1 h
    rcases Decidable.em (p2 = 2) with w19_2 | w19_2
    · have h := it_i w19_2 h
      refine xi_tabIn (tgt := 69) C 2 w19_2 dX6_cell_19 (by decide) (by decide) rfl (by decide) ?_
      refine xi_aload_n C dX6_cell_69 rfl 0 rfl ?_
      refine xi_get C dX6_cell_70 iw_X6_cell_6 0 rfl rfl 0 (by decide) fl_X6_cell_7 rfl ?_
      refine xi_bipush (v := 24) C dX6_cell_73 (by decide) ?_
      refine xi_iconst (v := 3) C dX6_cell_75 (by decide) ?_
      refine xi_iload_n C dX6_cell_76 rfl 1 rfl ?_
      refine xi_imul C dX6_cell_77 ?_
      refine xi_iadd C dX6_cell_78 ?_
      refine xi_iload_n C dX6_cell_79 rfl 2 rfl ?_
      refine xi_iadd C dX6_cell_80 ?_
      refine xi_iconst (v := 1) C dX6_cell_81 (by decide) ?_
      refine xi_isub C dX6_cell_82 ?_
      obtain ⟨v11, e12, h⟩ := ob_i h
      refine xi_iald C dX6_cell_83 1 0 rfl rfl e12 ?_
      have w0 := Option.some.inj h
      obtain ⟨q0, w1⟩ := Prod.mk.inj w0
      obtain ⟨q1, w2⟩ := Prod.mk.inj w1
      subst q0
      subst q1
      subst w2
      exact xi_iret C Z dX6_cell_84
    have h := ie_i w19_2 h
    rcases Decidable.em (p2 = 3) with w19_3 | w19_3
    · have h := it_i w19_3 h
      refine xi_tabIn (tgt := 69) C 3 w19_3 dX6_cell_19 (by decide) (by decide) rfl (by decide) ?_
      refine xi_aload_n C dX6_cell_69 rfl 0 rfl ?_
      refine xi_get C dX6_cell_70 iw_X6_cell_6 0 rfl rfl 0 (by decide) fl_X6_cell_7 rfl ?_
      refine xi_bipush (v := 24) C dX6_cell_73 (by decide) ?_
      refine xi_iconst (v := 3) C dX6_cell_75 (by decide) ?_
      refine xi_iload_n C dX6_cell_76 rfl 1 rfl ?_
      refine xi_imul C dX6_cell_77 ?_
      refine xi_iadd C dX6_cell_78 ?_
      refine xi_iload_n C dX6_cell_79 rfl 2 rfl ?_
      refine xi_iadd C dX6_cell_80 ?_
      refine xi_iconst (v := 1) C dX6_cell_81 (by decide) ?_
      refine xi_isub C dX6_cell_82 ?_
      obtain ⟨v13, e14, h⟩ := ob_i h
      refine xi_iald C dX6_cell_83 1 0 rfl rfl e14 ?_
      have w0 := Option.some.inj h
      obtain ⟨q0, w1⟩ := Prod.mk.inj w0
      obtain ⟨q1, w2⟩ := Prod.mk.inj w1
      subst q0
      subst q1
      subst w2
      exact xi_iret C Z dX6_cell_84
    have h := ie_i w19_3 h
    rcases Decidable.em (p2 = 4) with w19_4 | w19_4
    · have h := it_i w19_4 h
      refine xi_tabIn (tgt := 85) C 4 w19_4 dX6_cell_19 (by decide) (by decide) rfl (by decide) ?_
      refine xi_aload_n C dX6_cell_85 rfl 0 rfl ?_
      refine xi_get C dX6_cell_86 iw_X6_cell_6 0 rfl rfl 14 (by decide) fl_X6_cell_39 rfl ?_
      refine xi_iload_n C dX6_cell_89 rfl 1 rfl ?_
      obtain ⟨v15, e16, h⟩ := ob_i h
      refine xi_iald C dX6_cell_90 10 0 rfl rfl e16 ?_
      have w0 := Option.some.inj h
      obtain ⟨q0, w1⟩ := Prod.mk.inj w0
      obtain ⟨q1, w2⟩ := Prod.mk.inj w1
      subst q0
      subst q1
      subst w2
      exact xi_iret C Z dX6_cell_91
    have h := ie_i w19_4 h
    rcases Decidable.em (p2 = 5) with w19_5 | w19_5
    · have h := it_i w19_5 h
      refine xi_tabIn (tgt := 92) C 5 w19_5 dX6_cell_19 (by decide) (by decide) rfl (by decide) ?_
      refine xi_aload_n C dX6_cell_92 rfl 0 rfl ?_
      refine xi_iload_n C dX6_cell_93 rfl 1 rfl ?_
      refine xi_bipush (v := (-5)) C dX6_cell_94 (by decide) ?_
      obtain ⟨v17, e18, h⟩ := ob_i h
      refine xi_callV (As := [.int p1, .int (-5)]) (o := some (.int v17)) (rest := []) (w2 := (wMo o0 ma st ik le sp nu ++ wAr cI (ma 0) 1898 now ++ wAr cI (ma 1) 1898 thn ++ wAr cI (ma 2) 7592 pst ++ wAr cI (ma 3) 1898 snp ++ wAr cC (ma 4) 80 txt ++ wAr cI (ma 5) 48 hld ++ wAr cI (ma 6) 24 far ++ wAr cZ (ma 7) 72 don ++ wAr cI (ma 8) 96 tld ++ wAr cI (ma 9) 24 dep4 ++ wAr cI (ma 10) 24 bit5)) (st2 := [.int v17]) C k_X6_having (m_X6_having D cI cC cZ cR o0 ma st ik le sp nu now thn pst snp txt hld far don tld dep4 bit5 p1 (-5) v17 e18) gX6_cell_X6_having dX6_cell_96 ⟨Nat.le_of_ble_eq_true rfl, Nat.le_of_ble_eq_true rfl, Nat.le_of_ble_eq_true rfl⟩ 0 rfl rfl [0, 1, 2, 3, 4, 5, 6, 7, 8, 9, 10, 11] mxC_X6_0_1_2_3_4_5_6_7_8_9_10_11 rfl [0, 1, 2, 3] rfl mxF_X6_0_1_2_3_4_5_6_7_8_9_10_11 mxM_X6_0_1_2_3_4_5_6_7_8_9_10_11 rfl (Nat.le_of_ble_eq_true rfl) ⟨Nat.zero_le _, Nat.zero_le _⟩ rfl ?_
      have w0 := Option.some.inj h
      obtain ⟨q0, w1⟩ := Prod.mk.inj w0
      obtain ⟨q1, w2⟩ := Prod.mk.inj w1
      subst q0
      subst q1
      subst w2
      exact xi_iret C Z dX6_cell_99
    have h := ie_i w19_5 h
    rcases Decidable.em (p2 = 6) with w19_6 | w19_6
    · have h := it_i w19_6 h
      refine xi_tabIn (tgt := 100) C 6 w19_6 dX6_cell_19 (by decide) (by decide) rfl (by decide) ?_
      refine xi_aload_n C dX6_cell_100 rfl 0 rfl ?_
      refine xi_iload_n C dX6_cell_101 rfl 1 rfl ?_
      obtain ⟨v19, e20, h⟩ := ob_i h
      refine xi_callV (As := [.int p1]) (o := some (.int v19)) (rest := []) (w2 := (wMo o0 ma st ik le sp nu ++ wAr cI (ma 0) 1898 now ++ wAr cI (ma 1) 1898 thn ++ wAr cI (ma 2) 7592 pst ++ wAr cI (ma 3) 1898 snp ++ wAr cC (ma 4) 80 txt ++ wAr cI (ma 5) 48 hld ++ wAr cI (ma 6) 24 far ++ wAr cZ (ma 7) 72 don ++ wAr cI (ma 8) 96 tld ++ wAr cI (ma 9) 24 dep4 ++ wAr cI (ma 10) 24 bit5)) (st2 := [.int v19]) C k_X6_ofWires (m_X6_ofWires D cI cC cZ cR o0 ma st ik le sp nu now thn pst snp txt hld far don tld dep4 bit5 p1 v19 e20) gX6_cell_X6_ofWires dX6_cell_102 ⟨Nat.le_of_ble_eq_true rfl, Nat.le_of_ble_eq_true rfl, Nat.le_of_ble_eq_true rfl⟩ 0 rfl rfl [0, 1, 2, 3, 4, 5, 6, 7, 8, 9, 10, 11] mxC_X6_0_1_2_3_4_5_6_7_8_9_10_11 rfl [0, 1, 2, 3] rfl mxF_X6_0_1_2_3_4_5_6_7_8_9_10_11 mxM_X6_0_1_2_3_4_5_6_7_8_9_10_11 rfl (Nat.le_of_ble_eq_true rfl) ⟨Nat.zero_le _, Nat.zero_le _⟩ rfl ?_
      have w0 := Option.some.inj h
      obtain ⟨q0, w1⟩ := Prod.mk.inj w0
      obtain ⟨q1, w2⟩ := Prod.mk.inj w1
      subst q0
      subst q1
      subst w2
      exact xi_iret C Z dX6_cell_105
    have h := ie_i w19_6 h
    refine xi_tabOut (tgt := 106) C dX6_cell_19 (xb_tab (N := 7) (by decide) (fun j hj => ?_)) (by decide) ?_
    · rcases (show j = 0 ∨ j = 1 ∨ j = 2 ∨ j = 3 ∨ j = 4 ∨ j = 5 ∨ j = 6 by omega) with rfl | rfl | rfl | rfl | rfl | rfl | rfl
      · exact w19_0
      · exact w19_1
      · exact w19_2
      · exact w19_3
      · exact w19_4
      · exact w19_5
      · exact w19_6
    refine xi_bipush (v := (-2)) C dX6_cell_106 (by decide) ?_
    have w0 := Option.some.inj h
    obtain ⟨q0, w1⟩ := Prod.mk.inj w0
    obtain ⟨q1, w2⟩ := Prod.mk.inj w1
    subst q0
    subst q1
    subst w2
    exact xi_iret C Z dX6_cell_108
  · have h := it_i c3 h
    refine xi_iconst (v := (-1)) C dX6_cell_11 (by decide) ?_
    have w0 := Option.some.inj h
    obtain ⟨q0, w1⟩ := Prod.mk.inj w0
    obtain ⟨q1, w2⟩ := Prod.mk.inj w1
    subst q0
    subst q1
    subst w2
    exact xi_iret C Z dX6_cell_12
def f_X6_path (now : Nat → Int32) (p1 : Int32) (p2 : Int32) (p3 : Int32) : Option (Int32) :=
  (f_X6_isCell now p1).bind fun v1 =>
  if v1 = 0 then
    some (-1)
  else
    (f_X6_in p2 0 2).bind fun v4 =>
    if v4 = 0 then
      some (-1)
    else
      if 0 ≤ p3 then
        (xr_d now 1898 (96 + ((3 * p1) + p2))).bind fun v8 =>
        if v8 ≤ p3 then
          some (-5)
        else
          (xr_d now 1898 ((168 + (24 * ((3 * p1) + p2))) + p3)).bind fun v11 =>
          some v11
      else
        some (-2)
theorem k_X6_path : xb_Y yX6_path cX6_path wsX6_path 5 (some .int) { frames := 3, cells := 0, slots := 0, locals := 63 } 3 := ⟨⟨_, rfl⟩, by decide, ⟨by decide, by decide, by decide +kernel⟩, rfl, rfl⟩
theorem fl_X6_path_7 : Cond.fieldLink RX6 7 "LookupBoardModel" "now" "[I" ∈ wsX6_path := List.mem_of_getElem? (i := 1) rfl
theorem iw_X6_path_6 : ∀ w ∈ wsX60, w ∈ wsX6_path := fun w h => List.mem_cons_of_mem _ (List.mem_append_right _ h)
set_option maxHeartbeats 4000000 in
set_option maxRecDepth 100000 in
theorem m_X6_path (D : va_G) (cI cC cZ cR : ClassId) (o0 : Nat) (ma : Nat → Nat) (st : Int32) (ik : Int32) (le : Int32) (sp : Int32) (nu : Int32) (now : Nat → Int32) (thn : Nat → Int32) (pst : Nat → Int32) (snp : Nat → Int32) (txt : Nat → Int32) (hld : Nat → Int32) (far : Nat → Int32) (don : Nat → Int32) (tld : Nat → Int32) (dep : Nat → Int32) (bit : Nat → Int32) (p1 : Int32) (p2 : Int32) (p3 : Int32) (r : Int32) (h : f_X6_path now p1 p2 p3 = some r) : xb_M cX6_path wsX6_path RX6 { frames := 3, cells := 0, slots := 0, locals := 63 } (some .int) 5 (xb_ty cI cC cZ cR) D [.ref o0, .int p1, .int p2, .int p3] (wMo o0 ma st ik le sp nu ++ wAr cI (ma 0) 1898 now ++ wAr cI (ma 1) 1898 thn ++ wAr cI (ma 2) 7592 pst ++ wAr cI (ma 3) 1898 snp ++ wAr cC (ma 4) 80 txt ++ wAr cI (ma 5) 48 hld ++ wAr cI (ma 6) 24 far ++ wAr cZ (ma 7) 72 don ++ wAr cI (ma 8) 96 tld ++ wAr cI (ma 9) 24 dep ++ wAr cI (ma 10) 24 bit) (some (.int r)) (wMo o0 ma st ik le sp nu ++ wAr cI (ma 0) 1898 now ++ wAr cI (ma 1) 1898 thn ++ wAr cI (ma 2) 7592 pst ++ wAr cI (ma 3) 1898 snp ++ wAr cC (ma 4) 80 txt ++ wAr cI (ma 5) 48 hld ++ wAr cI (ma 6) 24 far ++ wAr cZ (ma 7) 72 don ++ wAr cI (ma 8) 96 tld ++ wAr cI (ma 9) 24 dep ++ wAr cI (ma 10) 24 bit) := by
  intro X C Z
  show xb_G X 0 0 (wMo o0 ma st ik le sp nu ++ wAr cI (ma 0) 1898 now ++ wAr cI (ma 1) 1898 thn ++ wAr cI (ma 2) 7592 pst ++ wAr cI (ma 3) 1898 snp ++ wAr cC (ma 4) 80 txt ++ wAr cI (ma 5) 48 hld ++ wAr cI (ma 6) 24 far ++ wAr cZ (ma 7) 72 don ++ wAr cI (ma 8) 96 tld ++ wAr cI (ma 9) 24 dep ++ wAr cI (ma 10) 24 bit) [(0, .ref o0), (1, .int p1), (2, .int p2), (3, .int p3)] 0 []
  unfold f_X6_path at h
  refine xi_aload_n C dX6_path_0 rfl 0 rfl ?_
  refine xi_get C dX6_path_1 iw_X6_path_6 0 rfl rfl 0 (by decide) fl_X6_path_7 rfl ?_
  refine xi_iload_n C dX6_path_4 rfl 1 rfl ?_
  obtain ⟨v1, e2, h⟩ := ob_i h
  refine xi_callS (As := [.ref (ma 0), .int p1]) (o := some (.int v1)) (rest := []) (w2 := (wMo o0 ma st ik le sp nu ++ wAr cI (ma 0) 1898 now ++ wAr cI (ma 1) 1898 thn ++ wAr cI (ma 2) 7592 pst ++ wAr cI (ma 3) 1898 snp ++ wAr cC (ma 4) 80 txt ++ wAr cI (ma 5) 48 hld ++ wAr cI (ma 6) 24 far ++ wAr cZ (ma 7) 72 don ++ wAr cI (ma 8) 96 tld ++ wAr cI (ma 9) 24 dep ++ wAr cI (ma 10) 24 bit)) (st2 := [.int v1]) C k_X6_isCell (m_X6_isCell D cI cC cZ cR (ma 0) now p1 v1 e2) gX6_path_X6_isCell dX6_path_5 ⟨Nat.le_of_ble_eq_true rfl, Nat.le_of_ble_eq_true rfl, Nat.le_of_ble_eq_true rfl⟩ [1] mxC_X6_1 rfl [0, 1, 2, 3] rfl mxF_X6_1 mxM_X6_1 rfl (Nat.le_of_ble_eq_true rfl) ⟨Nat.zero_le _, Nat.zero_le _⟩ rfl ?_
  refine xi_if_eq (tgt := 20) C dX6_path_8 (by decide) (fun c3 => ?_) (fun c3 => ?_)
  · have h := it_i c3 h
    refine xi_iconst (v := (-1)) C dX6_path_20 (by decide) ?_
    have w0 := Option.some.inj h
    subst w0
    exact xi_iret C Z dX6_path_21
  · have h := ie_i c3 h
    refine xi_iload_n C dX6_path_11 rfl 2 rfl ?_
    refine xi_iconst (v := 0) C dX6_path_12 (by decide) ?_
    refine xi_iconst (v := 2) C dX6_path_13 (by decide) ?_
    obtain ⟨v4, e5, h⟩ := ob_i h
    refine xi_callS (As := [.int p2, .int 0, .int 2]) (o := some (.int v4)) (rest := []) (w2 := (wMo o0 ma st ik le sp nu ++ wAr cI (ma 0) 1898 now ++ wAr cI (ma 1) 1898 thn ++ wAr cI (ma 2) 7592 pst ++ wAr cI (ma 3) 1898 snp ++ wAr cC (ma 4) 80 txt ++ wAr cI (ma 5) 48 hld ++ wAr cI (ma 6) 24 far ++ wAr cZ (ma 7) 72 don ++ wAr cI (ma 8) 96 tld ++ wAr cI (ma 9) 24 dep ++ wAr cI (ma 10) 24 bit)) (st2 := [.int v4]) C k_X6_in (m_X6_in D cI cC cZ cR p2 0 2 v4 e5) gX6_path_X6_in dX6_path_14 ⟨Nat.le_of_ble_eq_true rfl, Nat.le_of_ble_eq_true rfl, Nat.le_of_ble_eq_true rfl⟩ [] rfl rfl [0, 1, 2, 3] rfl rfl rfl rfl (Nat.le_of_ble_eq_true rfl) ⟨Nat.zero_le _, Nat.zero_le _⟩ rfl ?_
    refine xi_if_ne (tgt := 22) C dX6_path_17 (by decide) (fun c6 => ?_) (fun c6 => ?_)
    · have h := ie_i c6 h
      refine xi_iload_n C dX6_path_22 rfl 3 rfl ?_
      refine xi_if_ge (tgt := 29) C dX6_path_23 (by decide) (fun c7 => ?_) (fun c7 => ?_)
      · have h := it_i c7 h
        refine xi_iconst (v := 3) C dX6_path_29 (by decide) ?_
        refine xi_iload_n C dX6_path_30 rfl 1 rfl ?_
        refine xi_imul C dX6_path_31 ?_
        refine xi_iload_n C dX6_path_32 rfl 2 rfl ?_
        refine xi_iadd C dX6_path_33 ?_
        refine xi_istore (lv2 := [(0, .ref o0), (1, .int p1), (2, .int p2), (3, .int p3), (4, .int ((3 * p1) + p2))]) C dX6_path_34 (by decide) [0, 1, 2, 3] [1, 2, 3, 4, 0] rfl ?_
        refine xi_iload_n C dX6_path_36 rfl 3 rfl ?_
        refine xi_aload_n C dX6_path_37 rfl 0 rfl ?_
        refine xi_get C dX6_path_38 iw_X6_path_6 0 rfl rfl 0 (by decide) fl_X6_path_7 rfl ?_
        refine xi_bipush (v := 96) C dX6_path_41 (by decide) ?_
        refine xi_iload C dX6_path_43 4 rfl ?_
        refine xi_iadd C dX6_path_45 ?_
        obtain ⟨v8, e9, h⟩ := ob_i h
        refine xi_iald C dX6_path_46 1 0 rfl rfl e9 ?_
        refine xi_icmp_ge (tgt := 69) C dX6_path_47 (by decide) (fun c10 => ?_) (fun c10 => ?_)
        · have h := it_i c10 h
          refine xi_bipush (v := (-5)) C dX6_path_69 (by decide) ?_
          have w0 := Option.some.inj h
          subst w0
          exact xi_iret C Z dX6_path_71
        · have h := ie_i c10 h
          refine xi_aload_n C dX6_path_50 rfl 0 rfl ?_
          refine xi_get C dX6_path_51 iw_X6_path_6 0 rfl rfl 0 (by decide) fl_X6_path_7 rfl ?_
          refine xi_sipush (v := 168) C dX6_path_54 (by decide) ?_
          refine xi_bipush (v := 24) C dX6_path_57 (by decide) ?_
          refine xi_iload C dX6_path_59 4 rfl ?_
          refine xi_imul C dX6_path_61 ?_
          refine xi_iadd C dX6_path_62 ?_
          refine xi_iload_n C dX6_path_63 rfl 3 rfl ?_
          refine xi_iadd C dX6_path_64 ?_
          obtain ⟨v11, e12, h⟩ := ob_i h
          refine xi_iald C dX6_path_65 1 0 rfl rfl e12 ?_
          refine xi_goto (tgt := 71) C dX6_path_66 (by decide) ?_
          have w0 := Option.some.inj h
          subst w0
          exact xi_iret C Z dX6_path_71
      · have h := ie_i c7 h
        refine xi_bipush (v := (-2)) C dX6_path_26 (by decide) ?_
        have w0 := Option.some.inj h
        subst w0
        exact xi_iret C Z dX6_path_28
    · have h := it_i c6 h
      refine xi_iconst (v := (-1)) C dX6_path_20 (by decide) ?_
      have w0 := Option.some.inj h
      subst w0
      exact xi_iret C Z dX6_path_21
def f_X6_held (now : Nat → Int32) (hld : Nat → Int32) (p1 : Int32) (p2 : Int32) : Option (Int32 × (Nat → Int32)) :=
  (f_X6_isPlace p1).bind fun v1 =>
  if v1 = 0 then
    some ((-1), hld)
  else
    (f_X6_isPlace p2).bind fun v4 =>
    if v4 = 0 then
      some ((-1), hld)
    else
      (f_X6_areBeside p1 p2).bind fun v7 =>
      if v7 = 0 then
        some ((-1), hld)
      else
        (f_X6_counts hld now).bind fun hld10 =>
        (f_X6_segment p1 p2).bind fun v12 =>
        (xr_d hld10 48 v12).bind fun v14 =>
        some (v14, hld10)
theorem k_X6_held : xb_Y yX6_held cX6_held wsX6_held 3 (some .int) { frames := 2, cells := 0, slots := 0, locals := 47 } 2 := ⟨⟨_, rfl⟩, by decide, ⟨by decide, by decide, by decide +kernel⟩, rfl, rfl⟩
theorem fl_X6_held_7 : Cond.fieldLink RX6 7 "LookupBoardModel" "now" "[I" ∈ wsX6_held := List.mem_of_getElem? (i := 1) rfl
theorem fl_X6_held_26 : Cond.fieldLink RX6 26 "LookupBoardModel" "held" "[I" ∈ wsX6_held := List.mem_of_getElem? (i := 2) rfl
theorem iw_X6_held_6 : ∀ w ∈ wsX60, w ∈ wsX6_held := fun w h => List.mem_cons_of_mem _ (List.mem_append_right _ h)
set_option maxHeartbeats 4000000 in
set_option maxRecDepth 100000 in
theorem m_X6_held (D : va_G) (cI cC cZ cR : ClassId) (o0 : Nat) (ma : Nat → Nat) (st : Int32) (ik : Int32) (le : Int32) (sp : Int32) (nu : Int32) (now : Nat → Int32) (thn : Nat → Int32) (pst : Nat → Int32) (snp : Nat → Int32) (txt : Nat → Int32) (hld : Nat → Int32) (far : Nat → Int32) (don : Nat → Int32) (tld : Nat → Int32) (dep : Nat → Int32) (bit : Nat → Int32) (p1 : Int32) (p2 : Int32) (r : Int32) (hld' : Nat → Int32) (h : f_X6_held now hld p1 p2 = some (r, hld')) : xb_M cX6_held wsX6_held RX6 { frames := 2, cells := 0, slots := 0, locals := 47 } (some .int) 3 (xb_ty cI cC cZ cR) D [.ref o0, .int p1, .int p2] (wMo o0 ma st ik le sp nu ++ wAr cI (ma 0) 1898 now ++ wAr cI (ma 1) 1898 thn ++ wAr cI (ma 2) 7592 pst ++ wAr cI (ma 3) 1898 snp ++ wAr cC (ma 4) 80 txt ++ wAr cI (ma 5) 48 hld ++ wAr cI (ma 6) 24 far ++ wAr cZ (ma 7) 72 don ++ wAr cI (ma 8) 96 tld ++ wAr cI (ma 9) 24 dep ++ wAr cI (ma 10) 24 bit) (some (.int r)) (wMo o0 ma st ik le sp nu ++ wAr cI (ma 0) 1898 now ++ wAr cI (ma 1) 1898 thn ++ wAr cI (ma 2) 7592 pst ++ wAr cI (ma 3) 1898 snp ++ wAr cC (ma 4) 80 txt ++ wAr cI (ma 5) 48 hld' ++ wAr cI (ma 6) 24 far ++ wAr cZ (ma 7) 72 don ++ wAr cI (ma 8) 96 tld ++ wAr cI (ma 9) 24 dep ++ wAr cI (ma 10) 24 bit) := by
  intro X C Z
  show xb_G X 0 0 (wMo o0 ma st ik le sp nu ++ wAr cI (ma 0) 1898 now ++ wAr cI (ma 1) 1898 thn ++ wAr cI (ma 2) 7592 pst ++ wAr cI (ma 3) 1898 snp ++ wAr cC (ma 4) 80 txt ++ wAr cI (ma 5) 48 hld ++ wAr cI (ma 6) 24 far ++ wAr cZ (ma 7) 72 don ++ wAr cI (ma 8) 96 tld ++ wAr cI (ma 9) 24 dep ++ wAr cI (ma 10) 24 bit) [(0, .ref o0), (1, .int p1), (2, .int p2)] 0 []
  unfold f_X6_held at h
  refine xi_iload_n C dX6_held_0 rfl 1 rfl ?_
  obtain ⟨v1, e2, h⟩ := ob_i h
  refine xi_callS (As := [.int p1]) (o := some (.int v1)) (rest := []) (w2 := (wMo o0 ma st ik le sp nu ++ wAr cI (ma 0) 1898 now ++ wAr cI (ma 1) 1898 thn ++ wAr cI (ma 2) 7592 pst ++ wAr cI (ma 3) 1898 snp ++ wAr cC (ma 4) 80 txt ++ wAr cI (ma 5) 48 hld ++ wAr cI (ma 6) 24 far ++ wAr cZ (ma 7) 72 don ++ wAr cI (ma 8) 96 tld ++ wAr cI (ma 9) 24 dep ++ wAr cI (ma 10) 24 bit)) (st2 := [.int v1]) C k_X6_isPlace (m_X6_isPlace D cI cC cZ cR p1 v1 e2) gX6_held_X6_isPlace dX6_held_1 ⟨Nat.le_of_ble_eq_true rfl, Nat.le_of_ble_eq_true rfl, Nat.le_of_ble_eq_true rfl⟩ [] rfl rfl [0, 1, 2, 3] rfl rfl rfl rfl (Nat.le_of_ble_eq_true rfl) ⟨Nat.zero_le _, Nat.zero_le _⟩ rfl ?_
  refine xi_if_eq (tgt := 22) C dX6_held_4 (by decide) (fun c3 => ?_) (fun c3 => ?_)
  · have h := it_i c3 h
    refine xi_iconst (v := (-1)) C dX6_held_22 (by decide) ?_
    have w0 := Option.some.inj h
    obtain ⟨q0, w1⟩ := Prod.mk.inj w0
    subst q0
    subst w1
    exact xi_iret C Z dX6_held_23
  · have h := ie_i c3 h
    refine xi_iload_n C dX6_held_7 rfl 2 rfl ?_
    obtain ⟨v4, e5, h⟩ := ob_i h
    refine xi_callS (As := [.int p2]) (o := some (.int v4)) (rest := []) (w2 := (wMo o0 ma st ik le sp nu ++ wAr cI (ma 0) 1898 now ++ wAr cI (ma 1) 1898 thn ++ wAr cI (ma 2) 7592 pst ++ wAr cI (ma 3) 1898 snp ++ wAr cC (ma 4) 80 txt ++ wAr cI (ma 5) 48 hld ++ wAr cI (ma 6) 24 far ++ wAr cZ (ma 7) 72 don ++ wAr cI (ma 8) 96 tld ++ wAr cI (ma 9) 24 dep ++ wAr cI (ma 10) 24 bit)) (st2 := [.int v4]) C k_X6_isPlace (m_X6_isPlace D cI cC cZ cR p2 v4 e5) gX6_held_X6_isPlace dX6_held_8 ⟨Nat.le_of_ble_eq_true rfl, Nat.le_of_ble_eq_true rfl, Nat.le_of_ble_eq_true rfl⟩ [] rfl rfl [0, 1, 2, 3] rfl rfl rfl rfl (Nat.le_of_ble_eq_true rfl) ⟨Nat.zero_le _, Nat.zero_le _⟩ rfl ?_
    refine xi_if_eq (tgt := 22) C dX6_held_11 (by decide) (fun c6 => ?_) (fun c6 => ?_)
    · have h := it_i c6 h
      refine xi_iconst (v := (-1)) C dX6_held_22 (by decide) ?_
      have w0 := Option.some.inj h
      obtain ⟨q0, w1⟩ := Prod.mk.inj w0
      subst q0
      subst w1
      exact xi_iret C Z dX6_held_23
    · have h := ie_i c6 h
      refine xi_iload_n C dX6_held_14 rfl 1 rfl ?_
      refine xi_iload_n C dX6_held_15 rfl 2 rfl ?_
      obtain ⟨v7, e8, h⟩ := ob_i h
      refine xi_callS (As := [.int p1, .int p2]) (o := some (.int v7)) (rest := []) (w2 := (wMo o0 ma st ik le sp nu ++ wAr cI (ma 0) 1898 now ++ wAr cI (ma 1) 1898 thn ++ wAr cI (ma 2) 7592 pst ++ wAr cI (ma 3) 1898 snp ++ wAr cC (ma 4) 80 txt ++ wAr cI (ma 5) 48 hld ++ wAr cI (ma 6) 24 far ++ wAr cZ (ma 7) 72 don ++ wAr cI (ma 8) 96 tld ++ wAr cI (ma 9) 24 dep ++ wAr cI (ma 10) 24 bit)) (st2 := [.int v7]) C k_X6_areBeside (m_X6_areBeside D cI cC cZ cR p1 p2 v7 e8) gX6_held_X6_areBeside dX6_held_16 ⟨Nat.le_of_ble_eq_true rfl, Nat.le_of_ble_eq_true rfl, Nat.le_of_ble_eq_true rfl⟩ [] rfl rfl [0, 1, 2, 3] rfl rfl rfl rfl (Nat.le_of_ble_eq_true rfl) ⟨Nat.zero_le _, Nat.zero_le _⟩ rfl ?_
      refine xi_if_ne (tgt := 24) C dX6_held_19 (by decide) (fun c9 => ?_) (fun c9 => ?_)
      · have h := ie_i c9 h
        refine xi_aload_n C dX6_held_24 rfl 0 rfl ?_
        refine xi_aload_n C dX6_held_25 rfl 0 rfl ?_
        refine xi_get C dX6_held_26 iw_X6_held_6 0 rfl rfl 0 (by decide) fl_X6_held_7 rfl ?_
        obtain ⟨hld10, e11, h⟩ := ob_i h
        refine xi_callV (As := [.ref (ma 0)]) (o := none) (rest := []) (w2 := (wMo o0 ma st ik le sp nu ++ wAr cI (ma 0) 1898 now ++ wAr cI (ma 1) 1898 thn ++ wAr cI (ma 2) 7592 pst ++ wAr cI (ma 3) 1898 snp ++ wAr cC (ma 4) 80 txt ++ wAr cI (ma 5) 48 hld10 ++ wAr cI (ma 6) 24 far ++ wAr cZ (ma 7) 72 don ++ wAr cI (ma 8) 96 tld ++ wAr cI (ma 9) 24 dep ++ wAr cI (ma 10) 24 bit)) (st2 := []) C k_X6_counts (m_X6_counts D cI cC cZ cR o0 ma (ma 0) st ik le sp nu hld far don now hld10 e11) gX6_held_X6_counts dX6_held_29 ⟨Nat.le_of_ble_eq_true rfl, Nat.le_of_ble_eq_true rfl, Nat.le_of_ble_eq_true rfl⟩ 0 rfl rfl [0, 6, 7, 8, 1] mxC_X6_0_6_7_8_1 rfl [0, 1, 2, 3] rfl mxF_X6_0_6_7_8_1 mxM_X6_0_6_7_8_1 rfl (Nat.le_of_ble_eq_true rfl) ⟨Nat.zero_le _, Nat.zero_le _⟩ rfl ?_
        refine xi_aload_n C dX6_held_32 rfl 0 rfl ?_
        refine xi_get C dX6_held_33 iw_X6_held_6 0 rfl rfl 8 (by decide) fl_X6_held_26 rfl ?_
        refine xi_iload_n C dX6_held_36 rfl 1 rfl ?_
        refine xi_iload_n C dX6_held_37 rfl 2 rfl ?_
        obtain ⟨v12, e13, h⟩ := ob_i h
        refine xi_callS (As := [.int p1, .int p2]) (o := some (.int v12)) (rest := [.ref (ma 5)]) (w2 := (wMo o0 ma st ik le sp nu ++ wAr cI (ma 0) 1898 now ++ wAr cI (ma 1) 1898 thn ++ wAr cI (ma 2) 7592 pst ++ wAr cI (ma 3) 1898 snp ++ wAr cC (ma 4) 80 txt ++ wAr cI (ma 5) 48 hld10 ++ wAr cI (ma 6) 24 far ++ wAr cZ (ma 7) 72 don ++ wAr cI (ma 8) 96 tld ++ wAr cI (ma 9) 24 dep ++ wAr cI (ma 10) 24 bit)) (st2 := [.int v12, .ref (ma 5)]) C k_X6_segment (m_X6_segment D cI cC cZ cR p1 p2 v12 e13) gX6_held_X6_segment dX6_held_38 ⟨Nat.le_of_ble_eq_true rfl, Nat.le_of_ble_eq_true rfl, Nat.le_of_ble_eq_true rfl⟩ [] rfl rfl [0, 1, 2, 3] rfl rfl rfl rfl (Nat.le_of_ble_eq_true rfl) ⟨Nat.zero_le _, Nat.zero_le _⟩ rfl ?_
        obtain ⟨v14, e15, h⟩ := ob_i h
        refine xi_iald C dX6_held_41 6 0 rfl rfl e15 ?_
        have w0 := Option.some.inj h
        obtain ⟨q0, w1⟩ := Prod.mk.inj w0
        subst q0
        subst w1
        exact xi_iret C Z dX6_held_42
      · have h := it_i c9 h
        refine xi_iconst (v := (-1)) C dX6_held_22 (by decide) ?_
        have w0 := Option.some.inj h
        obtain ⟨q0, w1⟩ := Prod.mk.inj w0
        subst q0
        subst w1
        exact xi_iret C Z dX6_held_23
def f_X6_answer (now : Nat → Int32) (dep : Nat → Int32) (bit : Nat → Int32) (p1 : Int32) (p2 : Int32) : Option (Int32 × (Nat → Int32) × (Nat → Int32)) :=
  (f_X6_isCell now p1).bind fun v1 =>
  if v1 = 0 then
    some ((-1), dep, bit)
  else
    (f_X6_in p2 0 255).bind fun v4 =>
    if v4 = 0 then
      some ((-2), dep, bit)
    else
      (f_X6_answers now dep bit p2).bind fun (dep7, bit8) =>
      (xr_d dep7 24 p1).bind fun v10 =>
      if v10 = (-5) then
        some ((-5), dep7, bit8)
      else
        (xr_d bit8 24 p1).bind fun v13 =>
        some (v13, dep7, bit8)
theorem k_X6_answer : xb_Y yX6_answer cX6_answer wsX6_answer 3 (some .int) { frames := 4, cells := 0, slots := 0, locals := 86 } 2 := ⟨⟨_, rfl⟩, by decide, ⟨by decide, by decide, by decide +kernel⟩, rfl, rfl⟩
theorem fl_X6_answer_7 : Cond.fieldLink RX6 7 "LookupBoardModel" "now" "[I" ∈ wsX6_answer := List.mem_of_getElem? (i := 1) rfl
theorem fl_X6_answer_39 : Cond.fieldLink RX6 39 "LookupBoardModel" "depth" "[I" ∈ wsX6_answer := List.mem_of_getElem? (i := 2) rfl
theorem fl_X6_answer_42 : Cond.fieldLink RX6 42 "LookupBoardModel" "bit" "[I" ∈ wsX6_answer := List.mem_of_getElem? (i := 3) rfl
theorem iw_X6_answer_6 : ∀ w ∈ wsX60, w ∈ wsX6_answer := fun w h => List.mem_cons_of_mem _ (List.mem_append_right _ h)
set_option maxHeartbeats 4000000 in
set_option maxRecDepth 100000 in
theorem m_X6_answer (D : va_G) (cI cC cZ cR : ClassId) (o0 : Nat) (ma : Nat → Nat) (st : Int32) (ik : Int32) (le : Int32) (sp : Int32) (nu : Int32) (now : Nat → Int32) (thn : Nat → Int32) (pst : Nat → Int32) (snp : Nat → Int32) (txt : Nat → Int32) (hld : Nat → Int32) (far : Nat → Int32) (don : Nat → Int32) (tld : Nat → Int32) (dep : Nat → Int32) (bit : Nat → Int32) (p1 : Int32) (p2 : Int32) (r : Int32) (dep' : Nat → Int32) (bit' : Nat → Int32) (h : f_X6_answer now dep bit p1 p2 = some (r, dep', bit')) : xb_M cX6_answer wsX6_answer RX6 { frames := 4, cells := 0, slots := 0, locals := 86 } (some .int) 3 (xb_ty cI cC cZ cR) D [.ref o0, .int p1, .int p2] (wMo o0 ma st ik le sp nu ++ wAr cI (ma 0) 1898 now ++ wAr cI (ma 1) 1898 thn ++ wAr cI (ma 2) 7592 pst ++ wAr cI (ma 3) 1898 snp ++ wAr cC (ma 4) 80 txt ++ wAr cI (ma 5) 48 hld ++ wAr cI (ma 6) 24 far ++ wAr cZ (ma 7) 72 don ++ wAr cI (ma 8) 96 tld ++ wAr cI (ma 9) 24 dep ++ wAr cI (ma 10) 24 bit) (some (.int r)) (wMo o0 ma st ik le sp nu ++ wAr cI (ma 0) 1898 now ++ wAr cI (ma 1) 1898 thn ++ wAr cI (ma 2) 7592 pst ++ wAr cI (ma 3) 1898 snp ++ wAr cC (ma 4) 80 txt ++ wAr cI (ma 5) 48 hld ++ wAr cI (ma 6) 24 far ++ wAr cZ (ma 7) 72 don ++ wAr cI (ma 8) 96 tld ++ wAr cI (ma 9) 24 dep' ++ wAr cI (ma 10) 24 bit') := by
  intro X C Z
  show xb_G X 0 0 (wMo o0 ma st ik le sp nu ++ wAr cI (ma 0) 1898 now ++ wAr cI (ma 1) 1898 thn ++ wAr cI (ma 2) 7592 pst ++ wAr cI (ma 3) 1898 snp ++ wAr cC (ma 4) 80 txt ++ wAr cI (ma 5) 48 hld ++ wAr cI (ma 6) 24 far ++ wAr cZ (ma 7) 72 don ++ wAr cI (ma 8) 96 tld ++ wAr cI (ma 9) 24 dep ++ wAr cI (ma 10) 24 bit) [(0, .ref o0), (1, .int p1), (2, .int p2)] 0 []
  unfold f_X6_answer at h
  refine xi_aload_n C dX6_answer_0 rfl 0 rfl ?_
  refine xi_get C dX6_answer_1 iw_X6_answer_6 0 rfl rfl 0 (by decide) fl_X6_answer_7 rfl ?_
  refine xi_iload_n C dX6_answer_4 rfl 1 rfl ?_
  obtain ⟨v1, e2, h⟩ := ob_i h
  refine xi_callS (As := [.ref (ma 0), .int p1]) (o := some (.int v1)) (rest := []) (w2 := (wMo o0 ma st ik le sp nu ++ wAr cI (ma 0) 1898 now ++ wAr cI (ma 1) 1898 thn ++ wAr cI (ma 2) 7592 pst ++ wAr cI (ma 3) 1898 snp ++ wAr cC (ma 4) 80 txt ++ wAr cI (ma 5) 48 hld ++ wAr cI (ma 6) 24 far ++ wAr cZ (ma 7) 72 don ++ wAr cI (ma 8) 96 tld ++ wAr cI (ma 9) 24 dep ++ wAr cI (ma 10) 24 bit)) (st2 := [.int v1]) C k_X6_isCell (m_X6_isCell D cI cC cZ cR (ma 0) now p1 v1 e2) gX6_answer_X6_isCell dX6_answer_5 ⟨Nat.le_of_ble_eq_true rfl, Nat.le_of_ble_eq_true rfl, Nat.le_of_ble_eq_true rfl⟩ [1] mxC_X6_1 rfl [0, 1, 2, 3] rfl mxF_X6_1 mxM_X6_1 rfl (Nat.le_of_ble_eq_true rfl) ⟨Nat.zero_le _, Nat.zero_le _⟩ rfl ?_
  refine xi_if_ne (tgt := 13) C dX6_answer_8 (by decide) (fun c3 => ?_) (fun c3 => ?_)
  · have h := ie_i c3 h
    refine xi_iload_n C dX6_answer_13 rfl 2 rfl ?_
    refine xi_iconst (v := 0) C dX6_answer_14 (by decide) ?_
    refine xi_sipush (v := 255) C dX6_answer_15 (by decide) ?_
    obtain ⟨v4, e5, h⟩ := ob_i h
    refine xi_callS (As := [.int p2, .int 0, .int 255]) (o := some (.int v4)) (rest := []) (w2 := (wMo o0 ma st ik le sp nu ++ wAr cI (ma 0) 1898 now ++ wAr cI (ma 1) 1898 thn ++ wAr cI (ma 2) 7592 pst ++ wAr cI (ma 3) 1898 snp ++ wAr cC (ma 4) 80 txt ++ wAr cI (ma 5) 48 hld ++ wAr cI (ma 6) 24 far ++ wAr cZ (ma 7) 72 don ++ wAr cI (ma 8) 96 tld ++ wAr cI (ma 9) 24 dep ++ wAr cI (ma 10) 24 bit)) (st2 := [.int v4]) C k_X6_in (m_X6_in D cI cC cZ cR p2 0 255 v4 e5) gX6_answer_X6_in dX6_answer_18 ⟨Nat.le_of_ble_eq_true rfl, Nat.le_of_ble_eq_true rfl, Nat.le_of_ble_eq_true rfl⟩ [] rfl rfl [0, 1, 2, 3] rfl rfl rfl rfl (Nat.le_of_ble_eq_true rfl) ⟨Nat.zero_le _, Nat.zero_le _⟩ rfl ?_
    refine xi_if_ne (tgt := 27) C dX6_answer_21 (by decide) (fun c6 => ?_) (fun c6 => ?_)
    · have h := ie_i c6 h
      refine xi_aload_n C dX6_answer_27 rfl 0 rfl ?_
      refine xi_iload_n C dX6_answer_28 rfl 2 rfl ?_
      obtain ⟨⟨dep7, bit8⟩, e9, h⟩ := ob_i h
      refine xi_callV (As := [.int p2]) (o := none) (rest := []) (w2 := (wMo o0 ma st ik le sp nu ++ wAr cI (ma 0) 1898 now ++ wAr cI (ma 1) 1898 thn ++ wAr cI (ma 2) 7592 pst ++ wAr cI (ma 3) 1898 snp ++ wAr cC (ma 4) 80 txt ++ wAr cI (ma 5) 48 hld ++ wAr cI (ma 6) 24 far ++ wAr cZ (ma 7) 72 don ++ wAr cI (ma 8) 96 tld ++ wAr cI (ma 9) 24 dep7 ++ wAr cI (ma 10) 24 bit8)) (st2 := []) C k_X6_answers (m_X6_answers D cI cC cZ cR o0 ma st ik le sp nu now thn pst snp txt hld far don tld dep bit p2 dep7 bit8 e9) gX6_answer_X6_answers dX6_answer_29 ⟨Nat.le_of_ble_eq_true rfl, Nat.le_of_ble_eq_true rfl, Nat.le_of_ble_eq_true rfl⟩ 0 rfl rfl [0, 1, 2, 3, 4, 5, 6, 7, 8, 9, 10, 11] mxC_X6_0_1_2_3_4_5_6_7_8_9_10_11 rfl [0, 1, 2, 3] rfl mxF_X6_0_1_2_3_4_5_6_7_8_9_10_11 mxM_X6_0_1_2_3_4_5_6_7_8_9_10_11 rfl (Nat.le_of_ble_eq_true rfl) ⟨Nat.zero_le _, Nat.zero_le _⟩ rfl ?_
      refine xi_aload_n C dX6_answer_32 rfl 0 rfl ?_
      refine xi_get C dX6_answer_33 iw_X6_answer_6 0 rfl rfl 14 (by decide) fl_X6_answer_39 rfl ?_
      refine xi_iload_n C dX6_answer_36 rfl 1 rfl ?_
      obtain ⟨v10, e11, h⟩ := ob_i h
      refine xi_iald C dX6_answer_37 10 0 rfl rfl e11 ?_
      refine xi_bipush (v := (-5)) C dX6_answer_38 (by decide) ?_
      refine xi_icmp_ne (tgt := 48) C dX6_answer_40 (by decide) (fun c12 => ?_) (fun c12 => ?_)
      · have h := ie_i c12 h
        refine xi_aload_n C dX6_answer_48 rfl 0 rfl ?_
        refine xi_get C dX6_answer_49 iw_X6_answer_6 0 rfl rfl 15 (by decide) fl_X6_answer_42 rfl ?_
        refine xi_iload_n C dX6_answer_52 rfl 1 rfl ?_
        obtain ⟨v13, e14, h⟩ := ob_i h
        refine xi_iald C dX6_answer_53 11 0 rfl rfl e14 ?_
        have w0 := Option.some.inj h
        obtain ⟨q0, w1⟩ := Prod.mk.inj w0
        obtain ⟨q1, w2⟩ := Prod.mk.inj w1
        subst q0
        subst q1
        subst w2
        exact xi_iret C Z dX6_answer_54
      · have h := it_i c12 h
        refine xi_bipush (v := (-5)) C dX6_answer_43 (by decide) ?_
        refine xi_goto (tgt := 54) C dX6_answer_45 (by decide) ?_
        have w0 := Option.some.inj h
        obtain ⟨q0, w1⟩ := Prod.mk.inj w0
        obtain ⟨q1, w2⟩ := Prod.mk.inj w1
        subst q0
        subst q1
        subst w2
        exact xi_iret C Z dX6_answer_54
    · have h := it_i c6 h
      refine xi_bipush (v := (-2)) C dX6_answer_24 (by decide) ?_
      have w0 := Option.some.inj h
      obtain ⟨q0, w1⟩ := Prod.mk.inj w0
      obtain ⟨q1, w2⟩ := Prod.mk.inj w1
      subst q0
      subst q1
      subst w2
      exact xi_iret C Z dX6_answer_26
  · have h := it_i c3 h
    refine xi_iconst (v := (-1)) C dX6_answer_11 (by decide) ?_
    have w0 := Option.some.inj h
    obtain ⟨q0, w1⟩ := Prod.mk.inj w0
    obtain ⟨q1, w2⟩ := Prod.mk.inj w1
    subst q0
    subst q1
    subst w2
    exact xi_iret C Z dX6_answer_12
def f_X6_ones_17 (now : Nat → Int32) (x1_17 : Int32) (k : Int32 → (Nat → Int32) → (Nat → Int32) → Option (Int32 × (Nat → Int32) × (Nat → Int32))) : Nat → Int32 → Int32 → (Nat → Int32) → (Nat → Int32) → Option (Int32 × (Nat → Int32) × (Nat → Int32))
  | 0, _, _, _, _ => none
  | n + 1, x2_17, x3_17, dep_17, bit_17 =>
    if 256 ≤ x3_17 then
      k x2_17 dep_17 bit_17
    else
      (f_X6_answers now dep_17 bit_17 x3_17).bind fun (dep5, bit6) =>
      (xr_d bit6 24 x1_17).bind fun v8 =>
      f_X6_ones_17 now x1_17 k n (x2_17 + v8) (x3_17 + 1) dep5 bit6
def f_X6_ones (now : Nat → Int32) (dep : Nat → Int32) (bit : Nat → Int32) (p1 : Int32) : Option (Int32 × (Nat → Int32) × (Nat → Int32)) :=
  (f_X6_isCell now p1).bind fun v1 =>
  if v1 = 0 then
    some ((-1), dep, bit)
  else
    f_X6_ones_17 now p1 (fun x2z10 depz10 bitz10 =>
      (xr_d depz10 24 p1).bind fun v11 =>
      if v11 = (-5) then
        some ((-5), depz10, bitz10)
      else
        some (x2z10, depz10, bitz10)) xFu 0 0 dep bit
theorem k_X6_ones : xb_Y yX6_ones cX6_ones wsX6_ones 4 (some .int) { frames := 4, cells := 0, slots := 0, locals := 86 } 1 := ⟨⟨_, rfl⟩, by decide, ⟨by decide, by decide, by decide +kernel⟩, rfl, rfl⟩
theorem fl_X6_ones_7 : Cond.fieldLink RX6 7 "LookupBoardModel" "now" "[I" ∈ wsX6_ones := List.mem_of_getElem? (i := 1) rfl
theorem fl_X6_ones_39 : Cond.fieldLink RX6 39 "LookupBoardModel" "depth" "[I" ∈ wsX6_ones := List.mem_of_getElem? (i := 3) rfl
theorem fl_X6_ones_42 : Cond.fieldLink RX6 42 "LookupBoardModel" "bit" "[I" ∈ wsX6_ones := List.mem_of_getElem? (i := 2) rfl
theorem iw_X6_ones_6 : ∀ w ∈ wsX60, w ∈ wsX6_ones := fun w h => List.mem_cons_of_mem _ (List.mem_append_right _ h)
set_option maxHeartbeats 4000000 in
set_option maxRecDepth 100000 in
theorem m_X6_ones (D : va_G) (cI cC cZ cR : ClassId) (o0 : Nat) (ma : Nat → Nat) (st : Int32) (ik : Int32) (le : Int32) (sp : Int32) (nu : Int32) (now : Nat → Int32) (thn : Nat → Int32) (pst : Nat → Int32) (snp : Nat → Int32) (txt : Nat → Int32) (hld : Nat → Int32) (far : Nat → Int32) (don : Nat → Int32) (tld : Nat → Int32) (dep : Nat → Int32) (bit : Nat → Int32) (p1 : Int32) (r : Int32) (dep' : Nat → Int32) (bit' : Nat → Int32) (h : f_X6_ones now dep bit p1 = some (r, dep', bit')) : xb_M cX6_ones wsX6_ones RX6 { frames := 4, cells := 0, slots := 0, locals := 86 } (some .int) 4 (xb_ty cI cC cZ cR) D [.ref o0, .int p1] (wMo o0 ma st ik le sp nu ++ wAr cI (ma 0) 1898 now ++ wAr cI (ma 1) 1898 thn ++ wAr cI (ma 2) 7592 pst ++ wAr cI (ma 3) 1898 snp ++ wAr cC (ma 4) 80 txt ++ wAr cI (ma 5) 48 hld ++ wAr cI (ma 6) 24 far ++ wAr cZ (ma 7) 72 don ++ wAr cI (ma 8) 96 tld ++ wAr cI (ma 9) 24 dep ++ wAr cI (ma 10) 24 bit) (some (.int r)) (wMo o0 ma st ik le sp nu ++ wAr cI (ma 0) 1898 now ++ wAr cI (ma 1) 1898 thn ++ wAr cI (ma 2) 7592 pst ++ wAr cI (ma 3) 1898 snp ++ wAr cC (ma 4) 80 txt ++ wAr cI (ma 5) 48 hld ++ wAr cI (ma 6) 24 far ++ wAr cZ (ma 7) 72 don ++ wAr cI (ma 8) 96 tld ++ wAr cI (ma 9) 24 dep' ++ wAr cI (ma 10) 24 bit') := by
  intro X C Z
  show xb_G X 0 0 (wMo o0 ma st ik le sp nu ++ wAr cI (ma 0) 1898 now ++ wAr cI (ma 1) 1898 thn ++ wAr cI (ma 2) 7592 pst ++ wAr cI (ma 3) 1898 snp ++ wAr cC (ma 4) 80 txt ++ wAr cI (ma 5) 48 hld ++ wAr cI (ma 6) 24 far ++ wAr cZ (ma 7) 72 don ++ wAr cI (ma 8) 96 tld ++ wAr cI (ma 9) 24 dep ++ wAr cI (ma 10) 24 bit) [(0, .ref o0), (1, .int p1)] 0 []
  have lp17 : ∀ (x1_17 : Int32) (k : Int32 → (Nat → Int32) → (Nat → Int32) → Option (Int32 × (Nat → Int32) × (Nat → Int32))) (n : Nat) (x2_17 : Int32) (x3_17 : Int32) (dep_17 : Nat → Int32) (bit_17 : Nat → Int32), f_X6_ones_17 now x1_17 k n x2_17 x3_17 dep_17 bit_17 = some (r, dep', bit') → (∀ (x2_17e : Int32) (dep_17e : Nat → Int32) (bit_17e : Nat → Int32), k x2_17e dep_17e bit_17e = some (r, dep', bit') → xb_G X 0 0 (wMo o0 ma st ik le sp nu ++ wAr cI (ma 0) 1898 now ++ wAr cI (ma 1) 1898 thn ++ wAr cI (ma 2) 7592 pst ++ wAr cI (ma 3) 1898 snp ++ wAr cC (ma 4) 80 txt ++ wAr cI (ma 5) 48 hld ++ wAr cI (ma 6) 24 far ++ wAr cZ (ma 7) 72 don ++ wAr cI (ma 8) 96 tld ++ wAr cI (ma 9) 24 dep_17e ++ wAr cI (ma 10) 24 bit_17e) [(0, .ref o0), (1, .int x1_17), (2, .int x2_17e)] 44 []) → xb_G X 0 0 (wMo o0 ma st ik le sp nu ++ wAr cI (ma 0) 1898 now ++ wAr cI (ma 1) 1898 thn ++ wAr cI (ma 2) 7592 pst ++ wAr cI (ma 3) 1898 snp ++ wAr cC (ma 4) 80 txt ++ wAr cI (ma 5) 48 hld ++ wAr cI (ma 6) 24 far ++ wAr cZ (ma 7) 72 don ++ wAr cI (ma 8) 96 tld ++ wAr cI (ma 9) 24 dep_17 ++ wAr cI (ma 10) 24 bit_17) [(0, .ref o0), (1, .int x1_17), (2, .int x2_17), (3, .int x3_17)] 17 [] := by
    intro x1_17 k n
    induction n with
    | zero => intro x2_17 x3_17 dep_17 bit_17 h hk; unfold f_X6_ones_17 at h; cases h
    | succ n ih =>
      intro x2_17 x3_17 dep_17 bit_17 h hk
      unfold f_X6_ones_17 at h
      refine xi_iload_n C dX6_ones_17 rfl 3 rfl ?_
      refine xi_sipush (v := 256) C dX6_ones_18 (by decide) ?_
      refine xi_icmp_ge (tgt := 44) C dX6_ones_21 (by decide) (fun c4 => ?_) (fun c4 => ?_)
      · have h := it_i c4 h
        exact xb_lv (hk x2_17 dep_17 bit_17 h) [0, 1, 2] rfl
      · have h := ie_i c4 h
        refine xi_aload_n C dX6_ones_24 rfl 0 rfl ?_
        refine xi_iload_n C dX6_ones_25 rfl 3 rfl ?_
        obtain ⟨⟨dep5, bit6⟩, e7, h⟩ := ob_i h
        refine xi_callV (As := [.int x3_17]) (o := none) (rest := []) (w2 := (wMo o0 ma st ik le sp nu ++ wAr cI (ma 0) 1898 now ++ wAr cI (ma 1) 1898 thn ++ wAr cI (ma 2) 7592 pst ++ wAr cI (ma 3) 1898 snp ++ wAr cC (ma 4) 80 txt ++ wAr cI (ma 5) 48 hld ++ wAr cI (ma 6) 24 far ++ wAr cZ (ma 7) 72 don ++ wAr cI (ma 8) 96 tld ++ wAr cI (ma 9) 24 dep5 ++ wAr cI (ma 10) 24 bit6)) (st2 := []) C k_X6_answers (m_X6_answers D cI cC cZ cR o0 ma st ik le sp nu now thn pst snp txt hld far don tld dep_17 bit_17 x3_17 dep5 bit6 e7) gX6_ones_X6_answers dX6_ones_26 ⟨Nat.le_of_ble_eq_true rfl, Nat.le_of_ble_eq_true rfl, Nat.le_of_ble_eq_true rfl⟩ 0 rfl rfl [0, 1, 2, 3, 4, 5, 6, 7, 8, 9, 10, 11] mxC_X6_0_1_2_3_4_5_6_7_8_9_10_11 rfl [0, 1, 2, 3] rfl mxF_X6_0_1_2_3_4_5_6_7_8_9_10_11 mxM_X6_0_1_2_3_4_5_6_7_8_9_10_11 rfl (Nat.le_of_ble_eq_true rfl) ⟨Nat.zero_le _, Nat.zero_le _⟩ rfl ?_
        refine xi_iload_n C dX6_ones_29 rfl 2 rfl ?_
        refine xi_aload_n C dX6_ones_30 rfl 0 rfl ?_
        refine xi_get C dX6_ones_31 iw_X6_ones_6 0 rfl rfl 15 (by decide) fl_X6_ones_42 rfl ?_
        refine xi_iload_n C dX6_ones_34 rfl 1 rfl ?_
        obtain ⟨v8, e9, h⟩ := ob_i h
        refine xi_iald C dX6_ones_35 11 0 rfl rfl e9 ?_
        refine xi_iadd C dX6_ones_36 ?_
        refine xi_istore_n (lv2 := [(0, .ref o0), (1, .int x1_17), (2, .int (x2_17 + v8)), (3, .int x3_17)]) C dX6_ones_37 rfl (by decide) [0, 1, 3] [1, 2, 0, 3] rfl ?_
        refine xi_iinc (v := x3_17 + 1) (lv2 := [(0, .ref o0), (1, .int x1_17), (2, .int (x2_17 + v8)), (3, .int (x3_17 + 1))]) C dX6_ones_38 3 rfl (by rfl) (by decide) [0, 1, 2] [1, 2, 3, 0] rfl ?_
        refine xi_goto (tgt := 17) C dX6_ones_41 (by decide) ?_
        exact xb_lv (ih (x2_17 + v8) (x3_17 + 1) dep5 bit6 h hk) [0, 1, 2, 3] rfl
  unfold f_X6_ones at h
  refine xi_aload_n C dX6_ones_0 rfl 0 rfl ?_
  refine xi_get C dX6_ones_1 iw_X6_ones_6 0 rfl rfl 0 (by decide) fl_X6_ones_7 rfl ?_
  refine xi_iload_n C dX6_ones_4 rfl 1 rfl ?_
  obtain ⟨v1, e2, h⟩ := ob_i h
  refine xi_callS (As := [.ref (ma 0), .int p1]) (o := some (.int v1)) (rest := []) (w2 := (wMo o0 ma st ik le sp nu ++ wAr cI (ma 0) 1898 now ++ wAr cI (ma 1) 1898 thn ++ wAr cI (ma 2) 7592 pst ++ wAr cI (ma 3) 1898 snp ++ wAr cC (ma 4) 80 txt ++ wAr cI (ma 5) 48 hld ++ wAr cI (ma 6) 24 far ++ wAr cZ (ma 7) 72 don ++ wAr cI (ma 8) 96 tld ++ wAr cI (ma 9) 24 dep ++ wAr cI (ma 10) 24 bit)) (st2 := [.int v1]) C k_X6_isCell (m_X6_isCell D cI cC cZ cR (ma 0) now p1 v1 e2) gX6_ones_X6_isCell dX6_ones_5 ⟨Nat.le_of_ble_eq_true rfl, Nat.le_of_ble_eq_true rfl, Nat.le_of_ble_eq_true rfl⟩ [1] mxC_X6_1 rfl [0, 1, 2, 3] rfl mxF_X6_1 mxM_X6_1 rfl (Nat.le_of_ble_eq_true rfl) ⟨Nat.zero_le _, Nat.zero_le _⟩ rfl ?_
  refine xi_if_ne (tgt := 13) C dX6_ones_8 (by decide) (fun c3 => ?_) (fun c3 => ?_)
  · have h := ie_i c3 h
    refine xi_iconst (v := 0) C dX6_ones_13 (by decide) ?_
    refine xi_istore_n (lv2 := [(0, .ref o0), (1, .int p1), (2, .int 0)]) C dX6_ones_14 rfl (by decide) [0, 1] [1, 2, 0] rfl ?_
    refine xi_iconst (v := 0) C dX6_ones_15 (by decide) ?_
    refine xi_istore_n (lv2 := [(0, .ref o0), (1, .int p1), (2, .int 0), (3, .int 0)]) C dX6_ones_16 rfl (by decide) [0, 1, 2] [1, 2, 3, 0] rfl ?_
    refine xb_lv (lp17 p1 _ xFu 0 0 dep bit h (fun x2z10 depz10 bitz10 h => ?_)) [0, 1, 2, 3] rfl
    refine xi_aload_n C dX6_ones_44 rfl 0 rfl ?_
    refine xi_get C dX6_ones_45 iw_X6_ones_6 0 rfl rfl 14 (by decide) fl_X6_ones_39 rfl ?_
    refine xi_iload_n C dX6_ones_48 rfl 1 rfl ?_
    obtain ⟨v11, e12, h⟩ := ob_i h
    refine xi_iald C dX6_ones_49 10 0 rfl rfl e12 ?_
    refine xi_bipush (v := (-5)) C dX6_ones_50 (by decide) ?_
    refine xi_icmp_ne (tgt := 60) C dX6_ones_52 (by decide) (fun c13 => ?_) (fun c13 => ?_)
    · have h := ie_i c13 h
      refine xi_iload_n C dX6_ones_60 rfl 2 rfl ?_
      have w0 := Option.some.inj h
      obtain ⟨q0, w1⟩ := Prod.mk.inj w0
      obtain ⟨q1, w2⟩ := Prod.mk.inj w1
      subst q0
      subst q1
      subst w2
      exact xi_iret C Z dX6_ones_61
    · have h := it_i c13 h
      refine xi_bipush (v := (-5)) C dX6_ones_55 (by decide) ?_
      refine xi_goto (tgt := 61) C dX6_ones_57 (by decide) ?_
      have w0 := Option.some.inj h
      obtain ⟨q0, w1⟩ := Prod.mk.inj w0
      obtain ⟨q1, w2⟩ := Prod.mk.inj w1
      subst q0
      subst q1
      subst w2
      exact xi_iret C Z dX6_ones_61
  · have h := it_i c3 h
    refine xi_iconst (v := (-1)) C dX6_ones_11 (by decide) ?_
    have w0 := Option.some.inj h
    obtain ⟨q0, w1⟩ := Prod.mk.inj w0
    obtain ⟨q1, w2⟩ := Prod.mk.inj w1
    subst q0
    subst q1
    subst w2
    exact xi_iret C Z dX6_ones_12
def f_X6_ifSwap (now : Nat → Int32) (thn : Nat → Int32) (hld : Nat → Int32) (far : Nat → Int32) (don : Nat → Int32) (p1 : Int32) (p2 : Int32) : Option (Int32 × (Nat → Int32) × (Nat → Int32) × (Nat → Int32) × (Nat → Int32)) :=
  (f_X6_isPlace p1).bind fun v1 =>
  if v1 = 0 then
    some ((-1), thn, hld, far, don)
  else
    (f_X6_isPlace p2).bind fun v4 =>
    if v4 = 0 then
      some ((-1), thn, hld, far, don)
    else
      (f_X6_isChange now p1 p2).bind fun v7 =>
      if v7 = 0 then
        some ((-5), thn, hld, far, don)
      else
        (f_X6_swapped now thn hld far don p1 p2).bind fun (v10, thn11, hld12, far13, don14) =>
        some (v10, thn11, hld12, far13, don14)
theorem k_X6_ifSwap : xb_Y yX6_ifSwap cX6_ifSwap wsX6_ifSwap 3 (some .int) { frames := 7, cells := 0, slots := 0, locals := 164 } 2 := ⟨⟨_, rfl⟩, by decide, ⟨by decide, by decide, by decide +kernel⟩, rfl, rfl⟩
theorem fl_X6_ifSwap_7 : Cond.fieldLink RX6 7 "LookupBoardModel" "now" "[I" ∈ wsX6_ifSwap := List.mem_of_getElem? (i := 1) rfl
theorem iw_X6_ifSwap_6 : ∀ w ∈ wsX60, w ∈ wsX6_ifSwap := fun w h => List.mem_cons_of_mem _ (List.mem_append_right _ h)
set_option maxHeartbeats 4000000 in
set_option maxRecDepth 100000 in
theorem m_X6_ifSwap (D : va_G) (cI cC cZ cR : ClassId) (o0 : Nat) (ma : Nat → Nat) (st : Int32) (ik : Int32) (le : Int32) (sp : Int32) (nu : Int32) (now : Nat → Int32) (thn : Nat → Int32) (pst : Nat → Int32) (snp : Nat → Int32) (txt : Nat → Int32) (hld : Nat → Int32) (far : Nat → Int32) (don : Nat → Int32) (tld : Nat → Int32) (dep : Nat → Int32) (bit : Nat → Int32) (p1 : Int32) (p2 : Int32) (r : Int32) (thn' : Nat → Int32) (hld' : Nat → Int32) (far' : Nat → Int32) (don' : Nat → Int32) (h : f_X6_ifSwap now thn hld far don p1 p2 = some (r, thn', hld', far', don')) : xb_M cX6_ifSwap wsX6_ifSwap RX6 { frames := 7, cells := 0, slots := 0, locals := 164 } (some .int) 3 (xb_ty cI cC cZ cR) D [.ref o0, .int p1, .int p2] (wMo o0 ma st ik le sp nu ++ wAr cI (ma 0) 1898 now ++ wAr cI (ma 1) 1898 thn ++ wAr cI (ma 2) 7592 pst ++ wAr cI (ma 3) 1898 snp ++ wAr cC (ma 4) 80 txt ++ wAr cI (ma 5) 48 hld ++ wAr cI (ma 6) 24 far ++ wAr cZ (ma 7) 72 don ++ wAr cI (ma 8) 96 tld ++ wAr cI (ma 9) 24 dep ++ wAr cI (ma 10) 24 bit) (some (.int r)) (wMo o0 ma st ik le sp nu ++ wAr cI (ma 0) 1898 now ++ wAr cI (ma 1) 1898 thn' ++ wAr cI (ma 2) 7592 pst ++ wAr cI (ma 3) 1898 snp ++ wAr cC (ma 4) 80 txt ++ wAr cI (ma 5) 48 hld' ++ wAr cI (ma 6) 24 far' ++ wAr cZ (ma 7) 72 don' ++ wAr cI (ma 8) 96 tld ++ wAr cI (ma 9) 24 dep ++ wAr cI (ma 10) 24 bit) := by
  intro X C Z
  show xb_G X 0 0 (wMo o0 ma st ik le sp nu ++ wAr cI (ma 0) 1898 now ++ wAr cI (ma 1) 1898 thn ++ wAr cI (ma 2) 7592 pst ++ wAr cI (ma 3) 1898 snp ++ wAr cC (ma 4) 80 txt ++ wAr cI (ma 5) 48 hld ++ wAr cI (ma 6) 24 far ++ wAr cZ (ma 7) 72 don ++ wAr cI (ma 8) 96 tld ++ wAr cI (ma 9) 24 dep ++ wAr cI (ma 10) 24 bit) [(0, .ref o0), (1, .int p1), (2, .int p2)] 0 []
  unfold f_X6_ifSwap at h
  refine xi_iload_n C dX6_ifSwap_0 rfl 1 rfl ?_
  obtain ⟨v1, e2, h⟩ := ob_i h
  refine xi_callS (As := [.int p1]) (o := some (.int v1)) (rest := []) (w2 := (wMo o0 ma st ik le sp nu ++ wAr cI (ma 0) 1898 now ++ wAr cI (ma 1) 1898 thn ++ wAr cI (ma 2) 7592 pst ++ wAr cI (ma 3) 1898 snp ++ wAr cC (ma 4) 80 txt ++ wAr cI (ma 5) 48 hld ++ wAr cI (ma 6) 24 far ++ wAr cZ (ma 7) 72 don ++ wAr cI (ma 8) 96 tld ++ wAr cI (ma 9) 24 dep ++ wAr cI (ma 10) 24 bit)) (st2 := [.int v1]) C k_X6_isPlace (m_X6_isPlace D cI cC cZ cR p1 v1 e2) gX6_ifSwap_X6_isPlace dX6_ifSwap_1 ⟨Nat.le_of_ble_eq_true rfl, Nat.le_of_ble_eq_true rfl, Nat.le_of_ble_eq_true rfl⟩ [] rfl rfl [0, 1, 2, 3] rfl rfl rfl rfl (Nat.le_of_ble_eq_true rfl) ⟨Nat.zero_le _, Nat.zero_le _⟩ rfl ?_
  refine xi_if_eq (tgt := 14) C dX6_ifSwap_4 (by decide) (fun c3 => ?_) (fun c3 => ?_)
  · have h := it_i c3 h
    refine xi_iconst (v := (-1)) C dX6_ifSwap_14 (by decide) ?_
    have w0 := Option.some.inj h
    obtain ⟨q0, w1⟩ := Prod.mk.inj w0
    obtain ⟨q1, w2⟩ := Prod.mk.inj w1
    obtain ⟨q2, w3⟩ := Prod.mk.inj w2
    obtain ⟨q3, w4⟩ := Prod.mk.inj w3
    subst q0
    subst q1
    subst q2
    subst q3
    subst w4
    exact xi_iret C Z dX6_ifSwap_15
  · have h := ie_i c3 h
    refine xi_iload_n C dX6_ifSwap_7 rfl 2 rfl ?_
    obtain ⟨v4, e5, h⟩ := ob_i h
    refine xi_callS (As := [.int p2]) (o := some (.int v4)) (rest := []) (w2 := (wMo o0 ma st ik le sp nu ++ wAr cI (ma 0) 1898 now ++ wAr cI (ma 1) 1898 thn ++ wAr cI (ma 2) 7592 pst ++ wAr cI (ma 3) 1898 snp ++ wAr cC (ma 4) 80 txt ++ wAr cI (ma 5) 48 hld ++ wAr cI (ma 6) 24 far ++ wAr cZ (ma 7) 72 don ++ wAr cI (ma 8) 96 tld ++ wAr cI (ma 9) 24 dep ++ wAr cI (ma 10) 24 bit)) (st2 := [.int v4]) C k_X6_isPlace (m_X6_isPlace D cI cC cZ cR p2 v4 e5) gX6_ifSwap_X6_isPlace dX6_ifSwap_8 ⟨Nat.le_of_ble_eq_true rfl, Nat.le_of_ble_eq_true rfl, Nat.le_of_ble_eq_true rfl⟩ [] rfl rfl [0, 1, 2, 3] rfl rfl rfl rfl (Nat.le_of_ble_eq_true rfl) ⟨Nat.zero_le _, Nat.zero_le _⟩ rfl ?_
    refine xi_if_ne (tgt := 16) C dX6_ifSwap_11 (by decide) (fun c6 => ?_) (fun c6 => ?_)
    · have h := ie_i c6 h
      refine xi_aload_n C dX6_ifSwap_16 rfl 0 rfl ?_
      refine xi_get C dX6_ifSwap_17 iw_X6_ifSwap_6 0 rfl rfl 0 (by decide) fl_X6_ifSwap_7 rfl ?_
      refine xi_iload_n C dX6_ifSwap_20 rfl 1 rfl ?_
      refine xi_iload_n C dX6_ifSwap_21 rfl 2 rfl ?_
      obtain ⟨v7, e8, h⟩ := ob_i h
      refine xi_callS (As := [.ref (ma 0), .int p1, .int p2]) (o := some (.int v7)) (rest := []) (w2 := (wMo o0 ma st ik le sp nu ++ wAr cI (ma 0) 1898 now ++ wAr cI (ma 1) 1898 thn ++ wAr cI (ma 2) 7592 pst ++ wAr cI (ma 3) 1898 snp ++ wAr cC (ma 4) 80 txt ++ wAr cI (ma 5) 48 hld ++ wAr cI (ma 6) 24 far ++ wAr cZ (ma 7) 72 don ++ wAr cI (ma 8) 96 tld ++ wAr cI (ma 9) 24 dep ++ wAr cI (ma 10) 24 bit)) (st2 := [.int v7]) C k_X6_isChange (m_X6_isChange D cI cC cZ cR (ma 0) now p1 p2 v7 e8) gX6_ifSwap_X6_isChange dX6_ifSwap_22 ⟨Nat.le_of_ble_eq_true rfl, Nat.le_of_ble_eq_true rfl, Nat.le_of_ble_eq_true rfl⟩ [1] mxC_X6_1 rfl [0, 1, 2, 3] rfl mxF_X6_1 mxM_X6_1 rfl (Nat.le_of_ble_eq_true rfl) ⟨Nat.zero_le _, Nat.zero_le _⟩ rfl ?_
      refine xi_if_eq (tgt := 37) C dX6_ifSwap_25 (by decide) (fun c9 => ?_) (fun c9 => ?_)
      · have h := it_i c9 h
        refine xi_bipush (v := (-5)) C dX6_ifSwap_37 (by decide) ?_
        have w0 := Option.some.inj h
        obtain ⟨q0, w1⟩ := Prod.mk.inj w0
        obtain ⟨q1, w2⟩ := Prod.mk.inj w1
        obtain ⟨q2, w3⟩ := Prod.mk.inj w2
        obtain ⟨q3, w4⟩ := Prod.mk.inj w3
        subst q0
        subst q1
        subst q2
        subst q3
        subst w4
        exact xi_iret C Z dX6_ifSwap_39
      · have h := ie_i c9 h
        refine xi_aload_n C dX6_ifSwap_28 rfl 0 rfl ?_
        refine xi_iload_n C dX6_ifSwap_29 rfl 1 rfl ?_
        refine xi_iload_n C dX6_ifSwap_30 rfl 2 rfl ?_
        obtain ⟨⟨v10, thn11, hld12, far13, don14⟩, e15, h⟩ := ob_i h
        refine xi_callV (As := [.int p1, .int p2]) (o := some (.int v10)) (rest := []) (w2 := (wMo o0 ma st ik le sp nu ++ wAr cI (ma 0) 1898 now ++ wAr cI (ma 1) 1898 thn11 ++ wAr cI (ma 2) 7592 pst ++ wAr cI (ma 3) 1898 snp ++ wAr cC (ma 4) 80 txt ++ wAr cI (ma 5) 48 hld12 ++ wAr cI (ma 6) 24 far13 ++ wAr cZ (ma 7) 72 don14 ++ wAr cI (ma 8) 96 tld ++ wAr cI (ma 9) 24 dep ++ wAr cI (ma 10) 24 bit)) (st2 := [.int v10]) C k_X6_swapped (m_X6_swapped D cI cC cZ cR o0 ma st ik le sp nu now thn pst snp txt hld far don tld dep bit p1 p2 v10 thn11 hld12 far13 don14 e15) gX6_ifSwap_X6_swapped dX6_ifSwap_31 ⟨Nat.le_of_ble_eq_true rfl, Nat.le_of_ble_eq_true rfl, Nat.le_of_ble_eq_true rfl⟩ 0 rfl rfl [0, 1, 2, 3, 4, 5, 6, 7, 8, 9, 10, 11] mxC_X6_0_1_2_3_4_5_6_7_8_9_10_11 rfl [0, 1, 2, 3] rfl mxF_X6_0_1_2_3_4_5_6_7_8_9_10_11 mxM_X6_0_1_2_3_4_5_6_7_8_9_10_11 rfl (Nat.le_of_ble_eq_true rfl) ⟨Nat.zero_le _, Nat.zero_le _⟩ rfl ?_
        refine xi_goto (tgt := 39) C dX6_ifSwap_34 (by decide) ?_
        have w0 := Option.some.inj h
        obtain ⟨q0, w1⟩ := Prod.mk.inj w0
        obtain ⟨q1, w2⟩ := Prod.mk.inj w1
        obtain ⟨q2, w3⟩ := Prod.mk.inj w2
        obtain ⟨q3, w4⟩ := Prod.mk.inj w3
        subst q0
        subst q1
        subst q2
        subst q3
        subst w4
        exact xi_iret C Z dX6_ifSwap_39
    · have h := it_i c6 h
      refine xi_iconst (v := (-1)) C dX6_ifSwap_14 (by decide) ?_
      have w0 := Option.some.inj h
      obtain ⟨q0, w1⟩ := Prod.mk.inj w0
      obtain ⟨q1, w2⟩ := Prod.mk.inj w1
      obtain ⟨q2, w3⟩ := Prod.mk.inj w2
      obtain ⟨q3, w4⟩ := Prod.mk.inj w3
      subst q0
      subst q1
      subst q2
      subst q3
      subst w4
      exact xi_iret C Z dX6_ifSwap_15
def f_X6_bestSwap_27 (now : Nat → Int32) (x1_27 : Int32) (k : Int32 → (Nat → Int32) → (Nat → Int32) → (Nat → Int32) → (Nat → Int32) → Option (Int32 × (Nat → Int32) × (Nat → Int32) × (Nat → Int32) × (Nat → Int32))) : Nat → Int32 → Int32 → Int32 → (Nat → Int32) → (Nat → Int32) → (Nat → Int32) → (Nat → Int32) → Option (Int32 × (Nat → Int32) × (Nat → Int32) × (Nat → Int32) × (Nat → Int32))
  | 0, _, _, _, _, _, _, _ => none
  | n + 1, x2_27, x3_27, x4_27, thn_27, hld_27, far_27, don_27 =>
    if 24 ≤ x4_27 then
      k x2_27 thn_27 hld_27 far_27 don_27
    else
      if x4_27 = x1_27 then
        f_X6_bestSwap_27 now x1_27 k n x2_27 x3_27 (x4_27 + 1) thn_27 hld_27 far_27 don_27
      else
        (f_X6_swapped now thn_27 hld_27 far_27 don_27 x1_27 x4_27).bind fun (v8, thn9, hld10, far11, don12) =>
        if v8 = (-3) then
          f_X6_bestSwap_27 now x1_27 k n x2_27 x3_27 (x4_27 + 1) thn9 hld10 far11 don12
        else
          if x3_27 ≤ v8 then
            f_X6_bestSwap_27 now x1_27 k n x2_27 x3_27 (x4_27 + 1) thn9 hld10 far11 don12
          else
            f_X6_bestSwap_27 now x1_27 k n x4_27 v8 (x4_27 + 1) thn9 hld10 far11 don12
def f_X6_bestSwap (now : Nat → Int32) (thn : Nat → Int32) (hld : Nat → Int32) (far : Nat → Int32) (don : Nat → Int32) (p1 : Int32) : Option (Int32 × (Nat → Int32) × (Nat → Int32) × (Nat → Int32) × (Nat → Int32)) :=
  (f_X6_isCell now p1).bind fun v1 =>
  if v1 = 0 then
    some ((-1), thn, hld, far, don)
  else
    (f_X6_segments now).bind fun v4 =>
    f_X6_bestSwap_27 now p1 (fun x2z25 thnz25 hldz25 farz25 donz25 =>
      some (x2z25, thnz25, hldz25, farz25, donz25)) xFu (-5) v4 0 thn hld far don
theorem k_X6_bestSwap : xb_Y yX6_bestSwap cX6_bestSwap wsX6_bestSwap 7 (some .int) { frames := 7, cells := 0, slots := 0, locals := 164 } 1 := ⟨⟨_, rfl⟩, by decide, ⟨by decide, by decide, by decide +kernel⟩, rfl, rfl⟩
theorem fl_X6_bestSwap_7 : Cond.fieldLink RX6 7 "LookupBoardModel" "now" "[I" ∈ wsX6_bestSwap := List.mem_of_getElem? (i := 1) rfl
theorem iw_X6_bestSwap_6 : ∀ w ∈ wsX60, w ∈ wsX6_bestSwap := fun w h => List.mem_cons_of_mem _ (List.mem_append_right _ h)
set_option maxHeartbeats 4000000 in
set_option maxRecDepth 100000 in
theorem m_X6_bestSwap (D : va_G) (cI cC cZ cR : ClassId) (o0 : Nat) (ma : Nat → Nat) (st : Int32) (ik : Int32) (le : Int32) (sp : Int32) (nu : Int32) (now : Nat → Int32) (thn : Nat → Int32) (pst : Nat → Int32) (snp : Nat → Int32) (txt : Nat → Int32) (hld : Nat → Int32) (far : Nat → Int32) (don : Nat → Int32) (tld : Nat → Int32) (dep : Nat → Int32) (bit : Nat → Int32) (p1 : Int32) (r : Int32) (thn' : Nat → Int32) (hld' : Nat → Int32) (far' : Nat → Int32) (don' : Nat → Int32) (h : f_X6_bestSwap now thn hld far don p1 = some (r, thn', hld', far', don')) : xb_M cX6_bestSwap wsX6_bestSwap RX6 { frames := 7, cells := 0, slots := 0, locals := 164 } (some .int) 7 (xb_ty cI cC cZ cR) D [.ref o0, .int p1] (wMo o0 ma st ik le sp nu ++ wAr cI (ma 0) 1898 now ++ wAr cI (ma 1) 1898 thn ++ wAr cI (ma 2) 7592 pst ++ wAr cI (ma 3) 1898 snp ++ wAr cC (ma 4) 80 txt ++ wAr cI (ma 5) 48 hld ++ wAr cI (ma 6) 24 far ++ wAr cZ (ma 7) 72 don ++ wAr cI (ma 8) 96 tld ++ wAr cI (ma 9) 24 dep ++ wAr cI (ma 10) 24 bit) (some (.int r)) (wMo o0 ma st ik le sp nu ++ wAr cI (ma 0) 1898 now ++ wAr cI (ma 1) 1898 thn' ++ wAr cI (ma 2) 7592 pst ++ wAr cI (ma 3) 1898 snp ++ wAr cC (ma 4) 80 txt ++ wAr cI (ma 5) 48 hld' ++ wAr cI (ma 6) 24 far' ++ wAr cZ (ma 7) 72 don' ++ wAr cI (ma 8) 96 tld ++ wAr cI (ma 9) 24 dep ++ wAr cI (ma 10) 24 bit) := by
  intro X C Z
  show xb_G X 0 0 (wMo o0 ma st ik le sp nu ++ wAr cI (ma 0) 1898 now ++ wAr cI (ma 1) 1898 thn ++ wAr cI (ma 2) 7592 pst ++ wAr cI (ma 3) 1898 snp ++ wAr cC (ma 4) 80 txt ++ wAr cI (ma 5) 48 hld ++ wAr cI (ma 6) 24 far ++ wAr cZ (ma 7) 72 don ++ wAr cI (ma 8) 96 tld ++ wAr cI (ma 9) 24 dep ++ wAr cI (ma 10) 24 bit) [(0, .ref o0), (1, .int p1)] 0 []
  have lp27 : ∀ (x1_27 : Int32) (k : Int32 → (Nat → Int32) → (Nat → Int32) → (Nat → Int32) → (Nat → Int32) → Option (Int32 × (Nat → Int32) × (Nat → Int32) × (Nat → Int32) × (Nat → Int32))) (n : Nat) (x2_27 : Int32) (x3_27 : Int32) (x4_27 : Int32) (thn_27 : Nat → Int32) (hld_27 : Nat → Int32) (far_27 : Nat → Int32) (don_27 : Nat → Int32), f_X6_bestSwap_27 now x1_27 k n x2_27 x3_27 x4_27 thn_27 hld_27 far_27 don_27 = some (r, thn', hld', far', don') → (∀ (x2_27e : Int32) (thn_27e : Nat → Int32) (hld_27e : Nat → Int32) (far_27e : Nat → Int32) (don_27e : Nat → Int32), k x2_27e thn_27e hld_27e far_27e don_27e = some (r, thn', hld', far', don') → xb_G X 0 0 (wMo o0 ma st ik le sp nu ++ wAr cI (ma 0) 1898 now ++ wAr cI (ma 1) 1898 thn_27e ++ wAr cI (ma 2) 7592 pst ++ wAr cI (ma 3) 1898 snp ++ wAr cC (ma 4) 80 txt ++ wAr cI (ma 5) 48 hld_27e ++ wAr cI (ma 6) 24 far_27e ++ wAr cZ (ma 7) 72 don_27e ++ wAr cI (ma 8) 96 tld ++ wAr cI (ma 9) 24 dep ++ wAr cI (ma 10) 24 bit) [(2, .int x2_27e)] 104 []) → xb_G X 0 0 (wMo o0 ma st ik le sp nu ++ wAr cI (ma 0) 1898 now ++ wAr cI (ma 1) 1898 thn_27 ++ wAr cI (ma 2) 7592 pst ++ wAr cI (ma 3) 1898 snp ++ wAr cC (ma 4) 80 txt ++ wAr cI (ma 5) 48 hld_27 ++ wAr cI (ma 6) 24 far_27 ++ wAr cZ (ma 7) 72 don_27 ++ wAr cI (ma 8) 96 tld ++ wAr cI (ma 9) 24 dep ++ wAr cI (ma 10) 24 bit) [(0, .ref o0), (1, .int x1_27), (2, .int x2_27), (3, .int x3_27), (4, .int x4_27)] 27 [] := by
    intro x1_27 k n
    induction n with
    | zero => intro x2_27 x3_27 x4_27 thn_27 hld_27 far_27 don_27 h hk; unfold f_X6_bestSwap_27 at h; cases h
    | succ n ih =>
      intro x2_27 x3_27 x4_27 thn_27 hld_27 far_27 don_27 h hk
      unfold f_X6_bestSwap_27 at h
      refine xi_iload C dX6_bestSwap_27 4 rfl ?_
      refine xi_bipush (v := 24) C dX6_bestSwap_29 (by decide) ?_
      refine xi_icmp_ge (tgt := 104) C dX6_bestSwap_31 (by decide) (fun c6 => ?_) (fun c6 => ?_)
      · have h := it_i c6 h
        exact xb_lv (hk x2_27 thn_27 hld_27 far_27 don_27 h) [2] rfl
      · have h := ie_i c6 h
        refine xi_iload C dX6_bestSwap_34 4 rfl ?_
        refine xi_iload_n C dX6_bestSwap_36 rfl 1 rfl ?_
        refine xi_icmp_ne (tgt := 45) C dX6_bestSwap_37 (by decide) (fun c7 => ?_) (fun c7 => ?_)
        · have h := ie_i c7 h
          refine xi_aload_n C dX6_bestSwap_45 rfl 0 rfl ?_
          refine xi_iload_n C dX6_bestSwap_46 rfl 1 rfl ?_
          refine xi_iload C dX6_bestSwap_47 4 rfl ?_
          obtain ⟨⟨v8, thn9, hld10, far11, don12⟩, e13, h⟩ := ob_i h
          refine xi_callV (As := [.int x1_27, .int x4_27]) (o := some (.int v8)) (rest := []) (w2 := (wMo o0 ma st ik le sp nu ++ wAr cI (ma 0) 1898 now ++ wAr cI (ma 1) 1898 thn9 ++ wAr cI (ma 2) 7592 pst ++ wAr cI (ma 3) 1898 snp ++ wAr cC (ma 4) 80 txt ++ wAr cI (ma 5) 48 hld10 ++ wAr cI (ma 6) 24 far11 ++ wAr cZ (ma 7) 72 don12 ++ wAr cI (ma 8) 96 tld ++ wAr cI (ma 9) 24 dep ++ wAr cI (ma 10) 24 bit)) (st2 := [.int v8]) C k_X6_swapped (m_X6_swapped D cI cC cZ cR o0 ma st ik le sp nu now thn_27 pst snp txt hld_27 far_27 don_27 tld dep bit x1_27 x4_27 v8 thn9 hld10 far11 don12 e13) gX6_bestSwap_X6_swapped dX6_bestSwap_49 ⟨Nat.le_of_ble_eq_true rfl, Nat.le_of_ble_eq_true rfl, Nat.le_of_ble_eq_true rfl⟩ 0 rfl rfl [0, 1, 2, 3, 4, 5, 6, 7, 8, 9, 10, 11] mxC_X6_0_1_2_3_4_5_6_7_8_9_10_11 rfl [0, 1, 2, 3] rfl mxF_X6_0_1_2_3_4_5_6_7_8_9_10_11 mxM_X6_0_1_2_3_4_5_6_7_8_9_10_11 rfl (Nat.le_of_ble_eq_true rfl) ⟨Nat.zero_le _, Nat.zero_le _⟩ rfl ?_
          refine xi_istore (lv2 := [(0, .ref o0), (1, .int x1_27), (2, .int x2_27), (3, .int x3_27), (4, .int x4_27), (5, .int v8)]) C dX6_bestSwap_52 (by decide) [0, 1, 2, 3, 4] [1, 2, 3, 4, 5, 0] rfl ?_
          refine xi_iload C dX6_bestSwap_54 5 rfl ?_
          refine xi_bipush (v := (-3)) C dX6_bestSwap_56 (by decide) ?_
          refine xi_icmp_eq (tgt := 71) C dX6_bestSwap_58 (by decide) (fun c14 => ?_) (fun c14 => ?_)
          · have h := it_i c14 h
            refine xi_iconst (v := 0) C dX6_bestSwap_71 (by decide) ?_
            refine xi_istore (lv2 := [(0, .ref o0), (1, .int x1_27), (2, .int x2_27), (3, .int x3_27), (4, .int x4_27), (5, .int v8), (6, .int 0)]) C dX6_bestSwap_72 (by decide) [0, 1, 2, 3, 4, 5] [1, 2, 3, 4, 5, 6, 0] rfl ?_
            refine xi_iload C dX6_bestSwap_74 6 rfl ?_
            refine xi_if_eq (tgt := 84) C dX6_bestSwap_76 (by decide) (fun c15 => ?_) (fun c15 => ?_)
            rotate_left
            · first | exact absurd c15 (by decide) | exact absurd (by decide) c15
            refine xi_iload_n C dX6_bestSwap_84 rfl 2 rfl ?_
            refine xi_istore_n (lv2 := [(0, .ref o0), (1, .int x1_27), (2, .int x2_27), (3, .int x3_27), (4, .int x4_27), (5, .int v8), (6, .int 0)]) C dX6_bestSwap_85 rfl (by decide) [0, 1, 3, 4, 5, 6] [1, 2, 0, 3, 4, 5, 6] rfl ?_
            refine xi_iload C dX6_bestSwap_86 6 rfl ?_
            refine xi_if_eq (tgt := 96) C dX6_bestSwap_88 (by decide) (fun c16 => ?_) (fun c16 => ?_)
            rotate_left
            · first | exact absurd c16 (by decide) | exact absurd (by decide) c16
            refine xi_iload_n C dX6_bestSwap_96 rfl 3 rfl ?_
            refine xi_istore_n (lv2 := [(0, .ref o0), (1, .int x1_27), (2, .int x2_27), (3, .int x3_27), (4, .int x4_27), (5, .int v8), (6, .int 0)]) C dX6_bestSwap_97 rfl (by decide) [0, 1, 2, 4, 5, 6] [1, 2, 3, 0, 4, 5, 6] rfl ?_
            refine xi_iinc (v := x4_27 + 1) (lv2 := [(0, .ref o0), (1, .int x1_27), (2, .int x2_27), (3, .int x3_27), (4, .int (x4_27 + 1)), (5, .int v8), (6, .int 0)]) C dX6_bestSwap_98 4 rfl (by rfl) (by decide) [0, 1, 2, 3, 5, 6] [1, 2, 3, 4, 0, 5, 6] rfl ?_
            refine xi_goto (tgt := 27) C dX6_bestSwap_101 (by decide) ?_
            exact xb_lv (ih x2_27 x3_27 (x4_27 + 1) thn9 hld10 far11 don12 h hk) [0, 1, 2, 3, 4] rfl
          · have h := ie_i c14 h
            refine xi_iload C dX6_bestSwap_61 5 rfl ?_
            refine xi_iload_n C dX6_bestSwap_63 rfl 3 rfl ?_
            refine xi_icmp_ge (tgt := 71) C dX6_bestSwap_64 (by decide) (fun c17 => ?_) (fun c17 => ?_)
            · have h := it_i c17 h
              refine xi_iconst (v := 0) C dX6_bestSwap_71 (by decide) ?_
              refine xi_istore (lv2 := [(0, .ref o0), (1, .int x1_27), (2, .int x2_27), (3, .int x3_27), (4, .int x4_27), (5, .int v8), (6, .int 0)]) C dX6_bestSwap_72 (by decide) [0, 1, 2, 3, 4, 5] [1, 2, 3, 4, 5, 6, 0] rfl ?_
              refine xi_iload C dX6_bestSwap_74 6 rfl ?_
              refine xi_if_eq (tgt := 84) C dX6_bestSwap_76 (by decide) (fun c18 => ?_) (fun c18 => ?_)
              rotate_left
              · first | exact absurd c18 (by decide) | exact absurd (by decide) c18
              refine xi_iload_n C dX6_bestSwap_84 rfl 2 rfl ?_
              refine xi_istore_n (lv2 := [(0, .ref o0), (1, .int x1_27), (2, .int x2_27), (3, .int x3_27), (4, .int x4_27), (5, .int v8), (6, .int 0)]) C dX6_bestSwap_85 rfl (by decide) [0, 1, 3, 4, 5, 6] [1, 2, 0, 3, 4, 5, 6] rfl ?_
              refine xi_iload C dX6_bestSwap_86 6 rfl ?_
              refine xi_if_eq (tgt := 96) C dX6_bestSwap_88 (by decide) (fun c19 => ?_) (fun c19 => ?_)
              rotate_left
              · first | exact absurd c19 (by decide) | exact absurd (by decide) c19
              refine xi_iload_n C dX6_bestSwap_96 rfl 3 rfl ?_
              refine xi_istore_n (lv2 := [(0, .ref o0), (1, .int x1_27), (2, .int x2_27), (3, .int x3_27), (4, .int x4_27), (5, .int v8), (6, .int 0)]) C dX6_bestSwap_97 rfl (by decide) [0, 1, 2, 4, 5, 6] [1, 2, 3, 0, 4, 5, 6] rfl ?_
              refine xi_iinc (v := x4_27 + 1) (lv2 := [(0, .ref o0), (1, .int x1_27), (2, .int x2_27), (3, .int x3_27), (4, .int (x4_27 + 1)), (5, .int v8), (6, .int 0)]) C dX6_bestSwap_98 4 rfl (by rfl) (by decide) [0, 1, 2, 3, 5, 6] [1, 2, 3, 4, 0, 5, 6] rfl ?_
              refine xi_goto (tgt := 27) C dX6_bestSwap_101 (by decide) ?_
              exact xb_lv (ih x2_27 x3_27 (x4_27 + 1) thn9 hld10 far11 don12 h hk) [0, 1, 2, 3, 4] rfl
            · have h := ie_i c17 h
              refine xi_iconst (v := 1) C dX6_bestSwap_67 (by decide) ?_
              refine xi_goto (tgt := 72) C dX6_bestSwap_68 (by decide) ?_
              refine xi_istore (lv2 := [(0, .ref o0), (1, .int x1_27), (2, .int x2_27), (3, .int x3_27), (4, .int x4_27), (5, .int v8), (6, .int 1)]) C dX6_bestSwap_72 (by decide) [0, 1, 2, 3, 4, 5] [1, 2, 3, 4, 5, 6, 0] rfl ?_
              refine xi_iload C dX6_bestSwap_74 6 rfl ?_
              refine xi_if_eq (tgt := 84) C dX6_bestSwap_76 (by decide) (fun c20 => ?_) (fun c20 => ?_)
              · first | exact absurd c20 (by decide) | exact absurd (by decide) c20
              refine xi_iload C dX6_bestSwap_79 4 rfl ?_
              refine xi_goto (tgt := 85) C dX6_bestSwap_81 (by decide) ?_
              refine xi_istore_n (lv2 := [(0, .ref o0), (1, .int x1_27), (2, .int x4_27), (3, .int x3_27), (4, .int x4_27), (5, .int v8), (6, .int 1)]) C dX6_bestSwap_85 rfl (by decide) [0, 1, 3, 4, 5, 6] [1, 2, 0, 3, 4, 5, 6] rfl ?_
              refine xi_iload C dX6_bestSwap_86 6 rfl ?_
              refine xi_if_eq (tgt := 96) C dX6_bestSwap_88 (by decide) (fun c21 => ?_) (fun c21 => ?_)
              · first | exact absurd c21 (by decide) | exact absurd (by decide) c21
              refine xi_iload C dX6_bestSwap_91 5 rfl ?_
              refine xi_goto (tgt := 97) C dX6_bestSwap_93 (by decide) ?_
              refine xi_istore_n (lv2 := [(0, .ref o0), (1, .int x1_27), (2, .int x4_27), (3, .int v8), (4, .int x4_27), (5, .int v8), (6, .int 1)]) C dX6_bestSwap_97 rfl (by decide) [0, 1, 2, 4, 5, 6] [1, 2, 3, 0, 4, 5, 6] rfl ?_
              refine xi_iinc (v := x4_27 + 1) (lv2 := [(0, .ref o0), (1, .int x1_27), (2, .int x4_27), (3, .int v8), (4, .int (x4_27 + 1)), (5, .int v8), (6, .int 1)]) C dX6_bestSwap_98 4 rfl (by rfl) (by decide) [0, 1, 2, 3, 5, 6] [1, 2, 3, 4, 0, 5, 6] rfl ?_
              refine xi_goto (tgt := 27) C dX6_bestSwap_101 (by decide) ?_
              exact xb_lv (ih x4_27 v8 (x4_27 + 1) thn9 hld10 far11 don12 h hk) [0, 1, 2, 3, 4] rfl
        · have h := it_i c7 h
          refine xi_bipush (v := (-3)) C dX6_bestSwap_40 (by decide) ?_
          refine xi_goto (tgt := 52) C dX6_bestSwap_42 (by decide) ?_
          refine xi_istore (lv2 := [(0, .ref o0), (1, .int x1_27), (2, .int x2_27), (3, .int x3_27), (4, .int x4_27), (5, .int (-3))]) C dX6_bestSwap_52 (by decide) [0, 1, 2, 3, 4] [1, 2, 3, 4, 5, 0] rfl ?_
          refine xi_iload C dX6_bestSwap_54 5 rfl ?_
          refine xi_bipush (v := (-3)) C dX6_bestSwap_56 (by decide) ?_
          refine xi_icmp_eq (tgt := 71) C dX6_bestSwap_58 (by decide) (fun c22 => ?_) (fun c22 => ?_)
          rotate_left
          · first | exact absurd c22 (by decide) | exact absurd (by decide) c22
          refine xi_iconst (v := 0) C dX6_bestSwap_71 (by decide) ?_
          refine xi_istore (lv2 := [(0, .ref o0), (1, .int x1_27), (2, .int x2_27), (3, .int x3_27), (4, .int x4_27), (5, .int (-3)), (6, .int 0)]) C dX6_bestSwap_72 (by decide) [0, 1, 2, 3, 4, 5] [1, 2, 3, 4, 5, 6, 0] rfl ?_
          refine xi_iload C dX6_bestSwap_74 6 rfl ?_
          refine xi_if_eq (tgt := 84) C dX6_bestSwap_76 (by decide) (fun c23 => ?_) (fun c23 => ?_)
          rotate_left
          · first | exact absurd c23 (by decide) | exact absurd (by decide) c23
          refine xi_iload_n C dX6_bestSwap_84 rfl 2 rfl ?_
          refine xi_istore_n (lv2 := [(0, .ref o0), (1, .int x1_27), (2, .int x2_27), (3, .int x3_27), (4, .int x4_27), (5, .int (-3)), (6, .int 0)]) C dX6_bestSwap_85 rfl (by decide) [0, 1, 3, 4, 5, 6] [1, 2, 0, 3, 4, 5, 6] rfl ?_
          refine xi_iload C dX6_bestSwap_86 6 rfl ?_
          refine xi_if_eq (tgt := 96) C dX6_bestSwap_88 (by decide) (fun c24 => ?_) (fun c24 => ?_)
          rotate_left
          · first | exact absurd c24 (by decide) | exact absurd (by decide) c24
          refine xi_iload_n C dX6_bestSwap_96 rfl 3 rfl ?_
          refine xi_istore_n (lv2 := [(0, .ref o0), (1, .int x1_27), (2, .int x2_27), (3, .int x3_27), (4, .int x4_27), (5, .int (-3)), (6, .int 0)]) C dX6_bestSwap_97 rfl (by decide) [0, 1, 2, 4, 5, 6] [1, 2, 3, 0, 4, 5, 6] rfl ?_
          refine xi_iinc (v := x4_27 + 1) (lv2 := [(0, .ref o0), (1, .int x1_27), (2, .int x2_27), (3, .int x3_27), (4, .int (x4_27 + 1)), (5, .int (-3)), (6, .int 0)]) C dX6_bestSwap_98 4 rfl (by rfl) (by decide) [0, 1, 2, 3, 5, 6] [1, 2, 3, 4, 0, 5, 6] rfl ?_
          refine xi_goto (tgt := 27) C dX6_bestSwap_101 (by decide) ?_
          exact xb_lv (ih x2_27 x3_27 (x4_27 + 1) thn_27 hld_27 far_27 don_27 h hk) [0, 1, 2, 3, 4] rfl
  unfold f_X6_bestSwap at h
  refine xi_aload_n C dX6_bestSwap_0 rfl 0 rfl ?_
  refine xi_get C dX6_bestSwap_1 iw_X6_bestSwap_6 0 rfl rfl 0 (by decide) fl_X6_bestSwap_7 rfl ?_
  refine xi_iload_n C dX6_bestSwap_4 rfl 1 rfl ?_
  obtain ⟨v1, e2, h⟩ := ob_i h
  refine xi_callS (As := [.ref (ma 0), .int p1]) (o := some (.int v1)) (rest := []) (w2 := (wMo o0 ma st ik le sp nu ++ wAr cI (ma 0) 1898 now ++ wAr cI (ma 1) 1898 thn ++ wAr cI (ma 2) 7592 pst ++ wAr cI (ma 3) 1898 snp ++ wAr cC (ma 4) 80 txt ++ wAr cI (ma 5) 48 hld ++ wAr cI (ma 6) 24 far ++ wAr cZ (ma 7) 72 don ++ wAr cI (ma 8) 96 tld ++ wAr cI (ma 9) 24 dep ++ wAr cI (ma 10) 24 bit)) (st2 := [.int v1]) C k_X6_isCell (m_X6_isCell D cI cC cZ cR (ma 0) now p1 v1 e2) gX6_bestSwap_X6_isCell dX6_bestSwap_5 ⟨Nat.le_of_ble_eq_true rfl, Nat.le_of_ble_eq_true rfl, Nat.le_of_ble_eq_true rfl⟩ [1] mxC_X6_1 rfl [0, 1, 2, 3] rfl mxF_X6_1 mxM_X6_1 rfl (Nat.le_of_ble_eq_true rfl) ⟨Nat.zero_le _, Nat.zero_le _⟩ rfl ?_
  refine xi_if_ne (tgt := 13) C dX6_bestSwap_8 (by decide) (fun c3 => ?_) (fun c3 => ?_)
  · have h := ie_i c3 h
    refine xi_bipush (v := (-5)) C dX6_bestSwap_13 (by decide) ?_
    refine xi_istore_n (lv2 := [(0, .ref o0), (1, .int p1), (2, .int (-5))]) C dX6_bestSwap_15 rfl (by decide) [0, 1] [1, 2, 0] rfl ?_
    refine xi_aload_n C dX6_bestSwap_16 rfl 0 rfl ?_
    refine xi_get C dX6_bestSwap_17 iw_X6_bestSwap_6 0 rfl rfl 0 (by decide) fl_X6_bestSwap_7 rfl ?_
    obtain ⟨v4, e5, h⟩ := ob_i h
    refine xi_callS (As := [.ref (ma 0)]) (o := some (.int v4)) (rest := []) (w2 := (wMo o0 ma st ik le sp nu ++ wAr cI (ma 0) 1898 now ++ wAr cI (ma 1) 1898 thn ++ wAr cI (ma 2) 7592 pst ++ wAr cI (ma 3) 1898 snp ++ wAr cC (ma 4) 80 txt ++ wAr cI (ma 5) 48 hld ++ wAr cI (ma 6) 24 far ++ wAr cZ (ma 7) 72 don ++ wAr cI (ma 8) 96 tld ++ wAr cI (ma 9) 24 dep ++ wAr cI (ma 10) 24 bit)) (st2 := [.int v4]) C k_X6_segments (m_X6_segments D cI cC cZ cR (ma 0) now v4 e5) gX6_bestSwap_X6_segments dX6_bestSwap_20 ⟨Nat.le_of_ble_eq_true rfl, Nat.le_of_ble_eq_true rfl, Nat.le_of_ble_eq_true rfl⟩ [1] mxC_X6_1 rfl [0, 1, 2, 3] rfl mxF_X6_1 mxM_X6_1 rfl (Nat.le_of_ble_eq_true rfl) ⟨Nat.zero_le _, Nat.zero_le _⟩ rfl ?_
    refine xi_istore_n (lv2 := [(0, .ref o0), (1, .int p1), (2, .int (-5)), (3, .int v4)]) C dX6_bestSwap_23 rfl (by decide) [0, 1, 2] [1, 2, 3, 0] rfl ?_
    refine xi_iconst (v := 0) C dX6_bestSwap_24 (by decide) ?_
    refine xi_istore (lv2 := [(0, .ref o0), (1, .int p1), (2, .int (-5)), (3, .int v4), (4, .int 0)]) C dX6_bestSwap_25 (by decide) [0, 1, 2, 3] [1, 2, 3, 4, 0] rfl ?_
    refine xb_lv (lp27 p1 _ xFu (-5) v4 0 thn hld far don h (fun x2z25 thnz25 hldz25 farz25 donz25 h => ?_)) [0, 1, 2, 3, 4] rfl
    refine xi_iload_n C dX6_bestSwap_104 rfl 0 rfl ?_
    have w0 := Option.some.inj h
    obtain ⟨q0, w1⟩ := Prod.mk.inj w0
    obtain ⟨q1, w2⟩ := Prod.mk.inj w1
    obtain ⟨q2, w3⟩ := Prod.mk.inj w2
    obtain ⟨q3, w4⟩ := Prod.mk.inj w3
    subst q0
    subst q1
    subst q2
    subst q3
    subst w4
    exact xi_iret C Z dX6_bestSwap_105
  · have h := it_i c3 h
    refine xi_iconst (v := (-1)) C dX6_bestSwap_11 (by decide) ?_
    have w0 := Option.some.inj h
    obtain ⟨q0, w1⟩ := Prod.mk.inj w0
    obtain ⟨q1, w2⟩ := Prod.mk.inj w1
    obtain ⟨q2, w3⟩ := Prod.mk.inj w2
    obtain ⟨q3, w4⟩ := Prod.mk.inj w3
    subst q0
    subst q1
    subst q2
    subst q3
    subst w4
    exact xi_iret C Z dX6_bestSwap_12
