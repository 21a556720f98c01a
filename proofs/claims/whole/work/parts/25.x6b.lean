def f_X6_areBeside (p0 : Int32) (p1 : Int32) : Option (Int32) :=
  if p1 ≤ p0 then
    if (p0 - p1) = 6 then
      some 1
    else
      if (p0 - p1) = 1 then
        if (p0 / 6) = (p1 / 6) then
          some 1
        else
          some 0
      else
        some 0
  else
    if (p1 - p0) = 6 then
      some 1
    else
      if (p1 - p0) = 1 then
        if (p0 / 6) = (p1 / 6) then
          some 1
        else
          some 0
      else
        some 0
theorem k_X6_areBeside : xb_Y yX6_areBeside cX6_areBeside wsX6_areBeside 3 (some .boolean) { frames := 0, cells := 0, slots := 0, locals := 0 } 2 := ⟨⟨_, rfl⟩, by decide, ⟨by decide, by decide, by decide +kernel⟩, rfl, rfl⟩
set_option maxHeartbeats 4000000 in
set_option maxRecDepth 100000 in
theorem m_X6_areBeside (D : va_G) (cI cC cZ cR : ClassId) (p0 : Int32) (p1 : Int32) (r : Int32) (h : f_X6_areBeside p0 p1 = some r) : xb_M cX6_areBeside wsX6_areBeside RX6 { frames := 0, cells := 0, slots := 0, locals := 0 } (some .boolean) 3 (xb_ty cI cC cZ cR) D [.int p0, .int p1] ([] : va_W) (some (.int r)) ([] : va_W) := by
  intro X C Z
  show xb_G X 0 0 ([] : va_W) [(0, .int p0), (1, .int p1)] 0 []
  unfold f_X6_areBeside at h
  refine xi_iload_n C dX6_areBeside_0 rfl 0 rfl ?_
  refine xi_iload_n C dX6_areBeside_1 rfl 1 rfl ?_
  refine xi_icmp_ge (tgt := 11) C dX6_areBeside_2 (by decide) (fun c1 => ?_) (fun c1 => ?_)
  · have h := it_i c1 h
    refine xi_iload_n C dX6_areBeside_11 rfl 0 rfl ?_
    refine xi_iload_n C dX6_areBeside_12 rfl 1 rfl ?_
    refine xi_isub C dX6_areBeside_13 ?_
    refine xi_istore_n (lv2 := [(0, .int p0), (1, .int p1), (2, .int (p0 - p1))]) C dX6_areBeside_14 rfl (by decide) [0, 1] [1, 2, 0] rfl ?_
    refine xi_iload_n C dX6_areBeside_15 rfl 2 rfl ?_
    refine xi_bipush (v := 6) C dX6_areBeside_16 (by decide) ?_
    refine xi_icmp_eq (tgt := 37) C dX6_areBeside_18 (by decide) (fun c2 => ?_) (fun c2 => ?_)
    · have h := it_i c2 h
      refine xi_iconst (v := 1) C dX6_areBeside_37 (by decide) ?_
      refine xi_goto (tgt := 42) C dX6_areBeside_38 (by decide) ?_
      have w0 := Option.some.inj h
      subst w0
      exact xi_zret C Z dX6_areBeside_42 xb_nz1
    · have h := ie_i c2 h
      refine xi_iload_n C dX6_areBeside_21 rfl 2 rfl ?_
      refine xi_iconst (v := 1) C dX6_areBeside_22 (by decide) ?_
      refine xi_icmp_ne (tgt := 41) C dX6_areBeside_23 (by decide) (fun c3 => ?_) (fun c3 => ?_)
      · have h := ie_i c3 h
        refine xi_iconst (v := 0) C dX6_areBeside_41 (by decide) ?_
        have w0 := Option.some.inj h
        subst w0
        exact xi_zret C Z dX6_areBeside_42 xb_nz0
      · have h := it_i c3 h
        refine xi_iload_n C dX6_areBeside_26 rfl 0 rfl ?_
        refine xi_bipush (v := 6) C dX6_areBeside_27 (by decide) ?_
        refine xi_idiv C dX6_areBeside_29 (by decide) ?_
        refine xi_iload_n C dX6_areBeside_30 rfl 1 rfl ?_
        refine xi_bipush (v := 6) C dX6_areBeside_31 (by decide) ?_
        refine xi_idiv C dX6_areBeside_33 (by decide) ?_
        refine xi_icmp_ne (tgt := 41) C dX6_areBeside_34 (by decide) (fun c4 => ?_) (fun c4 => ?_)
        · have h := ie_i c4 h
          refine xi_iconst (v := 0) C dX6_areBeside_41 (by decide) ?_
          have w0 := Option.some.inj h
          subst w0
          exact xi_zret C Z dX6_areBeside_42 xb_nz0
        · have h := it_i c4 h
          refine xi_iconst (v := 1) C dX6_areBeside_37 (by decide) ?_
          refine xi_goto (tgt := 42) C dX6_areBeside_38 (by decide) ?_
          have w0 := Option.some.inj h
          subst w0
          exact xi_zret C Z dX6_areBeside_42 xb_nz1
  · have h := ie_i c1 h
    refine xi_iload_n C dX6_areBeside_5 rfl 1 rfl ?_
    refine xi_iload_n C dX6_areBeside_6 rfl 0 rfl ?_
    refine xi_isub C dX6_areBeside_7 ?_
    refine xi_goto (tgt := 14) C dX6_areBeside_8 (by decide) ?_
    refine xi_istore_n (lv2 := [(0, .int p0), (1, .int p1), (2, .int (p1 - p0))]) C dX6_areBeside_14 rfl (by decide) [0, 1] [1, 2, 0] rfl ?_
    refine xi_iload_n C dX6_areBeside_15 rfl 2 rfl ?_
    refine xi_bipush (v := 6) C dX6_areBeside_16 (by decide) ?_
    refine xi_icmp_eq (tgt := 37) C dX6_areBeside_18 (by decide) (fun c5 => ?_) (fun c5 => ?_)
    · have h := it_i c5 h
      refine xi_iconst (v := 1) C dX6_areBeside_37 (by decide) ?_
      refine xi_goto (tgt := 42) C dX6_areBeside_38 (by decide) ?_
      have w0 := Option.some.inj h
      subst w0
      exact xi_zret C Z dX6_areBeside_42 xb_nz1
    · have h := ie_i c5 h
      refine xi_iload_n C dX6_areBeside_21 rfl 2 rfl ?_
      refine xi_iconst (v := 1) C dX6_areBeside_22 (by decide) ?_
      refine xi_icmp_ne (tgt := 41) C dX6_areBeside_23 (by decide) (fun c6 => ?_) (fun c6 => ?_)
      · have h := ie_i c6 h
        refine xi_iconst (v := 0) C dX6_areBeside_41 (by decide) ?_
        have w0 := Option.some.inj h
        subst w0
        exact xi_zret C Z dX6_areBeside_42 xb_nz0
      · have h := it_i c6 h
        refine xi_iload_n C dX6_areBeside_26 rfl 0 rfl ?_
        refine xi_bipush (v := 6) C dX6_areBeside_27 (by decide) ?_
        refine xi_idiv C dX6_areBeside_29 (by decide) ?_
        refine xi_iload_n C dX6_areBeside_30 rfl 1 rfl ?_
        refine xi_bipush (v := 6) C dX6_areBeside_31 (by decide) ?_
        refine xi_idiv C dX6_areBeside_33 (by decide) ?_
        refine xi_icmp_ne (tgt := 41) C dX6_areBeside_34 (by decide) (fun c7 => ?_) (fun c7 => ?_)
        · have h := ie_i c7 h
          refine xi_iconst (v := 0) C dX6_areBeside_41 (by decide) ?_
          have w0 := Option.some.inj h
          subst w0
          exact xi_zret C Z dX6_areBeside_42 xb_nz0
        · have h := it_i c7 h
          refine xi_iconst (v := 1) C dX6_areBeside_37 (by decide) ?_
          refine xi_goto (tgt := 42) C dX6_areBeside_38 (by decide) ?_
          have w0 := Option.some.inj h
          subst w0
          exact xi_zret C Z dX6_areBeside_42 xb_nz1
def f_X6_segment (p0 : Int32) (p1 : Int32) : Option (Int32) :=
  if p1 ≤ p0 then
    if p1 ≤ p0 then
      if (p0 - p1) = 6 then
        some (24 + p1)
      else
        some p1
    else
      if (p1 - p1) = 6 then
        some (24 + p1)
      else
        some p1
  else
    if p1 ≤ p0 then
      if (p0 - p0) = 6 then
        some (24 + p0)
      else
        some p0
    else
      if (p1 - p0) = 6 then
        some (24 + p0)
      else
        some p0
theorem k_X6_segment : xb_Y yX6_segment cX6_segment wsX6_segment 4 (some .int) { frames := 0, cells := 0, slots := 0, locals := 0 } 2 := ⟨⟨_, rfl⟩, by decide, ⟨by decide, by decide, by decide +kernel⟩, rfl, rfl⟩
set_option maxHeartbeats 4000000 in
set_option maxRecDepth 100000 in
theorem m_X6_segment (D : va_G) (cI cC cZ cR : ClassId) (p0 : Int32) (p1 : Int32) (r : Int32) (h : f_X6_segment p0 p1 = some r) : xb_M cX6_segment wsX6_segment RX6 { frames := 0, cells := 0, slots := 0, locals := 0 } (some .int) 4 (xb_ty cI cC cZ cR) D [.int p0, .int p1] ([] : va_W) (some (.int r)) ([] : va_W) := by
  intro X C Z
  show xb_G X 0 0 ([] : va_W) [(0, .int p0), (1, .int p1)] 0 []
  unfold f_X6_segment at h
  refine xi_iload_n C dX6_segment_0 rfl 0 rfl ?_
  refine xi_iload_n C dX6_segment_1 rfl 1 rfl ?_
  refine xi_icmp_ge (tgt := 9) C dX6_segment_2 (by decide) (fun c1 => ?_) (fun c1 => ?_)
  · have h := it_i c1 h
    refine xi_iload_n C dX6_segment_9 rfl 1 rfl ?_
    refine xi_istore_n (lv2 := [(0, .int p0), (1, .int p1), (2, .int p1)]) C dX6_segment_10 rfl (by decide) [0, 1] [1, 2, 0] rfl ?_
    refine xi_iload_n C dX6_segment_11 rfl 0 rfl ?_
    refine xi_iload_n C dX6_segment_12 rfl 1 rfl ?_
    refine xi_icmp_ge (tgt := 20) C dX6_segment_13 (by decide) (fun c2 => ?_) (fun c2 => ?_)
    · have h := it_i c2 h
      refine xi_iload_n C dX6_segment_20 rfl 0 rfl ?_
      refine xi_istore_n (lv2 := [(0, .int p0), (1, .int p1), (2, .int p1), (3, .int p0)]) C dX6_segment_21 rfl (by decide) [0, 1, 2] [1, 2, 3, 0] rfl ?_
      refine xi_iload_n C dX6_segment_22 rfl 3 rfl ?_
      refine xi_iload_n C dX6_segment_23 rfl 2 rfl ?_
      refine xi_isub C dX6_segment_24 ?_
      refine xi_bipush (v := 6) C dX6_segment_25 (by decide) ?_
      refine xi_icmp_ne (tgt := 37) C dX6_segment_27 (by decide) (fun c3 => ?_) (fun c3 => ?_)
      · have h := ie_i c3 h
        refine xi_iload_n C dX6_segment_37 rfl 2 rfl ?_
        have w0 := Option.some.inj h
        subst w0
        exact xi_iret C Z dX6_segment_38
      · have h := it_i c3 h
        refine xi_bipush (v := 24) C dX6_segment_30 (by decide) ?_
        refine xi_iload_n C dX6_segment_32 rfl 2 rfl ?_
        refine xi_iadd C dX6_segment_33 ?_
        refine xi_goto (tgt := 38) C dX6_segment_34 (by decide) ?_
        have w0 := Option.some.inj h
        subst w0
        exact xi_iret C Z dX6_segment_38
    · have h := ie_i c2 h
      refine xi_iload_n C dX6_segment_16 rfl 1 rfl ?_
      refine xi_goto (tgt := 21) C dX6_segment_17 (by decide) ?_
      refine xi_istore_n (lv2 := [(0, .int p0), (1, .int p1), (2, .int p1), (3, .int p1)]) C dX6_segment_21 rfl (by decide) [0, 1, 2] [1, 2, 3, 0] rfl ?_
      refine xi_iload_n C dX6_segment_22 rfl 3 rfl ?_
      refine xi_iload_n C dX6_segment_23 rfl 2 rfl ?_
      refine xi_isub C dX6_segment_24 ?_
      refine xi_bipush (v := 6) C dX6_segment_25 (by decide) ?_
      refine xi_icmp_ne (tgt := 37) C dX6_segment_27 (by decide) (fun c4 => ?_) (fun c4 => ?_)
      · have h := ie_i c4 h
        refine xi_iload_n C dX6_segment_37 rfl 2 rfl ?_
        have w0 := Option.some.inj h
        subst w0
        exact xi_iret C Z dX6_segment_38
      · have h := it_i c4 h
        refine xi_bipush (v := 24) C dX6_segment_30 (by decide) ?_
        refine xi_iload_n C dX6_segment_32 rfl 2 rfl ?_
        refine xi_iadd C dX6_segment_33 ?_
        refine xi_goto (tgt := 38) C dX6_segment_34 (by decide) ?_
        have w0 := Option.some.inj h
        subst w0
        exact xi_iret C Z dX6_segment_38
  · have h := ie_i c1 h
    refine xi_iload_n C dX6_segment_5 rfl 0 rfl ?_
    refine xi_goto (tgt := 10) C dX6_segment_6 (by decide) ?_
    refine xi_istore_n (lv2 := [(0, .int p0), (1, .int p1), (2, .int p0)]) C dX6_segment_10 rfl (by decide) [0, 1] [1, 2, 0] rfl ?_
    refine xi_iload_n C dX6_segment_11 rfl 0 rfl ?_
    refine xi_iload_n C dX6_segment_12 rfl 1 rfl ?_
    refine xi_icmp_ge (tgt := 20) C dX6_segment_13 (by decide) (fun c5 => ?_) (fun c5 => ?_)
    · have h := it_i c5 h
      refine xi_iload_n C dX6_segment_20 rfl 0 rfl ?_
      refine xi_istore_n (lv2 := [(0, .int p0), (1, .int p1), (2, .int p0), (3, .int p0)]) C dX6_segment_21 rfl (by decide) [0, 1, 2] [1, 2, 3, 0] rfl ?_
      refine xi_iload_n C dX6_segment_22 rfl 3 rfl ?_
      refine xi_iload_n C dX6_segment_23 rfl 2 rfl ?_
      refine xi_isub C dX6_segment_24 ?_
      refine xi_bipush (v := 6) C dX6_segment_25 (by decide) ?_
      refine xi_icmp_ne (tgt := 37) C dX6_segment_27 (by decide) (fun c6 => ?_) (fun c6 => ?_)
      · have h := ie_i c6 h
        refine xi_iload_n C dX6_segment_37 rfl 2 rfl ?_
        have w0 := Option.some.inj h
        subst w0
        exact xi_iret C Z dX6_segment_38
      · have h := it_i c6 h
        refine xi_bipush (v := 24) C dX6_segment_30 (by decide) ?_
        refine xi_iload_n C dX6_segment_32 rfl 2 rfl ?_
        refine xi_iadd C dX6_segment_33 ?_
        refine xi_goto (tgt := 38) C dX6_segment_34 (by decide) ?_
        have w0 := Option.some.inj h
        subst w0
        exact xi_iret C Z dX6_segment_38
    · have h := ie_i c5 h
      refine xi_iload_n C dX6_segment_16 rfl 1 rfl ?_
      refine xi_goto (tgt := 21) C dX6_segment_17 (by decide) ?_
      refine xi_istore_n (lv2 := [(0, .int p0), (1, .int p1), (2, .int p0), (3, .int p1)]) C dX6_segment_21 rfl (by decide) [0, 1, 2] [1, 2, 3, 0] rfl ?_
      refine xi_iload_n C dX6_segment_22 rfl 3 rfl ?_
      refine xi_iload_n C dX6_segment_23 rfl 2 rfl ?_
      refine xi_isub C dX6_segment_24 ?_
      refine xi_bipush (v := 6) C dX6_segment_25 (by decide) ?_
      refine xi_icmp_ne (tgt := 37) C dX6_segment_27 (by decide) (fun c7 => ?_) (fun c7 => ?_)
      · have h := ie_i c7 h
        refine xi_iload_n C dX6_segment_37 rfl 2 rfl ?_
        have w0 := Option.some.inj h
        subst w0
        exact xi_iret C Z dX6_segment_38
      · have h := it_i c7 h
        refine xi_bipush (v := 24) C dX6_segment_30 (by decide) ?_
        refine xi_iload_n C dX6_segment_32 rfl 2 rfl ?_
        refine xi_iadd C dX6_segment_33 ?_
        refine xi_goto (tgt := 38) C dX6_segment_34 (by decide) ?_
        have w0 := Option.some.inj h
        subst w0
        exact xi_iret C Z dX6_segment_38
def f_X6_counts_31 (rr : Nat → Int32) (x2_31 : Int32) (k : (Nat → Int32) → Option ((Nat → Int32))) : Nat → Int32 → (Nat → Int32) → Option ((Nat → Int32))
  | 0, _, _ => none
  | n + 1, x3_31, hld_31 =>
    (xr_d rr 1898 (96 + x2_31)).bind fun v6 =>
    if v6 ≤ x3_31 then
      k hld_31
    else
      (xr_d rr 1898 (((168 + (24 * x2_31)) + x3_31) - 1)).bind fun v9 =>
      (xr_d rr 1898 ((168 + (24 * x2_31)) + x3_31)).bind fun v11 =>
      (f_X6_segment v9 v11).bind fun v13 =>
      (xr_d hld_31 48 v13).bind fun v15 =>
      (xr_w hld_31 48 v13 (v15 + 1)).bind fun hld18 =>
      f_X6_counts_31 rr x2_31 k n (x3_31 + 1) hld18
def f_X6_counts_23 (rr : Nat → Int32) (k : (Nat → Int32) → Option ((Nat → Int32))) : Nat → Int32 → (Nat → Int32) → Option ((Nat → Int32))
  | 0, _, _ => none
  | n + 1, x2_23, hld_23 =>
    if 72 ≤ x2_23 then
      k hld_23
    else
      f_X6_counts_31 rr x2_23 (fun hldz19 =>
        f_X6_counts_23 rr k n (x2_23 + 1) hldz19) xFu 1 hld_23
def f_X6_counts_2 (k : (Nat → Int32) → Option ((Nat → Int32))) : Nat → Int32 → (Nat → Int32) → Option ((Nat → Int32))
  | 0, _, _ => none
  | n + 1, x2_2, hld_2 =>
    if 48 ≤ x2_2 then
      k hld_2
    else
      (xr_w hld_2 48 x2_2 0).bind fun hld3 =>
      f_X6_counts_2 k n (x2_2 + 1) hld3
def f_X6_counts (hld : Nat → Int32) (rr : Nat → Int32) : Option ((Nat → Int32)) :=
  f_X6_counts_2 (fun hldz4 =>
    f_X6_counts_23 rr (fun hldz20 =>
      some hldz20) xFu 0 hldz4) xFu 0 hld
theorem k_X6_counts : xb_Y yX6_counts cX6_counts wsX6_counts 5 none { frames := 1, cells := 0, slots := 0, locals := 23 } 1 := ⟨⟨_, rfl⟩, by decide, ⟨by decide, by decide, by decide +kernel⟩, rfl, rfl⟩
theorem fl_X6_counts_26 : Cond.fieldLink RX6 26 "LookupBoardModel" "held" "[I" ∈ wsX6_counts := List.mem_of_getElem? (i := 1) rfl
theorem iw_X6_counts_6 : ∀ w ∈ wsX60, w ∈ wsX6_counts := fun w h => List.mem_cons_of_mem _ (List.mem_append_right _ h)
set_option maxHeartbeats 4000000 in
set_option maxRecDepth 100000 in
theorem m_X6_counts (D : va_G) (cI cC cZ cR : ClassId) (o0 : Nat) (ma : Nat → Nat) (q : Nat) (st : Int32) (ik : Int32) (le : Int32) (sp : Int32) (nu : Int32) (hld : Nat → Int32) (far : Nat → Int32) (don : Nat → Int32) (rr : Nat → Int32) (hld' : Nat → Int32) (h : f_X6_counts hld rr = some hld') : xb_M cX6_counts wsX6_counts RX6 { frames := 1, cells := 0, slots := 0, locals := 23 } none 5 (xb_ty cI cC cZ cR) D [.ref o0, .ref q] (wMo o0 ma st ik le sp nu ++ wAr cI (ma 5) 48 hld ++ wAr cI (ma 6) 24 far ++ wAr cZ (ma 7) 72 don ++ wAr cI q 1898 rr) none (wMo o0 ma st ik le sp nu ++ wAr cI (ma 5) 48 hld' ++ wAr cI (ma 6) 24 far ++ wAr cZ (ma 7) 72 don ++ wAr cI q 1898 rr) := by
  intro X C Z
  show xb_G X 0 0 (wMo o0 ma st ik le sp nu ++ wAr cI (ma 5) 48 hld ++ wAr cI (ma 6) 24 far ++ wAr cZ (ma 7) 72 don ++ wAr cI q 1898 rr) [(0, .ref o0), (1, .ref q)] 0 []
  have lp31 : ∀ (x2_31 : Int32) (k : (Nat → Int32) → Option ((Nat → Int32))) (n : Nat) (x3_31 : Int32) (hld_31 : Nat → Int32), f_X6_counts_31 rr x2_31 k n x3_31 hld_31 = some hld' → (∀ (hld_31e : Nat → Int32), k hld_31e = some hld' → xb_G X 0 0 (wMo o0 ma st ik le sp nu ++ wAr cI (ma 5) 48 hld_31e ++ wAr cI (ma 6) 24 far ++ wAr cZ (ma 7) 72 don ++ wAr cI q 1898 rr) [(0, .ref o0), (1, .ref q), (2, .int x2_31)] 81 []) → xb_G X 0 0 (wMo o0 ma st ik le sp nu ++ wAr cI (ma 5) 48 hld_31 ++ wAr cI (ma 6) 24 far ++ wAr cZ (ma 7) 72 don ++ wAr cI q 1898 rr) [(0, .ref o0), (1, .ref q), (2, .int x2_31), (3, .int x3_31)] 31 [] := by
    intro x2_31 k n
    induction n with
    | zero => intro x3_31 hld_31 h hk; unfold f_X6_counts_31 at h; cases h
    | succ n ih =>
      intro x3_31 hld_31 h hk
      unfold f_X6_counts_31 at h
      refine xi_iload_n C dX6_counts_31 rfl 3 rfl ?_
      refine xi_aload_n C dX6_counts_32 rfl 1 rfl ?_
      refine xi_bipush (v := 96) C dX6_counts_33 (by decide) ?_
      refine xi_iload_n C dX6_counts_35 rfl 2 rfl ?_
      refine xi_iadd C dX6_counts_36 ?_
      obtain ⟨v6, e7, h⟩ := ob_i h
      refine xi_iald C dX6_counts_37 4 0 rfl rfl e7 ?_
      refine xi_icmp_ge (tgt := 81) C dX6_counts_38 (by decide) (fun c8 => ?_) (fun c8 => ?_)
      · have h := it_i c8 h
        exact xb_lv (hk hld_31 h) [0, 1, 2] rfl
      · have h := ie_i c8 h
        refine xi_sipush (v := 168) C dX6_counts_41 (by decide) ?_
        refine xi_bipush (v := 24) C dX6_counts_44 (by decide) ?_
        refine xi_iload_n C dX6_counts_46 rfl 2 rfl ?_
        refine xi_imul C dX6_counts_47 ?_
        refine xi_iadd C dX6_counts_48 ?_
        refine xi_iload_n C dX6_counts_49 rfl 3 rfl ?_
        refine xi_iadd C dX6_counts_50 ?_
        refine xi_istore (lv2 := [(0, .ref o0), (1, .ref q), (2, .int x2_31), (3, .int x3_31), (4, .int ((168 + (24 * x2_31)) + x3_31))]) C dX6_counts_51 (by decide) [0, 1, 2, 3] [1, 2, 3, 4, 0] rfl ?_
        refine xi_aload_n C dX6_counts_53 rfl 0 rfl ?_
        refine xi_get C dX6_counts_54 iw_X6_counts_6 0 rfl rfl 8 (by decide) fl_X6_counts_26 rfl ?_
        refine xi_aload_n C dX6_counts_57 rfl 1 rfl ?_
        refine xi_iload C dX6_counts_58 4 rfl ?_
        refine xi_iconst (v := 1) C dX6_counts_60 (by decide) ?_
        refine xi_isub C dX6_counts_61 ?_
        obtain ⟨v9, e10, h⟩ := ob_i h
        refine xi_iald C dX6_counts_62 4 0 rfl rfl e10 ?_
        refine xi_aload_n C dX6_counts_63 rfl 1 rfl ?_
        refine xi_iload C dX6_counts_64 4 rfl ?_
        obtain ⟨v11, e12, h⟩ := ob_i h
        refine xi_iald C dX6_counts_66 4 0 rfl rfl e12 ?_
        obtain ⟨v13, e14, h⟩ := ob_i h
        refine xi_callS (As := [.int v9, .int v11]) (o := some (.int v13)) (rest := [.ref (ma 5)]) (w2 := (wMo o0 ma st ik le sp nu ++ wAr cI (ma 5) 48 hld_31 ++ wAr cI (ma 6) 24 far ++ wAr cZ (ma 7) 72 don ++ wAr cI q 1898 rr)) (st2 := [.int v13, .ref (ma 5)]) C k_X6_segment (m_X6_segment D cI cC cZ cR v9 v11 v13 e14) gX6_counts_X6_segment dX6_counts_67 ⟨Nat.le_of_ble_eq_true rfl, Nat.le_of_ble_eq_true rfl, Nat.le_of_ble_eq_true rfl⟩ [] rfl rfl [0, 1, 2, 3] rfl rfl rfl rfl (Nat.le_of_ble_eq_true rfl) ⟨Nat.zero_le _, Nat.zero_le _⟩ rfl ?_
        refine xi_dup2 C dX6_counts_70 rfl rfl ?_
        obtain ⟨v15, e16, h⟩ := ob_i h
        refine xi_iald C dX6_counts_71 1 0 rfl rfl e16 ?_
        refine xi_iconst (v := 1) C dX6_counts_72 (by decide) ?_
        refine xi_iadd C dX6_counts_73 ?_
        obtain ⟨hld18, e17, h⟩ := ob_i h
        refine xi_iast (w2 := (wMo o0 ma st ik le sp nu ++ wAr cI (ma 5) 48 hld18 ++ wAr cI (ma 6) 24 far ++ wAr cZ (ma 7) 72 don ++ wAr cI q 1898 rr)) C dX6_counts_74 1 0 rfl rfl e17 rfl ?_
        refine xi_iinc (v := x3_31 + 1) (lv2 := [(0, .ref o0), (1, .ref q), (2, .int x2_31), (3, .int (x3_31 + 1)), (4, .int ((168 + (24 * x2_31)) + x3_31))]) C dX6_counts_75 3 rfl (by rfl) (by decide) [0, 1, 2, 4] [1, 2, 3, 0, 4] rfl ?_
        refine xi_goto (tgt := 31) C dX6_counts_78 (by decide) ?_
        exact xb_lv (ih (x3_31 + 1) hld18 h hk) [0, 1, 2, 3] rfl
  have lp23 : ∀ (k : (Nat → Int32) → Option ((Nat → Int32))) (n : Nat) (x2_23 : Int32) (hld_23 : Nat → Int32), f_X6_counts_23 rr k n x2_23 hld_23 = some hld' → (∀ (hld_23e : Nat → Int32), k hld_23e = some hld' → xb_G X 0 0 (wMo o0 ma st ik le sp nu ++ wAr cI (ma 5) 48 hld_23e ++ wAr cI (ma 6) 24 far ++ wAr cZ (ma 7) 72 don ++ wAr cI q 1898 rr) [] 87 []) → xb_G X 0 0 (wMo o0 ma st ik le sp nu ++ wAr cI (ma 5) 48 hld_23 ++ wAr cI (ma 6) 24 far ++ wAr cZ (ma 7) 72 don ++ wAr cI q 1898 rr) [(0, .ref o0), (1, .ref q), (2, .int x2_23)] 23 [] := by
    intro k n
    induction n with
    | zero => intro x2_23 hld_23 h hk; unfold f_X6_counts_23 at h; cases h
    | succ n ih =>
      intro x2_23 hld_23 h hk
      unfold f_X6_counts_23 at h
      refine xi_iload_n C dX6_counts_23 rfl 2 rfl ?_
      refine xi_bipush (v := 72) C dX6_counts_24 (by decide) ?_
      refine xi_icmp_ge (tgt := 87) C dX6_counts_26 (by decide) (fun c5 => ?_) (fun c5 => ?_)
      · have h := it_i c5 h
        exact xb_lv (hk hld_23 h) [] rfl
      · have h := ie_i c5 h
        refine xi_iconst (v := 1) C dX6_counts_29 (by decide) ?_
        refine xi_istore_n (lv2 := [(0, .ref o0), (1, .ref q), (2, .int x2_23), (3, .int 1)]) C dX6_counts_30 rfl (by decide) [0, 1, 2] [1, 2, 3, 0] rfl ?_
        refine xb_lv (lp31 x2_23 _ xFu 1 hld_23 h (fun hldz19 h => ?_)) [0, 1, 2, 3] rfl
        refine xi_iinc (v := x2_23 + 1) (lv2 := [(0, .ref o0), (1, .ref q), (2, .int (x2_23 + 1))]) C dX6_counts_81 2 rfl (by rfl) (by decide) [0, 1] [1, 2, 0] rfl ?_
        refine xi_goto (tgt := 23) C dX6_counts_84 (by decide) ?_
        exact xb_lv (ih (x2_23 + 1) hldz19 h hk) [0, 1, 2] rfl
  have lp2 : ∀ (k : (Nat → Int32) → Option ((Nat → Int32))) (n : Nat) (x2_2 : Int32) (hld_2 : Nat → Int32), f_X6_counts_2 k n x2_2 hld_2 = some hld' → (∀ (hld_2e : Nat → Int32), k hld_2e = some hld' → xb_G X 0 0 (wMo o0 ma st ik le sp nu ++ wAr cI (ma 5) 48 hld_2e ++ wAr cI (ma 6) 24 far ++ wAr cZ (ma 7) 72 don ++ wAr cI q 1898 rr) [(0, .ref o0), (1, .ref q)] 21 []) → xb_G X 0 0 (wMo o0 ma st ik le sp nu ++ wAr cI (ma 5) 48 hld_2 ++ wAr cI (ma 6) 24 far ++ wAr cZ (ma 7) 72 don ++ wAr cI q 1898 rr) [(0, .ref o0), (1, .ref q), (2, .int x2_2)] 2 [] := by
    intro k n
    induction n with
    | zero => intro x2_2 hld_2 h hk; unfold f_X6_counts_2 at h; cases h
    | succ n ih =>
      intro x2_2 hld_2 h hk
      unfold f_X6_counts_2 at h
      refine xi_iload_n C dX6_counts_2 rfl 2 rfl ?_
      refine xi_bipush (v := 48) C dX6_counts_3 (by decide) ?_
      refine xi_icmp_ge (tgt := 21) C dX6_counts_5 (by decide) (fun c1 => ?_) (fun c1 => ?_)
      · have h := it_i c1 h
        exact xb_lv (hk hld_2 h) [0, 1] rfl
      · have h := ie_i c1 h
        refine xi_aload_n C dX6_counts_8 rfl 0 rfl ?_
        refine xi_get C dX6_counts_9 iw_X6_counts_6 0 rfl rfl 8 (by decide) fl_X6_counts_26 rfl ?_
        refine xi_iload_n C dX6_counts_12 rfl 2 rfl ?_
        refine xi_iconst (v := 0) C dX6_counts_13 (by decide) ?_
        obtain ⟨hld3, e2, h⟩ := ob_i h
        refine xi_iast (w2 := (wMo o0 ma st ik le sp nu ++ wAr cI (ma 5) 48 hld3 ++ wAr cI (ma 6) 24 far ++ wAr cZ (ma 7) 72 don ++ wAr cI q 1898 rr)) C dX6_counts_14 1 0 rfl rfl e2 rfl ?_
        refine xi_iinc (v := x2_2 + 1) (lv2 := [(0, .ref o0), (1, .ref q), (2, .int (x2_2 + 1))]) C dX6_counts_15 2 rfl (by rfl) (by decide) [0, 1] [1, 2, 0] rfl ?_
        refine xi_goto (tgt := 2) C dX6_counts_18 (by decide) ?_
        exact xb_lv (ih (x2_2 + 1) hld3 h hk) [0, 1, 2] rfl
  unfold f_X6_counts at h
  refine xi_iconst (v := 0) C dX6_counts_0 (by decide) ?_
  refine xi_istore_n (lv2 := [(0, .ref o0), (1, .ref q), (2, .int 0)]) C dX6_counts_1 rfl (by decide) [0, 1] [1, 2, 0] rfl ?_
  refine xb_lv (lp2 _ xFu 0 hld h (fun hldz4 h => ?_)) [0, 1, 2] rfl
  refine xi_iconst (v := 0) C dX6_counts_21 (by decide) ?_
  refine xi_istore_n (lv2 := [(0, .ref o0), (1, .ref q), (2, .int 0)]) C dX6_counts_22 rfl (by decide) [0, 1] [1, 2, 0] rfl ?_
  refine xb_lv (lp23 _ xFu 0 hldz4 h (fun hldz20 h => ?_)) [0, 1, 2] rfl
  have w0 := Option.some.inj h
  subst w0
  exact xi_ret C Z dX6_counts_87
def f_X6_mostHeld_4 (hld : Nat → Int32) (k : Int32 → Option (Int32)) : Nat → Int32 → Int32 → Option (Int32)
  | 0, _, _ => none
  | n + 1, x1_4, x2_4 =>
    if 48 ≤ x2_4 then
      k x1_4
    else
      (xr_d hld 48 x2_4).bind fun v2 =>
      if v2 ≤ x1_4 then
        f_X6_mostHeld_4 hld k n x1_4 (x2_4 + 1)
      else
        (xr_d hld 48 x2_4).bind fun v5 =>
        f_X6_mostHeld_4 hld k n v5 (x2_4 + 1)
def f_X6_mostHeld (hld : Nat → Int32) : Option (Int32) :=
  f_X6_mostHeld_4 hld (fun x1z7 =>
    some x1z7) xFu 0 0
theorem k_X6_mostHeld : xb_Y yX6_mostHeld cX6_mostHeld wsX6_mostHeld 3 (some .int) { frames := 0, cells := 0, slots := 0, locals := 0 } 0 := ⟨⟨_, rfl⟩, by decide, ⟨by decide, by decide, by decide +kernel⟩, rfl, rfl⟩
theorem fl_X6_mostHeld_26 : Cond.fieldLink RX6 26 "LookupBoardModel" "held" "[I" ∈ wsX6_mostHeld := List.mem_of_getElem? (i := 1) rfl
theorem iw_X6_mostHeld_6 : ∀ w ∈ wsX60, w ∈ wsX6_mostHeld := fun w h => List.mem_cons_of_mem _ (List.mem_append_right _ h)
set_option maxHeartbeats 4000000 in
set_option maxRecDepth 100000 in
theorem m_X6_mostHeld (D : va_G) (cI cC cZ cR : ClassId) (o0 : Nat) (ma : Nat → Nat) (st : Int32) (ik : Int32) (le : Int32) (sp : Int32) (nu : Int32) (now : Nat → Int32) (thn : Nat → Int32) (pst : Nat → Int32) (snp : Nat → Int32) (txt : Nat → Int32) (hld : Nat → Int32) (far : Nat → Int32) (don : Nat → Int32) (tld : Nat → Int32) (dep : Nat → Int32) (bit : Nat → Int32) (r : Int32) (h : f_X6_mostHeld hld = some r) : xb_M cX6_mostHeld wsX6_mostHeld RX6 { frames := 0, cells := 0, slots := 0, locals := 0 } (some .int) 3 (xb_ty cI cC cZ cR) D [.ref o0] (wMo o0 ma st ik le sp nu ++ wAr cI (ma 0) 1898 now ++ wAr cI (ma 1) 1898 thn ++ wAr cI (ma 2) 7592 pst ++ wAr cI (ma 3) 1898 snp ++ wAr cC (ma 4) 80 txt ++ wAr cI (ma 5) 48 hld ++ wAr cI (ma 6) 24 far ++ wAr cZ (ma 7) 72 don ++ wAr cI (ma 8) 96 tld ++ wAr cI (ma 9) 24 dep ++ wAr cI (ma 10) 24 bit) (some (.int r)) (wMo o0 ma st ik le sp nu ++ wAr cI (ma 0) 1898 now ++ wAr cI (ma 1) 1898 thn ++ wAr cI (ma 2) 7592 pst ++ wAr cI (ma 3) 1898 snp ++ wAr cC (ma 4) 80 txt ++ wAr cI (ma 5) 48 hld ++ wAr cI (ma 6) 24 far ++ wAr cZ (ma 7) 72 don ++ wAr cI (ma 8) 96 tld ++ wAr cI (ma 9) 24 dep ++ wAr cI (ma 10) 24 bit) := by
  intro X C Z
  show xb_G X 0 0 (wMo o0 ma st ik le sp nu ++ wAr cI (ma 0) 1898 now ++ wAr cI (ma 1) 1898 thn ++ wAr cI (ma 2) 7592 pst ++ wAr cI (ma 3) 1898 snp ++ wAr cC (ma 4) 80 txt ++ wAr cI (ma 5) 48 hld ++ wAr cI (ma 6) 24 far ++ wAr cZ (ma 7) 72 don ++ wAr cI (ma 8) 96 tld ++ wAr cI (ma 9) 24 dep ++ wAr cI (ma 10) 24 bit) [(0, .ref o0)] 0 []
  have lp4 : ∀ (k : Int32 → Option (Int32)) (n : Nat) (x1_4 : Int32) (x2_4 : Int32), f_X6_mostHeld_4 hld k n x1_4 x2_4 = some r → (∀ (x1_4e : Int32), k x1_4e = some r → xb_G X 0 0 (wMo o0 ma st ik le sp nu ++ wAr cI (ma 0) 1898 now ++ wAr cI (ma 1) 1898 thn ++ wAr cI (ma 2) 7592 pst ++ wAr cI (ma 3) 1898 snp ++ wAr cC (ma 4) 80 txt ++ wAr cI (ma 5) 48 hld ++ wAr cI (ma 6) 24 far ++ wAr cZ (ma 7) 72 don ++ wAr cI (ma 8) 96 tld ++ wAr cI (ma 9) 24 dep ++ wAr cI (ma 10) 24 bit) [(1, .int x1_4e)] 37 []) → xb_G X 0 0 (wMo o0 ma st ik le sp nu ++ wAr cI (ma 0) 1898 now ++ wAr cI (ma 1) 1898 thn ++ wAr cI (ma 2) 7592 pst ++ wAr cI (ma 3) 1898 snp ++ wAr cC (ma 4) 80 txt ++ wAr cI (ma 5) 48 hld ++ wAr cI (ma 6) 24 far ++ wAr cZ (ma 7) 72 don ++ wAr cI (ma 8) 96 tld ++ wAr cI (ma 9) 24 dep ++ wAr cI (ma 10) 24 bit) [(0, .ref o0), (1, .int x1_4), (2, .int x2_4)] 4 [] := by
    intro k n
    induction n with
    | zero => intro x1_4 x2_4 h hk; unfold f_X6_mostHeld_4 at h; cases h
    | succ n ih =>
      intro x1_4 x2_4 h hk
      unfold f_X6_mostHeld_4 at h
      refine xi_iload_n C dX6_mostHeld_4 rfl 2 rfl ?_
      refine xi_bipush (v := 48) C dX6_mostHeld_5 (by decide) ?_
      refine xi_icmp_ge (tgt := 37) C dX6_mostHeld_7 (by decide) (fun c1 => ?_) (fun c1 => ?_)
      · have h := it_i c1 h
        exact xb_lv (hk x1_4 h) [1] rfl
      · have h := ie_i c1 h
        refine xi_aload_n C dX6_mostHeld_10 rfl 0 rfl ?_
        refine xi_get C dX6_mostHeld_11 iw_X6_mostHeld_6 0 rfl rfl 8 (by decide) fl_X6_mostHeld_26 rfl ?_
        refine xi_iload_n C dX6_mostHeld_14 rfl 2 rfl ?_
        obtain ⟨v2, e3, h⟩ := ob_i h
        refine xi_iald C dX6_mostHeld_15 6 0 rfl rfl e3 ?_
        refine xi_iload_n C dX6_mostHeld_16 rfl 1 rfl ?_
        refine xi_icmp_le (tgt := 29) C dX6_mostHeld_17 (by decide) (fun c4 => ?_) (fun c4 => ?_)
        · have h := it_i c4 h
          refine xi_iload_n C dX6_mostHeld_29 rfl 1 rfl ?_
          refine xi_istore_n (lv2 := [(0, .ref o0), (1, .int x1_4), (2, .int x2_4)]) C dX6_mostHeld_30 rfl (by decide) [0, 2] [1, 0, 2] rfl ?_
          refine xi_iinc (v := x2_4 + 1) (lv2 := [(0, .ref o0), (1, .int x1_4), (2, .int (x2_4 + 1))]) C dX6_mostHeld_31 2 rfl (by rfl) (by decide) [0, 1] [1, 2, 0] rfl ?_
          refine xi_goto (tgt := 4) C dX6_mostHeld_34 (by decide) ?_
          exact xb_lv (ih x1_4 (x2_4 + 1) h hk) [0, 1, 2] rfl
        · have h := ie_i c4 h
          refine xi_aload_n C dX6_mostHeld_20 rfl 0 rfl ?_
          refine xi_get C dX6_mostHeld_21 iw_X6_mostHeld_6 0 rfl rfl 8 (by decide) fl_X6_mostHeld_26 rfl ?_
          refine xi_iload_n C dX6_mostHeld_24 rfl 2 rfl ?_
          obtain ⟨v5, e6, h⟩ := ob_i h
          refine xi_iald C dX6_mostHeld_25 6 0 rfl rfl e6 ?_
          refine xi_goto (tgt := 30) C dX6_mostHeld_26 (by decide) ?_
          refine xi_istore_n (lv2 := [(0, .ref o0), (1, .int v5), (2, .int x2_4)]) C dX6_mostHeld_30 rfl (by decide) [0, 2] [1, 0, 2] rfl ?_
          refine xi_iinc (v := x2_4 + 1) (lv2 := [(0, .ref o0), (1, .int v5), (2, .int (x2_4 + 1))]) C dX6_mostHeld_31 2 rfl (by rfl) (by decide) [0, 1] [1, 2, 0] rfl ?_
          refine xi_goto (tgt := 4) C dX6_mostHeld_34 (by decide) ?_
          exact xb_lv (ih v5 (x2_4 + 1) h hk) [0, 1, 2] rfl
  unfold f_X6_mostHeld at h
  refine xi_iconst (v := 0) C dX6_mostHeld_0 (by decide) ?_
  refine xi_istore_n (lv2 := [(0, .ref o0), (1, .int 0)]) C dX6_mostHeld_1 rfl (by decide) [0] [1, 0] rfl ?_
  refine xi_iconst (v := 0) C dX6_mostHeld_2 (by decide) ?_
  refine xi_istore_n (lv2 := [(0, .ref o0), (1, .int 0), (2, .int 0)]) C dX6_mostHeld_3 rfl (by decide) [0, 1] [1, 2, 0] rfl ?_
  refine xb_lv (lp4 _ xFu 0 0 h (fun x1z7 h => ?_)) [0, 1, 2] rfl
  refine xi_iload_n C dX6_mostHeld_37 rfl 0 rfl ?_
  have w0 := Option.some.inj h
  subst w0
  exact xi_iret C Z dX6_mostHeld_38
def f_X6_cost (hld : Nat → Int32) (rr : Nat → Int32) (p2 : Int32) (p3 : Int32) : Option (Int32) :=
  (f_X6_segment p2 p3).bind fun v1 =>
  (xr_d hld 48 v1).bind fun v3 =>
  (xr_d rr 1898 1896).bind fun v5 =>
  if v3 < v5 then
    (xr_d rr 1898 1897).bind fun v8 =>
    some (1 + (v3 * v8))
  else
    some 1000000
theorem k_X6_cost : xb_Y yX6_cost cX6_cost wsX6_cost 5 (some .int) { frames := 1, cells := 0, slots := 0, locals := 23 } 3 := ⟨⟨_, rfl⟩, by decide, ⟨by decide, by decide, by decide +kernel⟩, rfl, rfl⟩
theorem fl_X6_cost_26 : Cond.fieldLink RX6 26 "LookupBoardModel" "held" "[I" ∈ wsX6_cost := List.mem_of_getElem? (i := 1) rfl
theorem iw_X6_cost_6 : ∀ w ∈ wsX60, w ∈ wsX6_cost := fun w h => List.mem_cons_of_mem _ (List.mem_append_right _ h)
set_option maxHeartbeats 4000000 in
set_option maxRecDepth 100000 in
theorem m_X6_cost (D : va_G) (cI cC cZ cR : ClassId) (o0 : Nat) (ma : Nat → Nat) (q : Nat) (st : Int32) (ik : Int32) (le : Int32) (sp : Int32) (nu : Int32) (hld : Nat → Int32) (far : Nat → Int32) (don : Nat → Int32) (rr : Nat → Int32) (p2 : Int32) (p3 : Int32) (r : Int32) (h : f_X6_cost hld rr p2 p3 = some r) : xb_M cX6_cost wsX6_cost RX6 { frames := 1, cells := 0, slots := 0, locals := 23 } (some .int) 5 (xb_ty cI cC cZ cR) D [.ref o0, .ref q, .int p2, .int p3] (wMo o0 ma st ik le sp nu ++ wAr cI (ma 5) 48 hld ++ wAr cI (ma 6) 24 far ++ wAr cZ (ma 7) 72 don ++ wAr cI q 1898 rr) (some (.int r)) (wMo o0 ma st ik le sp nu ++ wAr cI (ma 5) 48 hld ++ wAr cI (ma 6) 24 far ++ wAr cZ (ma 7) 72 don ++ wAr cI q 1898 rr) := by
  intro X C Z
  show xb_G X 0 0 (wMo o0 ma st ik le sp nu ++ wAr cI (ma 5) 48 hld ++ wAr cI (ma 6) 24 far ++ wAr cZ (ma 7) 72 don ++ wAr cI q 1898 rr) [(0, .ref o0), (1, .ref q), (2, .int p2), (3, .int p3)] 0 []
  unfold f_X6_cost at h
  refine xi_aload_n C dX6_cost_0 rfl 0 rfl ?_
  refine xi_get C dX6_cost_1 iw_X6_cost_6 0 rfl rfl 8 (by decide) fl_X6_cost_26 rfl ?_
  refine xi_iload_n C dX6_cost_4 rfl 2 rfl ?_
  refine xi_iload_n C dX6_cost_5 rfl 3 rfl ?_
  obtain ⟨v1, e2, h⟩ := ob_i h
  refine xi_callS (As := [.int p2, .int p3]) (o := some (.int v1)) (rest := [.ref (ma 5)]) (w2 := (wMo o0 ma st ik le sp nu ++ wAr cI (ma 5) 48 hld ++ wAr cI (ma 6) 24 far ++ wAr cZ (ma 7) 72 don ++ wAr cI q 1898 rr)) (st2 := [.int v1, .ref (ma 5)]) C k_X6_segment (m_X6_segment D cI cC cZ cR p2 p3 v1 e2) gX6_cost_X6_segment dX6_cost_6 ⟨Nat.le_of_ble_eq_true rfl, Nat.le_of_ble_eq_true rfl, Nat.le_of_ble_eq_true rfl⟩ [] rfl rfl [0, 1, 2, 3] rfl rfl rfl rfl (Nat.le_of_ble_eq_true rfl) ⟨Nat.zero_le _, Nat.zero_le _⟩ rfl ?_
  obtain ⟨v3, e4, h⟩ := ob_i h
  refine xi_iald C dX6_cost_9 1 0 rfl rfl e4 ?_
  refine xi_istore (lv2 := [(0, .ref o0), (1, .ref q), (2, .int p2), (3, .int p3), (4, .int v3)]) C dX6_cost_10 (by decide) [0, 1, 2, 3] [1, 2, 3, 4, 0] rfl ?_
  refine xi_iload C dX6_cost_12 4 rfl ?_
  refine xi_aload_n C dX6_cost_14 rfl 1 rfl ?_
  refine xi_sipush (v := 1896) C dX6_cost_15 (by decide) ?_
  obtain ⟨v5, e6, h⟩ := ob_i h
  refine xi_iald C dX6_cost_18 4 0 rfl rfl e6 ?_
  refine xi_icmp_lt (tgt := 27) C dX6_cost_19 (by decide) (fun c7 => ?_) (fun c7 => ?_)
  · have h := it_i c7 h
    refine xi_iconst (v := 1) C dX6_cost_27 (by decide) ?_
    refine xi_iload C dX6_cost_28 4 rfl ?_
    refine xi_aload_n C dX6_cost_30 rfl 1 rfl ?_
    refine xi_sipush (v := 1897) C dX6_cost_31 (by decide) ?_
    obtain ⟨v8, e9, h⟩ := ob_i h
    refine xi_iald C dX6_cost_34 4 0 rfl rfl e9 ?_
    refine xi_imul C dX6_cost_35 ?_
    refine xi_iadd C dX6_cost_36 ?_
    have w0 := Option.some.inj h
    subst w0
    exact xi_iret C Z dX6_cost_37
  · have h := ie_i c7 h
    refine xi_ldc (v := 1000000) C dX6_cost_22 (List.mem_of_getElem? (i := 2) rfl) ?_
    refine xi_goto (tgt := 37) C dX6_cost_24 (by decide) ?_
    have w0 := Option.some.inj h
    subst w0
    exact xi_iret C Z dX6_cost_37
def f_X6_beside (p0 : Int32) (p1 : Int32) : Option (Int32) :=
  if p1 = 0 then
    (f_X6_isPlace (p0 + (-6))).bind fun v22 =>
    if v22 = 0 then
      some (-5)
    else
      (f_X6_areBeside p0 (p0 + (-6))).bind fun v25 =>
      if v25 = 0 then
        some (-5)
      else
        some (p0 + (-6))
  else
    if p1 = 1 then
      (f_X6_isPlace (p0 + (-1))).bind fun v16 =>
      if v16 = 0 then
        some (-5)
      else
        (f_X6_areBeside p0 (p0 + (-1))).bind fun v19 =>
        if v19 = 0 then
          some (-5)
        else
          some (p0 + (-1))
    else
      if p1 = 2 then
        (f_X6_isPlace (p0 + 1)).bind fun v10 =>
        if v10 = 0 then
          some (-5)
        else
          (f_X6_areBeside p0 (p0 + 1)).bind fun v13 =>
          if v13 = 0 then
            some (-5)
          else
            some (p0 + 1)
      else
        (f_X6_isPlace (p0 + 6)).bind fun v4 =>
        if v4 = 0 then
          some (-5)
        else
          (f_X6_areBeside p0 (p0 + 6)).bind fun v7 =>
          if v7 = 0 then
            some (-5)
          else
            some (p0 + 6)
theorem k_X6_beside : xb_Y yX6_beside cX6_beside wsX6_beside 3 (some .int) { frames := 2, cells := 0, slots := 0, locals := 42 } 2 := ⟨⟨_, rfl⟩, by decide, ⟨by decide, by decide, by decide +kernel⟩, rfl, rfl⟩
set_option maxHeartbeats 4000000 in
set_option maxRecDepth 100000 in
theorem m_X6_beside (D : va_G) (cI cC cZ cR : ClassId) (p0 : Int32) (p1 : Int32) (r : Int32) (h : f_X6_beside p0 p1 = some r) : xb_M cX6_beside wsX6_beside RX6 { frames := 2, cells := 0, slots := 0, locals := 42 } (some .int) 3 (xb_ty cI cC cZ cR) D [.int p0, .int p1] ([] : va_W) (some (.int r)) ([] : va_W) := by
  intro X C Z
  show xb_G X 0 0 ([] : va_W) [(0, .int p0), (1, .int p1)] 0 []
  unfold f_X6_beside at h
  refine xi_iload_n C dX6_beside_0 rfl 0 rfl ?_
  refine xi_iload_n C dX6_beside_1 rfl 1 rfl ?_
  refine xi_if_ne (tgt := 10) C dX6_beside_2 (by decide) (fun c1 => ?_) (fun c1 => ?_)
  · have h := ie_i c1 h
    refine xi_iload_n C dX6_beside_10 rfl 1 rfl ?_
    refine xi_iconst (v := 1) C dX6_beside_11 (by decide) ?_
    refine xi_icmp_ne (tgt := 19) C dX6_beside_12 (by decide) (fun c2 => ?_) (fun c2 => ?_)
    · have h := ie_i c2 h
      refine xi_iload_n C dX6_beside_19 rfl 1 rfl ?_
      refine xi_iconst (v := 2) C dX6_beside_20 (by decide) ?_
      refine xi_icmp_ne (tgt := 28) C dX6_beside_21 (by decide) (fun c3 => ?_) (fun c3 => ?_)
      · have h := ie_i c3 h
        refine xi_bipush (v := 6) C dX6_beside_28 (by decide) ?_
        refine xi_iadd C dX6_beside_30 ?_
        refine xi_istore_n (lv2 := [(0, .int p0), (1, .int p1), (2, .int (p0 + 6))]) C dX6_beside_31 rfl (by decide) [0, 1] [1, 2, 0] rfl ?_
        refine xi_iload_n C dX6_beside_32 rfl 2 rfl ?_
        obtain ⟨v4, e5, h⟩ := ob_i h
        refine xi_callS (As := [.int (p0 + 6)]) (o := some (.int v4)) (rest := []) (w2 := ([] : va_W)) (st2 := [.int v4]) C k_X6_isPlace (m_X6_isPlace D cI cC cZ cR (p0 + 6) v4 e5) gX6_beside_X6_isPlace dX6_beside_33 ⟨Nat.le_of_ble_eq_true rfl, Nat.le_of_ble_eq_true rfl, Nat.le_of_ble_eq_true rfl⟩ [] rfl rfl [0, 1, 2, 3] rfl rfl rfl rfl (Nat.le_of_ble_eq_true rfl) ⟨Nat.zero_le _, Nat.zero_le _⟩ rfl ?_
        refine xi_if_eq (tgt := 51) C dX6_beside_36 (by decide) (fun c6 => ?_) (fun c6 => ?_)
        · have h := it_i c6 h
          refine xi_bipush (v := (-5)) C dX6_beside_51 (by decide) ?_
          have w0 := Option.some.inj h
          subst w0
          exact xi_iret C Z dX6_beside_53
        · have h := ie_i c6 h
          refine xi_iload_n C dX6_beside_39 rfl 0 rfl ?_
          refine xi_iload_n C dX6_beside_40 rfl 2 rfl ?_
          obtain ⟨v7, e8, h⟩ := ob_i h
          refine xi_callS (As := [.int p0, .int (p0 + 6)]) (o := some (.int v7)) (rest := []) (w2 := ([] : va_W)) (st2 := [.int v7]) C k_X6_areBeside (m_X6_areBeside D cI cC cZ cR p0 (p0 + 6) v7 e8) gX6_beside_X6_areBeside dX6_beside_41 ⟨Nat.le_of_ble_eq_true rfl, Nat.le_of_ble_eq_true rfl, Nat.le_of_ble_eq_true rfl⟩ [] rfl rfl [0, 1, 2, 3] rfl rfl rfl rfl (Nat.le_of_ble_eq_true rfl) ⟨Nat.zero_le _, Nat.zero_le _⟩ rfl ?_
          refine xi_if_eq (tgt := 51) C dX6_beside_44 (by decide) (fun c9 => ?_) (fun c9 => ?_)
          · have h := it_i c9 h
            refine xi_bipush (v := (-5)) C dX6_beside_51 (by decide) ?_
            have w0 := Option.some.inj h
            subst w0
            exact xi_iret C Z dX6_beside_53
          · have h := ie_i c9 h
            refine xi_iload_n C dX6_beside_47 rfl 2 rfl ?_
            refine xi_goto (tgt := 53) C dX6_beside_48 (by decide) ?_
            have w0 := Option.some.inj h
            subst w0
            exact xi_iret C Z dX6_beside_53
      · have h := it_i c3 h
        refine xi_iconst (v := 1) C dX6_beside_24 (by decide) ?_
        refine xi_goto (tgt := 30) C dX6_beside_25 (by decide) ?_
        refine xi_iadd C dX6_beside_30 ?_
        refine xi_istore_n (lv2 := [(0, .int p0), (1, .int p1), (2, .int (p0 + 1))]) C dX6_beside_31 rfl (by decide) [0, 1] [1, 2, 0] rfl ?_
        refine xi_iload_n C dX6_beside_32 rfl 2 rfl ?_
        obtain ⟨v10, e11, h⟩ := ob_i h
        refine xi_callS (As := [.int (p0 + 1)]) (o := some (.int v10)) (rest := []) (w2 := ([] : va_W)) (st2 := [.int v10]) C k_X6_isPlace (m_X6_isPlace D cI cC cZ cR (p0 + 1) v10 e11) gX6_beside_X6_isPlace dX6_beside_33 ⟨Nat.le_of_ble_eq_true rfl, Nat.le_of_ble_eq_true rfl, Nat.le_of_ble_eq_true rfl⟩ [] rfl rfl [0, 1, 2, 3] rfl rfl rfl rfl (Nat.le_of_ble_eq_true rfl) ⟨Nat.zero_le _, Nat.zero_le _⟩ rfl ?_
        refine xi_if_eq (tgt := 51) C dX6_beside_36 (by decide) (fun c12 => ?_) (fun c12 => ?_)
        · have h := it_i c12 h
          refine xi_bipush (v := (-5)) C dX6_beside_51 (by decide) ?_
          have w0 := Option.some.inj h
          subst w0
          exact xi_iret C Z dX6_beside_53
        · have h := ie_i c12 h
          refine xi_iload_n C dX6_beside_39 rfl 0 rfl ?_
          refine xi_iload_n C dX6_beside_40 rfl 2 rfl ?_
          obtain ⟨v13, e14, h⟩ := ob_i h
          refine xi_callS (As := [.int p0, .int (p0 + 1)]) (o := some (.int v13)) (rest := []) (w2 := ([] : va_W)) (st2 := [.int v13]) C k_X6_areBeside (m_X6_areBeside D cI cC cZ cR p0 (p0 + 1) v13 e14) gX6_beside_X6_areBeside dX6_beside_41 ⟨Nat.le_of_ble_eq_true rfl, Nat.le_of_ble_eq_true rfl, Nat.le_of_ble_eq_true rfl⟩ [] rfl rfl [0, 1, 2, 3] rfl rfl rfl rfl (Nat.le_of_ble_eq_true rfl) ⟨Nat.zero_le _, Nat.zero_le _⟩ rfl ?_
          refine xi_if_eq (tgt := 51) C dX6_beside_44 (by decide) (fun c15 => ?_) (fun c15 => ?_)
          · have h := it_i c15 h
            refine xi_bipush (v := (-5)) C dX6_beside_51 (by decide) ?_
            have w0 := Option.some.inj h
            subst w0
            exact xi_iret C Z dX6_beside_53
          · have h := ie_i c15 h
            refine xi_iload_n C dX6_beside_47 rfl 2 rfl ?_
            refine xi_goto (tgt := 53) C dX6_beside_48 (by decide) ?_
            have w0 := Option.some.inj h
            subst w0
            exact xi_iret C Z dX6_beside_53
    · have h := it_i c2 h
      refine xi_iconst (v := (-1)) C dX6_beside_15 (by decide) ?_
      refine xi_goto (tgt := 30) C dX6_beside_16 (by decide) ?_
      refine xi_iadd C dX6_beside_30 ?_
      refine xi_istore_n (lv2 := [(0, .int p0), (1, .int p1), (2, .int (p0 + (-1)))]) C dX6_beside_31 rfl (by decide) [0, 1] [1, 2, 0] rfl ?_
      refine xi_iload_n C dX6_beside_32 rfl 2 rfl ?_
      obtain ⟨v16, e17, h⟩ := ob_i h
      refine xi_callS (As := [.int (p0 + (-1))]) (o := some (.int v16)) (rest := []) (w2 := ([] : va_W)) (st2 := [.int v16]) C k_X6_isPlace (m_X6_isPlace D cI cC cZ cR (p0 + (-1)) v16 e17) gX6_beside_X6_isPlace dX6_beside_33 ⟨Nat.le_of_ble_eq_true rfl, Nat.le_of_ble_eq_true rfl, Nat.le_of_ble_eq_true rfl⟩ [] rfl rfl [0, 1, 2, 3] rfl rfl rfl rfl (Nat.le_of_ble_eq_true rfl) ⟨Nat.zero_le _, Nat.zero_le _⟩ rfl ?_
      refine xi_if_eq (tgt := 51) C dX6_beside_36 (by decide) (fun c18 => ?_) (fun c18 => ?_)
      · have h := it_i c18 h
        refine xi_bipush (v := (-5)) C dX6_beside_51 (by decide) ?_
        have w0 := Option.some.inj h
        subst w0
        exact xi_iret C Z dX6_beside_53
      · have h := ie_i c18 h
        refine xi_iload_n C dX6_beside_39 rfl 0 rfl ?_
        refine xi_iload_n C dX6_beside_40 rfl 2 rfl ?_
        obtain ⟨v19, e20, h⟩ := ob_i h
        refine xi_callS (As := [.int p0, .int (p0 + (-1))]) (o := some (.int v19)) (rest := []) (w2 := ([] : va_W)) (st2 := [.int v19]) C k_X6_areBeside (m_X6_areBeside D cI cC cZ cR p0 (p0 + (-1)) v19 e20) gX6_beside_X6_areBeside dX6_beside_41 ⟨Nat.le_of_ble_eq_true rfl, Nat.le_of_ble_eq_true rfl, Nat.le_of_ble_eq_true rfl⟩ [] rfl rfl [0, 1, 2, 3] rfl rfl rfl rfl (Nat.le_of_ble_eq_true rfl) ⟨Nat.zero_le _, Nat.zero_le _⟩ rfl ?_
        refine xi_if_eq (tgt := 51) C dX6_beside_44 (by decide) (fun c21 => ?_) (fun c21 => ?_)
        · have h := it_i c21 h
          refine xi_bipush (v := (-5)) C dX6_beside_51 (by decide) ?_
          have w0 := Option.some.inj h
          subst w0
          exact xi_iret C Z dX6_beside_53
        · have h := ie_i c21 h
          refine xi_iload_n C dX6_beside_47 rfl 2 rfl ?_
          refine xi_goto (tgt := 53) C dX6_beside_48 (by decide) ?_
          have w0 := Option.some.inj h
          subst w0
          exact xi_iret C Z dX6_beside_53
  · have h := it_i c1 h
    refine xi_bipush (v := (-6)) C dX6_beside_5 (by decide) ?_
    refine xi_goto (tgt := 30) C dX6_beside_7 (by decide) ?_
    refine xi_iadd C dX6_beside_30 ?_
    refine xi_istore_n (lv2 := [(0, .int p0), (1, .int p1), (2, .int (p0 + (-6)))]) C dX6_beside_31 rfl (by decide) [0, 1] [1, 2, 0] rfl ?_
    refine xi_iload_n C dX6_beside_32 rfl 2 rfl ?_
    obtain ⟨v22, e23, h⟩ := ob_i h
    refine xi_callS (As := [.int (p0 + (-6))]) (o := some (.int v22)) (rest := []) (w2 := ([] : va_W)) (st2 := [.int v22]) C k_X6_isPlace (m_X6_isPlace D cI cC cZ cR (p0 + (-6)) v22 e23) gX6_beside_X6_isPlace dX6_beside_33 ⟨Nat.le_of_ble_eq_true rfl, Nat.le_of_ble_eq_true rfl, Nat.le_of_ble_eq_true rfl⟩ [] rfl rfl [0, 1, 2, 3] rfl rfl rfl rfl (Nat.le_of_ble_eq_true rfl) ⟨Nat.zero_le _, Nat.zero_le _⟩ rfl ?_
    refine xi_if_eq (tgt := 51) C dX6_beside_36 (by decide) (fun c24 => ?_) (fun c24 => ?_)
    · have h := it_i c24 h
      refine xi_bipush (v := (-5)) C dX6_beside_51 (by decide) ?_
      have w0 := Option.some.inj h
      subst w0
      exact xi_iret C Z dX6_beside_53
    · have h := ie_i c24 h
      refine xi_iload_n C dX6_beside_39 rfl 0 rfl ?_
      refine xi_iload_n C dX6_beside_40 rfl 2 rfl ?_
      obtain ⟨v25, e26, h⟩ := ob_i h
      refine xi_callS (As := [.int p0, .int (p0 + (-6))]) (o := some (.int v25)) (rest := []) (w2 := ([] : va_W)) (st2 := [.int v25]) C k_X6_areBeside (m_X6_areBeside D cI cC cZ cR p0 (p0 + (-6)) v25 e26) gX6_beside_X6_areBeside dX6_beside_41 ⟨Nat.le_of_ble_eq_true rfl, Nat.le_of_ble_eq_true rfl, Nat.le_of_ble_eq_true rfl⟩ [] rfl rfl [0, 1, 2, 3] rfl rfl rfl rfl (Nat.le_of_ble_eq_true rfl) ⟨Nat.zero_le _, Nat.zero_le _⟩ rfl ?_
      refine xi_if_eq (tgt := 51) C dX6_beside_44 (by decide) (fun c27 => ?_) (fun c27 => ?_)
      · have h := it_i c27 h
        refine xi_bipush (v := (-5)) C dX6_beside_51 (by decide) ?_
        have w0 := Option.some.inj h
        subst w0
        exact xi_iret C Z dX6_beside_53
      · have h := ie_i c27 h
        refine xi_iload_n C dX6_beside_47 rfl 2 rfl ?_
        refine xi_goto (tgt := 53) C dX6_beside_48 (by decide) ?_
        have w0 := Option.some.inj h
        subst w0
        exact xi_iret C Z dX6_beside_53
def f_X6_reaches_42 (hld : Nat → Int32) (rr : Nat → Int32) (k : Int32 → (Nat → Int32) → Option ((Nat → Int32))) : Nat → Int32 → Int32 → (Nat → Int32) → Option ((Nat → Int32))
  | 0, _, _, _ => none
  | n + 1, x3_42, x4_42, far_42 =>
    if 96 ≤ x4_42 then
      k x3_42 far_42
    else
      (f_X6_beside (x4_42 / 4) (x4_42 - x4_42 / 4 * 4)).bind fun v10 =>
      if v10 = (-5) then
        (xr_d far_42 24 (x4_42 / 4)).bind fun v22 =>
        if v22 ≤ 1000000 then
          f_X6_reaches_42 hld rr k n x3_42 (x4_42 + 1) far_42
        else
          (xr_w far_42 24 (x4_42 / 4) 1000000).bind fun far26 =>
          f_X6_reaches_42 hld rr k n 1 (x4_42 + 1) far26
      else
        (xr_d far_42 24 v10).bind fun v13 =>
        (f_X6_cost hld rr (x4_42 / 4) v10).bind fun v15 =>
        (xr_d far_42 24 (x4_42 / 4)).bind fun v17 =>
        if v17 ≤ (v13 + v15) then
          f_X6_reaches_42 hld rr k n x3_42 (x4_42 + 1) far_42
        else
          (xr_w far_42 24 (x4_42 / 4) (v13 + v15)).bind fun far21 =>
          f_X6_reaches_42 hld rr k n 1 (x4_42 + 1) far21
def f_X6_reaches_33 (hld : Nat → Int32) (rr : Nat → Int32) (k : (Nat → Int32) → Option ((Nat → Int32))) : Nat → Int32 → (Nat → Int32) → Option ((Nat → Int32))
  | 0, _, _ => none
  | n + 1, x3_33, far_33 =>
    if x3_33 = 0 then
      k far_33
    else
      f_X6_reaches_42 hld rr (fun x3z27 farz27 =>
        f_X6_reaches_33 hld rr k n x3z27 farz27) xFu 0 0 far_33
def f_X6_reaches_2 (x2_2 : Int32) (k : (Nat → Int32) → Option ((Nat → Int32))) : Nat → Int32 → (Nat → Int32) → Option ((Nat → Int32))
  | 0, _, _ => none
  | n + 1, x3_2, far_2 =>
    if 24 ≤ x3_2 then
      k far_2
    else
      if x3_2 = x2_2 then
        (xr_w far_2 24 x3_2 0).bind fun far6 =>
        f_X6_reaches_2 x2_2 k n (x3_2 + 1) far6
      else
        (xr_w far_2 24 x3_2 1000000).bind fun far4 =>
        f_X6_reaches_2 x2_2 k n (x3_2 + 1) far4
def f_X6_reaches (hld : Nat → Int32) (far : Nat → Int32) (rr : Nat → Int32) (p2 : Int32) : Option ((Nat → Int32)) :=
  f_X6_reaches_2 p2 (fun farz7 =>
    f_X6_reaches_33 hld rr (fun farz28 =>
      some farz28) xFu 1 farz7) xFu 0 far
theorem k_X6_reaches : xb_Y yX6_reaches cX6_reaches wsX6_reaches 8 none { frames := 3, cells := 0, slots := 0, locals := 64 } 2 := ⟨⟨_, rfl⟩, by decide, ⟨by decide, by decide, by decide +kernel⟩, rfl, rfl⟩
theorem fl_X6_reaches_29 : Cond.fieldLink RX6 29 "LookupBoardModel" "far" "[I" ∈ wsX6_reaches := List.mem_of_getElem? (i := 1) rfl
theorem iw_X6_reaches_6 : ∀ w ∈ wsX60, w ∈ wsX6_reaches := fun w h => List.mem_cons_of_mem _ (List.mem_append_right _ h)
set_option maxHeartbeats 4000000 in
set_option maxRecDepth 100000 in
theorem m_X6_reaches (D : va_G) (cI cC cZ cR : ClassId) (o0 : Nat) (ma : Nat → Nat) (q : Nat) (st : Int32) (ik : Int32) (le : Int32) (sp : Int32) (nu : Int32) (hld : Nat → Int32) (far : Nat → Int32) (don : Nat → Int32) (rr : Nat → Int32) (p2 : Int32) (far' : Nat → Int32) (h : f_X6_reaches hld far rr p2 = some far') : xb_M cX6_reaches wsX6_reaches RX6 { frames := 3, cells := 0, slots := 0, locals := 64 } none 8 (xb_ty cI cC cZ cR) D [.ref o0, .ref q, .int p2] (wMo o0 ma st ik le sp nu ++ wAr cI (ma 5) 48 hld ++ wAr cI (ma 6) 24 far ++ wAr cZ (ma 7) 72 don ++ wAr cI q 1898 rr) none (wMo o0 ma st ik le sp nu ++ wAr cI (ma 5) 48 hld ++ wAr cI (ma 6) 24 far' ++ wAr cZ (ma 7) 72 don ++ wAr cI q 1898 rr) := by
  intro X C Z
  show xb_G X 0 0 (wMo o0 ma st ik le sp nu ++ wAr cI (ma 5) 48 hld ++ wAr cI (ma 6) 24 far ++ wAr cZ (ma 7) 72 don ++ wAr cI q 1898 rr) [(0, .ref o0), (1, .ref q), (2, .int p2)] 0 []
  have lp42 : ∀ (k : Int32 → (Nat → Int32) → Option ((Nat → Int32))) (n : Nat) (x3_42 : Int32) (x4_42 : Int32) (far_42 : Nat → Int32), f_X6_reaches_42 hld rr k n x3_42 x4_42 far_42 = some far' → (∀ (x3_42e : Int32) (far_42e : Nat → Int32), k x3_42e far_42e = some far' → xb_G X 0 0 (wMo o0 ma st ik le sp nu ++ wAr cI (ma 5) 48 hld ++ wAr cI (ma 6) 24 far_42e ++ wAr cZ (ma 7) 72 don ++ wAr cI q 1898 rr) [(0, .ref o0), (1, .ref q), (3, .int x3_42e)] 126 []) → xb_G X 0 0 (wMo o0 ma st ik le sp nu ++ wAr cI (ma 5) 48 hld ++ wAr cI (ma 6) 24 far_42 ++ wAr cZ (ma 7) 72 don ++ wAr cI q 1898 rr) [(0, .ref o0), (1, .ref q), (3, .int x3_42), (4, .int x4_42)] 42 [] := by
    intro k n
    induction n with
    | zero => intro x3_42 x4_42 far_42 h hk; unfold f_X6_reaches_42 at h; cases h
    | succ n ih =>
      intro x3_42 x4_42 far_42 h hk
      unfold f_X6_reaches_42 at h
      refine xi_iload C dX6_reaches_42 3 rfl ?_
      refine xi_bipush (v := 96) C dX6_reaches_44 (by decide) ?_
      refine xi_icmp_ge (tgt := 126) C dX6_reaches_46 (by decide) (fun c9 => ?_) (fun c9 => ?_)
      · have h := it_i c9 h
        exact xb_lv (hk x3_42 far_42 h) [0, 1, 2] rfl
      · have h := ie_i c9 h
        refine xi_iload C dX6_reaches_49 3 rfl ?_
        refine xi_iconst (v := 4) C dX6_reaches_51 (by decide) ?_
        refine xi_idiv C dX6_reaches_52 (by decide) ?_
        refine xi_istore (lv2 := [(0, .ref o0), (1, .ref q), (3, .int x3_42), (4, .int x4_42), (5, .int (x4_42 / 4))]) C dX6_reaches_53 (by decide) [0, 1, 2, 3] [1, 2, 3, 4, 0] rfl ?_
        refine xi_iload C dX6_reaches_55 4 rfl ?_
        refine xi_iload C dX6_reaches_57 3 rfl ?_
        refine xi_iconst (v := 4) C dX6_reaches_59 (by decide) ?_
        refine xi_irem C dX6_reaches_60 (by decide) ?_
        obtain ⟨v10, e11, h⟩ := ob_i h
        refine xi_callS (As := [.int (x4_42 / 4), .int (x4_42 - x4_42 / 4 * 4)]) (o := some (.int v10)) (rest := []) (w2 := (wMo o0 ma st ik le sp nu ++ wAr cI (ma 5) 48 hld ++ wAr cI (ma 6) 24 far_42 ++ wAr cZ (ma 7) 72 don ++ wAr cI q 1898 rr)) (st2 := [.int v10]) C k_X6_beside (m_X6_beside D cI cC cZ cR (x4_42 / 4) (x4_42 - x4_42 / 4 * 4) v10 e11) gX6_reaches_X6_beside dX6_reaches_61 ⟨Nat.le_of_ble_eq_true rfl, Nat.le_of_ble_eq_true rfl, Nat.le_of_ble_eq_true rfl⟩ [] rfl rfl [0, 1, 2, 3] rfl rfl rfl rfl (Nat.le_of_ble_eq_true rfl) ⟨Nat.zero_le _, Nat.zero_le _⟩ rfl ?_
        refine xi_istore (lv2 := [(0, .ref o0), (1, .ref q), (3, .int x3_42), (4, .int x4_42), (5, .int (x4_42 / 4)), (6, .int v10)]) C dX6_reaches_64 (by decide) [0, 1, 2, 3, 4] [1, 2, 3, 4, 5, 0] rfl ?_
        refine xi_iload C dX6_reaches_66 5 rfl ?_
        refine xi_bipush (v := (-5)) C dX6_reaches_68 (by decide) ?_
        refine xi_icmp_ne (tgt := 78) C dX6_reaches_70 (by decide) (fun c12 => ?_) (fun c12 => ?_)
        · have h := ie_i c12 h
          refine xi_aload_n C dX6_reaches_78 rfl 0 rfl ?_
          refine xi_get C dX6_reaches_79 iw_X6_reaches_6 0 rfl rfl 9 (by decide) fl_X6_reaches_29 rfl ?_
          refine xi_iload C dX6_reaches_82 5 rfl ?_
          obtain ⟨v13, e14, h⟩ := ob_i h
          refine xi_iald C dX6_reaches_84 2 0 rfl rfl e14 ?_
          refine xi_aload_n C dX6_reaches_85 rfl 0 rfl ?_
          refine xi_aload_n C dX6_reaches_86 rfl 1 rfl ?_
          refine xi_iload C dX6_reaches_87 4 rfl ?_
          refine xi_iload C dX6_reaches_89 5 rfl ?_
          obtain ⟨v15, e16, h⟩ := ob_i h
          refine xi_callV (As := [.ref q, .int (x4_42 / 4), .int v10]) (o := some (.int v15)) (rest := [.int v13]) (w2 := (wMo o0 ma st ik le sp nu ++ wAr cI (ma 5) 48 hld ++ wAr cI (ma 6) 24 far_42 ++ wAr cZ (ma 7) 72 don ++ wAr cI q 1898 rr)) (st2 := [.int v15, .int v13]) C k_X6_cost (m_X6_cost D cI cC cZ cR o0 ma q st ik le sp nu hld far_42 don rr (x4_42 / 4) v10 v15 e16) gX6_reaches_X6_cost dX6_reaches_91 ⟨Nat.le_of_ble_eq_true rfl, Nat.le_of_ble_eq_true rfl, Nat.le_of_ble_eq_true rfl⟩ 0 rfl rfl [0, 1, 2, 3, 4] rfl rfl [0, 1, 2, 3] rfl rfl rfl rfl (Nat.le_of_ble_eq_true rfl) ⟨Nat.zero_le _, Nat.zero_le _⟩ rfl ?_
          refine xi_iadd C dX6_reaches_94 ?_
          refine xi_istore (lv2 := [(0, .ref o0), (1, .ref q), (3, .int x3_42), (4, .int x4_42), (5, .int (x4_42 / 4)), (6, .int v10), (7, .int (v13 + v15))]) C dX6_reaches_95 (by decide) [0, 1, 2, 3, 4, 5] [1, 2, 3, 4, 5, 6, 0] rfl ?_
          refine xi_iload C dX6_reaches_97 6 rfl ?_
          refine xi_aload_n C dX6_reaches_99 rfl 0 rfl ?_
          refine xi_get C dX6_reaches_100 iw_X6_reaches_6 0 rfl rfl 9 (by decide) fl_X6_reaches_29 rfl ?_
          refine xi_iload C dX6_reaches_103 4 rfl ?_
          obtain ⟨v17, e18, h⟩ := ob_i h
          refine xi_iald C dX6_reaches_105 2 0 rfl rfl e18 ?_
          refine xi_icmp_ge (tgt := 120) C dX6_reaches_106 (by decide) (fun c19 => ?_) (fun c19 => ?_)
          · have h := it_i c19 h
            refine xi_iinc (v := x4_42 + 1) (lv2 := [(0, .ref o0), (1, .ref q), (3, .int x3_42), (4, .int (x4_42 + 1)), (5, .int (x4_42 / 4)), (6, .int v10), (7, .int (v13 + v15))]) C dX6_reaches_120 3 rfl (by rfl) (by decide) [0, 1, 2, 4, 5, 6] [1, 2, 3, 0, 4, 5, 6] rfl ?_
            refine xi_goto (tgt := 42) C dX6_reaches_123 (by decide) ?_
            exact xb_lv (ih x3_42 (x4_42 + 1) far_42 h hk) [0, 1, 2, 3] rfl
          · have h := ie_i c19 h
            refine xi_aload_n C dX6_reaches_109 rfl 0 rfl ?_
            refine xi_get C dX6_reaches_110 iw_X6_reaches_6 0 rfl rfl 9 (by decide) fl_X6_reaches_29 rfl ?_
            refine xi_iload C dX6_reaches_113 4 rfl ?_
            refine xi_iload C dX6_reaches_115 6 rfl ?_
            obtain ⟨far21, e20, h⟩ := ob_i h
            refine xi_iast (w2 := (wMo o0 ma st ik le sp nu ++ wAr cI (ma 5) 48 hld ++ wAr cI (ma 6) 24 far21 ++ wAr cZ (ma 7) 72 don ++ wAr cI q 1898 rr)) C dX6_reaches_117 2 0 rfl rfl e20 rfl ?_
            refine xi_iconst (v := 1) C dX6_reaches_118 (by decide) ?_
            refine xi_istore_n (lv2 := [(0, .ref o0), (1, .ref q), (3, .int 1), (4, .int x4_42), (5, .int (x4_42 / 4)), (6, .int v10), (7, .int (v13 + v15))]) C dX6_reaches_119 rfl (by decide) [0, 1, 3, 4, 5, 6] [1, 2, 0, 3, 4, 5, 6] rfl ?_
            refine xi_iinc (v := x4_42 + 1) (lv2 := [(0, .ref o0), (1, .ref q), (3, .int 1), (4, .int (x4_42 + 1)), (5, .int (x4_42 / 4)), (6, .int v10), (7, .int (v13 + v15))]) C dX6_reaches_120 3 rfl (by rfl) (by decide) [0, 1, 2, 4, 5, 6] [1, 2, 3, 0, 4, 5, 6] rfl ?_
            refine xi_goto (tgt := 42) C dX6_reaches_123 (by decide) ?_
            exact xb_lv (ih 1 (x4_42 + 1) far21 h hk) [0, 1, 2, 3] rfl
        · have h := it_i c12 h
          refine xi_ldc (v := 1000000) C dX6_reaches_73 (List.mem_of_getElem? (i := 2) rfl) ?_
          refine xi_goto (tgt := 95) C dX6_reaches_75 (by decide) ?_
          refine xi_istore (lv2 := [(0, .ref o0), (1, .ref q), (3, .int x3_42), (4, .int x4_42), (5, .int (x4_42 / 4)), (6, .int v10), (7, .int 1000000)]) C dX6_reaches_95 (by decide) [0, 1, 2, 3, 4, 5] [1, 2, 3, 4, 5, 6, 0] rfl ?_
          refine xi_iload C dX6_reaches_97 6 rfl ?_
          refine xi_aload_n C dX6_reaches_99 rfl 0 rfl ?_
          refine xi_get C dX6_reaches_100 iw_X6_reaches_6 0 rfl rfl 9 (by decide) fl_X6_reaches_29 rfl ?_
          refine xi_iload C dX6_reaches_103 4 rfl ?_
          obtain ⟨v22, e23, h⟩ := ob_i h
          refine xi_iald C dX6_reaches_105 2 0 rfl rfl e23 ?_
          refine xi_icmp_ge (tgt := 120) C dX6_reaches_106 (by decide) (fun c24 => ?_) (fun c24 => ?_)
          · have h := it_i c24 h
            refine xi_iinc (v := x4_42 + 1) (lv2 := [(0, .ref o0), (1, .ref q), (3, .int x3_42), (4, .int (x4_42 + 1)), (5, .int (x4_42 / 4)), (6, .int v10), (7, .int 1000000)]) C dX6_reaches_120 3 rfl (by rfl) (by decide) [0, 1, 2, 4, 5, 6] [1, 2, 3, 0, 4, 5, 6] rfl ?_
            refine xi_goto (tgt := 42) C dX6_reaches_123 (by decide) ?_
            exact xb_lv (ih x3_42 (x4_42 + 1) far_42 h hk) [0, 1, 2, 3] rfl
          · have h := ie_i c24 h
            refine xi_aload_n C dX6_reaches_109 rfl 0 rfl ?_
            refine xi_get C dX6_reaches_110 iw_X6_reaches_6 0 rfl rfl 9 (by decide) fl_X6_reaches_29 rfl ?_
            refine xi_iload C dX6_reaches_113 4 rfl ?_
            refine xi_iload C dX6_reaches_115 6 rfl ?_
            obtain ⟨far26, e25, h⟩ := ob_i h
            refine xi_iast (w2 := (wMo o0 ma st ik le sp nu ++ wAr cI (ma 5) 48 hld ++ wAr cI (ma 6) 24 far26 ++ wAr cZ (ma 7) 72 don ++ wAr cI q 1898 rr)) C dX6_reaches_117 2 0 rfl rfl e25 rfl ?_
            refine xi_iconst (v := 1) C dX6_reaches_118 (by decide) ?_
            refine xi_istore_n (lv2 := [(0, .ref o0), (1, .ref q), (3, .int 1), (4, .int x4_42), (5, .int (x4_42 / 4)), (6, .int v10), (7, .int 1000000)]) C dX6_reaches_119 rfl (by decide) [0, 1, 3, 4, 5, 6] [1, 2, 0, 3, 4, 5, 6] rfl ?_
            refine xi_iinc (v := x4_42 + 1) (lv2 := [(0, .ref o0), (1, .ref q), (3, .int 1), (4, .int (x4_42 + 1)), (5, .int (x4_42 / 4)), (6, .int v10), (7, .int 1000000)]) C dX6_reaches_120 3 rfl (by rfl) (by decide) [0, 1, 2, 4, 5, 6] [1, 2, 3, 0, 4, 5, 6] rfl ?_
            refine xi_goto (tgt := 42) C dX6_reaches_123 (by decide) ?_
            exact xb_lv (ih 1 (x4_42 + 1) far26 h hk) [0, 1, 2, 3] rfl
  have lp33 : ∀ (k : (Nat → Int32) → Option ((Nat → Int32))) (n : Nat) (x3_33 : Int32) (far_33 : Nat → Int32), f_X6_reaches_33 hld rr k n x3_33 far_33 = some far' → (∀ (far_33e : Nat → Int32), k far_33e = some far' → xb_G X 0 0 (wMo o0 ma st ik le sp nu ++ wAr cI (ma 5) 48 hld ++ wAr cI (ma 6) 24 far_33e ++ wAr cZ (ma 7) 72 don ++ wAr cI q 1898 rr) [] 129 []) → xb_G X 0 0 (wMo o0 ma st ik le sp nu ++ wAr cI (ma 5) 48 hld ++ wAr cI (ma 6) 24 far_33 ++ wAr cZ (ma 7) 72 don ++ wAr cI q 1898 rr) [(0, .ref o0), (1, .ref q), (3, .int x3_33)] 33 [] := by
    intro k n
    induction n with
    | zero => intro x3_33 far_33 h hk; unfold f_X6_reaches_33 at h; cases h
    | succ n ih =>
      intro x3_33 far_33 h hk
      unfold f_X6_reaches_33 at h
      refine xi_iload_n C dX6_reaches_33 rfl 2 rfl ?_
      refine xi_if_eq (tgt := 129) C dX6_reaches_34 (by decide) (fun c8 => ?_) (fun c8 => ?_)
      · have h := it_i c8 h
        exact xb_lv (hk far_33 h) [] rfl
      · have h := ie_i c8 h
        refine xi_iconst (v := 0) C dX6_reaches_37 (by decide) ?_
        refine xi_istore_n (lv2 := [(0, .ref o0), (1, .ref q), (3, .int 0)]) C dX6_reaches_38 rfl (by decide) [0, 1] [1, 2, 0] rfl ?_
        refine xi_iconst (v := 0) C dX6_reaches_39 (by decide) ?_
        refine xi_istore (lv2 := [(0, .ref o0), (1, .ref q), (3, .int 0), (4, .int 0)]) C dX6_reaches_40 (by decide) [0, 1, 2] [1, 2, 3, 0] rfl ?_
        refine xb_lv (lp42 _ xFu 0 0 far_33 h (fun x3z27 farz27 h => ?_)) [0, 1, 2, 3] rfl
        refine xi_goto (tgt := 33) C dX6_reaches_126 (by decide) ?_
        exact xb_lv (ih x3z27 farz27 h hk) [0, 1, 2] rfl
  have lp2 : ∀ (x2_2 : Int32) (k : (Nat → Int32) → Option ((Nat → Int32))) (n : Nat) (x3_2 : Int32) (far_2 : Nat → Int32), f_X6_reaches_2 x2_2 k n x3_2 far_2 = some far' → (∀ (far_2e : Nat → Int32), k far_2e = some far' → xb_G X 0 0 (wMo o0 ma st ik le sp nu ++ wAr cI (ma 5) 48 hld ++ wAr cI (ma 6) 24 far_2e ++ wAr cZ (ma 7) 72 don ++ wAr cI q 1898 rr) [(0, .ref o0), (1, .ref q)] 31 []) → xb_G X 0 0 (wMo o0 ma st ik le sp nu ++ wAr cI (ma 5) 48 hld ++ wAr cI (ma 6) 24 far_2 ++ wAr cZ (ma 7) 72 don ++ wAr cI q 1898 rr) [(0, .ref o0), (1, .ref q), (2, .int x2_2), (3, .int x3_2)] 2 [] := by
    intro x2_2 k n
    induction n with
    | zero => intro x3_2 far_2 h hk; unfold f_X6_reaches_2 at h; cases h
    | succ n ih =>
      intro x3_2 far_2 h hk
      unfold f_X6_reaches_2 at h
      refine xi_iload_n C dX6_reaches_2 rfl 3 rfl ?_
      refine xi_bipush (v := 24) C dX6_reaches_3 (by decide) ?_
      refine xi_icmp_ge (tgt := 31) C dX6_reaches_5 (by decide) (fun c1 => ?_) (fun c1 => ?_)
      · have h := it_i c1 h
        exact xb_lv (hk far_2 h) [0, 1] rfl
      · have h := ie_i c1 h
        refine xi_aload_n C dX6_reaches_8 rfl 0 rfl ?_
        refine xi_get C dX6_reaches_9 iw_X6_reaches_6 0 rfl rfl 9 (by decide) fl_X6_reaches_29 rfl ?_
        refine xi_iload_n C dX6_reaches_12 rfl 3 rfl ?_
        refine xi_iload_n C dX6_reaches_13 rfl 3 rfl ?_
        refine xi_iload_n C dX6_reaches_14 rfl 2 rfl ?_
        refine xi_icmp_ne (tgt := 22) C dX6_reaches_15 (by decide) (fun c2 => ?_) (fun c2 => ?_)
        · have h := ie_i c2 h
          refine xi_ldc (v := 1000000) C dX6_reaches_22 (List.mem_of_getElem? (i := 2) rfl) ?_
          obtain ⟨far4, e3, h⟩ := ob_i h
          refine xi_iast (w2 := (wMo o0 ma st ik le sp nu ++ wAr cI (ma 5) 48 hld ++ wAr cI (ma 6) 24 far4 ++ wAr cZ (ma 7) 72 don ++ wAr cI q 1898 rr)) C dX6_reaches_24 2 0 rfl rfl e3 rfl ?_
          refine xi_iinc (v := x3_2 + 1) (lv2 := [(0, .ref o0), (1, .ref q), (2, .int x2_2), (3, .int (x3_2 + 1))]) C dX6_reaches_25 3 rfl (by rfl) (by decide) [0, 1, 2] [1, 2, 3, 0] rfl ?_
          refine xi_goto (tgt := 2) C dX6_reaches_28 (by decide) ?_
          exact xb_lv (ih (x3_2 + 1) far4 h hk) [0, 1, 2, 3] rfl
        · have h := it_i c2 h
          refine xi_iconst (v := 0) C dX6_reaches_18 (by decide) ?_
          refine xi_goto (tgt := 24) C dX6_reaches_19 (by decide) ?_
          obtain ⟨far6, e5, h⟩ := ob_i h
          refine xi_iast (w2 := (wMo o0 ma st ik le sp nu ++ wAr cI (ma 5) 48 hld ++ wAr cI (ma 6) 24 far6 ++ wAr cZ (ma 7) 72 don ++ wAr cI q 1898 rr)) C dX6_reaches_24 2 0 rfl rfl e5 rfl ?_
          refine xi_iinc (v := x3_2 + 1) (lv2 := [(0, .ref o0), (1, .ref q), (2, .int x2_2), (3, .int (x3_2 + 1))]) C dX6_reaches_25 3 rfl (by rfl) (by decide) [0, 1, 2] [1, 2, 3, 0] rfl ?_
          refine xi_goto (tgt := 2) C dX6_reaches_28 (by decide) ?_
          exact xb_lv (ih (x3_2 + 1) far6 h hk) [0, 1, 2, 3] rfl
  unfold f_X6_reaches at h
  refine xi_iconst (v := 0) C dX6_reaches_0 (by decide) ?_
  refine xi_istore_n (lv2 := [(0, .ref o0), (1, .ref q), (2, .int p2), (3, .int 0)]) C dX6_reaches_1 rfl (by decide) [0, 1, 2] [1, 2, 3, 0] rfl ?_
  refine xb_lv (lp2 p2 _ xFu 0 far h (fun farz7 h => ?_)) [0, 1, 2, 3] rfl
  refine xi_iconst (v := 1) C dX6_reaches_31 (by decide) ?_
  refine xi_istore_n (lv2 := [(0, .ref o0), (1, .ref q), (3, .int 1)]) C dX6_reaches_32 rfl (by decide) [0, 1] [1, 2, 0] rfl ?_
  refine xb_lv (lp33 _ xFu 1 farz7 h (fun farz28 h => ?_)) [0, 1, 2] rfl
  have w0 := Option.some.inj h
  subst w0
  exact xi_ret C Z dX6_reaches_129
def f_X6_nextOn_2 (hld : Nat → Int32) (far : Nat → Int32) (rr : Nat → Int32) (x2_2 : Int32) (k : Option (Int32)) : Nat → Int32 → Option (Int32)
  | 0, _ => none
  | n + 1, x3_2 =>
    if 4 ≤ x3_2 then
      k
    else
      (f_X6_beside x2_2 x3_2).bind fun v2 =>
      if v2 = (-5) then
        f_X6_nextOn_2 hld far rr x2_2 k n (x3_2 + 1)
      else
        (xr_d far 24 v2).bind fun v5 =>
        (f_X6_cost hld rr x2_2 v2).bind fun v7 =>
        (xr_d far 24 x2_2).bind fun v9 =>
        if (v5 + v7) = v9 then
          some v2
        else
          f_X6_nextOn_2 hld far rr x2_2 k n (x3_2 + 1)
def f_X6_nextOn (hld : Nat → Int32) (far : Nat → Int32) (rr : Nat → Int32) (p2 : Int32) : Option (Int32) :=
  f_X6_nextOn_2 hld far rr p2 (
    some (-5)) xFu 0
theorem k_X6_nextOn : xb_Y yX6_nextOn cX6_nextOn wsX6_nextOn 5 (some .int) { frames := 3, cells := 0, slots := 0, locals := 64 } 2 := ⟨⟨_, rfl⟩, by decide, ⟨by decide, by decide, by decide +kernel⟩, rfl, rfl⟩
theorem fl_X6_nextOn_29 : Cond.fieldLink RX6 29 "LookupBoardModel" "far" "[I" ∈ wsX6_nextOn := List.mem_of_getElem? (i := 1) rfl
theorem iw_X6_nextOn_6 : ∀ w ∈ wsX60, w ∈ wsX6_nextOn := fun w h => List.mem_cons_of_mem _ (List.mem_append_right _ h)
set_option maxHeartbeats 4000000 in
set_option maxRecDepth 100000 in
theorem m_X6_nextOn (D : va_G) (cI cC cZ cR : ClassId) (o0 : Nat) (ma : Nat → Nat) (q : Nat) (st : Int32) (ik : Int32) (le : Int32) (sp : Int32) (nu : Int32) (hld : Nat → Int32) (far : Nat → Int32) (don : Nat → Int32) (rr : Nat → Int32) (p2 : Int32) (r : Int32) (h : f_X6_nextOn hld far rr p2 = some r) : xb_M cX6_nextOn wsX6_nextOn RX6 { frames := 3, cells := 0, slots := 0, locals := 64 } (some .int) 5 (xb_ty cI cC cZ cR) D [.ref o0, .ref q, .int p2] (wMo o0 ma st ik le sp nu ++ wAr cI (ma 5) 48 hld ++ wAr cI (ma 6) 24 far ++ wAr cZ (ma 7) 72 don ++ wAr cI q 1898 rr) (some (.int r)) (wMo o0 ma st ik le sp nu ++ wAr cI (ma 5) 48 hld ++ wAr cI (ma 6) 24 far ++ wAr cZ (ma 7) 72 don ++ wAr cI q 1898 rr) := by
  intro X C Z
  show xb_G X 0 0 (wMo o0 ma st ik le sp nu ++ wAr cI (ma 5) 48 hld ++ wAr cI (ma 6) 24 far ++ wAr cZ (ma 7) 72 don ++ wAr cI q 1898 rr) [(0, .ref o0), (1, .ref q), (2, .int p2)] 0 []
  have lp2 : ∀ (x2_2 : Int32) (k : Option (Int32)) (n : Nat) (x3_2 : Int32), f_X6_nextOn_2 hld far rr x2_2 k n x3_2 = some r → (k = some r → xb_G X 0 0 (wMo o0 ma st ik le sp nu ++ wAr cI (ma 5) 48 hld ++ wAr cI (ma 6) 24 far ++ wAr cZ (ma 7) 72 don ++ wAr cI q 1898 rr) [] 55 []) → xb_G X 0 0 (wMo o0 ma st ik le sp nu ++ wAr cI (ma 5) 48 hld ++ wAr cI (ma 6) 24 far ++ wAr cZ (ma 7) 72 don ++ wAr cI q 1898 rr) [(0, .ref o0), (1, .ref q), (2, .int x2_2), (3, .int x3_2)] 2 [] := by
    intro x2_2 k n
    induction n with
    | zero => intro x3_2 h hk; unfold f_X6_nextOn_2 at h; cases h
    | succ n ih =>
      intro x3_2 h hk
      unfold f_X6_nextOn_2 at h
      refine xi_iload_n C dX6_nextOn_2 rfl 3 rfl ?_
      refine xi_iconst (v := 4) C dX6_nextOn_3 (by decide) ?_
      refine xi_icmp_ge (tgt := 55) C dX6_nextOn_4 (by decide) (fun c1 => ?_) (fun c1 => ?_)
      · have h := it_i c1 h
        exact xb_lv (hk h) [] rfl
      · have h := ie_i c1 h
        refine xi_iload_n C dX6_nextOn_7 rfl 2 rfl ?_
        refine xi_iload_n C dX6_nextOn_8 rfl 3 rfl ?_
        obtain ⟨v2, e3, h⟩ := ob_i h
        refine xi_callS (As := [.int x2_2, .int x3_2]) (o := some (.int v2)) (rest := []) (w2 := (wMo o0 ma st ik le sp nu ++ wAr cI (ma 5) 48 hld ++ wAr cI (ma 6) 24 far ++ wAr cZ (ma 7) 72 don ++ wAr cI q 1898 rr)) (st2 := [.int v2]) C k_X6_beside (m_X6_beside D cI cC cZ cR x2_2 x3_2 v2 e3) gX6_nextOn_X6_beside dX6_nextOn_9 ⟨Nat.le_of_ble_eq_true rfl, Nat.le_of_ble_eq_true rfl, Nat.le_of_ble_eq_true rfl⟩ [] rfl rfl [0, 1, 2, 3] rfl rfl rfl rfl (Nat.le_of_ble_eq_true rfl) ⟨Nat.zero_le _, Nat.zero_le _⟩ rfl ?_
        refine xi_istore (lv2 := [(0, .ref o0), (1, .ref q), (2, .int x2_2), (3, .int x3_2), (4, .int v2)]) C dX6_nextOn_12 (by decide) [0, 1, 2, 3] [1, 2, 3, 4, 0] rfl ?_
        refine xi_iload C dX6_nextOn_14 4 rfl ?_
        refine xi_bipush (v := (-5)) C dX6_nextOn_16 (by decide) ?_
        refine xi_icmp_eq (tgt := 49) C dX6_nextOn_18 (by decide) (fun c4 => ?_) (fun c4 => ?_)
        · have h := it_i c4 h
          refine xi_iinc (v := x3_2 + 1) (lv2 := [(0, .ref o0), (1, .ref q), (2, .int x2_2), (3, .int (x3_2 + 1)), (4, .int v2)]) C dX6_nextOn_49 3 rfl (by rfl) (by decide) [0, 1, 2, 4] [1, 2, 3, 0, 4] rfl ?_
          refine xi_goto (tgt := 2) C dX6_nextOn_52 (by decide) ?_
          exact xb_lv (ih (x3_2 + 1) h hk) [0, 1, 2, 3] rfl
        · have h := ie_i c4 h
          refine xi_aload_n C dX6_nextOn_21 rfl 0 rfl ?_
          refine xi_get C dX6_nextOn_22 iw_X6_nextOn_6 0 rfl rfl 9 (by decide) fl_X6_nextOn_29 rfl ?_
          refine xi_iload C dX6_nextOn_25 4 rfl ?_
          obtain ⟨v5, e6, h⟩ := ob_i h
          refine xi_iald C dX6_nextOn_27 2 0 rfl rfl e6 ?_
          refine xi_aload_n C dX6_nextOn_28 rfl 0 rfl ?_
          refine xi_aload_n C dX6_nextOn_29 rfl 1 rfl ?_
          refine xi_iload_n C dX6_nextOn_30 rfl 2 rfl ?_
          refine xi_iload C dX6_nextOn_31 4 rfl ?_
          obtain ⟨v7, e8, h⟩ := ob_i h
          refine xi_callV (As := [.ref q, .int x2_2, .int v2]) (o := some (.int v7)) (rest := [.int v5]) (w2 := (wMo o0 ma st ik le sp nu ++ wAr cI (ma 5) 48 hld ++ wAr cI (ma 6) 24 far ++ wAr cZ (ma 7) 72 don ++ wAr cI q 1898 rr)) (st2 := [.int v7, .int v5]) C k_X6_cost (m_X6_cost D cI cC cZ cR o0 ma q st ik le sp nu hld far don rr x2_2 v2 v7 e8) gX6_nextOn_X6_cost dX6_nextOn_33 ⟨Nat.le_of_ble_eq_true rfl, Nat.le_of_ble_eq_true rfl, Nat.le_of_ble_eq_true rfl⟩ 0 rfl rfl [0, 1, 2, 3, 4] rfl rfl [0, 1, 2, 3] rfl rfl rfl rfl (Nat.le_of_ble_eq_true rfl) ⟨Nat.zero_le _, Nat.zero_le _⟩ rfl ?_
          refine xi_iadd C dX6_nextOn_36 ?_
          refine xi_aload_n C dX6_nextOn_37 rfl 0 rfl ?_
          refine xi_get C dX6_nextOn_38 iw_X6_nextOn_6 0 rfl rfl 9 (by decide) fl_X6_nextOn_29 rfl ?_
          refine xi_iload_n C dX6_nextOn_41 rfl 2 rfl ?_
          obtain ⟨v9, e10, h⟩ := ob_i h
          refine xi_iald C dX6_nextOn_42 2 0 rfl rfl e10 ?_
          refine xi_icmp_ne (tgt := 49) C dX6_nextOn_43 (by decide) (fun c11 => ?_) (fun c11 => ?_)
          · have h := ie_i c11 h
            refine xi_iinc (v := x3_2 + 1) (lv2 := [(0, .ref o0), (1, .ref q), (2, .int x2_2), (3, .int (x3_2 + 1)), (4, .int v2)]) C dX6_nextOn_49 3 rfl (by rfl) (by decide) [0, 1, 2, 4] [1, 2, 3, 0, 4] rfl ?_
            refine xi_goto (tgt := 2) C dX6_nextOn_52 (by decide) ?_
            exact xb_lv (ih (x3_2 + 1) h hk) [0, 1, 2, 3] rfl
          · have h := it_i c11 h
            refine xi_iload C dX6_nextOn_46 4 rfl ?_
            have w0 := Option.some.inj h
            subst w0
            exact xi_iret C Z dX6_nextOn_48
  unfold f_X6_nextOn at h
  refine xi_iconst (v := 0) C dX6_nextOn_0 (by decide) ?_
  refine xi_istore_n (lv2 := [(0, .ref o0), (1, .ref q), (2, .int p2), (3, .int 0)]) C dX6_nextOn_1 rfl (by decide) [0, 1, 2] [1, 2, 3, 0] rfl ?_
  refine xb_lv (lp2 p2 _ xFu 0 h (fun h => ?_)) [0, 1, 2, 3] rfl
  refine xi_bipush (v := (-5)) C dX6_nextOn_55 (by decide) ?_
  have w0 := Option.some.inj h
  subst w0
  exact xi_iret C Z dX6_nextOn_57
