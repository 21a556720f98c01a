def f_X6_bestOrder_8 (now : Nat → Int32) (k : Int32 → (Nat → Int32) → (Nat → Int32) → (Nat → Int32) → (Nat → Int32) → Option (Int32 × (Nat → Int32) × (Nat → Int32) × (Nat → Int32) × (Nat → Int32))) : Nat → Int32 → Int32 → Int32 → (Nat → Int32) → (Nat → Int32) → (Nat → Int32) → (Nat → Int32) → Option (Int32 × (Nat → Int32) × (Nat → Int32) × (Nat → Int32) × (Nat → Int32))
  | 0, _, _, _, _, _, _, _ => none
  | n + 1, x1_8, x2_8, x3_8, thn_8, hld_8, far_8, don_8 =>
    if 3 ≤ x3_8 then
      k x1_8 thn_8 hld_8 far_8 don_8
    else
      (f_X6_ordered now thn_8 hld_8 far_8 don_8 x3_8).bind fun (v2, thn3, hld4, far5, don6) =>
      if v2 = (-3) then
        f_X6_bestOrder_8 now k n x1_8 x2_8 (x3_8 + 1) thn3 hld4 far5 don6
      else
        if x2_8 ≤ v2 then
          f_X6_bestOrder_8 now k n x1_8 x2_8 (x3_8 + 1) thn3 hld4 far5 don6
        else
          f_X6_bestOrder_8 now k n x3_8 v2 (x3_8 + 1) thn3 hld4 far5 don6
def f_X6_bestOrder (now : Nat → Int32) (thn : Nat → Int32) (hld : Nat → Int32) (far : Nat → Int32) (don : Nat → Int32) : Option (Int32 × (Nat → Int32) × (Nat → Int32) × (Nat → Int32) × (Nat → Int32)) :=
  f_X6_bestOrder_8 now (fun x1z16 thnz16 hldz16 farz16 donz16 =>
    some (x1z16, thnz16, hldz16, farz16, donz16)) xFu (-5) 1000000 0 thn hld far don
theorem k_X6_bestOrder : xb_Y yX6_bestOrder cX6_bestOrder wsX6_bestOrder 6 (some .int) { frames := 7, cells := 0, slots := 0, locals := 161 } 0 := ⟨⟨_, rfl⟩, by decide, ⟨by decide, by decide, by decide +kernel⟩, rfl, rfl⟩
set_option maxHeartbeats 4000000 in
set_option maxRecDepth 100000 in
theorem m_X6_bestOrder (D : va_G) (cI cC cZ cR : ClassId) (o0 : Nat) (ma : Nat → Nat) (st : Int32) (ik : Int32) (le : Int32) (sp : Int32) (nu : Int32) (now : Nat → Int32) (thn : Nat → Int32) (pst : Nat → Int32) (snp : Nat → Int32) (txt : Nat → Int32) (hld : Nat → Int32) (far : Nat → Int32) (don : Nat → Int32) (tld : Nat → Int32) (dep : Nat → Int32) (bit : Nat → Int32) (r : Int32) (thn' : Nat → Int32) (hld' : Nat → Int32) (far' : Nat → Int32) (don' : Nat → Int32) (h : f_X6_bestOrder now thn hld far don = some (r, thn', hld', far', don')) : xb_M cX6_bestOrder wsX6_bestOrder RX6 { frames := 7, cells := 0, slots := 0, locals := 161 } (some .int) 6 (xb_ty cI cC cZ cR) D [.ref o0] (wMo o0 ma st ik le sp nu ++ wAr cI (ma 0) 1898 now ++ wAr cI (ma 1) 1898 thn ++ wAr cI (ma 2) 7592 pst ++ wAr cI (ma 3) 1898 snp ++ wAr cC (ma 4) 80 txt ++ wAr cI (ma 5) 48 hld ++ wAr cI (ma 6) 24 far ++ wAr cZ (ma 7) 72 don ++ wAr cI (ma 8) 96 tld ++ wAr cI (ma 9) 24 dep ++ wAr cI (ma 10) 24 bit) (some (.int r)) (wMo o0 ma st ik le sp nu ++ wAr cI (ma 0) 1898 now ++ wAr cI (ma 1) 1898 thn' ++ wAr cI (ma 2) 7592 pst ++ wAr cI (ma 3) 1898 snp ++ wAr cC (ma 4) 80 txt ++ wAr cI (ma 5) 48 hld' ++ wAr cI (ma 6) 24 far' ++ wAr cZ (ma 7) 72 don' ++ wAr cI (ma 8) 96 tld ++ wAr cI (ma 9) 24 dep ++ wAr cI (ma 10) 24 bit) := by
  intro X C Z
  show xb_G X 0 0 (wMo o0 ma st ik le sp nu ++ wAr cI (ma 0) 1898 now ++ wAr cI (ma 1) 1898 thn ++ wAr cI (ma 2) 7592 pst ++ wAr cI (ma 3) 1898 snp ++ wAr cC (ma 4) 80 txt ++ wAr cI (ma 5) 48 hld ++ wAr cI (ma 6) 24 far ++ wAr cZ (ma 7) 72 don ++ wAr cI (ma 8) 96 tld ++ wAr cI (ma 9) 24 dep ++ wAr cI (ma 10) 24 bit) [(0, .ref o0)] 0 []
  have lp8 : ∀ (k : Int32 → (Nat → Int32) → (Nat → Int32) → (Nat → Int32) → (Nat → Int32) → Option (Int32 × (Nat → Int32) × (Nat → Int32) × (Nat → Int32) × (Nat → Int32))) (n : Nat) (x1_8 : Int32) (x2_8 : Int32) (x3_8 : Int32) (thn_8 : Nat → Int32) (hld_8 : Nat → Int32) (far_8 : Nat → Int32) (don_8 : Nat → Int32), f_X6_bestOrder_8 now k n x1_8 x2_8 x3_8 thn_8 hld_8 far_8 don_8 = some (r, thn', hld', far', don') → (∀ (x1_8e : Int32) (thn_8e : Nat → Int32) (hld_8e : Nat → Int32) (far_8e : Nat → Int32) (don_8e : Nat → Int32), k x1_8e thn_8e hld_8e far_8e don_8e = some (r, thn', hld', far', don') → xb_G X 0 0 (wMo o0 ma st ik le sp nu ++ wAr cI (ma 0) 1898 now ++ wAr cI (ma 1) 1898 thn_8e ++ wAr cI (ma 2) 7592 pst ++ wAr cI (ma 3) 1898 snp ++ wAr cC (ma 4) 80 txt ++ wAr cI (ma 5) 48 hld_8e ++ wAr cI (ma 6) 24 far_8e ++ wAr cZ (ma 7) 72 don_8e ++ wAr cI (ma 8) 96 tld ++ wAr cI (ma 9) 24 dep ++ wAr cI (ma 10) 24 bit) [(1, .int x1_8e)] 69 []) → xb_G X 0 0 (wMo o0 ma st ik le sp nu ++ wAr cI (ma 0) 1898 now ++ wAr cI (ma 1) 1898 thn_8 ++ wAr cI (ma 2) 7592 pst ++ wAr cI (ma 3) 1898 snp ++ wAr cC (ma 4) 80 txt ++ wAr cI (ma 5) 48 hld_8 ++ wAr cI (ma 6) 24 far_8 ++ wAr cZ (ma 7) 72 don_8 ++ wAr cI (ma 8) 96 tld ++ wAr cI (ma 9) 24 dep ++ wAr cI (ma 10) 24 bit) [(0, .ref o0), (1, .int x1_8), (2, .int x2_8), (3, .int x3_8)] 8 [] := by
    intro k n
    induction n with
    | zero => intro x1_8 x2_8 x3_8 thn_8 hld_8 far_8 don_8 h hk; unfold f_X6_bestOrder_8 at h; cases h
    | succ n ih =>
      intro x1_8 x2_8 x3_8 thn_8 hld_8 far_8 don_8 h hk
      unfold f_X6_bestOrder_8 at h
      refine xi_iload_n C dX6_bestOrder_8 rfl 3 rfl ?_
      refine xi_iconst (v := 3) C dX6_bestOrder_9 (by decide) ?_
      refine xi_icmp_ge (tgt := 69) C dX6_bestOrder_10 (by decide) (fun c1 => ?_) (fun c1 => ?_)
      · have h := it_i c1 h
        exact xb_lv (hk x1_8 thn_8 hld_8 far_8 don_8 h) [1] rfl
      · have h := ie_i c1 h
        refine xi_aload_n C dX6_bestOrder_13 rfl 0 rfl ?_
        refine xi_iload_n C dX6_bestOrder_14 rfl 3 rfl ?_
        obtain ⟨⟨v2, thn3, hld4, far5, don6⟩, e7, h⟩ := ob_i h
        refine xi_callV (As := [.int x3_8]) (o := some (.int v2)) (rest := []) (w2 := (wMo o0 ma st ik le sp nu ++ wAr cI (ma 0) 1898 now ++ wAr cI (ma 1) 1898 thn3 ++ wAr cI (ma 2) 7592 pst ++ wAr cI (ma 3) 1898 snp ++ wAr cC (ma 4) 80 txt ++ wAr cI (ma 5) 48 hld4 ++ wAr cI (ma 6) 24 far5 ++ wAr cZ (ma 7) 72 don6 ++ wAr cI (ma 8) 96 tld ++ wAr cI (ma 9) 24 dep ++ wAr cI (ma 10) 24 bit)) (st2 := [.int v2]) C k_X6_ordered (m_X6_ordered D cI cC cZ cR o0 ma st ik le sp nu now thn_8 pst snp txt hld_8 far_8 don_8 tld dep bit x3_8 v2 thn3 hld4 far5 don6 e7) gX6_bestOrder_X6_ordered dX6_bestOrder_15 ⟨Nat.le_of_ble_eq_true rfl, Nat.le_of_ble_eq_true rfl, Nat.le_of_ble_eq_true rfl⟩ 0 rfl rfl [0, 1, 2, 3, 4, 5, 6, 7, 8, 9, 10, 11] mxC_X6_0_1_2_3_4_5_6_7_8_9_10_11 rfl [0, 1, 2, 3] rfl mxF_X6_0_1_2_3_4_5_6_7_8_9_10_11 mxM_X6_0_1_2_3_4_5_6_7_8_9_10_11 rfl (Nat.le_of_ble_eq_true rfl) ⟨Nat.zero_le _, Nat.zero_le _⟩ rfl ?_
        refine xi_istore (lv2 := [(0, .ref o0), (1, .int x1_8), (2, .int x2_8), (3, .int x3_8), (4, .int v2)]) C dX6_bestOrder_18 (by decide) [0, 1, 2, 3] [1, 2, 3, 4, 0] rfl ?_
        refine xi_iload C dX6_bestOrder_20 4 rfl ?_
        refine xi_bipush (v := (-3)) C dX6_bestOrder_22 (by decide) ?_
        refine xi_icmp_eq (tgt := 37) C dX6_bestOrder_24 (by decide) (fun c8 => ?_) (fun c8 => ?_)
        · have h := it_i c8 h
          refine xi_iconst (v := 0) C dX6_bestOrder_37 (by decide) ?_
          refine xi_istore (lv2 := [(0, .ref o0), (1, .int x1_8), (2, .int x2_8), (3, .int x3_8), (4, .int v2), (5, .int 0)]) C dX6_bestOrder_38 (by decide) [0, 1, 2, 3, 4] [1, 2, 3, 4, 5, 0] rfl ?_
          refine xi_iload C dX6_bestOrder_40 5 rfl ?_
          refine xi_if_eq (tgt := 49) C dX6_bestOrder_42 (by decide) (fun c9 => ?_) (fun c9 => ?_)
          rotate_left
          · first | exact absurd c9 (by decide) | exact absurd (by decide) c9
          refine xi_iload_n C dX6_bestOrder_49 rfl 1 rfl ?_
          refine xi_istore_n (lv2 := [(0, .ref o0), (1, .int x1_8), (2, .int x2_8), (3, .int x3_8), (4, .int v2), (5, .int 0)]) C dX6_bestOrder_50 rfl (by decide) [0, 2, 3, 4, 5] [1, 0, 2, 3, 4, 5] rfl ?_
          refine xi_iload C dX6_bestOrder_51 5 rfl ?_
          refine xi_if_eq (tgt := 61) C dX6_bestOrder_53 (by decide) (fun c10 => ?_) (fun c10 => ?_)
          rotate_left
          · first | exact absurd c10 (by decide) | exact absurd (by decide) c10
          refine xi_iload_n C dX6_bestOrder_61 rfl 2 rfl ?_
          refine xi_istore_n (lv2 := [(0, .ref o0), (1, .int x1_8), (2, .int x2_8), (3, .int x3_8), (4, .int v2), (5, .int 0)]) C dX6_bestOrder_62 rfl (by decide) [0, 1, 3, 4, 5] [1, 2, 0, 3, 4, 5] rfl ?_
          refine xi_iinc (v := x3_8 + 1) (lv2 := [(0, .ref o0), (1, .int x1_8), (2, .int x2_8), (3, .int (x3_8 + 1)), (4, .int v2), (5, .int 0)]) C dX6_bestOrder_63 3 rfl (by rfl) (by decide) [0, 1, 2, 4, 5] [1, 2, 3, 0, 4, 5] rfl ?_
          refine xi_goto (tgt := 8) C dX6_bestOrder_66 (by decide) ?_
          exact xb_lv (ih x1_8 x2_8 (x3_8 + 1) thn3 hld4 far5 don6 h hk) [0, 1, 2, 3] rfl
        · have h := ie_i c8 h
          refine xi_iload C dX6_bestOrder_27 4 rfl ?_
          refine xi_iload_n C dX6_bestOrder_29 rfl 2 rfl ?_
          refine xi_icmp_ge (tgt := 37) C dX6_bestOrder_30 (by decide) (fun c11 => ?_) (fun c11 => ?_)
          · have h := it_i c11 h
            refine xi_iconst (v := 0) C dX6_bestOrder_37 (by decide) ?_
            refine xi_istore (lv2 := [(0, .ref o0), (1, .int x1_8), (2, .int x2_8), (3, .int x3_8), (4, .int v2), (5, .int 0)]) C dX6_bestOrder_38 (by decide) [0, 1, 2, 3, 4] [1, 2, 3, 4, 5, 0] rfl ?_
            refine xi_iload C dX6_bestOrder_40 5 rfl ?_
            refine xi_if_eq (tgt := 49) C dX6_bestOrder_42 (by decide) (fun c12 => ?_) (fun c12 => ?_)
            rotate_left
            · first | exact absurd c12 (by decide) | exact absurd (by decide) c12
            refine xi_iload_n C dX6_bestOrder_49 rfl 1 rfl ?_
            refine xi_istore_n (lv2 := [(0, .ref o0), (1, .int x1_8), (2, .int x2_8), (3, .int x3_8), (4, .int v2), (5, .int 0)]) C dX6_bestOrder_50 rfl (by decide) [0, 2, 3, 4, 5] [1, 0, 2, 3, 4, 5] rfl ?_
            refine xi_iload C dX6_bestOrder_51 5 rfl ?_
            refine xi_if_eq (tgt := 61) C dX6_bestOrder_53 (by decide) (fun c13 => ?_) (fun c13 => ?_)
            rotate_left
            · first | exact absurd c13 (by decide) | exact absurd (by decide) c13
            refine xi_iload_n C dX6_bestOrder_61 rfl 2 rfl ?_
            refine xi_istore_n (lv2 := [(0, .ref o0), (1, .int x1_8), (2, .int x2_8), (3, .int x3_8), (4, .int v2), (5, .int 0)]) C dX6_bestOrder_62 rfl (by decide) [0, 1, 3, 4, 5] [1, 2, 0, 3, 4, 5] rfl ?_
            refine xi_iinc (v := x3_8 + 1) (lv2 := [(0, .ref o0), (1, .int x1_8), (2, .int x2_8), (3, .int (x3_8 + 1)), (4, .int v2), (5, .int 0)]) C dX6_bestOrder_63 3 rfl (by rfl) (by decide) [0, 1, 2, 4, 5] [1, 2, 3, 0, 4, 5] rfl ?_
            refine xi_goto (tgt := 8) C dX6_bestOrder_66 (by decide) ?_
            exact xb_lv (ih x1_8 x2_8 (x3_8 + 1) thn3 hld4 far5 don6 h hk) [0, 1, 2, 3] rfl
          · have h := ie_i c11 h
            refine xi_iconst (v := 1) C dX6_bestOrder_33 (by decide) ?_
            refine xi_goto (tgt := 38) C dX6_bestOrder_34 (by decide) ?_
            refine xi_istore (lv2 := [(0, .ref o0), (1, .int x1_8), (2, .int x2_8), (3, .int x3_8), (4, .int v2), (5, .int 1)]) C dX6_bestOrder_38 (by decide) [0, 1, 2, 3, 4] [1, 2, 3, 4, 5, 0] rfl ?_
            refine xi_iload C dX6_bestOrder_40 5 rfl ?_
            refine xi_if_eq (tgt := 49) C dX6_bestOrder_42 (by decide) (fun c14 => ?_) (fun c14 => ?_)
            · first | exact absurd c14 (by decide) | exact absurd (by decide) c14
            refine xi_iload_n C dX6_bestOrder_45 rfl 3 rfl ?_
            refine xi_goto (tgt := 50) C dX6_bestOrder_46 (by decide) ?_
            refine xi_istore_n (lv2 := [(0, .ref o0), (1, .int x3_8), (2, .int x2_8), (3, .int x3_8), (4, .int v2), (5, .int 1)]) C dX6_bestOrder_50 rfl (by decide) [0, 2, 3, 4, 5] [1, 0, 2, 3, 4, 5] rfl ?_
            refine xi_iload C dX6_bestOrder_51 5 rfl ?_
            refine xi_if_eq (tgt := 61) C dX6_bestOrder_53 (by decide) (fun c15 => ?_) (fun c15 => ?_)
            · first | exact absurd c15 (by decide) | exact absurd (by decide) c15
            refine xi_iload C dX6_bestOrder_56 4 rfl ?_
            refine xi_goto (tgt := 62) C dX6_bestOrder_58 (by decide) ?_
            refine xi_istore_n (lv2 := [(0, .ref o0), (1, .int x3_8), (2, .int v2), (3, .int x3_8), (4, .int v2), (5, .int 1)]) C dX6_bestOrder_62 rfl (by decide) [0, 1, 3, 4, 5] [1, 2, 0, 3, 4, 5] rfl ?_
            refine xi_iinc (v := x3_8 + 1) (lv2 := [(0, .ref o0), (1, .int x3_8), (2, .int v2), (3, .int (x3_8 + 1)), (4, .int v2), (5, .int 1)]) C dX6_bestOrder_63 3 rfl (by rfl) (by decide) [0, 1, 2, 4, 5] [1, 2, 3, 0, 4, 5] rfl ?_
            refine xi_goto (tgt := 8) C dX6_bestOrder_66 (by decide) ?_
            exact xb_lv (ih x3_8 v2 (x3_8 + 1) thn3 hld4 far5 don6 h hk) [0, 1, 2, 3] rfl
  unfold f_X6_bestOrder at h
  refine xi_bipush (v := (-5)) C dX6_bestOrder_0 (by decide) ?_
  refine xi_istore_n (lv2 := [(0, .ref o0), (1, .int (-5))]) C dX6_bestOrder_2 rfl (by decide) [0] [1, 0] rfl ?_
  refine xi_ldc (v := 1000000) C dX6_bestOrder_3 (List.mem_of_getElem? (i := 1) rfl) ?_
  refine xi_istore_n (lv2 := [(0, .ref o0), (1, .int (-5)), (2, .int 1000000)]) C dX6_bestOrder_5 rfl (by decide) [0, 1] [1, 2, 0] rfl ?_
  refine xi_iconst (v := 0) C dX6_bestOrder_6 (by decide) ?_
  refine xi_istore_n (lv2 := [(0, .ref o0), (1, .int (-5)), (2, .int 1000000), (3, .int 0)]) C dX6_bestOrder_7 rfl (by decide) [0, 1, 2] [1, 2, 3, 0] rfl ?_
  refine xb_lv (lp8 _ xFu (-5) 1000000 0 thn hld far don h (fun x1z16 thnz16 hldz16 farz16 donz16 h => ?_)) [0, 1, 2, 3] rfl
  refine xi_iload_n C dX6_bestOrder_69 rfl 0 rfl ?_
  have w0 := Option.some.inj h
  obtain ⟨q0, w1⟩ := Prod.mk.inj w0
  obtain ⟨q1, w2⟩ := Prod.mk.inj w1
  obtain ⟨q2, w3⟩ := Prod.mk.inj w2
  obtain ⟨q3, w4⟩ := Prod.mk.inj w3
  subst q0
  subst q1
  subst q2
  subst q3
  subst w4
  exact xi_iret C Z dX6_bestOrder_70
def f_X6_wires_4 (now : Nat → Int32) (k : Int32 → Option (Int32)) : Nat → Int32 → Int32 → Option (Int32)
  | 0, _, _ => none
  | n + 1, x1_4, x2_4 =>
    if 72 ≤ x2_4 then
      k x1_4
    else
      (f_X6_isWire now x2_4).bind fun v2 =>
      if v2 = 0 then
        f_X6_wires_4 now k n (x1_4 + 0) (x2_4 + 1)
      else
        f_X6_wires_4 now k n (x1_4 + 1) (x2_4 + 1)
def f_X6_wires (now : Nat → Int32) : Option (Int32) :=
  f_X6_wires_4 now (fun x1z5 =>
    some x1z5) xFu 0 0
theorem k_X6_wires : xb_Y yX6_wires cX6_wires wsX6_wires 3 (some .int) { frames := 4, cells := 0, slots := 0, locals := 84 } 0 := ⟨⟨_, rfl⟩, by decide, ⟨by decide, by decide, by decide +kernel⟩, rfl, rfl⟩
theorem fl_X6_wires_7 : Cond.fieldLink RX6 7 "LookupBoardModel" "now" "[I" ∈ wsX6_wires := List.mem_of_getElem? (i := 1) rfl
theorem iw_X6_wires_6 : ∀ w ∈ wsX60, w ∈ wsX6_wires := fun w h => List.mem_cons_of_mem _ (List.mem_append_right _ h)
set_option maxHeartbeats 4000000 in
set_option maxRecDepth 100000 in
theorem m_X6_wires (D : va_G) (cI cC cZ cR : ClassId) (o0 : Nat) (ma : Nat → Nat) (st : Int32) (ik : Int32) (le : Int32) (sp : Int32) (nu : Int32) (now : Nat → Int32) (thn : Nat → Int32) (pst : Nat → Int32) (snp : Nat → Int32) (txt : Nat → Int32) (hld : Nat → Int32) (far : Nat → Int32) (don : Nat → Int32) (tld : Nat → Int32) (dep : Nat → Int32) (bit : Nat → Int32) (r : Int32) (h : f_X6_wires now = some r) : xb_M cX6_wires wsX6_wires RX6 { frames := 4, cells := 0, slots := 0, locals := 84 } (some .int) 3 (xb_ty cI cC cZ cR) D [.ref o0] (wMo o0 ma st ik le sp nu ++ wAr cI (ma 0) 1898 now ++ wAr cI (ma 1) 1898 thn ++ wAr cI (ma 2) 7592 pst ++ wAr cI (ma 3) 1898 snp ++ wAr cC (ma 4) 80 txt ++ wAr cI (ma 5) 48 hld ++ wAr cI (ma 6) 24 far ++ wAr cZ (ma 7) 72 don ++ wAr cI (ma 8) 96 tld ++ wAr cI (ma 9) 24 dep ++ wAr cI (ma 10) 24 bit) (some (.int r)) (wMo o0 ma st ik le sp nu ++ wAr cI (ma 0) 1898 now ++ wAr cI (ma 1) 1898 thn ++ wAr cI (ma 2) 7592 pst ++ wAr cI (ma 3) 1898 snp ++ wAr cC (ma 4) 80 txt ++ wAr cI (ma 5) 48 hld ++ wAr cI (ma 6) 24 far ++ wAr cZ (ma 7) 72 don ++ wAr cI (ma 8) 96 tld ++ wAr cI (ma 9) 24 dep ++ wAr cI (ma 10) 24 bit) := by
  intro X C Z
  show xb_G X 0 0 (wMo o0 ma st ik le sp nu ++ wAr cI (ma 0) 1898 now ++ wAr cI (ma 1) 1898 thn ++ wAr cI (ma 2) 7592 pst ++ wAr cI (ma 3) 1898 snp ++ wAr cC (ma 4) 80 txt ++ wAr cI (ma 5) 48 hld ++ wAr cI (ma 6) 24 far ++ wAr cZ (ma 7) 72 don ++ wAr cI (ma 8) 96 tld ++ wAr cI (ma 9) 24 dep ++ wAr cI (ma 10) 24 bit) [(0, .ref o0)] 0 []
  have lp4 : ∀ (k : Int32 → Option (Int32)) (n : Nat) (x1_4 : Int32) (x2_4 : Int32), f_X6_wires_4 now k n x1_4 x2_4 = some r → (∀ (x1_4e : Int32), k x1_4e = some r → xb_G X 0 0 (wMo o0 ma st ik le sp nu ++ wAr cI (ma 0) 1898 now ++ wAr cI (ma 1) 1898 thn ++ wAr cI (ma 2) 7592 pst ++ wAr cI (ma 3) 1898 snp ++ wAr cC (ma 4) 80 txt ++ wAr cI (ma 5) 48 hld ++ wAr cI (ma 6) 24 far ++ wAr cZ (ma 7) 72 don ++ wAr cI (ma 8) 96 tld ++ wAr cI (ma 9) 24 dep ++ wAr cI (ma 10) 24 bit) [(1, .int x1_4e)] 35 []) → xb_G X 0 0 (wMo o0 ma st ik le sp nu ++ wAr cI (ma 0) 1898 now ++ wAr cI (ma 1) 1898 thn ++ wAr cI (ma 2) 7592 pst ++ wAr cI (ma 3) 1898 snp ++ wAr cC (ma 4) 80 txt ++ wAr cI (ma 5) 48 hld ++ wAr cI (ma 6) 24 far ++ wAr cZ (ma 7) 72 don ++ wAr cI (ma 8) 96 tld ++ wAr cI (ma 9) 24 dep ++ wAr cI (ma 10) 24 bit) [(0, .ref o0), (1, .int x1_4), (2, .int x2_4)] 4 [] := by
    intro k n
    induction n with
    | zero => intro x1_4 x2_4 h hk; unfold f_X6_wires_4 at h; cases h
    | succ n ih =>
      intro x1_4 x2_4 h hk
      unfold f_X6_wires_4 at h
      refine xi_iload_n C dX6_wires_4 rfl 2 rfl ?_
      refine xi_bipush (v := 72) C dX6_wires_5 (by decide) ?_
      refine xi_icmp_ge (tgt := 35) C dX6_wires_7 (by decide) (fun c1 => ?_) (fun c1 => ?_)
      · have h := it_i c1 h
        exact xb_lv (hk x1_4 h) [1] rfl
      · have h := ie_i c1 h
        refine xi_iload_n C dX6_wires_10 rfl 1 rfl ?_
        refine xi_aload_n C dX6_wires_11 rfl 0 rfl ?_
        refine xi_get C dX6_wires_12 iw_X6_wires_6 0 rfl rfl 0 (by decide) fl_X6_wires_7 rfl ?_
        refine xi_iload_n C dX6_wires_15 rfl 2 rfl ?_
        obtain ⟨v2, e3, h⟩ := ob_i h
        refine xi_callS (As := [.ref (ma 0), .int x2_4]) (o := some (.int v2)) (rest := [.int x1_4]) (w2 := (wMo o0 ma st ik le sp nu ++ wAr cI (ma 0) 1898 now ++ wAr cI (ma 1) 1898 thn ++ wAr cI (ma 2) 7592 pst ++ wAr cI (ma 3) 1898 snp ++ wAr cC (ma 4) 80 txt ++ wAr cI (ma 5) 48 hld ++ wAr cI (ma 6) 24 far ++ wAr cZ (ma 7) 72 don ++ wAr cI (ma 8) 96 tld ++ wAr cI (ma 9) 24 dep ++ wAr cI (ma 10) 24 bit)) (st2 := [.int v2, .int x1_4]) C k_X6_isWire (m_X6_isWire D cI cC cZ cR (ma 0) now x2_4 v2 e3) gX6_wires_X6_isWire dX6_wires_16 ⟨Nat.le_of_ble_eq_true rfl, Nat.le_of_ble_eq_true rfl, Nat.le_of_ble_eq_true rfl⟩ [1] mxC_X6_1 rfl [0, 1, 2, 3] rfl mxF_X6_1 mxM_X6_1 rfl (Nat.le_of_ble_eq_true rfl) ⟨Nat.zero_le _, Nat.zero_le _⟩ rfl ?_
        refine xi_if_eq (tgt := 26) C dX6_wires_19 (by decide) (fun c4 => ?_) (fun c4 => ?_)
        · have h := it_i c4 h
          refine xi_iconst (v := 0) C dX6_wires_26 (by decide) ?_
          refine xi_iadd C dX6_wires_27 ?_
          refine xi_istore_n (lv2 := [(0, .ref o0), (1, .int (x1_4 + 0)), (2, .int x2_4)]) C dX6_wires_28 rfl (by decide) [0, 2] [1, 0, 2] rfl ?_
          refine xi_iinc (v := x2_4 + 1) (lv2 := [(0, .ref o0), (1, .int (x1_4 + 0)), (2, .int (x2_4 + 1))]) C dX6_wires_29 2 rfl (by rfl) (by decide) [0, 1] [1, 2, 0] rfl ?_
          refine xi_goto (tgt := 4) C dX6_wires_32 (by decide) ?_
          exact xb_lv (ih (x1_4 + 0) (x2_4 + 1) h hk) [0, 1, 2] rfl
        · have h := ie_i c4 h
          refine xi_iconst (v := 1) C dX6_wires_22 (by decide) ?_
          refine xi_goto (tgt := 27) C dX6_wires_23 (by decide) ?_
          refine xi_iadd C dX6_wires_27 ?_
          refine xi_istore_n (lv2 := [(0, .ref o0), (1, .int (x1_4 + 1)), (2, .int x2_4)]) C dX6_wires_28 rfl (by decide) [0, 2] [1, 0, 2] rfl ?_
          refine xi_iinc (v := x2_4 + 1) (lv2 := [(0, .ref o0), (1, .int (x1_4 + 1)), (2, .int (x2_4 + 1))]) C dX6_wires_29 2 rfl (by rfl) (by decide) [0, 1] [1, 2, 0] rfl ?_
          refine xi_goto (tgt := 4) C dX6_wires_32 (by decide) ?_
          exact xb_lv (ih (x1_4 + 1) (x2_4 + 1) h hk) [0, 1, 2] rfl
  unfold f_X6_wires at h
  refine xi_iconst (v := 0) C dX6_wires_0 (by decide) ?_
  refine xi_istore_n (lv2 := [(0, .ref o0), (1, .int 0)]) C dX6_wires_1 rfl (by decide) [0] [1, 0] rfl ?_
  refine xi_iconst (v := 0) C dX6_wires_2 (by decide) ?_
  refine xi_istore_n (lv2 := [(0, .ref o0), (1, .int 0), (2, .int 0)]) C dX6_wires_3 rfl (by decide) [0, 1] [1, 2, 0] rfl ?_
  refine xb_lv (lp4 _ xFu 0 0 h (fun x1z5 h => ?_)) [0, 1, 2] rfl
  refine xi_iload_n C dX6_wires_35 rfl 0 rfl ?_
  have w0 := Option.some.inj h
  subst w0
  exact xi_iret C Z dX6_wires_36
def f_X6_full_12 (now : Nat → Int32) (hld_12 : Nat → Int32) (k : Int32 → Option (Int32 × (Nat → Int32))) : Nat → Int32 → Int32 → Option (Int32 × (Nat → Int32))
  | 0, _, _ => none
  | n + 1, x1_12, x2_12 =>
    if 48 ≤ x2_12 then
      k x1_12
    else
      (xr_d hld_12 48 x2_12).bind fun v4 =>
      (xr_d now 1898 1896).bind fun v6 =>
      if v4 < v6 then
        f_X6_full_12 now hld_12 k n (x1_12 + 0) (x2_12 + 1)
      else
        f_X6_full_12 now hld_12 k n (x1_12 + 1) (x2_12 + 1)
def f_X6_full (now : Nat → Int32) (hld : Nat → Int32) : Option (Int32 × (Nat → Int32)) :=
  (f_X6_counts hld now).bind fun hld1 =>
  f_X6_full_12 now hld1 (fun x1z9 =>
    some (x1z9, hld1)) xFu 0 0
theorem k_X6_full : xb_Y yX6_full cX6_full wsX6_full 3 (some .int) { frames := 2, cells := 0, slots := 0, locals := 47 } 0 := ⟨⟨_, rfl⟩, by decide, ⟨by decide, by decide, by decide +kernel⟩, rfl, rfl⟩
theorem fl_X6_full_7 : Cond.fieldLink RX6 7 "LookupBoardModel" "now" "[I" ∈ wsX6_full := List.mem_of_getElem? (i := 1) rfl
theorem fl_X6_full_26 : Cond.fieldLink RX6 26 "LookupBoardModel" "held" "[I" ∈ wsX6_full := List.mem_of_getElem? (i := 2) rfl
theorem iw_X6_full_6 : ∀ w ∈ wsX60, w ∈ wsX6_full := fun w h => List.mem_cons_of_mem _ (List.mem_append_right _ h)
set_option maxHeartbeats 4000000 in
set_option maxRecDepth 100000 in
theorem m_X6_full (D : va_G) (cI cC cZ cR : ClassId) (o0 : Nat) (ma : Nat → Nat) (st : Int32) (ik : Int32) (le : Int32) (sp : Int32) (nu : Int32) (now : Nat → Int32) (thn : Nat → Int32) (pst : Nat → Int32) (snp : Nat → Int32) (txt : Nat → Int32) (hld : Nat → Int32) (far : Nat → Int32) (don : Nat → Int32) (tld : Nat → Int32) (dep : Nat → Int32) (bit : Nat → Int32) (r : Int32) (hld' : Nat → Int32) (h : f_X6_full now hld = some (r, hld')) : xb_M cX6_full wsX6_full RX6 { frames := 2, cells := 0, slots := 0, locals := 47 } (some .int) 3 (xb_ty cI cC cZ cR) D [.ref o0] (wMo o0 ma st ik le sp nu ++ wAr cI (ma 0) 1898 now ++ wAr cI (ma 1) 1898 thn ++ wAr cI (ma 2) 7592 pst ++ wAr cI (ma 3) 1898 snp ++ wAr cC (ma 4) 80 txt ++ wAr cI (ma 5) 48 hld ++ wAr cI (ma 6) 24 far ++ wAr cZ (ma 7) 72 don ++ wAr cI (ma 8) 96 tld ++ wAr cI (ma 9) 24 dep ++ wAr cI (ma 10) 24 bit) (some (.int r)) (wMo o0 ma st ik le sp nu ++ wAr cI (ma 0) 1898 now ++ wAr cI (ma 1) 1898 thn ++ wAr cI (ma 2) 7592 pst ++ wAr cI (ma 3) 1898 snp ++ wAr cC (ma 4) 80 txt ++ wAr cI (ma 5) 48 hld' ++ wAr cI (ma 6) 24 far ++ wAr cZ (ma 7) 72 don ++ wAr cI (ma 8) 96 tld ++ wAr cI (ma 9) 24 dep ++ wAr cI (ma 10) 24 bit) := by
  intro X C Z
  show xb_G X 0 0 (wMo o0 ma st ik le sp nu ++ wAr cI (ma 0) 1898 now ++ wAr cI (ma 1) 1898 thn ++ wAr cI (ma 2) 7592 pst ++ wAr cI (ma 3) 1898 snp ++ wAr cC (ma 4) 80 txt ++ wAr cI (ma 5) 48 hld ++ wAr cI (ma 6) 24 far ++ wAr cZ (ma 7) 72 don ++ wAr cI (ma 8) 96 tld ++ wAr cI (ma 9) 24 dep ++ wAr cI (ma 10) 24 bit) [(0, .ref o0)] 0 []
  have lp12 : ∀ (hld_12 : Nat → Int32) (k : Int32 → Option (Int32 × (Nat → Int32))) (n : Nat) (x1_12 : Int32) (x2_12 : Int32), f_X6_full_12 now hld_12 k n x1_12 x2_12 = some (r, hld') → (∀ (x1_12e : Int32), k x1_12e = some (r, hld') → xb_G X 0 0 (wMo o0 ma st ik le sp nu ++ wAr cI (ma 0) 1898 now ++ wAr cI (ma 1) 1898 thn ++ wAr cI (ma 2) 7592 pst ++ wAr cI (ma 3) 1898 snp ++ wAr cC (ma 4) 80 txt ++ wAr cI (ma 5) 48 hld_12 ++ wAr cI (ma 6) 24 far ++ wAr cZ (ma 7) 72 don ++ wAr cI (ma 8) 96 tld ++ wAr cI (ma 9) 24 dep ++ wAr cI (ma 10) 24 bit) [(1, .int x1_12e)] 49 []) → xb_G X 0 0 (wMo o0 ma st ik le sp nu ++ wAr cI (ma 0) 1898 now ++ wAr cI (ma 1) 1898 thn ++ wAr cI (ma 2) 7592 pst ++ wAr cI (ma 3) 1898 snp ++ wAr cC (ma 4) 80 txt ++ wAr cI (ma 5) 48 hld_12 ++ wAr cI (ma 6) 24 far ++ wAr cZ (ma 7) 72 don ++ wAr cI (ma 8) 96 tld ++ wAr cI (ma 9) 24 dep ++ wAr cI (ma 10) 24 bit) [(0, .ref o0), (1, .int x1_12), (2, .int x2_12)] 12 [] := by
    intro hld_12 k n
    induction n with
    | zero => intro x1_12 x2_12 h hk; unfold f_X6_full_12 at h; cases h
    | succ n ih =>
      intro x1_12 x2_12 h hk
      unfold f_X6_full_12 at h
      refine xi_iload_n C dX6_full_12 rfl 2 rfl ?_
      refine xi_bipush (v := 48) C dX6_full_13 (by decide) ?_
      refine xi_icmp_ge (tgt := 49) C dX6_full_15 (by decide) (fun c3 => ?_) (fun c3 => ?_)
      · have h := it_i c3 h
        exact xb_lv (hk x1_12 h) [1] rfl
      · have h := ie_i c3 h
        refine xi_iload_n C dX6_full_18 rfl 1 rfl ?_
        refine xi_aload_n C dX6_full_19 rfl 0 rfl ?_
        refine xi_get C dX6_full_20 iw_X6_full_6 0 rfl rfl 8 (by decide) fl_X6_full_26 rfl ?_
        refine xi_iload_n C dX6_full_23 rfl 2 rfl ?_
        obtain ⟨v4, e5, h⟩ := ob_i h
        refine xi_iald C dX6_full_24 6 0 rfl rfl e5 ?_
        refine xi_aload_n C dX6_full_25 rfl 0 rfl ?_
        refine xi_get C dX6_full_26 iw_X6_full_6 0 rfl rfl 0 (by decide) fl_X6_full_7 rfl ?_
        refine xi_sipush (v := 1896) C dX6_full_29 (by decide) ?_
        obtain ⟨v6, e7, h⟩ := ob_i h
        refine xi_iald C dX6_full_32 1 0 rfl rfl e7 ?_
        refine xi_icmp_lt (tgt := 40) C dX6_full_33 (by decide) (fun c8 => ?_) (fun c8 => ?_)
        · have h := it_i c8 h
          refine xi_iconst (v := 0) C dX6_full_40 (by decide) ?_
          refine xi_iadd C dX6_full_41 ?_
          refine xi_istore_n (lv2 := [(0, .ref o0), (1, .int (x1_12 + 0)), (2, .int x2_12)]) C dX6_full_42 rfl (by decide) [0, 2] [1, 0, 2] rfl ?_
          refine xi_iinc (v := x2_12 + 1) (lv2 := [(0, .ref o0), (1, .int (x1_12 + 0)), (2, .int (x2_12 + 1))]) C dX6_full_43 2 rfl (by rfl) (by decide) [0, 1] [1, 2, 0] rfl ?_
          refine xi_goto (tgt := 12) C dX6_full_46 (by decide) ?_
          exact xb_lv (ih (x1_12 + 0) (x2_12 + 1) h hk) [0, 1, 2] rfl
        · have h := ie_i c8 h
          refine xi_iconst (v := 1) C dX6_full_36 (by decide) ?_
          refine xi_goto (tgt := 41) C dX6_full_37 (by decide) ?_
          refine xi_iadd C dX6_full_41 ?_
          refine xi_istore_n (lv2 := [(0, .ref o0), (1, .int (x1_12 + 1)), (2, .int x2_12)]) C dX6_full_42 rfl (by decide) [0, 2] [1, 0, 2] rfl ?_
          refine xi_iinc (v := x2_12 + 1) (lv2 := [(0, .ref o0), (1, .int (x1_12 + 1)), (2, .int (x2_12 + 1))]) C dX6_full_43 2 rfl (by rfl) (by decide) [0, 1] [1, 2, 0] rfl ?_
          refine xi_goto (tgt := 12) C dX6_full_46 (by decide) ?_
          exact xb_lv (ih (x1_12 + 1) (x2_12 + 1) h hk) [0, 1, 2] rfl
  unfold f_X6_full at h
  refine xi_aload_n C dX6_full_0 rfl 0 rfl ?_
  refine xi_aload_n C dX6_full_1 rfl 0 rfl ?_
  refine xi_get C dX6_full_2 iw_X6_full_6 0 rfl rfl 0 (by decide) fl_X6_full_7 rfl ?_
  obtain ⟨hld1, e2, h⟩ := ob_i h
  refine xi_callV (As := [.ref (ma 0)]) (o := none) (rest := []) (w2 := (wMo o0 ma st ik le sp nu ++ wAr cI (ma 0) 1898 now ++ wAr cI (ma 1) 1898 thn ++ wAr cI (ma 2) 7592 pst ++ wAr cI (ma 3) 1898 snp ++ wAr cC (ma 4) 80 txt ++ wAr cI (ma 5) 48 hld1 ++ wAr cI (ma 6) 24 far ++ wAr cZ (ma 7) 72 don ++ wAr cI (ma 8) 96 tld ++ wAr cI (ma 9) 24 dep ++ wAr cI (ma 10) 24 bit)) (st2 := []) C k_X6_counts (m_X6_counts D cI cC cZ cR o0 ma (ma 0) st ik le sp nu hld far don now hld1 e2) gX6_full_X6_counts dX6_full_5 ⟨Nat.le_of_ble_eq_true rfl, Nat.le_of_ble_eq_true rfl, Nat.le_of_ble_eq_true rfl⟩ 0 rfl rfl [0, 6, 7, 8, 1] mxC_X6_0_6_7_8_1 rfl [0, 1, 2, 3] rfl mxF_X6_0_6_7_8_1 mxM_X6_0_6_7_8_1 rfl (Nat.le_of_ble_eq_true rfl) ⟨Nat.zero_le _, Nat.zero_le _⟩ rfl ?_
  refine xi_iconst (v := 0) C dX6_full_8 (by decide) ?_
  refine xi_istore_n (lv2 := [(0, .ref o0), (1, .int 0)]) C dX6_full_9 rfl (by decide) [0] [1, 0] rfl ?_
  refine xi_iconst (v := 0) C dX6_full_10 (by decide) ?_
  refine xi_istore_n (lv2 := [(0, .ref o0), (1, .int 0), (2, .int 0)]) C dX6_full_11 rfl (by decide) [0, 1] [1, 2, 0] rfl ?_
  refine xb_lv (lp12 hld1 _ xFu 0 0 h (fun x1z9 h => ?_)) [0, 1, 2] rfl
  refine xi_iload_n C dX6_full_49 rfl 0 rfl ?_
  have w0 := Option.some.inj h
  obtain ⟨q0, w1⟩ := Prod.mk.inj w0
  subst q0
  subst w1
  exact xi_iret C Z dX6_full_50
def f_X6_ofDepths_12 (now : Nat → Int32) (dep_12 : Nat → Int32) (k : Int32 → Int32 → Option (Int32 × (Nat → Int32) × (Nat → Int32))) : Nat → Int32 → Int32 → Int32 → Option (Int32 × (Nat → Int32) × (Nat → Int32))
  | 0, _, _, _ => none
  | n + 1, x2_12, x3_12, x4_12 =>
    if 24 ≤ x4_12 then
      k x2_12 x3_12
    else
      (f_X6_isCell now x4_12).bind fun v5 =>
      if v5 = 0 then
        (xr_d dep_12 24 x4_12).bind fun v8 =>
        if v8 ≤ x3_12 then
          f_X6_ofDepths_12 now dep_12 k n (x2_12 + 0) x3_12 (x4_12 + 1)
        else
          (xr_d dep_12 24 x4_12).bind fun v11 =>
          f_X6_ofDepths_12 now dep_12 k n (x2_12 + 0) v11 (x4_12 + 1)
      else
        (xr_d dep_12 24 x4_12).bind fun v13 =>
        if v13 = (-5) then
          (xr_d dep_12 24 x4_12).bind fun v21 =>
          if v21 ≤ x3_12 then
            f_X6_ofDepths_12 now dep_12 k n (x2_12 + 1) x3_12 (x4_12 + 1)
          else
            (xr_d dep_12 24 x4_12).bind fun v24 =>
            f_X6_ofDepths_12 now dep_12 k n (x2_12 + 1) v24 (x4_12 + 1)
        else
          (xr_d dep_12 24 x4_12).bind fun v16 =>
          if v16 ≤ x3_12 then
            f_X6_ofDepths_12 now dep_12 k n (x2_12 + 0) x3_12 (x4_12 + 1)
          else
            (xr_d dep_12 24 x4_12).bind fun v19 =>
            f_X6_ofDepths_12 now dep_12 k n (x2_12 + 0) v19 (x4_12 + 1)
def f_X6_ofDepths (now : Nat → Int32) (dep : Nat → Int32) (bit : Nat → Int32) (p1 : Int32) : Option (Int32 × (Nat → Int32) × (Nat → Int32)) :=
  (f_X6_answers now dep bit 0).bind fun (dep1, bit2) =>
  f_X6_ofDepths_12 now dep1 (fun x2z26 x3z26 =>
    if p1 = 0 then
      some (x2z26, dep1, bit2)
    else
      some (x3z26, dep1, bit2)) xFu 0 0 0
theorem k_X6_ofDepths : xb_Y yX6_ofDepths cX6_ofDepths wsX6_ofDepths 5 (some .int) { frames := 4, cells := 0, slots := 0, locals := 86 } 1 := ⟨⟨_, rfl⟩, by decide, ⟨by decide, by decide, by decide +kernel⟩, rfl, rfl⟩
theorem fl_X6_ofDepths_7 : Cond.fieldLink RX6 7 "LookupBoardModel" "now" "[I" ∈ wsX6_ofDepths := List.mem_of_getElem? (i := 1) rfl
theorem fl_X6_ofDepths_39 : Cond.fieldLink RX6 39 "LookupBoardModel" "depth" "[I" ∈ wsX6_ofDepths := List.mem_of_getElem? (i := 2) rfl
theorem iw_X6_ofDepths_6 : ∀ w ∈ wsX60, w ∈ wsX6_ofDepths := fun w h => List.mem_cons_of_mem _ (List.mem_append_right _ h)
set_option maxHeartbeats 4000000 in
set_option maxRecDepth 100000 in
theorem m_X6_ofDepths (D : va_G) (cI cC cZ cR : ClassId) (o0 : Nat) (ma : Nat → Nat) (st : Int32) (ik : Int32) (le : Int32) (sp : Int32) (nu : Int32) (now : Nat → Int32) (thn : Nat → Int32) (pst : Nat → Int32) (snp : Nat → Int32) (txt : Nat → Int32) (hld : Nat → Int32) (far : Nat → Int32) (don : Nat → Int32) (tld : Nat → Int32) (dep : Nat → Int32) (bit : Nat → Int32) (p1 : Int32) (r : Int32) (dep' : Nat → Int32) (bit' : Nat → Int32) (h : f_X6_ofDepths now dep bit p1 = some (r, dep', bit')) : xb_M cX6_ofDepths wsX6_ofDepths RX6 { frames := 4, cells := 0, slots := 0, locals := 86 } (some .int) 5 (xb_ty cI cC cZ cR) D [.ref o0, .int p1] (wMo o0 ma st ik le sp nu ++ wAr cI (ma 0) 1898 now ++ wAr cI (ma 1) 1898 thn ++ wAr cI (ma 2) 7592 pst ++ wAr cI (ma 3) 1898 snp ++ wAr cC (ma 4) 80 txt ++ wAr cI (ma 5) 48 hld ++ wAr cI (ma 6) 24 far ++ wAr cZ (ma 7) 72 don ++ wAr cI (ma 8) 96 tld ++ wAr cI (ma 9) 24 dep ++ wAr cI (ma 10) 24 bit) (some (.int r)) (wMo o0 ma st ik le sp nu ++ wAr cI (ma 0) 1898 now ++ wAr cI (ma 1) 1898 thn ++ wAr cI (ma 2) 7592 pst ++ wAr cI (ma 3) 1898 snp ++ wAr cC (ma 4) 80 txt ++ wAr cI (ma 5) 48 hld ++ wAr cI (ma 6) 24 far ++ wAr cZ (ma 7) 72 don ++ wAr cI (ma 8) 96 tld ++ wAr cI (ma 9) 24 dep' ++ wAr cI (ma 10) 24 bit') := by
  intro X C Z
  show xb_G X 0 0 (wMo o0 ma st ik le sp nu ++ wAr cI (ma 0) 1898 now ++ wAr cI (ma 1) 1898 thn ++ wAr cI (ma 2) 7592 pst ++ wAr cI (ma 3) 1898 snp ++ wAr cC (ma 4) 80 txt ++ wAr cI (ma 5) 48 hld ++ wAr cI (ma 6) 24 far ++ wAr cZ (ma 7) 72 don ++ wAr cI (ma 8) 96 tld ++ wAr cI (ma 9) 24 dep ++ wAr cI (ma 10) 24 bit) [(0, .ref o0), (1, .int p1)] 0 []
  have lp12 : ∀ (dep_12 : Nat → Int32) (bit_12 : Nat → Int32) (x1_12 : Int32) (k : Int32 → Int32 → Option (Int32 × (Nat → Int32) × (Nat → Int32))) (n : Nat) (x2_12 : Int32) (x3_12 : Int32) (x4_12 : Int32), f_X6_ofDepths_12 now dep_12 k n x2_12 x3_12 x4_12 = some (r, dep', bit') → (∀ (x2_12e : Int32) (x3_12e : Int32), k x2_12e x3_12e = some (r, dep', bit') → xb_G X 0 0 (wMo o0 ma st ik le sp nu ++ wAr cI (ma 0) 1898 now ++ wAr cI (ma 1) 1898 thn ++ wAr cI (ma 2) 7592 pst ++ wAr cI (ma 3) 1898 snp ++ wAr cC (ma 4) 80 txt ++ wAr cI (ma 5) 48 hld ++ wAr cI (ma 6) 24 far ++ wAr cZ (ma 7) 72 don ++ wAr cI (ma 8) 96 tld ++ wAr cI (ma 9) 24 dep_12 ++ wAr cI (ma 10) 24 bit_12) [(1, .int x1_12), (2, .int x2_12e), (3, .int x3_12e)] 80 []) → xb_G X 0 0 (wMo o0 ma st ik le sp nu ++ wAr cI (ma 0) 1898 now ++ wAr cI (ma 1) 1898 thn ++ wAr cI (ma 2) 7592 pst ++ wAr cI (ma 3) 1898 snp ++ wAr cC (ma 4) 80 txt ++ wAr cI (ma 5) 48 hld ++ wAr cI (ma 6) 24 far ++ wAr cZ (ma 7) 72 don ++ wAr cI (ma 8) 96 tld ++ wAr cI (ma 9) 24 dep_12 ++ wAr cI (ma 10) 24 bit_12) [(0, .ref o0), (1, .int x1_12), (2, .int x2_12), (3, .int x3_12), (4, .int x4_12)] 12 [] := by
    intro dep_12 bit_12 x1_12 k n
    induction n with
    | zero => intro x2_12 x3_12 x4_12 h hk; unfold f_X6_ofDepths_12 at h; cases h
    | succ n ih =>
      intro x2_12 x3_12 x4_12 h hk
      unfold f_X6_ofDepths_12 at h
      refine xi_iload C dX6_ofDepths_12 4 rfl ?_
      refine xi_bipush (v := 24) C dX6_ofDepths_14 (by decide) ?_
      refine xi_icmp_ge (tgt := 80) C dX6_ofDepths_16 (by decide) (fun c4 => ?_) (fun c4 => ?_)
      · have h := it_i c4 h
        exact xb_lv (hk x2_12 x3_12 h) [1, 2, 3] rfl
      · have h := ie_i c4 h
        refine xi_iload_n C dX6_ofDepths_19 rfl 2 rfl ?_
        refine xi_aload_n C dX6_ofDepths_20 rfl 0 rfl ?_
        refine xi_get C dX6_ofDepths_21 iw_X6_ofDepths_6 0 rfl rfl 0 (by decide) fl_X6_ofDepths_7 rfl ?_
        refine xi_iload C dX6_ofDepths_24 4 rfl ?_
        obtain ⟨v5, e6, h⟩ := ob_i h
        refine xi_callS (As := [.ref (ma 0), .int x4_12]) (o := some (.int v5)) (rest := [.int x2_12]) (w2 := (wMo o0 ma st ik le sp nu ++ wAr cI (ma 0) 1898 now ++ wAr cI (ma 1) 1898 thn ++ wAr cI (ma 2) 7592 pst ++ wAr cI (ma 3) 1898 snp ++ wAr cC (ma 4) 80 txt ++ wAr cI (ma 5) 48 hld ++ wAr cI (ma 6) 24 far ++ wAr cZ (ma 7) 72 don ++ wAr cI (ma 8) 96 tld ++ wAr cI (ma 9) 24 dep_12 ++ wAr cI (ma 10) 24 bit_12)) (st2 := [.int v5, .int x2_12]) C k_X6_isCell (m_X6_isCell D cI cC cZ cR (ma 0) now x4_12 v5 e6) gX6_ofDepths_X6_isCell dX6_ofDepths_26 ⟨Nat.le_of_ble_eq_true rfl, Nat.le_of_ble_eq_true rfl, Nat.le_of_ble_eq_true rfl⟩ [1] mxC_X6_1 rfl [0, 1, 2, 3] rfl mxF_X6_1 mxM_X6_1 rfl (Nat.le_of_ble_eq_true rfl) ⟨Nat.zero_le _, Nat.zero_le _⟩ rfl ?_
        refine xi_if_eq (tgt := 48) C dX6_ofDepths_29 (by decide) (fun c7 => ?_) (fun c7 => ?_)
        · have h := it_i c7 h
          refine xi_iconst (v := 0) C dX6_ofDepths_48 (by decide) ?_
          refine xi_iadd C dX6_ofDepths_49 ?_
          refine xi_istore_n (lv2 := [(0, .ref o0), (1, .int x1_12), (2, .int (x2_12 + 0)), (3, .int x3_12), (4, .int x4_12)]) C dX6_ofDepths_50 rfl (by decide) [0, 1, 3, 4] [1, 2, 0, 3, 4] rfl ?_
          refine xi_aload_n C dX6_ofDepths_51 rfl 0 rfl ?_
          refine xi_get C dX6_ofDepths_52 iw_X6_ofDepths_6 0 rfl rfl 14 (by decide) fl_X6_ofDepths_39 rfl ?_
          refine xi_iload C dX6_ofDepths_55 4 rfl ?_
          obtain ⟨v8, e9, h⟩ := ob_i h
          refine xi_iald C dX6_ofDepths_57 10 0 rfl rfl e9 ?_
          refine xi_iload_n C dX6_ofDepths_58 rfl 3 rfl ?_
          refine xi_icmp_le (tgt := 72) C dX6_ofDepths_59 (by decide) (fun c10 => ?_) (fun c10 => ?_)
          · have h := it_i c10 h
            refine xi_iload_n C dX6_ofDepths_72 rfl 3 rfl ?_
            refine xi_istore_n (lv2 := [(0, .ref o0), (1, .int x1_12), (2, .int (x2_12 + 0)), (3, .int x3_12), (4, .int x4_12)]) C dX6_ofDepths_73 rfl (by decide) [0, 1, 2, 4] [1, 2, 3, 0, 4] rfl ?_
            refine xi_iinc (v := x4_12 + 1) (lv2 := [(0, .ref o0), (1, .int x1_12), (2, .int (x2_12 + 0)), (3, .int x3_12), (4, .int (x4_12 + 1))]) C dX6_ofDepths_74 4 rfl (by rfl) (by decide) [0, 1, 2, 3] [1, 2, 3, 4, 0] rfl ?_
            refine xi_goto (tgt := 12) C dX6_ofDepths_77 (by decide) ?_
            exact xb_lv (ih (x2_12 + 0) x3_12 (x4_12 + 1) h hk) [0, 1, 2, 3, 4] rfl
          · have h := ie_i c10 h
            refine xi_aload_n C dX6_ofDepths_62 rfl 0 rfl ?_
            refine xi_get C dX6_ofDepths_63 iw_X6_ofDepths_6 0 rfl rfl 14 (by decide) fl_X6_ofDepths_39 rfl ?_
            refine xi_iload C dX6_ofDepths_66 4 rfl ?_
            obtain ⟨v11, e12, h⟩ := ob_i h
            refine xi_iald C dX6_ofDepths_68 10 0 rfl rfl e12 ?_
            refine xi_goto (tgt := 73) C dX6_ofDepths_69 (by decide) ?_
            refine xi_istore_n (lv2 := [(0, .ref o0), (1, .int x1_12), (2, .int (x2_12 + 0)), (3, .int v11), (4, .int x4_12)]) C dX6_ofDepths_73 rfl (by decide) [0, 1, 2, 4] [1, 2, 3, 0, 4] rfl ?_
            refine xi_iinc (v := x4_12 + 1) (lv2 := [(0, .ref o0), (1, .int x1_12), (2, .int (x2_12 + 0)), (3, .int v11), (4, .int (x4_12 + 1))]) C dX6_ofDepths_74 4 rfl (by rfl) (by decide) [0, 1, 2, 3] [1, 2, 3, 4, 0] rfl ?_
            refine xi_goto (tgt := 12) C dX6_ofDepths_77 (by decide) ?_
            exact xb_lv (ih (x2_12 + 0) v11 (x4_12 + 1) h hk) [0, 1, 2, 3, 4] rfl
        · have h := ie_i c7 h
          refine xi_aload_n C dX6_ofDepths_32 rfl 0 rfl ?_
          refine xi_get C dX6_ofDepths_33 iw_X6_ofDepths_6 0 rfl rfl 14 (by decide) fl_X6_ofDepths_39 rfl ?_
          refine xi_iload C dX6_ofDepths_36 4 rfl ?_
          obtain ⟨v13, e14, h⟩ := ob_i h
          refine xi_iald C dX6_ofDepths_38 10 0 rfl rfl e14 ?_
          refine xi_bipush (v := (-5)) C dX6_ofDepths_39 (by decide) ?_
          refine xi_icmp_ne (tgt := 48) C dX6_ofDepths_41 (by decide) (fun c15 => ?_) (fun c15 => ?_)
          · have h := ie_i c15 h
            refine xi_iconst (v := 0) C dX6_ofDepths_48 (by decide) ?_
            refine xi_iadd C dX6_ofDepths_49 ?_
            refine xi_istore_n (lv2 := [(0, .ref o0), (1, .int x1_12), (2, .int (x2_12 + 0)), (3, .int x3_12), (4, .int x4_12)]) C dX6_ofDepths_50 rfl (by decide) [0, 1, 3, 4] [1, 2, 0, 3, 4] rfl ?_
            refine xi_aload_n C dX6_ofDepths_51 rfl 0 rfl ?_
            refine xi_get C dX6_ofDepths_52 iw_X6_ofDepths_6 0 rfl rfl 14 (by decide) fl_X6_ofDepths_39 rfl ?_
            refine xi_iload C dX6_ofDepths_55 4 rfl ?_
            obtain ⟨v16, e17, h⟩ := ob_i h
            refine xi_iald C dX6_ofDepths_57 10 0 rfl rfl e17 ?_
            refine xi_iload_n C dX6_ofDepths_58 rfl 3 rfl ?_
            refine xi_icmp_le (tgt := 72) C dX6_ofDepths_59 (by decide) (fun c18 => ?_) (fun c18 => ?_)
            · have h := it_i c18 h
              refine xi_iload_n C dX6_ofDepths_72 rfl 3 rfl ?_
              refine xi_istore_n (lv2 := [(0, .ref o0), (1, .int x1_12), (2, .int (x2_12 + 0)), (3, .int x3_12), (4, .int x4_12)]) C dX6_ofDepths_73 rfl (by decide) [0, 1, 2, 4] [1, 2, 3, 0, 4] rfl ?_
              refine xi_iinc (v := x4_12 + 1) (lv2 := [(0, .ref o0), (1, .int x1_12), (2, .int (x2_12 + 0)), (3, .int x3_12), (4, .int (x4_12 + 1))]) C dX6_ofDepths_74 4 rfl (by rfl) (by decide) [0, 1, 2, 3] [1, 2, 3, 4, 0] rfl ?_
              refine xi_goto (tgt := 12) C dX6_ofDepths_77 (by decide) ?_
              exact xb_lv (ih (x2_12 + 0) x3_12 (x4_12 + 1) h hk) [0, 1, 2, 3, 4] rfl
            · have h := ie_i c18 h
              refine xi_aload_n C dX6_ofDepths_62 rfl 0 rfl ?_
              refine xi_get C dX6_ofDepths_63 iw_X6_ofDepths_6 0 rfl rfl 14 (by decide) fl_X6_ofDepths_39 rfl ?_
              refine xi_iload C dX6_ofDepths_66 4 rfl ?_
              obtain ⟨v19, e20, h⟩ := ob_i h
              refine xi_iald C dX6_ofDepths_68 10 0 rfl rfl e20 ?_
              refine xi_goto (tgt := 73) C dX6_ofDepths_69 (by decide) ?_
              refine xi_istore_n (lv2 := [(0, .ref o0), (1, .int x1_12), (2, .int (x2_12 + 0)), (3, .int v19), (4, .int x4_12)]) C dX6_ofDepths_73 rfl (by decide) [0, 1, 2, 4] [1, 2, 3, 0, 4] rfl ?_
              refine xi_iinc (v := x4_12 + 1) (lv2 := [(0, .ref o0), (1, .int x1_12), (2, .int (x2_12 + 0)), (3, .int v19), (4, .int (x4_12 + 1))]) C dX6_ofDepths_74 4 rfl (by rfl) (by decide) [0, 1, 2, 3] [1, 2, 3, 4, 0] rfl ?_
              refine xi_goto (tgt := 12) C dX6_ofDepths_77 (by decide) ?_
              exact xb_lv (ih (x2_12 + 0) v19 (x4_12 + 1) h hk) [0, 1, 2, 3, 4] rfl
          · have h := it_i c15 h
            refine xi_iconst (v := 1) C dX6_ofDepths_44 (by decide) ?_
            refine xi_goto (tgt := 49) C dX6_ofDepths_45 (by decide) ?_
            refine xi_iadd C dX6_ofDepths_49 ?_
            refine xi_istore_n (lv2 := [(0, .ref o0), (1, .int x1_12), (2, .int (x2_12 + 1)), (3, .int x3_12), (4, .int x4_12)]) C dX6_ofDepths_50 rfl (by decide) [0, 1, 3, 4] [1, 2, 0, 3, 4] rfl ?_
            refine xi_aload_n C dX6_ofDepths_51 rfl 0 rfl ?_
            refine xi_get C dX6_ofDepths_52 iw_X6_ofDepths_6 0 rfl rfl 14 (by decide) fl_X6_ofDepths_39 rfl ?_
            refine xi_iload C dX6_ofDepths_55 4 rfl ?_
            obtain ⟨v21, e22, h⟩ := ob_i h
            refine xi_iald C dX6_ofDepths_57 10 0 rfl rfl e22 ?_
            refine xi_iload_n C dX6_ofDepths_58 rfl 3 rfl ?_
            refine xi_icmp_le (tgt := 72) C dX6_ofDepths_59 (by decide) (fun c23 => ?_) (fun c23 => ?_)
            · have h := it_i c23 h
              refine xi_iload_n C dX6_ofDepths_72 rfl 3 rfl ?_
              refine xi_istore_n (lv2 := [(0, .ref o0), (1, .int x1_12), (2, .int (x2_12 + 1)), (3, .int x3_12), (4, .int x4_12)]) C dX6_ofDepths_73 rfl (by decide) [0, 1, 2, 4] [1, 2, 3, 0, 4] rfl ?_
              refine xi_iinc (v := x4_12 + 1) (lv2 := [(0, .ref o0), (1, .int x1_12), (2, .int (x2_12 + 1)), (3, .int x3_12), (4, .int (x4_12 + 1))]) C dX6_ofDepths_74 4 rfl (by rfl) (by decide) [0, 1, 2, 3] [1, 2, 3, 4, 0] rfl ?_
              refine xi_goto (tgt := 12) C dX6_ofDepths_77 (by decide) ?_
              exact xb_lv (ih (x2_12 + 1) x3_12 (x4_12 + 1) h hk) [0, 1, 2, 3, 4] rfl
            · have h := ie_i c23 h
              refine xi_aload_n C dX6_ofDepths_62 rfl 0 rfl ?_
              refine xi_get C dX6_ofDepths_63 iw_X6_ofDepths_6 0 rfl rfl 14 (by decide) fl_X6_ofDepths_39 rfl ?_
              refine xi_iload C dX6_ofDepths_66 4 rfl ?_
              obtain ⟨v24, e25, h⟩ := ob_i h
              refine xi_iald C dX6_ofDepths_68 10 0 rfl rfl e25 ?_
              refine xi_goto (tgt := 73) C dX6_ofDepths_69 (by decide) ?_
              refine xi_istore_n (lv2 := [(0, .ref o0), (1, .int x1_12), (2, .int (x2_12 + 1)), (3, .int v24), (4, .int x4_12)]) C dX6_ofDepths_73 rfl (by decide) [0, 1, 2, 4] [1, 2, 3, 0, 4] rfl ?_
              refine xi_iinc (v := x4_12 + 1) (lv2 := [(0, .ref o0), (1, .int x1_12), (2, .int (x2_12 + 1)), (3, .int v24), (4, .int (x4_12 + 1))]) C dX6_ofDepths_74 4 rfl (by rfl) (by decide) [0, 1, 2, 3] [1, 2, 3, 4, 0] rfl ?_
              refine xi_goto (tgt := 12) C dX6_ofDepths_77 (by decide) ?_
              exact xb_lv (ih (x2_12 + 1) v24 (x4_12 + 1) h hk) [0, 1, 2, 3, 4] rfl
  unfold f_X6_ofDepths at h
  refine xi_aload_n C dX6_ofDepths_0 rfl 0 rfl ?_
  refine xi_iconst (v := 0) C dX6_ofDepths_1 (by decide) ?_
  obtain ⟨⟨dep1, bit2⟩, e3, h⟩ := ob_i h
  refine xi_callV (As := [.int 0]) (o := none) (rest := []) (w2 := (wMo o0 ma st ik le sp nu ++ wAr cI (ma 0) 1898 now ++ wAr cI (ma 1) 1898 thn ++ wAr cI (ma 2) 7592 pst ++ wAr cI (ma 3) 1898 snp ++ wAr cC (ma 4) 80 txt ++ wAr cI (ma 5) 48 hld ++ wAr cI (ma 6) 24 far ++ wAr cZ (ma 7) 72 don ++ wAr cI (ma 8) 96 tld ++ wAr cI (ma 9) 24 dep1 ++ wAr cI (ma 10) 24 bit2)) (st2 := []) C k_X6_answers (m_X6_answers D cI cC cZ cR o0 ma st ik le sp nu now thn pst snp txt hld far don tld dep bit 0 dep1 bit2 e3) gX6_ofDepths_X6_answers dX6_ofDepths_2 ⟨Nat.le_of_ble_eq_true rfl, Nat.le_of_ble_eq_true rfl, Nat.le_of_ble_eq_true rfl⟩ 0 rfl rfl [0, 1, 2, 3, 4, 5, 6, 7, 8, 9, 10, 11] mxC_X6_0_1_2_3_4_5_6_7_8_9_10_11 rfl [0, 1, 2, 3] rfl mxF_X6_0_1_2_3_4_5_6_7_8_9_10_11 mxM_X6_0_1_2_3_4_5_6_7_8_9_10_11 rfl (Nat.le_of_ble_eq_true rfl) ⟨Nat.zero_le _, Nat.zero_le _⟩ rfl ?_
  refine xi_iconst (v := 0) C dX6_ofDepths_5 (by decide) ?_
  refine xi_istore_n (lv2 := [(0, .ref o0), (1, .int p1), (2, .int 0)]) C dX6_ofDepths_6 rfl (by decide) [0, 1] [1, 2, 0] rfl ?_
  refine xi_iconst (v := 0) C dX6_ofDepths_7 (by decide) ?_
  refine xi_istore_n (lv2 := [(0, .ref o0), (1, .int p1), (2, .int 0), (3, .int 0)]) C dX6_ofDepths_8 rfl (by decide) [0, 1, 2] [1, 2, 3, 0] rfl ?_
  refine xi_iconst (v := 0) C dX6_ofDepths_9 (by decide) ?_
  refine xi_istore (lv2 := [(0, .ref o0), (1, .int p1), (2, .int 0), (3, .int 0), (4, .int 0)]) C dX6_ofDepths_10 (by decide) [0, 1, 2, 3] [1, 2, 3, 4, 0] rfl ?_
  refine xb_lv (lp12 dep1 bit2 p1 _ xFu 0 0 0 h (fun x2z26 x3z26 h => ?_)) [0, 1, 2, 3, 4] rfl
  refine xi_iload_n C dX6_ofDepths_80 rfl 0 rfl ?_
  refine xi_if_eq (tgt := 88) C dX6_ofDepths_81 (by decide) (fun c27 => ?_) (fun c27 => ?_)
  · have h := it_i c27 h
    refine xi_iload_n C dX6_ofDepths_88 rfl 1 rfl ?_
    have w0 := Option.some.inj h
    obtain ⟨q0, w1⟩ := Prod.mk.inj w0
    obtain ⟨q1, w2⟩ := Prod.mk.inj w1
    subst q0
    subst q1
    subst w2
    exact xi_iret C Z dX6_ofDepths_89
  · have h := ie_i c27 h
    refine xi_iload_n C dX6_ofDepths_84 rfl 2 rfl ?_
    refine xi_goto (tgt := 89) C dX6_ofDepths_85 (by decide) ?_
    have w0 := Option.some.inj h
    obtain ⟨q0, w1⟩ := Prod.mk.inj w0
    obtain ⟨q1, w2⟩ := Prod.mk.inj w1
    subst q0
    subst q1
    subst w2
    exact xi_iret C Z dX6_ofDepths_89
def f_X6_most (now : Nat → Int32) (hld : Nat → Int32) : Option (Int32 × (Nat → Int32)) :=
  (f_X6_counts hld now).bind fun hld1 =>
  (f_X6_mostHeld hld1).bind fun v3 =>
  some (v3, hld1)
theorem k_X6_most : xb_Y yX6_most cX6_most wsX6_most 1 (some .int) { frames := 2, cells := 0, slots := 0, locals := 47 } 0 := ⟨⟨_, rfl⟩, by decide, ⟨by decide, by decide, by decide +kernel⟩, rfl, rfl⟩
theorem fl_X6_most_7 : Cond.fieldLink RX6 7 "LookupBoardModel" "now" "[I" ∈ wsX6_most := List.mem_of_getElem? (i := 1) rfl
theorem iw_X6_most_6 : ∀ w ∈ wsX60, w ∈ wsX6_most := fun w h => List.mem_cons_of_mem _ (List.mem_append_right _ h)
set_option maxHeartbeats 4000000 in
set_option maxRecDepth 100000 in
theorem m_X6_most (D : va_G) (cI cC cZ cR : ClassId) (o0 : Nat) (ma : Nat → Nat) (st : Int32) (ik : Int32) (le : Int32) (sp : Int32) (nu : Int32) (now : Nat → Int32) (thn : Nat → Int32) (pst : Nat → Int32) (snp : Nat → Int32) (txt : Nat → Int32) (hld : Nat → Int32) (far : Nat → Int32) (don : Nat → Int32) (tld : Nat → Int32) (dep : Nat → Int32) (bit : Nat → Int32) (r : Int32) (hld' : Nat → Int32) (h : f_X6_most now hld = some (r, hld')) : xb_M cX6_most wsX6_most RX6 { frames := 2, cells := 0, slots := 0, locals := 47 } (some .int) 1 (xb_ty cI cC cZ cR) D [.ref o0] (wMo o0 ma st ik le sp nu ++ wAr cI (ma 0) 1898 now ++ wAr cI (ma 1) 1898 thn ++ wAr cI (ma 2) 7592 pst ++ wAr cI (ma 3) 1898 snp ++ wAr cC (ma 4) 80 txt ++ wAr cI (ma 5) 48 hld ++ wAr cI (ma 6) 24 far ++ wAr cZ (ma 7) 72 don ++ wAr cI (ma 8) 96 tld ++ wAr cI (ma 9) 24 dep ++ wAr cI (ma 10) 24 bit) (some (.int r)) (wMo o0 ma st ik le sp nu ++ wAr cI (ma 0) 1898 now ++ wAr cI (ma 1) 1898 thn ++ wAr cI (ma 2) 7592 pst ++ wAr cI (ma 3) 1898 snp ++ wAr cC (ma 4) 80 txt ++ wAr cI (ma 5) 48 hld' ++ wAr cI (ma 6) 24 far ++ wAr cZ (ma 7) 72 don ++ wAr cI (ma 8) 96 tld ++ wAr cI (ma 9) 24 dep ++ wAr cI (ma 10) 24 bit) := by
  intro X C Z
  show xb_G X 0 0 (wMo o0 ma st ik le sp nu ++ wAr cI (ma 0) 1898 now ++ wAr cI (ma 1) 1898 thn ++ wAr cI (ma 2) 7592 pst ++ wAr cI (ma 3) 1898 snp ++ wAr cC (ma 4) 80 txt ++ wAr cI (ma 5) 48 hld ++ wAr cI (ma 6) 24 far ++ wAr cZ (ma 7) 72 don ++ wAr cI (ma 8) 96 tld ++ wAr cI (ma 9) 24 dep ++ wAr cI (ma 10) 24 bit) [(0, .ref o0)] 0 []
  unfold f_X6_most at h
  refine xi_aload_n C dX6_most_0 rfl 0 rfl ?_
  refine xi_aload_n C dX6_most_1 rfl 0 rfl ?_
  refine xi_get C dX6_most_2 iw_X6_most_6 0 rfl rfl 0 (by decide) fl_X6_most_7 rfl ?_
  obtain ⟨hld1, e2, h⟩ := ob_i h
  refine xi_callV (As := [.ref (ma 0)]) (o := none) (rest := []) (w2 := (wMo o0 ma st ik le sp nu ++ wAr cI (ma 0) 1898 now ++ wAr cI (ma 1) 1898 thn ++ wAr cI (ma 2) 7592 pst ++ wAr cI (ma 3) 1898 snp ++ wAr cC (ma 4) 80 txt ++ wAr cI (ma 5) 48 hld1 ++ wAr cI (ma 6) 24 far ++ wAr cZ (ma 7) 72 don ++ wAr cI (ma 8) 96 tld ++ wAr cI (ma 9) 24 dep ++ wAr cI (ma 10) 24 bit)) (st2 := []) C k_X6_counts (m_X6_counts D cI cC cZ cR o0 ma (ma 0) st ik le sp nu hld far don now hld1 e2) gX6_most_X6_counts dX6_most_5 ⟨Nat.le_of_ble_eq_true rfl, Nat.le_of_ble_eq_true rfl, Nat.le_of_ble_eq_true rfl⟩ 0 rfl rfl [0, 6, 7, 8, 1] mxC_X6_0_6_7_8_1 rfl [0, 1, 2, 3] rfl mxF_X6_0_6_7_8_1 mxM_X6_0_6_7_8_1 rfl (Nat.le_of_ble_eq_true rfl) ⟨Nat.zero_le _, Nat.zero_le _⟩ rfl ?_
  refine xi_aload_n C dX6_most_8 rfl 0 rfl ?_
  obtain ⟨v3, e4, h⟩ := ob_i h
  refine xi_callV (As := []) (o := some (.int v3)) (rest := []) (w2 := (wMo o0 ma st ik le sp nu ++ wAr cI (ma 0) 1898 now ++ wAr cI (ma 1) 1898 thn ++ wAr cI (ma 2) 7592 pst ++ wAr cI (ma 3) 1898 snp ++ wAr cC (ma 4) 80 txt ++ wAr cI (ma 5) 48 hld1 ++ wAr cI (ma 6) 24 far ++ wAr cZ (ma 7) 72 don ++ wAr cI (ma 8) 96 tld ++ wAr cI (ma 9) 24 dep ++ wAr cI (ma 10) 24 bit)) (st2 := [.int v3]) C k_X6_mostHeld (m_X6_mostHeld D cI cC cZ cR o0 ma st ik le sp nu now thn pst snp txt hld1 far don tld dep bit v3 e4) gX6_most_X6_mostHeld dX6_most_9 ⟨Nat.le_of_ble_eq_true rfl, Nat.le_of_ble_eq_true rfl, Nat.le_of_ble_eq_true rfl⟩ 0 rfl rfl [0, 1, 2, 3, 4, 5, 6, 7, 8, 9, 10, 11] mxC_X6_0_1_2_3_4_5_6_7_8_9_10_11 rfl [0, 1, 2, 3] rfl mxF_X6_0_1_2_3_4_5_6_7_8_9_10_11 mxM_X6_0_1_2_3_4_5_6_7_8_9_10_11 rfl (Nat.le_of_ble_eq_true rfl) ⟨Nat.zero_le _, Nat.zero_le _⟩ rfl ?_
  have w0 := Option.some.inj h
  obtain ⟨q0, w1⟩ := Prod.mk.inj w0
  subst q0
  subst w1
  exact xi_iret C Z dX6_most_12
def f_X6_count (st : Int32) (le : Int32) (now : Nat → Int32) (hld : Nat → Int32) (dep : Nat → Int32) (bit : Nat → Int32) (p1 : Int32) : Option (Int32 × (Nat → Int32) × (Nat → Int32) × (Nat → Int32)) :=
  if p1 = 0 then
    (f_X6_cells now).bind fun v1 =>
    some (v1, hld, dep, bit)
  else
    if p1 = 1 then
      (f_X6_wires now).bind fun v3 =>
      some (v3, hld, dep, bit)
    else
      if p1 = 2 then
        (f_X6_segments now).bind fun v5 =>
        some (v5, hld, dep, bit)
      else
        if p1 = 3 then
          (f_X6_full now hld).bind fun (v7, hld8) =>
          some (v7, hld8, dep, bit)
        else
          if p1 = 4 then
            (f_X6_most now hld).bind fun (v10, hld11) =>
            some (v10, hld11, dep, bit)
          else
            if p1 = 5 then
              if p1 = 6 then
                (f_X6_ofDepths now dep bit 1).bind fun (v18, dep19, bit20) =>
                some (v18, hld, dep19, bit20)
              else
                (f_X6_ofDepths now dep bit 0).bind fun (v14, dep15, bit16) =>
                some (v14, hld, dep15, bit16)
            else
              if p1 = 6 then
                if p1 = 6 then
                  (f_X6_ofDepths now dep bit 1).bind fun (v27, dep28, bit29) =>
                  some (v27, hld, dep28, bit29)
                else
                  (f_X6_ofDepths now dep bit 0).bind fun (v23, dep24, bit25) =>
                  some (v23, hld, dep24, bit25)
              else
                if p1 = 7 then
                  (xr_d now 1898 ((1896 + p1) - 7)).bind fun v31 =>
                  some (v31, hld, dep, bit)
                else
                  if p1 = 8 then
                    (xr_d now 1898 ((1896 + p1) - 7)).bind fun v33 =>
                    some (v33, hld, dep, bit)
                  else
                    if p1 = 9 then
                      some (st, hld, dep, bit)
                    else
                      if p1 = 10 then
                        some (le, hld, dep, bit)
                      else
                        some ((-2), hld, dep, bit)
theorem k_X6_count : xb_Y yX6_count cX6_count wsX6_count 2 (some .int) { frames := 5, cells := 0, slots := 0, locals := 110 } 1 := ⟨⟨_, rfl⟩, by decide, ⟨by decide, by decide, by decide +kernel⟩, rfl, rfl⟩
theorem fl_X6_count_7 : Cond.fieldLink RX6 7 "LookupBoardModel" "now" "[I" ∈ wsX6_count := List.mem_of_getElem? (i := 1) rfl
theorem fl_X6_count_45 : Cond.fieldLink RX6 45 "LookupBoardModel" "states" "I" ∈ wsX6_count := List.mem_of_getElem? (i := 2) rfl
theorem fl_X6_count_157 : Cond.fieldLink RX6 157 "LookupBoardModel" "length" "I" ∈ wsX6_count := List.mem_of_getElem? (i := 3) rfl
theorem iw_X6_count_6 : ∀ w ∈ wsX60, w ∈ wsX6_count := fun w h => List.mem_cons_of_mem _ (List.mem_append_right _ h)
set_option maxHeartbeats 4000000 in
set_option maxRecDepth 100000 in
theorem m_X6_count (D : va_G) (cI cC cZ cR : ClassId) (o0 : Nat) (ma : Nat → Nat) (st : Int32) (ik : Int32) (le : Int32) (sp : Int32) (nu : Int32) (now : Nat → Int32) (thn : Nat → Int32) (pst : Nat → Int32) (snp : Nat → Int32) (txt : Nat → Int32) (hld : Nat → Int32) (far : Nat → Int32) (don : Nat → Int32) (tld : Nat → Int32) (dep : Nat → Int32) (bit : Nat → Int32) (p1 : Int32) (r : Int32) (hld' : Nat → Int32) (dep' : Nat → Int32) (bit' : Nat → Int32) (h : f_X6_count st le now hld dep bit p1 = some (r, hld', dep', bit')) : xb_M cX6_count wsX6_count RX6 { frames := 5, cells := 0, slots := 0, locals := 110 } (some .int) 2 (xb_ty cI cC cZ cR) D [.ref o0, .int p1] (wMo o0 ma st ik le sp nu ++ wAr cI (ma 0) 1898 now ++ wAr cI (ma 1) 1898 thn ++ wAr cI (ma 2) 7592 pst ++ wAr cI (ma 3) 1898 snp ++ wAr cC (ma 4) 80 txt ++ wAr cI (ma 5) 48 hld ++ wAr cI (ma 6) 24 far ++ wAr cZ (ma 7) 72 don ++ wAr cI (ma 8) 96 tld ++ wAr cI (ma 9) 24 dep ++ wAr cI (ma 10) 24 bit) (some (.int r)) (wMo o0 ma st ik le sp nu ++ wAr cI (ma 0) 1898 now ++ wAr cI (ma 1) 1898 thn ++ wAr cI (ma 2) 7592 pst ++ wAr cI (ma 3) 1898 snp ++ wAr cC (ma 4) 80 txt ++ wAr cI (ma 5) 48 hld' ++ wAr cI (ma 6) 24 far ++ wAr cZ (ma 7) 72 don ++ wAr cI (ma 8) 96 tld ++ wAr cI (ma 9) 24 dep' ++ wAr cI (ma 10) 24 bit') := by
  intro X C Z
  show xb_G X 0 0 (wMo o0 ma st ik le sp nu ++ wAr cI (ma 0) 1898 now ++ wAr cI (ma 1) 1898 thn ++ wAr cI (ma 2) 7592 pst ++ wAr cI (ma 3) 1898 snp ++ wAr cC (ma 4) 80 txt ++ wAr cI (ma 5) 48 hld ++ wAr cI (ma 6) 24 far ++ wAr cZ (ma 7) 72 don ++ wAr cI (ma 8) 96 tld ++ wAr cI (ma 9) 24 dep ++ wAr cI (ma 10) 24 bit) [(0, .ref o0), (1, .int p1)] 0 []
  unfold f_X6_count at h
  refine xi_iload_n C dX6_count_0 rfl 1 rfl ?_
  rcases Decidable.em (p1 = 0) with w1_0 | w1_0
  · have h := it_i w1_0 h
    refine xi_tabIn (tgt := 60) C 0 w1_0 dX6_count_1 (by decide) (by decide) rfl (by decide) ?_
    refine xi_aload_n C dX6_count_60 rfl 0 rfl ?_
    refine xi_get C dX6_count_61 iw_X6_count_6 0 rfl rfl 0 (by decide) fl_X6_count_7 rfl ?_
    obtain ⟨v1, e2, h⟩ := ob_i h
    refine xi_callS (As := [.ref (ma 0)]) (o := some (.int v1)) (rest := []) (w2 := (wMo o0 ma st ik le sp nu ++ wAr cI (ma 0) 1898 now ++ wAr cI (ma 1) 1898 thn ++ wAr cI (ma 2) 7592 pst ++ wAr cI (ma 3) 1898 snp ++ wAr cC (ma 4) 80 txt ++ wAr cI (ma 5) 48 hld ++ wAr cI (ma 6) 24 far ++ wAr cZ (ma 7) 72 don ++ wAr cI (ma 8) 96 tld ++ wAr cI (ma 9) 24 dep ++ wAr cI (ma 10) 24 bit)) (st2 := [.int v1]) C k_X6_cells (m_X6_cells D cI cC cZ cR (ma 0) now v1 e2) gX6_count_X6_cells dX6_count_64 ⟨Nat.le_of_ble_eq_true rfl, Nat.le_of_ble_eq_true rfl, Nat.le_of_ble_eq_true rfl⟩ [1] mxC_X6_1 rfl [0, 1, 2, 3] rfl mxF_X6_1 mxM_X6_1 rfl (Nat.le_of_ble_eq_true rfl) ⟨Nat.zero_le _, Nat.zero_le _⟩ rfl ?_
    have w0 := Option.some.inj h
    obtain ⟨q0, w1⟩ := Prod.mk.inj w0
    obtain ⟨q1, w2⟩ := Prod.mk.inj w1
    obtain ⟨q2, w3⟩ := Prod.mk.inj w2
    subst q0
    subst q1
    subst q2
    subst w3
    exact xi_iret C Z dX6_count_67
  have h := ie_i w1_0 h
  rcases Decidable.em (p1 = 1) with w1_1 | w1_1
  · have h := it_i w1_1 h
    refine xi_tabIn (tgt := 68) C 1 w1_1 dX6_count_1 (by decide) (by decide) rfl (by decide) ?_
    refine xi_aload_n C dX6_count_68 rfl 0 rfl ?_
    obtain ⟨v3, e4, h⟩ := ob_i h
    refine xi_callV (As := []) (o := some (.int v3)) (rest := []) (w2 := (wMo o0 ma st ik le sp nu ++ wAr cI (ma 0) 1898 now ++ wAr cI (ma 1) 1898 thn ++ wAr cI (ma 2) 7592 pst ++ wAr cI (ma 3) 1898 snp ++ wAr cC (ma 4) 80 txt ++ wAr cI (ma 5) 48 hld ++ wAr cI (ma 6) 24 far ++ wAr cZ (ma 7) 72 don ++ wAr cI (ma 8) 96 tld ++ wAr cI (ma 9) 24 dep ++ wAr cI (ma 10) 24 bit)) (st2 := [.int v3]) C k_X6_wires (m_X6_wires D cI cC cZ cR o0 ma st ik le sp nu now thn pst snp txt hld far don tld dep bit v3 e4) gX6_count_X6_wires dX6_count_69 ⟨Nat.le_of_ble_eq_true rfl, Nat.le_of_ble_eq_true rfl, Nat.le_of_ble_eq_true rfl⟩ 0 rfl rfl [0, 1, 2, 3, 4, 5, 6, 7, 8, 9, 10, 11] mxC_X6_0_1_2_3_4_5_6_7_8_9_10_11 rfl [0, 1, 2, 3] rfl mxF_X6_0_1_2_3_4_5_6_7_8_9_10_11 mxM_X6_0_1_2_3_4_5_6_7_8_9_10_11 rfl (Nat.le_of_ble_eq_true rfl) ⟨Nat.zero_le _, Nat.zero_le _⟩ rfl ?_
    have w0 := Option.some.inj h
    obtain ⟨q0, w1⟩ := Prod.mk.inj w0
    obtain ⟨q1, w2⟩ := Prod.mk.inj w1
    obtain ⟨q2, w3⟩ := Prod.mk.inj w2
    subst q0
    subst q1
    subst q2
    subst w3
    exact xi_iret C Z dX6_count_72
  have h := ie_i w1_1 h
  rcases Decidable.em (p1 = 2) with w1_2 | w1_2
  · have h := it_i w1_2 h
    refine xi_tabIn (tgt := 73) C 2 w1_2 dX6_count_1 (by decide) (by decide) rfl (by decide) ?_
    refine xi_aload_n C dX6_count_73 rfl 0 rfl ?_
    refine xi_get C dX6_count_74 iw_X6_count_6 0 rfl rfl 0 (by decide) fl_X6_count_7 rfl ?_
    obtain ⟨v5, e6, h⟩ := ob_i h
    refine xi_callS (As := [.ref (ma 0)]) (o := some (.int v5)) (rest := []) (w2 := (wMo o0 ma st ik le sp nu ++ wAr cI (ma 0) 1898 now ++ wAr cI (ma 1) 1898 thn ++ wAr cI (ma 2) 7592 pst ++ wAr cI (ma 3) 1898 snp ++ wAr cC (ma 4) 80 txt ++ wAr cI (ma 5) 48 hld ++ wAr cI (ma 6) 24 far ++ wAr cZ (ma 7) 72 don ++ wAr cI (ma 8) 96 tld ++ wAr cI (ma 9) 24 dep ++ wAr cI (ma 10) 24 bit)) (st2 := [.int v5]) C k_X6_segments (m_X6_segments D cI cC cZ cR (ma 0) now v5 e6) gX6_count_X6_segments dX6_count_77 ⟨Nat.le_of_ble_eq_true rfl, Nat.le_of_ble_eq_true rfl, Nat.le_of_ble_eq_true rfl⟩ [1] mxC_X6_1 rfl [0, 1, 2, 3] rfl mxF_X6_1 mxM_X6_1 rfl (Nat.le_of_ble_eq_true rfl) ⟨Nat.zero_le _, Nat.zero_le _⟩ rfl ?_
    have w0 := Option.some.inj h
    obtain ⟨q0, w1⟩ := Prod.mk.inj w0
    obtain ⟨q1, w2⟩ := Prod.mk.inj w1
    obtain ⟨q2, w3⟩ := Prod.mk.inj w2
    subst q0
    subst q1
    subst q2
    subst w3
    exact xi_iret C Z dX6_count_80
  have h := ie_i w1_2 h
  rcases Decidable.em (p1 = 3) with w1_3 | w1_3
  · have h := it_i w1_3 h
    refine xi_tabIn (tgt := 81) C 3 w1_3 dX6_count_1 (by decide) (by decide) rfl (by decide) ?_
    refine xi_aload_n C dX6_count_81 rfl 0 rfl ?_
    obtain ⟨⟨v7, hld8⟩, e9, h⟩ := ob_i h
    refine xi_callV (As := []) (o := some (.int v7)) (rest := []) (w2 := (wMo o0 ma st ik le sp nu ++ wAr cI (ma 0) 1898 now ++ wAr cI (ma 1) 1898 thn ++ wAr cI (ma 2) 7592 pst ++ wAr cI (ma 3) 1898 snp ++ wAr cC (ma 4) 80 txt ++ wAr cI (ma 5) 48 hld8 ++ wAr cI (ma 6) 24 far ++ wAr cZ (ma 7) 72 don ++ wAr cI (ma 8) 96 tld ++ wAr cI (ma 9) 24 dep ++ wAr cI (ma 10) 24 bit)) (st2 := [.int v7]) C k_X6_full (m_X6_full D cI cC cZ cR o0 ma st ik le sp nu now thn pst snp txt hld far don tld dep bit v7 hld8 e9) gX6_count_X6_full dX6_count_82 ⟨Nat.le_of_ble_eq_true rfl, Nat.le_of_ble_eq_true rfl, Nat.le_of_ble_eq_true rfl⟩ 0 rfl rfl [0, 1, 2, 3, 4, 5, 6, 7, 8, 9, 10, 11] mxC_X6_0_1_2_3_4_5_6_7_8_9_10_11 rfl [0, 1, 2, 3] rfl mxF_X6_0_1_2_3_4_5_6_7_8_9_10_11 mxM_X6_0_1_2_3_4_5_6_7_8_9_10_11 rfl (Nat.le_of_ble_eq_true rfl) ⟨Nat.zero_le _, Nat.zero_le _⟩ rfl ?_
    have w0 := Option.some.inj h
    obtain ⟨q0, w1⟩ := Prod.mk.inj w0
    obtain ⟨q1, w2⟩ := Prod.mk.inj w1
    obtain ⟨q2, w3⟩ := Prod.mk.inj w2
    subst q0
    subst q1
    subst q2
    subst w3
    exact xi_iret C Z dX6_count_85
  have h := ie_i w1_3 h
  rcases Decidable.em (p1 = 4) with w1_4 | w1_4
  · have h := it_i w1_4 h
    refine xi_tabIn (tgt := 86) C 4 w1_4 dX6_count_1 (by decide) (by decide) rfl (by decide) ?_
    refine xi_aload_n C dX6_count_86 rfl 0 rfl ?_
    obtain ⟨⟨v10, hld11⟩, e12, h⟩ := ob_i h
    refine xi_callV (As := []) (o := some (.int v10)) (rest := []) (w2 := (wMo o0 ma st ik le sp nu ++ wAr cI (ma 0) 1898 now ++ wAr cI (ma 1) 1898 thn ++ wAr cI (ma 2) 7592 pst ++ wAr cI (ma 3) 1898 snp ++ wAr cC (ma 4) 80 txt ++ wAr cI (ma 5) 48 hld11 ++ wAr cI (ma 6) 24 far ++ wAr cZ (ma 7) 72 don ++ wAr cI (ma 8) 96 tld ++ wAr cI (ma 9) 24 dep ++ wAr cI (ma 10) 24 bit)) (st2 := [.int v10]) C k_X6_most (m_X6_most D cI cC cZ cR o0 ma st ik le sp nu now thn pst snp txt hld far don tld dep bit v10 hld11 e12) gX6_count_X6_most dX6_count_87 ⟨Nat.le_of_ble_eq_true rfl, Nat.le_of_ble_eq_true rfl, Nat.le_of_ble_eq_true rfl⟩ 0 rfl rfl [0, 1, 2, 3, 4, 5, 6, 7, 8, 9, 10, 11] mxC_X6_0_1_2_3_4_5_6_7_8_9_10_11 rfl [0, 1, 2, 3] rfl mxF_X6_0_1_2_3_4_5_6_7_8_9_10_11 mxM_X6_0_1_2_3_4_5_6_7_8_9_10_11 rfl (Nat.le_of_ble_eq_true rfl) ⟨Nat.zero_le _, Nat.zero_le _⟩ rfl ?_
    have w0 := Option.some.inj h
    obtain ⟨q0, w1⟩ := Prod.mk.inj w0
    obtain ⟨q1, w2⟩ := Prod.mk.inj w1
    obtain ⟨q2, w3⟩ := Prod.mk.inj w2
    subst q0
    subst q1
    subst q2
    subst w3
    exact xi_iret C Z dX6_count_90
  have h := ie_i w1_4 h
  rcases Decidable.em (p1 = 5) with w1_5 | w1_5
  · have h := it_i w1_5 h
    refine xi_tabIn (tgt := 91) C 5 w1_5 dX6_count_1 (by decide) (by decide) rfl (by decide) ?_
    refine xi_aload_n C dX6_count_91 rfl 0 rfl ?_
    refine xi_iload_n C dX6_count_92 rfl 1 rfl ?_
    refine xi_bipush (v := 6) C dX6_count_93 (by decide) ?_
    refine xi_icmp_ne (tgt := 102) C dX6_count_95 (by decide) (fun c13 => ?_) (fun c13 => ?_)
    · have h := ie_i c13 h
      refine xi_iconst (v := 0) C dX6_count_102 (by decide) ?_
      obtain ⟨⟨v14, dep15, bit16⟩, e17, h⟩ := ob_i h
      refine xi_callV (As := [.int 0]) (o := some (.int v14)) (rest := []) (w2 := (wMo o0 ma st ik le sp nu ++ wAr cI (ma 0) 1898 now ++ wAr cI (ma 1) 1898 thn ++ wAr cI (ma 2) 7592 pst ++ wAr cI (ma 3) 1898 snp ++ wAr cC (ma 4) 80 txt ++ wAr cI (ma 5) 48 hld ++ wAr cI (ma 6) 24 far ++ wAr cZ (ma 7) 72 don ++ wAr cI (ma 8) 96 tld ++ wAr cI (ma 9) 24 dep15 ++ wAr cI (ma 10) 24 bit16)) (st2 := [.int v14]) C k_X6_ofDepths (m_X6_ofDepths D cI cC cZ cR o0 ma st ik le sp nu now thn pst snp txt hld far don tld dep bit 0 v14 dep15 bit16 e17) gX6_count_X6_ofDepths dX6_count_103 ⟨Nat.le_of_ble_eq_true rfl, Nat.le_of_ble_eq_true rfl, Nat.le_of_ble_eq_true rfl⟩ 0 rfl rfl [0, 1, 2, 3, 4, 5, 6, 7, 8, 9, 10, 11] mxC_X6_0_1_2_3_4_5_6_7_8_9_10_11 rfl [0, 1, 2, 3] rfl mxF_X6_0_1_2_3_4_5_6_7_8_9_10_11 mxM_X6_0_1_2_3_4_5_6_7_8_9_10_11 rfl (Nat.le_of_ble_eq_true rfl) ⟨Nat.zero_le _, Nat.zero_le _⟩ rfl ?_
      have w0 := Option.some.inj h
      obtain ⟨q0, w1⟩ := Prod.mk.inj w0
      obtain ⟨q1, w2⟩ := Prod.mk.inj w1
      obtain ⟨q2, w3⟩ := Prod.mk.inj w2
      subst q0
      subst q1
      subst q2
      subst w3
      exact xi_iret C Z dX6_count_106
    · have h := it_i c13 h
      refine xi_iconst (v := 1) C dX6_count_98 (by decide) ?_
      refine xi_goto (tgt := 103) C dX6_count_99 (by decide) ?_
      obtain ⟨⟨v18, dep19, bit20⟩, e21, h⟩ := ob_i h
      refine xi_callV (As := [.int 1]) (o := some (.int v18)) (rest := []) (w2 := (wMo o0 ma st ik le sp nu ++ wAr cI (ma 0) 1898 now ++ wAr cI (ma 1) 1898 thn ++ wAr cI (ma 2) 7592 pst ++ wAr cI (ma 3) 1898 snp ++ wAr cC (ma 4) 80 txt ++ wAr cI (ma 5) 48 hld ++ wAr cI (ma 6) 24 far ++ wAr cZ (ma 7) 72 don ++ wAr cI (ma 8) 96 tld ++ wAr cI (ma 9) 24 dep19 ++ wAr cI (ma 10) 24 bit20)) (st2 := [.int v18]) C k_X6_ofDepths (m_X6_ofDepths D cI cC cZ cR o0 ma st ik le sp nu now thn pst snp txt hld far don tld dep bit 1 v18 dep19 bit20 e21) gX6_count_X6_ofDepths dX6_count_103 ⟨Nat.le_of_ble_eq_true rfl, Nat.le_of_ble_eq_true rfl, Nat.le_of_ble_eq_true rfl⟩ 0 rfl rfl [0, 1, 2, 3, 4, 5, 6, 7, 8, 9, 10, 11] mxC_X6_0_1_2_3_4_5_6_7_8_9_10_11 rfl [0, 1, 2, 3] rfl mxF_X6_0_1_2_3_4_5_6_7_8_9_10_11 mxM_X6_0_1_2_3_4_5_6_7_8_9_10_11 rfl (Nat.le_of_ble_eq_true rfl) ⟨Nat.zero_le _, Nat.zero_le _⟩ rfl ?_
      have w0 := Option.some.inj h
      obtain ⟨q0, w1⟩ := Prod.mk.inj w0
      obtain ⟨q1, w2⟩ := Prod.mk.inj w1
      obtain ⟨q2, w3⟩ := Prod.mk.inj w2
      subst q0
      subst q1
      subst q2
      subst w3
      exact xi_iret C Z dX6_count_106
  have h := ie_i w1_5 h
  rcases Decidable.em (p1 = 6) with w1_6 | w1_6
  · have h := it_i w1_6 h
    refine xi_tabIn (tgt := 91) C 6 w1_6 dX6_count_1 (by decide) (by decide) rfl (by decide) ?_
    refine xi_aload_n C dX6_count_91 rfl 0 rfl ?_
    refine xi_iload_n C dX6_count_92 rfl 1 rfl ?_
    refine xi_bipush (v := 6) C dX6_count_93 (by decide) ?_
    refine xi_icmp_ne (tgt := 102) C dX6_count_95 (by decide) (fun c22 => ?_) (fun c22 => ?_)
    · have h := ie_i c22 h
      refine xi_iconst (v := 0) C dX6_count_102 (by decide) ?_
      obtain ⟨⟨v23, dep24, bit25⟩, e26, h⟩ := ob_i h
      refine xi_callV (As := [.int 0]) (o := some (.int v23)) (rest := []) (w2 := (wMo o0 ma st ik le sp nu ++ wAr cI (ma 0) 1898 now ++ wAr cI (ma 1) 1898 thn ++ wAr cI (ma 2) 7592 pst ++ wAr cI (ma 3) 1898 snp ++ wAr cC (ma 4) 80 txt ++ wAr cI (ma 5) 48 hld ++ wAr cI (ma 6) 24 far ++ wAr cZ (ma 7) 72 don ++ wAr cI (ma 8) 96 tld ++ wAr cI (ma 9) 24 dep24 ++ wAr cI (ma 10) 24 bit25)) (st2 := [.int v23]) C k_X6_ofDepths (m_X6_ofDepths D cI cC cZ cR o0 ma st ik le sp nu now thn pst snp txt hld far don tld dep bit 0 v23 dep24 bit25 e26) gX6_count_X6_ofDepths dX6_count_103 ⟨Nat.le_of_ble_eq_true rfl, Nat.le_of_ble_eq_true rfl, Nat.le_of_ble_eq_true rfl⟩ 0 rfl rfl [0, 1, 2, 3, 4, 5, 6, 7, 8, 9, 10, 11] mxC_X6_0_1_2_3_4_5_6_7_8_9_10_11 rfl [0, 1, 2, 3] rfl mxF_X6_0_1_2_3_4_5_6_7_8_9_10_11 mxM_X6_0_1_2_3_4_5_6_7_8_9_10_11 rfl (Nat.le_of_ble_eq_true rfl) ⟨Nat.zero_le _, Nat.zero_le _⟩ rfl ?_
      have w0 := Option.some.inj h
      obtain ⟨q0, w1⟩ := Prod.mk.inj w0
      obtain ⟨q1, w2⟩ := Prod.mk.inj w1
      obtain ⟨q2, w3⟩ := Prod.mk.inj w2
      subst q0
      subst q1
      subst q2
      subst w3
      exact xi_iret C Z dX6_count_106
    · have h := it_i c22 h
      refine xi_iconst (v := 1) C dX6_count_98 (by decide) ?_
      refine xi_goto (tgt := 103) C dX6_count_99 (by decide) ?_
      obtain ⟨⟨v27, dep28, bit29⟩, e30, h⟩ := ob_i h
      refine xi_callV (As := [.int 1]) (o := some (.int v27)) (rest := []) (w2 := (wMo o0 ma st ik le sp nu ++ wAr cI (ma 0) 1898 now ++ wAr cI (ma 1) 1898 thn ++ wAr cI (ma 2) 7592 pst ++ wAr cI (ma 3) 1898 snp ++ wAr cC (ma 4) 80 txt ++ wAr cI (ma 5) 48 hld ++ wAr cI (ma 6) 24 far ++ wAr cZ (ma 7) 72 don ++ wAr cI (ma 8) 96 tld ++ wAr cI (ma 9) 24 dep28 ++ wAr cI (ma 10) 24 bit29)) (st2 := [.int v27]) C k_X6_ofDepths (m_X6_ofDepths D cI cC cZ cR o0 ma st ik le sp nu now thn pst snp txt hld far don tld dep bit 1 v27 dep28 bit29 e30) gX6_count_X6_ofDepths dX6_count_103 ⟨Nat.le_of_ble_eq_true rfl, Nat.le_of_ble_eq_true rfl, Nat.le_of_ble_eq_true rfl⟩ 0 rfl rfl [0, 1, 2, 3, 4, 5, 6, 7, 8, 9, 10, 11] mxC_X6_0_1_2_3_4_5_6_7_8_9_10_11 rfl [0, 1, 2, 3] rfl mxF_X6_0_1_2_3_4_5_6_7_8_9_10_11 mxM_X6_0_1_2_3_4_5_6_7_8_9_10_11 rfl (Nat.le_of_ble_eq_true rfl) ⟨Nat.zero_le _, Nat.zero_le _⟩ rfl ?_
      have w0 := Option.some.inj h
      obtain ⟨q0, w1⟩ := Prod.mk.inj w0
      obtain ⟨q1, w2⟩ := Prod.mk.inj w1
      obtain ⟨q2, w3⟩ := Prod.mk.inj w2
      subst q0
      subst q1
      subst q2
      subst w3
      exact xi_iret C Z dX6_count_106
  have h := ie_i w1_6 h
  rcases Decidable.em (p1 = 7) with w1_7 | w1_7
  · have h := it_i w1_7 h
    refine xi_tabIn (tgt := 107) C 7 w1_7 dX6_count_1 (by decide) (by decide) rfl (by decide) ?_
    refine xi_aload_n C dX6_count_107 rfl 0 rfl ?_
    refine xi_get C dX6_count_108 iw_X6_count_6 0 rfl rfl 0 (by decide) fl_X6_count_7 rfl ?_
    refine xi_sipush (v := 1896) C dX6_count_111 (by decide) ?_
    refine xi_iload_n C dX6_count_114 rfl 1 rfl ?_
    refine xi_iadd C dX6_count_115 ?_
    refine xi_bipush (v := 7) C dX6_count_116 (by decide) ?_
    refine xi_isub C dX6_count_118 ?_
    obtain ⟨v31, e32, h⟩ := ob_i h
    refine xi_iald C dX6_count_119 1 0 rfl rfl e32 ?_
    have w0 := Option.some.inj h
    obtain ⟨q0, w1⟩ := Prod.mk.inj w0
    obtain ⟨q1, w2⟩ := Prod.mk.inj w1
    obtain ⟨q2, w3⟩ := Prod.mk.inj w2
    subst q0
    subst q1
    subst q2
    subst w3
    exact xi_iret C Z dX6_count_120
  have h := ie_i w1_7 h
  rcases Decidable.em (p1 = 8) with w1_8 | w1_8
  · have h := it_i w1_8 h
    refine xi_tabIn (tgt := 107) C 8 w1_8 dX6_count_1 (by decide) (by decide) rfl (by decide) ?_
    refine xi_aload_n C dX6_count_107 rfl 0 rfl ?_
    refine xi_get C dX6_count_108 iw_X6_count_6 0 rfl rfl 0 (by decide) fl_X6_count_7 rfl ?_
    refine xi_sipush (v := 1896) C dX6_count_111 (by decide) ?_
    refine xi_iload_n C dX6_count_114 rfl 1 rfl ?_
    refine xi_iadd C dX6_count_115 ?_
    refine xi_bipush (v := 7) C dX6_count_116 (by decide) ?_
    refine xi_isub C dX6_count_118 ?_
    obtain ⟨v33, e34, h⟩ := ob_i h
    refine xi_iald C dX6_count_119 1 0 rfl rfl e34 ?_
    have w0 := Option.some.inj h
    obtain ⟨q0, w1⟩ := Prod.mk.inj w0
    obtain ⟨q1, w2⟩ := Prod.mk.inj w1
    obtain ⟨q2, w3⟩ := Prod.mk.inj w2
    subst q0
    subst q1
    subst q2
    subst w3
    exact xi_iret C Z dX6_count_120
  have h := ie_i w1_8 h
  rcases Decidable.em (p1 = 9) with w1_9 | w1_9
  · have h := it_i w1_9 h
    refine xi_tabIn (tgt := 121) C 9 w1_9 dX6_count_1 (by decide) (by decide) rfl (by decide) ?_
    refine xi_aload_n C dX6_count_121 rfl 0 rfl ?_
    refine xi_get C dX6_count_122 iw_X6_count_6 0 rfl rfl 3 (by decide) fl_X6_count_45 rfl ?_
    have w0 := Option.some.inj h
    obtain ⟨q0, w1⟩ := Prod.mk.inj w0
    obtain ⟨q1, w2⟩ := Prod.mk.inj w1
    obtain ⟨q2, w3⟩ := Prod.mk.inj w2
    subst q0
    subst q1
    subst q2
    subst w3
    exact xi_iret C Z dX6_count_125
  have h := ie_i w1_9 h
  rcases Decidable.em (p1 = 10) with w1_10 | w1_10
  · have h := it_i w1_10 h
    refine xi_tabIn (tgt := 126) C 10 w1_10 dX6_count_1 (by decide) (by decide) rfl (by decide) ?_
    refine xi_aload_n C dX6_count_126 rfl 0 rfl ?_
    refine xi_get C dX6_count_127 iw_X6_count_6 0 rfl rfl 7 (by decide) fl_X6_count_157 rfl ?_
    have w0 := Option.some.inj h
    obtain ⟨q0, w1⟩ := Prod.mk.inj w0
    obtain ⟨q1, w2⟩ := Prod.mk.inj w1
    obtain ⟨q2, w3⟩ := Prod.mk.inj w2
    subst q0
    subst q1
    subst q2
    subst w3
    exact xi_iret C Z dX6_count_130
  have h := ie_i w1_10 h
  refine xi_tabOut (tgt := 131) C dX6_count_1 (xb_tab (N := 11) (by decide) (fun j hj => ?_)) (by decide) ?_
  · rcases (show j = 0 ∨ j = 1 ∨ j = 2 ∨ j = 3 ∨ j = 4 ∨ j = 5 ∨ j = 6 ∨ j = 7 ∨ j = 8 ∨ j = 9 ∨ j = 10 by omega) with rfl | rfl | rfl | rfl | rfl | rfl | rfl | rfl | rfl | rfl | rfl
    · exact w1_0
    · exact w1_1
    · exact w1_2
    · exact w1_3
    · exact w1_4
    · exact w1_5
    · exact w1_6
    · exact w1_7
    · exact w1_8
    · exact w1_9
    · exact w1_10
  refine xi_bipush (v := (-2)) C dX6_count_131 (by decide) ?_
  have w0 := Option.some.inj h
  obtain ⟨q0, w1⟩ := Prod.mk.inj w0
  obtain ⟨q1, w2⟩ := Prod.mk.inj w1
  obtain ⟨q2, w3⟩ := Prod.mk.inj w2
  subst q0
  subst q1
  subst q2
  subst w3
  exact xi_iret C Z dX6_count_133
