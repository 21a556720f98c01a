def f_X6_load_67 (st_67 : Int32) (sp_67 : Int32) (nu_67 : Int32) (now_67 : Nat → Int32) (pst_67 : Nat → Int32) (hld_67 : Nat → Int32) (far_67 : Nat → Int32) (don_67 : Nat → Int32) (tld_67 : Nat → Int32) (k : (Nat → Int32) → Option (Int32 × Int32 × Int32 × Int32 × (Nat → Int32) × (Nat → Int32) × (Nat → Int32) × (Nat → Int32) × (Nat → Int32) × (Nat → Int32) × (Nat → Int32))) : Nat → Int32 → (Nat → Int32) → Option (Int32 × Int32 × Int32 × Int32 × (Nat → Int32) × (Nat → Int32) × (Nat → Int32) × (Nat → Int32) × (Nat → Int32) × (Nat → Int32) × (Nat → Int32))
  | 0, _, _ => none
  | n + 1, x2_67, thn_67 =>
    if 72 ≤ x2_67 then
      k thn_67
    else
      (xr_d tld_67 96 (x2_67 / 3)).bind fun v18 =>
      if v18 = (-5) then
        f_X6_load_67 st_67 sp_67 nu_67 now_67 pst_67 hld_67 far_67 don_67 tld_67 k n (x2_67 + 1) thn_67
      else
        (xr_d tld_67 96 (24 + x2_67)).bind fun v21 =>
        (xr_w thn_67 1898 (24 + x2_67) v21).bind fun thn24 =>
        (xr_d thn24 1898 (24 + x2_67)).bind fun v25 =>
        (f_X6_isSource thn24 v25).bind fun v27 =>
        if v27 = 0 then
          some ((-4), st_67, sp_67, nu_67, now_67, thn24, pst_67, hld_67, far_67, don_67, tld_67)
        else
          f_X6_load_67 st_67 sp_67 nu_67 now_67 pst_67 hld_67 far_67 don_67 tld_67 k n (x2_67 + 1) thn24
def f_X6_load_31 (tld_31 : Nat → Int32) (k : (Nat → Int32) → Option (Int32 × Int32 × Int32 × Int32 × (Nat → Int32) × (Nat → Int32) × (Nat → Int32) × (Nat → Int32) × (Nat → Int32) × (Nat → Int32) × (Nat → Int32))) : Nat → Int32 → (Nat → Int32) → Option (Int32 × Int32 × Int32 × Int32 × (Nat → Int32) × (Nat → Int32) × (Nat → Int32) × (Nat → Int32) × (Nat → Int32) × (Nat → Int32) × (Nat → Int32))
  | 0, _, _ => none
  | n + 1, x2_31, thn_31 =>
    if 24 ≤ x2_31 then
      k thn_31
    else
      (f_X6_empties thn_31 x2_31).bind fun rr10 =>
      (xr_d tld_31 96 x2_31).bind fun v12 =>
      (xr_w rr10 1898 (0 + x2_31) v12).bind fun thn15 =>
      f_X6_load_31 tld_31 k n (x2_31 + 1) thn15
def f_X6_load (st : Int32) (le : Int32) (sp : Int32) (nu : Int32) (now : Nat → Int32) (thn : Nat → Int32) (pst : Nat → Int32) (txt : Nat → Int32) (hld : Nat → Int32) (far : Nat → Int32) (don : Nat → Int32) (tld : Nat → Int32) : Option (Int32 × Int32 × Int32 × Int32 × (Nat → Int32) × (Nat → Int32) × (Nat → Int32) × (Nat → Int32) × (Nat → Int32) × (Nat → Int32) × (Nat → Int32)) :=
  (f_X6_fault le sp nu txt tld).bind fun (v1, sp2, nu3, tld4) =>
  if v1 = (-5) then
    (f_X6_lays 1898 1898 now thn 0 0).bind fun g7 =>
    f_X6_load_31 tld4 (fun thnz16 =>
      f_X6_load_67 st sp2 nu3 now pst hld far don tld4 (fun thnz30 =>
        (f_X6_laysAll hld far don thnz30 0).bind fun (v31, hld32, far33, don34, rr35) =>
        (f_X6_accepts st now rr35 pst v31).bind fun (v37, st38, now39, pst40) =>
        if 0 ≤ v37 then
          (f_X6_cells now39).bind fun v43 =>
          some (v43, st38, sp2, nu3, now39, rr35, pst40, hld32, far33, don34, tld4)
        else
          some (v37, st38, sp2, nu3, now39, rr35, pst40, hld32, far33, don34, tld4)) xFu 0 thnz16) xFu 0 g7
  else
    some ((-100) - v1, st, sp2, nu3, now, thn, pst, hld, far, don, tld4)
theorem k_X6_load : xb_Y yX6_load cX6_load wsX6_load 3 (some .int) { frames := 7, cells := 0, slots := 0, locals := 153 } 0 := ⟨⟨_, rfl⟩, by decide, ⟨by decide, by decide, by decide +kernel⟩, rfl, rfl⟩
theorem fl_X6_load_7 : Cond.fieldLink RX6 7 "LookupBoardModel" "now" "[I" ∈ wsX6_load := List.mem_of_getElem? (i := 1) rfl
theorem fl_X6_load_13 : Cond.fieldLink RX6 13 "LookupBoardModel" "then" "[I" ∈ wsX6_load := List.mem_of_getElem? (i := 2) rfl
theorem fl_X6_load_36 : Cond.fieldLink RX6 36 "LookupBoardModel" "told" "[I" ∈ wsX6_load := List.mem_of_getElem? (i := 3) rfl
theorem iw_X6_load_6 : ∀ w ∈ wsX60, w ∈ wsX6_load := fun w h => List.mem_cons_of_mem _ (List.mem_append_right _ h)
set_option maxHeartbeats 4000000 in
set_option maxRecDepth 100000 in
theorem m_X6_load (D : va_G) (cI cC cZ cR : ClassId) (o0 : Nat) (ma : Nat → Nat) (st : Int32) (ik : Int32) (le : Int32) (sp : Int32) (nu : Int32) (now : Nat → Int32) (thn : Nat → Int32) (pst : Nat → Int32) (snp : Nat → Int32) (txt : Nat → Int32) (hld : Nat → Int32) (far : Nat → Int32) (don : Nat → Int32) (tld : Nat → Int32) (dep : Nat → Int32) (bit : Nat → Int32) (r : Int32) (st' : Int32) (sp' : Int32) (nu' : Int32) (now' : Nat → Int32) (thn' : Nat → Int32) (pst' : Nat → Int32) (hld' : Nat → Int32) (far' : Nat → Int32) (don' : Nat → Int32) (tld' : Nat → Int32) (h : f_X6_load st le sp nu now thn pst txt hld far don tld = some (r, st', sp', nu', now', thn', pst', hld', far', don', tld')) : xb_M cX6_load wsX6_load RX6 { frames := 7, cells := 0, slots := 0, locals := 153 } (some .int) 3 (xb_ty cI cC cZ cR) D [.ref o0] (wMo o0 ma st ik le sp nu ++ wAr cI (ma 0) 1898 now ++ wAr cI (ma 1) 1898 thn ++ wAr cI (ma 2) 7592 pst ++ wAr cI (ma 3) 1898 snp ++ wAr cC (ma 4) 80 txt ++ wAr cI (ma 5) 48 hld ++ wAr cI (ma 6) 24 far ++ wAr cZ (ma 7) 72 don ++ wAr cI (ma 8) 96 tld ++ wAr cI (ma 9) 24 dep ++ wAr cI (ma 10) 24 bit) (some (.int r)) (wMo o0 ma st' ik le sp' nu' ++ wAr cI (ma 0) 1898 now' ++ wAr cI (ma 1) 1898 thn' ++ wAr cI (ma 2) 7592 pst' ++ wAr cI (ma 3) 1898 snp ++ wAr cC (ma 4) 80 txt ++ wAr cI (ma 5) 48 hld' ++ wAr cI (ma 6) 24 far' ++ wAr cZ (ma 7) 72 don' ++ wAr cI (ma 8) 96 tld' ++ wAr cI (ma 9) 24 dep ++ wAr cI (ma 10) 24 bit) := by
  intro X C Z
  show xb_G X 0 0 (wMo o0 ma st ik le sp nu ++ wAr cI (ma 0) 1898 now ++ wAr cI (ma 1) 1898 thn ++ wAr cI (ma 2) 7592 pst ++ wAr cI (ma 3) 1898 snp ++ wAr cC (ma 4) 80 txt ++ wAr cI (ma 5) 48 hld ++ wAr cI (ma 6) 24 far ++ wAr cZ (ma 7) 72 don ++ wAr cI (ma 8) 96 tld ++ wAr cI (ma 9) 24 dep ++ wAr cI (ma 10) 24 bit) [(0, .ref o0)] 0 []
  have lp67 : ∀ (st_67 : Int32) (sp_67 : Int32) (nu_67 : Int32) (now_67 : Nat → Int32) (pst_67 : Nat → Int32) (hld_67 : Nat → Int32) (far_67 : Nat → Int32) (don_67 : Nat → Int32) (tld_67 : Nat → Int32) (k : (Nat → Int32) → Option (Int32 × Int32 × Int32 × Int32 × (Nat → Int32) × (Nat → Int32) × (Nat → Int32) × (Nat → Int32) × (Nat → Int32) × (Nat → Int32) × (Nat → Int32))) (n : Nat) (x2_67 : Int32) (thn_67 : Nat → Int32), f_X6_load_67 st_67 sp_67 nu_67 now_67 pst_67 hld_67 far_67 don_67 tld_67 k n x2_67 thn_67 = some (r, st', sp', nu', now', thn', pst', hld', far', don', tld') → (∀ (thn_67e : Nat → Int32), k thn_67e = some (r, st', sp', nu', now', thn', pst', hld', far', don', tld') → xb_G X 0 0 (wMo o0 ma st_67 ik le sp_67 nu_67 ++ wAr cI (ma 0) 1898 now_67 ++ wAr cI (ma 1) 1898 thn_67e ++ wAr cI (ma 2) 7592 pst_67 ++ wAr cI (ma 3) 1898 snp ++ wAr cC (ma 4) 80 txt ++ wAr cI (ma 5) 48 hld_67 ++ wAr cI (ma 6) 24 far_67 ++ wAr cZ (ma 7) 72 don_67 ++ wAr cI (ma 8) 96 tld_67 ++ wAr cI (ma 9) 24 dep ++ wAr cI (ma 10) 24 bit) [(0, .ref o0)] 132 []) → xb_G X 0 0 (wMo o0 ma st_67 ik le sp_67 nu_67 ++ wAr cI (ma 0) 1898 now_67 ++ wAr cI (ma 1) 1898 thn_67 ++ wAr cI (ma 2) 7592 pst_67 ++ wAr cI (ma 3) 1898 snp ++ wAr cC (ma 4) 80 txt ++ wAr cI (ma 5) 48 hld_67 ++ wAr cI (ma 6) 24 far_67 ++ wAr cZ (ma 7) 72 don_67 ++ wAr cI (ma 8) 96 tld_67 ++ wAr cI (ma 9) 24 dep ++ wAr cI (ma 10) 24 bit) [(0, .ref o0), (2, .int x2_67)] 67 [] := by
    intro st_67 sp_67 nu_67 now_67 pst_67 hld_67 far_67 don_67 tld_67 k n
    induction n with
    | zero => intro x2_67 thn_67 h hk; unfold f_X6_load_67 at h; cases h
    | succ n ih =>
      intro x2_67 thn_67 h hk
      unfold f_X6_load_67 at h
      refine xi_iload_n C dX6_load_67 rfl 1 rfl ?_
      refine xi_bipush (v := 72) C dX6_load_68 (by decide) ?_
      refine xi_icmp_ge (tgt := 132) C dX6_load_70 (by decide) (fun c17 => ?_) (fun c17 => ?_)
      · have h := it_i c17 h
        exact xb_lv (hk thn_67 h) [0] rfl
      · have h := ie_i c17 h
        refine xi_aload_n C dX6_load_73 rfl 0 rfl ?_
        refine xi_get C dX6_load_74 iw_X6_load_6 0 rfl rfl 12 (by decide) fl_X6_load_36 rfl ?_
        refine xi_iload_n C dX6_load_77 rfl 1 rfl ?_
        refine xi_iconst (v := 3) C dX6_load_78 (by decide) ?_
        refine xi_idiv C dX6_load_79 (by decide) ?_
        obtain ⟨v18, e19, h⟩ := ob_i h
        refine xi_iald C dX6_load_80 9 0 rfl rfl e19 ?_
        refine xi_bipush (v := (-5)) C dX6_load_81 (by decide) ?_
        refine xi_icmp_eq (tgt := 126) C dX6_load_83 (by decide) (fun c20 => ?_) (fun c20 => ?_)
        · have h := it_i c20 h
          refine xi_iinc (v := x2_67 + 1) (lv2 := [(0, .ref o0), (2, .int (x2_67 + 1))]) C dX6_load_126 1 rfl (by rfl) (by decide) [0] [1, 0] rfl ?_
          refine xi_goto (tgt := 67) C dX6_load_129 (by decide) ?_
          exact xb_lv (ih (x2_67 + 1) thn_67 h hk) [0, 1] rfl
        · have h := ie_i c20 h
          refine xi_aload_n C dX6_load_86 rfl 0 rfl ?_
          refine xi_get C dX6_load_87 iw_X6_load_6 0 rfl rfl 1 (by decide) fl_X6_load_13 rfl ?_
          refine xi_bipush (v := 24) C dX6_load_90 (by decide) ?_
          refine xi_iload_n C dX6_load_92 rfl 1 rfl ?_
          refine xi_iadd C dX6_load_93 ?_
          refine xi_aload_n C dX6_load_94 rfl 0 rfl ?_
          refine xi_get C dX6_load_95 iw_X6_load_6 0 rfl rfl 12 (by decide) fl_X6_load_36 rfl ?_
          refine xi_bipush (v := 24) C dX6_load_98 (by decide) ?_
          refine xi_iload_n C dX6_load_100 rfl 1 rfl ?_
          refine xi_iadd C dX6_load_101 ?_
          obtain ⟨v21, e22, h⟩ := ob_i h
          refine xi_iald C dX6_load_102 9 0 rfl rfl e22 ?_
          obtain ⟨thn24, e23, h⟩ := ob_i h
          refine xi_iast (w2 := (wMo o0 ma st_67 ik le sp_67 nu_67 ++ wAr cI (ma 0) 1898 now_67 ++ wAr cI (ma 1) 1898 thn24 ++ wAr cI (ma 2) 7592 pst_67 ++ wAr cI (ma 3) 1898 snp ++ wAr cC (ma 4) 80 txt ++ wAr cI (ma 5) 48 hld_67 ++ wAr cI (ma 6) 24 far_67 ++ wAr cZ (ma 7) 72 don_67 ++ wAr cI (ma 8) 96 tld_67 ++ wAr cI (ma 9) 24 dep ++ wAr cI (ma 10) 24 bit)) C dX6_load_103 2 0 rfl rfl e23 rfl ?_
          refine xi_aload_n C dX6_load_104 rfl 0 rfl ?_
          refine xi_get C dX6_load_105 iw_X6_load_6 0 rfl rfl 1 (by decide) fl_X6_load_13 rfl ?_
          refine xi_aload_n C dX6_load_108 rfl 0 rfl ?_
          refine xi_get C dX6_load_109 iw_X6_load_6 0 rfl rfl 1 (by decide) fl_X6_load_13 rfl ?_
          refine xi_bipush (v := 24) C dX6_load_112 (by decide) ?_
          refine xi_iload_n C dX6_load_114 rfl 1 rfl ?_
          refine xi_iadd C dX6_load_115 ?_
          obtain ⟨v25, e26, h⟩ := ob_i h
          refine xi_iald C dX6_load_116 2 0 rfl rfl e26 ?_
          obtain ⟨v27, e28, h⟩ := ob_i h
          refine xi_callS (As := [.ref (ma 1), .int v25]) (o := some (.int v27)) (rest := []) (w2 := (wMo o0 ma st_67 ik le sp_67 nu_67 ++ wAr cI (ma 0) 1898 now_67 ++ wAr cI (ma 1) 1898 thn24 ++ wAr cI (ma 2) 7592 pst_67 ++ wAr cI (ma 3) 1898 snp ++ wAr cC (ma 4) 80 txt ++ wAr cI (ma 5) 48 hld_67 ++ wAr cI (ma 6) 24 far_67 ++ wAr cZ (ma 7) 72 don_67 ++ wAr cI (ma 8) 96 tld_67 ++ wAr cI (ma 9) 24 dep ++ wAr cI (ma 10) 24 bit)) (st2 := [.int v27]) C k_X6_isSource (m_X6_isSource D cI cC cZ cR (ma 1) thn24 v25 v27 e28) gX6_load_X6_isSource dX6_load_117 ⟨Nat.le_of_ble_eq_true rfl, Nat.le_of_ble_eq_true rfl, Nat.le_of_ble_eq_true rfl⟩ [2] mxC_X6_2 rfl [0, 1, 2, 3] rfl mxF_X6_2 mxM_X6_2 rfl (Nat.le_of_ble_eq_true rfl) ⟨Nat.zero_le _, Nat.zero_le _⟩ rfl ?_
          refine xi_if_ne (tgt := 126) C dX6_load_120 (by decide) (fun c29 => ?_) (fun c29 => ?_)
          · have h := ie_i c29 h
            refine xi_iinc (v := x2_67 + 1) (lv2 := [(0, .ref o0), (2, .int (x2_67 + 1))]) C dX6_load_126 1 rfl (by rfl) (by decide) [0] [1, 0] rfl ?_
            refine xi_goto (tgt := 67) C dX6_load_129 (by decide) ?_
            exact xb_lv (ih (x2_67 + 1) thn24 h hk) [0, 1] rfl
          · have h := it_i c29 h
            refine xi_bipush (v := (-4)) C dX6_load_123 (by decide) ?_
            have w0 := Option.some.inj h
            obtain ⟨q0, w1⟩ := Prod.mk.inj w0
            obtain ⟨q1, w2⟩ := Prod.mk.inj w1
            obtain ⟨q2, w3⟩ := Prod.mk.inj w2
            obtain ⟨q3, w4⟩ := Prod.mk.inj w3
            obtain ⟨q4, w5⟩ := Prod.mk.inj w4
            obtain ⟨q5, w6⟩ := Prod.mk.inj w5
            obtain ⟨q6, w7⟩ := Prod.mk.inj w6
            obtain ⟨q7, w8⟩ := Prod.mk.inj w7
            obtain ⟨q8, w9⟩ := Prod.mk.inj w8
            obtain ⟨q9, w10⟩ := Prod.mk.inj w9
            subst q0
            subst q1
            subst q2
            subst q3
            subst q4
            subst q5
            subst q6
            subst q7
            subst q8
            subst q9
            subst w10
            exact xi_iret C Z dX6_load_125
  have lp31 : ∀ (st_31 : Int32) (sp_31 : Int32) (nu_31 : Int32) (now_31 : Nat → Int32) (pst_31 : Nat → Int32) (hld_31 : Nat → Int32) (far_31 : Nat → Int32) (don_31 : Nat → Int32) (tld_31 : Nat → Int32) (k : (Nat → Int32) → Option (Int32 × Int32 × Int32 × Int32 × (Nat → Int32) × (Nat → Int32) × (Nat → Int32) × (Nat → Int32) × (Nat → Int32) × (Nat → Int32) × (Nat → Int32))) (n : Nat) (x2_31 : Int32) (thn_31 : Nat → Int32), f_X6_load_31 tld_31 k n x2_31 thn_31 = some (r, st', sp', nu', now', thn', pst', hld', far', don', tld') → (∀ (thn_31e : Nat → Int32), k thn_31e = some (r, st', sp', nu', now', thn', pst', hld', far', don', tld') → xb_G X 0 0 (wMo o0 ma st_31 ik le sp_31 nu_31 ++ wAr cI (ma 0) 1898 now_31 ++ wAr cI (ma 1) 1898 thn_31e ++ wAr cI (ma 2) 7592 pst_31 ++ wAr cI (ma 3) 1898 snp ++ wAr cC (ma 4) 80 txt ++ wAr cI (ma 5) 48 hld_31 ++ wAr cI (ma 6) 24 far_31 ++ wAr cZ (ma 7) 72 don_31 ++ wAr cI (ma 8) 96 tld_31 ++ wAr cI (ma 9) 24 dep ++ wAr cI (ma 10) 24 bit) [(0, .ref o0)] 65 []) → xb_G X 0 0 (wMo o0 ma st_31 ik le sp_31 nu_31 ++ wAr cI (ma 0) 1898 now_31 ++ wAr cI (ma 1) 1898 thn_31 ++ wAr cI (ma 2) 7592 pst_31 ++ wAr cI (ma 3) 1898 snp ++ wAr cC (ma 4) 80 txt ++ wAr cI (ma 5) 48 hld_31 ++ wAr cI (ma 6) 24 far_31 ++ wAr cZ (ma 7) 72 don_31 ++ wAr cI (ma 8) 96 tld_31 ++ wAr cI (ma 9) 24 dep ++ wAr cI (ma 10) 24 bit) [(0, .ref o0), (2, .int x2_31)] 31 [] := by
    intro st_31 sp_31 nu_31 now_31 pst_31 hld_31 far_31 don_31 tld_31 k n
    induction n with
    | zero => intro x2_31 thn_31 h hk; unfold f_X6_load_31 at h; cases h
    | succ n ih =>
      intro x2_31 thn_31 h hk
      unfold f_X6_load_31 at h
      refine xi_iload_n C dX6_load_31 rfl 1 rfl ?_
      refine xi_bipush (v := 24) C dX6_load_32 (by decide) ?_
      refine xi_icmp_ge (tgt := 65) C dX6_load_34 (by decide) (fun c9 => ?_) (fun c9 => ?_)
      · have h := it_i c9 h
        exact xb_lv (hk thn_31 h) [0] rfl
      · have h := ie_i c9 h
        refine xi_aload_n C dX6_load_37 rfl 0 rfl ?_
        refine xi_get C dX6_load_38 iw_X6_load_6 0 rfl rfl 1 (by decide) fl_X6_load_13 rfl ?_
        refine xi_iload_n C dX6_load_41 rfl 1 rfl ?_
        obtain ⟨rr10, e11, h⟩ := ob_i h
        refine xi_callS (As := [.ref (ma 1), .int x2_31]) (o := none) (rest := []) (w2 := (wMo o0 ma st_31 ik le sp_31 nu_31 ++ wAr cI (ma 0) 1898 now_31 ++ wAr cI (ma 1) 1898 rr10 ++ wAr cI (ma 2) 7592 pst_31 ++ wAr cI (ma 3) 1898 snp ++ wAr cC (ma 4) 80 txt ++ wAr cI (ma 5) 48 hld_31 ++ wAr cI (ma 6) 24 far_31 ++ wAr cZ (ma 7) 72 don_31 ++ wAr cI (ma 8) 96 tld_31 ++ wAr cI (ma 9) 24 dep ++ wAr cI (ma 10) 24 bit)) (st2 := []) C k_X6_empties (m_X6_empties D cI cC cZ cR (ma 1) thn_31 x2_31 rr10 e11) gX6_load_X6_empties dX6_load_42 ⟨Nat.le_of_ble_eq_true rfl, Nat.le_of_ble_eq_true rfl, Nat.le_of_ble_eq_true rfl⟩ [2] mxC_X6_2 rfl [0, 1, 2, 3] rfl mxF_X6_2 mxM_X6_2 rfl (Nat.le_of_ble_eq_true rfl) ⟨Nat.zero_le _, Nat.zero_le _⟩ rfl ?_
        refine xi_aload_n C dX6_load_45 rfl 0 rfl ?_
        refine xi_get C dX6_load_46 iw_X6_load_6 0 rfl rfl 1 (by decide) fl_X6_load_13 rfl ?_
        refine xi_iconst (v := 0) C dX6_load_49 (by decide) ?_
        refine xi_iload_n C dX6_load_50 rfl 1 rfl ?_
        refine xi_iadd C dX6_load_51 ?_
        refine xi_aload_n C dX6_load_52 rfl 0 rfl ?_
        refine xi_get C dX6_load_53 iw_X6_load_6 0 rfl rfl 12 (by decide) fl_X6_load_36 rfl ?_
        refine xi_iload_n C dX6_load_56 rfl 1 rfl ?_
        obtain ⟨v12, e13, h⟩ := ob_i h
        refine xi_iald C dX6_load_57 9 0 rfl rfl e13 ?_
        obtain ⟨thn15, e14, h⟩ := ob_i h
        refine xi_iast (w2 := (wMo o0 ma st_31 ik le sp_31 nu_31 ++ wAr cI (ma 0) 1898 now_31 ++ wAr cI (ma 1) 1898 thn15 ++ wAr cI (ma 2) 7592 pst_31 ++ wAr cI (ma 3) 1898 snp ++ wAr cC (ma 4) 80 txt ++ wAr cI (ma 5) 48 hld_31 ++ wAr cI (ma 6) 24 far_31 ++ wAr cZ (ma 7) 72 don_31 ++ wAr cI (ma 8) 96 tld_31 ++ wAr cI (ma 9) 24 dep ++ wAr cI (ma 10) 24 bit)) C dX6_load_58 2 0 rfl rfl e14 rfl ?_
        refine xi_iinc (v := x2_31 + 1) (lv2 := [(0, .ref o0), (2, .int (x2_31 + 1))]) C dX6_load_59 1 rfl (by rfl) (by decide) [0] [1, 0] rfl ?_
        refine xi_goto (tgt := 31) C dX6_load_62 (by decide) ?_
        exact xb_lv (ih (x2_31 + 1) thn15 h hk) [0, 1] rfl
  unfold f_X6_load at h
  refine xi_aload_n C dX6_load_0 rfl 0 rfl ?_
  obtain ⟨⟨v1, sp2, nu3, tld4⟩, e5, h⟩ := ob_i h
  refine xi_callV (As := []) (o := some (.int v1)) (rest := []) (w2 := (wMo o0 ma st ik le sp2 nu3 ++ wAr cI (ma 0) 1898 now ++ wAr cI (ma 1) 1898 thn ++ wAr cI (ma 2) 7592 pst ++ wAr cI (ma 3) 1898 snp ++ wAr cC (ma 4) 80 txt ++ wAr cI (ma 5) 48 hld ++ wAr cI (ma 6) 24 far ++ wAr cZ (ma 7) 72 don ++ wAr cI (ma 8) 96 tld4 ++ wAr cI (ma 9) 24 dep ++ wAr cI (ma 10) 24 bit)) (st2 := [.int v1]) C k_X6_fault (m_X6_fault D cI cC cZ cR o0 ma st ik le sp nu now thn pst snp txt hld far don tld dep bit v1 sp2 nu3 tld4 e5) gX6_load_X6_fault dX6_load_1 ⟨Nat.le_of_ble_eq_true rfl, Nat.le_of_ble_eq_true rfl, Nat.le_of_ble_eq_true rfl⟩ 0 rfl rfl [0, 1, 2, 3, 4, 5, 6, 7, 8, 9, 10, 11] mxC_X6_0_1_2_3_4_5_6_7_8_9_10_11 rfl [0, 1, 2, 3] rfl mxF_X6_0_1_2_3_4_5_6_7_8_9_10_11 mxM_X6_0_1_2_3_4_5_6_7_8_9_10_11 rfl (Nat.le_of_ble_eq_true rfl) ⟨Nat.zero_le _, Nat.zero_le _⟩ rfl ?_
  refine xi_istore_n (lv2 := [(0, .ref o0), (1, .int v1)]) C dX6_load_4 rfl (by decide) [0] [1, 0] rfl ?_
  refine xi_iload_n C dX6_load_5 rfl 1 rfl ?_
  refine xi_bipush (v := (-5)) C dX6_load_6 (by decide) ?_
  refine xi_icmp_eq (tgt := 16) C dX6_load_8 (by decide) (fun c6 => ?_) (fun c6 => ?_)
  · have h := it_i c6 h
    refine xi_aload_n C dX6_load_16 rfl 0 rfl ?_
    refine xi_get C dX6_load_17 iw_X6_load_6 0 rfl rfl 0 (by decide) fl_X6_load_7 rfl ?_
    refine xi_iconst (v := 0) C dX6_load_20 (by decide) ?_
    refine xi_aload_n C dX6_load_21 rfl 0 rfl ?_
    refine xi_get C dX6_load_22 iw_X6_load_6 0 rfl rfl 1 (by decide) fl_X6_load_13 rfl ?_
    refine xi_iconst (v := 0) C dX6_load_25 (by decide) ?_
    obtain ⟨g7, e8, h⟩ := ob_i h
    refine xi_callS (As := [.ref (ma 0), .int 0, .ref (ma 1), .int 0]) (o := none) (rest := []) (w2 := (wMo o0 ma st ik le sp2 nu3 ++ wAr cI (ma 0) 1898 now ++ wAr cI (ma 1) 1898 g7 ++ wAr cI (ma 2) 7592 pst ++ wAr cI (ma 3) 1898 snp ++ wAr cC (ma 4) 80 txt ++ wAr cI (ma 5) 48 hld ++ wAr cI (ma 6) 24 far ++ wAr cZ (ma 7) 72 don ++ wAr cI (ma 8) 96 tld4 ++ wAr cI (ma 9) 24 dep ++ wAr cI (ma 10) 24 bit)) (st2 := []) C k_X6_lays (m_X6_lays D cI cC cZ cR 1898 1898 (ma 0) (ma 1) now thn 0 0 g7 e8) gX6_load_X6_lays dX6_load_26 ⟨Nat.le_of_ble_eq_true rfl, Nat.le_of_ble_eq_true rfl, Nat.le_of_ble_eq_true rfl⟩ [1, 2] mxC_X6_1_2 rfl [0, 1, 2, 3] rfl mxF_X6_1_2 mxM_X6_1_2 rfl (Nat.le_of_ble_eq_true rfl) ⟨Nat.zero_le _, Nat.zero_le _⟩ rfl ?_
    refine xi_iconst (v := 0) C dX6_load_29 (by decide) ?_
    refine xi_istore_n (lv2 := [(0, .ref o0), (1, .int v1), (2, .int 0)]) C dX6_load_30 rfl (by decide) [0, 1] [1, 2, 0] rfl ?_
    refine xb_lv (lp31 st sp2 nu3 now pst hld far don tld4 _ xFu 0 g7 h (fun thnz16 h => ?_)) [0, 2] rfl
    refine xi_iconst (v := 0) C dX6_load_65 (by decide) ?_
    refine xi_istore_n (lv2 := [(0, .ref o0), (2, .int 0)]) C dX6_load_66 rfl (by decide) [0] [1, 0] rfl ?_
    refine xb_lv (lp67 st sp2 nu3 now pst hld far don tld4 _ xFu 0 thnz16 h (fun thnz30 h => ?_)) [0, 1] rfl
    refine xi_aload_n C dX6_load_132 rfl 0 rfl ?_
    refine xi_aload_n C dX6_load_133 rfl 0 rfl ?_
    refine xi_aload_n C dX6_load_134 rfl 0 rfl ?_
    refine xi_get C dX6_load_135 iw_X6_load_6 0 rfl rfl 1 (by decide) fl_X6_load_13 rfl ?_
    refine xi_iconst (v := 0) C dX6_load_138 (by decide) ?_
    obtain ⟨⟨v31, hld32, far33, don34, rr35⟩, e36, h⟩ := ob_i h
    refine xi_callV (As := [.ref (ma 1), .int 0]) (o := some (.int v31)) (rest := [.ref o0]) (w2 := (wMo o0 ma st ik le sp2 nu3 ++ wAr cI (ma 0) 1898 now ++ wAr cI (ma 1) 1898 rr35 ++ wAr cI (ma 2) 7592 pst ++ wAr cI (ma 3) 1898 snp ++ wAr cC (ma 4) 80 txt ++ wAr cI (ma 5) 48 hld32 ++ wAr cI (ma 6) 24 far33 ++ wAr cZ (ma 7) 72 don34 ++ wAr cI (ma 8) 96 tld4 ++ wAr cI (ma 9) 24 dep ++ wAr cI (ma 10) 24 bit)) (st2 := [.int v31, .ref o0]) C k_X6_laysAll (m_X6_laysAll D cI cC cZ cR o0 ma (ma 1) st ik le sp2 nu3 hld far don thnz30 0 v31 hld32 far33 don34 rr35 e36) gX6_load_X6_laysAll dX6_load_139 ⟨Nat.le_of_ble_eq_true rfl, Nat.le_of_ble_eq_true rfl, Nat.le_of_ble_eq_true rfl⟩ 0 rfl rfl [0, 6, 7, 8, 2] mxC_X6_0_6_7_8_2 rfl [0, 1, 2, 3] rfl mxF_X6_0_6_7_8_2 mxM_X6_0_6_7_8_2 rfl (Nat.le_of_ble_eq_true rfl) ⟨Nat.zero_le _, Nat.zero_le _⟩ rfl ?_
    obtain ⟨⟨v37, st38, now39, pst40⟩, e41, h⟩ := ob_i h
    refine xi_callV (As := [.int v31]) (o := some (.int v37)) (rest := []) (w2 := (wMo o0 ma st38 ik le sp2 nu3 ++ wAr cI (ma 0) 1898 now39 ++ wAr cI (ma 1) 1898 rr35 ++ wAr cI (ma 2) 7592 pst40 ++ wAr cI (ma 3) 1898 snp ++ wAr cC (ma 4) 80 txt ++ wAr cI (ma 5) 48 hld32 ++ wAr cI (ma 6) 24 far33 ++ wAr cZ (ma 7) 72 don34 ++ wAr cI (ma 8) 96 tld4 ++ wAr cI (ma 9) 24 dep ++ wAr cI (ma 10) 24 bit)) (st2 := [.int v37]) C k_X6_accepts (m_X6_accepts D cI cC cZ cR o0 ma st ik le sp2 nu3 now rr35 pst snp txt hld32 far33 don34 tld4 dep bit v31 v37 st38 now39 pst40 e41) gX6_load_X6_accepts dX6_load_142 ⟨Nat.le_of_ble_eq_true rfl, Nat.le_of_ble_eq_true rfl, Nat.le_of_ble_eq_true rfl⟩ 0 rfl rfl [0, 1, 2, 3, 4, 5, 6, 7, 8, 9, 10, 11] mxC_X6_0_1_2_3_4_5_6_7_8_9_10_11 rfl [0, 1, 2, 3] rfl mxF_X6_0_1_2_3_4_5_6_7_8_9_10_11 mxM_X6_0_1_2_3_4_5_6_7_8_9_10_11 rfl (Nat.le_of_ble_eq_true rfl) ⟨Nat.zero_le _, Nat.zero_le _⟩ rfl ?_
    refine xi_istore_n (lv2 := [(0, .ref o0), (2, .int v37)]) C dX6_load_145 rfl (by decide) [0] [1, 0] rfl ?_
    refine xi_iload_n C dX6_load_146 rfl 1 rfl ?_
    refine xi_if_ge (tgt := 154) C dX6_load_147 (by decide) (fun c42 => ?_) (fun c42 => ?_)
    · have h := it_i c42 h
      refine xi_aload_n C dX6_load_154 rfl 0 rfl ?_
      refine xi_get C dX6_load_155 iw_X6_load_6 0 rfl rfl 0 (by decide) fl_X6_load_7 rfl ?_
      obtain ⟨v43, e44, h⟩ := ob_i h
      refine xi_callS (As := [.ref (ma 0)]) (o := some (.int v43)) (rest := []) (w2 := (wMo o0 ma st38 ik le sp2 nu3 ++ wAr cI (ma 0) 1898 now39 ++ wAr cI (ma 1) 1898 rr35 ++ wAr cI (ma 2) 7592 pst40 ++ wAr cI (ma 3) 1898 snp ++ wAr cC (ma 4) 80 txt ++ wAr cI (ma 5) 48 hld32 ++ wAr cI (ma 6) 24 far33 ++ wAr cZ (ma 7) 72 don34 ++ wAr cI (ma 8) 96 tld4 ++ wAr cI (ma 9) 24 dep ++ wAr cI (ma 10) 24 bit)) (st2 := [.int v43]) C k_X6_cells (m_X6_cells D cI cC cZ cR (ma 0) now39 v43 e44) gX6_load_X6_cells dX6_load_158 ⟨Nat.le_of_ble_eq_true rfl, Nat.le_of_ble_eq_true rfl, Nat.le_of_ble_eq_true rfl⟩ [1] mxC_X6_1 rfl [0, 1, 2, 3] rfl mxF_X6_1 mxM_X6_1 rfl (Nat.le_of_ble_eq_true rfl) ⟨Nat.zero_le _, Nat.zero_le _⟩ rfl ?_
      have w0 := Option.some.inj h
      obtain ⟨q0, w1⟩ := Prod.mk.inj w0
      obtain ⟨q1, w2⟩ := Prod.mk.inj w1
      obtain ⟨q2, w3⟩ := Prod.mk.inj w2
      obtain ⟨q3, w4⟩ := Prod.mk.inj w3
      obtain ⟨q4, w5⟩ := Prod.mk.inj w4
      obtain ⟨q5, w6⟩ := Prod.mk.inj w5
      obtain ⟨q6, w7⟩ := Prod.mk.inj w6
      obtain ⟨q7, w8⟩ := Prod.mk.inj w7
      obtain ⟨q8, w9⟩ := Prod.mk.inj w8
      obtain ⟨q9, w10⟩ := Prod.mk.inj w9
      subst q0
      subst q1
      subst q2
      subst q3
      subst q4
      subst q5
      subst q6
      subst q7
      subst q8
      subst q9
      subst w10
      exact xi_iret C Z dX6_load_161
    · have h := ie_i c42 h
      refine xi_iload_n C dX6_load_150 rfl 1 rfl ?_
      refine xi_goto (tgt := 161) C dX6_load_151 (by decide) ?_
      have w0 := Option.some.inj h
      obtain ⟨q0, w1⟩ := Prod.mk.inj w0
      obtain ⟨q1, w2⟩ := Prod.mk.inj w1
      obtain ⟨q2, w3⟩ := Prod.mk.inj w2
      obtain ⟨q3, w4⟩ := Prod.mk.inj w3
      obtain ⟨q4, w5⟩ := Prod.mk.inj w4
      obtain ⟨q5, w6⟩ := Prod.mk.inj w5
      obtain ⟨q6, w7⟩ := Prod.mk.inj w6
      obtain ⟨q7, w8⟩ := Prod.mk.inj w7
      obtain ⟨q8, w9⟩ := Prod.mk.inj w8
      obtain ⟨q9, w10⟩ := Prod.mk.inj w9
      subst q0
      subst q1
      subst q2
      subst q3
      subst q4
      subst q5
      subst q6
      subst q7
      subst q8
      subst q9
      subst w10
      exact xi_iret C Z dX6_load_161
  · have h := ie_i c6 h
    refine xi_bipush (v := (-100)) C dX6_load_11 (by decide) ?_
    refine xi_iload_n C dX6_load_13 rfl 1 rfl ?_
    refine xi_isub C dX6_load_14 ?_
    have w0 := Option.some.inj h
    obtain ⟨q0, w1⟩ := Prod.mk.inj w0
    obtain ⟨q1, w2⟩ := Prod.mk.inj w1
    obtain ⟨q2, w3⟩ := Prod.mk.inj w2
    obtain ⟨q3, w4⟩ := Prod.mk.inj w3
    obtain ⟨q4, w5⟩ := Prod.mk.inj w4
    obtain ⟨q5, w6⟩ := Prod.mk.inj w5
    obtain ⟨q6, w7⟩ := Prod.mk.inj w6
    obtain ⟨q7, w8⟩ := Prod.mk.inj w7
    obtain ⟨q8, w9⟩ := Prod.mk.inj w8
    obtain ⟨q9, w10⟩ := Prod.mk.inj w9
    subst q0
    subst q1
    subst q2
    subst q3
    subst q4
    subst q5
    subst q6
    subst q7
    subst q8
    subst q9
    subst w10
    exact xi_iret C Z dX6_load_15
def f_X6_undo (st : Int32) (now : Nat → Int32) (pst : Nat → Int32) : Option (Int32 × Int32 × (Nat → Int32)) :=
  if st = 0 then
    some ((-5), st, now)
  else
    (f_X6_lays 7592 1898 pst now (1898 * (st - 1)) 0).bind fun g2 =>
    some (st - 1, st - 1, g2)
theorem k_X6_undo : xb_Y yX6_undo cX6_undo wsX6_undo 1 (some .int) { frames := 1, cells := 0, slots := 0, locals := 24 } 0 := ⟨⟨_, rfl⟩, by decide, ⟨by decide, by decide, by decide +kernel⟩, rfl, rfl⟩
theorem fl_X6_undo_7 : Cond.fieldLink RX6 7 "LookupBoardModel" "now" "[I" ∈ wsX6_undo := List.mem_of_getElem? (i := 3) rfl
theorem fl_X6_undo_16 : Cond.fieldLink RX6 16 "LookupBoardModel" "past" "[I" ∈ wsX6_undo := List.mem_of_getElem? (i := 2) rfl
theorem fl_X6_undo_45 : Cond.fieldLink RX6 45 "LookupBoardModel" "states" "I" ∈ wsX6_undo := List.mem_of_getElem? (i := 1) rfl
theorem iw_X6_undo_6 : ∀ w ∈ wsX60, w ∈ wsX6_undo := fun w h => List.mem_cons_of_mem _ (List.mem_append_right _ h)
set_option maxHeartbeats 4000000 in
set_option maxRecDepth 100000 in
theorem m_X6_undo (D : va_G) (cI cC cZ cR : ClassId) (o0 : Nat) (ma : Nat → Nat) (st : Int32) (ik : Int32) (le : Int32) (sp : Int32) (nu : Int32) (now : Nat → Int32) (thn : Nat → Int32) (pst : Nat → Int32) (snp : Nat → Int32) (txt : Nat → Int32) (hld : Nat → Int32) (far : Nat → Int32) (don : Nat → Int32) (tld : Nat → Int32) (dep : Nat → Int32) (bit : Nat → Int32) (r : Int32) (st' : Int32) (now' : Nat → Int32) (h : f_X6_undo st now pst = some (r, st', now')) : xb_M cX6_undo wsX6_undo RX6 { frames := 1, cells := 0, slots := 0, locals := 24 } (some .int) 1 (xb_ty cI cC cZ cR) D [.ref o0] (wMo o0 ma st ik le sp nu ++ wAr cI (ma 0) 1898 now ++ wAr cI (ma 1) 1898 thn ++ wAr cI (ma 2) 7592 pst ++ wAr cI (ma 3) 1898 snp ++ wAr cC (ma 4) 80 txt ++ wAr cI (ma 5) 48 hld ++ wAr cI (ma 6) 24 far ++ wAr cZ (ma 7) 72 don ++ wAr cI (ma 8) 96 tld ++ wAr cI (ma 9) 24 dep ++ wAr cI (ma 10) 24 bit) (some (.int r)) (wMo o0 ma st' ik le sp nu ++ wAr cI (ma 0) 1898 now' ++ wAr cI (ma 1) 1898 thn ++ wAr cI (ma 2) 7592 pst ++ wAr cI (ma 3) 1898 snp ++ wAr cC (ma 4) 80 txt ++ wAr cI (ma 5) 48 hld ++ wAr cI (ma 6) 24 far ++ wAr cZ (ma 7) 72 don ++ wAr cI (ma 8) 96 tld ++ wAr cI (ma 9) 24 dep ++ wAr cI (ma 10) 24 bit) := by
  intro X C Z
  show xb_G X 0 0 (wMo o0 ma st ik le sp nu ++ wAr cI (ma 0) 1898 now ++ wAr cI (ma 1) 1898 thn ++ wAr cI (ma 2) 7592 pst ++ wAr cI (ma 3) 1898 snp ++ wAr cC (ma 4) 80 txt ++ wAr cI (ma 5) 48 hld ++ wAr cI (ma 6) 24 far ++ wAr cZ (ma 7) 72 don ++ wAr cI (ma 8) 96 tld ++ wAr cI (ma 9) 24 dep ++ wAr cI (ma 10) 24 bit) [(0, .ref o0)] 0 []
  unfold f_X6_undo at h
  refine xi_aload_n C dX6_undo_0 rfl 0 rfl ?_
  refine xi_get C dX6_undo_1 iw_X6_undo_6 0 rfl rfl 3 (by decide) fl_X6_undo_45 rfl ?_
  refine xi_if_ne (tgt := 10) C dX6_undo_4 (by decide) (fun c1 => ?_) (fun c1 => ?_)
  · have h := ie_i c1 h
    refine xi_aload_n C dX6_undo_10 rfl 0 rfl ?_
    refine xi_dup C dX6_undo_11 rfl ?_
    refine xi_get C dX6_undo_12 iw_X6_undo_6 0 rfl rfl 3 (by decide) fl_X6_undo_45 rfl ?_
    refine xi_iconst (v := 1) C dX6_undo_15 (by decide) ?_
    refine xi_isub C dX6_undo_16 ?_
    refine xi_put (ty := .int) (w2 := (wMo o0 ma (st - 1) ik le sp nu ++ wAr cI (ma 0) 1898 now ++ wAr cI (ma 1) 1898 thn ++ wAr cI (ma 2) 7592 pst ++ wAr cI (ma 3) 1898 snp ++ wAr cC (ma 4) 80 txt ++ wAr cI (ma 5) 48 hld ++ wAr cI (ma 6) 24 far ++ wAr cZ (ma 7) 72 don ++ wAr cI (ma 8) 96 tld ++ wAr cI (ma 9) 24 dep ++ wAr cI (ma 10) 24 bit)) C dX6_undo_17 iw_X6_undo_6 tyX6 tyX6_ok nmX6 0 rfl rfl 3 (by decide) fl_X6_undo_45 rfl (by decide +kernel) (by rfl) (by rfl) (Nat.le_of_ble_eq_true rfl) rfl ?_
    refine xi_aload_n C dX6_undo_20 rfl 0 rfl ?_
    refine xi_get C dX6_undo_21 iw_X6_undo_6 0 rfl rfl 2 (by decide) fl_X6_undo_16 rfl ?_
    refine xi_sipush (v := 1898) C dX6_undo_24 (by decide) ?_
    refine xi_aload_n C dX6_undo_27 rfl 0 rfl ?_
    refine xi_get C dX6_undo_28 iw_X6_undo_6 0 rfl rfl 3 (by decide) fl_X6_undo_45 rfl ?_
    refine xi_imul C dX6_undo_31 ?_
    refine xi_aload_n C dX6_undo_32 rfl 0 rfl ?_
    refine xi_get C dX6_undo_33 iw_X6_undo_6 0 rfl rfl 0 (by decide) fl_X6_undo_7 rfl ?_
    refine xi_iconst (v := 0) C dX6_undo_36 (by decide) ?_
    obtain ⟨g2, e3, h⟩ := ob_i h
    refine xi_callS (As := [.ref (ma 2), .int (1898 * (st - 1)), .ref (ma 0), .int 0]) (o := none) (rest := []) (w2 := (wMo o0 ma (st - 1) ik le sp nu ++ wAr cI (ma 0) 1898 g2 ++ wAr cI (ma 1) 1898 thn ++ wAr cI (ma 2) 7592 pst ++ wAr cI (ma 3) 1898 snp ++ wAr cC (ma 4) 80 txt ++ wAr cI (ma 5) 48 hld ++ wAr cI (ma 6) 24 far ++ wAr cZ (ma 7) 72 don ++ wAr cI (ma 8) 96 tld ++ wAr cI (ma 9) 24 dep ++ wAr cI (ma 10) 24 bit)) (st2 := []) C k_X6_lays (m_X6_lays D cI cC cZ cR 7592 1898 (ma 2) (ma 0) pst now (1898 * (st - 1)) 0 g2 e3) gX6_undo_X6_lays dX6_undo_37 ⟨Nat.le_of_ble_eq_true rfl, Nat.le_of_ble_eq_true rfl, Nat.le_of_ble_eq_true rfl⟩ [3, 1] mxC_X6_3_1 rfl [0, 1, 2, 3] rfl mxF_X6_3_1 mxM_X6_3_1 rfl (Nat.le_of_ble_eq_true rfl) ⟨Nat.zero_le _, Nat.zero_le _⟩ rfl ?_
    refine xi_aload_n C dX6_undo_40 rfl 0 rfl ?_
    refine xi_get C dX6_undo_41 iw_X6_undo_6 0 rfl rfl 3 (by decide) fl_X6_undo_45 rfl ?_
    have w0 := Option.some.inj h
    obtain ⟨q0, w1⟩ := Prod.mk.inj w0
    obtain ⟨q1, w2⟩ := Prod.mk.inj w1
    subst q0
    subst q1
    subst w2
    exact xi_iret C Z dX6_undo_44
  · have h := it_i c1 h
    refine xi_bipush (v := (-5)) C dX6_undo_7 (by decide) ?_
    have w0 := Option.some.inj h
    obtain ⟨q0, w1⟩ := Prod.mk.inj w0
    obtain ⟨q1, w2⟩ := Prod.mk.inj w1
    subst q0
    subst q1
    subst w2
    exact xi_iret C Z dX6_undo_9
def f_X6_keep (ik : Int32) (now : Nat → Int32) (snp : Nat → Int32) : Option (Int32 × Int32 × (Nat → Int32)) :=
  (f_X6_lays 1898 1898 now snp 0 0).bind fun g1 =>
  (f_X6_cells now).bind fun v3 =>
  some (v3, 1, g1)
theorem k_X6_keep : xb_Y yX6_keep cX6_keep wsX6_keep 1 (some .int) { frames := 4, cells := 0, slots := 0, locals := 85 } 0 := ⟨⟨_, rfl⟩, by decide, ⟨by decide, by decide, by decide +kernel⟩, rfl, rfl⟩
theorem fl_X6_keep_7 : Cond.fieldLink RX6 7 "LookupBoardModel" "now" "[I" ∈ wsX6_keep := List.mem_of_getElem? (i := 1) rfl
theorem fl_X6_keep_19 : Cond.fieldLink RX6 19 "LookupBoardModel" "snapshot" "[I" ∈ wsX6_keep := List.mem_of_getElem? (i := 2) rfl
theorem fl_X6_keep_191 : Cond.fieldLink RX6 191 "LookupBoardModel" "isKept" "Z" ∈ wsX6_keep := List.mem_of_getElem? (i := 3) rfl
theorem iw_X6_keep_6 : ∀ w ∈ wsX60, w ∈ wsX6_keep := fun w h => List.mem_cons_of_mem _ (List.mem_append_right _ h)
set_option maxHeartbeats 4000000 in
set_option maxRecDepth 100000 in
theorem m_X6_keep (D : va_G) (cI cC cZ cR : ClassId) (o0 : Nat) (ma : Nat → Nat) (st : Int32) (ik : Int32) (le : Int32) (sp : Int32) (nu : Int32) (now : Nat → Int32) (thn : Nat → Int32) (pst : Nat → Int32) (snp : Nat → Int32) (txt : Nat → Int32) (hld : Nat → Int32) (far : Nat → Int32) (don : Nat → Int32) (tld : Nat → Int32) (dep : Nat → Int32) (bit : Nat → Int32) (r : Int32) (ik' : Int32) (snp' : Nat → Int32) (h : f_X6_keep ik now snp = some (r, ik', snp')) : xb_M cX6_keep wsX6_keep RX6 { frames := 4, cells := 0, slots := 0, locals := 85 } (some .int) 1 (xb_ty cI cC cZ cR) D [.ref o0] (wMo o0 ma st ik le sp nu ++ wAr cI (ma 0) 1898 now ++ wAr cI (ma 1) 1898 thn ++ wAr cI (ma 2) 7592 pst ++ wAr cI (ma 3) 1898 snp ++ wAr cC (ma 4) 80 txt ++ wAr cI (ma 5) 48 hld ++ wAr cI (ma 6) 24 far ++ wAr cZ (ma 7) 72 don ++ wAr cI (ma 8) 96 tld ++ wAr cI (ma 9) 24 dep ++ wAr cI (ma 10) 24 bit) (some (.int r)) (wMo o0 ma st ik' le sp nu ++ wAr cI (ma 0) 1898 now ++ wAr cI (ma 1) 1898 thn ++ wAr cI (ma 2) 7592 pst ++ wAr cI (ma 3) 1898 snp' ++ wAr cC (ma 4) 80 txt ++ wAr cI (ma 5) 48 hld ++ wAr cI (ma 6) 24 far ++ wAr cZ (ma 7) 72 don ++ wAr cI (ma 8) 96 tld ++ wAr cI (ma 9) 24 dep ++ wAr cI (ma 10) 24 bit) := by
  intro X C Z
  show xb_G X 0 0 (wMo o0 ma st ik le sp nu ++ wAr cI (ma 0) 1898 now ++ wAr cI (ma 1) 1898 thn ++ wAr cI (ma 2) 7592 pst ++ wAr cI (ma 3) 1898 snp ++ wAr cC (ma 4) 80 txt ++ wAr cI (ma 5) 48 hld ++ wAr cI (ma 6) 24 far ++ wAr cZ (ma 7) 72 don ++ wAr cI (ma 8) 96 tld ++ wAr cI (ma 9) 24 dep ++ wAr cI (ma 10) 24 bit) [(0, .ref o0)] 0 []
  unfold f_X6_keep at h
  refine xi_aload_n C dX6_keep_0 rfl 0 rfl ?_
  refine xi_get C dX6_keep_1 iw_X6_keep_6 0 rfl rfl 0 (by decide) fl_X6_keep_7 rfl ?_
  refine xi_iconst (v := 0) C dX6_keep_4 (by decide) ?_
  refine xi_aload_n C dX6_keep_5 rfl 0 rfl ?_
  refine xi_get C dX6_keep_6 iw_X6_keep_6 0 rfl rfl 4 (by decide) fl_X6_keep_19 rfl ?_
  refine xi_iconst (v := 0) C dX6_keep_9 (by decide) ?_
  obtain ⟨g1, e2, h⟩ := ob_i h
  refine xi_callS (As := [.ref (ma 0), .int 0, .ref (ma 3), .int 0]) (o := none) (rest := []) (w2 := (wMo o0 ma st ik le sp nu ++ wAr cI (ma 0) 1898 now ++ wAr cI (ma 1) 1898 thn ++ wAr cI (ma 2) 7592 pst ++ wAr cI (ma 3) 1898 g1 ++ wAr cC (ma 4) 80 txt ++ wAr cI (ma 5) 48 hld ++ wAr cI (ma 6) 24 far ++ wAr cZ (ma 7) 72 don ++ wAr cI (ma 8) 96 tld ++ wAr cI (ma 9) 24 dep ++ wAr cI (ma 10) 24 bit)) (st2 := []) C k_X6_lays (m_X6_lays D cI cC cZ cR 1898 1898 (ma 0) (ma 3) now snp 0 0 g1 e2) gX6_keep_X6_lays dX6_keep_10 ⟨Nat.le_of_ble_eq_true rfl, Nat.le_of_ble_eq_true rfl, Nat.le_of_ble_eq_true rfl⟩ [1, 4] mxC_X6_1_4 rfl [0, 1, 2, 3] rfl mxF_X6_1_4 mxM_X6_1_4 rfl (Nat.le_of_ble_eq_true rfl) ⟨Nat.zero_le _, Nat.zero_le _⟩ rfl ?_
  refine xi_aload_n C dX6_keep_13 rfl 0 rfl ?_
  refine xi_iconst (v := 1) C dX6_keep_14 (by decide) ?_
  refine xi_put (ty := .boolean) (w2 := (wMo o0 ma st 1 le sp nu ++ wAr cI (ma 0) 1898 now ++ wAr cI (ma 1) 1898 thn ++ wAr cI (ma 2) 7592 pst ++ wAr cI (ma 3) 1898 g1 ++ wAr cC (ma 4) 80 txt ++ wAr cI (ma 5) 48 hld ++ wAr cI (ma 6) 24 far ++ wAr cZ (ma 7) 72 don ++ wAr cI (ma 8) 96 tld ++ wAr cI (ma 9) 24 dep ++ wAr cI (ma 10) 24 bit)) C dX6_keep_15 iw_X6_keep_6 tyX6 tyX6_ok nmX6 0 rfl rfl 5 (by decide) fl_X6_keep_191 rfl (by decide +kernel) (by rfl) (by rfl) (Nat.le_of_ble_eq_true rfl) rfl ?_
  refine xi_aload_n C dX6_keep_18 rfl 0 rfl ?_
  refine xi_get C dX6_keep_19 iw_X6_keep_6 0 rfl rfl 0 (by decide) fl_X6_keep_7 rfl ?_
  obtain ⟨v3, e4, h⟩ := ob_i h
  refine xi_callS (As := [.ref (ma 0)]) (o := some (.int v3)) (rest := []) (w2 := (wMo o0 ma st 1 le sp nu ++ wAr cI (ma 0) 1898 now ++ wAr cI (ma 1) 1898 thn ++ wAr cI (ma 2) 7592 pst ++ wAr cI (ma 3) 1898 g1 ++ wAr cC (ma 4) 80 txt ++ wAr cI (ma 5) 48 hld ++ wAr cI (ma 6) 24 far ++ wAr cZ (ma 7) 72 don ++ wAr cI (ma 8) 96 tld ++ wAr cI (ma 9) 24 dep ++ wAr cI (ma 10) 24 bit)) (st2 := [.int v3]) C k_X6_cells (m_X6_cells D cI cC cZ cR (ma 0) now v3 e4) gX6_keep_X6_cells dX6_keep_22 ⟨Nat.le_of_ble_eq_true rfl, Nat.le_of_ble_eq_true rfl, Nat.le_of_ble_eq_true rfl⟩ [1] mxC_X6_1 rfl [0, 1, 2, 3] rfl mxF_X6_1 mxM_X6_1 rfl (Nat.le_of_ble_eq_true rfl) ⟨Nat.zero_le _, Nat.zero_le _⟩ rfl ?_
  have w0 := Option.some.inj h
  obtain ⟨q0, w1⟩ := Prod.mk.inj w0
  obtain ⟨q1, w2⟩ := Prod.mk.inj w1
  subst q0
  subst q1
  subst w2
  exact xi_iret C Z dX6_keep_25
def f_X6_restore (st : Int32) (ik : Int32) (now : Nat → Int32) (pst : Nat → Int32) (snp : Nat → Int32) : Option (Int32 × Int32 × (Nat → Int32) × (Nat → Int32)) :=
  if ik = 0 then
    some ((-5), st, now, pst)
  else
    (f_X6_records st now pst).bind fun (st2, pst3) =>
    (f_X6_lays 1898 1898 snp now 0 0).bind fun g5 =>
    (f_X6_cells g5).bind fun v7 =>
    some (v7, st2, g5, pst3)
theorem k_X6_restore : xb_Y yX6_restore cX6_restore wsX6_restore 1 (some .int) { frames := 4, cells := 0, slots := 0, locals := 85 } 0 := ⟨⟨_, rfl⟩, by decide, ⟨by decide, by decide, by decide +kernel⟩, rfl, rfl⟩
theorem fl_X6_restore_7 : Cond.fieldLink RX6 7 "LookupBoardModel" "now" "[I" ∈ wsX6_restore := List.mem_of_getElem? (i := 3) rfl
theorem fl_X6_restore_19 : Cond.fieldLink RX6 19 "LookupBoardModel" "snapshot" "[I" ∈ wsX6_restore := List.mem_of_getElem? (i := 2) rfl
theorem fl_X6_restore_191 : Cond.fieldLink RX6 191 "LookupBoardModel" "isKept" "Z" ∈ wsX6_restore := List.mem_of_getElem? (i := 1) rfl
theorem iw_X6_restore_6 : ∀ w ∈ wsX60, w ∈ wsX6_restore := fun w h => List.mem_cons_of_mem _ (List.mem_append_right _ h)
set_option maxHeartbeats 4000000 in
set_option maxRecDepth 100000 in
theorem m_X6_restore (D : va_G) (cI cC cZ cR : ClassId) (o0 : Nat) (ma : Nat → Nat) (st : Int32) (ik : Int32) (le : Int32) (sp : Int32) (nu : Int32) (now : Nat → Int32) (thn : Nat → Int32) (pst : Nat → Int32) (snp : Nat → Int32) (txt : Nat → Int32) (hld : Nat → Int32) (far : Nat → Int32) (don : Nat → Int32) (tld : Nat → Int32) (dep : Nat → Int32) (bit : Nat → Int32) (r : Int32) (st' : Int32) (now' : Nat → Int32) (pst' : Nat → Int32) (h : f_X6_restore st ik now pst snp = some (r, st', now', pst')) : xb_M cX6_restore wsX6_restore RX6 { frames := 4, cells := 0, slots := 0, locals := 85 } (some .int) 1 (xb_ty cI cC cZ cR) D [.ref o0] (wMo o0 ma st ik le sp nu ++ wAr cI (ma 0) 1898 now ++ wAr cI (ma 1) 1898 thn ++ wAr cI (ma 2) 7592 pst ++ wAr cI (ma 3) 1898 snp ++ wAr cC (ma 4) 80 txt ++ wAr cI (ma 5) 48 hld ++ wAr cI (ma 6) 24 far ++ wAr cZ (ma 7) 72 don ++ wAr cI (ma 8) 96 tld ++ wAr cI (ma 9) 24 dep ++ wAr cI (ma 10) 24 bit) (some (.int r)) (wMo o0 ma st' ik le sp nu ++ wAr cI (ma 0) 1898 now' ++ wAr cI (ma 1) 1898 thn ++ wAr cI (ma 2) 7592 pst' ++ wAr cI (ma 3) 1898 snp ++ wAr cC (ma 4) 80 txt ++ wAr cI (ma 5) 48 hld ++ wAr cI (ma 6) 24 far ++ wAr cZ (ma 7) 72 don ++ wAr cI (ma 8) 96 tld ++ wAr cI (ma 9) 24 dep ++ wAr cI (ma 10) 24 bit) := by
  intro X C Z
  show xb_G X 0 0 (wMo o0 ma st ik le sp nu ++ wAr cI (ma 0) 1898 now ++ wAr cI (ma 1) 1898 thn ++ wAr cI (ma 2) 7592 pst ++ wAr cI (ma 3) 1898 snp ++ wAr cC (ma 4) 80 txt ++ wAr cI (ma 5) 48 hld ++ wAr cI (ma 6) 24 far ++ wAr cZ (ma 7) 72 don ++ wAr cI (ma 8) 96 tld ++ wAr cI (ma 9) 24 dep ++ wAr cI (ma 10) 24 bit) [(0, .ref o0)] 0 []
  unfold f_X6_restore at h
  refine xi_aload_n C dX6_restore_0 rfl 0 rfl ?_
  refine xi_get C dX6_restore_1 iw_X6_restore_6 0 rfl rfl 5 (by decide) fl_X6_restore_191 rfl ?_
  refine xi_if_ne (tgt := 10) C dX6_restore_4 (by decide) (fun c1 => ?_) (fun c1 => ?_)
  · have h := ie_i c1 h
    refine xi_aload_n C dX6_restore_10 rfl 0 rfl ?_
    obtain ⟨⟨st2, pst3⟩, e4, h⟩ := ob_i h
    refine xi_callV (As := []) (o := none) (rest := []) (w2 := (wMo o0 ma st2 ik le sp nu ++ wAr cI (ma 0) 1898 now ++ wAr cI (ma 1) 1898 thn ++ wAr cI (ma 2) 7592 pst3 ++ wAr cI (ma 3) 1898 snp ++ wAr cC (ma 4) 80 txt ++ wAr cI (ma 5) 48 hld ++ wAr cI (ma 6) 24 far ++ wAr cZ (ma 7) 72 don ++ wAr cI (ma 8) 96 tld ++ wAr cI (ma 9) 24 dep ++ wAr cI (ma 10) 24 bit)) (st2 := []) C k_X6_records (m_X6_records D cI cC cZ cR o0 ma st ik le sp nu now thn pst snp txt hld far don tld dep bit st2 pst3 e4) gX6_restore_X6_records dX6_restore_11 ⟨Nat.le_of_ble_eq_true rfl, Nat.le_of_ble_eq_true rfl, Nat.le_of_ble_eq_true rfl⟩ 0 rfl rfl [0, 1, 2, 3, 4, 5, 6, 7, 8, 9, 10, 11] mxC_X6_0_1_2_3_4_5_6_7_8_9_10_11 rfl [0, 1, 2, 3] rfl mxF_X6_0_1_2_3_4_5_6_7_8_9_10_11 mxM_X6_0_1_2_3_4_5_6_7_8_9_10_11 rfl (Nat.le_of_ble_eq_true rfl) ⟨Nat.zero_le _, Nat.zero_le _⟩ rfl ?_
    refine xi_aload_n C dX6_restore_14 rfl 0 rfl ?_
    refine xi_get C dX6_restore_15 iw_X6_restore_6 0 rfl rfl 4 (by decide) fl_X6_restore_19 rfl ?_
    refine xi_iconst (v := 0) C dX6_restore_18 (by decide) ?_
    refine xi_aload_n C dX6_restore_19 rfl 0 rfl ?_
    refine xi_get C dX6_restore_20 iw_X6_restore_6 0 rfl rfl 0 (by decide) fl_X6_restore_7 rfl ?_
    refine xi_iconst (v := 0) C dX6_restore_23 (by decide) ?_
    obtain ⟨g5, e6, h⟩ := ob_i h
    refine xi_callS (As := [.ref (ma 3), .int 0, .ref (ma 0), .int 0]) (o := none) (rest := []) (w2 := (wMo o0 ma st2 ik le sp nu ++ wAr cI (ma 0) 1898 g5 ++ wAr cI (ma 1) 1898 thn ++ wAr cI (ma 2) 7592 pst3 ++ wAr cI (ma 3) 1898 snp ++ wAr cC (ma 4) 80 txt ++ wAr cI (ma 5) 48 hld ++ wAr cI (ma 6) 24 far ++ wAr cZ (ma 7) 72 don ++ wAr cI (ma 8) 96 tld ++ wAr cI (ma 9) 24 dep ++ wAr cI (ma 10) 24 bit)) (st2 := []) C k_X6_lays (m_X6_lays D cI cC cZ cR 1898 1898 (ma 3) (ma 0) snp now 0 0 g5 e6) gX6_restore_X6_lays dX6_restore_24 ⟨Nat.le_of_ble_eq_true rfl, Nat.le_of_ble_eq_true rfl, Nat.le_of_ble_eq_true rfl⟩ [4, 1] mxC_X6_4_1 rfl [0, 1, 2, 3] rfl mxF_X6_4_1 mxM_X6_4_1 rfl (Nat.le_of_ble_eq_true rfl) ⟨Nat.zero_le _, Nat.zero_le _⟩ rfl ?_
    refine xi_aload_n C dX6_restore_27 rfl 0 rfl ?_
    refine xi_get C dX6_restore_28 iw_X6_restore_6 0 rfl rfl 0 (by decide) fl_X6_restore_7 rfl ?_
    obtain ⟨v7, e8, h⟩ := ob_i h
    refine xi_callS (As := [.ref (ma 0)]) (o := some (.int v7)) (rest := []) (w2 := (wMo o0 ma st2 ik le sp nu ++ wAr cI (ma 0) 1898 g5 ++ wAr cI (ma 1) 1898 thn ++ wAr cI (ma 2) 7592 pst3 ++ wAr cI (ma 3) 1898 snp ++ wAr cC (ma 4) 80 txt ++ wAr cI (ma 5) 48 hld ++ wAr cI (ma 6) 24 far ++ wAr cZ (ma 7) 72 don ++ wAr cI (ma 8) 96 tld ++ wAr cI (ma 9) 24 dep ++ wAr cI (ma 10) 24 bit)) (st2 := [.int v7]) C k_X6_cells (m_X6_cells D cI cC cZ cR (ma 0) g5 v7 e8) gX6_restore_X6_cells dX6_restore_31 ⟨Nat.le_of_ble_eq_true rfl, Nat.le_of_ble_eq_true rfl, Nat.le_of_ble_eq_true rfl⟩ [1] mxC_X6_1 rfl [0, 1, 2, 3] rfl mxF_X6_1 mxM_X6_1 rfl (Nat.le_of_ble_eq_true rfl) ⟨Nat.zero_le _, Nat.zero_le _⟩ rfl ?_
    have w0 := Option.some.inj h
    obtain ⟨q0, w1⟩ := Prod.mk.inj w0
    obtain ⟨q1, w2⟩ := Prod.mk.inj w1
    obtain ⟨q2, w3⟩ := Prod.mk.inj w2
    subst q0
    subst q1
    subst q2
    subst w3
    exact xi_iret C Z dX6_restore_34
  · have h := it_i c1 h
    refine xi_bipush (v := (-5)) C dX6_restore_7 (by decide) ?_
    have w0 := Option.some.inj h
    obtain ⟨q0, w1⟩ := Prod.mk.inj w0
    obtain ⟨q1, w2⟩ := Prod.mk.inj w1
    obtain ⟨q2, w3⟩ := Prod.mk.inj w2
    subst q0
    subst q1
    subst q2
    subst w3
    exact xi_iret C Z dX6_restore_9
def f_X6_under_4 (now : Nat → Int32) (dep : Nat → Int32) (x1_4 : Int32) (k : Int32 → Option (Int32)) : Nat → Int32 → Int32 → Option (Int32)
  | 0, _, _ => none
  | n + 1, x2_4, x3_4 =>
    if 3 ≤ x3_4 then
      k x2_4
    else
      (xr_d now 1898 ((24 + (3 * x1_4)) + x3_4)).bind fun v2 =>
      if 24 ≤ v2 then
        f_X6_under_4 now dep x1_4 k n x2_4 (x3_4 + 1)
      else
        if x2_4 = (-5) then
          f_X6_under_4 now dep x1_4 k n x2_4 (x3_4 + 1)
        else
          (xr_d dep 24 v2).bind fun v6 =>
          if v6 = (-5) then
            f_X6_under_4 now dep x1_4 k n (-5) (x3_4 + 1)
          else
            (xr_d dep 24 v2).bind fun v9 =>
            if v9 ≤ x2_4 then
              f_X6_under_4 now dep x1_4 k n x2_4 (x3_4 + 1)
            else
              (xr_d dep 24 v2).bind fun v12 =>
              f_X6_under_4 now dep x1_4 k n v12 (x3_4 + 1)
def f_X6_under (now : Nat → Int32) (dep : Nat → Int32) (p1 : Int32) : Option (Int32) :=
  f_X6_under_4 now dep p1 (fun x2z14 =>
    some x2z14) xFu 0 0
theorem k_X6_under : xb_Y yX6_under cX6_under wsX6_under 5 (some .int) { frames := 0, cells := 0, slots := 0, locals := 0 } 1 := ⟨⟨_, rfl⟩, by decide, ⟨by decide, by decide, by decide +kernel⟩, rfl, rfl⟩
theorem fl_X6_under_7 : Cond.fieldLink RX6 7 "LookupBoardModel" "now" "[I" ∈ wsX6_under := List.mem_of_getElem? (i := 1) rfl
theorem fl_X6_under_39 : Cond.fieldLink RX6 39 "LookupBoardModel" "depth" "[I" ∈ wsX6_under := List.mem_of_getElem? (i := 2) rfl
theorem iw_X6_under_6 : ∀ w ∈ wsX60, w ∈ wsX6_under := fun w h => List.mem_cons_of_mem _ (List.mem_append_right _ h)
set_option maxHeartbeats 4000000 in
set_option maxRecDepth 100000 in
theorem m_X6_under (D : va_G) (cI cC cZ cR : ClassId) (o0 : Nat) (ma : Nat → Nat) (st : Int32) (ik : Int32) (le : Int32) (sp : Int32) (nu : Int32) (now : Nat → Int32) (thn : Nat → Int32) (pst : Nat → Int32) (snp : Nat → Int32) (txt : Nat → Int32) (hld : Nat → Int32) (far : Nat → Int32) (don : Nat → Int32) (tld : Nat → Int32) (dep : Nat → Int32) (bit : Nat → Int32) (p1 : Int32) (r : Int32) (h : f_X6_under now dep p1 = some r) : xb_M cX6_under wsX6_under RX6 { frames := 0, cells := 0, slots := 0, locals := 0 } (some .int) 5 (xb_ty cI cC cZ cR) D [.ref o0, .int p1] (wMo o0 ma st ik le sp nu ++ wAr cI (ma 0) 1898 now ++ wAr cI (ma 1) 1898 thn ++ wAr cI (ma 2) 7592 pst ++ wAr cI (ma 3) 1898 snp ++ wAr cC (ma 4) 80 txt ++ wAr cI (ma 5) 48 hld ++ wAr cI (ma 6) 24 far ++ wAr cZ (ma 7) 72 don ++ wAr cI (ma 8) 96 tld ++ wAr cI (ma 9) 24 dep ++ wAr cI (ma 10) 24 bit) (some (.int r)) (wMo o0 ma st ik le sp nu ++ wAr cI (ma 0) 1898 now ++ wAr cI (ma 1) 1898 thn ++ wAr cI (ma 2) 7592 pst ++ wAr cI (ma 3) 1898 snp ++ wAr cC (ma 4) 80 txt ++ wAr cI (ma 5) 48 hld ++ wAr cI (ma 6) 24 far ++ wAr cZ (ma 7) 72 don ++ wAr cI (ma 8) 96 tld ++ wAr cI (ma 9) 24 dep ++ wAr cI (ma 10) 24 bit) := by
  intro X C Z
  show xb_G X 0 0 (wMo o0 ma st ik le sp nu ++ wAr cI (ma 0) 1898 now ++ wAr cI (ma 1) 1898 thn ++ wAr cI (ma 2) 7592 pst ++ wAr cI (ma 3) 1898 snp ++ wAr cC (ma 4) 80 txt ++ wAr cI (ma 5) 48 hld ++ wAr cI (ma 6) 24 far ++ wAr cZ (ma 7) 72 don ++ wAr cI (ma 8) 96 tld ++ wAr cI (ma 9) 24 dep ++ wAr cI (ma 10) 24 bit) [(0, .ref o0), (1, .int p1)] 0 []
  have lp4 : ∀ (x1_4 : Int32) (k : Int32 → Option (Int32)) (n : Nat) (x2_4 : Int32) (x3_4 : Int32), f_X6_under_4 now dep x1_4 k n x2_4 x3_4 = some r → (∀ (x2_4e : Int32), k x2_4e = some r → xb_G X 0 0 (wMo o0 ma st ik le sp nu ++ wAr cI (ma 0) 1898 now ++ wAr cI (ma 1) 1898 thn ++ wAr cI (ma 2) 7592 pst ++ wAr cI (ma 3) 1898 snp ++ wAr cC (ma 4) 80 txt ++ wAr cI (ma 5) 48 hld ++ wAr cI (ma 6) 24 far ++ wAr cZ (ma 7) 72 don ++ wAr cI (ma 8) 96 tld ++ wAr cI (ma 9) 24 dep ++ wAr cI (ma 10) 24 bit) [(2, .int x2_4e)] 83 []) → xb_G X 0 0 (wMo o0 ma st ik le sp nu ++ wAr cI (ma 0) 1898 now ++ wAr cI (ma 1) 1898 thn ++ wAr cI (ma 2) 7592 pst ++ wAr cI (ma 3) 1898 snp ++ wAr cC (ma 4) 80 txt ++ wAr cI (ma 5) 48 hld ++ wAr cI (ma 6) 24 far ++ wAr cZ (ma 7) 72 don ++ wAr cI (ma 8) 96 tld ++ wAr cI (ma 9) 24 dep ++ wAr cI (ma 10) 24 bit) [(0, .ref o0), (1, .int x1_4), (2, .int x2_4), (3, .int x3_4)] 4 [] := by
    intro x1_4 k n
    induction n with
    | zero => intro x2_4 x3_4 h hk; unfold f_X6_under_4 at h; cases h
    | succ n ih =>
      intro x2_4 x3_4 h hk
      unfold f_X6_under_4 at h
      refine xi_iload_n C dX6_under_4 rfl 3 rfl ?_
      refine xi_iconst (v := 3) C dX6_under_5 (by decide) ?_
      refine xi_icmp_ge (tgt := 83) C dX6_under_6 (by decide) (fun c1 => ?_) (fun c1 => ?_)
      · have h := it_i c1 h
        exact xb_lv (hk x2_4 h) [2] rfl
      · have h := ie_i c1 h
        refine xi_aload_n C dX6_under_9 rfl 0 rfl ?_
        refine xi_get C dX6_under_10 iw_X6_under_6 0 rfl rfl 0 (by decide) fl_X6_under_7 rfl ?_
        refine xi_bipush (v := 24) C dX6_under_13 (by decide) ?_
        refine xi_iconst (v := 3) C dX6_under_15 (by decide) ?_
        refine xi_iload_n C dX6_under_16 rfl 1 rfl ?_
        refine xi_imul C dX6_under_17 ?_
        refine xi_iadd C dX6_under_18 ?_
        refine xi_iload_n C dX6_under_19 rfl 3 rfl ?_
        refine xi_iadd C dX6_under_20 ?_
        obtain ⟨v2, e3, h⟩ := ob_i h
        refine xi_iald C dX6_under_21 1 0 rfl rfl e3 ?_
        refine xi_istore (lv2 := [(0, .ref o0), (1, .int x1_4), (2, .int x2_4), (3, .int x3_4), (4, .int v2)]) C dX6_under_22 (by decide) [0, 1, 2, 3] [1, 2, 3, 4, 0] rfl ?_
        refine xi_iload C dX6_under_24 4 rfl ?_
        refine xi_bipush (v := 24) C dX6_under_26 (by decide) ?_
        refine xi_icmp_ge (tgt := 77) C dX6_under_28 (by decide) (fun c4 => ?_) (fun c4 => ?_)
        · have h := it_i c4 h
          refine xi_iinc (v := x3_4 + 1) (lv2 := [(0, .ref o0), (1, .int x1_4), (2, .int x2_4), (3, .int (x3_4 + 1)), (4, .int v2)]) C dX6_under_77 3 rfl (by rfl) (by decide) [0, 1, 2, 4] [1, 2, 3, 0, 4] rfl ?_
          refine xi_goto (tgt := 4) C dX6_under_80 (by decide) ?_
          exact xb_lv (ih x2_4 (x3_4 + 1) h hk) [0, 1, 2, 3] rfl
        · have h := ie_i c4 h
          refine xi_iload_n C dX6_under_31 rfl 2 rfl ?_
          refine xi_bipush (v := (-5)) C dX6_under_32 (by decide) ?_
          refine xi_icmp_eq (tgt := 77) C dX6_under_34 (by decide) (fun c5 => ?_) (fun c5 => ?_)
          · have h := it_i c5 h
            refine xi_iinc (v := x3_4 + 1) (lv2 := [(0, .ref o0), (1, .int x1_4), (2, .int x2_4), (3, .int (x3_4 + 1)), (4, .int v2)]) C dX6_under_77 3 rfl (by rfl) (by decide) [0, 1, 2, 4] [1, 2, 3, 0, 4] rfl ?_
            refine xi_goto (tgt := 4) C dX6_under_80 (by decide) ?_
            exact xb_lv (ih x2_4 (x3_4 + 1) h hk) [0, 1, 2, 3] rfl
          · have h := ie_i c5 h
            refine xi_aload_n C dX6_under_37 rfl 0 rfl ?_
            refine xi_get C dX6_under_38 iw_X6_under_6 0 rfl rfl 14 (by decide) fl_X6_under_39 rfl ?_
            refine xi_iload C dX6_under_41 4 rfl ?_
            obtain ⟨v6, e7, h⟩ := ob_i h
            refine xi_iald C dX6_under_43 10 0 rfl rfl e7 ?_
            refine xi_bipush (v := (-5)) C dX6_under_44 (by decide) ?_
            refine xi_icmp_ne (tgt := 54) C dX6_under_46 (by decide) (fun c8 => ?_) (fun c8 => ?_)
            · have h := ie_i c8 h
              refine xi_aload_n C dX6_under_54 rfl 0 rfl ?_
              refine xi_get C dX6_under_55 iw_X6_under_6 0 rfl rfl 14 (by decide) fl_X6_under_39 rfl ?_
              refine xi_iload C dX6_under_58 4 rfl ?_
              obtain ⟨v9, e10, h⟩ := ob_i h
              refine xi_iald C dX6_under_60 10 0 rfl rfl e10 ?_
              refine xi_iload_n C dX6_under_61 rfl 2 rfl ?_
              refine xi_icmp_le (tgt := 75) C dX6_under_62 (by decide) (fun c11 => ?_) (fun c11 => ?_)
              · have h := it_i c11 h
                refine xi_iload_n C dX6_under_75 rfl 2 rfl ?_
                refine xi_istore_n (lv2 := [(0, .ref o0), (1, .int x1_4), (2, .int x2_4), (3, .int x3_4), (4, .int v2)]) C dX6_under_76 rfl (by decide) [0, 1, 3, 4] [1, 2, 0, 3, 4] rfl ?_
                refine xi_iinc (v := x3_4 + 1) (lv2 := [(0, .ref o0), (1, .int x1_4), (2, .int x2_4), (3, .int (x3_4 + 1)), (4, .int v2)]) C dX6_under_77 3 rfl (by rfl) (by decide) [0, 1, 2, 4] [1, 2, 3, 0, 4] rfl ?_
                refine xi_goto (tgt := 4) C dX6_under_80 (by decide) ?_
                exact xb_lv (ih x2_4 (x3_4 + 1) h hk) [0, 1, 2, 3] rfl
              · have h := ie_i c11 h
                refine xi_aload_n C dX6_under_65 rfl 0 rfl ?_
                refine xi_get C dX6_under_66 iw_X6_under_6 0 rfl rfl 14 (by decide) fl_X6_under_39 rfl ?_
                refine xi_iload C dX6_under_69 4 rfl ?_
                obtain ⟨v12, e13, h⟩ := ob_i h
                refine xi_iald C dX6_under_71 10 0 rfl rfl e13 ?_
                refine xi_goto (tgt := 76) C dX6_under_72 (by decide) ?_
                refine xi_istore_n (lv2 := [(0, .ref o0), (1, .int x1_4), (2, .int v12), (3, .int x3_4), (4, .int v2)]) C dX6_under_76 rfl (by decide) [0, 1, 3, 4] [1, 2, 0, 3, 4] rfl ?_
                refine xi_iinc (v := x3_4 + 1) (lv2 := [(0, .ref o0), (1, .int x1_4), (2, .int v12), (3, .int (x3_4 + 1)), (4, .int v2)]) C dX6_under_77 3 rfl (by rfl) (by decide) [0, 1, 2, 4] [1, 2, 3, 0, 4] rfl ?_
                refine xi_goto (tgt := 4) C dX6_under_80 (by decide) ?_
                exact xb_lv (ih v12 (x3_4 + 1) h hk) [0, 1, 2, 3] rfl
            · have h := it_i c8 h
              refine xi_bipush (v := (-5)) C dX6_under_49 (by decide) ?_
              refine xi_goto (tgt := 76) C dX6_under_51 (by decide) ?_
              refine xi_istore_n (lv2 := [(0, .ref o0), (1, .int x1_4), (2, .int (-5)), (3, .int x3_4), (4, .int v2)]) C dX6_under_76 rfl (by decide) [0, 1, 3, 4] [1, 2, 0, 3, 4] rfl ?_
              refine xi_iinc (v := x3_4 + 1) (lv2 := [(0, .ref o0), (1, .int x1_4), (2, .int (-5)), (3, .int (x3_4 + 1)), (4, .int v2)]) C dX6_under_77 3 rfl (by rfl) (by decide) [0, 1, 2, 4] [1, 2, 3, 0, 4] rfl ?_
              refine xi_goto (tgt := 4) C dX6_under_80 (by decide) ?_
              exact xb_lv (ih (-5) (x3_4 + 1) h hk) [0, 1, 2, 3] rfl
  unfold f_X6_under at h
  refine xi_iconst (v := 0) C dX6_under_0 (by decide) ?_
  refine xi_istore_n (lv2 := [(0, .ref o0), (1, .int p1), (2, .int 0)]) C dX6_under_1 rfl (by decide) [0, 1] [1, 2, 0] rfl ?_
  refine xi_iconst (v := 0) C dX6_under_2 (by decide) ?_
  refine xi_istore_n (lv2 := [(0, .ref o0), (1, .int p1), (2, .int 0), (3, .int 0)]) C dX6_under_3 rfl (by decide) [0, 1, 2] [1, 2, 3, 0] rfl ?_
  refine xb_lv (lp4 p1 _ xFu 0 0 h (fun x2z14 h => ?_)) [0, 1, 2, 3] rfl
  refine xi_iload_n C dX6_under_83 rfl 0 rfl ?_
  have w0 := Option.some.inj h
  subst w0
  exact xi_iret C Z dX6_under_84
def f_X6_bitOf (bit : Nat → Int32) (p1 : Int32) (p2 : Int32) : Option (Int32) :=
  if 24 ≤ p1 then
    if 32 ≤ p1 then
      some (p1 - 32)
    else
      some ((p2 >>> ((p1 - 24) &&& 31)) &&& 1)
  else
    (xr_d bit 24 p1).bind fun v3 =>
    some v3
theorem k_X6_bitOf : xb_Y yX6_bitOf cX6_bitOf wsX6_bitOf 3 (some .int) { frames := 0, cells := 0, slots := 0, locals := 0 } 2 := ⟨⟨_, rfl⟩, by decide, ⟨by decide, by decide, by decide +kernel⟩, rfl, rfl⟩
theorem fl_X6_bitOf_42 : Cond.fieldLink RX6 42 "LookupBoardModel" "bit" "[I" ∈ wsX6_bitOf := List.mem_of_getElem? (i := 1) rfl
theorem iw_X6_bitOf_6 : ∀ w ∈ wsX60, w ∈ wsX6_bitOf := fun w h => List.mem_cons_of_mem _ (List.mem_append_right _ h)
set_option maxHeartbeats 4000000 in
set_option maxRecDepth 100000 in
theorem m_X6_bitOf (D : va_G) (cI cC cZ cR : ClassId) (o0 : Nat) (ma : Nat → Nat) (st : Int32) (ik : Int32) (le : Int32) (sp : Int32) (nu : Int32) (now : Nat → Int32) (thn : Nat → Int32) (pst : Nat → Int32) (snp : Nat → Int32) (txt : Nat → Int32) (hld : Nat → Int32) (far : Nat → Int32) (don : Nat → Int32) (tld : Nat → Int32) (dep : Nat → Int32) (bit : Nat → Int32) (p1 : Int32) (p2 : Int32) (r : Int32) (h : f_X6_bitOf bit p1 p2 = some r) : xb_M cX6_bitOf wsX6_bitOf RX6 { frames := 0, cells := 0, slots := 0, locals := 0 } (some .int) 3 (xb_ty cI cC cZ cR) D [.ref o0, .int p1, .int p2] (wMo o0 ma st ik le sp nu ++ wAr cI (ma 0) 1898 now ++ wAr cI (ma 1) 1898 thn ++ wAr cI (ma 2) 7592 pst ++ wAr cI (ma 3) 1898 snp ++ wAr cC (ma 4) 80 txt ++ wAr cI (ma 5) 48 hld ++ wAr cI (ma 6) 24 far ++ wAr cZ (ma 7) 72 don ++ wAr cI (ma 8) 96 tld ++ wAr cI (ma 9) 24 dep ++ wAr cI (ma 10) 24 bit) (some (.int r)) (wMo o0 ma st ik le sp nu ++ wAr cI (ma 0) 1898 now ++ wAr cI (ma 1) 1898 thn ++ wAr cI (ma 2) 7592 pst ++ wAr cI (ma 3) 1898 snp ++ wAr cC (ma 4) 80 txt ++ wAr cI (ma 5) 48 hld ++ wAr cI (ma 6) 24 far ++ wAr cZ (ma 7) 72 don ++ wAr cI (ma 8) 96 tld ++ wAr cI (ma 9) 24 dep ++ wAr cI (ma 10) 24 bit) := by
  intro X C Z
  show xb_G X 0 0 (wMo o0 ma st ik le sp nu ++ wAr cI (ma 0) 1898 now ++ wAr cI (ma 1) 1898 thn ++ wAr cI (ma 2) 7592 pst ++ wAr cI (ma 3) 1898 snp ++ wAr cC (ma 4) 80 txt ++ wAr cI (ma 5) 48 hld ++ wAr cI (ma 6) 24 far ++ wAr cZ (ma 7) 72 don ++ wAr cI (ma 8) 96 tld ++ wAr cI (ma 9) 24 dep ++ wAr cI (ma 10) 24 bit) [(0, .ref o0), (1, .int p1), (2, .int p2)] 0 []
  unfold f_X6_bitOf at h
  refine xi_iload_n C dX6_bitOf_0 rfl 1 rfl ?_
  refine xi_bipush (v := 24) C dX6_bitOf_1 (by decide) ?_
  refine xi_icmp_ge (tgt := 15) C dX6_bitOf_3 (by decide) (fun c1 => ?_) (fun c1 => ?_)
  · have h := it_i c1 h
    refine xi_iload_n C dX6_bitOf_15 rfl 1 rfl ?_
    refine xi_bipush (v := 32) C dX6_bitOf_16 (by decide) ?_
    refine xi_icmp_ge (tgt := 32) C dX6_bitOf_18 (by decide) (fun c2 => ?_) (fun c2 => ?_)
    · have h := it_i c2 h
      refine xi_iload_n C dX6_bitOf_32 rfl 1 rfl ?_
      refine xi_bipush (v := 32) C dX6_bitOf_33 (by decide) ?_
      refine xi_isub C dX6_bitOf_35 ?_
      have w0 := Option.some.inj h
      subst w0
      exact xi_iret C Z dX6_bitOf_36
    · have h := ie_i c2 h
      refine xi_iload_n C dX6_bitOf_21 rfl 2 rfl ?_
      refine xi_iload_n C dX6_bitOf_22 rfl 1 rfl ?_
      refine xi_bipush (v := 24) C dX6_bitOf_23 (by decide) ?_
      refine xi_isub C dX6_bitOf_25 ?_
      refine xi_ishr C dX6_bitOf_26 ?_
      refine xi_iconst (v := 1) C dX6_bitOf_27 (by decide) ?_
      refine xi_iand C dX6_bitOf_28 ?_
      refine xi_goto (tgt := 36) C dX6_bitOf_29 (by decide) ?_
      have w0 := Option.some.inj h
      subst w0
      exact xi_iret C Z dX6_bitOf_36
  · have h := ie_i c1 h
    refine xi_aload_n C dX6_bitOf_6 rfl 0 rfl ?_
    refine xi_get C dX6_bitOf_7 iw_X6_bitOf_6 0 rfl rfl 15 (by decide) fl_X6_bitOf_42 rfl ?_
    refine xi_iload_n C dX6_bitOf_10 rfl 1 rfl ?_
    obtain ⟨v3, e4, h⟩ := ob_i h
    refine xi_iald C dX6_bitOf_11 11 0 rfl rfl e4 ?_
    refine xi_goto (tgt := 36) C dX6_bitOf_12 (by decide) ?_
    have w0 := Option.some.inj h
    subst w0
    exact xi_iret C Z dX6_bitOf_36
def f_X6_lookedUp_5 (now : Nat → Int32) (bit : Nat → Int32) (x1_5 : Int32) (x2_5 : Int32) (k : Int32 → Option (Int32)) : Nat → Int32 → Int32 → Option (Int32)
  | 0, _, _ => none
  | n + 1, x3_5, x4_5 =>
    if 3 ≤ x4_5 then
      k x3_5
    else
      (xr_d now 1898 ((24 + (3 * x1_5)) + x4_5)).bind fun v2 =>
      (f_X6_bitOf bit v2 x2_5).bind fun v4 =>
      f_X6_lookedUp_5 now bit x1_5 x2_5 k n (x3_5 ||| (v4 <<< (x4_5 &&& 31))) (x4_5 + 1)
def f_X6_lookedUp (now : Nat → Int32) (bit : Nat → Int32) (p1 : Int32) (p2 : Int32) : Option (Int32) :=
  f_X6_lookedUp_5 now bit p1 p2 (fun x3z6 =>
    (xr_d now 1898 (0 + p1)).bind fun v7 =>
    some ((v7 >>> (x3z6 &&& 31)) &&& 1)) xFu 0 0
theorem k_X6_lookedUp : xb_Y yX6_lookedUp cX6_lookedUp wsX6_lookedUp 5 (some .int) { frames := 1, cells := 0, slots := 0, locals := 22 } 2 := ⟨⟨_, rfl⟩, by decide, ⟨by decide, by decide, by decide +kernel⟩, rfl, rfl⟩
theorem fl_X6_lookedUp_7 : Cond.fieldLink RX6 7 "LookupBoardModel" "now" "[I" ∈ wsX6_lookedUp := List.mem_of_getElem? (i := 1) rfl
theorem iw_X6_lookedUp_6 : ∀ w ∈ wsX60, w ∈ wsX6_lookedUp := fun w h => List.mem_cons_of_mem _ (List.mem_append_right _ h)
set_option maxHeartbeats 4000000 in
set_option maxRecDepth 100000 in
theorem m_X6_lookedUp (D : va_G) (cI cC cZ cR : ClassId) (o0 : Nat) (ma : Nat → Nat) (st : Int32) (ik : Int32) (le : Int32) (sp : Int32) (nu : Int32) (now : Nat → Int32) (thn : Nat → Int32) (pst : Nat → Int32) (snp : Nat → Int32) (txt : Nat → Int32) (hld : Nat → Int32) (far : Nat → Int32) (don : Nat → Int32) (tld : Nat → Int32) (dep : Nat → Int32) (bit : Nat → Int32) (p1 : Int32) (p2 : Int32) (r : Int32) (h : f_X6_lookedUp now bit p1 p2 = some r) : xb_M cX6_lookedUp wsX6_lookedUp RX6 { frames := 1, cells := 0, slots := 0, locals := 22 } (some .int) 5 (xb_ty cI cC cZ cR) D [.ref o0, .int p1, .int p2] (wMo o0 ma st ik le sp nu ++ wAr cI (ma 0) 1898 now ++ wAr cI (ma 1) 1898 thn ++ wAr cI (ma 2) 7592 pst ++ wAr cI (ma 3) 1898 snp ++ wAr cC (ma 4) 80 txt ++ wAr cI (ma 5) 48 hld ++ wAr cI (ma 6) 24 far ++ wAr cZ (ma 7) 72 don ++ wAr cI (ma 8) 96 tld ++ wAr cI (ma 9) 24 dep ++ wAr cI (ma 10) 24 bit) (some (.int r)) (wMo o0 ma st ik le sp nu ++ wAr cI (ma 0) 1898 now ++ wAr cI (ma 1) 1898 thn ++ wAr cI (ma 2) 7592 pst ++ wAr cI (ma 3) 1898 snp ++ wAr cC (ma 4) 80 txt ++ wAr cI (ma 5) 48 hld ++ wAr cI (ma 6) 24 far ++ wAr cZ (ma 7) 72 don ++ wAr cI (ma 8) 96 tld ++ wAr cI (ma 9) 24 dep ++ wAr cI (ma 10) 24 bit) := by
  intro X C Z
  show xb_G X 0 0 (wMo o0 ma st ik le sp nu ++ wAr cI (ma 0) 1898 now ++ wAr cI (ma 1) 1898 thn ++ wAr cI (ma 2) 7592 pst ++ wAr cI (ma 3) 1898 snp ++ wAr cC (ma 4) 80 txt ++ wAr cI (ma 5) 48 hld ++ wAr cI (ma 6) 24 far ++ wAr cZ (ma 7) 72 don ++ wAr cI (ma 8) 96 tld ++ wAr cI (ma 9) 24 dep ++ wAr cI (ma 10) 24 bit) [(0, .ref o0), (1, .int p1), (2, .int p2)] 0 []
  have lp5 : ∀ (x1_5 : Int32) (x2_5 : Int32) (k : Int32 → Option (Int32)) (n : Nat) (x3_5 : Int32) (x4_5 : Int32), f_X6_lookedUp_5 now bit x1_5 x2_5 k n x3_5 x4_5 = some r → (∀ (x3_5e : Int32), k x3_5e = some r → xb_G X 0 0 (wMo o0 ma st ik le sp nu ++ wAr cI (ma 0) 1898 now ++ wAr cI (ma 1) 1898 thn ++ wAr cI (ma 2) 7592 pst ++ wAr cI (ma 3) 1898 snp ++ wAr cC (ma 4) 80 txt ++ wAr cI (ma 5) 48 hld ++ wAr cI (ma 6) 24 far ++ wAr cZ (ma 7) 72 don ++ wAr cI (ma 8) 96 tld ++ wAr cI (ma 9) 24 dep ++ wAr cI (ma 10) 24 bit) [(0, .ref o0), (1, .int x1_5), (3, .int x3_5e)] 42 []) → xb_G X 0 0 (wMo o0 ma st ik le sp nu ++ wAr cI (ma 0) 1898 now ++ wAr cI (ma 1) 1898 thn ++ wAr cI (ma 2) 7592 pst ++ wAr cI (ma 3) 1898 snp ++ wAr cC (ma 4) 80 txt ++ wAr cI (ma 5) 48 hld ++ wAr cI (ma 6) 24 far ++ wAr cZ (ma 7) 72 don ++ wAr cI (ma 8) 96 tld ++ wAr cI (ma 9) 24 dep ++ wAr cI (ma 10) 24 bit) [(0, .ref o0), (1, .int x1_5), (2, .int x2_5), (3, .int x3_5), (4, .int x4_5)] 5 [] := by
    intro x1_5 x2_5 k n
    induction n with
    | zero => intro x3_5 x4_5 h hk; unfold f_X6_lookedUp_5 at h; cases h
    | succ n ih =>
      intro x3_5 x4_5 h hk
      unfold f_X6_lookedUp_5 at h
      refine xi_iload C dX6_lookedUp_5 4 rfl ?_
      refine xi_iconst (v := 3) C dX6_lookedUp_7 (by decide) ?_
      refine xi_icmp_ge (tgt := 42) C dX6_lookedUp_8 (by decide) (fun c1 => ?_) (fun c1 => ?_)
      · have h := it_i c1 h
        exact xb_lv (hk x3_5 h) [0, 1, 3] rfl
      · have h := ie_i c1 h
        refine xi_iload_n C dX6_lookedUp_11 rfl 3 rfl ?_
        refine xi_aload_n C dX6_lookedUp_12 rfl 0 rfl ?_
        refine xi_aload_n C dX6_lookedUp_13 rfl 0 rfl ?_
        refine xi_get C dX6_lookedUp_14 iw_X6_lookedUp_6 0 rfl rfl 0 (by decide) fl_X6_lookedUp_7 rfl ?_
        refine xi_bipush (v := 24) C dX6_lookedUp_17 (by decide) ?_
        refine xi_iconst (v := 3) C dX6_lookedUp_19 (by decide) ?_
        refine xi_iload_n C dX6_lookedUp_20 rfl 1 rfl ?_
        refine xi_imul C dX6_lookedUp_21 ?_
        refine xi_iadd C dX6_lookedUp_22 ?_
        refine xi_iload C dX6_lookedUp_23 4 rfl ?_
        refine xi_iadd C dX6_lookedUp_25 ?_
        obtain ⟨v2, e3, h⟩ := ob_i h
        refine xi_iald C dX6_lookedUp_26 1 0 rfl rfl e3 ?_
        refine xi_iload_n C dX6_lookedUp_27 rfl 2 rfl ?_
        obtain ⟨v4, e5, h⟩ := ob_i h
        refine xi_callV (As := [.int v2, .int x2_5]) (o := some (.int v4)) (rest := [.int x3_5]) (w2 := (wMo o0 ma st ik le sp nu ++ wAr cI (ma 0) 1898 now ++ wAr cI (ma 1) 1898 thn ++ wAr cI (ma 2) 7592 pst ++ wAr cI (ma 3) 1898 snp ++ wAr cC (ma 4) 80 txt ++ wAr cI (ma 5) 48 hld ++ wAr cI (ma 6) 24 far ++ wAr cZ (ma 7) 72 don ++ wAr cI (ma 8) 96 tld ++ wAr cI (ma 9) 24 dep ++ wAr cI (ma 10) 24 bit)) (st2 := [.int v4, .int x3_5]) C k_X6_bitOf (m_X6_bitOf D cI cC cZ cR o0 ma st ik le sp nu now thn pst snp txt hld far don tld dep bit v2 x2_5 v4 e5) gX6_lookedUp_X6_bitOf dX6_lookedUp_28 ⟨Nat.le_of_ble_eq_true rfl, Nat.le_of_ble_eq_true rfl, Nat.le_of_ble_eq_true rfl⟩ 0 rfl rfl [0, 1, 2, 3, 4, 5, 6, 7, 8, 9, 10, 11] mxC_X6_0_1_2_3_4_5_6_7_8_9_10_11 rfl [0, 1, 2, 3] rfl mxF_X6_0_1_2_3_4_5_6_7_8_9_10_11 mxM_X6_0_1_2_3_4_5_6_7_8_9_10_11 rfl (Nat.le_of_ble_eq_true rfl) ⟨Nat.zero_le _, Nat.zero_le _⟩ rfl ?_
        refine xi_iload C dX6_lookedUp_31 4 rfl ?_
        refine xi_ishl C dX6_lookedUp_33 ?_
        refine xi_ior C dX6_lookedUp_34 ?_
        refine xi_istore_n (lv2 := [(0, .ref o0), (1, .int x1_5), (2, .int x2_5), (3, .int (x3_5 ||| (v4 <<< (x4_5 &&& 31)))), (4, .int x4_5)]) C dX6_lookedUp_35 rfl (by decide) [0, 1, 2, 4] [1, 2, 3, 0, 4] rfl ?_
        refine xi_iinc (v := x4_5 + 1) (lv2 := [(0, .ref o0), (1, .int x1_5), (2, .int x2_5), (3, .int (x3_5 ||| (v4 <<< (x4_5 &&& 31)))), (4, .int (x4_5 + 1))]) C dX6_lookedUp_36 4 rfl (by rfl) (by decide) [0, 1, 2, 3] [1, 2, 3, 4, 0] rfl ?_
        refine xi_goto (tgt := 5) C dX6_lookedUp_39 (by decide) ?_
        exact xb_lv (ih (x3_5 ||| (v4 <<< (x4_5 &&& 31))) (x4_5 + 1) h hk) [0, 1, 2, 3, 4] rfl
  unfold f_X6_lookedUp at h
  refine xi_iconst (v := 0) C dX6_lookedUp_0 (by decide) ?_
  refine xi_istore_n (lv2 := [(0, .ref o0), (1, .int p1), (2, .int p2), (3, .int 0)]) C dX6_lookedUp_1 rfl (by decide) [0, 1, 2] [1, 2, 3, 0] rfl ?_
  refine xi_iconst (v := 0) C dX6_lookedUp_2 (by decide) ?_
  refine xi_istore (lv2 := [(0, .ref o0), (1, .int p1), (2, .int p2), (3, .int 0), (4, .int 0)]) C dX6_lookedUp_3 (by decide) [0, 1, 2, 3] [1, 2, 3, 4, 0] rfl ?_
  refine xb_lv (lp5 p1 p2 _ xFu 0 0 h (fun x3z6 h => ?_)) [0, 1, 2, 3, 4] rfl
  refine xi_aload_n C dX6_lookedUp_42 rfl 0 rfl ?_
  refine xi_get C dX6_lookedUp_43 iw_X6_lookedUp_6 0 rfl rfl 0 (by decide) fl_X6_lookedUp_7 rfl ?_
  refine xi_iconst (v := 0) C dX6_lookedUp_46 (by decide) ?_
  refine xi_iload_n C dX6_lookedUp_47 rfl 1 rfl ?_
  refine xi_iadd C dX6_lookedUp_48 ?_
  obtain ⟨v7, e8, h⟩ := ob_i h
  refine xi_iald C dX6_lookedUp_49 1 0 rfl rfl e8 ?_
  refine xi_iload_n C dX6_lookedUp_50 rfl 2 rfl ?_
  refine xi_ishr C dX6_lookedUp_51 ?_
  refine xi_iconst (v := 1) C dX6_lookedUp_52 (by decide) ?_
  refine xi_iand C dX6_lookedUp_53 ?_
  have w0 := Option.some.inj h
  subst w0
  exact xi_iret C Z dX6_lookedUp_54
def f_X6_answers_39 (now : Nat → Int32) (x1_39 : Int32) (k : Int32 → (Nat → Int32) → (Nat → Int32) → Option ((Nat → Int32) × (Nat → Int32))) : Nat → Int32 → Int32 → (Nat → Int32) → (Nat → Int32) → Option ((Nat → Int32) × (Nat → Int32))
  | 0, _, _, _, _ => none
  | n + 1, x2_39, x3_39, dep_39, bit_39 =>
    if 24 ≤ x3_39 then
      k x2_39 dep_39 bit_39
    else
      (f_X6_isCell now x3_39).bind fun v9 =>
      if v9 = 0 then
        f_X6_answers_39 now x1_39 k n x2_39 (x3_39 + 1) dep_39 bit_39
      else
        (xr_d dep_39 24 x3_39).bind fun v12 =>
        if v12 = (-5) then
          (f_X6_under now dep_39 x3_39).bind fun v15 =>
          if v15 = (-5) then
            f_X6_answers_39 now x1_39 k n x2_39 (x3_39 + 1) dep_39 bit_39
          else
            (f_X6_under now dep_39 x3_39).bind fun v18 =>
            (xr_w dep_39 24 x3_39 (v18 + 1)).bind fun dep21 =>
            (f_X6_lookedUp now bit_39 x3_39 x1_39).bind fun v22 =>
            (xr_w bit_39 24 x3_39 v22).bind fun bit25 =>
            f_X6_answers_39 now x1_39 k n 1 (x3_39 + 1) dep21 bit25
        else
          f_X6_answers_39 now x1_39 k n x2_39 (x3_39 + 1) dep_39 bit_39
def f_X6_answers_31 (now : Nat → Int32) (x1_31 : Int32) (k : (Nat → Int32) → (Nat → Int32) → Option ((Nat → Int32) × (Nat → Int32))) : Nat → Int32 → (Nat → Int32) → (Nat → Int32) → Option ((Nat → Int32) × (Nat → Int32))
  | 0, _, _, _ => none
  | n + 1, x2_31, dep_31, bit_31 =>
    if x2_31 = 0 then
      k dep_31 bit_31
    else
      f_X6_answers_39 now x1_31 (fun x2z26 depz26 bitz26 =>
        f_X6_answers_31 now x1_31 k n x2z26 depz26 bitz26) xFu 0 0 dep_31 bit_31
def f_X6_answers_2 (k : (Nat → Int32) → (Nat → Int32) → Option ((Nat → Int32) × (Nat → Int32))) : Nat → Int32 → (Nat → Int32) → (Nat → Int32) → Option ((Nat → Int32) × (Nat → Int32))
  | 0, _, _, _ => none
  | n + 1, x2_2, dep_2, bit_2 =>
    if 24 ≤ x2_2 then
      k dep_2 bit_2
    else
      (xr_w dep_2 24 x2_2 (-5)).bind fun dep3 =>
      (xr_w bit_2 24 x2_2 0).bind fun bit5 =>
      f_X6_answers_2 k n (x2_2 + 1) dep3 bit5
def f_X6_answers (now : Nat → Int32) (dep : Nat → Int32) (bit : Nat → Int32) (p1 : Int32) : Option ((Nat → Int32) × (Nat → Int32)) :=
  f_X6_answers_2 (fun depz6 bitz6 =>
    f_X6_answers_31 now p1 (fun depz27 bitz27 =>
      some (depz27, bitz27)) xFu 1 depz6 bitz6) xFu 0 dep bit
theorem k_X6_answers : xb_Y yX6_answers cX6_answers wsX6_answers 4 none { frames := 3, cells := 0, slots := 0, locals := 63 } 1 := ⟨⟨_, rfl⟩, by decide, ⟨by decide, by decide, by decide +kernel⟩, rfl, rfl⟩
theorem fl_X6_answers_7 : Cond.fieldLink RX6 7 "LookupBoardModel" "now" "[I" ∈ wsX6_answers := List.mem_of_getElem? (i := 3) rfl
theorem fl_X6_answers_39 : Cond.fieldLink RX6 39 "LookupBoardModel" "depth" "[I" ∈ wsX6_answers := List.mem_of_getElem? (i := 1) rfl
theorem fl_X6_answers_42 : Cond.fieldLink RX6 42 "LookupBoardModel" "bit" "[I" ∈ wsX6_answers := List.mem_of_getElem? (i := 2) rfl
theorem iw_X6_answers_6 : ∀ w ∈ wsX60, w ∈ wsX6_answers := fun w h => List.mem_cons_of_mem _ (List.mem_append_right _ h)
set_option maxHeartbeats 4000000 in
set_option maxRecDepth 100000 in
theorem m_X6_answers (D : va_G) (cI cC cZ cR : ClassId) (o0 : Nat) (ma : Nat → Nat) (st : Int32) (ik : Int32) (le : Int32) (sp : Int32) (nu : Int32) (now : Nat → Int32) (thn : Nat → Int32) (pst : Nat → Int32) (snp : Nat → Int32) (txt : Nat → Int32) (hld : Nat → Int32) (far : Nat → Int32) (don : Nat → Int32) (tld : Nat → Int32) (dep : Nat → Int32) (bit : Nat → Int32) (p1 : Int32) (dep' : Nat → Int32) (bit' : Nat → Int32) (h : f_X6_answers now dep bit p1 = some (dep', bit')) : xb_M cX6_answers wsX6_answers RX6 { frames := 3, cells := 0, slots := 0, locals := 63 } none 4 (xb_ty cI cC cZ cR) D [.ref o0, .int p1] (wMo o0 ma st ik le sp nu ++ wAr cI (ma 0) 1898 now ++ wAr cI (ma 1) 1898 thn ++ wAr cI (ma 2) 7592 pst ++ wAr cI (ma 3) 1898 snp ++ wAr cC (ma 4) 80 txt ++ wAr cI (ma 5) 48 hld ++ wAr cI (ma 6) 24 far ++ wAr cZ (ma 7) 72 don ++ wAr cI (ma 8) 96 tld ++ wAr cI (ma 9) 24 dep ++ wAr cI (ma 10) 24 bit) none (wMo o0 ma st ik le sp nu ++ wAr cI (ma 0) 1898 now ++ wAr cI (ma 1) 1898 thn ++ wAr cI (ma 2) 7592 pst ++ wAr cI (ma 3) 1898 snp ++ wAr cC (ma 4) 80 txt ++ wAr cI (ma 5) 48 hld ++ wAr cI (ma 6) 24 far ++ wAr cZ (ma 7) 72 don ++ wAr cI (ma 8) 96 tld ++ wAr cI (ma 9) 24 dep' ++ wAr cI (ma 10) 24 bit') := by
  intro X C Z
  show xb_G X 0 0 (wMo o0 ma st ik le sp nu ++ wAr cI (ma 0) 1898 now ++ wAr cI (ma 1) 1898 thn ++ wAr cI (ma 2) 7592 pst ++ wAr cI (ma 3) 1898 snp ++ wAr cC (ma 4) 80 txt ++ wAr cI (ma 5) 48 hld ++ wAr cI (ma 6) 24 far ++ wAr cZ (ma 7) 72 don ++ wAr cI (ma 8) 96 tld ++ wAr cI (ma 9) 24 dep ++ wAr cI (ma 10) 24 bit) [(0, .ref o0), (1, .int p1)] 0 []
  have lp39 : ∀ (x1_39 : Int32) (k : Int32 → (Nat → Int32) → (Nat → Int32) → Option ((Nat → Int32) × (Nat → Int32))) (n : Nat) (x2_39 : Int32) (x3_39 : Int32) (dep_39 : Nat → Int32) (bit_39 : Nat → Int32), f_X6_answers_39 now x1_39 k n x2_39 x3_39 dep_39 bit_39 = some (dep', bit') → (∀ (x2_39e : Int32) (dep_39e : Nat → Int32) (bit_39e : Nat → Int32), k x2_39e dep_39e bit_39e = some (dep', bit') → xb_G X 0 0 (wMo o0 ma st ik le sp nu ++ wAr cI (ma 0) 1898 now ++ wAr cI (ma 1) 1898 thn ++ wAr cI (ma 2) 7592 pst ++ wAr cI (ma 3) 1898 snp ++ wAr cC (ma 4) 80 txt ++ wAr cI (ma 5) 48 hld ++ wAr cI (ma 6) 24 far ++ wAr cZ (ma 7) 72 don ++ wAr cI (ma 8) 96 tld ++ wAr cI (ma 9) 24 dep_39e ++ wAr cI (ma 10) 24 bit_39e) [(0, .ref o0), (1, .int x1_39), (2, .int x2_39e)] 110 []) → xb_G X 0 0 (wMo o0 ma st ik le sp nu ++ wAr cI (ma 0) 1898 now ++ wAr cI (ma 1) 1898 thn ++ wAr cI (ma 2) 7592 pst ++ wAr cI (ma 3) 1898 snp ++ wAr cC (ma 4) 80 txt ++ wAr cI (ma 5) 48 hld ++ wAr cI (ma 6) 24 far ++ wAr cZ (ma 7) 72 don ++ wAr cI (ma 8) 96 tld ++ wAr cI (ma 9) 24 dep_39 ++ wAr cI (ma 10) 24 bit_39) [(0, .ref o0), (1, .int x1_39), (2, .int x2_39), (3, .int x3_39)] 39 [] := by
    intro x1_39 k n
    induction n with
    | zero => intro x2_39 x3_39 dep_39 bit_39 h hk; unfold f_X6_answers_39 at h; cases h
    | succ n ih =>
      intro x2_39 x3_39 dep_39 bit_39 h hk
      unfold f_X6_answers_39 at h
      refine xi_iload_n C dX6_answers_39 rfl 3 rfl ?_
      refine xi_bipush (v := 24) C dX6_answers_40 (by decide) ?_
      refine xi_icmp_ge (tgt := 110) C dX6_answers_42 (by decide) (fun c8 => ?_) (fun c8 => ?_)
      · have h := it_i c8 h
        exact xb_lv (hk x2_39 dep_39 bit_39 h) [0, 1, 2] rfl
      · have h := ie_i c8 h
        refine xi_aload_n C dX6_answers_45 rfl 0 rfl ?_
        refine xi_get C dX6_answers_46 iw_X6_answers_6 0 rfl rfl 0 (by decide) fl_X6_answers_7 rfl ?_
        refine xi_iload_n C dX6_answers_49 rfl 3 rfl ?_
        obtain ⟨v9, e10, h⟩ := ob_i h
        refine xi_callS (As := [.ref (ma 0), .int x3_39]) (o := some (.int v9)) (rest := []) (w2 := (wMo o0 ma st ik le sp nu ++ wAr cI (ma 0) 1898 now ++ wAr cI (ma 1) 1898 thn ++ wAr cI (ma 2) 7592 pst ++ wAr cI (ma 3) 1898 snp ++ wAr cC (ma 4) 80 txt ++ wAr cI (ma 5) 48 hld ++ wAr cI (ma 6) 24 far ++ wAr cZ (ma 7) 72 don ++ wAr cI (ma 8) 96 tld ++ wAr cI (ma 9) 24 dep_39 ++ wAr cI (ma 10) 24 bit_39)) (st2 := [.int v9]) C k_X6_isCell (m_X6_isCell D cI cC cZ cR (ma 0) now x3_39 v9 e10) gX6_answers_X6_isCell dX6_answers_50 ⟨Nat.le_of_ble_eq_true rfl, Nat.le_of_ble_eq_true rfl, Nat.le_of_ble_eq_true rfl⟩ [1] mxC_X6_1 rfl [0, 1, 2, 3] rfl mxF_X6_1 mxM_X6_1 rfl (Nat.le_of_ble_eq_true rfl) ⟨Nat.zero_le _, Nat.zero_le _⟩ rfl ?_
        refine xi_if_eq (tgt := 104) C dX6_answers_53 (by decide) (fun c11 => ?_) (fun c11 => ?_)
        · have h := it_i c11 h
          refine xi_iinc (v := x3_39 + 1) (lv2 := [(0, .ref o0), (1, .int x1_39), (2, .int x2_39), (3, .int (x3_39 + 1))]) C dX6_answers_104 3 rfl (by rfl) (by decide) [0, 1, 2] [1, 2, 3, 0] rfl ?_
          refine xi_goto (tgt := 39) C dX6_answers_107 (by decide) ?_
          exact xb_lv (ih x2_39 (x3_39 + 1) dep_39 bit_39 h hk) [0, 1, 2, 3] rfl
        · have h := ie_i c11 h
          refine xi_aload_n C dX6_answers_56 rfl 0 rfl ?_
          refine xi_get C dX6_answers_57 iw_X6_answers_6 0 rfl rfl 14 (by decide) fl_X6_answers_39 rfl ?_
          refine xi_iload_n C dX6_answers_60 rfl 3 rfl ?_
          obtain ⟨v12, e13, h⟩ := ob_i h
          refine xi_iald C dX6_answers_61 10 0 rfl rfl e13 ?_
          refine xi_bipush (v := (-5)) C dX6_answers_62 (by decide) ?_
          refine xi_icmp_ne (tgt := 104) C dX6_answers_64 (by decide) (fun c14 => ?_) (fun c14 => ?_)
          · have h := ie_i c14 h
            refine xi_iinc (v := x3_39 + 1) (lv2 := [(0, .ref o0), (1, .int x1_39), (2, .int x2_39), (3, .int (x3_39 + 1))]) C dX6_answers_104 3 rfl (by rfl) (by decide) [0, 1, 2] [1, 2, 3, 0] rfl ?_
            refine xi_goto (tgt := 39) C dX6_answers_107 (by decide) ?_
            exact xb_lv (ih x2_39 (x3_39 + 1) dep_39 bit_39 h hk) [0, 1, 2, 3] rfl
          · have h := it_i c14 h
            refine xi_aload_n C dX6_answers_67 rfl 0 rfl ?_
            refine xi_iload_n C dX6_answers_68 rfl 3 rfl ?_
            obtain ⟨v15, e16, h⟩ := ob_i h
            refine xi_callV (As := [.int x3_39]) (o := some (.int v15)) (rest := []) (w2 := (wMo o0 ma st ik le sp nu ++ wAr cI (ma 0) 1898 now ++ wAr cI (ma 1) 1898 thn ++ wAr cI (ma 2) 7592 pst ++ wAr cI (ma 3) 1898 snp ++ wAr cC (ma 4) 80 txt ++ wAr cI (ma 5) 48 hld ++ wAr cI (ma 6) 24 far ++ wAr cZ (ma 7) 72 don ++ wAr cI (ma 8) 96 tld ++ wAr cI (ma 9) 24 dep_39 ++ wAr cI (ma 10) 24 bit_39)) (st2 := [.int v15]) C k_X6_under (m_X6_under D cI cC cZ cR o0 ma st ik le sp nu now thn pst snp txt hld far don tld dep_39 bit_39 x3_39 v15 e16) gX6_answers_X6_under dX6_answers_69 ⟨Nat.le_of_ble_eq_true rfl, Nat.le_of_ble_eq_true rfl, Nat.le_of_ble_eq_true rfl⟩ 0 rfl rfl [0, 1, 2, 3, 4, 5, 6, 7, 8, 9, 10, 11] mxC_X6_0_1_2_3_4_5_6_7_8_9_10_11 rfl [0, 1, 2, 3] rfl mxF_X6_0_1_2_3_4_5_6_7_8_9_10_11 mxM_X6_0_1_2_3_4_5_6_7_8_9_10_11 rfl (Nat.le_of_ble_eq_true rfl) ⟨Nat.zero_le _, Nat.zero_le _⟩ rfl ?_
            refine xi_bipush (v := (-5)) C dX6_answers_72 (by decide) ?_
            refine xi_icmp_eq (tgt := 104) C dX6_answers_74 (by decide) (fun c17 => ?_) (fun c17 => ?_)
            · have h := it_i c17 h
              refine xi_iinc (v := x3_39 + 1) (lv2 := [(0, .ref o0), (1, .int x1_39), (2, .int x2_39), (3, .int (x3_39 + 1))]) C dX6_answers_104 3 rfl (by rfl) (by decide) [0, 1, 2] [1, 2, 3, 0] rfl ?_
              refine xi_goto (tgt := 39) C dX6_answers_107 (by decide) ?_
              exact xb_lv (ih x2_39 (x3_39 + 1) dep_39 bit_39 h hk) [0, 1, 2, 3] rfl
            · have h := ie_i c17 h
              refine xi_aload_n C dX6_answers_77 rfl 0 rfl ?_
              refine xi_get C dX6_answers_78 iw_X6_answers_6 0 rfl rfl 14 (by decide) fl_X6_answers_39 rfl ?_
              refine xi_iload_n C dX6_answers_81 rfl 3 rfl ?_
              refine xi_aload_n C dX6_answers_82 rfl 0 rfl ?_
              refine xi_iload_n C dX6_answers_83 rfl 3 rfl ?_
              obtain ⟨v18, e19, h⟩ := ob_i h
              refine xi_callV (As := [.int x3_39]) (o := some (.int v18)) (rest := [.int x3_39, .ref (ma 9)]) (w2 := (wMo o0 ma st ik le sp nu ++ wAr cI (ma 0) 1898 now ++ wAr cI (ma 1) 1898 thn ++ wAr cI (ma 2) 7592 pst ++ wAr cI (ma 3) 1898 snp ++ wAr cC (ma 4) 80 txt ++ wAr cI (ma 5) 48 hld ++ wAr cI (ma 6) 24 far ++ wAr cZ (ma 7) 72 don ++ wAr cI (ma 8) 96 tld ++ wAr cI (ma 9) 24 dep_39 ++ wAr cI (ma 10) 24 bit_39)) (st2 := [.int v18, .int x3_39, .ref (ma 9)]) C k_X6_under (m_X6_under D cI cC cZ cR o0 ma st ik le sp nu now thn pst snp txt hld far don tld dep_39 bit_39 x3_39 v18 e19) gX6_answers_X6_under dX6_answers_84 ⟨Nat.le_of_ble_eq_true rfl, Nat.le_of_ble_eq_true rfl, Nat.le_of_ble_eq_true rfl⟩ 0 rfl rfl [0, 1, 2, 3, 4, 5, 6, 7, 8, 9, 10, 11] mxC_X6_0_1_2_3_4_5_6_7_8_9_10_11 rfl [0, 1, 2, 3] rfl mxF_X6_0_1_2_3_4_5_6_7_8_9_10_11 mxM_X6_0_1_2_3_4_5_6_7_8_9_10_11 rfl (Nat.le_of_ble_eq_true rfl) ⟨Nat.zero_le _, Nat.zero_le _⟩ rfl ?_
              refine xi_iconst (v := 1) C dX6_answers_87 (by decide) ?_
              refine xi_iadd C dX6_answers_88 ?_
              obtain ⟨dep21, e20, h⟩ := ob_i h
              refine xi_iast (w2 := (wMo o0 ma st ik le sp nu ++ wAr cI (ma 0) 1898 now ++ wAr cI (ma 1) 1898 thn ++ wAr cI (ma 2) 7592 pst ++ wAr cI (ma 3) 1898 snp ++ wAr cC (ma 4) 80 txt ++ wAr cI (ma 5) 48 hld ++ wAr cI (ma 6) 24 far ++ wAr cZ (ma 7) 72 don ++ wAr cI (ma 8) 96 tld ++ wAr cI (ma 9) 24 dep21 ++ wAr cI (ma 10) 24 bit_39)) C dX6_answers_89 10 0 rfl rfl e20 rfl ?_
              refine xi_aload_n C dX6_answers_90 rfl 0 rfl ?_
              refine xi_get C dX6_answers_91 iw_X6_answers_6 0 rfl rfl 15 (by decide) fl_X6_answers_42 rfl ?_
              refine xi_iload_n C dX6_answers_94 rfl 3 rfl ?_
              refine xi_aload_n C dX6_answers_95 rfl 0 rfl ?_
              refine xi_iload_n C dX6_answers_96 rfl 3 rfl ?_
              refine xi_iload_n C dX6_answers_97 rfl 1 rfl ?_
              obtain ⟨v22, e23, h⟩ := ob_i h
              refine xi_callV (As := [.int x3_39, .int x1_39]) (o := some (.int v22)) (rest := [.int x3_39, .ref (ma 10)]) (w2 := (wMo o0 ma st ik le sp nu ++ wAr cI (ma 0) 1898 now ++ wAr cI (ma 1) 1898 thn ++ wAr cI (ma 2) 7592 pst ++ wAr cI (ma 3) 1898 snp ++ wAr cC (ma 4) 80 txt ++ wAr cI (ma 5) 48 hld ++ wAr cI (ma 6) 24 far ++ wAr cZ (ma 7) 72 don ++ wAr cI (ma 8) 96 tld ++ wAr cI (ma 9) 24 dep21 ++ wAr cI (ma 10) 24 bit_39)) (st2 := [.int v22, .int x3_39, .ref (ma 10)]) C k_X6_lookedUp (m_X6_lookedUp D cI cC cZ cR o0 ma st ik le sp nu now thn pst snp txt hld far don tld dep21 bit_39 x3_39 x1_39 v22 e23) gX6_answers_X6_lookedUp dX6_answers_98 ⟨Nat.le_of_ble_eq_true rfl, Nat.le_of_ble_eq_true rfl, Nat.le_of_ble_eq_true rfl⟩ 0 rfl rfl [0, 1, 2, 3, 4, 5, 6, 7, 8, 9, 10, 11] mxC_X6_0_1_2_3_4_5_6_7_8_9_10_11 rfl [0, 1, 2, 3] rfl mxF_X6_0_1_2_3_4_5_6_7_8_9_10_11 mxM_X6_0_1_2_3_4_5_6_7_8_9_10_11 rfl (Nat.le_of_ble_eq_true rfl) ⟨Nat.zero_le _, Nat.zero_le _⟩ rfl ?_
              obtain ⟨bit25, e24, h⟩ := ob_i h
              refine xi_iast (w2 := (wMo o0 ma st ik le sp nu ++ wAr cI (ma 0) 1898 now ++ wAr cI (ma 1) 1898 thn ++ wAr cI (ma 2) 7592 pst ++ wAr cI (ma 3) 1898 snp ++ wAr cC (ma 4) 80 txt ++ wAr cI (ma 5) 48 hld ++ wAr cI (ma 6) 24 far ++ wAr cZ (ma 7) 72 don ++ wAr cI (ma 8) 96 tld ++ wAr cI (ma 9) 24 dep21 ++ wAr cI (ma 10) 24 bit25)) C dX6_answers_101 11 0 rfl rfl e24 rfl ?_
              refine xi_iconst (v := 1) C dX6_answers_102 (by decide) ?_
              refine xi_istore_n (lv2 := [(0, .ref o0), (1, .int x1_39), (2, .int 1), (3, .int x3_39)]) C dX6_answers_103 rfl (by decide) [0, 1, 3] [1, 2, 0, 3] rfl ?_
              refine xi_iinc (v := x3_39 + 1) (lv2 := [(0, .ref o0), (1, .int x1_39), (2, .int 1), (3, .int (x3_39 + 1))]) C dX6_answers_104 3 rfl (by rfl) (by decide) [0, 1, 2] [1, 2, 3, 0] rfl ?_
              refine xi_goto (tgt := 39) C dX6_answers_107 (by decide) ?_
              exact xb_lv (ih 1 (x3_39 + 1) dep21 bit25 h hk) [0, 1, 2, 3] rfl
  have lp31 : ∀ (x1_31 : Int32) (k : (Nat → Int32) → (Nat → Int32) → Option ((Nat → Int32) × (Nat → Int32))) (n : Nat) (x2_31 : Int32) (dep_31 : Nat → Int32) (bit_31 : Nat → Int32), f_X6_answers_31 now x1_31 k n x2_31 dep_31 bit_31 = some (dep', bit') → (∀ (dep_31e : Nat → Int32) (bit_31e : Nat → Int32), k dep_31e bit_31e = some (dep', bit') → xb_G X 0 0 (wMo o0 ma st ik le sp nu ++ wAr cI (ma 0) 1898 now ++ wAr cI (ma 1) 1898 thn ++ wAr cI (ma 2) 7592 pst ++ wAr cI (ma 3) 1898 snp ++ wAr cC (ma 4) 80 txt ++ wAr cI (ma 5) 48 hld ++ wAr cI (ma 6) 24 far ++ wAr cZ (ma 7) 72 don ++ wAr cI (ma 8) 96 tld ++ wAr cI (ma 9) 24 dep_31e ++ wAr cI (ma 10) 24 bit_31e) [] 113 []) → xb_G X 0 0 (wMo o0 ma st ik le sp nu ++ wAr cI (ma 0) 1898 now ++ wAr cI (ma 1) 1898 thn ++ wAr cI (ma 2) 7592 pst ++ wAr cI (ma 3) 1898 snp ++ wAr cC (ma 4) 80 txt ++ wAr cI (ma 5) 48 hld ++ wAr cI (ma 6) 24 far ++ wAr cZ (ma 7) 72 don ++ wAr cI (ma 8) 96 tld ++ wAr cI (ma 9) 24 dep_31 ++ wAr cI (ma 10) 24 bit_31) [(0, .ref o0), (1, .int x1_31), (2, .int x2_31)] 31 [] := by
    intro x1_31 k n
    induction n with
    | zero => intro x2_31 dep_31 bit_31 h hk; unfold f_X6_answers_31 at h; cases h
    | succ n ih =>
      intro x2_31 dep_31 bit_31 h hk
      unfold f_X6_answers_31 at h
      refine xi_iload_n C dX6_answers_31 rfl 2 rfl ?_
      refine xi_if_eq (tgt := 113) C dX6_answers_32 (by decide) (fun c7 => ?_) (fun c7 => ?_)
      · have h := it_i c7 h
        exact xb_lv (hk dep_31 bit_31 h) [] rfl
      · have h := ie_i c7 h
        refine xi_iconst (v := 0) C dX6_answers_35 (by decide) ?_
        refine xi_istore_n (lv2 := [(0, .ref o0), (1, .int x1_31), (2, .int 0)]) C dX6_answers_36 rfl (by decide) [0, 1] [1, 2, 0] rfl ?_
        refine xi_iconst (v := 0) C dX6_answers_37 (by decide) ?_
        refine xi_istore_n (lv2 := [(0, .ref o0), (1, .int x1_31), (2, .int 0), (3, .int 0)]) C dX6_answers_38 rfl (by decide) [0, 1, 2] [1, 2, 3, 0] rfl ?_
        refine xb_lv (lp39 x1_31 _ xFu 0 0 dep_31 bit_31 h (fun x2z26 depz26 bitz26 h => ?_)) [0, 1, 2, 3] rfl
        refine xi_goto (tgt := 31) C dX6_answers_110 (by decide) ?_
        exact xb_lv (ih x2z26 depz26 bitz26 h hk) [0, 1, 2] rfl
  have lp2 : ∀ (x1_2 : Int32) (k : (Nat → Int32) → (Nat → Int32) → Option ((Nat → Int32) × (Nat → Int32))) (n : Nat) (x2_2 : Int32) (dep_2 : Nat → Int32) (bit_2 : Nat → Int32), f_X6_answers_2 k n x2_2 dep_2 bit_2 = some (dep', bit') → (∀ (dep_2e : Nat → Int32) (bit_2e : Nat → Int32), k dep_2e bit_2e = some (dep', bit') → xb_G X 0 0 (wMo o0 ma st ik le sp nu ++ wAr cI (ma 0) 1898 now ++ wAr cI (ma 1) 1898 thn ++ wAr cI (ma 2) 7592 pst ++ wAr cI (ma 3) 1898 snp ++ wAr cC (ma 4) 80 txt ++ wAr cI (ma 5) 48 hld ++ wAr cI (ma 6) 24 far ++ wAr cZ (ma 7) 72 don ++ wAr cI (ma 8) 96 tld ++ wAr cI (ma 9) 24 dep_2e ++ wAr cI (ma 10) 24 bit_2e) [(0, .ref o0), (1, .int x1_2)] 29 []) → xb_G X 0 0 (wMo o0 ma st ik le sp nu ++ wAr cI (ma 0) 1898 now ++ wAr cI (ma 1) 1898 thn ++ wAr cI (ma 2) 7592 pst ++ wAr cI (ma 3) 1898 snp ++ wAr cC (ma 4) 80 txt ++ wAr cI (ma 5) 48 hld ++ wAr cI (ma 6) 24 far ++ wAr cZ (ma 7) 72 don ++ wAr cI (ma 8) 96 tld ++ wAr cI (ma 9) 24 dep_2 ++ wAr cI (ma 10) 24 bit_2) [(0, .ref o0), (1, .int x1_2), (2, .int x2_2)] 2 [] := by
    intro x1_2 k n
    induction n with
    | zero => intro x2_2 dep_2 bit_2 h hk; unfold f_X6_answers_2 at h; cases h
    | succ n ih =>
      intro x2_2 dep_2 bit_2 h hk
      unfold f_X6_answers_2 at h
      refine xi_iload_n C dX6_answers_2 rfl 2 rfl ?_
      refine xi_bipush (v := 24) C dX6_answers_3 (by decide) ?_
      refine xi_icmp_ge (tgt := 29) C dX6_answers_5 (by decide) (fun c1 => ?_) (fun c1 => ?_)
      · have h := it_i c1 h
        exact xb_lv (hk dep_2 bit_2 h) [0, 1] rfl
      · have h := ie_i c1 h
        refine xi_aload_n C dX6_answers_8 rfl 0 rfl ?_
        refine xi_get C dX6_answers_9 iw_X6_answers_6 0 rfl rfl 14 (by decide) fl_X6_answers_39 rfl ?_
        refine xi_iload_n C dX6_answers_12 rfl 2 rfl ?_
        refine xi_bipush (v := (-5)) C dX6_answers_13 (by decide) ?_
        obtain ⟨dep3, e2, h⟩ := ob_i h
        refine xi_iast (w2 := (wMo o0 ma st ik le sp nu ++ wAr cI (ma 0) 1898 now ++ wAr cI (ma 1) 1898 thn ++ wAr cI (ma 2) 7592 pst ++ wAr cI (ma 3) 1898 snp ++ wAr cC (ma 4) 80 txt ++ wAr cI (ma 5) 48 hld ++ wAr cI (ma 6) 24 far ++ wAr cZ (ma 7) 72 don ++ wAr cI (ma 8) 96 tld ++ wAr cI (ma 9) 24 dep3 ++ wAr cI (ma 10) 24 bit_2)) C dX6_answers_15 10 0 rfl rfl e2 rfl ?_
        refine xi_aload_n C dX6_answers_16 rfl 0 rfl ?_
        refine xi_get C dX6_answers_17 iw_X6_answers_6 0 rfl rfl 15 (by decide) fl_X6_answers_42 rfl ?_
        refine xi_iload_n C dX6_answers_20 rfl 2 rfl ?_
        refine xi_iconst (v := 0) C dX6_answers_21 (by decide) ?_
        obtain ⟨bit5, e4, h⟩ := ob_i h
        refine xi_iast (w2 := (wMo o0 ma st ik le sp nu ++ wAr cI (ma 0) 1898 now ++ wAr cI (ma 1) 1898 thn ++ wAr cI (ma 2) 7592 pst ++ wAr cI (ma 3) 1898 snp ++ wAr cC (ma 4) 80 txt ++ wAr cI (ma 5) 48 hld ++ wAr cI (ma 6) 24 far ++ wAr cZ (ma 7) 72 don ++ wAr cI (ma 8) 96 tld ++ wAr cI (ma 9) 24 dep3 ++ wAr cI (ma 10) 24 bit5)) C dX6_answers_22 11 0 rfl rfl e4 rfl ?_
        refine xi_iinc (v := x2_2 + 1) (lv2 := [(0, .ref o0), (1, .int x1_2), (2, .int (x2_2 + 1))]) C dX6_answers_23 2 rfl (by rfl) (by decide) [0, 1] [1, 2, 0] rfl ?_
        refine xi_goto (tgt := 2) C dX6_answers_26 (by decide) ?_
        exact xb_lv (ih (x2_2 + 1) dep3 bit5 h hk) [0, 1, 2] rfl
  unfold f_X6_answers at h
  refine xi_iconst (v := 0) C dX6_answers_0 (by decide) ?_
  refine xi_istore_n (lv2 := [(0, .ref o0), (1, .int p1), (2, .int 0)]) C dX6_answers_1 rfl (by decide) [0, 1] [1, 2, 0] rfl ?_
  refine xb_lv (lp2 p1 _ xFu 0 dep bit h (fun depz6 bitz6 h => ?_)) [0, 1, 2] rfl
  refine xi_iconst (v := 1) C dX6_answers_29 (by decide) ?_
  refine xi_istore_n (lv2 := [(0, .ref o0), (1, .int p1), (2, .int 1)]) C dX6_answers_30 rfl (by decide) [0, 1] [1, 2, 0] rfl ?_
  refine xb_lv (lp31 p1 _ xFu 1 depz6 bitz6 h (fun depz27 bitz27 h => ?_)) [0, 1, 2] rfl
  have w0 := Option.some.inj h
  obtain ⟨q0, w1⟩ := Prod.mk.inj w0
  subst q0
  subst w1
  exact xi_ret C Z dX6_answers_113
