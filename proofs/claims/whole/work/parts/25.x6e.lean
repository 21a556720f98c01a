def f_X6_swapped_112 (x1_112 : Int32) (x2_112 : Int32) (k : (Nat → Int32) → Option (Int32 × (Nat → Int32) × (Nat → Int32) × (Nat → Int32) × (Nat → Int32))) : Nat → Int32 → (Nat → Int32) → Option (Int32 × (Nat → Int32) × (Nat → Int32) × (Nat → Int32) × (Nat → Int32))
  | 0, _, _ => none
  | n + 1, x3_112, thn_112 =>
    if 72 ≤ x3_112 then
      k thn_112
    else
      (xr_d thn_112 1898 (24 + x3_112)).bind fun v22 =>
      if v22 = x1_112 then
        (xr_w thn_112 1898 (24 + x3_112) x2_112).bind fun thn31 =>
        f_X6_swapped_112 x1_112 x2_112 k n (x3_112 + 1) thn31
      else
        if v22 = x2_112 then
          (xr_w thn_112 1898 (24 + x3_112) x1_112).bind fun thn29 =>
          f_X6_swapped_112 x1_112 x2_112 k n (x3_112 + 1) thn29
        else
          (xr_w thn_112 1898 (24 + x3_112) v22).bind fun thn27 =>
          f_X6_swapped_112 x1_112 x2_112 k n (x3_112 + 1) thn27
def f_X6_swapped_47 (now : Nat → Int32) (x1_47 : Int32) (x2_47 : Int32) (k : (Nat → Int32) → Option (Int32 × (Nat → Int32) × (Nat → Int32) × (Nat → Int32) × (Nat → Int32))) : Nat → Int32 → (Nat → Int32) → Option (Int32 × (Nat → Int32) × (Nat → Int32) × (Nat → Int32) × (Nat → Int32))
  | 0, _, _ => none
  | n + 1, x3_47, thn_47 =>
    if 3 ≤ x3_47 then
      k thn_47
    else
      (xr_d now 1898 ((24 + (3 * x2_47)) + x3_47)).bind fun v12 =>
      (xr_w thn_47 1898 ((24 + (3 * x1_47)) + x3_47) v12).bind fun thn15 =>
      (xr_d now 1898 ((24 + (3 * x1_47)) + x3_47)).bind fun v16 =>
      (xr_w thn15 1898 ((24 + (3 * x2_47)) + x3_47) v16).bind fun thn19 =>
      f_X6_swapped_47 now x1_47 x2_47 k n (x3_47 + 1) thn19
def f_X6_swapped (now : Nat → Int32) (thn : Nat → Int32) (hld : Nat → Int32) (far : Nat → Int32) (don : Nat → Int32) (p1 : Int32) (p2 : Int32) : Option (Int32 × (Nat → Int32) × (Nat → Int32) × (Nat → Int32) × (Nat → Int32)) :=
  (f_X6_lays 1898 1898 now thn 0 0).bind fun g1 =>
  (xr_d now 1898 (0 + p2)).bind fun v3 =>
  (xr_w g1 1898 (0 + p1) v3).bind fun thn6 =>
  (xr_d now 1898 (0 + p1)).bind fun v7 =>
  (xr_w thn6 1898 (0 + p2) v7).bind fun thn10 =>
  f_X6_swapped_47 now p1 p2 (fun thnz20 =>
    f_X6_swapped_112 p1 p2 (fun thnz32 =>
      (f_X6_laysAll hld far don thnz32 0).bind fun (v33, hld34, far35, don36, rr37) =>
      some (v33, rr37, hld34, far35, don36)) xFu 0 thnz20) xFu 0 thn10
theorem k_X6_swapped : xb_Y yX6_swapped cX6_swapped wsX6_swapped 5 (some .int) { frames := 6, cells := 0, slots := 0, locals := 140 } 2 := ⟨⟨_, rfl⟩, by decide, ⟨by decide, by decide, by decide +kernel⟩, rfl, rfl⟩
theorem fl_X6_swapped_7 : Cond.fieldLink RX6 7 "LookupBoardModel" "now" "[I" ∈ wsX6_swapped := List.mem_of_getElem? (i := 1) rfl
theorem fl_X6_swapped_13 : Cond.fieldLink RX6 13 "LookupBoardModel" "then" "[I" ∈ wsX6_swapped := List.mem_of_getElem? (i := 2) rfl
theorem iw_X6_swapped_6 : ∀ w ∈ wsX60, w ∈ wsX6_swapped := fun w h => List.mem_cons_of_mem _ (List.mem_append_right _ h)
set_option maxHeartbeats 4000000 in
set_option maxRecDepth 100000 in
theorem m_X6_swapped (D : va_G) (cI cC cZ cR : ClassId) (o0 : Nat) (ma : Nat → Nat) (st : Int32) (ik : Int32) (le : Int32) (sp : Int32) (nu : Int32) (now : Nat → Int32) (thn : Nat → Int32) (pst : Nat → Int32) (snp : Nat → Int32) (txt : Nat → Int32) (hld : Nat → Int32) (far : Nat → Int32) (don : Nat → Int32) (tld : Nat → Int32) (dep : Nat → Int32) (bit : Nat → Int32) (p1 : Int32) (p2 : Int32) (r : Int32) (thn' : Nat → Int32) (hld' : Nat → Int32) (far' : Nat → Int32) (don' : Nat → Int32) (h : f_X6_swapped now thn hld far don p1 p2 = some (r, thn', hld', far', don')) : xb_M cX6_swapped wsX6_swapped RX6 { frames := 6, cells := 0, slots := 0, locals := 140 } (some .int) 5 (xb_ty cI cC cZ cR) D [.ref o0, .int p1, .int p2] (wMo o0 ma st ik le sp nu ++ wAr cI (ma 0) 1898 now ++ wAr cI (ma 1) 1898 thn ++ wAr cI (ma 2) 7592 pst ++ wAr cI (ma 3) 1898 snp ++ wAr cC (ma 4) 80 txt ++ wAr cI (ma 5) 48 hld ++ wAr cI (ma 6) 24 far ++ wAr cZ (ma 7) 72 don ++ wAr cI (ma 8) 96 tld ++ wAr cI (ma 9) 24 dep ++ wAr cI (ma 10) 24 bit) (some (.int r)) (wMo o0 ma st ik le sp nu ++ wAr cI (ma 0) 1898 now ++ wAr cI (ma 1) 1898 thn' ++ wAr cI (ma 2) 7592 pst ++ wAr cI (ma 3) 1898 snp ++ wAr cC (ma 4) 80 txt ++ wAr cI (ma 5) 48 hld' ++ wAr cI (ma 6) 24 far' ++ wAr cZ (ma 7) 72 don' ++ wAr cI (ma 8) 96 tld ++ wAr cI (ma 9) 24 dep ++ wAr cI (ma 10) 24 bit) := by
  intro X C Z
  show xb_G X 0 0 (wMo o0 ma st ik le sp nu ++ wAr cI (ma 0) 1898 now ++ wAr cI (ma 1) 1898 thn ++ wAr cI (ma 2) 7592 pst ++ wAr cI (ma 3) 1898 snp ++ wAr cC (ma 4) 80 txt ++ wAr cI (ma 5) 48 hld ++ wAr cI (ma 6) 24 far ++ wAr cZ (ma 7) 72 don ++ wAr cI (ma 8) 96 tld ++ wAr cI (ma 9) 24 dep ++ wAr cI (ma 10) 24 bit) [(0, .ref o0), (1, .int p1), (2, .int p2)] 0 []
  have lp112 : ∀ (hld_112 : Nat → Int32) (far_112 : Nat → Int32) (don_112 : Nat → Int32) (x1_112 : Int32) (x2_112 : Int32) (k : (Nat → Int32) → Option (Int32 × (Nat → Int32) × (Nat → Int32) × (Nat → Int32) × (Nat → Int32))) (n : Nat) (x3_112 : Int32) (thn_112 : Nat → Int32), f_X6_swapped_112 x1_112 x2_112 k n x3_112 thn_112 = some (r, thn', hld', far', don') → (∀ (thn_112e : Nat → Int32), k thn_112e = some (r, thn', hld', far', don') → xb_G X 0 0 (wMo o0 ma st ik le sp nu ++ wAr cI (ma 0) 1898 now ++ wAr cI (ma 1) 1898 thn_112e ++ wAr cI (ma 2) 7592 pst ++ wAr cI (ma 3) 1898 snp ++ wAr cC (ma 4) 80 txt ++ wAr cI (ma 5) 48 hld_112 ++ wAr cI (ma 6) 24 far_112 ++ wAr cZ (ma 7) 72 don_112 ++ wAr cI (ma 8) 96 tld ++ wAr cI (ma 9) 24 dep ++ wAr cI (ma 10) 24 bit) [(0, .ref o0)] 166 []) → xb_G X 0 0 (wMo o0 ma st ik le sp nu ++ wAr cI (ma 0) 1898 now ++ wAr cI (ma 1) 1898 thn_112 ++ wAr cI (ma 2) 7592 pst ++ wAr cI (ma 3) 1898 snp ++ wAr cC (ma 4) 80 txt ++ wAr cI (ma 5) 48 hld_112 ++ wAr cI (ma 6) 24 far_112 ++ wAr cZ (ma 7) 72 don_112 ++ wAr cI (ma 8) 96 tld ++ wAr cI (ma 9) 24 dep ++ wAr cI (ma 10) 24 bit) [(0, .ref o0), (1, .int x1_112), (2, .int x2_112), (3, .int x3_112)] 112 [] := by
    intro hld_112 far_112 don_112 x1_112 x2_112 k n
    induction n with
    | zero => intro x3_112 thn_112 h hk; unfold f_X6_swapped_112 at h; cases h
    | succ n ih =>
      intro x3_112 thn_112 h hk
      unfold f_X6_swapped_112 at h
      refine xi_iload_n C dX6_swapped_112 rfl 3 rfl ?_
      refine xi_bipush (v := 72) C dX6_swapped_113 (by decide) ?_
      refine xi_icmp_ge (tgt := 166) C dX6_swapped_115 (by decide) (fun c21 => ?_) (fun c21 => ?_)
      · have h := it_i c21 h
        exact xb_lv (hk thn_112 h) [0] rfl
      · have h := ie_i c21 h
        refine xi_aload_n C dX6_swapped_118 rfl 0 rfl ?_
        refine xi_get C dX6_swapped_119 iw_X6_swapped_6 0 rfl rfl 1 (by decide) fl_X6_swapped_13 rfl ?_
        refine xi_bipush (v := 24) C dX6_swapped_122 (by decide) ?_
        refine xi_iload_n C dX6_swapped_124 rfl 3 rfl ?_
        refine xi_iadd C dX6_swapped_125 ?_
        obtain ⟨v22, e23, h⟩ := ob_i h
        refine xi_iald C dX6_swapped_126 2 0 rfl rfl e23 ?_
        refine xi_istore (lv2 := [(0, .ref o0), (1, .int x1_112), (2, .int x2_112), (3, .int x3_112), (4, .int v22)]) C dX6_swapped_127 (by decide) [0, 1, 2, 3] [1, 2, 3, 4, 0] rfl ?_
        refine xi_aload_n C dX6_swapped_129 rfl 0 rfl ?_
        refine xi_get C dX6_swapped_130 iw_X6_swapped_6 0 rfl rfl 1 (by decide) fl_X6_swapped_13 rfl ?_
        refine xi_bipush (v := 24) C dX6_swapped_133 (by decide) ?_
        refine xi_iload_n C dX6_swapped_135 rfl 3 rfl ?_
        refine xi_iadd C dX6_swapped_136 ?_
        refine xi_iload C dX6_swapped_137 4 rfl ?_
        refine xi_iload_n C dX6_swapped_139 rfl 1 rfl ?_
        refine xi_icmp_ne (tgt := 147) C dX6_swapped_140 (by decide) (fun c24 => ?_) (fun c24 => ?_)
        · have h := ie_i c24 h
          refine xi_iload C dX6_swapped_147 4 rfl ?_
          refine xi_iload_n C dX6_swapped_149 rfl 2 rfl ?_
          refine xi_icmp_ne (tgt := 157) C dX6_swapped_150 (by decide) (fun c25 => ?_) (fun c25 => ?_)
          · have h := ie_i c25 h
            refine xi_iload C dX6_swapped_157 4 rfl ?_
            obtain ⟨thn27, e26, h⟩ := ob_i h
            refine xi_iast (w2 := (wMo o0 ma st ik le sp nu ++ wAr cI (ma 0) 1898 now ++ wAr cI (ma 1) 1898 thn27 ++ wAr cI (ma 2) 7592 pst ++ wAr cI (ma 3) 1898 snp ++ wAr cC (ma 4) 80 txt ++ wAr cI (ma 5) 48 hld_112 ++ wAr cI (ma 6) 24 far_112 ++ wAr cZ (ma 7) 72 don_112 ++ wAr cI (ma 8) 96 tld ++ wAr cI (ma 9) 24 dep ++ wAr cI (ma 10) 24 bit)) C dX6_swapped_159 2 0 rfl rfl e26 rfl ?_
            refine xi_iinc (v := x3_112 + 1) (lv2 := [(0, .ref o0), (1, .int x1_112), (2, .int x2_112), (3, .int (x3_112 + 1)), (4, .int v22)]) C dX6_swapped_160 3 rfl (by rfl) (by decide) [0, 1, 2, 4] [1, 2, 3, 0, 4] rfl ?_
            refine xi_goto (tgt := 112) C dX6_swapped_163 (by decide) ?_
            exact xb_lv (ih (x3_112 + 1) thn27 h hk) [0, 1, 2, 3] rfl
          · have h := it_i c25 h
            refine xi_iload_n C dX6_swapped_153 rfl 1 rfl ?_
            refine xi_goto (tgt := 159) C dX6_swapped_154 (by decide) ?_
            obtain ⟨thn29, e28, h⟩ := ob_i h
            refine xi_iast (w2 := (wMo o0 ma st ik le sp nu ++ wAr cI (ma 0) 1898 now ++ wAr cI (ma 1) 1898 thn29 ++ wAr cI (ma 2) 7592 pst ++ wAr cI (ma 3) 1898 snp ++ wAr cC (ma 4) 80 txt ++ wAr cI (ma 5) 48 hld_112 ++ wAr cI (ma 6) 24 far_112 ++ wAr cZ (ma 7) 72 don_112 ++ wAr cI (ma 8) 96 tld ++ wAr cI (ma 9) 24 dep ++ wAr cI (ma 10) 24 bit)) C dX6_swapped_159 2 0 rfl rfl e28 rfl ?_
            refine xi_iinc (v := x3_112 + 1) (lv2 := [(0, .ref o0), (1, .int x1_112), (2, .int x2_112), (3, .int (x3_112 + 1)), (4, .int v22)]) C dX6_swapped_160 3 rfl (by rfl) (by decide) [0, 1, 2, 4] [1, 2, 3, 0, 4] rfl ?_
            refine xi_goto (tgt := 112) C dX6_swapped_163 (by decide) ?_
            exact xb_lv (ih (x3_112 + 1) thn29 h hk) [0, 1, 2, 3] rfl
        · have h := it_i c24 h
          refine xi_iload_n C dX6_swapped_143 rfl 2 rfl ?_
          refine xi_goto (tgt := 159) C dX6_swapped_144 (by decide) ?_
          obtain ⟨thn31, e30, h⟩ := ob_i h
          refine xi_iast (w2 := (wMo o0 ma st ik le sp nu ++ wAr cI (ma 0) 1898 now ++ wAr cI (ma 1) 1898 thn31 ++ wAr cI (ma 2) 7592 pst ++ wAr cI (ma 3) 1898 snp ++ wAr cC (ma 4) 80 txt ++ wAr cI (ma 5) 48 hld_112 ++ wAr cI (ma 6) 24 far_112 ++ wAr cZ (ma 7) 72 don_112 ++ wAr cI (ma 8) 96 tld ++ wAr cI (ma 9) 24 dep ++ wAr cI (ma 10) 24 bit)) C dX6_swapped_159 2 0 rfl rfl e30 rfl ?_
          refine xi_iinc (v := x3_112 + 1) (lv2 := [(0, .ref o0), (1, .int x1_112), (2, .int x2_112), (3, .int (x3_112 + 1)), (4, .int v22)]) C dX6_swapped_160 3 rfl (by rfl) (by decide) [0, 1, 2, 4] [1, 2, 3, 0, 4] rfl ?_
          refine xi_goto (tgt := 112) C dX6_swapped_163 (by decide) ?_
          exact xb_lv (ih (x3_112 + 1) thn31 h hk) [0, 1, 2, 3] rfl
  have lp47 : ∀ (hld_47 : Nat → Int32) (far_47 : Nat → Int32) (don_47 : Nat → Int32) (x1_47 : Int32) (x2_47 : Int32) (k : (Nat → Int32) → Option (Int32 × (Nat → Int32) × (Nat → Int32) × (Nat → Int32) × (Nat → Int32))) (n : Nat) (x3_47 : Int32) (thn_47 : Nat → Int32), f_X6_swapped_47 now x1_47 x2_47 k n x3_47 thn_47 = some (r, thn', hld', far', don') → (∀ (thn_47e : Nat → Int32), k thn_47e = some (r, thn', hld', far', don') → xb_G X 0 0 (wMo o0 ma st ik le sp nu ++ wAr cI (ma 0) 1898 now ++ wAr cI (ma 1) 1898 thn_47e ++ wAr cI (ma 2) 7592 pst ++ wAr cI (ma 3) 1898 snp ++ wAr cC (ma 4) 80 txt ++ wAr cI (ma 5) 48 hld_47 ++ wAr cI (ma 6) 24 far_47 ++ wAr cZ (ma 7) 72 don_47 ++ wAr cI (ma 8) 96 tld ++ wAr cI (ma 9) 24 dep ++ wAr cI (ma 10) 24 bit) [(0, .ref o0), (1, .int x1_47), (2, .int x2_47)] 110 []) → xb_G X 0 0 (wMo o0 ma st ik le sp nu ++ wAr cI (ma 0) 1898 now ++ wAr cI (ma 1) 1898 thn_47 ++ wAr cI (ma 2) 7592 pst ++ wAr cI (ma 3) 1898 snp ++ wAr cC (ma 4) 80 txt ++ wAr cI (ma 5) 48 hld_47 ++ wAr cI (ma 6) 24 far_47 ++ wAr cZ (ma 7) 72 don_47 ++ wAr cI (ma 8) 96 tld ++ wAr cI (ma 9) 24 dep ++ wAr cI (ma 10) 24 bit) [(0, .ref o0), (1, .int x1_47), (2, .int x2_47), (3, .int x3_47)] 47 [] := by
    intro hld_47 far_47 don_47 x1_47 x2_47 k n
    induction n with
    | zero => intro x3_47 thn_47 h hk; unfold f_X6_swapped_47 at h; cases h
    | succ n ih =>
      intro x3_47 thn_47 h hk
      unfold f_X6_swapped_47 at h
      refine xi_iload_n C dX6_swapped_47 rfl 3 rfl ?_
      refine xi_iconst (v := 3) C dX6_swapped_48 (by decide) ?_
      refine xi_icmp_ge (tgt := 110) C dX6_swapped_49 (by decide) (fun c11 => ?_) (fun c11 => ?_)
      · have h := it_i c11 h
        exact xb_lv (hk thn_47 h) [0, 1, 2] rfl
      · have h := ie_i c11 h
        refine xi_aload_n C dX6_swapped_52 rfl 0 rfl ?_
        refine xi_get C dX6_swapped_53 iw_X6_swapped_6 0 rfl rfl 1 (by decide) fl_X6_swapped_13 rfl ?_
        refine xi_bipush (v := 24) C dX6_swapped_56 (by decide) ?_
        refine xi_iconst (v := 3) C dX6_swapped_58 (by decide) ?_
        refine xi_iload_n C dX6_swapped_59 rfl 1 rfl ?_
        refine xi_imul C dX6_swapped_60 ?_
        refine xi_iadd C dX6_swapped_61 ?_
        refine xi_iload_n C dX6_swapped_62 rfl 3 rfl ?_
        refine xi_iadd C dX6_swapped_63 ?_
        refine xi_aload_n C dX6_swapped_64 rfl 0 rfl ?_
        refine xi_get C dX6_swapped_65 iw_X6_swapped_6 0 rfl rfl 0 (by decide) fl_X6_swapped_7 rfl ?_
        refine xi_bipush (v := 24) C dX6_swapped_68 (by decide) ?_
        refine xi_iconst (v := 3) C dX6_swapped_70 (by decide) ?_
        refine xi_iload_n C dX6_swapped_71 rfl 2 rfl ?_
        refine xi_imul C dX6_swapped_72 ?_
        refine xi_iadd C dX6_swapped_73 ?_
        refine xi_iload_n C dX6_swapped_74 rfl 3 rfl ?_
        refine xi_iadd C dX6_swapped_75 ?_
        obtain ⟨v12, e13, h⟩ := ob_i h
        refine xi_iald C dX6_swapped_76 1 0 rfl rfl e13 ?_
        obtain ⟨thn15, e14, h⟩ := ob_i h
        refine xi_iast (w2 := (wMo o0 ma st ik le sp nu ++ wAr cI (ma 0) 1898 now ++ wAr cI (ma 1) 1898 thn15 ++ wAr cI (ma 2) 7592 pst ++ wAr cI (ma 3) 1898 snp ++ wAr cC (ma 4) 80 txt ++ wAr cI (ma 5) 48 hld_47 ++ wAr cI (ma 6) 24 far_47 ++ wAr cZ (ma 7) 72 don_47 ++ wAr cI (ma 8) 96 tld ++ wAr cI (ma 9) 24 dep ++ wAr cI (ma 10) 24 bit)) C dX6_swapped_77 2 0 rfl rfl e14 rfl ?_
        refine xi_aload_n C dX6_swapped_78 rfl 0 rfl ?_
        refine xi_get C dX6_swapped_79 iw_X6_swapped_6 0 rfl rfl 1 (by decide) fl_X6_swapped_13 rfl ?_
        refine xi_bipush (v := 24) C dX6_swapped_82 (by decide) ?_
        refine xi_iconst (v := 3) C dX6_swapped_84 (by decide) ?_
        refine xi_iload_n C dX6_swapped_85 rfl 2 rfl ?_
        refine xi_imul C dX6_swapped_86 ?_
        refine xi_iadd C dX6_swapped_87 ?_
        refine xi_iload_n C dX6_swapped_88 rfl 3 rfl ?_
        refine xi_iadd C dX6_swapped_89 ?_
        refine xi_aload_n C dX6_swapped_90 rfl 0 rfl ?_
        refine xi_get C dX6_swapped_91 iw_X6_swapped_6 0 rfl rfl 0 (by decide) fl_X6_swapped_7 rfl ?_
        refine xi_bipush (v := 24) C dX6_swapped_94 (by decide) ?_
        refine xi_iconst (v := 3) C dX6_swapped_96 (by decide) ?_
        refine xi_iload_n C dX6_swapped_97 rfl 1 rfl ?_
        refine xi_imul C dX6_swapped_98 ?_
        refine xi_iadd C dX6_swapped_99 ?_
        refine xi_iload_n C dX6_swapped_100 rfl 3 rfl ?_
        refine xi_iadd C dX6_swapped_101 ?_
        obtain ⟨v16, e17, h⟩ := ob_i h
        refine xi_iald C dX6_swapped_102 1 0 rfl rfl e17 ?_
        obtain ⟨thn19, e18, h⟩ := ob_i h
        refine xi_iast (w2 := (wMo o0 ma st ik le sp nu ++ wAr cI (ma 0) 1898 now ++ wAr cI (ma 1) 1898 thn19 ++ wAr cI (ma 2) 7592 pst ++ wAr cI (ma 3) 1898 snp ++ wAr cC (ma 4) 80 txt ++ wAr cI (ma 5) 48 hld_47 ++ wAr cI (ma 6) 24 far_47 ++ wAr cZ (ma 7) 72 don_47 ++ wAr cI (ma 8) 96 tld ++ wAr cI (ma 9) 24 dep ++ wAr cI (ma 10) 24 bit)) C dX6_swapped_103 2 0 rfl rfl e18 rfl ?_
        refine xi_iinc (v := x3_47 + 1) (lv2 := [(0, .ref o0), (1, .int x1_47), (2, .int x2_47), (3, .int (x3_47 + 1))]) C dX6_swapped_104 3 rfl (by rfl) (by decide) [0, 1, 2] [1, 2, 3, 0] rfl ?_
        refine xi_goto (tgt := 47) C dX6_swapped_107 (by decide) ?_
        exact xb_lv (ih (x3_47 + 1) thn19 h hk) [0, 1, 2, 3] rfl
  unfold f_X6_swapped at h
  refine xi_aload_n C dX6_swapped_0 rfl 0 rfl ?_
  refine xi_get C dX6_swapped_1 iw_X6_swapped_6 0 rfl rfl 0 (by decide) fl_X6_swapped_7 rfl ?_
  refine xi_iconst (v := 0) C dX6_swapped_4 (by decide) ?_
  refine xi_aload_n C dX6_swapped_5 rfl 0 rfl ?_
  refine xi_get C dX6_swapped_6 iw_X6_swapped_6 0 rfl rfl 1 (by decide) fl_X6_swapped_13 rfl ?_
  refine xi_iconst (v := 0) C dX6_swapped_9 (by decide) ?_
  obtain ⟨g1, e2, h⟩ := ob_i h
  refine xi_callS (As := [.ref (ma 0), .int 0, .ref (ma 1), .int 0]) (o := none) (rest := []) (w2 := (wMo o0 ma st ik le sp nu ++ wAr cI (ma 0) 1898 now ++ wAr cI (ma 1) 1898 g1 ++ wAr cI (ma 2) 7592 pst ++ wAr cI (ma 3) 1898 snp ++ wAr cC (ma 4) 80 txt ++ wAr cI (ma 5) 48 hld ++ wAr cI (ma 6) 24 far ++ wAr cZ (ma 7) 72 don ++ wAr cI (ma 8) 96 tld ++ wAr cI (ma 9) 24 dep ++ wAr cI (ma 10) 24 bit)) (st2 := []) C k_X6_lays (m_X6_lays D cI cC cZ cR 1898 1898 (ma 0) (ma 1) now thn 0 0 g1 e2) gX6_swapped_X6_lays dX6_swapped_10 ⟨Nat.le_of_ble_eq_true rfl, Nat.le_of_ble_eq_true rfl, Nat.le_of_ble_eq_true rfl⟩ [1, 2] mxC_X6_1_2 rfl [0, 1, 2, 3] rfl mxF_X6_1_2 mxM_X6_1_2 rfl (Nat.le_of_ble_eq_true rfl) ⟨Nat.zero_le _, Nat.zero_le _⟩ rfl ?_
  refine xi_aload_n C dX6_swapped_13 rfl 0 rfl ?_
  refine xi_get C dX6_swapped_14 iw_X6_swapped_6 0 rfl rfl 1 (by decide) fl_X6_swapped_13 rfl ?_
  refine xi_iconst (v := 0) C dX6_swapped_17 (by decide) ?_
  refine xi_iload_n C dX6_swapped_18 rfl 1 rfl ?_
  refine xi_iadd C dX6_swapped_19 ?_
  refine xi_aload_n C dX6_swapped_20 rfl 0 rfl ?_
  refine xi_get C dX6_swapped_21 iw_X6_swapped_6 0 rfl rfl 0 (by decide) fl_X6_swapped_7 rfl ?_
  refine xi_iconst (v := 0) C dX6_swapped_24 (by decide) ?_
  refine xi_iload_n C dX6_swapped_25 rfl 2 rfl ?_
  refine xi_iadd C dX6_swapped_26 ?_
  obtain ⟨v3, e4, h⟩ := ob_i h
  refine xi_iald C dX6_swapped_27 1 0 rfl rfl e4 ?_
  obtain ⟨thn6, e5, h⟩ := ob_i h
  refine xi_iast (w2 := (wMo o0 ma st ik le sp nu ++ wAr cI (ma 0) 1898 now ++ wAr cI (ma 1) 1898 thn6 ++ wAr cI (ma 2) 7592 pst ++ wAr cI (ma 3) 1898 snp ++ wAr cC (ma 4) 80 txt ++ wAr cI (ma 5) 48 hld ++ wAr cI (ma 6) 24 far ++ wAr cZ (ma 7) 72 don ++ wAr cI (ma 8) 96 tld ++ wAr cI (ma 9) 24 dep ++ wAr cI (ma 10) 24 bit)) C dX6_swapped_28 2 0 rfl rfl e5 rfl ?_
  refine xi_aload_n C dX6_swapped_29 rfl 0 rfl ?_
  refine xi_get C dX6_swapped_30 iw_X6_swapped_6 0 rfl rfl 1 (by decide) fl_X6_swapped_13 rfl ?_
  refine xi_iconst (v := 0) C dX6_swapped_33 (by decide) ?_
  refine xi_iload_n C dX6_swapped_34 rfl 2 rfl ?_
  refine xi_iadd C dX6_swapped_35 ?_
  refine xi_aload_n C dX6_swapped_36 rfl 0 rfl ?_
  refine xi_get C dX6_swapped_37 iw_X6_swapped_6 0 rfl rfl 0 (by decide) fl_X6_swapped_7 rfl ?_
  refine xi_iconst (v := 0) C dX6_swapped_40 (by decide) ?_
  refine xi_iload_n C dX6_swapped_41 rfl 1 rfl ?_
  refine xi_iadd C dX6_swapped_42 ?_
  obtain ⟨v7, e8, h⟩ := ob_i h
  refine xi_iald C dX6_swapped_43 1 0 rfl rfl e8 ?_
  obtain ⟨thn10, e9, h⟩ := ob_i h
  refine xi_iast (w2 := (wMo o0 ma st ik le sp nu ++ wAr cI (ma 0) 1898 now ++ wAr cI (ma 1) 1898 thn10 ++ wAr cI (ma 2) 7592 pst ++ wAr cI (ma 3) 1898 snp ++ wAr cC (ma 4) 80 txt ++ wAr cI (ma 5) 48 hld ++ wAr cI (ma 6) 24 far ++ wAr cZ (ma 7) 72 don ++ wAr cI (ma 8) 96 tld ++ wAr cI (ma 9) 24 dep ++ wAr cI (ma 10) 24 bit)) C dX6_swapped_44 2 0 rfl rfl e9 rfl ?_
  refine xi_iconst (v := 0) C dX6_swapped_45 (by decide) ?_
  refine xi_istore_n (lv2 := [(0, .ref o0), (1, .int p1), (2, .int p2), (3, .int 0)]) C dX6_swapped_46 rfl (by decide) [0, 1, 2] [1, 2, 3, 0] rfl ?_
  refine xb_lv (lp47 hld far don p1 p2 _ xFu 0 thn10 h (fun thnz20 h => ?_)) [0, 1, 2, 3] rfl
  refine xi_iconst (v := 0) C dX6_swapped_110 (by decide) ?_
  refine xi_istore_n (lv2 := [(0, .ref o0), (1, .int p1), (2, .int p2), (3, .int 0)]) C dX6_swapped_111 rfl (by decide) [0, 1, 2] [1, 2, 3, 0] rfl ?_
  refine xb_lv (lp112 hld far don p1 p2 _ xFu 0 thnz20 h (fun thnz32 h => ?_)) [0, 1, 2, 3] rfl
  refine xi_aload_n C dX6_swapped_166 rfl 0 rfl ?_
  refine xi_aload_n C dX6_swapped_167 rfl 0 rfl ?_
  refine xi_get C dX6_swapped_168 iw_X6_swapped_6 0 rfl rfl 1 (by decide) fl_X6_swapped_13 rfl ?_
  refine xi_iconst (v := 0) C dX6_swapped_171 (by decide) ?_
  obtain ⟨⟨v33, hld34, far35, don36, rr37⟩, e38, h⟩ := ob_i h
  refine xi_callV (As := [.ref (ma 1), .int 0]) (o := some (.int v33)) (rest := []) (w2 := (wMo o0 ma st ik le sp nu ++ wAr cI (ma 0) 1898 now ++ wAr cI (ma 1) 1898 rr37 ++ wAr cI (ma 2) 7592 pst ++ wAr cI (ma 3) 1898 snp ++ wAr cC (ma 4) 80 txt ++ wAr cI (ma 5) 48 hld34 ++ wAr cI (ma 6) 24 far35 ++ wAr cZ (ma 7) 72 don36 ++ wAr cI (ma 8) 96 tld ++ wAr cI (ma 9) 24 dep ++ wAr cI (ma 10) 24 bit)) (st2 := [.int v33]) C k_X6_laysAll (m_X6_laysAll D cI cC cZ cR o0 ma (ma 1) st ik le sp nu hld far don thnz32 0 v33 hld34 far35 don36 rr37 e38) gX6_swapped_X6_laysAll dX6_swapped_172 ⟨Nat.le_of_ble_eq_true rfl, Nat.le_of_ble_eq_true rfl, Nat.le_of_ble_eq_true rfl⟩ 0 rfl rfl [0, 6, 7, 8, 2] mxC_X6_0_6_7_8_2 rfl [0, 1, 2, 3] rfl mxF_X6_0_6_7_8_2 mxM_X6_0_6_7_8_2 rfl (Nat.le_of_ble_eq_true rfl) ⟨Nat.zero_le _, Nat.zero_le _⟩ rfl ?_
  have w0 := Option.some.inj h
  obtain ⟨q0, w1⟩ := Prod.mk.inj w0
  obtain ⟨q1, w2⟩ := Prod.mk.inj w1
  obtain ⟨q2, w3⟩ := Prod.mk.inj w2
  obtain ⟨q3, w4⟩ := Prod.mk.inj w3
  subst q0
  subst q1
  subst q2
  subst q3
  subst w4
  exact xi_iret C Z dX6_swapped_175
def f_X6_accepts (st : Int32) (now : Nat → Int32) (thn : Nat → Int32) (pst : Nat → Int32) (p1 : Int32) : Option (Int32 × Int32 × (Nat → Int32) × (Nat → Int32)) :=
  if p1 < 0 then
    some (p1, st, now, pst)
  else
    (f_X6_records st now pst).bind fun (st2, pst3) =>
    (f_X6_lays 1898 1898 thn now 0 0).bind fun g5 =>
    some (p1, st2, g5, pst3)
theorem k_X6_accepts : xb_Y yX6_accepts cX6_accepts wsX6_accepts 2 (some .int) { frames := 2, cells := 0, slots := 0, locals := 45 } 1 := ⟨⟨_, rfl⟩, by decide, ⟨by decide, by decide, by decide +kernel⟩, rfl, rfl⟩
theorem fl_X6_accepts_7 : Cond.fieldLink RX6 7 "LookupBoardModel" "now" "[I" ∈ wsX6_accepts := List.mem_of_getElem? (i := 2) rfl
theorem fl_X6_accepts_13 : Cond.fieldLink RX6 13 "LookupBoardModel" "then" "[I" ∈ wsX6_accepts := List.mem_of_getElem? (i := 1) rfl
theorem iw_X6_accepts_6 : ∀ w ∈ wsX60, w ∈ wsX6_accepts := fun w h => List.mem_cons_of_mem _ (List.mem_append_right _ h)
set_option maxHeartbeats 4000000 in
set_option maxRecDepth 100000 in
theorem m_X6_accepts (D : va_G) (cI cC cZ cR : ClassId) (o0 : Nat) (ma : Nat → Nat) (st : Int32) (ik : Int32) (le : Int32) (sp : Int32) (nu : Int32) (now : Nat → Int32) (thn : Nat → Int32) (pst : Nat → Int32) (snp : Nat → Int32) (txt : Nat → Int32) (hld : Nat → Int32) (far : Nat → Int32) (don : Nat → Int32) (tld : Nat → Int32) (dep : Nat → Int32) (bit : Nat → Int32) (p1 : Int32) (r : Int32) (st' : Int32) (now' : Nat → Int32) (pst' : Nat → Int32) (h : f_X6_accepts st now thn pst p1 = some (r, st', now', pst')) : xb_M cX6_accepts wsX6_accepts RX6 { frames := 2, cells := 0, slots := 0, locals := 45 } (some .int) 2 (xb_ty cI cC cZ cR) D [.ref o0, .int p1] (wMo o0 ma st ik le sp nu ++ wAr cI (ma 0) 1898 now ++ wAr cI (ma 1) 1898 thn ++ wAr cI (ma 2) 7592 pst ++ wAr cI (ma 3) 1898 snp ++ wAr cC (ma 4) 80 txt ++ wAr cI (ma 5) 48 hld ++ wAr cI (ma 6) 24 far ++ wAr cZ (ma 7) 72 don ++ wAr cI (ma 8) 96 tld ++ wAr cI (ma 9) 24 dep ++ wAr cI (ma 10) 24 bit) (some (.int r)) (wMo o0 ma st' ik le sp nu ++ wAr cI (ma 0) 1898 now' ++ wAr cI (ma 1) 1898 thn ++ wAr cI (ma 2) 7592 pst' ++ wAr cI (ma 3) 1898 snp ++ wAr cC (ma 4) 80 txt ++ wAr cI (ma 5) 48 hld ++ wAr cI (ma 6) 24 far ++ wAr cZ (ma 7) 72 don ++ wAr cI (ma 8) 96 tld ++ wAr cI (ma 9) 24 dep ++ wAr cI (ma 10) 24 bit) := by
  intro X C Z
  show xb_G X 0 0 (wMo o0 ma st ik le sp nu ++ wAr cI (ma 0) 1898 now ++ wAr cI (ma 1) 1898 thn ++ wAr cI (ma 2) 7592 pst ++ wAr cI (ma 3) 1898 snp ++ wAr cC (ma 4) 80 txt ++ wAr cI (ma 5) 48 hld ++ wAr cI (ma 6) 24 far ++ wAr cZ (ma 7) 72 don ++ wAr cI (ma 8) 96 tld ++ wAr cI (ma 9) 24 dep ++ wAr cI (ma 10) 24 bit) [(0, .ref o0), (1, .int p1)] 0 []
  unfold f_X6_accepts at h
  refine xi_iload_n C dX6_accepts_0 rfl 1 rfl ?_
  refine xi_if_lt (tgt := 21) C dX6_accepts_1 (by decide) (fun c1 => ?_) (fun c1 => ?_)
  · have h := it_i c1 h
    refine xi_iload_n C dX6_accepts_21 rfl 1 rfl ?_
    have w0 := Option.some.inj h
    obtain ⟨q0, w1⟩ := Prod.mk.inj w0
    obtain ⟨q1, w2⟩ := Prod.mk.inj w1
    obtain ⟨q2, w3⟩ := Prod.mk.inj w2
    subst q0
    subst q1
    subst q2
    subst w3
    exact xi_iret C Z dX6_accepts_22
  · have h := ie_i c1 h
    refine xi_aload_n C dX6_accepts_4 rfl 0 rfl ?_
    obtain ⟨⟨st2, pst3⟩, e4, h⟩ := ob_i h
    refine xi_callV (As := []) (o := none) (rest := []) (w2 := (wMo o0 ma st2 ik le sp nu ++ wAr cI (ma 0) 1898 now ++ wAr cI (ma 1) 1898 thn ++ wAr cI (ma 2) 7592 pst3 ++ wAr cI (ma 3) 1898 snp ++ wAr cC (ma 4) 80 txt ++ wAr cI (ma 5) 48 hld ++ wAr cI (ma 6) 24 far ++ wAr cZ (ma 7) 72 don ++ wAr cI (ma 8) 96 tld ++ wAr cI (ma 9) 24 dep ++ wAr cI (ma 10) 24 bit)) (st2 := []) C k_X6_records (m_X6_records D cI cC cZ cR o0 ma st ik le sp nu now thn pst snp txt hld far don tld dep bit st2 pst3 e4) gX6_accepts_X6_records dX6_accepts_5 ⟨Nat.le_of_ble_eq_true rfl, Nat.le_of_ble_eq_true rfl, Nat.le_of_ble_eq_true rfl⟩ 0 rfl rfl [0, 1, 2, 3, 4, 5, 6, 7, 8, 9, 10, 11] mxC_X6_0_1_2_3_4_5_6_7_8_9_10_11 rfl [0, 1, 2, 3] rfl mxF_X6_0_1_2_3_4_5_6_7_8_9_10_11 mxM_X6_0_1_2_3_4_5_6_7_8_9_10_11 rfl (Nat.le_of_ble_eq_true rfl) ⟨Nat.zero_le _, Nat.zero_le _⟩ rfl ?_
    refine xi_aload_n C dX6_accepts_8 rfl 0 rfl ?_
    refine xi_get C dX6_accepts_9 iw_X6_accepts_6 0 rfl rfl 1 (by decide) fl_X6_accepts_13 rfl ?_
    refine xi_iconst (v := 0) C dX6_accepts_12 (by decide) ?_
    refine xi_aload_n C dX6_accepts_13 rfl 0 rfl ?_
    refine xi_get C dX6_accepts_14 iw_X6_accepts_6 0 rfl rfl 0 (by decide) fl_X6_accepts_7 rfl ?_
    refine xi_iconst (v := 0) C dX6_accepts_17 (by decide) ?_
    obtain ⟨g5, e6, h⟩ := ob_i h
    refine xi_callS (As := [.ref (ma 1), .int 0, .ref (ma 0), .int 0]) (o := none) (rest := []) (w2 := (wMo o0 ma st2 ik le sp nu ++ wAr cI (ma 0) 1898 g5 ++ wAr cI (ma 1) 1898 thn ++ wAr cI (ma 2) 7592 pst3 ++ wAr cI (ma 3) 1898 snp ++ wAr cC (ma 4) 80 txt ++ wAr cI (ma 5) 48 hld ++ wAr cI (ma 6) 24 far ++ wAr cZ (ma 7) 72 don ++ wAr cI (ma 8) 96 tld ++ wAr cI (ma 9) 24 dep ++ wAr cI (ma 10) 24 bit)) (st2 := []) C k_X6_lays (m_X6_lays D cI cC cZ cR 1898 1898 (ma 1) (ma 0) thn now 0 0 g5 e6) gX6_accepts_X6_lays dX6_accepts_18 ⟨Nat.le_of_ble_eq_true rfl, Nat.le_of_ble_eq_true rfl, Nat.le_of_ble_eq_true rfl⟩ [2, 1] mxC_X6_2_1 rfl [0, 1, 2, 3] rfl mxF_X6_2_1 mxM_X6_2_1 rfl (Nat.le_of_ble_eq_true rfl) ⟨Nat.zero_le _, Nat.zero_le _⟩ rfl ?_
    refine xi_iload_n C dX6_accepts_21 rfl 1 rfl ?_
    have w0 := Option.some.inj h
    obtain ⟨q0, w1⟩ := Prod.mk.inj w0
    obtain ⟨q1, w2⟩ := Prod.mk.inj w1
    obtain ⟨q2, w3⟩ := Prod.mk.inj w2
    subst q0
    subst q1
    subst q2
    subst w3
    exact xi_iret C Z dX6_accepts_22
def f_X6_swap (st : Int32) (now : Nat → Int32) (thn : Nat → Int32) (pst : Nat → Int32) (hld : Nat → Int32) (far : Nat → Int32) (don : Nat → Int32) (p1 : Int32) (p2 : Int32) : Option (Int32 × Int32 × (Nat → Int32) × (Nat → Int32) × (Nat → Int32) × (Nat → Int32) × (Nat → Int32) × (Nat → Int32)) :=
  (f_X6_isPlace p1).bind fun v1 =>
  if v1 = 0 then
    some ((-1), st, now, thn, pst, hld, far, don)
  else
    (f_X6_isPlace p2).bind fun v4 =>
    if v4 = 0 then
      some ((-1), st, now, thn, pst, hld, far, don)
    else
      (f_X6_isChange now p1 p2).bind fun v7 =>
      if v7 = 0 then
        some ((-5), st, now, thn, pst, hld, far, don)
      else
        (f_X6_swapped now thn hld far don p1 p2).bind fun (v10, thn11, hld12, far13, don14) =>
        (f_X6_accepts st now thn11 pst v10).bind fun (v16, st17, now18, pst19) =>
        some (v16, st17, now18, thn11, pst19, hld12, far13, don14)
theorem k_X6_swap : xb_Y yX6_swap cX6_swap wsX6_swap 3 (some .int) { frames := 7, cells := 0, slots := 0, locals := 164 } 2 := ⟨⟨_, rfl⟩, by decide, ⟨by decide, by decide, by decide +kernel⟩, rfl, rfl⟩
theorem fl_X6_swap_7 : Cond.fieldLink RX6 7 "LookupBoardModel" "now" "[I" ∈ wsX6_swap := List.mem_of_getElem? (i := 1) rfl
theorem iw_X6_swap_6 : ∀ w ∈ wsX60, w ∈ wsX6_swap := fun w h => List.mem_cons_of_mem _ (List.mem_append_right _ h)
set_option maxHeartbeats 4000000 in
set_option maxRecDepth 100000 in
theorem m_X6_swap (D : va_G) (cI cC cZ cR : ClassId) (o0 : Nat) (ma : Nat → Nat) (st : Int32) (ik : Int32) (le : Int32) (sp : Int32) (nu : Int32) (now : Nat → Int32) (thn : Nat → Int32) (pst : Nat → Int32) (snp : Nat → Int32) (txt : Nat → Int32) (hld : Nat → Int32) (far : Nat → Int32) (don : Nat → Int32) (tld : Nat → Int32) (dep : Nat → Int32) (bit : Nat → Int32) (p1 : Int32) (p2 : Int32) (r : Int32) (st' : Int32) (now' : Nat → Int32) (thn' : Nat → Int32) (pst' : Nat → Int32) (hld' : Nat → Int32) (far' : Nat → Int32) (don' : Nat → Int32) (h : f_X6_swap st now thn pst hld far don p1 p2 = some (r, st', now', thn', pst', hld', far', don')) : xb_M cX6_swap wsX6_swap RX6 { frames := 7, cells := 0, slots := 0, locals := 164 } (some .int) 3 (xb_ty cI cC cZ cR) D [.ref o0, .int p1, .int p2] (wMo o0 ma st ik le sp nu ++ wAr cI (ma 0) 1898 now ++ wAr cI (ma 1) 1898 thn ++ wAr cI (ma 2) 7592 pst ++ wAr cI (ma 3) 1898 snp ++ wAr cC (ma 4) 80 txt ++ wAr cI (ma 5) 48 hld ++ wAr cI (ma 6) 24 far ++ wAr cZ (ma 7) 72 don ++ wAr cI (ma 8) 96 tld ++ wAr cI (ma 9) 24 dep ++ wAr cI (ma 10) 24 bit) (some (.int r)) (wMo o0 ma st' ik le sp nu ++ wAr cI (ma 0) 1898 now' ++ wAr cI (ma 1) 1898 thn' ++ wAr cI (ma 2) 7592 pst' ++ wAr cI (ma 3) 1898 snp ++ wAr cC (ma 4) 80 txt ++ wAr cI (ma 5) 48 hld' ++ wAr cI (ma 6) 24 far' ++ wAr cZ (ma 7) 72 don' ++ wAr cI (ma 8) 96 tld ++ wAr cI (ma 9) 24 dep ++ wAr cI (ma 10) 24 bit) := by
  intro X C Z
  show xb_G X 0 0 (wMo o0 ma st ik le sp nu ++ wAr cI (ma 0) 1898 now ++ wAr cI (ma 1) 1898 thn ++ wAr cI (ma 2) 7592 pst ++ wAr cI (ma 3) 1898 snp ++ wAr cC (ma 4) 80 txt ++ wAr cI (ma 5) 48 hld ++ wAr cI (ma 6) 24 far ++ wAr cZ (ma 7) 72 don ++ wAr cI (ma 8) 96 tld ++ wAr cI (ma 9) 24 dep ++ wAr cI (ma 10) 24 bit) [(0, .ref o0), (1, .int p1), (2, .int p2)] 0 []
  unfold f_X6_swap at h
  refine xi_iload_n C dX6_swap_0 rfl 1 rfl ?_
  obtain ⟨v1, e2, h⟩ := ob_i h
  refine xi_callS (As := [.int p1]) (o := some (.int v1)) (rest := []) (w2 := (wMo o0 ma st ik le sp nu ++ wAr cI (ma 0) 1898 now ++ wAr cI (ma 1) 1898 thn ++ wAr cI (ma 2) 7592 pst ++ wAr cI (ma 3) 1898 snp ++ wAr cC (ma 4) 80 txt ++ wAr cI (ma 5) 48 hld ++ wAr cI (ma 6) 24 far ++ wAr cZ (ma 7) 72 don ++ wAr cI (ma 8) 96 tld ++ wAr cI (ma 9) 24 dep ++ wAr cI (ma 10) 24 bit)) (st2 := [.int v1]) C k_X6_isPlace (m_X6_isPlace D cI cC cZ cR p1 v1 e2) gX6_swap_X6_isPlace dX6_swap_1 ⟨Nat.le_of_ble_eq_true rfl, Nat.le_of_ble_eq_true rfl, Nat.le_of_ble_eq_true rfl⟩ [] rfl rfl [0, 1, 2, 3] rfl rfl rfl rfl (Nat.le_of_ble_eq_true rfl) ⟨Nat.zero_le _, Nat.zero_le _⟩ rfl ?_
  refine xi_if_eq (tgt := 14) C dX6_swap_4 (by decide) (fun c3 => ?_) (fun c3 => ?_)
  · have h := it_i c3 h
    refine xi_iconst (v := (-1)) C dX6_swap_14 (by decide) ?_
    have w0 := Option.some.inj h
    obtain ⟨q0, w1⟩ := Prod.mk.inj w0
    obtain ⟨q1, w2⟩ := Prod.mk.inj w1
    obtain ⟨q2, w3⟩ := Prod.mk.inj w2
    obtain ⟨q3, w4⟩ := Prod.mk.inj w3
    obtain ⟨q4, w5⟩ := Prod.mk.inj w4
    obtain ⟨q5, w6⟩ := Prod.mk.inj w5
    obtain ⟨q6, w7⟩ := Prod.mk.inj w6
    subst q0
    subst q1
    subst q2
    subst q3
    subst q4
    subst q5
    subst q6
    subst w7
    exact xi_iret C Z dX6_swap_15
  · have h := ie_i c3 h
    refine xi_iload_n C dX6_swap_7 rfl 2 rfl ?_
    obtain ⟨v4, e5, h⟩ := ob_i h
    refine xi_callS (As := [.int p2]) (o := some (.int v4)) (rest := []) (w2 := (wMo o0 ma st ik le sp nu ++ wAr cI (ma 0) 1898 now ++ wAr cI (ma 1) 1898 thn ++ wAr cI (ma 2) 7592 pst ++ wAr cI (ma 3) 1898 snp ++ wAr cC (ma 4) 80 txt ++ wAr cI (ma 5) 48 hld ++ wAr cI (ma 6) 24 far ++ wAr cZ (ma 7) 72 don ++ wAr cI (ma 8) 96 tld ++ wAr cI (ma 9) 24 dep ++ wAr cI (ma 10) 24 bit)) (st2 := [.int v4]) C k_X6_isPlace (m_X6_isPlace D cI cC cZ cR p2 v4 e5) gX6_swap_X6_isPlace dX6_swap_8 ⟨Nat.le_of_ble_eq_true rfl, Nat.le_of_ble_eq_true rfl, Nat.le_of_ble_eq_true rfl⟩ [] rfl rfl [0, 1, 2, 3] rfl rfl rfl rfl (Nat.le_of_ble_eq_true rfl) ⟨Nat.zero_le _, Nat.zero_le _⟩ rfl ?_
    refine xi_if_ne (tgt := 16) C dX6_swap_11 (by decide) (fun c6 => ?_) (fun c6 => ?_)
    · have h := ie_i c6 h
      refine xi_aload_n C dX6_swap_16 rfl 0 rfl ?_
      refine xi_get C dX6_swap_17 iw_X6_swap_6 0 rfl rfl 0 (by decide) fl_X6_swap_7 rfl ?_
      refine xi_iload_n C dX6_swap_20 rfl 1 rfl ?_
      refine xi_iload_n C dX6_swap_21 rfl 2 rfl ?_
      obtain ⟨v7, e8, h⟩ := ob_i h
      refine xi_callS (As := [.ref (ma 0), .int p1, .int p2]) (o := some (.int v7)) (rest := []) (w2 := (wMo o0 ma st ik le sp nu ++ wAr cI (ma 0) 1898 now ++ wAr cI (ma 1) 1898 thn ++ wAr cI (ma 2) 7592 pst ++ wAr cI (ma 3) 1898 snp ++ wAr cC (ma 4) 80 txt ++ wAr cI (ma 5) 48 hld ++ wAr cI (ma 6) 24 far ++ wAr cZ (ma 7) 72 don ++ wAr cI (ma 8) 96 tld ++ wAr cI (ma 9) 24 dep ++ wAr cI (ma 10) 24 bit)) (st2 := [.int v7]) C k_X6_isChange (m_X6_isChange D cI cC cZ cR (ma 0) now p1 p2 v7 e8) gX6_swap_X6_isChange dX6_swap_22 ⟨Nat.le_of_ble_eq_true rfl, Nat.le_of_ble_eq_true rfl, Nat.le_of_ble_eq_true rfl⟩ [1] mxC_X6_1 rfl [0, 1, 2, 3] rfl mxF_X6_1 mxM_X6_1 rfl (Nat.le_of_ble_eq_true rfl) ⟨Nat.zero_le _, Nat.zero_le _⟩ rfl ?_
      refine xi_if_eq (tgt := 41) C dX6_swap_25 (by decide) (fun c9 => ?_) (fun c9 => ?_)
      · have h := it_i c9 h
        refine xi_bipush (v := (-5)) C dX6_swap_41 (by decide) ?_
        have w0 := Option.some.inj h
        obtain ⟨q0, w1⟩ := Prod.mk.inj w0
        obtain ⟨q1, w2⟩ := Prod.mk.inj w1
        obtain ⟨q2, w3⟩ := Prod.mk.inj w2
        obtain ⟨q3, w4⟩ := Prod.mk.inj w3
        obtain ⟨q4, w5⟩ := Prod.mk.inj w4
        obtain ⟨q5, w6⟩ := Prod.mk.inj w5
        obtain ⟨q6, w7⟩ := Prod.mk.inj w6
        subst q0
        subst q1
        subst q2
        subst q3
        subst q4
        subst q5
        subst q6
        subst w7
        exact xi_iret C Z dX6_swap_43
      · have h := ie_i c9 h
        refine xi_aload_n C dX6_swap_28 rfl 0 rfl ?_
        refine xi_aload_n C dX6_swap_29 rfl 0 rfl ?_
        refine xi_iload_n C dX6_swap_30 rfl 1 rfl ?_
        refine xi_iload_n C dX6_swap_31 rfl 2 rfl ?_
        obtain ⟨⟨v10, thn11, hld12, far13, don14⟩, e15, h⟩ := ob_i h
        refine xi_callV (As := [.int p1, .int p2]) (o := some (.int v10)) (rest := [.ref o0]) (w2 := (wMo o0 ma st ik le sp nu ++ wAr cI (ma 0) 1898 now ++ wAr cI (ma 1) 1898 thn11 ++ wAr cI (ma 2) 7592 pst ++ wAr cI (ma 3) 1898 snp ++ wAr cC (ma 4) 80 txt ++ wAr cI (ma 5) 48 hld12 ++ wAr cI (ma 6) 24 far13 ++ wAr cZ (ma 7) 72 don14 ++ wAr cI (ma 8) 96 tld ++ wAr cI (ma 9) 24 dep ++ wAr cI (ma 10) 24 bit)) (st2 := [.int v10, .ref o0]) C k_X6_swapped (m_X6_swapped D cI cC cZ cR o0 ma st ik le sp nu now thn pst snp txt hld far don tld dep bit p1 p2 v10 thn11 hld12 far13 don14 e15) gX6_swap_X6_swapped dX6_swap_32 ⟨Nat.le_of_ble_eq_true rfl, Nat.le_of_ble_eq_true rfl, Nat.le_of_ble_eq_true rfl⟩ 0 rfl rfl [0, 1, 2, 3, 4, 5, 6, 7, 8, 9, 10, 11] mxC_X6_0_1_2_3_4_5_6_7_8_9_10_11 rfl [0, 1, 2, 3] rfl mxF_X6_0_1_2_3_4_5_6_7_8_9_10_11 mxM_X6_0_1_2_3_4_5_6_7_8_9_10_11 rfl (Nat.le_of_ble_eq_true rfl) ⟨Nat.zero_le _, Nat.zero_le _⟩ rfl ?_
        obtain ⟨⟨v16, st17, now18, pst19⟩, e20, h⟩ := ob_i h
        refine xi_callV (As := [.int v10]) (o := some (.int v16)) (rest := []) (w2 := (wMo o0 ma st17 ik le sp nu ++ wAr cI (ma 0) 1898 now18 ++ wAr cI (ma 1) 1898 thn11 ++ wAr cI (ma 2) 7592 pst19 ++ wAr cI (ma 3) 1898 snp ++ wAr cC (ma 4) 80 txt ++ wAr cI (ma 5) 48 hld12 ++ wAr cI (ma 6) 24 far13 ++ wAr cZ (ma 7) 72 don14 ++ wAr cI (ma 8) 96 tld ++ wAr cI (ma 9) 24 dep ++ wAr cI (ma 10) 24 bit)) (st2 := [.int v16]) C k_X6_accepts (m_X6_accepts D cI cC cZ cR o0 ma st ik le sp nu now thn11 pst snp txt hld12 far13 don14 tld dep bit v10 v16 st17 now18 pst19 e20) gX6_swap_X6_accepts dX6_swap_35 ⟨Nat.le_of_ble_eq_true rfl, Nat.le_of_ble_eq_true rfl, Nat.le_of_ble_eq_true rfl⟩ 0 rfl rfl [0, 1, 2, 3, 4, 5, 6, 7, 8, 9, 10, 11] mxC_X6_0_1_2_3_4_5_6_7_8_9_10_11 rfl [0, 1, 2, 3] rfl mxF_X6_0_1_2_3_4_5_6_7_8_9_10_11 mxM_X6_0_1_2_3_4_5_6_7_8_9_10_11 rfl (Nat.le_of_ble_eq_true rfl) ⟨Nat.zero_le _, Nat.zero_le _⟩ rfl ?_
        refine xi_goto (tgt := 43) C dX6_swap_38 (by decide) ?_
        have w0 := Option.some.inj h
        obtain ⟨q0, w1⟩ := Prod.mk.inj w0
        obtain ⟨q1, w2⟩ := Prod.mk.inj w1
        obtain ⟨q2, w3⟩ := Prod.mk.inj w2
        obtain ⟨q3, w4⟩ := Prod.mk.inj w3
        obtain ⟨q4, w5⟩ := Prod.mk.inj w4
        obtain ⟨q5, w6⟩ := Prod.mk.inj w5
        obtain ⟨q6, w7⟩ := Prod.mk.inj w6
        subst q0
        subst q1
        subst q2
        subst q3
        subst q4
        subst q5
        subst q6
        subst w7
        exact xi_iret C Z dX6_swap_43
    · have h := it_i c6 h
      refine xi_iconst (v := (-1)) C dX6_swap_14 (by decide) ?_
      have w0 := Option.some.inj h
      obtain ⟨q0, w1⟩ := Prod.mk.inj w0
      obtain ⟨q1, w2⟩ := Prod.mk.inj w1
      obtain ⟨q2, w3⟩ := Prod.mk.inj w2
      obtain ⟨q3, w4⟩ := Prod.mk.inj w3
      obtain ⟨q4, w5⟩ := Prod.mk.inj w4
      obtain ⟨q5, w6⟩ := Prod.mk.inj w5
      obtain ⟨q6, w7⟩ := Prod.mk.inj w6
      subst q0
      subst q1
      subst q2
      subst q3
      subst q4
      subst q5
      subst q6
      subst w7
      exact xi_iret C Z dX6_swap_15
def f_X6_ordered (now : Nat → Int32) (thn : Nat → Int32) (hld : Nat → Int32) (far : Nat → Int32) (don : Nat → Int32) (p1 : Int32) : Option (Int32 × (Nat → Int32) × (Nat → Int32) × (Nat → Int32) × (Nat → Int32)) :=
  (f_X6_lays 1898 1898 now thn 0 0).bind fun g1 =>
  (f_X6_laysAll hld far don g1 p1).bind fun (v3, hld4, far5, don6, rr7) =>
  some (v3, rr7, hld4, far5, don6)
theorem k_X6_ordered : xb_Y yX6_ordered cX6_ordered wsX6_ordered 2 (some .int) { frames := 6, cells := 0, slots := 0, locals := 140 } 1 := ⟨⟨_, rfl⟩, by decide, ⟨by decide, by decide, by decide +kernel⟩, rfl, rfl⟩
theorem fl_X6_ordered_7 : Cond.fieldLink RX6 7 "LookupBoardModel" "now" "[I" ∈ wsX6_ordered := List.mem_of_getElem? (i := 1) rfl
theorem fl_X6_ordered_13 : Cond.fieldLink RX6 13 "LookupBoardModel" "then" "[I" ∈ wsX6_ordered := List.mem_of_getElem? (i := 2) rfl
theorem iw_X6_ordered_6 : ∀ w ∈ wsX60, w ∈ wsX6_ordered := fun w h => List.mem_cons_of_mem _ (List.mem_append_right _ h)
set_option maxHeartbeats 4000000 in
set_option maxRecDepth 100000 in
theorem m_X6_ordered (D : va_G) (cI cC cZ cR : ClassId) (o0 : Nat) (ma : Nat → Nat) (st : Int32) (ik : Int32) (le : Int32) (sp : Int32) (nu : Int32) (now : Nat → Int32) (thn : Nat → Int32) (pst : Nat → Int32) (snp : Nat → Int32) (txt : Nat → Int32) (hld : Nat → Int32) (far : Nat → Int32) (don : Nat → Int32) (tld : Nat → Int32) (dep : Nat → Int32) (bit : Nat → Int32) (p1 : Int32) (r : Int32) (thn' : Nat → Int32) (hld' : Nat → Int32) (far' : Nat → Int32) (don' : Nat → Int32) (h : f_X6_ordered now thn hld far don p1 = some (r, thn', hld', far', don')) : xb_M cX6_ordered wsX6_ordered RX6 { frames := 6, cells := 0, slots := 0, locals := 140 } (some .int) 2 (xb_ty cI cC cZ cR) D [.ref o0, .int p1] (wMo o0 ma st ik le sp nu ++ wAr cI (ma 0) 1898 now ++ wAr cI (ma 1) 1898 thn ++ wAr cI (ma 2) 7592 pst ++ wAr cI (ma 3) 1898 snp ++ wAr cC (ma 4) 80 txt ++ wAr cI (ma 5) 48 hld ++ wAr cI (ma 6) 24 far ++ wAr cZ (ma 7) 72 don ++ wAr cI (ma 8) 96 tld ++ wAr cI (ma 9) 24 dep ++ wAr cI (ma 10) 24 bit) (some (.int r)) (wMo o0 ma st ik le sp nu ++ wAr cI (ma 0) 1898 now ++ wAr cI (ma 1) 1898 thn' ++ wAr cI (ma 2) 7592 pst ++ wAr cI (ma 3) 1898 snp ++ wAr cC (ma 4) 80 txt ++ wAr cI (ma 5) 48 hld' ++ wAr cI (ma 6) 24 far' ++ wAr cZ (ma 7) 72 don' ++ wAr cI (ma 8) 96 tld ++ wAr cI (ma 9) 24 dep ++ wAr cI (ma 10) 24 bit) := by
  intro X C Z
  show xb_G X 0 0 (wMo o0 ma st ik le sp nu ++ wAr cI (ma 0) 1898 now ++ wAr cI (ma 1) 1898 thn ++ wAr cI (ma 2) 7592 pst ++ wAr cI (ma 3) 1898 snp ++ wAr cC (ma 4) 80 txt ++ wAr cI (ma 5) 48 hld ++ wAr cI (ma 6) 24 far ++ wAr cZ (ma 7) 72 don ++ wAr cI (ma 8) 96 tld ++ wAr cI (ma 9) 24 dep ++ wAr cI (ma 10) 24 bit) [(0, .ref o0), (1, .int p1)] 0 []
  unfold f_X6_ordered at h
  refine xi_aload_n C dX6_ordered_0 rfl 0 rfl ?_
  refine xi_get C dX6_ordered_1 iw_X6_ordered_6 0 rfl rfl 0 (by decide) fl_X6_ordered_7 rfl ?_
  refine xi_iconst (v := 0) C dX6_ordered_4 (by decide) ?_
  refine xi_aload_n C dX6_ordered_5 rfl 0 rfl ?_
  refine xi_get C dX6_ordered_6 iw_X6_ordered_6 0 rfl rfl 1 (by decide) fl_X6_ordered_13 rfl ?_
  refine xi_iconst (v := 0) C dX6_ordered_9 (by decide) ?_
  obtain ⟨g1, e2, h⟩ := ob_i h
  refine xi_callS (As := [.ref (ma 0), .int 0, .ref (ma 1), .int 0]) (o := none) (rest := []) (w2 := (wMo o0 ma st ik le sp nu ++ wAr cI (ma 0) 1898 now ++ wAr cI (ma 1) 1898 g1 ++ wAr cI (ma 2) 7592 pst ++ wAr cI (ma 3) 1898 snp ++ wAr cC (ma 4) 80 txt ++ wAr cI (ma 5) 48 hld ++ wAr cI (ma 6) 24 far ++ wAr cZ (ma 7) 72 don ++ wAr cI (ma 8) 96 tld ++ wAr cI (ma 9) 24 dep ++ wAr cI (ma 10) 24 bit)) (st2 := []) C k_X6_lays (m_X6_lays D cI cC cZ cR 1898 1898 (ma 0) (ma 1) now thn 0 0 g1 e2) gX6_ordered_X6_lays dX6_ordered_10 ⟨Nat.le_of_ble_eq_true rfl, Nat.le_of_ble_eq_true rfl, Nat.le_of_ble_eq_true rfl⟩ [1, 2] mxC_X6_1_2 rfl [0, 1, 2, 3] rfl mxF_X6_1_2 mxM_X6_1_2 rfl (Nat.le_of_ble_eq_true rfl) ⟨Nat.zero_le _, Nat.zero_le _⟩ rfl ?_
  refine xi_aload_n C dX6_ordered_13 rfl 0 rfl ?_
  refine xi_aload_n C dX6_ordered_14 rfl 0 rfl ?_
  refine xi_get C dX6_ordered_15 iw_X6_ordered_6 0 rfl rfl 1 (by decide) fl_X6_ordered_13 rfl ?_
  refine xi_iload_n C dX6_ordered_18 rfl 1 rfl ?_
  obtain ⟨⟨v3, hld4, far5, don6, rr7⟩, e8, h⟩ := ob_i h
  refine xi_callV (As := [.ref (ma 1), .int p1]) (o := some (.int v3)) (rest := []) (w2 := (wMo o0 ma st ik le sp nu ++ wAr cI (ma 0) 1898 now ++ wAr cI (ma 1) 1898 rr7 ++ wAr cI (ma 2) 7592 pst ++ wAr cI (ma 3) 1898 snp ++ wAr cC (ma 4) 80 txt ++ wAr cI (ma 5) 48 hld4 ++ wAr cI (ma 6) 24 far5 ++ wAr cZ (ma 7) 72 don6 ++ wAr cI (ma 8) 96 tld ++ wAr cI (ma 9) 24 dep ++ wAr cI (ma 10) 24 bit)) (st2 := [.int v3]) C k_X6_laysAll (m_X6_laysAll D cI cC cZ cR o0 ma (ma 1) st ik le sp nu hld far don g1 p1 v3 hld4 far5 don6 rr7 e8) gX6_ordered_X6_laysAll dX6_ordered_19 ⟨Nat.le_of_ble_eq_true rfl, Nat.le_of_ble_eq_true rfl, Nat.le_of_ble_eq_true rfl⟩ 0 rfl rfl [0, 6, 7, 8, 2] mxC_X6_0_6_7_8_2 rfl [0, 1, 2, 3] rfl mxF_X6_0_6_7_8_2 mxM_X6_0_6_7_8_2 rfl (Nat.le_of_ble_eq_true rfl) ⟨Nat.zero_le _, Nat.zero_le _⟩ rfl ?_
  have w0 := Option.some.inj h
  obtain ⟨q0, w1⟩ := Prod.mk.inj w0
  obtain ⟨q1, w2⟩ := Prod.mk.inj w1
  obtain ⟨q2, w3⟩ := Prod.mk.inj w2
  obtain ⟨q3, w4⟩ := Prod.mk.inj w3
  subst q0
  subst q1
  subst q2
  subst q3
  subst w4
  exact xi_iret C Z dX6_ordered_22
def f_X6_layAnew (st : Int32) (now : Nat → Int32) (thn : Nat → Int32) (pst : Nat → Int32) (hld : Nat → Int32) (far : Nat → Int32) (don : Nat → Int32) (p1 : Int32) : Option (Int32 × Int32 × (Nat → Int32) × (Nat → Int32) × (Nat → Int32) × (Nat → Int32) × (Nat → Int32) × (Nat → Int32)) :=
  (f_X6_in p1 0 2).bind fun v1 =>
  if v1 = 0 then
    some ((-2), st, now, thn, pst, hld, far, don)
  else
    (f_X6_ordered now thn hld far don p1).bind fun (v4, thn5, hld6, far7, don8) =>
    (f_X6_accepts st now thn5 pst v4).bind fun (v10, st11, now12, pst13) =>
    some (v10, st11, now12, thn5, pst13, hld6, far7, don8)
theorem k_X6_layAnew : xb_Y yX6_layAnew cX6_layAnew wsX6_layAnew 2 (some .int) { frames := 7, cells := 0, slots := 0, locals := 161 } 1 := ⟨⟨_, rfl⟩, by decide, ⟨by decide, by decide, by decide +kernel⟩, rfl, rfl⟩
set_option maxHeartbeats 4000000 in
set_option maxRecDepth 100000 in
theorem m_X6_layAnew (D : va_G) (cI cC cZ cR : ClassId) (o0 : Nat) (ma : Nat → Nat) (st : Int32) (ik : Int32) (le : Int32) (sp : Int32) (nu : Int32) (now : Nat → Int32) (thn : Nat → Int32) (pst : Nat → Int32) (snp : Nat → Int32) (txt : Nat → Int32) (hld : Nat → Int32) (far : Nat → Int32) (don : Nat → Int32) (tld : Nat → Int32) (dep : Nat → Int32) (bit : Nat → Int32) (p1 : Int32) (r : Int32) (st' : Int32) (now' : Nat → Int32) (thn' : Nat → Int32) (pst' : Nat → Int32) (hld' : Nat → Int32) (far' : Nat → Int32) (don' : Nat → Int32) (h : f_X6_layAnew st now thn pst hld far don p1 = some (r, st', now', thn', pst', hld', far', don')) : xb_M cX6_layAnew wsX6_layAnew RX6 { frames := 7, cells := 0, slots := 0, locals := 161 } (some .int) 2 (xb_ty cI cC cZ cR) D [.ref o0, .int p1] (wMo o0 ma st ik le sp nu ++ wAr cI (ma 0) 1898 now ++ wAr cI (ma 1) 1898 thn ++ wAr cI (ma 2) 7592 pst ++ wAr cI (ma 3) 1898 snp ++ wAr cC (ma 4) 80 txt ++ wAr cI (ma 5) 48 hld ++ wAr cI (ma 6) 24 far ++ wAr cZ (ma 7) 72 don ++ wAr cI (ma 8) 96 tld ++ wAr cI (ma 9) 24 dep ++ wAr cI (ma 10) 24 bit) (some (.int r)) (wMo o0 ma st' ik le sp nu ++ wAr cI (ma 0) 1898 now' ++ wAr cI (ma 1) 1898 thn' ++ wAr cI (ma 2) 7592 pst' ++ wAr cI (ma 3) 1898 snp ++ wAr cC (ma 4) 80 txt ++ wAr cI (ma 5) 48 hld' ++ wAr cI (ma 6) 24 far' ++ wAr cZ (ma 7) 72 don' ++ wAr cI (ma 8) 96 tld ++ wAr cI (ma 9) 24 dep ++ wAr cI (ma 10) 24 bit) := by
  intro X C Z
  show xb_G X 0 0 (wMo o0 ma st ik le sp nu ++ wAr cI (ma 0) 1898 now ++ wAr cI (ma 1) 1898 thn ++ wAr cI (ma 2) 7592 pst ++ wAr cI (ma 3) 1898 snp ++ wAr cC (ma 4) 80 txt ++ wAr cI (ma 5) 48 hld ++ wAr cI (ma 6) 24 far ++ wAr cZ (ma 7) 72 don ++ wAr cI (ma 8) 96 tld ++ wAr cI (ma 9) 24 dep ++ wAr cI (ma 10) 24 bit) [(0, .ref o0), (1, .int p1)] 0 []
  unfold f_X6_layAnew at h
  refine xi_iload_n C dX6_layAnew_0 rfl 1 rfl ?_
  refine xi_iconst (v := 0) C dX6_layAnew_1 (by decide) ?_
  refine xi_iconst (v := 2) C dX6_layAnew_2 (by decide) ?_
  obtain ⟨v1, e2, h⟩ := ob_i h
  refine xi_callS (As := [.int p1, .int 0, .int 2]) (o := some (.int v1)) (rest := []) (w2 := (wMo o0 ma st ik le sp nu ++ wAr cI (ma 0) 1898 now ++ wAr cI (ma 1) 1898 thn ++ wAr cI (ma 2) 7592 pst ++ wAr cI (ma 3) 1898 snp ++ wAr cC (ma 4) 80 txt ++ wAr cI (ma 5) 48 hld ++ wAr cI (ma 6) 24 far ++ wAr cZ (ma 7) 72 don ++ wAr cI (ma 8) 96 tld ++ wAr cI (ma 9) 24 dep ++ wAr cI (ma 10) 24 bit)) (st2 := [.int v1]) C k_X6_in (m_X6_in D cI cC cZ cR p1 0 2 v1 e2) gX6_layAnew_X6_in dX6_layAnew_3 ⟨Nat.le_of_ble_eq_true rfl, Nat.le_of_ble_eq_true rfl, Nat.le_of_ble_eq_true rfl⟩ [] rfl rfl [0, 1, 2, 3] rfl rfl rfl rfl (Nat.le_of_ble_eq_true rfl) ⟨Nat.zero_le _, Nat.zero_le _⟩ rfl ?_
  refine xi_if_eq (tgt := 21) C dX6_layAnew_6 (by decide) (fun c3 => ?_) (fun c3 => ?_)
  · have h := it_i c3 h
    refine xi_bipush (v := (-2)) C dX6_layAnew_21 (by decide) ?_
    have w0 := Option.some.inj h
    obtain ⟨q0, w1⟩ := Prod.mk.inj w0
    obtain ⟨q1, w2⟩ := Prod.mk.inj w1
    obtain ⟨q2, w3⟩ := Prod.mk.inj w2
    obtain ⟨q3, w4⟩ := Prod.mk.inj w3
    obtain ⟨q4, w5⟩ := Prod.mk.inj w4
    obtain ⟨q5, w6⟩ := Prod.mk.inj w5
    obtain ⟨q6, w7⟩ := Prod.mk.inj w6
    subst q0
    subst q1
    subst q2
    subst q3
    subst q4
    subst q5
    subst q6
    subst w7
    exact xi_iret C Z dX6_layAnew_23
  · have h := ie_i c3 h
    refine xi_aload_n C dX6_layAnew_9 rfl 0 rfl ?_
    refine xi_aload_n C dX6_layAnew_10 rfl 0 rfl ?_
    refine xi_iload_n C dX6_layAnew_11 rfl 1 rfl ?_
    obtain ⟨⟨v4, thn5, hld6, far7, don8⟩, e9, h⟩ := ob_i h
    refine xi_callV (As := [.int p1]) (o := some (.int v4)) (rest := [.ref o0]) (w2 := (wMo o0 ma st ik le sp nu ++ wAr cI (ma 0) 1898 now ++ wAr cI (ma 1) 1898 thn5 ++ wAr cI (ma 2) 7592 pst ++ wAr cI (ma 3) 1898 snp ++ wAr cC (ma 4) 80 txt ++ wAr cI (ma 5) 48 hld6 ++ wAr cI (ma 6) 24 far7 ++ wAr cZ (ma 7) 72 don8 ++ wAr cI (ma 8) 96 tld ++ wAr cI (ma 9) 24 dep ++ wAr cI (ma 10) 24 bit)) (st2 := [.int v4, .ref o0]) C k_X6_ordered (m_X6_ordered D cI cC cZ cR o0 ma st ik le sp nu now thn pst snp txt hld far don tld dep bit p1 v4 thn5 hld6 far7 don8 e9) gX6_layAnew_X6_ordered dX6_layAnew_12 ⟨Nat.le_of_ble_eq_true rfl, Nat.le_of_ble_eq_true rfl, Nat.le_of_ble_eq_true rfl⟩ 0 rfl rfl [0, 1, 2, 3, 4, 5, 6, 7, 8, 9, 10, 11] mxC_X6_0_1_2_3_4_5_6_7_8_9_10_11 rfl [0, 1, 2, 3] rfl mxF_X6_0_1_2_3_4_5_6_7_8_9_10_11 mxM_X6_0_1_2_3_4_5_6_7_8_9_10_11 rfl (Nat.le_of_ble_eq_true rfl) ⟨Nat.zero_le _, Nat.zero_le _⟩ rfl ?_
    obtain ⟨⟨v10, st11, now12, pst13⟩, e14, h⟩ := ob_i h
    refine xi_callV (As := [.int v4]) (o := some (.int v10)) (rest := []) (w2 := (wMo o0 ma st11 ik le sp nu ++ wAr cI (ma 0) 1898 now12 ++ wAr cI (ma 1) 1898 thn5 ++ wAr cI (ma 2) 7592 pst13 ++ wAr cI (ma 3) 1898 snp ++ wAr cC (ma 4) 80 txt ++ wAr cI (ma 5) 48 hld6 ++ wAr cI (ma 6) 24 far7 ++ wAr cZ (ma 7) 72 don8 ++ wAr cI (ma 8) 96 tld ++ wAr cI (ma 9) 24 dep ++ wAr cI (ma 10) 24 bit)) (st2 := [.int v10]) C k_X6_accepts (m_X6_accepts D cI cC cZ cR o0 ma st ik le sp nu now thn5 pst snp txt hld6 far7 don8 tld dep bit v4 v10 st11 now12 pst13 e14) gX6_layAnew_X6_accepts dX6_layAnew_15 ⟨Nat.le_of_ble_eq_true rfl, Nat.le_of_ble_eq_true rfl, Nat.le_of_ble_eq_true rfl⟩ 0 rfl rfl [0, 1, 2, 3, 4, 5, 6, 7, 8, 9, 10, 11] mxC_X6_0_1_2_3_4_5_6_7_8_9_10_11 rfl [0, 1, 2, 3] rfl mxF_X6_0_1_2_3_4_5_6_7_8_9_10_11 mxM_X6_0_1_2_3_4_5_6_7_8_9_10_11 rfl (Nat.le_of_ble_eq_true rfl) ⟨Nat.zero_le _, Nat.zero_le _⟩ rfl ?_
    refine xi_goto (tgt := 23) C dX6_layAnew_18 (by decide) ?_
    have w0 := Option.some.inj h
    obtain ⟨q0, w1⟩ := Prod.mk.inj w0
    obtain ⟨q1, w2⟩ := Prod.mk.inj w1
    obtain ⟨q2, w3⟩ := Prod.mk.inj w2
    obtain ⟨q3, w4⟩ := Prod.mk.inj w3
    obtain ⟨q4, w5⟩ := Prod.mk.inj w4
    obtain ⟨q5, w6⟩ := Prod.mk.inj w5
    obtain ⟨q6, w7⟩ := Prod.mk.inj w6
    subst q0
    subst q1
    subst q2
    subst q3
    subst q4
    subst q5
    subst q6
    subst w7
    exact xi_iret C Z dX6_layAnew_23
def f_X6_set (st : Int32) (now : Nat → Int32) (pst : Nat → Int32) (hld : Nat → Int32) (p1 : Int32) (p2 : Int32) : Option (Int32 × Int32 × (Nat → Int32) × (Nat → Int32) × (Nat → Int32)) :=
  (f_X6_in p1 0 1).bind fun v1 =>
  if v1 = 0 then
    some ((-1), st, now, pst, hld)
  else
    if p1 = 0 then
      if p1 = 0 then
        (f_X6_in p2 1 4).bind fun v64 =>
        if v64 = 0 then
          some ((-2), st, now, pst, hld)
        else
          (f_X6_counts hld now).bind fun hld67 =>
          if p1 = 0 then
            (f_X6_mostHeld hld67).bind fun v75 =>
            if v75 ≤ p2 then
              (f_X6_becomes st now pst (1896 + p1) p2).bind fun (v78, st79, now80, pst81) =>
              some (v78, st79, now80, pst81, hld67)
            else
              some ((-4), st, now, pst, hld67)
          else
            (f_X6_becomes st now pst (1896 + p1) p2).bind fun (v70, st71, now72, pst73) =>
            some (v70, st71, now72, pst73, hld67)
      else
        (f_X6_in p2 1 9).bind fun v45 =>
        if v45 = 0 then
          some ((-2), st, now, pst, hld)
        else
          (f_X6_counts hld now).bind fun hld48 =>
          if p1 = 0 then
            (f_X6_mostHeld hld48).bind fun v56 =>
            if v56 ≤ p2 then
              (f_X6_becomes st now pst (1896 + p1) p2).bind fun (v59, st60, now61, pst62) =>
              some (v59, st60, now61, pst62, hld48)
            else
              some ((-4), st, now, pst, hld48)
          else
            (f_X6_becomes st now pst (1896 + p1) p2).bind fun (v51, st52, now53, pst54) =>
            some (v51, st52, now53, pst54, hld48)
    else
      if p1 = 0 then
        (f_X6_in p2 0 4).bind fun v25 =>
        if v25 = 0 then
          some ((-2), st, now, pst, hld)
        else
          (f_X6_counts hld now).bind fun hld28 =>
          if p1 = 0 then
            (f_X6_mostHeld hld28).bind fun v36 =>
            if v36 ≤ p2 then
              (f_X6_becomes st now pst (1896 + p1) p2).bind fun (v39, st40, now41, pst42) =>
              some (v39, st40, now41, pst42, hld28)
            else
              some ((-4), st, now, pst, hld28)
          else
            (f_X6_becomes st now pst (1896 + p1) p2).bind fun (v31, st32, now33, pst34) =>
            some (v31, st32, now33, pst34, hld28)
      else
        (f_X6_in p2 0 9).bind fun v6 =>
        if v6 = 0 then
          some ((-2), st, now, pst, hld)
        else
          (f_X6_counts hld now).bind fun hld9 =>
          if p1 = 0 then
            (f_X6_mostHeld hld9).bind fun v17 =>
            if v17 ≤ p2 then
              (f_X6_becomes st now pst (1896 + p1) p2).bind fun (v20, st21, now22, pst23) =>
              some (v20, st21, now22, pst23, hld9)
            else
              some ((-4), st, now, pst, hld9)
          else
            (f_X6_becomes st now pst (1896 + p1) p2).bind fun (v12, st13, now14, pst15) =>
            some (v12, st13, now14, pst15, hld9)
theorem k_X6_set : xb_Y yX6_set cX6_set wsX6_set 3 (some .int) { frames := 3, cells := 0, slots := 0, locals := 68 } 2 := ⟨⟨_, rfl⟩, by decide, ⟨by decide, by decide, by decide +kernel⟩, rfl, rfl⟩
theorem fl_X6_set_7 : Cond.fieldLink RX6 7 "LookupBoardModel" "now" "[I" ∈ wsX6_set := List.mem_of_getElem? (i := 1) rfl
theorem iw_X6_set_6 : ∀ w ∈ wsX60, w ∈ wsX6_set := fun w h => List.mem_cons_of_mem _ (List.mem_append_right _ h)
set_option maxHeartbeats 4000000 in
set_option maxRecDepth 100000 in
theorem m_X6_set (D : va_G) (cI cC cZ cR : ClassId) (o0 : Nat) (ma : Nat → Nat) (st : Int32) (ik : Int32) (le : Int32) (sp : Int32) (nu : Int32) (now : Nat → Int32) (thn : Nat → Int32) (pst : Nat → Int32) (snp : Nat → Int32) (txt : Nat → Int32) (hld : Nat → Int32) (far : Nat → Int32) (don : Nat → Int32) (tld : Nat → Int32) (dep : Nat → Int32) (bit : Nat → Int32) (p1 : Int32) (p2 : Int32) (r : Int32) (st' : Int32) (now' : Nat → Int32) (pst' : Nat → Int32) (hld' : Nat → Int32) (h : f_X6_set st now pst hld p1 p2 = some (r, st', now', pst', hld')) : xb_M cX6_set wsX6_set RX6 { frames := 3, cells := 0, slots := 0, locals := 68 } (some .int) 3 (xb_ty cI cC cZ cR) D [.ref o0, .int p1, .int p2] (wMo o0 ma st ik le sp nu ++ wAr cI (ma 0) 1898 now ++ wAr cI (ma 1) 1898 thn ++ wAr cI (ma 2) 7592 pst ++ wAr cI (ma 3) 1898 snp ++ wAr cC (ma 4) 80 txt ++ wAr cI (ma 5) 48 hld ++ wAr cI (ma 6) 24 far ++ wAr cZ (ma 7) 72 don ++ wAr cI (ma 8) 96 tld ++ wAr cI (ma 9) 24 dep ++ wAr cI (ma 10) 24 bit) (some (.int r)) (wMo o0 ma st' ik le sp nu ++ wAr cI (ma 0) 1898 now' ++ wAr cI (ma 1) 1898 thn ++ wAr cI (ma 2) 7592 pst' ++ wAr cI (ma 3) 1898 snp ++ wAr cC (ma 4) 80 txt ++ wAr cI (ma 5) 48 hld' ++ wAr cI (ma 6) 24 far ++ wAr cZ (ma 7) 72 don ++ wAr cI (ma 8) 96 tld ++ wAr cI (ma 9) 24 dep ++ wAr cI (ma 10) 24 bit) := by
  intro X C Z
  show xb_G X 0 0 (wMo o0 ma st ik le sp nu ++ wAr cI (ma 0) 1898 now ++ wAr cI (ma 1) 1898 thn ++ wAr cI (ma 2) 7592 pst ++ wAr cI (ma 3) 1898 snp ++ wAr cC (ma 4) 80 txt ++ wAr cI (ma 5) 48 hld ++ wAr cI (ma 6) 24 far ++ wAr cZ (ma 7) 72 don ++ wAr cI (ma 8) 96 tld ++ wAr cI (ma 9) 24 dep ++ wAr cI (ma 10) 24 bit) [(0, .ref o0), (1, .int p1), (2, .int p2)] 0 []
  unfold f_X6_set at h
  refine xi_iload_n C dX6_set_0 rfl 1 rfl ?_
  refine xi_iconst (v := 0) C dX6_set_1 (by decide) ?_
  refine xi_iconst (v := 1) C dX6_set_2 (by decide) ?_
  obtain ⟨v1, e2, h⟩ := ob_i h
  refine xi_callS (As := [.int p1, .int 0, .int 1]) (o := some (.int v1)) (rest := []) (w2 := (wMo o0 ma st ik le sp nu ++ wAr cI (ma 0) 1898 now ++ wAr cI (ma 1) 1898 thn ++ wAr cI (ma 2) 7592 pst ++ wAr cI (ma 3) 1898 snp ++ wAr cC (ma 4) 80 txt ++ wAr cI (ma 5) 48 hld ++ wAr cI (ma 6) 24 far ++ wAr cZ (ma 7) 72 don ++ wAr cI (ma 8) 96 tld ++ wAr cI (ma 9) 24 dep ++ wAr cI (ma 10) 24 bit)) (st2 := [.int v1]) C k_X6_in (m_X6_in D cI cC cZ cR p1 0 1 v1 e2) gX6_set_X6_in dX6_set_3 ⟨Nat.le_of_ble_eq_true rfl, Nat.le_of_ble_eq_true rfl, Nat.le_of_ble_eq_true rfl⟩ [] rfl rfl [0, 1, 2, 3] rfl rfl rfl rfl (Nat.le_of_ble_eq_true rfl) ⟨Nat.zero_le _, Nat.zero_le _⟩ rfl ?_
  refine xi_if_ne (tgt := 11) C dX6_set_6 (by decide) (fun c3 => ?_) (fun c3 => ?_)
  · have h := ie_i c3 h
    refine xi_iload_n C dX6_set_11 rfl 2 rfl ?_
    refine xi_iload_n C dX6_set_12 rfl 1 rfl ?_
    refine xi_if_ne (tgt := 20) C dX6_set_13 (by decide) (fun c4 => ?_) (fun c4 => ?_)
    · have h := ie_i c4 h
      refine xi_iconst (v := 0) C dX6_set_20 (by decide) ?_
      refine xi_iload_n C dX6_set_21 rfl 1 rfl ?_
      refine xi_if_ne (tgt := 29) C dX6_set_22 (by decide) (fun c5 => ?_) (fun c5 => ?_)
      · have h := ie_i c5 h
        refine xi_bipush (v := 9) C dX6_set_29 (by decide) ?_
        obtain ⟨v6, e7, h⟩ := ob_i h
        refine xi_callS (As := [.int p2, .int 0, .int 9]) (o := some (.int v6)) (rest := []) (w2 := (wMo o0 ma st ik le sp nu ++ wAr cI (ma 0) 1898 now ++ wAr cI (ma 1) 1898 thn ++ wAr cI (ma 2) 7592 pst ++ wAr cI (ma 3) 1898 snp ++ wAr cC (ma 4) 80 txt ++ wAr cI (ma 5) 48 hld ++ wAr cI (ma 6) 24 far ++ wAr cZ (ma 7) 72 don ++ wAr cI (ma 8) 96 tld ++ wAr cI (ma 9) 24 dep ++ wAr cI (ma 10) 24 bit)) (st2 := [.int v6]) C k_X6_in (m_X6_in D cI cC cZ cR p2 0 9 v6 e7) gX6_set_X6_in dX6_set_31 ⟨Nat.le_of_ble_eq_true rfl, Nat.le_of_ble_eq_true rfl, Nat.le_of_ble_eq_true rfl⟩ [] rfl rfl [0, 1, 2, 3] rfl rfl rfl rfl (Nat.le_of_ble_eq_true rfl) ⟨Nat.zero_le _, Nat.zero_le _⟩ rfl ?_
        refine xi_if_ne (tgt := 40) C dX6_set_34 (by decide) (fun c8 => ?_) (fun c8 => ?_)
        · have h := ie_i c8 h
          refine xi_aload_n C dX6_set_40 rfl 0 rfl ?_
          refine xi_aload_n C dX6_set_41 rfl 0 rfl ?_
          refine xi_get C dX6_set_42 iw_X6_set_6 0 rfl rfl 0 (by decide) fl_X6_set_7 rfl ?_
          obtain ⟨hld9, e10, h⟩ := ob_i h
          refine xi_callV (As := [.ref (ma 0)]) (o := none) (rest := []) (w2 := (wMo o0 ma st ik le sp nu ++ wAr cI (ma 0) 1898 now ++ wAr cI (ma 1) 1898 thn ++ wAr cI (ma 2) 7592 pst ++ wAr cI (ma 3) 1898 snp ++ wAr cC (ma 4) 80 txt ++ wAr cI (ma 5) 48 hld9 ++ wAr cI (ma 6) 24 far ++ wAr cZ (ma 7) 72 don ++ wAr cI (ma 8) 96 tld ++ wAr cI (ma 9) 24 dep ++ wAr cI (ma 10) 24 bit)) (st2 := []) C k_X6_counts (m_X6_counts D cI cC cZ cR o0 ma (ma 0) st ik le sp nu hld far don now hld9 e10) gX6_set_X6_counts dX6_set_45 ⟨Nat.le_of_ble_eq_true rfl, Nat.le_of_ble_eq_true rfl, Nat.le_of_ble_eq_true rfl⟩ 0 rfl rfl [0, 6, 7, 8, 1] mxC_X6_0_6_7_8_1 rfl [0, 1, 2, 3] rfl mxF_X6_0_6_7_8_1 mxM_X6_0_6_7_8_1 rfl (Nat.le_of_ble_eq_true rfl) ⟨Nat.zero_le _, Nat.zero_le _⟩ rfl ?_
          refine xi_iload_n C dX6_set_48 rfl 1 rfl ?_
          refine xi_if_ne (tgt := 65) C dX6_set_49 (by decide) (fun c11 => ?_) (fun c11 => ?_)
          · have h := ie_i c11 h
            refine xi_aload_n C dX6_set_65 rfl 0 rfl ?_
            refine xi_sipush (v := 1896) C dX6_set_66 (by decide) ?_
            refine xi_iload_n C dX6_set_69 rfl 1 rfl ?_
            refine xi_iadd C dX6_set_70 ?_
            refine xi_iload_n C dX6_set_71 rfl 2 rfl ?_
            obtain ⟨⟨v12, st13, now14, pst15⟩, e16, h⟩ := ob_i h
            refine xi_callV (As := [.int (1896 + p1), .int p2]) (o := some (.int v12)) (rest := []) (w2 := (wMo o0 ma st13 ik le sp nu ++ wAr cI (ma 0) 1898 now14 ++ wAr cI (ma 1) 1898 thn ++ wAr cI (ma 2) 7592 pst15 ++ wAr cI (ma 3) 1898 snp ++ wAr cC (ma 4) 80 txt ++ wAr cI (ma 5) 48 hld9 ++ wAr cI (ma 6) 24 far ++ wAr cZ (ma 7) 72 don ++ wAr cI (ma 8) 96 tld ++ wAr cI (ma 9) 24 dep ++ wAr cI (ma 10) 24 bit)) (st2 := [.int v12]) C k_X6_becomes (m_X6_becomes D cI cC cZ cR o0 ma st ik le sp nu now thn pst snp txt hld9 far don tld dep bit (1896 + p1) p2 v12 st13 now14 pst15 e16) gX6_set_X6_becomes dX6_set_72 ⟨Nat.le_of_ble_eq_true rfl, Nat.le_of_ble_eq_true rfl, Nat.le_of_ble_eq_true rfl⟩ 0 rfl rfl [0, 1, 2, 3, 4, 5, 6, 7, 8, 9, 10, 11] mxC_X6_0_1_2_3_4_5_6_7_8_9_10_11 rfl [0, 1, 2, 3] rfl mxF_X6_0_1_2_3_4_5_6_7_8_9_10_11 mxM_X6_0_1_2_3_4_5_6_7_8_9_10_11 rfl (Nat.le_of_ble_eq_true rfl) ⟨Nat.zero_le _, Nat.zero_le _⟩ rfl ?_
            have w0 := Option.some.inj h
            obtain ⟨q0, w1⟩ := Prod.mk.inj w0
            obtain ⟨q1, w2⟩ := Prod.mk.inj w1
            obtain ⟨q2, w3⟩ := Prod.mk.inj w2
            obtain ⟨q3, w4⟩ := Prod.mk.inj w3
            subst q0
            subst q1
            subst q2
            subst q3
            subst w4
            exact xi_iret C Z dX6_set_75
          · have h := it_i c11 h
            refine xi_aload_n C dX6_set_52 rfl 0 rfl ?_
            obtain ⟨v17, e18, h⟩ := ob_i h
            refine xi_callV (As := []) (o := some (.int v17)) (rest := []) (w2 := (wMo o0 ma st ik le sp nu ++ wAr cI (ma 0) 1898 now ++ wAr cI (ma 1) 1898 thn ++ wAr cI (ma 2) 7592 pst ++ wAr cI (ma 3) 1898 snp ++ wAr cC (ma 4) 80 txt ++ wAr cI (ma 5) 48 hld9 ++ wAr cI (ma 6) 24 far ++ wAr cZ (ma 7) 72 don ++ wAr cI (ma 8) 96 tld ++ wAr cI (ma 9) 24 dep ++ wAr cI (ma 10) 24 bit)) (st2 := [.int v17]) C k_X6_mostHeld (m_X6_mostHeld D cI cC cZ cR o0 ma st ik le sp nu now thn pst snp txt hld9 far don tld dep bit v17 e18) gX6_set_X6_mostHeld dX6_set_53 ⟨Nat.le_of_ble_eq_true rfl, Nat.le_of_ble_eq_true rfl, Nat.le_of_ble_eq_true rfl⟩ 0 rfl rfl [0, 1, 2, 3, 4, 5, 6, 7, 8, 9, 10, 11] mxC_X6_0_1_2_3_4_5_6_7_8_9_10_11 rfl [0, 1, 2, 3] rfl mxF_X6_0_1_2_3_4_5_6_7_8_9_10_11 mxM_X6_0_1_2_3_4_5_6_7_8_9_10_11 rfl (Nat.le_of_ble_eq_true rfl) ⟨Nat.zero_le _, Nat.zero_le _⟩ rfl ?_
            refine xi_iload_n C dX6_set_56 rfl 2 rfl ?_
            refine xi_icmp_le (tgt := 65) C dX6_set_57 (by decide) (fun c19 => ?_) (fun c19 => ?_)
            · have h := it_i c19 h
              refine xi_aload_n C dX6_set_65 rfl 0 rfl ?_
              refine xi_sipush (v := 1896) C dX6_set_66 (by decide) ?_
              refine xi_iload_n C dX6_set_69 rfl 1 rfl ?_
              refine xi_iadd C dX6_set_70 ?_
              refine xi_iload_n C dX6_set_71 rfl 2 rfl ?_
              obtain ⟨⟨v20, st21, now22, pst23⟩, e24, h⟩ := ob_i h
              refine xi_callV (As := [.int (1896 + p1), .int p2]) (o := some (.int v20)) (rest := []) (w2 := (wMo o0 ma st21 ik le sp nu ++ wAr cI (ma 0) 1898 now22 ++ wAr cI (ma 1) 1898 thn ++ wAr cI (ma 2) 7592 pst23 ++ wAr cI (ma 3) 1898 snp ++ wAr cC (ma 4) 80 txt ++ wAr cI (ma 5) 48 hld9 ++ wAr cI (ma 6) 24 far ++ wAr cZ (ma 7) 72 don ++ wAr cI (ma 8) 96 tld ++ wAr cI (ma 9) 24 dep ++ wAr cI (ma 10) 24 bit)) (st2 := [.int v20]) C k_X6_becomes (m_X6_becomes D cI cC cZ cR o0 ma st ik le sp nu now thn pst snp txt hld9 far don tld dep bit (1896 + p1) p2 v20 st21 now22 pst23 e24) gX6_set_X6_becomes dX6_set_72 ⟨Nat.le_of_ble_eq_true rfl, Nat.le_of_ble_eq_true rfl, Nat.le_of_ble_eq_true rfl⟩ 0 rfl rfl [0, 1, 2, 3, 4, 5, 6, 7, 8, 9, 10, 11] mxC_X6_0_1_2_3_4_5_6_7_8_9_10_11 rfl [0, 1, 2, 3] rfl mxF_X6_0_1_2_3_4_5_6_7_8_9_10_11 mxM_X6_0_1_2_3_4_5_6_7_8_9_10_11 rfl (Nat.le_of_ble_eq_true rfl) ⟨Nat.zero_le _, Nat.zero_le _⟩ rfl ?_
              have w0 := Option.some.inj h
              obtain ⟨q0, w1⟩ := Prod.mk.inj w0
              obtain ⟨q1, w2⟩ := Prod.mk.inj w1
              obtain ⟨q2, w3⟩ := Prod.mk.inj w2
              obtain ⟨q3, w4⟩ := Prod.mk.inj w3
              subst q0
              subst q1
              subst q2
              subst q3
              subst w4
              exact xi_iret C Z dX6_set_75
            · have h := ie_i c19 h
              refine xi_bipush (v := (-4)) C dX6_set_60 (by decide) ?_
              refine xi_goto (tgt := 75) C dX6_set_62 (by decide) ?_
              have w0 := Option.some.inj h
              obtain ⟨q0, w1⟩ := Prod.mk.inj w0
              obtain ⟨q1, w2⟩ := Prod.mk.inj w1
              obtain ⟨q2, w3⟩ := Prod.mk.inj w2
              obtain ⟨q3, w4⟩ := Prod.mk.inj w3
              subst q0
              subst q1
              subst q2
              subst q3
              subst w4
              exact xi_iret C Z dX6_set_75
        · have h := it_i c8 h
          refine xi_bipush (v := (-2)) C dX6_set_37 (by decide) ?_
          have w0 := Option.some.inj h
          obtain ⟨q0, w1⟩ := Prod.mk.inj w0
          obtain ⟨q1, w2⟩ := Prod.mk.inj w1
          obtain ⟨q2, w3⟩ := Prod.mk.inj w2
          obtain ⟨q3, w4⟩ := Prod.mk.inj w3
          subst q0
          subst q1
          subst q2
          subst q3
          subst w4
          exact xi_iret C Z dX6_set_39
      · have h := it_i c5 h
        refine xi_iconst (v := 4) C dX6_set_25 (by decide) ?_
        refine xi_goto (tgt := 31) C dX6_set_26 (by decide) ?_
        obtain ⟨v25, e26, h⟩ := ob_i h
        refine xi_callS (As := [.int p2, .int 0, .int 4]) (o := some (.int v25)) (rest := []) (w2 := (wMo o0 ma st ik le sp nu ++ wAr cI (ma 0) 1898 now ++ wAr cI (ma 1) 1898 thn ++ wAr cI (ma 2) 7592 pst ++ wAr cI (ma 3) 1898 snp ++ wAr cC (ma 4) 80 txt ++ wAr cI (ma 5) 48 hld ++ wAr cI (ma 6) 24 far ++ wAr cZ (ma 7) 72 don ++ wAr cI (ma 8) 96 tld ++ wAr cI (ma 9) 24 dep ++ wAr cI (ma 10) 24 bit)) (st2 := [.int v25]) C k_X6_in (m_X6_in D cI cC cZ cR p2 0 4 v25 e26) gX6_set_X6_in dX6_set_31 ⟨Nat.le_of_ble_eq_true rfl, Nat.le_of_ble_eq_true rfl, Nat.le_of_ble_eq_true rfl⟩ [] rfl rfl [0, 1, 2, 3] rfl rfl rfl rfl (Nat.le_of_ble_eq_true rfl) ⟨Nat.zero_le _, Nat.zero_le _⟩ rfl ?_
        refine xi_if_ne (tgt := 40) C dX6_set_34 (by decide) (fun c27 => ?_) (fun c27 => ?_)
        · have h := ie_i c27 h
          refine xi_aload_n C dX6_set_40 rfl 0 rfl ?_
          refine xi_aload_n C dX6_set_41 rfl 0 rfl ?_
          refine xi_get C dX6_set_42 iw_X6_set_6 0 rfl rfl 0 (by decide) fl_X6_set_7 rfl ?_
          obtain ⟨hld28, e29, h⟩ := ob_i h
          refine xi_callV (As := [.ref (ma 0)]) (o := none) (rest := []) (w2 := (wMo o0 ma st ik le sp nu ++ wAr cI (ma 0) 1898 now ++ wAr cI (ma 1) 1898 thn ++ wAr cI (ma 2) 7592 pst ++ wAr cI (ma 3) 1898 snp ++ wAr cC (ma 4) 80 txt ++ wAr cI (ma 5) 48 hld28 ++ wAr cI (ma 6) 24 far ++ wAr cZ (ma 7) 72 don ++ wAr cI (ma 8) 96 tld ++ wAr cI (ma 9) 24 dep ++ wAr cI (ma 10) 24 bit)) (st2 := []) C k_X6_counts (m_X6_counts D cI cC cZ cR o0 ma (ma 0) st ik le sp nu hld far don now hld28 e29) gX6_set_X6_counts dX6_set_45 ⟨Nat.le_of_ble_eq_true rfl, Nat.le_of_ble_eq_true rfl, Nat.le_of_ble_eq_true rfl⟩ 0 rfl rfl [0, 6, 7, 8, 1] mxC_X6_0_6_7_8_1 rfl [0, 1, 2, 3] rfl mxF_X6_0_6_7_8_1 mxM_X6_0_6_7_8_1 rfl (Nat.le_of_ble_eq_true rfl) ⟨Nat.zero_le _, Nat.zero_le _⟩ rfl ?_
          refine xi_iload_n C dX6_set_48 rfl 1 rfl ?_
          refine xi_if_ne (tgt := 65) C dX6_set_49 (by decide) (fun c30 => ?_) (fun c30 => ?_)
          · have h := ie_i c30 h
            refine xi_aload_n C dX6_set_65 rfl 0 rfl ?_
            refine xi_sipush (v := 1896) C dX6_set_66 (by decide) ?_
            refine xi_iload_n C dX6_set_69 rfl 1 rfl ?_
            refine xi_iadd C dX6_set_70 ?_
            refine xi_iload_n C dX6_set_71 rfl 2 rfl ?_
            obtain ⟨⟨v31, st32, now33, pst34⟩, e35, h⟩ := ob_i h
            refine xi_callV (As := [.int (1896 + p1), .int p2]) (o := some (.int v31)) (rest := []) (w2 := (wMo o0 ma st32 ik le sp nu ++ wAr cI (ma 0) 1898 now33 ++ wAr cI (ma 1) 1898 thn ++ wAr cI (ma 2) 7592 pst34 ++ wAr cI (ma 3) 1898 snp ++ wAr cC (ma 4) 80 txt ++ wAr cI (ma 5) 48 hld28 ++ wAr cI (ma 6) 24 far ++ wAr cZ (ma 7) 72 don ++ wAr cI (ma 8) 96 tld ++ wAr cI (ma 9) 24 dep ++ wAr cI (ma 10) 24 bit)) (st2 := [.int v31]) C k_X6_becomes (m_X6_becomes D cI cC cZ cR o0 ma st ik le sp nu now thn pst snp txt hld28 far don tld dep bit (1896 + p1) p2 v31 st32 now33 pst34 e35) gX6_set_X6_becomes dX6_set_72 ⟨Nat.le_of_ble_eq_true rfl, Nat.le_of_ble_eq_true rfl, Nat.le_of_ble_eq_true rfl⟩ 0 rfl rfl [0, 1, 2, 3, 4, 5, 6, 7, 8, 9, 10, 11] mxC_X6_0_1_2_3_4_5_6_7_8_9_10_11 rfl [0, 1, 2, 3] rfl mxF_X6_0_1_2_3_4_5_6_7_8_9_10_11 mxM_X6_0_1_2_3_4_5_6_7_8_9_10_11 rfl (Nat.le_of_ble_eq_true rfl) ⟨Nat.zero_le _, Nat.zero_le _⟩ rfl ?_
            have w0 := Option.some.inj h
            obtain ⟨q0, w1⟩ := Prod.mk.inj w0
            obtain ⟨q1, w2⟩ := Prod.mk.inj w1
            obtain ⟨q2, w3⟩ := Prod.mk.inj w2
            obtain ⟨q3, w4⟩ := Prod.mk.inj w3
            subst q0
            subst q1
            subst q2
            subst q3
            subst w4
            exact xi_iret C Z dX6_set_75
          · have h := it_i c30 h
            refine xi_aload_n C dX6_set_52 rfl 0 rfl ?_
            obtain ⟨v36, e37, h⟩ := ob_i h
            refine xi_callV (As := []) (o := some (.int v36)) (rest := []) (w2 := (wMo o0 ma st ik le sp nu ++ wAr cI (ma 0) 1898 now ++ wAr cI (ma 1) 1898 thn ++ wAr cI (ma 2) 7592 pst ++ wAr cI (ma 3) 1898 snp ++ wAr cC (ma 4) 80 txt ++ wAr cI (ma 5) 48 hld28 ++ wAr cI (ma 6) 24 far ++ wAr cZ (ma 7) 72 don ++ wAr cI (ma 8) 96 tld ++ wAr cI (ma 9) 24 dep ++ wAr cI (ma 10) 24 bit)) (st2 := [.int v36]) C k_X6_mostHeld (m_X6_mostHeld D cI cC cZ cR o0 ma st ik le sp nu now thn pst snp txt hld28 far don tld dep bit v36 e37) gX6_set_X6_mostHeld dX6_set_53 ⟨Nat.le_of_ble_eq_true rfl, Nat.le_of_ble_eq_true rfl, Nat.le_of_ble_eq_true rfl⟩ 0 rfl rfl [0, 1, 2, 3, 4, 5, 6, 7, 8, 9, 10, 11] mxC_X6_0_1_2_3_4_5_6_7_8_9_10_11 rfl [0, 1, 2, 3] rfl mxF_X6_0_1_2_3_4_5_6_7_8_9_10_11 mxM_X6_0_1_2_3_4_5_6_7_8_9_10_11 rfl (Nat.le_of_ble_eq_true rfl) ⟨Nat.zero_le _, Nat.zero_le _⟩ rfl ?_
            refine xi_iload_n C dX6_set_56 rfl 2 rfl ?_
            refine xi_icmp_le (tgt := 65) C dX6_set_57 (by decide) (fun c38 => ?_) (fun c38 => ?_)
            · have h := it_i c38 h
              refine xi_aload_n C dX6_set_65 rfl 0 rfl ?_
              refine xi_sipush (v := 1896) C dX6_set_66 (by decide) ?_
              refine xi_iload_n C dX6_set_69 rfl 1 rfl ?_
              refine xi_iadd C dX6_set_70 ?_
              refine xi_iload_n C dX6_set_71 rfl 2 rfl ?_
              obtain ⟨⟨v39, st40, now41, pst42⟩, e43, h⟩ := ob_i h
              refine xi_callV (As := [.int (1896 + p1), .int p2]) (o := some (.int v39)) (rest := []) (w2 := (wMo o0 ma st40 ik le sp nu ++ wAr cI (ma 0) 1898 now41 ++ wAr cI (ma 1) 1898 thn ++ wAr cI (ma 2) 7592 pst42 ++ wAr cI (ma 3) 1898 snp ++ wAr cC (ma 4) 80 txt ++ wAr cI (ma 5) 48 hld28 ++ wAr cI (ma 6) 24 far ++ wAr cZ (ma 7) 72 don ++ wAr cI (ma 8) 96 tld ++ wAr cI (ma 9) 24 dep ++ wAr cI (ma 10) 24 bit)) (st2 := [.int v39]) C k_X6_becomes (m_X6_becomes D cI cC cZ cR o0 ma st ik le sp nu now thn pst snp txt hld28 far don tld dep bit (1896 + p1) p2 v39 st40 now41 pst42 e43) gX6_set_X6_becomes dX6_set_72 ⟨Nat.le_of_ble_eq_true rfl, Nat.le_of_ble_eq_true rfl, Nat.le_of_ble_eq_true rfl⟩ 0 rfl rfl [0, 1, 2, 3, 4, 5, 6, 7, 8, 9, 10, 11] mxC_X6_0_1_2_3_4_5_6_7_8_9_10_11 rfl [0, 1, 2, 3] rfl mxF_X6_0_1_2_3_4_5_6_7_8_9_10_11 mxM_X6_0_1_2_3_4_5_6_7_8_9_10_11 rfl (Nat.le_of_ble_eq_true rfl) ⟨Nat.zero_le _, Nat.zero_le _⟩ rfl ?_
              have w0 := Option.some.inj h
              obtain ⟨q0, w1⟩ := Prod.mk.inj w0
              obtain ⟨q1, w2⟩ := Prod.mk.inj w1
              obtain ⟨q2, w3⟩ := Prod.mk.inj w2
              obtain ⟨q3, w4⟩ := Prod.mk.inj w3
              subst q0
              subst q1
              subst q2
              subst q3
              subst w4
              exact xi_iret C Z dX6_set_75
            · have h := ie_i c38 h
              refine xi_bipush (v := (-4)) C dX6_set_60 (by decide) ?_
              refine xi_goto (tgt := 75) C dX6_set_62 (by decide) ?_
              have w0 := Option.some.inj h
              obtain ⟨q0, w1⟩ := Prod.mk.inj w0
              obtain ⟨q1, w2⟩ := Prod.mk.inj w1
              obtain ⟨q2, w3⟩ := Prod.mk.inj w2
              obtain ⟨q3, w4⟩ := Prod.mk.inj w3
              subst q0
              subst q1
              subst q2
              subst q3
              subst w4
              exact xi_iret C Z dX6_set_75
        · have h := it_i c27 h
          refine xi_bipush (v := (-2)) C dX6_set_37 (by decide) ?_
          have w0 := Option.some.inj h
          obtain ⟨q0, w1⟩ := Prod.mk.inj w0
          obtain ⟨q1, w2⟩ := Prod.mk.inj w1
          obtain ⟨q2, w3⟩ := Prod.mk.inj w2
          obtain ⟨q3, w4⟩ := Prod.mk.inj w3
          subst q0
          subst q1
          subst q2
          subst q3
          subst w4
          exact xi_iret C Z dX6_set_39
    · have h := it_i c4 h
      refine xi_iconst (v := 1) C dX6_set_16 (by decide) ?_
      refine xi_goto (tgt := 21) C dX6_set_17 (by decide) ?_
      refine xi_iload_n C dX6_set_21 rfl 1 rfl ?_
      refine xi_if_ne (tgt := 29) C dX6_set_22 (by decide) (fun c44 => ?_) (fun c44 => ?_)
      · have h := ie_i c44 h
        refine xi_bipush (v := 9) C dX6_set_29 (by decide) ?_
        obtain ⟨v45, e46, h⟩ := ob_i h
        refine xi_callS (As := [.int p2, .int 1, .int 9]) (o := some (.int v45)) (rest := []) (w2 := (wMo o0 ma st ik le sp nu ++ wAr cI (ma 0) 1898 now ++ wAr cI (ma 1) 1898 thn ++ wAr cI (ma 2) 7592 pst ++ wAr cI (ma 3) 1898 snp ++ wAr cC (ma 4) 80 txt ++ wAr cI (ma 5) 48 hld ++ wAr cI (ma 6) 24 far ++ wAr cZ (ma 7) 72 don ++ wAr cI (ma 8) 96 tld ++ wAr cI (ma 9) 24 dep ++ wAr cI (ma 10) 24 bit)) (st2 := [.int v45]) C k_X6_in (m_X6_in D cI cC cZ cR p2 1 9 v45 e46) gX6_set_X6_in dX6_set_31 ⟨Nat.le_of_ble_eq_true rfl, Nat.le_of_ble_eq_true rfl, Nat.le_of_ble_eq_true rfl⟩ [] rfl rfl [0, 1, 2, 3] rfl rfl rfl rfl (Nat.le_of_ble_eq_true rfl) ⟨Nat.zero_le _, Nat.zero_le _⟩ rfl ?_
        refine xi_if_ne (tgt := 40) C dX6_set_34 (by decide) (fun c47 => ?_) (fun c47 => ?_)
        · have h := ie_i c47 h
          refine xi_aload_n C dX6_set_40 rfl 0 rfl ?_
          refine xi_aload_n C dX6_set_41 rfl 0 rfl ?_
          refine xi_get C dX6_set_42 iw_X6_set_6 0 rfl rfl 0 (by decide) fl_X6_set_7 rfl ?_
          obtain ⟨hld48, e49, h⟩ := ob_i h
          refine xi_callV (As := [.ref (ma 0)]) (o := none) (rest := []) (w2 := (wMo o0 ma st ik le sp nu ++ wAr cI (ma 0) 1898 now ++ wAr cI (ma 1) 1898 thn ++ wAr cI (ma 2) 7592 pst ++ wAr cI (ma 3) 1898 snp ++ wAr cC (ma 4) 80 txt ++ wAr cI (ma 5) 48 hld48 ++ wAr cI (ma 6) 24 far ++ wAr cZ (ma 7) 72 don ++ wAr cI (ma 8) 96 tld ++ wAr cI (ma 9) 24 dep ++ wAr cI (ma 10) 24 bit)) (st2 := []) C k_X6_counts (m_X6_counts D cI cC cZ cR o0 ma (ma 0) st ik le sp nu hld far don now hld48 e49) gX6_set_X6_counts dX6_set_45 ⟨Nat.le_of_ble_eq_true rfl, Nat.le_of_ble_eq_true rfl, Nat.le_of_ble_eq_true rfl⟩ 0 rfl rfl [0, 6, 7, 8, 1] mxC_X6_0_6_7_8_1 rfl [0, 1, 2, 3] rfl mxF_X6_0_6_7_8_1 mxM_X6_0_6_7_8_1 rfl (Nat.le_of_ble_eq_true rfl) ⟨Nat.zero_le _, Nat.zero_le _⟩ rfl ?_
          refine xi_iload_n C dX6_set_48 rfl 1 rfl ?_
          refine xi_if_ne (tgt := 65) C dX6_set_49 (by decide) (fun c50 => ?_) (fun c50 => ?_)
          · have h := ie_i c50 h
            refine xi_aload_n C dX6_set_65 rfl 0 rfl ?_
            refine xi_sipush (v := 1896) C dX6_set_66 (by decide) ?_
            refine xi_iload_n C dX6_set_69 rfl 1 rfl ?_
            refine xi_iadd C dX6_set_70 ?_
            refine xi_iload_n C dX6_set_71 rfl 2 rfl ?_
            obtain ⟨⟨v51, st52, now53, pst54⟩, e55, h⟩ := ob_i h
            refine xi_callV (As := [.int (1896 + p1), .int p2]) (o := some (.int v51)) (rest := []) (w2 := (wMo o0 ma st52 ik le sp nu ++ wAr cI (ma 0) 1898 now53 ++ wAr cI (ma 1) 1898 thn ++ wAr cI (ma 2) 7592 pst54 ++ wAr cI (ma 3) 1898 snp ++ wAr cC (ma 4) 80 txt ++ wAr cI (ma 5) 48 hld48 ++ wAr cI (ma 6) 24 far ++ wAr cZ (ma 7) 72 don ++ wAr cI (ma 8) 96 tld ++ wAr cI (ma 9) 24 dep ++ wAr cI (ma 10) 24 bit)) (st2 := [.int v51]) C k_X6_becomes (m_X6_becomes D cI cC cZ cR o0 ma st ik le sp nu now thn pst snp txt hld48 far don tld dep bit (1896 + p1) p2 v51 st52 now53 pst54 e55) gX6_set_X6_becomes dX6_set_72 ⟨Nat.le_of_ble_eq_true rfl, Nat.le_of_ble_eq_true rfl, Nat.le_of_ble_eq_true rfl⟩ 0 rfl rfl [0, 1, 2, 3, 4, 5, 6, 7, 8, 9, 10, 11] mxC_X6_0_1_2_3_4_5_6_7_8_9_10_11 rfl [0, 1, 2, 3] rfl mxF_X6_0_1_2_3_4_5_6_7_8_9_10_11 mxM_X6_0_1_2_3_4_5_6_7_8_9_10_11 rfl (Nat.le_of_ble_eq_true rfl) ⟨Nat.zero_le _, Nat.zero_le _⟩ rfl ?_
            have w0 := Option.some.inj h
            obtain ⟨q0, w1⟩ := Prod.mk.inj w0
            obtain ⟨q1, w2⟩ := Prod.mk.inj w1
            obtain ⟨q2, w3⟩ := Prod.mk.inj w2
            obtain ⟨q3, w4⟩ := Prod.mk.inj w3
            subst q0
            subst q1
            subst q2
            subst q3
            subst w4
            exact xi_iret C Z dX6_set_75
          · have h := it_i c50 h
            refine xi_aload_n C dX6_set_52 rfl 0 rfl ?_
            obtain ⟨v56, e57, h⟩ := ob_i h
            refine xi_callV (As := []) (o := some (.int v56)) (rest := []) (w2 := (wMo o0 ma st ik le sp nu ++ wAr cI (ma 0) 1898 now ++ wAr cI (ma 1) 1898 thn ++ wAr cI (ma 2) 7592 pst ++ wAr cI (ma 3) 1898 snp ++ wAr cC (ma 4) 80 txt ++ wAr cI (ma 5) 48 hld48 ++ wAr cI (ma 6) 24 far ++ wAr cZ (ma 7) 72 don ++ wAr cI (ma 8) 96 tld ++ wAr cI (ma 9) 24 dep ++ wAr cI (ma 10) 24 bit)) (st2 := [.int v56]) C k_X6_mostHeld (m_X6_mostHeld D cI cC cZ cR o0 ma st ik le sp nu now thn pst snp txt hld48 far don tld dep bit v56 e57) gX6_set_X6_mostHeld dX6_set_53 ⟨Nat.le_of_ble_eq_true rfl, Nat.le_of_ble_eq_true rfl, Nat.le_of_ble_eq_true rfl⟩ 0 rfl rfl [0, 1, 2, 3, 4, 5, 6, 7, 8, 9, 10, 11] mxC_X6_0_1_2_3_4_5_6_7_8_9_10_11 rfl [0, 1, 2, 3] rfl mxF_X6_0_1_2_3_4_5_6_7_8_9_10_11 mxM_X6_0_1_2_3_4_5_6_7_8_9_10_11 rfl (Nat.le_of_ble_eq_true rfl) ⟨Nat.zero_le _, Nat.zero_le _⟩ rfl ?_
            refine xi_iload_n C dX6_set_56 rfl 2 rfl ?_
            refine xi_icmp_le (tgt := 65) C dX6_set_57 (by decide) (fun c58 => ?_) (fun c58 => ?_)
            · have h := it_i c58 h
              refine xi_aload_n C dX6_set_65 rfl 0 rfl ?_
              refine xi_sipush (v := 1896) C dX6_set_66 (by decide) ?_
              refine xi_iload_n C dX6_set_69 rfl 1 rfl ?_
              refine xi_iadd C dX6_set_70 ?_
              refine xi_iload_n C dX6_set_71 rfl 2 rfl ?_
              obtain ⟨⟨v59, st60, now61, pst62⟩, e63, h⟩ := ob_i h
              refine xi_callV (As := [.int (1896 + p1), .int p2]) (o := some (.int v59)) (rest := []) (w2 := (wMo o0 ma st60 ik le sp nu ++ wAr cI (ma 0) 1898 now61 ++ wAr cI (ma 1) 1898 thn ++ wAr cI (ma 2) 7592 pst62 ++ wAr cI (ma 3) 1898 snp ++ wAr cC (ma 4) 80 txt ++ wAr cI (ma 5) 48 hld48 ++ wAr cI (ma 6) 24 far ++ wAr cZ (ma 7) 72 don ++ wAr cI (ma 8) 96 tld ++ wAr cI (ma 9) 24 dep ++ wAr cI (ma 10) 24 bit)) (st2 := [.int v59]) C k_X6_becomes (m_X6_becomes D cI cC cZ cR o0 ma st ik le sp nu now thn pst snp txt hld48 far don tld dep bit (1896 + p1) p2 v59 st60 now61 pst62 e63) gX6_set_X6_becomes dX6_set_72 ⟨Nat.le_of_ble_eq_true rfl, Nat.le_of_ble_eq_true rfl, Nat.le_of_ble_eq_true rfl⟩ 0 rfl rfl [0, 1, 2, 3, 4, 5, 6, 7, 8, 9, 10, 11] mxC_X6_0_1_2_3_4_5_6_7_8_9_10_11 rfl [0, 1, 2, 3] rfl mxF_X6_0_1_2_3_4_5_6_7_8_9_10_11 mxM_X6_0_1_2_3_4_5_6_7_8_9_10_11 rfl (Nat.le_of_ble_eq_true rfl) ⟨Nat.zero_le _, Nat.zero_le _⟩ rfl ?_
              have w0 := Option.some.inj h
              obtain ⟨q0, w1⟩ := Prod.mk.inj w0
              obtain ⟨q1, w2⟩ := Prod.mk.inj w1
              obtain ⟨q2, w3⟩ := Prod.mk.inj w2
              obtain ⟨q3, w4⟩ := Prod.mk.inj w3
              subst q0
              subst q1
              subst q2
              subst q3
              subst w4
              exact xi_iret C Z dX6_set_75
            · have h := ie_i c58 h
              refine xi_bipush (v := (-4)) C dX6_set_60 (by decide) ?_
              refine xi_goto (tgt := 75) C dX6_set_62 (by decide) ?_
              have w0 := Option.some.inj h
              obtain ⟨q0, w1⟩ := Prod.mk.inj w0
              obtain ⟨q1, w2⟩ := Prod.mk.inj w1
              obtain ⟨q2, w3⟩ := Prod.mk.inj w2
              obtain ⟨q3, w4⟩ := Prod.mk.inj w3
              subst q0
              subst q1
              subst q2
              subst q3
              subst w4
              exact xi_iret C Z dX6_set_75
        · have h := it_i c47 h
          refine xi_bipush (v := (-2)) C dX6_set_37 (by decide) ?_
          have w0 := Option.some.inj h
          obtain ⟨q0, w1⟩ := Prod.mk.inj w0
          obtain ⟨q1, w2⟩ := Prod.mk.inj w1
          obtain ⟨q2, w3⟩ := Prod.mk.inj w2
          obtain ⟨q3, w4⟩ := Prod.mk.inj w3
          subst q0
          subst q1
          subst q2
          subst q3
          subst w4
          exact xi_iret C Z dX6_set_39
      · have h := it_i c44 h
        refine xi_iconst (v := 4) C dX6_set_25 (by decide) ?_
        refine xi_goto (tgt := 31) C dX6_set_26 (by decide) ?_
        obtain ⟨v64, e65, h⟩ := ob_i h
        refine xi_callS (As := [.int p2, .int 1, .int 4]) (o := some (.int v64)) (rest := []) (w2 := (wMo o0 ma st ik le sp nu ++ wAr cI (ma 0) 1898 now ++ wAr cI (ma 1) 1898 thn ++ wAr cI (ma 2) 7592 pst ++ wAr cI (ma 3) 1898 snp ++ wAr cC (ma 4) 80 txt ++ wAr cI (ma 5) 48 hld ++ wAr cI (ma 6) 24 far ++ wAr cZ (ma 7) 72 don ++ wAr cI (ma 8) 96 tld ++ wAr cI (ma 9) 24 dep ++ wAr cI (ma 10) 24 bit)) (st2 := [.int v64]) C k_X6_in (m_X6_in D cI cC cZ cR p2 1 4 v64 e65) gX6_set_X6_in dX6_set_31 ⟨Nat.le_of_ble_eq_true rfl, Nat.le_of_ble_eq_true rfl, Nat.le_of_ble_eq_true rfl⟩ [] rfl rfl [0, 1, 2, 3] rfl rfl rfl rfl (Nat.le_of_ble_eq_true rfl) ⟨Nat.zero_le _, Nat.zero_le _⟩ rfl ?_
        refine xi_if_ne (tgt := 40) C dX6_set_34 (by decide) (fun c66 => ?_) (fun c66 => ?_)
        · have h := ie_i c66 h
          refine xi_aload_n C dX6_set_40 rfl 0 rfl ?_
          refine xi_aload_n C dX6_set_41 rfl 0 rfl ?_
          refine xi_get C dX6_set_42 iw_X6_set_6 0 rfl rfl 0 (by decide) fl_X6_set_7 rfl ?_
          obtain ⟨hld67, e68, h⟩ := ob_i h
          refine xi_callV (As := [.ref (ma 0)]) (o := none) (rest := []) (w2 := (wMo o0 ma st ik le sp nu ++ wAr cI (ma 0) 1898 now ++ wAr cI (ma 1) 1898 thn ++ wAr cI (ma 2) 7592 pst ++ wAr cI (ma 3) 1898 snp ++ wAr cC (ma 4) 80 txt ++ wAr cI (ma 5) 48 hld67 ++ wAr cI (ma 6) 24 far ++ wAr cZ (ma 7) 72 don ++ wAr cI (ma 8) 96 tld ++ wAr cI (ma 9) 24 dep ++ wAr cI (ma 10) 24 bit)) (st2 := []) C k_X6_counts (m_X6_counts D cI cC cZ cR o0 ma (ma 0) st ik le sp nu hld far don now hld67 e68) gX6_set_X6_counts dX6_set_45 ⟨Nat.le_of_ble_eq_true rfl, Nat.le_of_ble_eq_true rfl, Nat.le_of_ble_eq_true rfl⟩ 0 rfl rfl [0, 6, 7, 8, 1] mxC_X6_0_6_7_8_1 rfl [0, 1, 2, 3] rfl mxF_X6_0_6_7_8_1 mxM_X6_0_6_7_8_1 rfl (Nat.le_of_ble_eq_true rfl) ⟨Nat.zero_le _, Nat.zero_le _⟩ rfl ?_
          refine xi_iload_n C dX6_set_48 rfl 1 rfl ?_
          refine xi_if_ne (tgt := 65) C dX6_set_49 (by decide) (fun c69 => ?_) (fun c69 => ?_)
          · have h := ie_i c69 h
            refine xi_aload_n C dX6_set_65 rfl 0 rfl ?_
            refine xi_sipush (v := 1896) C dX6_set_66 (by decide) ?_
            refine xi_iload_n C dX6_set_69 rfl 1 rfl ?_
            refine xi_iadd C dX6_set_70 ?_
            refine xi_iload_n C dX6_set_71 rfl 2 rfl ?_
            obtain ⟨⟨v70, st71, now72, pst73⟩, e74, h⟩ := ob_i h
            refine xi_callV (As := [.int (1896 + p1), .int p2]) (o := some (.int v70)) (rest := []) (w2 := (wMo o0 ma st71 ik le sp nu ++ wAr cI (ma 0) 1898 now72 ++ wAr cI (ma 1) 1898 thn ++ wAr cI (ma 2) 7592 pst73 ++ wAr cI (ma 3) 1898 snp ++ wAr cC (ma 4) 80 txt ++ wAr cI (ma 5) 48 hld67 ++ wAr cI (ma 6) 24 far ++ wAr cZ (ma 7) 72 don ++ wAr cI (ma 8) 96 tld ++ wAr cI (ma 9) 24 dep ++ wAr cI (ma 10) 24 bit)) (st2 := [.int v70]) C k_X6_becomes (m_X6_becomes D cI cC cZ cR o0 ma st ik le sp nu now thn pst snp txt hld67 far don tld dep bit (1896 + p1) p2 v70 st71 now72 pst73 e74) gX6_set_X6_becomes dX6_set_72 ⟨Nat.le_of_ble_eq_true rfl, Nat.le_of_ble_eq_true rfl, Nat.le_of_ble_eq_true rfl⟩ 0 rfl rfl [0, 1, 2, 3, 4, 5, 6, 7, 8, 9, 10, 11] mxC_X6_0_1_2_3_4_5_6_7_8_9_10_11 rfl [0, 1, 2, 3] rfl mxF_X6_0_1_2_3_4_5_6_7_8_9_10_11 mxM_X6_0_1_2_3_4_5_6_7_8_9_10_11 rfl (Nat.le_of_ble_eq_true rfl) ⟨Nat.zero_le _, Nat.zero_le _⟩ rfl ?_
            have w0 := Option.some.inj h
            obtain ⟨q0, w1⟩ := Prod.mk.inj w0
            obtain ⟨q1, w2⟩ := Prod.mk.inj w1
            obtain ⟨q2, w3⟩ := Prod.mk.inj w2
            obtain ⟨q3, w4⟩ := Prod.mk.inj w3
            subst q0
            subst q1
            subst q2
            subst q3
            subst w4
            exact xi_iret C Z dX6_set_75
          · have h := it_i c69 h
            refine xi_aload_n C dX6_set_52 rfl 0 rfl ?_
            obtain ⟨v75, e76, h⟩ := ob_i h
            refine xi_callV (As := []) (o := some (.int v75)) (rest := []) (w2 := (wMo o0 ma st ik le sp nu ++ wAr cI (ma 0) 1898 now ++ wAr cI (ma 1) 1898 thn ++ wAr cI (ma 2) 7592 pst ++ wAr cI (ma 3) 1898 snp ++ wAr cC (ma 4) 80 txt ++ wAr cI (ma 5) 48 hld67 ++ wAr cI (ma 6) 24 far ++ wAr cZ (ma 7) 72 don ++ wAr cI (ma 8) 96 tld ++ wAr cI (ma 9) 24 dep ++ wAr cI (ma 10) 24 bit)) (st2 := [.int v75]) C k_X6_mostHeld (m_X6_mostHeld D cI cC cZ cR o0 ma st ik le sp nu now thn pst snp txt hld67 far don tld dep bit v75 e76) gX6_set_X6_mostHeld dX6_set_53 ⟨Nat.le_of_ble_eq_true rfl, Nat.le_of_ble_eq_true rfl, Nat.le_of_ble_eq_true rfl⟩ 0 rfl rfl [0, 1, 2, 3, 4, 5, 6, 7, 8, 9, 10, 11] mxC_X6_0_1_2_3_4_5_6_7_8_9_10_11 rfl [0, 1, 2, 3] rfl mxF_X6_0_1_2_3_4_5_6_7_8_9_10_11 mxM_X6_0_1_2_3_4_5_6_7_8_9_10_11 rfl (Nat.le_of_ble_eq_true rfl) ⟨Nat.zero_le _, Nat.zero_le _⟩ rfl ?_
            refine xi_iload_n C dX6_set_56 rfl 2 rfl ?_
            refine xi_icmp_le (tgt := 65) C dX6_set_57 (by decide) (fun c77 => ?_) (fun c77 => ?_)
            · have h := it_i c77 h
              refine xi_aload_n C dX6_set_65 rfl 0 rfl ?_
              refine xi_sipush (v := 1896) C dX6_set_66 (by decide) ?_
              refine xi_iload_n C dX6_set_69 rfl 1 rfl ?_
              refine xi_iadd C dX6_set_70 ?_
              refine xi_iload_n C dX6_set_71 rfl 2 rfl ?_
              obtain ⟨⟨v78, st79, now80, pst81⟩, e82, h⟩ := ob_i h
              refine xi_callV (As := [.int (1896 + p1), .int p2]) (o := some (.int v78)) (rest := []) (w2 := (wMo o0 ma st79 ik le sp nu ++ wAr cI (ma 0) 1898 now80 ++ wAr cI (ma 1) 1898 thn ++ wAr cI (ma 2) 7592 pst81 ++ wAr cI (ma 3) 1898 snp ++ wAr cC (ma 4) 80 txt ++ wAr cI (ma 5) 48 hld67 ++ wAr cI (ma 6) 24 far ++ wAr cZ (ma 7) 72 don ++ wAr cI (ma 8) 96 tld ++ wAr cI (ma 9) 24 dep ++ wAr cI (ma 10) 24 bit)) (st2 := [.int v78]) C k_X6_becomes (m_X6_becomes D cI cC cZ cR o0 ma st ik le sp nu now thn pst snp txt hld67 far don tld dep bit (1896 + p1) p2 v78 st79 now80 pst81 e82) gX6_set_X6_becomes dX6_set_72 ⟨Nat.le_of_ble_eq_true rfl, Nat.le_of_ble_eq_true rfl, Nat.le_of_ble_eq_true rfl⟩ 0 rfl rfl [0, 1, 2, 3, 4, 5, 6, 7, 8, 9, 10, 11] mxC_X6_0_1_2_3_4_5_6_7_8_9_10_11 rfl [0, 1, 2, 3] rfl mxF_X6_0_1_2_3_4_5_6_7_8_9_10_11 mxM_X6_0_1_2_3_4_5_6_7_8_9_10_11 rfl (Nat.le_of_ble_eq_true rfl) ⟨Nat.zero_le _, Nat.zero_le _⟩ rfl ?_
              have w0 := Option.some.inj h
              obtain ⟨q0, w1⟩ := Prod.mk.inj w0
              obtain ⟨q1, w2⟩ := Prod.mk.inj w1
              obtain ⟨q2, w3⟩ := Prod.mk.inj w2
              obtain ⟨q3, w4⟩ := Prod.mk.inj w3
              subst q0
              subst q1
              subst q2
              subst q3
              subst w4
              exact xi_iret C Z dX6_set_75
            · have h := ie_i c77 h
              refine xi_bipush (v := (-4)) C dX6_set_60 (by decide) ?_
              refine xi_goto (tgt := 75) C dX6_set_62 (by decide) ?_
              have w0 := Option.some.inj h
              obtain ⟨q0, w1⟩ := Prod.mk.inj w0
              obtain ⟨q1, w2⟩ := Prod.mk.inj w1
              obtain ⟨q2, w3⟩ := Prod.mk.inj w2
              obtain ⟨q3, w4⟩ := Prod.mk.inj w3
              subst q0
              subst q1
              subst q2
              subst q3
              subst w4
              exact xi_iret C Z dX6_set_75
        · have h := it_i c66 h
          refine xi_bipush (v := (-2)) C dX6_set_37 (by decide) ?_
          have w0 := Option.some.inj h
          obtain ⟨q0, w1⟩ := Prod.mk.inj w0
          obtain ⟨q1, w2⟩ := Prod.mk.inj w1
          obtain ⟨q2, w3⟩ := Prod.mk.inj w2
          obtain ⟨q3, w4⟩ := Prod.mk.inj w3
          subst q0
          subst q1
          subst q2
          subst q3
          subst w4
          exact xi_iret C Z dX6_set_39
  · have h := it_i c3 h
    refine xi_iconst (v := (-1)) C dX6_set_9 (by decide) ?_
    have w0 := Option.some.inj h
    obtain ⟨q0, w1⟩ := Prod.mk.inj w0
    obtain ⟨q1, w2⟩ := Prod.mk.inj w1
    obtain ⟨q2, w3⟩ := Prod.mk.inj w2
    obtain ⟨q3, w4⟩ := Prod.mk.inj w3
    subst q0
    subst q1
    subst q2
    subst q3
    subst w4
    exact xi_iret C Z dX6_set_10
def f_X6_type (le : Int32) (txt : Nat → Int32) (p1 : Int32) : Option (Int32 × Int32 × (Nat → Int32)) :=
  if le = 80 then
    some ((-6), le, txt)
  else
    (xr_w txt 80 le (vp_nar .char p1)).bind fun txt3 =>
    some (le + 1, le + 1, txt3)
theorem k_X6_type : xb_Y yX6_type cX6_type wsX6_type 2 (some .int) { frames := 0, cells := 0, slots := 0, locals := 0 } 1 := ⟨⟨_, rfl⟩, by decide, ⟨by decide, by decide, by decide +kernel⟩, rfl, rfl⟩
theorem fl_X6_type_22 : Cond.fieldLink RX6 22 "LookupBoardModel" "text" "[C" ∈ wsX6_type := List.mem_of_getElem? (i := 2) rfl
theorem fl_X6_type_157 : Cond.fieldLink RX6 157 "LookupBoardModel" "length" "I" ∈ wsX6_type := List.mem_of_getElem? (i := 1) rfl
theorem iw_X6_type_6 : ∀ w ∈ wsX60, w ∈ wsX6_type := fun w h => List.mem_cons_of_mem _ (List.mem_append_right _ h)
set_option maxHeartbeats 4000000 in
set_option maxRecDepth 100000 in
theorem m_X6_type (D : va_G) (cI cC cZ cR : ClassId) (o0 : Nat) (ma : Nat → Nat) (st : Int32) (ik : Int32) (le : Int32) (sp : Int32) (nu : Int32) (now : Nat → Int32) (thn : Nat → Int32) (pst : Nat → Int32) (snp : Nat → Int32) (txt : Nat → Int32) (hld : Nat → Int32) (far : Nat → Int32) (don : Nat → Int32) (tld : Nat → Int32) (dep : Nat → Int32) (bit : Nat → Int32) (p1 : Int32) (r : Int32) (le' : Int32) (txt' : Nat → Int32) (h : f_X6_type le txt p1 = some (r, le', txt')) : xb_M cX6_type wsX6_type RX6 { frames := 0, cells := 0, slots := 0, locals := 0 } (some .int) 2 (xb_ty cI cC cZ cR) D [.ref o0, .int p1] (wMo o0 ma st ik le sp nu ++ wAr cI (ma 0) 1898 now ++ wAr cI (ma 1) 1898 thn ++ wAr cI (ma 2) 7592 pst ++ wAr cI (ma 3) 1898 snp ++ wAr cC (ma 4) 80 txt ++ wAr cI (ma 5) 48 hld ++ wAr cI (ma 6) 24 far ++ wAr cZ (ma 7) 72 don ++ wAr cI (ma 8) 96 tld ++ wAr cI (ma 9) 24 dep ++ wAr cI (ma 10) 24 bit) (some (.int r)) (wMo o0 ma st ik le' sp nu ++ wAr cI (ma 0) 1898 now ++ wAr cI (ma 1) 1898 thn ++ wAr cI (ma 2) 7592 pst ++ wAr cI (ma 3) 1898 snp ++ wAr cC (ma 4) 80 txt' ++ wAr cI (ma 5) 48 hld ++ wAr cI (ma 6) 24 far ++ wAr cZ (ma 7) 72 don ++ wAr cI (ma 8) 96 tld ++ wAr cI (ma 9) 24 dep ++ wAr cI (ma 10) 24 bit) := by
  intro X C Z
  show xb_G X 0 0 (wMo o0 ma st ik le sp nu ++ wAr cI (ma 0) 1898 now ++ wAr cI (ma 1) 1898 thn ++ wAr cI (ma 2) 7592 pst ++ wAr cI (ma 3) 1898 snp ++ wAr cC (ma 4) 80 txt ++ wAr cI (ma 5) 48 hld ++ wAr cI (ma 6) 24 far ++ wAr cZ (ma 7) 72 don ++ wAr cI (ma 8) 96 tld ++ wAr cI (ma 9) 24 dep ++ wAr cI (ma 10) 24 bit) [(0, .ref o0), (1, .int p1)] 0 []
  unfold f_X6_type at h
  refine xi_aload_n C dX6_type_0 rfl 0 rfl ?_
  refine xi_get C dX6_type_1 iw_X6_type_6 0 rfl rfl 7 (by decide) fl_X6_type_157 rfl ?_
  refine xi_bipush (v := 80) C dX6_type_4 (by decide) ?_
  refine xi_icmp_ne (tgt := 12) C dX6_type_6 (by decide) (fun c1 => ?_) (fun c1 => ?_)
  · have h := ie_i c1 h
    refine xi_aload_n C dX6_type_12 rfl 0 rfl ?_
    refine xi_get C dX6_type_13 iw_X6_type_6 0 rfl rfl 6 (by decide) fl_X6_type_22 rfl ?_
    refine xi_aload_n C dX6_type_16 rfl 0 rfl ?_
    refine xi_get C dX6_type_17 iw_X6_type_6 0 rfl rfl 7 (by decide) fl_X6_type_157 rfl ?_
    refine xi_iload_n C dX6_type_20 rfl 1 rfl ?_
    obtain ⟨txt3, e2, h⟩ := ob_i h
    refine xi_cast (w2 := (wMo o0 ma st ik le sp nu ++ wAr cI (ma 0) 1898 now ++ wAr cI (ma 1) 1898 thn ++ wAr cI (ma 2) 7592 pst ++ wAr cI (ma 3) 1898 snp ++ wAr cC (ma 4) 80 txt3 ++ wAr cI (ma 5) 48 hld ++ wAr cI (ma 6) 24 far ++ wAr cZ (ma 7) 72 don ++ wAr cI (ma 8) 96 tld ++ wAr cI (ma 9) 24 dep ++ wAr cI (ma 10) 24 bit)) C dX6_type_21 5 1 rfl rfl e2 rfl ?_
    refine xi_aload_n C dX6_type_22 rfl 0 rfl ?_
    refine xi_dup C dX6_type_23 rfl ?_
    refine xi_get C dX6_type_24 iw_X6_type_6 0 rfl rfl 7 (by decide) fl_X6_type_157 rfl ?_
    refine xi_iconst (v := 1) C dX6_type_27 (by decide) ?_
    refine xi_iadd C dX6_type_28 ?_
    refine xi_put (ty := .int) (w2 := (wMo o0 ma st ik (le + 1) sp nu ++ wAr cI (ma 0) 1898 now ++ wAr cI (ma 1) 1898 thn ++ wAr cI (ma 2) 7592 pst ++ wAr cI (ma 3) 1898 snp ++ wAr cC (ma 4) 80 txt3 ++ wAr cI (ma 5) 48 hld ++ wAr cI (ma 6) 24 far ++ wAr cZ (ma 7) 72 don ++ wAr cI (ma 8) 96 tld ++ wAr cI (ma 9) 24 dep ++ wAr cI (ma 10) 24 bit)) C dX6_type_29 iw_X6_type_6 tyX6 tyX6_ok nmX6 0 rfl rfl 7 (by decide) fl_X6_type_157 rfl (by decide +kernel) (by rfl) (by rfl) (Nat.le_of_ble_eq_true rfl) rfl ?_
    refine xi_aload_n C dX6_type_32 rfl 0 rfl ?_
    refine xi_get C dX6_type_33 iw_X6_type_6 0 rfl rfl 7 (by decide) fl_X6_type_157 rfl ?_
    have w0 := Option.some.inj h
    obtain ⟨q0, w1⟩ := Prod.mk.inj w0
    obtain ⟨q1, w2⟩ := Prod.mk.inj w1
    subst q0
    subst q1
    subst w2
    exact xi_iret C Z dX6_type_36
  · have h := it_i c1 h
    refine xi_bipush (v := (-6)) C dX6_type_9 (by decide) ?_
    have w0 := Option.some.inj h
    obtain ⟨q0, w1⟩ := Prod.mk.inj w0
    obtain ⟨q1, w2⟩ := Prod.mk.inj w1
    subst q0
    subst q1
    subst w2
    exact xi_iret C Z dX6_type_11
def f_X6_clearText (le : Int32) : Option (Int32 × Int32) :=
  some (le, 0)
theorem k_X6_clearText : xb_Y yX6_clearText cX6_clearText wsX6_clearText 2 (some .int) { frames := 0, cells := 0, slots := 0, locals := 0 } 0 := ⟨⟨_, rfl⟩, by decide, ⟨by decide, by decide, by decide +kernel⟩, rfl, rfl⟩
theorem fl_X6_clearText_157 : Cond.fieldLink RX6 157 "LookupBoardModel" "length" "I" ∈ wsX6_clearText := List.mem_of_getElem? (i := 1) rfl
theorem iw_X6_clearText_6 : ∀ w ∈ wsX60, w ∈ wsX6_clearText := fun w h => List.mem_cons_of_mem _ (List.mem_append_right _ h)
set_option maxHeartbeats 4000000 in
set_option maxRecDepth 100000 in
theorem m_X6_clearText (D : va_G) (cI cC cZ cR : ClassId) (o0 : Nat) (ma : Nat → Nat) (st : Int32) (ik : Int32) (le : Int32) (sp : Int32) (nu : Int32) (now : Nat → Int32) (thn : Nat → Int32) (pst : Nat → Int32) (snp : Nat → Int32) (txt : Nat → Int32) (hld : Nat → Int32) (far : Nat → Int32) (don : Nat → Int32) (tld : Nat → Int32) (dep : Nat → Int32) (bit : Nat → Int32) (r : Int32) (le' : Int32) (h : f_X6_clearText le = some (r, le')) : xb_M cX6_clearText wsX6_clearText RX6 { frames := 0, cells := 0, slots := 0, locals := 0 } (some .int) 2 (xb_ty cI cC cZ cR) D [.ref o0] (wMo o0 ma st ik le sp nu ++ wAr cI (ma 0) 1898 now ++ wAr cI (ma 1) 1898 thn ++ wAr cI (ma 2) 7592 pst ++ wAr cI (ma 3) 1898 snp ++ wAr cC (ma 4) 80 txt ++ wAr cI (ma 5) 48 hld ++ wAr cI (ma 6) 24 far ++ wAr cZ (ma 7) 72 don ++ wAr cI (ma 8) 96 tld ++ wAr cI (ma 9) 24 dep ++ wAr cI (ma 10) 24 bit) (some (.int r)) (wMo o0 ma st ik le' sp nu ++ wAr cI (ma 0) 1898 now ++ wAr cI (ma 1) 1898 thn ++ wAr cI (ma 2) 7592 pst ++ wAr cI (ma 3) 1898 snp ++ wAr cC (ma 4) 80 txt ++ wAr cI (ma 5) 48 hld ++ wAr cI (ma 6) 24 far ++ wAr cZ (ma 7) 72 don ++ wAr cI (ma 8) 96 tld ++ wAr cI (ma 9) 24 dep ++ wAr cI (ma 10) 24 bit) := by
  intro X C Z
  show xb_G X 0 0 (wMo o0 ma st ik le sp nu ++ wAr cI (ma 0) 1898 now ++ wAr cI (ma 1) 1898 thn ++ wAr cI (ma 2) 7592 pst ++ wAr cI (ma 3) 1898 snp ++ wAr cC (ma 4) 80 txt ++ wAr cI (ma 5) 48 hld ++ wAr cI (ma 6) 24 far ++ wAr cZ (ma 7) 72 don ++ wAr cI (ma 8) 96 tld ++ wAr cI (ma 9) 24 dep ++ wAr cI (ma 10) 24 bit) [(0, .ref o0)] 0 []
  unfold f_X6_clearText at h
  refine xi_aload_n C dX6_clearText_0 rfl 0 rfl ?_
  refine xi_get C dX6_clearText_1 iw_X6_clearText_6 0 rfl rfl 7 (by decide) fl_X6_clearText_157 rfl ?_
  refine xi_istore_n (lv2 := [(0, .ref o0), (1, .int le)]) C dX6_clearText_4 rfl (by decide) [0] [1, 0] rfl ?_
  refine xi_aload_n C dX6_clearText_5 rfl 0 rfl ?_
  refine xi_iconst (v := 0) C dX6_clearText_6 (by decide) ?_
  refine xi_put (ty := .int) (w2 := (wMo o0 ma st ik 0 sp nu ++ wAr cI (ma 0) 1898 now ++ wAr cI (ma 1) 1898 thn ++ wAr cI (ma 2) 7592 pst ++ wAr cI (ma 3) 1898 snp ++ wAr cC (ma 4) 80 txt ++ wAr cI (ma 5) 48 hld ++ wAr cI (ma 6) 24 far ++ wAr cZ (ma 7) 72 don ++ wAr cI (ma 8) 96 tld ++ wAr cI (ma 9) 24 dep ++ wAr cI (ma 10) 24 bit)) C dX6_clearText_7 iw_X6_clearText_6 tyX6 tyX6_ok nmX6 0 rfl rfl 7 (by decide) fl_X6_clearText_157 rfl (by decide +kernel) (by rfl) (by rfl) (Nat.le_of_ble_eq_true rfl) rfl ?_
  refine xi_iload_n C dX6_clearText_10 rfl 1 rfl ?_
  have w0 := Option.some.inj h
  obtain ⟨q0, w1⟩ := Prod.mk.inj w0
  subst q0
  subst w1
  exact xi_iret C Z dX6_clearText_11
