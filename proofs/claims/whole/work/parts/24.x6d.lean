def f_X6_isLaid_101 (rr_101 : Nat → Int32) (x2_101 : Int32) (x5_101 : Int32) (k : (Nat → Int32) → Option (Int32 × (Nat → Int32) × (Nat → Int32) × (Nat → Int32))) : Nat → Int32 → (Nat → Int32) → Option (Int32 × (Nat → Int32) × (Nat → Int32) × (Nat → Int32))
  | 0, _, _ => none
  | n + 1, x6_101, hld_101 =>
    if x5_101 ≤ x6_101 then
      k hld_101
    else
      (xr_d rr_101 1898 (((168 + (24 * x2_101)) + x6_101) - 1)).bind fun v21 =>
      (xr_d rr_101 1898 ((168 + (24 * x2_101)) + x6_101)).bind fun v23 =>
      (f_X6_segment v21 v23).bind fun v25 =>
      (xr_d hld_101 48 v25).bind fun v27 =>
      (xr_w hld_101 48 v25 (v27 + 1)).bind fun hld30 =>
      f_X6_isLaid_101 rr_101 x2_101 x5_101 k n (x6_101 + 1) hld30
def f_X6_isLaid_50 (hld_50 : Nat → Int32) (far_50 : Nat → Int32) (x2_50 : Int32) (x3_50 : Int32) (k : Int32 → (Nat → Int32) → Option (Int32 × (Nat → Int32) × (Nat → Int32) × (Nat → Int32))) : Nat → Int32 → Int32 → (Nat → Int32) → Option (Int32 × (Nat → Int32) × (Nat → Int32) × (Nat → Int32))
  | 0, _, _, _ => none
  | n + 1, x4_50, x5_50, rr_50 =>
    if x4_50 = x3_50 then
      k x5_50 rr_50
    else
      (f_X6_nextOn hld_50 far_50 rr_50 x4_50).bind fun v13 =>
      (xr_w rr_50 1898 ((168 + (24 * x2_50)) + x5_50) v13).bind fun rr16 =>
      f_X6_isLaid_50 hld_50 far_50 x2_50 x3_50 k n v13 (x5_50 + 1) rr16
def f_X6_isLaid (hld : Nat → Int32) (far : Nat → Int32) (rr : Nat → Int32) (p2 : Int32) : Option (Int32 × (Nat → Int32) × (Nat → Int32) × (Nat → Int32)) :=
  (xr_d rr 1898 (24 + p2)).bind fun v1 =>
  (f_X6_junction v1).bind fun v3 =>
  (f_X6_reaches hld far rr (p2 / 3)).bind fun far5 =>
  (xr_d far5 24 v3).bind fun v7 =>
  if v7 < 1000000 then
    (xr_w rr 1898 (168 + (24 * p2)) v3).bind fun rr11 =>
    f_X6_isLaid_50 hld far5 p2 (p2 / 3) (fun x5z17 rrz17 =>
      (xr_w rrz17 1898 (96 + p2) x5z17).bind fun rr19 =>
      f_X6_isLaid_101 rr19 p2 x5z17 (fun hldz31 =>
        some (1, hldz31, far5, rr19)) xFu 1 hld) xFu v3 1 rr11
  else
    some (0, hld, far5, rr)
theorem k_X6_isLaid : xb_Y yX6_isLaid cX6_isLaid wsX6_isLaid 7 (some .boolean) { frames := 4, cells := 0, slots := 0, locals := 91 } 2 := ⟨⟨_, rfl⟩, by decide, ⟨by decide, by decide, by decide +kernel⟩, rfl, rfl⟩
theorem fl_X6_isLaid_26 : Cond.fieldLink RX6 26 "LookupBoardModel" "held" "[I" ∈ wsX6_isLaid := List.mem_of_getElem? (i := 3) rfl
theorem fl_X6_isLaid_29 : Cond.fieldLink RX6 29 "LookupBoardModel" "far" "[I" ∈ wsX6_isLaid := List.mem_of_getElem? (i := 1) rfl
theorem iw_X6_isLaid_6 : ∀ w ∈ wsX60, w ∈ wsX6_isLaid := fun w h => List.mem_cons_of_mem _ (List.mem_append_right _ h)
set_option maxHeartbeats 4000000 in
set_option maxRecDepth 100000 in
theorem m_X6_isLaid (D : va_G) (cI cC cZ cR : ClassId) (o0 : Nat) (ma : Nat → Nat) (q : Nat) (st : Int32) (ik : Int32) (le : Int32) (sp : Int32) (nu : Int32) (hld : Nat → Int32) (far : Nat → Int32) (don : Nat → Int32) (rr : Nat → Int32) (p2 : Int32) (r : Int32) (hld' : Nat → Int32) (far' : Nat → Int32) (rr' : Nat → Int32) (h : f_X6_isLaid hld far rr p2 = some (r, hld', far', rr')) : xb_M cX6_isLaid wsX6_isLaid RX6 { frames := 4, cells := 0, slots := 0, locals := 91 } (some .boolean) 7 (xb_ty cI cC cZ cR) D [.ref o0, .ref q, .int p2] (wMo o0 ma st ik le sp nu ++ wAr cI (ma 5) 48 hld ++ wAr cI (ma 6) 24 far ++ wAr cZ (ma 7) 72 don ++ wAr cI q 1898 rr) (some (.int r)) (wMo o0 ma st ik le sp nu ++ wAr cI (ma 5) 48 hld' ++ wAr cI (ma 6) 24 far' ++ wAr cZ (ma 7) 72 don ++ wAr cI q 1898 rr') := by
  intro X C Z
  show xb_G X 0 0 (wMo o0 ma st ik le sp nu ++ wAr cI (ma 5) 48 hld ++ wAr cI (ma 6) 24 far ++ wAr cZ (ma 7) 72 don ++ wAr cI q 1898 rr) [(0, .ref o0), (1, .ref q), (2, .int p2)] 0 []
  have lp101 : ∀ (far_101 : Nat → Int32) (rr_101 : Nat → Int32) (x2_101 : Int32) (x5_101 : Int32) (k : (Nat → Int32) → Option (Int32 × (Nat → Int32) × (Nat → Int32) × (Nat → Int32))) (n : Nat) (x6_101 : Int32) (hld_101 : Nat → Int32), f_X6_isLaid_101 rr_101 x2_101 x5_101 k n x6_101 hld_101 = some (r, hld', far', rr') → (∀ (hld_101e : Nat → Int32), k hld_101e = some (r, hld', far', rr') → xb_G X 0 0 (wMo o0 ma st ik le sp nu ++ wAr cI (ma 5) 48 hld_101e ++ wAr cI (ma 6) 24 far_101 ++ wAr cZ (ma 7) 72 don ++ wAr cI q 1898 rr_101) [] 154 []) → xb_G X 0 0 (wMo o0 ma st ik le sp nu ++ wAr cI (ma 5) 48 hld_101 ++ wAr cI (ma 6) 24 far_101 ++ wAr cZ (ma 7) 72 don ++ wAr cI q 1898 rr_101) [(0, .ref o0), (1, .ref q), (2, .int x2_101), (5, .int x5_101), (6, .int x6_101)] 101 [] := by
    intro far_101 rr_101 x2_101 x5_101 k n
    induction n with
    | zero => intro x6_101 hld_101 h hk; unfold f_X6_isLaid_101 at h; cases h
    | succ n ih =>
      intro x6_101 hld_101 h hk
      unfold f_X6_isLaid_101 at h
      refine xi_iload C dX6_isLaid_101 4 rfl ?_
      refine xi_iload C dX6_isLaid_103 3 rfl ?_
      refine xi_icmp_ge (tgt := 154) C dX6_isLaid_105 (by decide) (fun c20 => ?_) (fun c20 => ?_)
      · have h := it_i c20 h
        exact xb_lv (hk hld_101 h) [] rfl
      · have h := ie_i c20 h
        refine xi_aload_n C dX6_isLaid_108 rfl 0 rfl ?_
        refine xi_get C dX6_isLaid_109 iw_X6_isLaid_6 0 rfl rfl 8 (by decide) fl_X6_isLaid_26 rfl ?_
        refine xi_aload_n C dX6_isLaid_112 rfl 1 rfl ?_
        refine xi_sipush (v := 168) C dX6_isLaid_113 (by decide) ?_
        refine xi_bipush (v := 24) C dX6_isLaid_116 (by decide) ?_
        refine xi_iload_n C dX6_isLaid_118 rfl 2 rfl ?_
        refine xi_imul C dX6_isLaid_119 ?_
        refine xi_iadd C dX6_isLaid_120 ?_
        refine xi_iload C dX6_isLaid_121 4 rfl ?_
        refine xi_iadd C dX6_isLaid_123 ?_
        refine xi_iconst (v := 1) C dX6_isLaid_124 (by decide) ?_
        refine xi_isub C dX6_isLaid_125 ?_
        obtain ⟨v21, e22, h⟩ := ob_i h
        refine xi_iald C dX6_isLaid_126 4 0 rfl rfl e22 ?_
        refine xi_aload_n C dX6_isLaid_127 rfl 1 rfl ?_
        refine xi_sipush (v := 168) C dX6_isLaid_128 (by decide) ?_
        refine xi_bipush (v := 24) C dX6_isLaid_131 (by decide) ?_
        refine xi_iload_n C dX6_isLaid_133 rfl 2 rfl ?_
        refine xi_imul C dX6_isLaid_134 ?_
        refine xi_iadd C dX6_isLaid_135 ?_
        refine xi_iload C dX6_isLaid_136 4 rfl ?_
        refine xi_iadd C dX6_isLaid_138 ?_
        obtain ⟨v23, e24, h⟩ := ob_i h
        refine xi_iald C dX6_isLaid_139 4 0 rfl rfl e24 ?_
        obtain ⟨v25, e26, h⟩ := ob_i h
        refine xi_callS (As := [.int v21, .int v23]) (o := some (.int v25)) (rest := [.ref (ma 5)]) (w2 := (wMo o0 ma st ik le sp nu ++ wAr cI (ma 5) 48 hld_101 ++ wAr cI (ma 6) 24 far_101 ++ wAr cZ (ma 7) 72 don ++ wAr cI q 1898 rr_101)) (st2 := [.int v25, .ref (ma 5)]) C k_X6_segment (m_X6_segment D cI cC cZ cR v21 v23 v25 e26) gX6_isLaid_X6_segment dX6_isLaid_140 ⟨Nat.le_of_ble_eq_true rfl, Nat.le_of_ble_eq_true rfl, Nat.le_of_ble_eq_true rfl⟩ [] rfl rfl [0, 1, 2, 3] rfl rfl rfl rfl (Nat.le_of_ble_eq_true rfl) ⟨Nat.zero_le _, Nat.zero_le _⟩ rfl ?_
        refine xi_dup2 C dX6_isLaid_143 rfl rfl ?_
        obtain ⟨v27, e28, h⟩ := ob_i h
        refine xi_iald C dX6_isLaid_144 1 0 rfl rfl e28 ?_
        refine xi_iconst (v := 1) C dX6_isLaid_145 (by decide) ?_
        refine xi_iadd C dX6_isLaid_146 ?_
        obtain ⟨hld30, e29, h⟩ := ob_i h
        refine xi_iast (w2 := (wMo o0 ma st ik le sp nu ++ wAr cI (ma 5) 48 hld30 ++ wAr cI (ma 6) 24 far_101 ++ wAr cZ (ma 7) 72 don ++ wAr cI q 1898 rr_101)) C dX6_isLaid_147 1 0 rfl rfl e29 rfl ?_
        refine xi_iinc (v := x6_101 + 1) (lv2 := [(0, .ref o0), (1, .ref q), (2, .int x2_101), (5, .int x5_101), (6, .int (x6_101 + 1))]) C dX6_isLaid_148 4 rfl (by rfl) (by decide) [0, 1, 2, 3] [1, 2, 3, 4, 0] rfl ?_
        refine xi_goto (tgt := 101) C dX6_isLaid_151 (by decide) ?_
        exact xb_lv (ih (x6_101 + 1) hld30 h hk) [0, 1, 2, 3, 4] rfl
  have lp50 : ∀ (hld_50 : Nat → Int32) (far_50 : Nat → Int32) (x2_50 : Int32) (x3_50 : Int32) (k : Int32 → (Nat → Int32) → Option (Int32 × (Nat → Int32) × (Nat → Int32) × (Nat → Int32))) (n : Nat) (x4_50 : Int32) (x5_50 : Int32) (rr_50 : Nat → Int32), f_X6_isLaid_50 hld_50 far_50 x2_50 x3_50 k n x4_50 x5_50 rr_50 = some (r, hld', far', rr') → (∀ (x5_50e : Int32) (rr_50e : Nat → Int32), k x5_50e rr_50e = some (r, hld', far', rr') → xb_G X 0 0 (wMo o0 ma st ik le sp nu ++ wAr cI (ma 5) 48 hld_50 ++ wAr cI (ma 6) 24 far_50 ++ wAr cZ (ma 7) 72 don ++ wAr cI q 1898 rr_50e) [(0, .ref o0), (1, .ref q), (2, .int x2_50), (5, .int x5_50e)] 90 []) → xb_G X 0 0 (wMo o0 ma st ik le sp nu ++ wAr cI (ma 5) 48 hld_50 ++ wAr cI (ma 6) 24 far_50 ++ wAr cZ (ma 7) 72 don ++ wAr cI q 1898 rr_50) [(0, .ref o0), (1, .ref q), (2, .int x2_50), (3, .int x3_50), (4, .int x4_50), (5, .int x5_50)] 50 [] := by
    intro hld_50 far_50 x2_50 x3_50 k n
    induction n with
    | zero => intro x4_50 x5_50 rr_50 h hk; unfold f_X6_isLaid_50 at h; cases h
    | succ n ih =>
      intro x4_50 x5_50 rr_50 h hk
      unfold f_X6_isLaid_50 at h
      refine xi_iload C dX6_isLaid_50 4 rfl ?_
      refine xi_iload_n C dX6_isLaid_52 rfl 3 rfl ?_
      refine xi_icmp_eq (tgt := 90) C dX6_isLaid_53 (by decide) (fun c12 => ?_) (fun c12 => ?_)
      · have h := it_i c12 h
        exact xb_lv (hk x5_50 rr_50 h) [0, 1, 2, 5] rfl
      · have h := ie_i c12 h
        refine xi_aload_n C dX6_isLaid_56 rfl 0 rfl ?_
        refine xi_aload_n C dX6_isLaid_57 rfl 1 rfl ?_
        refine xi_iload C dX6_isLaid_58 4 rfl ?_
        obtain ⟨v13, e14, h⟩ := ob_i h
        refine xi_callV (As := [.ref q, .int x4_50]) (o := some (.int v13)) (rest := []) (w2 := (wMo o0 ma st ik le sp nu ++ wAr cI (ma 5) 48 hld_50 ++ wAr cI (ma 6) 24 far_50 ++ wAr cZ (ma 7) 72 don ++ wAr cI q 1898 rr_50)) (st2 := [.int v13]) C k_X6_nextOn (m_X6_nextOn D cI cC cZ cR o0 ma q st ik le sp nu hld_50 far_50 don rr_50 x4_50 v13 e14) gX6_isLaid_X6_nextOn dX6_isLaid_60 ⟨Nat.le_of_ble_eq_true rfl, Nat.le_of_ble_eq_true rfl, Nat.le_of_ble_eq_true rfl⟩ 0 rfl rfl [0, 1, 2, 3, 4] rfl rfl [0, 1, 2, 3] rfl rfl rfl rfl (Nat.le_of_ble_eq_true rfl) ⟨Nat.zero_le _, Nat.zero_le _⟩ rfl ?_
        refine xi_istore (lv2 := [(0, .ref o0), (1, .ref q), (2, .int x2_50), (3, .int x3_50), (4, .int x4_50), (5, .int x5_50), (6, .int v13)]) C dX6_isLaid_63 (by decide) [0, 1, 2, 3, 4, 5] [1, 2, 3, 4, 5, 6, 0] rfl ?_
        refine xi_aload_n C dX6_isLaid_65 rfl 1 rfl ?_
        refine xi_sipush (v := 168) C dX6_isLaid_66 (by decide) ?_
        refine xi_bipush (v := 24) C dX6_isLaid_69 (by decide) ?_
        refine xi_iload_n C dX6_isLaid_71 rfl 2 rfl ?_
        refine xi_imul C dX6_isLaid_72 ?_
        refine xi_iadd C dX6_isLaid_73 ?_
        refine xi_iload C dX6_isLaid_74 5 rfl ?_
        refine xi_iadd C dX6_isLaid_76 ?_
        refine xi_iload C dX6_isLaid_77 6 rfl ?_
        obtain ⟨rr16, e15, h⟩ := ob_i h
        refine xi_iast (w2 := (wMo o0 ma st ik le sp nu ++ wAr cI (ma 5) 48 hld_50 ++ wAr cI (ma 6) 24 far_50 ++ wAr cZ (ma 7) 72 don ++ wAr cI q 1898 rr16)) C dX6_isLaid_79 4 0 rfl rfl e15 rfl ?_
        refine xi_iinc (v := x5_50 + 1) (lv2 := [(0, .ref o0), (1, .ref q), (2, .int x2_50), (3, .int x3_50), (4, .int x4_50), (5, .int (x5_50 + 1)), (6, .int v13)]) C dX6_isLaid_80 5 rfl (by rfl) (by decide) [0, 1, 2, 3, 4, 6] [1, 2, 3, 4, 5, 0, 6] rfl ?_
        refine xi_iload C dX6_isLaid_83 6 rfl ?_
        refine xi_istore (lv2 := [(0, .ref o0), (1, .ref q), (2, .int x2_50), (3, .int x3_50), (4, .int v13), (5, .int (x5_50 + 1)), (6, .int v13)]) C dX6_isLaid_85 (by decide) [0, 1, 2, 3, 5, 6] [1, 2, 3, 4, 0, 5, 6] rfl ?_
        refine xi_goto (tgt := 50) C dX6_isLaid_87 (by decide) ?_
        exact xb_lv (ih v13 (x5_50 + 1) rr16 h hk) [0, 1, 2, 3, 4, 5] rfl
  unfold f_X6_isLaid at h
  refine xi_iload_n C dX6_isLaid_0 rfl 2 rfl ?_
  refine xi_iconst (v := 3) C dX6_isLaid_1 (by decide) ?_
  refine xi_idiv C dX6_isLaid_2 (by decide) ?_
  refine xi_istore_n (lv2 := [(0, .ref o0), (1, .ref q), (2, .int p2), (3, .int (p2 / 3))]) C dX6_isLaid_3 rfl (by decide) [0, 1, 2] [1, 2, 3, 0] rfl ?_
  refine xi_aload_n C dX6_isLaid_4 rfl 1 rfl ?_
  refine xi_bipush (v := 24) C dX6_isLaid_5 (by decide) ?_
  refine xi_iload_n C dX6_isLaid_7 rfl 2 rfl ?_
  refine xi_iadd C dX6_isLaid_8 ?_
  obtain ⟨v1, e2, h⟩ := ob_i h
  refine xi_iald C dX6_isLaid_9 4 0 rfl rfl e2 ?_
  obtain ⟨v3, e4, h⟩ := ob_i h
  refine xi_callS (As := [.int v1]) (o := some (.int v3)) (rest := []) (w2 := (wMo o0 ma st ik le sp nu ++ wAr cI (ma 5) 48 hld ++ wAr cI (ma 6) 24 far ++ wAr cZ (ma 7) 72 don ++ wAr cI q 1898 rr)) (st2 := [.int v3]) C k_X6_junction (m_X6_junction D cI cC cZ cR v1 v3 e4) gX6_isLaid_X6_junction dX6_isLaid_10 ⟨Nat.le_of_ble_eq_true rfl, Nat.le_of_ble_eq_true rfl, Nat.le_of_ble_eq_true rfl⟩ [] rfl rfl [0, 1, 2, 3] rfl rfl rfl rfl (Nat.le_of_ble_eq_true rfl) ⟨Nat.zero_le _, Nat.zero_le _⟩ rfl ?_
  refine xi_istore (lv2 := [(0, .ref o0), (1, .ref q), (2, .int p2), (3, .int (p2 / 3)), (4, .int v3)]) C dX6_isLaid_13 (by decide) [0, 1, 2, 3] [1, 2, 3, 4, 0] rfl ?_
  refine xi_aload_n C dX6_isLaid_15 rfl 0 rfl ?_
  refine xi_aload_n C dX6_isLaid_16 rfl 1 rfl ?_
  refine xi_iload_n C dX6_isLaid_17 rfl 3 rfl ?_
  obtain ⟨far5, e6, h⟩ := ob_i h
  refine xi_callV (As := [.ref q, .int (p2 / 3)]) (o := none) (rest := []) (w2 := (wMo o0 ma st ik le sp nu ++ wAr cI (ma 5) 48 hld ++ wAr cI (ma 6) 24 far5 ++ wAr cZ (ma 7) 72 don ++ wAr cI q 1898 rr)) (st2 := []) C k_X6_reaches (m_X6_reaches D cI cC cZ cR o0 ma q st ik le sp nu hld far don rr (p2 / 3) far5 e6) gX6_isLaid_X6_reaches dX6_isLaid_18 ⟨Nat.le_of_ble_eq_true rfl, Nat.le_of_ble_eq_true rfl, Nat.le_of_ble_eq_true rfl⟩ 0 rfl rfl [0, 1, 2, 3, 4] rfl rfl [0, 1, 2, 3] rfl rfl rfl rfl (Nat.le_of_ble_eq_true rfl) ⟨Nat.zero_le _, Nat.zero_le _⟩ rfl ?_
  refine xi_aload_n C dX6_isLaid_21 rfl 0 rfl ?_
  refine xi_get C dX6_isLaid_22 iw_X6_isLaid_6 0 rfl rfl 9 (by decide) fl_X6_isLaid_29 rfl ?_
  refine xi_iload C dX6_isLaid_25 4 rfl ?_
  obtain ⟨v7, e8, h⟩ := ob_i h
  refine xi_iald C dX6_isLaid_27 2 0 rfl rfl e8 ?_
  refine xi_ldc (v := 1000000) C dX6_isLaid_28 (List.mem_of_getElem? (i := 2) rfl) ?_
  refine xi_icmp_lt (tgt := 35) C dX6_isLaid_30 (by decide) (fun c9 => ?_) (fun c9 => ?_)
  · have h := it_i c9 h
    refine xi_iconst (v := 1) C dX6_isLaid_35 (by decide) ?_
    refine xi_istore (lv2 := [(0, .ref o0), (1, .ref q), (2, .int p2), (3, .int (p2 / 3)), (4, .int v3), (5, .int 1)]) C dX6_isLaid_36 (by decide) [0, 1, 2, 3, 4] [1, 2, 3, 4, 5, 0] rfl ?_
    refine xi_aload_n C dX6_isLaid_38 rfl 1 rfl ?_
    refine xi_sipush (v := 168) C dX6_isLaid_39 (by decide) ?_
    refine xi_bipush (v := 24) C dX6_isLaid_42 (by decide) ?_
    refine xi_iload_n C dX6_isLaid_44 rfl 2 rfl ?_
    refine xi_imul C dX6_isLaid_45 ?_
    refine xi_iadd C dX6_isLaid_46 ?_
    refine xi_iload C dX6_isLaid_47 4 rfl ?_
    obtain ⟨rr11, e10, h⟩ := ob_i h
    refine xi_iast (w2 := (wMo o0 ma st ik le sp nu ++ wAr cI (ma 5) 48 hld ++ wAr cI (ma 6) 24 far5 ++ wAr cZ (ma 7) 72 don ++ wAr cI q 1898 rr11)) C dX6_isLaid_49 4 0 rfl rfl e10 rfl ?_
    refine xb_lv (lp50 hld far5 p2 (p2 / 3) _ xFu v3 1 rr11 h (fun x5z17 rrz17 h => ?_)) [0, 1, 2, 3, 4, 5] rfl
    refine xi_aload_n C dX6_isLaid_90 rfl 1 rfl ?_
    refine xi_bipush (v := 96) C dX6_isLaid_91 (by decide) ?_
    refine xi_iload_n C dX6_isLaid_93 rfl 2 rfl ?_
    refine xi_iadd C dX6_isLaid_94 ?_
    refine xi_iload C dX6_isLaid_95 3 rfl ?_
    obtain ⟨rr19, e18, h⟩ := ob_i h
    refine xi_iast (w2 := (wMo o0 ma st ik le sp nu ++ wAr cI (ma 5) 48 hld ++ wAr cI (ma 6) 24 far5 ++ wAr cZ (ma 7) 72 don ++ wAr cI q 1898 rr19)) C dX6_isLaid_97 4 0 rfl rfl e18 rfl ?_
    refine xi_iconst (v := 1) C dX6_isLaid_98 (by decide) ?_
    refine xi_istore (lv2 := [(0, .ref o0), (1, .ref q), (2, .int p2), (5, .int x5z17), (6, .int 1)]) C dX6_isLaid_99 (by decide) [0, 1, 2, 3] [1, 2, 3, 4, 0] rfl ?_
    refine xb_lv (lp101 far5 rr19 p2 x5z17 _ xFu 1 hld h (fun hldz31 h => ?_)) [0, 1, 2, 3, 4] rfl
    refine xi_iconst (v := 1) C dX6_isLaid_154 (by decide) ?_
    have w0 := Option.some.inj h
    obtain ⟨q0, w1⟩ := Prod.mk.inj w0
    obtain ⟨q1, w2⟩ := Prod.mk.inj w1
    obtain ⟨q2, w3⟩ := Prod.mk.inj w2
    subst q0
    subst q1
    subst q2
    subst w3
    exact xi_zret C Z dX6_isLaid_155 xb_nz1
  · have h := ie_i c9 h
    refine xi_iconst (v := 0) C dX6_isLaid_33 (by decide) ?_
    have w0 := Option.some.inj h
    obtain ⟨q0, w1⟩ := Prod.mk.inj w0
    obtain ⟨q1, w2⟩ := Prod.mk.inj w1
    obtain ⟨q2, w3⟩ := Prod.mk.inj w2
    subst q0
    subst q1
    subst q2
    subst w3
    exact xi_zret C Z dX6_isLaid_34 xb_nz0
