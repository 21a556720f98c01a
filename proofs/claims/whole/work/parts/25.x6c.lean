def f_X6_isLaid_101 (rr_101 : Nat → Int32) (x2_101 : Int32) (x5_101 : Int32) (k : (Nat → Int32) → Option (Int32 × (Nat → Int32) × (Nat → Int32) × (Nat → Int32))) : Nat → Int32 → (Nat → Int32) → Option (Int32 × (Nat → Int32) × (Nat → Int32) × (Nat → Int32))
  | 0, _, _ => none
  | n + 1, x6_101, hld_101 =>
    if x5_101 ≤ x6_101 then
      k hld_101
    else
      (xr_d rr_101 1898 (((168 + (24 * x2_101)) + x6_101) - 1)).bind fun v21 =>
      (xr_d rr_101 1898 ((168 + (24 * x2_101)) + x6_101)).bind fun v23 =>
      (f_X6_segment v21 v23).bind fun v25 =>
      (xr_d hld_101 48 v25).bind fun v27 =>
      (xr_w hld_101 48 v25 (v27 + 1)).bind fun hld30 =>
      f_X6_isLaid_101 rr_101 x2_101 x5_101 k n (x6_101 + 1) hld30
def f_X6_isLaid_50 (hld_50 : Nat → Int32) (far_50 : Nat → Int32) (x2_50 : Int32) (x3_50 : Int32) (k : Int32 → (Nat → Int32) → Option (Int32 × (Nat → Int32) × (Nat → Int32) × (Nat → Int32))) : Nat → Int32 → Int32 → (Nat → Int32) → Option (Int32 × (Nat → Int32) × (Nat → Int32) × (Nat → Int32))
  | 0, _, _, _ => none
  | n + 1, x4_50, x5_50, rr_50 =>
    if x4_50 = x3_50 then
      k x5_50 rr_50
    else
      (f_X6_nextOn hld_50 far_50 rr_50 x4_50).bind fun v13 =>
      (xr_w rr_50 1898 ((168 + (24 * x2_50)) + x5_50) v13).bind fun rr16 =>
      f_X6_isLaid_50 hld_50 far_50 x2_50 x3_50 k n v13 (x5_50 + 1) rr16
def f_X6_isLaid (hld : Nat → Int32) (far : Nat → Int32) (rr : Nat → Int32) (p2 : Int32) : Option (Int32 × (Nat → Int32) × (Nat → Int32) × (Nat → Int32)) :=
  (xr_d rr 1898 (24 + p2)).bind fun v1 =>
  (f_X6_junction v1).bind fun v3 =>
  (f_X6_reaches hld far rr (p2 / 3)).bind fun far5 =>
  (xr_d far5 24 v3).bind fun v7 =>
  if v7 < 1000000 then
    (xr_w rr 1898 (168 + (24 * p2)) v3).bind fun rr11 =>
    f_X6_isLaid_50 hld far5 p2 (p2 / 3) (fun x5z17 rrz17 =>
      (xr_w rrz17 1898 (96 + p2) x5z17).bind fun rr19 =>
      f_X6_isLaid_101 rr19 p2 x5z17 (fun hldz31 =>
        some (1, hldz31, far5, rr19)) xFu 1 hld) xFu v3 1 rr11
  else
    some (0, hld, far5, rr)
theorem k_X6_isLaid : xb_Y yX6_isLaid cX6_isLaid wsX6_isLaid 7 (some .boolean) { frames := 4, cells := 0, slots := 0, locals := 91 } 2 := ⟨⟨_, rfl⟩, by decide, ⟨by decide, by decide, by decide +kernel⟩, rfl, rfl⟩
theorem fl_X6_isLaid_26 : Cond.fieldLink RX6 26 "LookupBoardModel" "held" "[I" ∈ wsX6_isLaid := List.mem_of_getElem? (i := 3) rfl
theorem fl_X6_isLaid_29 : Cond.fieldLink RX6 29 "LookupBoardModel" "far" "[I" ∈ wsX6_isLaid := List.mem_of_getElem? (i := 1) rfl
theorem iw_X6_isLaid_6 : ∀ w ∈ wsX60, w ∈ wsX6_isLaid := fun w h => List.mem_cons_of_mem _ (List.mem_append_right _ h)
set_option maxHeartbeats 4000000 in
set_option maxRecDepth 100000 in
theorem m_X6_isLaid (D : va_G) (cI cC cZ cR : ClassId) (o0 : Nat) (ma : Nat → Nat) (q : Nat) (st : Int32) (ik : Int32) (le : Int32) (sp : Int32) (nu : Int32) (hld : Nat → Int32) (far : Nat → Int32) (don : Nat → Int32) (rr : Nat → Int32) (p2 : Int32) (r : Int32) (hld' : Nat → Int32) (far' : Nat → Int32) (rr' : Nat → Int32) (h : f_X6_isLaid hld far rr p2 = some (r, hld', far', rr')) : xb_M cX6_isLaid wsX6_isLaid RX6 { frames := 4, cells := 0, slots := 0, locals := 91 } (some .boolean) 7 (xb_ty cI cC cZ cR) D [.ref o0, .ref q, .int p2] (wMo o0 ma st ik le sp nu ++ wAr cI (ma 5) 48 hld ++ wAr cI (ma 6) 24 far ++ wAr cZ (ma 7) 72 don ++ wAr cI q 1898 rr) (some (.int r)) (wMo o0 ma st ik le sp nu ++ wAr cI (ma 5) 48 hld' ++ wAr cI (ma 6) 24 far' ++ wAr cZ (ma 7) 72 don ++ wAr cI q 1898 rr') := by
  intro X C Z
  show xb_G X 0 0 (wMo o0 ma st ik le sp nu ++ wAr cI (ma 5) 48 hld ++ wAr cI (ma 6) 24 far ++ wAr cZ (ma 7) 72 don ++ wAr cI q 1898 rr) [(0, .ref o0), (1, .ref q), (2, .int p2)] 0 []
  have lp101 : ∀ (far_101 : Nat → Int32) (rr_101 : Nat → Int32) (x2_101 : Int32) (x5_101 : Int32) (k : (Nat → Int32) → Option (Int32 × (Nat → Int32) × (Nat → Int32) × (Nat → Int32))) (n : Nat) (x6_101 : Int32) (hld_101 : Nat → Int32), f_X6_isLaid_101 rr_101 x2_101 x5_101 k n x6_101 hld_101 = some (r, hld', far', rr') → (∀ (hld_101e : Nat → Int32), k hld_101e = some (r, hld', far', rr') → xb_G X 0 0 (wMo o0 ma st ik le sp nu ++ wAr cI (ma 5) 48 hld_101e ++ wAr cI (ma 6) 24 far_101 ++ wAr cZ (ma 7) 72 don ++ wAr cI q 1898 rr_101) [] 154 []) → xb_G X 0 0 (wMo o0 ma st ik le sp nu ++ wAr cI (ma 5) 48 hld_101 ++ wAr cI (ma 6) 24 far_101 ++ wAr cZ (ma 7) 72 don ++ wAr cI q 1898 rr_101) [(0, .ref o0), (1, .ref q), (2, .int x2_101), (5, .int x5_101), (6, .int x6_101)] 101 [] := by
    intro far_101 rr_101 x2_101 x5_101 k n
    induction n with
    | zero => intro x6_101 hld_101 h hk; unfold f_X6_isLaid_101 at h; cases h
    | succ n ih =>
      intro x6_101 hld_101 h hk
      unfold f_X6_isLaid_101 at h
      refine xi_iload C dX6_isLaid_101 4 rfl ?_
      refine xi_iload C dX6_isLaid_103 3 rfl ?_
      refine xi_icmp_ge (tgt := 154) C dX6_isLaid_105 (by decide) (fun c20 => ?_) (fun c20 => ?_)
      · have h := it_i c20 h
        exact xb_lv (hk hld_101 h) [] rfl
      · have h := ie_i c20 h
        refine xi_aload_n C dX6_isLaid_108 rfl 0 rfl ?_
        refine xi_get C dX6_isLaid_109 iw_X6_isLaid_6 0 rfl rfl 8 (by decide) fl_X6_isLaid_26 rfl ?_
        refine xi_aload_n C dX6_isLaid_112 rfl 1 rfl ?_
        refine xi_sipush (v := 168) C dX6_isLaid_113 (by decide) ?_
        refine xi_bipush (v := 24) C dX6_isLaid_116 (by decide) ?_
        refine xi_iload_n C dX6_isLaid_118 rfl 2 rfl ?_
        refine xi_imul C dX6_isLaid_119 ?_
        refine xi_iadd C dX6_isLaid_120 ?_
        refine xi_iload C dX6_isLaid_121 4 rfl ?_
        refine xi_iadd C dX6_isLaid_123 ?_
        refine xi_iconst (v := 1) C dX6_isLaid_124 (by decide) ?_
        refine xi_isub C dX6_isLaid_125 ?_
        obtain ⟨v21, e22, h⟩ := ob_i h
        refine xi_iald C dX6_isLaid_126 4 0 rfl rfl e22 ?_
        refine xi_aload_n C dX6_isLaid_127 rfl 1 rfl ?_
        refine xi_sipush (v := 168) C dX6_isLaid_128 (by decide) ?_
        refine xi_bipush (v := 24) C dX6_isLaid_131 (by decide) ?_
        refine xi_iload_n C dX6_isLaid_133 rfl 2 rfl ?_
        refine xi_imul C dX6_isLaid_134 ?_
        refine xi_iadd C dX6_isLaid_135 ?_
        refine xi_iload C dX6_isLaid_136 4 rfl ?_
        refine xi_iadd C dX6_isLaid_138 ?_
        obtain ⟨v23, e24, h⟩ := ob_i h
        refine xi_iald C dX6_isLaid_139 4 0 rfl rfl e24 ?_
        obtain ⟨v25, e26, h⟩ := ob_i h
        refine xi_callS (As := [.int v21, .int v23]) (o := some (.int v25)) (rest := [.ref (ma 5)]) (w2 := (wMo o0 ma st ik le sp nu ++ wAr cI (ma 5) 48 hld_101 ++ wAr cI (ma 6) 24 far_101 ++ wAr cZ (ma 7) 72 don ++ wAr cI q 1898 rr_101)) (st2 := [.int v25, .ref (ma 5)]) C k_X6_segment (m_X6_segment D cI cC cZ cR v21 v23 v25 e26) gX6_isLaid_X6_segment dX6_isLaid_140 ⟨Nat.le_of_ble_eq_true rfl, Nat.le_of_ble_eq_true rfl, Nat.le_of_ble_eq_true rfl⟩ [] rfl rfl [0, 1, 2, 3] rfl rfl rfl rfl (Nat.le_of_ble_eq_true rfl) ⟨Nat.zero_le _, Nat.zero_le _⟩ rfl ?_
        refine xi_dup2 C dX6_isLaid_143 rfl rfl ?_
        obtain ⟨v27, e28, h⟩ := ob_i h
        refine xi_iald C dX6_isLaid_144 1 0 rfl rfl e28 ?_
        refine xi_iconst (v := 1) C dX6_isLaid_145 (by decide) ?_
        refine xi_iadd C dX6_isLaid_146 ?_
        obtain ⟨hld30, e29, h⟩ := ob_i h
        refine xi_iast (w2 := (wMo o0 ma st ik le sp nu ++ wAr cI (ma 5) 48 hld30 ++ wAr cI (ma 6) 24 far_101 ++ wAr cZ (ma 7) 72 don ++ wAr cI q 1898 rr_101)) C dX6_isLaid_147 1 0 rfl rfl e29 rfl ?_
        refine xi_iinc (v := x6_101 + 1) (lv2 := [(0, .ref o0), (1, .ref q), (2, .int x2_101), (5, .int x5_101), (6, .int (x6_101 + 1))]) C dX6_isLaid_148 4 rfl (by rfl) (by decide) [0, 1, 2, 3] [1, 2, 3, 4, 0] rfl ?_
        refine xi_goto (tgt := 101) C dX6_isLaid_151 (by decide) ?_
        exact xb_lv (ih (x6_101 + 1) hld30 h hk) [0, 1, 2, 3, 4] rfl
  have lp50 : ∀ (hld_50 : Nat → Int32) (far_50 : Nat → Int32) (x2_50 : Int32) (x3_50 : Int32) (k : Int32 → (Nat → Int32) → Option (Int32 × (Nat → Int32) × (Nat → Int32) × (Nat → Int32))) (n : Nat) (x4_50 : Int32) (x5_50 : Int32) (rr_50 : Nat → Int32), f_X6_isLaid_50 hld_50 far_50 x2_50 x3_50 k n x4_50 x5_50 rr_50 = some (r, hld', far', rr') → (∀ (x5_50e : Int32) (rr_50e : Nat → Int32), k x5_50e rr_50e = some (r, hld', far', rr') → xb_G X 0 0 (wMo o0 ma st ik le sp nu ++ wAr cI (ma 5) 48 hld_50 ++ wAr cI (ma 6) 24 far_50 ++ wAr cZ (ma 7) 72 don ++ wAr cI q 1898 rr_50e) [(0, .ref o0), (1, .ref q), (2, .int x2_50), (5, .int x5_50e)] 90 []) → xb_G X 0 0 (wMo o0 ma st ik le sp nu ++ wAr cI (ma 5) 48 hld_50 ++ wAr cI (ma 6) 24 far_50 ++ wAr cZ (ma 7) 72 don ++ wAr cI q 1898 rr_50) [(0, .ref o0), (1, .ref q), (2, .int x2_50), (3, .int x3_50), (4, .int x4_50), (5, .int x5_50)] 50 [] := by
    intro hld_50 far_50 x2_50 x3_50 k n
    induction n with
    | zero => intro x4_50 x5_50 rr_50 h hk; unfold f_X6_isLaid_50 at h; cases h
    | succ n ih =>
      intro x4_50 x5_50 rr_50 h hk
      unfold f_X6_isLaid_50 at h
      refine xi_iload C dX6_isLaid_50 4 rfl ?_
      refine xi_iload_n C dX6_isLaid_52 rfl 3 rfl ?_
      refine xi_icmp_eq (tgt := 90) C dX6_isLaid_53 (by decide) (fun c12 => ?_) (fun c12 => ?_)
      · have h := it_i c12 h
        exact xb_lv (hk x5_50 rr_50 h) [0, 1, 2, 5] rfl
      · have h := ie_i c12 h
        refine xi_aload_n C dX6_isLaid_56 rfl 0 rfl ?_
        refine xi_aload_n C dX6_isLaid_57 rfl 1 rfl ?_
        refine xi_iload C dX6_isLaid_58 4 rfl ?_
        obtain ⟨v13, e14, h⟩ := ob_i h
        refine xi_callV (As := [.ref q, .int x4_50]) (o := some (.int v13)) (rest := []) (w2 := (wMo o0 ma st ik le sp nu ++ wAr cI (ma 5) 48 hld_50 ++ wAr cI (ma 6) 24 far_50 ++ wAr cZ (ma 7) 72 don ++ wAr cI q 1898 rr_50)) (st2 := [.int v13]) C k_X6_nextOn (m_X6_nextOn D cI cC cZ cR o0 ma q st ik le sp nu hld_50 far_50 don rr_50 x4_50 v13 e14) gX6_isLaid_X6_nextOn dX6_isLaid_60 ⟨Nat.le_of_ble_eq_true rfl, Nat.le_of_ble_eq_true rfl, Nat.le_of_ble_eq_true rfl⟩ 0 rfl rfl [0, 1, 2, 3, 4] rfl rfl [0, 1, 2, 3] rfl rfl rfl rfl (Nat.le_of_ble_eq_true rfl) ⟨Nat.zero_le _, Nat.zero_le _⟩ rfl ?_
        refine xi_istore (lv2 := [(0, .ref o0), (1, .ref q), (2, .int x2_50), (3, .int x3_50), (4, .int x4_50), (5, .int x5_50), (6, .int v13)]) C dX6_isLaid_63 (by decide) [0, 1, 2, 3, 4, 5] [1, 2, 3, 4, 5, 6, 0] rfl ?_
        refine xi_aload_n C dX6_isLaid_65 rfl 1 rfl ?_
        refine xi_sipush (v := 168) C dX6_isLaid_66 (by decide) ?_
        refine xi_bipush (v := 24) C dX6_isLaid_69 (by decide) ?_
        refine xi_iload_n C dX6_isLaid_71 rfl 2 rfl ?_
        refine xi_imul C dX6_isLaid_72 ?_
        refine xi_iadd C dX6_isLaid_73 ?_
        refine xi_iload C dX6_isLaid_74 5 rfl ?_
        refine xi_iadd C dX6_isLaid_76 ?_
        refine xi_iload C dX6_isLaid_77 6 rfl ?_
        obtain ⟨rr16, e15, h⟩ := ob_i h
        refine xi_iast (w2 := (wMo o0 ma st ik le sp nu ++ wAr cI (ma 5) 48 hld_50 ++ wAr cI (ma 6) 24 far_50 ++ wAr cZ (ma 7) 72 don ++ wAr cI q 1898 rr16)) C dX6_isLaid_79 4 0 rfl rfl e15 rfl ?_
        refine xi_iinc (v := x5_50 + 1) (lv2 := [(0, .ref o0), (1, .ref q), (2, .int x2_50), (3, .int x3_50), (4, .int x4_50), (5, .int (x5_50 + 1)), (6, .int v13)]) C dX6_isLaid_80 5 rfl (by rfl) (by decide) [0, 1, 2, 3, 4, 6] [1, 2, 3, 4, 5, 0, 6] rfl ?_
        refine xi_iload C dX6_isLaid_83 6 rfl ?_
        refine xi_istore (lv2 := [(0, .ref o0), (1, .ref q), (2, .int x2_50), (3, .int x3_50), (4, .int v13), (5, .int (x5_50 + 1)), (6, .int v13)]) C dX6_isLaid_85 (by decide) [0, 1, 2, 3, 5, 6] [1, 2, 3, 4, 0, 5, 6] rfl ?_
        refine xi_goto (tgt := 50) C dX6_isLaid_87 (by decide) ?_
        exact xb_lv (ih v13 (x5_50 + 1) rr16 h hk) [0, 1, 2, 3, 4, 5] rfl
  unfold f_X6_isLaid at h
  refine xi_iload_n C dX6_isLaid_0 rfl 2 rfl ?_
  refine xi_iconst (v := 3) C dX6_isLaid_1 (by decide) ?_
  refine xi_idiv C dX6_isLaid_2 (by decide) ?_
  refine xi_istore_n (lv2 := [(0, .ref o0), (1, .ref q), (2, .int p2), (3, .int (p2 / 3))]) C dX6_isLaid_3 rfl (by decide) [0, 1, 2] [1, 2, 3, 0] rfl ?_
  refine xi_aload_n C dX6_isLaid_4 rfl 1 rfl ?_
  refine xi_bipush (v := 24) C dX6_isLaid_5 (by decide) ?_
  refine xi_iload_n C dX6_isLaid_7 rfl 2 rfl ?_
  refine xi_iadd C dX6_isLaid_8 ?_
  obtain ⟨v1, e2, h⟩ := ob_i h
  refine xi_iald C dX6_isLaid_9 4 0 rfl rfl e2 ?_
  obtain ⟨v3, e4, h⟩ := ob_i h
  refine xi_callS (As := [.int v1]) (o := some (.int v3)) (rest := []) (w2 := (wMo o0 ma st ik le sp nu ++ wAr cI (ma 5) 48 hld ++ wAr cI (ma 6) 24 far ++ wAr cZ (ma 7) 72 don ++ wAr cI q 1898 rr)) (st2 := [.int v3]) C k_X6_junction (m_X6_junction D cI cC cZ cR v1 v3 e4) gX6_isLaid_X6_junction dX6_isLaid_10 ⟨Nat.le_of_ble_eq_true rfl, Nat.le_of_ble_eq_true rfl, Nat.le_of_ble_eq_true rfl⟩ [] rfl rfl [0, 1, 2, 3] rfl rfl rfl rfl (Nat.le_of_ble_eq_true rfl) ⟨Nat.zero_le _, Nat.zero_le _⟩ rfl ?_
  refine xi_istore (lv2 := [(0, .ref o0), (1, .ref q), (2, .int p2), (3, .int (p2 / 3)), (4, .int v3)]) C dX6_isLaid_13 (by decide) [0, 1, 2, 3] [1, 2, 3, 4, 0] rfl ?_
  refine xi_aload_n C dX6_isLaid_15 rfl 0 rfl ?_
  refine xi_aload_n C dX6_isLaid_16 rfl 1 rfl ?_
  refine xi_iload_n C dX6_isLaid_17 rfl 3 rfl ?_
  obtain ⟨far5, e6, h⟩ := ob_i h
  refine xi_callV (As := [.ref q, .int (p2 / 3)]) (o := none) (rest := []) (w2 := (wMo o0 ma st ik le sp nu ++ wAr cI (ma 5) 48 hld ++ wAr cI (ma 6) 24 far5 ++ wAr cZ (ma 7) 72 don ++ wAr cI q 1898 rr)) (st2 := []) C k_X6_reaches (m_X6_reaches D cI cC cZ cR o0 ma q st ik le sp nu hld far don rr (p2 / 3) far5 e6) gX6_isLaid_X6_reaches dX6_isLaid_18 ⟨Nat.le_of_ble_eq_true rfl, Nat.le_of_ble_eq_true rfl, Nat.le_of_ble_eq_true rfl⟩ 0 rfl rfl [0, 1, 2, 3, 4] rfl rfl [0, 1, 2, 3] rfl rfl rfl rfl (Nat.le_of_ble_eq_true rfl) ⟨Nat.zero_le _, Nat.zero_le _⟩ rfl ?_
  refine xi_aload_n C dX6_isLaid_21 rfl 0 rfl ?_
  refine xi_get C dX6_isLaid_22 iw_X6_isLaid_6 0 rfl rfl 9 (by decide) fl_X6_isLaid_29 rfl ?_
  refine xi_iload C dX6_isLaid_25 4 rfl ?_
  obtain ⟨v7, e8, h⟩ := ob_i h
  refine xi_iald C dX6_isLaid_27 2 0 rfl rfl e8 ?_
  refine xi_ldc (v := 1000000) C dX6_isLaid_28 (List.mem_of_getElem? (i := 2) rfl) ?_
  refine xi_icmp_lt (tgt := 35) C dX6_isLaid_30 (by decide) (fun c9 => ?_) (fun c9 => ?_)
  · have h := it_i c9 h
    refine xi_iconst (v := 1) C dX6_isLaid_35 (by decide) ?_
    refine xi_istore (lv2 := [(0, .ref o0), (1, .ref q), (2, .int p2), (3, .int (p2 / 3)), (4, .int v3), (5, .int 1)]) C dX6_isLaid_36 (by decide) [0, 1, 2, 3, 4] [1, 2, 3, 4, 5, 0] rfl ?_
    refine xi_aload_n C dX6_isLaid_38 rfl 1 rfl ?_
    refine xi_sipush (v := 168) C dX6_isLaid_39 (by decide) ?_
    refine xi_bipush (v := 24) C dX6_isLaid_42 (by decide) ?_
    refine xi_iload_n C dX6_isLaid_44 rfl 2 rfl ?_
    refine xi_imul C dX6_isLaid_45 ?_
    refine xi_iadd C dX6_isLaid_46 ?_
    refine xi_iload C dX6_isLaid_47 4 rfl ?_
    obtain ⟨rr11, e10, h⟩ := ob_i h
    refine xi_iast (w2 := (wMo o0 ma st ik le sp nu ++ wAr cI (ma 5) 48 hld ++ wAr cI (ma 6) 24 far5 ++ wAr cZ (ma 7) 72 don ++ wAr cI q 1898 rr11)) C dX6_isLaid_49 4 0 rfl rfl e10 rfl ?_
    refine xb_lv (lp50 hld far5 p2 (p2 / 3) _ xFu v3 1 rr11 h (fun x5z17 rrz17 h => ?_)) [0, 1, 2, 3, 4, 5] rfl
    refine xi_aload_n C dX6_isLaid_90 rfl 1 rfl ?_
    refine xi_bipush (v := 96) C dX6_isLaid_91 (by decide) ?_
    refine xi_iload_n C dX6_isLaid_93 rfl 2 rfl ?_
    refine xi_iadd C dX6_isLaid_94 ?_
    refine xi_iload C dX6_isLaid_95 3 rfl ?_
    obtain ⟨rr19, e18, h⟩ := ob_i h
    refine xi_iast (w2 := (wMo o0 ma st ik le sp nu ++ wAr cI (ma 5) 48 hld ++ wAr cI (ma 6) 24 far5 ++ wAr cZ (ma 7) 72 don ++ wAr cI q 1898 rr19)) C dX6_isLaid_97 4 0 rfl rfl e18 rfl ?_
    refine xi_iconst (v := 1) C dX6_isLaid_98 (by decide) ?_
    refine xi_istore (lv2 := [(0, .ref o0), (1, .ref q), (2, .int p2), (5, .int x5z17), (6, .int 1)]) C dX6_isLaid_99 (by decide) [0, 1, 2, 3] [1, 2, 3, 4, 0] rfl ?_
    refine xb_lv (lp101 far5 rr19 p2 x5z17 _ xFu 1 hld h (fun hldz31 h => ?_)) [0, 1, 2, 3, 4] rfl
    refine xi_iconst (v := 1) C dX6_isLaid_154 (by decide) ?_
    have w0 := Option.some.inj h
    obtain ⟨q0, w1⟩ := Prod.mk.inj w0
    obtain ⟨q1, w2⟩ := Prod.mk.inj w1
    obtain ⟨q2, w3⟩ := Prod.mk.inj w2
    subst q0
    subst q1
    subst q2
    subst w3
    exact xi_zret C Z dX6_isLaid_155 xb_nz1
  · have h := ie_i c9 h
    refine xi_iconst (v := 0) C dX6_isLaid_33 (by decide) ?_
    have w0 := Option.some.inj h
    obtain ⟨q0, w1⟩ := Prod.mk.inj w0
    obtain ⟨q1, w2⟩ := Prod.mk.inj w1
    obtain ⟨q2, w3⟩ := Prod.mk.inj w2
    subst q0
    subst q1
    subst q2
    subst w3
    exact xi_zret C Z dX6_isLaid_34 xb_nz0
def f_X6_takesWire_2 (x1_2 : Int32) (k : (Nat → Int32) → Option ((Nat → Int32))) : Nat → Int32 → (Nat → Int32) → Option ((Nat → Int32))
  | 0, _, _ => none
  | n + 1, x2_2, rr_2 =>
    if 24 ≤ x2_2 then
      k rr_2
    else
      (xr_w rr_2 1898 ((168 + (24 * x1_2)) + x2_2) 0).bind fun rr3 =>
      f_X6_takesWire_2 x1_2 k n (x2_2 + 1) rr3
def f_X6_takesWire (rr : Nat → Int32) (p1 : Int32) : Option ((Nat → Int32)) :=
  f_X6_takesWire_2 p1 (fun rrz4 =>
    (xr_w rrz4 1898 (96 + p1) 0).bind fun rr6 =>
    some rr6) xFu 0 rr
theorem k_X6_takesWire : xb_Y yX6_takesWire cX6_takesWire wsX6_takesWire 3 none { frames := 0, cells := 0, slots := 0, locals := 0 } 2 := ⟨⟨_, rfl⟩, by decide, ⟨by decide, by decide, by decide +kernel⟩, rfl, rfl⟩
set_option maxHeartbeats 4000000 in
set_option maxRecDepth 100000 in
theorem m_X6_takesWire (D : va_G) (cI cC cZ cR : ClassId) (q : Nat) (rr : Nat → Int32) (p1 : Int32) (rr' : Nat → Int32) (h : f_X6_takesWire rr p1 = some rr') : xb_M cX6_takesWire wsX6_takesWire RX6 { frames := 0, cells := 0, slots := 0, locals := 0 } none 3 (xb_ty cI cC cZ cR) D [.ref q, .int p1] (wAr cI q 1898 rr) none (wAr cI q 1898 rr') := by
  intro X C Z
  show xb_G X 0 0 (wAr cI q 1898 rr) [(0, .ref q), (1, .int p1)] 0 []
  have lp2 : ∀ (x1_2 : Int32) (k : (Nat → Int32) → Option ((Nat → Int32))) (n : Nat) (x2_2 : Int32) (rr_2 : Nat → Int32), f_X6_takesWire_2 x1_2 k n x2_2 rr_2 = some rr' → (∀ (rr_2e : Nat → Int32), k rr_2e = some rr' → xb_G X 0 0 (wAr cI q 1898 rr_2e) [(0, .ref q), (1, .int x1_2)] 27 []) → xb_G X 0 0 (wAr cI q 1898 rr_2) [(0, .ref q), (1, .int x1_2), (2, .int x2_2)] 2 [] := by
    intro x1_2 k n
    induction n with
    | zero => intro x2_2 rr_2 h hk; unfold f_X6_takesWire_2 at h; cases h
    | succ n ih =>
      intro x2_2 rr_2 h hk
      unfold f_X6_takesWire_2 at h
      refine xi_iload_n C dX6_takesWire_2 rfl 2 rfl ?_
      refine xi_bipush (v := 24) C dX6_takesWire_3 (by decide) ?_
      refine xi_icmp_ge (tgt := 27) C dX6_takesWire_5 (by decide) (fun c1 => ?_) (fun c1 => ?_)
      · have h := it_i c1 h
        exact xb_lv (hk rr_2 h) [0, 1] rfl
      · have h := ie_i c1 h
        refine xi_aload_n C dX6_takesWire_8 rfl 0 rfl ?_
        refine xi_sipush (v := 168) C dX6_takesWire_9 (by decide) ?_
        refine xi_bipush (v := 24) C dX6_takesWire_12 (by decide) ?_
        refine xi_iload_n C dX6_takesWire_14 rfl 1 rfl ?_
        refine xi_imul C dX6_takesWire_15 ?_
        refine xi_iadd C dX6_takesWire_16 ?_
        refine xi_iload_n C dX6_takesWire_17 rfl 2 rfl ?_
        refine xi_iadd C dX6_takesWire_18 ?_
        refine xi_iconst (v := 0) C dX6_takesWire_19 (by decide) ?_
        obtain ⟨rr3, e2, h⟩ := ob_i h
        refine xi_iast (w2 := (wAr cI q 1898 rr3)) C dX6_takesWire_20 0 0 rfl rfl e2 rfl ?_
        refine xi_iinc (v := x2_2 + 1) (lv2 := [(0, .ref q), (1, .int x1_2), (2, .int (x2_2 + 1))]) C dX6_takesWire_21 2 rfl (by rfl) (by decide) [0, 1] [1, 2, 0] rfl ?_
        refine xi_goto (tgt := 2) C dX6_takesWire_24 (by decide) ?_
        exact xb_lv (ih (x2_2 + 1) rr3 h hk) [0, 1, 2] rfl
  unfold f_X6_takesWire at h
  refine xi_iconst (v := 0) C dX6_takesWire_0 (by decide) ?_
  refine xi_istore_n (lv2 := [(0, .ref q), (1, .int p1), (2, .int 0)]) C dX6_takesWire_1 rfl (by decide) [0, 1] [1, 2, 0] rfl ?_
  refine xb_lv (lp2 p1 _ xFu 0 rr h (fun rrz4 h => ?_)) [0, 1, 2] rfl
  refine xi_aload_n C dX6_takesWire_27 rfl 0 rfl ?_
  refine xi_bipush (v := 96) C dX6_takesWire_28 (by decide) ?_
  refine xi_iload_n C dX6_takesWire_30 rfl 1 rfl ?_
  refine xi_iadd C dX6_takesWire_31 ?_
  refine xi_iconst (v := 0) C dX6_takesWire_32 (by decide) ?_
  obtain ⟨rr6, e5, h⟩ := ob_i h
  refine xi_iast (w2 := (wAr cI q 1898 rr6)) C dX6_takesWire_33 0 0 rfl rfl e5 rfl ?_
  have w0 := Option.some.inj h
  subst w0
  exact xi_ret C Z dX6_takesWire_34
def f_X6_segments_4 (rr : Nat → Int32) (k : Int32 → Option (Int32)) : Nat → Int32 → Int32 → Option (Int32)
  | 0, _, _ => none
  | n + 1, x1_4, x2_4 =>
    if 72 ≤ x2_4 then
      k x1_4
    else
      (xr_d rr 1898 (96 + x2_4)).bind fun v2 =>
      if v2 ≤ 0 then
        f_X6_segments_4 rr k n (x1_4 + 0) (x2_4 + 1)
      else
        (xr_d rr 1898 (96 + x2_4)).bind fun v5 =>
        f_X6_segments_4 rr k n (x1_4 + (v5 - 1)) (x2_4 + 1)
def f_X6_segments (rr : Nat → Int32) : Option (Int32) :=
  f_X6_segments_4 rr (fun x1z7 =>
    some x1z7) xFu 0 0
theorem k_X6_segments : xb_Y yX6_segments cX6_segments wsX6_segments 3 (some .int) { frames := 0, cells := 0, slots := 0, locals := 0 } 1 := ⟨⟨_, rfl⟩, by decide, ⟨by decide, by decide, by decide +kernel⟩, rfl, rfl⟩
set_option maxHeartbeats 4000000 in
set_option maxRecDepth 100000 in
theorem m_X6_segments (D : va_G) (cI cC cZ cR : ClassId) (q : Nat) (rr : Nat → Int32) (r : Int32) (h : f_X6_segments rr = some r) : xb_M cX6_segments wsX6_segments RX6 { frames := 0, cells := 0, slots := 0, locals := 0 } (some .int) 3 (xb_ty cI cC cZ cR) D [.ref q] (wAr cI q 1898 rr) (some (.int r)) (wAr cI q 1898 rr) := by
  intro X C Z
  show xb_G X 0 0 (wAr cI q 1898 rr) [(0, .ref q)] 0 []
  have lp4 : ∀ (k : Int32 → Option (Int32)) (n : Nat) (x1_4 : Int32) (x2_4 : Int32), f_X6_segments_4 rr k n x1_4 x2_4 = some r → (∀ (x1_4e : Int32), k x1_4e = some r → xb_G X 0 0 (wAr cI q 1898 rr) [(1, .int x1_4e)] 40 []) → xb_G X 0 0 (wAr cI q 1898 rr) [(0, .ref q), (1, .int x1_4), (2, .int x2_4)] 4 [] := by
    intro k n
    induction n with
    | zero => intro x1_4 x2_4 h hk; unfold f_X6_segments_4 at h; cases h
    | succ n ih =>
      intro x1_4 x2_4 h hk
      unfold f_X6_segments_4 at h
      refine xi_iload_n C dX6_segments_4 rfl 2 rfl ?_
      refine xi_bipush (v := 72) C dX6_segments_5 (by decide) ?_
      refine xi_icmp_ge (tgt := 40) C dX6_segments_7 (by decide) (fun c1 => ?_) (fun c1 => ?_)
      · have h := it_i c1 h
        exact xb_lv (hk x1_4 h) [1] rfl
      · have h := ie_i c1 h
        refine xi_iload_n C dX6_segments_10 rfl 1 rfl ?_
        refine xi_aload_n C dX6_segments_11 rfl 0 rfl ?_
        refine xi_bipush (v := 96) C dX6_segments_12 (by decide) ?_
        refine xi_iload_n C dX6_segments_14 rfl 2 rfl ?_
        refine xi_iadd C dX6_segments_15 ?_
        obtain ⟨v2, e3, h⟩ := ob_i h
        refine xi_iald C dX6_segments_16 0 0 rfl rfl e3 ?_
        refine xi_if_le (tgt := 31) C dX6_segments_17 (by decide) (fun c4 => ?_) (fun c4 => ?_)
        · have h := it_i c4 h
          refine xi_iconst (v := 0) C dX6_segments_31 (by decide) ?_
          refine xi_iadd C dX6_segments_32 ?_
          refine xi_istore_n (lv2 := [(0, .ref q), (1, .int (x1_4 + 0)), (2, .int x2_4)]) C dX6_segments_33 rfl (by decide) [0, 2] [1, 0, 2] rfl ?_
          refine xi_iinc (v := x2_4 + 1) (lv2 := [(0, .ref q), (1, .int (x1_4 + 0)), (2, .int (x2_4 + 1))]) C dX6_segments_34 2 rfl (by rfl) (by decide) [0, 1] [1, 2, 0] rfl ?_
          refine xi_goto (tgt := 4) C dX6_segments_37 (by decide) ?_
          exact xb_lv (ih (x1_4 + 0) (x2_4 + 1) h hk) [0, 1, 2] rfl
        · have h := ie_i c4 h
          refine xi_aload_n C dX6_segments_20 rfl 0 rfl ?_
          refine xi_bipush (v := 96) C dX6_segments_21 (by decide) ?_
          refine xi_iload_n C dX6_segments_23 rfl 2 rfl ?_
          refine xi_iadd C dX6_segments_24 ?_
          obtain ⟨v5, e6, h⟩ := ob_i h
          refine xi_iald C dX6_segments_25 0 0 rfl rfl e6 ?_
          refine xi_iconst (v := 1) C dX6_segments_26 (by decide) ?_
          refine xi_isub C dX6_segments_27 ?_
          refine xi_goto (tgt := 32) C dX6_segments_28 (by decide) ?_
          refine xi_iadd C dX6_segments_32 ?_
          refine xi_istore_n (lv2 := [(0, .ref q), (1, .int (x1_4 + (v5 - 1))), (2, .int x2_4)]) C dX6_segments_33 rfl (by decide) [0, 2] [1, 0, 2] rfl ?_
          refine xi_iinc (v := x2_4 + 1) (lv2 := [(0, .ref q), (1, .int (x1_4 + (v5 - 1))), (2, .int (x2_4 + 1))]) C dX6_segments_34 2 rfl (by rfl) (by decide) [0, 1] [1, 2, 0] rfl ?_
          refine xi_goto (tgt := 4) C dX6_segments_37 (by decide) ?_
          exact xb_lv (ih (x1_4 + (v5 - 1)) (x2_4 + 1) h hk) [0, 1, 2] rfl
  unfold f_X6_segments at h
  refine xi_iconst (v := 0) C dX6_segments_0 (by decide) ?_
  refine xi_istore_n (lv2 := [(0, .ref q), (1, .int 0)]) C dX6_segments_1 rfl (by decide) [0] [1, 0] rfl ?_
  refine xi_iconst (v := 0) C dX6_segments_2 (by decide) ?_
  refine xi_istore_n (lv2 := [(0, .ref q), (1, .int 0), (2, .int 0)]) C dX6_segments_3 rfl (by decide) [0, 1] [1, 2, 0] rfl ?_
  refine xb_lv (lp4 _ xFu 0 0 h (fun x1z7 h => ?_)) [0, 1, 2] rfl
  refine xi_iload_n C dX6_segments_40 rfl 0 rfl ?_
  have w0 := Option.some.inj h
  subst w0
  exact xi_iret C Z dX6_segments_41
def f_X6_size (p0 : Int32) : Option (Int32) :=
  if 0 ≤ p0 then
    some p0
  else
    some (-p0)
theorem k_X6_size : xb_Y yX6_size cX6_size wsX6_size 1 (some .int) { frames := 0, cells := 0, slots := 0, locals := 0 } 1 := ⟨⟨_, rfl⟩, by decide, ⟨by decide, by decide, by decide +kernel⟩, rfl, rfl⟩
set_option maxHeartbeats 4000000 in
set_option maxRecDepth 100000 in
theorem m_X6_size (D : va_G) (cI cC cZ cR : ClassId) (p0 : Int32) (r : Int32) (h : f_X6_size p0 = some r) : xb_M cX6_size wsX6_size RX6 { frames := 0, cells := 0, slots := 0, locals := 0 } (some .int) 1 (xb_ty cI cC cZ cR) D [.int p0] ([] : va_W) (some (.int r)) ([] : va_W) := by
  intro X C Z
  show xb_G X 0 0 ([] : va_W) [(0, .int p0)] 0 []
  unfold f_X6_size at h
  refine xi_iload_n C dX6_size_0 rfl 0 rfl ?_
  refine xi_if_ge (tgt := 9) C dX6_size_1 (by decide) (fun c1 => ?_) (fun c1 => ?_)
  · have h := it_i c1 h
    refine xi_iload_n C dX6_size_9 rfl 0 rfl ?_
    have w0 := Option.some.inj h
    subst w0
    exact xi_iret C Z dX6_size_10
  · have h := ie_i c1 h
    refine xi_iload_n C dX6_size_4 rfl 0 rfl ?_
    refine xi_ineg C dX6_size_5 ?_
    refine xi_goto (tgt := 10) C dX6_size_6 (by decide) ?_
    have w0 := Option.some.inj h
    subst w0
    exact xi_iret C Z dX6_size_10
def f_X6_span (rr : Nat → Int32) (p1 : Int32) : Option (Int32) :=
  (xr_d rr 1898 (24 + p1)).bind fun v1 =>
  (f_X6_junction v1).bind fun v3 =>
  (f_X6_size ((v3 - v3 / 6 * 6) - ((p1 / 3) - (p1 / 3) / 6 * 6))).bind fun v5 =>
  (f_X6_size ((v3 / 6) - ((p1 / 3) / 6))).bind fun v7 =>
  some (v5 + v7)
theorem k_X6_span : xb_Y yX6_span cX6_span wsX6_span 4 (some .int) { frames := 1, cells := 0, slots := 0, locals := 20 } 2 := ⟨⟨_, rfl⟩, by decide, ⟨by decide, by decide, by decide +kernel⟩, rfl, rfl⟩
set_option maxHeartbeats 4000000 in
set_option maxRecDepth 100000 in
theorem m_X6_span (D : va_G) (cI cC cZ cR : ClassId) (q : Nat) (rr : Nat → Int32) (p1 : Int32) (r : Int32) (h : f_X6_span rr p1 = some r) : xb_M cX6_span wsX6_span RX6 { frames := 1, cells := 0, slots := 0, locals := 20 } (some .int) 4 (xb_ty cI cC cZ cR) D [.ref q, .int p1] (wAr cI q 1898 rr) (some (.int r)) (wAr cI q 1898 rr) := by
  intro X C Z
  show xb_G X 0 0 (wAr cI q 1898 rr) [(0, .ref q), (1, .int p1)] 0 []
  unfold f_X6_span at h
  refine xi_aload_n C dX6_span_0 rfl 0 rfl ?_
  refine xi_bipush (v := 24) C dX6_span_1 (by decide) ?_
  refine xi_iload_n C dX6_span_3 rfl 1 rfl ?_
  refine xi_iadd C dX6_span_4 ?_
  obtain ⟨v1, e2, h⟩ := ob_i h
  refine xi_iald C dX6_span_5 0 0 rfl rfl e2 ?_
  obtain ⟨v3, e4, h⟩ := ob_i h
  refine xi_callS (As := [.int v1]) (o := some (.int v3)) (rest := []) (w2 := (wAr cI q 1898 rr)) (st2 := [.int v3]) C k_X6_junction (m_X6_junction D cI cC cZ cR v1 v3 e4) gX6_span_X6_junction dX6_span_6 ⟨Nat.le_of_ble_eq_true rfl, Nat.le_of_ble_eq_true rfl, Nat.le_of_ble_eq_true rfl⟩ [] rfl rfl [0, 1, 2, 3] rfl rfl rfl rfl (Nat.le_of_ble_eq_true rfl) ⟨Nat.zero_le _, Nat.zero_le _⟩ rfl ?_
  refine xi_istore_n (lv2 := [(0, .ref q), (1, .int p1), (2, .int v3)]) C dX6_span_9 rfl (by decide) [0, 1] [1, 2, 0] rfl ?_
  refine xi_iload_n C dX6_span_10 rfl 1 rfl ?_
  refine xi_iconst (v := 3) C dX6_span_11 (by decide) ?_
  refine xi_idiv C dX6_span_12 (by decide) ?_
  refine xi_istore_n (lv2 := [(0, .ref q), (1, .int p1), (2, .int v3), (3, .int (p1 / 3))]) C dX6_span_13 rfl (by decide) [0, 1, 2] [1, 2, 3, 0] rfl ?_
  refine xi_iload_n C dX6_span_14 rfl 2 rfl ?_
  refine xi_bipush (v := 6) C dX6_span_15 (by decide) ?_
  refine xi_irem C dX6_span_17 (by decide) ?_
  refine xi_iload_n C dX6_span_18 rfl 3 rfl ?_
  refine xi_bipush (v := 6) C dX6_span_19 (by decide) ?_
  refine xi_irem C dX6_span_21 (by decide) ?_
  refine xi_isub C dX6_span_22 ?_
  obtain ⟨v5, e6, h⟩ := ob_i h
  refine xi_callS (As := [.int ((v3 - v3 / 6 * 6) - ((p1 / 3) - (p1 / 3) / 6 * 6))]) (o := some (.int v5)) (rest := []) (w2 := (wAr cI q 1898 rr)) (st2 := [.int v5]) C k_X6_size (m_X6_size D cI cC cZ cR ((v3 - v3 / 6 * 6) - ((p1 / 3) - (p1 / 3) / 6 * 6)) v5 e6) gX6_span_X6_size dX6_span_23 ⟨Nat.le_of_ble_eq_true rfl, Nat.le_of_ble_eq_true rfl, Nat.le_of_ble_eq_true rfl⟩ [] rfl rfl [0, 1, 2, 3] rfl rfl rfl rfl (Nat.le_of_ble_eq_true rfl) ⟨Nat.zero_le _, Nat.zero_le _⟩ rfl ?_
  refine xi_iload_n C dX6_span_26 rfl 2 rfl ?_
  refine xi_bipush (v := 6) C dX6_span_27 (by decide) ?_
  refine xi_idiv C dX6_span_29 (by decide) ?_
  refine xi_iload_n C dX6_span_30 rfl 3 rfl ?_
  refine xi_bipush (v := 6) C dX6_span_31 (by decide) ?_
  refine xi_idiv C dX6_span_33 (by decide) ?_
  refine xi_isub C dX6_span_34 ?_
  obtain ⟨v7, e8, h⟩ := ob_i h
  refine xi_callS (As := [.int ((v3 / 6) - ((p1 / 3) / 6))]) (o := some (.int v7)) (rest := [.int v5]) (w2 := (wAr cI q 1898 rr)) (st2 := [.int v7, .int v5]) C k_X6_size (m_X6_size D cI cC cZ cR ((v3 / 6) - ((p1 / 3) / 6)) v7 e8) gX6_span_X6_size dX6_span_35 ⟨Nat.le_of_ble_eq_true rfl, Nat.le_of_ble_eq_true rfl, Nat.le_of_ble_eq_true rfl⟩ [] rfl rfl [0, 1, 2, 3] rfl rfl rfl rfl (Nat.le_of_ble_eq_true rfl) ⟨Nat.zero_le _, Nat.zero_le _⟩ rfl ?_
  refine xi_iadd C dX6_span_38 ?_
  have w0 := Option.some.inj h
  subst w0
  exact xi_iret C Z dX6_span_39
def f_X6_nextWire_6 (don : Nat → Int32) (rr : Nat → Int32) (x2_6 : Int32) (k : Int32 → Option (Int32)) : Nat → Int32 → Int32 → Option (Int32)
  | 0, _, _ => none
  | n + 1, x3_6, x4_6 =>
    if 72 ≤ x4_6 then
      k x3_6
    else
      (f_X6_isWire rr x4_6).bind fun v2 =>
      if v2 = 0 then
        f_X6_nextWire_6 don rr x2_6 k n x3_6 (x4_6 + 1)
      else
        (xr_d don 72 x4_6).bind fun v5 =>
        if v5 = 0 then
          if x3_6 = (-5) then
            if x3_6 = (-5) then
              f_X6_nextWire_6 don rr x2_6 k n x4_6 (x4_6 + 1)
            else
              if x2_6 = 1 then
                f_X6_nextWire_6 don rr x2_6 k n x3_6 (x4_6 + 1)
              else
                f_X6_nextWire_6 don rr x2_6 k n x3_6 (x4_6 + 1)
          else
            if x2_6 = 0 then
              if x3_6 = (-5) then
                f_X6_nextWire_6 don rr x2_6 k n x4_6 (x4_6 + 1)
              else
                if x2_6 = 1 then
                  f_X6_nextWire_6 don rr x2_6 k n x3_6 (x4_6 + 1)
                else
                  f_X6_nextWire_6 don rr x2_6 k n x3_6 (x4_6 + 1)
            else
              (f_X6_span rr x4_6).bind fun v14 =>
              (f_X6_span rr x3_6).bind fun v16 =>
              if x3_6 = (-5) then
                f_X6_nextWire_6 don rr x2_6 k n x4_6 (x4_6 + 1)
              else
                if x2_6 = 1 then
                  if (v14 - v16) ≤ 0 then
                    f_X6_nextWire_6 don rr x2_6 k n x3_6 (x4_6 + 1)
                  else
                    f_X6_nextWire_6 don rr x2_6 k n x4_6 (x4_6 + 1)
                else
                  if 0 ≤ (v14 - v16) then
                    f_X6_nextWire_6 don rr x2_6 k n x3_6 (x4_6 + 1)
                  else
                    f_X6_nextWire_6 don rr x2_6 k n x4_6 (x4_6 + 1)
        else
          f_X6_nextWire_6 don rr x2_6 k n x3_6 (x4_6 + 1)
def f_X6_nextWire (don : Nat → Int32) (rr : Nat → Int32) (p2 : Int32) : Option (Int32) :=
  f_X6_nextWire_6 don rr p2 (fun x3z26 =>
    some x3z26) xFu (-5) 0
theorem k_X6_nextWire : xb_Y yX6_nextWire cX6_nextWire wsX6_nextWire 6 (some .int) { frames := 4, cells := 0, slots := 0, locals := 84 } 2 := ⟨⟨_, rfl⟩, by decide, ⟨by decide, by decide, by decide +kernel⟩, rfl, rfl⟩
theorem fl_X6_nextWire_32 : Cond.fieldLink RX6 32 "LookupBoardModel" "done" "[Z" ∈ wsX6_nextWire := List.mem_of_getElem? (i := 1) rfl
theorem iw_X6_nextWire_6 : ∀ w ∈ wsX60, w ∈ wsX6_nextWire := fun w h => List.mem_cons_of_mem _ (List.mem_append_right _ h)
set_option maxHeartbeats 4000000 in
set_option maxRecDepth 100000 in
theorem m_X6_nextWire (D : va_G) (cI cC cZ cR : ClassId) (o0 : Nat) (ma : Nat → Nat) (q : Nat) (st : Int32) (ik : Int32) (le : Int32) (sp : Int32) (nu : Int32) (hld : Nat → Int32) (far : Nat → Int32) (don : Nat → Int32) (rr : Nat → Int32) (p2 : Int32) (r : Int32) (h : f_X6_nextWire don rr p2 = some r) : xb_M cX6_nextWire wsX6_nextWire RX6 { frames := 4, cells := 0, slots := 0, locals := 84 } (some .int) 6 (xb_ty cI cC cZ cR) D [.ref o0, .ref q, .int p2] (wMo o0 ma st ik le sp nu ++ wAr cI (ma 5) 48 hld ++ wAr cI (ma 6) 24 far ++ wAr cZ (ma 7) 72 don ++ wAr cI q 1898 rr) (some (.int r)) (wMo o0 ma st ik le sp nu ++ wAr cI (ma 5) 48 hld ++ wAr cI (ma 6) 24 far ++ wAr cZ (ma 7) 72 don ++ wAr cI q 1898 rr) := by
  intro X C Z
  show xb_G X 0 0 (wMo o0 ma st ik le sp nu ++ wAr cI (ma 5) 48 hld ++ wAr cI (ma 6) 24 far ++ wAr cZ (ma 7) 72 don ++ wAr cI q 1898 rr) [(0, .ref o0), (1, .ref q), (2, .int p2)] 0 []
  have lp6 : ∀ (x2_6 : Int32) (k : Int32 → Option (Int32)) (n : Nat) (x3_6 : Int32) (x4_6 : Int32), f_X6_nextWire_6 don rr x2_6 k n x3_6 x4_6 = some r → (∀ (x3_6e : Int32), k x3_6e = some r → xb_G X 0 0 (wMo o0 ma st ik le sp nu ++ wAr cI (ma 5) 48 hld ++ wAr cI (ma 6) 24 far ++ wAr cZ (ma 7) 72 don ++ wAr cI q 1898 rr) [(3, .int x3_6e)] 97 []) → xb_G X 0 0 (wMo o0 ma st ik le sp nu ++ wAr cI (ma 5) 48 hld ++ wAr cI (ma 6) 24 far ++ wAr cZ (ma 7) 72 don ++ wAr cI q 1898 rr) [(0, .ref o0), (1, .ref q), (2, .int x2_6), (3, .int x3_6), (4, .int x4_6)] 6 [] := by
    intro x2_6 k n
    induction n with
    | zero => intro x3_6 x4_6 h hk; unfold f_X6_nextWire_6 at h; cases h
    | succ n ih =>
      intro x3_6 x4_6 h hk
      unfold f_X6_nextWire_6 at h
      refine xi_iload C dX6_nextWire_6 4 rfl ?_
      refine xi_bipush (v := 72) C dX6_nextWire_8 (by decide) ?_
      refine xi_icmp_ge (tgt := 97) C dX6_nextWire_10 (by decide) (fun c1 => ?_) (fun c1 => ?_)
      · have h := it_i c1 h
        exact xb_lv (hk x3_6 h) [3] rfl
      · have h := ie_i c1 h
        refine xi_aload_n C dX6_nextWire_13 rfl 1 rfl ?_
        refine xi_iload C dX6_nextWire_14 4 rfl ?_
        obtain ⟨v2, e3, h⟩ := ob_i h
        refine xi_callS (As := [.ref q, .int x4_6]) (o := some (.int v2)) (rest := []) (w2 := (wMo o0 ma st ik le sp nu ++ wAr cI (ma 5) 48 hld ++ wAr cI (ma 6) 24 far ++ wAr cZ (ma 7) 72 don ++ wAr cI q 1898 rr)) (st2 := [.int v2]) C k_X6_isWire (m_X6_isWire D cI cC cZ cR q rr x4_6 v2 e3) gX6_nextWire_X6_isWire dX6_nextWire_16 ⟨Nat.le_of_ble_eq_true rfl, Nat.le_of_ble_eq_true rfl, Nat.le_of_ble_eq_true rfl⟩ [4] rfl rfl [0, 1, 2, 3] rfl rfl rfl rfl (Nat.le_of_ble_eq_true rfl) ⟨Nat.zero_le _, Nat.zero_le _⟩ rfl ?_
        refine xi_if_eq (tgt := 91) C dX6_nextWire_19 (by decide) (fun c4 => ?_) (fun c4 => ?_)
        · have h := it_i c4 h
          refine xi_iinc (v := x4_6 + 1) (lv2 := [(0, .ref o0), (1, .ref q), (2, .int x2_6), (3, .int x3_6), (4, .int (x4_6 + 1))]) C dX6_nextWire_91 4 rfl (by rfl) (by decide) [0, 1, 2, 3] [1, 2, 3, 4, 0] rfl ?_
          refine xi_goto (tgt := 6) C dX6_nextWire_94 (by decide) ?_
          exact xb_lv (ih x3_6 (x4_6 + 1) h hk) [0, 1, 2, 3, 4] rfl
        · have h := ie_i c4 h
          refine xi_aload_n C dX6_nextWire_22 rfl 0 rfl ?_
          refine xi_get C dX6_nextWire_23 iw_X6_nextWire_6 0 rfl rfl 10 (by decide) fl_X6_nextWire_32 rfl ?_
          refine xi_iload C dX6_nextWire_26 4 rfl ?_
          obtain ⟨v5, e6, h⟩ := ob_i h
          refine xi_zald C dX6_nextWire_28 3 2 rfl rfl e6 ?_
          refine xi_if_ne (tgt := 91) C dX6_nextWire_29 (by decide) (fun c7 => ?_) (fun c7 => ?_)
          · have h := ie_i c7 h
            refine xi_iinc (v := x4_6 + 1) (lv2 := [(0, .ref o0), (1, .ref q), (2, .int x2_6), (3, .int x3_6), (4, .int (x4_6 + 1))]) C dX6_nextWire_91 4 rfl (by rfl) (by decide) [0, 1, 2, 3] [1, 2, 3, 4, 0] rfl ?_
            refine xi_goto (tgt := 6) C dX6_nextWire_94 (by decide) ?_
            exact xb_lv (ih x3_6 (x4_6 + 1) h hk) [0, 1, 2, 3, 4] rfl
          · have h := it_i c7 h
            refine xi_iload_n C dX6_nextWire_32 rfl 3 rfl ?_
            refine xi_bipush (v := (-5)) C dX6_nextWire_33 (by decide) ?_
            refine xi_icmp_eq (tgt := 42) C dX6_nextWire_35 (by decide) (fun c8 => ?_) (fun c8 => ?_)
            · have h := it_i c8 h
              refine xi_iconst (v := 0) C dX6_nextWire_42 (by decide) ?_
              refine xi_goto (tgt := 58) C dX6_nextWire_43 (by decide) ?_
              refine xi_istore (lv2 := [(0, .ref o0), (1, .ref q), (2, .int x2_6), (3, .int x3_6), (4, .int x4_6), (5, .int 0)]) C dX6_nextWire_58 (by decide) [0, 1, 2, 3, 4] [1, 2, 3, 4, 5, 0] rfl ?_
              refine xi_iload_n C dX6_nextWire_60 rfl 3 rfl ?_
              refine xi_bipush (v := (-5)) C dX6_nextWire_61 (by decide) ?_
              refine xi_icmp_eq (tgt := 84) C dX6_nextWire_63 (by decide) (fun c9 => ?_) (fun c9 => ?_)
              · have h := it_i c9 h
                refine xi_iload C dX6_nextWire_84 4 rfl ?_
                refine xi_goto (tgt := 90) C dX6_nextWire_86 (by decide) ?_
                refine xi_istore_n (lv2 := [(0, .ref o0), (1, .ref q), (2, .int x2_6), (3, .int x4_6), (4, .int x4_6), (5, .int 0)]) C dX6_nextWire_90 rfl (by decide) [0, 1, 2, 4, 5] [1, 2, 3, 0, 4, 5] rfl ?_
                refine xi_iinc (v := x4_6 + 1) (lv2 := [(0, .ref o0), (1, .ref q), (2, .int x2_6), (3, .int x4_6), (4, .int (x4_6 + 1)), (5, .int 0)]) C dX6_nextWire_91 4 rfl (by rfl) (by decide) [0, 1, 2, 3, 5] [1, 2, 3, 4, 0, 5] rfl ?_
                refine xi_goto (tgt := 6) C dX6_nextWire_94 (by decide) ?_
                exact xb_lv (ih x4_6 (x4_6 + 1) h hk) [0, 1, 2, 3, 4] rfl
              · have h := ie_i c9 h
                refine xi_iload_n C dX6_nextWire_66 rfl 2 rfl ?_
                refine xi_iconst (v := 1) C dX6_nextWire_67 (by decide) ?_
                refine xi_icmp_ne (tgt := 79) C dX6_nextWire_68 (by decide) (fun c10 => ?_) (fun c10 => ?_)
                · have h := ie_i c10 h
                  refine xi_iload C dX6_nextWire_79 5 rfl ?_
                  refine xi_if_ge (tgt := 89) C dX6_nextWire_81 (by decide) (fun c11 => ?_) (fun c11 => ?_)
                  rotate_left
                  · first | exact absurd c11 (by decide) | exact absurd (by decide) c11
                  refine xi_iload_n C dX6_nextWire_89 rfl 3 rfl ?_
                  refine xi_istore_n (lv2 := [(0, .ref o0), (1, .ref q), (2, .int x2_6), (3, .int x3_6), (4, .int x4_6), (5, .int 0)]) C dX6_nextWire_90 rfl (by decide) [0, 1, 2, 4, 5] [1, 2, 3, 0, 4, 5] rfl ?_
                  refine xi_iinc (v := x4_6 + 1) (lv2 := [(0, .ref o0), (1, .ref q), (2, .int x2_6), (3, .int x3_6), (4, .int (x4_6 + 1)), (5, .int 0)]) C dX6_nextWire_91 4 rfl (by rfl) (by decide) [0, 1, 2, 3, 5] [1, 2, 3, 4, 0, 5] rfl ?_
                  refine xi_goto (tgt := 6) C dX6_nextWire_94 (by decide) ?_
                  exact xb_lv (ih x3_6 (x4_6 + 1) h hk) [0, 1, 2, 3, 4] rfl
                · have h := it_i c10 h
                  refine xi_iload C dX6_nextWire_71 5 rfl ?_
                  refine xi_if_le (tgt := 89) C dX6_nextWire_73 (by decide) (fun c12 => ?_) (fun c12 => ?_)
                  rotate_left
                  · first | exact absurd c12 (by decide) | exact absurd (by decide) c12
                  refine xi_iload_n C dX6_nextWire_89 rfl 3 rfl ?_
                  refine xi_istore_n (lv2 := [(0, .ref o0), (1, .ref q), (2, .int x2_6), (3, .int x3_6), (4, .int x4_6), (5, .int 0)]) C dX6_nextWire_90 rfl (by decide) [0, 1, 2, 4, 5] [1, 2, 3, 0, 4, 5] rfl ?_
                  refine xi_iinc (v := x4_6 + 1) (lv2 := [(0, .ref o0), (1, .ref q), (2, .int x2_6), (3, .int x3_6), (4, .int (x4_6 + 1)), (5, .int 0)]) C dX6_nextWire_91 4 rfl (by rfl) (by decide) [0, 1, 2, 3, 5] [1, 2, 3, 4, 0, 5] rfl ?_
                  refine xi_goto (tgt := 6) C dX6_nextWire_94 (by decide) ?_
                  exact xb_lv (ih x3_6 (x4_6 + 1) h hk) [0, 1, 2, 3, 4] rfl
            · have h := ie_i c8 h
              refine xi_iload_n C dX6_nextWire_38 rfl 2 rfl ?_
              refine xi_if_ne (tgt := 46) C dX6_nextWire_39 (by decide) (fun c13 => ?_) (fun c13 => ?_)
              · have h := ie_i c13 h
                refine xi_aload_n C dX6_nextWire_46 rfl 1 rfl ?_
                refine xi_iload C dX6_nextWire_47 4 rfl ?_
                obtain ⟨v14, e15, h⟩ := ob_i h
                refine xi_callS (As := [.ref q, .int x4_6]) (o := some (.int v14)) (rest := []) (w2 := (wMo o0 ma st ik le sp nu ++ wAr cI (ma 5) 48 hld ++ wAr cI (ma 6) 24 far ++ wAr cZ (ma 7) 72 don ++ wAr cI q 1898 rr)) (st2 := [.int v14]) C k_X6_span (m_X6_span D cI cC cZ cR q rr x4_6 v14 e15) gX6_nextWire_X6_span dX6_nextWire_49 ⟨Nat.le_of_ble_eq_true rfl, Nat.le_of_ble_eq_true rfl, Nat.le_of_ble_eq_true rfl⟩ [4] rfl rfl [0, 1, 2, 3] rfl rfl rfl rfl (Nat.le_of_ble_eq_true rfl) ⟨Nat.zero_le _, Nat.zero_le _⟩ rfl ?_
                refine xi_aload_n C dX6_nextWire_52 rfl 1 rfl ?_
                refine xi_iload_n C dX6_nextWire_53 rfl 3 rfl ?_
                obtain ⟨v16, e17, h⟩ := ob_i h
                refine xi_callS (As := [.ref q, .int x3_6]) (o := some (.int v16)) (rest := [.int v14]) (w2 := (wMo o0 ma st ik le sp nu ++ wAr cI (ma 5) 48 hld ++ wAr cI (ma 6) 24 far ++ wAr cZ (ma 7) 72 don ++ wAr cI q 1898 rr)) (st2 := [.int v16, .int v14]) C k_X6_span (m_X6_span D cI cC cZ cR q rr x3_6 v16 e17) gX6_nextWire_X6_span dX6_nextWire_54 ⟨Nat.le_of_ble_eq_true rfl, Nat.le_of_ble_eq_true rfl, Nat.le_of_ble_eq_true rfl⟩ [4] rfl rfl [0, 1, 2, 3] rfl rfl rfl rfl (Nat.le_of_ble_eq_true rfl) ⟨Nat.zero_le _, Nat.zero_le _⟩ rfl ?_
                refine xi_isub C dX6_nextWire_57 ?_
                refine xi_istore (lv2 := [(0, .ref o0), (1, .ref q), (2, .int x2_6), (3, .int x3_6), (4, .int x4_6), (5, .int (v14 - v16))]) C dX6_nextWire_58 (by decide) [0, 1, 2, 3, 4] [1, 2, 3, 4, 5, 0] rfl ?_
                refine xi_iload_n C dX6_nextWire_60 rfl 3 rfl ?_
                refine xi_bipush (v := (-5)) C dX6_nextWire_61 (by decide) ?_
                refine xi_icmp_eq (tgt := 84) C dX6_nextWire_63 (by decide) (fun c18 => ?_) (fun c18 => ?_)
                · have h := it_i c18 h
                  refine xi_iload C dX6_nextWire_84 4 rfl ?_
                  refine xi_goto (tgt := 90) C dX6_nextWire_86 (by decide) ?_
                  refine xi_istore_n (lv2 := [(0, .ref o0), (1, .ref q), (2, .int x2_6), (3, .int x4_6), (4, .int x4_6), (5, .int (v14 - v16))]) C dX6_nextWire_90 rfl (by decide) [0, 1, 2, 4, 5] [1, 2, 3, 0, 4, 5] rfl ?_
                  refine xi_iinc (v := x4_6 + 1) (lv2 := [(0, .ref o0), (1, .ref q), (2, .int x2_6), (3, .int x4_6), (4, .int (x4_6 + 1)), (5, .int (v14 - v16))]) C dX6_nextWire_91 4 rfl (by rfl) (by decide) [0, 1, 2, 3, 5] [1, 2, 3, 4, 0, 5] rfl ?_
                  refine xi_goto (tgt := 6) C dX6_nextWire_94 (by decide) ?_
                  exact xb_lv (ih x4_6 (x4_6 + 1) h hk) [0, 1, 2, 3, 4] rfl
                · have h := ie_i c18 h
                  refine xi_iload_n C dX6_nextWire_66 rfl 2 rfl ?_
                  refine xi_iconst (v := 1) C dX6_nextWire_67 (by decide) ?_
                  refine xi_icmp_ne (tgt := 79) C dX6_nextWire_68 (by decide) (fun c19 => ?_) (fun c19 => ?_)
                  · have h := ie_i c19 h
                    refine xi_iload C dX6_nextWire_79 5 rfl ?_
                    refine xi_if_ge (tgt := 89) C dX6_nextWire_81 (by decide) (fun c20 => ?_) (fun c20 => ?_)
                    · have h := it_i c20 h
                      refine xi_iload_n C dX6_nextWire_89 rfl 3 rfl ?_
                      refine xi_istore_n (lv2 := [(0, .ref o0), (1, .ref q), (2, .int x2_6), (3, .int x3_6), (4, .int x4_6), (5, .int (v14 - v16))]) C dX6_nextWire_90 rfl (by decide) [0, 1, 2, 4, 5] [1, 2, 3, 0, 4, 5] rfl ?_
                      refine xi_iinc (v := x4_6 + 1) (lv2 := [(0, .ref o0), (1, .ref q), (2, .int x2_6), (3, .int x3_6), (4, .int (x4_6 + 1)), (5, .int (v14 - v16))]) C dX6_nextWire_91 4 rfl (by rfl) (by decide) [0, 1, 2, 3, 5] [1, 2, 3, 4, 0, 5] rfl ?_
                      refine xi_goto (tgt := 6) C dX6_nextWire_94 (by decide) ?_
                      exact xb_lv (ih x3_6 (x4_6 + 1) h hk) [0, 1, 2, 3, 4] rfl
                    · have h := ie_i c20 h
                      refine xi_iload C dX6_nextWire_84 4 rfl ?_
                      refine xi_goto (tgt := 90) C dX6_nextWire_86 (by decide) ?_
                      refine xi_istore_n (lv2 := [(0, .ref o0), (1, .ref q), (2, .int x2_6), (3, .int x4_6), (4, .int x4_6), (5, .int (v14 - v16))]) C dX6_nextWire_90 rfl (by decide) [0, 1, 2, 4, 5] [1, 2, 3, 0, 4, 5] rfl ?_
                      refine xi_iinc (v := x4_6 + 1) (lv2 := [(0, .ref o0), (1, .ref q), (2, .int x2_6), (3, .int x4_6), (4, .int (x4_6 + 1)), (5, .int (v14 - v16))]) C dX6_nextWire_91 4 rfl (by rfl) (by decide) [0, 1, 2, 3, 5] [1, 2, 3, 4, 0, 5] rfl ?_
                      refine xi_goto (tgt := 6) C dX6_nextWire_94 (by decide) ?_
                      exact xb_lv (ih x4_6 (x4_6 + 1) h hk) [0, 1, 2, 3, 4] rfl
                  · have h := it_i c19 h
                    refine xi_iload C dX6_nextWire_71 5 rfl ?_
                    refine xi_if_le (tgt := 89) C dX6_nextWire_73 (by decide) (fun c21 => ?_) (fun c21 => ?_)
                    · have h := it_i c21 h
                      refine xi_iload_n C dX6_nextWire_89 rfl 3 rfl ?_
                      refine xi_istore_n (lv2 := [(0, .ref o0), (1, .ref q), (2, .int x2_6), (3, .int x3_6), (4, .int x4_6), (5, .int (v14 - v16))]) C dX6_nextWire_90 rfl (by decide) [0, 1, 2, 4, 5] [1, 2, 3, 0, 4, 5] rfl ?_
                      refine xi_iinc (v := x4_6 + 1) (lv2 := [(0, .ref o0), (1, .ref q), (2, .int x2_6), (3, .int x3_6), (4, .int (x4_6 + 1)), (5, .int (v14 - v16))]) C dX6_nextWire_91 4 rfl (by rfl) (by decide) [0, 1, 2, 3, 5] [1, 2, 3, 4, 0, 5] rfl ?_
                      refine xi_goto (tgt := 6) C dX6_nextWire_94 (by decide) ?_
                      exact xb_lv (ih x3_6 (x4_6 + 1) h hk) [0, 1, 2, 3, 4] rfl
                    · have h := ie_i c21 h
                      refine xi_goto (tgt := 84) C dX6_nextWire_76 (by decide) ?_
                      refine xi_iload C dX6_nextWire_84 4 rfl ?_
                      refine xi_goto (tgt := 90) C dX6_nextWire_86 (by decide) ?_
                      refine xi_istore_n (lv2 := [(0, .ref o0), (1, .ref q), (2, .int x2_6), (3, .int x4_6), (4, .int x4_6), (5, .int (v14 - v16))]) C dX6_nextWire_90 rfl (by decide) [0, 1, 2, 4, 5] [1, 2, 3, 0, 4, 5] rfl ?_
                      refine xi_iinc (v := x4_6 + 1) (lv2 := [(0, .ref o0), (1, .ref q), (2, .int x2_6), (3, .int x4_6), (4, .int (x4_6 + 1)), (5, .int (v14 - v16))]) C dX6_nextWire_91 4 rfl (by rfl) (by decide) [0, 1, 2, 3, 5] [1, 2, 3, 4, 0, 5] rfl ?_
                      refine xi_goto (tgt := 6) C dX6_nextWire_94 (by decide) ?_
                      exact xb_lv (ih x4_6 (x4_6 + 1) h hk) [0, 1, 2, 3, 4] rfl
              · have h := it_i c13 h
                refine xi_iconst (v := 0) C dX6_nextWire_42 (by decide) ?_
                refine xi_goto (tgt := 58) C dX6_nextWire_43 (by decide) ?_
                refine xi_istore (lv2 := [(0, .ref o0), (1, .ref q), (2, .int x2_6), (3, .int x3_6), (4, .int x4_6), (5, .int 0)]) C dX6_nextWire_58 (by decide) [0, 1, 2, 3, 4] [1, 2, 3, 4, 5, 0] rfl ?_
                refine xi_iload_n C dX6_nextWire_60 rfl 3 rfl ?_
                refine xi_bipush (v := (-5)) C dX6_nextWire_61 (by decide) ?_
                refine xi_icmp_eq (tgt := 84) C dX6_nextWire_63 (by decide) (fun c22 => ?_) (fun c22 => ?_)
                · have h := it_i c22 h
                  refine xi_iload C dX6_nextWire_84 4 rfl ?_
                  refine xi_goto (tgt := 90) C dX6_nextWire_86 (by decide) ?_
                  refine xi_istore_n (lv2 := [(0, .ref o0), (1, .ref q), (2, .int x2_6), (3, .int x4_6), (4, .int x4_6), (5, .int 0)]) C dX6_nextWire_90 rfl (by decide) [0, 1, 2, 4, 5] [1, 2, 3, 0, 4, 5] rfl ?_
                  refine xi_iinc (v := x4_6 + 1) (lv2 := [(0, .ref o0), (1, .ref q), (2, .int x2_6), (3, .int x4_6), (4, .int (x4_6 + 1)), (5, .int 0)]) C dX6_nextWire_91 4 rfl (by rfl) (by decide) [0, 1, 2, 3, 5] [1, 2, 3, 4, 0, 5] rfl ?_
                  refine xi_goto (tgt := 6) C dX6_nextWire_94 (by decide) ?_
                  exact xb_lv (ih x4_6 (x4_6 + 1) h hk) [0, 1, 2, 3, 4] rfl
                · have h := ie_i c22 h
                  refine xi_iload_n C dX6_nextWire_66 rfl 2 rfl ?_
                  refine xi_iconst (v := 1) C dX6_nextWire_67 (by decide) ?_
                  refine xi_icmp_ne (tgt := 79) C dX6_nextWire_68 (by decide) (fun c23 => ?_) (fun c23 => ?_)
                  · have h := ie_i c23 h
                    refine xi_iload C dX6_nextWire_79 5 rfl ?_
                    refine xi_if_ge (tgt := 89) C dX6_nextWire_81 (by decide) (fun c24 => ?_) (fun c24 => ?_)
                    rotate_left
                    · first | exact absurd c24 (by decide) | exact absurd (by decide) c24
                    refine xi_iload_n C dX6_nextWire_89 rfl 3 rfl ?_
                    refine xi_istore_n (lv2 := [(0, .ref o0), (1, .ref q), (2, .int x2_6), (3, .int x3_6), (4, .int x4_6), (5, .int 0)]) C dX6_nextWire_90 rfl (by decide) [0, 1, 2, 4, 5] [1, 2, 3, 0, 4, 5] rfl ?_
                    refine xi_iinc (v := x4_6 + 1) (lv2 := [(0, .ref o0), (1, .ref q), (2, .int x2_6), (3, .int x3_6), (4, .int (x4_6 + 1)), (5, .int 0)]) C dX6_nextWire_91 4 rfl (by rfl) (by decide) [0, 1, 2, 3, 5] [1, 2, 3, 4, 0, 5] rfl ?_
                    refine xi_goto (tgt := 6) C dX6_nextWire_94 (by decide) ?_
                    exact xb_lv (ih x3_6 (x4_6 + 1) h hk) [0, 1, 2, 3, 4] rfl
                  · have h := it_i c23 h
                    refine xi_iload C dX6_nextWire_71 5 rfl ?_
                    refine xi_if_le (tgt := 89) C dX6_nextWire_73 (by decide) (fun c25 => ?_) (fun c25 => ?_)
                    rotate_left
                    · first | exact absurd c25 (by decide) | exact absurd (by decide) c25
                    refine xi_iload_n C dX6_nextWire_89 rfl 3 rfl ?_
                    refine xi_istore_n (lv2 := [(0, .ref o0), (1, .ref q), (2, .int x2_6), (3, .int x3_6), (4, .int x4_6), (5, .int 0)]) C dX6_nextWire_90 rfl (by decide) [0, 1, 2, 4, 5] [1, 2, 3, 0, 4, 5] rfl ?_
                    refine xi_iinc (v := x4_6 + 1) (lv2 := [(0, .ref o0), (1, .ref q), (2, .int x2_6), (3, .int x3_6), (4, .int (x4_6 + 1)), (5, .int 0)]) C dX6_nextWire_91 4 rfl (by rfl) (by decide) [0, 1, 2, 3, 5] [1, 2, 3, 4, 0, 5] rfl ?_
                    refine xi_goto (tgt := 6) C dX6_nextWire_94 (by decide) ?_
                    exact xb_lv (ih x3_6 (x4_6 + 1) h hk) [0, 1, 2, 3, 4] rfl
  unfold f_X6_nextWire at h
  refine xi_bipush (v := (-5)) C dX6_nextWire_0 (by decide) ?_
  refine xi_istore_n (lv2 := [(0, .ref o0), (1, .ref q), (2, .int p2), (3, .int (-5))]) C dX6_nextWire_2 rfl (by decide) [0, 1, 2] [1, 2, 3, 0] rfl ?_
  refine xi_iconst (v := 0) C dX6_nextWire_3 (by decide) ?_
  refine xi_istore (lv2 := [(0, .ref o0), (1, .ref q), (2, .int p2), (3, .int (-5)), (4, .int 0)]) C dX6_nextWire_4 (by decide) [0, 1, 2, 3] [1, 2, 3, 4, 0] rfl ?_
  refine xb_lv (lp6 p2 _ xFu (-5) 0 h (fun x3z26 h => ?_)) [0, 1, 2, 3, 4] rfl
  refine xi_iload_n C dX6_nextWire_97 rfl 0 rfl ?_
  have w0 := Option.some.inj h
  subst w0
  exact xi_iret C Z dX6_nextWire_98
def f_X6_laysAll_38 (x2_38 : Int32) (k : (Nat → Int32) → (Nat → Int32) → (Nat → Int32) → (Nat → Int32) → Option (Int32 × (Nat → Int32) × (Nat → Int32) × (Nat → Int32) × (Nat → Int32))) : Nat → Int32 → (Nat → Int32) → (Nat → Int32) → (Nat → Int32) → (Nat → Int32) → Option (Int32 × (Nat → Int32) × (Nat → Int32) × (Nat → Int32) × (Nat → Int32))
  | 0, _, _, _, _, _ => none
  | n + 1, x3_38, hld_38, far_38, don_38, rr_38 =>
    if x3_38 = (-5) then
      k hld_38 far_38 don_38 rr_38
    else
      (f_X6_isLaid hld_38 far_38 rr_38 x3_38).bind fun (v12, hld13, far14, rr15) =>
      if v12 = 0 then
        some ((-3), hld13, far14, don_38, rr15)
      else
        (xr_w don_38 72 x3_38 (vp_nar .boolean 1)).bind fun don19 =>
        (f_X6_nextWire don19 rr15 x2_38).bind fun v20 =>
        f_X6_laysAll_38 x2_38 k n v20 hld13 far14 don19 rr15
def f_X6_laysAll_2 (k : (Nat → Int32) → (Nat → Int32) → Option (Int32 × (Nat → Int32) × (Nat → Int32) × (Nat → Int32) × (Nat → Int32))) : Nat → Int32 → (Nat → Int32) → (Nat → Int32) → Option (Int32 × (Nat → Int32) × (Nat → Int32) × (Nat → Int32) × (Nat → Int32))
  | 0, _, _, _ => none
  | n + 1, x3_2, don_2, rr_2 =>
    if 72 ≤ x3_2 then
      k don_2 rr_2
    else
      (f_X6_takesWire rr_2 x3_2).bind fun rr2 =>
      (xr_w don_2 72 x3_2 (vp_nar .boolean 0)).bind fun don5 =>
      f_X6_laysAll_2 k n (x3_2 + 1) don5 rr2
def f_X6_laysAll (hld : Nat → Int32) (far : Nat → Int32) (don : Nat → Int32) (rr : Nat → Int32) (p2 : Int32) : Option (Int32 × (Nat → Int32) × (Nat → Int32) × (Nat → Int32) × (Nat → Int32)) :=
  f_X6_laysAll_2 (fun donz6 rrz6 =>
    (f_X6_counts hld rrz6).bind fun hld7 =>
    (f_X6_nextWire donz6 rrz6 p2).bind fun v9 =>
    f_X6_laysAll_38 p2 (fun hldz22 farz22 donz22 rrz22 =>
      (f_X6_segments rrz22).bind fun v23 =>
      some (v23, hldz22, farz22, donz22, rrz22)) xFu v9 hld7 far donz6 rrz6) xFu 0 don rr
theorem k_X6_laysAll : xb_Y yX6_laysAll cX6_laysAll wsX6_laysAll 4 (some .int) { frames := 5, cells := 0, slots := 0, locals := 117 } 2 := ⟨⟨_, rfl⟩, by decide, ⟨by decide, by decide, by decide +kernel⟩, rfl, rfl⟩
theorem fl_X6_laysAll_32 : Cond.fieldLink RX6 32 "LookupBoardModel" "done" "[Z" ∈ wsX6_laysAll := List.mem_of_getElem? (i := 1) rfl
theorem iw_X6_laysAll_6 : ∀ w ∈ wsX60, w ∈ wsX6_laysAll := fun w h => List.mem_cons_of_mem _ (List.mem_append_right _ h)
set_option maxHeartbeats 4000000 in
set_option maxRecDepth 100000 in
theorem m_X6_laysAll (D : va_G) (cI cC cZ cR : ClassId) (o0 : Nat) (ma : Nat → Nat) (q : Nat) (st : Int32) (ik : Int32) (le : Int32) (sp : Int32) (nu : Int32) (hld : Nat → Int32) (far : Nat → Int32) (don : Nat → Int32) (rr : Nat → Int32) (p2 : Int32) (r : Int32) (hld' : Nat → Int32) (far' : Nat → Int32) (don' : Nat → Int32) (rr' : Nat → Int32) (h : f_X6_laysAll hld far don rr p2 = some (r, hld', far', don', rr')) : xb_M cX6_laysAll wsX6_laysAll RX6 { frames := 5, cells := 0, slots := 0, locals := 117 } (some .int) 4 (xb_ty cI cC cZ cR) D [.ref o0, .ref q, .int p2] (wMo o0 ma st ik le sp nu ++ wAr cI (ma 5) 48 hld ++ wAr cI (ma 6) 24 far ++ wAr cZ (ma 7) 72 don ++ wAr cI q 1898 rr) (some (.int r)) (wMo o0 ma st ik le sp nu ++ wAr cI (ma 5) 48 hld' ++ wAr cI (ma 6) 24 far' ++ wAr cZ (ma 7) 72 don' ++ wAr cI q 1898 rr') := by
  intro X C Z
  show xb_G X 0 0 (wMo o0 ma st ik le sp nu ++ wAr cI (ma 5) 48 hld ++ wAr cI (ma 6) 24 far ++ wAr cZ (ma 7) 72 don ++ wAr cI q 1898 rr) [(0, .ref o0), (1, .ref q), (2, .int p2)] 0 []
  have lp38 : ∀ (x2_38 : Int32) (k : (Nat → Int32) → (Nat → Int32) → (Nat → Int32) → (Nat → Int32) → Option (Int32 × (Nat → Int32) × (Nat → Int32) × (Nat → Int32) × (Nat → Int32))) (n : Nat) (x3_38 : Int32) (hld_38 : Nat → Int32) (far_38 : Nat → Int32) (don_38 : Nat → Int32) (rr_38 : Nat → Int32), f_X6_laysAll_38 x2_38 k n x3_38 hld_38 far_38 don_38 rr_38 = some (r, hld', far', don', rr') → (∀ (hld_38e : Nat → Int32) (far_38e : Nat → Int32) (don_38e : Nat → Int32) (rr_38e : Nat → Int32), k hld_38e far_38e don_38e rr_38e = some (r, hld', far', don', rr') → xb_G X 0 0 (wMo o0 ma st ik le sp nu ++ wAr cI (ma 5) 48 hld_38e ++ wAr cI (ma 6) 24 far_38e ++ wAr cZ (ma 7) 72 don_38e ++ wAr cI q 1898 rr_38e) [(1, .ref q)] 73 []) → xb_G X 0 0 (wMo o0 ma st ik le sp nu ++ wAr cI (ma 5) 48 hld_38 ++ wAr cI (ma 6) 24 far_38 ++ wAr cZ (ma 7) 72 don_38 ++ wAr cI q 1898 rr_38) [(0, .ref o0), (1, .ref q), (2, .int x2_38), (3, .int x3_38)] 38 [] := by
    intro x2_38 k n
    induction n with
    | zero => intro x3_38 hld_38 far_38 don_38 rr_38 h hk; unfold f_X6_laysAll_38 at h; cases h
    | succ n ih =>
      intro x3_38 hld_38 far_38 don_38 rr_38 h hk
      unfold f_X6_laysAll_38 at h
      refine xi_iload_n C dX6_laysAll_38 rfl 3 rfl ?_
      refine xi_bipush (v := (-5)) C dX6_laysAll_39 (by decide) ?_
      refine xi_icmp_eq (tgt := 73) C dX6_laysAll_41 (by decide) (fun c11 => ?_) (fun c11 => ?_)
      · have h := it_i c11 h
        exact xb_lv (hk hld_38 far_38 don_38 rr_38 h) [1] rfl
      · have h := ie_i c11 h
        refine xi_aload_n C dX6_laysAll_44 rfl 0 rfl ?_
        refine xi_aload_n C dX6_laysAll_45 rfl 1 rfl ?_
        refine xi_iload_n C dX6_laysAll_46 rfl 3 rfl ?_
        obtain ⟨⟨v12, hld13, far14, rr15⟩, e16, h⟩ := ob_i h
        refine xi_callV (As := [.ref q, .int x3_38]) (o := some (.int v12)) (rest := []) (w2 := (wMo o0 ma st ik le sp nu ++ wAr cI (ma 5) 48 hld13 ++ wAr cI (ma 6) 24 far14 ++ wAr cZ (ma 7) 72 don_38 ++ wAr cI q 1898 rr15)) (st2 := [.int v12]) C k_X6_isLaid (m_X6_isLaid D cI cC cZ cR o0 ma q st ik le sp nu hld_38 far_38 don_38 rr_38 x3_38 v12 hld13 far14 rr15 e16) gX6_laysAll_X6_isLaid dX6_laysAll_47 ⟨Nat.le_of_ble_eq_true rfl, Nat.le_of_ble_eq_true rfl, Nat.le_of_ble_eq_true rfl⟩ 0 rfl rfl [0, 1, 2, 3, 4] rfl rfl [0, 1, 2, 3] rfl rfl rfl rfl (Nat.le_of_ble_eq_true rfl) ⟨Nat.zero_le _, Nat.zero_le _⟩ rfl ?_
        refine xi_if_ne (tgt := 56) C dX6_laysAll_50 (by decide) (fun c17 => ?_) (fun c17 => ?_)
        · have h := ie_i c17 h
          refine xi_aload_n C dX6_laysAll_56 rfl 0 rfl ?_
          refine xi_get C dX6_laysAll_57 iw_X6_laysAll_6 0 rfl rfl 10 (by decide) fl_X6_laysAll_32 rfl ?_
          refine xi_iload_n C dX6_laysAll_60 rfl 3 rfl ?_
          refine xi_iconst (v := 1) C dX6_laysAll_61 (by decide) ?_
          obtain ⟨don19, e18, h⟩ := ob_i h
          refine xi_zast (w2 := (wMo o0 ma st ik le sp nu ++ wAr cI (ma 5) 48 hld13 ++ wAr cI (ma 6) 24 far14 ++ wAr cZ (ma 7) 72 don19 ++ wAr cI q 1898 rr15)) C dX6_laysAll_62 3 2 rfl rfl e18 rfl ?_
          refine xi_aload_n C dX6_laysAll_63 rfl 0 rfl ?_
          refine xi_aload_n C dX6_laysAll_64 rfl 1 rfl ?_
          refine xi_iload_n C dX6_laysAll_65 rfl 2 rfl ?_
          obtain ⟨v20, e21, h⟩ := ob_i h
          refine xi_callV (As := [.ref q, .int x2_38]) (o := some (.int v20)) (rest := []) (w2 := (wMo o0 ma st ik le sp nu ++ wAr cI (ma 5) 48 hld13 ++ wAr cI (ma 6) 24 far14 ++ wAr cZ (ma 7) 72 don19 ++ wAr cI q 1898 rr15)) (st2 := [.int v20]) C k_X6_nextWire (m_X6_nextWire D cI cC cZ cR o0 ma q st ik le sp nu hld13 far14 don19 rr15 x2_38 v20 e21) gX6_laysAll_X6_nextWire dX6_laysAll_66 ⟨Nat.le_of_ble_eq_true rfl, Nat.le_of_ble_eq_true rfl, Nat.le_of_ble_eq_true rfl⟩ 0 rfl rfl [0, 1, 2, 3, 4] rfl rfl [0, 1, 2, 3] rfl rfl rfl rfl (Nat.le_of_ble_eq_true rfl) ⟨Nat.zero_le _, Nat.zero_le _⟩ rfl ?_
          refine xi_istore_n (lv2 := [(0, .ref o0), (1, .ref q), (2, .int x2_38), (3, .int v20)]) C dX6_laysAll_69 rfl (by decide) [0, 1, 2] [1, 2, 3, 0] rfl ?_
          refine xi_goto (tgt := 38) C dX6_laysAll_70 (by decide) ?_
          exact xb_lv (ih v20 hld13 far14 don19 rr15 h hk) [0, 1, 2, 3] rfl
        · have h := it_i c17 h
          refine xi_bipush (v := (-3)) C dX6_laysAll_53 (by decide) ?_
          have w0 := Option.some.inj h
          obtain ⟨q0, w1⟩ := Prod.mk.inj w0
          obtain ⟨q1, w2⟩ := Prod.mk.inj w1
          obtain ⟨q2, w3⟩ := Prod.mk.inj w2
          obtain ⟨q3, w4⟩ := Prod.mk.inj w3
          subst q0
          subst q1
          subst q2
          subst q3
          subst w4
          exact xi_iret C Z dX6_laysAll_55
  have lp2 : ∀ (hld_2 : Nat → Int32) (far_2 : Nat → Int32) (x2_2 : Int32) (k : (Nat → Int32) → (Nat → Int32) → Option (Int32 × (Nat → Int32) × (Nat → Int32) × (Nat → Int32) × (Nat → Int32))) (n : Nat) (x3_2 : Int32) (don_2 : Nat → Int32) (rr_2 : Nat → Int32), f_X6_laysAll_2 k n x3_2 don_2 rr_2 = some (r, hld', far', don', rr') → (∀ (don_2e : Nat → Int32) (rr_2e : Nat → Int32), k don_2e rr_2e = some (r, hld', far', don', rr') → xb_G X 0 0 (wMo o0 ma st ik le sp nu ++ wAr cI (ma 5) 48 hld_2 ++ wAr cI (ma 6) 24 far_2 ++ wAr cZ (ma 7) 72 don_2e ++ wAr cI q 1898 rr_2e) [(0, .ref o0), (1, .ref q), (2, .int x2_2)] 26 []) → xb_G X 0 0 (wMo o0 ma st ik le sp nu ++ wAr cI (ma 5) 48 hld_2 ++ wAr cI (ma 6) 24 far_2 ++ wAr cZ (ma 7) 72 don_2 ++ wAr cI q 1898 rr_2) [(0, .ref o0), (1, .ref q), (2, .int x2_2), (3, .int x3_2)] 2 [] := by
    intro hld_2 far_2 x2_2 k n
    induction n with
    | zero => intro x3_2 don_2 rr_2 h hk; unfold f_X6_laysAll_2 at h; cases h
    | succ n ih =>
      intro x3_2 don_2 rr_2 h hk
      unfold f_X6_laysAll_2 at h
      refine xi_iload_n C dX6_laysAll_2 rfl 3 rfl ?_
      refine xi_bipush (v := 72) C dX6_laysAll_3 (by decide) ?_
      refine xi_icmp_ge (tgt := 26) C dX6_laysAll_5 (by decide) (fun c1 => ?_) (fun c1 => ?_)
      · have h := it_i c1 h
        exact xb_lv (hk don_2 rr_2 h) [0, 1, 2] rfl
      · have h := ie_i c1 h
        refine xi_aload_n C dX6_laysAll_8 rfl 1 rfl ?_
        refine xi_iload_n C dX6_laysAll_9 rfl 3 rfl ?_
        obtain ⟨rr2, e3, h⟩ := ob_i h
        refine xi_callS (As := [.ref q, .int x3_2]) (o := none) (rest := []) (w2 := (wMo o0 ma st ik le sp nu ++ wAr cI (ma 5) 48 hld_2 ++ wAr cI (ma 6) 24 far_2 ++ wAr cZ (ma 7) 72 don_2 ++ wAr cI q 1898 rr2)) (st2 := []) C k_X6_takesWire (m_X6_takesWire D cI cC cZ cR q rr_2 x3_2 rr2 e3) gX6_laysAll_X6_takesWire dX6_laysAll_10 ⟨Nat.le_of_ble_eq_true rfl, Nat.le_of_ble_eq_true rfl, Nat.le_of_ble_eq_true rfl⟩ [4] rfl rfl [0, 1, 2, 3] rfl rfl rfl rfl (Nat.le_of_ble_eq_true rfl) ⟨Nat.zero_le _, Nat.zero_le _⟩ rfl ?_
        refine xi_aload_n C dX6_laysAll_13 rfl 0 rfl ?_
        refine xi_get C dX6_laysAll_14 iw_X6_laysAll_6 0 rfl rfl 10 (by decide) fl_X6_laysAll_32 rfl ?_
        refine xi_iload_n C dX6_laysAll_17 rfl 3 rfl ?_
        refine xi_iconst (v := 0) C dX6_laysAll_18 (by decide) ?_
        obtain ⟨don5, e4, h⟩ := ob_i h
        refine xi_zast (w2 := (wMo o0 ma st ik le sp nu ++ wAr cI (ma 5) 48 hld_2 ++ wAr cI (ma 6) 24 far_2 ++ wAr cZ (ma 7) 72 don5 ++ wAr cI q 1898 rr2)) C dX6_laysAll_19 3 2 rfl rfl e4 rfl ?_
        refine xi_iinc (v := x3_2 + 1) (lv2 := [(0, .ref o0), (1, .ref q), (2, .int x2_2), (3, .int (x3_2 + 1))]) C dX6_laysAll_20 3 rfl (by rfl) (by decide) [0, 1, 2] [1, 2, 3, 0] rfl ?_
        refine xi_goto (tgt := 2) C dX6_laysAll_23 (by decide) ?_
        exact xb_lv (ih (x3_2 + 1) don5 rr2 h hk) [0, 1, 2, 3] rfl
  unfold f_X6_laysAll at h
  refine xi_iconst (v := 0) C dX6_laysAll_0 (by decide) ?_
  refine xi_istore_n (lv2 := [(0, .ref o0), (1, .ref q), (2, .int p2), (3, .int 0)]) C dX6_laysAll_1 rfl (by decide) [0, 1, 2] [1, 2, 3, 0] rfl ?_
  refine xb_lv (lp2 hld far p2 _ xFu 0 don rr h (fun donz6 rrz6 h => ?_)) [0, 1, 2, 3] rfl
  refine xi_aload_n C dX6_laysAll_26 rfl 0 rfl ?_
  refine xi_aload_n C dX6_laysAll_27 rfl 1 rfl ?_
  obtain ⟨hld7, e8, h⟩ := ob_i h
  refine xi_callV (As := [.ref q]) (o := none) (rest := []) (w2 := (wMo o0 ma st ik le sp nu ++ wAr cI (ma 5) 48 hld7 ++ wAr cI (ma 6) 24 far ++ wAr cZ (ma 7) 72 donz6 ++ wAr cI q 1898 rrz6)) (st2 := []) C k_X6_counts (m_X6_counts D cI cC cZ cR o0 ma q st ik le sp nu hld far donz6 rrz6 hld7 e8) gX6_laysAll_X6_counts dX6_laysAll_28 ⟨Nat.le_of_ble_eq_true rfl, Nat.le_of_ble_eq_true rfl, Nat.le_of_ble_eq_true rfl⟩ 0 rfl rfl [0, 1, 2, 3, 4] rfl rfl [0, 1, 2, 3] rfl rfl rfl rfl (Nat.le_of_ble_eq_true rfl) ⟨Nat.zero_le _, Nat.zero_le _⟩ rfl ?_
  refine xi_aload_n C dX6_laysAll_31 rfl 0 rfl ?_
  refine xi_aload_n C dX6_laysAll_32 rfl 1 rfl ?_
  refine xi_iload_n C dX6_laysAll_33 rfl 2 rfl ?_
  obtain ⟨v9, e10, h⟩ := ob_i h
  refine xi_callV (As := [.ref q, .int p2]) (o := some (.int v9)) (rest := []) (w2 := (wMo o0 ma st ik le sp nu ++ wAr cI (ma 5) 48 hld7 ++ wAr cI (ma 6) 24 far ++ wAr cZ (ma 7) 72 donz6 ++ wAr cI q 1898 rrz6)) (st2 := [.int v9]) C k_X6_nextWire (m_X6_nextWire D cI cC cZ cR o0 ma q st ik le sp nu hld7 far donz6 rrz6 p2 v9 e10) gX6_laysAll_X6_nextWire dX6_laysAll_34 ⟨Nat.le_of_ble_eq_true rfl, Nat.le_of_ble_eq_true rfl, Nat.le_of_ble_eq_true rfl⟩ 0 rfl rfl [0, 1, 2, 3, 4] rfl rfl [0, 1, 2, 3] rfl rfl rfl rfl (Nat.le_of_ble_eq_true rfl) ⟨Nat.zero_le _, Nat.zero_le _⟩ rfl ?_
  refine xi_istore_n (lv2 := [(0, .ref o0), (1, .ref q), (2, .int p2), (3, .int v9)]) C dX6_laysAll_37 rfl (by decide) [0, 1, 2] [1, 2, 3, 0] rfl ?_
  refine xb_lv (lp38 p2 _ xFu v9 hld7 far donz6 rrz6 h (fun hldz22 farz22 donz22 rrz22 h => ?_)) [0, 1, 2, 3] rfl
  refine xi_aload_n C dX6_laysAll_73 rfl 0 rfl ?_
  obtain ⟨v23, e24, h⟩ := ob_i h
  refine xi_callS (As := [.ref q]) (o := some (.int v23)) (rest := []) (w2 := (wMo o0 ma st ik le sp nu ++ wAr cI (ma 5) 48 hldz22 ++ wAr cI (ma 6) 24 farz22 ++ wAr cZ (ma 7) 72 donz22 ++ wAr cI q 1898 rrz22)) (st2 := [.int v23]) C k_X6_segments (m_X6_segments D cI cC cZ cR q rrz22 v23 e24) gX6_laysAll_X6_segments dX6_laysAll_74 ⟨Nat.le_of_ble_eq_true rfl, Nat.le_of_ble_eq_true rfl, Nat.le_of_ble_eq_true rfl⟩ [4] rfl rfl [0, 1, 2, 3] rfl rfl rfl rfl (Nat.le_of_ble_eq_true rfl) ⟨Nat.zero_le _, Nat.zero_le _⟩ rfl ?_
  have w0 := Option.some.inj h
  obtain ⟨q0, w1⟩ := Prod.mk.inj w0
  obtain ⟨q1, w2⟩ := Prod.mk.inj w1
  obtain ⟨q2, w3⟩ := Prod.mk.inj w2
  obtain ⟨q3, w4⟩ := Prod.mk.inj w3
  subst q0
  subst q1
  subst q2
  subst q3
  subst w4
  exact xi_iret C Z dX6_laysAll_77
def f_X6_put (st : Int32) (now : Nat → Int32) (pst : Nat → Int32) (p1 : Int32) (p2 : Int32) : Option (Int32 × Int32 × (Nat → Int32) × (Nat → Int32)) :=
  (f_X6_isPlace p1).bind fun v1 =>
  if v1 = 0 then
    some ((-1), st, now, pst)
  else
    (f_X6_in p2 0 255).bind fun v4 =>
    if v4 = 0 then
      some ((-2), st, now, pst)
    else
      (f_X6_isCell now p1).bind fun v7 =>
      if v7 = 0 then
        (f_X6_records st now pst).bind fun (st10, pst11) =>
        (xr_w now 1898 (0 + p1) p2).bind fun now14 =>
        (f_X6_cells now14).bind fun v15 =>
        some (v15, st10, now14, pst11)
      else
        some ((-4), st, now, pst)
theorem k_X6_put : xb_Y yX6_put cX6_put wsX6_put 3 (some .int) { frames := 4, cells := 0, slots := 0, locals := 85 } 2 := ⟨⟨_, rfl⟩, by decide, ⟨by decide, by decide, by decide +kernel⟩, rfl, rfl⟩
theorem fl_X6_put_7 : Cond.fieldLink RX6 7 "LookupBoardModel" "now" "[I" ∈ wsX6_put := List.mem_of_getElem? (i := 1) rfl
theorem iw_X6_put_6 : ∀ w ∈ wsX60, w ∈ wsX6_put := fun w h => List.mem_cons_of_mem _ (List.mem_append_right _ h)
set_option maxHeartbeats 4000000 in
set_option maxRecDepth 100000 in
theorem m_X6_put (D : va_G) (cI cC cZ cR : ClassId) (o0 : Nat) (ma : Nat → Nat) (st : Int32) (ik : Int32) (le : Int32) (sp : Int32) (nu : Int32) (now : Nat → Int32) (thn : Nat → Int32) (pst : Nat → Int32) (snp : Nat → Int32) (txt : Nat → Int32) (hld : Nat → Int32) (far : Nat → Int32) (don : Nat → Int32) (tld : Nat → Int32) (dep : Nat → Int32) (bit : Nat → Int32) (p1 : Int32) (p2 : Int32) (r : Int32) (st' : Int32) (now' : Nat → Int32) (pst' : Nat → Int32) (h : f_X6_put st now pst p1 p2 = some (r, st', now', pst')) : xb_M cX6_put wsX6_put RX6 { frames := 4, cells := 0, slots := 0, locals := 85 } (some .int) 3 (xb_ty cI cC cZ cR) D [.ref o0, .int p1, .int p2] (wMo o0 ma st ik le sp nu ++ wAr cI (ma 0) 1898 now ++ wAr cI (ma 1) 1898 thn ++ wAr cI (ma 2) 7592 pst ++ wAr cI (ma 3) 1898 snp ++ wAr cC (ma 4) 80 txt ++ wAr cI (ma 5) 48 hld ++ wAr cI (ma 6) 24 far ++ wAr cZ (ma 7) 72 don ++ wAr cI (ma 8) 96 tld ++ wAr cI (ma 9) 24 dep ++ wAr cI (ma 10) 24 bit) (some (.int r)) (wMo o0 ma st' ik le sp nu ++ wAr cI (ma 0) 1898 now' ++ wAr cI (ma 1) 1898 thn ++ wAr cI (ma 2) 7592 pst' ++ wAr cI (ma 3) 1898 snp ++ wAr cC (ma 4) 80 txt ++ wAr cI (ma 5) 48 hld ++ wAr cI (ma 6) 24 far ++ wAr cZ (ma 7) 72 don ++ wAr cI (ma 8) 96 tld ++ wAr cI (ma 9) 24 dep ++ wAr cI (ma 10) 24 bit) := by
  intro X C Z
  show xb_G X 0 0 (wMo o0 ma st ik le sp nu ++ wAr cI (ma 0) 1898 now ++ wAr cI (ma 1) 1898 thn ++ wAr cI (ma 2) 7592 pst ++ wAr cI (ma 3) 1898 snp ++ wAr cC (ma 4) 80 txt ++ wAr cI (ma 5) 48 hld ++ wAr cI (ma 6) 24 far ++ wAr cZ (ma 7) 72 don ++ wAr cI (ma 8) 96 tld ++ wAr cI (ma 9) 24 dep ++ wAr cI (ma 10) 24 bit) [(0, .ref o0), (1, .int p1), (2, .int p2)] 0 []
  unfold f_X6_put at h
  refine xi_iload_n C dX6_put_0 rfl 1 rfl ?_
  obtain ⟨v1, e2, h⟩ := ob_i h
  refine xi_callS (As := [.int p1]) (o := some (.int v1)) (rest := []) (w2 := (wMo o0 ma st ik le sp nu ++ wAr cI (ma 0) 1898 now ++ wAr cI (ma 1) 1898 thn ++ wAr cI (ma 2) 7592 pst ++ wAr cI (ma 3) 1898 snp ++ wAr cC (ma 4) 80 txt ++ wAr cI (ma 5) 48 hld ++ wAr cI (ma 6) 24 far ++ wAr cZ (ma 7) 72 don ++ wAr cI (ma 8) 96 tld ++ wAr cI (ma 9) 24 dep ++ wAr cI (ma 10) 24 bit)) (st2 := [.int v1]) C k_X6_isPlace (m_X6_isPlace D cI cC cZ cR p1 v1 e2) gX6_put_X6_isPlace dX6_put_1 ⟨Nat.le_of_ble_eq_true rfl, Nat.le_of_ble_eq_true rfl, Nat.le_of_ble_eq_true rfl⟩ [] rfl rfl [0, 1, 2, 3] rfl rfl rfl rfl (Nat.le_of_ble_eq_true rfl) ⟨Nat.zero_le _, Nat.zero_le _⟩ rfl ?_
  refine xi_if_ne (tgt := 9) C dX6_put_4 (by decide) (fun c3 => ?_) (fun c3 => ?_)
  · have h := ie_i c3 h
    refine xi_iload_n C dX6_put_9 rfl 2 rfl ?_
    refine xi_iconst (v := 0) C dX6_put_10 (by decide) ?_
    refine xi_sipush (v := 255) C dX6_put_11 (by decide) ?_
    obtain ⟨v4, e5, h⟩ := ob_i h
    refine xi_callS (As := [.int p2, .int 0, .int 255]) (o := some (.int v4)) (rest := []) (w2 := (wMo o0 ma st ik le sp nu ++ wAr cI (ma 0) 1898 now ++ wAr cI (ma 1) 1898 thn ++ wAr cI (ma 2) 7592 pst ++ wAr cI (ma 3) 1898 snp ++ wAr cC (ma 4) 80 txt ++ wAr cI (ma 5) 48 hld ++ wAr cI (ma 6) 24 far ++ wAr cZ (ma 7) 72 don ++ wAr cI (ma 8) 96 tld ++ wAr cI (ma 9) 24 dep ++ wAr cI (ma 10) 24 bit)) (st2 := [.int v4]) C k_X6_in (m_X6_in D cI cC cZ cR p2 0 255 v4 e5) gX6_put_X6_in dX6_put_14 ⟨Nat.le_of_ble_eq_true rfl, Nat.le_of_ble_eq_true rfl, Nat.le_of_ble_eq_true rfl⟩ [] rfl rfl [0, 1, 2, 3] rfl rfl rfl rfl (Nat.le_of_ble_eq_true rfl) ⟨Nat.zero_le _, Nat.zero_le _⟩ rfl ?_
    refine xi_if_ne (tgt := 23) C dX6_put_17 (by decide) (fun c6 => ?_) (fun c6 => ?_)
    · have h := ie_i c6 h
      refine xi_aload_n C dX6_put_23 rfl 0 rfl ?_
      refine xi_get C dX6_put_24 iw_X6_put_6 0 rfl rfl 0 (by decide) fl_X6_put_7 rfl ?_
      refine xi_iload_n C dX6_put_27 rfl 1 rfl ?_
      obtain ⟨v7, e8, h⟩ := ob_i h
      refine xi_callS (As := [.ref (ma 0), .int p1]) (o := some (.int v7)) (rest := []) (w2 := (wMo o0 ma st ik le sp nu ++ wAr cI (ma 0) 1898 now ++ wAr cI (ma 1) 1898 thn ++ wAr cI (ma 2) 7592 pst ++ wAr cI (ma 3) 1898 snp ++ wAr cC (ma 4) 80 txt ++ wAr cI (ma 5) 48 hld ++ wAr cI (ma 6) 24 far ++ wAr cZ (ma 7) 72 don ++ wAr cI (ma 8) 96 tld ++ wAr cI (ma 9) 24 dep ++ wAr cI (ma 10) 24 bit)) (st2 := [.int v7]) C k_X6_isCell (m_X6_isCell D cI cC cZ cR (ma 0) now p1 v7 e8) gX6_put_X6_isCell dX6_put_28 ⟨Nat.le_of_ble_eq_true rfl, Nat.le_of_ble_eq_true rfl, Nat.le_of_ble_eq_true rfl⟩ [1] mxC_X6_1 rfl [0, 1, 2, 3] rfl mxF_X6_1 mxM_X6_1 rfl (Nat.le_of_ble_eq_true rfl) ⟨Nat.zero_le _, Nat.zero_le _⟩ rfl ?_
      refine xi_if_eq (tgt := 37) C dX6_put_31 (by decide) (fun c9 => ?_) (fun c9 => ?_)
      · have h := it_i c9 h
        refine xi_aload_n C dX6_put_37 rfl 0 rfl ?_
        obtain ⟨⟨st10, pst11⟩, e12, h⟩ := ob_i h
        refine xi_callV (As := []) (o := none) (rest := []) (w2 := (wMo o0 ma st10 ik le sp nu ++ wAr cI (ma 0) 1898 now ++ wAr cI (ma 1) 1898 thn ++ wAr cI (ma 2) 7592 pst11 ++ wAr cI (ma 3) 1898 snp ++ wAr cC (ma 4) 80 txt ++ wAr cI (ma 5) 48 hld ++ wAr cI (ma 6) 24 far ++ wAr cZ (ma 7) 72 don ++ wAr cI (ma 8) 96 tld ++ wAr cI (ma 9) 24 dep ++ wAr cI (ma 10) 24 bit)) (st2 := []) C k_X6_records (m_X6_records D cI cC cZ cR o0 ma st ik le sp nu now thn pst snp txt hld far don tld dep bit st10 pst11 e12) gX6_put_X6_records dX6_put_38 ⟨Nat.le_of_ble_eq_true rfl, Nat.le_of_ble_eq_true rfl, Nat.le_of_ble_eq_true rfl⟩ 0 rfl rfl [0, 1, 2, 3, 4, 5, 6, 7, 8, 9, 10, 11] mxC_X6_0_1_2_3_4_5_6_7_8_9_10_11 rfl [0, 1, 2, 3] rfl mxF_X6_0_1_2_3_4_5_6_7_8_9_10_11 mxM_X6_0_1_2_3_4_5_6_7_8_9_10_11 rfl (Nat.le_of_ble_eq_true rfl) ⟨Nat.zero_le _, Nat.zero_le _⟩ rfl ?_
        refine xi_aload_n C dX6_put_41 rfl 0 rfl ?_
        refine xi_get C dX6_put_42 iw_X6_put_6 0 rfl rfl 0 (by decide) fl_X6_put_7 rfl ?_
        refine xi_iconst (v := 0) C dX6_put_45 (by decide) ?_
        refine xi_iload_n C dX6_put_46 rfl 1 rfl ?_
        refine xi_iadd C dX6_put_47 ?_
        refine xi_iload_n C dX6_put_48 rfl 2 rfl ?_
        obtain ⟨now14, e13, h⟩ := ob_i h
        refine xi_iast (w2 := (wMo o0 ma st10 ik le sp nu ++ wAr cI (ma 0) 1898 now14 ++ wAr cI (ma 1) 1898 thn ++ wAr cI (ma 2) 7592 pst11 ++ wAr cI (ma 3) 1898 snp ++ wAr cC (ma 4) 80 txt ++ wAr cI (ma 5) 48 hld ++ wAr cI (ma 6) 24 far ++ wAr cZ (ma 7) 72 don ++ wAr cI (ma 8) 96 tld ++ wAr cI (ma 9) 24 dep ++ wAr cI (ma 10) 24 bit)) C dX6_put_49 1 0 rfl rfl e13 rfl ?_
        refine xi_aload_n C dX6_put_50 rfl 0 rfl ?_
        refine xi_get C dX6_put_51 iw_X6_put_6 0 rfl rfl 0 (by decide) fl_X6_put_7 rfl ?_
        obtain ⟨v15, e16, h⟩ := ob_i h
        refine xi_callS (As := [.ref (ma 0)]) (o := some (.int v15)) (rest := []) (w2 := (wMo o0 ma st10 ik le sp nu ++ wAr cI (ma 0) 1898 now14 ++ wAr cI (ma 1) 1898 thn ++ wAr cI (ma 2) 7592 pst11 ++ wAr cI (ma 3) 1898 snp ++ wAr cC (ma 4) 80 txt ++ wAr cI (ma 5) 48 hld ++ wAr cI (ma 6) 24 far ++ wAr cZ (ma 7) 72 don ++ wAr cI (ma 8) 96 tld ++ wAr cI (ma 9) 24 dep ++ wAr cI (ma 10) 24 bit)) (st2 := [.int v15]) C k_X6_cells (m_X6_cells D cI cC cZ cR (ma 0) now14 v15 e16) gX6_put_X6_cells dX6_put_54 ⟨Nat.le_of_ble_eq_true rfl, Nat.le_of_ble_eq_true rfl, Nat.le_of_ble_eq_true rfl⟩ [1] mxC_X6_1 rfl [0, 1, 2, 3] rfl mxF_X6_1 mxM_X6_1 rfl (Nat.le_of_ble_eq_true rfl) ⟨Nat.zero_le _, Nat.zero_le _⟩ rfl ?_
        have w0 := Option.some.inj h
        obtain ⟨q0, w1⟩ := Prod.mk.inj w0
        obtain ⟨q1, w2⟩ := Prod.mk.inj w1
        obtain ⟨q2, w3⟩ := Prod.mk.inj w2
        subst q0
        subst q1
        subst q2
        subst w3
        exact xi_iret C Z dX6_put_57
      · have h := ie_i c9 h
        refine xi_bipush (v := (-4)) C dX6_put_34 (by decide) ?_
        have w0 := Option.some.inj h
        obtain ⟨q0, w1⟩ := Prod.mk.inj w0
        obtain ⟨q1, w2⟩ := Prod.mk.inj w1
        obtain ⟨q2, w3⟩ := Prod.mk.inj w2
        subst q0
        subst q1
        subst q2
        subst w3
        exact xi_iret C Z dX6_put_36
    · have h := it_i c6 h
      refine xi_bipush (v := (-2)) C dX6_put_20 (by decide) ?_
      have w0 := Option.some.inj h
      obtain ⟨q0, w1⟩ := Prod.mk.inj w0
      obtain ⟨q1, w2⟩ := Prod.mk.inj w1
      obtain ⟨q2, w3⟩ := Prod.mk.inj w2
      subst q0
      subst q1
      subst q2
      subst w3
      exact xi_iret C Z dX6_put_22
  · have h := it_i c3 h
    refine xi_iconst (v := (-1)) C dX6_put_7 (by decide) ?_
    have w0 := Option.some.inj h
    obtain ⟨q0, w1⟩ := Prod.mk.inj w0
    obtain ⟨q1, w2⟩ := Prod.mk.inj w1
    obtain ⟨q2, w3⟩ := Prod.mk.inj w2
    subst q0
    subst q1
    subst q2
    subst w3
    exact xi_iret C Z dX6_put_8
