def f_X6_nextWire_6 (don : Nat → Int32) (rr : Nat → Int32) (x2_6 : Int32) (k : Int32 → Option (Int32)) : Nat → Int32 → Int32 → Option (Int32)
  | 0, _, _ => none
  | n + 1, x3_6, x4_6 =>
    if 72 ≤ x4_6 then
      k x3_6
    else
      (f_X6_isWire rr x4_6).bind fun v2 =>
      if v2 = 0 then
        f_X6_nextWire_6 don rr x2_6 k n x3_6 (x4_6 + 1)
      else
        (xr_d don 72 x4_6).bind fun v5 =>
        if v5 = 0 then
          if x3_6 = (-5) then
            if x3_6 = (-5) then
              f_X6_nextWire_6 don rr x2_6 k n x4_6 (x4_6 + 1)
            else
              if x2_6 = 1 then
                f_X6_nextWire_6 don rr x2_6 k n x3_6 (x4_6 + 1)
              else
                f_X6_nextWire_6 don rr x2_6 k n x3_6 (x4_6 + 1)
          else
            if x2_6 = 0 then
              if x3_6 = (-5) then
                f_X6_nextWire_6 don rr x2_6 k n x4_6 (x4_6 + 1)
              else
                if x2_6 = 1 then
                  f_X6_nextWire_6 don rr x2_6 k n x3_6 (x4_6 + 1)
                else
                  f_X6_nextWire_6 don rr x2_6 k n x3_6 (x4_6 + 1)
            else
              (f_X6_span rr x4_6).bind fun v14 =>
              (f_X6_span rr x3_6).bind fun v16 =>
              if x3_6 = (-5) then
                f_X6_nextWire_6 don rr x2_6 k n x4_6 (x4_6 + 1)
              else
                if x2_6 = 1 then
                  if (v14 - v16) ≤ 0 then
                    f_X6_nextWire_6 don rr x2_6 k n x3_6 (x4_6 + 1)
                  else
                    f_X6_nextWire_6 don rr x2_6 k n x4_6 (x4_6 + 1)
                else
                  if 0 ≤ (v14 - v16) then
                    f_X6_nextWire_6 don rr x2_6 k n x3_6 (x4_6 + 1)
                  else
                    f_X6_nextWire_6 don rr x2_6 k n x4_6 (x4_6 + 1)
        else
          f_X6_nextWire_6 don rr x2_6 k n x3_6 (x4_6 + 1)
def f_X6_nextWire (don : Nat → Int32) (rr : Nat → Int32) (p2 : Int32) : Option (Int32) :=
  f_X6_nextWire_6 don rr p2 (fun x3z26 =>
    some x3z26) xFu (-5) 0
theorem k_X6_nextWire : xb_Y yX6_nextWire cX6_nextWire wsX6_nextWire 6 (some .int) { frames := 4, cells := 0, slots := 0, locals := 84 } 2 := ⟨⟨_, rfl⟩, by decide, ⟨by decide, by decide, by decide +kernel⟩, rfl, rfl⟩
theorem fl_X6_nextWire_32 : Cond.fieldLink RX6 32 "LookupBoardModel" "done" "[Z" ∈ wsX6_nextWire := List.mem_of_getElem? (i := 1) rfl
theorem iw_X6_nextWire_6 : ∀ w ∈ wsX60, w ∈ wsX6_nextWire := fun w h => List.mem_cons_of_mem _ (List.mem_append_right _ h)
set_option maxHeartbeats 4000000 in
set_option maxRecDepth 100000 in
theorem m_X6_nextWire (D : va_G) (cI cC cZ cR : ClassId) (o0 : Nat) (ma : Nat → Nat) (q : Nat) (st : Int32) (ik : Int32) (le : Int32) (sp : Int32) (nu : Int32) (hld : Nat → Int32) (far : Nat → Int32) (don : Nat → Int32) (rr : Nat → Int32) (p2 : Int32) (r : Int32) (h : f_X6_nextWire don rr p2 = some r) : xb_M cX6_nextWire wsX6_nextWire RX6 { frames := 4, cells := 0, slots := 0, locals := 84 } (some .int) 6 (xb_ty cI cC cZ cR) D [.ref o0, .ref q, .int p2] (wMo o0 ma st ik le sp nu ++ wAr cI (ma 5) 48 hld ++ wAr cI (ma 6) 24 far ++ wAr cZ (ma 7) 72 don ++ wAr cI q 1898 rr) (some (.int r)) (wMo o0 ma st ik le sp nu ++ wAr cI (ma 5) 48 hld ++ wAr cI (ma 6) 24 far ++ wAr cZ (ma 7) 72 don ++ wAr cI q 1898 rr) := by
  intro X C Z
  show xb_G X 0 0 (wMo o0 ma st ik le sp nu ++ wAr cI (ma 5) 48 hld ++ wAr cI (ma 6) 24 far ++ wAr cZ (ma 7) 72 don ++ wAr cI q 1898 rr) [(0, .ref o0), (1, .ref q), (2, .int p2)] 0 []
  have lp6 : ∀ (x2_6 : Int32) (k : Int32 → Option (Int32)) (n : Nat) (x3_6 : Int32) (x4_6 : Int32), f_X6_nextWire_6 don rr x2_6 k n x3_6 x4_6 = some r → (∀ (x3_6e : Int32), k x3_6e = some r → xb_G X 0 0 (wMo o0 ma st ik le sp nu ++ wAr cI (ma 5) 48 hld ++ wAr cI (ma 6) 24 far ++ wAr cZ (ma 7) 72 don ++ wAr cI q 1898 rr) [(3, .int x3_6e)] 97 []) → xb_G X 0 0 (wMo o0 ma st ik le sp nu ++ wAr cI (ma 5) 48 hld ++ wAr cI (ma 6) 24 far ++ wAr cZ (ma 7) 72 don ++ wAr cI q 1898 rr) [(0, .ref o0), (1, .ref q), (2, .int x2_6), (3, .int x3_6), (4, .int x4_6)] 6 [] := by
    intro x2_6 k n
    induction n with
    | zero => intro x3_6 x4_6 h hk; unfold f_X6_nextWire_6 at h; cases h
    | succ n ih =>
      intro x3_6 x4_6 h hk
      unfold f_X6_nextWire_6 at h
      refine xi_iload C dX6_nextWire_6 4 rfl ?_
      refine xi_bipush (v := 72) C dX6_nextWire_8 (by decide) ?_
      refine xi_icmp_ge (tgt := 97) C dX6_nextWire_10 (by decide) (fun c1 => ?_) (fun c1 => ?_)
      · have h := it_i c1 h
        exact xb_lv (hk x3_6 h) [3] rfl
      · have h := ie_i c1 h
        refine xi_aload_n C dX6_nextWire_13 rfl 1 rfl ?_
        refine xi_iload C dX6_nextWire_14 4 rfl ?_
        obtain ⟨v2, e3, h⟩ := ob_i h
        refine xi_callS (As := [.ref q, .int x4_6]) (o := some (.int v2)) (rest := []) (w2 := (wMo o0 ma st ik le sp nu ++ wAr cI (ma 5) 48 hld ++ wAr cI (ma 6) 24 far ++ wAr cZ (ma 7) 72 don ++ wAr cI q 1898 rr)) (st2 := [.int v2]) C k_X6_isWire (m_X6_isWire D cI cC cZ cR q rr x4_6 v2 e3) gX6_nextWire_X6_isWire dX6_nextWire_16 ⟨Nat.le_of_ble_eq_true rfl, Nat.le_of_ble_eq_true rfl, Nat.le_of_ble_eq_true rfl⟩ [4] rfl rfl [0, 1, 2, 3] rfl rfl rfl rfl (Nat.le_of_ble_eq_true rfl) ⟨Nat.zero_le _, Nat.zero_le _⟩ rfl ?_
        refine xi_if_eq (tgt := 91) C dX6_nextWire_19 (by decide) (fun c4 => ?_) (fun c4 => ?_)
        · have h := it_i c4 h
          refine xi_iinc (v := x4_6 + 1) (lv2 := [(0, .ref o0), (1, .ref q), (2, .int x2_6), (3, .int x3_6), (4, .int (x4_6 + 1))]) C dX6_nextWire_91 4 rfl (by rfl) (by decide) [0, 1, 2, 3] [1, 2, 3, 4, 0] rfl ?_
          refine xi_goto (tgt := 6) C dX6_nextWire_94 (by decide) ?_
          exact xb_lv (ih x3_6 (x4_6 + 1) h hk) [0, 1, 2, 3, 4] rfl
        · have h := ie_i c4 h
          refine xi_aload_n C dX6_nextWire_22 rfl 0 rfl ?_
          refine xi_get C dX6_nextWire_23 iw_X6_nextWire_6 0 rfl rfl 10 (by decide) fl_X6_nextWire_32 rfl ?_
          refine xi_iload C dX6_nextWire_26 4 rfl ?_
          obtain ⟨v5, e6, h⟩ := ob_i h
          refine xi_zald C dX6_nextWire_28 3 2 rfl rfl e6 ?_
          refine xi_if_ne (tgt := 91) C dX6_nextWire_29 (by decide) (fun c7 => ?_) (fun c7 => ?_)
          · have h := ie_i c7 h
            refine xi_iinc (v := x4_6 + 1) (lv2 := [(0, .ref o0), (1, .ref q), (2, .int x2_6), (3, .int x3_6), (4, .int (x4_6 + 1))]) C dX6_nextWire_91 4 rfl (by rfl) (by decide) [0, 1, 2, 3] [1, 2, 3, 4, 0] rfl ?_
            refine xi_goto (tgt := 6) C dX6_nextWire_94 (by decide) ?_
            exact xb_lv (ih x3_6 (x4_6 + 1) h hk) [0, 1, 2, 3, 4] rfl
          · have h := it_i c7 h
            refine xi_iload_n C dX6_nextWire_32 rfl 3 rfl ?_
            refine xi_bipush (v := (-5)) C dX6_nextWire_33 (by decide) ?_
            refine xi_icmp_eq (tgt := 42) C dX6_nextWire_35 (by decide) (fun c8 => ?_) (fun c8 => ?_)
            · have h := it_i c8 h
              refine xi_iconst (v := 0) C dX6_nextWire_42 (by decide) ?_
              refine xi_goto (tgt := 58) C dX6_nextWire_43 (by decide) ?_
              refine xi_istore (lv2 := [(0, .ref o0), (1, .ref q), (2, .int x2_6), (3, .int x3_6), (4, .int x4_6), (5, .int 0)]) C dX6_nextWire_58 (by decide) [0, 1, 2, 3, 4] [1, 2, 3, 4, 5, 0] rfl ?_
              refine xi_iload_n C dX6_nextWire_60 rfl 3 rfl ?_
              refine xi_bipush (v := (-5)) C dX6_nextWire_61 (by decide) ?_
              refine xi_icmp_eq (tgt := 84) C dX6_nextWire_63 (by decide) (fun c9 => ?_) (fun c9 => ?_)
              · have h := it_i c9 h
                refine xi_iload C dX6_nextWire_84 4 rfl ?_
                refine xi_goto (tgt := 90) C dX6_nextWire_86 (by decide) ?_
                refine xi_istore_n (lv2 := [(0, .ref o0), (1, .ref q), (2, .int x2_6), (3, .int x4_6), (4, .int x4_6), (5, .int 0)]) C dX6_nextWire_90 rfl (by decide) [0, 1, 2, 4, 5] [1, 2, 3, 0, 4, 5] rfl ?_
                refine xi_iinc (v := x4_6 + 1) (lv2 := [(0, .ref o0), (1, .ref q), (2, .int x2_6), (3, .int x4_6), (4, .int (x4_6 + 1)), (5, .int 0)]) C dX6_nextWire_91 4 rfl (by rfl) (by decide) [0, 1, 2, 3, 5] [1, 2, 3, 4, 0, 5] rfl ?_
                refine xi_goto (tgt := 6) C dX6_nextWire_94 (by decide) ?_
                exact xb_lv (ih x4_6 (x4_6 + 1) h hk) [0, 1, 2, 3, 4] rfl
              · have h := ie_i c9 h
                refine xi_iload_n C dX6_nextWire_66 rfl 2 rfl ?_
                refine xi_iconst (v := 1) C dX6_nextWire_67 (by decide) ?_
                refine xi_icmp_ne (tgt := 79) C dX6_nextWire_68 (by decide) (fun c10 => ?_) (fun c10 => ?_)
                · have h := ie_i c10 h
                  refine xi_iload C dX6_nextWire_79 5 rfl ?_
                  refine xi_if_ge (tgt := 89) C dX6_nextWire_81 (by decide) (fun c11 => ?_) (fun c11 => ?_)
                  rotate_left
                  · first | exact absurd c11 (by decide) | exact absurd (by decide) c11
                  refine xi_iload_n C dX6_nextWire_89 rfl 3 rfl ?_
                  refine xi_istore_n (lv2 := [(0, .ref o0), (1, .ref q), (2, .int x2_6), (3, .int x3_6), (4, .int x4_6), (5, .int 0)]) C dX6_nextWire_90 rfl (by decide) [0, 1, 2, 4, 5] [1, 2, 3, 0, 4, 5] rfl ?_
                  refine xi_iinc (v := x4_6 + 1) (lv2 := [(0, .ref o0), (1, .ref q), (2, .int x2_6), (3, .int x3_6), (4, .int (x4_6 + 1)), (5, .int 0)]) C dX6_nextWire_91 4 rfl (by rfl) (by decide) [0, 1, 2, 3, 5] [1, 2, 3, 4, 0, 5] rfl ?_
                  refine xi_goto (tgt := 6) C dX6_nextWire_94 (by decide) ?_
                  exact xb_lv (ih x3_6 (x4_6 + 1) h hk) [0, 1, 2, 3, 4] rfl
                · have h := it_i c10 h
                  refine xi_iload C dX6_nextWire_71 5 rfl ?_
                  refine xi_if_le (tgt := 89) C dX6_nextWire_73 (by decide) (fun c12 => ?_) (fun c12 => ?_)
                  rotate_left
                  · first | exact absurd c12 (by decide) | exact absurd (by decide) c12
                  refine xi_iload_n C dX6_nextWire_89 rfl 3 rfl ?_
                  refine xi_istore_n (lv2 := [(0, .ref o0), (1, .ref q), (2, .int x2_6), (3, .int x3_6), (4, .int x4_6), (5, .int 0)]) C dX6_nextWire_90 rfl (by decide) [0, 1, 2, 4, 5] [1, 2, 3, 0, 4, 5] rfl ?_
                  refine xi_iinc (v := x4_6 + 1) (lv2 := [(0, .ref o0), (1, .ref q), (2, .int x2_6), (3, .int x3_6), (4, .int (x4_6 + 1)), (5, .int 0)]) C dX6_nextWire_91 4 rfl (by rfl) (by decide) [0, 1, 2, 3, 5] [1, 2, 3, 4, 0, 5] rfl ?_
                  refine xi_goto (tgt := 6) C dX6_nextWire_94 (by decide) ?_
                  exact xb_lv (ih x3_6 (x4_6 + 1) h hk) [0, 1, 2, 3, 4] rfl
            · have h := ie_i c8 h
              refine xi_iload_n C dX6_nextWire_38 rfl 2 rfl ?_
              refine xi_if_ne (tgt := 46) C dX6_nextWire_39 (by decide) (fun c13 => ?_) (fun c13 => ?_)
              · have h := ie_i c13 h
                refine xi_aload_n C dX6_nextWire_46 rfl 1 rfl ?_
                refine xi_iload C dX6_nextWire_47 4 rfl ?_
                obtain ⟨v14, e15, h⟩ := ob_i h
                refine xi_callS (As := [.ref q, .int x4_6]) (o := some (.int v14)) (rest := []) (w2 := (wMo o0 ma st ik le sp nu ++ wAr cI (ma 5) 48 hld ++ wAr cI (ma 6) 24 far ++ wAr cZ (ma 7) 72 don ++ wAr cI q 1898 rr)) (st2 := [.int v14]) C k_X6_span (m_X6_span D cI cC cZ cR q rr x4_6 v14 e15) gX6_nextWire_X6_span dX6_nextWire_49 ⟨Nat.le_of_ble_eq_true rfl, Nat.le_of_ble_eq_true rfl, Nat.le_of_ble_eq_true rfl⟩ [4] rfl rfl [0, 1, 2, 3] rfl rfl rfl rfl (Nat.le_of_ble_eq_true rfl) ⟨Nat.zero_le _, Nat.zero_le _⟩ rfl ?_
                refine xi_aload_n C dX6_nextWire_52 rfl 1 rfl ?_
                refine xi_iload_n C dX6_nextWire_53 rfl 3 rfl ?_
                obtain ⟨v16, e17, h⟩ := ob_i h
                refine xi_callS (As := [.ref q, .int x3_6]) (o := some (.int v16)) (rest := [.int v14]) (w2 := (wMo o0 ma st ik le sp nu ++ wAr cI (ma 5) 48 hld ++ wAr cI (ma 6) 24 far ++ wAr cZ (ma 7) 72 don ++ wAr cI q 1898 rr)) (st2 := [.int v16, .int v14]) C k_X6_span (m_X6_span D cI cC cZ cR q rr x3_6 v16 e17) gX6_nextWire_X6_span dX6_nextWire_54 ⟨Nat.le_of_ble_eq_true rfl, Nat.le_of_ble_eq_true rfl, Nat.le_of_ble_eq_true rfl⟩ [4] rfl rfl [0, 1, 2, 3] rfl rfl rfl rfl (Nat.le_of_ble_eq_true rfl) ⟨Nat.zero_le _, Nat.zero_le _⟩ rfl ?_
                refine xi_isub C dX6_nextWire_57 ?_
                refine xi_istore (lv2 := [(0, .ref o0), (1, .ref q), (2, .int x2_6), (3, .int x3_6), (4, .int x4_6), (5, .int (v14 - v16))]) C dX6_nextWire_58 (by decide) [0, 1, 2, 3, 4] [1, 2, 3, 4, 5, 0] rfl ?_
                refine xi_iload_n C dX6_nextWire_60 rfl 3 rfl ?_
                refine xi_bipush (v := (-5)) C dX6_nextWire_61 (by decide) ?_
                refine xi_icmp_eq (tgt := 84) C dX6_nextWire_63 (by decide) (fun c18 => ?_) (fun c18 => ?_)
                · have h := it_i c18 h
                  refine xi_iload C dX6_nextWire_84 4 rfl ?_
                  refine xi_goto (tgt := 90) C dX6_nextWire_86 (by decide) ?_
                  refine xi_istore_n (lv2 := [(0, .ref o0), (1, .ref q), (2, .int x2_6), (3, .int x4_6), (4, .int x4_6), (5, .int (v14 - v16))]) C dX6_nextWire_90 rfl (by decide) [0, 1, 2, 4, 5] [1, 2, 3, 0, 4, 5] rfl ?_
                  refine xi_iinc (v := x4_6 + 1) (lv2 := [(0, .ref o0), (1, .ref q), (2, .int x2_6), (3, .int x4_6), (4, .int (x4_6 + 1)), (5, .int (v14 - v16))]) C dX6_nextWire_91 4 rfl (by rfl) (by decide) [0, 1, 2, 3, 5] [1, 2, 3, 4, 0, 5] rfl ?_
                  refine xi_goto (tgt := 6) C dX6_nextWire_94 (by decide) ?_
                  exact xb_lv (ih x4_6 (x4_6 + 1) h hk) [0, 1, 2, 3, 4] rfl
                · have h := ie_i c18 h
                  refine xi_iload_n C dX6_nextWire_66 rfl 2 rfl ?_
                  refine xi_iconst (v := 1) C dX6_nextWire_67 (by decide) ?_
                  refine xi_icmp_ne (tgt := 79) C dX6_nextWire_68 (by decide) (fun c19 => ?_) (fun c19 => ?_)
                  · have h := ie_i c19 h
                    refine xi_iload C dX6_nextWire_79 5 rfl ?_
                    refine xi_if_ge (tgt := 89) C dX6_nextWire_81 (by decide) (fun c20 => ?_) (fun c20 => ?_)
                    · have h := it_i c20 h
                      refine xi_iload_n C dX6_nextWire_89 rfl 3 rfl ?_
                      refine xi_istore_n (lv2 := [(0, .ref o0), (1, .ref q), (2, .int x2_6), (3, .int x3_6), (4, .int x4_6), (5, .int (v14 - v16))]) C dX6_nextWire_90 rfl (by decide) [0, 1, 2, 4, 5] [1, 2, 3, 0, 4, 5] rfl ?_
                      refine xi_iinc (v := x4_6 + 1) (lv2 := [(0, .ref o0), (1, .ref q), (2, .int x2_6), (3, .int x3_6), (4, .int (x4_6 + 1)), (5, .int (v14 - v16))]) C dX6_nextWire_91 4 rfl (by rfl) (by decide) [0, 1, 2, 3, 5] [1, 2, 3, 4, 0, 5] rfl ?_
                      refine xi_goto (tgt := 6) C dX6_nextWire_94 (by decide) ?_
                      exact xb_lv (ih x3_6 (x4_6 + 1) h hk) [0, 1, 2, 3, 4] rfl
                    · have h := ie_i c20 h
                      refine xi_iload C dX6_nextWire_84 4 rfl ?_
                      refine xi_goto (tgt := 90) C dX6_nextWire_86 (by decide) ?_
                      refine xi_istore_n (lv2 := [(0, .ref o0), (1, .ref q), (2, .int x2_6), (3, .int x4_6), (4, .int x4_6), (5, .int (v14 - v16))]) C dX6_nextWire_90 rfl (by decide) [0, 1, 2, 4, 5] [1, 2, 3, 0, 4, 5] rfl ?_
                      refine xi_iinc (v := x4_6 + 1) (lv2 := [(0, .ref o0), (1, .ref q), (2, .int x2_6), (3, .int x4_6), (4, .int (x4_6 + 1)), (5, .int (v14 - v16))]) C dX6_nextWire_91 4 rfl (by rfl) (by decide) [0, 1, 2, 3, 5] [1, 2, 3, 4, 0, 5] rfl ?_
                      refine xi_goto (tgt := 6) C dX6_nextWire_94 (by decide) ?_
                      exact xb_lv (ih x4_6 (x4_6 + 1) h hk) [0, 1, 2, 3, 4] rfl
                  · have h := it_i c19 h
                    refine xi_iload C dX6_nextWire_71 5 rfl ?_
                    refine xi_if_le (tgt := 89) C dX6_nextWire_73 (by decide) (fun c21 => ?_) (fun c21 => ?_)
                    · have h := it_i c21 h
                      refine xi_iload_n C dX6_nextWire_89 rfl 3 rfl ?_
                      refine xi_istore_n (lv2 := [(0, .ref o0), (1, .ref q), (2, .int x2_6), (3, .int x3_6), (4, .int x4_6), (5, .int (v14 - v16))]) C dX6_nextWire_90 rfl (by decide) [0, 1, 2, 4, 5] [1, 2, 3, 0, 4, 5] rfl ?_
                      refine xi_iinc (v := x4_6 + 1) (lv2 := [(0, .ref o0), (1, .ref q), (2, .int x2_6), (3, .int x3_6), (4, .int (x4_6 + 1)), (5, .int (v14 - v16))]) C dX6_nextWire_91 4 rfl (by rfl) (by decide) [0, 1, 2, 3, 5] [1, 2, 3, 4, 0, 5] rfl ?_
                      refine xi_goto (tgt := 6) C dX6_nextWire_94 (by decide) ?_
                      exact xb_lv (ih x3_6 (x4_6 + 1) h hk) [0, 1, 2, 3, 4] rfl
                    · have h := ie_i c21 h
                      refine xi_goto (tgt := 84) C dX6_nextWire_76 (by decide) ?_
                      refine xi_iload C dX6_nextWire_84 4 rfl ?_
                      refine xi_goto (tgt := 90) C dX6_nextWire_86 (by decide) ?_
                      refine xi_istore_n (lv2 := [(0, .ref o0), (1, .ref q), (2, .int x2_6), (3, .int x4_6), (4, .int x4_6), (5, .int (v14 - v16))]) C dX6_nextWire_90 rfl (by decide) [0, 1, 2, 4, 5] [1, 2, 3, 0, 4, 5] rfl ?_
                      refine xi_iinc (v := x4_6 + 1) (lv2 := [(0, .ref o0), (1, .ref q), (2, .int x2_6), (3, .int x4_6), (4, .int (x4_6 + 1)), (5, .int (v14 - v16))]) C dX6_nextWire_91 4 rfl (by rfl) (by decide) [0, 1, 2, 3, 5] [1, 2, 3, 4, 0, 5] rfl ?_
                      refine xi_goto (tgt := 6) C dX6_nextWire_94 (by decide) ?_
                      exact xb_lv (ih x4_6 (x4_6 + 1) h hk) [0, 1, 2, 3, 4] rfl
              · have h := it_i c13 h
                refine xi_iconst (v := 0) C dX6_nextWire_42 (by decide) ?_
                refine xi_goto (tgt := 58) C dX6_nextWire_43 (by decide) ?_
                refine xi_istore (lv2 := [(0, .ref o0), (1, .ref q), (2, .int x2_6), (3, .int x3_6), (4, .int x4_6), (5, .int 0)]) C dX6_nextWire_58 (by decide) [0, 1, 2, 3, 4] [1, 2, 3, 4, 5, 0] rfl ?_
                refine xi_iload_n C dX6_nextWire_60 rfl 3 rfl ?_
                refine xi_bipush (v := (-5)) C dX6_nextWire_61 (by decide) ?_
                refine xi_icmp_eq (tgt := 84) C dX6_nextWire_63 (by decide) (fun c22 => ?_) (fun c22 => ?_)
                · have h := it_i c22 h
                  refine xi_iload C dX6_nextWire_84 4 rfl ?_
                  refine xi_goto (tgt := 90) C dX6_nextWire_86 (by decide) ?_
                  refine xi_istore_n (lv2 := [(0, .ref o0), (1, .ref q), (2, .int x2_6), (3, .int x4_6), (4, .int x4_6), (5, .int 0)]) C dX6_nextWire_90 rfl (by decide) [0, 1, 2, 4, 5] [1, 2, 3, 0, 4, 5] rfl ?_
                  refine xi_iinc (v := x4_6 + 1) (lv2 := [(0, .ref o0), (1, .ref q), (2, .int x2_6), (3, .int x4_6), (4, .int (x4_6 + 1)), (5, .int 0)]) C dX6_nextWire_91 4 rfl (by rfl) (by decide) [0, 1, 2, 3, 5] [1, 2, 3, 4, 0, 5] rfl ?_
                  refine xi_goto (tgt := 6) C dX6_nextWire_94 (by decide) ?_
                  exact xb_lv (ih x4_6 (x4_6 + 1) h hk) [0, 1, 2, 3, 4] rfl
                · have h := ie_i c22 h
                  refine xi_iload_n C dX6_nextWire_66 rfl 2 rfl ?_
                  refine xi_iconst (v := 1) C dX6_nextWire_67 (by decide) ?_
                  refine xi_icmp_ne (tgt := 79) C dX6_nextWire_68 (by decide) (fun c23 => ?_) (fun c23 => ?_)
                  · have h := ie_i c23 h
                    refine xi_iload C dX6_nextWire_79 5 rfl ?_
                    refine xi_if_ge (tgt := 89) C dX6_nextWire_81 (by decide) (fun c24 => ?_) (fun c24 => ?_)
                    rotate_left
                    · first | exact absurd c24 (by decide) | exact absurd (by decide) c24
                    refine xi_iload_n C dX6_nextWire_89 rfl 3 rfl ?_
                    refine xi_istore_n (lv2 := [(0, .ref o0), (1, .ref q), (2, .int x2_6), (3, .int x3_6), (4, .int x4_6), (5, .int 0)]) C dX6_nextWire_90 rfl (by decide) [0, 1, 2, 4, 5] [1, 2, 3, 0, 4, 5] rfl ?_
                    refine xi_iinc (v := x4_6 + 1) (lv2 := [(0, .ref o0), (1, .ref q), (2, .int x2_6), (3, .int x3_6), (4, .int (x4_6 + 1)), (5, .int 0)]) C dX6_nextWire_91 4 rfl (by rfl) (by decide) [0, 1, 2, 3, 5] [1, 2, 3, 4, 0, 5] rfl ?_
                    refine xi_goto (tgt := 6) C dX6_nextWire_94 (by decide) ?_
                    exact xb_lv (ih x3_6 (x4_6 + 1) h hk) [0, 1, 2, 3, 4] rfl
                  · have h := it_i c23 h
                    refine xi_iload C dX6_nextWire_71 5 rfl ?_
                    refine xi_if_le (tgt := 89) C dX6_nextWire_73 (by decide) (fun c25 => ?_) (fun c25 => ?_)
                    rotate_left
                    · first | exact absurd c25 (by decide) | exact absurd (by decide) c25
                    refine xi_iload_n C dX6_nextWire_89 rfl 3 rfl ?_
                    refine xi_istore_n (lv2 := [(0, .ref o0), (1, .ref q), (2, .int x2_6), (3, .int x3_6), (4, .int x4_6), (5, .int 0)]) C dX6_nextWire_90 rfl (by decide) [0, 1, 2, 4, 5] [1, 2, 3, 0, 4, 5] rfl ?_
                    refine xi_iinc (v := x4_6 + 1) (lv2 := [(0, .ref o0), (1, .ref q), (2, .int x2_6), (3, .int x3_6), (4, .int (x4_6 + 1)), (5, .int 0)]) C dX6_nextWire_91 4 rfl (by rfl) (by decide) [0, 1, 2, 3, 5] [1, 2, 3, 4, 0, 5] rfl ?_
                    refine xi_goto (tgt := 6) C dX6_nextWire_94 (by decide) ?_
                    exact xb_lv (ih x3_6 (x4_6 + 1) h hk) [0, 1, 2, 3, 4] rfl
  unfold f_X6_nextWire at h
  refine xi_bipush (v := (-5)) C dX6_nextWire_0 (by decide) ?_
  refine xi_istore_n (lv2 := [(0, .ref o0), (1, .ref q), (2, .int p2), (3, .int (-5))]) C dX6_nextWire_2 rfl (by decide) [0, 1, 2] [1, 2, 3, 0] rfl ?_
  refine xi_iconst (v := 0) C dX6_nextWire_3 (by decide) ?_
  refine xi_istore (lv2 := [(0, .ref o0), (1, .ref q), (2, .int p2), (3, .int (-5)), (4, .int 0)]) C dX6_nextWire_4 (by decide) [0, 1, 2, 3] [1, 2, 3, 4, 0] rfl ?_
  refine xb_lv (lp6 p2 _ xFu (-5) 0 h (fun x3z26 h => ?_)) [0, 1, 2, 3, 4] rfl
  refine xi_iload_n C dX6_nextWire_97 rfl 0 rfl ?_
  have w0 := Option.some.inj h
  subst w0
  exact xi_iret C Z dX6_nextWire_98
