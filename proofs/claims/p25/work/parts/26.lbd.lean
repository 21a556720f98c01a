def f_X5_ifSwap (b : xBd) (t : xBd) (K : Nat → Int32) (p1 : Int32) (p2 : Int32) : Option (Int32 × xBd × (Nat → Int32)) :=
  (f_X5_trySwap b t K p1 p2).bind fun (v1, t2, K3) =>
  some (v1, t2, K3)
theorem k_X5_ifSwap : xb_Y yX5_ifSwap cX5_ifSwap wsX5_ifSwap 3 (some .int) { frames := 6, cells := 0, slots := 0, locals := 149 } 2 := ⟨⟨_, rfl⟩, by decide, ⟨by decide, by decide, by decide +kernel⟩, rfl, rfl⟩
set_option maxHeartbeats 4000000 in
set_option maxRecDepth 100000 in
theorem m_X5_ifSwap (D : va_G) (cI cC cZ cR : ClassId) (ad : Nat → Nat) (ha : Nat → Nat → Nat) (hs : Int32) (b : xBd) (t : xBd) (s : xBd) (hn : Int32) (pm : Nat → Nat) (hb : Nat → xBd) (K : Nat → Int32) (Dp : Nat → Int32) (Bt : Nat → Int32) (Sq : Nat → Int32) (se : Int32) (Sg : Nat → Int32) (ln : Int32) (at_ : Int32) (p1 : Int32) (p2 : Int32) (r : Int32) (t' : xBd) (K' : Nat → Int32) (h : f_X5_ifSwap b t K p1 p2 = some (r, t', K')) : xb_M cX5_ifSwap wsX5_ifSwap RX5 { frames := 6, cells := 0, slots := 0, locals := 149 } (some .int) 3 (xb_ty cI cC cZ cR) D [.ref (ad 0), .int p1, .int p2] (wLB ad hs ++ wBd cI (ad 1) (ad 2) (ad 3) (ad 4) (ad 5) (ad 6) b.1 b.2.1 b.2.2.1 b.2.2.2.1 b.2.2.2.2.1 b.2.2.2.2.2.1 b.2.2.2.2.2.2 ++ wBd cI (ad 7) (ad 8) (ad 9) (ad 10) (ad 11) (ad 12) t.1 t.2.1 t.2.2.1 t.2.2.2.1 t.2.2.2.2.1 t.2.2.2.2.2.1 t.2.2.2.2.2.2 ++ wBd cI (ad 13) (ad 14) (ad 15) (ad 16) (ad 17) (ad 18) s.1 s.2.1 s.2.2.1 s.2.2.2.1 s.2.2.2.2.1 s.2.2.2.2.2.1 s.2.2.2.2.2.2 ++ wHi cI cR (ad 19) (ad 20) ha hn pm hb ++ wLa cI (ad 21) (ad 22) K ++ wLo cI (ad 23) (ad 24) (ad 25) (ad 26) Dp Bt Sq se ++ wTe cC (ad 27) (ad 28) Sg ln at_) (some (.int r)) (wLB ad hs ++ wBd cI (ad 1) (ad 2) (ad 3) (ad 4) (ad 5) (ad 6) b.1 b.2.1 b.2.2.1 b.2.2.2.1 b.2.2.2.2.1 b.2.2.2.2.2.1 b.2.2.2.2.2.2 ++ wBd cI (ad 7) (ad 8) (ad 9) (ad 10) (ad 11) (ad 12) t'.1 t'.2.1 t'.2.2.1 t'.2.2.2.1 t'.2.2.2.2.1 t'.2.2.2.2.2.1 t'.2.2.2.2.2.2 ++ wBd cI (ad 13) (ad 14) (ad 15) (ad 16) (ad 17) (ad 18) s.1 s.2.1 s.2.2.1 s.2.2.2.1 s.2.2.2.2.1 s.2.2.2.2.2.1 s.2.2.2.2.2.2 ++ wHi cI cR (ad 19) (ad 20) ha hn pm hb ++ wLa cI (ad 21) (ad 22) K' ++ wLo cI (ad 23) (ad 24) (ad 25) (ad 26) Dp Bt Sq se ++ wTe cC (ad 27) (ad 28) Sg ln at_) := by
  intro X C Z
  show xb_G X 0 0 (wLB ad hs ++ wBd cI (ad 1) (ad 2) (ad 3) (ad 4) (ad 5) (ad 6) b.1 b.2.1 b.2.2.1 b.2.2.2.1 b.2.2.2.2.1 b.2.2.2.2.2.1 b.2.2.2.2.2.2 ++ wBd cI (ad 7) (ad 8) (ad 9) (ad 10) (ad 11) (ad 12) t.1 t.2.1 t.2.2.1 t.2.2.2.1 t.2.2.2.2.1 t.2.2.2.2.2.1 t.2.2.2.2.2.2 ++ wBd cI (ad 13) (ad 14) (ad 15) (ad 16) (ad 17) (ad 18) s.1 s.2.1 s.2.2.1 s.2.2.2.1 s.2.2.2.2.1 s.2.2.2.2.2.1 s.2.2.2.2.2.2 ++ wHi cI cR (ad 19) (ad 20) ha hn pm hb ++ wLa cI (ad 21) (ad 22) K ++ wLo cI (ad 23) (ad 24) (ad 25) (ad 26) Dp Bt Sq se ++ wTe cC (ad 27) (ad 28) Sg ln at_) [(0, .ref (ad 0)), (1, .int p1), (2, .int p2)] 0 []
  unfold f_X5_ifSwap at h
  refine xi_aload_n C dX5_ifSwap_0 rfl 0 rfl ?_
  refine xi_iload_n C dX5_ifSwap_1 rfl 1 rfl ?_
  refine xi_iload_n C dX5_ifSwap_2 rfl 2 rfl ?_
  obtain ⟨⟨v1, t2, K3⟩, e4, h⟩ := ob_i h
  refine xi_callV (As := [.int p1, .int p2]) (o := some (.int v1)) (rest := []) (w2 := (wLB ad hs ++ wBd cI (ad 1) (ad 2) (ad 3) (ad 4) (ad 5) (ad 6) b.1 b.2.1 b.2.2.1 b.2.2.2.1 b.2.2.2.2.1 b.2.2.2.2.2.1 b.2.2.2.2.2.2 ++ wBd cI (ad 7) (ad 8) (ad 9) (ad 10) (ad 11) (ad 12) t2.1 t2.2.1 t2.2.2.1 t2.2.2.2.1 t2.2.2.2.2.1 t2.2.2.2.2.2.1 t2.2.2.2.2.2.2 ++ wBd cI (ad 13) (ad 14) (ad 15) (ad 16) (ad 17) (ad 18) s.1 s.2.1 s.2.2.1 s.2.2.2.1 s.2.2.2.2.1 s.2.2.2.2.2.1 s.2.2.2.2.2.2 ++ wHi cI cR (ad 19) (ad 20) ha hn pm hb ++ wLa cI (ad 21) (ad 22) K3 ++ wLo cI (ad 23) (ad 24) (ad 25) (ad 26) Dp Bt Sq se ++ wTe cC (ad 27) (ad 28) Sg ln at_)) (st2 := [.int v1]) C k_X5_trySwap (m_X5_trySwap D cI cC cZ cR ad ha hs b t s hn pm hb K Dp Bt Sq se Sg ln at_ p1 p2 v1 t2 K3 e4) gX5_ifSwap_X5_trySwap dX5_ifSwap_3 ⟨Nat.le_of_ble_eq_true rfl, Nat.le_of_ble_eq_true rfl, Nat.le_of_ble_eq_true rfl⟩ 0 rfl rfl [0, 1, 2, 3, 4, 5, 6, 7, 8, 9, 10, 11, 12, 13, 14, 15, 16, 17, 18, 19, 20, 21, 22, 23, 24, 25, 26, 27, 28, 29, 30, 31, 32, 33, 34, 35, 36, 37, 38, 39, 40, 41, 42, 43, 44, 45, 46, 47, 48, 49, 50, 51, 52] mxC_X5_0_1_2_3_4_5_6_7 rfl [0, 1, 2, 3] rfl mxF_X5_0_1_2_3_4_5_6_7 mxM_X5_0_1_2_3_4_5_6_7 rfl (Nat.le_of_ble_eq_true rfl) ⟨Nat.zero_le _, Nat.zero_le _⟩ rfl ?_
  have w0 := Option.some.inj h
  obtain ⟨q0, w1⟩ := Prod.mk.inj w0
  obtain ⟨q1, w2⟩ := Prod.mk.inj w1
  subst q0
  subst q1
  subst w2
  exact xi_iret C Z dX5_ifSwap_6
def f_X5_bestSwap_27 (b : xBd) (x1_27 : Int32) (k : Int32 → xBd → (Nat → Int32) → Option (Int32 × xBd × (Nat → Int32))) : Nat → Int32 → Int32 → Int32 → xBd → (Nat → Int32) → Option (Int32 × xBd × (Nat → Int32))
  | 0, _, _, _, _, _ => none
  | n + 1, x2_27, x3_27, x4_27, t_27, K_27 =>
    if 24 ≤ x4_27 then
      k x3_27 t_27 K_27
    else
      (f_X5_trySwap b t_27 K_27 x1_27 x4_27).bind fun (v7, t8, K9) =>
      if v7 < 0 then
        f_X5_bestSwap_27 b x1_27 k n x2_27 x3_27 (x4_27 + 1) t8 K9
      else
        if x2_27 ≤ v7 then
          f_X5_bestSwap_27 b x1_27 k n x2_27 x3_27 (x4_27 + 1) t8 K9
        else
          f_X5_bestSwap_27 b x1_27 k n v7 x4_27 (x4_27 + 1) t8 K9
def f_X5_bestSwap (b : xBd) (t : xBd) (K : Nat → Int32) (p1 : Int32) : Option (Int32 × xBd × (Nat → Int32)) :=
  (f_X0_hasCell b.1 p1).bind fun v1 =>
  if v1 = 0 then
    some ((-1), t, K)
  else
    (f_X0_segmentsOfAll b.2.2.1).bind fun v4 =>
    f_X5_bestSwap_27 b p1 (fun x3z13 tz13 Kz13 =>
      some (x3z13, tz13, Kz13)) xFu v4 (-5) 0 t K
theorem k_X5_bestSwap : xb_Y yX5_bestSwap cX5_bestSwap wsX5_bestSwap 6 (some .int) { frames := 6, cells := 0, slots := 0, locals := 149 } 1 := ⟨⟨_, rfl⟩, by decide, ⟨by decide, by decide, by decide +kernel⟩, rfl, rfl⟩
theorem fl_X5_bestSwap_10 : Cond.fieldLink RX5 10 "LookupBoard" "board" "LLookupBoard$Board;" ∈ wsX5_bestSwap := List.mem_of_getElem? (i := 1) rfl
theorem iw_X5_bestSwap_5 : ∀ w ∈ wsX50, w ∈ wsX5_bestSwap := fun w h => List.mem_cons_of_mem _ (List.mem_append_left _ (List.mem_append_left _ (List.mem_append_right _ h)))
set_option maxHeartbeats 4000000 in
set_option maxRecDepth 100000 in
theorem m_X5_bestSwap (D : va_G) (cI cC cZ cR : ClassId) (ad : Nat → Nat) (ha : Nat → Nat → Nat) (hs : Int32) (b : xBd) (t : xBd) (s : xBd) (hn : Int32) (pm : Nat → Nat) (hb : Nat → xBd) (K : Nat → Int32) (Dp : Nat → Int32) (Bt : Nat → Int32) (Sq : Nat → Int32) (se : Int32) (Sg : Nat → Int32) (ln : Int32) (at_ : Int32) (p1 : Int32) (r : Int32) (t' : xBd) (K' : Nat → Int32) (h : f_X5_bestSwap b t K p1 = some (r, t', K')) : xb_M cX5_bestSwap wsX5_bestSwap RX5 { frames := 6, cells := 0, slots := 0, locals := 149 } (some .int) 6 (xb_ty cI cC cZ cR) D [.ref (ad 0), .int p1] (wLB ad hs ++ wBd cI (ad 1) (ad 2) (ad 3) (ad 4) (ad 5) (ad 6) b.1 b.2.1 b.2.2.1 b.2.2.2.1 b.2.2.2.2.1 b.2.2.2.2.2.1 b.2.2.2.2.2.2 ++ wBd cI (ad 7) (ad 8) (ad 9) (ad 10) (ad 11) (ad 12) t.1 t.2.1 t.2.2.1 t.2.2.2.1 t.2.2.2.2.1 t.2.2.2.2.2.1 t.2.2.2.2.2.2 ++ wBd cI (ad 13) (ad 14) (ad 15) (ad 16) (ad 17) (ad 18) s.1 s.2.1 s.2.2.1 s.2.2.2.1 s.2.2.2.2.1 s.2.2.2.2.2.1 s.2.2.2.2.2.2 ++ wHi cI cR (ad 19) (ad 20) ha hn pm hb ++ wLa cI (ad 21) (ad 22) K ++ wLo cI (ad 23) (ad 24) (ad 25) (ad 26) Dp Bt Sq se ++ wTe cC (ad 27) (ad 28) Sg ln at_) (some (.int r)) (wLB ad hs ++ wBd cI (ad 1) (ad 2) (ad 3) (ad 4) (ad 5) (ad 6) b.1 b.2.1 b.2.2.1 b.2.2.2.1 b.2.2.2.2.1 b.2.2.2.2.2.1 b.2.2.2.2.2.2 ++ wBd cI (ad 7) (ad 8) (ad 9) (ad 10) (ad 11) (ad 12) t'.1 t'.2.1 t'.2.2.1 t'.2.2.2.1 t'.2.2.2.2.1 t'.2.2.2.2.2.1 t'.2.2.2.2.2.2 ++ wBd cI (ad 13) (ad 14) (ad 15) (ad 16) (ad 17) (ad 18) s.1 s.2.1 s.2.2.1 s.2.2.2.1 s.2.2.2.2.1 s.2.2.2.2.2.1 s.2.2.2.2.2.2 ++ wHi cI cR (ad 19) (ad 20) ha hn pm hb ++ wLa cI (ad 21) (ad 22) K' ++ wLo cI (ad 23) (ad 24) (ad 25) (ad 26) Dp Bt Sq se ++ wTe cC (ad 27) (ad 28) Sg ln at_) := by
  intro X C Z
  show xb_G X 0 0 (wLB ad hs ++ wBd cI (ad 1) (ad 2) (ad 3) (ad 4) (ad 5) (ad 6) b.1 b.2.1 b.2.2.1 b.2.2.2.1 b.2.2.2.2.1 b.2.2.2.2.2.1 b.2.2.2.2.2.2 ++ wBd cI (ad 7) (ad 8) (ad 9) (ad 10) (ad 11) (ad 12) t.1 t.2.1 t.2.2.1 t.2.2.2.1 t.2.2.2.2.1 t.2.2.2.2.2.1 t.2.2.2.2.2.2 ++ wBd cI (ad 13) (ad 14) (ad 15) (ad 16) (ad 17) (ad 18) s.1 s.2.1 s.2.2.1 s.2.2.2.1 s.2.2.2.2.1 s.2.2.2.2.2.1 s.2.2.2.2.2.2 ++ wHi cI cR (ad 19) (ad 20) ha hn pm hb ++ wLa cI (ad 21) (ad 22) K ++ wLo cI (ad 23) (ad 24) (ad 25) (ad 26) Dp Bt Sq se ++ wTe cC (ad 27) (ad 28) Sg ln at_) [(0, .ref (ad 0)), (1, .int p1)] 0 []
  have lp27 : ∀ (x1_27 : Int32) (k : Int32 → xBd → (Nat → Int32) → Option (Int32 × xBd × (Nat → Int32))) (n : Nat) (x2_27 : Int32) (x3_27 : Int32) (x4_27 : Int32) (t_27 : xBd) (K_27 : Nat → Int32), f_X5_bestSwap_27 b x1_27 k n x2_27 x3_27 x4_27 t_27 K_27 = some (r, t', K') → (∀ (x3_27e : Int32) (t_27e : xBd) (K_27e : Nat → Int32), k x3_27e t_27e K_27e = some (r, t', K') → xb_G X 0 0 (wLB ad hs ++ wBd cI (ad 1) (ad 2) (ad 3) (ad 4) (ad 5) (ad 6) b.1 b.2.1 b.2.2.1 b.2.2.2.1 b.2.2.2.2.1 b.2.2.2.2.2.1 b.2.2.2.2.2.2 ++ wBd cI (ad 7) (ad 8) (ad 9) (ad 10) (ad 11) (ad 12) t_27e.1 t_27e.2.1 t_27e.2.2.1 t_27e.2.2.2.1 t_27e.2.2.2.2.1 t_27e.2.2.2.2.2.1 t_27e.2.2.2.2.2.2 ++ wBd cI (ad 13) (ad 14) (ad 15) (ad 16) (ad 17) (ad 18) s.1 s.2.1 s.2.2.1 s.2.2.2.1 s.2.2.2.2.1 s.2.2.2.2.2.1 s.2.2.2.2.2.2 ++ wHi cI cR (ad 19) (ad 20) ha hn pm hb ++ wLa cI (ad 21) (ad 22) K_27e ++ wLo cI (ad 23) (ad 24) (ad 25) (ad 26) Dp Bt Sq se ++ wTe cC (ad 27) (ad 28) Sg ln at_) [(3, .int x3_27e)] 66 []) → xb_G X 0 0 (wLB ad hs ++ wBd cI (ad 1) (ad 2) (ad 3) (ad 4) (ad 5) (ad 6) b.1 b.2.1 b.2.2.1 b.2.2.2.1 b.2.2.2.2.1 b.2.2.2.2.2.1 b.2.2.2.2.2.2 ++ wBd cI (ad 7) (ad 8) (ad 9) (ad 10) (ad 11) (ad 12) t_27.1 t_27.2.1 t_27.2.2.1 t_27.2.2.2.1 t_27.2.2.2.2.1 t_27.2.2.2.2.2.1 t_27.2.2.2.2.2.2 ++ wBd cI (ad 13) (ad 14) (ad 15) (ad 16) (ad 17) (ad 18) s.1 s.2.1 s.2.2.1 s.2.2.2.1 s.2.2.2.2.1 s.2.2.2.2.2.1 s.2.2.2.2.2.2 ++ wHi cI cR (ad 19) (ad 20) ha hn pm hb ++ wLa cI (ad 21) (ad 22) K_27 ++ wLo cI (ad 23) (ad 24) (ad 25) (ad 26) Dp Bt Sq se ++ wTe cC (ad 27) (ad 28) Sg ln at_) [(0, .ref (ad 0)), (1, .int x1_27), (2, .int x2_27), (3, .int x3_27), (4, .int x4_27)] 27 [] := by
    intro x1_27 k n
    induction n with
    | zero => intro x2_27 x3_27 x4_27 t_27 K_27 h hk; unfold f_X5_bestSwap_27 at h; cases h
    | succ n ih =>
      intro x2_27 x3_27 x4_27 t_27 K_27 h hk
      unfold f_X5_bestSwap_27 at h
      refine xi_iload C dX5_bestSwap_27 4 rfl ?_
      refine xi_bipush (v := 24) C dX5_bestSwap_29 (by decide) ?_
      refine xi_icmp_ge (tgt := 66) C dX5_bestSwap_31 (by decide) (fun c6 => ?_) (fun c6 => ?_)
      · have h := it_i c6 h
        exact xb_lv (hk x3_27 t_27 K_27 h) [3] rfl
      · have h := ie_i c6 h
        refine xi_aload_n C dX5_bestSwap_34 rfl 0 rfl ?_
        refine xi_iload_n C dX5_bestSwap_35 rfl 1 rfl ?_
        refine xi_iload C dX5_bestSwap_36 4 rfl ?_
        obtain ⟨⟨v7, t8, K9⟩, e10, h⟩ := ob_i h
        refine xi_callV (As := [.int x1_27, .int x4_27]) (o := some (.int v7)) (rest := []) (w2 := (wLB ad hs ++ wBd cI (ad 1) (ad 2) (ad 3) (ad 4) (ad 5) (ad 6) b.1 b.2.1 b.2.2.1 b.2.2.2.1 b.2.2.2.2.1 b.2.2.2.2.2.1 b.2.2.2.2.2.2 ++ wBd cI (ad 7) (ad 8) (ad 9) (ad 10) (ad 11) (ad 12) t8.1 t8.2.1 t8.2.2.1 t8.2.2.2.1 t8.2.2.2.2.1 t8.2.2.2.2.2.1 t8.2.2.2.2.2.2 ++ wBd cI (ad 13) (ad 14) (ad 15) (ad 16) (ad 17) (ad 18) s.1 s.2.1 s.2.2.1 s.2.2.2.1 s.2.2.2.2.1 s.2.2.2.2.2.1 s.2.2.2.2.2.2 ++ wHi cI cR (ad 19) (ad 20) ha hn pm hb ++ wLa cI (ad 21) (ad 22) K9 ++ wLo cI (ad 23) (ad 24) (ad 25) (ad 26) Dp Bt Sq se ++ wTe cC (ad 27) (ad 28) Sg ln at_)) (st2 := [.int v7]) C k_X5_trySwap (m_X5_trySwap D cI cC cZ cR ad ha hs b t_27 s hn pm hb K_27 Dp Bt Sq se Sg ln at_ x1_27 x4_27 v7 t8 K9 e10) gX5_bestSwap_X5_trySwap dX5_bestSwap_38 ⟨Nat.le_of_ble_eq_true rfl, Nat.le_of_ble_eq_true rfl, Nat.le_of_ble_eq_true rfl⟩ 0 rfl rfl [0, 1, 2, 3, 4, 5, 6, 7, 8, 9, 10, 11, 12, 13, 14, 15, 16, 17, 18, 19, 20, 21, 22, 23, 24, 25, 26, 27, 28, 29, 30, 31, 32, 33, 34, 35, 36, 37, 38, 39, 40, 41, 42, 43, 44, 45, 46, 47, 48, 49, 50, 51, 52] mxC_X5_0_1_2_3_4_5_6_7 rfl [0, 1, 2, 3] rfl mxF_X5_0_1_2_3_4_5_6_7 mxM_X5_0_1_2_3_4_5_6_7 rfl (Nat.le_of_ble_eq_true rfl) ⟨Nat.zero_le _, Nat.zero_le _⟩ rfl ?_
        refine xi_istore (lv2 := [(0, .ref (ad 0)), (1, .int x1_27), (2, .int x2_27), (3, .int x3_27), (4, .int x4_27), (5, .int v7)]) C dX5_bestSwap_41 (by decide) [0, 1, 2, 3, 4] [1, 2, 3, 4, 5, 0] rfl ?_
        refine xi_iload C dX5_bestSwap_43 5 rfl ?_
        refine xi_if_lt (tgt := 60) C dX5_bestSwap_45 (by decide) (fun c11 => ?_) (fun c11 => ?_)
        · have h := it_i c11 h
          refine xi_iinc (v := x4_27 + 1) (lv2 := [(0, .ref (ad 0)), (1, .int x1_27), (2, .int x2_27), (3, .int x3_27), (4, .int (x4_27 + 1)), (5, .int v7)]) C dX5_bestSwap_60 4 rfl (by rfl) (by decide) [0, 1, 2, 3, 5] [1, 2, 3, 4, 0, 5] rfl ?_
          refine xi_goto (tgt := 27) C dX5_bestSwap_63 (by decide) ?_
          exact xb_lv (ih x2_27 x3_27 (x4_27 + 1) t8 K9 h hk) [0, 1, 2, 3, 4] rfl
        · have h := ie_i c11 h
          refine xi_iload C dX5_bestSwap_48 5 rfl ?_
          refine xi_iload_n C dX5_bestSwap_50 rfl 2 rfl ?_
          refine xi_icmp_ge (tgt := 60) C dX5_bestSwap_51 (by decide) (fun c12 => ?_) (fun c12 => ?_)
          · have h := it_i c12 h
            refine xi_iinc (v := x4_27 + 1) (lv2 := [(0, .ref (ad 0)), (1, .int x1_27), (2, .int x2_27), (3, .int x3_27), (4, .int (x4_27 + 1)), (5, .int v7)]) C dX5_bestSwap_60 4 rfl (by rfl) (by decide) [0, 1, 2, 3, 5] [1, 2, 3, 4, 0, 5] rfl ?_
            refine xi_goto (tgt := 27) C dX5_bestSwap_63 (by decide) ?_
            exact xb_lv (ih x2_27 x3_27 (x4_27 + 1) t8 K9 h hk) [0, 1, 2, 3, 4] rfl
          · have h := ie_i c12 h
            refine xi_iload C dX5_bestSwap_54 5 rfl ?_
            refine xi_istore_n (lv2 := [(0, .ref (ad 0)), (1, .int x1_27), (2, .int v7), (3, .int x3_27), (4, .int x4_27), (5, .int v7)]) C dX5_bestSwap_56 rfl (by decide) [0, 1, 3, 4, 5] [1, 2, 0, 3, 4, 5] rfl ?_
            refine xi_iload C dX5_bestSwap_57 4 rfl ?_
            refine xi_istore_n (lv2 := [(0, .ref (ad 0)), (1, .int x1_27), (2, .int v7), (3, .int x4_27), (4, .int x4_27), (5, .int v7)]) C dX5_bestSwap_59 rfl (by decide) [0, 1, 2, 4, 5] [1, 2, 3, 0, 4, 5] rfl ?_
            refine xi_iinc (v := x4_27 + 1) (lv2 := [(0, .ref (ad 0)), (1, .int x1_27), (2, .int v7), (3, .int x4_27), (4, .int (x4_27 + 1)), (5, .int v7)]) C dX5_bestSwap_60 4 rfl (by rfl) (by decide) [0, 1, 2, 3, 5] [1, 2, 3, 4, 0, 5] rfl ?_
            refine xi_goto (tgt := 27) C dX5_bestSwap_63 (by decide) ?_
            exact xb_lv (ih v7 x4_27 (x4_27 + 1) t8 K9 h hk) [0, 1, 2, 3, 4] rfl
  unfold f_X5_bestSwap at h
  refine xi_aload_n C dX5_bestSwap_0 rfl 0 rfl ?_
  refine xi_get C dX5_bestSwap_1 iw_X5_bestSwap_5 0 rfl rfl 0 (by decide) fl_X5_bestSwap_10 rfl ?_
  refine xi_iload_n C dX5_bestSwap_4 rfl 1 rfl ?_
  obtain ⟨v1, e2, h⟩ := ob_i h
  refine xi_callV (As := [.int p1]) (o := some (.int v1)) (rest := []) (w2 := (wLB ad hs ++ wBd cI (ad 1) (ad 2) (ad 3) (ad 4) (ad 5) (ad 6) b.1 b.2.1 b.2.2.1 b.2.2.2.1 b.2.2.2.2.1 b.2.2.2.2.2.1 b.2.2.2.2.2.2 ++ wBd cI (ad 7) (ad 8) (ad 9) (ad 10) (ad 11) (ad 12) t.1 t.2.1 t.2.2.1 t.2.2.2.1 t.2.2.2.2.1 t.2.2.2.2.2.1 t.2.2.2.2.2.2 ++ wBd cI (ad 13) (ad 14) (ad 15) (ad 16) (ad 17) (ad 18) s.1 s.2.1 s.2.2.1 s.2.2.2.1 s.2.2.2.2.1 s.2.2.2.2.2.1 s.2.2.2.2.2.2 ++ wHi cI cR (ad 19) (ad 20) ha hn pm hb ++ wLa cI (ad 21) (ad 22) K ++ wLo cI (ad 23) (ad 24) (ad 25) (ad 26) Dp Bt Sq se ++ wTe cC (ad 27) (ad 28) Sg ln at_)) (st2 := [.int v1]) C k_X0_hasCell (m_X0_hasCell D cI cC cZ cR (ad 1) (ad 2) (ad 3) (ad 4) (ad 5) (ad 6) b.1 b.2.1 b.2.2.1 b.2.2.2.1 b.2.2.2.2.1 b.2.2.2.2.2.1 b.2.2.2.2.2.2 p1 v1 e2) gX5_bestSwap_X0_hasCell dX5_bestSwap_5 ⟨Nat.le_of_ble_eq_true rfl, Nat.le_of_ble_eq_true rfl, Nat.le_of_ble_eq_true rfl⟩ 1 rfl rfl [1, 2, 3, 4, 5, 6] mxC_X5_1 rfl [0, 1, 2, 3] rfl mxF_X5_1 mxM_X5_1 rfl (Nat.le_of_ble_eq_true rfl) ⟨Nat.zero_le _, Nat.zero_le _⟩ rfl ?_
  refine xi_if_ne (tgt := 13) C dX5_bestSwap_8 (by decide) (fun c3 => ?_) (fun c3 => ?_)
  · have h := ie_i c3 h
    refine xi_aload_n C dX5_bestSwap_13 rfl 0 rfl ?_
    refine xi_get C dX5_bestSwap_14 iw_X5_bestSwap_5 0 rfl rfl 0 (by decide) fl_X5_bestSwap_10 rfl ?_
    obtain ⟨v4, e5, h⟩ := ob_i h
    refine xi_callV (As := []) (o := some (.int v4)) (rest := []) (w2 := (wLB ad hs ++ wBd cI (ad 1) (ad 2) (ad 3) (ad 4) (ad 5) (ad 6) b.1 b.2.1 b.2.2.1 b.2.2.2.1 b.2.2.2.2.1 b.2.2.2.2.2.1 b.2.2.2.2.2.2 ++ wBd cI (ad 7) (ad 8) (ad 9) (ad 10) (ad 11) (ad 12) t.1 t.2.1 t.2.2.1 t.2.2.2.1 t.2.2.2.2.1 t.2.2.2.2.2.1 t.2.2.2.2.2.2 ++ wBd cI (ad 13) (ad 14) (ad 15) (ad 16) (ad 17) (ad 18) s.1 s.2.1 s.2.2.1 s.2.2.2.1 s.2.2.2.2.1 s.2.2.2.2.2.1 s.2.2.2.2.2.2 ++ wHi cI cR (ad 19) (ad 20) ha hn pm hb ++ wLa cI (ad 21) (ad 22) K ++ wLo cI (ad 23) (ad 24) (ad 25) (ad 26) Dp Bt Sq se ++ wTe cC (ad 27) (ad 28) Sg ln at_)) (st2 := [.int v4]) C k_X0_segmentsOfAll (m_X0_segmentsOfAll D cI cC cZ cR (ad 1) (ad 2) (ad 3) (ad 4) (ad 5) (ad 6) b.1 b.2.1 b.2.2.1 b.2.2.2.1 b.2.2.2.2.1 b.2.2.2.2.2.1 b.2.2.2.2.2.2 v4 e5) gX5_bestSwap_X0_segmentsOfAll dX5_bestSwap_17 ⟨Nat.le_of_ble_eq_true rfl, Nat.le_of_ble_eq_true rfl, Nat.le_of_ble_eq_true rfl⟩ 1 rfl rfl [1, 2, 3, 4, 5, 6] mxC_X5_1 rfl [0, 1, 2, 3] rfl mxF_X5_1 mxM_X5_1 rfl (Nat.le_of_ble_eq_true rfl) ⟨Nat.zero_le _, Nat.zero_le _⟩ rfl ?_
    refine xi_istore_n (lv2 := [(0, .ref (ad 0)), (1, .int p1), (2, .int v4)]) C dX5_bestSwap_20 rfl (by decide) [0, 1] [1, 2, 0] rfl ?_
    refine xi_bipush (v := (-5)) C dX5_bestSwap_21 (by decide) ?_
    refine xi_istore_n (lv2 := [(0, .ref (ad 0)), (1, .int p1), (2, .int v4), (3, .int (-5))]) C dX5_bestSwap_23 rfl (by decide) [0, 1, 2] [1, 2, 3, 0] rfl ?_
    refine xi_iconst (v := 0) C dX5_bestSwap_24 (by decide) ?_
    refine xi_istore (lv2 := [(0, .ref (ad 0)), (1, .int p1), (2, .int v4), (3, .int (-5)), (4, .int 0)]) C dX5_bestSwap_25 (by decide) [0, 1, 2, 3] [1, 2, 3, 4, 0] rfl ?_
    refine xb_lv (lp27 p1 _ xFu v4 (-5) 0 t K h (fun x3z13 tz13 Kz13 h => ?_)) [0, 1, 2, 3, 4] rfl
    refine xi_iload_n C dX5_bestSwap_66 rfl 0 rfl ?_
    have w0 := Option.some.inj h
    obtain ⟨q0, w1⟩ := Prod.mk.inj w0
    obtain ⟨q1, w2⟩ := Prod.mk.inj w1
    subst q0
    subst q1
    subst w2
    exact xi_iret C Z dX5_bestSwap_67
  · have h := it_i c3 h
    refine xi_iconst (v := (-1)) C dX5_bestSwap_11 (by decide) ?_
    have w0 := Option.some.inj h
    obtain ⟨q0, w1⟩ := Prod.mk.inj w0
    obtain ⟨q1, w2⟩ := Prod.mk.inj w1
    subst q0
    subst q1
    subst w2
    exact xi_iret C Z dX5_bestSwap_12
def f_X5_bestOrder_8 (b : xBd) (k : Int32 → xBd → (Nat → Int32) → Option (Int32 × xBd × (Nat → Int32))) : Nat → Int32 → Int32 → Int32 → xBd → (Nat → Int32) → Option (Int32 × xBd × (Nat → Int32))
  | 0, _, _, _, _, _ => none
  | n + 1, x1_8, x2_8, x3_8, t_8, K_8 =>
    if 3 ≤ x3_8 then
      k x2_8 t_8 K_8
    else
      (f_X5_tryOrder b t_8 K_8 x3_8).bind fun (v2, t3, K4) =>
      if v2 < 0 then
        f_X5_bestOrder_8 b k n x1_8 x2_8 (x3_8 + 1) t3 K4
      else
        if x1_8 ≤ v2 then
          f_X5_bestOrder_8 b k n x1_8 x2_8 (x3_8 + 1) t3 K4
        else
          f_X5_bestOrder_8 b k n v2 x3_8 (x3_8 + 1) t3 K4
def f_X5_bestOrder (b : xBd) (t : xBd) (K : Nat → Int32) : Option (Int32 × xBd × (Nat → Int32)) :=
  f_X5_bestOrder_8 b (fun x2z8 tz8 Kz8 =>
    some (x2z8, tz8, Kz8)) xFu 1000000 (-5) 0 t K
theorem k_X5_bestOrder : xb_Y yX5_bestOrder cX5_bestOrder wsX5_bestOrder 5 (some .int) { frames := 6, cells := 0, slots := 0, locals := 148 } 0 := ⟨⟨_, rfl⟩, by decide, ⟨by decide, by decide, by decide +kernel⟩, rfl, rfl⟩
set_option maxHeartbeats 4000000 in
set_option maxRecDepth 100000 in
theorem m_X5_bestOrder (D : va_G) (cI cC cZ cR : ClassId) (ad : Nat → Nat) (ha : Nat → Nat → Nat) (hs : Int32) (b : xBd) (t : xBd) (s : xBd) (hn : Int32) (pm : Nat → Nat) (hb : Nat → xBd) (K : Nat → Int32) (Dp : Nat → Int32) (Bt : Nat → Int32) (Sq : Nat → Int32) (se : Int32) (Sg : Nat → Int32) (ln : Int32) (at_ : Int32) (r : Int32) (t' : xBd) (K' : Nat → Int32) (h : f_X5_bestOrder b t K = some (r, t', K')) : xb_M cX5_bestOrder wsX5_bestOrder RX5 { frames := 6, cells := 0, slots := 0, locals := 148 } (some .int) 5 (xb_ty cI cC cZ cR) D [.ref (ad 0)] (wLB ad hs ++ wBd cI (ad 1) (ad 2) (ad 3) (ad 4) (ad 5) (ad 6) b.1 b.2.1 b.2.2.1 b.2.2.2.1 b.2.2.2.2.1 b.2.2.2.2.2.1 b.2.2.2.2.2.2 ++ wBd cI (ad 7) (ad 8) (ad 9) (ad 10) (ad 11) (ad 12) t.1 t.2.1 t.2.2.1 t.2.2.2.1 t.2.2.2.2.1 t.2.2.2.2.2.1 t.2.2.2.2.2.2 ++ wBd cI (ad 13) (ad 14) (ad 15) (ad 16) (ad 17) (ad 18) s.1 s.2.1 s.2.2.1 s.2.2.2.1 s.2.2.2.2.1 s.2.2.2.2.2.1 s.2.2.2.2.2.2 ++ wHi cI cR (ad 19) (ad 20) ha hn pm hb ++ wLa cI (ad 21) (ad 22) K ++ wLo cI (ad 23) (ad 24) (ad 25) (ad 26) Dp Bt Sq se ++ wTe cC (ad 27) (ad 28) Sg ln at_) (some (.int r)) (wLB ad hs ++ wBd cI (ad 1) (ad 2) (ad 3) (ad 4) (ad 5) (ad 6) b.1 b.2.1 b.2.2.1 b.2.2.2.1 b.2.2.2.2.1 b.2.2.2.2.2.1 b.2.2.2.2.2.2 ++ wBd cI (ad 7) (ad 8) (ad 9) (ad 10) (ad 11) (ad 12) t'.1 t'.2.1 t'.2.2.1 t'.2.2.2.1 t'.2.2.2.2.1 t'.2.2.2.2.2.1 t'.2.2.2.2.2.2 ++ wBd cI (ad 13) (ad 14) (ad 15) (ad 16) (ad 17) (ad 18) s.1 s.2.1 s.2.2.1 s.2.2.2.1 s.2.2.2.2.1 s.2.2.2.2.2.1 s.2.2.2.2.2.2 ++ wHi cI cR (ad 19) (ad 20) ha hn pm hb ++ wLa cI (ad 21) (ad 22) K' ++ wLo cI (ad 23) (ad 24) (ad 25) (ad 26) Dp Bt Sq se ++ wTe cC (ad 27) (ad 28) Sg ln at_) := by
  intro X C Z
  show xb_G X 0 0 (wLB ad hs ++ wBd cI (ad 1) (ad 2) (ad 3) (ad 4) (ad 5) (ad 6) b.1 b.2.1 b.2.2.1 b.2.2.2.1 b.2.2.2.2.1 b.2.2.2.2.2.1 b.2.2.2.2.2.2 ++ wBd cI (ad 7) (ad 8) (ad 9) (ad 10) (ad 11) (ad 12) t.1 t.2.1 t.2.2.1 t.2.2.2.1 t.2.2.2.2.1 t.2.2.2.2.2.1 t.2.2.2.2.2.2 ++ wBd cI (ad 13) (ad 14) (ad 15) (ad 16) (ad 17) (ad 18) s.1 s.2.1 s.2.2.1 s.2.2.2.1 s.2.2.2.2.1 s.2.2.2.2.2.1 s.2.2.2.2.2.2 ++ wHi cI cR (ad 19) (ad 20) ha hn pm hb ++ wLa cI (ad 21) (ad 22) K ++ wLo cI (ad 23) (ad 24) (ad 25) (ad 26) Dp Bt Sq se ++ wTe cC (ad 27) (ad 28) Sg ln at_) [(0, .ref (ad 0))] 0 []
  have lp8 : ∀ (k : Int32 → xBd → (Nat → Int32) → Option (Int32 × xBd × (Nat → Int32))) (n : Nat) (x1_8 : Int32) (x2_8 : Int32) (x3_8 : Int32) (t_8 : xBd) (K_8 : Nat → Int32), f_X5_bestOrder_8 b k n x1_8 x2_8 x3_8 t_8 K_8 = some (r, t', K') → (∀ (x2_8e : Int32) (t_8e : xBd) (K_8e : Nat → Int32), k x2_8e t_8e K_8e = some (r, t', K') → xb_G X 0 0 (wLB ad hs ++ wBd cI (ad 1) (ad 2) (ad 3) (ad 4) (ad 5) (ad 6) b.1 b.2.1 b.2.2.1 b.2.2.2.1 b.2.2.2.2.1 b.2.2.2.2.2.1 b.2.2.2.2.2.2 ++ wBd cI (ad 7) (ad 8) (ad 9) (ad 10) (ad 11) (ad 12) t_8e.1 t_8e.2.1 t_8e.2.2.1 t_8e.2.2.2.1 t_8e.2.2.2.2.1 t_8e.2.2.2.2.2.1 t_8e.2.2.2.2.2.2 ++ wBd cI (ad 13) (ad 14) (ad 15) (ad 16) (ad 17) (ad 18) s.1 s.2.1 s.2.2.1 s.2.2.2.1 s.2.2.2.2.1 s.2.2.2.2.2.1 s.2.2.2.2.2.2 ++ wHi cI cR (ad 19) (ad 20) ha hn pm hb ++ wLa cI (ad 21) (ad 22) K_8e ++ wLo cI (ad 23) (ad 24) (ad 25) (ad 26) Dp Bt Sq se ++ wTe cC (ad 27) (ad 28) Sg ln at_) [(2, .int x2_8e)] 42 []) → xb_G X 0 0 (wLB ad hs ++ wBd cI (ad 1) (ad 2) (ad 3) (ad 4) (ad 5) (ad 6) b.1 b.2.1 b.2.2.1 b.2.2.2.1 b.2.2.2.2.1 b.2.2.2.2.2.1 b.2.2.2.2.2.2 ++ wBd cI (ad 7) (ad 8) (ad 9) (ad 10) (ad 11) (ad 12) t_8.1 t_8.2.1 t_8.2.2.1 t_8.2.2.2.1 t_8.2.2.2.2.1 t_8.2.2.2.2.2.1 t_8.2.2.2.2.2.2 ++ wBd cI (ad 13) (ad 14) (ad 15) (ad 16) (ad 17) (ad 18) s.1 s.2.1 s.2.2.1 s.2.2.2.1 s.2.2.2.2.1 s.2.2.2.2.2.1 s.2.2.2.2.2.2 ++ wHi cI cR (ad 19) (ad 20) ha hn pm hb ++ wLa cI (ad 21) (ad 22) K_8 ++ wLo cI (ad 23) (ad 24) (ad 25) (ad 26) Dp Bt Sq se ++ wTe cC (ad 27) (ad 28) Sg ln at_) [(0, .ref (ad 0)), (1, .int x1_8), (2, .int x2_8), (3, .int x3_8)] 8 [] := by
    intro k n
    induction n with
    | zero => intro x1_8 x2_8 x3_8 t_8 K_8 h hk; unfold f_X5_bestOrder_8 at h; cases h
    | succ n ih =>
      intro x1_8 x2_8 x3_8 t_8 K_8 h hk
      unfold f_X5_bestOrder_8 at h
      refine xi_iload_n C dX5_bestOrder_8 rfl 3 rfl ?_
      refine xi_iconst (v := 3) C dX5_bestOrder_9 (by decide) ?_
      refine xi_icmp_ge (tgt := 42) C dX5_bestOrder_10 (by decide) (fun c1 => ?_) (fun c1 => ?_)
      · have h := it_i c1 h
        exact xb_lv (hk x2_8 t_8 K_8 h) [2] rfl
      · have h := ie_i c1 h
        refine xi_aload_n C dX5_bestOrder_13 rfl 0 rfl ?_
        refine xi_iload_n C dX5_bestOrder_14 rfl 3 rfl ?_
        obtain ⟨⟨v2, t3, K4⟩, e5, h⟩ := ob_i h
        refine xi_callV (As := [.int x3_8]) (o := some (.int v2)) (rest := []) (w2 := (wLB ad hs ++ wBd cI (ad 1) (ad 2) (ad 3) (ad 4) (ad 5) (ad 6) b.1 b.2.1 b.2.2.1 b.2.2.2.1 b.2.2.2.2.1 b.2.2.2.2.2.1 b.2.2.2.2.2.2 ++ wBd cI (ad 7) (ad 8) (ad 9) (ad 10) (ad 11) (ad 12) t3.1 t3.2.1 t3.2.2.1 t3.2.2.2.1 t3.2.2.2.2.1 t3.2.2.2.2.2.1 t3.2.2.2.2.2.2 ++ wBd cI (ad 13) (ad 14) (ad 15) (ad 16) (ad 17) (ad 18) s.1 s.2.1 s.2.2.1 s.2.2.2.1 s.2.2.2.2.1 s.2.2.2.2.2.1 s.2.2.2.2.2.2 ++ wHi cI cR (ad 19) (ad 20) ha hn pm hb ++ wLa cI (ad 21) (ad 22) K4 ++ wLo cI (ad 23) (ad 24) (ad 25) (ad 26) Dp Bt Sq se ++ wTe cC (ad 27) (ad 28) Sg ln at_)) (st2 := [.int v2]) C k_X5_tryOrder (m_X5_tryOrder D cI cC cZ cR ad ha hs b t_8 s hn pm hb K_8 Dp Bt Sq se Sg ln at_ x3_8 v2 t3 K4 e5) gX5_bestOrder_X5_tryOrder dX5_bestOrder_15 ⟨Nat.le_of_ble_eq_true rfl, Nat.le_of_ble_eq_true rfl, Nat.le_of_ble_eq_true rfl⟩ 0 rfl rfl [0, 1, 2, 3, 4, 5, 6, 7, 8, 9, 10, 11, 12, 13, 14, 15, 16, 17, 18, 19, 20, 21, 22, 23, 24, 25, 26, 27, 28, 29, 30, 31, 32, 33, 34, 35, 36, 37, 38, 39, 40, 41, 42, 43, 44, 45, 46, 47, 48, 49, 50, 51, 52] mxC_X5_0_1_2_3_4_5_6_7 rfl [0, 1, 2, 3] rfl mxF_X5_0_1_2_3_4_5_6_7 mxM_X5_0_1_2_3_4_5_6_7 rfl (Nat.le_of_ble_eq_true rfl) ⟨Nat.zero_le _, Nat.zero_le _⟩ rfl ?_
        refine xi_istore (lv2 := [(0, .ref (ad 0)), (1, .int x1_8), (2, .int x2_8), (3, .int x3_8), (4, .int v2)]) C dX5_bestOrder_18 (by decide) [0, 1, 2, 3] [1, 2, 3, 4, 0] rfl ?_
        refine xi_iload C dX5_bestOrder_20 4 rfl ?_
        refine xi_if_lt (tgt := 36) C dX5_bestOrder_22 (by decide) (fun c6 => ?_) (fun c6 => ?_)
        · have h := it_i c6 h
          refine xi_iinc (v := x3_8 + 1) (lv2 := [(0, .ref (ad 0)), (1, .int x1_8), (2, .int x2_8), (3, .int (x3_8 + 1)), (4, .int v2)]) C dX5_bestOrder_36 3 rfl (by rfl) (by decide) [0, 1, 2, 4] [1, 2, 3, 0, 4] rfl ?_
          refine xi_goto (tgt := 8) C dX5_bestOrder_39 (by decide) ?_
          exact xb_lv (ih x1_8 x2_8 (x3_8 + 1) t3 K4 h hk) [0, 1, 2, 3] rfl
        · have h := ie_i c6 h
          refine xi_iload C dX5_bestOrder_25 4 rfl ?_
          refine xi_iload_n C dX5_bestOrder_27 rfl 1 rfl ?_
          refine xi_icmp_ge (tgt := 36) C dX5_bestOrder_28 (by decide) (fun c7 => ?_) (fun c7 => ?_)
          · have h := it_i c7 h
            refine xi_iinc (v := x3_8 + 1) (lv2 := [(0, .ref (ad 0)), (1, .int x1_8), (2, .int x2_8), (3, .int (x3_8 + 1)), (4, .int v2)]) C dX5_bestOrder_36 3 rfl (by rfl) (by decide) [0, 1, 2, 4] [1, 2, 3, 0, 4] rfl ?_
            refine xi_goto (tgt := 8) C dX5_bestOrder_39 (by decide) ?_
            exact xb_lv (ih x1_8 x2_8 (x3_8 + 1) t3 K4 h hk) [0, 1, 2, 3] rfl
          · have h := ie_i c7 h
            refine xi_iload C dX5_bestOrder_31 4 rfl ?_
            refine xi_istore_n (lv2 := [(0, .ref (ad 0)), (1, .int v2), (2, .int x2_8), (3, .int x3_8), (4, .int v2)]) C dX5_bestOrder_33 rfl (by decide) [0, 2, 3, 4] [1, 0, 2, 3, 4] rfl ?_
            refine xi_iload_n C dX5_bestOrder_34 rfl 3 rfl ?_
            refine xi_istore_n (lv2 := [(0, .ref (ad 0)), (1, .int v2), (2, .int x3_8), (3, .int x3_8), (4, .int v2)]) C dX5_bestOrder_35 rfl (by decide) [0, 1, 3, 4] [1, 2, 0, 3, 4] rfl ?_
            refine xi_iinc (v := x3_8 + 1) (lv2 := [(0, .ref (ad 0)), (1, .int v2), (2, .int x3_8), (3, .int (x3_8 + 1)), (4, .int v2)]) C dX5_bestOrder_36 3 rfl (by rfl) (by decide) [0, 1, 2, 4] [1, 2, 3, 0, 4] rfl ?_
            refine xi_goto (tgt := 8) C dX5_bestOrder_39 (by decide) ?_
            exact xb_lv (ih v2 x3_8 (x3_8 + 1) t3 K4 h hk) [0, 1, 2, 3] rfl
  unfold f_X5_bestOrder at h
  refine xi_ldc (v := 1000000) C dX5_bestOrder_0 (List.mem_of_getElem? (i := 1) rfl) ?_
  refine xi_istore_n (lv2 := [(0, .ref (ad 0)), (1, .int 1000000)]) C dX5_bestOrder_2 rfl (by decide) [0] [1, 0] rfl ?_
  refine xi_bipush (v := (-5)) C dX5_bestOrder_3 (by decide) ?_
  refine xi_istore_n (lv2 := [(0, .ref (ad 0)), (1, .int 1000000), (2, .int (-5))]) C dX5_bestOrder_5 rfl (by decide) [0, 1] [1, 2, 0] rfl ?_
  refine xi_iconst (v := 0) C dX5_bestOrder_6 (by decide) ?_
  refine xi_istore_n (lv2 := [(0, .ref (ad 0)), (1, .int 1000000), (2, .int (-5)), (3, .int 0)]) C dX5_bestOrder_7 rfl (by decide) [0, 1, 2] [1, 2, 3, 0] rfl ?_
  refine xb_lv (lp8 _ xFu 1000000 (-5) 0 t K h (fun x2z8 tz8 Kz8 h => ?_)) [0, 1, 2, 3] rfl
  refine xi_iload_n C dX5_bestOrder_42 rfl 0 rfl ?_
  have w0 := Option.some.inj h
  obtain ⟨q0, w1⟩ := Prod.mk.inj w0
  obtain ⟨q1, w2⟩ := Prod.mk.inj w1
  subst q0
  subst q1
  subst w2
  exact xi_iret C Z dX5_bestOrder_43
def f_X5_count (b : xBd) (hn : Int32) (Dp : Nat → Int32) (Sq : Nat → Int32) (se : Int32) (ln : Int32) (p1 : Int32) : Option (Int32 × (Nat → Int32) × (Nat → Int32) × Int32) :=
  if p1 = 0 then
    (f_X0_cells b.1).bind fun v1 =>
    some (v1, Dp, Sq, se)
  else
    if p1 = 1 then
      (f_X0_wires b.2.1).bind fun v3 =>
      some (v3, Dp, Sq, se)
    else
      if p1 = 2 then
        (f_X0_segmentsOfAll b.2.2.1).bind fun v5 =>
        some (v5, Dp, Sq, se)
      else
        if p1 = 3 then
          (f_X0_fullSegments b.2.2.2.2.1 b.2.2.2.2.2.1).bind fun v7 =>
          some (v7, Dp, Sq, se)
        else
          if p1 = 4 then
            (f_X0_mostHeld b.2.2.2.2.1).bind fun v9 =>
            some (v9, Dp, Sq, se)
          else
            if p1 = 5 then
              (f_X3_study Dp Sq se b.1 b.2.1).bind fun (Dp11, Sq12, se13) =>
              (f_X0_cells b.1).bind fun v15 =>
              (f_X3_cellsThatAnswer se13).bind fun v17 =>
              some (v15 - v17, Dp11, Sq12, se13)
            else
              if p1 = 6 then
                (f_X3_study Dp Sq se b.1 b.2.1).bind fun (Dp19, Sq20, se21) =>
                (f_X3_greatestDepth Dp19).bind fun v23 =>
                some (v23, Dp19, Sq20, se21)
              else
                if p1 = 7 then
                  (f_X0_setting b.2.2.2.2.2.1 b.2.2.2.2.2.2 0).bind fun v25 =>
                  some (v25, Dp, Sq, se)
                else
                  if p1 = 8 then
                    (f_X0_setting b.2.2.2.2.2.1 b.2.2.2.2.2.2 1).bind fun v27 =>
                    some (v27, Dp, Sq, se)
                  else
                    if p1 = 9 then
                      (f_X1_size hn).bind fun v29 =>
                      some (v29, Dp, Sq, se)
                    else
                      if p1 = 10 then
                        (f_X4_length ln).bind fun v31 =>
                        some (v31, Dp, Sq, se)
                      else
                        some ((-2), Dp, Sq, se)
theorem k_X5_count : xb_Y yX5_count cX5_count wsX5_count 2 (some .int) { frames := 5, cells := 0, slots := 0, locals := 113 } 1 := ⟨⟨_, rfl⟩, by decide, ⟨by decide, by decide, by decide +kernel⟩, rfl, rfl⟩
theorem fl_X5_count_10 : Cond.fieldLink RX5 10 "LookupBoard" "board" "LLookupBoard$Board;" ∈ wsX5_count := List.mem_of_getElem? (i := 1) rfl
theorem fl_X5_count_25 : Cond.fieldLink RX5 25 "LookupBoard" "history" "LLookupBoard$History;" ∈ wsX5_count := List.mem_of_getElem? (i := 3) rfl
theorem fl_X5_count_39 : Cond.fieldLink RX5 39 "LookupBoard" "logic" "LLookupBoard$Logic;" ∈ wsX5_count := List.mem_of_getElem? (i := 2) rfl
theorem fl_X5_count_46 : Cond.fieldLink RX5 46 "LookupBoard" "text" "LLookupBoard$PlanText;" ∈ wsX5_count := List.mem_of_getElem? (i := 4) rfl
theorem iw_X5_count_5 : ∀ w ∈ wsX50, w ∈ wsX5_count := fun w h => List.mem_cons_of_mem _ (List.mem_append_left _ (List.mem_append_left _ (List.mem_append_left _ (List.mem_append_left _ (List.mem_append_right _ h)))))
set_option maxHeartbeats 4000000 in
set_option maxRecDepth 100000 in
theorem m_X5_count (D : va_G) (cI cC cZ cR : ClassId) (ad : Nat → Nat) (ha : Nat → Nat → Nat) (hs : Int32) (b : xBd) (t : xBd) (s : xBd) (hn : Int32) (pm : Nat → Nat) (hb : Nat → xBd) (K : Nat → Int32) (Dp : Nat → Int32) (Bt : Nat → Int32) (Sq : Nat → Int32) (se : Int32) (Sg : Nat → Int32) (ln : Int32) (at_ : Int32) (p1 : Int32) (r : Int32) (Dp' : Nat → Int32) (Sq' : Nat → Int32) (se' : Int32) (h : f_X5_count b hn Dp Sq se ln p1 = some (r, Dp', Sq', se')) : xb_M cX5_count wsX5_count RX5 { frames := 5, cells := 0, slots := 0, locals := 113 } (some .int) 2 (xb_ty cI cC cZ cR) D [.ref (ad 0), .int p1] (wLB ad hs ++ wBd cI (ad 1) (ad 2) (ad 3) (ad 4) (ad 5) (ad 6) b.1 b.2.1 b.2.2.1 b.2.2.2.1 b.2.2.2.2.1 b.2.2.2.2.2.1 b.2.2.2.2.2.2 ++ wBd cI (ad 7) (ad 8) (ad 9) (ad 10) (ad 11) (ad 12) t.1 t.2.1 t.2.2.1 t.2.2.2.1 t.2.2.2.2.1 t.2.2.2.2.2.1 t.2.2.2.2.2.2 ++ wBd cI (ad 13) (ad 14) (ad 15) (ad 16) (ad 17) (ad 18) s.1 s.2.1 s.2.2.1 s.2.2.2.1 s.2.2.2.2.1 s.2.2.2.2.2.1 s.2.2.2.2.2.2 ++ wHi cI cR (ad 19) (ad 20) ha hn pm hb ++ wLa cI (ad 21) (ad 22) K ++ wLo cI (ad 23) (ad 24) (ad 25) (ad 26) Dp Bt Sq se ++ wTe cC (ad 27) (ad 28) Sg ln at_) (some (.int r)) (wLB ad hs ++ wBd cI (ad 1) (ad 2) (ad 3) (ad 4) (ad 5) (ad 6) b.1 b.2.1 b.2.2.1 b.2.2.2.1 b.2.2.2.2.1 b.2.2.2.2.2.1 b.2.2.2.2.2.2 ++ wBd cI (ad 7) (ad 8) (ad 9) (ad 10) (ad 11) (ad 12) t.1 t.2.1 t.2.2.1 t.2.2.2.1 t.2.2.2.2.1 t.2.2.2.2.2.1 t.2.2.2.2.2.2 ++ wBd cI (ad 13) (ad 14) (ad 15) (ad 16) (ad 17) (ad 18) s.1 s.2.1 s.2.2.1 s.2.2.2.1 s.2.2.2.2.1 s.2.2.2.2.2.1 s.2.2.2.2.2.2 ++ wHi cI cR (ad 19) (ad 20) ha hn pm hb ++ wLa cI (ad 21) (ad 22) K ++ wLo cI (ad 23) (ad 24) (ad 25) (ad 26) Dp' Bt Sq' se' ++ wTe cC (ad 27) (ad 28) Sg ln at_) := by
  intro X C Z
  show xb_G X 0 0 (wLB ad hs ++ wBd cI (ad 1) (ad 2) (ad 3) (ad 4) (ad 5) (ad 6) b.1 b.2.1 b.2.2.1 b.2.2.2.1 b.2.2.2.2.1 b.2.2.2.2.2.1 b.2.2.2.2.2.2 ++ wBd cI (ad 7) (ad 8) (ad 9) (ad 10) (ad 11) (ad 12) t.1 t.2.1 t.2.2.1 t.2.2.2.1 t.2.2.2.2.1 t.2.2.2.2.2.1 t.2.2.2.2.2.2 ++ wBd cI (ad 13) (ad 14) (ad 15) (ad 16) (ad 17) (ad 18) s.1 s.2.1 s.2.2.1 s.2.2.2.1 s.2.2.2.2.1 s.2.2.2.2.2.1 s.2.2.2.2.2.2 ++ wHi cI cR (ad 19) (ad 20) ha hn pm hb ++ wLa cI (ad 21) (ad 22) K ++ wLo cI (ad 23) (ad 24) (ad 25) (ad 26) Dp Bt Sq se ++ wTe cC (ad 27) (ad 28) Sg ln at_) [(0, .ref (ad 0)), (1, .int p1)] 0 []
  unfold f_X5_count at h
  refine xi_iload_n C dX5_count_0 rfl 1 rfl ?_
  rcases Decidable.em (p1 = 0) with w1_0 | w1_0
  · have h := it_i w1_0 h
    refine xi_tabIn (tgt := 60) C 0 w1_0 dX5_count_1 (by decide) (by decide) rfl (by decide) ?_
    refine xi_aload_n C dX5_count_60 rfl 0 rfl ?_
    refine xi_get C dX5_count_61 iw_X5_count_5 0 rfl rfl 0 (by decide) fl_X5_count_10 rfl ?_
    obtain ⟨v1, e2, h⟩ := ob_i h
    refine xi_callV (As := []) (o := some (.int v1)) (rest := []) (w2 := (wLB ad hs ++ wBd cI (ad 1) (ad 2) (ad 3) (ad 4) (ad 5) (ad 6) b.1 b.2.1 b.2.2.1 b.2.2.2.1 b.2.2.2.2.1 b.2.2.2.2.2.1 b.2.2.2.2.2.2 ++ wBd cI (ad 7) (ad 8) (ad 9) (ad 10) (ad 11) (ad 12) t.1 t.2.1 t.2.2.1 t.2.2.2.1 t.2.2.2.2.1 t.2.2.2.2.2.1 t.2.2.2.2.2.2 ++ wBd cI (ad 13) (ad 14) (ad 15) (ad 16) (ad 17) (ad 18) s.1 s.2.1 s.2.2.1 s.2.2.2.1 s.2.2.2.2.1 s.2.2.2.2.2.1 s.2.2.2.2.2.2 ++ wHi cI cR (ad 19) (ad 20) ha hn pm hb ++ wLa cI (ad 21) (ad 22) K ++ wLo cI (ad 23) (ad 24) (ad 25) (ad 26) Dp Bt Sq se ++ wTe cC (ad 27) (ad 28) Sg ln at_)) (st2 := [.int v1]) C k_X0_cells (m_X0_cells D cI cC cZ cR (ad 1) (ad 2) (ad 3) (ad 4) (ad 5) (ad 6) b.1 b.2.1 b.2.2.1 b.2.2.2.1 b.2.2.2.2.1 b.2.2.2.2.2.1 b.2.2.2.2.2.2 v1 e2) gX5_count_X0_cells dX5_count_64 ⟨Nat.le_of_ble_eq_true rfl, Nat.le_of_ble_eq_true rfl, Nat.le_of_ble_eq_true rfl⟩ 1 rfl rfl [1, 2, 3, 4, 5, 6] mxC_X5_1 rfl [0, 1, 2, 3] rfl mxF_X5_1 mxM_X5_1 rfl (Nat.le_of_ble_eq_true rfl) ⟨Nat.zero_le _, Nat.zero_le _⟩ rfl ?_
    have w0 := Option.some.inj h
    obtain ⟨q0, w1⟩ := Prod.mk.inj w0
    obtain ⟨q1, w2⟩ := Prod.mk.inj w1
    obtain ⟨q2, w3⟩ := Prod.mk.inj w2
    subst q0
    subst q1
    subst q2
    subst w3
    exact xi_iret C Z dX5_count_67
  have h := ie_i w1_0 h
  rcases Decidable.em (p1 = 1) with w1_1 | w1_1
  · have h := it_i w1_1 h
    refine xi_tabIn (tgt := 68) C 1 w1_1 dX5_count_1 (by decide) (by decide) rfl (by decide) ?_
    refine xi_aload_n C dX5_count_68 rfl 0 rfl ?_
    refine xi_get C dX5_count_69 iw_X5_count_5 0 rfl rfl 0 (by decide) fl_X5_count_10 rfl ?_
    obtain ⟨v3, e4, h⟩ := ob_i h
    refine xi_callV (As := []) (o := some (.int v3)) (rest := []) (w2 := (wLB ad hs ++ wBd cI (ad 1) (ad 2) (ad 3) (ad 4) (ad 5) (ad 6) b.1 b.2.1 b.2.2.1 b.2.2.2.1 b.2.2.2.2.1 b.2.2.2.2.2.1 b.2.2.2.2.2.2 ++ wBd cI (ad 7) (ad 8) (ad 9) (ad 10) (ad 11) (ad 12) t.1 t.2.1 t.2.2.1 t.2.2.2.1 t.2.2.2.2.1 t.2.2.2.2.2.1 t.2.2.2.2.2.2 ++ wBd cI (ad 13) (ad 14) (ad 15) (ad 16) (ad 17) (ad 18) s.1 s.2.1 s.2.2.1 s.2.2.2.1 s.2.2.2.2.1 s.2.2.2.2.2.1 s.2.2.2.2.2.2 ++ wHi cI cR (ad 19) (ad 20) ha hn pm hb ++ wLa cI (ad 21) (ad 22) K ++ wLo cI (ad 23) (ad 24) (ad 25) (ad 26) Dp Bt Sq se ++ wTe cC (ad 27) (ad 28) Sg ln at_)) (st2 := [.int v3]) C k_X0_wires (m_X0_wires D cI cC cZ cR (ad 1) (ad 2) (ad 3) (ad 4) (ad 5) (ad 6) b.1 b.2.1 b.2.2.1 b.2.2.2.1 b.2.2.2.2.1 b.2.2.2.2.2.1 b.2.2.2.2.2.2 v3 e4) gX5_count_X0_wires dX5_count_72 ⟨Nat.le_of_ble_eq_true rfl, Nat.le_of_ble_eq_true rfl, Nat.le_of_ble_eq_true rfl⟩ 1 rfl rfl [1, 2, 3, 4, 5, 6] mxC_X5_1 rfl [0, 1, 2, 3] rfl mxF_X5_1 mxM_X5_1 rfl (Nat.le_of_ble_eq_true rfl) ⟨Nat.zero_le _, Nat.zero_le _⟩ rfl ?_
    have w0 := Option.some.inj h
    obtain ⟨q0, w1⟩ := Prod.mk.inj w0
    obtain ⟨q1, w2⟩ := Prod.mk.inj w1
    obtain ⟨q2, w3⟩ := Prod.mk.inj w2
    subst q0
    subst q1
    subst q2
    subst w3
    exact xi_iret C Z dX5_count_75
  have h := ie_i w1_1 h
  rcases Decidable.em (p1 = 2) with w1_2 | w1_2
  · have h := it_i w1_2 h
    refine xi_tabIn (tgt := 76) C 2 w1_2 dX5_count_1 (by decide) (by decide) rfl (by decide) ?_
    refine xi_aload_n C dX5_count_76 rfl 0 rfl ?_
    refine xi_get C dX5_count_77 iw_X5_count_5 0 rfl rfl 0 (by decide) fl_X5_count_10 rfl ?_
    obtain ⟨v5, e6, h⟩ := ob_i h
    refine xi_callV (As := []) (o := some (.int v5)) (rest := []) (w2 := (wLB ad hs ++ wBd cI (ad 1) (ad 2) (ad 3) (ad 4) (ad 5) (ad 6) b.1 b.2.1 b.2.2.1 b.2.2.2.1 b.2.2.2.2.1 b.2.2.2.2.2.1 b.2.2.2.2.2.2 ++ wBd cI (ad 7) (ad 8) (ad 9) (ad 10) (ad 11) (ad 12) t.1 t.2.1 t.2.2.1 t.2.2.2.1 t.2.2.2.2.1 t.2.2.2.2.2.1 t.2.2.2.2.2.2 ++ wBd cI (ad 13) (ad 14) (ad 15) (ad 16) (ad 17) (ad 18) s.1 s.2.1 s.2.2.1 s.2.2.2.1 s.2.2.2.2.1 s.2.2.2.2.2.1 s.2.2.2.2.2.2 ++ wHi cI cR (ad 19) (ad 20) ha hn pm hb ++ wLa cI (ad 21) (ad 22) K ++ wLo cI (ad 23) (ad 24) (ad 25) (ad 26) Dp Bt Sq se ++ wTe cC (ad 27) (ad 28) Sg ln at_)) (st2 := [.int v5]) C k_X0_segmentsOfAll (m_X0_segmentsOfAll D cI cC cZ cR (ad 1) (ad 2) (ad 3) (ad 4) (ad 5) (ad 6) b.1 b.2.1 b.2.2.1 b.2.2.2.1 b.2.2.2.2.1 b.2.2.2.2.2.1 b.2.2.2.2.2.2 v5 e6) gX5_count_X0_segmentsOfAll dX5_count_80 ⟨Nat.le_of_ble_eq_true rfl, Nat.le_of_ble_eq_true rfl, Nat.le_of_ble_eq_true rfl⟩ 1 rfl rfl [1, 2, 3, 4, 5, 6] mxC_X5_1 rfl [0, 1, 2, 3] rfl mxF_X5_1 mxM_X5_1 rfl (Nat.le_of_ble_eq_true rfl) ⟨Nat.zero_le _, Nat.zero_le _⟩ rfl ?_
    have w0 := Option.some.inj h
    obtain ⟨q0, w1⟩ := Prod.mk.inj w0
    obtain ⟨q1, w2⟩ := Prod.mk.inj w1
    obtain ⟨q2, w3⟩ := Prod.mk.inj w2
    subst q0
    subst q1
    subst q2
    subst w3
    exact xi_iret C Z dX5_count_83
  have h := ie_i w1_2 h
  rcases Decidable.em (p1 = 3) with w1_3 | w1_3
  · have h := it_i w1_3 h
    refine xi_tabIn (tgt := 84) C 3 w1_3 dX5_count_1 (by decide) (by decide) rfl (by decide) ?_
    refine xi_aload_n C dX5_count_84 rfl 0 rfl ?_
    refine xi_get C dX5_count_85 iw_X5_count_5 0 rfl rfl 0 (by decide) fl_X5_count_10 rfl ?_
    obtain ⟨v7, e8, h⟩ := ob_i h
    refine xi_callV (As := []) (o := some (.int v7)) (rest := []) (w2 := (wLB ad hs ++ wBd cI (ad 1) (ad 2) (ad 3) (ad 4) (ad 5) (ad 6) b.1 b.2.1 b.2.2.1 b.2.2.2.1 b.2.2.2.2.1 b.2.2.2.2.2.1 b.2.2.2.2.2.2 ++ wBd cI (ad 7) (ad 8) (ad 9) (ad 10) (ad 11) (ad 12) t.1 t.2.1 t.2.2.1 t.2.2.2.1 t.2.2.2.2.1 t.2.2.2.2.2.1 t.2.2.2.2.2.2 ++ wBd cI (ad 13) (ad 14) (ad 15) (ad 16) (ad 17) (ad 18) s.1 s.2.1 s.2.2.1 s.2.2.2.1 s.2.2.2.2.1 s.2.2.2.2.2.1 s.2.2.2.2.2.2 ++ wHi cI cR (ad 19) (ad 20) ha hn pm hb ++ wLa cI (ad 21) (ad 22) K ++ wLo cI (ad 23) (ad 24) (ad 25) (ad 26) Dp Bt Sq se ++ wTe cC (ad 27) (ad 28) Sg ln at_)) (st2 := [.int v7]) C k_X0_fullSegments (m_X0_fullSegments D cI cC cZ cR (ad 1) (ad 2) (ad 3) (ad 4) (ad 5) (ad 6) b.1 b.2.1 b.2.2.1 b.2.2.2.1 b.2.2.2.2.1 b.2.2.2.2.2.1 b.2.2.2.2.2.2 v7 e8) gX5_count_X0_fullSegments dX5_count_88 ⟨Nat.le_of_ble_eq_true rfl, Nat.le_of_ble_eq_true rfl, Nat.le_of_ble_eq_true rfl⟩ 1 rfl rfl [1, 2, 3, 4, 5, 6] mxC_X5_1 rfl [0, 1, 2, 3] rfl mxF_X5_1 mxM_X5_1 rfl (Nat.le_of_ble_eq_true rfl) ⟨Nat.zero_le _, Nat.zero_le _⟩ rfl ?_
    have w0 := Option.some.inj h
    obtain ⟨q0, w1⟩ := Prod.mk.inj w0
    obtain ⟨q1, w2⟩ := Prod.mk.inj w1
    obtain ⟨q2, w3⟩ := Prod.mk.inj w2
    subst q0
    subst q1
    subst q2
    subst w3
    exact xi_iret C Z dX5_count_91
  have h := ie_i w1_3 h
  rcases Decidable.em (p1 = 4) with w1_4 | w1_4
  · have h := it_i w1_4 h
    refine xi_tabIn (tgt := 92) C 4 w1_4 dX5_count_1 (by decide) (by decide) rfl (by decide) ?_
    refine xi_aload_n C dX5_count_92 rfl 0 rfl ?_
    refine xi_get C dX5_count_93 iw_X5_count_5 0 rfl rfl 0 (by decide) fl_X5_count_10 rfl ?_
    obtain ⟨v9, e10, h⟩ := ob_i h
    refine xi_callV (As := []) (o := some (.int v9)) (rest := []) (w2 := (wLB ad hs ++ wBd cI (ad 1) (ad 2) (ad 3) (ad 4) (ad 5) (ad 6) b.1 b.2.1 b.2.2.1 b.2.2.2.1 b.2.2.2.2.1 b.2.2.2.2.2.1 b.2.2.2.2.2.2 ++ wBd cI (ad 7) (ad 8) (ad 9) (ad 10) (ad 11) (ad 12) t.1 t.2.1 t.2.2.1 t.2.2.2.1 t.2.2.2.2.1 t.2.2.2.2.2.1 t.2.2.2.2.2.2 ++ wBd cI (ad 13) (ad 14) (ad 15) (ad 16) (ad 17) (ad 18) s.1 s.2.1 s.2.2.1 s.2.2.2.1 s.2.2.2.2.1 s.2.2.2.2.2.1 s.2.2.2.2.2.2 ++ wHi cI cR (ad 19) (ad 20) ha hn pm hb ++ wLa cI (ad 21) (ad 22) K ++ wLo cI (ad 23) (ad 24) (ad 25) (ad 26) Dp Bt Sq se ++ wTe cC (ad 27) (ad 28) Sg ln at_)) (st2 := [.int v9]) C k_X0_mostHeld (m_X0_mostHeld D cI cC cZ cR (ad 1) (ad 2) (ad 3) (ad 4) (ad 5) (ad 6) b.1 b.2.1 b.2.2.1 b.2.2.2.1 b.2.2.2.2.1 b.2.2.2.2.2.1 b.2.2.2.2.2.2 v9 e10) gX5_count_X0_mostHeld dX5_count_96 ⟨Nat.le_of_ble_eq_true rfl, Nat.le_of_ble_eq_true rfl, Nat.le_of_ble_eq_true rfl⟩ 1 rfl rfl [1, 2, 3, 4, 5, 6] mxC_X5_1 rfl [0, 1, 2, 3] rfl mxF_X5_1 mxM_X5_1 rfl (Nat.le_of_ble_eq_true rfl) ⟨Nat.zero_le _, Nat.zero_le _⟩ rfl ?_
    have w0 := Option.some.inj h
    obtain ⟨q0, w1⟩ := Prod.mk.inj w0
    obtain ⟨q1, w2⟩ := Prod.mk.inj w1
    obtain ⟨q2, w3⟩ := Prod.mk.inj w2
    subst q0
    subst q1
    subst q2
    subst w3
    exact xi_iret C Z dX5_count_99
  have h := ie_i w1_4 h
  rcases Decidable.em (p1 = 5) with w1_5 | w1_5
  · have h := it_i w1_5 h
    refine xi_tabIn (tgt := 100) C 5 w1_5 dX5_count_1 (by decide) (by decide) rfl (by decide) ?_
    refine xi_aload_n C dX5_count_100 rfl 0 rfl ?_
    refine xi_get C dX5_count_101 iw_X5_count_5 0 rfl rfl 5 (by decide) fl_X5_count_39 rfl ?_
    refine xi_aload_n C dX5_count_104 rfl 0 rfl ?_
    refine xi_get C dX5_count_105 iw_X5_count_5 0 rfl rfl 0 (by decide) fl_X5_count_10 rfl ?_
    obtain ⟨⟨Dp11, Sq12, se13⟩, e14, h⟩ := ob_i h
    refine xi_callV (As := [.ref (ad 1)]) (o := none) (rest := []) (w2 := (wLB ad hs ++ wBd cI (ad 1) (ad 2) (ad 3) (ad 4) (ad 5) (ad 6) b.1 b.2.1 b.2.2.1 b.2.2.2.1 b.2.2.2.2.1 b.2.2.2.2.2.1 b.2.2.2.2.2.2 ++ wBd cI (ad 7) (ad 8) (ad 9) (ad 10) (ad 11) (ad 12) t.1 t.2.1 t.2.2.1 t.2.2.2.1 t.2.2.2.2.1 t.2.2.2.2.2.1 t.2.2.2.2.2.2 ++ wBd cI (ad 13) (ad 14) (ad 15) (ad 16) (ad 17) (ad 18) s.1 s.2.1 s.2.2.1 s.2.2.2.1 s.2.2.2.2.1 s.2.2.2.2.2.1 s.2.2.2.2.2.2 ++ wHi cI cR (ad 19) (ad 20) ha hn pm hb ++ wLa cI (ad 21) (ad 22) K ++ wLo cI (ad 23) (ad 24) (ad 25) (ad 26) Dp11 Bt Sq12 se13 ++ wTe cC (ad 27) (ad 28) Sg ln at_)) (st2 := []) C k_X3_study (m_X3_study D cI cC cZ cR (ad 23) (ad 24) (ad 25) (ad 26) (ad 1) (ad 2) (ad 3) (ad 4) (ad 5) (ad 6) Dp Bt Sq se b.1 b.2.1 b.2.2.1 b.2.2.2.1 b.2.2.2.2.1 b.2.2.2.2.2.1 b.2.2.2.2.2.2 Dp11 Sq12 se13 e14) gX5_count_X3_study dX5_count_108 ⟨Nat.le_of_ble_eq_true rfl, Nat.le_of_ble_eq_true rfl, Nat.le_of_ble_eq_true rfl⟩ 47 rfl rfl [47, 48, 49, 50, 1, 2, 3, 4, 5, 6] mxC_X5_6_1 rfl [0, 1, 2, 3] rfl mxF_X5_6_1 mxM_X5_6_1 rfl (Nat.le_of_ble_eq_true rfl) ⟨Nat.zero_le _, Nat.zero_le _⟩ rfl ?_
    refine xi_aload_n C dX5_count_111 rfl 0 rfl ?_
    refine xi_get C dX5_count_112 iw_X5_count_5 0 rfl rfl 0 (by decide) fl_X5_count_10 rfl ?_
    obtain ⟨v15, e16, h⟩ := ob_i h
    refine xi_callV (As := []) (o := some (.int v15)) (rest := []) (w2 := (wLB ad hs ++ wBd cI (ad 1) (ad 2) (ad 3) (ad 4) (ad 5) (ad 6) b.1 b.2.1 b.2.2.1 b.2.2.2.1 b.2.2.2.2.1 b.2.2.2.2.2.1 b.2.2.2.2.2.2 ++ wBd cI (ad 7) (ad 8) (ad 9) (ad 10) (ad 11) (ad 12) t.1 t.2.1 t.2.2.1 t.2.2.2.1 t.2.2.2.2.1 t.2.2.2.2.2.1 t.2.2.2.2.2.2 ++ wBd cI (ad 13) (ad 14) (ad 15) (ad 16) (ad 17) (ad 18) s.1 s.2.1 s.2.2.1 s.2.2.2.1 s.2.2.2.2.1 s.2.2.2.2.2.1 s.2.2.2.2.2.2 ++ wHi cI cR (ad 19) (ad 20) ha hn pm hb ++ wLa cI (ad 21) (ad 22) K ++ wLo cI (ad 23) (ad 24) (ad 25) (ad 26) Dp11 Bt Sq12 se13 ++ wTe cC (ad 27) (ad 28) Sg ln at_)) (st2 := [.int v15]) C k_X0_cells (m_X0_cells D cI cC cZ cR (ad 1) (ad 2) (ad 3) (ad 4) (ad 5) (ad 6) b.1 b.2.1 b.2.2.1 b.2.2.2.1 b.2.2.2.2.1 b.2.2.2.2.2.1 b.2.2.2.2.2.2 v15 e16) gX5_count_X0_cells dX5_count_115 ⟨Nat.le_of_ble_eq_true rfl, Nat.le_of_ble_eq_true rfl, Nat.le_of_ble_eq_true rfl⟩ 1 rfl rfl [1, 2, 3, 4, 5, 6] mxC_X5_1 rfl [0, 1, 2, 3] rfl mxF_X5_1 mxM_X5_1 rfl (Nat.le_of_ble_eq_true rfl) ⟨Nat.zero_le _, Nat.zero_le _⟩ rfl ?_
    refine xi_aload_n C dX5_count_118 rfl 0 rfl ?_
    refine xi_get C dX5_count_119 iw_X5_count_5 0 rfl rfl 5 (by decide) fl_X5_count_39 rfl ?_
    obtain ⟨v17, e18, h⟩ := ob_i h
    refine xi_callV (As := []) (o := some (.int v17)) (rest := [.int v15]) (w2 := (wLB ad hs ++ wBd cI (ad 1) (ad 2) (ad 3) (ad 4) (ad 5) (ad 6) b.1 b.2.1 b.2.2.1 b.2.2.2.1 b.2.2.2.2.1 b.2.2.2.2.2.1 b.2.2.2.2.2.2 ++ wBd cI (ad 7) (ad 8) (ad 9) (ad 10) (ad 11) (ad 12) t.1 t.2.1 t.2.2.1 t.2.2.2.1 t.2.2.2.2.1 t.2.2.2.2.2.1 t.2.2.2.2.2.2 ++ wBd cI (ad 13) (ad 14) (ad 15) (ad 16) (ad 17) (ad 18) s.1 s.2.1 s.2.2.1 s.2.2.2.1 s.2.2.2.2.1 s.2.2.2.2.2.1 s.2.2.2.2.2.2 ++ wHi cI cR (ad 19) (ad 20) ha hn pm hb ++ wLa cI (ad 21) (ad 22) K ++ wLo cI (ad 23) (ad 24) (ad 25) (ad 26) Dp11 Bt Sq12 se13 ++ wTe cC (ad 27) (ad 28) Sg ln at_)) (st2 := [.int v17, .int v15]) C k_X3_cellsThatAnswer (m_X3_cellsThatAnswer D cI cC cZ cR (ad 23) (ad 24) (ad 25) (ad 26) Dp11 Bt Sq12 se13 v17 e18) gX5_count_X3_cellsThatAnswer dX5_count_122 ⟨Nat.le_of_ble_eq_true rfl, Nat.le_of_ble_eq_true rfl, Nat.le_of_ble_eq_true rfl⟩ 47 rfl rfl [47, 48, 49, 50] mxC_X5_6 rfl [0, 1, 2, 3] rfl mxF_X5_6 mxM_X5_6 rfl (Nat.le_of_ble_eq_true rfl) ⟨Nat.zero_le _, Nat.zero_le _⟩ rfl ?_
    refine xi_isub C dX5_count_125 ?_
    have w0 := Option.some.inj h
    obtain ⟨q0, w1⟩ := Prod.mk.inj w0
    obtain ⟨q1, w2⟩ := Prod.mk.inj w1
    obtain ⟨q2, w3⟩ := Prod.mk.inj w2
    subst q0
    subst q1
    subst q2
    subst w3
    exact xi_iret C Z dX5_count_126
  have h := ie_i w1_5 h
  rcases Decidable.em (p1 = 6) with w1_6 | w1_6
  · have h := it_i w1_6 h
    refine xi_tabIn (tgt := 127) C 6 w1_6 dX5_count_1 (by decide) (by decide) rfl (by decide) ?_
    refine xi_aload_n C dX5_count_127 rfl 0 rfl ?_
    refine xi_get C dX5_count_128 iw_X5_count_5 0 rfl rfl 5 (by decide) fl_X5_count_39 rfl ?_
    refine xi_aload_n C dX5_count_131 rfl 0 rfl ?_
    refine xi_get C dX5_count_132 iw_X5_count_5 0 rfl rfl 0 (by decide) fl_X5_count_10 rfl ?_
    obtain ⟨⟨Dp19, Sq20, se21⟩, e22, h⟩ := ob_i h
    refine xi_callV (As := [.ref (ad 1)]) (o := none) (rest := []) (w2 := (wLB ad hs ++ wBd cI (ad 1) (ad 2) (ad 3) (ad 4) (ad 5) (ad 6) b.1 b.2.1 b.2.2.1 b.2.2.2.1 b.2.2.2.2.1 b.2.2.2.2.2.1 b.2.2.2.2.2.2 ++ wBd cI (ad 7) (ad 8) (ad 9) (ad 10) (ad 11) (ad 12) t.1 t.2.1 t.2.2.1 t.2.2.2.1 t.2.2.2.2.1 t.2.2.2.2.2.1 t.2.2.2.2.2.2 ++ wBd cI (ad 13) (ad 14) (ad 15) (ad 16) (ad 17) (ad 18) s.1 s.2.1 s.2.2.1 s.2.2.2.1 s.2.2.2.2.1 s.2.2.2.2.2.1 s.2.2.2.2.2.2 ++ wHi cI cR (ad 19) (ad 20) ha hn pm hb ++ wLa cI (ad 21) (ad 22) K ++ wLo cI (ad 23) (ad 24) (ad 25) (ad 26) Dp19 Bt Sq20 se21 ++ wTe cC (ad 27) (ad 28) Sg ln at_)) (st2 := []) C k_X3_study (m_X3_study D cI cC cZ cR (ad 23) (ad 24) (ad 25) (ad 26) (ad 1) (ad 2) (ad 3) (ad 4) (ad 5) (ad 6) Dp Bt Sq se b.1 b.2.1 b.2.2.1 b.2.2.2.1 b.2.2.2.2.1 b.2.2.2.2.2.1 b.2.2.2.2.2.2 Dp19 Sq20 se21 e22) gX5_count_X3_study dX5_count_135 ⟨Nat.le_of_ble_eq_true rfl, Nat.le_of_ble_eq_true rfl, Nat.le_of_ble_eq_true rfl⟩ 47 rfl rfl [47, 48, 49, 50, 1, 2, 3, 4, 5, 6] mxC_X5_6_1 rfl [0, 1, 2, 3] rfl mxF_X5_6_1 mxM_X5_6_1 rfl (Nat.le_of_ble_eq_true rfl) ⟨Nat.zero_le _, Nat.zero_le _⟩ rfl ?_
    refine xi_aload_n C dX5_count_138 rfl 0 rfl ?_
    refine xi_get C dX5_count_139 iw_X5_count_5 0 rfl rfl 5 (by decide) fl_X5_count_39 rfl ?_
    obtain ⟨v23, e24, h⟩ := ob_i h
    refine xi_callV (As := []) (o := some (.int v23)) (rest := []) (w2 := (wLB ad hs ++ wBd cI (ad 1) (ad 2) (ad 3) (ad 4) (ad 5) (ad 6) b.1 b.2.1 b.2.2.1 b.2.2.2.1 b.2.2.2.2.1 b.2.2.2.2.2.1 b.2.2.2.2.2.2 ++ wBd cI (ad 7) (ad 8) (ad 9) (ad 10) (ad 11) (ad 12) t.1 t.2.1 t.2.2.1 t.2.2.2.1 t.2.2.2.2.1 t.2.2.2.2.2.1 t.2.2.2.2.2.2 ++ wBd cI (ad 13) (ad 14) (ad 15) (ad 16) (ad 17) (ad 18) s.1 s.2.1 s.2.2.1 s.2.2.2.1 s.2.2.2.2.1 s.2.2.2.2.2.1 s.2.2.2.2.2.2 ++ wHi cI cR (ad 19) (ad 20) ha hn pm hb ++ wLa cI (ad 21) (ad 22) K ++ wLo cI (ad 23) (ad 24) (ad 25) (ad 26) Dp19 Bt Sq20 se21 ++ wTe cC (ad 27) (ad 28) Sg ln at_)) (st2 := [.int v23]) C k_X3_greatestDepth (m_X3_greatestDepth D cI cC cZ cR (ad 23) (ad 24) (ad 25) (ad 26) Dp19 Bt Sq20 se21 v23 e24) gX5_count_X3_greatestDepth dX5_count_142 ⟨Nat.le_of_ble_eq_true rfl, Nat.le_of_ble_eq_true rfl, Nat.le_of_ble_eq_true rfl⟩ 47 rfl rfl [47, 48, 49, 50] mxC_X5_6 rfl [0, 1, 2, 3] rfl mxF_X5_6 mxM_X5_6 rfl (Nat.le_of_ble_eq_true rfl) ⟨Nat.zero_le _, Nat.zero_le _⟩ rfl ?_
    have w0 := Option.some.inj h
    obtain ⟨q0, w1⟩ := Prod.mk.inj w0
    obtain ⟨q1, w2⟩ := Prod.mk.inj w1
    obtain ⟨q2, w3⟩ := Prod.mk.inj w2
    subst q0
    subst q1
    subst q2
    subst w3
    exact xi_iret C Z dX5_count_145
  have h := ie_i w1_6 h
  rcases Decidable.em (p1 = 7) with w1_7 | w1_7
  · have h := it_i w1_7 h
    refine xi_tabIn (tgt := 146) C 7 w1_7 dX5_count_1 (by decide) (by decide) rfl (by decide) ?_
    refine xi_aload_n C dX5_count_146 rfl 0 rfl ?_
    refine xi_get C dX5_count_147 iw_X5_count_5 0 rfl rfl 0 (by decide) fl_X5_count_10 rfl ?_
    refine xi_iconst (v := 0) C dX5_count_150 (by decide) ?_
    obtain ⟨v25, e26, h⟩ := ob_i h
    refine xi_callV (As := [.int 0]) (o := some (.int v25)) (rest := []) (w2 := (wLB ad hs ++ wBd cI (ad 1) (ad 2) (ad 3) (ad 4) (ad 5) (ad 6) b.1 b.2.1 b.2.2.1 b.2.2.2.1 b.2.2.2.2.1 b.2.2.2.2.2.1 b.2.2.2.2.2.2 ++ wBd cI (ad 7) (ad 8) (ad 9) (ad 10) (ad 11) (ad 12) t.1 t.2.1 t.2.2.1 t.2.2.2.1 t.2.2.2.2.1 t.2.2.2.2.2.1 t.2.2.2.2.2.2 ++ wBd cI (ad 13) (ad 14) (ad 15) (ad 16) (ad 17) (ad 18) s.1 s.2.1 s.2.2.1 s.2.2.2.1 s.2.2.2.2.1 s.2.2.2.2.2.1 s.2.2.2.2.2.2 ++ wHi cI cR (ad 19) (ad 20) ha hn pm hb ++ wLa cI (ad 21) (ad 22) K ++ wLo cI (ad 23) (ad 24) (ad 25) (ad 26) Dp Bt Sq se ++ wTe cC (ad 27) (ad 28) Sg ln at_)) (st2 := [.int v25]) C k_X0_setting (m_X0_setting D cI cC cZ cR (ad 1) (ad 2) (ad 3) (ad 4) (ad 5) (ad 6) b.1 b.2.1 b.2.2.1 b.2.2.2.1 b.2.2.2.2.1 b.2.2.2.2.2.1 b.2.2.2.2.2.2 0 v25 e26) gX5_count_X0_setting dX5_count_151 ⟨Nat.le_of_ble_eq_true rfl, Nat.le_of_ble_eq_true rfl, Nat.le_of_ble_eq_true rfl⟩ 1 rfl rfl [1, 2, 3, 4, 5, 6] mxC_X5_1 rfl [0, 1, 2, 3] rfl mxF_X5_1 mxM_X5_1 rfl (Nat.le_of_ble_eq_true rfl) ⟨Nat.zero_le _, Nat.zero_le _⟩ rfl ?_
    have w0 := Option.some.inj h
    obtain ⟨q0, w1⟩ := Prod.mk.inj w0
    obtain ⟨q1, w2⟩ := Prod.mk.inj w1
    obtain ⟨q2, w3⟩ := Prod.mk.inj w2
    subst q0
    subst q1
    subst q2
    subst w3
    exact xi_iret C Z dX5_count_154
  have h := ie_i w1_7 h
  rcases Decidable.em (p1 = 8) with w1_8 | w1_8
  · have h := it_i w1_8 h
    refine xi_tabIn (tgt := 155) C 8 w1_8 dX5_count_1 (by decide) (by decide) rfl (by decide) ?_
    refine xi_aload_n C dX5_count_155 rfl 0 rfl ?_
    refine xi_get C dX5_count_156 iw_X5_count_5 0 rfl rfl 0 (by decide) fl_X5_count_10 rfl ?_
    refine xi_iconst (v := 1) C dX5_count_159 (by decide) ?_
    obtain ⟨v27, e28, h⟩ := ob_i h
    refine xi_callV (As := [.int 1]) (o := some (.int v27)) (rest := []) (w2 := (wLB ad hs ++ wBd cI (ad 1) (ad 2) (ad 3) (ad 4) (ad 5) (ad 6) b.1 b.2.1 b.2.2.1 b.2.2.2.1 b.2.2.2.2.1 b.2.2.2.2.2.1 b.2.2.2.2.2.2 ++ wBd cI (ad 7) (ad 8) (ad 9) (ad 10) (ad 11) (ad 12) t.1 t.2.1 t.2.2.1 t.2.2.2.1 t.2.2.2.2.1 t.2.2.2.2.2.1 t.2.2.2.2.2.2 ++ wBd cI (ad 13) (ad 14) (ad 15) (ad 16) (ad 17) (ad 18) s.1 s.2.1 s.2.2.1 s.2.2.2.1 s.2.2.2.2.1 s.2.2.2.2.2.1 s.2.2.2.2.2.2 ++ wHi cI cR (ad 19) (ad 20) ha hn pm hb ++ wLa cI (ad 21) (ad 22) K ++ wLo cI (ad 23) (ad 24) (ad 25) (ad 26) Dp Bt Sq se ++ wTe cC (ad 27) (ad 28) Sg ln at_)) (st2 := [.int v27]) C k_X0_setting (m_X0_setting D cI cC cZ cR (ad 1) (ad 2) (ad 3) (ad 4) (ad 5) (ad 6) b.1 b.2.1 b.2.2.1 b.2.2.2.1 b.2.2.2.2.1 b.2.2.2.2.2.1 b.2.2.2.2.2.2 1 v27 e28) gX5_count_X0_setting dX5_count_160 ⟨Nat.le_of_ble_eq_true rfl, Nat.le_of_ble_eq_true rfl, Nat.le_of_ble_eq_true rfl⟩ 1 rfl rfl [1, 2, 3, 4, 5, 6] mxC_X5_1 rfl [0, 1, 2, 3] rfl mxF_X5_1 mxM_X5_1 rfl (Nat.le_of_ble_eq_true rfl) ⟨Nat.zero_le _, Nat.zero_le _⟩ rfl ?_
    have w0 := Option.some.inj h
    obtain ⟨q0, w1⟩ := Prod.mk.inj w0
    obtain ⟨q1, w2⟩ := Prod.mk.inj w1
    obtain ⟨q2, w3⟩ := Prod.mk.inj w2
    subst q0
    subst q1
    subst q2
    subst w3
    exact xi_iret C Z dX5_count_163
  have h := ie_i w1_8 h
  rcases Decidable.em (p1 = 9) with w1_9 | w1_9
  · have h := it_i w1_9 h
    refine xi_tabIn (tgt := 164) C 9 w1_9 dX5_count_1 (by decide) (by decide) rfl (by decide) ?_
    refine xi_aload_n C dX5_count_164 rfl 0 rfl ?_
    refine xi_get C dX5_count_165 iw_X5_count_5 0 rfl rfl 3 (by decide) fl_X5_count_25 rfl ?_
    obtain ⟨v29, e30, h⟩ := ob_i h
    refine xi_callV (As := []) (o := some (.int v29)) (rest := []) (w2 := (wLB ad hs ++ wBd cI (ad 1) (ad 2) (ad 3) (ad 4) (ad 5) (ad 6) b.1 b.2.1 b.2.2.1 b.2.2.2.1 b.2.2.2.2.1 b.2.2.2.2.2.1 b.2.2.2.2.2.2 ++ wBd cI (ad 7) (ad 8) (ad 9) (ad 10) (ad 11) (ad 12) t.1 t.2.1 t.2.2.1 t.2.2.2.1 t.2.2.2.2.1 t.2.2.2.2.2.1 t.2.2.2.2.2.2 ++ wBd cI (ad 13) (ad 14) (ad 15) (ad 16) (ad 17) (ad 18) s.1 s.2.1 s.2.2.1 s.2.2.2.1 s.2.2.2.2.1 s.2.2.2.2.2.1 s.2.2.2.2.2.2 ++ wHi cI cR (ad 19) (ad 20) ha hn pm hb ++ wLa cI (ad 21) (ad 22) K ++ wLo cI (ad 23) (ad 24) (ad 25) (ad 26) Dp Bt Sq se ++ wTe cC (ad 27) (ad 28) Sg ln at_)) (st2 := [.int v29]) C k_X1_size (m_X1_size D cI cC cZ cR (ad 19) (ad 20) ha hn pm hb v29 e30) gX5_count_X1_size dX5_count_168 ⟨Nat.le_of_ble_eq_true rfl, Nat.le_of_ble_eq_true rfl, Nat.le_of_ble_eq_true rfl⟩ 19 rfl rfl [19, 20, 21, 22, 23, 24, 25, 26, 27, 28, 29, 30, 31, 32, 33, 34, 35, 36, 37, 38, 39, 40, 41, 42, 43, 44] mxC_X5_4 rfl [0, 1, 2, 3] rfl mxF_X5_4 mxM_X5_4 rfl (Nat.le_of_ble_eq_true rfl) ⟨Nat.zero_le _, Nat.zero_le _⟩ rfl ?_
    have w0 := Option.some.inj h
    obtain ⟨q0, w1⟩ := Prod.mk.inj w0
    obtain ⟨q1, w2⟩ := Prod.mk.inj w1
    obtain ⟨q2, w3⟩ := Prod.mk.inj w2
    subst q0
    subst q1
    subst q2
    subst w3
    exact xi_iret C Z dX5_count_171
  have h := ie_i w1_9 h
  rcases Decidable.em (p1 = 10) with w1_10 | w1_10
  · have h := it_i w1_10 h
    refine xi_tabIn (tgt := 172) C 10 w1_10 dX5_count_1 (by decide) (by decide) rfl (by decide) ?_
    refine xi_aload_n C dX5_count_172 rfl 0 rfl ?_
    refine xi_get C dX5_count_173 iw_X5_count_5 0 rfl rfl 6 (by decide) fl_X5_count_46 rfl ?_
    obtain ⟨v31, e32, h⟩ := ob_i h
    refine xi_callV (As := []) (o := some (.int v31)) (rest := []) (w2 := (wLB ad hs ++ wBd cI (ad 1) (ad 2) (ad 3) (ad 4) (ad 5) (ad 6) b.1 b.2.1 b.2.2.1 b.2.2.2.1 b.2.2.2.2.1 b.2.2.2.2.2.1 b.2.2.2.2.2.2 ++ wBd cI (ad 7) (ad 8) (ad 9) (ad 10) (ad 11) (ad 12) t.1 t.2.1 t.2.2.1 t.2.2.2.1 t.2.2.2.2.1 t.2.2.2.2.2.1 t.2.2.2.2.2.2 ++ wBd cI (ad 13) (ad 14) (ad 15) (ad 16) (ad 17) (ad 18) s.1 s.2.1 s.2.2.1 s.2.2.2.1 s.2.2.2.2.1 s.2.2.2.2.2.1 s.2.2.2.2.2.2 ++ wHi cI cR (ad 19) (ad 20) ha hn pm hb ++ wLa cI (ad 21) (ad 22) K ++ wLo cI (ad 23) (ad 24) (ad 25) (ad 26) Dp Bt Sq se ++ wTe cC (ad 27) (ad 28) Sg ln at_)) (st2 := [.int v31]) C k_X4_length (m_X4_length D cI cC cZ cR (ad 27) (ad 28) Sg ln at_ v31 e32) gX5_count_X4_length dX5_count_176 ⟨Nat.le_of_ble_eq_true rfl, Nat.le_of_ble_eq_true rfl, Nat.le_of_ble_eq_true rfl⟩ 51 rfl rfl [51, 52] mxC_X5_7 rfl [0, 1, 2, 3] rfl mxF_X5_7 mxM_X5_7 rfl (Nat.le_of_ble_eq_true rfl) ⟨Nat.zero_le _, Nat.zero_le _⟩ rfl ?_
    have w0 := Option.some.inj h
    obtain ⟨q0, w1⟩ := Prod.mk.inj w0
    obtain ⟨q1, w2⟩ := Prod.mk.inj w1
    obtain ⟨q2, w3⟩ := Prod.mk.inj w2
    subst q0
    subst q1
    subst q2
    subst w3
    exact xi_iret C Z dX5_count_179
  have h := ie_i w1_10 h
  refine xi_tabOut (tgt := 180) C dX5_count_1 (xb_tab (N := 11) (by decide) (fun j hj => ?_)) (by decide) ?_
  · rcases (show j = 0 ∨ j = 1 ∨ j = 2 ∨ j = 3 ∨ j = 4 ∨ j = 5 ∨ j = 6 ∨ j = 7 ∨ j = 8 ∨ j = 9 ∨ j = 10 by omega) with rfl | rfl | rfl | rfl | rfl | rfl | rfl | rfl | rfl | rfl | rfl
    · exact w1_0
    · exact w1_1
    · exact w1_2
    · exact w1_3
    · exact w1_4
    · exact w1_5
    · exact w1_6
    · exact w1_7
    · exact w1_8
    · exact w1_9
    · exact w1_10
  refine xi_bipush (v := (-2)) C dX5_count_180 (by decide) ?_
  have w0 := Option.some.inj h
  obtain ⟨q0, w1⟩ := Prod.mk.inj w0
  obtain ⟨q1, w2⟩ := Prod.mk.inj w1
  obtain ⟨q2, w3⟩ := Prod.mk.inj w2
  subst q0
  subst q1
  subst q2
  subst w3
  exact xi_iret C Z dX5_count_182
