/-! whole() -/
theorem so_whole : ∀ s, f_X0_sourceOf (dM gm_whole_a).1.2.1 (nI 23 * 3 + nI 0) = some (nI s) → f_X0_isSource (dM gm_whole_a).1.1 (nI s) = some (nI 1) := by
  intro s h
  have e : f_X0_sourceOf (dM gm_whole_a).1.2.1 (nI 23 * 3 + nI 0) = some (nI 22) := s_X0_sourceOf (S := gm_whole_a.1.2.1) (p1 := ga (gm 23 3) 0) (by decide +kernel) rfl (s_add (s_mul rfl rfl) rfl)
  rw [e] at h
  rw [← Option.some.inj h]
  exact s_X0_isSource (T := gm_whole_a.1.1) (p1 := 22) (by decide +kernel) rfl rfl
set_option maxHeartbeats 8000000 in
set_option maxRecDepth 100000 in
theorem m_whole (D : va_G) (cI cC cZ cR : ClassId) : xb_MP cL_whole wsB_whole RL rm_whole (some .boolean) 3 (xb_ty cI cC cZ cR) D (va_AO RX0) [] [] oN 53 13855 := by
  intro X C0 E0 Z hfr
  have C : xb_LW X cL_whole wsB_whole rm_whole (some .boolean) 3 (xb_ty cI cC cZ cR) D cI cC cZ cR := ⟨C0, su_whole, rfl, by decide, by decide⟩
  show xb_G X 0 0 [] [] 0 []
  refine on_new C E0 ⟨Nat.le_of_ble_eq_true rfl, Nat.le_of_ble_eq_true rfl⟩ dL_whole_0 dL_whole_3 dL_whole_4 (Nat.le_of_ble_eq_true rfl) (fun ad ha => ?_)
  intro Dp Bt Sq se
  have H := run_whole_a
  unfold sc_whole_a at H
  refine xj_astore_n (lv2 := [(0, .ref (ad 0))]) C.1 dL_whole_7 rfl (by decide) [] [0] rfl ?_
  refine xi_iconst (v := nI 0) C.1 dL_whole_8 (by decide +kernel) ?_
  refine xj_istore_n (lv2 := [(0, .ref (ad 0)), (1, .int (nI 0))]) C.1 dL_whole_9 rfl (by decide) [0] [1, 0] rfl ?_
  refine xi_iload_n C.1 dL_whole_10 rfl 1 rfl ?_
  refine xi_bipush (v := nI 24) C.1 dL_whole_11 (by decide +kernel) ?_
  refine xi_icmp_ge (tgt := 102) C.1 dL_whole_13 (by decide) (fun c => absurd c (by decide +kernel)) (fun _ => ?_)
  refine xi_aload_n C.1 dL_whole_16 rfl 0 rfl ?_
  refine xi_iload_n C.1 dL_whole_17 rfl 1 rfl ?_
  refine xi_iload_n C.1 dL_whole_18 rfl 1 rfl ?_
  refine xi_bipush (v := nI 23) C.1 dL_whole_19 (by decide +kernel) ?_
  refine xi_icmp_ne (tgt := 29) C.1 dL_whole_21 (by decide) (fun _ => ?_) (fun c => absurd c (by decide +kernel))
  refine xi_sipush (v := nI 170) C.1 dL_whole_29 (by decide +kernel) ?_
  obtain ⟨m1, e1, H⟩ := xRun_c H
  have J1 := gg_q (by decide) GG_0 e1
  refine ow_0 (a1 := 0) (a2 := 170) (a3 := 0) C GG_0 e1 dL_whole_32 (Nat.le_of_ble_eq_true rfl) ⟨Nat.le_of_ble_eq_true rfl, Nat.le_of_ble_eq_true rfl⟩ ?_ Dp Bt Sq se
  intro Dp Bt Sq se
  refine xi_iload_n C.1 dL_whole_35 rfl 1 rfl ?_
  refine xi_iconst (v := nI 1) C.1 dL_whole_36 (by decide +kernel) ?_
  refine xi_iadd C.1 dL_whole_37 ?_
  refine xb_top (b := nI 1) (by decide +kernel) ?_
  refine xi_icmp_eq (tgt := 43) C.1 dL_whole_38 (by decide) (fun _ => ?_) (fun c => absurd (by decide +kernel) c)
  refine xi_iload_n C.1 dL_whole_43 rfl 1 rfl ?_
  refine xi_if_ne (tgt := 58) C.1 dL_whole_44 (by decide) (fun c => absurd c (by decide +kernel)) (fun _ => ?_)
  refine xi_aload_n C.1 dL_whole_47 rfl 0 rfl ?_
  refine xi_iconst (v := nI 0) C.1 dL_whole_48 (by decide +kernel) ?_
  refine xi_iconst (v := nI 0) C.1 dL_whole_49 (by decide +kernel) ?_
  refine xi_bipush (v := nI 31) C.1 dL_whole_50 (by decide +kernel) ?_
  obtain ⟨m2, e2, H⟩ := xRun_c H
  have J2 := gg_q (by decide) J1 e2
  refine ow_3 (a1 := 0) (a2 := 0) (a3 := 31) C J1 e2 dL_whole_52 (Nat.le_of_ble_eq_true rfl) ⟨Nat.le_of_ble_eq_true rfl, Nat.le_of_ble_eq_true rfl⟩ ?_ Dp Bt Sq se
  intro Dp Bt Sq se
  refine xi_goto (tgt := 67) C.1 dL_whole_55 (by decide) ?_
  refine xj_istore_n (lv2 := [(0, .ref (ad 0)), (1, .int (nI 0)), (2, .int (nI 8))]) C.1 dL_whole_67 rfl (by decide) [0, 1] [1, 2, 0] rfl ?_
  refine xi_iload_n C.1 dL_whole_68 rfl 2 rfl ?_
  refine xi_iload_n C.1 dL_whole_69 rfl 1 rfl ?_
  refine xi_if_ne (tgt := 78) C.1 dL_whole_70 (by decide) (fun c => absurd c (by decide +kernel)) (fun _ => ?_)
  refine xi_bipush (v := nI 8) C.1 dL_whole_73 (by decide +kernel) ?_
  refine xi_goto (tgt := 91) C.1 dL_whole_75 (by decide) ?_
  refine xi_icmp_eq (tgt := 96) C.1 dL_whole_91 (by decide) (fun _ => ?_) (fun c => absurd (by decide +kernel) c)
  refine xj_iinc (v := nI 1) (lv2 := [(0, .ref (ad 0)), (1, .int (nI 1)), (2, .int (nI 8))]) C.1 dL_whole_96 1 rfl (by decide +kernel) (by decide) [0, 2] [1, 0, 2] rfl ?_
  refine xi_goto (tgt := 10) C.1 dL_whole_99 (by decide) ?_
  refine xi_iload_n C.1 dL_whole_10 rfl 1 rfl ?_
  refine xi_bipush (v := nI 24) C.1 dL_whole_11 (by decide +kernel) ?_
  refine xi_icmp_ge (tgt := 102) C.1 dL_whole_13 (by decide) (fun c => absurd c (by decide +kernel)) (fun _ => ?_)
  refine xi_aload_n C.1 dL_whole_16 rfl 0 rfl ?_
  refine xi_iload_n C.1 dL_whole_17 rfl 1 rfl ?_
  refine xi_iload_n C.1 dL_whole_18 rfl 1 rfl ?_
  refine xi_bipush (v := nI 23) C.1 dL_whole_19 (by decide +kernel) ?_
  refine xi_icmp_ne (tgt := 29) C.1 dL_whole_21 (by decide) (fun _ => ?_) (fun c => absurd c (by decide +kernel))
  refine xi_sipush (v := nI 170) C.1 dL_whole_29 (by decide +kernel) ?_
  obtain ⟨m3, e3, H⟩ := xRun_c H
  have J3 := gg_q (by decide) J2 e3
  refine ow_0 (a1 := 1) (a2 := 170) (a3 := 0) C J2 e3 dL_whole_32 (Nat.le_of_ble_eq_true rfl) ⟨Nat.le_of_ble_eq_true rfl, Nat.le_of_ble_eq_true rfl⟩ ?_ Dp Bt Sq se
  intro Dp Bt Sq se
  refine xi_iload_n C.1 dL_whole_35 rfl 1 rfl ?_
  refine xi_iconst (v := nI 1) C.1 dL_whole_36 (by decide +kernel) ?_
  refine xi_iadd C.1 dL_whole_37 ?_
  refine xb_top (b := nI 2) (by decide +kernel) ?_
  refine xi_icmp_eq (tgt := 43) C.1 dL_whole_38 (by decide) (fun _ => ?_) (fun c => absurd (by decide +kernel) c)
  refine xi_iload_n C.1 dL_whole_43 rfl 1 rfl ?_
  refine xi_if_ne (tgt := 58) C.1 dL_whole_44 (by decide) (fun _ => ?_) (fun c => absurd c (by decide +kernel))
  refine xi_aload_n C.1 dL_whole_58 rfl 0 rfl ?_
  refine xi_iload_n C.1 dL_whole_59 rfl 1 rfl ?_
  refine xi_iconst (v := nI 0) C.1 dL_whole_60 (by decide +kernel) ?_
  refine xi_iload_n C.1 dL_whole_61 rfl 1 rfl ?_
  refine xi_iconst (v := nI 1) C.1 dL_whole_62 (by decide +kernel) ?_
  refine xi_isub C.1 dL_whole_63 ?_
  refine xb_top (b := nI 0) (by decide +kernel) ?_
  obtain ⟨m4, e4, H⟩ := xRun_c H
  have J4 := gg_q (by decide) J3 e4
  refine ow_3 (a1 := 1) (a2 := 0) (a3 := 0) C J3 e4 dL_whole_64 (Nat.le_of_ble_eq_true rfl) ⟨Nat.le_of_ble_eq_true rfl, Nat.le_of_ble_eq_true rfl⟩ ?_ Dp Bt Sq se
  intro Dp Bt Sq se
  refine xj_istore_n (lv2 := [(0, .ref (ad 0)), (1, .int (nI 1)), (2, .int (nI 1))]) C.1 dL_whole_67 rfl (by decide) [0, 1] [1, 2, 0] rfl ?_
  refine xi_iload_n C.1 dL_whole_68 rfl 2 rfl ?_
  refine xi_iload_n C.1 dL_whole_69 rfl 1 rfl ?_
  refine xi_if_ne (tgt := 78) C.1 dL_whole_70 (by decide) (fun _ => ?_) (fun c => absurd c (by decide +kernel))
  refine xi_iload_n C.1 dL_whole_78 rfl 1 rfl ?_
  refine xi_bipush (v := nI 6) C.1 dL_whole_79 (by decide +kernel) ?_
  refine xi_irem C.1 dL_whole_81 (by decide +kernel) ?_
  refine xb_top (b := nI 1) (by decide +kernel) ?_
  refine xi_if_ne (tgt := 90) C.1 dL_whole_82 (by decide) (fun _ => ?_) (fun c => absurd c (by decide +kernel))
  refine xi_iconst (v := nI 1) C.1 dL_whole_90 (by decide +kernel) ?_
  refine xi_icmp_eq (tgt := 96) C.1 dL_whole_91 (by decide) (fun _ => ?_) (fun c => absurd (by decide +kernel) c)
  refine xj_iinc (v := nI 2) (lv2 := [(0, .ref (ad 0)), (1, .int (nI 2)), (2, .int (nI 1))]) C.1 dL_whole_96 1 rfl (by decide +kernel) (by decide) [0, 2] [1, 0, 2] rfl ?_
  refine xi_goto (tgt := 10) C.1 dL_whole_99 (by decide) ?_
  refine xi_iload_n C.1 dL_whole_10 rfl 1 rfl ?_
  refine xi_bipush (v := nI 24) C.1 dL_whole_11 (by decide +kernel) ?_
  refine xi_icmp_ge (tgt := 102) C.1 dL_whole_13 (by decide) (fun c => absurd c (by decide +kernel)) (fun _ => ?_)
  refine xi_aload_n C.1 dL_whole_16 rfl 0 rfl ?_
  refine xi_iload_n C.1 dL_whole_17 rfl 1 rfl ?_
  refine xi_iload_n C.1 dL_whole_18 rfl 1 rfl ?_
  refine xi_bipush (v := nI 23) C.1 dL_whole_19 (by decide +kernel) ?_
  refine xi_icmp_ne (tgt := 29) C.1 dL_whole_21 (by decide) (fun _ => ?_) (fun c => absurd c (by decide +kernel))
  refine xi_sipush (v := nI 170) C.1 dL_whole_29 (by decide +kernel) ?_
  obtain ⟨m5, e5, H⟩ := xRun_c H
  have J5 := gg_q (by decide) J4 e5
  refine ow_0 (a1 := 2) (a2 := 170) (a3 := 0) C J4 e5 dL_whole_32 (Nat.le_of_ble_eq_true rfl) ⟨Nat.le_of_ble_eq_true rfl, Nat.le_of_ble_eq_true rfl⟩ ?_ Dp Bt Sq se
  intro Dp Bt Sq se
  refine xi_iload_n C.1 dL_whole_35 rfl 1 rfl ?_
  refine xi_iconst (v := nI 1) C.1 dL_whole_36 (by decide +kernel) ?_
  refine xi_iadd C.1 dL_whole_37 ?_
  refine xb_top (b := nI 3) (by decide +kernel) ?_
  refine xi_icmp_eq (tgt := 43) C.1 dL_whole_38 (by decide) (fun _ => ?_) (fun c => absurd (by decide +kernel) c)
  refine xi_iload_n C.1 dL_whole_43 rfl 1 rfl ?_
  refine xi_if_ne (tgt := 58) C.1 dL_whole_44 (by decide) (fun _ => ?_) (fun c => absurd c (by decide +kernel))
  refine xi_aload_n C.1 dL_whole_58 rfl 0 rfl ?_
  refine xi_iload_n C.1 dL_whole_59 rfl 1 rfl ?_
  refine xi_iconst (v := nI 0) C.1 dL_whole_60 (by decide +kernel) ?_
  refine xi_iload_n C.1 dL_whole_61 rfl 1 rfl ?_
  refine xi_iconst (v := nI 1) C.1 dL_whole_62 (by decide +kernel) ?_
  refine xi_isub C.1 dL_whole_63 ?_
  refine xb_top (b := nI 1) (by decide +kernel) ?_
  obtain ⟨m6, e6, H⟩ := xRun_c H
  have J6 := gg_q (by decide) J5 e6
  refine ow_3 (a1 := 2) (a2 := 0) (a3 := 1) C J5 e6 dL_whole_64 (Nat.le_of_ble_eq_true rfl) ⟨Nat.le_of_ble_eq_true rfl, Nat.le_of_ble_eq_true rfl⟩ ?_ Dp Bt Sq se
  intro Dp Bt Sq se
  refine xj_istore_n (lv2 := [(0, .ref (ad 0)), (1, .int (nI 2)), (2, .int (nI 1))]) C.1 dL_whole_67 rfl (by decide) [0, 1] [1, 2, 0] rfl ?_
  refine xi_iload_n C.1 dL_whole_68 rfl 2 rfl ?_
  refine xi_iload_n C.1 dL_whole_69 rfl 1 rfl ?_
  refine xi_if_ne (tgt := 78) C.1 dL_whole_70 (by decide) (fun _ => ?_) (fun c => absurd c (by decide +kernel))
  refine xi_iload_n C.1 dL_whole_78 rfl 1 rfl ?_
  refine xi_bipush (v := nI 6) C.1 dL_whole_79 (by decide +kernel) ?_
  refine xi_irem C.1 dL_whole_81 (by decide +kernel) ?_
  refine xb_top (b := nI 2) (by decide +kernel) ?_
  refine xi_if_ne (tgt := 90) C.1 dL_whole_82 (by decide) (fun _ => ?_) (fun c => absurd c (by decide +kernel))
  refine xi_iconst (v := nI 1) C.1 dL_whole_90 (by decide +kernel) ?_
  refine xi_icmp_eq (tgt := 96) C.1 dL_whole_91 (by decide) (fun _ => ?_) (fun c => absurd (by decide +kernel) c)
  refine xj_iinc (v := nI 3) (lv2 := [(0, .ref (ad 0)), (1, .int (nI 3)), (2, .int (nI 1))]) C.1 dL_whole_96 1 rfl (by decide +kernel) (by decide) [0, 2] [1, 0, 2] rfl ?_
  refine xi_goto (tgt := 10) C.1 dL_whole_99 (by decide) ?_
  refine xi_iload_n C.1 dL_whole_10 rfl 1 rfl ?_
  refine xi_bipush (v := nI 24) C.1 dL_whole_11 (by decide +kernel) ?_
  refine xi_icmp_ge (tgt := 102) C.1 dL_whole_13 (by decide) (fun c => absurd c (by decide +kernel)) (fun _ => ?_)
  refine xi_aload_n C.1 dL_whole_16 rfl 0 rfl ?_
  refine xi_iload_n C.1 dL_whole_17 rfl 1 rfl ?_
  refine xi_iload_n C.1 dL_whole_18 rfl 1 rfl ?_
  refine xi_bipush (v := nI 23) C.1 dL_whole_19 (by decide +kernel) ?_
  refine xi_icmp_ne (tgt := 29) C.1 dL_whole_21 (by decide) (fun _ => ?_) (fun c => absurd c (by decide +kernel))
  refine xi_sipush (v := nI 170) C.1 dL_whole_29 (by decide +kernel) ?_
  obtain ⟨m7, e7, H⟩ := xRun_c H
  have J7 := gg_q (by decide) J6 e7
  refine ow_0 (a1 := 3) (a2 := 170) (a3 := 0) C J6 e7 dL_whole_32 (Nat.le_of_ble_eq_true rfl) ⟨Nat.le_of_ble_eq_true rfl, Nat.le_of_ble_eq_true rfl⟩ ?_ Dp Bt Sq se
  intro Dp Bt Sq se
  refine xi_iload_n C.1 dL_whole_35 rfl 1 rfl ?_
  refine xi_iconst (v := nI 1) C.1 dL_whole_36 (by decide +kernel) ?_
  refine xi_iadd C.1 dL_whole_37 ?_
  refine xb_top (b := nI 4) (by decide +kernel) ?_
  refine xi_icmp_eq (tgt := 43) C.1 dL_whole_38 (by decide) (fun _ => ?_) (fun c => absurd (by decide +kernel) c)
  refine xi_iload_n C.1 dL_whole_43 rfl 1 rfl ?_
  refine xi_if_ne (tgt := 58) C.1 dL_whole_44 (by decide) (fun _ => ?_) (fun c => absurd c (by decide +kernel))
  refine xi_aload_n C.1 dL_whole_58 rfl 0 rfl ?_
  refine xi_iload_n C.1 dL_whole_59 rfl 1 rfl ?_
  refine xi_iconst (v := nI 0) C.1 dL_whole_60 (by decide +kernel) ?_
  refine xi_iload_n C.1 dL_whole_61 rfl 1 rfl ?_
  refine xi_iconst (v := nI 1) C.1 dL_whole_62 (by decide +kernel) ?_
  refine xi_isub C.1 dL_whole_63 ?_
  refine xb_top (b := nI 2) (by decide +kernel) ?_
  obtain ⟨m8, e8, H⟩ := xRun_c H
  have J8 := gg_q (by decide) J7 e8
  refine ow_3 (a1 := 3) (a2 := 0) (a3 := 2) C J7 e8 dL_whole_64 (Nat.le_of_ble_eq_true rfl) ⟨Nat.le_of_ble_eq_true rfl, Nat.le_of_ble_eq_true rfl⟩ ?_ Dp Bt Sq se
  intro Dp Bt Sq se
  refine xj_istore_n (lv2 := [(0, .ref (ad 0)), (1, .int (nI 3)), (2, .int (nI 1))]) C.1 dL_whole_67 rfl (by decide) [0, 1] [1, 2, 0] rfl ?_
  refine xi_iload_n C.1 dL_whole_68 rfl 2 rfl ?_
  refine xi_iload_n C.1 dL_whole_69 rfl 1 rfl ?_
  refine xi_if_ne (tgt := 78) C.1 dL_whole_70 (by decide) (fun _ => ?_) (fun c => absurd c (by decide +kernel))
  refine xi_iload_n C.1 dL_whole_78 rfl 1 rfl ?_
  refine xi_bipush (v := nI 6) C.1 dL_whole_79 (by decide +kernel) ?_
  refine xi_irem C.1 dL_whole_81 (by decide +kernel) ?_
  refine xb_top (b := nI 3) (by decide +kernel) ?_
  refine xi_if_ne (tgt := 90) C.1 dL_whole_82 (by decide) (fun _ => ?_) (fun c => absurd c (by decide +kernel))
  refine xi_iconst (v := nI 1) C.1 dL_whole_90 (by decide +kernel) ?_
  refine xi_icmp_eq (tgt := 96) C.1 dL_whole_91 (by decide) (fun _ => ?_) (fun c => absurd (by decide +kernel) c)
  refine xj_iinc (v := nI 4) (lv2 := [(0, .ref (ad 0)), (1, .int (nI 4)), (2, .int (nI 1))]) C.1 dL_whole_96 1 rfl (by decide +kernel) (by decide) [0, 2] [1, 0, 2] rfl ?_
  refine xi_goto (tgt := 10) C.1 dL_whole_99 (by decide) ?_
  refine xi_iload_n C.1 dL_whole_10 rfl 1 rfl ?_
  refine xi_bipush (v := nI 24) C.1 dL_whole_11 (by decide +kernel) ?_
  refine xi_icmp_ge (tgt := 102) C.1 dL_whole_13 (by decide) (fun c => absurd c (by decide +kernel)) (fun _ => ?_)
  refine xi_aload_n C.1 dL_whole_16 rfl 0 rfl ?_
  refine xi_iload_n C.1 dL_whole_17 rfl 1 rfl ?_
  refine xi_iload_n C.1 dL_whole_18 rfl 1 rfl ?_
  refine xi_bipush (v := nI 23) C.1 dL_whole_19 (by decide +kernel) ?_
  refine xi_icmp_ne (tgt := 29) C.1 dL_whole_21 (by decide) (fun _ => ?_) (fun c => absurd c (by decide +kernel))
  refine xi_sipush (v := nI 170) C.1 dL_whole_29 (by decide +kernel) ?_
  obtain ⟨m9, e9, H⟩ := xRun_c H
  have J9 := gg_q (by decide) J8 e9
  refine ow_0 (a1 := 4) (a2 := 170) (a3 := 0) C J8 e9 dL_whole_32 (Nat.le_of_ble_eq_true rfl) ⟨Nat.le_of_ble_eq_true rfl, Nat.le_of_ble_eq_true rfl⟩ ?_ Dp Bt Sq se
  intro Dp Bt Sq se
  refine xi_iload_n C.1 dL_whole_35 rfl 1 rfl ?_
  refine xi_iconst (v := nI 1) C.1 dL_whole_36 (by decide +kernel) ?_
  refine xi_iadd C.1 dL_whole_37 ?_
  refine xb_top (b := nI 5) (by decide +kernel) ?_
  refine xi_icmp_eq (tgt := 43) C.1 dL_whole_38 (by decide) (fun _ => ?_) (fun c => absurd (by decide +kernel) c)
  refine xi_iload_n C.1 dL_whole_43 rfl 1 rfl ?_
  refine xi_if_ne (tgt := 58) C.1 dL_whole_44 (by decide) (fun _ => ?_) (fun c => absurd c (by decide +kernel))
  refine xi_aload_n C.1 dL_whole_58 rfl 0 rfl ?_
  refine xi_iload_n C.1 dL_whole_59 rfl 1 rfl ?_
  refine xi_iconst (v := nI 0) C.1 dL_whole_60 (by decide +kernel) ?_
  refine xi_iload_n C.1 dL_whole_61 rfl 1 rfl ?_
  refine xi_iconst (v := nI 1) C.1 dL_whole_62 (by decide +kernel) ?_
  refine xi_isub C.1 dL_whole_63 ?_
  refine xb_top (b := nI 3) (by decide +kernel) ?_
  obtain ⟨m10, e10, H⟩ := xRun_c H
  have J10 := gg_q (by decide) J9 e10
  refine ow_3 (a1 := 4) (a2 := 0) (a3 := 3) C J9 e10 dL_whole_64 (Nat.le_of_ble_eq_true rfl) ⟨Nat.le_of_ble_eq_true rfl, Nat.le_of_ble_eq_true rfl⟩ ?_ Dp Bt Sq se
  intro Dp Bt Sq se
  refine xj_istore_n (lv2 := [(0, .ref (ad 0)), (1, .int (nI 4)), (2, .int (nI 1))]) C.1 dL_whole_67 rfl (by decide) [0, 1] [1, 2, 0] rfl ?_
  refine xi_iload_n C.1 dL_whole_68 rfl 2 rfl ?_
  refine xi_iload_n C.1 dL_whole_69 rfl 1 rfl ?_
  refine xi_if_ne (tgt := 78) C.1 dL_whole_70 (by decide) (fun _ => ?_) (fun c => absurd c (by decide +kernel))
  refine xi_iload_n C.1 dL_whole_78 rfl 1 rfl ?_
  refine xi_bipush (v := nI 6) C.1 dL_whole_79 (by decide +kernel) ?_
  refine xi_irem C.1 dL_whole_81 (by decide +kernel) ?_
  refine xb_top (b := nI 4) (by decide +kernel) ?_
  refine xi_if_ne (tgt := 90) C.1 dL_whole_82 (by decide) (fun _ => ?_) (fun c => absurd c (by decide +kernel))
  refine xi_iconst (v := nI 1) C.1 dL_whole_90 (by decide +kernel) ?_
  refine xi_icmp_eq (tgt := 96) C.1 dL_whole_91 (by decide) (fun _ => ?_) (fun c => absurd (by decide +kernel) c)
  refine xj_iinc (v := nI 5) (lv2 := [(0, .ref (ad 0)), (1, .int (nI 5)), (2, .int (nI 1))]) C.1 dL_whole_96 1 rfl (by decide +kernel) (by decide) [0, 2] [1, 0, 2] rfl ?_
  refine xi_goto (tgt := 10) C.1 dL_whole_99 (by decide) ?_
  refine xi_iload_n C.1 dL_whole_10 rfl 1 rfl ?_
  refine xi_bipush (v := nI 24) C.1 dL_whole_11 (by decide +kernel) ?_
  refine xi_icmp_ge (tgt := 102) C.1 dL_whole_13 (by decide) (fun c => absurd c (by decide +kernel)) (fun _ => ?_)
  refine xi_aload_n C.1 dL_whole_16 rfl 0 rfl ?_
  refine xi_iload_n C.1 dL_whole_17 rfl 1 rfl ?_
  refine xi_iload_n C.1 dL_whole_18 rfl 1 rfl ?_
  refine xi_bipush (v := nI 23) C.1 dL_whole_19 (by decide +kernel) ?_
  refine xi_icmp_ne (tgt := 29) C.1 dL_whole_21 (by decide) (fun _ => ?_) (fun c => absurd c (by decide +kernel))
  refine xi_sipush (v := nI 170) C.1 dL_whole_29 (by decide +kernel) ?_
  obtain ⟨m11, e11, H⟩ := xRun_c H
  have J11 := gg_q (by decide) J10 e11
  refine ow_0 (a1 := 5) (a2 := 170) (a3 := 0) C J10 e11 dL_whole_32 (Nat.le_of_ble_eq_true rfl) ⟨Nat.le_of_ble_eq_true rfl, Nat.le_of_ble_eq_true rfl⟩ ?_ Dp Bt Sq se
  intro Dp Bt Sq se
  refine xi_iload_n C.1 dL_whole_35 rfl 1 rfl ?_
  refine xi_iconst (v := nI 1) C.1 dL_whole_36 (by decide +kernel) ?_
  refine xi_iadd C.1 dL_whole_37 ?_
  refine xb_top (b := nI 6) (by decide +kernel) ?_
  refine xi_icmp_eq (tgt := 43) C.1 dL_whole_38 (by decide) (fun _ => ?_) (fun c => absurd (by decide +kernel) c)
  refine xi_iload_n C.1 dL_whole_43 rfl 1 rfl ?_
  refine xi_if_ne (tgt := 58) C.1 dL_whole_44 (by decide) (fun _ => ?_) (fun c => absurd c (by decide +kernel))
  refine xi_aload_n C.1 dL_whole_58 rfl 0 rfl ?_
  refine xi_iload_n C.1 dL_whole_59 rfl 1 rfl ?_
  refine xi_iconst (v := nI 0) C.1 dL_whole_60 (by decide +kernel) ?_
  refine xi_iload_n C.1 dL_whole_61 rfl 1 rfl ?_
  refine xi_iconst (v := nI 1) C.1 dL_whole_62 (by decide +kernel) ?_
  refine xi_isub C.1 dL_whole_63 ?_
  refine xb_top (b := nI 4) (by decide +kernel) ?_
  obtain ⟨m12, e12, H⟩ := xRun_c H
  have J12 := gg_q (by decide) J11 e12
  refine ow_3 (a1 := 5) (a2 := 0) (a3 := 4) C J11 e12 dL_whole_64 (Nat.le_of_ble_eq_true rfl) ⟨Nat.le_of_ble_eq_true rfl, Nat.le_of_ble_eq_true rfl⟩ ?_ Dp Bt Sq se
  intro Dp Bt Sq se
  refine xj_istore_n (lv2 := [(0, .ref (ad 0)), (1, .int (nI 5)), (2, .int (nI 1))]) C.1 dL_whole_67 rfl (by decide) [0, 1] [1, 2, 0] rfl ?_
  refine xi_iload_n C.1 dL_whole_68 rfl 2 rfl ?_
  refine xi_iload_n C.1 dL_whole_69 rfl 1 rfl ?_
  refine xi_if_ne (tgt := 78) C.1 dL_whole_70 (by decide) (fun _ => ?_) (fun c => absurd c (by decide +kernel))
  refine xi_iload_n C.1 dL_whole_78 rfl 1 rfl ?_
  refine xi_bipush (v := nI 6) C.1 dL_whole_79 (by decide +kernel) ?_
  refine xi_irem C.1 dL_whole_81 (by decide +kernel) ?_
  refine xb_top (b := nI 5) (by decide +kernel) ?_
  refine xi_if_ne (tgt := 90) C.1 dL_whole_82 (by decide) (fun _ => ?_) (fun c => absurd c (by decide +kernel))
  refine xi_iconst (v := nI 1) C.1 dL_whole_90 (by decide +kernel) ?_
  refine xi_icmp_eq (tgt := 96) C.1 dL_whole_91 (by decide) (fun _ => ?_) (fun c => absurd (by decide +kernel) c)
  refine xj_iinc (v := nI 6) (lv2 := [(0, .ref (ad 0)), (1, .int (nI 6)), (2, .int (nI 1))]) C.1 dL_whole_96 1 rfl (by decide +kernel) (by decide) [0, 2] [1, 0, 2] rfl ?_
  refine xi_goto (tgt := 10) C.1 dL_whole_99 (by decide) ?_
  refine xi_iload_n C.1 dL_whole_10 rfl 1 rfl ?_
  refine xi_bipush (v := nI 24) C.1 dL_whole_11 (by decide +kernel) ?_
  refine xi_icmp_ge (tgt := 102) C.1 dL_whole_13 (by decide) (fun c => absurd c (by decide +kernel)) (fun _ => ?_)
  refine xi_aload_n C.1 dL_whole_16 rfl 0 rfl ?_
  refine xi_iload_n C.1 dL_whole_17 rfl 1 rfl ?_
  refine xi_iload_n C.1 dL_whole_18 rfl 1 rfl ?_
  refine xi_bipush (v := nI 23) C.1 dL_whole_19 (by decide +kernel) ?_
  refine xi_icmp_ne (tgt := 29) C.1 dL_whole_21 (by decide) (fun _ => ?_) (fun c => absurd c (by decide +kernel))
  refine xi_sipush (v := nI 170) C.1 dL_whole_29 (by decide +kernel) ?_
  obtain ⟨m13, e13, H⟩ := xRun_c H
  have J13 := gg_q (by decide) J12 e13
  refine ow_0 (a1 := 6) (a2 := 170) (a3 := 0) C J12 e13 dL_whole_32 (Nat.le_of_ble_eq_true rfl) ⟨Nat.le_of_ble_eq_true rfl, Nat.le_of_ble_eq_true rfl⟩ ?_ Dp Bt Sq se
  intro Dp Bt Sq se
  refine xi_iload_n C.1 dL_whole_35 rfl 1 rfl ?_
  refine xi_iconst (v := nI 1) C.1 dL_whole_36 (by decide +kernel) ?_
  refine xi_iadd C.1 dL_whole_37 ?_
  refine xb_top (b := nI 7) (by decide +kernel) ?_
  refine xi_icmp_eq (tgt := 43) C.1 dL_whole_38 (by decide) (fun _ => ?_) (fun c => absurd (by decide +kernel) c)
  refine xi_iload_n C.1 dL_whole_43 rfl 1 rfl ?_
  refine xi_if_ne (tgt := 58) C.1 dL_whole_44 (by decide) (fun _ => ?_) (fun c => absurd c (by decide +kernel))
  refine xi_aload_n C.1 dL_whole_58 rfl 0 rfl ?_
  refine xi_iload_n C.1 dL_whole_59 rfl 1 rfl ?_
  refine xi_iconst (v := nI 0) C.1 dL_whole_60 (by decide +kernel) ?_
  refine xi_iload_n C.1 dL_whole_61 rfl 1 rfl ?_
  refine xi_iconst (v := nI 1) C.1 dL_whole_62 (by decide +kernel) ?_
  refine xi_isub C.1 dL_whole_63 ?_
  refine xb_top (b := nI 5) (by decide +kernel) ?_
  obtain ⟨m14, e14, H⟩ := xRun_c H
  have J14 := gg_q (by decide) J13 e14
  refine ow_3 (a1 := 6) (a2 := 0) (a3 := 5) C J13 e14 dL_whole_64 (Nat.le_of_ble_eq_true rfl) ⟨Nat.le_of_ble_eq_true rfl, Nat.le_of_ble_eq_true rfl⟩ ?_ Dp Bt Sq se
  intro Dp Bt Sq se
  refine xj_istore_n (lv2 := [(0, .ref (ad 0)), (1, .int (nI 6)), (2, .int (nI 6))]) C.1 dL_whole_67 rfl (by decide) [0, 1] [1, 2, 0] rfl ?_
  refine xi_iload_n C.1 dL_whole_68 rfl 2 rfl ?_
  refine xi_iload_n C.1 dL_whole_69 rfl 1 rfl ?_
  refine xi_if_ne (tgt := 78) C.1 dL_whole_70 (by decide) (fun _ => ?_) (fun c => absurd c (by decide +kernel))
  refine xi_iload_n C.1 dL_whole_78 rfl 1 rfl ?_
  refine xi_bipush (v := nI 6) C.1 dL_whole_79 (by decide +kernel) ?_
  refine xi_irem C.1 dL_whole_81 (by decide +kernel) ?_
  refine xb_top (b := nI 0) (by decide +kernel) ?_
  refine xi_if_ne (tgt := 90) C.1 dL_whole_82 (by decide) (fun c => absurd c (by decide +kernel)) (fun _ => ?_)
  refine xi_bipush (v := nI 6) C.1 dL_whole_85 (by decide +kernel) ?_
  refine xi_goto (tgt := 91) C.1 dL_whole_87 (by decide) ?_
  refine xi_icmp_eq (tgt := 96) C.1 dL_whole_91 (by decide) (fun _ => ?_) (fun c => absurd (by decide +kernel) c)
  refine xj_iinc (v := nI 7) (lv2 := [(0, .ref (ad 0)), (1, .int (nI 7)), (2, .int (nI 6))]) C.1 dL_whole_96 1 rfl (by decide +kernel) (by decide) [0, 2] [1, 0, 2] rfl ?_
  refine xi_goto (tgt := 10) C.1 dL_whole_99 (by decide) ?_
  refine xi_iload_n C.1 dL_whole_10 rfl 1 rfl ?_
  refine xi_bipush (v := nI 24) C.1 dL_whole_11 (by decide +kernel) ?_
  refine xi_icmp_ge (tgt := 102) C.1 dL_whole_13 (by decide) (fun c => absurd c (by decide +kernel)) (fun _ => ?_)
  refine xi_aload_n C.1 dL_whole_16 rfl 0 rfl ?_
  refine xi_iload_n C.1 dL_whole_17 rfl 1 rfl ?_
  refine xi_iload_n C.1 dL_whole_18 rfl 1 rfl ?_
  refine xi_bipush (v := nI 23) C.1 dL_whole_19 (by decide +kernel) ?_
  refine xi_icmp_ne (tgt := 29) C.1 dL_whole_21 (by decide) (fun _ => ?_) (fun c => absurd c (by decide +kernel))
  refine xi_sipush (v := nI 170) C.1 dL_whole_29 (by decide +kernel) ?_
  obtain ⟨m15, e15, H⟩ := xRun_c H
  have J15 := gg_q (by decide) J14 e15
  refine ow_0 (a1 := 7) (a2 := 170) (a3 := 0) C J14 e15 dL_whole_32 (Nat.le_of_ble_eq_true rfl) ⟨Nat.le_of_ble_eq_true rfl, Nat.le_of_ble_eq_true rfl⟩ ?_ Dp Bt Sq se
  intro Dp Bt Sq se
  refine xi_iload_n C.1 dL_whole_35 rfl 1 rfl ?_
  refine xi_iconst (v := nI 1) C.1 dL_whole_36 (by decide +kernel) ?_
  refine xi_iadd C.1 dL_whole_37 ?_
  refine xb_top (b := nI 8) (by decide +kernel) ?_
  refine xi_icmp_eq (tgt := 43) C.1 dL_whole_38 (by decide) (fun _ => ?_) (fun c => absurd (by decide +kernel) c)
  refine xi_iload_n C.1 dL_whole_43 rfl 1 rfl ?_
  refine xi_if_ne (tgt := 58) C.1 dL_whole_44 (by decide) (fun _ => ?_) (fun c => absurd c (by decide +kernel))
  refine xi_aload_n C.1 dL_whole_58 rfl 0 rfl ?_
  refine xi_iload_n C.1 dL_whole_59 rfl 1 rfl ?_
  refine xi_iconst (v := nI 0) C.1 dL_whole_60 (by decide +kernel) ?_
  refine xi_iload_n C.1 dL_whole_61 rfl 1 rfl ?_
  refine xi_iconst (v := nI 1) C.1 dL_whole_62 (by decide +kernel) ?_
  refine xi_isub C.1 dL_whole_63 ?_
  refine xb_top (b := nI 6) (by decide +kernel) ?_
  obtain ⟨m16, e16, H⟩ := xRun_c H
  have J16 := gg_q (by decide) J15 e16
  refine ow_3 (a1 := 7) (a2 := 0) (a3 := 6) C J15 e16 dL_whole_64 (Nat.le_of_ble_eq_true rfl) ⟨Nat.le_of_ble_eq_true rfl, Nat.le_of_ble_eq_true rfl⟩ ?_ Dp Bt Sq se
  intro Dp Bt Sq se
  refine xj_istore_n (lv2 := [(0, .ref (ad 0)), (1, .int (nI 7)), (2, .int (nI 1))]) C.1 dL_whole_67 rfl (by decide) [0, 1] [1, 2, 0] rfl ?_
  refine xi_iload_n C.1 dL_whole_68 rfl 2 rfl ?_
  refine xi_iload_n C.1 dL_whole_69 rfl 1 rfl ?_
  refine xi_if_ne (tgt := 78) C.1 dL_whole_70 (by decide) (fun _ => ?_) (fun c => absurd c (by decide +kernel))
  refine xi_iload_n C.1 dL_whole_78 rfl 1 rfl ?_
  refine xi_bipush (v := nI 6) C.1 dL_whole_79 (by decide +kernel) ?_
  refine xi_irem C.1 dL_whole_81 (by decide +kernel) ?_
  refine xb_top (b := nI 1) (by decide +kernel) ?_
  refine xi_if_ne (tgt := 90) C.1 dL_whole_82 (by decide) (fun _ => ?_) (fun c => absurd c (by decide +kernel))
  refine xi_iconst (v := nI 1) C.1 dL_whole_90 (by decide +kernel) ?_
  refine xi_icmp_eq (tgt := 96) C.1 dL_whole_91 (by decide) (fun _ => ?_) (fun c => absurd (by decide +kernel) c)
  refine xj_iinc (v := nI 8) (lv2 := [(0, .ref (ad 0)), (1, .int (nI 8)), (2, .int (nI 1))]) C.1 dL_whole_96 1 rfl (by decide +kernel) (by decide) [0, 2] [1, 0, 2] rfl ?_
  refine xi_goto (tgt := 10) C.1 dL_whole_99 (by decide) ?_
  refine xi_iload_n C.1 dL_whole_10 rfl 1 rfl ?_
  refine xi_bipush (v := nI 24) C.1 dL_whole_11 (by decide +kernel) ?_
  refine xi_icmp_ge (tgt := 102) C.1 dL_whole_13 (by decide) (fun c => absurd c (by decide +kernel)) (fun _ => ?_)
  refine xi_aload_n C.1 dL_whole_16 rfl 0 rfl ?_
  refine xi_iload_n C.1 dL_whole_17 rfl 1 rfl ?_
  refine xi_iload_n C.1 dL_whole_18 rfl 1 rfl ?_
  refine xi_bipush (v := nI 23) C.1 dL_whole_19 (by decide +kernel) ?_
  refine xi_icmp_ne (tgt := 29) C.1 dL_whole_21 (by decide) (fun _ => ?_) (fun c => absurd c (by decide +kernel))
  refine xi_sipush (v := nI 170) C.1 dL_whole_29 (by decide +kernel) ?_
  obtain ⟨m17, e17, H⟩ := xRun_c H
  have J17 := gg_q (by decide) J16 e17
  refine ow_0 (a1 := 8) (a2 := 170) (a3 := 0) C J16 e17 dL_whole_32 (Nat.le_of_ble_eq_true rfl) ⟨Nat.le_of_ble_eq_true rfl, Nat.le_of_ble_eq_true rfl⟩ ?_ Dp Bt Sq se
  intro Dp Bt Sq se
  refine xi_iload_n C.1 dL_whole_35 rfl 1 rfl ?_
  refine xi_iconst (v := nI 1) C.1 dL_whole_36 (by decide +kernel) ?_
  refine xi_iadd C.1 dL_whole_37 ?_
  refine xb_top (b := nI 9) (by decide +kernel) ?_
  refine xi_icmp_eq (tgt := 43) C.1 dL_whole_38 (by decide) (fun _ => ?_) (fun c => absurd (by decide +kernel) c)
  refine xi_iload_n C.1 dL_whole_43 rfl 1 rfl ?_
  refine xi_if_ne (tgt := 58) C.1 dL_whole_44 (by decide) (fun _ => ?_) (fun c => absurd c (by decide +kernel))
  refine xi_aload_n C.1 dL_whole_58 rfl 0 rfl ?_
  refine xi_iload_n C.1 dL_whole_59 rfl 1 rfl ?_
  refine xi_iconst (v := nI 0) C.1 dL_whole_60 (by decide +kernel) ?_
  refine xi_iload_n C.1 dL_whole_61 rfl 1 rfl ?_
  refine xi_iconst (v := nI 1) C.1 dL_whole_62 (by decide +kernel) ?_
  refine xi_isub C.1 dL_whole_63 ?_
  refine xb_top (b := nI 7) (by decide +kernel) ?_
  obtain ⟨m18, e18, H⟩ := xRun_c H
  have J18 := gg_q (by decide) J17 e18
  refine ow_3 (a1 := 8) (a2 := 0) (a3 := 7) C J17 e18 dL_whole_64 (Nat.le_of_ble_eq_true rfl) ⟨Nat.le_of_ble_eq_true rfl, Nat.le_of_ble_eq_true rfl⟩ ?_ Dp Bt Sq se
  intro Dp Bt Sq se
  refine xj_istore_n (lv2 := [(0, .ref (ad 0)), (1, .int (nI 8)), (2, .int (nI 1))]) C.1 dL_whole_67 rfl (by decide) [0, 1] [1, 2, 0] rfl ?_
  refine xi_iload_n C.1 dL_whole_68 rfl 2 rfl ?_
  refine xi_iload_n C.1 dL_whole_69 rfl 1 rfl ?_
  refine xi_if_ne (tgt := 78) C.1 dL_whole_70 (by decide) (fun _ => ?_) (fun c => absurd c (by decide +kernel))
  refine xi_iload_n C.1 dL_whole_78 rfl 1 rfl ?_
  refine xi_bipush (v := nI 6) C.1 dL_whole_79 (by decide +kernel) ?_
  refine xi_irem C.1 dL_whole_81 (by decide +kernel) ?_
  refine xb_top (b := nI 2) (by decide +kernel) ?_
  refine xi_if_ne (tgt := 90) C.1 dL_whole_82 (by decide) (fun _ => ?_) (fun c => absurd c (by decide +kernel))
  refine xi_iconst (v := nI 1) C.1 dL_whole_90 (by decide +kernel) ?_
  refine xi_icmp_eq (tgt := 96) C.1 dL_whole_91 (by decide) (fun _ => ?_) (fun c => absurd (by decide +kernel) c)
  refine xj_iinc (v := nI 9) (lv2 := [(0, .ref (ad 0)), (1, .int (nI 9)), (2, .int (nI 1))]) C.1 dL_whole_96 1 rfl (by decide +kernel) (by decide) [0, 2] [1, 0, 2] rfl ?_
  refine xi_goto (tgt := 10) C.1 dL_whole_99 (by decide) ?_
  refine xi_iload_n C.1 dL_whole_10 rfl 1 rfl ?_
  refine xi_bipush (v := nI 24) C.1 dL_whole_11 (by decide +kernel) ?_
  refine xi_icmp_ge (tgt := 102) C.1 dL_whole_13 (by decide) (fun c => absurd c (by decide +kernel)) (fun _ => ?_)
  refine xi_aload_n C.1 dL_whole_16 rfl 0 rfl ?_
  refine xi_iload_n C.1 dL_whole_17 rfl 1 rfl ?_
  refine xi_iload_n C.1 dL_whole_18 rfl 1 rfl ?_
  refine xi_bipush (v := nI 23) C.1 dL_whole_19 (by decide +kernel) ?_
  refine xi_icmp_ne (tgt := 29) C.1 dL_whole_21 (by decide) (fun _ => ?_) (fun c => absurd c (by decide +kernel))
  refine xi_sipush (v := nI 170) C.1 dL_whole_29 (by decide +kernel) ?_
  obtain ⟨m19, e19, H⟩ := xRun_c H
  have J19 := gg_q (by decide) J18 e19
  refine ow_0 (a1 := 9) (a2 := 170) (a3 := 0) C J18 e19 dL_whole_32 (Nat.le_of_ble_eq_true rfl) ⟨Nat.le_of_ble_eq_true rfl, Nat.le_of_ble_eq_true rfl⟩ ?_ Dp Bt Sq se
  intro Dp Bt Sq se
  refine xi_iload_n C.1 dL_whole_35 rfl 1 rfl ?_
  refine xi_iconst (v := nI 1) C.1 dL_whole_36 (by decide +kernel) ?_
  refine xi_iadd C.1 dL_whole_37 ?_
  refine xb_top (b := nI 10) (by decide +kernel) ?_
  refine xi_icmp_eq (tgt := 43) C.1 dL_whole_38 (by decide) (fun _ => ?_) (fun c => absurd (by decide +kernel) c)
  refine xi_iload_n C.1 dL_whole_43 rfl 1 rfl ?_
  refine xi_if_ne (tgt := 58) C.1 dL_whole_44 (by decide) (fun _ => ?_) (fun c => absurd c (by decide +kernel))
  refine xi_aload_n C.1 dL_whole_58 rfl 0 rfl ?_
  refine xi_iload_n C.1 dL_whole_59 rfl 1 rfl ?_
  refine xi_iconst (v := nI 0) C.1 dL_whole_60 (by decide +kernel) ?_
  refine xi_iload_n C.1 dL_whole_61 rfl 1 rfl ?_
  refine xi_iconst (v := nI 1) C.1 dL_whole_62 (by decide +kernel) ?_
  refine xi_isub C.1 dL_whole_63 ?_
  refine xb_top (b := nI 8) (by decide +kernel) ?_
  obtain ⟨m20, e20, H⟩ := xRun_c H
  have J20 := gg_q (by decide) J19 e20
  refine ow_3 (a1 := 9) (a2 := 0) (a3 := 8) C J19 e20 dL_whole_64 (Nat.le_of_ble_eq_true rfl) ⟨Nat.le_of_ble_eq_true rfl, Nat.le_of_ble_eq_true rfl⟩ ?_ Dp Bt Sq se
  intro Dp Bt Sq se
  refine xj_istore_n (lv2 := [(0, .ref (ad 0)), (1, .int (nI 9)), (2, .int (nI 1))]) C.1 dL_whole_67 rfl (by decide) [0, 1] [1, 2, 0] rfl ?_
  refine xi_iload_n C.1 dL_whole_68 rfl 2 rfl ?_
  refine xi_iload_n C.1 dL_whole_69 rfl 1 rfl ?_
  refine xi_if_ne (tgt := 78) C.1 dL_whole_70 (by decide) (fun _ => ?_) (fun c => absurd c (by decide +kernel))
  refine xi_iload_n C.1 dL_whole_78 rfl 1 rfl ?_
  refine xi_bipush (v := nI 6) C.1 dL_whole_79 (by decide +kernel) ?_
  refine xi_irem C.1 dL_whole_81 (by decide +kernel) ?_
  refine xb_top (b := nI 3) (by decide +kernel) ?_
  refine xi_if_ne (tgt := 90) C.1 dL_whole_82 (by decide) (fun _ => ?_) (fun c => absurd c (by decide +kernel))
  refine xi_iconst (v := nI 1) C.1 dL_whole_90 (by decide +kernel) ?_
  refine xi_icmp_eq (tgt := 96) C.1 dL_whole_91 (by decide) (fun _ => ?_) (fun c => absurd (by decide +kernel) c)
  refine xj_iinc (v := nI 10) (lv2 := [(0, .ref (ad 0)), (1, .int (nI 10)), (2, .int (nI 1))]) C.1 dL_whole_96 1 rfl (by decide +kernel) (by decide) [0, 2] [1, 0, 2] rfl ?_
  refine xi_goto (tgt := 10) C.1 dL_whole_99 (by decide) ?_
  refine xi_iload_n C.1 dL_whole_10 rfl 1 rfl ?_
  refine xi_bipush (v := nI 24) C.1 dL_whole_11 (by decide +kernel) ?_
  refine xi_icmp_ge (tgt := 102) C.1 dL_whole_13 (by decide) (fun c => absurd c (by decide +kernel)) (fun _ => ?_)
  refine xi_aload_n C.1 dL_whole_16 rfl 0 rfl ?_
  refine xi_iload_n C.1 dL_whole_17 rfl 1 rfl ?_
  refine xi_iload_n C.1 dL_whole_18 rfl 1 rfl ?_
  refine xi_bipush (v := nI 23) C.1 dL_whole_19 (by decide +kernel) ?_
  refine xi_icmp_ne (tgt := 29) C.1 dL_whole_21 (by decide) (fun _ => ?_) (fun c => absurd c (by decide +kernel))
  refine xi_sipush (v := nI 170) C.1 dL_whole_29 (by decide +kernel) ?_
  obtain ⟨m21, e21, H⟩ := xRun_c H
  have J21 := gg_q (by decide) J20 e21
  refine ow_0 (a1 := 10) (a2 := 170) (a3 := 0) C J20 e21 dL_whole_32 (Nat.le_of_ble_eq_true rfl) ⟨Nat.le_of_ble_eq_true rfl, Nat.le_of_ble_eq_true rfl⟩ ?_ Dp Bt Sq se
  intro Dp Bt Sq se
  refine xi_iload_n C.1 dL_whole_35 rfl 1 rfl ?_
  refine xi_iconst (v := nI 1) C.1 dL_whole_36 (by decide +kernel) ?_
  refine xi_iadd C.1 dL_whole_37 ?_
  refine xb_top (b := nI 11) (by decide +kernel) ?_
  refine xi_icmp_eq (tgt := 43) C.1 dL_whole_38 (by decide) (fun _ => ?_) (fun c => absurd (by decide +kernel) c)
  refine xi_iload_n C.1 dL_whole_43 rfl 1 rfl ?_
  refine xi_if_ne (tgt := 58) C.1 dL_whole_44 (by decide) (fun _ => ?_) (fun c => absurd c (by decide +kernel))
  refine xi_aload_n C.1 dL_whole_58 rfl 0 rfl ?_
  refine xi_iload_n C.1 dL_whole_59 rfl 1 rfl ?_
  refine xi_iconst (v := nI 0) C.1 dL_whole_60 (by decide +kernel) ?_
  refine xi_iload_n C.1 dL_whole_61 rfl 1 rfl ?_
  refine xi_iconst (v := nI 1) C.1 dL_whole_62 (by decide +kernel) ?_
  refine xi_isub C.1 dL_whole_63 ?_
  refine xb_top (b := nI 9) (by decide +kernel) ?_
  obtain ⟨m22, e22, H⟩ := xRun_c H
  have J22 := gg_q (by decide) J21 e22
  refine ow_3 (a1 := 10) (a2 := 0) (a3 := 9) C J21 e22 dL_whole_64 (Nat.le_of_ble_eq_true rfl) ⟨Nat.le_of_ble_eq_true rfl, Nat.le_of_ble_eq_true rfl⟩ ?_ Dp Bt Sq se
  intro Dp Bt Sq se
  refine xj_istore_n (lv2 := [(0, .ref (ad 0)), (1, .int (nI 10)), (2, .int (nI 1))]) C.1 dL_whole_67 rfl (by decide) [0, 1] [1, 2, 0] rfl ?_
  refine xi_iload_n C.1 dL_whole_68 rfl 2 rfl ?_
  refine xi_iload_n C.1 dL_whole_69 rfl 1 rfl ?_
  refine xi_if_ne (tgt := 78) C.1 dL_whole_70 (by decide) (fun _ => ?_) (fun c => absurd c (by decide +kernel))
  refine xi_iload_n C.1 dL_whole_78 rfl 1 rfl ?_
  refine xi_bipush (v := nI 6) C.1 dL_whole_79 (by decide +kernel) ?_
  refine xi_irem C.1 dL_whole_81 (by decide +kernel) ?_
  refine xb_top (b := nI 4) (by decide +kernel) ?_
  refine xi_if_ne (tgt := 90) C.1 dL_whole_82 (by decide) (fun _ => ?_) (fun c => absurd c (by decide +kernel))
  refine xi_iconst (v := nI 1) C.1 dL_whole_90 (by decide +kernel) ?_
  refine xi_icmp_eq (tgt := 96) C.1 dL_whole_91 (by decide) (fun _ => ?_) (fun c => absurd (by decide +kernel) c)
  refine xj_iinc (v := nI 11) (lv2 := [(0, .ref (ad 0)), (1, .int (nI 11)), (2, .int (nI 1))]) C.1 dL_whole_96 1 rfl (by decide +kernel) (by decide) [0, 2] [1, 0, 2] rfl ?_
  refine xi_goto (tgt := 10) C.1 dL_whole_99 (by decide) ?_
  refine xi_iload_n C.1 dL_whole_10 rfl 1 rfl ?_
  refine xi_bipush (v := nI 24) C.1 dL_whole_11 (by decide +kernel) ?_
  refine xi_icmp_ge (tgt := 102) C.1 dL_whole_13 (by decide) (fun c => absurd c (by decide +kernel)) (fun _ => ?_)
  refine xi_aload_n C.1 dL_whole_16 rfl 0 rfl ?_
  refine xi_iload_n C.1 dL_whole_17 rfl 1 rfl ?_
  refine xi_iload_n C.1 dL_whole_18 rfl 1 rfl ?_
  refine xi_bipush (v := nI 23) C.1 dL_whole_19 (by decide +kernel) ?_
  refine xi_icmp_ne (tgt := 29) C.1 dL_whole_21 (by decide) (fun _ => ?_) (fun c => absurd c (by decide +kernel))
  refine xi_sipush (v := nI 170) C.1 dL_whole_29 (by decide +kernel) ?_
  obtain ⟨m23, e23, H⟩ := xRun_c H
  have J23 := gg_q (by decide) J22 e23
  refine ow_0 (a1 := 11) (a2 := 170) (a3 := 0) C J22 e23 dL_whole_32 (Nat.le_of_ble_eq_true rfl) ⟨Nat.le_of_ble_eq_true rfl, Nat.le_of_ble_eq_true rfl⟩ ?_ Dp Bt Sq se
  intro Dp Bt Sq se
  refine xi_iload_n C.1 dL_whole_35 rfl 1 rfl ?_
  refine xi_iconst (v := nI 1) C.1 dL_whole_36 (by decide +kernel) ?_
  refine xi_iadd C.1 dL_whole_37 ?_
  refine xb_top (b := nI 12) (by decide +kernel) ?_
  refine xi_icmp_eq (tgt := 43) C.1 dL_whole_38 (by decide) (fun _ => ?_) (fun c => absurd (by decide +kernel) c)
  refine xi_iload_n C.1 dL_whole_43 rfl 1 rfl ?_
  refine xi_if_ne (tgt := 58) C.1 dL_whole_44 (by decide) (fun _ => ?_) (fun c => absurd c (by decide +kernel))
  refine xi_aload_n C.1 dL_whole_58 rfl 0 rfl ?_
  refine xi_iload_n C.1 dL_whole_59 rfl 1 rfl ?_
  refine xi_iconst (v := nI 0) C.1 dL_whole_60 (by decide +kernel) ?_
  refine xi_iload_n C.1 dL_whole_61 rfl 1 rfl ?_
  refine xi_iconst (v := nI 1) C.1 dL_whole_62 (by decide +kernel) ?_
  refine xi_isub C.1 dL_whole_63 ?_
  refine xb_top (b := nI 10) (by decide +kernel) ?_
  obtain ⟨m24, e24, H⟩ := xRun_c H
  have J24 := gg_q (by decide) J23 e24
  refine ow_3 (a1 := 11) (a2 := 0) (a3 := 10) C J23 e24 dL_whole_64 (Nat.le_of_ble_eq_true rfl) ⟨Nat.le_of_ble_eq_true rfl, Nat.le_of_ble_eq_true rfl⟩ ?_ Dp Bt Sq se
  intro Dp Bt Sq se
  refine xj_istore_n (lv2 := [(0, .ref (ad 0)), (1, .int (nI 11)), (2, .int (nI 1))]) C.1 dL_whole_67 rfl (by decide) [0, 1] [1, 2, 0] rfl ?_
  refine xi_iload_n C.1 dL_whole_68 rfl 2 rfl ?_
  refine xi_iload_n C.1 dL_whole_69 rfl 1 rfl ?_
  refine xi_if_ne (tgt := 78) C.1 dL_whole_70 (by decide) (fun _ => ?_) (fun c => absurd c (by decide +kernel))
  refine xi_iload_n C.1 dL_whole_78 rfl 1 rfl ?_
  refine xi_bipush (v := nI 6) C.1 dL_whole_79 (by decide +kernel) ?_
  refine xi_irem C.1 dL_whole_81 (by decide +kernel) ?_
  refine xb_top (b := nI 5) (by decide +kernel) ?_
  refine xi_if_ne (tgt := 90) C.1 dL_whole_82 (by decide) (fun _ => ?_) (fun c => absurd c (by decide +kernel))
  refine xi_iconst (v := nI 1) C.1 dL_whole_90 (by decide +kernel) ?_
  refine xi_icmp_eq (tgt := 96) C.1 dL_whole_91 (by decide) (fun _ => ?_) (fun c => absurd (by decide +kernel) c)
  refine xj_iinc (v := nI 12) (lv2 := [(0, .ref (ad 0)), (1, .int (nI 12)), (2, .int (nI 1))]) C.1 dL_whole_96 1 rfl (by decide +kernel) (by decide) [0, 2] [1, 0, 2] rfl ?_
  refine xi_goto (tgt := 10) C.1 dL_whole_99 (by decide) ?_
  refine xi_iload_n C.1 dL_whole_10 rfl 1 rfl ?_
  refine xi_bipush (v := nI 24) C.1 dL_whole_11 (by decide +kernel) ?_
  refine xi_icmp_ge (tgt := 102) C.1 dL_whole_13 (by decide) (fun c => absurd c (by decide +kernel)) (fun _ => ?_)
  refine xi_aload_n C.1 dL_whole_16 rfl 0 rfl ?_
  refine xi_iload_n C.1 dL_whole_17 rfl 1 rfl ?_
  refine xi_iload_n C.1 dL_whole_18 rfl 1 rfl ?_
  refine xi_bipush (v := nI 23) C.1 dL_whole_19 (by decide +kernel) ?_
  refine xi_icmp_ne (tgt := 29) C.1 dL_whole_21 (by decide) (fun _ => ?_) (fun c => absurd c (by decide +kernel))
  refine xi_sipush (v := nI 170) C.1 dL_whole_29 (by decide +kernel) ?_
  obtain ⟨m25, e25, H⟩ := xRun_c H
  have J25 := gg_q (by decide) J24 e25
  refine ow_0 (a1 := 12) (a2 := 170) (a3 := 0) C J24 e25 dL_whole_32 (Nat.le_of_ble_eq_true rfl) ⟨Nat.le_of_ble_eq_true rfl, Nat.le_of_ble_eq_true rfl⟩ ?_ Dp Bt Sq se
  intro Dp Bt Sq se
  refine xi_iload_n C.1 dL_whole_35 rfl 1 rfl ?_
  refine xi_iconst (v := nI 1) C.1 dL_whole_36 (by decide +kernel) ?_
  refine xi_iadd C.1 dL_whole_37 ?_
  refine xb_top (b := nI 13) (by decide +kernel) ?_
  refine xi_icmp_eq (tgt := 43) C.1 dL_whole_38 (by decide) (fun _ => ?_) (fun c => absurd (by decide +kernel) c)
  refine xi_iload_n C.1 dL_whole_43 rfl 1 rfl ?_
  refine xi_if_ne (tgt := 58) C.1 dL_whole_44 (by decide) (fun _ => ?_) (fun c => absurd c (by decide +kernel))
  refine xi_aload_n C.1 dL_whole_58 rfl 0 rfl ?_
  refine xi_iload_n C.1 dL_whole_59 rfl 1 rfl ?_
  refine xi_iconst (v := nI 0) C.1 dL_whole_60 (by decide +kernel) ?_
  refine xi_iload_n C.1 dL_whole_61 rfl 1 rfl ?_
  refine xi_iconst (v := nI 1) C.1 dL_whole_62 (by decide +kernel) ?_
  refine xi_isub C.1 dL_whole_63 ?_
  refine xb_top (b := nI 11) (by decide +kernel) ?_
  obtain ⟨m26, e26, H⟩ := xRun_c H
  have J26 := gg_q (by decide) J25 e26
  refine ow_3 (a1 := 12) (a2 := 0) (a3 := 11) C J25 e26 dL_whole_64 (Nat.le_of_ble_eq_true rfl) ⟨Nat.le_of_ble_eq_true rfl, Nat.le_of_ble_eq_true rfl⟩ ?_ Dp Bt Sq se
  intro Dp Bt Sq se
  refine xj_istore_n (lv2 := [(0, .ref (ad 0)), (1, .int (nI 12)), (2, .int (nI 6))]) C.1 dL_whole_67 rfl (by decide) [0, 1] [1, 2, 0] rfl ?_
  refine xi_iload_n C.1 dL_whole_68 rfl 2 rfl ?_
  refine xi_iload_n C.1 dL_whole_69 rfl 1 rfl ?_
  refine xi_if_ne (tgt := 78) C.1 dL_whole_70 (by decide) (fun _ => ?_) (fun c => absurd c (by decide +kernel))
  refine xi_iload_n C.1 dL_whole_78 rfl 1 rfl ?_
  refine xi_bipush (v := nI 6) C.1 dL_whole_79 (by decide +kernel) ?_
  refine xi_irem C.1 dL_whole_81 (by decide +kernel) ?_
  refine xb_top (b := nI 0) (by decide +kernel) ?_
  refine xi_if_ne (tgt := 90) C.1 dL_whole_82 (by decide) (fun c => absurd c (by decide +kernel)) (fun _ => ?_)
  refine xi_bipush (v := nI 6) C.1 dL_whole_85 (by decide +kernel) ?_
  refine xi_goto (tgt := 91) C.1 dL_whole_87 (by decide) ?_
  refine xi_icmp_eq (tgt := 96) C.1 dL_whole_91 (by decide) (fun _ => ?_) (fun c => absurd (by decide +kernel) c)
  refine xj_iinc (v := nI 13) (lv2 := [(0, .ref (ad 0)), (1, .int (nI 13)), (2, .int (nI 6))]) C.1 dL_whole_96 1 rfl (by decide +kernel) (by decide) [0, 2] [1, 0, 2] rfl ?_
  refine xi_goto (tgt := 10) C.1 dL_whole_99 (by decide) ?_
  refine xi_iload_n C.1 dL_whole_10 rfl 1 rfl ?_
  refine xi_bipush (v := nI 24) C.1 dL_whole_11 (by decide +kernel) ?_
  refine xi_icmp_ge (tgt := 102) C.1 dL_whole_13 (by decide) (fun c => absurd c (by decide +kernel)) (fun _ => ?_)
  refine xi_aload_n C.1 dL_whole_16 rfl 0 rfl ?_
  refine xi_iload_n C.1 dL_whole_17 rfl 1 rfl ?_
  refine xi_iload_n C.1 dL_whole_18 rfl 1 rfl ?_
  refine xi_bipush (v := nI 23) C.1 dL_whole_19 (by decide +kernel) ?_
  refine xi_icmp_ne (tgt := 29) C.1 dL_whole_21 (by decide) (fun _ => ?_) (fun c => absurd c (by decide +kernel))
  refine xi_sipush (v := nI 170) C.1 dL_whole_29 (by decide +kernel) ?_
  obtain ⟨m27, e27, H⟩ := xRun_c H
  have J27 := gg_q (by decide) J26 e27
  refine ow_0 (a1 := 13) (a2 := 170) (a3 := 0) C J26 e27 dL_whole_32 (Nat.le_of_ble_eq_true rfl) ⟨Nat.le_of_ble_eq_true rfl, Nat.le_of_ble_eq_true rfl⟩ ?_ Dp Bt Sq se
  intro Dp Bt Sq se
  refine xi_iload_n C.1 dL_whole_35 rfl 1 rfl ?_
  refine xi_iconst (v := nI 1) C.1 dL_whole_36 (by decide +kernel) ?_
  refine xi_iadd C.1 dL_whole_37 ?_
  refine xb_top (b := nI 14) (by decide +kernel) ?_
  refine xi_icmp_eq (tgt := 43) C.1 dL_whole_38 (by decide) (fun _ => ?_) (fun c => absurd (by decide +kernel) c)
  refine xi_iload_n C.1 dL_whole_43 rfl 1 rfl ?_
  refine xi_if_ne (tgt := 58) C.1 dL_whole_44 (by decide) (fun _ => ?_) (fun c => absurd c (by decide +kernel))
  refine xi_aload_n C.1 dL_whole_58 rfl 0 rfl ?_
  refine xi_iload_n C.1 dL_whole_59 rfl 1 rfl ?_
  refine xi_iconst (v := nI 0) C.1 dL_whole_60 (by decide +kernel) ?_
  refine xi_iload_n C.1 dL_whole_61 rfl 1 rfl ?_
  refine xi_iconst (v := nI 1) C.1 dL_whole_62 (by decide +kernel) ?_
  refine xi_isub C.1 dL_whole_63 ?_
  refine xb_top (b := nI 12) (by decide +kernel) ?_
  obtain ⟨m28, e28, H⟩ := xRun_c H
  have J28 := gg_q (by decide) J27 e28
  refine ow_3 (a1 := 13) (a2 := 0) (a3 := 12) C J27 e28 dL_whole_64 (Nat.le_of_ble_eq_true rfl) ⟨Nat.le_of_ble_eq_true rfl, Nat.le_of_ble_eq_true rfl⟩ ?_ Dp Bt Sq se
  intro Dp Bt Sq se
  refine xj_istore_n (lv2 := [(0, .ref (ad 0)), (1, .int (nI 13)), (2, .int (nI 1))]) C.1 dL_whole_67 rfl (by decide) [0, 1] [1, 2, 0] rfl ?_
  refine xi_iload_n C.1 dL_whole_68 rfl 2 rfl ?_
  refine xi_iload_n C.1 dL_whole_69 rfl 1 rfl ?_
  refine xi_if_ne (tgt := 78) C.1 dL_whole_70 (by decide) (fun _ => ?_) (fun c => absurd c (by decide +kernel))
  refine xi_iload_n C.1 dL_whole_78 rfl 1 rfl ?_
  refine xi_bipush (v := nI 6) C.1 dL_whole_79 (by decide +kernel) ?_
  refine xi_irem C.1 dL_whole_81 (by decide +kernel) ?_
  refine xb_top (b := nI 1) (by decide +kernel) ?_
  refine xi_if_ne (tgt := 90) C.1 dL_whole_82 (by decide) (fun _ => ?_) (fun c => absurd c (by decide +kernel))
  refine xi_iconst (v := nI 1) C.1 dL_whole_90 (by decide +kernel) ?_
  refine xi_icmp_eq (tgt := 96) C.1 dL_whole_91 (by decide) (fun _ => ?_) (fun c => absurd (by decide +kernel) c)
  refine xj_iinc (v := nI 14) (lv2 := [(0, .ref (ad 0)), (1, .int (nI 14)), (2, .int (nI 1))]) C.1 dL_whole_96 1 rfl (by decide +kernel) (by decide) [0, 2] [1, 0, 2] rfl ?_
  refine xi_goto (tgt := 10) C.1 dL_whole_99 (by decide) ?_
  refine xi_iload_n C.1 dL_whole_10 rfl 1 rfl ?_
  refine xi_bipush (v := nI 24) C.1 dL_whole_11 (by decide +kernel) ?_
  refine xi_icmp_ge (tgt := 102) C.1 dL_whole_13 (by decide) (fun c => absurd c (by decide +kernel)) (fun _ => ?_)
  refine xi_aload_n C.1 dL_whole_16 rfl 0 rfl ?_
  refine xi_iload_n C.1 dL_whole_17 rfl 1 rfl ?_
  refine xi_iload_n C.1 dL_whole_18 rfl 1 rfl ?_
  refine xi_bipush (v := nI 23) C.1 dL_whole_19 (by decide +kernel) ?_
  refine xi_icmp_ne (tgt := 29) C.1 dL_whole_21 (by decide) (fun _ => ?_) (fun c => absurd c (by decide +kernel))
  refine xi_sipush (v := nI 170) C.1 dL_whole_29 (by decide +kernel) ?_
  obtain ⟨m29, e29, H⟩ := xRun_c H
  have J29 := gg_q (by decide) J28 e29
  refine ow_0 (a1 := 14) (a2 := 170) (a3 := 0) C J28 e29 dL_whole_32 (Nat.le_of_ble_eq_true rfl) ⟨Nat.le_of_ble_eq_true rfl, Nat.le_of_ble_eq_true rfl⟩ ?_ Dp Bt Sq se
  intro Dp Bt Sq se
  refine xi_iload_n C.1 dL_whole_35 rfl 1 rfl ?_
  refine xi_iconst (v := nI 1) C.1 dL_whole_36 (by decide +kernel) ?_
  refine xi_iadd C.1 dL_whole_37 ?_
  refine xb_top (b := nI 15) (by decide +kernel) ?_
  refine xi_icmp_eq (tgt := 43) C.1 dL_whole_38 (by decide) (fun _ => ?_) (fun c => absurd (by decide +kernel) c)
  refine xi_iload_n C.1 dL_whole_43 rfl 1 rfl ?_
  refine xi_if_ne (tgt := 58) C.1 dL_whole_44 (by decide) (fun _ => ?_) (fun c => absurd c (by decide +kernel))
  refine xi_aload_n C.1 dL_whole_58 rfl 0 rfl ?_
  refine xi_iload_n C.1 dL_whole_59 rfl 1 rfl ?_
  refine xi_iconst (v := nI 0) C.1 dL_whole_60 (by decide +kernel) ?_
  refine xi_iload_n C.1 dL_whole_61 rfl 1 rfl ?_
  refine xi_iconst (v := nI 1) C.1 dL_whole_62 (by decide +kernel) ?_
  refine xi_isub C.1 dL_whole_63 ?_
  refine xb_top (b := nI 13) (by decide +kernel) ?_
  obtain ⟨m30, e30, H⟩ := xRun_c H
  have J30 := gg_q (by decide) J29 e30
  refine ow_3 (a1 := 14) (a2 := 0) (a3 := 13) C J29 e30 dL_whole_64 (Nat.le_of_ble_eq_true rfl) ⟨Nat.le_of_ble_eq_true rfl, Nat.le_of_ble_eq_true rfl⟩ ?_ Dp Bt Sq se
  intro Dp Bt Sq se
  refine xj_istore_n (lv2 := [(0, .ref (ad 0)), (1, .int (nI 14)), (2, .int (nI 1))]) C.1 dL_whole_67 rfl (by decide) [0, 1] [1, 2, 0] rfl ?_
  refine xi_iload_n C.1 dL_whole_68 rfl 2 rfl ?_
  refine xi_iload_n C.1 dL_whole_69 rfl 1 rfl ?_
  refine xi_if_ne (tgt := 78) C.1 dL_whole_70 (by decide) (fun _ => ?_) (fun c => absurd c (by decide +kernel))
  refine xi_iload_n C.1 dL_whole_78 rfl 1 rfl ?_
  refine xi_bipush (v := nI 6) C.1 dL_whole_79 (by decide +kernel) ?_
  refine xi_irem C.1 dL_whole_81 (by decide +kernel) ?_
  refine xb_top (b := nI 2) (by decide +kernel) ?_
  refine xi_if_ne (tgt := 90) C.1 dL_whole_82 (by decide) (fun _ => ?_) (fun c => absurd c (by decide +kernel))
  refine xi_iconst (v := nI 1) C.1 dL_whole_90 (by decide +kernel) ?_
  refine xi_icmp_eq (tgt := 96) C.1 dL_whole_91 (by decide) (fun _ => ?_) (fun c => absurd (by decide +kernel) c)
  refine xj_iinc (v := nI 15) (lv2 := [(0, .ref (ad 0)), (1, .int (nI 15)), (2, .int (nI 1))]) C.1 dL_whole_96 1 rfl (by decide +kernel) (by decide) [0, 2] [1, 0, 2] rfl ?_
  refine xi_goto (tgt := 10) C.1 dL_whole_99 (by decide) ?_
  refine xi_iload_n C.1 dL_whole_10 rfl 1 rfl ?_
  refine xi_bipush (v := nI 24) C.1 dL_whole_11 (by decide +kernel) ?_
  refine xi_icmp_ge (tgt := 102) C.1 dL_whole_13 (by decide) (fun c => absurd c (by decide +kernel)) (fun _ => ?_)
  refine xi_aload_n C.1 dL_whole_16 rfl 0 rfl ?_
  refine xi_iload_n C.1 dL_whole_17 rfl 1 rfl ?_
  refine xi_iload_n C.1 dL_whole_18 rfl 1 rfl ?_
  refine xi_bipush (v := nI 23) C.1 dL_whole_19 (by decide +kernel) ?_
  refine xi_icmp_ne (tgt := 29) C.1 dL_whole_21 (by decide) (fun _ => ?_) (fun c => absurd c (by decide +kernel))
  refine xi_sipush (v := nI 170) C.1 dL_whole_29 (by decide +kernel) ?_
  obtain ⟨m31, e31, H⟩ := xRun_c H
  have J31 := gg_q (by decide) J30 e31
  refine ow_0 (a1 := 15) (a2 := 170) (a3 := 0) C J30 e31 dL_whole_32 (Nat.le_of_ble_eq_true rfl) ⟨Nat.le_of_ble_eq_true rfl, Nat.le_of_ble_eq_true rfl⟩ ?_ Dp Bt Sq se
  intro Dp Bt Sq se
  refine xi_iload_n C.1 dL_whole_35 rfl 1 rfl ?_
  refine xi_iconst (v := nI 1) C.1 dL_whole_36 (by decide +kernel) ?_
  refine xi_iadd C.1 dL_whole_37 ?_
  refine xb_top (b := nI 16) (by decide +kernel) ?_
  refine xi_icmp_eq (tgt := 43) C.1 dL_whole_38 (by decide) (fun _ => ?_) (fun c => absurd (by decide +kernel) c)
  refine xi_iload_n C.1 dL_whole_43 rfl 1 rfl ?_
  refine xi_if_ne (tgt := 58) C.1 dL_whole_44 (by decide) (fun _ => ?_) (fun c => absurd c (by decide +kernel))
  refine xi_aload_n C.1 dL_whole_58 rfl 0 rfl ?_
  refine xi_iload_n C.1 dL_whole_59 rfl 1 rfl ?_
  refine xi_iconst (v := nI 0) C.1 dL_whole_60 (by decide +kernel) ?_
  refine xi_iload_n C.1 dL_whole_61 rfl 1 rfl ?_
  refine xi_iconst (v := nI 1) C.1 dL_whole_62 (by decide +kernel) ?_
  refine xi_isub C.1 dL_whole_63 ?_
  refine xb_top (b := nI 14) (by decide +kernel) ?_
  obtain ⟨m32, e32, H⟩ := xRun_c H
  have J32 := gg_q (by decide) J31 e32
  refine ow_3 (a1 := 15) (a2 := 0) (a3 := 14) C J31 e32 dL_whole_64 (Nat.le_of_ble_eq_true rfl) ⟨Nat.le_of_ble_eq_true rfl, Nat.le_of_ble_eq_true rfl⟩ ?_ Dp Bt Sq se
  intro Dp Bt Sq se
  refine xj_istore_n (lv2 := [(0, .ref (ad 0)), (1, .int (nI 15)), (2, .int (nI 1))]) C.1 dL_whole_67 rfl (by decide) [0, 1] [1, 2, 0] rfl ?_
  refine xi_iload_n C.1 dL_whole_68 rfl 2 rfl ?_
  refine xi_iload_n C.1 dL_whole_69 rfl 1 rfl ?_
  refine xi_if_ne (tgt := 78) C.1 dL_whole_70 (by decide) (fun _ => ?_) (fun c => absurd c (by decide +kernel))
  refine xi_iload_n C.1 dL_whole_78 rfl 1 rfl ?_
  refine xi_bipush (v := nI 6) C.1 dL_whole_79 (by decide +kernel) ?_
  refine xi_irem C.1 dL_whole_81 (by decide +kernel) ?_
  refine xb_top (b := nI 3) (by decide +kernel) ?_
  refine xi_if_ne (tgt := 90) C.1 dL_whole_82 (by decide) (fun _ => ?_) (fun c => absurd c (by decide +kernel))
  refine xi_iconst (v := nI 1) C.1 dL_whole_90 (by decide +kernel) ?_
  refine xi_icmp_eq (tgt := 96) C.1 dL_whole_91 (by decide) (fun _ => ?_) (fun c => absurd (by decide +kernel) c)
  refine xj_iinc (v := nI 16) (lv2 := [(0, .ref (ad 0)), (1, .int (nI 16)), (2, .int (nI 1))]) C.1 dL_whole_96 1 rfl (by decide +kernel) (by decide) [0, 2] [1, 0, 2] rfl ?_
  refine xi_goto (tgt := 10) C.1 dL_whole_99 (by decide) ?_
  refine xi_iload_n C.1 dL_whole_10 rfl 1 rfl ?_
  refine xi_bipush (v := nI 24) C.1 dL_whole_11 (by decide +kernel) ?_
  refine xi_icmp_ge (tgt := 102) C.1 dL_whole_13 (by decide) (fun c => absurd c (by decide +kernel)) (fun _ => ?_)
  refine xi_aload_n C.1 dL_whole_16 rfl 0 rfl ?_
  refine xi_iload_n C.1 dL_whole_17 rfl 1 rfl ?_
  refine xi_iload_n C.1 dL_whole_18 rfl 1 rfl ?_
  refine xi_bipush (v := nI 23) C.1 dL_whole_19 (by decide +kernel) ?_
  refine xi_icmp_ne (tgt := 29) C.1 dL_whole_21 (by decide) (fun _ => ?_) (fun c => absurd c (by decide +kernel))
  refine xi_sipush (v := nI 170) C.1 dL_whole_29 (by decide +kernel) ?_
  obtain ⟨m33, e33, H⟩ := xRun_c H
  have J33 := gg_q (by decide) J32 e33
  refine ow_0 (a1 := 16) (a2 := 170) (a3 := 0) C J32 e33 dL_whole_32 (Nat.le_of_ble_eq_true rfl) ⟨Nat.le_of_ble_eq_true rfl, Nat.le_of_ble_eq_true rfl⟩ ?_ Dp Bt Sq se
  intro Dp Bt Sq se
  refine xi_iload_n C.1 dL_whole_35 rfl 1 rfl ?_
  refine xi_iconst (v := nI 1) C.1 dL_whole_36 (by decide +kernel) ?_
  refine xi_iadd C.1 dL_whole_37 ?_
  refine xb_top (b := nI 17) (by decide +kernel) ?_
  refine xi_icmp_eq (tgt := 43) C.1 dL_whole_38 (by decide) (fun _ => ?_) (fun c => absurd (by decide +kernel) c)
  refine xi_iload_n C.1 dL_whole_43 rfl 1 rfl ?_
  refine xi_if_ne (tgt := 58) C.1 dL_whole_44 (by decide) (fun _ => ?_) (fun c => absurd c (by decide +kernel))
  refine xi_aload_n C.1 dL_whole_58 rfl 0 rfl ?_
  refine xi_iload_n C.1 dL_whole_59 rfl 1 rfl ?_
  refine xi_iconst (v := nI 0) C.1 dL_whole_60 (by decide +kernel) ?_
  refine xi_iload_n C.1 dL_whole_61 rfl 1 rfl ?_
  refine xi_iconst (v := nI 1) C.1 dL_whole_62 (by decide +kernel) ?_
  refine xi_isub C.1 dL_whole_63 ?_
  refine xb_top (b := nI 15) (by decide +kernel) ?_
  obtain ⟨m34, e34, H⟩ := xRun_c H
  have J34 := gg_q (by decide) J33 e34
  refine ow_3 (a1 := 16) (a2 := 0) (a3 := 15) C J33 e34 dL_whole_64 (Nat.le_of_ble_eq_true rfl) ⟨Nat.le_of_ble_eq_true rfl, Nat.le_of_ble_eq_true rfl⟩ ?_ Dp Bt Sq se
  intro Dp Bt Sq se
  refine xj_istore_n (lv2 := [(0, .ref (ad 0)), (1, .int (nI 16)), (2, .int (nI 1))]) C.1 dL_whole_67 rfl (by decide) [0, 1] [1, 2, 0] rfl ?_
  refine xi_iload_n C.1 dL_whole_68 rfl 2 rfl ?_
  refine xi_iload_n C.1 dL_whole_69 rfl 1 rfl ?_
  refine xi_if_ne (tgt := 78) C.1 dL_whole_70 (by decide) (fun _ => ?_) (fun c => absurd c (by decide +kernel))
  refine xi_iload_n C.1 dL_whole_78 rfl 1 rfl ?_
  refine xi_bipush (v := nI 6) C.1 dL_whole_79 (by decide +kernel) ?_
  refine xi_irem C.1 dL_whole_81 (by decide +kernel) ?_
  refine xb_top (b := nI 4) (by decide +kernel) ?_
  refine xi_if_ne (tgt := 90) C.1 dL_whole_82 (by decide) (fun _ => ?_) (fun c => absurd c (by decide +kernel))
  refine xi_iconst (v := nI 1) C.1 dL_whole_90 (by decide +kernel) ?_
  refine xi_icmp_eq (tgt := 96) C.1 dL_whole_91 (by decide) (fun _ => ?_) (fun c => absurd (by decide +kernel) c)
  refine xj_iinc (v := nI 17) (lv2 := [(0, .ref (ad 0)), (1, .int (nI 17)), (2, .int (nI 1))]) C.1 dL_whole_96 1 rfl (by decide +kernel) (by decide) [0, 2] [1, 0, 2] rfl ?_
  refine xi_goto (tgt := 10) C.1 dL_whole_99 (by decide) ?_
  refine xi_iload_n C.1 dL_whole_10 rfl 1 rfl ?_
  refine xi_bipush (v := nI 24) C.1 dL_whole_11 (by decide +kernel) ?_
  refine xi_icmp_ge (tgt := 102) C.1 dL_whole_13 (by decide) (fun c => absurd c (by decide +kernel)) (fun _ => ?_)
  refine xi_aload_n C.1 dL_whole_16 rfl 0 rfl ?_
  refine xi_iload_n C.1 dL_whole_17 rfl 1 rfl ?_
  refine xi_iload_n C.1 dL_whole_18 rfl 1 rfl ?_
  refine xi_bipush (v := nI 23) C.1 dL_whole_19 (by decide +kernel) ?_
  refine xi_icmp_ne (tgt := 29) C.1 dL_whole_21 (by decide) (fun _ => ?_) (fun c => absurd c (by decide +kernel))
  refine xi_sipush (v := nI 170) C.1 dL_whole_29 (by decide +kernel) ?_
  obtain ⟨m35, e35, H⟩ := xRun_c H
  have J35 := gg_q (by decide) J34 e35
  refine ow_0 (a1 := 17) (a2 := 170) (a3 := 0) C J34 e35 dL_whole_32 (Nat.le_of_ble_eq_true rfl) ⟨Nat.le_of_ble_eq_true rfl, Nat.le_of_ble_eq_true rfl⟩ ?_ Dp Bt Sq se
  intro Dp Bt Sq se
  refine xi_iload_n C.1 dL_whole_35 rfl 1 rfl ?_
  refine xi_iconst (v := nI 1) C.1 dL_whole_36 (by decide +kernel) ?_
  refine xi_iadd C.1 dL_whole_37 ?_
  refine xb_top (b := nI 18) (by decide +kernel) ?_
  refine xi_icmp_eq (tgt := 43) C.1 dL_whole_38 (by decide) (fun _ => ?_) (fun c => absurd (by decide +kernel) c)
  refine xi_iload_n C.1 dL_whole_43 rfl 1 rfl ?_
  refine xi_if_ne (tgt := 58) C.1 dL_whole_44 (by decide) (fun _ => ?_) (fun c => absurd c (by decide +kernel))
  refine xi_aload_n C.1 dL_whole_58 rfl 0 rfl ?_
  refine xi_iload_n C.1 dL_whole_59 rfl 1 rfl ?_
  refine xi_iconst (v := nI 0) C.1 dL_whole_60 (by decide +kernel) ?_
  refine xi_iload_n C.1 dL_whole_61 rfl 1 rfl ?_
  refine xi_iconst (v := nI 1) C.1 dL_whole_62 (by decide +kernel) ?_
  refine xi_isub C.1 dL_whole_63 ?_
  refine xb_top (b := nI 16) (by decide +kernel) ?_
  obtain ⟨m36, e36, H⟩ := xRun_c H
  have J36 := gg_q (by decide) J35 e36
  refine ow_3 (a1 := 17) (a2 := 0) (a3 := 16) C J35 e36 dL_whole_64 (Nat.le_of_ble_eq_true rfl) ⟨Nat.le_of_ble_eq_true rfl, Nat.le_of_ble_eq_true rfl⟩ ?_ Dp Bt Sq se
  intro Dp Bt Sq se
  refine xj_istore_n (lv2 := [(0, .ref (ad 0)), (1, .int (nI 17)), (2, .int (nI 1))]) C.1 dL_whole_67 rfl (by decide) [0, 1] [1, 2, 0] rfl ?_
  refine xi_iload_n C.1 dL_whole_68 rfl 2 rfl ?_
  refine xi_iload_n C.1 dL_whole_69 rfl 1 rfl ?_
  refine xi_if_ne (tgt := 78) C.1 dL_whole_70 (by decide) (fun _ => ?_) (fun c => absurd c (by decide +kernel))
  refine xi_iload_n C.1 dL_whole_78 rfl 1 rfl ?_
  refine xi_bipush (v := nI 6) C.1 dL_whole_79 (by decide +kernel) ?_
  refine xi_irem C.1 dL_whole_81 (by decide +kernel) ?_
  refine xb_top (b := nI 5) (by decide +kernel) ?_
  refine xi_if_ne (tgt := 90) C.1 dL_whole_82 (by decide) (fun _ => ?_) (fun c => absurd c (by decide +kernel))
  refine xi_iconst (v := nI 1) C.1 dL_whole_90 (by decide +kernel) ?_
  refine xi_icmp_eq (tgt := 96) C.1 dL_whole_91 (by decide) (fun _ => ?_) (fun c => absurd (by decide +kernel) c)
  refine xj_iinc (v := nI 18) (lv2 := [(0, .ref (ad 0)), (1, .int (nI 18)), (2, .int (nI 1))]) C.1 dL_whole_96 1 rfl (by decide +kernel) (by decide) [0, 2] [1, 0, 2] rfl ?_
  refine xi_goto (tgt := 10) C.1 dL_whole_99 (by decide) ?_
  refine xi_iload_n C.1 dL_whole_10 rfl 1 rfl ?_
  refine xi_bipush (v := nI 24) C.1 dL_whole_11 (by decide +kernel) ?_
  refine xi_icmp_ge (tgt := 102) C.1 dL_whole_13 (by decide) (fun c => absurd c (by decide +kernel)) (fun _ => ?_)
  refine xi_aload_n C.1 dL_whole_16 rfl 0 rfl ?_
  refine xi_iload_n C.1 dL_whole_17 rfl 1 rfl ?_
  refine xi_iload_n C.1 dL_whole_18 rfl 1 rfl ?_
  refine xi_bipush (v := nI 23) C.1 dL_whole_19 (by decide +kernel) ?_
  refine xi_icmp_ne (tgt := 29) C.1 dL_whole_21 (by decide) (fun _ => ?_) (fun c => absurd c (by decide +kernel))
  refine xi_sipush (v := nI 170) C.1 dL_whole_29 (by decide +kernel) ?_
  obtain ⟨m37, e37, H⟩ := xRun_c H
  have J37 := gg_q (by decide) J36 e37
  refine ow_0 (a1 := 18) (a2 := 170) (a3 := 0) C J36 e37 dL_whole_32 (Nat.le_of_ble_eq_true rfl) ⟨Nat.le_of_ble_eq_true rfl, Nat.le_of_ble_eq_true rfl⟩ ?_ Dp Bt Sq se
  intro Dp Bt Sq se
  refine xi_iload_n C.1 dL_whole_35 rfl 1 rfl ?_
  refine xi_iconst (v := nI 1) C.1 dL_whole_36 (by decide +kernel) ?_
  refine xi_iadd C.1 dL_whole_37 ?_
  refine xb_top (b := nI 19) (by decide +kernel) ?_
  refine xi_icmp_eq (tgt := 43) C.1 dL_whole_38 (by decide) (fun _ => ?_) (fun c => absurd (by decide +kernel) c)
  refine xi_iload_n C.1 dL_whole_43 rfl 1 rfl ?_
  refine xi_if_ne (tgt := 58) C.1 dL_whole_44 (by decide) (fun _ => ?_) (fun c => absurd c (by decide +kernel))
  refine xi_aload_n C.1 dL_whole_58 rfl 0 rfl ?_
  refine xi_iload_n C.1 dL_whole_59 rfl 1 rfl ?_
  refine xi_iconst (v := nI 0) C.1 dL_whole_60 (by decide +kernel) ?_
  refine xi_iload_n C.1 dL_whole_61 rfl 1 rfl ?_
  refine xi_iconst (v := nI 1) C.1 dL_whole_62 (by decide +kernel) ?_
  refine xi_isub C.1 dL_whole_63 ?_
  refine xb_top (b := nI 17) (by decide +kernel) ?_
  obtain ⟨m38, e38, H⟩ := xRun_c H
  have J38 := gg_q (by decide) J37 e38
  refine ow_3 (a1 := 18) (a2 := 0) (a3 := 17) C J37 e38 dL_whole_64 (Nat.le_of_ble_eq_true rfl) ⟨Nat.le_of_ble_eq_true rfl, Nat.le_of_ble_eq_true rfl⟩ ?_ Dp Bt Sq se
  intro Dp Bt Sq se
  refine xj_istore_n (lv2 := [(0, .ref (ad 0)), (1, .int (nI 18)), (2, .int (nI 6))]) C.1 dL_whole_67 rfl (by decide) [0, 1] [1, 2, 0] rfl ?_
  refine xi_iload_n C.1 dL_whole_68 rfl 2 rfl ?_
  refine xi_iload_n C.1 dL_whole_69 rfl 1 rfl ?_
  refine xi_if_ne (tgt := 78) C.1 dL_whole_70 (by decide) (fun _ => ?_) (fun c => absurd c (by decide +kernel))
  refine xi_iload_n C.1 dL_whole_78 rfl 1 rfl ?_
  refine xi_bipush (v := nI 6) C.1 dL_whole_79 (by decide +kernel) ?_
  refine xi_irem C.1 dL_whole_81 (by decide +kernel) ?_
  refine xb_top (b := nI 0) (by decide +kernel) ?_
  refine xi_if_ne (tgt := 90) C.1 dL_whole_82 (by decide) (fun c => absurd c (by decide +kernel)) (fun _ => ?_)
  refine xi_bipush (v := nI 6) C.1 dL_whole_85 (by decide +kernel) ?_
  refine xi_goto (tgt := 91) C.1 dL_whole_87 (by decide) ?_
  refine xi_icmp_eq (tgt := 96) C.1 dL_whole_91 (by decide) (fun _ => ?_) (fun c => absurd (by decide +kernel) c)
  refine xj_iinc (v := nI 19) (lv2 := [(0, .ref (ad 0)), (1, .int (nI 19)), (2, .int (nI 6))]) C.1 dL_whole_96 1 rfl (by decide +kernel) (by decide) [0, 2] [1, 0, 2] rfl ?_
  refine xi_goto (tgt := 10) C.1 dL_whole_99 (by decide) ?_
  refine xi_iload_n C.1 dL_whole_10 rfl 1 rfl ?_
  refine xi_bipush (v := nI 24) C.1 dL_whole_11 (by decide +kernel) ?_
  refine xi_icmp_ge (tgt := 102) C.1 dL_whole_13 (by decide) (fun c => absurd c (by decide +kernel)) (fun _ => ?_)
  refine xi_aload_n C.1 dL_whole_16 rfl 0 rfl ?_
  refine xi_iload_n C.1 dL_whole_17 rfl 1 rfl ?_
  refine xi_iload_n C.1 dL_whole_18 rfl 1 rfl ?_
  refine xi_bipush (v := nI 23) C.1 dL_whole_19 (by decide +kernel) ?_
  refine xi_icmp_ne (tgt := 29) C.1 dL_whole_21 (by decide) (fun _ => ?_) (fun c => absurd c (by decide +kernel))
  refine xi_sipush (v := nI 170) C.1 dL_whole_29 (by decide +kernel) ?_
  obtain ⟨m39, e39, H⟩ := xRun_c H
  have J39 := gg_q (by decide) J38 e39
  refine ow_0 (a1 := 19) (a2 := 170) (a3 := 0) C J38 e39 dL_whole_32 (Nat.le_of_ble_eq_true rfl) ⟨Nat.le_of_ble_eq_true rfl, Nat.le_of_ble_eq_true rfl⟩ ?_ Dp Bt Sq se
  intro Dp Bt Sq se
  refine xi_iload_n C.1 dL_whole_35 rfl 1 rfl ?_
  refine xi_iconst (v := nI 1) C.1 dL_whole_36 (by decide +kernel) ?_
  refine xi_iadd C.1 dL_whole_37 ?_
  refine xb_top (b := nI 20) (by decide +kernel) ?_
  refine xi_icmp_eq (tgt := 43) C.1 dL_whole_38 (by decide) (fun _ => ?_) (fun c => absurd (by decide +kernel) c)
  refine xi_iload_n C.1 dL_whole_43 rfl 1 rfl ?_
  refine xi_if_ne (tgt := 58) C.1 dL_whole_44 (by decide) (fun _ => ?_) (fun c => absurd c (by decide +kernel))
  refine xi_aload_n C.1 dL_whole_58 rfl 0 rfl ?_
  refine xi_iload_n C.1 dL_whole_59 rfl 1 rfl ?_
  refine xi_iconst (v := nI 0) C.1 dL_whole_60 (by decide +kernel) ?_
  refine xi_iload_n C.1 dL_whole_61 rfl 1 rfl ?_
  refine xi_iconst (v := nI 1) C.1 dL_whole_62 (by decide +kernel) ?_
  refine xi_isub C.1 dL_whole_63 ?_
  refine xb_top (b := nI 18) (by decide +kernel) ?_
  obtain ⟨m40, e40, H⟩ := xRun_c H
  have J40 := gg_q (by decide) J39 e40
  refine ow_3 (a1 := 19) (a2 := 0) (a3 := 18) C J39 e40 dL_whole_64 (Nat.le_of_ble_eq_true rfl) ⟨Nat.le_of_ble_eq_true rfl, Nat.le_of_ble_eq_true rfl⟩ ?_ Dp Bt Sq se
  intro Dp Bt Sq se
  refine xj_istore_n (lv2 := [(0, .ref (ad 0)), (1, .int (nI 19)), (2, .int (nI 1))]) C.1 dL_whole_67 rfl (by decide) [0, 1] [1, 2, 0] rfl ?_
  refine xi_iload_n C.1 dL_whole_68 rfl 2 rfl ?_
  refine xi_iload_n C.1 dL_whole_69 rfl 1 rfl ?_
  refine xi_if_ne (tgt := 78) C.1 dL_whole_70 (by decide) (fun _ => ?_) (fun c => absurd c (by decide +kernel))
  refine xi_iload_n C.1 dL_whole_78 rfl 1 rfl ?_
  refine xi_bipush (v := nI 6) C.1 dL_whole_79 (by decide +kernel) ?_
  refine xi_irem C.1 dL_whole_81 (by decide +kernel) ?_
  refine xb_top (b := nI 1) (by decide +kernel) ?_
  refine xi_if_ne (tgt := 90) C.1 dL_whole_82 (by decide) (fun _ => ?_) (fun c => absurd c (by decide +kernel))
  refine xi_iconst (v := nI 1) C.1 dL_whole_90 (by decide +kernel) ?_
  refine xi_icmp_eq (tgt := 96) C.1 dL_whole_91 (by decide) (fun _ => ?_) (fun c => absurd (by decide +kernel) c)
  refine xj_iinc (v := nI 20) (lv2 := [(0, .ref (ad 0)), (1, .int (nI 20)), (2, .int (nI 1))]) C.1 dL_whole_96 1 rfl (by decide +kernel) (by decide) [0, 2] [1, 0, 2] rfl ?_
  refine xi_goto (tgt := 10) C.1 dL_whole_99 (by decide) ?_
  refine xi_iload_n C.1 dL_whole_10 rfl 1 rfl ?_
  refine xi_bipush (v := nI 24) C.1 dL_whole_11 (by decide +kernel) ?_
  refine xi_icmp_ge (tgt := 102) C.1 dL_whole_13 (by decide) (fun c => absurd c (by decide +kernel)) (fun _ => ?_)
  refine xi_aload_n C.1 dL_whole_16 rfl 0 rfl ?_
  refine xi_iload_n C.1 dL_whole_17 rfl 1 rfl ?_
  refine xi_iload_n C.1 dL_whole_18 rfl 1 rfl ?_
  refine xi_bipush (v := nI 23) C.1 dL_whole_19 (by decide +kernel) ?_
  refine xi_icmp_ne (tgt := 29) C.1 dL_whole_21 (by decide) (fun _ => ?_) (fun c => absurd c (by decide +kernel))
  refine xi_sipush (v := nI 170) C.1 dL_whole_29 (by decide +kernel) ?_
  obtain ⟨m41, e41, H⟩ := xRun_c H
  have J41 := gg_q (by decide) J40 e41
  refine ow_0 (a1 := 20) (a2 := 170) (a3 := 0) C J40 e41 dL_whole_32 (Nat.le_of_ble_eq_true rfl) ⟨Nat.le_of_ble_eq_true rfl, Nat.le_of_ble_eq_true rfl⟩ ?_ Dp Bt Sq se
  intro Dp Bt Sq se
  refine xi_iload_n C.1 dL_whole_35 rfl 1 rfl ?_
  refine xi_iconst (v := nI 1) C.1 dL_whole_36 (by decide +kernel) ?_
  refine xi_iadd C.1 dL_whole_37 ?_
  refine xb_top (b := nI 21) (by decide +kernel) ?_
  refine xi_icmp_eq (tgt := 43) C.1 dL_whole_38 (by decide) (fun _ => ?_) (fun c => absurd (by decide +kernel) c)
  refine xi_iload_n C.1 dL_whole_43 rfl 1 rfl ?_
  refine xi_if_ne (tgt := 58) C.1 dL_whole_44 (by decide) (fun _ => ?_) (fun c => absurd c (by decide +kernel))
  refine xi_aload_n C.1 dL_whole_58 rfl 0 rfl ?_
  refine xi_iload_n C.1 dL_whole_59 rfl 1 rfl ?_
  refine xi_iconst (v := nI 0) C.1 dL_whole_60 (by decide +kernel) ?_
  refine xi_iload_n C.1 dL_whole_61 rfl 1 rfl ?_
  refine xi_iconst (v := nI 1) C.1 dL_whole_62 (by decide +kernel) ?_
  refine xi_isub C.1 dL_whole_63 ?_
  refine xb_top (b := nI 19) (by decide +kernel) ?_
  obtain ⟨m42, e42, H⟩ := xRun_c H
  have J42 := gg_q (by decide) J41 e42
  refine ow_3 (a1 := 20) (a2 := 0) (a3 := 19) C J41 e42 dL_whole_64 (Nat.le_of_ble_eq_true rfl) ⟨Nat.le_of_ble_eq_true rfl, Nat.le_of_ble_eq_true rfl⟩ ?_ Dp Bt Sq se
  intro Dp Bt Sq se
  refine xj_istore_n (lv2 := [(0, .ref (ad 0)), (1, .int (nI 20)), (2, .int (nI 1))]) C.1 dL_whole_67 rfl (by decide) [0, 1] [1, 2, 0] rfl ?_
  refine xi_iload_n C.1 dL_whole_68 rfl 2 rfl ?_
  refine xi_iload_n C.1 dL_whole_69 rfl 1 rfl ?_
  refine xi_if_ne (tgt := 78) C.1 dL_whole_70 (by decide) (fun _ => ?_) (fun c => absurd c (by decide +kernel))
  refine xi_iload_n C.1 dL_whole_78 rfl 1 rfl ?_
  refine xi_bipush (v := nI 6) C.1 dL_whole_79 (by decide +kernel) ?_
  refine xi_irem C.1 dL_whole_81 (by decide +kernel) ?_
  refine xb_top (b := nI 2) (by decide +kernel) ?_
  refine xi_if_ne (tgt := 90) C.1 dL_whole_82 (by decide) (fun _ => ?_) (fun c => absurd c (by decide +kernel))
  refine xi_iconst (v := nI 1) C.1 dL_whole_90 (by decide +kernel) ?_
  refine xi_icmp_eq (tgt := 96) C.1 dL_whole_91 (by decide) (fun _ => ?_) (fun c => absurd (by decide +kernel) c)
  refine xj_iinc (v := nI 21) (lv2 := [(0, .ref (ad 0)), (1, .int (nI 21)), (2, .int (nI 1))]) C.1 dL_whole_96 1 rfl (by decide +kernel) (by decide) [0, 2] [1, 0, 2] rfl ?_
  refine xi_goto (tgt := 10) C.1 dL_whole_99 (by decide) ?_
  refine xi_iload_n C.1 dL_whole_10 rfl 1 rfl ?_
  refine xi_bipush (v := nI 24) C.1 dL_whole_11 (by decide +kernel) ?_
  refine xi_icmp_ge (tgt := 102) C.1 dL_whole_13 (by decide) (fun c => absurd c (by decide +kernel)) (fun _ => ?_)
  refine xi_aload_n C.1 dL_whole_16 rfl 0 rfl ?_
  refine xi_iload_n C.1 dL_whole_17 rfl 1 rfl ?_
  refine xi_iload_n C.1 dL_whole_18 rfl 1 rfl ?_
  refine xi_bipush (v := nI 23) C.1 dL_whole_19 (by decide +kernel) ?_
  refine xi_icmp_ne (tgt := 29) C.1 dL_whole_21 (by decide) (fun _ => ?_) (fun c => absurd c (by decide +kernel))
  refine xi_sipush (v := nI 170) C.1 dL_whole_29 (by decide +kernel) ?_
  obtain ⟨m43, e43, H⟩ := xRun_c H
  have J43 := gg_q (by decide) J42 e43
  refine ow_0 (a1 := 21) (a2 := 170) (a3 := 0) C J42 e43 dL_whole_32 (Nat.le_of_ble_eq_true rfl) ⟨Nat.le_of_ble_eq_true rfl, Nat.le_of_ble_eq_true rfl⟩ ?_ Dp Bt Sq se
  intro Dp Bt Sq se
  refine xi_iload_n C.1 dL_whole_35 rfl 1 rfl ?_
  refine xi_iconst (v := nI 1) C.1 dL_whole_36 (by decide +kernel) ?_
  refine xi_iadd C.1 dL_whole_37 ?_
  refine xb_top (b := nI 22) (by decide +kernel) ?_
  refine xi_icmp_eq (tgt := 43) C.1 dL_whole_38 (by decide) (fun _ => ?_) (fun c => absurd (by decide +kernel) c)
  refine xi_iload_n C.1 dL_whole_43 rfl 1 rfl ?_
  refine xi_if_ne (tgt := 58) C.1 dL_whole_44 (by decide) (fun _ => ?_) (fun c => absurd c (by decide +kernel))
  refine xi_aload_n C.1 dL_whole_58 rfl 0 rfl ?_
  refine xi_iload_n C.1 dL_whole_59 rfl 1 rfl ?_
  refine xi_iconst (v := nI 0) C.1 dL_whole_60 (by decide +kernel) ?_
  refine xi_iload_n C.1 dL_whole_61 rfl 1 rfl ?_
  refine xi_iconst (v := nI 1) C.1 dL_whole_62 (by decide +kernel) ?_
  refine xi_isub C.1 dL_whole_63 ?_
  refine xb_top (b := nI 20) (by decide +kernel) ?_
  obtain ⟨m44, e44, H⟩ := xRun_c H
  have J44 := gg_q (by decide) J43 e44
  refine ow_3 (a1 := 21) (a2 := 0) (a3 := 20) C J43 e44 dL_whole_64 (Nat.le_of_ble_eq_true rfl) ⟨Nat.le_of_ble_eq_true rfl, Nat.le_of_ble_eq_true rfl⟩ ?_ Dp Bt Sq se
  intro Dp Bt Sq se
  refine xj_istore_n (lv2 := [(0, .ref (ad 0)), (1, .int (nI 21)), (2, .int (nI 1))]) C.1 dL_whole_67 rfl (by decide) [0, 1] [1, 2, 0] rfl ?_
  refine xi_iload_n C.1 dL_whole_68 rfl 2 rfl ?_
  refine xi_iload_n C.1 dL_whole_69 rfl 1 rfl ?_
  refine xi_if_ne (tgt := 78) C.1 dL_whole_70 (by decide) (fun _ => ?_) (fun c => absurd c (by decide +kernel))
  refine xi_iload_n C.1 dL_whole_78 rfl 1 rfl ?_
  refine xi_bipush (v := nI 6) C.1 dL_whole_79 (by decide +kernel) ?_
  refine xi_irem C.1 dL_whole_81 (by decide +kernel) ?_
  refine xb_top (b := nI 3) (by decide +kernel) ?_
  refine xi_if_ne (tgt := 90) C.1 dL_whole_82 (by decide) (fun _ => ?_) (fun c => absurd c (by decide +kernel))
  refine xi_iconst (v := nI 1) C.1 dL_whole_90 (by decide +kernel) ?_
  refine xi_icmp_eq (tgt := 96) C.1 dL_whole_91 (by decide) (fun _ => ?_) (fun c => absurd (by decide +kernel) c)
  refine xj_iinc (v := nI 22) (lv2 := [(0, .ref (ad 0)), (1, .int (nI 22)), (2, .int (nI 1))]) C.1 dL_whole_96 1 rfl (by decide +kernel) (by decide) [0, 2] [1, 0, 2] rfl ?_
  refine xi_goto (tgt := 10) C.1 dL_whole_99 (by decide) ?_
  refine xi_iload_n C.1 dL_whole_10 rfl 1 rfl ?_
  refine xi_bipush (v := nI 24) C.1 dL_whole_11 (by decide +kernel) ?_
  refine xi_icmp_ge (tgt := 102) C.1 dL_whole_13 (by decide) (fun c => absurd c (by decide +kernel)) (fun _ => ?_)
  refine xi_aload_n C.1 dL_whole_16 rfl 0 rfl ?_
  refine xi_iload_n C.1 dL_whole_17 rfl 1 rfl ?_
  refine xi_iload_n C.1 dL_whole_18 rfl 1 rfl ?_
  refine xi_bipush (v := nI 23) C.1 dL_whole_19 (by decide +kernel) ?_
  refine xi_icmp_ne (tgt := 29) C.1 dL_whole_21 (by decide) (fun _ => ?_) (fun c => absurd c (by decide +kernel))
  refine xi_sipush (v := nI 170) C.1 dL_whole_29 (by decide +kernel) ?_
  obtain ⟨m45, e45, H⟩ := xRun_c H
  have J45 := gg_q (by decide) J44 e45
  refine ow_0 (a1 := 22) (a2 := 170) (a3 := 0) C J44 e45 dL_whole_32 (Nat.le_of_ble_eq_true rfl) ⟨Nat.le_of_ble_eq_true rfl, Nat.le_of_ble_eq_true rfl⟩ ?_ Dp Bt Sq se
  intro Dp Bt Sq se
  refine xi_iload_n C.1 dL_whole_35 rfl 1 rfl ?_
  refine xi_iconst (v := nI 1) C.1 dL_whole_36 (by decide +kernel) ?_
  refine xi_iadd C.1 dL_whole_37 ?_
  refine xb_top (b := nI 23) (by decide +kernel) ?_
  refine xi_icmp_eq (tgt := 43) C.1 dL_whole_38 (by decide) (fun _ => ?_) (fun c => absurd (by decide +kernel) c)
  refine xi_iload_n C.1 dL_whole_43 rfl 1 rfl ?_
  refine xi_if_ne (tgt := 58) C.1 dL_whole_44 (by decide) (fun _ => ?_) (fun c => absurd c (by decide +kernel))
  refine xi_aload_n C.1 dL_whole_58 rfl 0 rfl ?_
  refine xi_iload_n C.1 dL_whole_59 rfl 1 rfl ?_
  refine xi_iconst (v := nI 0) C.1 dL_whole_60 (by decide +kernel) ?_
  refine xi_iload_n C.1 dL_whole_61 rfl 1 rfl ?_
  refine xi_iconst (v := nI 1) C.1 dL_whole_62 (by decide +kernel) ?_
  refine xi_isub C.1 dL_whole_63 ?_
  refine xb_top (b := nI 21) (by decide +kernel) ?_
  obtain ⟨m46, e46, H⟩ := xRun_c H
  have J46 := gg_q (by decide) J45 e46
  refine ow_3 (a1 := 22) (a2 := 0) (a3 := 21) C J45 e46 dL_whole_64 (Nat.le_of_ble_eq_true rfl) ⟨Nat.le_of_ble_eq_true rfl, Nat.le_of_ble_eq_true rfl⟩ ?_ Dp Bt Sq se
  intro Dp Bt Sq se
  refine xj_istore_n (lv2 := [(0, .ref (ad 0)), (1, .int (nI 22)), (2, .int (nI 1))]) C.1 dL_whole_67 rfl (by decide) [0, 1] [1, 2, 0] rfl ?_
  refine xi_iload_n C.1 dL_whole_68 rfl 2 rfl ?_
  refine xi_iload_n C.1 dL_whole_69 rfl 1 rfl ?_
  refine xi_if_ne (tgt := 78) C.1 dL_whole_70 (by decide) (fun _ => ?_) (fun c => absurd c (by decide +kernel))
  refine xi_iload_n C.1 dL_whole_78 rfl 1 rfl ?_
  refine xi_bipush (v := nI 6) C.1 dL_whole_79 (by decide +kernel) ?_
  refine xi_irem C.1 dL_whole_81 (by decide +kernel) ?_
  refine xb_top (b := nI 4) (by decide +kernel) ?_
  refine xi_if_ne (tgt := 90) C.1 dL_whole_82 (by decide) (fun _ => ?_) (fun c => absurd c (by decide +kernel))
  refine xi_iconst (v := nI 1) C.1 dL_whole_90 (by decide +kernel) ?_
  refine xi_icmp_eq (tgt := 96) C.1 dL_whole_91 (by decide) (fun _ => ?_) (fun c => absurd (by decide +kernel) c)
  refine xj_iinc (v := nI 23) (lv2 := [(0, .ref (ad 0)), (1, .int (nI 23)), (2, .int (nI 1))]) C.1 dL_whole_96 1 rfl (by decide +kernel) (by decide) [0, 2] [1, 0, 2] rfl ?_
  refine xi_goto (tgt := 10) C.1 dL_whole_99 (by decide) ?_
  refine xi_iload_n C.1 dL_whole_10 rfl 1 rfl ?_
  refine xi_bipush (v := nI 24) C.1 dL_whole_11 (by decide +kernel) ?_
  refine xi_icmp_ge (tgt := 102) C.1 dL_whole_13 (by decide) (fun c => absurd c (by decide +kernel)) (fun _ => ?_)
  refine xi_aload_n C.1 dL_whole_16 rfl 0 rfl ?_
  refine xi_iload_n C.1 dL_whole_17 rfl 1 rfl ?_
  refine xi_iload_n C.1 dL_whole_18 rfl 1 rfl ?_
  refine xi_bipush (v := nI 23) C.1 dL_whole_19 (by decide +kernel) ?_
  refine xi_icmp_ne (tgt := 29) C.1 dL_whole_21 (by decide) (fun c => absurd c (by decide +kernel)) (fun _ => ?_)
  refine xi_bipush (v := nI 85) C.1 dL_whole_24 (by decide +kernel) ?_
  refine xi_goto (tgt := 32) C.1 dL_whole_26 (by decide) ?_
  obtain ⟨m47, e47, H⟩ := xRun_c H
  have J47 := gg_q (by decide) J46 e47
  refine ow_0 (a1 := 23) (a2 := 85) (a3 := 0) C J46 e47 dL_whole_32 (Nat.le_of_ble_eq_true rfl) ⟨Nat.le_of_ble_eq_true rfl, Nat.le_of_ble_eq_true rfl⟩ ?_ Dp Bt Sq se
  intro Dp Bt Sq se
  refine xi_iload_n C.1 dL_whole_35 rfl 1 rfl ?_
  refine xi_iconst (v := nI 1) C.1 dL_whole_36 (by decide +kernel) ?_
  refine xi_iadd C.1 dL_whole_37 ?_
  refine xb_top (b := nI 24) (by decide +kernel) ?_
  refine xi_icmp_eq (tgt := 43) C.1 dL_whole_38 (by decide) (fun _ => ?_) (fun c => absurd (by decide +kernel) c)
  refine xi_iload_n C.1 dL_whole_43 rfl 1 rfl ?_
  refine xi_if_ne (tgt := 58) C.1 dL_whole_44 (by decide) (fun _ => ?_) (fun c => absurd c (by decide +kernel))
  refine xi_aload_n C.1 dL_whole_58 rfl 0 rfl ?_
  refine xi_iload_n C.1 dL_whole_59 rfl 1 rfl ?_
  refine xi_iconst (v := nI 0) C.1 dL_whole_60 (by decide +kernel) ?_
  refine xi_iload_n C.1 dL_whole_61 rfl 1 rfl ?_
  refine xi_iconst (v := nI 1) C.1 dL_whole_62 (by decide +kernel) ?_
  refine xi_isub C.1 dL_whole_63 ?_
  refine xb_top (b := nI 22) (by decide +kernel) ?_
  obtain ⟨m48, e48, H⟩ := xRun_c H
  have J48 := gg_q (by decide) J47 e48
  refine ow_3 (a1 := 23) (a2 := 0) (a3 := 22) C J47 e48 dL_whole_64 (Nat.le_of_ble_eq_true rfl) ⟨Nat.le_of_ble_eq_true rfl, Nat.le_of_ble_eq_true rfl⟩ ?_ Dp Bt Sq se
  intro Dp Bt Sq se
  refine xj_istore_n (lv2 := [(0, .ref (ad 0)), (1, .int (nI 23)), (2, .int (nI 1))]) C.1 dL_whole_67 rfl (by decide) [0, 1] [1, 2, 0] rfl ?_
  refine xi_iload_n C.1 dL_whole_68 rfl 2 rfl ?_
  refine xi_iload_n C.1 dL_whole_69 rfl 1 rfl ?_
  refine xi_if_ne (tgt := 78) C.1 dL_whole_70 (by decide) (fun _ => ?_) (fun c => absurd c (by decide +kernel))
  refine xi_iload_n C.1 dL_whole_78 rfl 1 rfl ?_
  refine xi_bipush (v := nI 6) C.1 dL_whole_79 (by decide +kernel) ?_
  refine xi_irem C.1 dL_whole_81 (by decide +kernel) ?_
  refine xb_top (b := nI 5) (by decide +kernel) ?_
  refine xi_if_ne (tgt := 90) C.1 dL_whole_82 (by decide) (fun _ => ?_) (fun c => absurd c (by decide +kernel))
  refine xi_iconst (v := nI 1) C.1 dL_whole_90 (by decide +kernel) ?_
  refine xi_icmp_eq (tgt := 96) C.1 dL_whole_91 (by decide) (fun _ => ?_) (fun c => absurd (by decide +kernel) c)
  refine xj_iinc (v := nI 24) (lv2 := [(0, .ref (ad 0)), (1, .int (nI 24)), (2, .int (nI 1))]) C.1 dL_whole_96 1 rfl (by decide +kernel) (by decide) [0, 2] [1, 0, 2] rfl ?_
  refine xi_goto (tgt := 10) C.1 dL_whole_99 (by decide) ?_
  refine xi_iload_n C.1 dL_whole_10 rfl 1 rfl ?_
  refine xi_bipush (v := nI 24) C.1 dL_whole_11 (by decide +kernel) ?_
  refine xi_icmp_ge (tgt := 102) C.1 dL_whole_13 (by decide) (fun _ => ?_) (fun c => absurd (by decide +kernel) c)
  refine xi_aload_n C.1 dL_whole_102 rfl 0 rfl ?_
  refine xi_iconst (v := nI 0) C.1 dL_whole_103 (by decide +kernel) ?_
  obtain ⟨m49, e49, H⟩ := xRun_c H
  have J49 := gg_q (by decide) J48 e49
  refine ow_21 (a1 := 0) (a2 := 0) (a3 := 0) C J48 e49 dL_whole_104 (Nat.le_of_ble_eq_true rfl) ⟨Nat.le_of_ble_eq_true rfl, Nat.le_of_ble_eq_true rfl⟩ ?_ Dp Bt Sq se
  intro Dp Bt Sq se
  refine xi_bipush (v := nI 24) C.1 dL_whole_107 (by decide +kernel) ?_
  refine xi_icmp_ne (tgt := 223) C.1 dL_whole_109 (by decide) (fun c => absurd c (by decide +kernel)) (fun _ => ?_)
  refine xi_aload_n C.1 dL_whole_112 rfl 0 rfl ?_
  refine xi_iconst (v := nI 1) C.1 dL_whole_113 (by decide +kernel) ?_
  obtain ⟨m50, e50, H⟩ := xRun_c H
  have J50 := gg_q (by decide) J49 e50
  refine ow_21 (a1 := 1) (a2 := 0) (a3 := 0) C J49 e50 dL_whole_114 (Nat.le_of_ble_eq_true rfl) ⟨Nat.le_of_ble_eq_true rfl, Nat.le_of_ble_eq_true rfl⟩ ?_ Dp Bt Sq se
  intro Dp Bt Sq se
  refine xi_bipush (v := nI 24) C.1 dL_whole_117 (by decide +kernel) ?_
  refine xi_icmp_ne (tgt := 223) C.1 dL_whole_119 (by decide) (fun c => absurd c (by decide +kernel)) (fun _ => ?_)
  refine xi_aload_n C.1 dL_whole_122 rfl 0 rfl ?_
  refine xi_iconst (v := nI 2) C.1 dL_whole_123 (by decide +kernel) ?_
  obtain ⟨m51, e51, H⟩ := xRun_c H
  have J51 := gg_q (by decide) J50 e51
  refine ow_21 (a1 := 2) (a2 := 0) (a3 := 0) C J50 e51 dL_whole_124 (Nat.le_of_ble_eq_true rfl) ⟨Nat.le_of_ble_eq_true rfl, Nat.le_of_ble_eq_true rfl⟩ ?_ Dp Bt Sq se
  intro Dp Bt Sq se
  refine xi_bipush (v := nI 46) C.1 dL_whole_127 (by decide +kernel) ?_
  refine xi_icmp_ne (tgt := 223) C.1 dL_whole_129 (by decide) (fun c => absurd c (by decide +kernel)) (fun _ => ?_)
  refine xi_aload_n C.1 dL_whole_132 rfl 0 rfl ?_
  refine xi_bipush (v := nI 23) C.1 dL_whole_133 (by decide +kernel) ?_
  refine xi_iconst (v := nI 4) C.1 dL_whole_135 (by decide +kernel) ?_
  obtain ⟨m52, e52, H⟩ := xRun_c H
  have J52 := gg_q (by decide) J51 e52
  refine ow_13 (a1 := 23) (a2 := 4) (a3 := 0) C J51 e52 dL_whole_136 (Nat.le_of_ble_eq_true rfl) ⟨Nat.le_of_ble_eq_true rfl, Nat.le_of_ble_eq_true rfl⟩ ?_ Dp Bt Sq se
  intro Dp Bt Sq se
  refine xi_bipush (v := nI 24) C.1 dL_whole_139 (by decide +kernel) ?_
  refine xi_icmp_ne (tgt := 223) C.1 dL_whole_141 (by decide) (fun c => absurd c (by decide +kernel)) (fun _ => ?_)
  refine xi_aload_n C.1 dL_whole_144 rfl 0 rfl ?_
  refine xi_bipush (v := nI 6) C.1 dL_whole_145 (by decide +kernel) ?_
  obtain ⟨m53, e53, H⟩ := xRun_c H
  have J53 := gg_q (by decide) J52 e53
  refine ow_21 (a1 := 6) (a2 := 0) (a3 := 0) C J52 e53 dL_whole_147 (Nat.le_of_ble_eq_true rfl) ⟨Nat.le_of_ble_eq_true rfl, Nat.le_of_ble_eq_true rfl⟩ ?_ Dp Bt Sq se
  intro Dp Bt Sq se
  refine xi_bipush (v := nI 24) C.1 dL_whole_150 (by decide +kernel) ?_
  refine xi_icmp_ne (tgt := 223) C.1 dL_whole_152 (by decide) (fun c => absurd c (by decide +kernel)) (fun _ => ?_)
  refine xi_aload_n C.1 dL_whole_155 rfl 0 rfl ?_
  refine xi_bipush (v := nI 23) C.1 dL_whole_156 (by decide +kernel) ?_
  refine xi_sipush (v := nI 128) C.1 dL_whole_158 (by decide +kernel) ?_
  obtain ⟨m54, e54, H⟩ := xRun_c H
  have J54 := gg_q (by decide) J53 e54
  refine ow_16 (a1 := 23) (a2 := 128) (a3 := 0) C J53 e54 dL_whole_161 (Nat.le_of_ble_eq_true rfl) ⟨Nat.le_of_ble_eq_true rfl, Nat.le_of_ble_eq_true rfl⟩ ?_ Dp Bt Sq se
  intro Dp Bt Sq se
  refine xi_if_ne (tgt := 223) C.1 dL_whole_164 (by decide) (fun c => absurd c (by decide +kernel)) (fun _ => ?_)
  refine xi_aload_n C.1 dL_whole_167 rfl 0 rfl ?_
  refine xi_bipush (v := nI 23) C.1 dL_whole_168 (by decide +kernel) ?_
  refine xi_bipush (v := nI 127) C.1 dL_whole_170 (by decide +kernel) ?_
  obtain ⟨m55, e55, H⟩ := xRun_c H
  have J55 := gg_q (by decide) J54 e55
  refine ow_16 (a1 := 23) (a2 := 127) (a3 := 0) C J54 e55 dL_whole_172 (Nat.le_of_ble_eq_true rfl) ⟨Nat.le_of_ble_eq_true rfl, Nat.le_of_ble_eq_true rfl⟩ ?_ Dp Bt Sq se
  intro Dp Bt Sq se
  refine xi_iconst (v := nI 1) C.1 dL_whole_175 (by decide +kernel) ?_
  refine xi_icmp_ne (tgt := 223) C.1 dL_whole_176 (by decide) (fun c => absurd c (by decide +kernel)) (fun _ => ?_)
  refine xi_aload_n C.1 dL_whole_179 rfl 0 rfl ?_
  refine xi_bipush (v := nI 22) C.1 dL_whole_180 (by decide +kernel) ?_
  refine xi_sipush (v := nI 128) C.1 dL_whole_182 (by decide +kernel) ?_
  obtain ⟨m56, e56, H⟩ := xRun_c H
  have J56 := gg_q (by decide) J55 e56
  refine ow_16 (a1 := 22) (a2 := 128) (a3 := 0) C J55 e56 dL_whole_185 (Nat.le_of_ble_eq_true rfl) ⟨Nat.le_of_ble_eq_true rfl, Nat.le_of_ble_eq_true rfl⟩ ?_ Dp Bt Sq se
  intro Dp Bt Sq se
  refine xi_iconst (v := nI 1) C.1 dL_whole_188 (by decide +kernel) ?_
  refine xi_icmp_ne (tgt := 223) C.1 dL_whole_189 (by decide) (fun c => absurd c (by decide +kernel)) (fun _ => ?_)
  refine xi_aload_n C.1 dL_whole_192 rfl 0 rfl ?_
  refine xi_bipush (v := nI 23) C.1 dL_whole_193 (by decide +kernel) ?_
  obtain ⟨m57, e57, H⟩ := xRun_c H
  have J57 := gg_q (by decide) J56 e57
  refine ow_17 (a1 := 23) (a2 := 0) (a3 := 0) C J56 e57 dL_whole_195 (Nat.le_of_ble_eq_true rfl) ⟨Nat.le_of_ble_eq_true rfl, Nat.le_of_ble_eq_true rfl⟩ ?_ Dp Bt Sq se
  intro Dp Bt Sq se
  refine xi_sipush (v := nI 128) C.1 dL_whole_198 (by decide +kernel) ?_
  refine xi_icmp_ne (tgt := 223) C.1 dL_whole_201 (by decide) (fun c => absurd c (by decide +kernel)) (fun _ => ?_)
  refine xi_aload_n C.1 dL_whole_204 rfl 0 rfl ?_
  refine xi_iconst (v := nI 0) C.1 dL_whole_205 (by decide +kernel) ?_
  obtain ⟨m58, e58, H⟩ := xRun_c H
  have J58 := gg_q (by decide) J57 e58
  refine ow_1 (a1 := 0) (a2 := 0) (a3 := 0) C J57 e58 dL_whole_206 (Nat.le_of_ble_eq_true rfl) ⟨Nat.le_of_ble_eq_true rfl, Nat.le_of_ble_eq_true rfl⟩ ?_ Dp Bt Sq se
  intro Dp Bt Sq se
  refine xi_bipush (v := nI 4294967292) C.1 dL_whole_209 (by decide +kernel) ?_
  refine xi_icmp_ne (tgt := 223) C.1 dL_whole_211 (by decide) (fun c => absurd c (by decide +kernel)) (fun _ => ?_)
  refine xi_aload_n C.1 dL_whole_214 rfl 0 rfl ?_
  refine xi_bipush (v := nI 23) C.1 dL_whole_215 (by decide +kernel) ?_
  obtain rfl : m58 = dM gm_whole_a := Option.some.inj H
  clear H
  refine oc_P (As := [.int (nI 23)]) (rest := []) C kL_refused (fun Dp Bt Sq se => m_refused D cI cC cZ cR ad ha J58 (p := 23) (by decide) so_whole Dp Bt Sq se) gB_refused dL_whole_217 ⟨by decide, by decide, Nat.le_of_ble_eq_true rfl⟩ rfl (Nat.le_of_ble_eq_true rfl) ⟨Nat.le_of_ble_eq_true rfl, Nat.le_of_ble_eq_true rfl⟩ ?_ Dp Bt Sq se
  intro Dp Bt Sq se
  have H := run_whole_b
  unfold sc_whole_b at H
  refine xi_if_ne (tgt := 225) C.1 dL_whole_220 (by decide) (fun _ => ?_) (fun c => absurd c (by decide +kernel))
  refine xi_aload_n C.1 dL_whole_225 rfl 0 rfl ?_
  refine xi_iconst (v := nI 0) C.1 dL_whole_226 (by decide +kernel) ?_
  refine xi_iconst (v := nI 0) C.1 dL_whole_227 (by decide +kernel) ?_
  refine xi_iconst (v := nI 0) C.1 dL_whole_228 (by decide +kernel) ?_
  obtain ⟨m59, e59, H⟩ := xRun_c H
  have J59 := gg_q (by decide) J58 e59
  refine ow_3 (a1 := 0) (a2 := 0) (a3 := 0) C J58 e59 dL_whole_229 (Nat.le_of_ble_eq_true rfl) ⟨Nat.le_of_ble_eq_true rfl, Nat.le_of_ble_eq_true rfl⟩ ?_ Dp Bt Sq se
  intro Dp Bt Sq se
  refine xi_if_ne (tgt := 310) C.1 dL_whole_232 (by decide) (fun c => absurd c (by decide +kernel)) (fun _ => ?_)
  refine xi_aload_n C.1 dL_whole_235 rfl 0 rfl ?_
  refine xi_iconst (v := nI 5) C.1 dL_whole_236 (by decide +kernel) ?_
  obtain ⟨m60, e60, H⟩ := xRun_c H
  have J60 := gg_q (by decide) J59 e60
  refine ow_21 (a1 := 5) (a2 := 0) (a3 := 0) C J59 e60 dL_whole_237 (Nat.le_of_ble_eq_true rfl) ⟨Nat.le_of_ble_eq_true rfl, Nat.le_of_ble_eq_true rfl⟩ ?_ Dp Bt Sq se
  intro Dp Bt Sq se
  refine xi_bipush (v := nI 24) C.1 dL_whole_240 (by decide +kernel) ?_
  refine xi_icmp_ne (tgt := 310) C.1 dL_whole_242 (by decide) (fun c => absurd c (by decide +kernel)) (fun _ => ?_)
  refine xi_aload_n C.1 dL_whole_245 rfl 0 rfl ?_
  refine xi_bipush (v := nI 6) C.1 dL_whole_246 (by decide +kernel) ?_
  obtain ⟨m61, e61, H⟩ := xRun_c H
  have J61 := gg_q (by decide) J60 e61
  refine ow_21 (a1 := 6) (a2 := 0) (a3 := 0) C J60 e61 dL_whole_248 (Nat.le_of_ble_eq_true rfl) ⟨Nat.le_of_ble_eq_true rfl, Nat.le_of_ble_eq_true rfl⟩ ?_ Dp Bt Sq se
  intro Dp Bt Sq se
  refine xi_if_ne (tgt := 310) C.1 dL_whole_251 (by decide) (fun c => absurd c (by decide +kernel)) (fun _ => ?_)
  refine xi_aload_n C.1 dL_whole_254 rfl 0 rfl ?_
  refine xi_iconst (v := nI 0) C.1 dL_whole_255 (by decide +kernel) ?_
  refine xi_iconst (v := nI 5) C.1 dL_whole_256 (by decide +kernel) ?_
  obtain ⟨m62, e62, H⟩ := xRun_c H
  have J62 := gg_q (by decide) J61 e62
  refine ow_13 (a1 := 0) (a2 := 5) (a3 := 0) C J61 e62 dL_whole_257 (Nat.le_of_ble_eq_true rfl) ⟨Nat.le_of_ble_eq_true rfl, Nat.le_of_ble_eq_true rfl⟩ ?_ Dp Bt Sq se
  intro Dp Bt Sq se
  refine xi_iconst (v := nI 2) C.1 dL_whole_260 (by decide +kernel) ?_
  refine xi_icmp_ne (tgt := 310) C.1 dL_whole_261 (by decide) (fun c => absurd c (by decide +kernel)) (fun _ => ?_)
  refine xi_aload_n C.1 dL_whole_264 rfl 0 rfl ?_
  refine xi_iconst (v := nI 5) C.1 dL_whole_265 (by decide +kernel) ?_
  refine xi_iconst (v := nI 1) C.1 dL_whole_266 (by decide +kernel) ?_
  obtain ⟨m63, e63, H⟩ := xRun_c H
  have J63 := gg_q (by decide) J62 e63
  refine ow_16 (a1 := 5) (a2 := 1) (a3 := 0) C J62 e63 dL_whole_267 (Nat.le_of_ble_eq_true rfl) ⟨Nat.le_of_ble_eq_true rfl, Nat.le_of_ble_eq_true rfl⟩ ?_ Dp Bt Sq se
  intro Dp Bt Sq se
  refine xi_bipush (v := nI 4294967291) C.1 dL_whole_270 (by decide +kernel) ?_
  refine xi_icmp_ne (tgt := 310) C.1 dL_whole_272 (by decide) (fun c => absurd c (by decide +kernel)) (fun _ => ?_)
  refine xi_aload_n C.1 dL_whole_275 rfl 0 rfl ?_
  refine xi_bipush (v := nI 23) C.1 dL_whole_276 (by decide +kernel) ?_
  obtain ⟨m64, e64, H⟩ := xRun_c H
  have J64 := gg_q (by decide) J63 e64
  refine ow_1 (a1 := 23) (a2 := 0) (a3 := 0) C J63 e64 dL_whole_278 (Nat.le_of_ble_eq_true rfl) ⟨Nat.le_of_ble_eq_true rfl, Nat.le_of_ble_eq_true rfl⟩ ?_ Dp Bt Sq se
  intro Dp Bt Sq se
  refine xi_bipush (v := nI 23) C.1 dL_whole_281 (by decide +kernel) ?_
  refine xi_icmp_ne (tgt := 310) C.1 dL_whole_283 (by decide) (fun c => absurd c (by decide +kernel)) (fun _ => ?_)
  refine xi_aload_n C.1 dL_whole_286 rfl 0 rfl ?_
  refine xi_iconst (v := nI 5) C.1 dL_whole_287 (by decide +kernel) ?_
  obtain ⟨m65, e65, H⟩ := xRun_c H
  have J65 := gg_q (by decide) J64 e65
  refine ow_21 (a1 := 5) (a2 := 0) (a3 := 0) C J64 e65 dL_whole_288 (Nat.le_of_ble_eq_true rfl) ⟨Nat.le_of_ble_eq_true rfl, Nat.le_of_ble_eq_true rfl⟩ ?_ Dp Bt Sq se
  intro Dp Bt Sq se
  refine xi_bipush (v := nI 23) C.1 dL_whole_291 (by decide +kernel) ?_
  refine xi_icmp_ne (tgt := 310) C.1 dL_whole_293 (by decide) (fun c => absurd c (by decide +kernel)) (fun _ => ?_)
  refine xi_aload_n C.1 dL_whole_296 rfl 0 rfl ?_
  refine xi_bipush (v := nI 22) C.1 dL_whole_297 (by decide +kernel) ?_
  refine xi_iconst (v := nI 5) C.1 dL_whole_299 (by decide +kernel) ?_
  obtain ⟨m66, e66, H⟩ := xRun_c H
  have J66 := gg_q (by decide) J65 e66
  refine ow_13 (a1 := 22) (a2 := 5) (a3 := 0) C J65 e66 dL_whole_300 (Nat.le_of_ble_eq_true rfl) ⟨Nat.le_of_ble_eq_true rfl, Nat.le_of_ble_eq_true rfl⟩ ?_ Dp Bt Sq se
  intro Dp Bt Sq se
  refine xi_if_ne (tgt := 310) C.1 dL_whole_303 (by decide) (fun c => absurd c (by decide +kernel)) (fun _ => ?_)
  refine xi_iconst (v := nI 1) C.1 dL_whole_306 (by decide +kernel) ?_
  refine xi_goto (tgt := 311) C.1 dL_whole_307 (by decide) ?_
  exact xi_zretP C.1 Z (Nat.le_of_ble_eq_true rfl) (Nat.le_of_ble_eq_true rfl) oN_nil ⟨rfl, rfl⟩ dL_whole_311 (by decide +kernel)
