/-! the law's checks by hand, along the way that is gone -/
def oN : Option Value → va_W → Prop := fun o w1 => o = some (.int 1) ∧ w1 = []
theorem oN_nil {D : va_G} {w : va_W} (H : Heap) (_ : va_P D vwCl w H) : va_P D vwCl [] H := fun k q hk => by simp at hk
theorem so_two : ∀ s, f_X0_sourceOf (dM gm_two_a).1.2.1 (nI 2 * 3 + nI 0) = some (nI s) → f_X0_isSource (dM gm_two_a).1.1 (nI s) = some (nI 1) := by
  intro s h
  have e : f_X0_sourceOf (dM gm_two_a).1.2.1 (nI 2 * 3 + nI 0) = some (nI 0) := s_X0_sourceOf (S := gm_two_a.1.2.1) (p1 := ga (gm 2 3) 0) (by decide +kernel) rfl (s_add (s_mul rfl rfl) rfl)
  rw [e] at h
  rw [← Option.some.inj h]
  exact s_X0_isSource (T := gm_two_a.1.1) (p1 := 0) (by decide +kernel) rfl rfl
set_option maxHeartbeats 8000000 in
set_option maxRecDepth 100000 in
theorem m_two (D : va_G) (cI cC cZ cR : ClassId) : xb_MP cL_two wsB_two RL rm_two (some .boolean) 1 (xb_ty cI cC cZ cR) D (va_AO RX0) [] [] oN 53 13855 := by
  intro X C0 E0 Z hfr
  have C : xb_LW X cL_two wsB_two rm_two (some .boolean) 1 (xb_ty cI cC cZ cR) D cI cC cZ cR := ⟨C0, su_two, rfl, by decide, by decide⟩
  show xb_G X 0 0 [] [] 0 []
  refine on_new C E0 ⟨Nat.le_of_ble_eq_true rfl, Nat.le_of_ble_eq_true rfl⟩ dL_two_0 dL_two_3 dL_two_4 (Nat.le_of_ble_eq_true rfl) (fun ad ha => ?_)
  intro Dp Bt Sq se
  have H := run_two_a
  unfold sc_two_a at H
  refine xj_astore_n (lv2 := [(0, .ref (ad 0))]) C.1 dL_two_7 rfl (by decide) [] [0] rfl ?_
  refine xi_aload_n C.1 dL_two_8 rfl 0 rfl ?_
  obtain ⟨m1, e1, H⟩ := xRun_c H
  have J1 := gg_q (by decide) GG_0 e1
  refine ow_10 (a1 := 0) (a2 := 0) (a3 := 0) C GG_0 e1 dL_two_9 (Nat.le_of_ble_eq_true rfl) ⟨Nat.le_of_ble_eq_true rfl, Nat.le_of_ble_eq_true rfl⟩ ?_ Dp Bt Sq se
  intro Dp Bt Sq se
  refine xi_bipush (v := nI 4294967291) C.1 dL_two_12 (by decide +kernel) ?_
  refine xi_icmp_ne (tgt := 296) C.1 dL_two_14 (by decide) (fun c => absurd c (by decide +kernel)) (fun _ => ?_)
  refine xi_aload_n C.1 dL_two_17 rfl 0 rfl ?_
  obtain ⟨m2, e2, H⟩ := xRun_c H
  have J2 := gg_q (by decide) J1 e2
  refine ow_12 (a1 := 0) (a2 := 0) (a3 := 0) C J1 e2 dL_two_18 (Nat.le_of_ble_eq_true rfl) ⟨Nat.le_of_ble_eq_true rfl, Nat.le_of_ble_eq_true rfl⟩ ?_ Dp Bt Sq se
  intro Dp Bt Sq se
  refine xi_bipush (v := nI 4294967291) C.1 dL_two_21 (by decide +kernel) ?_
  refine xi_icmp_ne (tgt := 296) C.1 dL_two_23 (by decide) (fun c => absurd c (by decide +kernel)) (fun _ => ?_)
  refine xi_aload_n C.1 dL_two_26 rfl 0 rfl ?_
  refine xi_iconst (v := nI 0) C.1 dL_two_27 (by decide +kernel) ?_
  obtain ⟨m3, e3, H⟩ := xRun_c H
  have J3 := gg_q (by decide) J2 e3
  refine ow_1 (a1 := 0) (a2 := 0) (a3 := 0) C J2 e3 dL_two_28 (Nat.le_of_ble_eq_true rfl) ⟨Nat.le_of_ble_eq_true rfl, Nat.le_of_ble_eq_true rfl⟩ ?_ Dp Bt Sq se
  intro Dp Bt Sq se
  refine xi_iconst (v := nI 4294967295) C.1 dL_two_31 (by decide +kernel) ?_
  refine xi_icmp_ne (tgt := 296) C.1 dL_two_32 (by decide) (fun c => absurd c (by decide +kernel)) (fun _ => ?_)
  refine xi_aload_n C.1 dL_two_35 rfl 0 rfl ?_
  refine xi_iconst (v := nI 0) C.1 dL_two_36 (by decide +kernel) ?_
  obtain ⟨m4, e4, H⟩ := xRun_c H
  have J4 := gg_q (by decide) J3 e4
  refine ow_5 (a1 := 0) (a2 := 0) (a3 := 0) C J3 e4 dL_two_37 (Nat.le_of_ble_eq_true rfl) ⟨Nat.le_of_ble_eq_true rfl, Nat.le_of_ble_eq_true rfl⟩ ?_ Dp Bt Sq se
  intro Dp Bt Sq se
  refine xi_if_ne (tgt := 296) C.1 dL_two_40 (by decide) (fun c => absurd c (by decide +kernel)) (fun _ => ?_)
  refine xi_aload_n C.1 dL_two_43 rfl 0 rfl ?_
  obtain ⟨m5, e5, H⟩ := xRun_c H
  have J5 := gg_q (by decide) J4 e5
  refine ow_10 (a1 := 0) (a2 := 0) (a3 := 0) C J4 e5 dL_two_44 (Nat.le_of_ble_eq_true rfl) ⟨Nat.le_of_ble_eq_true rfl, Nat.le_of_ble_eq_true rfl⟩ ?_ Dp Bt Sq se
  intro Dp Bt Sq se
  refine xi_if_ne (tgt := 296) C.1 dL_two_47 (by decide) (fun c => absurd c (by decide +kernel)) (fun _ => ?_)
  refine xi_aload_n C.1 dL_two_50 rfl 0 rfl ?_
  obtain ⟨m6, e6, H⟩ := xRun_c H
  have J6 := gg_q (by decide) J5 e6
  refine ow_20 (a1 := 0) (a2 := 0) (a3 := 0) C J5 e6 dL_two_51 (Nat.le_of_ble_eq_true rfl) ⟨Nat.le_of_ble_eq_true rfl, Nat.le_of_ble_eq_true rfl⟩ ?_ Dp Bt Sq se
  intro Dp Bt Sq se
  refine xi_if_ne (tgt := 296) C.1 dL_two_54 (by decide) (fun c => absurd c (by decide +kernel)) (fun _ => ?_)
  refine xi_aload_n C.1 dL_two_57 rfl 0 rfl ?_
  refine xi_iconst (v := nI 0) C.1 dL_two_58 (by decide +kernel) ?_
  refine xi_iconst (v := nI 1) C.1 dL_two_59 (by decide +kernel) ?_
  obtain ⟨m7, e7, H⟩ := xRun_c H
  have J7 := gg_q (by decide) J6 e7
  refine ow_4 (a1 := 0) (a2 := 1) (a3 := 0) C J6 e7 dL_two_60 (Nat.le_of_ble_eq_true rfl) ⟨Nat.le_of_ble_eq_true rfl, Nat.le_of_ble_eq_true rfl⟩ ?_ Dp Bt Sq se
  intro Dp Bt Sq se
  refine xi_bipush (v := nI 4294967291) C.1 dL_two_63 (by decide +kernel) ?_
  refine xi_icmp_ne (tgt := 296) C.1 dL_two_65 (by decide) (fun c => absurd c (by decide +kernel)) (fun _ => ?_)
  refine xi_aload_n C.1 dL_two_68 rfl 0 rfl ?_
  refine xi_iconst (v := nI 0) C.1 dL_two_69 (by decide +kernel) ?_
  refine xi_sipush (v := nI 128) C.1 dL_two_70 (by decide +kernel) ?_
  obtain ⟨m8, e8, H⟩ := xRun_c H
  have J8 := gg_q (by decide) J7 e8
  refine ow_0 (a1 := 0) (a2 := 128) (a3 := 0) C J7 e8 dL_two_73 (Nat.le_of_ble_eq_true rfl) ⟨Nat.le_of_ble_eq_true rfl, Nat.le_of_ble_eq_true rfl⟩ ?_ Dp Bt Sq se
  intro Dp Bt Sq se
  refine xi_iconst (v := nI 1) C.1 dL_two_76 (by decide +kernel) ?_
  refine xi_icmp_ne (tgt := 296) C.1 dL_two_77 (by decide) (fun c => absurd c (by decide +kernel)) (fun _ => ?_)
  refine xi_aload_n C.1 dL_two_80 rfl 0 rfl ?_
  refine xi_iconst (v := nI 2) C.1 dL_two_81 (by decide +kernel) ?_
  refine xi_sipush (v := nI 254) C.1 dL_two_82 (by decide +kernel) ?_
  obtain ⟨m9, e9, H⟩ := xRun_c H
  have J9 := gg_q (by decide) J8 e9
  refine ow_0 (a1 := 2) (a2 := 254) (a3 := 0) C J8 e9 dL_two_85 (Nat.le_of_ble_eq_true rfl) ⟨Nat.le_of_ble_eq_true rfl, Nat.le_of_ble_eq_true rfl⟩ ?_ Dp Bt Sq se
  intro Dp Bt Sq se
  refine xi_iconst (v := nI 2) C.1 dL_two_88 (by decide +kernel) ?_
  refine xi_icmp_ne (tgt := 296) C.1 dL_two_89 (by decide) (fun c => absurd c (by decide +kernel)) (fun _ => ?_)
  refine xi_aload_n C.1 dL_two_92 rfl 0 rfl ?_
  refine xi_iconst (v := nI 0) C.1 dL_two_93 (by decide +kernel) ?_
  refine xi_iconst (v := nI 0) C.1 dL_two_94 (by decide +kernel) ?_
  refine xi_bipush (v := nI 24) C.1 dL_two_95 (by decide +kernel) ?_
  obtain ⟨m10, e10, H⟩ := xRun_c H
  have J10 := gg_q (by decide) J9 e10
  refine ow_3 (a1 := 0) (a2 := 0) (a3 := 24) C J9 e10 dL_two_97 (Nat.le_of_ble_eq_true rfl) ⟨Nat.le_of_ble_eq_true rfl, Nat.le_of_ble_eq_true rfl⟩ ?_ Dp Bt Sq se
  intro Dp Bt Sq se
  refine xi_if_ne (tgt := 296) C.1 dL_two_100 (by decide) (fun c => absurd c (by decide +kernel)) (fun _ => ?_)
  refine xi_aload_n C.1 dL_two_103 rfl 0 rfl ?_
  refine xi_iconst (v := nI 0) C.1 dL_two_104 (by decide +kernel) ?_
  refine xi_iconst (v := nI 1) C.1 dL_two_105 (by decide +kernel) ?_
  refine xi_bipush (v := nI 25) C.1 dL_two_106 (by decide +kernel) ?_
  obtain ⟨m11, e11, H⟩ := xRun_c H
  have J11 := gg_q (by decide) J10 e11
  refine ow_3 (a1 := 0) (a2 := 1) (a3 := 25) C J10 e11 dL_two_108 (Nat.le_of_ble_eq_true rfl) ⟨Nat.le_of_ble_eq_true rfl, Nat.le_of_ble_eq_true rfl⟩ ?_ Dp Bt Sq se
  intro Dp Bt Sq se
  refine xi_iconst (v := nI 1) C.1 dL_two_111 (by decide +kernel) ?_
  refine xi_icmp_ne (tgt := 296) C.1 dL_two_112 (by decide) (fun c => absurd c (by decide +kernel)) (fun _ => ?_)
  refine xi_aload_n C.1 dL_two_115 rfl 0 rfl ?_
  refine xi_iconst (v := nI 0) C.1 dL_two_116 (by decide +kernel) ?_
  refine xi_iconst (v := nI 2) C.1 dL_two_117 (by decide +kernel) ?_
  refine xi_bipush (v := nI 33) C.1 dL_two_118 (by decide +kernel) ?_
  obtain ⟨m12, e12, H⟩ := xRun_c H
  have J12 := gg_q (by decide) J11 e12
  refine ow_3 (a1 := 0) (a2 := 2) (a3 := 33) C J11 e12 dL_two_120 (Nat.le_of_ble_eq_true rfl) ⟨Nat.le_of_ble_eq_true rfl, Nat.le_of_ble_eq_true rfl⟩ ?_ Dp Bt Sq se
  intro Dp Bt Sq se
  refine xi_if_ne (tgt := 296) C.1 dL_two_123 (by decide) (fun c => absurd c (by decide +kernel)) (fun _ => ?_)
  refine xi_aload_n C.1 dL_two_126 rfl 0 rfl ?_
  refine xi_iconst (v := nI 2) C.1 dL_two_127 (by decide +kernel) ?_
  refine xi_iconst (v := nI 0) C.1 dL_two_128 (by decide +kernel) ?_
  refine xi_iconst (v := nI 0) C.1 dL_two_129 (by decide +kernel) ?_
  obtain ⟨m13, e13, H⟩ := xRun_c H
  have J13 := gg_q (by decide) J12 e13
  refine ow_3 (a1 := 2) (a2 := 0) (a3 := 0) C J12 e13 dL_two_130 (Nat.le_of_ble_eq_true rfl) ⟨Nat.le_of_ble_eq_true rfl, Nat.le_of_ble_eq_true rfl⟩ ?_ Dp Bt Sq se
  intro Dp Bt Sq se
  refine xi_iconst (v := nI 2) C.1 dL_two_133 (by decide +kernel) ?_
  refine xi_icmp_ne (tgt := 296) C.1 dL_two_134 (by decide) (fun c => absurd c (by decide +kernel)) (fun _ => ?_)
  refine xi_aload_n C.1 dL_two_137 rfl 0 rfl ?_
  refine xi_iconst (v := nI 2) C.1 dL_two_138 (by decide +kernel) ?_
  refine xi_iconst (v := nI 1) C.1 dL_two_139 (by decide +kernel) ?_
  refine xi_bipush (v := nI 28) C.1 dL_two_140 (by decide +kernel) ?_
  obtain ⟨m14, e14, H⟩ := xRun_c H
  have J14 := gg_q (by decide) J13 e14
  refine ow_3 (a1 := 2) (a2 := 1) (a3 := 28) C J13 e14 dL_two_142 (Nat.le_of_ble_eq_true rfl) ⟨Nat.le_of_ble_eq_true rfl, Nat.le_of_ble_eq_true rfl⟩ ?_ Dp Bt Sq se
  intro Dp Bt Sq se
  refine xi_iconst (v := nI 3) C.1 dL_two_145 (by decide +kernel) ?_
  refine xi_icmp_ne (tgt := 296) C.1 dL_two_146 (by decide) (fun c => absurd c (by decide +kernel)) (fun _ => ?_)
  refine xi_aload_n C.1 dL_two_149 rfl 0 rfl ?_
  refine xi_iconst (v := nI 1) C.1 dL_two_150 (by decide +kernel) ?_
  obtain ⟨m15, e15, H⟩ := xRun_c H
  have J15 := gg_q (by decide) J14 e15
  refine ow_21 (a1 := 1) (a2 := 0) (a3 := 0) C J14 e15 dL_two_151 (Nat.le_of_ble_eq_true rfl) ⟨Nat.le_of_ble_eq_true rfl, Nat.le_of_ble_eq_true rfl⟩ ?_ Dp Bt Sq se
  intro Dp Bt Sq se
  refine xi_iconst (v := nI 4) C.1 dL_two_154 (by decide +kernel) ?_
  refine xi_icmp_ne (tgt := 296) C.1 dL_two_155 (by decide) (fun c => absurd c (by decide +kernel)) (fun _ => ?_)
  refine xi_aload_n C.1 dL_two_158 rfl 0 rfl ?_
  refine xi_iconst (v := nI 2) C.1 dL_two_159 (by decide +kernel) ?_
  obtain ⟨m16, e16, H⟩ := xRun_c H
  have J16 := gg_q (by decide) J15 e16
  refine ow_21 (a1 := 2) (a2 := 0) (a3 := 0) C J15 e16 dL_two_160 (Nat.le_of_ble_eq_true rfl) ⟨Nat.le_of_ble_eq_true rfl, Nat.le_of_ble_eq_true rfl⟩ ?_ Dp Bt Sq se
  intro Dp Bt Sq se
  refine xi_bipush (v := nI 6) C.1 dL_two_163 (by decide +kernel) ?_
  refine xi_icmp_ne (tgt := 296) C.1 dL_two_165 (by decide) (fun c => absurd c (by decide +kernel)) (fun _ => ?_)
  refine xi_aload_n C.1 dL_two_168 rfl 0 rfl ?_
  refine xi_iconst (v := nI 0) C.1 dL_two_169 (by decide +kernel) ?_
  refine xi_iconst (v := nI 1) C.1 dL_two_170 (by decide +kernel) ?_
  obtain ⟨m17, e17, H⟩ := xRun_c H
  have J17 := gg_q (by decide) J16 e17
  refine ow_15 (a1 := 0) (a2 := 1) (a3 := 0) C J16 e17 dL_two_171 (Nat.le_of_ble_eq_true rfl) ⟨Nat.le_of_ble_eq_true rfl, Nat.le_of_ble_eq_true rfl⟩ ?_ Dp Bt Sq se
  intro Dp Bt Sq se
  refine xi_iconst (v := nI 1) C.1 dL_two_174 (by decide +kernel) ?_
  refine xi_icmp_ne (tgt := 296) C.1 dL_two_175 (by decide) (fun c => absurd c (by decide +kernel)) (fun _ => ?_)
  refine xi_aload_n C.1 dL_two_178 rfl 0 rfl ?_
  refine xi_bipush (v := nI 6) C.1 dL_two_179 (by decide +kernel) ?_
  refine xi_iconst (v := nI 0) C.1 dL_two_181 (by decide +kernel) ?_
  obtain ⟨m18, e18, H⟩ := xRun_c H
  have J18 := gg_q (by decide) J17 e18
  refine ow_15 (a1 := 6) (a2 := 0) (a3 := 0) C J17 e18 dL_two_182 (Nat.le_of_ble_eq_true rfl) ⟨Nat.le_of_ble_eq_true rfl, Nat.le_of_ble_eq_true rfl⟩ ?_ Dp Bt Sq se
  intro Dp Bt Sq se
  refine xi_iconst (v := nI 1) C.1 dL_two_185 (by decide +kernel) ?_
  refine xi_icmp_ne (tgt := 296) C.1 dL_two_186 (by decide) (fun c => absurd c (by decide +kernel)) (fun _ => ?_)
  refine xi_aload_n C.1 dL_two_189 rfl 0 rfl ?_
  refine xi_iconst (v := nI 2) C.1 dL_two_190 (by decide +kernel) ?_
  refine xi_iconst (v := nI 3) C.1 dL_two_191 (by decide +kernel) ?_
  obtain ⟨m19, e19, H⟩ := xRun_c H
  have J19 := gg_q (by decide) J18 e19
  refine ow_15 (a1 := 2) (a2 := 3) (a3 := 0) C J18 e19 dL_two_192 (Nat.le_of_ble_eq_true rfl) ⟨Nat.le_of_ble_eq_true rfl, Nat.le_of_ble_eq_true rfl⟩ ?_ Dp Bt Sq se
  intro Dp Bt Sq se
  refine xi_iconst (v := nI 1) C.1 dL_two_195 (by decide +kernel) ?_
  refine xi_icmp_ne (tgt := 296) C.1 dL_two_196 (by decide) (fun c => absurd c (by decide +kernel)) (fun _ => ?_)
  refine xi_aload_n C.1 dL_two_199 rfl 0 rfl ?_
  refine xi_iconst (v := nI 1) C.1 dL_two_200 (by decide +kernel) ?_
  refine xi_bipush (v := nI 7) C.1 dL_two_201 (by decide +kernel) ?_
  obtain ⟨m20, e20, H⟩ := xRun_c H
  have J20 := gg_q (by decide) J19 e20
  refine ow_15 (a1 := 1) (a2 := 7) (a3 := 0) C J19 e20 dL_two_203 (Nat.le_of_ble_eq_true rfl) ⟨Nat.le_of_ble_eq_true rfl, Nat.le_of_ble_eq_true rfl⟩ ?_ Dp Bt Sq se
  intro Dp Bt Sq se
  refine xi_if_ne (tgt := 296) C.1 dL_two_206 (by decide) (fun c => absurd c (by decide +kernel)) (fun _ => ?_)
  refine xi_aload_n C.1 dL_two_209 rfl 0 rfl ?_
  refine xi_iconst (v := nI 0) C.1 dL_two_210 (by decide +kernel) ?_
  refine xi_iconst (v := nI 0) C.1 dL_two_211 (by decide +kernel) ?_
  refine xi_iconst (v := nI 0) C.1 dL_two_212 (by decide +kernel) ?_
  obtain ⟨m21, e21, H⟩ := xRun_c H
  have J21 := gg_q (by decide) J20 e21
  refine ow_14 (a1 := 0) (a2 := 0) (a3 := 0) C J20 e21 dL_two_213 (Nat.le_of_ble_eq_true rfl) ⟨Nat.le_of_ble_eq_true rfl, Nat.le_of_ble_eq_true rfl⟩ ?_ Dp Bt Sq se
  intro Dp Bt Sq se
  refine xi_if_ne (tgt := 296) C.1 dL_two_216 (by decide) (fun c => absurd c (by decide +kernel)) (fun _ => ?_)
  refine xi_aload_n C.1 dL_two_219 rfl 0 rfl ?_
  refine xi_iconst (v := nI 0) C.1 dL_two_220 (by decide +kernel) ?_
  refine xi_iconst (v := nI 0) C.1 dL_two_221 (by decide +kernel) ?_
  refine xi_iconst (v := nI 1) C.1 dL_two_222 (by decide +kernel) ?_
  obtain ⟨m22, e22, H⟩ := xRun_c H
  have J22 := gg_q (by decide) J21 e22
  refine ow_14 (a1 := 0) (a2 := 0) (a3 := 1) C J21 e22 dL_two_223 (Nat.le_of_ble_eq_true rfl) ⟨Nat.le_of_ble_eq_true rfl, Nat.le_of_ble_eq_true rfl⟩ ?_ Dp Bt Sq se
  intro Dp Bt Sq se
  refine xi_bipush (v := nI 4294967291) C.1 dL_two_226 (by decide +kernel) ?_
  refine xi_icmp_ne (tgt := 296) C.1 dL_two_228 (by decide) (fun c => absurd c (by decide +kernel)) (fun _ => ?_)
  refine xi_aload_n C.1 dL_two_231 rfl 0 rfl ?_
  refine xi_iconst (v := nI 0) C.1 dL_two_232 (by decide +kernel) ?_
  refine xi_iconst (v := nI 2) C.1 dL_two_233 (by decide +kernel) ?_
  refine xi_iconst (v := nI 0) C.1 dL_two_234 (by decide +kernel) ?_
  obtain ⟨m23, e23, H⟩ := xRun_c H
  have J23 := gg_q (by decide) J22 e23
  refine ow_14 (a1 := 0) (a2 := 2) (a3 := 0) C J22 e23 dL_two_235 (Nat.le_of_ble_eq_true rfl) ⟨Nat.le_of_ble_eq_true rfl, Nat.le_of_ble_eq_true rfl⟩ ?_ Dp Bt Sq se
  intro Dp Bt Sq se
  refine xi_bipush (v := nI 4294967291) C.1 dL_two_238 (by decide +kernel) ?_
  refine xi_icmp_ne (tgt := 296) C.1 dL_two_240 (by decide) (fun c => absurd c (by decide +kernel)) (fun _ => ?_)
  refine xi_aload_n C.1 dL_two_243 rfl 0 rfl ?_
  refine xi_iconst (v := nI 2) C.1 dL_two_244 (by decide +kernel) ?_
  refine xi_iconst (v := nI 1) C.1 dL_two_245 (by decide +kernel) ?_
  refine xi_iconst (v := nI 0) C.1 dL_two_246 (by decide +kernel) ?_
  obtain ⟨m24, e24, H⟩ := xRun_c H
  have J24 := gg_q (by decide) J23 e24
  refine ow_14 (a1 := 2) (a2 := 1) (a3 := 0) C J23 e24 dL_two_247 (Nat.le_of_ble_eq_true rfl) ⟨Nat.le_of_ble_eq_true rfl, Nat.le_of_ble_eq_true rfl⟩ ?_ Dp Bt Sq se
  intro Dp Bt Sq se
  refine xi_iconst (v := nI 5) C.1 dL_two_250 (by decide +kernel) ?_
  refine xi_icmp_ne (tgt := 296) C.1 dL_two_251 (by decide) (fun c => absurd c (by decide +kernel)) (fun _ => ?_)
  refine xi_aload_n C.1 dL_two_254 rfl 0 rfl ?_
  refine xi_iconst (v := nI 2) C.1 dL_two_255 (by decide +kernel) ?_
  refine xi_iconst (v := nI 1) C.1 dL_two_256 (by decide +kernel) ?_
  refine xi_iconst (v := nI 1) C.1 dL_two_257 (by decide +kernel) ?_
  obtain ⟨m25, e25, H⟩ := xRun_c H
  have J25 := gg_q (by decide) J24 e25
  refine ow_14 (a1 := 2) (a2 := 1) (a3 := 1) C J24 e25 dL_two_258 (Nat.le_of_ble_eq_true rfl) ⟨Nat.le_of_ble_eq_true rfl, Nat.le_of_ble_eq_true rfl⟩ ?_ Dp Bt Sq se
  intro Dp Bt Sq se
  refine xi_iconst (v := nI 4) C.1 dL_two_261 (by decide +kernel) ?_
  refine xi_icmp_ne (tgt := 296) C.1 dL_two_262 (by decide) (fun c => absurd c (by decide +kernel)) (fun _ => ?_)
  refine xi_aload_n C.1 dL_two_265 rfl 0 rfl ?_
  refine xi_iconst (v := nI 2) C.1 dL_two_266 (by decide +kernel) ?_
  refine xi_iconst (v := nI 1) C.1 dL_two_267 (by decide +kernel) ?_
  refine xi_iconst (v := nI 3) C.1 dL_two_268 (by decide +kernel) ?_
  obtain ⟨m26, e26, H⟩ := xRun_c H
  have J26 := gg_q (by decide) J25 e26
  refine ow_14 (a1 := 2) (a2 := 1) (a3 := 3) C J25 e26 dL_two_269 (Nat.le_of_ble_eq_true rfl) ⟨Nat.le_of_ble_eq_true rfl, Nat.le_of_ble_eq_true rfl⟩ ?_ Dp Bt Sq se
  intro Dp Bt Sq se
  refine xi_iconst (v := nI 2) C.1 dL_two_272 (by decide +kernel) ?_
  refine xi_icmp_ne (tgt := 296) C.1 dL_two_273 (by decide) (fun c => absurd c (by decide +kernel)) (fun _ => ?_)
  refine xi_aload_n C.1 dL_two_276 rfl 0 rfl ?_
  refine xi_iconst (v := nI 2) C.1 dL_two_277 (by decide +kernel) ?_
  refine xi_iconst (v := nI 1) C.1 dL_two_278 (by decide +kernel) ?_
  refine xi_iconst (v := nI 4) C.1 dL_two_279 (by decide +kernel) ?_
  obtain ⟨m27, e27, H⟩ := xRun_c H
  have J27 := gg_q (by decide) J26 e27
  refine ow_14 (a1 := 2) (a2 := 1) (a3 := 4) C J26 e27 dL_two_280 (Nat.le_of_ble_eq_true rfl) ⟨Nat.le_of_ble_eq_true rfl, Nat.le_of_ble_eq_true rfl⟩ ?_ Dp Bt Sq se
  intro Dp Bt Sq se
  refine xi_bipush (v := nI 4294967291) C.1 dL_two_283 (by decide +kernel) ?_
  refine xi_icmp_ne (tgt := 296) C.1 dL_two_285 (by decide) (fun c => absurd c (by decide +kernel)) (fun _ => ?_)
  refine xi_aload_n C.1 dL_two_288 rfl 0 rfl ?_
  refine xi_iconst (v := nI 2) C.1 dL_two_289 (by decide +kernel) ?_
  obtain rfl : m27 = dM gm_two_a := Option.some.inj H
  clear H
  refine oc_P (As := [.int (nI 2)]) (rest := []) C kL_refused (fun Dp Bt Sq se => m_refused D cI cC cZ cR ad ha J27 (p := 2) (by decide) so_two Dp Bt Sq se) gB_refused dL_two_290 ⟨by decide, by decide, Nat.le_of_ble_eq_true rfl⟩ rfl (Nat.le_of_ble_eq_true rfl) ⟨Nat.le_of_ble_eq_true rfl, Nat.le_of_ble_eq_true rfl⟩ ?_ Dp Bt Sq se
  intro Dp Bt Sq se
  have H := run_two_b
  unfold sc_two_b at H
  refine xi_if_ne (tgt := 298) C.1 dL_two_293 (by decide) (fun _ => ?_) (fun c => absurd c (by decide +kernel))
  refine xi_aload_n C.1 dL_two_298 rfl 0 rfl ?_
  refine xi_iconst (v := nI 0) C.1 dL_two_299 (by decide +kernel) ?_
  refine xi_iconst (v := nI 3) C.1 dL_two_300 (by decide +kernel) ?_
  obtain ⟨m28, e28, H⟩ := xRun_c H
  have J28 := gg_q (by decide) J27 e28
  refine ow_16 (a1 := 0) (a2 := 3) (a3 := 0) C J27 e28 dL_two_301 (Nat.le_of_ble_eq_true rfl) ⟨Nat.le_of_ble_eq_true rfl, Nat.le_of_ble_eq_true rfl⟩ ?_ Dp Bt Sq se
  intro Dp Bt Sq se
  refine xi_iconst (v := nI 1) C.1 dL_two_304 (by decide +kernel) ?_
  refine xi_icmp_ne (tgt := 466) C.1 dL_two_305 (by decide) (fun c => absurd c (by decide +kernel)) (fun _ => ?_)
  refine xi_aload_n C.1 dL_two_308 rfl 0 rfl ?_
  refine xi_iconst (v := nI 0) C.1 dL_two_309 (by decide +kernel) ?_
  refine xi_iconst (v := nI 1) C.1 dL_two_310 (by decide +kernel) ?_
  obtain ⟨m29, e29, H⟩ := xRun_c H
  have J29 := gg_q (by decide) J28 e29
  refine ow_16 (a1 := 0) (a2 := 1) (a3 := 0) C J28 e29 dL_two_311 (Nat.le_of_ble_eq_true rfl) ⟨Nat.le_of_ble_eq_true rfl, Nat.le_of_ble_eq_true rfl⟩ ?_ Dp Bt Sq se
  intro Dp Bt Sq se
  refine xi_if_ne (tgt := 466) C.1 dL_two_314 (by decide) (fun c => absurd c (by decide +kernel)) (fun _ => ?_)
  refine xi_aload_n C.1 dL_two_317 rfl 0 rfl ?_
  refine xi_iconst (v := nI 2) C.1 dL_two_318 (by decide +kernel) ?_
  refine xi_iconst (v := nI 3) C.1 dL_two_319 (by decide +kernel) ?_
  obtain ⟨m30, e30, H⟩ := xRun_c H
  have J30 := gg_q (by decide) J29 e30
  refine ow_16 (a1 := 2) (a2 := 3) (a3 := 0) C J29 e30 dL_two_320 (Nat.le_of_ble_eq_true rfl) ⟨Nat.le_of_ble_eq_true rfl, Nat.le_of_ble_eq_true rfl⟩ ?_ Dp Bt Sq se
  intro Dp Bt Sq se
  refine xi_iconst (v := nI 1) C.1 dL_two_323 (by decide +kernel) ?_
  refine xi_icmp_ne (tgt := 466) C.1 dL_two_324 (by decide) (fun c => absurd c (by decide +kernel)) (fun _ => ?_)
  refine xi_aload_n C.1 dL_two_327 rfl 0 rfl ?_
  refine xi_iconst (v := nI 2) C.1 dL_two_328 (by decide +kernel) ?_
  refine xi_iconst (v := nI 0) C.1 dL_two_329 (by decide +kernel) ?_
  obtain ⟨m31, e31, H⟩ := xRun_c H
  have J31 := gg_q (by decide) J30 e31
  refine ow_16 (a1 := 2) (a2 := 0) (a3 := 0) C J30 e31 dL_two_330 (Nat.le_of_ble_eq_true rfl) ⟨Nat.le_of_ble_eq_true rfl, Nat.le_of_ble_eq_true rfl⟩ ?_ Dp Bt Sq se
  intro Dp Bt Sq se
  refine xi_if_ne (tgt := 466) C.1 dL_two_333 (by decide) (fun c => absurd c (by decide +kernel)) (fun _ => ?_)
  refine xi_aload_n C.1 dL_two_336 rfl 0 rfl ?_
  refine xi_iconst (v := nI 2) C.1 dL_two_337 (by decide +kernel) ?_
  refine xi_bipush (v := nI 16) C.1 dL_two_338 (by decide +kernel) ?_
  obtain ⟨m32, e32, H⟩ := xRun_c H
  have J32 := gg_q (by decide) J31 e32
  refine ow_16 (a1 := 2) (a2 := 16) (a3 := 0) C J31 e32 dL_two_340 (Nat.le_of_ble_eq_true rfl) ⟨Nat.le_of_ble_eq_true rfl, Nat.le_of_ble_eq_true rfl⟩ ?_ Dp Bt Sq se
  intro Dp Bt Sq se
  refine xi_iconst (v := nI 1) C.1 dL_two_343 (by decide +kernel) ?_
  refine xi_icmp_ne (tgt := 466) C.1 dL_two_344 (by decide) (fun c => absurd c (by decide +kernel)) (fun _ => ?_)
  refine xi_aload_n C.1 dL_two_347 rfl 0 rfl ?_
  refine xi_iconst (v := nI 0) C.1 dL_two_348 (by decide +kernel) ?_
  obtain ⟨m33, e33, H⟩ := xRun_c H
  have J33 := gg_q (by decide) J32 e33
  refine ow_17 (a1 := 0) (a2 := 0) (a3 := 0) C J32 e33 dL_two_349 (Nat.le_of_ble_eq_true rfl) ⟨Nat.le_of_ble_eq_true rfl, Nat.le_of_ble_eq_true rfl⟩ ?_ Dp Bt Sq se
  intro Dp Bt Sq se
  refine xi_bipush (v := nI 64) C.1 dL_two_352 (by decide +kernel) ?_
  refine xi_icmp_ne (tgt := 466) C.1 dL_two_354 (by decide) (fun c => absurd c (by decide +kernel)) (fun _ => ?_)
  refine xi_aload_n C.1 dL_two_357 rfl 0 rfl ?_
  refine xi_iconst (v := nI 2) C.1 dL_two_358 (by decide +kernel) ?_
  obtain ⟨m34, e34, H⟩ := xRun_c H
  have J34 := gg_q (by decide) J33 e34
  refine ow_17 (a1 := 2) (a2 := 0) (a3 := 0) C J33 e34 dL_two_359 (Nat.le_of_ble_eq_true rfl) ⟨Nat.le_of_ble_eq_true rfl, Nat.le_of_ble_eq_true rfl⟩ ?_ Dp Bt Sq se
  intro Dp Bt Sq se
  refine xi_sipush (v := nI 160) C.1 dL_two_362 (by decide +kernel) ?_
  refine xi_icmp_ne (tgt := 466) C.1 dL_two_365 (by decide) (fun c => absurd c (by decide +kernel)) (fun _ => ?_)
  refine xi_aload_n C.1 dL_two_368 rfl 0 rfl ?_
  refine xi_iconst (v := nI 0) C.1 dL_two_369 (by decide +kernel) ?_
  refine xi_iconst (v := nI 4) C.1 dL_two_370 (by decide +kernel) ?_
  obtain ⟨m35, e35, H⟩ := xRun_c H
  have J35 := gg_q (by decide) J34 e35
  refine ow_13 (a1 := 0) (a2 := 4) (a3 := 0) C J34 e35 dL_two_371 (Nat.le_of_ble_eq_true rfl) ⟨Nat.le_of_ble_eq_true rfl, Nat.le_of_ble_eq_true rfl⟩ ?_ Dp Bt Sq se
  intro Dp Bt Sq se
  refine xi_iconst (v := nI 1) C.1 dL_two_374 (by decide +kernel) ?_
  refine xi_icmp_ne (tgt := 466) C.1 dL_two_375 (by decide) (fun c => absurd c (by decide +kernel)) (fun _ => ?_)
  refine xi_aload_n C.1 dL_two_378 rfl 0 rfl ?_
  refine xi_iconst (v := nI 2) C.1 dL_two_379 (by decide +kernel) ?_
  refine xi_iconst (v := nI 4) C.1 dL_two_380 (by decide +kernel) ?_
  obtain ⟨m36, e36, H⟩ := xRun_c H
  have J36 := gg_q (by decide) J35 e36
  refine ow_13 (a1 := 2) (a2 := 4) (a3 := 0) C J35 e36 dL_two_381 (Nat.le_of_ble_eq_true rfl) ⟨Nat.le_of_ble_eq_true rfl, Nat.le_of_ble_eq_true rfl⟩ ?_ Dp Bt Sq se
  intro Dp Bt Sq se
  refine xi_iconst (v := nI 2) C.1 dL_two_384 (by decide +kernel) ?_
  refine xi_icmp_ne (tgt := 466) C.1 dL_two_385 (by decide) (fun c => absurd c (by decide +kernel)) (fun _ => ?_)
  refine xi_aload_n C.1 dL_two_388 rfl 0 rfl ?_
  refine xi_bipush (v := nI 6) C.1 dL_two_389 (by decide +kernel) ?_
  obtain ⟨m37, e37, H⟩ := xRun_c H
  have J37 := gg_q (by decide) J36 e37
  refine ow_21 (a1 := 6) (a2 := 0) (a3 := 0) C J36 e37 dL_two_391 (Nat.le_of_ble_eq_true rfl) ⟨Nat.le_of_ble_eq_true rfl, Nat.le_of_ble_eq_true rfl⟩ ?_ Dp Bt Sq se
  intro Dp Bt Sq se
  refine xi_iconst (v := nI 2) C.1 dL_two_394 (by decide +kernel) ?_
  refine xi_icmp_ne (tgt := 466) C.1 dL_two_395 (by decide) (fun c => absurd c (by decide +kernel)) (fun _ => ?_)
  refine xi_aload_n C.1 dL_two_398 rfl 0 rfl ?_
  refine xi_iconst (v := nI 5) C.1 dL_two_399 (by decide +kernel) ?_
  obtain ⟨m38, e38, H⟩ := xRun_c H
  have J38 := gg_q (by decide) J37 e38
  refine ow_21 (a1 := 5) (a2 := 0) (a3 := 0) C J37 e38 dL_two_400 (Nat.le_of_ble_eq_true rfl) ⟨Nat.le_of_ble_eq_true rfl, Nat.le_of_ble_eq_true rfl⟩ ?_ Dp Bt Sq se
  intro Dp Bt Sq se
  refine xi_if_ne (tgt := 466) C.1 dL_two_403 (by decide) (fun c => absurd c (by decide +kernel)) (fun _ => ?_)
  refine xi_aload_n C.1 dL_two_406 rfl 0 rfl ?_
  refine xi_iconst (v := nI 0) C.1 dL_two_407 (by decide +kernel) ?_
  refine xi_iconst (v := nI 5) C.1 dL_two_408 (by decide +kernel) ?_
  obtain ⟨m39, e39, H⟩ := xRun_c H
  have J39 := gg_q (by decide) J38 e39
  refine ow_13 (a1 := 0) (a2 := 5) (a3 := 0) C J38 e39 dL_two_409 (Nat.le_of_ble_eq_true rfl) ⟨Nat.le_of_ble_eq_true rfl, Nat.le_of_ble_eq_true rfl⟩ ?_ Dp Bt Sq se
  intro Dp Bt Sq se
  refine xi_iconst (v := nI 1) C.1 dL_two_412 (by decide +kernel) ?_
  refine xi_icmp_ne (tgt := 466) C.1 dL_two_413 (by decide) (fun c => absurd c (by decide +kernel)) (fun _ => ?_)
  refine xi_aload_n C.1 dL_two_416 rfl 0 rfl ?_
  refine xi_iconst (v := nI 2) C.1 dL_two_417 (by decide +kernel) ?_
  refine xi_iconst (v := nI 5) C.1 dL_two_418 (by decide +kernel) ?_
  obtain ⟨m40, e40, H⟩ := xRun_c H
  have J40 := gg_q (by decide) J39 e40
  refine ow_13 (a1 := 2) (a2 := 5) (a3 := 0) C J39 e40 dL_two_419 (Nat.le_of_ble_eq_true rfl) ⟨Nat.le_of_ble_eq_true rfl, Nat.le_of_ble_eq_true rfl⟩ ?_ Dp Bt Sq se
  intro Dp Bt Sq se
  refine xi_if_ne (tgt := 466) C.1 dL_two_422 (by decide) (fun c => absurd c (by decide +kernel)) (fun _ => ?_)
  refine xi_aload_n C.1 dL_two_425 rfl 0 rfl ?_
  refine xi_iconst (v := nI 2) C.1 dL_two_426 (by decide +kernel) ?_
  refine xi_bipush (v := nI 6) C.1 dL_two_427 (by decide +kernel) ?_
  obtain ⟨m41, e41, H⟩ := xRun_c H
  have J41 := gg_q (by decide) J40 e41
  refine ow_13 (a1 := 2) (a2 := 6) (a3 := 0) C J40 e41 dL_two_429 (Nat.le_of_ble_eq_true rfl) ⟨Nat.le_of_ble_eq_true rfl, Nat.le_of_ble_eq_true rfl⟩ ?_ Dp Bt Sq se
  intro Dp Bt Sq se
  refine xi_iconst (v := nI 5) C.1 dL_two_432 (by decide +kernel) ?_
  refine xi_icmp_ne (tgt := 466) C.1 dL_two_433 (by decide) (fun c => absurd c (by decide +kernel)) (fun _ => ?_)
  refine xi_aload_n C.1 dL_two_436 rfl 0 rfl ?_
  refine xi_iconst (v := nI 0) C.1 dL_two_437 (by decide +kernel) ?_
  obtain ⟨m42, e42, H⟩ := xRun_c H
  have J42 := gg_q (by decide) J41 e42
  refine ow_1 (a1 := 0) (a2 := 0) (a3 := 0) C J41 e42 dL_two_438 (Nat.le_of_ble_eq_true rfl) ⟨Nat.le_of_ble_eq_true rfl, Nat.le_of_ble_eq_true rfl⟩ ?_ Dp Bt Sq se
  intro Dp Bt Sq se
  refine xi_bipush (v := nI 4294967292) C.1 dL_two_441 (by decide +kernel) ?_
  refine xi_icmp_ne (tgt := 466) C.1 dL_two_443 (by decide) (fun c => absurd c (by decide +kernel)) (fun _ => ?_)
  refine xi_aload_n C.1 dL_two_446 rfl 0 rfl ?_
  refine xi_iconst (v := nI 0) C.1 dL_two_447 (by decide +kernel) ?_
  refine xi_iconst (v := nI 2) C.1 dL_two_448 (by decide +kernel) ?_
  refine xi_bipush (v := nI 7) C.1 dL_two_449 (by decide +kernel) ?_
  obtain ⟨m43, e43, H⟩ := xRun_c H
  have J43 := gg_q (by decide) J42 e43
  refine ow_3 (a1 := 0) (a2 := 2) (a3 := 7) C J42 e43 dL_two_451 (Nat.le_of_ble_eq_true rfl) ⟨Nat.le_of_ble_eq_true rfl, Nat.le_of_ble_eq_true rfl⟩ ?_ Dp Bt Sq se
  intro Dp Bt Sq se
  refine xi_iconst (v := nI 4294967295) C.1 dL_two_454 (by decide +kernel) ?_
  refine xi_icmp_ne (tgt := 466) C.1 dL_two_455 (by decide) (fun c => absurd c (by decide +kernel)) (fun _ => ?_)
  refine xi_aload_n C.1 dL_two_458 rfl 0 rfl ?_
  obtain ⟨m44, e44, H⟩ := xRun_c H
  have J44 := gg_q (by decide) J43 e44
  refine ow_11 (a1 := 0) (a2 := 0) (a3 := 0) C J43 e44 dL_two_459 (Nat.le_of_ble_eq_true rfl) ⟨Nat.le_of_ble_eq_true rfl, Nat.le_of_ble_eq_true rfl⟩ ?_ Dp Bt Sq se
  intro Dp Bt Sq se
  refine xi_iconst (v := nI 2) C.1 dL_two_462 (by decide +kernel) ?_
  refine xi_icmp_eq (tgt := 468) C.1 dL_two_463 (by decide) (fun _ => ?_) (fun c => absurd (by decide +kernel) c)
  refine xi_aload_n C.1 dL_two_468 rfl 0 rfl ?_
  refine xi_iconst (v := nI 0) C.1 dL_two_469 (by decide +kernel) ?_
  refine xi_iconst (v := nI 2) C.1 dL_two_470 (by decide +kernel) ?_
  refine xi_iconst (v := nI 2) C.1 dL_two_471 (by decide +kernel) ?_
  obtain ⟨m45, e45, H⟩ := xRun_c H
  have J45 := gg_q (by decide) J44 e45
  refine ow_3 (a1 := 0) (a2 := 2) (a3 := 2) C J44 e45 dL_two_472 (Nat.le_of_ble_eq_true rfl) ⟨Nat.le_of_ble_eq_true rfl, Nat.le_of_ble_eq_true rfl⟩ ?_ Dp Bt Sq se
  intro Dp Bt Sq se
  refine xi_iconst (v := nI 2) C.1 dL_two_475 (by decide +kernel) ?_
  refine xi_icmp_ne (tgt := 635) C.1 dL_two_476 (by decide) (fun c => absurd c (by decide +kernel)) (fun _ => ?_)
  refine xi_aload_n C.1 dL_two_479 rfl 0 rfl ?_
  refine xi_iconst (v := nI 0) C.1 dL_two_480 (by decide +kernel) ?_
  refine xi_iconst (v := nI 1) C.1 dL_two_481 (by decide +kernel) ?_
  obtain ⟨m46, e46, H⟩ := xRun_c H
  have J46 := gg_q (by decide) J45 e46
  refine ow_15 (a1 := 0) (a2 := 1) (a3 := 0) C J45 e46 dL_two_482 (Nat.le_of_ble_eq_true rfl) ⟨Nat.le_of_ble_eq_true rfl, Nat.le_of_ble_eq_true rfl⟩ ?_ Dp Bt Sq se
  intro Dp Bt Sq se
  refine xi_iconst (v := nI 2) C.1 dL_two_485 (by decide +kernel) ?_
  refine xi_icmp_ne (tgt := 635) C.1 dL_two_486 (by decide) (fun c => absurd c (by decide +kernel)) (fun _ => ?_)
  refine xi_aload_n C.1 dL_two_489 rfl 0 rfl ?_
  refine xi_iconst (v := nI 3) C.1 dL_two_490 (by decide +kernel) ?_
  obtain ⟨m47, e47, H⟩ := xRun_c H
  have J47 := gg_q (by decide) J46 e47
  refine ow_21 (a1 := 3) (a2 := 0) (a3 := 0) C J46 e47 dL_two_491 (Nat.le_of_ble_eq_true rfl) ⟨Nat.le_of_ble_eq_true rfl, Nat.le_of_ble_eq_true rfl⟩ ?_ Dp Bt Sq se
  intro Dp Bt Sq se
  refine xi_iconst (v := nI 2) C.1 dL_two_494 (by decide +kernel) ?_
  refine xi_icmp_ne (tgt := 635) C.1 dL_two_495 (by decide) (fun c => absurd c (by decide +kernel)) (fun _ => ?_)
  refine xi_aload_n C.1 dL_two_498 rfl 0 rfl ?_
  refine xi_iconst (v := nI 5) C.1 dL_two_499 (by decide +kernel) ?_
  obtain ⟨m48, e48, H⟩ := xRun_c H
  have J48 := gg_q (by decide) J47 e48
  refine ow_21 (a1 := 5) (a2 := 0) (a3 := 0) C J47 e48 dL_two_500 (Nat.le_of_ble_eq_true rfl) ⟨Nat.le_of_ble_eq_true rfl, Nat.le_of_ble_eq_true rfl⟩ ?_ Dp Bt Sq se
  intro Dp Bt Sq se
  refine xi_iconst (v := nI 2) C.1 dL_two_503 (by decide +kernel) ?_
  refine xi_icmp_ne (tgt := 635) C.1 dL_two_504 (by decide) (fun c => absurd c (by decide +kernel)) (fun _ => ?_)
  refine xi_aload_n C.1 dL_two_507 rfl 0 rfl ?_
  refine xi_bipush (v := nI 6) C.1 dL_two_508 (by decide +kernel) ?_
  obtain ⟨m49, e49, H⟩ := xRun_c H
  have J49 := gg_q (by decide) J48 e49
  refine ow_21 (a1 := 6) (a2 := 0) (a3 := 0) C J48 e49 dL_two_510 (Nat.le_of_ble_eq_true rfl) ⟨Nat.le_of_ble_eq_true rfl, Nat.le_of_ble_eq_true rfl⟩ ?_ Dp Bt Sq se
  intro Dp Bt Sq se
  refine xi_if_ne (tgt := 635) C.1 dL_two_513 (by decide) (fun c => absurd c (by decide +kernel)) (fun _ => ?_)
  refine xi_aload_n C.1 dL_two_516 rfl 0 rfl ?_
  refine xi_iconst (v := nI 0) C.1 dL_two_517 (by decide +kernel) ?_
  refine xi_iconst (v := nI 3) C.1 dL_two_518 (by decide +kernel) ?_
  obtain ⟨m50, e50, H⟩ := xRun_c H
  have J50 := gg_q (by decide) J49 e50
  refine ow_16 (a1 := 0) (a2 := 3) (a3 := 0) C J49 e50 dL_two_519 (Nat.le_of_ble_eq_true rfl) ⟨Nat.le_of_ble_eq_true rfl, Nat.le_of_ble_eq_true rfl⟩ ?_ Dp Bt Sq se
  intro Dp Bt Sq se
  refine xi_bipush (v := nI 4294967291) C.1 dL_two_522 (by decide +kernel) ?_
  refine xi_icmp_ne (tgt := 635) C.1 dL_two_524 (by decide) (fun c => absurd c (by decide +kernel)) (fun _ => ?_)
  refine xi_aload_n C.1 dL_two_527 rfl 0 rfl ?_
  refine xi_iconst (v := nI 2) C.1 dL_two_528 (by decide +kernel) ?_
  refine xi_iconst (v := nI 4) C.1 dL_two_529 (by decide +kernel) ?_
  obtain ⟨m51, e51, H⟩ := xRun_c H
  have J51 := gg_q (by decide) J50 e51
  refine ow_13 (a1 := 2) (a2 := 4) (a3 := 0) C J50 e51 dL_two_530 (Nat.le_of_ble_eq_true rfl) ⟨Nat.le_of_ble_eq_true rfl, Nat.le_of_ble_eq_true rfl⟩ ?_ Dp Bt Sq se
  intro Dp Bt Sq se
  refine xi_bipush (v := nI 4294967291) C.1 dL_two_533 (by decide +kernel) ?_
  refine xi_icmp_ne (tgt := 635) C.1 dL_two_535 (by decide) (fun c => absurd c (by decide +kernel)) (fun _ => ?_)
  refine xi_aload_n C.1 dL_two_538 rfl 0 rfl ?_
  refine xi_iconst (v := nI 2) C.1 dL_two_539 (by decide +kernel) ?_
  obtain ⟨m52, e52, H⟩ := xRun_c H
  have J52 := gg_q (by decide) J51 e52
  refine ow_17 (a1 := 2) (a2 := 0) (a3 := 0) C J51 e52 dL_two_540 (Nat.le_of_ble_eq_true rfl) ⟨Nat.le_of_ble_eq_true rfl, Nat.le_of_ble_eq_true rfl⟩ ?_ Dp Bt Sq se
  intro Dp Bt Sq se
  refine xi_bipush (v := nI 4294967291) C.1 dL_two_543 (by decide +kernel) ?_
  refine xi_icmp_ne (tgt := 635) C.1 dL_two_545 (by decide) (fun c => absurd c (by decide +kernel)) (fun _ => ?_)
  refine xi_aload_n C.1 dL_two_548 rfl 0 rfl ?_
  refine xi_iconst (v := nI 0) C.1 dL_two_549 (by decide +kernel) ?_
  refine xi_iconst (v := nI 3) C.1 dL_two_550 (by decide +kernel) ?_
  obtain ⟨m53, e53, H⟩ := xRun_c H
  have J53 := gg_q (by decide) J52 e53
  refine ow_13 (a1 := 0) (a2 := 3) (a3 := 0) C J52 e53 dL_two_551 (Nat.le_of_ble_eq_true rfl) ⟨Nat.le_of_ble_eq_true rfl, Nat.le_of_ble_eq_true rfl⟩ ?_ Dp Bt Sq se
  intro Dp Bt Sq se
  refine xi_iconst (v := nI 2) C.1 dL_two_554 (by decide +kernel) ?_
  refine xi_icmp_ne (tgt := 635) C.1 dL_two_555 (by decide) (fun c => absurd c (by decide +kernel)) (fun _ => ?_)
  refine xi_aload_n C.1 dL_two_558 rfl 0 rfl ?_
  refine xi_iconst (v := nI 0) C.1 dL_two_559 (by decide +kernel) ?_
  refine xi_iconst (v := nI 1) C.1 dL_two_560 (by decide +kernel) ?_
  obtain ⟨m54, e54, H⟩ := xRun_c H
  have J54 := gg_q (by decide) J53 e54
  refine ow_6 (a1 := 0) (a2 := 1) (a3 := 0) C J53 e54 dL_two_561 (Nat.le_of_ble_eq_true rfl) ⟨Nat.le_of_ble_eq_true rfl, Nat.le_of_ble_eq_true rfl⟩ ?_ Dp Bt Sq se
  intro Dp Bt Sq se
  refine xi_bipush (v := nI 4294967292) C.1 dL_two_564 (by decide +kernel) ?_
  refine xi_icmp_ne (tgt := 635) C.1 dL_two_566 (by decide) (fun c => absurd c (by decide +kernel)) (fun _ => ?_)
  refine xi_aload_n C.1 dL_two_569 rfl 0 rfl ?_
  refine xi_iconst (v := nI 2) C.1 dL_two_570 (by decide +kernel) ?_
  obtain ⟨m55, e55, H⟩ := xRun_c H
  have J55 := gg_q (by decide) J54 e55
  refine ow_1 (a1 := 2) (a2 := 0) (a3 := 0) C J54 e55 dL_two_571 (Nat.le_of_ble_eq_true rfl) ⟨Nat.le_of_ble_eq_true rfl, Nat.le_of_ble_eq_true rfl⟩ ?_ Dp Bt Sq se
  intro Dp Bt Sq se
  refine xi_bipush (v := nI 4294967292) C.1 dL_two_574 (by decide +kernel) ?_
  refine xi_icmp_ne (tgt := 635) C.1 dL_two_576 (by decide) (fun c => absurd c (by decide +kernel)) (fun _ => ?_)
  refine xi_aload_n C.1 dL_two_579 rfl 0 rfl ?_
  refine xi_iconst (v := nI 2) C.1 dL_two_580 (by decide +kernel) ?_
  refine xi_iconst (v := nI 0) C.1 dL_two_581 (by decide +kernel) ?_
  refine xi_bipush (v := nI 32) C.1 dL_two_582 (by decide +kernel) ?_
  obtain ⟨m56, e56, H⟩ := xRun_c H
  have J56 := gg_q (by decide) J55 e56
  refine ow_3 (a1 := 2) (a2 := 0) (a3 := 32) C J55 e56 dL_two_584 (Nat.le_of_ble_eq_true rfl) ⟨Nat.le_of_ble_eq_true rfl, Nat.le_of_ble_eq_true rfl⟩ ?_ Dp Bt Sq se
  intro Dp Bt Sq se
  refine xi_if_ne (tgt := 635) C.1 dL_two_587 (by decide) (fun c => absurd c (by decide +kernel)) (fun _ => ?_)
  refine xi_aload_n C.1 dL_two_590 rfl 0 rfl ?_
  refine xi_iconst (v := nI 5) C.1 dL_two_591 (by decide +kernel) ?_
  obtain ⟨m57, e57, H⟩ := xRun_c H
  have J57 := gg_q (by decide) J56 e57
  refine ow_21 (a1 := 5) (a2 := 0) (a3 := 0) C J56 e57 dL_two_592 (Nat.le_of_ble_eq_true rfl) ⟨Nat.le_of_ble_eq_true rfl, Nat.le_of_ble_eq_true rfl⟩ ?_ Dp Bt Sq se
  intro Dp Bt Sq se
  refine xi_if_ne (tgt := 635) C.1 dL_two_595 (by decide) (fun c => absurd c (by decide +kernel)) (fun _ => ?_)
  refine xi_aload_n C.1 dL_two_598 rfl 0 rfl ?_
  refine xi_iconst (v := nI 0) C.1 dL_two_599 (by decide +kernel) ?_
  refine xi_iconst (v := nI 4) C.1 dL_two_600 (by decide +kernel) ?_
  obtain ⟨m58, e58, H⟩ := xRun_c H
  have J58 := gg_q (by decide) J57 e58
  refine ow_13 (a1 := 0) (a2 := 4) (a3 := 0) C J57 e58 dL_two_601 (Nat.le_of_ble_eq_true rfl) ⟨Nat.le_of_ble_eq_true rfl, Nat.le_of_ble_eq_true rfl⟩ ?_ Dp Bt Sq se
  intro Dp Bt Sq se
  refine xi_iconst (v := nI 2) C.1 dL_two_604 (by decide +kernel) ?_
  refine xi_icmp_ne (tgt := 635) C.1 dL_two_605 (by decide) (fun c => absurd c (by decide +kernel)) (fun _ => ?_)
  refine xi_aload_n C.1 dL_two_608 rfl 0 rfl ?_
  refine xi_iconst (v := nI 0) C.1 dL_two_609 (by decide +kernel) ?_
  obtain ⟨m59, e59, H⟩ := xRun_c H
  have J59 := gg_q (by decide) J58 e59
  refine ow_1 (a1 := 0) (a2 := 0) (a3 := 0) C J58 e59 dL_two_610 (Nat.le_of_ble_eq_true rfl) ⟨Nat.le_of_ble_eq_true rfl, Nat.le_of_ble_eq_true rfl⟩ ?_ Dp Bt Sq se
  intro Dp Bt Sq se
  refine xi_iconst (v := nI 1) C.1 dL_two_613 (by decide +kernel) ?_
  refine xi_icmp_ne (tgt := 635) C.1 dL_two_614 (by decide) (fun c => absurd c (by decide +kernel)) (fun _ => ?_)
  refine xi_aload_n C.1 dL_two_617 rfl 0 rfl ?_
  refine xi_iconst (v := nI 2) C.1 dL_two_618 (by decide +kernel) ?_
  obtain ⟨m60, e60, H⟩ := xRun_c H
  have J60 := gg_q (by decide) J59 e60
  refine ow_21 (a1 := 2) (a2 := 0) (a3 := 0) C J59 e60 dL_two_619 (Nat.le_of_ble_eq_true rfl) ⟨Nat.le_of_ble_eq_true rfl, Nat.le_of_ble_eq_true rfl⟩ ?_ Dp Bt Sq se
  intro Dp Bt Sq se
  refine xi_iconst (v := nI 3) C.1 dL_two_622 (by decide +kernel) ?_
  refine xi_icmp_ne (tgt := 635) C.1 dL_two_623 (by decide) (fun c => absurd c (by decide +kernel)) (fun _ => ?_)
  refine xi_aload_n C.1 dL_two_626 rfl 0 rfl ?_
  refine xi_iconst (v := nI 0) C.1 dL_two_627 (by decide +kernel) ?_
  refine xi_iconst (v := nI 1) C.1 dL_two_628 (by decide +kernel) ?_
  obtain ⟨m61, e61, H⟩ := xRun_c H
  have J61 := gg_q (by decide) J60 e61
  refine ow_15 (a1 := 0) (a2 := 1) (a3 := 0) C J60 e61 dL_two_629 (Nat.le_of_ble_eq_true rfl) ⟨Nat.le_of_ble_eq_true rfl, Nat.le_of_ble_eq_true rfl⟩ ?_ Dp Bt Sq se
  intro Dp Bt Sq se
  refine xi_if_eq (tgt := 637) C.1 dL_two_632 (by decide) (fun _ => ?_) (fun c => absurd (by decide +kernel) c)
  refine xi_aload_n C.1 dL_two_637 rfl 0 rfl ?_
  refine xi_iconst (v := nI 2) C.1 dL_two_638 (by decide +kernel) ?_
  obtain ⟨m62, e62, H⟩ := xRun_c H
  have J62 := gg_q (by decide) J61 e62
  refine ow_19 (a1 := 2) (a2 := 0) (a3 := 0) C J61 e62 dL_two_639 (Nat.le_of_ble_eq_true rfl) ⟨Nat.le_of_ble_eq_true rfl, Nat.le_of_ble_eq_true rfl⟩ ?_ Dp Bt Sq se
  intro Dp Bt Sq se
  refine xi_iconst (v := nI 5) C.1 dL_two_642 (by decide +kernel) ?_
  refine xi_icmp_ne (tgt := 729) C.1 dL_two_643 (by decide) (fun c => absurd c (by decide +kernel)) (fun _ => ?_)
  refine xi_aload_n C.1 dL_two_646 rfl 0 rfl ?_
  refine xi_iconst (v := nI 2) C.1 dL_two_647 (by decide +kernel) ?_
  refine xi_iconst (v := nI 5) C.1 dL_two_648 (by decide +kernel) ?_
  obtain ⟨m63, e63, H⟩ := xRun_c H
  have J63 := gg_q (by decide) J62 e63
  refine ow_18 (a1 := 2) (a2 := 5) (a3 := 0) C J62 e63 dL_two_649 (Nat.le_of_ble_eq_true rfl) ⟨Nat.le_of_ble_eq_true rfl, Nat.le_of_ble_eq_true rfl⟩ ?_ Dp Bt Sq se
  intro Dp Bt Sq se
  refine xi_if_ne (tgt := 729) C.1 dL_two_652 (by decide) (fun c => absurd c (by decide +kernel)) (fun _ => ?_)
  refine xi_aload_n C.1 dL_two_655 rfl 0 rfl ?_
  refine xi_iconst (v := nI 2) C.1 dL_two_656 (by decide +kernel) ?_
  refine xi_iconst (v := nI 0) C.1 dL_two_657 (by decide +kernel) ?_
  obtain ⟨m64, e64, H⟩ := xRun_c H
  have J64 := gg_q (by decide) J63 e64
  refine ow_18 (a1 := 2) (a2 := 0) (a3 := 0) C J63 e64 dL_two_658 (Nat.le_of_ble_eq_true rfl) ⟨Nat.le_of_ble_eq_true rfl, Nat.le_of_ble_eq_true rfl⟩ ?_ Dp Bt Sq se
  intro Dp Bt Sq se
  refine xi_iconst (v := nI 5) C.1 dL_two_661 (by decide +kernel) ?_
  refine xi_icmp_ne (tgt := 729) C.1 dL_two_662 (by decide) (fun c => absurd c (by decide +kernel)) (fun _ => ?_)
  refine xi_aload_n C.1 dL_two_665 rfl 0 rfl ?_
  refine xi_iconst (v := nI 0) C.1 dL_two_666 (by decide +kernel) ?_
  refine xi_iconst (v := nI 1) C.1 dL_two_667 (by decide +kernel) ?_
  obtain ⟨m65, e65, H⟩ := xRun_c H
  have J65 := gg_q (by decide) J64 e65
  refine ow_18 (a1 := 0) (a2 := 1) (a3 := 0) C J64 e65 dL_two_668 (Nat.le_of_ble_eq_true rfl) ⟨Nat.le_of_ble_eq_true rfl, Nat.le_of_ble_eq_true rfl⟩ ?_ Dp Bt Sq se
  intro Dp Bt Sq se
  refine xi_bipush (v := nI 4294967291) C.1 dL_two_671 (by decide +kernel) ?_
  refine xi_icmp_ne (tgt := 729) C.1 dL_two_673 (by decide) (fun c => absurd c (by decide +kernel)) (fun _ => ?_)
  refine xi_aload_n C.1 dL_two_676 rfl 0 rfl ?_
  refine xi_iconst (v := nI 2) C.1 dL_two_677 (by decide +kernel) ?_
  refine xi_iconst (v := nI 5) C.1 dL_two_678 (by decide +kernel) ?_
  obtain ⟨m66, e66, H⟩ := xRun_c H
  have J66 := gg_q (by decide) J65 e66
  refine ow_4 (a1 := 2) (a2 := 5) (a3 := 0) C J65 e66 dL_two_679 (Nat.le_of_ble_eq_true rfl) ⟨Nat.le_of_ble_eq_true rfl, Nat.le_of_ble_eq_true rfl⟩ ?_ Dp Bt Sq se
  intro Dp Bt Sq se
  refine xi_if_ne (tgt := 729) C.1 dL_two_682 (by decide) (fun c => absurd c (by decide +kernel)) (fun _ => ?_)
  refine xi_aload_n C.1 dL_two_685 rfl 0 rfl ?_
  refine xi_iconst (v := nI 5) C.1 dL_two_686 (by decide +kernel) ?_
  refine xi_iconst (v := nI 0) C.1 dL_two_687 (by decide +kernel) ?_
  obtain ⟨m67, e67, H⟩ := xRun_c H
  have J67 := gg_q (by decide) J66 e67
  refine ow_13 (a1 := 5) (a2 := 0) (a3 := 0) C J66 e67 dL_two_688 (Nat.le_of_ble_eq_true rfl) ⟨Nat.le_of_ble_eq_true rfl, Nat.le_of_ble_eq_true rfl⟩ ?_ Dp Bt Sq se
  intro Dp Bt Sq se
  refine xi_sipush (v := nI 254) C.1 dL_two_691 (by decide +kernel) ?_
  refine xi_icmp_ne (tgt := 729) C.1 dL_two_694 (by decide) (fun c => absurd c (by decide +kernel)) (fun _ => ?_)
  refine xi_aload_n C.1 dL_two_697 rfl 0 rfl ?_
  refine xi_iconst (v := nI 2) C.1 dL_two_698 (by decide +kernel) ?_
  refine xi_iconst (v := nI 0) C.1 dL_two_699 (by decide +kernel) ?_
  obtain ⟨m68, e68, H⟩ := xRun_c H
  have J68 := gg_q (by decide) J67 e68
  refine ow_13 (a1 := 2) (a2 := 0) (a3 := 0) C J67 e68 dL_two_700 (Nat.le_of_ble_eq_true rfl) ⟨Nat.le_of_ble_eq_true rfl, Nat.le_of_ble_eq_true rfl⟩ ?_ Dp Bt Sq se
  intro Dp Bt Sq se
  refine xi_iconst (v := nI 4294967295) C.1 dL_two_703 (by decide +kernel) ?_
  refine xi_icmp_ne (tgt := 729) C.1 dL_two_704 (by decide) (fun c => absurd c (by decide +kernel)) (fun _ => ?_)
  refine xi_aload_n C.1 dL_two_707 rfl 0 rfl ?_
  refine xi_iconst (v := nI 5) C.1 dL_two_708 (by decide +kernel) ?_
  refine xi_iconst (v := nI 2) C.1 dL_two_709 (by decide +kernel) ?_
  obtain ⟨m69, e69, H⟩ := xRun_c H
  have J69 := gg_q (by decide) J68 e69
  refine ow_13 (a1 := 5) (a2 := 2) (a3 := 0) C J68 e69 dL_two_710 (Nat.le_of_ble_eq_true rfl) ⟨Nat.le_of_ble_eq_true rfl, Nat.le_of_ble_eq_true rfl⟩ ?_ Dp Bt Sq se
  intro Dp Bt Sq se
  refine xi_bipush (v := nI 28) C.1 dL_two_713 (by decide +kernel) ?_
  refine xi_icmp_ne (tgt := 729) C.1 dL_two_715 (by decide) (fun c => absurd c (by decide +kernel)) (fun _ => ?_)
  refine xi_aload_n C.1 dL_two_718 rfl 0 rfl ?_
  refine xi_iconst (v := nI 5) C.1 dL_two_719 (by decide +kernel) ?_
  refine xi_iconst (v := nI 1) C.1 dL_two_720 (by decide +kernel) ?_
  refine xi_iconst (v := nI 0) C.1 dL_two_721 (by decide +kernel) ?_
  obtain ⟨m70, e70, H⟩ := xRun_c H
  have J70 := gg_q (by decide) J69 e70
  refine ow_14 (a1 := 5) (a2 := 1) (a3 := 0) C J69 e70 dL_two_722 (Nat.le_of_ble_eq_true rfl) ⟨Nat.le_of_ble_eq_true rfl, Nat.le_of_ble_eq_true rfl⟩ ?_ Dp Bt Sq se
  intro Dp Bt Sq se
  refine xi_iconst (v := nI 5) C.1 dL_two_725 (by decide +kernel) ?_
  refine xi_icmp_eq (tgt := 731) C.1 dL_two_726 (by decide) (fun _ => ?_) (fun c => absurd (by decide +kernel) c)
  refine xi_aload_n C.1 dL_two_731 rfl 0 rfl ?_
  obtain ⟨m71, e71, H⟩ := xRun_c H
  have J71 := gg_q (by decide) J70 e71
  refine ow_10 (a1 := 0) (a2 := 0) (a3 := 0) C J70 e71 dL_two_732 (Nat.le_of_ble_eq_true rfl) ⟨Nat.le_of_ble_eq_true rfl, Nat.le_of_ble_eq_true rfl⟩ ?_ Dp Bt Sq se
  intro Dp Bt Sq se
  refine xi_iconst (v := nI 3) C.1 dL_two_735 (by decide +kernel) ?_
  refine xi_icmp_ne (tgt := 825) C.1 dL_two_736 (by decide) (fun c => absurd c (by decide +kernel)) (fun _ => ?_)
  refine xi_aload_n C.1 dL_two_739 rfl 0 rfl ?_
  refine xi_iconst (v := nI 2) C.1 dL_two_740 (by decide +kernel) ?_
  refine xi_iconst (v := nI 0) C.1 dL_two_741 (by decide +kernel) ?_
  obtain ⟨m72, e72, H⟩ := xRun_c H
  have J72 := gg_q (by decide) J71 e72
  refine ow_13 (a1 := 2) (a2 := 0) (a3 := 0) C J71 e72 dL_two_742 (Nat.le_of_ble_eq_true rfl) ⟨Nat.le_of_ble_eq_true rfl, Nat.le_of_ble_eq_true rfl⟩ ?_ Dp Bt Sq se
  intro Dp Bt Sq se
  refine xi_sipush (v := nI 254) C.1 dL_two_745 (by decide +kernel) ?_
  refine xi_icmp_ne (tgt := 825) C.1 dL_two_748 (by decide) (fun c => absurd c (by decide +kernel)) (fun _ => ?_)
  refine xi_aload_n C.1 dL_two_751 rfl 0 rfl ?_
  obtain ⟨m73, e73, H⟩ := xRun_c H
  have J73 := gg_q (by decide) J72 e73
  refine ow_10 (a1 := 0) (a2 := 0) (a3 := 0) C J72 e73 dL_two_752 (Nat.le_of_ble_eq_true rfl) ⟨Nat.le_of_ble_eq_true rfl, Nat.le_of_ble_eq_true rfl⟩ ?_ Dp Bt Sq se
  intro Dp Bt Sq se
  refine xi_iconst (v := nI 2) C.1 dL_two_755 (by decide +kernel) ?_
  refine xi_icmp_ne (tgt := 825) C.1 dL_two_756 (by decide) (fun c => absurd c (by decide +kernel)) (fun _ => ?_)
  refine xi_aload_n C.1 dL_two_759 rfl 0 rfl ?_
  refine xi_iconst (v := nI 0) C.1 dL_two_760 (by decide +kernel) ?_
  refine xi_iconst (v := nI 0) C.1 dL_two_761 (by decide +kernel) ?_
  obtain ⟨m74, e74, H⟩ := xRun_c H
  have J74 := gg_q (by decide) J73 e74
  refine ow_13 (a1 := 0) (a2 := 0) (a3 := 0) C J73 e74 dL_two_762 (Nat.le_of_ble_eq_true rfl) ⟨Nat.le_of_ble_eq_true rfl, Nat.le_of_ble_eq_true rfl⟩ ?_ Dp Bt Sq se
  intro Dp Bt Sq se
  refine xi_sipush (v := nI 128) C.1 dL_two_765 (by decide +kernel) ?_
  refine xi_icmp_ne (tgt := 825) C.1 dL_two_768 (by decide) (fun c => absurd c (by decide +kernel)) (fun _ => ?_)
  refine xi_aload_n C.1 dL_two_771 rfl 0 rfl ?_
  obtain ⟨m75, e75, H⟩ := xRun_c H
  have J75 := gg_q (by decide) J74 e75
  refine ow_12 (a1 := 0) (a2 := 0) (a3 := 0) C J74 e75 dL_two_772 (Nat.le_of_ble_eq_true rfl) ⟨Nat.le_of_ble_eq_true rfl, Nat.le_of_ble_eq_true rfl⟩ ?_ Dp Bt Sq se
  intro Dp Bt Sq se
  refine xi_iconst (v := nI 2) C.1 dL_two_775 (by decide +kernel) ?_
  refine xi_icmp_ne (tgt := 825) C.1 dL_two_776 (by decide) (fun c => absurd c (by decide +kernel)) (fun _ => ?_)
  refine xi_aload_n C.1 dL_two_779 rfl 0 rfl ?_
  refine xi_iconst (v := nI 2) C.1 dL_two_780 (by decide +kernel) ?_
  obtain ⟨m76, e76, H⟩ := xRun_c H
  have J76 := gg_q (by decide) J75 e76
  refine ow_21 (a1 := 2) (a2 := 0) (a3 := 0) C J75 e76 dL_two_781 (Nat.le_of_ble_eq_true rfl) ⟨Nat.le_of_ble_eq_true rfl, Nat.le_of_ble_eq_true rfl⟩ ?_ Dp Bt Sq se
  intro Dp Bt Sq se
  refine xi_bipush (v := nI 6) C.1 dL_two_784 (by decide +kernel) ?_
  refine xi_icmp_ne (tgt := 825) C.1 dL_two_786 (by decide) (fun c => absurd c (by decide +kernel)) (fun _ => ?_)
  refine xi_aload_n C.1 dL_two_789 rfl 0 rfl ?_
  refine xi_iconst (v := nI 0) C.1 dL_two_790 (by decide +kernel) ?_
  refine xi_iconst (v := nI 3) C.1 dL_two_791 (by decide +kernel) ?_
  obtain ⟨m77, e77, H⟩ := xRun_c H
  have J77 := gg_q (by decide) J76 e77
  refine ow_16 (a1 := 0) (a2 := 3) (a3 := 0) C J76 e77 dL_two_792 (Nat.le_of_ble_eq_true rfl) ⟨Nat.le_of_ble_eq_true rfl, Nat.le_of_ble_eq_true rfl⟩ ?_ Dp Bt Sq se
  intro Dp Bt Sq se
  refine xi_iconst (v := nI 1) C.1 dL_two_795 (by decide +kernel) ?_
  refine xi_icmp_ne (tgt := 825) C.1 dL_two_796 (by decide) (fun c => absurd c (by decide +kernel)) (fun _ => ?_)
  refine xi_aload_n C.1 dL_two_799 rfl 0 rfl ?_
  refine xi_iconst (v := nI 2) C.1 dL_two_800 (by decide +kernel) ?_
  refine xi_iconst (v := nI 1) C.1 dL_two_801 (by decide +kernel) ?_
  obtain ⟨m78, e78, H⟩ := xRun_c H
  have J78 := gg_q (by decide) J77 e78
  refine ow_2 (a1 := 2) (a2 := 1) (a3 := 0) C J77 e78 dL_two_802 (Nat.le_of_ble_eq_true rfl) ⟨Nat.le_of_ble_eq_true rfl, Nat.le_of_ble_eq_true rfl⟩ ?_ Dp Bt Sq se
  intro Dp Bt Sq se
  refine xi_sipush (v := nI 254) C.1 dL_two_805 (by decide +kernel) ?_
  refine xi_icmp_ne (tgt := 825) C.1 dL_two_808 (by decide) (fun c => absurd c (by decide +kernel)) (fun _ => ?_)
  refine xi_aload_n C.1 dL_two_811 rfl 0 rfl ?_
  refine xi_iconst (v := nI 2) C.1 dL_two_812 (by decide +kernel) ?_
  refine xi_iconst (v := nI 0) C.1 dL_two_813 (by decide +kernel) ?_
  obtain ⟨m79, e79, H⟩ := xRun_c H
  have J79 := gg_q (by decide) J78 e79
  refine ow_16 (a1 := 2) (a2 := 0) (a3 := 0) C J78 e79 dL_two_814 (Nat.le_of_ble_eq_true rfl) ⟨Nat.le_of_ble_eq_true rfl, Nat.le_of_ble_eq_true rfl⟩ ?_ Dp Bt Sq se
  intro Dp Bt Sq se
  refine xi_iconst (v := nI 1) C.1 dL_two_817 (by decide +kernel) ?_
  refine xi_icmp_ne (tgt := 825) C.1 dL_two_818 (by decide) (fun c => absurd c (by decide +kernel)) (fun _ => ?_)
  refine xi_iconst (v := nI 1) C.1 dL_two_821 (by decide +kernel) ?_
  refine xi_goto (tgt := 826) C.1 dL_two_822 (by decide) ?_
  exact xi_zretP C.1 Z (Nat.le_of_ble_eq_true rfl) (Nat.le_of_ble_eq_true rfl) oN_nil ⟨rfl, rfl⟩ dL_two_826 (by decide +kernel)
