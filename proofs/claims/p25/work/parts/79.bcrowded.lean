/-! crowded() -/
theorem so_crowded : ∀ s, f_X0_sourceOf (dM gm_crowded_a).1.2.1 (nI 8 * 3 + nI 0) = some (nI s) → f_X0_isSource (dM gm_crowded_a).1.1 (nI s) = some (nI 1) := by
  intro s h
  have e : f_X0_sourceOf (dM gm_crowded_a).1.2.1 (nI 8 * 3 + nI 0) = some (nI 24) := s_X0_sourceOf (S := gm_crowded_a.1.2.1) (p1 := ga (gm 8 3) 0) (by decide +kernel) rfl (s_add (s_mul rfl rfl) rfl)
  rw [e] at h
  rw [← Option.some.inj h]
  exact s_X0_isSource (T := gm_crowded_a.1.1) (p1 := 24) (by decide +kernel) rfl rfl
set_option maxHeartbeats 8000000 in
set_option maxRecDepth 100000 in
theorem m_crowded (D : va_G) (cI cC cZ cR : ClassId) : xb_MP cL_crowded wsB_crowded RL rm_crowded (some .boolean) 1 (xb_ty cI cC cZ cR) D (va_AO RX0) [] [] oN 53 13855 := by
  intro X C0 E0 Z hfr
  have C : xb_LW X cL_crowded wsB_crowded rm_crowded (some .boolean) 1 (xb_ty cI cC cZ cR) D cI cC cZ cR := ⟨C0, su_crowded, rfl, by decide, by decide⟩
  show xb_G X 0 0 [] [] 0 []
  refine on_new C E0 ⟨Nat.le_of_ble_eq_true rfl, Nat.le_of_ble_eq_true rfl⟩ dL_crowded_0 dL_crowded_3 dL_crowded_4 (Nat.le_of_ble_eq_true rfl) (fun ad ha => ?_)
  intro Dp Bt Sq se
  have H := run_crowded_a
  unfold sc_crowded_a at H
  refine xj_astore_n (lv2 := [(0, .ref (ad 0))]) C.1 dL_crowded_7 rfl (by decide) [] [0] rfl ?_
  refine xi_aload_n C.1 dL_crowded_8 rfl 0 rfl ?_
  refine xi_bipush (v := nI 7) C.1 dL_crowded_9 (by decide +kernel) ?_
  refine xi_iconst (v := nI 1) C.1 dL_crowded_11 (by decide +kernel) ?_
  obtain ⟨m1, e1, H⟩ := xRun_c H
  have J1 := gg_q (by decide) GG_0 e1
  refine ow_0 (a1 := 7) (a2 := 1) (a3 := 0) C GG_0 e1 dL_crowded_12 (Nat.le_of_ble_eq_true rfl) ⟨Nat.le_of_ble_eq_true rfl, Nat.le_of_ble_eq_true rfl⟩ ?_ Dp Bt Sq se
  intro Dp Bt Sq se
  refine xi_iconst (v := nI 1) C.1 dL_crowded_15 (by decide +kernel) ?_
  refine xi_icmp_ne (tgt := 309) C.1 dL_crowded_16 (by decide) (fun c => absurd c (by decide +kernel)) (fun _ => ?_)
  refine xi_aload_n C.1 dL_crowded_19 rfl 0 rfl ?_
  refine xi_bipush (v := nI 7) C.1 dL_crowded_20 (by decide +kernel) ?_
  refine xi_iconst (v := nI 0) C.1 dL_crowded_22 (by decide +kernel) ?_
  refine xi_bipush (v := nI 24) C.1 dL_crowded_23 (by decide +kernel) ?_
  obtain ⟨m2, e2, H⟩ := xRun_c H
  have J2 := gg_q (by decide) J1 e2
  refine ow_3 (a1 := 7) (a2 := 0) (a3 := 24) C J1 e2 dL_crowded_25 (Nat.le_of_ble_eq_true rfl) ⟨Nat.le_of_ble_eq_true rfl, Nat.le_of_ble_eq_true rfl⟩ ?_ Dp Bt Sq se
  intro Dp Bt Sq se
  refine xi_iconst (v := nI 2) C.1 dL_crowded_28 (by decide +kernel) ?_
  refine xi_icmp_ne (tgt := 309) C.1 dL_crowded_29 (by decide) (fun c => absurd c (by decide +kernel)) (fun _ => ?_)
  refine xi_aload_n C.1 dL_crowded_32 rfl 0 rfl ?_
  refine xi_bipush (v := nI 7) C.1 dL_crowded_33 (by decide +kernel) ?_
  refine xi_iconst (v := nI 0) C.1 dL_crowded_35 (by decide +kernel) ?_
  refine xi_iconst (v := nI 1) C.1 dL_crowded_36 (by decide +kernel) ?_
  obtain ⟨m3, e3, H⟩ := xRun_c H
  have J3 := gg_q (by decide) J2 e3
  refine ow_14 (a1 := 7) (a2 := 0) (a3 := 1) C J2 e3 dL_crowded_37 (Nat.le_of_ble_eq_true rfl) ⟨Nat.le_of_ble_eq_true rfl, Nat.le_of_ble_eq_true rfl⟩ ?_ Dp Bt Sq se
  intro Dp Bt Sq se
  refine xi_iconst (v := nI 1) C.1 dL_crowded_40 (by decide +kernel) ?_
  refine xi_icmp_ne (tgt := 309) C.1 dL_crowded_41 (by decide) (fun c => absurd c (by decide +kernel)) (fun _ => ?_)
  refine xi_aload_n C.1 dL_crowded_44 rfl 0 rfl ?_
  refine xi_bipush (v := nI 7) C.1 dL_crowded_45 (by decide +kernel) ?_
  refine xi_iconst (v := nI 1) C.1 dL_crowded_47 (by decide +kernel) ?_
  refine xi_bipush (v := nI 24) C.1 dL_crowded_48 (by decide +kernel) ?_
  obtain ⟨m4, e4, H⟩ := xRun_c H
  have J4 := gg_q (by decide) J3 e4
  refine ow_3 (a1 := 7) (a2 := 1) (a3 := 24) C J3 e4 dL_crowded_50 (Nat.le_of_ble_eq_true rfl) ⟨Nat.le_of_ble_eq_true rfl, Nat.le_of_ble_eq_true rfl⟩ ?_ Dp Bt Sq se
  intro Dp Bt Sq se
  refine xi_iconst (v := nI 2) C.1 dL_crowded_53 (by decide +kernel) ?_
  refine xi_icmp_ne (tgt := 309) C.1 dL_crowded_54 (by decide) (fun c => absurd c (by decide +kernel)) (fun _ => ?_)
  refine xi_aload_n C.1 dL_crowded_57 rfl 0 rfl ?_
  refine xi_bipush (v := nI 7) C.1 dL_crowded_58 (by decide +kernel) ?_
  refine xi_iconst (v := nI 1) C.1 dL_crowded_60 (by decide +kernel) ?_
  refine xi_iconst (v := nI 1) C.1 dL_crowded_61 (by decide +kernel) ?_
  obtain ⟨m5, e5, H⟩ := xRun_c H
  have J5 := gg_q (by decide) J4 e5
  refine ow_14 (a1 := 7) (a2 := 1) (a3 := 1) C J4 e5 dL_crowded_62 (Nat.le_of_ble_eq_true rfl) ⟨Nat.le_of_ble_eq_true rfl, Nat.le_of_ble_eq_true rfl⟩ ?_ Dp Bt Sq se
  intro Dp Bt Sq se
  refine xi_bipush (v := nI 6) C.1 dL_crowded_65 (by decide +kernel) ?_
  refine xi_icmp_ne (tgt := 309) C.1 dL_crowded_67 (by decide) (fun c => absurd c (by decide +kernel)) (fun _ => ?_)
  refine xi_aload_n C.1 dL_crowded_70 rfl 0 rfl ?_
  refine xi_bipush (v := nI 7) C.1 dL_crowded_71 (by decide +kernel) ?_
  refine xi_iconst (v := nI 2) C.1 dL_crowded_73 (by decide +kernel) ?_
  refine xi_bipush (v := nI 24) C.1 dL_crowded_74 (by decide +kernel) ?_
  obtain ⟨m6, e6, H⟩ := xRun_c H
  have J6 := gg_q (by decide) J5 e6
  refine ow_3 (a1 := 7) (a2 := 2) (a3 := 24) C J5 e6 dL_crowded_76 (Nat.le_of_ble_eq_true rfl) ⟨Nat.le_of_ble_eq_true rfl, Nat.le_of_ble_eq_true rfl⟩ ?_ Dp Bt Sq se
  intro Dp Bt Sq se
  refine xi_iconst (v := nI 2) C.1 dL_crowded_79 (by decide +kernel) ?_
  refine xi_icmp_ne (tgt := 309) C.1 dL_crowded_80 (by decide) (fun c => absurd c (by decide +kernel)) (fun _ => ?_)
  refine xi_aload_n C.1 dL_crowded_83 rfl 0 rfl ?_
  refine xi_bipush (v := nI 7) C.1 dL_crowded_84 (by decide +kernel) ?_
  refine xi_iconst (v := nI 2) C.1 dL_crowded_86 (by decide +kernel) ?_
  refine xi_iconst (v := nI 1) C.1 dL_crowded_87 (by decide +kernel) ?_
  obtain ⟨m7, e7, H⟩ := xRun_c H
  have J7 := gg_q (by decide) J6 e7
  refine ow_14 (a1 := 7) (a2 := 2) (a3 := 1) C J6 e7 dL_crowded_88 (Nat.le_of_ble_eq_true rfl) ⟨Nat.le_of_ble_eq_true rfl, Nat.le_of_ble_eq_true rfl⟩ ?_ Dp Bt Sq se
  intro Dp Bt Sq se
  refine xi_iconst (v := nI 1) C.1 dL_crowded_91 (by decide +kernel) ?_
  refine xi_icmp_ne (tgt := 309) C.1 dL_crowded_92 (by decide) (fun c => absurd c (by decide +kernel)) (fun _ => ?_)
  refine xi_aload_n C.1 dL_crowded_95 rfl 0 rfl ?_
  refine xi_iconst (v := nI 0) C.1 dL_crowded_96 (by decide +kernel) ?_
  refine xi_iconst (v := nI 1) C.1 dL_crowded_97 (by decide +kernel) ?_
  obtain ⟨m8, e8, H⟩ := xRun_c H
  have J8 := gg_q (by decide) J7 e8
  refine ow_15 (a1 := 0) (a2 := 1) (a3 := 0) C J7 e8 dL_crowded_98 (Nat.le_of_ble_eq_true rfl) ⟨Nat.le_of_ble_eq_true rfl, Nat.le_of_ble_eq_true rfl⟩ ?_ Dp Bt Sq se
  intro Dp Bt Sq se
  refine xi_iconst (v := nI 2) C.1 dL_crowded_101 (by decide +kernel) ?_
  refine xi_icmp_ne (tgt := 309) C.1 dL_crowded_102 (by decide) (fun c => absurd c (by decide +kernel)) (fun _ => ?_)
  refine xi_aload_n C.1 dL_crowded_105 rfl 0 rfl ?_
  refine xi_iconst (v := nI 1) C.1 dL_crowded_106 (by decide +kernel) ?_
  refine xi_bipush (v := nI 7) C.1 dL_crowded_107 (by decide +kernel) ?_
  obtain ⟨m9, e9, H⟩ := xRun_c H
  have J9 := gg_q (by decide) J8 e9
  refine ow_15 (a1 := 1) (a2 := 7) (a3 := 0) C J8 e9 dL_crowded_109 (Nat.le_of_ble_eq_true rfl) ⟨Nat.le_of_ble_eq_true rfl, Nat.le_of_ble_eq_true rfl⟩ ?_ Dp Bt Sq se
  intro Dp Bt Sq se
  refine xi_iconst (v := nI 2) C.1 dL_crowded_112 (by decide +kernel) ?_
  refine xi_icmp_ne (tgt := 309) C.1 dL_crowded_113 (by decide) (fun c => absurd c (by decide +kernel)) (fun _ => ?_)
  refine xi_aload_n C.1 dL_crowded_116 rfl 0 rfl ?_
  refine xi_iconst (v := nI 0) C.1 dL_crowded_117 (by decide +kernel) ?_
  refine xi_bipush (v := nI 6) C.1 dL_crowded_118 (by decide +kernel) ?_
  obtain ⟨m10, e10, H⟩ := xRun_c H
  have J10 := gg_q (by decide) J9 e10
  refine ow_15 (a1 := 0) (a2 := 6) (a3 := 0) C J9 e10 dL_crowded_120 (Nat.le_of_ble_eq_true rfl) ⟨Nat.le_of_ble_eq_true rfl, Nat.le_of_ble_eq_true rfl⟩ ?_ Dp Bt Sq se
  intro Dp Bt Sq se
  refine xi_iconst (v := nI 1) C.1 dL_crowded_123 (by decide +kernel) ?_
  refine xi_icmp_ne (tgt := 309) C.1 dL_crowded_124 (by decide) (fun c => absurd c (by decide +kernel)) (fun _ => ?_)
  refine xi_aload_n C.1 dL_crowded_127 rfl 0 rfl ?_
  refine xi_iconst (v := nI 3) C.1 dL_crowded_128 (by decide +kernel) ?_
  obtain ⟨m11, e11, H⟩ := xRun_c H
  have J11 := gg_q (by decide) J10 e11
  refine ow_21 (a1 := 3) (a2 := 0) (a3 := 0) C J10 e11 dL_crowded_129 (Nat.le_of_ble_eq_true rfl) ⟨Nat.le_of_ble_eq_true rfl, Nat.le_of_ble_eq_true rfl⟩ ?_ Dp Bt Sq se
  intro Dp Bt Sq se
  refine xi_iconst (v := nI 2) C.1 dL_crowded_132 (by decide +kernel) ?_
  refine xi_icmp_ne (tgt := 309) C.1 dL_crowded_133 (by decide) (fun c => absurd c (by decide +kernel)) (fun _ => ?_)
  refine xi_aload_n C.1 dL_crowded_136 rfl 0 rfl ?_
  refine xi_iconst (v := nI 4) C.1 dL_crowded_137 (by decide +kernel) ?_
  obtain ⟨m12, e12, H⟩ := xRun_c H
  have J12 := gg_q (by decide) J11 e12
  refine ow_21 (a1 := 4) (a2 := 0) (a3 := 0) C J11 e12 dL_crowded_138 (Nat.le_of_ble_eq_true rfl) ⟨Nat.le_of_ble_eq_true rfl, Nat.le_of_ble_eq_true rfl⟩ ?_ Dp Bt Sq se
  intro Dp Bt Sq se
  refine xi_iconst (v := nI 2) C.1 dL_crowded_141 (by decide +kernel) ?_
  refine xi_icmp_ne (tgt := 309) C.1 dL_crowded_142 (by decide) (fun c => absurd c (by decide +kernel)) (fun _ => ?_)
  refine xi_aload_n C.1 dL_crowded_145 rfl 0 rfl ?_
  refine xi_bipush (v := nI 8) C.1 dL_crowded_146 (by decide +kernel) ?_
  refine xi_iconst (v := nI 1) C.1 dL_crowded_148 (by decide +kernel) ?_
  obtain ⟨m13, e13, H⟩ := xRun_c H
  have J13 := gg_q (by decide) J12 e13
  refine ow_0 (a1 := 8) (a2 := 1) (a3 := 0) C J12 e13 dL_crowded_149 (Nat.le_of_ble_eq_true rfl) ⟨Nat.le_of_ble_eq_true rfl, Nat.le_of_ble_eq_true rfl⟩ ?_ Dp Bt Sq se
  intro Dp Bt Sq se
  refine xi_iconst (v := nI 2) C.1 dL_crowded_152 (by decide +kernel) ?_
  refine xi_icmp_ne (tgt := 309) C.1 dL_crowded_153 (by decide) (fun c => absurd c (by decide +kernel)) (fun _ => ?_)
  refine xi_aload_n C.1 dL_crowded_156 rfl 0 rfl ?_
  refine xi_bipush (v := nI 8) C.1 dL_crowded_157 (by decide +kernel) ?_
  refine xi_iconst (v := nI 0) C.1 dL_crowded_159 (by decide +kernel) ?_
  refine xi_bipush (v := nI 24) C.1 dL_crowded_160 (by decide +kernel) ?_
  obtain ⟨m14, e14, H⟩ := xRun_c H
  have J14 := gg_q (by decide) J13 e14
  refine ow_3 (a1 := 8) (a2 := 0) (a3 := 24) C J13 e14 dL_crowded_162 (Nat.le_of_ble_eq_true rfl) ⟨Nat.le_of_ble_eq_true rfl, Nat.le_of_ble_eq_true rfl⟩ ?_ Dp Bt Sq se
  intro Dp Bt Sq se
  refine xi_iconst (v := nI 3) C.1 dL_crowded_165 (by decide +kernel) ?_
  refine xi_icmp_ne (tgt := 309) C.1 dL_crowded_166 (by decide) (fun c => absurd c (by decide +kernel)) (fun _ => ?_)
  refine xi_aload_n C.1 dL_crowded_169 rfl 0 rfl ?_
  refine xi_bipush (v := nI 8) C.1 dL_crowded_170 (by decide +kernel) ?_
  refine xi_iconst (v := nI 0) C.1 dL_crowded_172 (by decide +kernel) ?_
  refine xi_iconst (v := nI 1) C.1 dL_crowded_173 (by decide +kernel) ?_
  obtain ⟨m15, e15, H⟩ := xRun_c H
  have J15 := gg_q (by decide) J14 e15
  refine ow_14 (a1 := 8) (a2 := 0) (a3 := 1) C J14 e15 dL_crowded_174 (Nat.le_of_ble_eq_true rfl) ⟨Nat.le_of_ble_eq_true rfl, Nat.le_of_ble_eq_true rfl⟩ ?_ Dp Bt Sq se
  intro Dp Bt Sq se
  refine xi_bipush (v := nI 6) C.1 dL_crowded_177 (by decide +kernel) ?_
  refine xi_icmp_ne (tgt := 309) C.1 dL_crowded_179 (by decide) (fun c => absurd c (by decide +kernel)) (fun _ => ?_)
  refine xi_aload_n C.1 dL_crowded_182 rfl 0 rfl ?_
  refine xi_bipush (v := nI 8) C.1 dL_crowded_183 (by decide +kernel) ?_
  refine xi_iconst (v := nI 0) C.1 dL_crowded_185 (by decide +kernel) ?_
  refine xi_iconst (v := nI 2) C.1 dL_crowded_186 (by decide +kernel) ?_
  obtain ⟨m16, e16, H⟩ := xRun_c H
  have J16 := gg_q (by decide) J15 e16
  refine ow_14 (a1 := 8) (a2 := 0) (a3 := 2) C J15 e16 dL_crowded_187 (Nat.le_of_ble_eq_true rfl) ⟨Nat.le_of_ble_eq_true rfl, Nat.le_of_ble_eq_true rfl⟩ ?_ Dp Bt Sq se
  intro Dp Bt Sq se
  refine xi_bipush (v := nI 7) C.1 dL_crowded_190 (by decide +kernel) ?_
  refine xi_icmp_ne (tgt := 309) C.1 dL_crowded_192 (by decide) (fun c => absurd c (by decide +kernel)) (fun _ => ?_)
  refine xi_aload_n C.1 dL_crowded_195 rfl 0 rfl ?_
  refine xi_iconst (v := nI 0) C.1 dL_crowded_196 (by decide +kernel) ?_
  refine xi_bipush (v := nI 6) C.1 dL_crowded_197 (by decide +kernel) ?_
  obtain ⟨m17, e17, H⟩ := xRun_c H
  have J17 := gg_q (by decide) J16 e17
  refine ow_15 (a1 := 0) (a2 := 6) (a3 := 0) C J16 e17 dL_crowded_199 (Nat.le_of_ble_eq_true rfl) ⟨Nat.le_of_ble_eq_true rfl, Nat.le_of_ble_eq_true rfl⟩ ?_ Dp Bt Sq se
  intro Dp Bt Sq se
  refine xi_iconst (v := nI 2) C.1 dL_crowded_202 (by decide +kernel) ?_
  refine xi_icmp_ne (tgt := 309) C.1 dL_crowded_203 (by decide) (fun c => absurd c (by decide +kernel)) (fun _ => ?_)
  refine xi_aload_n C.1 dL_crowded_206 rfl 0 rfl ?_
  refine xi_bipush (v := nI 8) C.1 dL_crowded_207 (by decide +kernel) ?_
  refine xi_iconst (v := nI 1) C.1 dL_crowded_209 (by decide +kernel) ?_
  refine xi_bipush (v := nI 24) C.1 dL_crowded_210 (by decide +kernel) ?_
  obtain ⟨m18, e18, H⟩ := xRun_c H
  have J18 := gg_q (by decide) J17 e18
  refine ow_3 (a1 := 8) (a2 := 1) (a3 := 24) C J17 e18 dL_crowded_212 (Nat.le_of_ble_eq_true rfl) ⟨Nat.le_of_ble_eq_true rfl, Nat.le_of_ble_eq_true rfl⟩ ?_ Dp Bt Sq se
  intro Dp Bt Sq se
  refine xi_bipush (v := nI 4294967293) C.1 dL_crowded_215 (by decide +kernel) ?_
  refine xi_icmp_ne (tgt := 309) C.1 dL_crowded_217 (by decide) (fun c => absurd c (by decide +kernel)) (fun _ => ?_)
  refine xi_aload_n C.1 dL_crowded_220 rfl 0 rfl ?_
  refine xi_bipush (v := nI 8) C.1 dL_crowded_221 (by decide +kernel) ?_
  refine xi_iconst (v := nI 2) C.1 dL_crowded_223 (by decide +kernel) ?_
  obtain ⟨m19, e19, H⟩ := xRun_c H
  have J19 := gg_q (by decide) J18 e19
  refine ow_13 (a1 := 8) (a2 := 2) (a3 := 0) C J18 e19 dL_crowded_224 (Nat.le_of_ble_eq_true rfl) ⟨Nat.le_of_ble_eq_true rfl, Nat.le_of_ble_eq_true rfl⟩ ?_ Dp Bt Sq se
  intro Dp Bt Sq se
  refine xi_bipush (v := nI 32) C.1 dL_crowded_227 (by decide +kernel) ?_
  refine xi_icmp_ne (tgt := 309) C.1 dL_crowded_229 (by decide) (fun c => absurd c (by decide +kernel)) (fun _ => ?_)
  refine xi_aload_n C.1 dL_crowded_232 rfl 0 rfl ?_
  refine xi_bipush (v := nI 8) C.1 dL_crowded_233 (by decide +kernel) ?_
  refine xi_iconst (v := nI 1) C.1 dL_crowded_235 (by decide +kernel) ?_
  refine xi_iconst (v := nI 0) C.1 dL_crowded_236 (by decide +kernel) ?_
  obtain ⟨m20, e20, H⟩ := xRun_c H
  have J20 := gg_q (by decide) J19 e20
  refine ow_14 (a1 := 8) (a2 := 1) (a3 := 0) C J19 e20 dL_crowded_237 (Nat.le_of_ble_eq_true rfl) ⟨Nat.le_of_ble_eq_true rfl, Nat.le_of_ble_eq_true rfl⟩ ?_ Dp Bt Sq se
  intro Dp Bt Sq se
  refine xi_bipush (v := nI 4294967291) C.1 dL_crowded_240 (by decide +kernel) ?_
  refine xi_icmp_ne (tgt := 309) C.1 dL_crowded_242 (by decide) (fun c => absurd c (by decide +kernel)) (fun _ => ?_)
  refine xi_aload_n C.1 dL_crowded_245 rfl 0 rfl ?_
  refine xi_bipush (v := nI 8) C.1 dL_crowded_246 (by decide +kernel) ?_
  obtain rfl : m20 = dM gm_crowded_a := Option.some.inj H
  clear H
  refine oc_P (As := [.int (nI 8)]) (rest := []) C kL_refused (fun Dp Bt Sq se => m_refused D cI cC cZ cR ad ha J20 (p := 8) (by decide) so_crowded Dp Bt Sq se) gB_refused dL_crowded_248 ⟨by decide, by decide, Nat.le_of_ble_eq_true rfl⟩ rfl (Nat.le_of_ble_eq_true rfl) ⟨Nat.le_of_ble_eq_true rfl, Nat.le_of_ble_eq_true rfl⟩ ?_ Dp Bt Sq se
  intro Dp Bt Sq se
  have H := run_crowded_b
  unfold sc_crowded_b at H
  refine xi_if_eq (tgt := 309) C.1 dL_crowded_251 (by decide) (fun c => absurd c (by decide +kernel)) (fun _ => ?_)
  refine xi_aload_n C.1 dL_crowded_254 rfl 0 rfl ?_
  refine xi_iconst (v := nI 0) C.1 dL_crowded_255 (by decide +kernel) ?_
  refine xi_iconst (v := nI 1) C.1 dL_crowded_256 (by decide +kernel) ?_
  obtain ⟨m21, e21, H⟩ := xRun_c H
  have J21 := gg_q (by decide) J20 e21
  refine ow_6 (a1 := 0) (a2 := 1) (a3 := 0) C J20 e21 dL_crowded_257 (Nat.le_of_ble_eq_true rfl) ⟨Nat.le_of_ble_eq_true rfl, Nat.le_of_ble_eq_true rfl⟩ ?_ Dp Bt Sq se
  intro Dp Bt Sq se
  refine xi_bipush (v := nI 4294967292) C.1 dL_crowded_260 (by decide +kernel) ?_
  refine xi_icmp_ne (tgt := 309) C.1 dL_crowded_262 (by decide) (fun c => absurd c (by decide +kernel)) (fun _ => ?_)
  refine xi_aload_n C.1 dL_crowded_265 rfl 0 rfl ?_
  refine xi_iconst (v := nI 0) C.1 dL_crowded_266 (by decide +kernel) ?_
  refine xi_iconst (v := nI 3) C.1 dL_crowded_267 (by decide +kernel) ?_
  obtain ⟨m22, e22, H⟩ := xRun_c H
  have J22 := gg_q (by decide) J21 e22
  refine ow_6 (a1 := 0) (a2 := 3) (a3 := 0) C J21 e22 dL_crowded_268 (Nat.le_of_ble_eq_true rfl) ⟨Nat.le_of_ble_eq_true rfl, Nat.le_of_ble_eq_true rfl⟩ ?_ Dp Bt Sq se
  intro Dp Bt Sq se
  refine xi_iconst (v := nI 2) C.1 dL_crowded_271 (by decide +kernel) ?_
  refine xi_icmp_ne (tgt := 309) C.1 dL_crowded_272 (by decide) (fun c => absurd c (by decide +kernel)) (fun _ => ?_)
  refine xi_aload_n C.1 dL_crowded_275 rfl 0 rfl ?_
  refine xi_iconst (v := nI 0) C.1 dL_crowded_276 (by decide +kernel) ?_
  refine xi_iconst (v := nI 3) C.1 dL_crowded_277 (by decide +kernel) ?_
  obtain ⟨m23, e23, H⟩ := xRun_c H
  have J23 := gg_q (by decide) J22 e23
  refine ow_6 (a1 := 0) (a2 := 3) (a3 := 0) C J22 e23 dL_crowded_278 (Nat.le_of_ble_eq_true rfl) ⟨Nat.le_of_ble_eq_true rfl, Nat.le_of_ble_eq_true rfl⟩ ?_ Dp Bt Sq se
  intro Dp Bt Sq se
  refine xi_bipush (v := nI 4294967291) C.1 dL_crowded_281 (by decide +kernel) ?_
  refine xi_icmp_ne (tgt := 309) C.1 dL_crowded_283 (by decide) (fun c => absurd c (by decide +kernel)) (fun _ => ?_)
  refine xi_aload_n C.1 dL_crowded_286 rfl 0 rfl ?_
  refine xi_bipush (v := nI 8) C.1 dL_crowded_287 (by decide +kernel) ?_
  refine xi_iconst (v := nI 1) C.1 dL_crowded_289 (by decide +kernel) ?_
  refine xi_bipush (v := nI 24) C.1 dL_crowded_290 (by decide +kernel) ?_
  obtain ⟨m24, e24, H⟩ := xRun_c H
  have J24 := gg_q (by decide) J23 e24
  refine ow_3 (a1 := 8) (a2 := 1) (a3 := 24) C J23 e24 dL_crowded_292 (Nat.le_of_ble_eq_true rfl) ⟨Nat.le_of_ble_eq_true rfl, Nat.le_of_ble_eq_true rfl⟩ ?_ Dp Bt Sq se
  intro Dp Bt Sq se
  refine xi_iconst (v := nI 3) C.1 dL_crowded_295 (by decide +kernel) ?_
  refine xi_icmp_ne (tgt := 309) C.1 dL_crowded_296 (by decide) (fun c => absurd c (by decide +kernel)) (fun _ => ?_)
  refine xi_aload_n C.1 dL_crowded_299 rfl 0 rfl ?_
  refine xi_iconst (v := nI 2) C.1 dL_crowded_300 (by decide +kernel) ?_
  obtain ⟨m25, e25, H⟩ := xRun_c H
  have J25 := gg_q (by decide) J24 e25
  refine ow_21 (a1 := 2) (a2 := 0) (a3 := 0) C J24 e25 dL_crowded_301 (Nat.le_of_ble_eq_true rfl) ⟨Nat.le_of_ble_eq_true rfl, Nat.le_of_ble_eq_true rfl⟩ ?_ Dp Bt Sq se
  intro Dp Bt Sq se
  refine xi_bipush (v := nI 12) C.1 dL_crowded_304 (by decide +kernel) ?_
  refine xi_icmp_eq (tgt := 311) C.1 dL_crowded_306 (by decide) (fun _ => ?_) (fun c => absurd (by decide +kernel) c)
  refine xi_aload_n C.1 dL_crowded_311 rfl 0 rfl ?_
  refine xi_iconst (v := nI 1) C.1 dL_crowded_312 (by decide +kernel) ?_
  refine xi_iconst (v := nI 0) C.1 dL_crowded_313 (by decide +kernel) ?_
  obtain ⟨m26, e26, H⟩ := xRun_c H
  have J26 := gg_q (by decide) J25 e26
  refine ow_6 (a1 := 1) (a2 := 0) (a3 := 0) C J25 e26 dL_crowded_314 (Nat.le_of_ble_eq_true rfl) ⟨Nat.le_of_ble_eq_true rfl, Nat.le_of_ble_eq_true rfl⟩ ?_ Dp Bt Sq se
  intro Dp Bt Sq se
  refine xi_iconst (v := nI 1) C.1 dL_crowded_317 (by decide +kernel) ?_
  refine xi_icmp_ne (tgt := 491) C.1 dL_crowded_318 (by decide) (fun c => absurd c (by decide +kernel)) (fun _ => ?_)
  refine xi_aload_n C.1 dL_crowded_321 rfl 0 rfl ?_
  refine xi_iconst (v := nI 0) C.1 dL_crowded_322 (by decide +kernel) ?_
  obtain ⟨m27, e27, H⟩ := xRun_c H
  have J27 := gg_q (by decide) J26 e27
  refine ow_5 (a1 := 0) (a2 := 0) (a3 := 0) C J26 e27 dL_crowded_323 (Nat.le_of_ble_eq_true rfl) ⟨Nat.le_of_ble_eq_true rfl, Nat.le_of_ble_eq_true rfl⟩ ?_ Dp Bt Sq se
  intro Dp Bt Sq se
  refine xi_bipush (v := nI 12) C.1 dL_crowded_326 (by decide +kernel) ?_
  refine xi_icmp_ne (tgt := 491) C.1 dL_crowded_328 (by decide) (fun c => absurd c (by decide +kernel)) (fun _ => ?_)
  refine xi_aload_n C.1 dL_crowded_331 rfl 0 rfl ?_
  refine xi_bipush (v := nI 7) C.1 dL_crowded_332 (by decide +kernel) ?_
  refine xi_iconst (v := nI 1) C.1 dL_crowded_334 (by decide +kernel) ?_
  refine xi_iconst (v := nI 1) C.1 dL_crowded_335 (by decide +kernel) ?_
  obtain ⟨m28, e28, H⟩ := xRun_c H
  have J28 := gg_q (by decide) J27 e28
  refine ow_14 (a1 := 7) (a2 := 1) (a3 := 1) C J27 e28 dL_crowded_336 (Nat.le_of_ble_eq_true rfl) ⟨Nat.le_of_ble_eq_true rfl, Nat.le_of_ble_eq_true rfl⟩ ?_ Dp Bt Sq se
  intro Dp Bt Sq se
  refine xi_iconst (v := nI 1) C.1 dL_crowded_339 (by decide +kernel) ?_
  refine xi_icmp_ne (tgt := 491) C.1 dL_crowded_340 (by decide) (fun c => absurd c (by decide +kernel)) (fun _ => ?_)
  refine xi_aload_n C.1 dL_crowded_343 rfl 0 rfl ?_
  refine xi_bipush (v := nI 7) C.1 dL_crowded_344 (by decide +kernel) ?_
  refine xi_iconst (v := nI 2) C.1 dL_crowded_346 (by decide +kernel) ?_
  refine xi_iconst (v := nI 1) C.1 dL_crowded_347 (by decide +kernel) ?_
  obtain ⟨m29, e29, H⟩ := xRun_c H
  have J29 := gg_q (by decide) J28 e29
  refine ow_14 (a1 := 7) (a2 := 2) (a3 := 1) C J28 e29 dL_crowded_348 (Nat.le_of_ble_eq_true rfl) ⟨Nat.le_of_ble_eq_true rfl, Nat.le_of_ble_eq_true rfl⟩ ?_ Dp Bt Sq se
  intro Dp Bt Sq se
  refine xi_iconst (v := nI 1) C.1 dL_crowded_351 (by decide +kernel) ?_
  refine xi_icmp_ne (tgt := 491) C.1 dL_crowded_352 (by decide) (fun c => absurd c (by decide +kernel)) (fun _ => ?_)
  refine xi_aload_n C.1 dL_crowded_355 rfl 0 rfl ?_
  refine xi_bipush (v := nI 8) C.1 dL_crowded_356 (by decide +kernel) ?_
  refine xi_iconst (v := nI 0) C.1 dL_crowded_358 (by decide +kernel) ?_
  refine xi_iconst (v := nI 1) C.1 dL_crowded_359 (by decide +kernel) ?_
  obtain ⟨m30, e30, H⟩ := xRun_c H
  have J30 := gg_q (by decide) J29 e30
  refine ow_14 (a1 := 8) (a2 := 0) (a3 := 1) C J29 e30 dL_crowded_360 (Nat.le_of_ble_eq_true rfl) ⟨Nat.le_of_ble_eq_true rfl, Nat.le_of_ble_eq_true rfl⟩ ?_ Dp Bt Sq se
  intro Dp Bt Sq se
  refine xi_bipush (v := nI 6) C.1 dL_crowded_363 (by decide +kernel) ?_
  refine xi_icmp_ne (tgt := 491) C.1 dL_crowded_365 (by decide) (fun c => absurd c (by decide +kernel)) (fun _ => ?_)
  refine xi_aload_n C.1 dL_crowded_368 rfl 0 rfl ?_
  refine xi_bipush (v := nI 8) C.1 dL_crowded_369 (by decide +kernel) ?_
  refine xi_iconst (v := nI 0) C.1 dL_crowded_371 (by decide +kernel) ?_
  refine xi_iconst (v := nI 2) C.1 dL_crowded_372 (by decide +kernel) ?_
  obtain ⟨m31, e31, H⟩ := xRun_c H
  have J31 := gg_q (by decide) J30 e31
  refine ow_14 (a1 := 8) (a2 := 0) (a3 := 2) C J30 e31 dL_crowded_373 (Nat.le_of_ble_eq_true rfl) ⟨Nat.le_of_ble_eq_true rfl, Nat.le_of_ble_eq_true rfl⟩ ?_ Dp Bt Sq se
  intro Dp Bt Sq se
  refine xi_bipush (v := nI 7) C.1 dL_crowded_376 (by decide +kernel) ?_
  refine xi_icmp_ne (tgt := 491) C.1 dL_crowded_378 (by decide) (fun c => absurd c (by decide +kernel)) (fun _ => ?_)
  refine xi_aload_n C.1 dL_crowded_381 rfl 0 rfl ?_
  refine xi_iconst (v := nI 0) C.1 dL_crowded_382 (by decide +kernel) ?_
  refine xi_iconst (v := nI 1) C.1 dL_crowded_383 (by decide +kernel) ?_
  obtain ⟨m32, e32, H⟩ := xRun_c H
  have J32 := gg_q (by decide) J31 e32
  refine ow_15 (a1 := 0) (a2 := 1) (a3 := 0) C J31 e32 dL_crowded_384 (Nat.le_of_ble_eq_true rfl) ⟨Nat.le_of_ble_eq_true rfl, Nat.le_of_ble_eq_true rfl⟩ ?_ Dp Bt Sq se
  intro Dp Bt Sq se
  refine xi_iconst (v := nI 3) C.1 dL_crowded_387 (by decide +kernel) ?_
  refine xi_icmp_ne (tgt := 491) C.1 dL_crowded_388 (by decide) (fun c => absurd c (by decide +kernel)) (fun _ => ?_)
  refine xi_aload_n C.1 dL_crowded_391 rfl 0 rfl ?_
  refine xi_iconst (v := nI 1) C.1 dL_crowded_392 (by decide +kernel) ?_
  obtain ⟨m33, e33, H⟩ := xRun_c H
  have J33 := gg_q (by decide) J32 e33
  refine ow_5 (a1 := 1) (a2 := 0) (a3 := 0) C J32 e33 dL_crowded_393 (Nat.le_of_ble_eq_true rfl) ⟨Nat.le_of_ble_eq_true rfl, Nat.le_of_ble_eq_true rfl⟩ ?_ Dp Bt Sq se
  intro Dp Bt Sq se
  refine xi_bipush (v := nI 12) C.1 dL_crowded_396 (by decide +kernel) ?_
  refine xi_icmp_ne (tgt := 491) C.1 dL_crowded_398 (by decide) (fun c => absurd c (by decide +kernel)) (fun _ => ?_)
  refine xi_aload_n C.1 dL_crowded_401 rfl 0 rfl ?_
  refine xi_bipush (v := nI 8) C.1 dL_crowded_402 (by decide +kernel) ?_
  refine xi_iconst (v := nI 0) C.1 dL_crowded_404 (by decide +kernel) ?_
  refine xi_iconst (v := nI 1) C.1 dL_crowded_405 (by decide +kernel) ?_
  obtain ⟨m34, e34, H⟩ := xRun_c H
  have J34 := gg_q (by decide) J33 e34
  refine ow_14 (a1 := 8) (a2 := 0) (a3 := 1) C J33 e34 dL_crowded_406 (Nat.le_of_ble_eq_true rfl) ⟨Nat.le_of_ble_eq_true rfl, Nat.le_of_ble_eq_true rfl⟩ ?_ Dp Bt Sq se
  intro Dp Bt Sq se
  refine xi_iconst (v := nI 1) C.1 dL_crowded_409 (by decide +kernel) ?_
  refine xi_icmp_ne (tgt := 491) C.1 dL_crowded_410 (by decide) (fun c => absurd c (by decide +kernel)) (fun _ => ?_)
  refine xi_aload_n C.1 dL_crowded_413 rfl 0 rfl ?_
  refine xi_bipush (v := nI 8) C.1 dL_crowded_414 (by decide +kernel) ?_
  refine xi_iconst (v := nI 0) C.1 dL_crowded_416 (by decide +kernel) ?_
  refine xi_iconst (v := nI 2) C.1 dL_crowded_417 (by decide +kernel) ?_
  obtain ⟨m35, e35, H⟩ := xRun_c H
  have J35 := gg_q (by decide) J34 e35
  refine ow_14 (a1 := 8) (a2 := 0) (a3 := 2) C J34 e35 dL_crowded_418 (Nat.le_of_ble_eq_true rfl) ⟨Nat.le_of_ble_eq_true rfl, Nat.le_of_ble_eq_true rfl⟩ ?_ Dp Bt Sq se
  intro Dp Bt Sq se
  refine xi_iconst (v := nI 2) C.1 dL_crowded_421 (by decide +kernel) ?_
  refine xi_icmp_ne (tgt := 491) C.1 dL_crowded_422 (by decide) (fun c => absurd c (by decide +kernel)) (fun _ => ?_)
  refine xi_aload_n C.1 dL_crowded_425 rfl 0 rfl ?_
  refine xi_bipush (v := nI 8) C.1 dL_crowded_426 (by decide +kernel) ?_
  refine xi_iconst (v := nI 1) C.1 dL_crowded_428 (by decide +kernel) ?_
  refine xi_iconst (v := nI 2) C.1 dL_crowded_429 (by decide +kernel) ?_
  obtain ⟨m36, e36, H⟩ := xRun_c H
  have J36 := gg_q (by decide) J35 e36
  refine ow_14 (a1 := 8) (a2 := 1) (a3 := 2) C J35 e36 dL_crowded_430 (Nat.le_of_ble_eq_true rfl) ⟨Nat.le_of_ble_eq_true rfl, Nat.le_of_ble_eq_true rfl⟩ ?_ Dp Bt Sq se
  intro Dp Bt Sq se
  refine xi_iconst (v := nI 2) C.1 dL_crowded_433 (by decide +kernel) ?_
  refine xi_icmp_ne (tgt := 491) C.1 dL_crowded_434 (by decide) (fun c => absurd c (by decide +kernel)) (fun _ => ?_)
  refine xi_aload_n C.1 dL_crowded_437 rfl 0 rfl ?_
  refine xi_bipush (v := nI 7) C.1 dL_crowded_438 (by decide +kernel) ?_
  refine xi_iconst (v := nI 0) C.1 dL_crowded_440 (by decide +kernel) ?_
  refine xi_iconst (v := nI 1) C.1 dL_crowded_441 (by decide +kernel) ?_
  obtain ⟨m37, e37, H⟩ := xRun_c H
  have J37 := gg_q (by decide) J36 e37
  refine ow_14 (a1 := 7) (a2 := 0) (a3 := 1) C J36 e37 dL_crowded_442 (Nat.le_of_ble_eq_true rfl) ⟨Nat.le_of_ble_eq_true rfl, Nat.le_of_ble_eq_true rfl⟩ ?_ Dp Bt Sq se
  intro Dp Bt Sq se
  refine xi_iconst (v := nI 1) C.1 dL_crowded_445 (by decide +kernel) ?_
  refine xi_icmp_ne (tgt := 491) C.1 dL_crowded_446 (by decide) (fun c => absurd c (by decide +kernel)) (fun _ => ?_)
  refine xi_aload_n C.1 dL_crowded_449 rfl 0 rfl ?_
  refine xi_bipush (v := nI 7) C.1 dL_crowded_450 (by decide +kernel) ?_
  refine xi_iconst (v := nI 1) C.1 dL_crowded_452 (by decide +kernel) ?_
  refine xi_iconst (v := nI 1) C.1 dL_crowded_453 (by decide +kernel) ?_
  obtain ⟨m38, e38, H⟩ := xRun_c H
  have J38 := gg_q (by decide) J37 e38
  refine ow_14 (a1 := 7) (a2 := 1) (a3 := 1) C J37 e38 dL_crowded_454 (Nat.le_of_ble_eq_true rfl) ⟨Nat.le_of_ble_eq_true rfl, Nat.le_of_ble_eq_true rfl⟩ ?_ Dp Bt Sq se
  intro Dp Bt Sq se
  refine xi_bipush (v := nI 6) C.1 dL_crowded_457 (by decide +kernel) ?_
  refine xi_icmp_ne (tgt := 491) C.1 dL_crowded_459 (by decide) (fun c => absurd c (by decide +kernel)) (fun _ => ?_)
  refine xi_aload_n C.1 dL_crowded_462 rfl 0 rfl ?_
  refine xi_iconst (v := nI 2) C.1 dL_crowded_463 (by decide +kernel) ?_
  obtain ⟨m39, e39, H⟩ := xRun_c H
  have J39 := gg_q (by decide) J38 e39
  refine ow_5 (a1 := 2) (a2 := 0) (a3 := 0) C J38 e39 dL_crowded_464 (Nat.le_of_ble_eq_true rfl) ⟨Nat.le_of_ble_eq_true rfl, Nat.le_of_ble_eq_true rfl⟩ ?_ Dp Bt Sq se
  intro Dp Bt Sq se
  refine xi_bipush (v := nI 12) C.1 dL_crowded_467 (by decide +kernel) ?_
  refine xi_icmp_ne (tgt := 491) C.1 dL_crowded_469 (by decide) (fun c => absurd c (by decide +kernel)) (fun _ => ?_)
  refine xi_aload_n C.1 dL_crowded_472 rfl 0 rfl ?_
  refine xi_bipush (v := nI 7) C.1 dL_crowded_473 (by decide +kernel) ?_
  refine xi_iconst (v := nI 2) C.1 dL_crowded_475 (by decide +kernel) ?_
  refine xi_iconst (v := nI 1) C.1 dL_crowded_476 (by decide +kernel) ?_
  obtain ⟨m40, e40, H⟩ := xRun_c H
  have J40 := gg_q (by decide) J39 e40
  refine ow_14 (a1 := 7) (a2 := 2) (a3 := 1) C J39 e40 dL_crowded_477 (Nat.le_of_ble_eq_true rfl) ⟨Nat.le_of_ble_eq_true rfl, Nat.le_of_ble_eq_true rfl⟩ ?_ Dp Bt Sq se
  intro Dp Bt Sq se
  refine xi_iconst (v := nI 1) C.1 dL_crowded_480 (by decide +kernel) ?_
  refine xi_icmp_ne (tgt := 491) C.1 dL_crowded_481 (by decide) (fun c => absurd c (by decide +kernel)) (fun _ => ?_)
  refine xi_aload_n C.1 dL_crowded_484 rfl 0 rfl ?_
  obtain ⟨m41, e41, H⟩ := xRun_c H
  have J41 := gg_q (by decide) J40 e41
  refine ow_20 (a1 := 0) (a2 := 0) (a3 := 0) C J40 e41 dL_crowded_485 (Nat.le_of_ble_eq_true rfl) ⟨Nat.le_of_ble_eq_true rfl, Nat.le_of_ble_eq_true rfl⟩ ?_ Dp Bt Sq se
  intro Dp Bt Sq se
  refine xi_if_eq (tgt := 493) C.1 dL_crowded_488 (by decide) (fun _ => ?_) (fun c => absurd (by decide +kernel) c)
  refine xi_aload_n C.1 dL_crowded_493 rfl 0 rfl ?_
  refine xi_bipush (v := nI 9) C.1 dL_crowded_494 (by decide +kernel) ?_
  obtain ⟨m42, e42, H⟩ := xRun_c H
  have J42 := gg_q (by decide) J41 e42
  refine ow_21 (a1 := 9) (a2 := 0) (a3 := 0) C J41 e42 dL_crowded_496 (Nat.le_of_ble_eq_true rfl) ⟨Nat.le_of_ble_eq_true rfl, Nat.le_of_ble_eq_true rfl⟩ ?_ Dp Bt Sq se
  intro Dp Bt Sq se
  refine xi_iconst (v := nI 4) C.1 dL_crowded_499 (by decide +kernel) ?_
  refine xi_icmp_ne (tgt := 579) C.1 dL_crowded_500 (by decide) (fun c => absurd c (by decide +kernel)) (fun _ => ?_)
  refine xi_aload_n C.1 dL_crowded_503 rfl 0 rfl ?_
  obtain ⟨m43, e43, H⟩ := xRun_c H
  have J43 := gg_q (by decide) J42 e43
  refine ow_10 (a1 := 0) (a2 := 0) (a3 := 0) C J42 e43 dL_crowded_504 (Nat.le_of_ble_eq_true rfl) ⟨Nat.le_of_ble_eq_true rfl, Nat.le_of_ble_eq_true rfl⟩ ?_ Dp Bt Sq se
  intro Dp Bt Sq se
  refine xi_iconst (v := nI 3) C.1 dL_crowded_507 (by decide +kernel) ?_
  refine xi_icmp_ne (tgt := 579) C.1 dL_crowded_508 (by decide) (fun c => absurd c (by decide +kernel)) (fun _ => ?_)
  refine xi_aload_n C.1 dL_crowded_511 rfl 0 rfl ?_
  refine xi_bipush (v := nI 8) C.1 dL_crowded_512 (by decide +kernel) ?_
  refine xi_iconst (v := nI 0) C.1 dL_crowded_514 (by decide +kernel) ?_
  refine xi_iconst (v := nI 1) C.1 dL_crowded_515 (by decide +kernel) ?_
  obtain ⟨m44, e44, H⟩ := xRun_c H
  have J44 := gg_q (by decide) J43 e44
  refine ow_14 (a1 := 8) (a2 := 0) (a3 := 1) C J43 e44 dL_crowded_516 (Nat.le_of_ble_eq_true rfl) ⟨Nat.le_of_ble_eq_true rfl, Nat.le_of_ble_eq_true rfl⟩ ?_ Dp Bt Sq se
  intro Dp Bt Sq se
  refine xi_iconst (v := nI 1) C.1 dL_crowded_519 (by decide +kernel) ?_
  refine xi_icmp_ne (tgt := 579) C.1 dL_crowded_520 (by decide) (fun c => absurd c (by decide +kernel)) (fun _ => ?_)
  refine xi_aload_n C.1 dL_crowded_523 rfl 0 rfl ?_
  obtain ⟨m45, e45, H⟩ := xRun_c H
  have J45 := gg_q (by decide) J44 e45
  refine ow_10 (a1 := 0) (a2 := 0) (a3 := 0) C J44 e45 dL_crowded_524 (Nat.le_of_ble_eq_true rfl) ⟨Nat.le_of_ble_eq_true rfl, Nat.le_of_ble_eq_true rfl⟩ ?_ Dp Bt Sq se
  intro Dp Bt Sq se
  refine xi_iconst (v := nI 2) C.1 dL_crowded_527 (by decide +kernel) ?_
  refine xi_icmp_ne (tgt := 579) C.1 dL_crowded_528 (by decide) (fun c => absurd c (by decide +kernel)) (fun _ => ?_)
  refine xi_aload_n C.1 dL_crowded_531 rfl 0 rfl ?_
  refine xi_iconst (v := nI 0) C.1 dL_crowded_532 (by decide +kernel) ?_
  refine xi_iconst (v := nI 1) C.1 dL_crowded_533 (by decide +kernel) ?_
  obtain ⟨m46, e46, H⟩ := xRun_c H
  have J46 := gg_q (by decide) J45 e46
  refine ow_15 (a1 := 0) (a2 := 1) (a3 := 0) C J45 e46 dL_crowded_534 (Nat.le_of_ble_eq_true rfl) ⟨Nat.le_of_ble_eq_true rfl, Nat.le_of_ble_eq_true rfl⟩ ?_ Dp Bt Sq se
  intro Dp Bt Sq se
  refine xi_iconst (v := nI 3) C.1 dL_crowded_537 (by decide +kernel) ?_
  refine xi_icmp_ne (tgt := 579) C.1 dL_crowded_538 (by decide) (fun c => absurd c (by decide +kernel)) (fun _ => ?_)
  refine xi_aload_n C.1 dL_crowded_541 rfl 0 rfl ?_
  obtain ⟨m47, e47, H⟩ := xRun_c H
  have J47 := gg_q (by decide) J46 e47
  refine ow_10 (a1 := 0) (a2 := 0) (a3 := 0) C J46 e47 dL_crowded_542 (Nat.le_of_ble_eq_true rfl) ⟨Nat.le_of_ble_eq_true rfl, Nat.le_of_ble_eq_true rfl⟩ ?_ Dp Bt Sq se
  intro Dp Bt Sq se
  refine xi_iconst (v := nI 1) C.1 dL_crowded_545 (by decide +kernel) ?_
  refine xi_icmp_ne (tgt := 579) C.1 dL_crowded_546 (by decide) (fun c => absurd c (by decide +kernel)) (fun _ => ?_)
  refine xi_aload_n C.1 dL_crowded_549 rfl 0 rfl ?_
  refine xi_bipush (v := nI 8) C.1 dL_crowded_550 (by decide +kernel) ?_
  obtain ⟨m48, e48, H⟩ := xRun_c H
  have J48 := gg_q (by decide) J47 e48
  refine ow_21 (a1 := 8) (a2 := 0) (a3 := 0) C J47 e48 dL_crowded_552 (Nat.le_of_ble_eq_true rfl) ⟨Nat.le_of_ble_eq_true rfl, Nat.le_of_ble_eq_true rfl⟩ ?_ Dp Bt Sq se
  intro Dp Bt Sq se
  refine xi_if_ne (tgt := 579) C.1 dL_crowded_555 (by decide) (fun c => absurd c (by decide +kernel)) (fun _ => ?_)
  refine xi_aload_n C.1 dL_crowded_558 rfl 0 rfl ?_
  obtain ⟨m49, e49, H⟩ := xRun_c H
  have J49 := gg_q (by decide) J48 e49
  refine ow_10 (a1 := 0) (a2 := 0) (a3 := 0) C J48 e49 dL_crowded_559 (Nat.le_of_ble_eq_true rfl) ⟨Nat.le_of_ble_eq_true rfl, Nat.le_of_ble_eq_true rfl⟩ ?_ Dp Bt Sq se
  intro Dp Bt Sq se
  refine xi_if_ne (tgt := 579) C.1 dL_crowded_562 (by decide) (fun c => absurd c (by decide +kernel)) (fun _ => ?_)
  refine xi_aload_n C.1 dL_crowded_565 rfl 0 rfl ?_
  refine xi_bipush (v := nI 8) C.1 dL_crowded_566 (by decide +kernel) ?_
  obtain ⟨m50, e50, H⟩ := xRun_c H
  have J50 := gg_q (by decide) J49 e50
  refine ow_21 (a1 := 8) (a2 := 0) (a3 := 0) C J49 e50 dL_crowded_568 (Nat.le_of_ble_eq_true rfl) ⟨Nat.le_of_ble_eq_true rfl, Nat.le_of_ble_eq_true rfl⟩ ?_ Dp Bt Sq se
  intro Dp Bt Sq se
  refine xi_iconst (v := nI 1) C.1 dL_crowded_571 (by decide +kernel) ?_
  refine xi_icmp_ne (tgt := 579) C.1 dL_crowded_572 (by decide) (fun c => absurd c (by decide +kernel)) (fun _ => ?_)
  refine xi_iconst (v := nI 1) C.1 dL_crowded_575 (by decide +kernel) ?_
  refine xi_goto (tgt := 580) C.1 dL_crowded_576 (by decide) ?_
  exact xi_zretP C.1 Z (Nat.le_of_ble_eq_true rfl) (Nat.le_of_ble_eq_true rfl) oN_nil ⟨rfl, rfl⟩ dL_crowded_580 (by decide +kernel)
