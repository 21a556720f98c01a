/-! texts -/
theorem td_0 (D : va_G) (cI cC cZ cR : ClassId) : xb_MP cL_told wsB_told RL rm_told (some .int) 6 (xb_ty cI cC cZ cR) D (va_AO RX0) [.long 12852, .long 0] [] (fun o w1 => o = some (.int (nI 4294967195)) ∧ w1 = []) 53 13855 := by
  have H := run_t0
  unfold sc_t0 at H
  obtain ⟨m1, e1, H⟩ := xRun_c H
  obtain ⟨m2, e2, H⟩ := xRun_c H
  obtain ⟨m3, e3, H⟩ := xRun_c H
  obtain ⟨m4, e4, H⟩ := xRun_c H
  obtain ⟨m5, e5, H⟩ := xRun_c H
  have h1 : tRun 12852 tX (dM gM0) m2 := ⟨_, Or.inl ⟨by decide +kernel, rfl⟩, ⟨_, Or.inl ⟨by decide +kernel, rfl⟩, ⟨_, Or.inl ⟨by decide +kernel, rfl⟩, ⟨_, Or.inl ⟨by decide +kernel, rfl⟩, ⟨_, Or.inl ⟨by decide +kernel, rfl⟩, ⟨_, Or.inl ⟨by decide +kernel, rfl⟩, ⟨_, Or.inr ⟨50, nI 1, by decide +kernel, by decide +kernel, e1, by decide +kernel⟩, ⟨_, Or.inr ⟨52, nI 2, by decide +kernel, by decide +kernel, e2, by decide +kernel⟩, rfl⟩⟩⟩⟩⟩⟩⟩⟩
  have h2 : tRun 0 tX m2 m2 := ⟨_, Or.inl ⟨by decide +kernel, rfl⟩, ⟨_, Or.inl ⟨by decide +kernel, rfl⟩, ⟨_, Or.inl ⟨by decide +kernel, rfl⟩, ⟨_, Or.inl ⟨by decide +kernel, rfl⟩, ⟨_, Or.inl ⟨by decide +kernel, rfl⟩, ⟨_, Or.inl ⟨by decide +kernel, rfl⟩, ⟨_, Or.inl ⟨by decide +kernel, rfl⟩, ⟨_, Or.inl ⟨by decide +kernel, rfl⟩, rfl⟩⟩⟩⟩⟩⟩⟩⟩
  exact m_told D cI cC cZ cR h1 h2 e3 e4 e5 (Or.inr ⟨by decide +kernel, rfl, rfl⟩)
theorem td_1 (D : va_G) (cI cC cZ cR : ClassId) : xb_MP cL_told wsB_told RL rm_told (some .int) 6 (xb_ty cI cC cZ cR) D (va_AO RX0) [.long 13117, .long 0] [] (fun o w1 => o = some (.int (nI 4294967194)) ∧ w1 = []) 53 13855 := by
  have H := run_t1
  unfold sc_t1 at H
  obtain ⟨m1, e1, H⟩ := xRun_c H
  obtain ⟨m2, e2, H⟩ := xRun_c H
  obtain ⟨m3, e3, H⟩ := xRun_c H
  obtain ⟨m4, e4, H⟩ := xRun_c H
  obtain ⟨m5, e5, H⟩ := xRun_c H
  have h1 : tRun 13117 tX (dM gM0) m2 := ⟨_, Or.inl ⟨by decide +kernel, rfl⟩, ⟨_, Or.inl ⟨by decide +kernel, rfl⟩, ⟨_, Or.inl ⟨by decide +kernel, rfl⟩, ⟨_, Or.inl ⟨by decide +kernel, rfl⟩, ⟨_, Or.inl ⟨by decide +kernel, rfl⟩, ⟨_, Or.inl ⟨by decide +kernel, rfl⟩, ⟨_, Or.inr ⟨51, nI 1, by decide +kernel, by decide +kernel, e1, by decide +kernel⟩, ⟨_, Or.inr ⟨61, nI 2, by decide +kernel, by decide +kernel, e2, by decide +kernel⟩, rfl⟩⟩⟩⟩⟩⟩⟩⟩
  have h2 : tRun 0 tX m2 m2 := ⟨_, Or.inl ⟨by decide +kernel, rfl⟩, ⟨_, Or.inl ⟨by decide +kernel, rfl⟩, ⟨_, Or.inl ⟨by decide +kernel, rfl⟩, ⟨_, Or.inl ⟨by decide +kernel, rfl⟩, ⟨_, Or.inl ⟨by decide +kernel, rfl⟩, ⟨_, Or.inl ⟨by decide +kernel, rfl⟩, ⟨_, Or.inl ⟨by decide +kernel, rfl⟩, ⟨_, Or.inl ⟨by decide +kernel, rfl⟩, rfl⟩⟩⟩⟩⟩⟩⟩⟩
  exact m_told D cI cC cZ cR h1 h2 e3 e4 e5 (Or.inr ⟨by decide +kernel, rfl, rfl⟩)
theorem td_2 (D : va_G) (cI cC cZ cR : ClassId) : xb_MP cL_told wsB_told RL rm_told (some .int) 6 (xb_ty cI cC cZ cR) D (va_AO RX0) [.long 3358000, .long 0] [] (fun o w1 => o = some (.int (nI 4294967193)) ∧ w1 = []) 53 13855 := by
  have H := run_t2
  unfold sc_t2 at H
  obtain ⟨m1, e1, H⟩ := xRun_c H
  obtain ⟨m2, e2, H⟩ := xRun_c H
  obtain ⟨m3, e3, H⟩ := xRun_c H
  obtain ⟨m4, e4, H⟩ := xRun_c H
  obtain ⟨m5, e5, H⟩ := xRun_c H
  obtain ⟨m6, e6, H⟩ := xRun_c H
  have h1 : tRun 3358000 tX (dM gM0) m3 := ⟨_, Or.inl ⟨by decide +kernel, rfl⟩, ⟨_, Or.inl ⟨by decide +kernel, rfl⟩, ⟨_, Or.inl ⟨by decide +kernel, rfl⟩, ⟨_, Or.inl ⟨by decide +kernel, rfl⟩, ⟨_, Or.inl ⟨by decide +kernel, rfl⟩, ⟨_, Or.inr ⟨51, nI 1, by decide +kernel, by decide +kernel, e1, by decide +kernel⟩, ⟨_, Or.inr ⟨61, nI 2, by decide +kernel, by decide +kernel, e2, by decide +kernel⟩, ⟨_, Or.inr ⟨48, nI 3, by decide +kernel, by decide +kernel, e3, by decide +kernel⟩, rfl⟩⟩⟩⟩⟩⟩⟩⟩
  have h2 : tRun 0 tX m3 m3 := ⟨_, Or.inl ⟨by decide +kernel, rfl⟩, ⟨_, Or.inl ⟨by decide +kernel, rfl⟩, ⟨_, Or.inl ⟨by decide +kernel, rfl⟩, ⟨_, Or.inl ⟨by decide +kernel, rfl⟩, ⟨_, Or.inl ⟨by decide +kernel, rfl⟩, ⟨_, Or.inl ⟨by decide +kernel, rfl⟩, ⟨_, Or.inl ⟨by decide +kernel, rfl⟩, ⟨_, Or.inl ⟨by decide +kernel, rfl⟩, rfl⟩⟩⟩⟩⟩⟩⟩⟩
  exact m_told D cI cC cZ cR h1 h2 e4 e5 e6 (Or.inr ⟨by decide +kernel, rfl, rfl⟩)
theorem td_3 (D : va_G) (cI cC cZ cR : ClassId) : xb_MP cL_told wsB_told RL rm_told (some .int) 6 (xb_ty cI cC cZ cR) D (va_AO RX0) [.long 859648071, .long 0] [] (fun o w1 => o = some (.int (nI 4294967193)) ∧ w1 = []) 53 13855 := by
  have H := run_t3
  unfold sc_t3 at H
  obtain ⟨m1, e1, H⟩ := xRun_c H
  obtain ⟨m2, e2, H⟩ := xRun_c H
  obtain ⟨m3, e3, H⟩ := xRun_c H
  obtain ⟨m4, e4, H⟩ := xRun_c H
  obtain ⟨m5, e5, H⟩ := xRun_c H
  obtain ⟨m6, e6, H⟩ := xRun_c H
  obtain ⟨m7, e7, H⟩ := xRun_c H
  have h1 : tRun 859648071 tX (dM gM0) m4 := ⟨_, Or.inl ⟨by decide +kernel, rfl⟩, ⟨_, Or.inl ⟨by decide +kernel, rfl⟩, ⟨_, Or.inl ⟨by decide +kernel, rfl⟩, ⟨_, Or.inl ⟨by decide +kernel, rfl⟩, ⟨_, Or.inr ⟨51, nI 1, by decide +kernel, by decide +kernel, e1, by decide +kernel⟩, ⟨_, Or.inr ⟨61, nI 2, by decide +kernel, by decide +kernel, e2, by decide +kernel⟩, ⟨_, Or.inr ⟨48, nI 3, by decide +kernel, by decide +kernel, e3, by decide +kernel⟩, ⟨_, Or.inr ⟨71, nI 4, by decide +kernel, by decide +kernel, e4, by decide +kernel⟩, rfl⟩⟩⟩⟩⟩⟩⟩⟩
  have h2 : tRun 0 tX m4 m4 := ⟨_, Or.inl ⟨by decide +kernel, rfl⟩, ⟨_, Or.inl ⟨by decide +kernel, rfl⟩, ⟨_, Or.inl ⟨by decide +kernel, rfl⟩, ⟨_, Or.inl ⟨by decide +kernel, rfl⟩, ⟨_, Or.inl ⟨by decide +kernel, rfl⟩, ⟨_, Or.inl ⟨by decide +kernel, rfl⟩, ⟨_, Or.inl ⟨by decide +kernel, rfl⟩, ⟨_, Or.inl ⟨by decide +kernel, rfl⟩, rfl⟩⟩⟩⟩⟩⟩⟩⟩
  exact m_told D cI cC cZ cR h1 h2 e5 e6 e7 (Or.inr ⟨by decide +kernel, rfl, rfl⟩)
theorem td_4 (D : va_G) (cI cC cZ cR : ClassId) : xb_MP cL_told wsB_told RL rm_told (some .int) 6 (xb_ty cI cC cZ cR) D (va_AO RX0) [.long 220069900335, .long 0] [] (fun o w1 => o = some (.int (nI 4294967191)) ∧ w1 = []) 53 13855 := by
  have H := run_t4
  unfold sc_t4 at H
  obtain ⟨m1, e1, H⟩ := xRun_c H
  obtain ⟨m2, e2, H⟩ := xRun_c H
  obtain ⟨m3, e3, H⟩ := xRun_c H
  obtain ⟨m4, e4, H⟩ := xRun_c H
  obtain ⟨m5, e5, H⟩ := xRun_c H
  obtain ⟨m6, e6, H⟩ := xRun_c H
  obtain ⟨m7, e7, H⟩ := xRun_c H
  obtain ⟨m8, e8, H⟩ := xRun_c H
  have h1 : tRun 220069900335 tX (dM gM0) m5 := ⟨_, Or.inl ⟨by decide +kernel, rfl⟩, ⟨_, Or.inl ⟨by decide +kernel, rfl⟩, ⟨_, Or.inl ⟨by decide +kernel, rfl⟩, ⟨_, Or.inr ⟨51, nI 1, by decide +kernel, by decide +kernel, e1, by decide +kernel⟩, ⟨_, Or.inr ⟨61, nI 2, by decide +kernel, by decide +kernel, e2, by decide +kernel⟩, ⟨_, Or.inr ⟨48, nI 3, by decide +kernel, by decide +kernel, e3, by decide +kernel⟩, ⟨_, Or.inr ⟨48, nI 4, by decide +kernel, by decide +kernel, e4, by decide +kernel⟩, ⟨_, Or.inr ⟨47, nI 5, by decide +kernel, by decide +kernel, e5, by decide +kernel⟩, rfl⟩⟩⟩⟩⟩⟩⟩⟩
  have h2 : tRun 0 tX m5 m5 := ⟨_, Or.inl ⟨by decide +kernel, rfl⟩, ⟨_, Or.inl ⟨by decide +kernel, rfl⟩, ⟨_, Or.inl ⟨by decide +kernel, rfl⟩, ⟨_, Or.inl ⟨by decide +kernel, rfl⟩, ⟨_, Or.inl ⟨by decide +kernel, rfl⟩, ⟨_, Or.inl ⟨by decide +kernel, rfl⟩, ⟨_, Or.inl ⟨by decide +kernel, rfl⟩, ⟨_, Or.inl ⟨by decide +kernel, rfl⟩, rfl⟩⟩⟩⟩⟩⟩⟩⟩
  exact m_told D cI cC cZ cR h1 h2 e6 e7 e8 (Or.inr ⟨by decide +kernel, rfl, rfl⟩)
theorem td_5 (D : va_G) (cI cC cZ cR : ClassId) : xb_MP cL_told wsB_told RL rm_told (some .int) 6 (xb_ty cI cC cZ cR) D (va_AO RX0) [.long 3692160253025268276, .long 0] [] (fun o w1 => o = some (.int (nI 4294967189)) ∧ w1 = []) 53 13855 := by
  have H := run_t5
  unfold sc_t5 at H
  obtain ⟨m1, e1, H⟩ := xRun_c H
  obtain ⟨m2, e2, H⟩ := xRun_c H
  obtain ⟨m3, e3, H⟩ := xRun_c H
  obtain ⟨m4, e4, H⟩ := xRun_c H
  obtain ⟨m5, e5, H⟩ := xRun_c H
  obtain ⟨m6, e6, H⟩ := xRun_c H
  obtain ⟨m7, e7, H⟩ := xRun_c H
  obtain ⟨m8, e8, H⟩ := xRun_c H
  obtain ⟨m9, e9, H⟩ := xRun_c H
  obtain ⟨m10, e10, H⟩ := xRun_c H
  obtain ⟨m11, e11, H⟩ := xRun_c H
  have h1 : tRun 3692160253025268276 tX (dM gM0) m8 := ⟨_, Or.inr ⟨51, nI 1, by decide +kernel, by decide +kernel, e1, by decide +kernel⟩, ⟨_, Or.inr ⟨61, nI 2, by decide +kernel, by decide +kernel, e2, by decide +kernel⟩, ⟨_, Or.inr ⟨48, nI 3, by decide +kernel, by decide +kernel, e3, by decide +kernel⟩, ⟨_, Or.inr ⟨48, nI 4, by decide +kernel, by decide +kernel, e4, by decide +kernel⟩, ⟨_, Or.inr ⟨47, nI 5, by decide +kernel, by decide +kernel, e5, by decide +kernel⟩, ⟨_, Or.inr ⟨99, nI 6, by decide +kernel, by decide +kernel, e6, by decide +kernel⟩, ⟨_, Or.inr ⟨50, nI 7, by decide +kernel, by decide +kernel, e7, by decide +kernel⟩, ⟨_, Or.inr ⟨52, nI 8, by decide +kernel, by decide +kernel, e8, by decide +kernel⟩, rfl⟩⟩⟩⟩⟩⟩⟩⟩
  have h2 : tRun 0 tX m8 m8 := ⟨_, Or.inl ⟨by decide +kernel, rfl⟩, ⟨_, Or.inl ⟨by decide +kernel, rfl⟩, ⟨_, Or.inl ⟨by decide +kernel, rfl⟩, ⟨_, Or.inl ⟨by decide +kernel, rfl⟩, ⟨_, Or.inl ⟨by decide +kernel, rfl⟩, ⟨_, Or.inl ⟨by decide +kernel, rfl⟩, ⟨_, Or.inl ⟨by decide +kernel, rfl⟩, ⟨_, Or.inl ⟨by decide +kernel, rfl⟩, rfl⟩⟩⟩⟩⟩⟩⟩⟩
  exact m_told D cI cC cZ cR h1 h2 e9 e10 e11 (Or.inr ⟨by decide +kernel, rfl, rfl⟩)
theorem td_6 (D : va_G) (cI cC cZ cR : ClassId) : xb_MP cL_told wsB_told RL rm_told (some .int) 6 (xb_ty cI cC cZ cR) D (va_AO RX0) [.long 14422500988383288, .long 0] [] (fun o w1 => o = some (.int (nI 4294967190)) ∧ w1 = []) 53 13855 := by
  have H := run_t6
  unfold sc_t6 at H
  obtain ⟨m1, e1, H⟩ := xRun_c H
  obtain ⟨m2, e2, H⟩ := xRun_c H
  obtain ⟨m3, e3, H⟩ := xRun_c H
  obtain ⟨m4, e4, H⟩ := xRun_c H
  obtain ⟨m5, e5, H⟩ := xRun_c H
  obtain ⟨m6, e6, H⟩ := xRun_c H
  obtain ⟨m7, e7, H⟩ := xRun_c H
  obtain ⟨m8, e8, H⟩ := xRun_c H
  obtain ⟨m9, e9, H⟩ := xRun_c H
  obtain ⟨m10, e10, H⟩ := xRun_c H
  have h1 : tRun 14422500988383288 tX (dM gM0) m7 := ⟨_, Or.inl ⟨by decide +kernel, rfl⟩, ⟨_, Or.inr ⟨51, nI 1, by decide +kernel, by decide +kernel, e1, by decide +kernel⟩, ⟨_, Or.inr ⟨61, nI 2, by decide +kernel, by decide +kernel, e2, by decide +kernel⟩, ⟨_, Or.inr ⟨48, nI 3, by decide +kernel, by decide +kernel, e3, by decide +kernel⟩, ⟨_, Or.inr ⟨48, nI 4, by decide +kernel, by decide +kernel, e4, by decide +kernel⟩, ⟨_, Or.inr ⟨47, nI 5, by decide +kernel, by decide +kernel, e5, by decide +kernel⟩, ⟨_, Or.inr ⟨112, nI 6, by decide +kernel, by decide +kernel, e6, by decide +kernel⟩, ⟨_, Or.inr ⟨56, nI 7, by decide +kernel, by decide +kernel, e7, by decide +kernel⟩, rfl⟩⟩⟩⟩⟩⟩⟩⟩
  have h2 : tRun 0 tX m7 m7 := ⟨_, Or.inl ⟨by decide +kernel, rfl⟩, ⟨_, Or.inl ⟨by decide +kernel, rfl⟩, ⟨_, Or.inl ⟨by decide +kernel, rfl⟩, ⟨_, Or.inl ⟨by decide +kernel, rfl⟩, ⟨_, Or.inl ⟨by decide +kernel, rfl⟩, ⟨_, Or.inl ⟨by decide +kernel, rfl⟩, ⟨_, Or.inl ⟨by decide +kernel, rfl⟩, ⟨_, Or.inl ⟨by decide +kernel, rfl⟩, rfl⟩⟩⟩⟩⟩⟩⟩⟩
  exact m_told D cI cC cZ cR h1 h2 e8 e9 e10 (Or.inr ⟨by decide +kernel, rfl, rfl⟩)
theorem td_7 (D : va_G) (cI cC cZ cR : ClassId) : xb_MP cL_told wsB_told RL rm_told (some .int) 6 (xb_ty cI cC cZ cR) D (va_AO RX0) [.long 56337894485810, .long 0] [] (fun o w1 => o = some (.int (nI 4294967191)) ∧ w1 = []) 53 13855 := by
  have H := run_t7
  unfold sc_t7 at H
  obtain ⟨m1, e1, H⟩ := xRun_c H
  obtain ⟨m2, e2, H⟩ := xRun_c H
  obtain ⟨m3, e3, H⟩ := xRun_c H
  obtain ⟨m4, e4, H⟩ := xRun_c H
  obtain ⟨m5, e5, H⟩ := xRun_c H
  obtain ⟨m6, e6, H⟩ := xRun_c H
  obtain ⟨m7, e7, H⟩ := xRun_c H
  obtain ⟨m8, e8, H⟩ := xRun_c H
  obtain ⟨m9, e9, H⟩ := xRun_c H
  have h1 : tRun 56337894485810 tX (dM gM0) m6 := ⟨_, Or.inl ⟨by decide +kernel, rfl⟩, ⟨_, Or.inl ⟨by decide +kernel, rfl⟩, ⟨_, Or.inr ⟨51, nI 1, by decide +kernel, by decide +kernel, e1, by decide +kernel⟩, ⟨_, Or.inr ⟨61, nI 2, by decide +kernel, by decide +kernel, e2, by decide +kernel⟩, ⟨_, Or.inr ⟨48, nI 3, by decide +kernel, by decide +kernel, e3, by decide +kernel⟩, ⟨_, Or.inr ⟨48, nI 4, by decide +kernel, by decide +kernel, e4, by decide +kernel⟩, ⟨_, Or.inr ⟨47, nI 5, by decide +kernel, by decide +kernel, e5, by decide +kernel⟩, ⟨_, Or.inr ⟨50, nI 6, by decide +kernel, by decide +kernel, e6, by decide +kernel⟩, rfl⟩⟩⟩⟩⟩⟩⟩⟩
  have h2 : tRun 0 tX m6 m6 := ⟨_, Or.inl ⟨by decide +kernel, rfl⟩, ⟨_, Or.inl ⟨by decide +kernel, rfl⟩, ⟨_, Or.inl ⟨by decide +kernel, rfl⟩, ⟨_, Or.inl ⟨by decide +kernel, rfl⟩, ⟨_, Or.inl ⟨by decide +kernel, rfl⟩, ⟨_, Or.inl ⟨by decide +kernel, rfl⟩, ⟨_, Or.inl ⟨by decide +kernel, rfl⟩, ⟨_, Or.inl ⟨by decide +kernel, rfl⟩, rfl⟩⟩⟩⟩⟩⟩⟩⟩
  exact m_told D cI cC cZ cR h1 h2 e7 e8 e9 (Or.inr ⟨by decide +kernel, rfl, rfl⟩)
theorem td_8 (D : va_G) (cI cC cZ cR : ClassId) : xb_MP cL_told wsB_told RL rm_told (some .int) 6 (xb_ty cI cC cZ cR) D (va_AO RX0) [.long 3692160253021925168, .long 3092527] [] (fun o w1 => o = some (.int (nI 4294967186)) ∧ w1 = []) 53 13855 := by
  have H := run_t8
  unfold sc_t8 at H
  obtain ⟨m1, e1, H⟩ := xRun_c H
  obtain ⟨m2, e2, H⟩ := xRun_c H
  obtain ⟨m3, e3, H⟩ := xRun_c H
  obtain ⟨m4, e4, H⟩ := xRun_c H
  obtain ⟨m5, e5, H⟩ := xRun_c H
  obtain ⟨m6, e6, H⟩ := xRun_c H
  obtain ⟨m7, e7, H⟩ := xRun_c H
  obtain ⟨m8, e8, H⟩ := xRun_c H
  obtain ⟨m9, e9, H⟩ := xRun_c H
  obtain ⟨m10, e10, H⟩ := xRun_c H
  obtain ⟨m11, e11, H⟩ := xRun_c H
  obtain ⟨m12, e12, H⟩ := xRun_c H
  obtain ⟨m13, e13, H⟩ := xRun_c H
  obtain ⟨m14, e14, H⟩ := xRun_c H
  have h1 : tRun 3692160253021925168 tX (dM gM0) m8 := ⟨_, Or.inr ⟨51, nI 1, by decide +kernel, by decide +kernel, e1, by decide +kernel⟩, ⟨_, Or.inr ⟨61, nI 2, by decide +kernel, by decide +kernel, e2, by decide +kernel⟩, ⟨_, Or.inr ⟨48, nI 3, by decide +kernel, by decide +kernel, e3, by decide +kernel⟩, ⟨_, Or.inr ⟨48, nI 4, by decide +kernel, by decide +kernel, e4, by decide +kernel⟩, ⟨_, Or.inr ⟨47, nI 5, by decide +kernel, by decide +kernel, e5, by decide +kernel⟩, ⟨_, Or.inr ⟨48, nI 6, by decide +kernel, by decide +kernel, e6, by decide +kernel⟩, ⟨_, Or.inr ⟨47, nI 7, by decide +kernel, by decide +kernel, e7, by decide +kernel⟩, ⟨_, Or.inr ⟨48, nI 8, by decide +kernel, by decide +kernel, e8, by decide +kernel⟩, rfl⟩⟩⟩⟩⟩⟩⟩⟩
  have h2 : tRun 3092527 tX m8 m11 := ⟨_, Or.inl ⟨by decide +kernel, rfl⟩, ⟨_, Or.inl ⟨by decide +kernel, rfl⟩, ⟨_, Or.inl ⟨by decide +kernel, rfl⟩, ⟨_, Or.inl ⟨by decide +kernel, rfl⟩, ⟨_, Or.inl ⟨by decide +kernel, rfl⟩, ⟨_, Or.inr ⟨47, nI 9, by decide +kernel, by decide +kernel, e9, by decide +kernel⟩, ⟨_, Or.inr ⟨48, nI 10, by decide +kernel, by decide +kernel, e10, by decide +kernel⟩, ⟨_, Or.inr ⟨47, nI 11, by decide +kernel, by decide +kernel, e11, by decide +kernel⟩, rfl⟩⟩⟩⟩⟩⟩⟩⟩
  exact m_told D cI cC cZ cR h1 h2 e12 e13 e14 (Or.inr ⟨by decide +kernel, rfl, rfl⟩)
theorem td_9 (D : va_G) (cI cC cZ cR : ClassId) : xb_MP cL_told wsB_told RL rm_told (some .int) 6 (xb_ty cI cC cZ cR) D (va_AO RX0) [.long 12339, .long 0] [] (fun o w1 => o = some (.int (nI 4294967195)) ∧ w1 = []) 53 13855 := by
  have H := run_t9
  unfold sc_t9 at H
  obtain ⟨m1, e1, H⟩ := xRun_c H
  obtain ⟨m2, e2, H⟩ := xRun_c H
  obtain ⟨m3, e3, H⟩ := xRun_c H
  obtain ⟨m4, e4, H⟩ := xRun_c H
  obtain ⟨m5, e5, H⟩ := xRun_c H
  have h1 : tRun 12339 tX (dM gM0) m2 := ⟨_, Or.inl ⟨by decide +kernel, rfl⟩, ⟨_, Or.inl ⟨by decide +kernel, rfl⟩, ⟨_, Or.inl ⟨by decide +kernel, rfl⟩, ⟨_, Or.inl ⟨by decide +kernel, rfl⟩, ⟨_, Or.inl ⟨by decide +kernel, rfl⟩, ⟨_, Or.inl ⟨by decide +kernel, rfl⟩, ⟨_, Or.inr ⟨48, nI 1, by decide +kernel, by decide +kernel, e1, by decide +kernel⟩, ⟨_, Or.inr ⟨51, nI 2, by decide +kernel, by decide +kernel, e2, by decide +kernel⟩, rfl⟩⟩⟩⟩⟩⟩⟩⟩
  have h2 : tRun 0 tX m2 m2 := ⟨_, Or.inl ⟨by decide +kernel, rfl⟩, ⟨_, Or.inl ⟨by decide +kernel, rfl⟩, ⟨_, Or.inl ⟨by decide +kernel, rfl⟩, ⟨_, Or.inl ⟨by decide +kernel, rfl⟩, ⟨_, Or.inl ⟨by decide +kernel, rfl⟩, ⟨_, Or.inl ⟨by decide +kernel, rfl⟩, ⟨_, Or.inl ⟨by decide +kernel, rfl⟩, ⟨_, Or.inl ⟨by decide +kernel, rfl⟩, rfl⟩⟩⟩⟩⟩⟩⟩⟩
  exact m_told D cI cC cZ cR h1 h2 e3 e4 e5 (Or.inr ⟨by decide +kernel, rfl, rfl⟩)
theorem td_10 (D : va_G) (cI cC cZ cR : ClassId) : xb_MP cL_told wsB_told RL rm_told (some .int) 6 (xb_ty cI cC cZ cR) D (va_AO RX0) [.long 220069900347, .long 0] [] (fun o w1 => o = some (.int (nI 4294967191)) ∧ w1 = []) 53 13855 := by
  have H := run_t10
  unfold sc_t10 at H
  obtain ⟨m1, e1, H⟩ := xRun_c H
  obtain ⟨m2, e2, H⟩ := xRun_c H
  obtain ⟨m3, e3, H⟩ := xRun_c H
  obtain ⟨m4, e4, H⟩ := xRun_c H
  obtain ⟨m5, e5, H⟩ := xRun_c H
  obtain ⟨m6, e6, H⟩ := xRun_c H
  obtain ⟨m7, e7, H⟩ := xRun_c H
  obtain ⟨m8, e8, H⟩ := xRun_c H
  have h1 : tRun 220069900347 tX (dM gM0) m5 := ⟨_, Or.inl ⟨by decide +kernel, rfl⟩, ⟨_, Or.inl ⟨by decide +kernel, rfl⟩, ⟨_, Or.inl ⟨by decide +kernel, rfl⟩, ⟨_, Or.inr ⟨51, nI 1, by decide +kernel, by decide +kernel, e1, by decide +kernel⟩, ⟨_, Or.inr ⟨61, nI 2, by decide +kernel, by decide +kernel, e2, by decide +kernel⟩, ⟨_, Or.inr ⟨48, nI 3, by decide +kernel, by decide +kernel, e3, by decide +kernel⟩, ⟨_, Or.inr ⟨48, nI 4, by decide +kernel, by decide +kernel, e4, by decide +kernel⟩, ⟨_, Or.inr ⟨59, nI 5, by decide +kernel, by decide +kernel, e5, by decide +kernel⟩, rfl⟩⟩⟩⟩⟩⟩⟩⟩
  have h2 : tRun 0 tX m5 m5 := ⟨_, Or.inl ⟨by decide +kernel, rfl⟩, ⟨_, Or.inl ⟨by decide +kernel, rfl⟩, ⟨_, Or.inl ⟨by decide +kernel, rfl⟩, ⟨_, Or.inl ⟨by decide +kernel, rfl⟩, ⟨_, Or.inl ⟨by decide +kernel, rfl⟩, ⟨_, Or.inl ⟨by decide +kernel, rfl⟩, ⟨_, Or.inl ⟨by decide +kernel, rfl⟩, ⟨_, Or.inl ⟨by decide +kernel, rfl⟩, rfl⟩⟩⟩⟩⟩⟩⟩⟩
  exact m_told D cI cC cZ cR h1 h2 e6 e7 e8 (Or.inr ⟨by decide +kernel, rfl, rfl⟩)
theorem td_11 (D : va_G) (cI cC cZ cR : ClassId) : xb_MP cL_told wsB_told RL rm_told (some .int) 6 (xb_ty cI cC cZ cR) D (va_AO RX0) [.long 0, .long 0] [] (fun o w1 => o = some (.int (nI 4294967196)) ∧ w1 = []) 53 13855 := by
  have H := run_t11
  unfold sc_t11 at H
  obtain ⟨m1, e1, H⟩ := xRun_c H
  obtain ⟨m2, e2, H⟩ := xRun_c H
  obtain ⟨m3, e3, H⟩ := xRun_c H
  have h1 : tRun 0 tX (dM gM0) (dM gM0) := ⟨_, Or.inl ⟨by decide +kernel, rfl⟩, ⟨_, Or.inl ⟨by decide +kernel, rfl⟩, ⟨_, Or.inl ⟨by decide +kernel, rfl⟩, ⟨_, Or.inl ⟨by decide +kernel, rfl⟩, ⟨_, Or.inl ⟨by decide +kernel, rfl⟩, ⟨_, Or.inl ⟨by decide +kernel, rfl⟩, ⟨_, Or.inl ⟨by decide +kernel, rfl⟩, ⟨_, Or.inl ⟨by decide +kernel, rfl⟩, rfl⟩⟩⟩⟩⟩⟩⟩⟩
  have h2 : tRun 0 tX (dM gM0) (dM gM0) := ⟨_, Or.inl ⟨by decide +kernel, rfl⟩, ⟨_, Or.inl ⟨by decide +kernel, rfl⟩, ⟨_, Or.inl ⟨by decide +kernel, rfl⟩, ⟨_, Or.inl ⟨by decide +kernel, rfl⟩, ⟨_, Or.inl ⟨by decide +kernel, rfl⟩, ⟨_, Or.inl ⟨by decide +kernel, rfl⟩, ⟨_, Or.inl ⟨by decide +kernel, rfl⟩, ⟨_, Or.inl ⟨by decide +kernel, rfl⟩, rfl⟩⟩⟩⟩⟩⟩⟩⟩
  exact m_told D cI cC cZ cR h1 h2 e1 e2 e3 (Or.inr ⟨by decide +kernel, rfl, rfl⟩)
theorem td_12 (D : va_G) (cI cC cZ cR : ClassId) : xb_MP cL_told wsB_told RL rm_told (some .int) 6 (xb_ty cI cC cZ cR) D (va_AO RX0) [.long 215608026726, .long 0] [] (fun o w1 => o = some (.int (nI 1)) ∧ w1 = []) 53 13855 := by
  have H := run_t12
  unfold sc_t12 at H
  obtain ⟨m1, e1, H⟩ := xRun_c H
  obtain ⟨m2, e2, H⟩ := xRun_c H
  obtain ⟨m3, e3, H⟩ := xRun_c H
  obtain ⟨m4, e4, H⟩ := xRun_c H
  obtain ⟨m5, e5, H⟩ := xRun_c H
  obtain ⟨m6, e6, H⟩ := xRun_c H
  obtain ⟨m7, e7, H⟩ := xRun_c H
  obtain ⟨m8, e8, H⟩ := xRun_c H
  have h1 : tRun 215608026726 tX (dM gM0) m5 := ⟨_, Or.inl ⟨by decide +kernel, rfl⟩, ⟨_, Or.inl ⟨by decide +kernel, rfl⟩, ⟨_, Or.inl ⟨by decide +kernel, rfl⟩, ⟨_, Or.inr ⟨50, nI 1, by decide +kernel, by decide +kernel, e1, by decide +kernel⟩, ⟨_, Or.inr ⟨51, nI 2, by decide +kernel, by decide +kernel, e2, by decide +kernel⟩, ⟨_, Or.inr ⟨61, nI 3, by decide +kernel, by decide +kernel, e3, by decide +kernel⟩, ⟨_, Or.inr ⟨102, nI 4, by decide +kernel, by decide +kernel, e4, by decide +kernel⟩, ⟨_, Or.inr ⟨102, nI 5, by decide +kernel, by decide +kernel, e5, by decide +kernel⟩, rfl⟩⟩⟩⟩⟩⟩⟩⟩
  have h2 : tRun 0 tX m5 m5 := ⟨_, Or.inl ⟨by decide +kernel, rfl⟩, ⟨_, Or.inl ⟨by decide +kernel, rfl⟩, ⟨_, Or.inl ⟨by decide +kernel, rfl⟩, ⟨_, Or.inl ⟨by decide +kernel, rfl⟩, ⟨_, Or.inl ⟨by decide +kernel, rfl⟩, ⟨_, Or.inl ⟨by decide +kernel, rfl⟩, ⟨_, Or.inl ⟨by decide +kernel, rfl⟩, ⟨_, Or.inl ⟨by decide +kernel, rfl⟩, rfl⟩⟩⟩⟩⟩⟩⟩⟩
  exact m_told D cI cC cZ cR h1 h2 e6 e7 e8 (Or.inl ⟨by decide +kernel, rfl, rfl⟩)
theorem td_13 (D : va_G) (cI cC cZ cR : ClassId) : xb_MP cL_told wsB_told RL rm_told (some .int) 6 (xb_ty cI cC cZ cR) D (va_AO RX0) [.long 3475987471109537073, .long 49] [] (fun o w1 => o = some (.int (nI 2)) ∧ w1 = []) 53 13855 := by
  have H := run_t13
  unfold sc_t13 at H
  obtain ⟨m1, e1, H⟩ := xRun_c H
  obtain ⟨m2, e2, H⟩ := xRun_c H
  obtain ⟨m3, e3, H⟩ := xRun_c H
  obtain ⟨m4, e4, H⟩ := xRun_c H
  obtain ⟨m5, e5, H⟩ := xRun_c H
  obtain ⟨m6, e6, H⟩ := xRun_c H
  obtain ⟨m7, e7, H⟩ := xRun_c H
  obtain ⟨m8, e8, H⟩ := xRun_c H
  obtain ⟨m9, e9, H⟩ := xRun_c H
  obtain ⟨m10, e10, H⟩ := xRun_c H
  obtain ⟨m11, e11, H⟩ := xRun_c H
  obtain ⟨m12, e12, H⟩ := xRun_c H
  have h1 : tRun 3475987471109537073 tX (dM gM0) m8 := ⟨_, Or.inr ⟨48, nI 1, by decide +kernel, by decide +kernel, e1, by decide +kernel⟩, ⟨_, Or.inr ⟨61, nI 2, by decide +kernel, by decide +kernel, e2, by decide +kernel⟩, ⟨_, Or.inr ⟨48, nI 3, by decide +kernel, by decide +kernel, e3, by decide +kernel⟩, ⟨_, Or.inr ⟨48, nI 4, by decide +kernel, by decide +kernel, e4, by decide +kernel⟩, ⟨_, Or.inr ⟨59, nI 5, by decide +kernel, by decide +kernel, e5, by decide +kernel⟩, ⟨_, Or.inr ⟨49, nI 6, by decide +kernel, by decide +kernel, e6, by decide +kernel⟩, ⟨_, Or.inr ⟨61, nI 7, by decide +kernel, by decide +kernel, e7, by decide +kernel⟩, ⟨_, Or.inr ⟨49, nI 8, by decide +kernel, by decide +kernel, e8, by decide +kernel⟩, rfl⟩⟩⟩⟩⟩⟩⟩⟩
  have h2 : tRun 49 tX m8 m9 := ⟨_, Or.inl ⟨by decide +kernel, rfl⟩, ⟨_, Or.inl ⟨by decide +kernel, rfl⟩, ⟨_, Or.inl ⟨by decide +kernel, rfl⟩, ⟨_, Or.inl ⟨by decide +kernel, rfl⟩, ⟨_, Or.inl ⟨by decide +kernel, rfl⟩, ⟨_, Or.inl ⟨by decide +kernel, rfl⟩, ⟨_, Or.inl ⟨by decide +kernel, rfl⟩, ⟨_, Or.inr ⟨49, nI 9, by decide +kernel, by decide +kernel, e9, by decide +kernel⟩, rfl⟩⟩⟩⟩⟩⟩⟩⟩
  exact m_told D cI cC cZ cR h1 h2 e10 e11 e12 (Or.inl ⟨by decide +kernel, rfl, rfl⟩)
theorem td_14 (D : va_G) (cI cC cZ cR : ClassId) : xb_MP cL_told wsB_told RL rm_told (some .int) 6 (xb_ty cI cC cZ cR) D (va_AO RX0) [.long 3836275441299438896, .long 49] [] (fun o w1 => o = some (.int (nI 1)) ∧ w1 = []) 53 13855 := by
  have H := run_t14
  unfold sc_t14 at H
  obtain ⟨m1, e1, H⟩ := xRun_c H
  obtain ⟨m2, e2, H⟩ := xRun_c H
  obtain ⟨m3, e3, H⟩ := xRun_c H
  obtain ⟨m4, e4, H⟩ := xRun_c H
  obtain ⟨m5, e5, H⟩ := xRun_c H
  obtain ⟨m6, e6, H⟩ := xRun_c H
  obtain ⟨m7, e7, H⟩ := xRun_c H
  obtain ⟨m8, e8, H⟩ := xRun_c H
  obtain ⟨m9, e9, H⟩ := xRun_c H
  obtain ⟨m10, e10, H⟩ := xRun_c H
  obtain ⟨m11, e11, H⟩ := xRun_c H
  obtain ⟨m12, e12, H⟩ := xRun_c H
  have h1 : tRun 3836275441299438896 tX (dM gM0) m8 := ⟨_, Or.inr ⟨53, nI 1, by decide +kernel, by decide +kernel, e1, by decide +kernel⟩, ⟨_, Or.inr ⟨61, nI 2, by decide +kernel, by decide +kernel, e2, by decide +kernel⟩, ⟨_, Or.inr ⟨48, nI 3, by decide +kernel, by decide +kernel, e3, by decide +kernel⟩, ⟨_, Or.inr ⟨48, nI 4, by decide +kernel, by decide +kernel, e4, by decide +kernel⟩, ⟨_, Or.inr ⟨59, nI 5, by decide +kernel, by decide +kernel, e5, by decide +kernel⟩, ⟨_, Or.inr ⟨53, nI 6, by decide +kernel, by decide +kernel, e6, by decide +kernel⟩, ⟨_, Or.inr ⟨61, nI 7, by decide +kernel, by decide +kernel, e7, by decide +kernel⟩, ⟨_, Or.inr ⟨48, nI 8, by decide +kernel, by decide +kernel, e8, by decide +kernel⟩, rfl⟩⟩⟩⟩⟩⟩⟩⟩
  have h2 : tRun 49 tX m8 m9 := ⟨_, Or.inl ⟨by decide +kernel, rfl⟩, ⟨_, Or.inl ⟨by decide +kernel, rfl⟩, ⟨_, Or.inl ⟨by decide +kernel, rfl⟩, ⟨_, Or.inl ⟨by decide +kernel, rfl⟩, ⟨_, Or.inl ⟨by decide +kernel, rfl⟩, ⟨_, Or.inl ⟨by decide +kernel, rfl⟩, ⟨_, Or.inl ⟨by decide +kernel, rfl⟩, ⟨_, Or.inr ⟨49, nI 9, by decide +kernel, by decide +kernel, e9, by decide +kernel⟩, rfl⟩⟩⟩⟩⟩⟩⟩⟩
  exact m_told D cI cC cZ cR h1 h2 e10 e11 e12 (Or.inl ⟨by decide +kernel, rfl, rfl⟩)
theorem td_15 (D : va_G) (cI cC cZ cR : ClassId) : xb_MP cL_told wsB_told RL rm_told (some .int) 6 (xb_ty cI cC cZ cR) D (va_AO RX0) [.long 14422500988379956, .long 0] [] (fun o w1 => o = some (.int (nI 4294967292)) ∧ w1 = []) 53 13855 := by
  have H := run_t15
  unfold sc_t15 at H
  obtain ⟨m1, e1, H⟩ := xRun_c H
  obtain ⟨m2, e2, H⟩ := xRun_c H
  obtain ⟨m3, e3, H⟩ := xRun_c H
  obtain ⟨m4, e4, H⟩ := xRun_c H
  obtain ⟨m5, e5, H⟩ := xRun_c H
  obtain ⟨m6, e6, H⟩ := xRun_c H
  obtain ⟨m7, e7, H⟩ := xRun_c H
  obtain ⟨m8, e8, H⟩ := xRun_c H
  obtain ⟨m9, e9, H⟩ := xRun_c H
  obtain ⟨m10, e10, H⟩ := xRun_c H
  have h1 : tRun 14422500988379956 tX (dM gM0) m7 := ⟨_, Or.inl ⟨by decide +kernel, rfl⟩, ⟨_, Or.inr ⟨51, nI 1, by decide +kernel, by decide +kernel, e1, by decide +kernel⟩, ⟨_, Or.inr ⟨61, nI 2, by decide +kernel, by decide +kernel, e2, by decide +kernel⟩, ⟨_, Or.inr ⟨48, nI 3, by decide +kernel, by decide +kernel, e3, by decide +kernel⟩, ⟨_, Or.inr ⟨48, nI 4, by decide +kernel, by decide +kernel, e4, by decide +kernel⟩, ⟨_, Or.inr ⟨47, nI 5, by decide +kernel, by decide +kernel, e5, by decide +kernel⟩, ⟨_, Or.inr ⟨99, nI 6, by decide +kernel, by decide +kernel, e6, by decide +kernel⟩, ⟨_, Or.inr ⟨52, nI 7, by decide +kernel, by decide +kernel, e7, by decide +kernel⟩, rfl⟩⟩⟩⟩⟩⟩⟩⟩
  have h2 : tRun 0 tX m7 m7 := ⟨_, Or.inl ⟨by decide +kernel, rfl⟩, ⟨_, Or.inl ⟨by decide +kernel, rfl⟩, ⟨_, Or.inl ⟨by decide +kernel, rfl⟩, ⟨_, Or.inl ⟨by decide +kernel, rfl⟩, ⟨_, Or.inl ⟨by decide +kernel, rfl⟩, ⟨_, Or.inl ⟨by decide +kernel, rfl⟩, ⟨_, Or.inl ⟨by decide +kernel, rfl⟩, ⟨_, Or.inl ⟨by decide +kernel, rfl⟩, rfl⟩⟩⟩⟩⟩⟩⟩⟩
  exact m_told D cI cC cZ cR h1 h2 e8 e9 e10 (Or.inr ⟨by decide +kernel, rfl, rfl⟩)
theorem td_16 (D : va_G) (cI cC cZ cR : ClassId) : xb_MP cL_told wsB_told RL rm_told (some .int) 6 (xb_ty cI cC cZ cR) D (va_AO RX0) [.long 14422500988379955, .long 0] [] (fun o w1 => o = some (.int (nI 1)) ∧ w1 = []) 53 13855 := by
  have H := run_t16
  unfold sc_t16 at H
  obtain ⟨m1, e1, H⟩ := xRun_c H
  obtain ⟨m2, e2, H⟩ := xRun_c H
  obtain ⟨m3, e3, H⟩ := xRun_c H
  obtain ⟨m4, e4, H⟩ := xRun_c H
  obtain ⟨m5, e5, H⟩ := xRun_c H
  obtain ⟨m6, e6, H⟩ := xRun_c H
  obtain ⟨m7, e7, H⟩ := xRun_c H
  obtain ⟨m8, e8, H⟩ := xRun_c H
  obtain ⟨m9, e9, H⟩ := xRun_c H
  obtain ⟨m10, e10, H⟩ := xRun_c H
  have h1 : tRun 14422500988379955 tX (dM gM0) m7 := ⟨_, Or.inl ⟨by decide +kernel, rfl⟩, ⟨_, Or.inr ⟨51, nI 1, by decide +kernel, by decide +kernel, e1, by decide +kernel⟩, ⟨_, Or.inr ⟨61, nI 2, by decide +kernel, by decide +kernel, e2, by decide +kernel⟩, ⟨_, Or.inr ⟨48, nI 3, by decide +kernel, by decide +kernel, e3, by decide +kernel⟩, ⟨_, Or.inr ⟨48, nI 4, by decide +kernel, by decide +kernel, e4, by decide +kernel⟩, ⟨_, Or.inr ⟨47, nI 5, by decide +kernel, by decide +kernel, e5, by decide +kernel⟩, ⟨_, Or.inr ⟨99, nI 6, by decide +kernel, by decide +kernel, e6, by decide +kernel⟩, ⟨_, Or.inr ⟨51, nI 7, by decide +kernel, by decide +kernel, e7, by decide +kernel⟩, rfl⟩⟩⟩⟩⟩⟩⟩⟩
  have h2 : tRun 0 tX m7 m7 := ⟨_, Or.inl ⟨by decide +kernel, rfl⟩, ⟨_, Or.inl ⟨by decide +kernel, rfl⟩, ⟨_, Or.inl ⟨by decide +kernel, rfl⟩, ⟨_, Or.inl ⟨by decide +kernel, rfl⟩, ⟨_, Or.inl ⟨by decide +kernel, rfl⟩, ⟨_, Or.inl ⟨by decide +kernel, rfl⟩, ⟨_, Or.inl ⟨by decide +kernel, rfl⟩, ⟨_, Or.inl ⟨by decide +kernel, rfl⟩, rfl⟩⟩⟩⟩⟩⟩⟩⟩
  exact m_told D cI cC cZ cR h1 h2 e8 e9 e10 (Or.inl ⟨by decide +kernel, rfl, rfl⟩)
theorem td_17 (D : va_G) (cI cC cZ cR : ClassId) : xb_MP cL_told wsB_told RL rm_told (some .int) 6 (xb_ty cI cC cZ cR) D (va_AO RX0) [.long 3548098941019173435, .long 842870882] [] (fun o w1 => o = some (.int (nI 2)) ∧ w1 = []) 53 13855 := by
  have H := run_t17
  unfold sc_t17 at H
  obtain ⟨m1, e1, H⟩ := xRun_c H
  obtain ⟨m2, e2, H⟩ := xRun_c H
  obtain ⟨m3, e3, H⟩ := xRun_c H
  obtain ⟨m4, e4, H⟩ := xRun_c H
  obtain ⟨m5, e5, H⟩ := xRun_c H
  obtain ⟨m6, e6, H⟩ := xRun_c H
  obtain ⟨m7, e7, H⟩ := xRun_c H
  obtain ⟨m8, e8, H⟩ := xRun_c H
  obtain ⟨m9, e9, H⟩ := xRun_c H
  obtain ⟨m10, e10, H⟩ := xRun_c H
  obtain ⟨m11, e11, H⟩ := xRun_c H
  obtain ⟨m12, e12, H⟩ := xRun_c H
  obtain ⟨m13, e13, H⟩ := xRun_c H
  obtain ⟨m14, e14, H⟩ := xRun_c H
  obtain ⟨m15, e15, H⟩ := xRun_c H
  have h1 : tRun 3548098941019173435 tX (dM gM0) m8 := ⟨_, Or.inr ⟨49, nI 1, by decide +kernel, by decide +kernel, e1, by decide +kernel⟩, ⟨_, Or.inr ⟨61, nI 2, by decide +kernel, by decide +kernel, e2, by decide +kernel⟩, ⟨_, Or.inr ⟨97, nI 3, by decide +kernel, by decide +kernel, e3, by decide +kernel⟩, ⟨_, Or.inr ⟨48, nI 4, by decide +kernel, by decide +kernel, e4, by decide +kernel⟩, ⟨_, Or.inr ⟨47, nI 5, by decide +kernel, by decide +kernel, e5, by decide +kernel⟩, ⟨_, Or.inr ⟨99, nI 6, by decide +kernel, by decide +kernel, e6, by decide +kernel⟩, ⟨_, Or.inr ⟨50, nI 7, by decide +kernel, by decide +kernel, e7, by decide +kernel⟩, ⟨_, Or.inr ⟨59, nI 8, by decide +kernel, by decide +kernel, e8, by decide +kernel⟩, rfl⟩⟩⟩⟩⟩⟩⟩⟩
  have h2 : tRun 842870882 tX m8 m12 := ⟨_, Or.inl ⟨by decide +kernel, rfl⟩, ⟨_, Or.inl ⟨by decide +kernel, rfl⟩, ⟨_, Or.inl ⟨by decide +kernel, rfl⟩, ⟨_, Or.inl ⟨by decide +kernel, rfl⟩, ⟨_, Or.inr ⟨50, nI 9, by decide +kernel, by decide +kernel, e9, by decide +kernel⟩, ⟨_, Or.inr ⟨61, nI 10, by decide +kernel, by decide +kernel, e10, by decide +kernel⟩, ⟨_, Or.inr ⟨48, nI 11, by decide +kernel, by decide +kernel, e11, by decide +kernel⟩, ⟨_, Or.inr ⟨98, nI 12, by decide +kernel, by decide +kernel, e12, by decide +kernel⟩, rfl⟩⟩⟩⟩⟩⟩⟩⟩
  exact m_told D cI cC cZ cR h1 h2 e13 e14 e15 (Or.inl ⟨by decide +kernel, rfl, rfl⟩)
set_option maxHeartbeats 8000000 in
set_option maxRecDepth 100000 in
theorem m_texts (D : va_G) (cI cC cZ cR : ClassId) : xb_MP cL_texts wsB_texts RL rm_texts (some .boolean) 2 (xb_ty cI cC cZ cR) D (va_AO RX0) [] [] oN 1007 263245 := by
  intro X C0 E0 Z hfr
  have C : xb_LW X cL_texts wsB_texts rm_texts (some .boolean) 2 (xb_ty cI cC cZ cR) D cI cC cZ cR := ⟨C0, su_texts, rfl, by decide, by decide⟩
  show xb_G X 0 0 [] [] 0 []
  refine xi_ldc2 (v := 12852) C.1 dL_texts_0 (su_texts _ wc_103) ?_
  refine xi_lconst (v := 0) C.1 dL_texts_3 (by decide +kernel) ?_
  refine oc_N (As := [.long 12852, .long 0]) (rest := []) (v := .int (nI 4294967195)) C kL_told E0 (td_0 D cI cC cZ cR) gB_told dL_texts_4 ⟨by decide, by decide, Nat.le_of_ble_eq_true rfl⟩ rfl (Nat.le_of_ble_eq_true rfl) ⟨Nat.le_of_ble_eq_true rfl, Nat.le_of_ble_eq_true rfl⟩ ?_
  refine xi_bipush (v := nI 4294967195) C.1 dL_texts_7 (by decide +kernel) ?_
  refine xi_icmp_ne (tgt := 110) C.1 dL_texts_9 (by decide) (fun c => absurd c (by decide +kernel)) (fun _ => ?_)
  refine xi_ldc2 (v := 13117) C.1 dL_texts_12 (su_texts _ wc_109) ?_
  refine xi_lconst (v := 0) C.1 dL_texts_15 (by decide +kernel) ?_
  refine oc_N (As := [.long 13117, .long 0]) (rest := []) (v := .int (nI 4294967194)) C kL_told E0 (td_1 D cI cC cZ cR) gB_told dL_texts_16 ⟨by decide, by decide, Nat.le_of_ble_eq_true rfl⟩ rfl (Nat.le_of_ble_eq_true rfl) ⟨Nat.le_of_ble_eq_true rfl, Nat.le_of_ble_eq_true rfl⟩ ?_
  refine xi_bipush (v := nI 4294967194) C.1 dL_texts_19 (by decide +kernel) ?_
  refine xi_icmp_ne (tgt := 110) C.1 dL_texts_21 (by decide) (fun c => absurd c (by decide +kernel)) (fun _ => ?_)
  refine xi_ldc2 (v := 3358000) C.1 dL_texts_24 (su_texts _ wc_111) ?_
  refine xi_lconst (v := 0) C.1 dL_texts_27 (by decide +kernel) ?_
  refine oc_N (As := [.long 3358000, .long 0]) (rest := []) (v := .int (nI 4294967193)) C kL_told E0 (td_2 D cI cC cZ cR) gB_told dL_texts_28 ⟨by decide, by decide, Nat.le_of_ble_eq_true rfl⟩ rfl (Nat.le_of_ble_eq_true rfl) ⟨Nat.le_of_ble_eq_true rfl, Nat.le_of_ble_eq_true rfl⟩ ?_
  refine xi_bipush (v := nI 4294967193) C.1 dL_texts_31 (by decide +kernel) ?_
  refine xi_icmp_ne (tgt := 110) C.1 dL_texts_33 (by decide) (fun c => absurd c (by decide +kernel)) (fun _ => ?_)
  refine xi_ldc2 (v := 859648071) C.1 dL_texts_36 (su_texts _ wc_113) ?_
  refine xi_lconst (v := 0) C.1 dL_texts_39 (by decide +kernel) ?_
  refine oc_N (As := [.long 859648071, .long 0]) (rest := []) (v := .int (nI 4294967193)) C kL_told E0 (td_3 D cI cC cZ cR) gB_told dL_texts_40 ⟨by decide, by decide, Nat.le_of_ble_eq_true rfl⟩ rfl (Nat.le_of_ble_eq_true rfl) ⟨Nat.le_of_ble_eq_true rfl, Nat.le_of_ble_eq_true rfl⟩ ?_
  refine xi_bipush (v := nI 4294967193) C.1 dL_texts_43 (by decide +kernel) ?_
  refine xi_icmp_ne (tgt := 110) C.1 dL_texts_45 (by decide) (fun c => absurd c (by decide +kernel)) (fun _ => ?_)
  refine xi_ldc2 (v := 220069900335) C.1 dL_texts_48 (su_texts _ wc_115) ?_
  refine xi_lconst (v := 0) C.1 dL_texts_51 (by decide +kernel) ?_
  refine oc_N (As := [.long 220069900335, .long 0]) (rest := []) (v := .int (nI 4294967191)) C kL_told E0 (td_4 D cI cC cZ cR) gB_told dL_texts_52 ⟨by decide, by decide, Nat.le_of_ble_eq_true rfl⟩ rfl (Nat.le_of_ble_eq_true rfl) ⟨Nat.le_of_ble_eq_true rfl, Nat.le_of_ble_eq_true rfl⟩ ?_
  refine xi_bipush (v := nI 4294967191) C.1 dL_texts_55 (by decide +kernel) ?_
  refine xi_icmp_ne (tgt := 110) C.1 dL_texts_57 (by decide) (fun c => absurd c (by decide +kernel)) (fun _ => ?_)
  refine xi_ldc2 (v := 3692160253025268276) C.1 dL_texts_60 (su_texts _ wc_117) ?_
  refine xi_lconst (v := 0) C.1 dL_texts_63 (by decide +kernel) ?_
  refine oc_N (As := [.long 3692160253025268276, .long 0]) (rest := []) (v := .int (nI 4294967189)) C kL_told E0 (td_5 D cI cC cZ cR) gB_told dL_texts_64 ⟨by decide, by decide, Nat.le_of_ble_eq_true rfl⟩ rfl (Nat.le_of_ble_eq_true rfl) ⟨Nat.le_of_ble_eq_true rfl, Nat.le_of_ble_eq_true rfl⟩ ?_
  refine xi_bipush (v := nI 4294967189) C.1 dL_texts_67 (by decide +kernel) ?_
  refine xi_icmp_ne (tgt := 110) C.1 dL_texts_69 (by decide) (fun c => absurd c (by decide +kernel)) (fun _ => ?_)
  refine xi_ldc2 (v := 14422500988383288) C.1 dL_texts_72 (su_texts _ wc_119) ?_
  refine xi_lconst (v := 0) C.1 dL_texts_75 (by decide +kernel) ?_
  refine oc_N (As := [.long 14422500988383288, .long 0]) (rest := []) (v := .int (nI 4294967190)) C kL_told E0 (td_6 D cI cC cZ cR) gB_told dL_texts_76 ⟨by decide, by decide, Nat.le_of_ble_eq_true rfl⟩ rfl (Nat.le_of_ble_eq_true rfl) ⟨Nat.le_of_ble_eq_true rfl, Nat.le_of_ble_eq_true rfl⟩ ?_
  refine xi_bipush (v := nI 4294967190) C.1 dL_texts_79 (by decide +kernel) ?_
  refine xi_icmp_ne (tgt := 110) C.1 dL_texts_81 (by decide) (fun c => absurd c (by decide +kernel)) (fun _ => ?_)
  refine xi_ldc2 (v := 56337894485810) C.1 dL_texts_84 (su_texts _ wc_121) ?_
  refine xi_lconst (v := 0) C.1 dL_texts_87 (by decide +kernel) ?_
  refine oc_N (As := [.long 56337894485810, .long 0]) (rest := []) (v := .int (nI 4294967191)) C kL_told E0 (td_7 D cI cC cZ cR) gB_told dL_texts_88 ⟨by decide, by decide, Nat.le_of_ble_eq_true rfl⟩ rfl (Nat.le_of_ble_eq_true rfl) ⟨Nat.le_of_ble_eq_true rfl, Nat.le_of_ble_eq_true rfl⟩ ?_
  refine xi_bipush (v := nI 4294967191) C.1 dL_texts_91 (by decide +kernel) ?_
  refine xi_icmp_ne (tgt := 110) C.1 dL_texts_93 (by decide) (fun c => absurd c (by decide +kernel)) (fun _ => ?_)
  refine xi_ldc2 (v := 3692160253021925168) C.1 dL_texts_96 (su_texts _ wc_123) ?_
  refine xi_ldc2 (v := 3092527) C.1 dL_texts_99 (su_texts _ wc_125) ?_
  refine oc_N (As := [.long 3692160253021925168, .long 3092527]) (rest := []) (v := .int (nI 4294967186)) C kL_told E0 (td_8 D cI cC cZ cR) gB_told dL_texts_102 ⟨by decide, by decide, Nat.le_of_ble_eq_true rfl⟩ rfl (Nat.le_of_ble_eq_true rfl) ⟨Nat.le_of_ble_eq_true rfl, Nat.le_of_ble_eq_true rfl⟩ ?_
  refine xi_bipush (v := nI 4294967186) C.1 dL_texts_105 (by decide +kernel) ?_
  refine xi_icmp_eq (tgt := 112) C.1 dL_texts_107 (by decide) (fun _ => ?_) (fun c => absurd (by decide +kernel) c)
  refine xi_ldc2 (v := 12339) C.1 dL_texts_112 (su_texts _ wc_127) ?_
  refine xi_lconst (v := 0) C.1 dL_texts_115 (by decide +kernel) ?_
  refine oc_N (As := [.long 12339, .long 0]) (rest := []) (v := .int (nI 4294967195)) C kL_told E0 (td_9 D cI cC cZ cR) gB_told dL_texts_116 ⟨by decide, by decide, Nat.le_of_ble_eq_true rfl⟩ rfl (Nat.le_of_ble_eq_true rfl) ⟨Nat.le_of_ble_eq_true rfl, Nat.le_of_ble_eq_true rfl⟩ ?_
  refine xi_bipush (v := nI 4294967195) C.1 dL_texts_119 (by decide +kernel) ?_
  refine xi_icmp_ne (tgt := 219) C.1 dL_texts_121 (by decide) (fun c => absurd c (by decide +kernel)) (fun _ => ?_)
  refine xi_ldc2 (v := 220069900347) C.1 dL_texts_124 (su_texts _ wc_129) ?_
  refine xi_lconst (v := 0) C.1 dL_texts_127 (by decide +kernel) ?_
  refine oc_N (As := [.long 220069900347, .long 0]) (rest := []) (v := .int (nI 4294967191)) C kL_told E0 (td_10 D cI cC cZ cR) gB_told dL_texts_128 ⟨by decide, by decide, Nat.le_of_ble_eq_true rfl⟩ rfl (Nat.le_of_ble_eq_true rfl) ⟨Nat.le_of_ble_eq_true rfl, Nat.le_of_ble_eq_true rfl⟩ ?_
  refine xi_bipush (v := nI 4294967191) C.1 dL_texts_131 (by decide +kernel) ?_
  refine xi_icmp_ne (tgt := 219) C.1 dL_texts_133 (by decide) (fun c => absurd c (by decide +kernel)) (fun _ => ?_)
  refine xi_lconst (v := 0) C.1 dL_texts_136 (by decide +kernel) ?_
  refine xi_lconst (v := 0) C.1 dL_texts_137 (by decide +kernel) ?_
  refine oc_N (As := [.long 0, .long 0]) (rest := []) (v := .int (nI 4294967196)) C kL_told E0 (td_11 D cI cC cZ cR) gB_told dL_texts_138 ⟨by decide, by decide, Nat.le_of_ble_eq_true rfl⟩ rfl (Nat.le_of_ble_eq_true rfl) ⟨Nat.le_of_ble_eq_true rfl, Nat.le_of_ble_eq_true rfl⟩ ?_
  refine xi_bipush (v := nI 4294967196) C.1 dL_texts_141 (by decide +kernel) ?_
  refine xi_icmp_ne (tgt := 219) C.1 dL_texts_143 (by decide) (fun c => absurd c (by decide +kernel)) (fun _ => ?_)
  refine xi_ldc2 (v := 215608026726) C.1 dL_texts_146 (su_texts _ wc_131) ?_
  refine xi_lconst (v := 0) C.1 dL_texts_149 (by decide +kernel) ?_
  refine oc_N (As := [.long 215608026726, .long 0]) (rest := []) (v := .int (nI 1)) C kL_told E0 (td_12 D cI cC cZ cR) gB_told dL_texts_150 ⟨by decide, by decide, Nat.le_of_ble_eq_true rfl⟩ rfl (Nat.le_of_ble_eq_true rfl) ⟨Nat.le_of_ble_eq_true rfl, Nat.le_of_ble_eq_true rfl⟩ ?_
  refine xi_iconst (v := nI 1) C.1 dL_texts_153 (by decide +kernel) ?_
  refine xi_icmp_ne (tgt := 219) C.1 dL_texts_154 (by decide) (fun c => absurd c (by decide +kernel)) (fun _ => ?_)
  refine xi_ldc2 (v := 3475987471109537073) C.1 dL_texts_157 (su_texts _ wc_133) ?_
  refine xi_ldc2 (v := 49) C.1 dL_texts_160 (su_texts _ wc_135) ?_
  refine oc_N (As := [.long 3475987471109537073, .long 49]) (rest := []) (v := .int (nI 2)) C kL_told E0 (td_13 D cI cC cZ cR) gB_told dL_texts_163 ⟨by decide, by decide, Nat.le_of_ble_eq_true rfl⟩ rfl (Nat.le_of_ble_eq_true rfl) ⟨Nat.le_of_ble_eq_true rfl, Nat.le_of_ble_eq_true rfl⟩ ?_
  refine xi_iconst (v := nI 2) C.1 dL_texts_166 (by decide +kernel) ?_
  refine xi_icmp_ne (tgt := 219) C.1 dL_texts_167 (by decide) (fun c => absurd c (by decide +kernel)) (fun _ => ?_)
  refine xi_ldc2 (v := 3836275441299438896) C.1 dL_texts_170 (su_texts _ wc_137) ?_
  refine xi_ldc2 (v := 49) C.1 dL_texts_173 (su_texts _ wc_135) ?_
  refine oc_N (As := [.long 3836275441299438896, .long 49]) (rest := []) (v := .int (nI 1)) C kL_told E0 (td_14 D cI cC cZ cR) gB_told dL_texts_176 ⟨by decide, by decide, Nat.le_of_ble_eq_true rfl⟩ rfl (Nat.le_of_ble_eq_true rfl) ⟨Nat.le_of_ble_eq_true rfl, Nat.le_of_ble_eq_true rfl⟩ ?_
  refine xi_iconst (v := nI 1) C.1 dL_texts_179 (by decide +kernel) ?_
  refine xi_icmp_ne (tgt := 219) C.1 dL_texts_180 (by decide) (fun c => absurd c (by decide +kernel)) (fun _ => ?_)
  refine xi_ldc2 (v := 14422500988379956) C.1 dL_texts_183 (su_texts _ wc_139) ?_
  refine xi_lconst (v := 0) C.1 dL_texts_186 (by decide +kernel) ?_
  refine oc_N (As := [.long 14422500988379956, .long 0]) (rest := []) (v := .int (nI 4294967292)) C kL_told E0 (td_15 D cI cC cZ cR) gB_told dL_texts_187 ⟨by decide, by decide, Nat.le_of_ble_eq_true rfl⟩ rfl (Nat.le_of_ble_eq_true rfl) ⟨Nat.le_of_ble_eq_true rfl, Nat.le_of_ble_eq_true rfl⟩ ?_
  refine xi_bipush (v := nI 4294967292) C.1 dL_texts_190 (by decide +kernel) ?_
  refine xi_icmp_ne (tgt := 219) C.1 dL_texts_192 (by decide) (fun c => absurd c (by decide +kernel)) (fun _ => ?_)
  refine xi_ldc2 (v := 14422500988379955) C.1 dL_texts_195 (su_texts _ wc_141) ?_
  refine xi_lconst (v := 0) C.1 dL_texts_198 (by decide +kernel) ?_
  refine oc_N (As := [.long 14422500988379955, .long 0]) (rest := []) (v := .int (nI 1)) C kL_told E0 (td_16 D cI cC cZ cR) gB_told dL_texts_199 ⟨by decide, by decide, Nat.le_of_ble_eq_true rfl⟩ rfl (Nat.le_of_ble_eq_true rfl) ⟨Nat.le_of_ble_eq_true rfl, Nat.le_of_ble_eq_true rfl⟩ ?_
  refine xi_iconst (v := nI 1) C.1 dL_texts_202 (by decide +kernel) ?_
  refine xi_icmp_ne (tgt := 219) C.1 dL_texts_203 (by decide) (fun c => absurd c (by decide +kernel)) (fun _ => ?_)
  refine xi_ldc2 (v := 3548098941019173435) C.1 dL_texts_206 (su_texts _ wc_143) ?_
  refine xi_ldc2 (v := 842870882) C.1 dL_texts_209 (su_texts _ wc_145) ?_
  refine oc_N (As := [.long 3548098941019173435, .long 842870882]) (rest := []) (v := .int (nI 2)) C kL_told E0 (td_17 D cI cC cZ cR) gB_told dL_texts_212 ⟨by decide, by decide, Nat.le_of_ble_eq_true rfl⟩ rfl (Nat.le_of_ble_eq_true rfl) ⟨Nat.le_of_ble_eq_true rfl, Nat.le_of_ble_eq_true rfl⟩ ?_
  refine xi_iconst (v := nI 2) C.1 dL_texts_215 (by decide +kernel) ?_
  refine xi_icmp_eq (tgt := 221) C.1 dL_texts_216 (by decide) (fun _ => ?_) (fun c => absurd (by decide +kernel) c)
  refine on_new C E0 ⟨Nat.le_of_ble_eq_true rfl, Nat.le_of_ble_eq_true rfl⟩ dL_texts_221 dL_texts_224 dL_texts_225 (Nat.le_of_ble_eq_true rfl) (fun ad ha => ?_)
  intro Dp Bt Sq se
  have H := run_texts_a
  unfold sc_texts_a at H
  refine xj_astore_n (lv2 := [(0, .ref (ad 0))]) C.1 dL_texts_228 rfl (by decide) [] [0] rfl ?_
  refine xi_aload_n C.1 dL_texts_229 rfl 0 rfl ?_
  refine xi_ldc2 (v := 3475996267005358127) C.1 dL_texts_230 (su_texts _ wc_147) ?_
  obtain ⟨m1, e1, H⟩ := xRun_c H
  obtain ⟨m2, e2, H⟩ := xRun_c H
  obtain ⟨m3, e3, H⟩ := xRun_c H
  obtain ⟨m4, e4, H⟩ := xRun_c H
  obtain ⟨m5, e5, H⟩ := xRun_c H
  obtain ⟨m6, e6, H⟩ := xRun_c H
  obtain ⟨m7, e7, H⟩ := xRun_c H
  obtain ⟨m8, e8, H⟩ := xRun_c H
  have t8 : tRun 3475996267005358127 tX (dM gM0) m8 := ⟨_, Or.inr ⟨48, nI 1, by decide +kernel, by decide +kernel, e1, by decide +kernel⟩, ⟨_, Or.inr ⟨61, nI 2, by decide +kernel, by decide +kernel, e2, by decide +kernel⟩, ⟨_, Or.inr ⟨56, nI 3, by decide +kernel, by decide +kernel, e3, by decide +kernel⟩, ⟨_, Or.inr ⟨48, nI 4, by decide +kernel, by decide +kernel, e4, by decide +kernel⟩, ⟨_, Or.inr ⟨47, nI 5, by decide +kernel, by decide +kernel, e5, by decide +kernel⟩, ⟨_, Or.inr ⟨112, nI 6, by decide +kernel, by decide +kernel, e6, by decide +kernel⟩, ⟨_, Or.inr ⟨48, nI 7, by decide +kernel, by decide +kernel, e7, by decide +kernel⟩, ⟨_, Or.inr ⟨47, nI 8, by decide +kernel, by decide +kernel, e8, by decide +kernel⟩, rfl⟩⟩⟩⟩⟩⟩⟩⟩
  have J8 := tRun_J GG_0 t8
  refine oc_Q (As := [.long 3475996267005358127]) (rest := []) C kL_types (fun Dp Bt Sq se => m_types D cI cC cZ cR ad ha GG_0 t8 Dp Bt Sq se) gB_types dL_texts_233 ⟨by decide, by decide, Nat.le_of_ble_eq_true rfl⟩ rfl (Nat.le_of_ble_eq_true rfl) ⟨Nat.le_of_ble_eq_true rfl, Nat.le_of_ble_eq_true rfl⟩ ?_ Dp Bt Sq se
  intro Dp Bt Sq se
  refine xi_if_eq (tgt := 388) C.1 dL_texts_236 (by decide) (fun c => absurd c (by decide +kernel)) (fun _ => ?_)
  refine xi_aload_n C.1 dL_texts_239 rfl 0 rfl ?_
  refine xi_ldc2 (v := 8084294694599802214) C.1 dL_texts_240 (su_texts _ wc_149) ?_
  obtain ⟨m9, e9, H⟩ := xRun_c H
  obtain ⟨m10, e10, H⟩ := xRun_c H
  obtain ⟨m11, e11, H⟩ := xRun_c H
  obtain ⟨m12, e12, H⟩ := xRun_c H
  obtain ⟨m13, e13, H⟩ := xRun_c H
  obtain ⟨m14, e14, H⟩ := xRun_c H
  obtain ⟨m15, e15, H⟩ := xRun_c H
  obtain ⟨m16, e16, H⟩ := xRun_c H
  have t16 : tRun 8084294694599802214 tX m8 m16 := ⟨_, Or.inr ⟨112, nI 9, by decide +kernel, by decide +kernel, e9, by decide +kernel⟩, ⟨_, Or.inr ⟨49, nI 10, by decide +kernel, by decide +kernel, e10, by decide +kernel⟩, ⟨_, Or.inr ⟨47, nI 11, by decide +kernel, by decide +kernel, e11, by decide +kernel⟩, ⟨_, Or.inr ⟨49, nI 12, by decide +kernel, by decide +kernel, e12, by decide +kernel⟩, ⟨_, Or.inr ⟨59, nI 13, by decide +kernel, by decide +kernel, e13, by decide +kernel⟩, ⟨_, Or.inr ⟨50, nI 14, by decide +kernel, by decide +kernel, e14, by decide +kernel⟩, ⟨_, Or.inr ⟨61, nI 15, by decide +kernel, by decide +kernel, e15, by decide +kernel⟩, ⟨_, Or.inr ⟨102, nI 16, by decide +kernel, by decide +kernel, e16, by decide +kernel⟩, rfl⟩⟩⟩⟩⟩⟩⟩⟩
  have J16 := tRun_J J8 t16
  refine oc_Q (As := [.long 8084294694599802214]) (rest := []) C kL_types (fun Dp Bt Sq se => m_types D cI cC cZ cR ad ha J8 t16 Dp Bt Sq se) gB_types dL_texts_243 ⟨by decide, by decide, Nat.le_of_ble_eq_true rfl⟩ rfl (Nat.le_of_ble_eq_true rfl) ⟨Nat.le_of_ble_eq_true rfl, Nat.le_of_ble_eq_true rfl⟩ ?_ Dp Bt Sq se
  intro Dp Bt Sq se
  refine xi_if_eq (tgt := 388) C.1 dL_texts_246 (by decide) (fun c => absurd c (by decide +kernel)) (fun _ => ?_)
  refine xi_aload_n C.1 dL_texts_249 rfl 0 rfl ?_
  refine xi_ldc2 (v := 28481075704459316) C.1 dL_texts_250 (su_texts _ wc_151) ?_
  obtain ⟨m17, e17, H⟩ := xRun_c H
  obtain ⟨m18, e18, H⟩ := xRun_c H
  obtain ⟨m19, e19, H⟩ := xRun_c H
  obtain ⟨m20, e20, H⟩ := xRun_c H
  obtain ⟨m21, e21, H⟩ := xRun_c H
  obtain ⟨m22, e22, H⟩ := xRun_c H
  obtain ⟨m23, e23, H⟩ := xRun_c H
  have t23 : tRun 28481075704459316 tX m16 m23 := ⟨_, Or.inl ⟨by decide +kernel, rfl⟩, ⟨_, Or.inr ⟨101, nI 17, by decide +kernel, by decide +kernel, e17, by decide +kernel⟩, ⟨_, Or.inr ⟨47, nI 18, by decide +kernel, by decide +kernel, e18, by decide +kernel⟩, ⟨_, Or.inr ⟨99, nI 19, by decide +kernel, by decide +kernel, e19, by decide +kernel⟩, ⟨_, Or.inr ⟨48, nI 20, by decide +kernel, by decide +kernel, e20, by decide +kernel⟩, ⟨_, Or.inr ⟨47, nI 21, by decide +kernel, by decide +kernel, e21, by decide +kernel⟩, ⟨_, Or.inr ⟨112, nI 22, by decide +kernel, by decide +kernel, e22, by decide +kernel⟩, ⟨_, Or.inr ⟨52, nI 23, by decide +kernel, by decide +kernel, e23, by decide +kernel⟩, rfl⟩⟩⟩⟩⟩⟩⟩⟩
  have J23 := tRun_J J16 t23
  refine oc_Q (As := [.long 28481075704459316]) (rest := []) C kL_types (fun Dp Bt Sq se => m_types D cI cC cZ cR ad ha J16 t23 Dp Bt Sq se) gB_types dL_texts_253 ⟨by decide, by decide, Nat.le_of_ble_eq_true rfl⟩ rfl (Nat.le_of_ble_eq_true rfl) ⟨Nat.le_of_ble_eq_true rfl, Nat.le_of_ble_eq_true rfl⟩ ?_ Dp Bt Sq se
  intro Dp Bt Sq se
  refine xi_if_eq (tgt := 388) C.1 dL_texts_256 (by decide) (fun c => absurd c (by decide +kernel)) (fun _ => ?_)
  refine xi_aload_n C.1 dL_texts_259 rfl 0 rfl ?_
  refine xi_bipush (v := nI 9) C.1 dL_texts_260 (by decide +kernel) ?_
  refine xi_bipush (v := nI 9) C.1 dL_texts_262 (by decide +kernel) ?_
  obtain ⟨m24, e24, H⟩ := xRun_c H
  have J24 := gg_q (by decide) J23 e24
  refine ow_0 (a1 := 9) (a2 := 9) (a3 := 0) C J23 e24 dL_texts_264 (Nat.le_of_ble_eq_true rfl) ⟨Nat.le_of_ble_eq_true rfl, Nat.le_of_ble_eq_true rfl⟩ ?_ Dp Bt Sq se
  intro Dp Bt Sq se
  refine xi_iconst (v := nI 1) C.1 dL_texts_267 (by decide +kernel) ?_
  refine xi_icmp_ne (tgt := 388) C.1 dL_texts_268 (by decide) (fun c => absurd c (by decide +kernel)) (fun _ => ?_)
  refine xi_aload_n C.1 dL_texts_271 rfl 0 rfl ?_
  obtain ⟨m25, e25, H⟩ := xRun_c H
  have J25 := gg_q (by decide) J24 e25
  refine ow_7 (a1 := 0) (a2 := 0) (a3 := 0) C J24 e25 dL_texts_272 (Nat.le_of_ble_eq_true rfl) ⟨Nat.le_of_ble_eq_true rfl, Nat.le_of_ble_eq_true rfl⟩ ?_ Dp Bt Sq se
  intro Dp Bt Sq se
  refine xi_iconst (v := nI 2) C.1 dL_texts_275 (by decide +kernel) ?_
  refine xi_icmp_ne (tgt := 388) C.1 dL_texts_276 (by decide) (fun c => absurd c (by decide +kernel)) (fun _ => ?_)
  refine xi_aload_n C.1 dL_texts_279 rfl 0 rfl ?_
  refine xi_iconst (v := nI 2) C.1 dL_texts_280 (by decide +kernel) ?_
  obtain ⟨m26, e26, H⟩ := xRun_c H
  have J26 := gg_q (by decide) J25 e26
  refine ow_21 (a1 := 2) (a2 := 0) (a3 := 0) C J25 e26 dL_texts_281 (Nat.le_of_ble_eq_true rfl) ⟨Nat.le_of_ble_eq_true rfl, Nat.le_of_ble_eq_true rfl⟩ ?_ Dp Bt Sq se
  intro Dp Bt Sq se
  refine xi_bipush (v := nI 6) C.1 dL_texts_284 (by decide +kernel) ?_
  refine xi_icmp_ne (tgt := 388) C.1 dL_texts_286 (by decide) (fun c => absurd c (by decide +kernel)) (fun _ => ?_)
  refine xi_aload_n C.1 dL_texts_289 rfl 0 rfl ?_
  refine xi_bipush (v := nI 9) C.1 dL_texts_290 (by decide +kernel) ?_
  refine xi_iconst (v := nI 0) C.1 dL_texts_292 (by decide +kernel) ?_
  obtain ⟨m27, e27, H⟩ := xRun_c H
  have J27 := gg_q (by decide) J26 e27
  refine ow_13 (a1 := 9) (a2 := 0) (a3 := 0) C J26 e27 dL_texts_293 (Nat.le_of_ble_eq_true rfl) ⟨Nat.le_of_ble_eq_true rfl, Nat.le_of_ble_eq_true rfl⟩ ?_ Dp Bt Sq se
  intro Dp Bt Sq se
  refine xi_iconst (v := nI 4294967295) C.1 dL_texts_296 (by decide +kernel) ?_
  refine xi_icmp_ne (tgt := 388) C.1 dL_texts_297 (by decide) (fun c => absurd c (by decide +kernel)) (fun _ => ?_)
  refine xi_aload_n C.1 dL_texts_300 rfl 0 rfl ?_
  refine xi_iconst (v := nI 0) C.1 dL_texts_301 (by decide +kernel) ?_
  refine xi_iconst (v := nI 0) C.1 dL_texts_302 (by decide +kernel) ?_
  obtain ⟨m28, e28, H⟩ := xRun_c H
  have J28 := gg_q (by decide) J27 e28
  refine ow_13 (a1 := 0) (a2 := 0) (a3 := 0) C J27 e28 dL_texts_303 (Nat.le_of_ble_eq_true rfl) ⟨Nat.le_of_ble_eq_true rfl, Nat.le_of_ble_eq_true rfl⟩ ?_ Dp Bt Sq se
  intro Dp Bt Sq se
  refine xi_sipush (v := nI 128) C.1 dL_texts_306 (by decide +kernel) ?_
  refine xi_icmp_ne (tgt := 388) C.1 dL_texts_309 (by decide) (fun c => absurd c (by decide +kernel)) (fun _ => ?_)
  refine xi_aload_n C.1 dL_texts_312 rfl 0 rfl ?_
  refine xi_iconst (v := nI 0) C.1 dL_texts_313 (by decide +kernel) ?_
  refine xi_iconst (v := nI 3) C.1 dL_texts_314 (by decide +kernel) ?_
  obtain ⟨m29, e29, H⟩ := xRun_c H
  have J29 := gg_q (by decide) J28 e29
  refine ow_13 (a1 := 0) (a2 := 3) (a3 := 0) C J28 e29 dL_texts_315 (Nat.le_of_ble_eq_true rfl) ⟨Nat.le_of_ble_eq_true rfl, Nat.le_of_ble_eq_true rfl⟩ ?_ Dp Bt Sq se
  intro Dp Bt Sq se
  refine xi_bipush (v := nI 33) C.1 dL_texts_318 (by decide +kernel) ?_
  refine xi_icmp_ne (tgt := 388) C.1 dL_texts_320 (by decide) (fun c => absurd c (by decide +kernel)) (fun _ => ?_)
  refine xi_aload_n C.1 dL_texts_323 rfl 0 rfl ?_
  refine xi_iconst (v := nI 2) C.1 dL_texts_324 (by decide +kernel) ?_
  refine xi_iconst (v := nI 0) C.1 dL_texts_325 (by decide +kernel) ?_
  obtain ⟨m30, e30, H⟩ := xRun_c H
  have J30 := gg_q (by decide) J29 e30
  refine ow_13 (a1 := 2) (a2 := 0) (a3 := 0) C J29 e30 dL_texts_326 (Nat.le_of_ble_eq_true rfl) ⟨Nat.le_of_ble_eq_true rfl, Nat.le_of_ble_eq_true rfl⟩ ?_ Dp Bt Sq se
  intro Dp Bt Sq se
  refine xi_sipush (v := nI 254) C.1 dL_texts_329 (by decide +kernel) ?_
  refine xi_icmp_ne (tgt := 388) C.1 dL_texts_332 (by decide) (fun c => absurd c (by decide +kernel)) (fun _ => ?_)
  refine xi_aload_n C.1 dL_texts_335 rfl 0 rfl ?_
  refine xi_iconst (v := nI 2) C.1 dL_texts_336 (by decide +kernel) ?_
  refine xi_iconst (v := nI 3) C.1 dL_texts_337 (by decide +kernel) ?_
  obtain ⟨m31, e31, H⟩ := xRun_c H
  have J31 := gg_q (by decide) J30 e31
  refine ow_13 (a1 := 2) (a2 := 3) (a3 := 0) C J30 e31 dL_texts_338 (Nat.le_of_ble_eq_true rfl) ⟨Nat.le_of_ble_eq_true rfl, Nat.le_of_ble_eq_true rfl⟩ ?_ Dp Bt Sq se
  intro Dp Bt Sq se
  refine xi_bipush (v := nI 32) C.1 dL_texts_341 (by decide +kernel) ?_
  refine xi_icmp_ne (tgt := 388) C.1 dL_texts_343 (by decide) (fun c => absurd c (by decide +kernel)) (fun _ => ?_)
  refine xi_aload_n C.1 dL_texts_346 rfl 0 rfl ?_
  refine xi_iconst (v := nI 2) C.1 dL_texts_347 (by decide +kernel) ?_
  obtain ⟨m32, e32, H⟩ := xRun_c H
  have J32 := gg_q (by decide) J31 e32
  refine ow_17 (a1 := 2) (a2 := 0) (a3 := 0) C J31 e32 dL_texts_348 (Nat.le_of_ble_eq_true rfl) ⟨Nat.le_of_ble_eq_true rfl, Nat.le_of_ble_eq_true rfl⟩ ?_ Dp Bt Sq se
  intro Dp Bt Sq se
  refine xi_sipush (v := nI 160) C.1 dL_texts_351 (by decide +kernel) ?_
  refine xi_icmp_ne (tgt := 388) C.1 dL_texts_354 (by decide) (fun c => absurd c (by decide +kernel)) (fun _ => ?_)
  refine xi_aload_n C.1 dL_texts_357 rfl 0 rfl ?_
  refine xi_bipush (v := nI 10) C.1 dL_texts_358 (by decide +kernel) ?_
  obtain ⟨m33, e33, H⟩ := xRun_c H
  have J33 := gg_q (by decide) J32 e33
  refine ow_21 (a1 := 10) (a2 := 0) (a3 := 0) C J32 e33 dL_texts_360 (Nat.le_of_ble_eq_true rfl) ⟨Nat.le_of_ble_eq_true rfl, Nat.le_of_ble_eq_true rfl⟩ ?_ Dp Bt Sq se
  intro Dp Bt Sq se
  refine xi_bipush (v := nI 23) C.1 dL_texts_363 (by decide +kernel) ?_
  refine xi_icmp_ne (tgt := 388) C.1 dL_texts_365 (by decide) (fun c => absurd c (by decide +kernel)) (fun _ => ?_)
  refine xi_aload_n C.1 dL_texts_368 rfl 0 rfl ?_
  obtain ⟨m34, e34, H⟩ := xRun_c H
  have J34 := gg_q (by decide) J33 e34
  refine ow_10 (a1 := 0) (a2 := 0) (a3 := 0) C J33 e34 dL_texts_369 (Nat.le_of_ble_eq_true rfl) ⟨Nat.le_of_ble_eq_true rfl, Nat.le_of_ble_eq_true rfl⟩ ?_ Dp Bt Sq se
  intro Dp Bt Sq se
  refine xi_iconst (v := nI 1) C.1 dL_texts_372 (by decide +kernel) ?_
  refine xi_icmp_ne (tgt := 388) C.1 dL_texts_373 (by decide) (fun c => absurd c (by decide +kernel)) (fun _ => ?_)
  refine xi_aload_n C.1 dL_texts_376 rfl 0 rfl ?_
  refine xi_bipush (v := nI 9) C.1 dL_texts_377 (by decide +kernel) ?_
  refine xi_iconst (v := nI 0) C.1 dL_texts_379 (by decide +kernel) ?_
  obtain ⟨m35, e35, H⟩ := xRun_c H
  have J35 := gg_q (by decide) J34 e35
  refine ow_13 (a1 := 9) (a2 := 0) (a3 := 0) C J34 e35 dL_texts_380 (Nat.le_of_ble_eq_true rfl) ⟨Nat.le_of_ble_eq_true rfl, Nat.le_of_ble_eq_true rfl⟩ ?_ Dp Bt Sq se
  intro Dp Bt Sq se
  refine xi_bipush (v := nI 9) C.1 dL_texts_383 (by decide +kernel) ?_
  refine xi_icmp_eq (tgt := 390) C.1 dL_texts_385 (by decide) (fun _ => ?_) (fun c => absurd (by decide +kernel) c)
  refine xi_bipush (v := nI 23) C.1 dL_texts_390 (by decide +kernel) ?_
  refine xj_istore_n (lv2 := [(0, .ref (ad 0)), (1, .int (nI 23))]) C.1 dL_texts_392 rfl (by decide) [0] [1, 0] rfl ?_
  refine xi_iload_n C.1 dL_texts_393 rfl 1 rfl ?_
  refine xi_bipush (v := nI 80) C.1 dL_texts_394 (by decide +kernel) ?_
  refine xi_icmp_ge (tgt := 419) C.1 dL_texts_396 (by decide) (fun c => absurd c (by decide +kernel)) (fun _ => ?_)
  refine xi_aload_n C.1 dL_texts_399 rfl 0 rfl ?_
  refine xi_iload_n C.1 dL_texts_400 rfl 1 rfl ?_
  refine xi_i2c C.1 dL_texts_401 ?_
  refine xb_top (b := nI 23) (by decide +kernel) ?_
  obtain ⟨m36, e36, H⟩ := xRun_c H
  have J36 := gg_q (by decide) J35 e36
  refine ow_8 (a1 := 23) (a2 := 0) (a3 := 0) C J35 e36 dL_texts_402 (Nat.le_of_ble_eq_true rfl) ⟨Nat.le_of_ble_eq_true rfl, Nat.le_of_ble_eq_true rfl⟩ ?_ Dp Bt Sq se
  intro Dp Bt Sq se
  refine xi_iload_n C.1 dL_texts_405 rfl 1 rfl ?_
  refine xi_iconst (v := nI 1) C.1 dL_texts_406 (by decide +kernel) ?_
  refine xi_iadd C.1 dL_texts_407 ?_
  refine xb_top (b := nI 24) (by decide +kernel) ?_
  refine xi_icmp_eq (tgt := 413) C.1 dL_texts_408 (by decide) (fun _ => ?_) (fun c => absurd (by decide +kernel) c)
  refine xj_iinc (v := nI 24) (lv2 := [(0, .ref (ad 0)), (1, .int (nI 24))]) C.1 dL_texts_413 1 rfl (by decide +kernel) (by decide) [0] [1, 0] rfl ?_
  refine xi_goto (tgt := 393) C.1 dL_texts_416 (by decide) ?_
  refine xi_iload_n C.1 dL_texts_393 rfl 1 rfl ?_
  refine xi_bipush (v := nI 80) C.1 dL_texts_394 (by decide +kernel) ?_
  refine xi_icmp_ge (tgt := 419) C.1 dL_texts_396 (by decide) (fun c => absurd c (by decide +kernel)) (fun _ => ?_)
  refine xi_aload_n C.1 dL_texts_399 rfl 0 rfl ?_
  refine xi_iload_n C.1 dL_texts_400 rfl 1 rfl ?_
  refine xi_i2c C.1 dL_texts_401 ?_
  refine xb_top (b := nI 24) (by decide +kernel) ?_
  obtain ⟨m37, e37, H⟩ := xRun_c H
  have J37 := gg_q (by decide) J36 e37
  refine ow_8 (a1 := 24) (a2 := 0) (a3 := 0) C J36 e37 dL_texts_402 (Nat.le_of_ble_eq_true rfl) ⟨Nat.le_of_ble_eq_true rfl, Nat.le_of_ble_eq_true rfl⟩ ?_ Dp Bt Sq se
  intro Dp Bt Sq se
  refine xi_iload_n C.1 dL_texts_405 rfl 1 rfl ?_
  refine xi_iconst (v := nI 1) C.1 dL_texts_406 (by decide +kernel) ?_
  refine xi_iadd C.1 dL_texts_407 ?_
  refine xb_top (b := nI 25) (by decide +kernel) ?_
  refine xi_icmp_eq (tgt := 413) C.1 dL_texts_408 (by decide) (fun _ => ?_) (fun c => absurd (by decide +kernel) c)
  refine xj_iinc (v := nI 25) (lv2 := [(0, .ref (ad 0)), (1, .int (nI 25))]) C.1 dL_texts_413 1 rfl (by decide +kernel) (by decide) [0] [1, 0] rfl ?_
  refine xi_goto (tgt := 393) C.1 dL_texts_416 (by decide) ?_
  refine xi_iload_n C.1 dL_texts_393 rfl 1 rfl ?_
  refine xi_bipush (v := nI 80) C.1 dL_texts_394 (by decide +kernel) ?_
  refine xi_icmp_ge (tgt := 419) C.1 dL_texts_396 (by decide) (fun c => absurd c (by decide +kernel)) (fun _ => ?_)
  refine xi_aload_n C.1 dL_texts_399 rfl 0 rfl ?_
  refine xi_iload_n C.1 dL_texts_400 rfl 1 rfl ?_
  refine xi_i2c C.1 dL_texts_401 ?_
  refine xb_top (b := nI 25) (by decide +kernel) ?_
  obtain ⟨m38, e38, H⟩ := xRun_c H
  have J38 := gg_q (by decide) J37 e38
  refine ow_8 (a1 := 25) (a2 := 0) (a3 := 0) C J37 e38 dL_texts_402 (Nat.le_of_ble_eq_true rfl) ⟨Nat.le_of_ble_eq_true rfl, Nat.le_of_ble_eq_true rfl⟩ ?_ Dp Bt Sq se
  intro Dp Bt Sq se
  refine xi_iload_n C.1 dL_texts_405 rfl 1 rfl ?_
  refine xi_iconst (v := nI 1) C.1 dL_texts_406 (by decide +kernel) ?_
  refine xi_iadd C.1 dL_texts_407 ?_
  refine xb_top (b := nI 26) (by decide +kernel) ?_
  refine xi_icmp_eq (tgt := 413) C.1 dL_texts_408 (by decide) (fun _ => ?_) (fun c => absurd (by decide +kernel) c)
  refine xj_iinc (v := nI 26) (lv2 := [(0, .ref (ad 0)), (1, .int (nI 26))]) C.1 dL_texts_413 1 rfl (by decide +kernel) (by decide) [0] [1, 0] rfl ?_
  refine xi_goto (tgt := 393) C.1 dL_texts_416 (by decide) ?_
  refine xi_iload_n C.1 dL_texts_393 rfl 1 rfl ?_
  refine xi_bipush (v := nI 80) C.1 dL_texts_394 (by decide +kernel) ?_
  refine xi_icmp_ge (tgt := 419) C.1 dL_texts_396 (by decide) (fun c => absurd c (by decide +kernel)) (fun _ => ?_)
  refine xi_aload_n C.1 dL_texts_399 rfl 0 rfl ?_
  refine xi_iload_n C.1 dL_texts_400 rfl 1 rfl ?_
  refine xi_i2c C.1 dL_texts_401 ?_
  refine xb_top (b := nI 26) (by decide +kernel) ?_
  obtain ⟨m39, e39, H⟩ := xRun_c H
  have J39 := gg_q (by decide) J38 e39
  refine ow_8 (a1 := 26) (a2 := 0) (a3 := 0) C J38 e39 dL_texts_402 (Nat.le_of_ble_eq_true rfl) ⟨Nat.le_of_ble_eq_true rfl, Nat.le_of_ble_eq_true rfl⟩ ?_ Dp Bt Sq se
  intro Dp Bt Sq se
  refine xi_iload_n C.1 dL_texts_405 rfl 1 rfl ?_
  refine xi_iconst (v := nI 1) C.1 dL_texts_406 (by decide +kernel) ?_
  refine xi_iadd C.1 dL_texts_407 ?_
  refine xb_top (b := nI 27) (by decide +kernel) ?_
  refine xi_icmp_eq (tgt := 413) C.1 dL_texts_408 (by decide) (fun _ => ?_) (fun c => absurd (by decide +kernel) c)
  refine xj_iinc (v := nI 27) (lv2 := [(0, .ref (ad 0)), (1, .int (nI 27))]) C.1 dL_texts_413 1 rfl (by decide +kernel) (by decide) [0] [1, 0] rfl ?_
  refine xi_goto (tgt := 393) C.1 dL_texts_416 (by decide) ?_
  refine xi_iload_n C.1 dL_texts_393 rfl 1 rfl ?_
  refine xi_bipush (v := nI 80) C.1 dL_texts_394 (by decide +kernel) ?_
  refine xi_icmp_ge (tgt := 419) C.1 dL_texts_396 (by decide) (fun c => absurd c (by decide +kernel)) (fun _ => ?_)
  refine xi_aload_n C.1 dL_texts_399 rfl 0 rfl ?_
  refine xi_iload_n C.1 dL_texts_400 rfl 1 rfl ?_
  refine xi_i2c C.1 dL_texts_401 ?_
  refine xb_top (b := nI 27) (by decide +kernel) ?_
  obtain ⟨m40, e40, H⟩ := xRun_c H
  have J40 := gg_q (by decide) J39 e40
  refine ow_8 (a1 := 27) (a2 := 0) (a3 := 0) C J39 e40 dL_texts_402 (Nat.le_of_ble_eq_true rfl) ⟨Nat.le_of_ble_eq_true rfl, Nat.le_of_ble_eq_true rfl⟩ ?_ Dp Bt Sq se
  intro Dp Bt Sq se
  refine xi_iload_n C.1 dL_texts_405 rfl 1 rfl ?_
  refine xi_iconst (v := nI 1) C.1 dL_texts_406 (by decide +kernel) ?_
  refine xi_iadd C.1 dL_texts_407 ?_
  refine xb_top (b := nI 28) (by decide +kernel) ?_
  refine xi_icmp_eq (tgt := 413) C.1 dL_texts_408 (by decide) (fun _ => ?_) (fun c => absurd (by decide +kernel) c)
  refine xj_iinc (v := nI 28) (lv2 := [(0, .ref (ad 0)), (1, .int (nI 28))]) C.1 dL_texts_413 1 rfl (by decide +kernel) (by decide) [0] [1, 0] rfl ?_
  refine xi_goto (tgt := 393) C.1 dL_texts_416 (by decide) ?_
  refine xi_iload_n C.1 dL_texts_393 rfl 1 rfl ?_
  refine xi_bipush (v := nI 80) C.1 dL_texts_394 (by decide +kernel) ?_
  refine xi_icmp_ge (tgt := 419) C.1 dL_texts_396 (by decide) (fun c => absurd c (by decide +kernel)) (fun _ => ?_)
  refine xi_aload_n C.1 dL_texts_399 rfl 0 rfl ?_
  refine xi_iload_n C.1 dL_texts_400 rfl 1 rfl ?_
  refine xi_i2c C.1 dL_texts_401 ?_
  refine xb_top (b := nI 28) (by decide +kernel) ?_
  obtain ⟨m41, e41, H⟩ := xRun_c H
  have J41 := gg_q (by decide) J40 e41
  refine ow_8 (a1 := 28) (a2 := 0) (a3 := 0) C J40 e41 dL_texts_402 (Nat.le_of_ble_eq_true rfl) ⟨Nat.le_of_ble_eq_true rfl, Nat.le_of_ble_eq_true rfl⟩ ?_ Dp Bt Sq se
  intro Dp Bt Sq se
  refine xi_iload_n C.1 dL_texts_405 rfl 1 rfl ?_
  refine xi_iconst (v := nI 1) C.1 dL_texts_406 (by decide +kernel) ?_
  refine xi_iadd C.1 dL_texts_407 ?_
  refine xb_top (b := nI 29) (by decide +kernel) ?_
  refine xi_icmp_eq (tgt := 413) C.1 dL_texts_408 (by decide) (fun _ => ?_) (fun c => absurd (by decide +kernel) c)
  refine xj_iinc (v := nI 29) (lv2 := [(0, .ref (ad 0)), (1, .int (nI 29))]) C.1 dL_texts_413 1 rfl (by decide +kernel) (by decide) [0] [1, 0] rfl ?_
  refine xi_goto (tgt := 393) C.1 dL_texts_416 (by decide) ?_
  refine xi_iload_n C.1 dL_texts_393 rfl 1 rfl ?_
  refine xi_bipush (v := nI 80) C.1 dL_texts_394 (by decide +kernel) ?_
  refine xi_icmp_ge (tgt := 419) C.1 dL_texts_396 (by decide) (fun c => absurd c (by decide +kernel)) (fun _ => ?_)
  refine xi_aload_n C.1 dL_texts_399 rfl 0 rfl ?_
  refine xi_iload_n C.1 dL_texts_400 rfl 1 rfl ?_
  refine xi_i2c C.1 dL_texts_401 ?_
  refine xb_top (b := nI 29) (by decide +kernel) ?_
  obtain ⟨m42, e42, H⟩ := xRun_c H
  have J42 := gg_q (by decide) J41 e42
  refine ow_8 (a1 := 29) (a2 := 0) (a3 := 0) C J41 e42 dL_texts_402 (Nat.le_of_ble_eq_true rfl) ⟨Nat.le_of_ble_eq_true rfl, Nat.le_of_ble_eq_true rfl⟩ ?_ Dp Bt Sq se
  intro Dp Bt Sq se
  refine xi_iload_n C.1 dL_texts_405 rfl 1 rfl ?_
  refine xi_iconst (v := nI 1) C.1 dL_texts_406 (by decide +kernel) ?_
  refine xi_iadd C.1 dL_texts_407 ?_
  refine xb_top (b := nI 30) (by decide +kernel) ?_
  refine xi_icmp_eq (tgt := 413) C.1 dL_texts_408 (by decide) (fun _ => ?_) (fun c => absurd (by decide +kernel) c)
  refine xj_iinc (v := nI 30) (lv2 := [(0, .ref (ad 0)), (1, .int (nI 30))]) C.1 dL_texts_413 1 rfl (by decide +kernel) (by decide) [0] [1, 0] rfl ?_
  refine xi_goto (tgt := 393) C.1 dL_texts_416 (by decide) ?_
  refine xi_iload_n C.1 dL_texts_393 rfl 1 rfl ?_
  refine xi_bipush (v := nI 80) C.1 dL_texts_394 (by decide +kernel) ?_
  refine xi_icmp_ge (tgt := 419) C.1 dL_texts_396 (by decide) (fun c => absurd c (by decide +kernel)) (fun _ => ?_)
  refine xi_aload_n C.1 dL_texts_399 rfl 0 rfl ?_
  refine xi_iload_n C.1 dL_texts_400 rfl 1 rfl ?_
  refine xi_i2c C.1 dL_texts_401 ?_
  refine xb_top (b := nI 30) (by decide +kernel) ?_
  obtain ⟨m43, e43, H⟩ := xRun_c H
  have J43 := gg_q (by decide) J42 e43
  refine ow_8 (a1 := 30) (a2 := 0) (a3 := 0) C J42 e43 dL_texts_402 (Nat.le_of_ble_eq_true rfl) ⟨Nat.le_of_ble_eq_true rfl, Nat.le_of_ble_eq_true rfl⟩ ?_ Dp Bt Sq se
  intro Dp Bt Sq se
  refine xi_iload_n C.1 dL_texts_405 rfl 1 rfl ?_
  refine xi_iconst (v := nI 1) C.1 dL_texts_406 (by decide +kernel) ?_
  refine xi_iadd C.1 dL_texts_407 ?_
  refine xb_top (b := nI 31) (by decide +kernel) ?_
  refine xi_icmp_eq (tgt := 413) C.1 dL_texts_408 (by decide) (fun _ => ?_) (fun c => absurd (by decide +kernel) c)
  refine xj_iinc (v := nI 31) (lv2 := [(0, .ref (ad 0)), (1, .int (nI 31))]) C.1 dL_texts_413 1 rfl (by decide +kernel) (by decide) [0] [1, 0] rfl ?_
  refine xi_goto (tgt := 393) C.1 dL_texts_416 (by decide) ?_
  refine xi_iload_n C.1 dL_texts_393 rfl 1 rfl ?_
  refine xi_bipush (v := nI 80) C.1 dL_texts_394 (by decide +kernel) ?_
  refine xi_icmp_ge (tgt := 419) C.1 dL_texts_396 (by decide) (fun c => absurd c (by decide +kernel)) (fun _ => ?_)
  refine xi_aload_n C.1 dL_texts_399 rfl 0 rfl ?_
  refine xi_iload_n C.1 dL_texts_400 rfl 1 rfl ?_
  refine xi_i2c C.1 dL_texts_401 ?_
  refine xb_top (b := nI 31) (by decide +kernel) ?_
  obtain ⟨m44, e44, H⟩ := xRun_c H
  have J44 := gg_q (by decide) J43 e44
  refine ow_8 (a1 := 31) (a2 := 0) (a3 := 0) C J43 e44 dL_texts_402 (Nat.le_of_ble_eq_true rfl) ⟨Nat.le_of_ble_eq_true rfl, Nat.le_of_ble_eq_true rfl⟩ ?_ Dp Bt Sq se
  intro Dp Bt Sq se
  refine xi_iload_n C.1 dL_texts_405 rfl 1 rfl ?_
  refine xi_iconst (v := nI 1) C.1 dL_texts_406 (by decide +kernel) ?_
  refine xi_iadd C.1 dL_texts_407 ?_
  refine xb_top (b := nI 32) (by decide +kernel) ?_
  refine xi_icmp_eq (tgt := 413) C.1 dL_texts_408 (by decide) (fun _ => ?_) (fun c => absurd (by decide +kernel) c)
  refine xj_iinc (v := nI 32) (lv2 := [(0, .ref (ad 0)), (1, .int (nI 32))]) C.1 dL_texts_413 1 rfl (by decide +kernel) (by decide) [0] [1, 0] rfl ?_
  refine xi_goto (tgt := 393) C.1 dL_texts_416 (by decide) ?_
  refine xi_iload_n C.1 dL_texts_393 rfl 1 rfl ?_
  refine xi_bipush (v := nI 80) C.1 dL_texts_394 (by decide +kernel) ?_
  refine xi_icmp_ge (tgt := 419) C.1 dL_texts_396 (by decide) (fun c => absurd c (by decide +kernel)) (fun _ => ?_)
  refine xi_aload_n C.1 dL_texts_399 rfl 0 rfl ?_
  refine xi_iload_n C.1 dL_texts_400 rfl 1 rfl ?_
  refine xi_i2c C.1 dL_texts_401 ?_
  refine xb_top (b := nI 32) (by decide +kernel) ?_
  obtain ⟨m45, e45, H⟩ := xRun_c H
  have J45 := gg_q (by decide) J44 e45
  refine ow_8 (a1 := 32) (a2 := 0) (a3 := 0) C J44 e45 dL_texts_402 (Nat.le_of_ble_eq_true rfl) ⟨Nat.le_of_ble_eq_true rfl, Nat.le_of_ble_eq_true rfl⟩ ?_ Dp Bt Sq se
  intro Dp Bt Sq se
  refine xi_iload_n C.1 dL_texts_405 rfl 1 rfl ?_
  refine xi_iconst (v := nI 1) C.1 dL_texts_406 (by decide +kernel) ?_
  refine xi_iadd C.1 dL_texts_407 ?_
  refine xb_top (b := nI 33) (by decide +kernel) ?_
  refine xi_icmp_eq (tgt := 413) C.1 dL_texts_408 (by decide) (fun _ => ?_) (fun c => absurd (by decide +kernel) c)
  refine xj_iinc (v := nI 33) (lv2 := [(0, .ref (ad 0)), (1, .int (nI 33))]) C.1 dL_texts_413 1 rfl (by decide +kernel) (by decide) [0] [1, 0] rfl ?_
  refine xi_goto (tgt := 393) C.1 dL_texts_416 (by decide) ?_
  refine xi_iload_n C.1 dL_texts_393 rfl 1 rfl ?_
  refine xi_bipush (v := nI 80) C.1 dL_texts_394 (by decide +kernel) ?_
  refine xi_icmp_ge (tgt := 419) C.1 dL_texts_396 (by decide) (fun c => absurd c (by decide +kernel)) (fun _ => ?_)
  refine xi_aload_n C.1 dL_texts_399 rfl 0 rfl ?_
  refine xi_iload_n C.1 dL_texts_400 rfl 1 rfl ?_
  refine xi_i2c C.1 dL_texts_401 ?_
  refine xb_top (b := nI 33) (by decide +kernel) ?_
  obtain ⟨m46, e46, H⟩ := xRun_c H
  have J46 := gg_q (by decide) J45 e46
  refine ow_8 (a1 := 33) (a2 := 0) (a3 := 0) C J45 e46 dL_texts_402 (Nat.le_of_ble_eq_true rfl) ⟨Nat.le_of_ble_eq_true rfl, Nat.le_of_ble_eq_true rfl⟩ ?_ Dp Bt Sq se
  intro Dp Bt Sq se
  refine xi_iload_n C.1 dL_texts_405 rfl 1 rfl ?_
  refine xi_iconst (v := nI 1) C.1 dL_texts_406 (by decide +kernel) ?_
  refine xi_iadd C.1 dL_texts_407 ?_
  refine xb_top (b := nI 34) (by decide +kernel) ?_
  refine xi_icmp_eq (tgt := 413) C.1 dL_texts_408 (by decide) (fun _ => ?_) (fun c => absurd (by decide +kernel) c)
  refine xj_iinc (v := nI 34) (lv2 := [(0, .ref (ad 0)), (1, .int (nI 34))]) C.1 dL_texts_413 1 rfl (by decide +kernel) (by decide) [0] [1, 0] rfl ?_
  refine xi_goto (tgt := 393) C.1 dL_texts_416 (by decide) ?_
  refine xi_iload_n C.1 dL_texts_393 rfl 1 rfl ?_
  refine xi_bipush (v := nI 80) C.1 dL_texts_394 (by decide +kernel) ?_
  refine xi_icmp_ge (tgt := 419) C.1 dL_texts_396 (by decide) (fun c => absurd c (by decide +kernel)) (fun _ => ?_)
  refine xi_aload_n C.1 dL_texts_399 rfl 0 rfl ?_
  refine xi_iload_n C.1 dL_texts_400 rfl 1 rfl ?_
  refine xi_i2c C.1 dL_texts_401 ?_
  refine xb_top (b := nI 34) (by decide +kernel) ?_
  obtain ⟨m47, e47, H⟩ := xRun_c H
  have J47 := gg_q (by decide) J46 e47
  refine ow_8 (a1 := 34) (a2 := 0) (a3 := 0) C J46 e47 dL_texts_402 (Nat.le_of_ble_eq_true rfl) ⟨Nat.le_of_ble_eq_true rfl, Nat.le_of_ble_eq_true rfl⟩ ?_ Dp Bt Sq se
  intro Dp Bt Sq se
  refine xi_iload_n C.1 dL_texts_405 rfl 1 rfl ?_
  refine xi_iconst (v := nI 1) C.1 dL_texts_406 (by decide +kernel) ?_
  refine xi_iadd C.1 dL_texts_407 ?_
  refine xb_top (b := nI 35) (by decide +kernel) ?_
  refine xi_icmp_eq (tgt := 413) C.1 dL_texts_408 (by decide) (fun _ => ?_) (fun c => absurd (by decide +kernel) c)
  refine xj_iinc (v := nI 35) (lv2 := [(0, .ref (ad 0)), (1, .int (nI 35))]) C.1 dL_texts_413 1 rfl (by decide +kernel) (by decide) [0] [1, 0] rfl ?_
  refine xi_goto (tgt := 393) C.1 dL_texts_416 (by decide) ?_
  refine xi_iload_n C.1 dL_texts_393 rfl 1 rfl ?_
  refine xi_bipush (v := nI 80) C.1 dL_texts_394 (by decide +kernel) ?_
  refine xi_icmp_ge (tgt := 419) C.1 dL_texts_396 (by decide) (fun c => absurd c (by decide +kernel)) (fun _ => ?_)
  refine xi_aload_n C.1 dL_texts_399 rfl 0 rfl ?_
  refine xi_iload_n C.1 dL_texts_400 rfl 1 rfl ?_
  refine xi_i2c C.1 dL_texts_401 ?_
  refine xb_top (b := nI 35) (by decide +kernel) ?_
  obtain ⟨m48, e48, H⟩ := xRun_c H
  have J48 := gg_q (by decide) J47 e48
  refine ow_8 (a1 := 35) (a2 := 0) (a3 := 0) C J47 e48 dL_texts_402 (Nat.le_of_ble_eq_true rfl) ⟨Nat.le_of_ble_eq_true rfl, Nat.le_of_ble_eq_true rfl⟩ ?_ Dp Bt Sq se
  intro Dp Bt Sq se
  refine xi_iload_n C.1 dL_texts_405 rfl 1 rfl ?_
  refine xi_iconst (v := nI 1) C.1 dL_texts_406 (by decide +kernel) ?_
  refine xi_iadd C.1 dL_texts_407 ?_
  refine xb_top (b := nI 36) (by decide +kernel) ?_
  refine xi_icmp_eq (tgt := 413) C.1 dL_texts_408 (by decide) (fun _ => ?_) (fun c => absurd (by decide +kernel) c)
  refine xj_iinc (v := nI 36) (lv2 := [(0, .ref (ad 0)), (1, .int (nI 36))]) C.1 dL_texts_413 1 rfl (by decide +kernel) (by decide) [0] [1, 0] rfl ?_
  refine xi_goto (tgt := 393) C.1 dL_texts_416 (by decide) ?_
  refine xi_iload_n C.1 dL_texts_393 rfl 1 rfl ?_
  refine xi_bipush (v := nI 80) C.1 dL_texts_394 (by decide +kernel) ?_
  refine xi_icmp_ge (tgt := 419) C.1 dL_texts_396 (by decide) (fun c => absurd c (by decide +kernel)) (fun _ => ?_)
  refine xi_aload_n C.1 dL_texts_399 rfl 0 rfl ?_
  refine xi_iload_n C.1 dL_texts_400 rfl 1 rfl ?_
  refine xi_i2c C.1 dL_texts_401 ?_
  refine xb_top (b := nI 36) (by decide +kernel) ?_
  obtain ⟨m49, e49, H⟩ := xRun_c H
  have J49 := gg_q (by decide) J48 e49
  refine ow_8 (a1 := 36) (a2 := 0) (a3 := 0) C J48 e49 dL_texts_402 (Nat.le_of_ble_eq_true rfl) ⟨Nat.le_of_ble_eq_true rfl, Nat.le_of_ble_eq_true rfl⟩ ?_ Dp Bt Sq se
  intro Dp Bt Sq se
  refine xi_iload_n C.1 dL_texts_405 rfl 1 rfl ?_
  refine xi_iconst (v := nI 1) C.1 dL_texts_406 (by decide +kernel) ?_
  refine xi_iadd C.1 dL_texts_407 ?_
  refine xb_top (b := nI 37) (by decide +kernel) ?_
  refine xi_icmp_eq (tgt := 413) C.1 dL_texts_408 (by decide) (fun _ => ?_) (fun c => absurd (by decide +kernel) c)
  refine xj_iinc (v := nI 37) (lv2 := [(0, .ref (ad 0)), (1, .int (nI 37))]) C.1 dL_texts_413 1 rfl (by decide +kernel) (by decide) [0] [1, 0] rfl ?_
  refine xi_goto (tgt := 393) C.1 dL_texts_416 (by decide) ?_
  refine xi_iload_n C.1 dL_texts_393 rfl 1 rfl ?_
  refine xi_bipush (v := nI 80) C.1 dL_texts_394 (by decide +kernel) ?_
  refine xi_icmp_ge (tgt := 419) C.1 dL_texts_396 (by decide) (fun c => absurd c (by decide +kernel)) (fun _ => ?_)
  refine xi_aload_n C.1 dL_texts_399 rfl 0 rfl ?_
  refine xi_iload_n C.1 dL_texts_400 rfl 1 rfl ?_
  refine xi_i2c C.1 dL_texts_401 ?_
  refine xb_top (b := nI 37) (by decide +kernel) ?_
  obtain ⟨m50, e50, H⟩ := xRun_c H
  have J50 := gg_q (by decide) J49 e50
  refine ow_8 (a1 := 37) (a2 := 0) (a3 := 0) C J49 e50 dL_texts_402 (Nat.le_of_ble_eq_true rfl) ⟨Nat.le_of_ble_eq_true rfl, Nat.le_of_ble_eq_true rfl⟩ ?_ Dp Bt Sq se
  intro Dp Bt Sq se
  refine xi_iload_n C.1 dL_texts_405 rfl 1 rfl ?_
  refine xi_iconst (v := nI 1) C.1 dL_texts_406 (by decide +kernel) ?_
  refine xi_iadd C.1 dL_texts_407 ?_
  refine xb_top (b := nI 38) (by decide +kernel) ?_
  refine xi_icmp_eq (tgt := 413) C.1 dL_texts_408 (by decide) (fun _ => ?_) (fun c => absurd (by decide +kernel) c)
  refine xj_iinc (v := nI 38) (lv2 := [(0, .ref (ad 0)), (1, .int (nI 38))]) C.1 dL_texts_413 1 rfl (by decide +kernel) (by decide) [0] [1, 0] rfl ?_
  refine xi_goto (tgt := 393) C.1 dL_texts_416 (by decide) ?_
  refine xi_iload_n C.1 dL_texts_393 rfl 1 rfl ?_
  refine xi_bipush (v := nI 80) C.1 dL_texts_394 (by decide +kernel) ?_
  refine xi_icmp_ge (tgt := 419) C.1 dL_texts_396 (by decide) (fun c => absurd c (by decide +kernel)) (fun _ => ?_)
  refine xi_aload_n C.1 dL_texts_399 rfl 0 rfl ?_
  refine xi_iload_n C.1 dL_texts_400 rfl 1 rfl ?_
  refine xi_i2c C.1 dL_texts_401 ?_
  refine xb_top (b := nI 38) (by decide +kernel) ?_
  obtain ⟨m51, e51, H⟩ := xRun_c H
  have J51 := gg_q (by decide) J50 e51
  refine ow_8 (a1 := 38) (a2 := 0) (a3 := 0) C J50 e51 dL_texts_402 (Nat.le_of_ble_eq_true rfl) ⟨Nat.le_of_ble_eq_true rfl, Nat.le_of_ble_eq_true rfl⟩ ?_ Dp Bt Sq se
  intro Dp Bt Sq se
  refine xi_iload_n C.1 dL_texts_405 rfl 1 rfl ?_
  refine xi_iconst (v := nI 1) C.1 dL_texts_406 (by decide +kernel) ?_
  refine xi_iadd C.1 dL_texts_407 ?_
  refine xb_top (b := nI 39) (by decide +kernel) ?_
  refine xi_icmp_eq (tgt := 413) C.1 dL_texts_408 (by decide) (fun _ => ?_) (fun c => absurd (by decide +kernel) c)
  refine xj_iinc (v := nI 39) (lv2 := [(0, .ref (ad 0)), (1, .int (nI 39))]) C.1 dL_texts_413 1 rfl (by decide +kernel) (by decide) [0] [1, 0] rfl ?_
  refine xi_goto (tgt := 393) C.1 dL_texts_416 (by decide) ?_
  refine xi_iload_n C.1 dL_texts_393 rfl 1 rfl ?_
  refine xi_bipush (v := nI 80) C.1 dL_texts_394 (by decide +kernel) ?_
  refine xi_icmp_ge (tgt := 419) C.1 dL_texts_396 (by decide) (fun c => absurd c (by decide +kernel)) (fun _ => ?_)
  refine xi_aload_n C.1 dL_texts_399 rfl 0 rfl ?_
  refine xi_iload_n C.1 dL_texts_400 rfl 1 rfl ?_
  refine xi_i2c C.1 dL_texts_401 ?_
  refine xb_top (b := nI 39) (by decide +kernel) ?_
  obtain ⟨m52, e52, H⟩ := xRun_c H
  have J52 := gg_q (by decide) J51 e52
  refine ow_8 (a1 := 39) (a2 := 0) (a3 := 0) C J51 e52 dL_texts_402 (Nat.le_of_ble_eq_true rfl) ⟨Nat.le_of_ble_eq_true rfl, Nat.le_of_ble_eq_true rfl⟩ ?_ Dp Bt Sq se
  intro Dp Bt Sq se
  refine xi_iload_n C.1 dL_texts_405 rfl 1 rfl ?_
  refine xi_iconst (v := nI 1) C.1 dL_texts_406 (by decide +kernel) ?_
  refine xi_iadd C.1 dL_texts_407 ?_
  refine xb_top (b := nI 40) (by decide +kernel) ?_
  refine xi_icmp_eq (tgt := 413) C.1 dL_texts_408 (by decide) (fun _ => ?_) (fun c => absurd (by decide +kernel) c)
  refine xj_iinc (v := nI 40) (lv2 := [(0, .ref (ad 0)), (1, .int (nI 40))]) C.1 dL_texts_413 1 rfl (by decide +kernel) (by decide) [0] [1, 0] rfl ?_
  refine xi_goto (tgt := 393) C.1 dL_texts_416 (by decide) ?_
  refine xi_iload_n C.1 dL_texts_393 rfl 1 rfl ?_
  refine xi_bipush (v := nI 80) C.1 dL_texts_394 (by decide +kernel) ?_
  refine xi_icmp_ge (tgt := 419) C.1 dL_texts_396 (by decide) (fun c => absurd c (by decide +kernel)) (fun _ => ?_)
  refine xi_aload_n C.1 dL_texts_399 rfl 0 rfl ?_
  refine xi_iload_n C.1 dL_texts_400 rfl 1 rfl ?_
  refine xi_i2c C.1 dL_texts_401 ?_
  refine xb_top (b := nI 40) (by decide +kernel) ?_
  obtain ⟨m53, e53, H⟩ := xRun_c H
  have J53 := gg_q (by decide) J52 e53
  refine ow_8 (a1 := 40) (a2 := 0) (a3 := 0) C J52 e53 dL_texts_402 (Nat.le_of_ble_eq_true rfl) ⟨Nat.le_of_ble_eq_true rfl, Nat.le_of_ble_eq_true rfl⟩ ?_ Dp Bt Sq se
  intro Dp Bt Sq se
  refine xi_iload_n C.1 dL_texts_405 rfl 1 rfl ?_
  refine xi_iconst (v := nI 1) C.1 dL_texts_406 (by decide +kernel) ?_
  refine xi_iadd C.1 dL_texts_407 ?_
  refine xb_top (b := nI 41) (by decide +kernel) ?_
  refine xi_icmp_eq (tgt := 413) C.1 dL_texts_408 (by decide) (fun _ => ?_) (fun c => absurd (by decide +kernel) c)
  refine xj_iinc (v := nI 41) (lv2 := [(0, .ref (ad 0)), (1, .int (nI 41))]) C.1 dL_texts_413 1 rfl (by decide +kernel) (by decide) [0] [1, 0] rfl ?_
  refine xi_goto (tgt := 393) C.1 dL_texts_416 (by decide) ?_
  refine xi_iload_n C.1 dL_texts_393 rfl 1 rfl ?_
  refine xi_bipush (v := nI 80) C.1 dL_texts_394 (by decide +kernel) ?_
  refine xi_icmp_ge (tgt := 419) C.1 dL_texts_396 (by decide) (fun c => absurd c (by decide +kernel)) (fun _ => ?_)
  refine xi_aload_n C.1 dL_texts_399 rfl 0 rfl ?_
  refine xi_iload_n C.1 dL_texts_400 rfl 1 rfl ?_
  refine xi_i2c C.1 dL_texts_401 ?_
  refine xb_top (b := nI 41) (by decide +kernel) ?_
  obtain ⟨m54, e54, H⟩ := xRun_c H
  have J54 := gg_q (by decide) J53 e54
  refine ow_8 (a1 := 41) (a2 := 0) (a3 := 0) C J53 e54 dL_texts_402 (Nat.le_of_ble_eq_true rfl) ⟨Nat.le_of_ble_eq_true rfl, Nat.le_of_ble_eq_true rfl⟩ ?_ Dp Bt Sq se
  intro Dp Bt Sq se
  refine xi_iload_n C.1 dL_texts_405 rfl 1 rfl ?_
  refine xi_iconst (v := nI 1) C.1 dL_texts_406 (by decide +kernel) ?_
  refine xi_iadd C.1 dL_texts_407 ?_
  refine xb_top (b := nI 42) (by decide +kernel) ?_
  refine xi_icmp_eq (tgt := 413) C.1 dL_texts_408 (by decide) (fun _ => ?_) (fun c => absurd (by decide +kernel) c)
  refine xj_iinc (v := nI 42) (lv2 := [(0, .ref (ad 0)), (1, .int (nI 42))]) C.1 dL_texts_413 1 rfl (by decide +kernel) (by decide) [0] [1, 0] rfl ?_
  refine xi_goto (tgt := 393) C.1 dL_texts_416 (by decide) ?_
  refine xi_iload_n C.1 dL_texts_393 rfl 1 rfl ?_
  refine xi_bipush (v := nI 80) C.1 dL_texts_394 (by decide +kernel) ?_
  refine xi_icmp_ge (tgt := 419) C.1 dL_texts_396 (by decide) (fun c => absurd c (by decide +kernel)) (fun _ => ?_)
  refine xi_aload_n C.1 dL_texts_399 rfl 0 rfl ?_
  refine xi_iload_n C.1 dL_texts_400 rfl 1 rfl ?_
  refine xi_i2c C.1 dL_texts_401 ?_
  refine xb_top (b := nI 42) (by decide +kernel) ?_
  obtain ⟨m55, e55, H⟩ := xRun_c H
  have J55 := gg_q (by decide) J54 e55
  refine ow_8 (a1 := 42) (a2 := 0) (a3 := 0) C J54 e55 dL_texts_402 (Nat.le_of_ble_eq_true rfl) ⟨Nat.le_of_ble_eq_true rfl, Nat.le_of_ble_eq_true rfl⟩ ?_ Dp Bt Sq se
  intro Dp Bt Sq se
  refine xi_iload_n C.1 dL_texts_405 rfl 1 rfl ?_
  refine xi_iconst (v := nI 1) C.1 dL_texts_406 (by decide +kernel) ?_
  refine xi_iadd C.1 dL_texts_407 ?_
  refine xb_top (b := nI 43) (by decide +kernel) ?_
  refine xi_icmp_eq (tgt := 413) C.1 dL_texts_408 (by decide) (fun _ => ?_) (fun c => absurd (by decide +kernel) c)
  refine xj_iinc (v := nI 43) (lv2 := [(0, .ref (ad 0)), (1, .int (nI 43))]) C.1 dL_texts_413 1 rfl (by decide +kernel) (by decide) [0] [1, 0] rfl ?_
  refine xi_goto (tgt := 393) C.1 dL_texts_416 (by decide) ?_
  refine xi_iload_n C.1 dL_texts_393 rfl 1 rfl ?_
  refine xi_bipush (v := nI 80) C.1 dL_texts_394 (by decide +kernel) ?_
  refine xi_icmp_ge (tgt := 419) C.1 dL_texts_396 (by decide) (fun c => absurd c (by decide +kernel)) (fun _ => ?_)
  refine xi_aload_n C.1 dL_texts_399 rfl 0 rfl ?_
  refine xi_iload_n C.1 dL_texts_400 rfl 1 rfl ?_
  refine xi_i2c C.1 dL_texts_401 ?_
  refine xb_top (b := nI 43) (by decide +kernel) ?_
  obtain ⟨m56, e56, H⟩ := xRun_c H
  have J56 := gg_q (by decide) J55 e56
  refine ow_8 (a1 := 43) (a2 := 0) (a3 := 0) C J55 e56 dL_texts_402 (Nat.le_of_ble_eq_true rfl) ⟨Nat.le_of_ble_eq_true rfl, Nat.le_of_ble_eq_true rfl⟩ ?_ Dp Bt Sq se
  intro Dp Bt Sq se
  refine xi_iload_n C.1 dL_texts_405 rfl 1 rfl ?_
  refine xi_iconst (v := nI 1) C.1 dL_texts_406 (by decide +kernel) ?_
  refine xi_iadd C.1 dL_texts_407 ?_
  refine xb_top (b := nI 44) (by decide +kernel) ?_
  refine xi_icmp_eq (tgt := 413) C.1 dL_texts_408 (by decide) (fun _ => ?_) (fun c => absurd (by decide +kernel) c)
  refine xj_iinc (v := nI 44) (lv2 := [(0, .ref (ad 0)), (1, .int (nI 44))]) C.1 dL_texts_413 1 rfl (by decide +kernel) (by decide) [0] [1, 0] rfl ?_
  refine xi_goto (tgt := 393) C.1 dL_texts_416 (by decide) ?_
  refine xi_iload_n C.1 dL_texts_393 rfl 1 rfl ?_
  refine xi_bipush (v := nI 80) C.1 dL_texts_394 (by decide +kernel) ?_
  refine xi_icmp_ge (tgt := 419) C.1 dL_texts_396 (by decide) (fun c => absurd c (by decide +kernel)) (fun _ => ?_)
  refine xi_aload_n C.1 dL_texts_399 rfl 0 rfl ?_
  refine xi_iload_n C.1 dL_texts_400 rfl 1 rfl ?_
  refine xi_i2c C.1 dL_texts_401 ?_
  refine xb_top (b := nI 44) (by decide +kernel) ?_
  obtain ⟨m57, e57, H⟩ := xRun_c H
  have J57 := gg_q (by decide) J56 e57
  refine ow_8 (a1 := 44) (a2 := 0) (a3 := 0) C J56 e57 dL_texts_402 (Nat.le_of_ble_eq_true rfl) ⟨Nat.le_of_ble_eq_true rfl, Nat.le_of_ble_eq_true rfl⟩ ?_ Dp Bt Sq se
  intro Dp Bt Sq se
  refine xi_iload_n C.1 dL_texts_405 rfl 1 rfl ?_
  refine xi_iconst (v := nI 1) C.1 dL_texts_406 (by decide +kernel) ?_
  refine xi_iadd C.1 dL_texts_407 ?_
  refine xb_top (b := nI 45) (by decide +kernel) ?_
  refine xi_icmp_eq (tgt := 413) C.1 dL_texts_408 (by decide) (fun _ => ?_) (fun c => absurd (by decide +kernel) c)
  refine xj_iinc (v := nI 45) (lv2 := [(0, .ref (ad 0)), (1, .int (nI 45))]) C.1 dL_texts_413 1 rfl (by decide +kernel) (by decide) [0] [1, 0] rfl ?_
  refine xi_goto (tgt := 393) C.1 dL_texts_416 (by decide) ?_
  refine xi_iload_n C.1 dL_texts_393 rfl 1 rfl ?_
  refine xi_bipush (v := nI 80) C.1 dL_texts_394 (by decide +kernel) ?_
  refine xi_icmp_ge (tgt := 419) C.1 dL_texts_396 (by decide) (fun c => absurd c (by decide +kernel)) (fun _ => ?_)
  refine xi_aload_n C.1 dL_texts_399 rfl 0 rfl ?_
  refine xi_iload_n C.1 dL_texts_400 rfl 1 rfl ?_
  refine xi_i2c C.1 dL_texts_401 ?_
  refine xb_top (b := nI 45) (by decide +kernel) ?_
  obtain ⟨m58, e58, H⟩ := xRun_c H
  have J58 := gg_q (by decide) J57 e58
  refine ow_8 (a1 := 45) (a2 := 0) (a3 := 0) C J57 e58 dL_texts_402 (Nat.le_of_ble_eq_true rfl) ⟨Nat.le_of_ble_eq_true rfl, Nat.le_of_ble_eq_true rfl⟩ ?_ Dp Bt Sq se
  intro Dp Bt Sq se
  refine xi_iload_n C.1 dL_texts_405 rfl 1 rfl ?_
  refine xi_iconst (v := nI 1) C.1 dL_texts_406 (by decide +kernel) ?_
  refine xi_iadd C.1 dL_texts_407 ?_
  refine xb_top (b := nI 46) (by decide +kernel) ?_
  refine xi_icmp_eq (tgt := 413) C.1 dL_texts_408 (by decide) (fun _ => ?_) (fun c => absurd (by decide +kernel) c)
  refine xj_iinc (v := nI 46) (lv2 := [(0, .ref (ad 0)), (1, .int (nI 46))]) C.1 dL_texts_413 1 rfl (by decide +kernel) (by decide) [0] [1, 0] rfl ?_
  refine xi_goto (tgt := 393) C.1 dL_texts_416 (by decide) ?_
  refine xi_iload_n C.1 dL_texts_393 rfl 1 rfl ?_
  refine xi_bipush (v := nI 80) C.1 dL_texts_394 (by decide +kernel) ?_
  refine xi_icmp_ge (tgt := 419) C.1 dL_texts_396 (by decide) (fun c => absurd c (by decide +kernel)) (fun _ => ?_)
  refine xi_aload_n C.1 dL_texts_399 rfl 0 rfl ?_
  refine xi_iload_n C.1 dL_texts_400 rfl 1 rfl ?_
  refine xi_i2c C.1 dL_texts_401 ?_
  refine xb_top (b := nI 46) (by decide +kernel) ?_
  obtain ⟨m59, e59, H⟩ := xRun_c H
  have J59 := gg_q (by decide) J58 e59
  refine ow_8 (a1 := 46) (a2 := 0) (a3 := 0) C J58 e59 dL_texts_402 (Nat.le_of_ble_eq_true rfl) ⟨Nat.le_of_ble_eq_true rfl, Nat.le_of_ble_eq_true rfl⟩ ?_ Dp Bt Sq se
  intro Dp Bt Sq se
  refine xi_iload_n C.1 dL_texts_405 rfl 1 rfl ?_
  refine xi_iconst (v := nI 1) C.1 dL_texts_406 (by decide +kernel) ?_
  refine xi_iadd C.1 dL_texts_407 ?_
  refine xb_top (b := nI 47) (by decide +kernel) ?_
  refine xi_icmp_eq (tgt := 413) C.1 dL_texts_408 (by decide) (fun _ => ?_) (fun c => absurd (by decide +kernel) c)
  refine xj_iinc (v := nI 47) (lv2 := [(0, .ref (ad 0)), (1, .int (nI 47))]) C.1 dL_texts_413 1 rfl (by decide +kernel) (by decide) [0] [1, 0] rfl ?_
  refine xi_goto (tgt := 393) C.1 dL_texts_416 (by decide) ?_
  refine xi_iload_n C.1 dL_texts_393 rfl 1 rfl ?_
  refine xi_bipush (v := nI 80) C.1 dL_texts_394 (by decide +kernel) ?_
  refine xi_icmp_ge (tgt := 419) C.1 dL_texts_396 (by decide) (fun c => absurd c (by decide +kernel)) (fun _ => ?_)
  refine xi_aload_n C.1 dL_texts_399 rfl 0 rfl ?_
  refine xi_iload_n C.1 dL_texts_400 rfl 1 rfl ?_
  refine xi_i2c C.1 dL_texts_401 ?_
  refine xb_top (b := nI 47) (by decide +kernel) ?_
  obtain ⟨m60, e60, H⟩ := xRun_c H
  have J60 := gg_q (by decide) J59 e60
  refine ow_8 (a1 := 47) (a2 := 0) (a3 := 0) C J59 e60 dL_texts_402 (Nat.le_of_ble_eq_true rfl) ⟨Nat.le_of_ble_eq_true rfl, Nat.le_of_ble_eq_true rfl⟩ ?_ Dp Bt Sq se
  intro Dp Bt Sq se
  refine xi_iload_n C.1 dL_texts_405 rfl 1 rfl ?_
  refine xi_iconst (v := nI 1) C.1 dL_texts_406 (by decide +kernel) ?_
  refine xi_iadd C.1 dL_texts_407 ?_
  refine xb_top (b := nI 48) (by decide +kernel) ?_
  refine xi_icmp_eq (tgt := 413) C.1 dL_texts_408 (by decide) (fun _ => ?_) (fun c => absurd (by decide +kernel) c)
  refine xj_iinc (v := nI 48) (lv2 := [(0, .ref (ad 0)), (1, .int (nI 48))]) C.1 dL_texts_413 1 rfl (by decide +kernel) (by decide) [0] [1, 0] rfl ?_
  refine xi_goto (tgt := 393) C.1 dL_texts_416 (by decide) ?_
  refine xi_iload_n C.1 dL_texts_393 rfl 1 rfl ?_
  refine xi_bipush (v := nI 80) C.1 dL_texts_394 (by decide +kernel) ?_
  refine xi_icmp_ge (tgt := 419) C.1 dL_texts_396 (by decide) (fun c => absurd c (by decide +kernel)) (fun _ => ?_)
  refine xi_aload_n C.1 dL_texts_399 rfl 0 rfl ?_
  refine xi_iload_n C.1 dL_texts_400 rfl 1 rfl ?_
  refine xi_i2c C.1 dL_texts_401 ?_
  refine xb_top (b := nI 48) (by decide +kernel) ?_
  obtain ⟨m61, e61, H⟩ := xRun_c H
  have J61 := gg_q (by decide) J60 e61
  refine ow_8 (a1 := 48) (a2 := 0) (a3 := 0) C J60 e61 dL_texts_402 (Nat.le_of_ble_eq_true rfl) ⟨Nat.le_of_ble_eq_true rfl, Nat.le_of_ble_eq_true rfl⟩ ?_ Dp Bt Sq se
  intro Dp Bt Sq se
  refine xi_iload_n C.1 dL_texts_405 rfl 1 rfl ?_
  refine xi_iconst (v := nI 1) C.1 dL_texts_406 (by decide +kernel) ?_
  refine xi_iadd C.1 dL_texts_407 ?_
  refine xb_top (b := nI 49) (by decide +kernel) ?_
  refine xi_icmp_eq (tgt := 413) C.1 dL_texts_408 (by decide) (fun _ => ?_) (fun c => absurd (by decide +kernel) c)
  refine xj_iinc (v := nI 49) (lv2 := [(0, .ref (ad 0)), (1, .int (nI 49))]) C.1 dL_texts_413 1 rfl (by decide +kernel) (by decide) [0] [1, 0] rfl ?_
  refine xi_goto (tgt := 393) C.1 dL_texts_416 (by decide) ?_
  refine xi_iload_n C.1 dL_texts_393 rfl 1 rfl ?_
  refine xi_bipush (v := nI 80) C.1 dL_texts_394 (by decide +kernel) ?_
  refine xi_icmp_ge (tgt := 419) C.1 dL_texts_396 (by decide) (fun c => absurd c (by decide +kernel)) (fun _ => ?_)
  refine xi_aload_n C.1 dL_texts_399 rfl 0 rfl ?_
  refine xi_iload_n C.1 dL_texts_400 rfl 1 rfl ?_
  refine xi_i2c C.1 dL_texts_401 ?_
  refine xb_top (b := nI 49) (by decide +kernel) ?_
  obtain ⟨m62, e62, H⟩ := xRun_c H
  have J62 := gg_q (by decide) J61 e62
  refine ow_8 (a1 := 49) (a2 := 0) (a3 := 0) C J61 e62 dL_texts_402 (Nat.le_of_ble_eq_true rfl) ⟨Nat.le_of_ble_eq_true rfl, Nat.le_of_ble_eq_true rfl⟩ ?_ Dp Bt Sq se
  intro Dp Bt Sq se
  refine xi_iload_n C.1 dL_texts_405 rfl 1 rfl ?_
  refine xi_iconst (v := nI 1) C.1 dL_texts_406 (by decide +kernel) ?_
  refine xi_iadd C.1 dL_texts_407 ?_
  refine xb_top (b := nI 50) (by decide +kernel) ?_
  refine xi_icmp_eq (tgt := 413) C.1 dL_texts_408 (by decide) (fun _ => ?_) (fun c => absurd (by decide +kernel) c)
  refine xj_iinc (v := nI 50) (lv2 := [(0, .ref (ad 0)), (1, .int (nI 50))]) C.1 dL_texts_413 1 rfl (by decide +kernel) (by decide) [0] [1, 0] rfl ?_
  refine xi_goto (tgt := 393) C.1 dL_texts_416 (by decide) ?_
  refine xi_iload_n C.1 dL_texts_393 rfl 1 rfl ?_
  refine xi_bipush (v := nI 80) C.1 dL_texts_394 (by decide +kernel) ?_
  refine xi_icmp_ge (tgt := 419) C.1 dL_texts_396 (by decide) (fun c => absurd c (by decide +kernel)) (fun _ => ?_)
  refine xi_aload_n C.1 dL_texts_399 rfl 0 rfl ?_
  refine xi_iload_n C.1 dL_texts_400 rfl 1 rfl ?_
  refine xi_i2c C.1 dL_texts_401 ?_
  refine xb_top (b := nI 50) (by decide +kernel) ?_
  obtain ⟨m63, e63, H⟩ := xRun_c H
  have J63 := gg_q (by decide) J62 e63
  refine ow_8 (a1 := 50) (a2 := 0) (a3 := 0) C J62 e63 dL_texts_402 (Nat.le_of_ble_eq_true rfl) ⟨Nat.le_of_ble_eq_true rfl, Nat.le_of_ble_eq_true rfl⟩ ?_ Dp Bt Sq se
  intro Dp Bt Sq se
  refine xi_iload_n C.1 dL_texts_405 rfl 1 rfl ?_
  refine xi_iconst (v := nI 1) C.1 dL_texts_406 (by decide +kernel) ?_
  refine xi_iadd C.1 dL_texts_407 ?_
  refine xb_top (b := nI 51) (by decide +kernel) ?_
  refine xi_icmp_eq (tgt := 413) C.1 dL_texts_408 (by decide) (fun _ => ?_) (fun c => absurd (by decide +kernel) c)
  refine xj_iinc (v := nI 51) (lv2 := [(0, .ref (ad 0)), (1, .int (nI 51))]) C.1 dL_texts_413 1 rfl (by decide +kernel) (by decide) [0] [1, 0] rfl ?_
  refine xi_goto (tgt := 393) C.1 dL_texts_416 (by decide) ?_
  refine xi_iload_n C.1 dL_texts_393 rfl 1 rfl ?_
  refine xi_bipush (v := nI 80) C.1 dL_texts_394 (by decide +kernel) ?_
  refine xi_icmp_ge (tgt := 419) C.1 dL_texts_396 (by decide) (fun c => absurd c (by decide +kernel)) (fun _ => ?_)
  refine xi_aload_n C.1 dL_texts_399 rfl 0 rfl ?_
  refine xi_iload_n C.1 dL_texts_400 rfl 1 rfl ?_
  refine xi_i2c C.1 dL_texts_401 ?_
  refine xb_top (b := nI 51) (by decide +kernel) ?_
  obtain ⟨m64, e64, H⟩ := xRun_c H
  have J64 := gg_q (by decide) J63 e64
  refine ow_8 (a1 := 51) (a2 := 0) (a3 := 0) C J63 e64 dL_texts_402 (Nat.le_of_ble_eq_true rfl) ⟨Nat.le_of_ble_eq_true rfl, Nat.le_of_ble_eq_true rfl⟩ ?_ Dp Bt Sq se
  intro Dp Bt Sq se
  refine xi_iload_n C.1 dL_texts_405 rfl 1 rfl ?_
  refine xi_iconst (v := nI 1) C.1 dL_texts_406 (by decide +kernel) ?_
  refine xi_iadd C.1 dL_texts_407 ?_
  refine xb_top (b := nI 52) (by decide +kernel) ?_
  refine xi_icmp_eq (tgt := 413) C.1 dL_texts_408 (by decide) (fun _ => ?_) (fun c => absurd (by decide +kernel) c)
  refine xj_iinc (v := nI 52) (lv2 := [(0, .ref (ad 0)), (1, .int (nI 52))]) C.1 dL_texts_413 1 rfl (by decide +kernel) (by decide) [0] [1, 0] rfl ?_
  refine xi_goto (tgt := 393) C.1 dL_texts_416 (by decide) ?_
  refine xi_iload_n C.1 dL_texts_393 rfl 1 rfl ?_
  refine xi_bipush (v := nI 80) C.1 dL_texts_394 (by decide +kernel) ?_
  refine xi_icmp_ge (tgt := 419) C.1 dL_texts_396 (by decide) (fun c => absurd c (by decide +kernel)) (fun _ => ?_)
  refine xi_aload_n C.1 dL_texts_399 rfl 0 rfl ?_
  refine xi_iload_n C.1 dL_texts_400 rfl 1 rfl ?_
  refine xi_i2c C.1 dL_texts_401 ?_
  refine xb_top (b := nI 52) (by decide +kernel) ?_
  obtain ⟨m65, e65, H⟩ := xRun_c H
  have J65 := gg_q (by decide) J64 e65
  refine ow_8 (a1 := 52) (a2 := 0) (a3 := 0) C J64 e65 dL_texts_402 (Nat.le_of_ble_eq_true rfl) ⟨Nat.le_of_ble_eq_true rfl, Nat.le_of_ble_eq_true rfl⟩ ?_ Dp Bt Sq se
  intro Dp Bt Sq se
  refine xi_iload_n C.1 dL_texts_405 rfl 1 rfl ?_
  refine xi_iconst (v := nI 1) C.1 dL_texts_406 (by decide +kernel) ?_
  refine xi_iadd C.1 dL_texts_407 ?_
  refine xb_top (b := nI 53) (by decide +kernel) ?_
  refine xi_icmp_eq (tgt := 413) C.1 dL_texts_408 (by decide) (fun _ => ?_) (fun c => absurd (by decide +kernel) c)
  refine xj_iinc (v := nI 53) (lv2 := [(0, .ref (ad 0)), (1, .int (nI 53))]) C.1 dL_texts_413 1 rfl (by decide +kernel) (by decide) [0] [1, 0] rfl ?_
  refine xi_goto (tgt := 393) C.1 dL_texts_416 (by decide) ?_
  refine xi_iload_n C.1 dL_texts_393 rfl 1 rfl ?_
  refine xi_bipush (v := nI 80) C.1 dL_texts_394 (by decide +kernel) ?_
  refine xi_icmp_ge (tgt := 419) C.1 dL_texts_396 (by decide) (fun c => absurd c (by decide +kernel)) (fun _ => ?_)
  refine xi_aload_n C.1 dL_texts_399 rfl 0 rfl ?_
  refine xi_iload_n C.1 dL_texts_400 rfl 1 rfl ?_
  refine xi_i2c C.1 dL_texts_401 ?_
  refine xb_top (b := nI 53) (by decide +kernel) ?_
  obtain ⟨m66, e66, H⟩ := xRun_c H
  have J66 := gg_q (by decide) J65 e66
  refine ow_8 (a1 := 53) (a2 := 0) (a3 := 0) C J65 e66 dL_texts_402 (Nat.le_of_ble_eq_true rfl) ⟨Nat.le_of_ble_eq_true rfl, Nat.le_of_ble_eq_true rfl⟩ ?_ Dp Bt Sq se
  intro Dp Bt Sq se
  refine xi_iload_n C.1 dL_texts_405 rfl 1 rfl ?_
  refine xi_iconst (v := nI 1) C.1 dL_texts_406 (by decide +kernel) ?_
  refine xi_iadd C.1 dL_texts_407 ?_
  refine xb_top (b := nI 54) (by decide +kernel) ?_
  refine xi_icmp_eq (tgt := 413) C.1 dL_texts_408 (by decide) (fun _ => ?_) (fun c => absurd (by decide +kernel) c)
  refine xj_iinc (v := nI 54) (lv2 := [(0, .ref (ad 0)), (1, .int (nI 54))]) C.1 dL_texts_413 1 rfl (by decide +kernel) (by decide) [0] [1, 0] rfl ?_
  refine xi_goto (tgt := 393) C.1 dL_texts_416 (by decide) ?_
  refine xi_iload_n C.1 dL_texts_393 rfl 1 rfl ?_
  refine xi_bipush (v := nI 80) C.1 dL_texts_394 (by decide +kernel) ?_
  refine xi_icmp_ge (tgt := 419) C.1 dL_texts_396 (by decide) (fun c => absurd c (by decide +kernel)) (fun _ => ?_)
  refine xi_aload_n C.1 dL_texts_399 rfl 0 rfl ?_
  refine xi_iload_n C.1 dL_texts_400 rfl 1 rfl ?_
  refine xi_i2c C.1 dL_texts_401 ?_
  refine xb_top (b := nI 54) (by decide +kernel) ?_
  obtain ⟨m67, e67, H⟩ := xRun_c H
  have J67 := gg_q (by decide) J66 e67
  refine ow_8 (a1 := 54) (a2 := 0) (a3 := 0) C J66 e67 dL_texts_402 (Nat.le_of_ble_eq_true rfl) ⟨Nat.le_of_ble_eq_true rfl, Nat.le_of_ble_eq_true rfl⟩ ?_ Dp Bt Sq se
  intro Dp Bt Sq se
  refine xi_iload_n C.1 dL_texts_405 rfl 1 rfl ?_
  refine xi_iconst (v := nI 1) C.1 dL_texts_406 (by decide +kernel) ?_
  refine xi_iadd C.1 dL_texts_407 ?_
  refine xb_top (b := nI 55) (by decide +kernel) ?_
  refine xi_icmp_eq (tgt := 413) C.1 dL_texts_408 (by decide) (fun _ => ?_) (fun c => absurd (by decide +kernel) c)
  refine xj_iinc (v := nI 55) (lv2 := [(0, .ref (ad 0)), (1, .int (nI 55))]) C.1 dL_texts_413 1 rfl (by decide +kernel) (by decide) [0] [1, 0] rfl ?_
  refine xi_goto (tgt := 393) C.1 dL_texts_416 (by decide) ?_
  refine xi_iload_n C.1 dL_texts_393 rfl 1 rfl ?_
  refine xi_bipush (v := nI 80) C.1 dL_texts_394 (by decide +kernel) ?_
  refine xi_icmp_ge (tgt := 419) C.1 dL_texts_396 (by decide) (fun c => absurd c (by decide +kernel)) (fun _ => ?_)
  refine xi_aload_n C.1 dL_texts_399 rfl 0 rfl ?_
  refine xi_iload_n C.1 dL_texts_400 rfl 1 rfl ?_
  refine xi_i2c C.1 dL_texts_401 ?_
  refine xb_top (b := nI 55) (by decide +kernel) ?_
  obtain ⟨m68, e68, H⟩ := xRun_c H
  have J68 := gg_q (by decide) J67 e68
  refine ow_8 (a1 := 55) (a2 := 0) (a3 := 0) C J67 e68 dL_texts_402 (Nat.le_of_ble_eq_true rfl) ⟨Nat.le_of_ble_eq_true rfl, Nat.le_of_ble_eq_true rfl⟩ ?_ Dp Bt Sq se
  intro Dp Bt Sq se
  refine xi_iload_n C.1 dL_texts_405 rfl 1 rfl ?_
  refine xi_iconst (v := nI 1) C.1 dL_texts_406 (by decide +kernel) ?_
  refine xi_iadd C.1 dL_texts_407 ?_
  refine xb_top (b := nI 56) (by decide +kernel) ?_
  refine xi_icmp_eq (tgt := 413) C.1 dL_texts_408 (by decide) (fun _ => ?_) (fun c => absurd (by decide +kernel) c)
  refine xj_iinc (v := nI 56) (lv2 := [(0, .ref (ad 0)), (1, .int (nI 56))]) C.1 dL_texts_413 1 rfl (by decide +kernel) (by decide) [0] [1, 0] rfl ?_
  refine xi_goto (tgt := 393) C.1 dL_texts_416 (by decide) ?_
  refine xi_iload_n C.1 dL_texts_393 rfl 1 rfl ?_
  refine xi_bipush (v := nI 80) C.1 dL_texts_394 (by decide +kernel) ?_
  refine xi_icmp_ge (tgt := 419) C.1 dL_texts_396 (by decide) (fun c => absurd c (by decide +kernel)) (fun _ => ?_)
  refine xi_aload_n C.1 dL_texts_399 rfl 0 rfl ?_
  refine xi_iload_n C.1 dL_texts_400 rfl 1 rfl ?_
  refine xi_i2c C.1 dL_texts_401 ?_
  refine xb_top (b := nI 56) (by decide +kernel) ?_
  obtain ⟨m69, e69, H⟩ := xRun_c H
  have J69 := gg_q (by decide) J68 e69
  refine ow_8 (a1 := 56) (a2 := 0) (a3 := 0) C J68 e69 dL_texts_402 (Nat.le_of_ble_eq_true rfl) ⟨Nat.le_of_ble_eq_true rfl, Nat.le_of_ble_eq_true rfl⟩ ?_ Dp Bt Sq se
  intro Dp Bt Sq se
  refine xi_iload_n C.1 dL_texts_405 rfl 1 rfl ?_
  refine xi_iconst (v := nI 1) C.1 dL_texts_406 (by decide +kernel) ?_
  refine xi_iadd C.1 dL_texts_407 ?_
  refine xb_top (b := nI 57) (by decide +kernel) ?_
  refine xi_icmp_eq (tgt := 413) C.1 dL_texts_408 (by decide) (fun _ => ?_) (fun c => absurd (by decide +kernel) c)
  refine xj_iinc (v := nI 57) (lv2 := [(0, .ref (ad 0)), (1, .int (nI 57))]) C.1 dL_texts_413 1 rfl (by decide +kernel) (by decide) [0] [1, 0] rfl ?_
  refine xi_goto (tgt := 393) C.1 dL_texts_416 (by decide) ?_
  refine xi_iload_n C.1 dL_texts_393 rfl 1 rfl ?_
  refine xi_bipush (v := nI 80) C.1 dL_texts_394 (by decide +kernel) ?_
  refine xi_icmp_ge (tgt := 419) C.1 dL_texts_396 (by decide) (fun c => absurd c (by decide +kernel)) (fun _ => ?_)
  refine xi_aload_n C.1 dL_texts_399 rfl 0 rfl ?_
  refine xi_iload_n C.1 dL_texts_400 rfl 1 rfl ?_
  refine xi_i2c C.1 dL_texts_401 ?_
  refine xb_top (b := nI 57) (by decide +kernel) ?_
  obtain ⟨m70, e70, H⟩ := xRun_c H
  have J70 := gg_q (by decide) J69 e70
  refine ow_8 (a1 := 57) (a2 := 0) (a3 := 0) C J69 e70 dL_texts_402 (Nat.le_of_ble_eq_true rfl) ⟨Nat.le_of_ble_eq_true rfl, Nat.le_of_ble_eq_true rfl⟩ ?_ Dp Bt Sq se
  intro Dp Bt Sq se
  refine xi_iload_n C.1 dL_texts_405 rfl 1 rfl ?_
  refine xi_iconst (v := nI 1) C.1 dL_texts_406 (by decide +kernel) ?_
  refine xi_iadd C.1 dL_texts_407 ?_
  refine xb_top (b := nI 58) (by decide +kernel) ?_
  refine xi_icmp_eq (tgt := 413) C.1 dL_texts_408 (by decide) (fun _ => ?_) (fun c => absurd (by decide +kernel) c)
  refine xj_iinc (v := nI 58) (lv2 := [(0, .ref (ad 0)), (1, .int (nI 58))]) C.1 dL_texts_413 1 rfl (by decide +kernel) (by decide) [0] [1, 0] rfl ?_
  refine xi_goto (tgt := 393) C.1 dL_texts_416 (by decide) ?_
  refine xi_iload_n C.1 dL_texts_393 rfl 1 rfl ?_
  refine xi_bipush (v := nI 80) C.1 dL_texts_394 (by decide +kernel) ?_
  refine xi_icmp_ge (tgt := 419) C.1 dL_texts_396 (by decide) (fun c => absurd c (by decide +kernel)) (fun _ => ?_)
  refine xi_aload_n C.1 dL_texts_399 rfl 0 rfl ?_
  refine xi_iload_n C.1 dL_texts_400 rfl 1 rfl ?_
  refine xi_i2c C.1 dL_texts_401 ?_
  refine xb_top (b := nI 58) (by decide +kernel) ?_
  obtain ⟨m71, e71, H⟩ := xRun_c H
  have J71 := gg_q (by decide) J70 e71
  refine ow_8 (a1 := 58) (a2 := 0) (a3 := 0) C J70 e71 dL_texts_402 (Nat.le_of_ble_eq_true rfl) ⟨Nat.le_of_ble_eq_true rfl, Nat.le_of_ble_eq_true rfl⟩ ?_ Dp Bt Sq se
  intro Dp Bt Sq se
  refine xi_iload_n C.1 dL_texts_405 rfl 1 rfl ?_
  refine xi_iconst (v := nI 1) C.1 dL_texts_406 (by decide +kernel) ?_
  refine xi_iadd C.1 dL_texts_407 ?_
  refine xb_top (b := nI 59) (by decide +kernel) ?_
  refine xi_icmp_eq (tgt := 413) C.1 dL_texts_408 (by decide) (fun _ => ?_) (fun c => absurd (by decide +kernel) c)
  refine xj_iinc (v := nI 59) (lv2 := [(0, .ref (ad 0)), (1, .int (nI 59))]) C.1 dL_texts_413 1 rfl (by decide +kernel) (by decide) [0] [1, 0] rfl ?_
  refine xi_goto (tgt := 393) C.1 dL_texts_416 (by decide) ?_
  refine xi_iload_n C.1 dL_texts_393 rfl 1 rfl ?_
  refine xi_bipush (v := nI 80) C.1 dL_texts_394 (by decide +kernel) ?_
  refine xi_icmp_ge (tgt := 419) C.1 dL_texts_396 (by decide) (fun c => absurd c (by decide +kernel)) (fun _ => ?_)
  refine xi_aload_n C.1 dL_texts_399 rfl 0 rfl ?_
  refine xi_iload_n C.1 dL_texts_400 rfl 1 rfl ?_
  refine xi_i2c C.1 dL_texts_401 ?_
  refine xb_top (b := nI 59) (by decide +kernel) ?_
  obtain ⟨m72, e72, H⟩ := xRun_c H
  have J72 := gg_q (by decide) J71 e72
  refine ow_8 (a1 := 59) (a2 := 0) (a3 := 0) C J71 e72 dL_texts_402 (Nat.le_of_ble_eq_true rfl) ⟨Nat.le_of_ble_eq_true rfl, Nat.le_of_ble_eq_true rfl⟩ ?_ Dp Bt Sq se
  intro Dp Bt Sq se
  refine xi_iload_n C.1 dL_texts_405 rfl 1 rfl ?_
  refine xi_iconst (v := nI 1) C.1 dL_texts_406 (by decide +kernel) ?_
  refine xi_iadd C.1 dL_texts_407 ?_
  refine xb_top (b := nI 60) (by decide +kernel) ?_
  refine xi_icmp_eq (tgt := 413) C.1 dL_texts_408 (by decide) (fun _ => ?_) (fun c => absurd (by decide +kernel) c)
  refine xj_iinc (v := nI 60) (lv2 := [(0, .ref (ad 0)), (1, .int (nI 60))]) C.1 dL_texts_413 1 rfl (by decide +kernel) (by decide) [0] [1, 0] rfl ?_
  refine xi_goto (tgt := 393) C.1 dL_texts_416 (by decide) ?_
  refine xi_iload_n C.1 dL_texts_393 rfl 1 rfl ?_
  refine xi_bipush (v := nI 80) C.1 dL_texts_394 (by decide +kernel) ?_
  refine xi_icmp_ge (tgt := 419) C.1 dL_texts_396 (by decide) (fun c => absurd c (by decide +kernel)) (fun _ => ?_)
  refine xi_aload_n C.1 dL_texts_399 rfl 0 rfl ?_
  refine xi_iload_n C.1 dL_texts_400 rfl 1 rfl ?_
  refine xi_i2c C.1 dL_texts_401 ?_
  refine xb_top (b := nI 60) (by decide +kernel) ?_
  obtain ⟨m73, e73, H⟩ := xRun_c H
  have J73 := gg_q (by decide) J72 e73
  refine ow_8 (a1 := 60) (a2 := 0) (a3 := 0) C J72 e73 dL_texts_402 (Nat.le_of_ble_eq_true rfl) ⟨Nat.le_of_ble_eq_true rfl, Nat.le_of_ble_eq_true rfl⟩ ?_ Dp Bt Sq se
  intro Dp Bt Sq se
  refine xi_iload_n C.1 dL_texts_405 rfl 1 rfl ?_
  refine xi_iconst (v := nI 1) C.1 dL_texts_406 (by decide +kernel) ?_
  refine xi_iadd C.1 dL_texts_407 ?_
  refine xb_top (b := nI 61) (by decide +kernel) ?_
  refine xi_icmp_eq (tgt := 413) C.1 dL_texts_408 (by decide) (fun _ => ?_) (fun c => absurd (by decide +kernel) c)
  refine xj_iinc (v := nI 61) (lv2 := [(0, .ref (ad 0)), (1, .int (nI 61))]) C.1 dL_texts_413 1 rfl (by decide +kernel) (by decide) [0] [1, 0] rfl ?_
  refine xi_goto (tgt := 393) C.1 dL_texts_416 (by decide) ?_
  refine xi_iload_n C.1 dL_texts_393 rfl 1 rfl ?_
  refine xi_bipush (v := nI 80) C.1 dL_texts_394 (by decide +kernel) ?_
  refine xi_icmp_ge (tgt := 419) C.1 dL_texts_396 (by decide) (fun c => absurd c (by decide +kernel)) (fun _ => ?_)
  refine xi_aload_n C.1 dL_texts_399 rfl 0 rfl ?_
  refine xi_iload_n C.1 dL_texts_400 rfl 1 rfl ?_
  refine xi_i2c C.1 dL_texts_401 ?_
  refine xb_top (b := nI 61) (by decide +kernel) ?_
  obtain ⟨m74, e74, H⟩ := xRun_c H
  have J74 := gg_q (by decide) J73 e74
  refine ow_8 (a1 := 61) (a2 := 0) (a3 := 0) C J73 e74 dL_texts_402 (Nat.le_of_ble_eq_true rfl) ⟨Nat.le_of_ble_eq_true rfl, Nat.le_of_ble_eq_true rfl⟩ ?_ Dp Bt Sq se
  intro Dp Bt Sq se
  refine xi_iload_n C.1 dL_texts_405 rfl 1 rfl ?_
  refine xi_iconst (v := nI 1) C.1 dL_texts_406 (by decide +kernel) ?_
  refine xi_iadd C.1 dL_texts_407 ?_
  refine xb_top (b := nI 62) (by decide +kernel) ?_
  refine xi_icmp_eq (tgt := 413) C.1 dL_texts_408 (by decide) (fun _ => ?_) (fun c => absurd (by decide +kernel) c)
  refine xj_iinc (v := nI 62) (lv2 := [(0, .ref (ad 0)), (1, .int (nI 62))]) C.1 dL_texts_413 1 rfl (by decide +kernel) (by decide) [0] [1, 0] rfl ?_
  refine xi_goto (tgt := 393) C.1 dL_texts_416 (by decide) ?_
  refine xi_iload_n C.1 dL_texts_393 rfl 1 rfl ?_
  refine xi_bipush (v := nI 80) C.1 dL_texts_394 (by decide +kernel) ?_
  refine xi_icmp_ge (tgt := 419) C.1 dL_texts_396 (by decide) (fun c => absurd c (by decide +kernel)) (fun _ => ?_)
  refine xi_aload_n C.1 dL_texts_399 rfl 0 rfl ?_
  refine xi_iload_n C.1 dL_texts_400 rfl 1 rfl ?_
  refine xi_i2c C.1 dL_texts_401 ?_
  refine xb_top (b := nI 62) (by decide +kernel) ?_
  obtain ⟨m75, e75, H⟩ := xRun_c H
  have J75 := gg_q (by decide) J74 e75
  refine ow_8 (a1 := 62) (a2 := 0) (a3 := 0) C J74 e75 dL_texts_402 (Nat.le_of_ble_eq_true rfl) ⟨Nat.le_of_ble_eq_true rfl, Nat.le_of_ble_eq_true rfl⟩ ?_ Dp Bt Sq se
  intro Dp Bt Sq se
  refine xi_iload_n C.1 dL_texts_405 rfl 1 rfl ?_
  refine xi_iconst (v := nI 1) C.1 dL_texts_406 (by decide +kernel) ?_
  refine xi_iadd C.1 dL_texts_407 ?_
  refine xb_top (b := nI 63) (by decide +kernel) ?_
  refine xi_icmp_eq (tgt := 413) C.1 dL_texts_408 (by decide) (fun _ => ?_) (fun c => absurd (by decide +kernel) c)
  refine xj_iinc (v := nI 63) (lv2 := [(0, .ref (ad 0)), (1, .int (nI 63))]) C.1 dL_texts_413 1 rfl (by decide +kernel) (by decide) [0] [1, 0] rfl ?_
  refine xi_goto (tgt := 393) C.1 dL_texts_416 (by decide) ?_
  refine xi_iload_n C.1 dL_texts_393 rfl 1 rfl ?_
  refine xi_bipush (v := nI 80) C.1 dL_texts_394 (by decide +kernel) ?_
  refine xi_icmp_ge (tgt := 419) C.1 dL_texts_396 (by decide) (fun c => absurd c (by decide +kernel)) (fun _ => ?_)
  refine xi_aload_n C.1 dL_texts_399 rfl 0 rfl ?_
  refine xi_iload_n C.1 dL_texts_400 rfl 1 rfl ?_
  refine xi_i2c C.1 dL_texts_401 ?_
  refine xb_top (b := nI 63) (by decide +kernel) ?_
  obtain ⟨m76, e76, H⟩ := xRun_c H
  have J76 := gg_q (by decide) J75 e76
  refine ow_8 (a1 := 63) (a2 := 0) (a3 := 0) C J75 e76 dL_texts_402 (Nat.le_of_ble_eq_true rfl) ⟨Nat.le_of_ble_eq_true rfl, Nat.le_of_ble_eq_true rfl⟩ ?_ Dp Bt Sq se
  intro Dp Bt Sq se
  refine xi_iload_n C.1 dL_texts_405 rfl 1 rfl ?_
  refine xi_iconst (v := nI 1) C.1 dL_texts_406 (by decide +kernel) ?_
  refine xi_iadd C.1 dL_texts_407 ?_
  refine xb_top (b := nI 64) (by decide +kernel) ?_
  refine xi_icmp_eq (tgt := 413) C.1 dL_texts_408 (by decide) (fun _ => ?_) (fun c => absurd (by decide +kernel) c)
  refine xj_iinc (v := nI 64) (lv2 := [(0, .ref (ad 0)), (1, .int (nI 64))]) C.1 dL_texts_413 1 rfl (by decide +kernel) (by decide) [0] [1, 0] rfl ?_
  refine xi_goto (tgt := 393) C.1 dL_texts_416 (by decide) ?_
  refine xi_iload_n C.1 dL_texts_393 rfl 1 rfl ?_
  refine xi_bipush (v := nI 80) C.1 dL_texts_394 (by decide +kernel) ?_
  refine xi_icmp_ge (tgt := 419) C.1 dL_texts_396 (by decide) (fun c => absurd c (by decide +kernel)) (fun _ => ?_)
  refine xi_aload_n C.1 dL_texts_399 rfl 0 rfl ?_
  refine xi_iload_n C.1 dL_texts_400 rfl 1 rfl ?_
  refine xi_i2c C.1 dL_texts_401 ?_
  refine xb_top (b := nI 64) (by decide +kernel) ?_
  obtain ⟨m77, e77, H⟩ := xRun_c H
  have J77 := gg_q (by decide) J76 e77
  refine ow_8 (a1 := 64) (a2 := 0) (a3 := 0) C J76 e77 dL_texts_402 (Nat.le_of_ble_eq_true rfl) ⟨Nat.le_of_ble_eq_true rfl, Nat.le_of_ble_eq_true rfl⟩ ?_ Dp Bt Sq se
  intro Dp Bt Sq se
  refine xi_iload_n C.1 dL_texts_405 rfl 1 rfl ?_
  refine xi_iconst (v := nI 1) C.1 dL_texts_406 (by decide +kernel) ?_
  refine xi_iadd C.1 dL_texts_407 ?_
  refine xb_top (b := nI 65) (by decide +kernel) ?_
  refine xi_icmp_eq (tgt := 413) C.1 dL_texts_408 (by decide) (fun _ => ?_) (fun c => absurd (by decide +kernel) c)
  refine xj_iinc (v := nI 65) (lv2 := [(0, .ref (ad 0)), (1, .int (nI 65))]) C.1 dL_texts_413 1 rfl (by decide +kernel) (by decide) [0] [1, 0] rfl ?_
  refine xi_goto (tgt := 393) C.1 dL_texts_416 (by decide) ?_
  refine xi_iload_n C.1 dL_texts_393 rfl 1 rfl ?_
  refine xi_bipush (v := nI 80) C.1 dL_texts_394 (by decide +kernel) ?_
  refine xi_icmp_ge (tgt := 419) C.1 dL_texts_396 (by decide) (fun c => absurd c (by decide +kernel)) (fun _ => ?_)
  refine xi_aload_n C.1 dL_texts_399 rfl 0 rfl ?_
  refine xi_iload_n C.1 dL_texts_400 rfl 1 rfl ?_
  refine xi_i2c C.1 dL_texts_401 ?_
  refine xb_top (b := nI 65) (by decide +kernel) ?_
  obtain ⟨m78, e78, H⟩ := xRun_c H
  have J78 := gg_q (by decide) J77 e78
  refine ow_8 (a1 := 65) (a2 := 0) (a3 := 0) C J77 e78 dL_texts_402 (Nat.le_of_ble_eq_true rfl) ⟨Nat.le_of_ble_eq_true rfl, Nat.le_of_ble_eq_true rfl⟩ ?_ Dp Bt Sq se
  intro Dp Bt Sq se
  refine xi_iload_n C.1 dL_texts_405 rfl 1 rfl ?_
  refine xi_iconst (v := nI 1) C.1 dL_texts_406 (by decide +kernel) ?_
  refine xi_iadd C.1 dL_texts_407 ?_
  refine xb_top (b := nI 66) (by decide +kernel) ?_
  refine xi_icmp_eq (tgt := 413) C.1 dL_texts_408 (by decide) (fun _ => ?_) (fun c => absurd (by decide +kernel) c)
  refine xj_iinc (v := nI 66) (lv2 := [(0, .ref (ad 0)), (1, .int (nI 66))]) C.1 dL_texts_413 1 rfl (by decide +kernel) (by decide) [0] [1, 0] rfl ?_
  refine xi_goto (tgt := 393) C.1 dL_texts_416 (by decide) ?_
  refine xi_iload_n C.1 dL_texts_393 rfl 1 rfl ?_
  refine xi_bipush (v := nI 80) C.1 dL_texts_394 (by decide +kernel) ?_
  refine xi_icmp_ge (tgt := 419) C.1 dL_texts_396 (by decide) (fun c => absurd c (by decide +kernel)) (fun _ => ?_)
  refine xi_aload_n C.1 dL_texts_399 rfl 0 rfl ?_
  refine xi_iload_n C.1 dL_texts_400 rfl 1 rfl ?_
  refine xi_i2c C.1 dL_texts_401 ?_
  refine xb_top (b := nI 66) (by decide +kernel) ?_
  obtain ⟨m79, e79, H⟩ := xRun_c H
  have J79 := gg_q (by decide) J78 e79
  refine ow_8 (a1 := 66) (a2 := 0) (a3 := 0) C J78 e79 dL_texts_402 (Nat.le_of_ble_eq_true rfl) ⟨Nat.le_of_ble_eq_true rfl, Nat.le_of_ble_eq_true rfl⟩ ?_ Dp Bt Sq se
  intro Dp Bt Sq se
  refine xi_iload_n C.1 dL_texts_405 rfl 1 rfl ?_
  refine xi_iconst (v := nI 1) C.1 dL_texts_406 (by decide +kernel) ?_
  refine xi_iadd C.1 dL_texts_407 ?_
  refine xb_top (b := nI 67) (by decide +kernel) ?_
  refine xi_icmp_eq (tgt := 413) C.1 dL_texts_408 (by decide) (fun _ => ?_) (fun c => absurd (by decide +kernel) c)
  refine xj_iinc (v := nI 67) (lv2 := [(0, .ref (ad 0)), (1, .int (nI 67))]) C.1 dL_texts_413 1 rfl (by decide +kernel) (by decide) [0] [1, 0] rfl ?_
  refine xi_goto (tgt := 393) C.1 dL_texts_416 (by decide) ?_
  refine xi_iload_n C.1 dL_texts_393 rfl 1 rfl ?_
  refine xi_bipush (v := nI 80) C.1 dL_texts_394 (by decide +kernel) ?_
  refine xi_icmp_ge (tgt := 419) C.1 dL_texts_396 (by decide) (fun c => absurd c (by decide +kernel)) (fun _ => ?_)
  refine xi_aload_n C.1 dL_texts_399 rfl 0 rfl ?_
  refine xi_iload_n C.1 dL_texts_400 rfl 1 rfl ?_
  refine xi_i2c C.1 dL_texts_401 ?_
  refine xb_top (b := nI 67) (by decide +kernel) ?_
  obtain ⟨m80, e80, H⟩ := xRun_c H
  have J80 := gg_q (by decide) J79 e80
  refine ow_8 (a1 := 67) (a2 := 0) (a3 := 0) C J79 e80 dL_texts_402 (Nat.le_of_ble_eq_true rfl) ⟨Nat.le_of_ble_eq_true rfl, Nat.le_of_ble_eq_true rfl⟩ ?_ Dp Bt Sq se
  intro Dp Bt Sq se
  refine xi_iload_n C.1 dL_texts_405 rfl 1 rfl ?_
  refine xi_iconst (v := nI 1) C.1 dL_texts_406 (by decide +kernel) ?_
  refine xi_iadd C.1 dL_texts_407 ?_
  refine xb_top (b := nI 68) (by decide +kernel) ?_
  refine xi_icmp_eq (tgt := 413) C.1 dL_texts_408 (by decide) (fun _ => ?_) (fun c => absurd (by decide +kernel) c)
  refine xj_iinc (v := nI 68) (lv2 := [(0, .ref (ad 0)), (1, .int (nI 68))]) C.1 dL_texts_413 1 rfl (by decide +kernel) (by decide) [0] [1, 0] rfl ?_
  refine xi_goto (tgt := 393) C.1 dL_texts_416 (by decide) ?_
  refine xi_iload_n C.1 dL_texts_393 rfl 1 rfl ?_
  refine xi_bipush (v := nI 80) C.1 dL_texts_394 (by decide +kernel) ?_
  refine xi_icmp_ge (tgt := 419) C.1 dL_texts_396 (by decide) (fun c => absurd c (by decide +kernel)) (fun _ => ?_)
  refine xi_aload_n C.1 dL_texts_399 rfl 0 rfl ?_
  refine xi_iload_n C.1 dL_texts_400 rfl 1 rfl ?_
  refine xi_i2c C.1 dL_texts_401 ?_
  refine xb_top (b := nI 68) (by decide +kernel) ?_
  obtain ⟨m81, e81, H⟩ := xRun_c H
  have J81 := gg_q (by decide) J80 e81
  refine ow_8 (a1 := 68) (a2 := 0) (a3 := 0) C J80 e81 dL_texts_402 (Nat.le_of_ble_eq_true rfl) ⟨Nat.le_of_ble_eq_true rfl, Nat.le_of_ble_eq_true rfl⟩ ?_ Dp Bt Sq se
  intro Dp Bt Sq se
  refine xi_iload_n C.1 dL_texts_405 rfl 1 rfl ?_
  refine xi_iconst (v := nI 1) C.1 dL_texts_406 (by decide +kernel) ?_
  refine xi_iadd C.1 dL_texts_407 ?_
  refine xb_top (b := nI 69) (by decide +kernel) ?_
  refine xi_icmp_eq (tgt := 413) C.1 dL_texts_408 (by decide) (fun _ => ?_) (fun c => absurd (by decide +kernel) c)
  refine xj_iinc (v := nI 69) (lv2 := [(0, .ref (ad 0)), (1, .int (nI 69))]) C.1 dL_texts_413 1 rfl (by decide +kernel) (by decide) [0] [1, 0] rfl ?_
  refine xi_goto (tgt := 393) C.1 dL_texts_416 (by decide) ?_
  refine xi_iload_n C.1 dL_texts_393 rfl 1 rfl ?_
  refine xi_bipush (v := nI 80) C.1 dL_texts_394 (by decide +kernel) ?_
  refine xi_icmp_ge (tgt := 419) C.1 dL_texts_396 (by decide) (fun c => absurd c (by decide +kernel)) (fun _ => ?_)
  refine xi_aload_n C.1 dL_texts_399 rfl 0 rfl ?_
  refine xi_iload_n C.1 dL_texts_400 rfl 1 rfl ?_
  refine xi_i2c C.1 dL_texts_401 ?_
  refine xb_top (b := nI 69) (by decide +kernel) ?_
  obtain ⟨m82, e82, H⟩ := xRun_c H
  have J82 := gg_q (by decide) J81 e82
  refine ow_8 (a1 := 69) (a2 := 0) (a3 := 0) C J81 e82 dL_texts_402 (Nat.le_of_ble_eq_true rfl) ⟨Nat.le_of_ble_eq_true rfl, Nat.le_of_ble_eq_true rfl⟩ ?_ Dp Bt Sq se
  intro Dp Bt Sq se
  refine xi_iload_n C.1 dL_texts_405 rfl 1 rfl ?_
  refine xi_iconst (v := nI 1) C.1 dL_texts_406 (by decide +kernel) ?_
  refine xi_iadd C.1 dL_texts_407 ?_
  refine xb_top (b := nI 70) (by decide +kernel) ?_
  refine xi_icmp_eq (tgt := 413) C.1 dL_texts_408 (by decide) (fun _ => ?_) (fun c => absurd (by decide +kernel) c)
  refine xj_iinc (v := nI 70) (lv2 := [(0, .ref (ad 0)), (1, .int (nI 70))]) C.1 dL_texts_413 1 rfl (by decide +kernel) (by decide) [0] [1, 0] rfl ?_
  refine xi_goto (tgt := 393) C.1 dL_texts_416 (by decide) ?_
  refine xi_iload_n C.1 dL_texts_393 rfl 1 rfl ?_
  refine xi_bipush (v := nI 80) C.1 dL_texts_394 (by decide +kernel) ?_
  refine xi_icmp_ge (tgt := 419) C.1 dL_texts_396 (by decide) (fun c => absurd c (by decide +kernel)) (fun _ => ?_)
  refine xi_aload_n C.1 dL_texts_399 rfl 0 rfl ?_
  refine xi_iload_n C.1 dL_texts_400 rfl 1 rfl ?_
  refine xi_i2c C.1 dL_texts_401 ?_
  refine xb_top (b := nI 70) (by decide +kernel) ?_
  obtain ⟨m83, e83, H⟩ := xRun_c H
  have J83 := gg_q (by decide) J82 e83
  refine ow_8 (a1 := 70) (a2 := 0) (a3 := 0) C J82 e83 dL_texts_402 (Nat.le_of_ble_eq_true rfl) ⟨Nat.le_of_ble_eq_true rfl, Nat.le_of_ble_eq_true rfl⟩ ?_ Dp Bt Sq se
  intro Dp Bt Sq se
  refine xi_iload_n C.1 dL_texts_405 rfl 1 rfl ?_
  refine xi_iconst (v := nI 1) C.1 dL_texts_406 (by decide +kernel) ?_
  refine xi_iadd C.1 dL_texts_407 ?_
  refine xb_top (b := nI 71) (by decide +kernel) ?_
  refine xi_icmp_eq (tgt := 413) C.1 dL_texts_408 (by decide) (fun _ => ?_) (fun c => absurd (by decide +kernel) c)
  refine xj_iinc (v := nI 71) (lv2 := [(0, .ref (ad 0)), (1, .int (nI 71))]) C.1 dL_texts_413 1 rfl (by decide +kernel) (by decide) [0] [1, 0] rfl ?_
  refine xi_goto (tgt := 393) C.1 dL_texts_416 (by decide) ?_
  refine xi_iload_n C.1 dL_texts_393 rfl 1 rfl ?_
  refine xi_bipush (v := nI 80) C.1 dL_texts_394 (by decide +kernel) ?_
  refine xi_icmp_ge (tgt := 419) C.1 dL_texts_396 (by decide) (fun c => absurd c (by decide +kernel)) (fun _ => ?_)
  refine xi_aload_n C.1 dL_texts_399 rfl 0 rfl ?_
  refine xi_iload_n C.1 dL_texts_400 rfl 1 rfl ?_
  refine xi_i2c C.1 dL_texts_401 ?_
  refine xb_top (b := nI 71) (by decide +kernel) ?_
  obtain ⟨m84, e84, H⟩ := xRun_c H
  have J84 := gg_q (by decide) J83 e84
  refine ow_8 (a1 := 71) (a2 := 0) (a3 := 0) C J83 e84 dL_texts_402 (Nat.le_of_ble_eq_true rfl) ⟨Nat.le_of_ble_eq_true rfl, Nat.le_of_ble_eq_true rfl⟩ ?_ Dp Bt Sq se
  intro Dp Bt Sq se
  refine xi_iload_n C.1 dL_texts_405 rfl 1 rfl ?_
  refine xi_iconst (v := nI 1) C.1 dL_texts_406 (by decide +kernel) ?_
  refine xi_iadd C.1 dL_texts_407 ?_
  refine xb_top (b := nI 72) (by decide +kernel) ?_
  refine xi_icmp_eq (tgt := 413) C.1 dL_texts_408 (by decide) (fun _ => ?_) (fun c => absurd (by decide +kernel) c)
  refine xj_iinc (v := nI 72) (lv2 := [(0, .ref (ad 0)), (1, .int (nI 72))]) C.1 dL_texts_413 1 rfl (by decide +kernel) (by decide) [0] [1, 0] rfl ?_
  refine xi_goto (tgt := 393) C.1 dL_texts_416 (by decide) ?_
  refine xi_iload_n C.1 dL_texts_393 rfl 1 rfl ?_
  refine xi_bipush (v := nI 80) C.1 dL_texts_394 (by decide +kernel) ?_
  refine xi_icmp_ge (tgt := 419) C.1 dL_texts_396 (by decide) (fun c => absurd c (by decide +kernel)) (fun _ => ?_)
  refine xi_aload_n C.1 dL_texts_399 rfl 0 rfl ?_
  refine xi_iload_n C.1 dL_texts_400 rfl 1 rfl ?_
  refine xi_i2c C.1 dL_texts_401 ?_
  refine xb_top (b := nI 72) (by decide +kernel) ?_
  obtain ⟨m85, e85, H⟩ := xRun_c H
  have J85 := gg_q (by decide) J84 e85
  refine ow_8 (a1 := 72) (a2 := 0) (a3 := 0) C J84 e85 dL_texts_402 (Nat.le_of_ble_eq_true rfl) ⟨Nat.le_of_ble_eq_true rfl, Nat.le_of_ble_eq_true rfl⟩ ?_ Dp Bt Sq se
  intro Dp Bt Sq se
  refine xi_iload_n C.1 dL_texts_405 rfl 1 rfl ?_
  refine xi_iconst (v := nI 1) C.1 dL_texts_406 (by decide +kernel) ?_
  refine xi_iadd C.1 dL_texts_407 ?_
  refine xb_top (b := nI 73) (by decide +kernel) ?_
  refine xi_icmp_eq (tgt := 413) C.1 dL_texts_408 (by decide) (fun _ => ?_) (fun c => absurd (by decide +kernel) c)
  refine xj_iinc (v := nI 73) (lv2 := [(0, .ref (ad 0)), (1, .int (nI 73))]) C.1 dL_texts_413 1 rfl (by decide +kernel) (by decide) [0] [1, 0] rfl ?_
  refine xi_goto (tgt := 393) C.1 dL_texts_416 (by decide) ?_
  refine xi_iload_n C.1 dL_texts_393 rfl 1 rfl ?_
  refine xi_bipush (v := nI 80) C.1 dL_texts_394 (by decide +kernel) ?_
  refine xi_icmp_ge (tgt := 419) C.1 dL_texts_396 (by decide) (fun c => absurd c (by decide +kernel)) (fun _ => ?_)
  refine xi_aload_n C.1 dL_texts_399 rfl 0 rfl ?_
  refine xi_iload_n C.1 dL_texts_400 rfl 1 rfl ?_
  refine xi_i2c C.1 dL_texts_401 ?_
  refine xb_top (b := nI 73) (by decide +kernel) ?_
  obtain ⟨m86, e86, H⟩ := xRun_c H
  have J86 := gg_q (by decide) J85 e86
  refine ow_8 (a1 := 73) (a2 := 0) (a3 := 0) C J85 e86 dL_texts_402 (Nat.le_of_ble_eq_true rfl) ⟨Nat.le_of_ble_eq_true rfl, Nat.le_of_ble_eq_true rfl⟩ ?_ Dp Bt Sq se
  intro Dp Bt Sq se
  refine xi_iload_n C.1 dL_texts_405 rfl 1 rfl ?_
  refine xi_iconst (v := nI 1) C.1 dL_texts_406 (by decide +kernel) ?_
  refine xi_iadd C.1 dL_texts_407 ?_
  refine xb_top (b := nI 74) (by decide +kernel) ?_
  refine xi_icmp_eq (tgt := 413) C.1 dL_texts_408 (by decide) (fun _ => ?_) (fun c => absurd (by decide +kernel) c)
  refine xj_iinc (v := nI 74) (lv2 := [(0, .ref (ad 0)), (1, .int (nI 74))]) C.1 dL_texts_413 1 rfl (by decide +kernel) (by decide) [0] [1, 0] rfl ?_
  refine xi_goto (tgt := 393) C.1 dL_texts_416 (by decide) ?_
  refine xi_iload_n C.1 dL_texts_393 rfl 1 rfl ?_
  refine xi_bipush (v := nI 80) C.1 dL_texts_394 (by decide +kernel) ?_
  refine xi_icmp_ge (tgt := 419) C.1 dL_texts_396 (by decide) (fun c => absurd c (by decide +kernel)) (fun _ => ?_)
  refine xi_aload_n C.1 dL_texts_399 rfl 0 rfl ?_
  refine xi_iload_n C.1 dL_texts_400 rfl 1 rfl ?_
  refine xi_i2c C.1 dL_texts_401 ?_
  refine xb_top (b := nI 74) (by decide +kernel) ?_
  obtain ⟨m87, e87, H⟩ := xRun_c H
  have J87 := gg_q (by decide) J86 e87
  refine ow_8 (a1 := 74) (a2 := 0) (a3 := 0) C J86 e87 dL_texts_402 (Nat.le_of_ble_eq_true rfl) ⟨Nat.le_of_ble_eq_true rfl, Nat.le_of_ble_eq_true rfl⟩ ?_ Dp Bt Sq se
  intro Dp Bt Sq se
  refine xi_iload_n C.1 dL_texts_405 rfl 1 rfl ?_
  refine xi_iconst (v := nI 1) C.1 dL_texts_406 (by decide +kernel) ?_
  refine xi_iadd C.1 dL_texts_407 ?_
  refine xb_top (b := nI 75) (by decide +kernel) ?_
  refine xi_icmp_eq (tgt := 413) C.1 dL_texts_408 (by decide) (fun _ => ?_) (fun c => absurd (by decide +kernel) c)
  refine xj_iinc (v := nI 75) (lv2 := [(0, .ref (ad 0)), (1, .int (nI 75))]) C.1 dL_texts_413 1 rfl (by decide +kernel) (by decide) [0] [1, 0] rfl ?_
  refine xi_goto (tgt := 393) C.1 dL_texts_416 (by decide) ?_
  refine xi_iload_n C.1 dL_texts_393 rfl 1 rfl ?_
  refine xi_bipush (v := nI 80) C.1 dL_texts_394 (by decide +kernel) ?_
  refine xi_icmp_ge (tgt := 419) C.1 dL_texts_396 (by decide) (fun c => absurd c (by decide +kernel)) (fun _ => ?_)
  refine xi_aload_n C.1 dL_texts_399 rfl 0 rfl ?_
  refine xi_iload_n C.1 dL_texts_400 rfl 1 rfl ?_
  refine xi_i2c C.1 dL_texts_401 ?_
  refine xb_top (b := nI 75) (by decide +kernel) ?_
  obtain ⟨m88, e88, H⟩ := xRun_c H
  have J88 := gg_q (by decide) J87 e88
  refine ow_8 (a1 := 75) (a2 := 0) (a3 := 0) C J87 e88 dL_texts_402 (Nat.le_of_ble_eq_true rfl) ⟨Nat.le_of_ble_eq_true rfl, Nat.le_of_ble_eq_true rfl⟩ ?_ Dp Bt Sq se
  intro Dp Bt Sq se
  refine xi_iload_n C.1 dL_texts_405 rfl 1 rfl ?_
  refine xi_iconst (v := nI 1) C.1 dL_texts_406 (by decide +kernel) ?_
  refine xi_iadd C.1 dL_texts_407 ?_
  refine xb_top (b := nI 76) (by decide +kernel) ?_
  refine xi_icmp_eq (tgt := 413) C.1 dL_texts_408 (by decide) (fun _ => ?_) (fun c => absurd (by decide +kernel) c)
  refine xj_iinc (v := nI 76) (lv2 := [(0, .ref (ad 0)), (1, .int (nI 76))]) C.1 dL_texts_413 1 rfl (by decide +kernel) (by decide) [0] [1, 0] rfl ?_
  refine xi_goto (tgt := 393) C.1 dL_texts_416 (by decide) ?_
  refine xi_iload_n C.1 dL_texts_393 rfl 1 rfl ?_
  refine xi_bipush (v := nI 80) C.1 dL_texts_394 (by decide +kernel) ?_
  refine xi_icmp_ge (tgt := 419) C.1 dL_texts_396 (by decide) (fun c => absurd c (by decide +kernel)) (fun _ => ?_)
  refine xi_aload_n C.1 dL_texts_399 rfl 0 rfl ?_
  refine xi_iload_n C.1 dL_texts_400 rfl 1 rfl ?_
  refine xi_i2c C.1 dL_texts_401 ?_
  refine xb_top (b := nI 76) (by decide +kernel) ?_
  obtain ⟨m89, e89, H⟩ := xRun_c H
  have J89 := gg_q (by decide) J88 e89
  refine ow_8 (a1 := 76) (a2 := 0) (a3 := 0) C J88 e89 dL_texts_402 (Nat.le_of_ble_eq_true rfl) ⟨Nat.le_of_ble_eq_true rfl, Nat.le_of_ble_eq_true rfl⟩ ?_ Dp Bt Sq se
  intro Dp Bt Sq se
  refine xi_iload_n C.1 dL_texts_405 rfl 1 rfl ?_
  refine xi_iconst (v := nI 1) C.1 dL_texts_406 (by decide +kernel) ?_
  refine xi_iadd C.1 dL_texts_407 ?_
  refine xb_top (b := nI 77) (by decide +kernel) ?_
  refine xi_icmp_eq (tgt := 413) C.1 dL_texts_408 (by decide) (fun _ => ?_) (fun c => absurd (by decide +kernel) c)
  refine xj_iinc (v := nI 77) (lv2 := [(0, .ref (ad 0)), (1, .int (nI 77))]) C.1 dL_texts_413 1 rfl (by decide +kernel) (by decide) [0] [1, 0] rfl ?_
  refine xi_goto (tgt := 393) C.1 dL_texts_416 (by decide) ?_
  refine xi_iload_n C.1 dL_texts_393 rfl 1 rfl ?_
  refine xi_bipush (v := nI 80) C.1 dL_texts_394 (by decide +kernel) ?_
  refine xi_icmp_ge (tgt := 419) C.1 dL_texts_396 (by decide) (fun c => absurd c (by decide +kernel)) (fun _ => ?_)
  refine xi_aload_n C.1 dL_texts_399 rfl 0 rfl ?_
  refine xi_iload_n C.1 dL_texts_400 rfl 1 rfl ?_
  refine xi_i2c C.1 dL_texts_401 ?_
  refine xb_top (b := nI 77) (by decide +kernel) ?_
  obtain ⟨m90, e90, H⟩ := xRun_c H
  have J90 := gg_q (by decide) J89 e90
  refine ow_8 (a1 := 77) (a2 := 0) (a3 := 0) C J89 e90 dL_texts_402 (Nat.le_of_ble_eq_true rfl) ⟨Nat.le_of_ble_eq_true rfl, Nat.le_of_ble_eq_true rfl⟩ ?_ Dp Bt Sq se
  intro Dp Bt Sq se
  refine xi_iload_n C.1 dL_texts_405 rfl 1 rfl ?_
  refine xi_iconst (v := nI 1) C.1 dL_texts_406 (by decide +kernel) ?_
  refine xi_iadd C.1 dL_texts_407 ?_
  refine xb_top (b := nI 78) (by decide +kernel) ?_
  refine xi_icmp_eq (tgt := 413) C.1 dL_texts_408 (by decide) (fun _ => ?_) (fun c => absurd (by decide +kernel) c)
  refine xj_iinc (v := nI 78) (lv2 := [(0, .ref (ad 0)), (1, .int (nI 78))]) C.1 dL_texts_413 1 rfl (by decide +kernel) (by decide) [0] [1, 0] rfl ?_
  refine xi_goto (tgt := 393) C.1 dL_texts_416 (by decide) ?_
  refine xi_iload_n C.1 dL_texts_393 rfl 1 rfl ?_
  refine xi_bipush (v := nI 80) C.1 dL_texts_394 (by decide +kernel) ?_
  refine xi_icmp_ge (tgt := 419) C.1 dL_texts_396 (by decide) (fun c => absurd c (by decide +kernel)) (fun _ => ?_)
  refine xi_aload_n C.1 dL_texts_399 rfl 0 rfl ?_
  refine xi_iload_n C.1 dL_texts_400 rfl 1 rfl ?_
  refine xi_i2c C.1 dL_texts_401 ?_
  refine xb_top (b := nI 78) (by decide +kernel) ?_
  obtain ⟨m91, e91, H⟩ := xRun_c H
  have J91 := gg_q (by decide) J90 e91
  refine ow_8 (a1 := 78) (a2 := 0) (a3 := 0) C J90 e91 dL_texts_402 (Nat.le_of_ble_eq_true rfl) ⟨Nat.le_of_ble_eq_true rfl, Nat.le_of_ble_eq_true rfl⟩ ?_ Dp Bt Sq se
  intro Dp Bt Sq se
  refine xi_iload_n C.1 dL_texts_405 rfl 1 rfl ?_
  refine xi_iconst (v := nI 1) C.1 dL_texts_406 (by decide +kernel) ?_
  refine xi_iadd C.1 dL_texts_407 ?_
  refine xb_top (b := nI 79) (by decide +kernel) ?_
  refine xi_icmp_eq (tgt := 413) C.1 dL_texts_408 (by decide) (fun _ => ?_) (fun c => absurd (by decide +kernel) c)
  refine xj_iinc (v := nI 79) (lv2 := [(0, .ref (ad 0)), (1, .int (nI 79))]) C.1 dL_texts_413 1 rfl (by decide +kernel) (by decide) [0] [1, 0] rfl ?_
  refine xi_goto (tgt := 393) C.1 dL_texts_416 (by decide) ?_
  refine xi_iload_n C.1 dL_texts_393 rfl 1 rfl ?_
  refine xi_bipush (v := nI 80) C.1 dL_texts_394 (by decide +kernel) ?_
  refine xi_icmp_ge (tgt := 419) C.1 dL_texts_396 (by decide) (fun c => absurd c (by decide +kernel)) (fun _ => ?_)
  refine xi_aload_n C.1 dL_texts_399 rfl 0 rfl ?_
  refine xi_iload_n C.1 dL_texts_400 rfl 1 rfl ?_
  refine xi_i2c C.1 dL_texts_401 ?_
  refine xb_top (b := nI 79) (by decide +kernel) ?_
  obtain ⟨m92, e92, H⟩ := xRun_c H
  have J92 := gg_q (by decide) J91 e92
  refine ow_8 (a1 := 79) (a2 := 0) (a3 := 0) C J91 e92 dL_texts_402 (Nat.le_of_ble_eq_true rfl) ⟨Nat.le_of_ble_eq_true rfl, Nat.le_of_ble_eq_true rfl⟩ ?_ Dp Bt Sq se
  intro Dp Bt Sq se
  refine xi_iload_n C.1 dL_texts_405 rfl 1 rfl ?_
  refine xi_iconst (v := nI 1) C.1 dL_texts_406 (by decide +kernel) ?_
  refine xi_iadd C.1 dL_texts_407 ?_
  refine xb_top (b := nI 80) (by decide +kernel) ?_
  refine xi_icmp_eq (tgt := 413) C.1 dL_texts_408 (by decide) (fun _ => ?_) (fun c => absurd (by decide +kernel) c)
  refine xj_iinc (v := nI 80) (lv2 := [(0, .ref (ad 0)), (1, .int (nI 80))]) C.1 dL_texts_413 1 rfl (by decide +kernel) (by decide) [0] [1, 0] rfl ?_
  refine xi_goto (tgt := 393) C.1 dL_texts_416 (by decide) ?_
  refine xi_iload_n C.1 dL_texts_393 rfl 1 rfl ?_
  refine xi_bipush (v := nI 80) C.1 dL_texts_394 (by decide +kernel) ?_
  refine xi_icmp_ge (tgt := 419) C.1 dL_texts_396 (by decide) (fun _ => ?_) (fun c => absurd (by decide +kernel) c)
  refine xi_aload_n C.1 dL_texts_419 rfl 0 rfl ?_
  refine xi_bipush (v := nI 49) C.1 dL_texts_420 (by decide +kernel) ?_
  obtain ⟨m93, e93, H⟩ := xRun_c H
  have J93 := gg_q (by decide) J92 e93
  refine ow_8 (a1 := 49) (a2 := 0) (a3 := 0) C J92 e93 dL_texts_422 (Nat.le_of_ble_eq_true rfl) ⟨Nat.le_of_ble_eq_true rfl, Nat.le_of_ble_eq_true rfl⟩ ?_ Dp Bt Sq se
  intro Dp Bt Sq se
  refine xi_bipush (v := nI 4294967290) C.1 dL_texts_425 (by decide +kernel) ?_
  refine xi_icmp_ne (tgt := 470) C.1 dL_texts_427 (by decide) (fun c => absurd c (by decide +kernel)) (fun _ => ?_)
  refine xi_aload_n C.1 dL_texts_430 rfl 0 rfl ?_
  obtain ⟨m94, e94, H⟩ := xRun_c H
  have J94 := gg_q (by decide) J93 e94
  refine ow_7 (a1 := 0) (a2 := 0) (a3 := 0) C J93 e94 dL_texts_431 (Nat.le_of_ble_eq_true rfl) ⟨Nat.le_of_ble_eq_true rfl, Nat.le_of_ble_eq_true rfl⟩ ?_ Dp Bt Sq se
  intro Dp Bt Sq se
  refine xi_bipush (v := nI 4294967173) C.1 dL_texts_434 (by decide +kernel) ?_
  refine xi_icmp_ne (tgt := 470) C.1 dL_texts_436 (by decide) (fun c => absurd c (by decide +kernel)) (fun _ => ?_)
  refine xi_aload_n C.1 dL_texts_439 rfl 0 rfl ?_
  obtain ⟨m95, e95, H⟩ := xRun_c H
  have J95 := gg_q (by decide) J94 e95
  refine ow_9 (a1 := 0) (a2 := 0) (a3 := 0) C J94 e95 dL_texts_440 (Nat.le_of_ble_eq_true rfl) ⟨Nat.le_of_ble_eq_true rfl, Nat.le_of_ble_eq_true rfl⟩ ?_ Dp Bt Sq se
  intro Dp Bt Sq se
  refine xi_bipush (v := nI 80) C.1 dL_texts_443 (by decide +kernel) ?_
  refine xi_icmp_ne (tgt := 470) C.1 dL_texts_445 (by decide) (fun c => absurd c (by decide +kernel)) (fun _ => ?_)
  refine xi_aload_n C.1 dL_texts_448 rfl 0 rfl ?_
  obtain ⟨m96, e96, H⟩ := xRun_c H
  have J96 := gg_q (by decide) J95 e96
  refine ow_7 (a1 := 0) (a2 := 0) (a3 := 0) C J95 e96 dL_texts_449 (Nat.le_of_ble_eq_true rfl) ⟨Nat.le_of_ble_eq_true rfl, Nat.le_of_ble_eq_true rfl⟩ ?_ Dp Bt Sq se
  intro Dp Bt Sq se
  refine xi_bipush (v := nI 4294967196) C.1 dL_texts_452 (by decide +kernel) ?_
  refine xi_icmp_ne (tgt := 470) C.1 dL_texts_454 (by decide) (fun c => absurd c (by decide +kernel)) (fun _ => ?_)
  refine xi_aload_n C.1 dL_texts_457 rfl 0 rfl ?_
  refine xi_iconst (v := nI 0) C.1 dL_texts_458 (by decide +kernel) ?_
  obtain ⟨m97, e97, H⟩ := xRun_c H
  have J97 := gg_q (by decide) J96 e97
  refine ow_21 (a1 := 0) (a2 := 0) (a3 := 0) C J96 e97 dL_texts_459 (Nat.le_of_ble_eq_true rfl) ⟨Nat.le_of_ble_eq_true rfl, Nat.le_of_ble_eq_true rfl⟩ ?_ Dp Bt Sq se
  intro Dp Bt Sq se
  refine xi_iconst (v := nI 1) C.1 dL_texts_462 (by decide +kernel) ?_
  refine xi_icmp_ne (tgt := 470) C.1 dL_texts_463 (by decide) (fun c => absurd c (by decide +kernel)) (fun _ => ?_)
  refine xi_iconst (v := nI 1) C.1 dL_texts_466 (by decide +kernel) ?_
  refine xi_goto (tgt := 471) C.1 dL_texts_467 (by decide) ?_
  exact xi_zretP C.1 Z (Nat.le_of_ble_eq_true rfl) (Nat.le_of_ble_eq_true rfl) oN_nil ⟨rfl, rfl⟩ dL_texts_471 (by decide +kernel)
