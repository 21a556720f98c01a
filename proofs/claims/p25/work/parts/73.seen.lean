/-! the law's own walks -/
/-- behind a method of the law: its answer, and the object as it is, but for the places where it reckons -/
def oP (cI cC cR : ClassId) (ad : Nat → Nat) (ha : Nat → Nat → Nat) (m : xMu) (v : Value) : Option Value → va_W → Prop := fun o w1 => o = some v ∧ ∃ (Dp Bt Sq : Nat → Int32) (se : Int32), w1 = W5m cI cC cR ad ha m Dp Bt Sq se
theorem oW_nil {D : va_G} {w : va_W} (H : Heap) (h : va_P D vwCl (w ++ []) H) : va_P D vwCl w H := by
  rw [List.append_nil] at h
  exact h
set_option maxHeartbeats 4000000 in
set_option maxRecDepth 100000 in
/-- the digest is told, and nothing else changes -/
theorem m_seen (D : va_G) (cI cC cZ cR : ClassId) (ad : Nat → Nat) (ha : Nat → Nat → Nat) {m : xMu} (J : GG m) (Dp Bt Sq : Nat → Int32) (se : Int32) : xb_MP cL_seen wsB_seen RL rm_seen (some .long) 5 (xb_ty cI cC cZ cR) D (fun _ => True) [.ref (ad 0)] (W5m cI cC cR ad ha m Dp Bt Sq se) (oP cI cC cR ad ha m (.long (sv m.1))) 0 0 := by
  intro X C0 E0 Z hfr
  have C : xb_LW X cL_seen wsB_seen rm_seen (some .long) 5 (xb_ty cI cC cZ cR) D cI cC cZ cR := ⟨C0, su_seen, rfl, by decide, by decide⟩
  have l1 : ∀ (j i : Nat), i + j = 9 → oG X 0 0 cI cC cR ad ha m [] [(0, .ref (ad 0)), (1, .long (sv1 m.1 9)), (3, .int (nI 9))] 31 [] → oG X 0 0 cI cC cR ad ha m [] [(0, .ref (ad 0)), (1, .long (sv1 m.1 i)), (3, .int (nI i))] 6 [] := by
    intro  j
    induction j with
    | zero =>
      intro i hi g
      obtain rfl : i = 9 := by omega
      intro Dp Bt Sq se
      refine xi_iload_n C.1 dL_seen_6 rfl 2 rfl ?_
      refine xi_bipush (v := nI 9) C.1 dL_seen_7 (by decide +kernel) ?_
      exact xi_icmp_ge (tgt := 31) C.1 dL_seen_9 (by decide) (fun _ => g Dp Bt Sq se) (fun c => absurd (by decide +kernel) c)
    | succ j ih =>
      intro i hi g
      intro Dp Bt Sq se
      refine xi_iload_n C.1 dL_seen_6 rfl 2 rfl ?_
      refine xi_bipush (v := nI 9) C.1 dL_seen_7 (by decide +kernel) ?_
      refine xi_icmp_ge (tgt := 31) C.1 dL_seen_9 (by decide) (fun c => absurd c (nI_ge (b := 9) (by omega) (by decide))) (fun _ => ?_)
      refine xi_ldc2 (v := 31) C.1 dL_seen_12 (su_seen _ wc_11) ?_
      refine xi_lload_n C.1 dL_seen_15 rfl 1 rfl ?_
      refine xi_lmul C.1 dL_seen_16 ?_
      refine xi_aload_n C.1 dL_seen_17 rfl 0 rfl ?_
      refine xi_iload_n C.1 dL_seen_18 rfl 2 rfl ?_
      refine ow_21 (a1 := i) (a2 := 0) (a3 := 0) C J (tq_count J (by omega)) dL_seen_19 (Nat.le_of_ble_eq_true rfl) ⟨Nat.zero_le _, Nat.zero_le _⟩ ?_ Dp Bt Sq se
      intro Dp Bt Sq se
      refine xi_i2l C.1 dL_seen_22 ?_
      refine xi_ladd C.1 dL_seen_23 ?_
      refine xb_topl (b := sv1 m.1 (i + 1)) rfl ?_
      refine xj_lstore_n (lv2 := [(0, .ref (ad 0)), (1, .long (sv1 m.1 (i + 1))), (3, .int (nI i))]) C.1 dL_seen_24 rfl (by decide) [0, 2] [1, 0, 2] rfl ?_
      refine xj_iinc (v := nI (i + 1)) (lv2 := [(0, .ref (ad 0)), (1, .long (sv1 m.1 (i + 1))), (3, .int (nI (i + 1)))]) C.1 dL_seen_25 2 rfl (nI_add _ 1) (by decide) [0, 1] [1, 2, 0] rfl ?_
      refine xi_goto (tgt := 6) C.1 dL_seen_28 (by decide) ?_
      exact ih (i + 1) (by omega) g Dp Bt Sq se
  have l2 : ∀ (p : Nat) (h : Int64) (j i : Nat), i + j = 7 → oG X 0 0 cI cC cR ad ha m [] [(0, .ref (ad 0)), (1, .long (sv2 m.1 p h 7)), (3, .int (nI p)), (4, .int (nI 7))] 70 [] → oG X 0 0 cI cC cR ad ha m [] [(0, .ref (ad 0)), (1, .long (sv2 m.1 p h i)), (3, .int (nI p)), (4, .int (nI i))] 42 [] := by
    intro p h j
    induction j with
    | zero =>
      intro i hi g
      obtain rfl : i = 7 := by omega
      intro Dp Bt Sq se
      refine xi_iload C.1 dL_seen_42 3 rfl ?_
      refine xi_bipush (v := nI 7) C.1 dL_seen_44 (by decide +kernel) ?_
      exact xi_icmp_ge (tgt := 70) C.1 dL_seen_46 (by decide) (fun _ => g Dp Bt Sq se) (fun c => absurd (by decide +kernel) c)
    | succ j ih =>
      intro i hi g
      intro Dp Bt Sq se
      refine xi_iload C.1 dL_seen_42 3 rfl ?_
      refine xi_bipush (v := nI 7) C.1 dL_seen_44 (by decide +kernel) ?_
      refine xi_icmp_ge (tgt := 70) C.1 dL_seen_46 (by decide) (fun c => absurd c (nI_ge (b := 7) (by omega) (by decide))) (fun _ => ?_)
      refine xi_ldc2 (v := 31) C.1 dL_seen_49 (su_seen _ wc_11) ?_
      refine xi_lload_n C.1 dL_seen_52 rfl 1 rfl ?_
      refine xi_lmul C.1 dL_seen_53 ?_
      refine xi_aload_n C.1 dL_seen_54 rfl 0 rfl ?_
      refine xi_iload_n C.1 dL_seen_55 rfl 2 rfl ?_
      refine xi_iload C.1 dL_seen_56 3 rfl ?_
      refine ow_13 (a1 := p) (a2 := i) (a3 := 0) C J (tq_cell J p i) dL_seen_58 (Nat.le_of_ble_eq_true rfl) ⟨Nat.zero_le _, Nat.zero_le _⟩ ?_ Dp Bt Sq se
      intro Dp Bt Sq se
      refine xi_i2l C.1 dL_seen_61 ?_
      refine xi_ladd C.1 dL_seen_62 ?_
      refine xb_topl (b := sv2 m.1 p h (i + 1)) rfl ?_
      refine xj_lstore_n (lv2 := [(0, .ref (ad 0)), (1, .long (sv2 m.1 p h (i + 1))), (3, .int (nI p)), (4, .int (nI i))]) C.1 dL_seen_63 rfl (by decide) [0, 2, 3] [1, 0, 2, 3] rfl ?_
      refine xj_iinc (v := nI (i + 1)) (lv2 := [(0, .ref (ad 0)), (1, .long (sv2 m.1 p h (i + 1))), (3, .int (nI p)), (4, .int (nI (i + 1)))]) C.1 dL_seen_64 3 rfl (nI_add _ 1) (by decide) [0, 1, 2] [1, 2, 3, 0] rfl ?_
      refine xi_goto (tgt := 42) C.1 dL_seen_67 (by decide) ?_
      exact ih (i + 1) (by omega) g Dp Bt Sq se
  have l3 : ∀ (p : Nat) (h : Int64) (j i : Nat), i + j = 4 → oG X 0 0 cI cC cR ad ha m [] [(0, .ref (ad 0)), (1, .long (sv3 m.1 p h 4)), (3, .int (nI p)), (4, .int (nI 4))] 146 [] → oG X 0 0 cI cC cR ad ha m [] [(0, .ref (ad 0)), (1, .long (sv3 m.1 p h i)), (3, .int (nI p)), (4, .int (nI i))] 104 [] := by
    intro p h j
    induction j with
    | zero =>
      intro i hi g
      obtain rfl : i = 4 := by omega
      intro Dp Bt Sq se
      refine xi_iload C.1 dL_seen_104 3 rfl ?_
      refine xi_iconst (v := nI 4) C.1 dL_seen_106 (by decide +kernel) ?_
      exact xi_icmp_ge (tgt := 146) C.1 dL_seen_107 (by decide) (fun _ => g Dp Bt Sq se) (fun c => absurd (by decide +kernel) c)
    | succ j ih =>
      intro i hi g
      intro Dp Bt Sq se
      refine xi_iload C.1 dL_seen_104 3 rfl ?_
      refine xi_iconst (v := nI 4) C.1 dL_seen_106 (by decide +kernel) ?_
      refine xi_icmp_ge (tgt := 146) C.1 dL_seen_107 (by decide) (fun c => absurd c (nI_ge (b := 4) (by omega) (by decide))) (fun _ => ?_)
      refine xi_ldc2 (v := 31) C.1 dL_seen_110 (su_seen _ wc_11) ?_
      refine xi_ldc2 (v := 31) C.1 dL_seen_113 (su_seen _ wc_11) ?_
      refine xi_lload_n C.1 dL_seen_116 rfl 1 rfl ?_
      refine xi_lmul C.1 dL_seen_117 ?_
      refine xi_aload_n C.1 dL_seen_118 rfl 0 rfl ?_
      refine xi_iload_n C.1 dL_seen_119 rfl 2 rfl ?_
      refine xi_iconst (v := nI 0) C.1 dL_seen_120 (by decide +kernel) ?_
      refine xi_iload C.1 dL_seen_121 3 rfl ?_
      refine ow_14 (a1 := p) (a2 := 0) (a3 := i) C J (tq_path J p 0 i) dL_seen_123 (Nat.le_of_ble_eq_true rfl) ⟨Nat.zero_le _, Nat.zero_le _⟩ ?_ Dp Bt Sq se
      intro Dp Bt Sq se
      refine xi_i2l C.1 dL_seen_126 ?_
      refine xi_ladd C.1 dL_seen_127 ?_
      refine xi_lmul C.1 dL_seen_128 ?_
      refine xi_aload_n C.1 dL_seen_129 rfl 0 rfl ?_
      refine xi_iload_n C.1 dL_seen_130 rfl 2 rfl ?_
      refine xi_iconst (v := nI 1) C.1 dL_seen_131 (by decide +kernel) ?_
      refine xi_iload C.1 dL_seen_132 3 rfl ?_
      refine ow_14 (a1 := p) (a2 := 1) (a3 := i) C J (tq_path J p 1 i) dL_seen_134 (Nat.le_of_ble_eq_true rfl) ⟨Nat.zero_le _, Nat.zero_le _⟩ ?_ Dp Bt Sq se
      intro Dp Bt Sq se
      refine xi_i2l C.1 dL_seen_137 ?_
      refine xi_ladd C.1 dL_seen_138 ?_
      refine xb_topl (b := sv3 m.1 p h (i + 1)) rfl ?_
      refine xj_lstore_n (lv2 := [(0, .ref (ad 0)), (1, .long (sv3 m.1 p h (i + 1))), (3, .int (nI p)), (4, .int (nI i))]) C.1 dL_seen_139 rfl (by decide) [0, 2, 3] [1, 0, 2, 3] rfl ?_
      refine xj_iinc (v := nI (i + 1)) (lv2 := [(0, .ref (ad 0)), (1, .long (sv3 m.1 p h (i + 1))), (3, .int (nI p)), (4, .int (nI (i + 1)))]) C.1 dL_seen_140 3 rfl (nI_add _ 1) (by decide) [0, 1, 2] [1, 2, 3, 0] rfl ?_
      refine xi_goto (tgt := 104) C.1 dL_seen_143 (by decide) ?_
      exact ih (i + 1) (by omega) g Dp Bt Sq se
  have l4 : ∀ (j i : Nat), i + j = 24 → oG X 0 0 cI cC cR ad ha m [] [(0, .ref (ad 0)), (1, .long (sv4 m.1 24)), (3, .int (nI 24))] 152 [] → oG X 0 0 cI cC cR ad ha m [] [(0, .ref (ad 0)), (1, .long (sv4 m.1 i)), (3, .int (nI i))] 33 [] := by
    intro  j
    induction j with
    | zero =>
      intro i hi g
      obtain rfl : i = 24 := by omega
      intro Dp Bt Sq se
      refine xi_iload_n C.1 dL_seen_33 rfl 2 rfl ?_
      refine xi_bipush (v := nI 24) C.1 dL_seen_34 (by decide +kernel) ?_
      exact xi_icmp_ge (tgt := 152) C.1 dL_seen_36 (by decide) (fun _ => g Dp Bt Sq se) (fun c => absurd (by decide +kernel) c)
    | succ j ih =>
      intro i hi g
      intro Dp Bt Sq se
      refine xi_iload_n C.1 dL_seen_33 rfl 2 rfl ?_
      refine xi_bipush (v := nI 24) C.1 dL_seen_34 (by decide +kernel) ?_
      refine xi_icmp_ge (tgt := 152) C.1 dL_seen_36 (by decide) (fun c => absurd c (nI_ge (b := 24) (by omega) (by decide))) (fun _ => ?_)
      refine xi_iconst (v := nI 0) C.1 dL_seen_39 (by decide +kernel) ?_
      refine xj_istore (lv2 := [(0, .ref (ad 0)), (1, .long (sv4 m.1 i)), (3, .int (nI i)), (4, .int (nI 0))]) C.1 dL_seen_40 (by decide) [0, 1, 2] [1, 2, 3, 0] rfl ?_
      refine l2 i (sv4 m.1 i) 7 0 (by omega) ?_ Dp Bt Sq se
      intro Dp Bt Sq se
      refine xi_ldc2 (v := 31) C.1 dL_seen_70 (su_seen _ wc_11) ?_
      refine xi_ldc2 (v := 31) C.1 dL_seen_73 (su_seen _ wc_11) ?_
      refine xi_lload_n C.1 dL_seen_76 rfl 1 rfl ?_
      refine xi_lmul C.1 dL_seen_77 ?_
      refine xi_aload_n C.1 dL_seen_78 rfl 0 rfl ?_
      refine xi_iload_n C.1 dL_seen_79 rfl 2 rfl ?_
      refine xi_iload_n C.1 dL_seen_80 rfl 2 rfl ?_
      refine xi_iconst (v := nI 1) C.1 dL_seen_81 (by decide +kernel) ?_
      refine xi_iadd C.1 dL_seen_82 ?_
      refine xb_top (b := nI (i + 1)) (nI_add _ 1) ?_
      refine ow_15 (a1 := i) (a2 := (i + 1)) (a3 := 0) C J (tq_held J i (i + 1)) dL_seen_83 (Nat.le_of_ble_eq_true rfl) ⟨Nat.zero_le _, Nat.zero_le _⟩ ?_ Dp Bt Sq se
      intro Dp Bt Sq se
      refine xi_i2l C.1 dL_seen_86 ?_
      refine xi_ladd C.1 dL_seen_87 ?_
      refine xi_lmul C.1 dL_seen_88 ?_
      refine xi_aload_n C.1 dL_seen_89 rfl 0 rfl ?_
      refine xi_iload_n C.1 dL_seen_90 rfl 2 rfl ?_
      refine xi_iload_n C.1 dL_seen_91 rfl 2 rfl ?_
      refine xi_bipush (v := nI 6) C.1 dL_seen_92 (by decide +kernel) ?_
      refine xi_iadd C.1 dL_seen_94 ?_
      refine xb_top (b := nI (i + 6)) (nI_add _ 6) ?_
      refine ow_15 (a1 := i) (a2 := (i + 6)) (a3 := 0) C J (tq_held J i (i + 6)) dL_seen_95 (Nat.le_of_ble_eq_true rfl) ⟨Nat.zero_le _, Nat.zero_le _⟩ ?_ Dp Bt Sq se
      intro Dp Bt Sq se
      refine xi_i2l C.1 dL_seen_98 ?_
      refine xi_ladd C.1 dL_seen_99 ?_
      refine xb_topl (b := svm m.1 i (sv2 m.1 i (sv4 m.1 i) 7)) rfl ?_
      refine xj_lstore_n (lv2 := [(0, .ref (ad 0)), (1, .long (svm m.1 i (sv2 m.1 i (sv4 m.1 i) 7))), (3, .int (nI i)), (4, .int (nI 7))]) C.1 dL_seen_100 rfl (by decide) [0, 2, 3] [1, 0, 2, 3] rfl ?_
      refine xi_iconst (v := nI 0) C.1 dL_seen_101 (by decide +kernel) ?_
      refine xj_istore (lv2 := [(0, .ref (ad 0)), (1, .long (svm m.1 i (sv2 m.1 i (sv4 m.1 i) 7))), (3, .int (nI i)), (4, .int (nI 0))]) C.1 dL_seen_102 (by decide) [0, 1, 2] [1, 2, 3, 0] rfl ?_
      refine l3 i (svm m.1 i (sv2 m.1 i (sv4 m.1 i) 7)) 4 0 (by omega) ?_ Dp Bt Sq se
      intro Dp Bt Sq se
      refine xj_iinc (v := nI (i + 1)) (lv2 := [(0, .ref (ad 0)), (1, .long (sv4 m.1 (i + 1))), (3, .int (nI (i + 1))), (4, .int (nI 4))]) C.1 dL_seen_146 2 rfl (nI_add _ 1) (by decide) [0, 1, 3] [1, 2, 0, 3] rfl ?_
      refine xi_goto (tgt := 33) C.1 dL_seen_149 (by decide) ?_
      exact xb_lv (ih (i + 1) (by omega) g Dp Bt Sq se) [0, 1, 2] rfl
  refine xb_w (w' := W5m cI cC cR ad ha m Dp Bt Sq se ++ []) (List.append_nil _).symm ?_
  show xb_G X 0 0 (W5m cI cC cR ad ha m Dp Bt Sq se ++ []) [(0, .ref (ad 0))] 0 []
  refine xi_ldc2 (v := 103) C.1 dL_seen_0 (su_seen _ wc_9) ?_
  refine xj_lstore_n (lv2 := [(0, .ref (ad 0)), (1, .long 103)]) C.1 dL_seen_3 rfl (by decide) [0] [1, 0] rfl ?_
  refine xi_iconst (v := nI 0) C.1 dL_seen_4 (by decide +kernel) ?_
  refine xj_istore_n (lv2 := [(0, .ref (ad 0)), (1, .long 103), (3, .int (nI 0))]) C.1 dL_seen_5 rfl (by decide) [0, 1] [1, 2, 0] rfl ?_
  refine l1 9 0 (by omega) ?_ Dp Bt Sq se
  intro Dp Bt Sq se
  refine xi_iconst (v := nI 0) C.1 dL_seen_31 (by decide +kernel) ?_
  refine xj_istore_n (lv2 := [(0, .ref (ad 0)), (1, .long (sv1 m.1 9)), (3, .int (nI 0))]) C.1 dL_seen_32 rfl (by decide) [0, 1] [1, 2, 0] rfl ?_
  refine l4 24 0 (by omega) ?_ Dp Bt Sq se
  intro Dp Bt Sq se
  refine xi_lload_n C.1 dL_seen_152 rfl 1 rfl ?_
  exact xi_lretP C.1 Z (Nat.le_refl _) (Nat.le_refl _) oW_nil ⟨rfl, Dp, Bt, Sq, se, rfl⟩ dL_seen_153
