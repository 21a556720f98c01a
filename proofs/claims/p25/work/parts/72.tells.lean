/-! what an object tells, as numbers of its board; the law's digest of it -/
theorem xb_top {X : xb_C} {k n : Nat} {w : va_W} {lv : List (Nat × Value)} {pc : Nat} {st : List Value} {a b : Int32} (h : a = b) (g : xb_G X k n w lv pc (.int b :: st)) : xb_G X k n w lv pc (.int a :: st) := by
  rw [h]
  exact g
theorem xb_topl {X : xb_C} {k n : Nat} {w : va_W} {lv : List (Nat × Value)} {pc : Nat} {st : List Value} {a b : Int64} (h : a = b) (g : xb_G X k n w lv pc (.long b :: st)) : xb_G X k n w lv pc (.long a :: st) := by
  rw [h]
  exact g
def ct_n (b : xBd) (k : Nat) : Int32 := match f_X5_count b 0 z0 z0 0 0 (nI k) with
  | some r => r.1
  | none => 0
def ce_n (b : xBd) (p w : Nat) : Int32 := match f_X5_cell b z0 z0 0 (nI p) (nI w) with
  | some r => r.1
  | none => 0
def he_n (b : xBd) (p q : Nat) : Int32 := match f_X5_held b (nI p) (nI q) with
  | some r => r
  | none => 0
def pa_n (b : xBd) (p i s : Nat) : Int32 := match f_X5_path b (nI p) (nI i) (nI s) with
  | some r => r
  | none => 0
theorem tq_count {m : xMu} (J : GG m) {k : Nat} (hk : k < 9) : qf 21 k 0 0 m = some (ct_n m.1 k, m) := by
  obtain ⟨st, ik, le, now, pst, snp, txt, R⟩ := J
  obtain ⟨v, Dp', Sq', se', hld', dep', bit', e, -⟩ := o_count R z0 z0 z0 z0 z0 0 (nI k)
  have h0 : f_X5_count m.1 m.2.2.2.2.1 z0 z0 0 m.2.2.2.2.2.2.2.2.2.1 (nI k) = f_X5_count m.1 0 z0 z0 0 0 (nI k) := by
    rcases (show k = 0 ∨ k = 1 ∨ k = 2 ∨ k = 3 ∨ k = 4 ∨ k = 5 ∨ k = 6 ∨ k = 7 ∨ k = 8 by omega) with rfl | rfl | rfl | rfl | rfl | rfl | rfl | rfl | rfl <;> rfl
  have hv : ct_n m.1 k = v := by
    unfold ct_n
    rw [← h0, e]
  rw [hv]
  show qf_21 k 0 0 m = _
  unfold qf_21
  exact ob_s e rfl
theorem tq_cell {m : xMu} (J : GG m) (p w : Nat) : qf 13 p w 0 m = some (ce_n m.1 p w, m) := by
  obtain ⟨st, ik, le, now, pst, snp, txt, R⟩ := J
  obtain ⟨v, Dp', Sq', se', dep', bit', e, -⟩ := o_cell R z0 z0 z0 z0 0 (nI p) (nI w)
  have hv : ce_n m.1 p w = v := by
    unfold ce_n
    rw [e]
  rw [hv]
  show qf_13 p w 0 m = _
  unfold qf_13
  exact ob_s e rfl
theorem tq_held {m : xMu} (J : GG m) (p q : Nat) : qf 15 p q 0 m = some (he_n m.1 p q, m) := by
  obtain ⟨st, ik, le, now, pst, snp, txt, R⟩ := J
  obtain ⟨v, hld', e, -⟩ := o_held R z0 (nI p) (nI q)
  have hv : he_n m.1 p q = v := by
    unfold he_n
    rw [e]
  rw [hv]
  show qf_15 p q 0 m = _
  unfold qf_15
  exact ob_s e rfl
theorem tq_path {m : xMu} (J : GG m) (p i s : Nat) : qf 14 p i s m = some (pa_n m.1 p i s, m) := by
  obtain ⟨st, ik, le, now, pst, snp, txt, R⟩ := J
  obtain ⟨v, e, -⟩ := o_path R (nI p) (nI i) (nI s)
  have hv : pa_n m.1 p i s = v := by
    unfold pa_n
    rw [e]
  rw [hv]
  show qf_14 p i s m = _
  unfold qf_14
  exact ob_s e rfl
/-- the digest -/
def sv1 (b : xBd) : Nat → Int64
  | 0 => 103
  | k + 1 => 31 * sv1 b k + (ct_n b k).toInt64
def sv2 (b : xBd) (p : Nat) (h : Int64) : Nat → Int64
  | 0 => h
  | w + 1 => 31 * sv2 b p h w + (ce_n b p w).toInt64
def svm (b : xBd) (p : Nat) (h : Int64) : Int64 := 31 * (31 * h + (he_n b p (p + 1)).toInt64) + (he_n b p (p + 6)).toInt64
def sv3 (b : xBd) (p : Nat) (h : Int64) : Nat → Int64
  | 0 => h
  | s + 1 => 31 * (31 * sv3 b p h s + (pa_n b p 0 s).toInt64) + (pa_n b p 1 s).toInt64
def sv4 (b : xBd) : Nat → Int64
  | 0 => sv1 b 9
  | p + 1 => sv3 b p (svm b p (sv2 b p (sv4 b p) 7)) 4
def sv (b : xBd) : Int64 := sv4 b 24
