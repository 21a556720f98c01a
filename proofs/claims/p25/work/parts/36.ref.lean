/-! a second board of numbers, told in other words: what the law compared the class with elsewhere; here only its numbers serve, as a measure of what holds -/
def f_X6_in (p0 : Int32) (p1 : Int32) (p2 : Int32) : Option (Int32) :=
  if p0 < p1 then
    some 0
  else
    if p2 < p0 then
      some 0
    else
      some 1
def f_X6_lays_3 (N : Nat) (M : Nat) (f : Nat → Int32) (x1_3 : Int32) (x3_3 : Int32) (k : (Nat → Int32) → Option ((Nat → Int32))) : Nat → Int32 → (Nat → Int32) → Option ((Nat → Int32))
  | 0, _, _ => none
  | n + 1, x4_3, g_3 =>
    if 1898 ≤ x4_3 then
      k g_3
    else
      (xr_d f N (x1_3 + x4_3)).bind fun v2 =>
      (xr_w g_3 M (x3_3 + x4_3) v2).bind fun g5 =>
      f_X6_lays_3 N M f x1_3 x3_3 k n (x4_3 + 1) g5
def f_X6_lays (N : Nat) (M : Nat) (f : Nat → Int32) (g : Nat → Int32) (p1 : Int32) (p3 : Int32) : Option ((Nat → Int32)) :=
  f_X6_lays_3 N M f p1 p3 (fun gz6 =>
    some gz6) xFu 0 g
def f_X6_records_10 (k : (Nat → Int32) → Option (Int32 × (Nat → Int32))) : Nat → Int32 → (Nat → Int32) → Option (Int32 × (Nat → Int32))
  | 0, _, _ => none
  | n + 1, x1_10, pst_10 =>
    if 5694 ≤ x1_10 then
      k pst_10
    else
      (xr_d pst_10 7592 (x1_10 + 1898)).bind fun v5 =>
      (xr_w pst_10 7592 x1_10 v5).bind fun pst8 =>
      f_X6_records_10 k n (x1_10 + 1) pst8
def f_X6_records (st : Int32) (now : Nat → Int32) (pst : Nat → Int32) : Option (Int32 × (Nat → Int32)) :=
  if st = 4 then
    f_X6_records_10 (fun pstz9 =>
      (f_X6_lays 1898 7592 now pstz9 0 (1898 * (st - 1))).bind fun g10 =>
      some ((st - 1) + 1, g10)) xFu 0 pst
  else
    (f_X6_lays 1898 7592 now pst 0 (1898 * st)).bind fun g2 =>
    some (st + 1, g2)
def f_X6_isPlace (p0 : Int32) : Option (Int32) :=
  (f_X6_in p0 0 23).bind fun v1 =>
  (xr_z v1).bind fun v3 =>
  some v3
def f_X6_isCell (rr : Nat → Int32) (p1 : Int32) : Option (Int32) :=
  (f_X6_isPlace p1).bind fun v1 =>
  if v1 = 0 then
    some 0
  else
    (xr_d rr 1898 (0 + p1)).bind fun v4 =>
    if v4 = (-5) then
      some 0
    else
      some 1
def f_X6_cells_4 (rr : Nat → Int32) (k : Int32 → Option (Int32)) : Nat → Int32 → Int32 → Option (Int32)
  | 0, _, _ => none
  | n + 1, x1_4, x2_4 =>
    if 24 ≤ x2_4 then
      k x1_4
    else
      (f_X6_isCell rr x2_4).bind fun v2 =>
      if v2 = 0 then
        f_X6_cells_4 rr k n (x1_4 + 0) (x2_4 + 1)
      else
        f_X6_cells_4 rr k n (x1_4 + 1) (x2_4 + 1)
def f_X6_cells (rr : Nat → Int32) : Option (Int32) :=
  f_X6_cells_4 rr (fun x1z5 =>
    some x1z5) xFu 0 0
def f_X6_junction (p0 : Int32) : Option (Int32) :=
  if 24 ≤ p0 then
    if p0 < 32 then
      if 28 ≤ p0 then
        some ((6 * (p0 - p0 / 4 * 4)) + 5)
      else
        some ((6 * (p0 - p0 / 4 * 4)) + 0)
    else
      some (-5)
  else
    some p0
def f_X6_isWire (rr : Nat → Int32) (p1 : Int32) : Option (Int32) :=
  (f_X6_isCell rr (p1 / 3)).bind fun v1 =>
  if v1 = 0 then
    some 0
  else
    (xr_d rr 1898 (24 + p1)).bind fun v4 =>
    if 32 ≤ v4 then
      some 0
    else
      some 1
def f_X6_areBeside (p0 : Int32) (p1 : Int32) : Option (Int32) :=
  if p1 ≤ p0 then
    if (p0 - p1) = 6 then
      some 1
    else
      if (p0 - p1) = 1 then
        if (p0 / 6) = (p1 / 6) then
          some 1
        else
          some 0
      else
        some 0
  else
    if (p1 - p0) = 6 then
      some 1
    else
      if (p1 - p0) = 1 then
        if (p0 / 6) = (p1 / 6) then
          some 1
        else
          some 0
      else
        some 0
def f_X6_segment (p0 : Int32) (p1 : Int32) : Option (Int32) :=
  if p1 ≤ p0 then
    if p1 ≤ p0 then
      if (p0 - p1) = 6 then
        some (24 + p1)
      else
        some p1
    else
      if (p1 - p1) = 6 then
        some (24 + p1)
      else
        some p1
  else
    if p1 ≤ p0 then
      if (p0 - p0) = 6 then
        some (24 + p0)
      else
        some p0
    else
      if (p1 - p0) = 6 then
        some (24 + p0)
      else
        some p0
def f_X6_counts_31 (rr : Nat → Int32) (x2_31 : Int32) (k : (Nat → Int32) → Option ((Nat → Int32))) : Nat → Int32 → (Nat → Int32) → Option ((Nat → Int32))
  | 0, _, _ => none
  | n + 1, x3_31, hld_31 =>
    (xr_d rr 1898 (96 + x2_31)).bind fun v6 =>
    if v6 ≤ x3_31 then
      k hld_31
    else
      (xr_d rr 1898 (((168 + (24 * x2_31)) + x3_31) - 1)).bind fun v9 =>
      (xr_d rr 1898 ((168 + (24 * x2_31)) + x3_31)).bind fun v11 =>
      (f_X6_segment v9 v11).bind fun v13 =>
      (xr_d hld_31 48 v13).bind fun v15 =>
      (xr_w hld_31 48 v13 (v15 + 1)).bind fun hld18 =>
      f_X6_counts_31 rr x2_31 k n (x3_31 + 1) hld18
def f_X6_counts_23 (rr : Nat → Int32) (k : (Nat → Int32) → Option ((Nat → Int32))) : Nat → Int32 → (Nat → Int32) → Option ((Nat → Int32))
  | 0, _, _ => none
  | n + 1, x2_23, hld_23 =>
    if 72 ≤ x2_23 then
      k hld_23
    else
      f_X6_counts_31 rr x2_23 (fun hldz19 =>
        f_X6_counts_23 rr k n (x2_23 + 1) hldz19) xFu 1 hld_23
def f_X6_counts_2 (k : (Nat → Int32) → Option ((Nat → Int32))) : Nat → Int32 → (Nat → Int32) → Option ((Nat → Int32))
  | 0, _, _ => none
  | n + 1, x2_2, hld_2 =>
    if 48 ≤ x2_2 then
      k hld_2
    else
      (xr_w hld_2 48 x2_2 0).bind fun hld3 =>
      f_X6_counts_2 k n (x2_2 + 1) hld3
def f_X6_counts (hld : Nat → Int32) (rr : Nat → Int32) : Option ((Nat → Int32)) :=
  f_X6_counts_2 (fun hldz4 =>
    f_X6_counts_23 rr (fun hldz20 =>
      some hldz20) xFu 0 hldz4) xFu 0 hld
def f_X6_mostHeld_4 (hld : Nat → Int32) (k : Int32 → Option (Int32)) : Nat → Int32 → Int32 → Option (Int32)
  | 0, _, _ => none
  | n + 1, x1_4, x2_4 =>
    if 48 ≤ x2_4 then
      k x1_4
    else
      (xr_d hld 48 x2_4).bind fun v2 =>
      if v2 ≤ x1_4 then
        f_X6_mostHeld_4 hld k n x1_4 (x2_4 + 1)
      else
        (xr_d hld 48 x2_4).bind fun v5 =>
        f_X6_mostHeld_4 hld k n v5 (x2_4 + 1)
def f_X6_mostHeld (hld : Nat → Int32) : Option (Int32) :=
  f_X6_mostHeld_4 hld (fun x1z7 =>
    some x1z7) xFu 0 0
def f_X6_cost (hld : Nat → Int32) (rr : Nat → Int32) (p2 : Int32) (p3 : Int32) : Option (Int32) :=
  (f_X6_segment p2 p3).bind fun v1 =>
  (xr_d hld 48 v1).bind fun v3 =>
  (xr_d rr 1898 1896).bind fun v5 =>
  if v3 < v5 then
    (xr_d rr 1898 1897).bind fun v8 =>
    some (1 + (v3 * v8))
  else
    some 1000000
def f_X6_beside (p0 : Int32) (p1 : Int32) : Option (Int32) :=
  if p1 = 0 then
    (f_X6_isPlace (p0 + (-6))).bind fun v22 =>
    if v22 = 0 then
      some (-5)
    else
      (f_X6_areBeside p0 (p0 + (-6))).bind fun v25 =>
      if v25 = 0 then
        some (-5)
      else
        some (p0 + (-6))
  else
    if p1 = 1 then
      (f_X6_isPlace (p0 + (-1))).bind fun v16 =>
      if v16 = 0 then
        some (-5)
      else
        (f_X6_areBeside p0 (p0 + (-1))).bind fun v19 =>
        if v19 = 0 then
          some (-5)
        else
          some (p0 + (-1))
    else
      if p1 = 2 then
        (f_X6_isPlace (p0 + 1)).bind fun v10 =>
        if v10 = 0 then
          some (-5)
        else
          (f_X6_areBeside p0 (p0 + 1)).bind fun v13 =>
          if v13 = 0 then
            some (-5)
          else
            some (p0 + 1)
      else
        (f_X6_isPlace (p0 + 6)).bind fun v4 =>
        if v4 = 0 then
          some (-5)
        else
          (f_X6_areBeside p0 (p0 + 6)).bind fun v7 =>
          if v7 = 0 then
            some (-5)
          else
            some (p0 + 6)
def f_X6_reaches_42 (hld : Nat → Int32) (rr : Nat → Int32) (k : Int32 → (Nat → Int32) → Option ((Nat → Int32))) : Nat → Int32 → Int32 → (Nat → Int32) → Option ((Nat → Int32))
  | 0, _, _, _ => none
  | n + 1, x3_42, x4_42, far_42 =>
    if 96 ≤ x4_42 then
      k x3_42 far_42
    else
      (f_X6_beside (x4_42 / 4) (x4_42 - x4_42 / 4 * 4)).bind fun v10 =>
      if v10 = (-5) then
        (xr_d far_42 24 (x4_42 / 4)).bind fun v22 =>
        if v22 ≤ 1000000 then
          f_X6_reaches_42 hld rr k n x3_42 (x4_42 + 1) far_42
        else
          (xr_w far_42 24 (x4_42 / 4) 1000000).bind fun far26 =>
          f_X6_reaches_42 hld rr k n 1 (x4_42 + 1) far26
      else
        (xr_d far_42 24 v10).bind fun v13 =>
        (f_X6_cost hld rr (x4_42 / 4) v10).bind fun v15 =>
        (xr_d far_42 24 (x4_42 / 4)).bind fun v17 =>
        if v17 ≤ (v13 + v15) then
          f_X6_reaches_42 hld rr k n x3_42 (x4_42 + 1) far_42
        else
          (xr_w far_42 24 (x4_42 / 4) (v13 + v15)).bind fun far21 =>
          f_X6_reaches_42 hld rr k n 1 (x4_42 + 1) far21
def f_X6_reaches_33 (hld : Nat → Int32) (rr : Nat → Int32) (k : (Nat → Int32) → Option ((Nat → Int32))) : Nat → Int32 → (Nat → Int32) → Option ((Nat → Int32))
  | 0, _, _ => none
  | n + 1, x3_33, far_33 =>
    if x3_33 = 0 then
      k far_33
    else
      f_X6_reaches_42 hld rr (fun x3z27 farz27 =>
        f_X6_reaches_33 hld rr k n x3z27 farz27) xFu 0 0 far_33
def f_X6_reaches_2 (x2_2 : Int32) (k : (Nat → Int32) → Option ((Nat → Int32))) : Nat → Int32 → (Nat → Int32) → Option ((Nat → Int32))
  | 0, _, _ => none
  | n + 1, x3_2, far_2 =>
    if 24 ≤ x3_2 then
      k far_2
    else
      if x3_2 = x2_2 then
        (xr_w far_2 24 x3_2 0).bind fun far6 =>
        f_X6_reaches_2 x2_2 k n (x3_2 + 1) far6
      else
        (xr_w far_2 24 x3_2 1000000).bind fun far4 =>
        f_X6_reaches_2 x2_2 k n (x3_2 + 1) far4
def f_X6_reaches (hld : Nat → Int32) (far : Nat → Int32) (rr : Nat → Int32) (p2 : Int32) : Option ((Nat → Int32)) :=
  f_X6_reaches_2 p2 (fun farz7 =>
    f_X6_reaches_33 hld rr (fun farz28 =>
      some farz28) xFu 1 farz7) xFu 0 far
def f_X6_nextOn_2 (hld : Nat → Int32) (far : Nat → Int32) (rr : Nat → Int32) (x2_2 : Int32) (k : Option (Int32)) : Nat → Int32 → Option (Int32)
  | 0, _ => none
  | n + 1, x3_2 =>
    if 4 ≤ x3_2 then
      k
    else
      (f_X6_beside x2_2 x3_2).bind fun v2 =>
      if v2 = (-5) then
        f_X6_nextOn_2 hld far rr x2_2 k n (x3_2 + 1)
      else
        (xr_d far 24 v2).bind fun v5 =>
        (f_X6_cost hld rr x2_2 v2).bind fun v7 =>
        (xr_d far 24 x2_2).bind fun v9 =>
        if (v5 + v7) = v9 then
          some v2
        else
          f_X6_nextOn_2 hld far rr x2_2 k n (x3_2 + 1)
def f_X6_nextOn (hld : Nat → Int32) (far : Nat → Int32) (rr : Nat → Int32) (p2 : Int32) : Option (Int32) :=
  f_X6_nextOn_2 hld far rr p2 (
    some (-5)) xFu 0
def f_X6_isLaid_101 (rr_101 : Nat → Int32) (x2_101 : Int32) (x5_101 : Int32) (k : (Nat → Int32) → Option (Int32 × (Nat → Int32) × (Nat → Int32) × (Nat → Int32))) : Nat → Int32 → (Nat → Int32) → Option (Int32 × (Nat → Int32) × (Nat → Int32) × (Nat → Int32))
  | 0, _, _ => none
  | n + 1, x6_101, hld_101 =>
    if x5_101 ≤ x6_101 then
      k hld_101
    else
      (xr_d rr_101 1898 (((168 + (24 * x2_101)) + x6_101) - 1)).bind fun v21 =>
      (xr_d rr_101 1898 ((168 + (24 * x2_101)) + x6_101)).bind fun v23 =>
      (f_X6_segment v21 v23).bind fun v25 =>
      (xr_d hld_101 48 v25).bind fun v27 =>
      (xr_w hld_101 48 v25 (v27 + 1)).bind fun hld30 =>
      f_X6_isLaid_101 rr_101 x2_101 x5_101 k n (x6_101 + 1) hld30
def f_X6_isLaid_50 (hld_50 : Nat → Int32) (far_50 : Nat → Int32) (x2_50 : Int32) (x3_50 : Int32) (k : Int32 → (Nat → Int32) → Option (Int32 × (Nat → Int32) × (Nat → Int32) × (Nat → Int32))) : Nat → Int32 → Int32 → (Nat → Int32) → Option (Int32 × (Nat → Int32) × (Nat → Int32) × (Nat → Int32))
  | 0, _, _, _ => none
  | n + 1, x4_50, x5_50, rr_50 =>
    if x4_50 = x3_50 then
      k x5_50 rr_50
    else
      (f_X6_nextOn hld_50 far_50 rr_50 x4_50).bind fun v13 =>
      (xr_w rr_50 1898 ((168 + (24 * x2_50)) + x5_50) v13).bind fun rr16 =>
      f_X6_isLaid_50 hld_50 far_50 x2_50 x3_50 k n v13 (x5_50 + 1) rr16
def f_X6_isLaid (hld : Nat → Int32) (far : Nat → Int32) (rr : Nat → Int32) (p2 : Int32) : Option (Int32 × (Nat → Int32) × (Nat → Int32) × (Nat → Int32)) :=
  (xr_d rr 1898 (24 + p2)).bind fun v1 =>
  (f_X6_junction v1).bind fun v3 =>
  (f_X6_reaches hld far rr (p2 / 3)).bind fun far5 =>
  (xr_d far5 24 v3).bind fun v7 =>
  if v7 < 1000000 then
    (xr_w rr 1898 (168 + (24 * p2)) v3).bind fun rr11 =>
    f_X6_isLaid_50 hld far5 p2 (p2 / 3) (fun x5z17 rrz17 =>
      (xr_w rrz17 1898 (96 + p2) x5z17).bind fun rr19 =>
      f_X6_isLaid_101 rr19 p2 x5z17 (fun hldz31 =>
        some (1, hldz31, far5, rr19)) xFu 1 hld) xFu v3 1 rr11
  else
    some (0, hld, far5, rr)
def f_X6_takesWire_2 (x1_2 : Int32) (k : (Nat → Int32) → Option ((Nat → Int32))) : Nat → Int32 → (Nat → Int32) → Option ((Nat → Int32))
  | 0, _, _ => none
  | n + 1, x2_2, rr_2 =>
    if 24 ≤ x2_2 then
      k rr_2
    else
      (xr_w rr_2 1898 ((168 + (24 * x1_2)) + x2_2) 0).bind fun rr3 =>
      f_X6_takesWire_2 x1_2 k n (x2_2 + 1) rr3
def f_X6_takesWire (rr : Nat → Int32) (p1 : Int32) : Option ((Nat → Int32)) :=
  f_X6_takesWire_2 p1 (fun rrz4 =>
    (xr_w rrz4 1898 (96 + p1) 0).bind fun rr6 =>
    some rr6) xFu 0 rr
def f_X6_segments_4 (rr : Nat → Int32) (k : Int32 → Option (Int32)) : Nat → Int32 → Int32 → Option (Int32)
  | 0, _, _ => none
  | n + 1, x1_4, x2_4 =>
    if 72 ≤ x2_4 then
      k x1_4
    else
      (xr_d rr 1898 (96 + x2_4)).bind fun v2 =>
      if v2 ≤ 0 then
        f_X6_segments_4 rr k n (x1_4 + 0) (x2_4 + 1)
      else
        (xr_d rr 1898 (96 + x2_4)).bind fun v5 =>
        f_X6_segments_4 rr k n (x1_4 + (v5 - 1)) (x2_4 + 1)
def f_X6_segments (rr : Nat → Int32) : Option (Int32) :=
  f_X6_segments_4 rr (fun x1z7 =>
    some x1z7) xFu 0 0
def f_X6_size (p0 : Int32) : Option (Int32) :=
  if 0 ≤ p0 then
    some p0
  else
    some (-p0)
def f_X6_span (rr : Nat → Int32) (p1 : Int32) : Option (Int32) :=
  (xr_d rr 1898 (24 + p1)).bind fun v1 =>
  (f_X6_junction v1).bind fun v3 =>
  (f_X6_size ((v3 - v3 / 6 * 6) - ((p1 / 3) - (p1 / 3) / 6 * 6))).bind fun v5 =>
  (f_X6_size ((v3 / 6) - ((p1 / 3) / 6))).bind fun v7 =>
  some (v5 + v7)
def f_X6_nextWire_6 (don : Nat → Int32) (rr : Nat → Int32) (x2_6 : Int32) (k : Int32 → Option (Int32)) : Nat → Int32 → Int32 → Option (Int32)
  | 0, _, _ => none
  | n + 1, x3_6, x4_6 =>
    if 72 ≤ x4_6 then
      k x3_6
    else
      (f_X6_isWire rr x4_6).bind fun v2 =>
      if v2 = 0 then
        f_X6_nextWire_6 don rr x2_6 k n x3_6 (x4_6 + 1)
      else
        (xr_d don 72 x4_6).bind fun v5 =>
        if v5 = 0 then
          if x3_6 = (-5) then
            if x3_6 = (-5) then
              f_X6_nextWire_6 don rr x2_6 k n x4_6 (x4_6 + 1)
            else
              if x2_6 = 1 then
                f_X6_nextWire_6 don rr x2_6 k n x3_6 (x4_6 + 1)
              else
                f_X6_nextWire_6 don rr x2_6 k n x3_6 (x4_6 + 1)
          else
            if x2_6 = 0 then
              if x3_6 = (-5) then
                f_X6_nextWire_6 don rr x2_6 k n x4_6 (x4_6 + 1)
              else
                if x2_6 = 1 then
                  f_X6_nextWire_6 don rr x2_6 k n x3_6 (x4_6 + 1)
                else
                  f_X6_nextWire_6 don rr x2_6 k n x3_6 (x4_6 + 1)
            else
              (f_X6_span rr x4_6).bind fun v14 =>
              (f_X6_span rr x3_6).bind fun v16 =>
              if x3_6 = (-5) then
                f_X6_nextWire_6 don rr x2_6 k n x4_6 (x4_6 + 1)
              else
                if x2_6 = 1 then
                  if (v14 - v16) ≤ 0 then
                    f_X6_nextWire_6 don rr x2_6 k n x3_6 (x4_6 + 1)
                  else
                    f_X6_nextWire_6 don rr x2_6 k n x4_6 (x4_6 + 1)
                else
                  if 0 ≤ (v14 - v16) then
                    f_X6_nextWire_6 don rr x2_6 k n x3_6 (x4_6 + 1)
                  else
                    f_X6_nextWire_6 don rr x2_6 k n x4_6 (x4_6 + 1)
        else
          f_X6_nextWire_6 don rr x2_6 k n x3_6 (x4_6 + 1)
def f_X6_nextWire (don : Nat → Int32) (rr : Nat → Int32) (p2 : Int32) : Option (Int32) :=
  f_X6_nextWire_6 don rr p2 (fun x3z26 =>
    some x3z26) xFu (-5) 0
def f_X6_laysAll_38 (x2_38 : Int32) (k : (Nat → Int32) → (Nat → Int32) → (Nat → Int32) → (Nat → Int32) → Option (Int32 × (Nat → Int32) × (Nat → Int32) × (Nat → Int32) × (Nat → Int32))) : Nat → Int32 → (Nat → Int32) → (Nat → Int32) → (Nat → Int32) → (Nat → Int32) → Option (Int32 × (Nat → Int32) × (Nat → Int32) × (Nat → Int32) × (Nat → Int32))
  | 0, _, _, _, _, _ => none
  | n + 1, x3_38, hld_38, far_38, don_38, rr_38 =>
    if x3_38 = (-5) then
      k hld_38 far_38 don_38 rr_38
    else
      (f_X6_isLaid hld_38 far_38 rr_38 x3_38).bind fun (v12, hld13, far14, rr15) =>
      if v12 = 0 then
        some ((-3), hld13, far14, don_38, rr15)
      else
        (xr_w don_38 72 x3_38 (vp_nar .boolean 1)).bind fun don19 =>
        (f_X6_nextWire don19 rr15 x2_38).bind fun v20 =>
        f_X6_laysAll_38 x2_38 k n v20 hld13 far14 don19 rr15
def f_X6_laysAll_2 (k : (Nat → Int32) → (Nat → Int32) → Option (Int32 × (Nat → Int32) × (Nat → Int32) × (Nat → Int32) × (Nat → Int32))) : Nat → Int32 → (Nat → Int32) → (Nat → Int32) → Option (Int32 × (Nat → Int32) × (Nat → Int32) × (Nat → Int32) × (Nat → Int32))
  | 0, _, _, _ => none
  | n + 1, x3_2, don_2, rr_2 =>
    if 72 ≤ x3_2 then
      k don_2 rr_2
    else
      (f_X6_takesWire rr_2 x3_2).bind fun rr2 =>
      (xr_w don_2 72 x3_2 (vp_nar .boolean 0)).bind fun don5 =>
      f_X6_laysAll_2 k n (x3_2 + 1) don5 rr2
def f_X6_laysAll (hld : Nat → Int32) (far : Nat → Int32) (don : Nat → Int32) (rr : Nat → Int32) (p2 : Int32) : Option (Int32 × (Nat → Int32) × (Nat → Int32) × (Nat → Int32) × (Nat → Int32)) :=
  f_X6_laysAll_2 (fun donz6 rrz6 =>
    (f_X6_counts hld rrz6).bind fun hld7 =>
    (f_X6_nextWire donz6 rrz6 p2).bind fun v9 =>
    f_X6_laysAll_38 p2 (fun hldz22 farz22 donz22 rrz22 =>
      (f_X6_segments rrz22).bind fun v23 =>
      some (v23, hldz22, farz22, donz22, rrz22)) xFu v9 hld7 far donz6 rrz6) xFu 0 don rr
def f_X6_put (st : Int32) (now : Nat → Int32) (pst : Nat → Int32) (p1 : Int32) (p2 : Int32) : Option (Int32 × Int32 × (Nat → Int32) × (Nat → Int32)) :=
  (f_X6_isPlace p1).bind fun v1 =>
  if v1 = 0 then
    some ((-1), st, now, pst)
  else
    (f_X6_in p2 0 255).bind fun v4 =>
    if v4 = 0 then
      some ((-2), st, now, pst)
    else
      (f_X6_isCell now p1).bind fun v7 =>
      if v7 = 0 then
        (f_X6_records st now pst).bind fun (st10, pst11) =>
        (xr_w now 1898 (0 + p1) p2).bind fun now14 =>
        (f_X6_cells now14).bind fun v15 =>
        some (v15, st10, now14, pst11)
      else
        some ((-4), st, now, pst)
def f_X6_having_5 (now : Nat → Int32) (x1_5 : Int32) (x2_5 : Int32) (k : Int32 → Option (Int32)) : Nat → Int32 → Int32 → Option (Int32)
  | 0, _, _ => none
  | n + 1, x3_5, x4_5 =>
    if 72 ≤ x4_5 then
      k x3_5
    else
      (f_X6_isWire now x4_5).bind fun v2 =>
      if v2 = 0 then
        f_X6_having_5 now x1_5 x2_5 k n (x3_5 + 0) (x4_5 + 1)
      else
        if (x4_5 / 3) = x2_5 then
          f_X6_having_5 now x1_5 x2_5 k n (x3_5 + 0) (x4_5 + 1)
        else
          (xr_d now 1898 (24 + x4_5)).bind fun v6 =>
          if v6 = x1_5 then
            f_X6_having_5 now x1_5 x2_5 k n (x3_5 + 1) (x4_5 + 1)
          else
            f_X6_having_5 now x1_5 x2_5 k n (x3_5 + 0) (x4_5 + 1)
def f_X6_having (now : Nat → Int32) (p1 : Int32) (p2 : Int32) : Option (Int32) :=
  f_X6_having_5 now p1 p2 (fun x3z9 =>
    some x3z9) xFu 0 0
def f_X6_empties_11 (x1_11 : Int32) (k : (Nat → Int32) → Option ((Nat → Int32))) : Nat → Int32 → (Nat → Int32) → Option ((Nat → Int32))
  | 0, _, _ => none
  | n + 1, x2_11, rr_11 =>
    if ((3 * x1_11) + 3) ≤ x2_11 then
      k rr_11
    else
      (xr_w rr_11 1898 (24 + x2_11) 32).bind fun rr5 =>
      (f_X6_takesWire rr5 x2_11).bind fun rr6 =>
      f_X6_empties_11 x1_11 k n (x2_11 + 1) rr6
def f_X6_empties (rr : Nat → Int32) (p1 : Int32) : Option ((Nat → Int32)) :=
  (xr_w rr 1898 (0 + p1) (-5)).bind fun rr2 =>
  f_X6_empties_11 p1 (fun rrz8 =>
    some rrz8) xFu (3 * p1) rr2
def f_X6_take (st : Int32) (now : Nat → Int32) (pst : Nat → Int32) (p1 : Int32) : Option (Int32 × Int32 × (Nat → Int32) × (Nat → Int32)) :=
  (f_X6_isCell now p1).bind fun v1 =>
  if v1 = 0 then
    some ((-1), st, now, pst)
  else
    (f_X6_having now p1 p1).bind fun v4 =>
    if v4 ≤ 0 then
      (f_X6_records st now pst).bind fun (st7, pst8) =>
      (f_X6_empties now p1).bind fun rr10 =>
      (f_X6_cells rr10).bind fun v12 =>
      some (v12, st7, rr10, pst8)
    else
      some ((-4), st, now, pst)
def f_X6_becomes (st : Int32) (now : Nat → Int32) (pst : Nat → Int32) (p1 : Int32) (p2 : Int32) : Option (Int32 × Int32 × (Nat → Int32) × (Nat → Int32)) :=
  (xr_d now 1898 p1).bind fun v1 =>
  if v1 = p2 then
    some ((-5), st, now, pst)
  else
    (f_X6_records st now pst).bind fun (st4, pst5) =>
    (xr_w now 1898 p1 p2).bind fun now8 =>
    some (v1, st4, now8, pst5)
def f_X6_setTable (st : Int32) (now : Nat → Int32) (pst : Nat → Int32) (p1 : Int32) (p2 : Int32) : Option (Int32 × Int32 × (Nat → Int32) × (Nat → Int32)) :=
  (f_X6_isCell now p1).bind fun v1 =>
  if v1 = 0 then
    some ((-1), st, now, pst)
  else
    (f_X6_in p2 0 255).bind fun v4 =>
    if v4 = 0 then
      some ((-2), st, now, pst)
    else
      (f_X6_becomes st now pst (0 + p1) p2).bind fun (v7, st8, now9, pst10) =>
      some (v7, st8, now9, pst10)
def f_X6_isSource (rr : Nat → Int32) (p1 : Int32) : Option (Int32) :=
  (f_X6_in p1 24 33).bind fun v1 =>
  if v1 = 0 then
    (f_X6_isCell rr p1).bind fun v4 =>
    if v4 = 0 then
      some 0
    else
      some 1
  else
    some 1
def f_X6_connect (st : Int32) (now : Nat → Int32) (thn : Nat → Int32) (pst : Nat → Int32) (hld : Nat → Int32) (far : Nat → Int32) (p1 : Int32) (p2 : Int32) (p3 : Int32) : Option (Int32 × Int32 × (Nat → Int32) × (Nat → Int32) × (Nat → Int32) × (Nat → Int32) × (Nat → Int32)) :=
  (f_X6_isCell now p1).bind fun v1 =>
  if v1 = 0 then
    some ((-1), st, now, thn, pst, hld, far)
  else
    (f_X6_in p2 0 2).bind fun v4 =>
    if v4 = 0 then
      some ((-1), st, now, thn, pst, hld, far)
    else
      (f_X6_isSource now p3).bind fun v7 =>
      if v7 = 0 then
        some ((-1), st, now, thn, pst, hld, far)
      else
        (xr_d now 1898 (24 + ((3 * p1) + p2))).bind fun v10 =>
        if v10 = p3 then
          some ((-5), st, now, thn, pst, hld, far)
        else
          (f_X6_lays 1898 1898 now thn 0 0).bind fun g13 =>
          (f_X6_takesWire g13 ((3 * p1) + p2)).bind fun rr15 =>
          (xr_w rr15 1898 (24 + ((3 * p1) + p2)) p3).bind fun thn18 =>
          (f_X6_counts hld thn18).bind fun hld19 =>
          (f_X6_isWire thn18 ((3 * p1) + p2)).bind fun v21 =>
          if v21 = 0 then
            (f_X6_records st now pst).bind fun (st24, pst25) =>
            (f_X6_lays 1898 1898 thn18 now 0 0).bind fun g27 =>
            (xr_d g27 1898 (96 + ((3 * p1) + p2))).bind fun v29 =>
            if v29 ≤ 0 then
              some (0, st24, g27, thn18, pst25, hld19, far)
            else
              (xr_d g27 1898 (96 + ((3 * p1) + p2))).bind fun v32 =>
              some (v32 - 1, st24, g27, thn18, pst25, hld19, far)
          else
            (f_X6_isLaid hld19 far thn18 ((3 * p1) + p2)).bind fun (v34, hld35, far36, rr37) =>
            if v34 = 0 then
              some ((-3), st, now, rr37, pst, hld35, far36)
            else
              (f_X6_records st now pst).bind fun (st40, pst41) =>
              (f_X6_lays 1898 1898 rr37 now 0 0).bind fun g43 =>
              (xr_d g43 1898 (96 + ((3 * p1) + p2))).bind fun v45 =>
              if v45 ≤ 0 then
                some (0, st40, g43, rr37, pst41, hld35, far36)
              else
                (xr_d g43 1898 (96 + ((3 * p1) + p2))).bind fun v48 =>
                some (v48 - 1, st40, g43, rr37, pst41, hld35, far36)
def f_X6_isChange (rr : Nat → Int32) (p1 : Int32) (p2 : Int32) : Option (Int32) :=
  if p1 = p2 then
    some 0
  else
    (f_X6_isCell rr p1).bind fun v2 =>
    if v2 = 0 then
      (f_X6_isCell rr p2).bind fun v5 =>
      if v5 = 0 then
        some 0
      else
        some 1
    else
      some 1
def f_X6_swapped_112 (x1_112 : Int32) (x2_112 : Int32) (k : (Nat → Int32) → Option (Int32 × (Nat → Int32) × (Nat → Int32) × (Nat → Int32) × (Nat → Int32))) : Nat → Int32 → (Nat → Int32) → Option (Int32 × (Nat → Int32) × (Nat → Int32) × (Nat → Int32) × (Nat → Int32))
  | 0, _, _ => none
  | n + 1, x3_112, thn_112 =>
    if 72 ≤ x3_112 then
      k thn_112
    else
      (xr_d thn_112 1898 (24 + x3_112)).bind fun v22 =>
      if v22 = x1_112 then
        (xr_w thn_112 1898 (24 + x3_112) x2_112).bind fun thn31 =>
        f_X6_swapped_112 x1_112 x2_112 k n (x3_112 + 1) thn31
      else
        if v22 = x2_112 then
          (xr_w thn_112 1898 (24 + x3_112) x1_112).bind fun thn29 =>
          f_X6_swapped_112 x1_112 x2_112 k n (x3_112 + 1) thn29
        else
          (xr_w thn_112 1898 (24 + x3_112) v22).bind fun thn27 =>
          f_X6_swapped_112 x1_112 x2_112 k n (x3_112 + 1) thn27
def f_X6_swapped_47 (now : Nat → Int32) (x1_47 : Int32) (x2_47 : Int32) (k : (Nat → Int32) → Option (Int32 × (Nat → Int32) × (Nat → Int32) × (Nat → Int32) × (Nat → Int32))) : Nat → Int32 → (Nat → Int32) → Option (Int32 × (Nat → Int32) × (Nat → Int32) × (Nat → Int32) × (Nat → Int32))
  | 0, _, _ => none
  | n + 1, x3_47, thn_47 =>
    if 3 ≤ x3_47 then
      k thn_47
    else
      (xr_d now 1898 ((24 + (3 * x2_47)) + x3_47)).bind fun v12 =>
      (xr_w thn_47 1898 ((24 + (3 * x1_47)) + x3_47) v12).bind fun thn15 =>
      (xr_d now 1898 ((24 + (3 * x1_47)) + x3_47)).bind fun v16 =>
      (xr_w thn15 1898 ((24 + (3 * x2_47)) + x3_47) v16).bind fun thn19 =>
      f_X6_swapped_47 now x1_47 x2_47 k n (x3_47 + 1) thn19
def f_X6_swapped (now : Nat → Int32) (thn : Nat → Int32) (hld : Nat → Int32) (far : Nat → Int32) (don : Nat → Int32) (p1 : Int32) (p2 : Int32) : Option (Int32 × (Nat → Int32) × (Nat → Int32) × (Nat → Int32) × (Nat → Int32)) :=
  (f_X6_lays 1898 1898 now thn 0 0).bind fun g1 =>
  (xr_d now 1898 (0 + p2)).bind fun v3 =>
  (xr_w g1 1898 (0 + p1) v3).bind fun thn6 =>
  (xr_d now 1898 (0 + p1)).bind fun v7 =>
  (xr_w thn6 1898 (0 + p2) v7).bind fun thn10 =>
  f_X6_swapped_47 now p1 p2 (fun thnz20 =>
    f_X6_swapped_112 p1 p2 (fun thnz32 =>
      (f_X6_laysAll hld far don thnz32 0).bind fun (v33, hld34, far35, don36, rr37) =>
      some (v33, rr37, hld34, far35, don36)) xFu 0 thnz20) xFu 0 thn10
def f_X6_accepts (st : Int32) (now : Nat → Int32) (thn : Nat → Int32) (pst : Nat → Int32) (p1 : Int32) : Option (Int32 × Int32 × (Nat → Int32) × (Nat → Int32)) :=
  if p1 < 0 then
    some (p1, st, now, pst)
  else
    (f_X6_records st now pst).bind fun (st2, pst3) =>
    (f_X6_lays 1898 1898 thn now 0 0).bind fun g5 =>
    some (p1, st2, g5, pst3)
def f_X6_swap (st : Int32) (now : Nat → Int32) (thn : Nat → Int32) (pst : Nat → Int32) (hld : Nat → Int32) (far : Nat → Int32) (don : Nat → Int32) (p1 : Int32) (p2 : Int32) : Option (Int32 × Int32 × (Nat → Int32) × (Nat → Int32) × (Nat → Int32) × (Nat → Int32) × (Nat → Int32) × (Nat → Int32)) :=
  (f_X6_isPlace p1).bind fun v1 =>
  if v1 = 0 then
    some ((-1), st, now, thn, pst, hld, far, don)
  else
    (f_X6_isPlace p2).bind fun v4 =>
    if v4 = 0 then
      some ((-1), st, now, thn, pst, hld, far, don)
    else
      (f_X6_isChange now p1 p2).bind fun v7 =>
      if v7 = 0 then
        some ((-5), st, now, thn, pst, hld, far, don)
      else
        (f_X6_swapped now thn hld far don p1 p2).bind fun (v10, thn11, hld12, far13, don14) =>
        (f_X6_accepts st now thn11 pst v10).bind fun (v16, st17, now18, pst19) =>
        some (v16, st17, now18, thn11, pst19, hld12, far13, don14)
def f_X6_ordered (now : Nat → Int32) (thn : Nat → Int32) (hld : Nat → Int32) (far : Nat → Int32) (don : Nat → Int32) (p1 : Int32) : Option (Int32 × (Nat → Int32) × (Nat → Int32) × (Nat → Int32) × (Nat → Int32)) :=
  (f_X6_lays 1898 1898 now thn 0 0).bind fun g1 =>
  (f_X6_laysAll hld far don g1 p1).bind fun (v3, hld4, far5, don6, rr7) =>
  some (v3, rr7, hld4, far5, don6)
def f_X6_layAnew (st : Int32) (now : Nat → Int32) (thn : Nat → Int32) (pst : Nat → Int32) (hld : Nat → Int32) (far : Nat → Int32) (don : Nat → Int32) (p1 : Int32) : Option (Int32 × Int32 × (Nat → Int32) × (Nat → Int32) × (Nat → Int32) × (Nat → Int32) × (Nat → Int32) × (Nat → Int32)) :=
  (f_X6_in p1 0 2).bind fun v1 =>
  if v1 = 0 then
    some ((-2), st, now, thn, pst, hld, far, don)
  else
    (f_X6_ordered now thn hld far don p1).bind fun (v4, thn5, hld6, far7, don8) =>
    (f_X6_accepts st now thn5 pst v4).bind fun (v10, st11, now12, pst13) =>
    some (v10, st11, now12, thn5, pst13, hld6, far7, don8)
def f_X6_set (st : Int32) (now : Nat → Int32) (pst : Nat → Int32) (hld : Nat → Int32) (p1 : Int32) (p2 : Int32) : Option (Int32 × Int32 × (Nat → Int32) × (Nat → Int32) × (Nat → Int32)) :=
  (f_X6_in p1 0 1).bind fun v1 =>
  if v1 = 0 then
    some ((-1), st, now, pst, hld)
  else
    if p1 = 0 then
      if p1 = 0 then
        (f_X6_in p2 1 4).bind fun v64 =>
        if v64 = 0 then
          some ((-2), st, now, pst, hld)
        else
          (f_X6_counts hld now).bind fun hld67 =>
          if p1 = 0 then
            (f_X6_mostHeld hld67).bind fun v75 =>
            if v75 ≤ p2 then
              (f_X6_becomes st now pst (1896 + p1) p2).bind fun (v78, st79, now80, pst81) =>
              some (v78, st79, now80, pst81, hld67)
            else
              some ((-4), st, now, pst, hld67)
          else
            (f_X6_becomes st now pst (1896 + p1) p2).bind fun (v70, st71, now72, pst73) =>
            some (v70, st71, now72, pst73, hld67)
      else
        (f_X6_in p2 1 9).bind fun v45 =>
        if v45 = 0 then
          some ((-2), st, now, pst, hld)
        else
          (f_X6_counts hld now).bind fun hld48 =>
          if p1 = 0 then
            (f_X6_mostHeld hld48).bind fun v56 =>
            if v56 ≤ p2 then
              (f_X6_becomes st now pst (1896 + p1) p2).bind fun (v59, st60, now61, pst62) =>
              some (v59, st60, now61, pst62, hld48)
            else
              some ((-4), st, now, pst, hld48)
          else
            (f_X6_becomes st now pst (1896 + p1) p2).bind fun (v51, st52, now53, pst54) =>
            some (v51, st52, now53, pst54, hld48)
    else
      if p1 = 0 then
        (f_X6_in p2 0 4).bind fun v25 =>
        if v25 = 0 then
          some ((-2), st, now, pst, hld)
        else
          (f_X6_counts hld now).bind fun hld28 =>
          if p1 = 0 then
            (f_X6_mostHeld hld28).bind fun v36 =>
            if v36 ≤ p2 then
              (f_X6_becomes st now pst (1896 + p1) p2).bind fun (v39, st40, now41, pst42) =>
              some (v39, st40, now41, pst42, hld28)
            else
              some ((-4), st, now, pst, hld28)
          else
            (f_X6_becomes st now pst (1896 + p1) p2).bind fun (v31, st32, now33, pst34) =>
            some (v31, st32, now33, pst34, hld28)
      else
        (f_X6_in p2 0 9).bind fun v6 =>
        if v6 = 0 then
          some ((-2), st, now, pst, hld)
        else
          (f_X6_counts hld now).bind fun hld9 =>
          if p1 = 0 then
            (f_X6_mostHeld hld9).bind fun v17 =>
            if v17 ≤ p2 then
              (f_X6_becomes st now pst (1896 + p1) p2).bind fun (v20, st21, now22, pst23) =>
              some (v20, st21, now22, pst23, hld9)
            else
              some ((-4), st, now, pst, hld9)
          else
            (f_X6_becomes st now pst (1896 + p1) p2).bind fun (v12, st13, now14, pst15) =>
            some (v12, st13, now14, pst15, hld9)
def f_X6_type (le : Int32) (txt : Nat → Int32) (p1 : Int32) : Option (Int32 × Int32 × (Nat → Int32)) :=
  if le = 80 then
    some ((-6), le, txt)
  else
    (xr_w txt 80 le (vp_nar .char p1)).bind fun txt3 =>
    some (le + 1, le + 1, txt3)
def f_X6_clearText (le : Int32) : Option (Int32 × Int32) :=
  some (le, 0)
def f_X6_sees (le : Int32) (sp : Int32) (txt : Nat → Int32) (p1 : Int32) (p2 : Int32) : Option (Int32) :=
  if le ≤ sp then
    some 0
  else
    (xr_d txt 80 sp).bind fun v2 =>
    (f_X6_in v2 p1 p2).bind fun v4 =>
    if v4 = 0 then
      some 0
    else
      some 1
def f_X6_takes (le : Int32) (sp : Int32) (txt : Nat → Int32) (p1 : Int32) : Option (Int32 × Int32) :=
  (f_X6_sees le sp txt p1 p1).bind fun v1 =>
  if v1 = 0 then
    (xr_z v1).bind fun v4 =>
    some (v4, sp + 0)
  else
    (xr_z v1).bind fun v6 =>
    some (v6, sp + 1)
def f_X6_isNumber_52 (le : Int32) (txt : Nat → Int32) (x1_52 : Int32) (k : Int32 → Int32 → Option (Int32 × Int32 × Int32)) : Nat → Int32 → Int32 → Option (Int32 × Int32 × Int32)
  | 0, _, _ => none
  | n + 1, sp_52, nu_52 =>
    if nu_52 ≤ 0 then
      k sp_52 nu_52
    else
      (f_X6_sees le sp_52 txt 48 57).bind fun v8 =>
      if v8 = 0 then
        k sp_52 nu_52
      else
        (xr_d txt 80 sp_52).bind fun v11 =>
        if x1_52 < (((10 * nu_52) + v11) - 48) then
          k sp_52 nu_52
        else
          (xr_d txt 80 sp_52).bind fun v14 =>
          f_X6_isNumber_52 le txt x1_52 k n (sp_52 + 1) (((10 * nu_52) + v14) - 48)
def f_X6_isNumber (le : Int32) (sp : Int32) (nu : Int32) (txt : Nat → Int32) (p1 : Int32) : Option (Int32 × Int32 × Int32) :=
  if 9 ≤ p1 then
    (f_X6_sees le sp txt 48 57).bind fun v2 =>
    if v2 = 0 then
      some (0, sp, nu)
    else
      (xr_d txt 80 sp).bind fun v5 =>
      f_X6_isNumber_52 le txt p1 (fun spz16 nuz16 =>
        some (1, spz16, nuz16)) xFu (sp + 1) (v5 - 48)
  else
    (f_X6_sees le sp txt 48 (48 + p1)).bind fun v17 =>
    if v17 = 0 then
      some (0, sp, nu)
    else
      (xr_d txt 80 sp).bind fun v20 =>
      f_X6_isNumber_52 le txt p1 (fun spz22 nuz22 =>
        some (1, spz22, nuz22)) xFu (sp + 1) (v20 - 48)
def f_X6_sixteenth (le : Int32) (sp : Int32) (txt : Nat → Int32) : Option (Int32 × Int32) :=
  (f_X6_sees le sp txt 48 57).bind fun v1 =>
  if v1 = 0 then
    (f_X6_sees le sp txt 97 102).bind fun v9 =>
    if v9 = 0 then
      some ((-5), sp)
    else
      if v1 = 0 then
        (xr_d txt 80 ((sp + 1) - 1)).bind fun v13 =>
        some ((v13 - 97) + 10, sp + 1)
      else
        (xr_d txt 80 ((sp + 1) - 1)).bind fun v15 =>
        some (v15 - 48, sp + 1)
  else
    if v1 = 0 then
      (xr_d txt 80 ((sp + 1) - 1)).bind fun v5 =>
      some ((v5 - 97) + 10, sp + 1)
    else
      (xr_d txt 80 ((sp + 1) - 1)).bind fun v7 =>
      some (v7 - 48, sp + 1)
def f_X6_isSourceTold (le : Int32) (sp : Int32) (nu : Int32) (txt : Nat → Int32) : Option (Int32 × Int32 × Int32) :=
  (f_X6_takes le sp txt 99).bind fun (v1, sp2) =>
  if v1 = 0 then
    (f_X6_takes le sp2 txt 112).bind fun (v5, sp6) =>
    if v5 = 0 then
      (f_X6_sees le sp6 txt 49 49).bind fun v9 =>
      if v9 = 0 then
        if v9 = 0 then
          (f_X6_takes le sp6 txt 48).bind fun (v13, sp14) =>
          (xr_z v13).bind fun v16 =>
          some (v16, sp14, 32)
        else
          (f_X6_takes le sp6 txt 49).bind fun (v18, sp19) =>
          (xr_z v18).bind fun v21 =>
          some (v21, sp19, 32)
      else
        if v9 = 0 then
          (f_X6_takes le sp6 txt 48).bind fun (v24, sp25) =>
          (xr_z v24).bind fun v27 =>
          some (v27, sp25, 33)
        else
          (f_X6_takes le sp6 txt 49).bind fun (v29, sp30) =>
          (xr_z v29).bind fun v32 =>
          some (v32, sp30, 33)
    else
      (f_X6_isNumber le sp6 nu txt 7).bind fun (v34, sp35, nu36) =>
      (xr_z v34).bind fun v38 =>
      some (v38, sp35, nu36 + 24)
  else
    (f_X6_isNumber le sp2 nu txt 23).bind fun (v40, sp41, nu42) =>
    (xr_z v40).bind fun v44 =>
    some (v44, sp41, nu42)
def f_X6_areSources_30 (le : Int32) (txt : Nat → Int32) (x1_30 : Int32) (k : Int32 → Int32 → (Nat → Int32) → Option (Int32 × Int32 × Int32 × (Nat → Int32))) : Nat → Int32 → Int32 → Int32 → (Nat → Int32) → Option (Int32 × Int32 × Int32 × (Nat → Int32))
  | 0, _, _, _, _ => none
  | n + 1, x2_30, sp_30, nu_30, tld_30 =>
    if 3 ≤ x2_30 then
      k sp_30 nu_30 tld_30
    else
      (f_X6_takes le sp_30 txt 47).bind fun (v6, sp7) =>
      if v6 = 0 then
        k sp7 nu_30 tld_30
      else
        (f_X6_isSourceTold le sp7 nu_30 txt).bind fun (v10, sp11, nu12) =>
        if v10 = 0 then
          some (0, sp11, nu12, tld_30)
        else
          (xr_w tld_30 96 ((24 + (3 * x1_30)) + x2_30) nu12).bind fun tld16 =>
          f_X6_areSources_30 le txt x1_30 k n (x2_30 + 1) sp11 nu12 tld16
def f_X6_areSources_2 (x1_2 : Int32) (k : (Nat → Int32) → Option (Int32 × Int32 × Int32 × (Nat → Int32))) : Nat → Int32 → (Nat → Int32) → Option (Int32 × Int32 × Int32 × (Nat → Int32))
  | 0, _, _ => none
  | n + 1, x2_2, tld_2 =>
    if 3 ≤ x2_2 then
      k tld_2
    else
      (xr_w tld_2 96 ((24 + (3 * x1_2)) + x2_2) 32).bind fun tld3 =>
      f_X6_areSources_2 x1_2 k n (x2_2 + 1) tld3
def f_X6_areSources (le : Int32) (sp : Int32) (nu : Int32) (txt : Nat → Int32) (tld : Nat → Int32) (p1 : Int32) : Option (Int32 × Int32 × Int32 × (Nat → Int32)) :=
  f_X6_areSources_2 p1 (fun tldz4 =>
    f_X6_areSources_30 le txt p1 (fun spz17 nuz17 tldz17 =>
      some (1, spz17, nuz17, tldz17)) xFu 0 sp nu tldz4) xFu 0 tld
def f_X6_isCellTold (le : Int32) (sp : Int32) (nu : Int32) (txt : Nat → Int32) (tld : Nat → Int32) : Option (Int32 × Int32 × Int32 × (Nat → Int32)) :=
  (f_X6_isNumber le sp nu txt 23).bind fun (v1, sp2, nu3) =>
  if v1 = 0 then
    some (0, sp2, nu3, tld)
  else
    (f_X6_takes le sp2 txt 61).bind fun (v6, sp7) =>
    if v6 = 0 then
      some (0, sp7, nu3, tld)
    else
      (f_X6_sixteenth le sp7 txt).bind fun (v10, sp11) =>
      if v10 = (-5) then
        some (0, sp11, nu3, tld)
      else
        (f_X6_sixteenth le sp11 txt).bind fun (v14, sp15) =>
        if v14 = (-5) then
          some (0, sp15, nu3, tld)
        else
          (xr_w tld 96 nu3 ((16 * v10) + v14)).bind fun tld19 =>
          (f_X6_areSources le sp15 nu3 txt tld19 nu3).bind fun (v20, sp21, nu22, tld23) =>
          (xr_z v20).bind fun v25 =>
          some (v25, sp21, nu22, tld23)
def f_X6_fault_29 (le : Int32) (txt : Nat → Int32) (k : Int32 → Int32 → (Nat → Int32) → Option (Int32 × Int32 × Int32 × (Nat → Int32))) : Nat → Int32 → Int32 → Int32 → (Nat → Int32) → Option (Int32 × Int32 × Int32 × (Nat → Int32))
  | 0, _, _, _, _ => none
  | n + 1, x1_29, sp_29, nu_29, tld_29 =>
    if x1_29 = 0 then
      k sp_29 nu_29 tld_29
    else
      (f_X6_isCellTold le sp_29 nu_29 txt tld_29).bind fun (v6, sp7, nu8, tld9) =>
      if v6 = 0 then
        some (sp7, sp7, nu8, tld9)
      else
        (f_X6_takes le sp7 txt 59).bind fun (v12, sp13) =>
        f_X6_fault_29 le txt k n v12 sp13 nu8 tld9
def f_X6_fault_7 (k : (Nat → Int32) → Option (Int32 × Int32 × Int32 × (Nat → Int32))) : Nat → Int32 → (Nat → Int32) → Option (Int32 × Int32 × Int32 × (Nat → Int32))
  | 0, _, _ => none
  | n + 1, x1_7, tld_7 =>
    if 24 ≤ x1_7 then
      k tld_7
    else
      (xr_w tld_7 96 x1_7 (-5)).bind fun tld3 =>
      f_X6_fault_7 k n (x1_7 + 1) tld3
def f_X6_fault (le : Int32) (sp : Int32) (nu : Int32) (txt : Nat → Int32) (tld : Nat → Int32) : Option (Int32 × Int32 × Int32 × (Nat → Int32)) :=
  f_X6_fault_7 (fun tldz4 =>
    f_X6_fault_29 le txt (fun spz15 nuz15 tldz15 =>
      if spz15 = le then
        some ((-5), spz15, nuz15, tldz15)
      else
        some (spz15, spz15, nuz15, tldz15)) xFu 1 0 nu tldz4) xFu 0 tld
def f_X6_load_67 (st_67 : Int32) (sp_67 : Int32) (nu_67 : Int32) (now_67 : Nat → Int32) (pst_67 : Nat → Int32) (hld_67 : Nat → Int32) (far_67 : Nat → Int32) (don_67 : Nat → Int32) (tld_67 : Nat → Int32) (k : (Nat → Int32) → Option (Int32 × Int32 × Int32 × Int32 × (Nat → Int32) × (Nat → Int32) × (Nat → Int32) × (Nat → Int32) × (Nat → Int32) × (Nat → Int32) × (Nat → Int32))) : Nat → Int32 → (Nat → Int32) → Option (Int32 × Int32 × Int32 × Int32 × (Nat → Int32) × (Nat → Int32) × (Nat → Int32) × (Nat → Int32) × (Nat → Int32) × (Nat → Int32) × (Nat → Int32))
  | 0, _, _ => none
  | n + 1, x2_67, thn_67 =>
    if 72 ≤ x2_67 then
      k thn_67
    else
      (xr_d tld_67 96 (x2_67 / 3)).bind fun v18 =>
      if v18 = (-5) then
        f_X6_load_67 st_67 sp_67 nu_67 now_67 pst_67 hld_67 far_67 don_67 tld_67 k n (x2_67 + 1) thn_67
      else
        (xr_d tld_67 96 (24 + x2_67)).bind fun v21 =>
        (xr_w thn_67 1898 (24 + x2_67) v21).bind fun thn24 =>
        (xr_d thn24 1898 (24 + x2_67)).bind fun v25 =>
        (f_X6_isSource thn24 v25).bind fun v27 =>
        if v27 = 0 then
          some ((-4), st_67, sp_67, nu_67, now_67, thn24, pst_67, hld_67, far_67, don_67, tld_67)
        else
          f_X6_load_67 st_67 sp_67 nu_67 now_67 pst_67 hld_67 far_67 don_67 tld_67 k n (x2_67 + 1) thn24
def f_X6_load_31 (tld_31 : Nat → Int32) (k : (Nat → Int32) → Option (Int32 × Int32 × Int32 × Int32 × (Nat → Int32) × (Nat → Int32) × (Nat → Int32) × (Nat → Int32) × (Nat → Int32) × (Nat → Int32) × (Nat → Int32))) : Nat → Int32 → (Nat → Int32) → Option (Int32 × Int32 × Int32 × Int32 × (Nat → Int32) × (Nat → Int32) × (Nat → Int32) × (Nat → Int32) × (Nat → Int32) × (Nat → Int32) × (Nat → Int32))
  | 0, _, _ => none
  | n + 1, x2_31, thn_31 =>
    if 24 ≤ x2_31 then
      k thn_31
    else
      (f_X6_empties thn_31 x2_31).bind fun rr10 =>
      (xr_d tld_31 96 x2_31).bind fun v12 =>
      (xr_w rr10 1898 (0 + x2_31) v12).bind fun thn15 =>
      f_X6_load_31 tld_31 k n (x2_31 + 1) thn15
def f_X6_load (st : Int32) (le : Int32) (sp : Int32) (nu : Int32) (now : Nat → Int32) (thn : Nat → Int32) (pst : Nat → Int32) (txt : Nat → Int32) (hld : Nat → Int32) (far : Nat → Int32) (don : Nat → Int32) (tld : Nat → Int32) : Option (Int32 × Int32 × Int32 × Int32 × (Nat → Int32) × (Nat → Int32) × (Nat → Int32) × (Nat → Int32) × (Nat → Int32) × (Nat → Int32) × (Nat → Int32)) :=
  (f_X6_fault le sp nu txt tld).bind fun (v1, sp2, nu3, tld4) =>
  if v1 = (-5) then
    (f_X6_lays 1898 1898 now thn 0 0).bind fun g7 =>
    f_X6_load_31 tld4 (fun thnz16 =>
      f_X6_load_67 st sp2 nu3 now pst hld far don tld4 (fun thnz30 =>
        (f_X6_laysAll hld far don thnz30 0).bind fun (v31, hld32, far33, don34, rr35) =>
        (f_X6_accepts st now rr35 pst v31).bind fun (v37, st38, now39, pst40) =>
        if 0 ≤ v37 then
          (f_X6_cells now39).bind fun v43 =>
          some (v43, st38, sp2, nu3, now39, rr35, pst40, hld32, far33, don34, tld4)
        else
          some (v37, st38, sp2, nu3, now39, rr35, pst40, hld32, far33, don34, tld4)) xFu 0 thnz16) xFu 0 g7
  else
    some ((-100) - v1, st, sp2, nu3, now, thn, pst, hld, far, don, tld4)
def f_X6_undo (st : Int32) (now : Nat → Int32) (pst : Nat → Int32) : Option (Int32 × Int32 × (Nat → Int32)) :=
  if st = 0 then
    some ((-5), st, now)
  else
    (f_X6_lays 7592 1898 pst now (1898 * (st - 1)) 0).bind fun g2 =>
    some (st - 1, st - 1, g2)
def f_X6_keep (ik : Int32) (now : Nat → Int32) (snp : Nat → Int32) : Option (Int32 × Int32 × (Nat → Int32)) :=
  (f_X6_lays 1898 1898 now snp 0 0).bind fun g1 =>
  (f_X6_cells now).bind fun v3 =>
  some (v3, 1, g1)
def f_X6_restore (st : Int32) (ik : Int32) (now : Nat → Int32) (pst : Nat → Int32) (snp : Nat → Int32) : Option (Int32 × Int32 × (Nat → Int32) × (Nat → Int32)) :=
  if ik = 0 then
    some ((-5), st, now, pst)
  else
    (f_X6_records st now pst).bind fun (st2, pst3) =>
    (f_X6_lays 1898 1898 snp now 0 0).bind fun g5 =>
    (f_X6_cells g5).bind fun v7 =>
    some (v7, st2, g5, pst3)
def f_X6_under_4 (now : Nat → Int32) (dep : Nat → Int32) (x1_4 : Int32) (k : Int32 → Option (Int32)) : Nat → Int32 → Int32 → Option (Int32)
  | 0, _, _ => none
  | n + 1, x2_4, x3_4 =>
    if 3 ≤ x3_4 then
      k x2_4
    else
      (xr_d now 1898 ((24 + (3 * x1_4)) + x3_4)).bind fun v2 =>
      if 24 ≤ v2 then
        f_X6_under_4 now dep x1_4 k n x2_4 (x3_4 + 1)
      else
        if x2_4 = (-5) then
          f_X6_under_4 now dep x1_4 k n x2_4 (x3_4 + 1)
        else
          (xr_d dep 24 v2).bind fun v6 =>
          if v6 = (-5) then
            f_X6_under_4 now dep x1_4 k n (-5) (x3_4 + 1)
          else
            (xr_d dep 24 v2).bind fun v9 =>
            if v9 ≤ x2_4 then
              f_X6_under_4 now dep x1_4 k n x2_4 (x3_4 + 1)
            else
              (xr_d dep 24 v2).bind fun v12 =>
              f_X6_under_4 now dep x1_4 k n v12 (x3_4 + 1)
def f_X6_under (now : Nat → Int32) (dep : Nat → Int32) (p1 : Int32) : Option (Int32) :=
  f_X6_under_4 now dep p1 (fun x2z14 =>
    some x2z14) xFu 0 0
def f_X6_bitOf (bit : Nat → Int32) (p1 : Int32) (p2 : Int32) : Option (Int32) :=
  if 24 ≤ p1 then
    if 32 ≤ p1 then
      some (p1 - 32)
    else
      some ((p2 >>> ((p1 - 24) &&& 31)) &&& 1)
  else
    (xr_d bit 24 p1).bind fun v3 =>
    some v3
def f_X6_lookedUp_5 (now : Nat → Int32) (bit : Nat → Int32) (x1_5 : Int32) (x2_5 : Int32) (k : Int32 → Option (Int32)) : Nat → Int32 → Int32 → Option (Int32)
  | 0, _, _ => none
  | n + 1, x3_5, x4_5 =>
    if 3 ≤ x4_5 then
      k x3_5
    else
      (xr_d now 1898 ((24 + (3 * x1_5)) + x4_5)).bind fun v2 =>
      (f_X6_bitOf bit v2 x2_5).bind fun v4 =>
      f_X6_lookedUp_5 now bit x1_5 x2_5 k n (x3_5 ||| (v4 <<< (x4_5 &&& 31))) (x4_5 + 1)
def f_X6_lookedUp (now : Nat → Int32) (bit : Nat → Int32) (p1 : Int32) (p2 : Int32) : Option (Int32) :=
  f_X6_lookedUp_5 now bit p1 p2 (fun x3z6 =>
    (xr_d now 1898 (0 + p1)).bind fun v7 =>
    some ((v7 >>> (x3z6 &&& 31)) &&& 1)) xFu 0 0
def f_X6_answers_39 (now : Nat → Int32) (x1_39 : Int32) (k : Int32 → (Nat → Int32) → (Nat → Int32) → Option ((Nat → Int32) × (Nat → Int32))) : Nat → Int32 → Int32 → (Nat → Int32) → (Nat → Int32) → Option ((Nat → Int32) × (Nat → Int32))
  | 0, _, _, _, _ => none
  | n + 1, x2_39, x3_39, dep_39, bit_39 =>
    if 24 ≤ x3_39 then
      k x2_39 dep_39 bit_39
    else
      (f_X6_isCell now x3_39).bind fun v9 =>
      if v9 = 0 then
        f_X6_answers_39 now x1_39 k n x2_39 (x3_39 + 1) dep_39 bit_39
      else
        (xr_d dep_39 24 x3_39).bind fun v12 =>
        if v12 = (-5) then
          (f_X6_under now dep_39 x3_39).bind fun v15 =>
          if v15 = (-5) then
            f_X6_answers_39 now x1_39 k n x2_39 (x3_39 + 1) dep_39 bit_39
          else
            (f_X6_under now dep_39 x3_39).bind fun v18 =>
            (xr_w dep_39 24 x3_39 (v18 + 1)).bind fun dep21 =>
            (f_X6_lookedUp now bit_39 x3_39 x1_39).bind fun v22 =>
            (xr_w bit_39 24 x3_39 v22).bind fun bit25 =>
            f_X6_answers_39 now x1_39 k n 1 (x3_39 + 1) dep21 bit25
        else
          f_X6_answers_39 now x1_39 k n x2_39 (x3_39 + 1) dep_39 bit_39
def f_X6_answers_31 (now : Nat → Int32) (x1_31 : Int32) (k : (Nat → Int32) → (Nat → Int32) → Option ((Nat → Int32) × (Nat → Int32))) : Nat → Int32 → (Nat → Int32) → (Nat → Int32) → Option ((Nat → Int32) × (Nat → Int32))
  | 0, _, _, _ => none
  | n + 1, x2_31, dep_31, bit_31 =>
    if x2_31 = 0 then
      k dep_31 bit_31
    else
      f_X6_answers_39 now x1_31 (fun x2z26 depz26 bitz26 =>
        f_X6_answers_31 now x1_31 k n x2z26 depz26 bitz26) xFu 0 0 dep_31 bit_31
def f_X6_answers_2 (k : (Nat → Int32) → (Nat → Int32) → Option ((Nat → Int32) × (Nat → Int32))) : Nat → Int32 → (Nat → Int32) → (Nat → Int32) → Option ((Nat → Int32) × (Nat → Int32))
  | 0, _, _, _ => none
  | n + 1, x2_2, dep_2, bit_2 =>
    if 24 ≤ x2_2 then
      k dep_2 bit_2
    else
      (xr_w dep_2 24 x2_2 (-5)).bind fun dep3 =>
      (xr_w bit_2 24 x2_2 0).bind fun bit5 =>
      f_X6_answers_2 k n (x2_2 + 1) dep3 bit5
def f_X6_answers (now : Nat → Int32) (dep : Nat → Int32) (bit : Nat → Int32) (p1 : Int32) : Option ((Nat → Int32) × (Nat → Int32)) :=
  f_X6_answers_2 (fun depz6 bitz6 =>
    f_X6_answers_31 now p1 (fun depz27 bitz27 =>
      some (depz27, bitz27)) xFu 1 depz6 bitz6) xFu 0 dep bit
def f_X6_ofWires_6 (now : Nat → Int32) (x1_6 : Int32) (k : Int32 → Option (Int32)) : Nat → Int32 → Int32 → Option (Int32)
  | 0, _, _ => none
  | n + 1, x2_6, x3_6 =>
    if ((3 * x1_6) + 3) ≤ x3_6 then
      k x2_6
    else
      (xr_d now 1898 (96 + x3_6)).bind fun v2 =>
      if v2 ≤ 0 then
        f_X6_ofWires_6 now x1_6 k n (x2_6 + 0) (x3_6 + 1)
      else
        (xr_d now 1898 (96 + x3_6)).bind fun v5 =>
        f_X6_ofWires_6 now x1_6 k n (x2_6 + (v5 - 1)) (x3_6 + 1)
def f_X6_ofWires (now : Nat → Int32) (p1 : Int32) : Option (Int32) :=
  f_X6_ofWires_6 now p1 (fun x2z7 =>
    some x2z7) xFu 0 (3 * p1)
def f_X6_cell (now : Nat → Int32) (dep : Nat → Int32) (bit : Nat → Int32) (p1 : Int32) (p2 : Int32) : Option (Int32 × (Nat → Int32) × (Nat → Int32)) :=
  (f_X6_isCell now p1).bind fun v1 =>
  if v1 = 0 then
    some ((-1), dep, bit)
  else
    (f_X6_answers now dep bit 0).bind fun (dep4, bit5) =>
    if p2 = 0 then
      (xr_d now 1898 (0 + p1)).bind fun v7 =>
      some (v7, dep4, bit5)
    else
      if p2 = 1 then
        (xr_d now 1898 (((24 + (3 * p1)) + p2) - 1)).bind fun v9 =>
        some (v9, dep4, bit5)
      else
        if p2 = 2 then
          (xr_d now 1898 (((24 + (3 * p1)) + p2) - 1)).bind fun v11 =>
          some (v11, dep4, bit5)
        else
          if p2 = 3 then
            (xr_d now 1898 (((24 + (3 * p1)) + p2) - 1)).bind fun v13 =>
            some (v13, dep4, bit5)
          else
            if p2 = 4 then
              (xr_d dep4 24 p1).bind fun v15 =>
              some (v15, dep4, bit5)
            else
              if p2 = 5 then
                (f_X6_having now p1 (-5)).bind fun v17 =>
                some (v17, dep4, bit5)
              else
                if p2 = 6 then
                  (f_X6_ofWires now p1).bind fun v19 =>
                  some (v19, dep4, bit5)
                else
                  some ((-2), dep4, bit5)
def f_X6_path (now : Nat → Int32) (p1 : Int32) (p2 : Int32) (p3 : Int32) : Option (Int32) :=
  (f_X6_isCell now p1).bind fun v1 =>
  if v1 = 0 then
    some (-1)
  else
    (f_X6_in p2 0 2).bind fun v4 =>
    if v4 = 0 then
      some (-1)
    else
      if 0 ≤ p3 then
        (xr_d now 1898 (96 + ((3 * p1) + p2))).bind fun v8 =>
        if v8 ≤ p3 then
          some (-5)
        else
          (xr_d now 1898 ((168 + (24 * ((3 * p1) + p2))) + p3)).bind fun v11 =>
          some v11
      else
        some (-2)
def f_X6_held (now : Nat → Int32) (hld : Nat → Int32) (p1 : Int32) (p2 : Int32) : Option (Int32 × (Nat → Int32)) :=
  (f_X6_isPlace p1).bind fun v1 =>
  if v1 = 0 then
    some ((-1), hld)
  else
    (f_X6_isPlace p2).bind fun v4 =>
    if v4 = 0 then
      some ((-1), hld)
    else
      (f_X6_areBeside p1 p2).bind fun v7 =>
      if v7 = 0 then
        some ((-1), hld)
      else
        (f_X6_counts hld now).bind fun hld10 =>
        (f_X6_segment p1 p2).bind fun v12 =>
        (xr_d hld10 48 v12).bind fun v14 =>
        some (v14, hld10)
def f_X6_answer (now : Nat → Int32) (dep : Nat → Int32) (bit : Nat → Int32) (p1 : Int32) (p2 : Int32) : Option (Int32 × (Nat → Int32) × (Nat → Int32)) :=
  (f_X6_isCell now p1).bind fun v1 =>
  if v1 = 0 then
    some ((-1), dep, bit)
  else
    (f_X6_in p2 0 255).bind fun v4 =>
    if v4 = 0 then
      some ((-2), dep, bit)
    else
      (f_X6_answers now dep bit p2).bind fun (dep7, bit8) =>
      (xr_d dep7 24 p1).bind fun v10 =>
      if v10 = (-5) then
        some ((-5), dep7, bit8)
      else
        (xr_d bit8 24 p1).bind fun v13 =>
        some (v13, dep7, bit8)
def f_X6_ones_17 (now : Nat → Int32) (x1_17 : Int32) (k : Int32 → (Nat → Int32) → (Nat → Int32) → Option (Int32 × (Nat → Int32) × (Nat → Int32))) : Nat → Int32 → Int32 → (Nat → Int32) → (Nat → Int32) → Option (Int32 × (Nat → Int32) × (Nat → Int32))
  | 0, _, _, _, _ => none
  | n + 1, x2_17, x3_17, dep_17, bit_17 =>
    if 256 ≤ x3_17 then
      k x2_17 dep_17 bit_17
    else
      (f_X6_answers now dep_17 bit_17 x3_17).bind fun (dep5, bit6) =>
      (xr_d bit6 24 x1_17).bind fun v8 =>
      f_X6_ones_17 now x1_17 k n (x2_17 + v8) (x3_17 + 1) dep5 bit6
def f_X6_ones (now : Nat → Int32) (dep : Nat → Int32) (bit : Nat → Int32) (p1 : Int32) : Option (Int32 × (Nat → Int32) × (Nat → Int32)) :=
  (f_X6_isCell now p1).bind fun v1 =>
  if v1 = 0 then
    some ((-1), dep, bit)
  else
    f_X6_ones_17 now p1 (fun x2z10 depz10 bitz10 =>
      (xr_d depz10 24 p1).bind fun v11 =>
      if v11 = (-5) then
        some ((-5), depz10, bitz10)
      else
        some (x2z10, depz10, bitz10)) xFu 0 0 dep bit
def f_X6_ifSwap (now : Nat → Int32) (thn : Nat → Int32) (hld : Nat → Int32) (far : Nat → Int32) (don : Nat → Int32) (p1 : Int32) (p2 : Int32) : Option (Int32 × (Nat → Int32) × (Nat → Int32) × (Nat → Int32) × (Nat → Int32)) :=
  (f_X6_isPlace p1).bind fun v1 =>
  if v1 = 0 then
    some ((-1), thn, hld, far, don)
  else
    (f_X6_isPlace p2).bind fun v4 =>
    if v4 = 0 then
      some ((-1), thn, hld, far, don)
    else
      (f_X6_isChange now p1 p2).bind fun v7 =>
      if v7 = 0 then
        some ((-5), thn, hld, far, don)
      else
        (f_X6_swapped now thn hld far don p1 p2).bind fun (v10, thn11, hld12, far13, don14) =>
        some (v10, thn11, hld12, far13, don14)
def f_X6_bestSwap_27 (now : Nat → Int32) (x1_27 : Int32) (k : Int32 → (Nat → Int32) → (Nat → Int32) → (Nat → Int32) → (Nat → Int32) → Option (Int32 × (Nat → Int32) × (Nat → Int32) × (Nat → Int32) × (Nat → Int32))) : Nat → Int32 → Int32 → Int32 → (Nat → Int32) → (Nat → Int32) → (Nat → Int32) → (Nat → Int32) → Option (Int32 × (Nat → Int32) × (Nat → Int32) × (Nat → Int32) × (Nat → Int32))
  | 0, _, _, _, _, _, _, _ => none
  | n + 1, x2_27, x3_27, x4_27, thn_27, hld_27, far_27, don_27 =>
    if 24 ≤ x4_27 then
      k x2_27 thn_27 hld_27 far_27 don_27
    else
      if x4_27 = x1_27 then
        f_X6_bestSwap_27 now x1_27 k n x2_27 x3_27 (x4_27 + 1) thn_27 hld_27 far_27 don_27
      else
        (f_X6_swapped now thn_27 hld_27 far_27 don_27 x1_27 x4_27).bind fun (v8, thn9, hld10, far11, don12) =>
        if v8 = (-3) then
          f_X6_bestSwap_27 now x1_27 k n x2_27 x3_27 (x4_27 + 1) thn9 hld10 far11 don12
        else
          if x3_27 ≤ v8 then
            f_X6_bestSwap_27 now x1_27 k n x2_27 x3_27 (x4_27 + 1) thn9 hld10 far11 don12
          else
            f_X6_bestSwap_27 now x1_27 k n x4_27 v8 (x4_27 + 1) thn9 hld10 far11 don12
def f_X6_bestSwap (now : Nat → Int32) (thn : Nat → Int32) (hld : Nat → Int32) (far : Nat → Int32) (don : Nat → Int32) (p1 : Int32) : Option (Int32 × (Nat → Int32) × (Nat → Int32) × (Nat → Int32) × (Nat → Int32)) :=
  (f_X6_isCell now p1).bind fun v1 =>
  if v1 = 0 then
    some ((-1), thn, hld, far, don)
  else
    (f_X6_segments now).bind fun v4 =>
    f_X6_bestSwap_27 now p1 (fun x2z25 thnz25 hldz25 farz25 donz25 =>
      some (x2z25, thnz25, hldz25, farz25, donz25)) xFu (-5) v4 0 thn hld far don
def f_X6_bestOrder_8 (now : Nat → Int32) (k : Int32 → (Nat → Int32) → (Nat → Int32) → (Nat → Int32) → (Nat → Int32) → Option (Int32 × (Nat → Int32) × (Nat → Int32) × (Nat → Int32) × (Nat → Int32))) : Nat → Int32 → Int32 → Int32 → (Nat → Int32) → (Nat → Int32) → (Nat → Int32) → (Nat → Int32) → Option (Int32 × (Nat → Int32) × (Nat → Int32) × (Nat → Int32) × (Nat → Int32))
  | 0, _, _, _, _, _, _, _ => none
  | n + 1, x1_8, x2_8, x3_8, thn_8, hld_8, far_8, don_8 =>
    if 3 ≤ x3_8 then
      k x1_8 thn_8 hld_8 far_8 don_8
    else
      (f_X6_ordered now thn_8 hld_8 far_8 don_8 x3_8).bind fun (v2, thn3, hld4, far5, don6) =>
      if v2 = (-3) then
        f_X6_bestOrder_8 now k n x1_8 x2_8 (x3_8 + 1) thn3 hld4 far5 don6
      else
        if x2_8 ≤ v2 then
          f_X6_bestOrder_8 now k n x1_8 x2_8 (x3_8 + 1) thn3 hld4 far5 don6
        else
          f_X6_bestOrder_8 now k n x3_8 v2 (x3_8 + 1) thn3 hld4 far5 don6
def f_X6_bestOrder (now : Nat → Int32) (thn : Nat → Int32) (hld : Nat → Int32) (far : Nat → Int32) (don : Nat → Int32) : Option (Int32 × (Nat → Int32) × (Nat → Int32) × (Nat → Int32) × (Nat → Int32)) :=
  f_X6_bestOrder_8 now (fun x1z16 thnz16 hldz16 farz16 donz16 =>
    some (x1z16, thnz16, hldz16, farz16, donz16)) xFu (-5) 1000000 0 thn hld far don
def f_X6_wires_4 (now : Nat → Int32) (k : Int32 → Option (Int32)) : Nat → Int32 → Int32 → Option (Int32)
  | 0, _, _ => none
  | n + 1, x1_4, x2_4 =>
    if 72 ≤ x2_4 then
      k x1_4
    else
      (f_X6_isWire now x2_4).bind fun v2 =>
      if v2 = 0 then
        f_X6_wires_4 now k n (x1_4 + 0) (x2_4 + 1)
      else
        f_X6_wires_4 now k n (x1_4 + 1) (x2_4 + 1)
def f_X6_wires (now : Nat → Int32) : Option (Int32) :=
  f_X6_wires_4 now (fun x1z5 =>
    some x1z5) xFu 0 0
def f_X6_full_12 (now : Nat → Int32) (hld_12 : Nat → Int32) (k : Int32 → Option (Int32 × (Nat → Int32))) : Nat → Int32 → Int32 → Option (Int32 × (Nat → Int32))
  | 0, _, _ => none
  | n + 1, x1_12, x2_12 =>
    if 48 ≤ x2_12 then
      k x1_12
    else
      (xr_d hld_12 48 x2_12).bind fun v4 =>
      (xr_d now 1898 1896).bind fun v6 =>
      if v4 < v6 then
        f_X6_full_12 now hld_12 k n (x1_12 + 0) (x2_12 + 1)
      else
        f_X6_full_12 now hld_12 k n (x1_12 + 1) (x2_12 + 1)
def f_X6_full (now : Nat → Int32) (hld : Nat → Int32) : Option (Int32 × (Nat → Int32)) :=
  (f_X6_counts hld now).bind fun hld1 =>
  f_X6_full_12 now hld1 (fun x1z9 =>
    some (x1z9, hld1)) xFu 0 0
def f_X6_ofDepths_12 (now : Nat → Int32) (dep_12 : Nat → Int32) (k : Int32 → Int32 → Option (Int32 × (Nat → Int32) × (Nat → Int32))) : Nat → Int32 → Int32 → Int32 → Option (Int32 × (Nat → Int32) × (Nat → Int32))
  | 0, _, _, _ => none
  | n + 1, x2_12, x3_12, x4_12 =>
    if 24 ≤ x4_12 then
      k x2_12 x3_12
    else
      (f_X6_isCell now x4_12).bind fun v5 =>
      if v5 = 0 then
        (xr_d dep_12 24 x4_12).bind fun v8 =>
        if v8 ≤ x3_12 then
          f_X6_ofDepths_12 now dep_12 k n (x2_12 + 0) x3_12 (x4_12 + 1)
        else
          (xr_d dep_12 24 x4_12).bind fun v11 =>
          f_X6_ofDepths_12 now dep_12 k n (x2_12 + 0) v11 (x4_12 + 1)
      else
        (xr_d dep_12 24 x4_12).bind fun v13 =>
        if v13 = (-5) then
          (xr_d dep_12 24 x4_12).bind fun v21 =>
          if v21 ≤ x3_12 then
            f_X6_ofDepths_12 now dep_12 k n (x2_12 + 1) x3_12 (x4_12 + 1)
          else
            (xr_d dep_12 24 x4_12).bind fun v24 =>
            f_X6_ofDepths_12 now dep_12 k n (x2_12 + 1) v24 (x4_12 + 1)
        else
          (xr_d dep_12 24 x4_12).bind fun v16 =>
          if v16 ≤ x3_12 then
            f_X6_ofDepths_12 now dep_12 k n (x2_12 + 0) x3_12 (x4_12 + 1)
          else
            (xr_d dep_12 24 x4_12).bind fun v19 =>
            f_X6_ofDepths_12 now dep_12 k n (x2_12 + 0) v19 (x4_12 + 1)
def f_X6_ofDepths (now : Nat → Int32) (dep : Nat → Int32) (bit : Nat → Int32) (p1 : Int32) : Option (Int32 × (Nat → Int32) × (Nat → Int32)) :=
  (f_X6_answers now dep bit 0).bind fun (dep1, bit2) =>
  f_X6_ofDepths_12 now dep1 (fun x2z26 x3z26 =>
    if p1 = 0 then
      some (x2z26, dep1, bit2)
    else
      some (x3z26, dep1, bit2)) xFu 0 0 0
def f_X6_most (now : Nat → Int32) (hld : Nat → Int32) : Option (Int32 × (Nat → Int32)) :=
  (f_X6_counts hld now).bind fun hld1 =>
  (f_X6_mostHeld hld1).bind fun v3 =>
  some (v3, hld1)
def f_X6_count (st : Int32) (le : Int32) (now : Nat → Int32) (hld : Nat → Int32) (dep : Nat → Int32) (bit : Nat → Int32) (p1 : Int32) : Option (Int32 × (Nat → Int32) × (Nat → Int32) × (Nat → Int32)) :=
  if p1 = 0 then
    (f_X6_cells now).bind fun v1 =>
    some (v1, hld, dep, bit)
  else
    if p1 = 1 then
      (f_X6_wires now).bind fun v3 =>
      some (v3, hld, dep, bit)
    else
      if p1 = 2 then
        (f_X6_segments now).bind fun v5 =>
        some (v5, hld, dep, bit)
      else
        if p1 = 3 then
          (f_X6_full now hld).bind fun (v7, hld8) =>
          some (v7, hld8, dep, bit)
        else
          if p1 = 4 then
            (f_X6_most now hld).bind fun (v10, hld11) =>
            some (v10, hld11, dep, bit)
          else
            if p1 = 5 then
              if p1 = 6 then
                (f_X6_ofDepths now dep bit 1).bind fun (v18, dep19, bit20) =>
                some (v18, hld, dep19, bit20)
              else
                (f_X6_ofDepths now dep bit 0).bind fun (v14, dep15, bit16) =>
                some (v14, hld, dep15, bit16)
            else
              if p1 = 6 then
                if p1 = 6 then
                  (f_X6_ofDepths now dep bit 1).bind fun (v27, dep28, bit29) =>
                  some (v27, hld, dep28, bit29)
                else
                  (f_X6_ofDepths now dep bit 0).bind fun (v23, dep24, bit25) =>
                  some (v23, hld, dep24, bit25)
              else
                if p1 = 7 then
                  (xr_d now 1898 ((1896 + p1) - 7)).bind fun v31 =>
                  some (v31, hld, dep, bit)
                else
                  if p1 = 8 then
                    (xr_d now 1898 ((1896 + p1) - 7)).bind fun v33 =>
                    some (v33, hld, dep, bit)
                  else
                    if p1 = 9 then
                      some (st, hld, dep, bit)
                    else
                      if p1 = 10 then
                        some (le, hld, dep, bit)
                      else
                        some ((-2), hld, dep, bit)
