/-! ONE SIDE WORKS A FORMULA OUT: its small steps -/
def o2K : Option tv_T → Int64
  | none => -9223372036854775807
  | some r => v_K r
def ck (c : Bool) : Int32 := bif c then 1 else 0
section WKS
variable {L : Nat} {xs : Nat → Int32} {C : co_T} {t : ab_H} {d sl k e p c n : Nat} {l : List (Nat × Nat)} {b : Int32} {v w : Option Int32} {x y : Int32} {g : Bool} {ops opn stk : Nat} {va vb vc vd : Value}
set_option maxRecDepth 100000 in
theorem u2_A {a : Int32} (h : isA a) : u_2 g a (.inl v) (.inl w) = (u_s g a v w).map .inl := if_pos h
set_option maxRecDepth 100000 in
theorem u2_B {a : Int32} (h : isB a) : u_2 g a (.inl v) (.inl w) = some (.inr (u_t a v w)) := if_neg (by
  intro z
  unfold isB at h
  rcases z with rfl | rfl | rfl | rfl <;> revert h <;> decide)
set_option maxRecDepth 100000 in
theorem m_114a (hi : e < 1440) : Wd L xs d y_114 (0, [(0, .ref 114), (1, .int (nI e))], [], MH C t, sl) (Rt (some (.long (C.2.1 14 e))) (MH C t) sl) nX := by
  refine w_p (pc1 := 1) rfl rfl ?_
  refine w_f (a := 14) (b := 4) rfl rfl rfl ?_
  refine w_p (pc1 := 5) rfl rfl ?_
  refine w_f (a := 14) (b := 8) (bN_lt_f (a := e) (b := 0) (by omega) (by omega) (by omega)) rfl rfl ?_
  refine w_p (pc1 := 9) rfl rfl ?_
  refine w_p (pc1 := 10) rfl rfl ?_
  refine w_m0 (pc1 := 11) (st1 := .int 1440 :: _) rfl rfl (h_lnJ rfl rfl (by decide)) rfl ?_
  refine w_t (a := 20) (b := 14) (bN_lt_t (a := e) (b := 1440) (by omega) (by omega) (by omega)) rfl rfl ?_
  refine w_p (pc1 := 21) rfl rfl ?_
  refine w_p (pc1 := 22) rfl rfl ?_
  refine w_m0 (pc1 := 23) rfl rfl (n_ll (e := e) rfl rfl rfl (by omega)) rfl ?_
  refine w_r rfl rfl rfl (fun _ _ => rfl) rfl ?_
  exact ⟨rfl, rfl, rfl⟩
set_option maxRecDepth 100000 in
theorem m_114b (h : SK[k]? = some (1, 1, 6, l)) (hi : e < 6) : Wd L xs d y_114 (0, [(0, .ref (k + 100)), (1, .int (nI e))], [], MH C t, sl) (Rt (some (.long (C.2.1 k e))) (MH C t) sl) nX := by
  refine w_p (pc1 := 1) rfl rfl ?_
  refine w_f (a := 14) (b := 4) rfl rfl rfl ?_
  refine w_p (pc1 := 5) rfl rfl ?_
  refine w_f (a := 14) (b := 8) (bN_lt_f (a := e) (b := 0) (by omega) (by omega) (by omega)) rfl rfl ?_
  refine w_p (pc1 := 9) rfl rfl ?_
  refine w_p (pc1 := 10) rfl rfl ?_
  refine w_m0 (pc1 := 11) (st1 := .int (nI (6)) :: _) rfl rfl (h_lnJ (k := k) rfl h (by decide)) rfl ?_
  refine w_t (a := 20) (b := 14) (bN_lt_t (a := e) (b := 6) (by omega) (by omega) (by omega)) rfl rfl ?_
  refine w_p (pc1 := 21) rfl rfl ?_
  refine w_p (pc1 := 22) rfl rfl ?_
  refine w_m0 (pc1 := 23) rfl rfl (n_ll (k := k) (e := e) rfl h rfl (by omega)) rfl ?_
  refine w_r rfl rfl rfl (fun _ _ => rfl) rfl ?_
  exact ⟨rfl, rfl, rfl⟩
set_option maxRecDepth 100000 in
theorem m_113_0 : Wd L xs (d + 1) y_113 (0, [(0, .ref (n)), (1, .int 0), (2, .int (b)), (3, va), (4, vb), (5, vc), (6, vd)], [], MH C t, sl) (Rt (some (.long (e_V (some b)))) (MH C t) sl) nX := by
  refine w_p (pc1 := 1) rfl rfl ?_
  refine w_p (pc1 := 36) rfl rfl ?_
  refine w_p (pc1 := 37) rfl rfl ?_
  refine w_p (pc1 := 38) (st1 := .long (b.toInt64) :: _) rfl rfl ?_
  refine w_r rfl rfl rfl (fun _ _ => rfl) rfl ?_
  exact ⟨rfl, rfl, rfl⟩
set_option maxRecDepth 100000 in
theorem m_113_1 : Wd L xs (d + 1) y_113 (0, [(0, .ref (n)), (1, .int 1), (2, .int (b)), (3, va), (4, vb), (5, vc), (6, vd)], [], MH C t, sl) (Rt (some (.long (e_V none))) (MH C t) sl) nX := by
  refine w_p (pc1 := 1) rfl rfl ?_
  refine w_p (pc1 := 62) rfl rfl ?_
  refine w_m0 (pc1 := 65) (st1 := .long (-9223372036854775808) :: _) rfl rfl rfl rfl ?_
  refine w_r rfl rfl rfl (fun _ _ => rfl) rfl ?_
  exact ⟨rfl, rfl, rfl⟩
set_option maxRecDepth 100000 in
theorem m_113_2 (hi : p + c < 1440) : Wd L xs (d + 1) y_113 (0, [(0, .ref (n)), (1, .int 2), (2, .int (nI (c))), (3, .ref 114), (4, .int (nI (p))), (5, vc), (6, vd)], [], MH C t, sl) (Rt (some (.long (C.2.1 14 (p + c)))) (MH C t) sl) nX := by
  refine w_p (pc1 := 1) rfl rfl ?_
  refine w_p (pc1 := 39) rfl rfl ?_
  refine w_p (pc1 := 40) rfl rfl ?_
  refine w_p (pc1 := 42) rfl rfl ?_
  refine w_p (pc1 := 43) rfl rfl ?_
  refine w_iadd (pc1 := 44) (u := nI (p)) (v := nI (c)) (z := nI (p + c)) rfl (nK_add) rfl ?_
  refine w_je (pc1 := 47) (vs := [.ref 114, .int (nI (p + c))]) (rest := []) (st1 := [.long (C.2.1 14 (p + c))]) (m_114a (d := d) (sl := 0) (e := p + c) hi) rfl rfl rfl (fun _ _ => rfl) rfl (by exact cl_s my_114 rfl rfl rfl (Nat.le_of_ble_eq_true rfl) rfl rfl) (by rfl) (Nat.le_of_ble_eq_true rfl) (Nat.le_of_ble_eq_true rfl) rfl (by rfl) ?_
  refine w_r rfl rfl rfl (fun _ _ => rfl) rfl ?_
  exact ⟨rfl, rfl, rfl⟩
set_option maxRecDepth 100000 in
theorem m_113_3 (h : SK[k]? = some (1, 1, 6, l)) (hi : c < 6) : Wd L xs (d + 1) y_113 (0, [(0, .ref (n)), (1, .int 3), (2, .int (nI (c))), (3, va), (4, vb), (5, .ref (k + 100)), (6, vd)], [], MH C t, sl) (Rt (some (.long (C.2.1 k c))) (MH C t) sl) nX := by
  refine w_p (pc1 := 1) rfl rfl ?_
  refine w_p (pc1 := 48) rfl rfl ?_
  refine w_p (pc1 := 50) rfl rfl ?_
  refine w_p (pc1 := 51) rfl rfl ?_
  refine w_je (pc1 := 54) (vs := [.ref (k + 100), .int (nI (c))]) (rest := []) (st1 := [.long (C.2.1 k c)]) (m_114b (d := d) (sl := 0) (e := c) h hi) rfl rfl rfl (fun _ _ => rfl) rfl (by exact cl_s my_114 rfl rfl rfl (Nat.le_of_ble_eq_true rfl) rfl rfl) (by rfl) (Nat.le_of_ble_eq_true rfl) (Nat.le_of_ble_eq_true rfl) rfl (by rfl) ?_
  refine w_r rfl rfl rfl (fun _ _ => rfl) rfl ?_
  exact ⟨rfl, rfl, rfl⟩
set_option maxRecDepth 100000 in
theorem m_113_4 (h : SK[k]? = some (1, 1, 6, l)) (hi : c < 6) : Wd L xs (d + 1) y_113 (0, [(0, .ref (n)), (1, .int 4), (2, .int (nI (c))), (3, va), (4, vb), (5, vc), (6, .ref (k + 100))], [], MH C t, sl) (Rt (some (.long (C.2.1 k c))) (MH C t) sl) nX := by
  refine w_p (pc1 := 1) rfl rfl ?_
  refine w_p (pc1 := 55) rfl rfl ?_
  refine w_p (pc1 := 57) rfl rfl ?_
  refine w_p (pc1 := 58) rfl rfl ?_
  refine w_je (pc1 := 61) (vs := [.ref (k + 100), .int (nI (c))]) (rest := []) (st1 := [.long (C.2.1 k c)]) (m_114b (d := d) (sl := 0) (e := c) h hi) rfl rfl rfl (fun _ _ => rfl) rfl (by exact cl_s my_114 rfl rfl rfl (Nat.le_of_ble_eq_true rfl) rfl rfl) (by rfl) (Nat.le_of_ble_eq_true rfl) (Nat.le_of_ble_eq_true rfl) rfl (by rfl) ?_
  refine w_r rfl rfl rfl (fun _ _ => rfl) rfl ?_
  exact ⟨rfl, rfl, rfl⟩
set_option maxRecDepth 100000 in
theorem m_115_5 : Wd L xs d y_115 (0, [(0, .int 5), (1, .long (e_V v))], [], MH C t, sl) (Rt (some (.long (v_K (u_1 5 (.inl v))))) (MH C t) sl) nX := by
  cases v with
  | none =>
    refine w_p (pc1 := 1) rfl rfl ?_
    refine w_p (pc1 := 28) rfl rfl ?_
    refine w_p (pc1 := 29) rfl rfl ?_
    refine w_m0 (pc1 := 32) (st1 := .long (-9223372036854775808) :: _) rfl rfl rfl rfl ?_
    refine w_p (pc1 := 33) rfl rfl ?_
    refine w_f (a := 42) (b := 36) (lb_ne_f (by rfl)) rfl rfl ?_
    refine w_m0 (pc1 := 39) (st1 := .long (-9223372036854775808) :: _) rfl rfl rfl rfl ?_
    refine w_p (pc1 := 46) rfl rfl ?_
    refine w_r rfl rfl rfl (fun _ _ => rfl) rfl ?_
    exact ⟨rfl, rfl, rfl⟩
  | some x =>
    refine w_p (pc1 := 1) rfl rfl ?_
    refine w_p (pc1 := 28) rfl rfl ?_
    refine w_p (pc1 := 29) rfl rfl ?_
    refine w_m0 (pc1 := 32) (st1 := .long (-9223372036854775808) :: _) rfl rfl rfl rfl ?_
    refine w_p (pc1 := 33) rfl rfl ?_
    refine w_t (a := 42) (b := 36) (lb_ne_t (by exact e_V_ne x)) rfl rfl ?_
    refine w_p (pc1 := 43) rfl rfl ?_
    refine w_p (pc1 := 44) (st1 := .long (-(e_V (some x))) :: _) rfl rfl ?_
    refine w_p (pc1 := 45) (st1 := .int ((-(e_V (some x))).toInt32) :: _) rfl rfl ?_
    refine w_p (pc1 := 46) (st1 := .long (((-(e_V (some x))).toInt32).toInt64) :: _) rfl rfl ?_
    refine w_r rfl rfl rfl (fun _ _ => rfl) rfl ?_
    exact ⟨rfl, rfl, rfl⟩
set_option maxRecDepth 100000 in
theorem m_115_7 : Wd L xs d y_115 (0, [(0, .int 7), (1, .long (e_V v))], [], MH C t, sl) (Rt (some (.long (v_K (u_1 7 (.inl v))))) (MH C t) sl) nX := by
  cases v with
  | none =>
    refine w_p (pc1 := 1) rfl rfl ?_
    refine w_p (pc1 := 65) rfl rfl ?_
    refine w_p (pc1 := 66) rfl rfl ?_
    refine w_m0 (pc1 := 69) (st1 := .long (-9223372036854775808) :: _) rfl rfl rfl rfl ?_
    refine w_p (pc1 := 70) rfl rfl ?_
    refine w_f (a := 77) (b := 73) (lb_ne_f (by rfl)) rfl rfl ?_
    refine w_p (pc1 := 74) (st1 := .long 1 :: _) rfl rfl ?_
    refine w_p (pc1 := 78) rfl rfl ?_
    refine w_r rfl rfl rfl (fun _ _ => rfl) rfl ?_
    exact ⟨rfl, rfl, rfl⟩
  | some x =>
    refine w_p (pc1 := 1) rfl rfl ?_
    refine w_p (pc1 := 65) rfl rfl ?_
    refine w_p (pc1 := 66) rfl rfl ?_
    refine w_m0 (pc1 := 69) (st1 := .long (-9223372036854775808) :: _) rfl rfl rfl rfl ?_
    refine w_p (pc1 := 70) rfl rfl ?_
    refine w_t (a := 77) (b := 73) (lb_ne_t (by exact e_V_ne x)) rfl rfl ?_
    refine w_p (pc1 := 78) (st1 := .long 0 :: _) rfl rfl ?_
    refine w_r rfl rfl rfl (fun _ _ => rfl) rfl ?_
    exact ⟨rfl, rfl, rfl⟩
set_option maxRecDepth 100000 in
theorem m_115_8 : Wd L xs d y_115 (0, [(0, .int 8), (1, .long (e_V v))], [], MH C t, sl) (Rt (some (.long (v_K (u_1 8 (.inl v))))) (MH C t) sl) nX := by
  cases v with
  | none =>
    refine w_p (pc1 := 1) rfl rfl ?_
    refine w_p (pc1 := 79) rfl rfl ?_
    refine w_p (pc1 := 80) rfl rfl ?_
    refine w_m0 (pc1 := 83) (st1 := .long (-9223372036854775808) :: _) rfl rfl rfl rfl ?_
    refine w_p (pc1 := 84) rfl rfl ?_
    refine w_f (a := 91) (b := 87) (lb_ne_f (by rfl)) rfl rfl ?_
    refine w_p (pc1 := 88) (st1 := .long 0 :: _) rfl rfl ?_
    refine w_p (pc1 := 92) rfl rfl ?_
    refine w_r rfl rfl rfl (fun _ _ => rfl) rfl ?_
    exact ⟨rfl, rfl, rfl⟩
  | some x =>
    refine w_p (pc1 := 1) rfl rfl ?_
    refine w_p (pc1 := 79) rfl rfl ?_
    refine w_p (pc1 := 80) rfl rfl ?_
    refine w_m0 (pc1 := 83) (st1 := .long (-9223372036854775808) :: _) rfl rfl rfl rfl ?_
    refine w_p (pc1 := 84) rfl rfl ?_
    refine w_t (a := 91) (b := 87) (lb_ne_t (by exact e_V_ne x)) rfl rfl ?_
    refine w_p (pc1 := 92) (st1 := .long 1 :: _) rfl rfl ?_
    refine w_r rfl rfl rfl (fun _ _ => rfl) rfl ?_
    exact ⟨rfl, rfl, rfl⟩
set_option maxRecDepth 100000 in
theorem m_115_6 {z : Option Bool} : Wd L xs d y_115 (0, [(0, .int 6), (1, .long (t_K z))], [], MH C t, sl) (Rt (some (.long (v_K (u_1 6 (.inr z))))) (MH C t) sl) nX := by
  cases z with
  | none =>
    refine w_p (pc1 := 1) rfl rfl ?_
    refine w_p (pc1 := 47) rfl rfl ?_
    refine w_p (pc1 := 48) rfl rfl ?_
    refine w_m0 (pc1 := 51) (st1 := .long 2 :: _) rfl rfl rfl rfl ?_
    refine w_p (pc1 := 52) rfl rfl ?_
    refine w_f (a := 61) (b := 55) (lb_ne_f (by rfl)) rfl rfl ?_
    refine w_m0 (pc1 := 58) (st1 := .long 2 :: _) rfl rfl rfl rfl ?_
    refine w_p (pc1 := 64) rfl rfl ?_
    refine w_r rfl rfl rfl (fun _ _ => rfl) rfl ?_
    exact ⟨rfl, rfl, rfl⟩
  | some z => cases z with
    | false =>
      refine w_p (pc1 := 1) rfl rfl ?_
      refine w_p (pc1 := 47) rfl rfl ?_
      refine w_p (pc1 := 48) rfl rfl ?_
      refine w_m0 (pc1 := 51) (st1 := .long 2 :: _) rfl rfl rfl rfl ?_
      refine w_p (pc1 := 52) rfl rfl ?_
      refine w_t (a := 61) (b := 55) (lb_ne_t (by decide)) rfl rfl ?_
      refine w_p (pc1 := 62) (st1 := .long 1 :: _) rfl rfl ?_
      refine w_p (pc1 := 63) rfl rfl ?_
      refine w_p (pc1 := 64) (st1 := .long (((1 : Int64)) - (t_K (some false))) :: _) rfl rfl ?_
      refine w_r rfl rfl rfl (fun _ _ => rfl) rfl ?_
      exact ⟨rfl, rfl, rfl⟩
    | true =>
      refine w_p (pc1 := 1) rfl rfl ?_
      refine w_p (pc1 := 47) rfl rfl ?_
      refine w_p (pc1 := 48) rfl rfl ?_
      refine w_m0 (pc1 := 51) (st1 := .long 2 :: _) rfl rfl rfl rfl ?_
      refine w_p (pc1 := 52) rfl rfl ?_
      refine w_t (a := 61) (b := 55) (lb_ne_t (by decide)) rfl rfl ?_
      refine w_p (pc1 := 62) (st1 := .long 1 :: _) rfl rfl ?_
      refine w_p (pc1 := 63) rfl rfl ?_
      refine w_p (pc1 := 64) (st1 := .long (((1 : Int64)) - (t_K (some true))) :: _) rfl rfl ?_
      refine w_r rfl rfl rfl (fun _ _ => rfl) rfl ?_
      exact ⟨rfl, rfl, rfl⟩
set_option maxRecDepth 100000 in
theorem uc_13 : u_c 13 x y = decide (x.toInt64 = y.toInt64) := if_pos rfl
set_option maxRecDepth 100000 in
theorem uc_14 : u_c 14 x y = !decide (x.toInt64 = y.toInt64) := by unfold u_c; rw [if_neg (by decide), if_pos rfl]
set_option maxRecDepth 100000 in
theorem uc_15 : u_c 15 x y = decide (x.toInt64.toInt < y.toInt64.toInt) := by unfold u_c; rw [if_neg (by decide), if_neg (by decide), if_pos rfl]
set_option maxRecDepth 100000 in
theorem uc_16 : u_c 16 x y = decide (x.toInt64.toInt ≤ y.toInt64.toInt) := by unfold u_c; rw [if_neg (by decide), if_neg (by decide), if_neg (by decide), if_pos rfl]
set_option maxRecDepth 100000 in
theorem uc_17 : u_c 17 x y = decide (y.toInt64.toInt < x.toInt64.toInt) := by unfold u_c; rw [if_neg (by decide), if_neg (by decide), if_neg (by decide), if_neg (by decide), if_pos rfl]
set_option maxRecDepth 100000 in
theorem uc_18 : u_c 18 x y = decide (y.toInt64.toInt ≤ x.toInt64.toInt) := by unfold u_c; rw [if_neg (by decide), if_neg (by decide), if_neg (by decide), if_neg (by decide), if_neg (by decide)]
set_option maxRecDepth 100000 in
theorem m_117_13 : Wd L xs d y_117 (0, [(0, .int 13), (1, .long (x.toInt64)), (3, .long (y.toInt64))], [], MH C t, sl) (Rt (some (.int (ck (u_c 13 x y)))) (MH C t) sl) nX := by
  refine w_p (pc1 := 1) rfl rfl ?_
  refine w_p (pc1 := 36) rfl rfl ?_
  refine w_p (pc1 := 37) rfl rfl ?_
  refine w_p (pc1 := 38) rfl rfl ?_
  refine w_p (pc1 := 39) rfl rfl ?_
  refine w_b (a := 46) (b := 42) rfl rfl (fun c39 => ?_) (fun c39 => ?_)
  · replace c39 := lc_ne_t c39
    refine w_p (pc1 := 47) (st1 := .int 0 :: _) rfl rfl ?_
    refine w_r rfl rfl rfl (fun _ _ => rfl) rfl ?_
    first | (rw [uc_13, decide_eq_false c39]; exact ⟨rfl, rfl, rfl⟩) | (rw [uc_13, decide_eq_true c39]; exact ⟨rfl, rfl, rfl⟩)
  · replace c39 := lc_ne_f c39
    refine w_p (pc1 := 43) (st1 := .int 1 :: _) rfl rfl ?_
    refine w_p (pc1 := 47) rfl rfl ?_
    refine w_r rfl rfl rfl (fun _ _ => rfl) rfl ?_
    first | (rw [uc_13, decide_eq_false c39]; exact ⟨rfl, rfl, rfl⟩) | (rw [uc_13, decide_eq_true c39]; exact ⟨rfl, rfl, rfl⟩)
set_option maxRecDepth 100000 in
theorem m_117_14 : Wd L xs d y_117 (0, [(0, .int 14), (1, .long (x.toInt64)), (3, .long (y.toInt64))], [], MH C t, sl) (Rt (some (.int (ck (u_c 14 x y)))) (MH C t) sl) nX := by
  refine w_p (pc1 := 1) rfl rfl ?_
  refine w_p (pc1 := 48) rfl rfl ?_
  refine w_p (pc1 := 49) rfl rfl ?_
  refine w_p (pc1 := 50) rfl rfl ?_
  refine w_p (pc1 := 51) rfl rfl ?_
  refine w_b (a := 58) (b := 54) rfl rfl (fun c51 => ?_) (fun c51 => ?_)
  · replace c51 := lc_eq_t c51
    refine w_p (pc1 := 59) (st1 := .int 0 :: _) rfl rfl ?_
    refine w_r rfl rfl rfl (fun _ _ => rfl) rfl ?_
    first | (rw [uc_14, decide_eq_true c51]; exact ⟨rfl, rfl, rfl⟩) | (rw [uc_14, decide_eq_false c51]; exact ⟨rfl, rfl, rfl⟩)
  · replace c51 := lc_eq_f c51
    refine w_p (pc1 := 55) (st1 := .int 1 :: _) rfl rfl ?_
    refine w_p (pc1 := 59) rfl rfl ?_
    refine w_r rfl rfl rfl (fun _ _ => rfl) rfl ?_
    first | (rw [uc_14, decide_eq_true c51]; exact ⟨rfl, rfl, rfl⟩) | (rw [uc_14, decide_eq_false c51]; exact ⟨rfl, rfl, rfl⟩)
set_option maxRecDepth 100000 in
theorem m_117_15 : Wd L xs d y_117 (0, [(0, .int 15), (1, .long (x.toInt64)), (3, .long (y.toInt64))], [], MH C t, sl) (Rt (some (.int (ck (u_c 15 x y)))) (MH C t) sl) nX := by
  refine w_p (pc1 := 1) rfl rfl ?_
  refine w_p (pc1 := 60) rfl rfl ?_
  refine w_p (pc1 := 61) rfl rfl ?_
  refine w_p (pc1 := 62) rfl rfl ?_
  refine w_p (pc1 := 63) rfl rfl ?_
  refine w_b (a := 70) (b := 66) rfl rfl (fun c63 => ?_) (fun c63 => ?_)
  · replace c63 := lc_ge_t c63
    refine w_p (pc1 := 71) (st1 := .int 0 :: _) rfl rfl ?_
    refine w_r rfl rfl rfl (fun _ _ => rfl) rfl ?_
    first | (rw [uc_15, decide_eq_true (by omega)]; exact ⟨rfl, rfl, rfl⟩) | (rw [uc_15, decide_eq_false (by omega)]; exact ⟨rfl, rfl, rfl⟩)
  · replace c63 := lc_ge_f c63
    refine w_p (pc1 := 67) (st1 := .int 1 :: _) rfl rfl ?_
    refine w_p (pc1 := 71) rfl rfl ?_
    refine w_r rfl rfl rfl (fun _ _ => rfl) rfl ?_
    first | (rw [uc_15, decide_eq_true (by omega)]; exact ⟨rfl, rfl, rfl⟩) | (rw [uc_15, decide_eq_false (by omega)]; exact ⟨rfl, rfl, rfl⟩)
set_option maxRecDepth 100000 in
theorem m_117_16 : Wd L xs d y_117 (0, [(0, .int 16), (1, .long (x.toInt64)), (3, .long (y.toInt64))], [], MH C t, sl) (Rt (some (.int (ck (u_c 16 x y)))) (MH C t) sl) nX := by
  refine w_p (pc1 := 1) rfl rfl ?_
  refine w_p (pc1 := 72) rfl rfl ?_
  refine w_p (pc1 := 73) rfl rfl ?_
  refine w_p (pc1 := 74) rfl rfl ?_
  refine w_p (pc1 := 75) rfl rfl ?_
  refine w_b (a := 82) (b := 78) rfl rfl (fun c75 => ?_) (fun c75 => ?_)
  · replace c75 := lc_gt_t c75
    refine w_p (pc1 := 83) (st1 := .int 0 :: _) rfl rfl ?_
    refine w_r rfl rfl rfl (fun _ _ => rfl) rfl ?_
    first | (rw [uc_16, decide_eq_true (by omega)]; exact ⟨rfl, rfl, rfl⟩) | (rw [uc_16, decide_eq_false (by omega)]; exact ⟨rfl, rfl, rfl⟩)
  · replace c75 := lc_gt_f c75
    refine w_p (pc1 := 79) (st1 := .int 1 :: _) rfl rfl ?_
    refine w_p (pc1 := 83) rfl rfl ?_
    refine w_r rfl rfl rfl (fun _ _ => rfl) rfl ?_
    first | (rw [uc_16, decide_eq_true (by omega)]; exact ⟨rfl, rfl, rfl⟩) | (rw [uc_16, decide_eq_false (by omega)]; exact ⟨rfl, rfl, rfl⟩)
set_option maxRecDepth 100000 in
theorem m_117_17 : Wd L xs d y_117 (0, [(0, .int 17), (1, .long (x.toInt64)), (3, .long (y.toInt64))], [], MH C t, sl) (Rt (some (.int (ck (u_c 17 x y)))) (MH C t) sl) nX := by
  refine w_p (pc1 := 1) rfl rfl ?_
  refine w_p (pc1 := 84) rfl rfl ?_
  refine w_p (pc1 := 85) rfl rfl ?_
  refine w_p (pc1 := 86) rfl rfl ?_
  refine w_p (pc1 := 87) rfl rfl ?_
  refine w_b (a := 94) (b := 90) rfl rfl (fun c87 => ?_) (fun c87 => ?_)
  · replace c87 := lc_le_t c87
    refine w_p (pc1 := 95) (st1 := .int 0 :: _) rfl rfl ?_
    refine w_r rfl rfl rfl (fun _ _ => rfl) rfl ?_
    first | (rw [uc_17, decide_eq_true (by omega)]; exact ⟨rfl, rfl, rfl⟩) | (rw [uc_17, decide_eq_false (by omega)]; exact ⟨rfl, rfl, rfl⟩)
  · replace c87 := lc_le_f c87
    refine w_p (pc1 := 91) (st1 := .int 1 :: _) rfl rfl ?_
    refine w_p (pc1 := 95) rfl rfl ?_
    refine w_r rfl rfl rfl (fun _ _ => rfl) rfl ?_
    first | (rw [uc_17, decide_eq_true (by omega)]; exact ⟨rfl, rfl, rfl⟩) | (rw [uc_17, decide_eq_false (by omega)]; exact ⟨rfl, rfl, rfl⟩)
set_option maxRecDepth 100000 in
theorem m_117_18 : Wd L xs d y_117 (0, [(0, .int 18), (1, .long (x.toInt64)), (3, .long (y.toInt64))], [], MH C t, sl) (Rt (some (.int (ck (u_c 18 x y)))) (MH C t) sl) nX := by
  refine w_p (pc1 := 1) rfl rfl ?_
  refine w_p (pc1 := 96) rfl rfl ?_
  refine w_p (pc1 := 97) rfl rfl ?_
  refine w_p (pc1 := 98) rfl rfl ?_
  refine w_p (pc1 := 99) rfl rfl ?_
  refine w_b (a := 106) (b := 102) rfl rfl (fun c99 => ?_) (fun c99 => ?_)
  · replace c99 := lc_lt_t c99
    refine w_p (pc1 := 107) (st1 := .int 0 :: _) rfl rfl ?_
    refine w_r rfl rfl rfl (fun _ _ => rfl) rfl ?_
    first | (rw [uc_18, decide_eq_true (by omega)]; exact ⟨rfl, rfl, rfl⟩) | (rw [uc_18, decide_eq_false (by omega)]; exact ⟨rfl, rfl, rfl⟩)
  · replace c99 := lc_lt_f c99
    refine w_p (pc1 := 103) (st1 := .int 1 :: _) rfl rfl ?_
    refine w_p (pc1 := 107) rfl rfl ?_
    refine w_r rfl rfl rfl (fun _ _ => rfl) rfl ?_
    first | (rw [uc_18, decide_eq_true (by omega)]; exact ⟨rfl, rfl, rfl⟩) | (rw [uc_18, decide_eq_false (by omega)]; exact ⟨rfl, rfl, rfl⟩)
set_option maxRecDepth 100000 in
theorem m_118_9 (hO : t[k]? = some (.inr (8, [.ref (241 + ops), .ref (241 + opn), .int (ck g), .ref (241 + stk)]))) : Wd L xs d y_118 (0, [(0, .ref (241 + k)), (1, .int 9), (2, .long (x.toInt64)), (4, .long (y.toInt64))], [], MH C t, sl) (Rt (some (.long ((x.toInt64 + y.toInt64).toInt32.toInt64))) (MH C t) sl) nX := by
  refine w_p (pc1 := 1) rfl rfl ?_
  refine w_p (pc1 := 28) rfl rfl ?_
  refine w_p (pc1 := 29) rfl rfl ?_
  refine w_p (pc1 := 31) rfl rfl ?_
  refine w_p (pc1 := 32) (st1 := .long (x.toInt64 + y.toInt64) :: _) rfl rfl ?_
  refine w_p (pc1 := 33) (st1 := .int ((x.toInt64 + y.toInt64).toInt32) :: _) rfl rfl ?_
  refine w_p (pc1 := 34) (st1 := .long (((x.toInt64 + y.toInt64).toInt32).toInt64) :: _) rfl rfl ?_
  refine w_r rfl rfl rfl (fun _ _ => rfl) rfl ?_
  exact ⟨rfl, rfl, rfl⟩
set_option maxRecDepth 100000 in
theorem m_118_10 (hO : t[k]? = some (.inr (8, [.ref (241 + ops), .ref (241 + opn), .int (ck g), .ref (241 + stk)]))) : Wd L xs d y_118 (0, [(0, .ref (241 + k)), (1, .int 10), (2, .long (x.toInt64)), (4, .long (y.toInt64))], [], MH C t, sl) (Rt (some (.long ((x.toInt64 - y.toInt64).toInt32.toInt64))) (MH C t) sl) nX := by
  refine w_p (pc1 := 1) rfl rfl ?_
  refine w_p (pc1 := 35) rfl rfl ?_
  refine w_p (pc1 := 36) rfl rfl ?_
  refine w_p (pc1 := 38) rfl rfl ?_
  refine w_p (pc1 := 39) (st1 := .long (x.toInt64 - y.toInt64) :: _) rfl rfl ?_
  refine w_p (pc1 := 40) (st1 := .int ((x.toInt64 - y.toInt64).toInt32) :: _) rfl rfl ?_
  refine w_p (pc1 := 41) (st1 := .long (((x.toInt64 - y.toInt64).toInt32).toInt64) :: _) rfl rfl ?_
  refine w_r rfl rfl rfl (fun _ _ => rfl) rfl ?_
  exact ⟨rfl, rfl, rfl⟩
set_option maxRecDepth 100000 in
theorem m_118_11 (hO : t[k]? = some (.inr (8, [.ref (241 + ops), .ref (241 + opn), .int (ck g), .ref (241 + stk)]))) : Wd L xs d y_118 (0, [(0, .ref (241 + k)), (1, .int 11), (2, .long (x.toInt64)), (4, .long (y.toInt64))], [], MH C t, sl) (Rt (some (.long ((x.toInt64 * y.toInt64).toInt32.toInt64))) (MH C t) sl) nX := by
  refine w_p (pc1 := 1) rfl rfl ?_
  refine w_p (pc1 := 42) rfl rfl ?_
  refine w_p (pc1 := 43) rfl rfl ?_
  refine w_p (pc1 := 45) rfl rfl ?_
  refine w_p (pc1 := 46) (st1 := .long (x.toInt64 * y.toInt64) :: _) rfl rfl ?_
  refine w_p (pc1 := 47) (st1 := .int ((x.toInt64 * y.toInt64).toInt32) :: _) rfl rfl ?_
  refine w_p (pc1 := 48) (st1 := .long (((x.toInt64 * y.toInt64).toInt32).toInt64) :: _) rfl rfl ?_
  refine w_r rfl rfl rfl (fun _ _ => rfl) rfl ?_
  exact ⟨rfl, rfl, rfl⟩
set_option maxRecDepth 100000 in
theorem m_118_12 (hO : t[k]? = some (.inr (8, [.ref (241 + ops), .ref (241 + opn), .int (ck g), .ref (241 + stk)]))) : Wd L xs d y_118 (0, [(0, .ref (241 + k)), (1, .int 12), (2, .long (x.toInt64)), (4, .long (y.toInt64))], [], MH C t, sl) (Rt (some (.long (o2K ((u_a g 12 x y).map .inl)))) (MH C t) sl) nX := by
  have e0 : u_a g 12 x y = if y.toInt64 = 0 then (if g = true then some none else none) else some (some (x.toInt64 / y.toInt64).toInt32) := by
    unfold u_a
    rw [if_neg (by decide), if_neg (by decide), if_neg (by decide)]
  by_cases hy : y.toInt64 = 0
  · rw [e0, if_pos hy]
    cases g with
    | true =>
      refine w_p (pc1 := 1) rfl rfl ?_
      refine w_p (pc1 := 49) rfl rfl ?_
      refine w_p (pc1 := 51) rfl rfl ?_
      refine w_p (pc1 := 52) (st1 := .long 0 :: _) rfl rfl ?_
      refine w_p (pc1 := 53) rfl rfl ?_
      refine w_f (a := 73) (b := 56) (lb_ne_f (by exact hy)) rfl rfl ?_
      refine w_p (pc1 := 57) rfl rfl ?_
      refine w_m0 (pc1 := 60) (st1 := .int 1 :: _) rfl rfl (x_gf (k := k) rfl hO rfl) rfl ?_
      refine w_f (a := 69) (b := 63) rfl rfl rfl ?_
      refine w_m0 (pc1 := 66) (st1 := .long (-9223372036854775808) :: _) rfl rfl rfl rfl ?_
      refine w_p (pc1 := 72) rfl rfl ?_
      refine w_r rfl rfl rfl (fun _ _ => rfl) rfl ?_
      exact ⟨rfl, rfl, rfl⟩
    | false =>
      refine w_p (pc1 := 1) rfl rfl ?_
      refine w_p (pc1 := 49) rfl rfl ?_
      refine w_p (pc1 := 51) rfl rfl ?_
      refine w_p (pc1 := 52) (st1 := .long 0 :: _) rfl rfl ?_
      refine w_p (pc1 := 53) rfl rfl ?_
      refine w_f (a := 73) (b := 56) (lb_ne_f (by exact hy)) rfl rfl ?_
      refine w_p (pc1 := 57) rfl rfl ?_
      refine w_m0 (pc1 := 60) (st1 := .int 0 :: _) rfl rfl (x_gf (k := k) rfl hO rfl) rfl ?_
      refine w_t (a := 69) (b := 63) rfl rfl rfl ?_
      refine w_m0 (pc1 := 72) (st1 := .long (-9223372036854775807) :: _) rfl rfl rfl rfl ?_
      refine w_r rfl rfl rfl (fun _ _ => rfl) rfl ?_
      exact ⟨rfl, rfl, rfl⟩
  · rw [e0, if_neg hy]
    refine w_p (pc1 := 1) rfl rfl ?_
    refine w_p (pc1 := 49) rfl rfl ?_
    refine w_p (pc1 := 51) rfl rfl ?_
    refine w_p (pc1 := 52) (st1 := .long 0 :: _) rfl rfl ?_
    refine w_p (pc1 := 53) rfl rfl ?_
    refine w_t (a := 73) (b := 56) (lb_ne_t (by exact hy)) rfl rfl ?_
    refine w_p (pc1 := 74) rfl rfl ?_
    refine w_p (pc1 := 76) rfl rfl ?_
    refine w_ldiv (pc1 := 77) rfl (hy) rfl ?_
    refine w_p (pc1 := 78) (st1 := .int ((x.toInt64 / y.toInt64).toInt32) :: _) rfl rfl ?_
    refine w_p (pc1 := 79) (st1 := .long (((x.toInt64 / y.toInt64).toInt32).toInt64) :: _) rfl rfl ?_
    refine w_r rfl rfl rfl (fun _ _ => rfl) rfl ?_
    exact ⟨rfl, rfl, rfl⟩
set_option maxRecDepth 100000 in
theorem m_116_9 (hO : t[k]? = some (.inr (8, [.ref (241 + ops), .ref (241 + opn), .int (ck g), .ref (241 + stk)]))) : Wd L xs (d + 1) y_116 (0, [(0, .ref (241 + k)), (1, .int 9), (2, .long (e_V v)), (4, .long (e_V w))], [], MH C t, sl) (Rt (some (.long (o2K (u_2 g 9 (.inl v) (.inl w))))) (MH C t) sl) nX := by
  rw [u2_A (by unfold isA; decide)]
  cases v with
  | none =>
    refine w_p (pc1 := 1) rfl rfl ?_
    refine w_p (pc1 := 3) (st1 := .int 19 :: _) rfl rfl ?_
    refine w_t (a := 30) (b := 6) rfl rfl rfl ?_
    refine w_p (pc1 := 31) rfl rfl ?_
    refine w_p (pc1 := 33) (st1 := .int 20 :: _) rfl rfl ?_
    refine w_t (a := 60) (b := 36) rfl rfl rfl ?_
    refine w_p (pc1 := 61) rfl rfl ?_
    refine w_p (pc1 := 63) (st1 := .int 13 :: _) rfl rfl ?_
    refine w_t (a := 105) (b := 66) rfl rfl rfl ?_
    refine w_p (pc1 := 106) rfl rfl ?_
    refine w_m0 (pc1 := 109) (st1 := .long (-9223372036854775808) :: _) rfl rfl rfl rfl ?_
    refine w_p (pc1 := 110) rfl rfl ?_
    refine w_t (a := 122) (b := 113) (lb_eq_t (by rfl)) rfl rfl ?_
    refine w_m0 (pc1 := 125) (st1 := .long (-9223372036854775808) :: _) rfl rfl rfl rfl ?_
    refine w_p (pc1 := 136) rfl rfl ?_
    refine w_r rfl rfl rfl (fun _ _ => rfl) rfl ?_
    exact ⟨rfl, rfl, rfl⟩
  | some x => cases w with
    | none =>
      refine w_p (pc1 := 1) rfl rfl ?_
      refine w_p (pc1 := 3) (st1 := .int 19 :: _) rfl rfl ?_
      refine w_t (a := 30) (b := 6) rfl rfl rfl ?_
      refine w_p (pc1 := 31) rfl rfl ?_
      refine w_p (pc1 := 33) (st1 := .int 20 :: _) rfl rfl ?_
      refine w_t (a := 60) (b := 36) rfl rfl rfl ?_
      refine w_p (pc1 := 61) rfl rfl ?_
      refine w_p (pc1 := 63) (st1 := .int 13 :: _) rfl rfl ?_
      refine w_t (a := 105) (b := 66) rfl rfl rfl ?_
      refine w_p (pc1 := 106) rfl rfl ?_
      refine w_m0 (pc1 := 109) (st1 := .long (-9223372036854775808) :: _) rfl rfl rfl rfl ?_
      refine w_p (pc1 := 110) rfl rfl ?_
      refine w_f (a := 122) (b := 113) (lb_eq_f (by exact e_V_ne x)) rfl rfl ?_
      refine w_p (pc1 := 115) rfl rfl ?_
      refine w_m0 (pc1 := 118) (st1 := .long (-9223372036854775808) :: _) rfl rfl rfl rfl ?_
      refine w_p (pc1 := 119) rfl rfl ?_
      refine w_f (a := 128) (b := 122) (lb_ne_f (by rfl)) rfl rfl ?_
      refine w_m0 (pc1 := 125) (st1 := .long (-9223372036854775808) :: _) rfl rfl rfl rfl ?_
      refine w_p (pc1 := 136) rfl rfl ?_
      refine w_r rfl rfl rfl (fun _ _ => rfl) rfl ?_
      exact ⟨rfl, rfl, rfl⟩
    | some y =>
      refine w_p (pc1 := 1) rfl rfl ?_
      refine w_p (pc1 := 3) (st1 := .int 19 :: _) rfl rfl ?_
      refine w_t (a := 30) (b := 6) rfl rfl rfl ?_
      refine w_p (pc1 := 31) rfl rfl ?_
      refine w_p (pc1 := 33) (st1 := .int 20 :: _) rfl rfl ?_
      refine w_t (a := 60) (b := 36) rfl rfl rfl ?_
      refine w_p (pc1 := 61) rfl rfl ?_
      refine w_p (pc1 := 63) (st1 := .int 13 :: _) rfl rfl ?_
      refine w_t (a := 105) (b := 66) rfl rfl rfl ?_
      refine w_p (pc1 := 106) rfl rfl ?_
      refine w_m0 (pc1 := 109) (st1 := .long (-9223372036854775808) :: _) rfl rfl rfl rfl ?_
      refine w_p (pc1 := 110) rfl rfl ?_
      refine w_f (a := 122) (b := 113) (lb_eq_f (by exact e_V_ne x)) rfl rfl ?_
      refine w_p (pc1 := 115) rfl rfl ?_
      refine w_m0 (pc1 := 118) (st1 := .long (-9223372036854775808) :: _) rfl rfl rfl rfl ?_
      refine w_p (pc1 := 119) rfl rfl ?_
      refine w_t (a := 128) (b := 122) (lb_ne_t (by exact e_V_ne y)) rfl rfl ?_
      refine w_p (pc1 := 129) rfl rfl ?_
      refine w_p (pc1 := 130) rfl rfl ?_
      refine w_p (pc1 := 131) rfl rfl ?_
      refine w_p (pc1 := 133) rfl rfl ?_
      refine w_je (pc1 := 136) (vs := [.ref (241 + k), .int 9, .long (e_V (some x)), .long (e_V (some y))]) (rest := []) (st1 := [.long ((x.toInt64 + y.toInt64).toInt32.toInt64)]) (m_118_9 (d := d) (sl := 0) (x := x) (y := y) hO) rfl rfl rfl (fun _ _ => rfl) rfl (by exact cl_v my_118 rfl rfl rfl (Nat.le_of_ble_eq_true rfl) rfl (x_obj hO) rfl (by decide) rfl rfl) (by rfl) (Nat.le_of_ble_eq_true rfl) (Nat.le_of_ble_eq_true rfl) rfl (by rfl) ?_
      refine w_r rfl rfl rfl (fun _ _ => rfl) rfl ?_
      exact ⟨rfl, rfl, rfl⟩
set_option maxRecDepth 100000 in
theorem m_116_10 (hO : t[k]? = some (.inr (8, [.ref (241 + ops), .ref (241 + opn), .int (ck g), .ref (241 + stk)]))) : Wd L xs (d + 1) y_116 (0, [(0, .ref (241 + k)), (1, .int 10), (2, .long (e_V v)), (4, .long (e_V w))], [], MH C t, sl) (Rt (some (.long (o2K (u_2 g 10 (.inl v) (.inl w))))) (MH C t) sl) nX := by
  rw [u2_A (by unfold isA; decide)]
  cases v with
  | none =>
    refine w_p (pc1 := 1) rfl rfl ?_
    refine w_p (pc1 := 3) (st1 := .int 19 :: _) rfl rfl ?_
    refine w_t (a := 30) (b := 6) rfl rfl rfl ?_
    refine w_p (pc1 := 31) rfl rfl ?_
    refine w_p (pc1 := 33) (st1 := .int 20 :: _) rfl rfl ?_
    refine w_t (a := 60) (b := 36) rfl rfl rfl ?_
    refine w_p (pc1 := 61) rfl rfl ?_
    refine w_p (pc1 := 63) (st1 := .int 13 :: _) rfl rfl ?_
    refine w_t (a := 105) (b := 66) rfl rfl rfl ?_
    refine w_p (pc1 := 106) rfl rfl ?_
    refine w_m0 (pc1 := 109) (st1 := .long (-9223372036854775808) :: _) rfl rfl rfl rfl ?_
    refine w_p (pc1 := 110) rfl rfl ?_
    refine w_t (a := 122) (b := 113) (lb_eq_t (by rfl)) rfl rfl ?_
    refine w_m0 (pc1 := 125) (st1 := .long (-9223372036854775808) :: _) rfl rfl rfl rfl ?_
    refine w_p (pc1 := 136) rfl rfl ?_
    refine w_r rfl rfl rfl (fun _ _ => rfl) rfl ?_
    exact ⟨rfl, rfl, rfl⟩
  | some x => cases w with
    | none =>
      refine w_p (pc1 := 1) rfl rfl ?_
      refine w_p (pc1 := 3) (st1 := .int 19 :: _) rfl rfl ?_
      refine w_t (a := 30) (b := 6) rfl rfl rfl ?_
      refine w_p (pc1 := 31) rfl rfl ?_
      refine w_p (pc1 := 33) (st1 := .int 20 :: _) rfl rfl ?_
      refine w_t (a := 60) (b := 36) rfl rfl rfl ?_
      refine w_p (pc1 := 61) rfl rfl ?_
      refine w_p (pc1 := 63) (st1 := .int 13 :: _) rfl rfl ?_
      refine w_t (a := 105) (b := 66) rfl rfl rfl ?_
      refine w_p (pc1 := 106) rfl rfl ?_
      refine w_m0 (pc1 := 109) (st1 := .long (-9223372036854775808) :: _) rfl rfl rfl rfl ?_
      refine w_p (pc1 := 110) rfl rfl ?_
      refine w_f (a := 122) (b := 113) (lb_eq_f (by exact e_V_ne x)) rfl rfl ?_
      refine w_p (pc1 := 115) rfl rfl ?_
      refine w_m0 (pc1 := 118) (st1 := .long (-9223372036854775808) :: _) rfl rfl rfl rfl ?_
      refine w_p (pc1 := 119) rfl rfl ?_
      refine w_f (a := 128) (b := 122) (lb_ne_f (by rfl)) rfl rfl ?_
      refine w_m0 (pc1 := 125) (st1 := .long (-9223372036854775808) :: _) rfl rfl rfl rfl ?_
      refine w_p (pc1 := 136) rfl rfl ?_
      refine w_r rfl rfl rfl (fun _ _ => rfl) rfl ?_
      exact ⟨rfl, rfl, rfl⟩
    | some y =>
      refine w_p (pc1 := 1) rfl rfl ?_
      refine w_p (pc1 := 3) (st1 := .int 19 :: _) rfl rfl ?_
      refine w_t (a := 30) (b := 6) rfl rfl rfl ?_
      refine w_p (pc1 := 31) rfl rfl ?_
      refine w_p (pc1 := 33) (st1 := .int 20 :: _) rfl rfl ?_
      refine w_t (a := 60) (b := 36) rfl rfl rfl ?_
      refine w_p (pc1 := 61) rfl rfl ?_
      refine w_p (pc1 := 63) (st1 := .int 13 :: _) rfl rfl ?_
      refine w_t (a := 105) (b := 66) rfl rfl rfl ?_
      refine w_p (pc1 := 106) rfl rfl ?_
      refine w_m0 (pc1 := 109) (st1 := .long (-9223372036854775808) :: _) rfl rfl rfl rfl ?_
      refine w_p (pc1 := 110) rfl rfl ?_
      refine w_f (a := 122) (b := 113) (lb_eq_f (by exact e_V_ne x)) rfl rfl ?_
      refine w_p (pc1 := 115) rfl rfl ?_
      refine w_m0 (pc1 := 118) (st1 := .long (-9223372036854775808) :: _) rfl rfl rfl rfl ?_
      refine w_p (pc1 := 119) rfl rfl ?_
      refine w_t (a := 128) (b := 122) (lb_ne_t (by exact e_V_ne y)) rfl rfl ?_
      refine w_p (pc1 := 129) rfl rfl ?_
      refine w_p (pc1 := 130) rfl rfl ?_
      refine w_p (pc1 := 131) rfl rfl ?_
      refine w_p (pc1 := 133) rfl rfl ?_
      refine w_je (pc1 := 136) (vs := [.ref (241 + k), .int 10, .long (e_V (some x)), .long (e_V (some y))]) (rest := []) (st1 := [.long ((x.toInt64 - y.toInt64).toInt32.toInt64)]) (m_118_10 (d := d) (sl := 0) (x := x) (y := y) hO) rfl rfl rfl (fun _ _ => rfl) rfl (by exact cl_v my_118 rfl rfl rfl (Nat.le_of_ble_eq_true rfl) rfl (x_obj hO) rfl (by decide) rfl rfl) (by rfl) (Nat.le_of_ble_eq_true rfl) (Nat.le_of_ble_eq_true rfl) rfl (by rfl) ?_
      refine w_r rfl rfl rfl (fun _ _ => rfl) rfl ?_
      exact ⟨rfl, rfl, rfl⟩
set_option maxRecDepth 100000 in
theorem m_116_11 (hO : t[k]? = some (.inr (8, [.ref (241 + ops), .ref (241 + opn), .int (ck g), .ref (241 + stk)]))) : Wd L xs (d + 1) y_116 (0, [(0, .ref (241 + k)), (1, .int 11), (2, .long (e_V v)), (4, .long (e_V w))], [], MH C t, sl) (Rt (some (.long (o2K (u_2 g 11 (.inl v) (.inl w))))) (MH C t) sl) nX := by
  rw [u2_A (by unfold isA; decide)]
  cases v with
  | none =>
    refine w_p (pc1 := 1) rfl rfl ?_
    refine w_p (pc1 := 3) (st1 := .int 19 :: _) rfl rfl ?_
    refine w_t (a := 30) (b := 6) rfl rfl rfl ?_
    refine w_p (pc1 := 31) rfl rfl ?_
    refine w_p (pc1 := 33) (st1 := .int 20 :: _) rfl rfl ?_
    refine w_t (a := 60) (b := 36) rfl rfl rfl ?_
    refine w_p (pc1 := 61) rfl rfl ?_
    refine w_p (pc1 := 63) (st1 := .int 13 :: _) rfl rfl ?_
    refine w_t (a := 105) (b := 66) rfl rfl rfl ?_
    refine w_p (pc1 := 106) rfl rfl ?_
    refine w_m0 (pc1 := 109) (st1 := .long (-9223372036854775808) :: _) rfl rfl rfl rfl ?_
    refine w_p (pc1 := 110) rfl rfl ?_
    refine w_t (a := 122) (b := 113) (lb_eq_t (by rfl)) rfl rfl ?_
    refine w_m0 (pc1 := 125) (st1 := .long (-9223372036854775808) :: _) rfl rfl rfl rfl ?_
    refine w_p (pc1 := 136) rfl rfl ?_
    refine w_r rfl rfl rfl (fun _ _ => rfl) rfl ?_
    exact ⟨rfl, rfl, rfl⟩
  | some x => cases w with
    | none =>
      refine w_p (pc1 := 1) rfl rfl ?_
      refine w_p (pc1 := 3) (st1 := .int 19 :: _) rfl rfl ?_
      refine w_t (a := 30) (b := 6) rfl rfl rfl ?_
      refine w_p (pc1 := 31) rfl rfl ?_
      refine w_p (pc1 := 33) (st1 := .int 20 :: _) rfl rfl ?_
      refine w_t (a := 60) (b := 36) rfl rfl rfl ?_
      refine w_p (pc1 := 61) rfl rfl ?_
      refine w_p (pc1 := 63) (st1 := .int 13 :: _) rfl rfl ?_
      refine w_t (a := 105) (b := 66) rfl rfl rfl ?_
      refine w_p (pc1 := 106) rfl rfl ?_
      refine w_m0 (pc1 := 109) (st1 := .long (-9223372036854775808) :: _) rfl rfl rfl rfl ?_
      refine w_p (pc1 := 110) rfl rfl ?_
      refine w_f (a := 122) (b := 113) (lb_eq_f (by exact e_V_ne x)) rfl rfl ?_
      refine w_p (pc1 := 115) rfl rfl ?_
      refine w_m0 (pc1 := 118) (st1 := .long (-9223372036854775808) :: _) rfl rfl rfl rfl ?_
      refine w_p (pc1 := 119) rfl rfl ?_
      refine w_f (a := 128) (b := 122) (lb_ne_f (by rfl)) rfl rfl ?_
      refine w_m0 (pc1 := 125) (st1 := .long (-9223372036854775808) :: _) rfl rfl rfl rfl ?_
      refine w_p (pc1 := 136) rfl rfl ?_
      refine w_r rfl rfl rfl (fun _ _ => rfl) rfl ?_
      exact ⟨rfl, rfl, rfl⟩
    | some y =>
      refine w_p (pc1 := 1) rfl rfl ?_
      refine w_p (pc1 := 3) (st1 := .int 19 :: _) rfl rfl ?_
      refine w_t (a := 30) (b := 6) rfl rfl rfl ?_
      refine w_p (pc1 := 31) rfl rfl ?_
      refine w_p (pc1 := 33) (st1 := .int 20 :: _) rfl rfl ?_
      refine w_t (a := 60) (b := 36) rfl rfl rfl ?_
      refine w_p (pc1 := 61) rfl rfl ?_
      refine w_p (pc1 := 63) (st1 := .int 13 :: _) rfl rfl ?_
      refine w_t (a := 105) (b := 66) rfl rfl rfl ?_
      refine w_p (pc1 := 106) rfl rfl ?_
      refine w_m0 (pc1 := 109) (st1 := .long (-9223372036854775808) :: _) rfl rfl rfl rfl ?_
      refine w_p (pc1 := 110) rfl rfl ?_
      refine w_f (a := 122) (b := 113) (lb_eq_f (by exact e_V_ne x)) rfl rfl ?_
      refine w_p (pc1 := 115) rfl rfl ?_
      refine w_m0 (pc1 := 118) (st1 := .long (-9223372036854775808) :: _) rfl rfl rfl rfl ?_
      refine w_p (pc1 := 119) rfl rfl ?_
      refine w_t (a := 128) (b := 122) (lb_ne_t (by exact e_V_ne y)) rfl rfl ?_
      refine w_p (pc1 := 129) rfl rfl ?_
      refine w_p (pc1 := 130) rfl rfl ?_
      refine w_p (pc1 := 131) rfl rfl ?_
      refine w_p (pc1 := 133) rfl rfl ?_
      refine w_je (pc1 := 136) (vs := [.ref (241 + k), .int 11, .long (e_V (some x)), .long (e_V (some y))]) (rest := []) (st1 := [.long ((x.toInt64 * y.toInt64).toInt32.toInt64)]) (m_118_11 (d := d) (sl := 0) (x := x) (y := y) hO) rfl rfl rfl (fun _ _ => rfl) rfl (by exact cl_v my_118 rfl rfl rfl (Nat.le_of_ble_eq_true rfl) rfl (x_obj hO) rfl (by decide) rfl rfl) (by rfl) (Nat.le_of_ble_eq_true rfl) (Nat.le_of_ble_eq_true rfl) rfl (by rfl) ?_
      refine w_r rfl rfl rfl (fun _ _ => rfl) rfl ?_
      exact ⟨rfl, rfl, rfl⟩
set_option maxRecDepth 100000 in
theorem m_116_12 (hO : t[k]? = some (.inr (8, [.ref (241 + ops), .ref (241 + opn), .int (ck g), .ref (241 + stk)]))) : Wd L xs (d + 1) y_116 (0, [(0, .ref (241 + k)), (1, .int 12), (2, .long (e_V v)), (4, .long (e_V w))], [], MH C t, sl) (Rt (some (.long (o2K (u_2 g 12 (.inl v) (.inl w))))) (MH C t) sl) nX := by
  rw [u2_A (by unfold isA; decide)]
  cases v with
  | none =>
    refine w_p (pc1 := 1) rfl rfl ?_
    refine w_p (pc1 := 3) (st1 := .int 19 :: _) rfl rfl ?_
    refine w_t (a := 30) (b := 6) rfl rfl rfl ?_
    refine w_p (pc1 := 31) rfl rfl ?_
    refine w_p (pc1 := 33) (st1 := .int 20 :: _) rfl rfl ?_
    refine w_t (a := 60) (b := 36) rfl rfl rfl ?_
    refine w_p (pc1 := 61) rfl rfl ?_
    refine w_p (pc1 := 63) (st1 := .int 13 :: _) rfl rfl ?_
    refine w_t (a := 105) (b := 66) rfl rfl rfl ?_
    refine w_p (pc1 := 106) rfl rfl ?_
    refine w_m0 (pc1 := 109) (st1 := .long (-9223372036854775808) :: _) rfl rfl rfl rfl ?_
    refine w_p (pc1 := 110) rfl rfl ?_
    refine w_t (a := 122) (b := 113) (lb_eq_t (by rfl)) rfl rfl ?_
    refine w_m0 (pc1 := 125) (st1 := .long (-9223372036854775808) :: _) rfl rfl rfl rfl ?_
    refine w_p (pc1 := 136) rfl rfl ?_
    refine w_r rfl rfl rfl (fun _ _ => rfl) rfl ?_
    exact ⟨rfl, rfl, rfl⟩
  | some x => cases w with
    | none =>
      refine w_p (pc1 := 1) rfl rfl ?_
      refine w_p (pc1 := 3) (st1 := .int 19 :: _) rfl rfl ?_
      refine w_t (a := 30) (b := 6) rfl rfl rfl ?_
      refine w_p (pc1 := 31) rfl rfl ?_
      refine w_p (pc1 := 33) (st1 := .int 20 :: _) rfl rfl ?_
      refine w_t (a := 60) (b := 36) rfl rfl rfl ?_
      refine w_p (pc1 := 61) rfl rfl ?_
      refine w_p (pc1 := 63) (st1 := .int 13 :: _) rfl rfl ?_
      refine w_t (a := 105) (b := 66) rfl rfl rfl ?_
      refine w_p (pc1 := 106) rfl rfl ?_
      refine w_m0 (pc1 := 109) (st1 := .long (-9223372036854775808) :: _) rfl rfl rfl rfl ?_
      refine w_p (pc1 := 110) rfl rfl ?_
      refine w_f (a := 122) (b := 113) (lb_eq_f (by exact e_V_ne x)) rfl rfl ?_
      refine w_p (pc1 := 115) rfl rfl ?_
      refine w_m0 (pc1 := 118) (st1 := .long (-9223372036854775808) :: _) rfl rfl rfl rfl ?_
      refine w_p (pc1 := 119) rfl rfl ?_
      refine w_f (a := 128) (b := 122) (lb_ne_f (by rfl)) rfl rfl ?_
      refine w_m0 (pc1 := 125) (st1 := .long (-9223372036854775808) :: _) rfl rfl rfl rfl ?_
      refine w_p (pc1 := 136) rfl rfl ?_
      refine w_r rfl rfl rfl (fun _ _ => rfl) rfl ?_
      exact ⟨rfl, rfl, rfl⟩
    | some y =>
      refine w_p (pc1 := 1) rfl rfl ?_
      refine w_p (pc1 := 3) (st1 := .int 19 :: _) rfl rfl ?_
      refine w_t (a := 30) (b := 6) rfl rfl rfl ?_
      refine w_p (pc1 := 31) rfl rfl ?_
      refine w_p (pc1 := 33) (st1 := .int 20 :: _) rfl rfl ?_
      refine w_t (a := 60) (b := 36) rfl rfl rfl ?_
      refine w_p (pc1 := 61) rfl rfl ?_
      refine w_p (pc1 := 63) (st1 := .int 13 :: _) rfl rfl ?_
      refine w_t (a := 105) (b := 66) rfl rfl rfl ?_
      refine w_p (pc1 := 106) rfl rfl ?_
      refine w_m0 (pc1 := 109) (st1 := .long (-9223372036854775808) :: _) rfl rfl rfl rfl ?_
      refine w_p (pc1 := 110) rfl rfl ?_
      refine w_f (a := 122) (b := 113) (lb_eq_f (by exact e_V_ne x)) rfl rfl ?_
      refine w_p (pc1 := 115) rfl rfl ?_
      refine w_m0 (pc1 := 118) (st1 := .long (-9223372036854775808) :: _) rfl rfl rfl rfl ?_
      refine w_p (pc1 := 119) rfl rfl ?_
      refine w_t (a := 128) (b := 122) (lb_ne_t (by exact e_V_ne y)) rfl rfl ?_
      refine w_p (pc1 := 129) rfl rfl ?_
      refine w_p (pc1 := 130) rfl rfl ?_
      refine w_p (pc1 := 131) rfl rfl ?_
      refine w_p (pc1 := 133) rfl rfl ?_
      refine w_je (pc1 := 136) (vs := [.ref (241 + k), .int 12, .long (e_V (some x)), .long (e_V (some y))]) (rest := []) (st1 := [.long (o2K ((u_a g 12 x y).map .inl))]) (m_118_12 (d := d) (sl := 0) (x := x) (y := y) hO) rfl rfl rfl (fun _ _ => rfl) rfl (by exact cl_v my_118 rfl rfl rfl (Nat.le_of_ble_eq_true rfl) rfl (x_obj hO) rfl (by decide) rfl rfl) (by rfl) (Nat.le_of_ble_eq_true rfl) (Nat.le_of_ble_eq_true rfl) rfl (by rfl) ?_
      refine w_r rfl rfl rfl (fun _ _ => rfl) rfl ?_
      exact ⟨rfl, rfl, rfl⟩
set_option maxRecDepth 100000 in
theorem m_116_13 (hO : t[k]? = some (.inr (8, [.ref (241 + ops), .ref (241 + opn), .int (ck g), .ref (241 + stk)]))) : Wd L xs (d + 1) y_116 (0, [(0, .ref (241 + k)), (1, .int 13), (2, .long (e_V v)), (4, .long (e_V w))], [], MH C t, sl) (Rt (some (.long (o2K (u_2 g 13 (.inl v) (.inl w))))) (MH C t) sl) nX := by
  rw [u2_B (by unfold isB; decide)]
  cases v with
  | none =>
    refine w_p (pc1 := 1) rfl rfl ?_
    refine w_p (pc1 := 3) (st1 := .int 19 :: _) rfl rfl ?_
    refine w_t (a := 30) (b := 6) rfl rfl rfl ?_
    refine w_p (pc1 := 31) rfl rfl ?_
    refine w_p (pc1 := 33) (st1 := .int 20 :: _) rfl rfl ?_
    refine w_t (a := 60) (b := 36) rfl rfl rfl ?_
    refine w_p (pc1 := 61) rfl rfl ?_
    refine w_p (pc1 := 63) (st1 := .int 13 :: _) rfl rfl ?_
    refine w_f (a := 105) (b := 66) rfl rfl rfl ?_
    refine w_p (pc1 := 67) rfl rfl ?_
    refine w_m0 (pc1 := 70) (st1 := .long (-9223372036854775808) :: _) rfl rfl rfl rfl ?_
    refine w_p (pc1 := 71) rfl rfl ?_
    refine w_t (a := 83) (b := 74) (lb_eq_t (by rfl)) rfl rfl ?_
    refine w_m0 (pc1 := 86) (st1 := .long 2 :: _) rfl rfl rfl rfl ?_
    refine w_p (pc1 := 104) rfl rfl ?_
    refine w_r rfl rfl rfl (fun _ _ => rfl) rfl ?_
    exact ⟨rfl, rfl, rfl⟩
  | some x => cases w with
    | none =>
      refine w_p (pc1 := 1) rfl rfl ?_
      refine w_p (pc1 := 3) (st1 := .int 19 :: _) rfl rfl ?_
      refine w_t (a := 30) (b := 6) rfl rfl rfl ?_
      refine w_p (pc1 := 31) rfl rfl ?_
      refine w_p (pc1 := 33) (st1 := .int 20 :: _) rfl rfl ?_
      refine w_t (a := 60) (b := 36) rfl rfl rfl ?_
      refine w_p (pc1 := 61) rfl rfl ?_
      refine w_p (pc1 := 63) (st1 := .int 13 :: _) rfl rfl ?_
      refine w_f (a := 105) (b := 66) rfl rfl rfl ?_
      refine w_p (pc1 := 67) rfl rfl ?_
      refine w_m0 (pc1 := 70) (st1 := .long (-9223372036854775808) :: _) rfl rfl rfl rfl ?_
      refine w_p (pc1 := 71) rfl rfl ?_
      refine w_f (a := 83) (b := 74) (lb_eq_f (by exact e_V_ne x)) rfl rfl ?_
      refine w_p (pc1 := 76) rfl rfl ?_
      refine w_m0 (pc1 := 79) (st1 := .long (-9223372036854775808) :: _) rfl rfl rfl rfl ?_
      refine w_p (pc1 := 80) rfl rfl ?_
      refine w_f (a := 89) (b := 83) (lb_ne_f (by rfl)) rfl rfl ?_
      refine w_m0 (pc1 := 86) (st1 := .long 2 :: _) rfl rfl rfl rfl ?_
      refine w_p (pc1 := 104) rfl rfl ?_
      refine w_r rfl rfl rfl (fun _ _ => rfl) rfl ?_
      exact ⟨rfl, rfl, rfl⟩
    | some y =>
      show Wd _ _ _ _ _ (Rt (some (.long (t_K (some (u_c 13 x y))))) _ _) _
      have hm := m_117_13 (L := L) (xs := xs) (C := C) (t := t) (d := d) (sl := 0) (x := x) (y := y)
      cases hc : u_c 13 x y with
      | false =>
        rw [hc] at hm
        refine w_p (pc1 := 1) rfl rfl ?_
        refine w_p (pc1 := 3) (st1 := .int 19 :: _) rfl rfl ?_
        refine w_t (a := 30) (b := 6) rfl rfl rfl ?_
        refine w_p (pc1 := 31) rfl rfl ?_
        refine w_p (pc1 := 33) (st1 := .int 20 :: _) rfl rfl ?_
        refine w_t (a := 60) (b := 36) rfl rfl rfl ?_
        refine w_p (pc1 := 61) rfl rfl ?_
        refine w_p (pc1 := 63) (st1 := .int 13 :: _) rfl rfl ?_
        refine w_f (a := 105) (b := 66) rfl rfl rfl ?_
        refine w_p (pc1 := 67) rfl rfl ?_
        refine w_m0 (pc1 := 70) (st1 := .long (-9223372036854775808) :: _) rfl rfl rfl rfl ?_
        refine w_p (pc1 := 71) rfl rfl ?_
        refine w_f (a := 83) (b := 74) (lb_eq_f (by exact e_V_ne x)) rfl rfl ?_
        refine w_p (pc1 := 76) rfl rfl ?_
        refine w_m0 (pc1 := 79) (st1 := .long (-9223372036854775808) :: _) rfl rfl rfl rfl ?_
        refine w_p (pc1 := 80) rfl rfl ?_
        refine w_t (a := 89) (b := 83) (lb_ne_t (by exact e_V_ne y)) rfl rfl ?_
        refine w_p (pc1 := 90) rfl rfl ?_
        refine w_p (pc1 := 91) rfl rfl ?_
        refine w_p (pc1 := 93) rfl rfl ?_
        refine w_je (pc1 := 96) (vs := [.int 13, .long (e_V (some x)), .long (e_V (some y))]) (rest := []) (st1 := [.int 0]) (hm) rfl rfl rfl (fun _ _ => rfl) rfl (by exact cl_s my_117 rfl rfl rfl (Nat.le_of_ble_eq_true rfl) rfl rfl) (by rfl) (Nat.le_of_ble_eq_true rfl) (Nat.le_of_ble_eq_true rfl) rfl (by rfl) ?_
        refine w_t (a := 103) (b := 99) rfl rfl rfl ?_
        refine w_p (pc1 := 104) (st1 := .long 0 :: _) rfl rfl ?_
        refine w_r rfl rfl rfl (fun _ _ => rfl) rfl ?_
        exact ⟨rfl, rfl, rfl⟩
      | true =>
        rw [hc] at hm
        refine w_p (pc1 := 1) rfl rfl ?_
        refine w_p (pc1 := 3) (st1 := .int 19 :: _) rfl rfl ?_
        refine w_t (a := 30) (b := 6) rfl rfl rfl ?_
        refine w_p (pc1 := 31) rfl rfl ?_
        refine w_p (pc1 := 33) (st1 := .int 20 :: _) rfl rfl ?_
        refine w_t (a := 60) (b := 36) rfl rfl rfl ?_
        refine w_p (pc1 := 61) rfl rfl ?_
        refine w_p (pc1 := 63) (st1 := .int 13 :: _) rfl rfl ?_
        refine w_f (a := 105) (b := 66) rfl rfl rfl ?_
        refine w_p (pc1 := 67) rfl rfl ?_
        refine w_m0 (pc1 := 70) (st1 := .long (-9223372036854775808) :: _) rfl rfl rfl rfl ?_
        refine w_p (pc1 := 71) rfl rfl ?_
        refine w_f (a := 83) (b := 74) (lb_eq_f (by exact e_V_ne x)) rfl rfl ?_
        refine w_p (pc1 := 76) rfl rfl ?_
        refine w_m0 (pc1 := 79) (st1 := .long (-9223372036854775808) :: _) rfl rfl rfl rfl ?_
        refine w_p (pc1 := 80) rfl rfl ?_
        refine w_t (a := 89) (b := 83) (lb_ne_t (by exact e_V_ne y)) rfl rfl ?_
        refine w_p (pc1 := 90) rfl rfl ?_
        refine w_p (pc1 := 91) rfl rfl ?_
        refine w_p (pc1 := 93) rfl rfl ?_
        refine w_je (pc1 := 96) (vs := [.int 13, .long (e_V (some x)), .long (e_V (some y))]) (rest := []) (st1 := [.int 1]) (hm) rfl rfl rfl (fun _ _ => rfl) rfl (by exact cl_s my_117 rfl rfl rfl (Nat.le_of_ble_eq_true rfl) rfl rfl) (by rfl) (Nat.le_of_ble_eq_true rfl) (Nat.le_of_ble_eq_true rfl) rfl (by rfl) ?_
        refine w_f (a := 103) (b := 99) rfl rfl rfl ?_
        refine w_p (pc1 := 100) (st1 := .long 1 :: _) rfl rfl ?_
        refine w_p (pc1 := 104) rfl rfl ?_
        refine w_r rfl rfl rfl (fun _ _ => rfl) rfl ?_
        exact ⟨rfl, rfl, rfl⟩
set_option maxRecDepth 100000 in
theorem m_116_14 (hO : t[k]? = some (.inr (8, [.ref (241 + ops), .ref (241 + opn), .int (ck g), .ref (241 + stk)]))) : Wd L xs (d + 1) y_116 (0, [(0, .ref (241 + k)), (1, .int 14), (2, .long (e_V v)), (4, .long (e_V w))], [], MH C t, sl) (Rt (some (.long (o2K (u_2 g 14 (.inl v) (.inl w))))) (MH C t) sl) nX := by
  rw [u2_B (by unfold isB; decide)]
  cases v with
  | none =>
    refine w_p (pc1 := 1) rfl rfl ?_
    refine w_p (pc1 := 3) (st1 := .int 19 :: _) rfl rfl ?_
    refine w_t (a := 30) (b := 6) rfl rfl rfl ?_
    refine w_p (pc1 := 31) rfl rfl ?_
    refine w_p (pc1 := 33) (st1 := .int 20 :: _) rfl rfl ?_
    refine w_t (a := 60) (b := 36) rfl rfl rfl ?_
    refine w_p (pc1 := 61) rfl rfl ?_
    refine w_p (pc1 := 63) (st1 := .int 13 :: _) rfl rfl ?_
    refine w_f (a := 105) (b := 66) rfl rfl rfl ?_
    refine w_p (pc1 := 67) rfl rfl ?_
    refine w_m0 (pc1 := 70) (st1 := .long (-9223372036854775808) :: _) rfl rfl rfl rfl ?_
    refine w_p (pc1 := 71) rfl rfl ?_
    refine w_t (a := 83) (b := 74) (lb_eq_t (by rfl)) rfl rfl ?_
    refine w_m0 (pc1 := 86) (st1 := .long 2 :: _) rfl rfl rfl rfl ?_
    refine w_p (pc1 := 104) rfl rfl ?_
    refine w_r rfl rfl rfl (fun _ _ => rfl) rfl ?_
    exact ⟨rfl, rfl, rfl⟩
  | some x => cases w with
    | none =>
      refine w_p (pc1 := 1) rfl rfl ?_
      refine w_p (pc1 := 3) (st1 := .int 19 :: _) rfl rfl ?_
      refine w_t (a := 30) (b := 6) rfl rfl rfl ?_
      refine w_p (pc1 := 31) rfl rfl ?_
      refine w_p (pc1 := 33) (st1 := .int 20 :: _) rfl rfl ?_
      refine w_t (a := 60) (b := 36) rfl rfl rfl ?_
      refine w_p (pc1 := 61) rfl rfl ?_
      refine w_p (pc1 := 63) (st1 := .int 13 :: _) rfl rfl ?_
      refine w_f (a := 105) (b := 66) rfl rfl rfl ?_
      refine w_p (pc1 := 67) rfl rfl ?_
      refine w_m0 (pc1 := 70) (st1 := .long (-9223372036854775808) :: _) rfl rfl rfl rfl ?_
      refine w_p (pc1 := 71) rfl rfl ?_
      refine w_f (a := 83) (b := 74) (lb_eq_f (by exact e_V_ne x)) rfl rfl ?_
      refine w_p (pc1 := 76) rfl rfl ?_
      refine w_m0 (pc1 := 79) (st1 := .long (-9223372036854775808) :: _) rfl rfl rfl rfl ?_
      refine w_p (pc1 := 80) rfl rfl ?_
      refine w_f (a := 89) (b := 83) (lb_ne_f (by rfl)) rfl rfl ?_
      refine w_m0 (pc1 := 86) (st1 := .long 2 :: _) rfl rfl rfl rfl ?_
      refine w_p (pc1 := 104) rfl rfl ?_
      refine w_r rfl rfl rfl (fun _ _ => rfl) rfl ?_
      exact ⟨rfl, rfl, rfl⟩
    | some y =>
      show Wd _ _ _ _ _ (Rt (some (.long (t_K (some (u_c 14 x y))))) _ _) _
      have hm := m_117_14 (L := L) (xs := xs) (C := C) (t := t) (d := d) (sl := 0) (x := x) (y := y)
      cases hc : u_c 14 x y with
      | false =>
        rw [hc] at hm
        refine w_p (pc1 := 1) rfl rfl ?_
        refine w_p (pc1 := 3) (st1 := .int 19 :: _) rfl rfl ?_
        refine w_t (a := 30) (b := 6) rfl rfl rfl ?_
        refine w_p (pc1 := 31) rfl rfl ?_
        refine w_p (pc1 := 33) (st1 := .int 20 :: _) rfl rfl ?_
        refine w_t (a := 60) (b := 36) rfl rfl rfl ?_
        refine w_p (pc1 := 61) rfl rfl ?_
        refine w_p (pc1 := 63) (st1 := .int 13 :: _) rfl rfl ?_
        refine w_f (a := 105) (b := 66) rfl rfl rfl ?_
        refine w_p (pc1 := 67) rfl rfl ?_
        refine w_m0 (pc1 := 70) (st1 := .long (-9223372036854775808) :: _) rfl rfl rfl rfl ?_
        refine w_p (pc1 := 71) rfl rfl ?_
        refine w_f (a := 83) (b := 74) (lb_eq_f (by exact e_V_ne x)) rfl rfl ?_
        refine w_p (pc1 := 76) rfl rfl ?_
        refine w_m0 (pc1 := 79) (st1 := .long (-9223372036854775808) :: _) rfl rfl rfl rfl ?_
        refine w_p (pc1 := 80) rfl rfl ?_
        refine w_t (a := 89) (b := 83) (lb_ne_t (by exact e_V_ne y)) rfl rfl ?_
        refine w_p (pc1 := 90) rfl rfl ?_
        refine w_p (pc1 := 91) rfl rfl ?_
        refine w_p (pc1 := 93) rfl rfl ?_
        refine w_je (pc1 := 96) (vs := [.int 14, .long (e_V (some x)), .long (e_V (some y))]) (rest := []) (st1 := [.int 0]) (hm) rfl rfl rfl (fun _ _ => rfl) rfl (by exact cl_s my_117 rfl rfl rfl (Nat.le_of_ble_eq_true rfl) rfl rfl) (by rfl) (Nat.le_of_ble_eq_true rfl) (Nat.le_of_ble_eq_true rfl) rfl (by rfl) ?_
        refine w_t (a := 103) (b := 99) rfl rfl rfl ?_
        refine w_p (pc1 := 104) (st1 := .long 0 :: _) rfl rfl ?_
        refine w_r rfl rfl rfl (fun _ _ => rfl) rfl ?_
        exact ⟨rfl, rfl, rfl⟩
      | true =>
        rw [hc] at hm
        refine w_p (pc1 := 1) rfl rfl ?_
        refine w_p (pc1 := 3) (st1 := .int 19 :: _) rfl rfl ?_
        refine w_t (a := 30) (b := 6) rfl rfl rfl ?_
        refine w_p (pc1 := 31) rfl rfl ?_
        refine w_p (pc1 := 33) (st1 := .int 20 :: _) rfl rfl ?_
        refine w_t (a := 60) (b := 36) rfl rfl rfl ?_
        refine w_p (pc1 := 61) rfl rfl ?_
        refine w_p (pc1 := 63) (st1 := .int 13 :: _) rfl rfl ?_
        refine w_f (a := 105) (b := 66) rfl rfl rfl ?_
        refine w_p (pc1 := 67) rfl rfl ?_
        refine w_m0 (pc1 := 70) (st1 := .long (-9223372036854775808) :: _) rfl rfl rfl rfl ?_
        refine w_p (pc1 := 71) rfl rfl ?_
        refine w_f (a := 83) (b := 74) (lb_eq_f (by exact e_V_ne x)) rfl rfl ?_
        refine w_p (pc1 := 76) rfl rfl ?_
        refine w_m0 (pc1 := 79) (st1 := .long (-9223372036854775808) :: _) rfl rfl rfl rfl ?_
        refine w_p (pc1 := 80) rfl rfl ?_
        refine w_t (a := 89) (b := 83) (lb_ne_t (by exact e_V_ne y)) rfl rfl ?_
        refine w_p (pc1 := 90) rfl rfl ?_
        refine w_p (pc1 := 91) rfl rfl ?_
        refine w_p (pc1 := 93) rfl rfl ?_
        refine w_je (pc1 := 96) (vs := [.int 14, .long (e_V (some x)), .long (e_V (some y))]) (rest := []) (st1 := [.int 1]) (hm) rfl rfl rfl (fun _ _ => rfl) rfl (by exact cl_s my_117 rfl rfl rfl (Nat.le_of_ble_eq_true rfl) rfl rfl) (by rfl) (Nat.le_of_ble_eq_true rfl) (Nat.le_of_ble_eq_true rfl) rfl (by rfl) ?_
        refine w_f (a := 103) (b := 99) rfl rfl rfl ?_
        refine w_p (pc1 := 100) (st1 := .long 1 :: _) rfl rfl ?_
        refine w_p (pc1 := 104) rfl rfl ?_
        refine w_r rfl rfl rfl (fun _ _ => rfl) rfl ?_
        exact ⟨rfl, rfl, rfl⟩
set_option maxRecDepth 100000 in
theorem m_116_15 (hO : t[k]? = some (.inr (8, [.ref (241 + ops), .ref (241 + opn), .int (ck g), .ref (241 + stk)]))) : Wd L xs (d + 1) y_116 (0, [(0, .ref (241 + k)), (1, .int 15), (2, .long (e_V v)), (4, .long (e_V w))], [], MH C t, sl) (Rt (some (.long (o2K (u_2 g 15 (.inl v) (.inl w))))) (MH C t) sl) nX := by
  rw [u2_B (by unfold isB; decide)]
  cases v with
  | none =>
    refine w_p (pc1 := 1) rfl rfl ?_
    refine w_p (pc1 := 3) (st1 := .int 19 :: _) rfl rfl ?_
    refine w_t (a := 30) (b := 6) rfl rfl rfl ?_
    refine w_p (pc1 := 31) rfl rfl ?_
    refine w_p (pc1 := 33) (st1 := .int 20 :: _) rfl rfl ?_
    refine w_t (a := 60) (b := 36) rfl rfl rfl ?_
    refine w_p (pc1 := 61) rfl rfl ?_
    refine w_p (pc1 := 63) (st1 := .int 13 :: _) rfl rfl ?_
    refine w_f (a := 105) (b := 66) rfl rfl rfl ?_
    refine w_p (pc1 := 67) rfl rfl ?_
    refine w_m0 (pc1 := 70) (st1 := .long (-9223372036854775808) :: _) rfl rfl rfl rfl ?_
    refine w_p (pc1 := 71) rfl rfl ?_
    refine w_t (a := 83) (b := 74) (lb_eq_t (by rfl)) rfl rfl ?_
    refine w_m0 (pc1 := 86) (st1 := .long 2 :: _) rfl rfl rfl rfl ?_
    refine w_p (pc1 := 104) rfl rfl ?_
    refine w_r rfl rfl rfl (fun _ _ => rfl) rfl ?_
    exact ⟨rfl, rfl, rfl⟩
  | some x => cases w with
    | none =>
      refine w_p (pc1 := 1) rfl rfl ?_
      refine w_p (pc1 := 3) (st1 := .int 19 :: _) rfl rfl ?_
      refine w_t (a := 30) (b := 6) rfl rfl rfl ?_
      refine w_p (pc1 := 31) rfl rfl ?_
      refine w_p (pc1 := 33) (st1 := .int 20 :: _) rfl rfl ?_
      refine w_t (a := 60) (b := 36) rfl rfl rfl ?_
      refine w_p (pc1 := 61) rfl rfl ?_
      refine w_p (pc1 := 63) (st1 := .int 13 :: _) rfl rfl ?_
      refine w_f (a := 105) (b := 66) rfl rfl rfl ?_
      refine w_p (pc1 := 67) rfl rfl ?_
      refine w_m0 (pc1 := 70) (st1 := .long (-9223372036854775808) :: _) rfl rfl rfl rfl ?_
      refine w_p (pc1 := 71) rfl rfl ?_
      refine w_f (a := 83) (b := 74) (lb_eq_f (by exact e_V_ne x)) rfl rfl ?_
      refine w_p (pc1 := 76) rfl rfl ?_
      refine w_m0 (pc1 := 79) (st1 := .long (-9223372036854775808) :: _) rfl rfl rfl rfl ?_
      refine w_p (pc1 := 80) rfl rfl ?_
      refine w_f (a := 89) (b := 83) (lb_ne_f (by rfl)) rfl rfl ?_
      refine w_m0 (pc1 := 86) (st1 := .long 2 :: _) rfl rfl rfl rfl ?_
      refine w_p (pc1 := 104) rfl rfl ?_
      refine w_r rfl rfl rfl (fun _ _ => rfl) rfl ?_
      exact ⟨rfl, rfl, rfl⟩
    | some y =>
      show Wd _ _ _ _ _ (Rt (some (.long (t_K (some (u_c 15 x y))))) _ _) _
      have hm := m_117_15 (L := L) (xs := xs) (C := C) (t := t) (d := d) (sl := 0) (x := x) (y := y)
      cases hc : u_c 15 x y with
      | false =>
        rw [hc] at hm
        refine w_p (pc1 := 1) rfl rfl ?_
        refine w_p (pc1 := 3) (st1 := .int 19 :: _) rfl rfl ?_
        refine w_t (a := 30) (b := 6) rfl rfl rfl ?_
        refine w_p (pc1 := 31) rfl rfl ?_
        refine w_p (pc1 := 33) (st1 := .int 20 :: _) rfl rfl ?_
        refine w_t (a := 60) (b := 36) rfl rfl rfl ?_
        refine w_p (pc1 := 61) rfl rfl ?_
        refine w_p (pc1 := 63) (st1 := .int 13 :: _) rfl rfl ?_
        refine w_f (a := 105) (b := 66) rfl rfl rfl ?_
        refine w_p (pc1 := 67) rfl rfl ?_
        refine w_m0 (pc1 := 70) (st1 := .long (-9223372036854775808) :: _) rfl rfl rfl rfl ?_
        refine w_p (pc1 := 71) rfl rfl ?_
        refine w_f (a := 83) (b := 74) (lb_eq_f (by exact e_V_ne x)) rfl rfl ?_
        refine w_p (pc1 := 76) rfl rfl ?_
        refine w_m0 (pc1 := 79) (st1 := .long (-9223372036854775808) :: _) rfl rfl rfl rfl ?_
        refine w_p (pc1 := 80) rfl rfl ?_
        refine w_t (a := 89) (b := 83) (lb_ne_t (by exact e_V_ne y)) rfl rfl ?_
        refine w_p (pc1 := 90) rfl rfl ?_
        refine w_p (pc1 := 91) rfl rfl ?_
        refine w_p (pc1 := 93) rfl rfl ?_
        refine w_je (pc1 := 96) (vs := [.int 15, .long (e_V (some x)), .long (e_V (some y))]) (rest := []) (st1 := [.int 0]) (hm) rfl rfl rfl (fun _ _ => rfl) rfl (by exact cl_s my_117 rfl rfl rfl (Nat.le_of_ble_eq_true rfl) rfl rfl) (by rfl) (Nat.le_of_ble_eq_true rfl) (Nat.le_of_ble_eq_true rfl) rfl (by rfl) ?_
        refine w_t (a := 103) (b := 99) rfl rfl rfl ?_
        refine w_p (pc1 := 104) (st1 := .long 0 :: _) rfl rfl ?_
        refine w_r rfl rfl rfl (fun _ _ => rfl) rfl ?_
        exact ⟨rfl, rfl, rfl⟩
      | true =>
        rw [hc] at hm
        refine w_p (pc1 := 1) rfl rfl ?_
        refine w_p (pc1 := 3) (st1 := .int 19 :: _) rfl rfl ?_
        refine w_t (a := 30) (b := 6) rfl rfl rfl ?_
        refine w_p (pc1 := 31) rfl rfl ?_
        refine w_p (pc1 := 33) (st1 := .int 20 :: _) rfl rfl ?_
        refine w_t (a := 60) (b := 36) rfl rfl rfl ?_
        refine w_p (pc1 := 61) rfl rfl ?_
        refine w_p (pc1 := 63) (st1 := .int 13 :: _) rfl rfl ?_
        refine w_f (a := 105) (b := 66) rfl rfl rfl ?_
        refine w_p (pc1 := 67) rfl rfl ?_
        refine w_m0 (pc1 := 70) (st1 := .long (-9223372036854775808) :: _) rfl rfl rfl rfl ?_
        refine w_p (pc1 := 71) rfl rfl ?_
        refine w_f (a := 83) (b := 74) (lb_eq_f (by exact e_V_ne x)) rfl rfl ?_
        refine w_p (pc1 := 76) rfl rfl ?_
        refine w_m0 (pc1 := 79) (st1 := .long (-9223372036854775808) :: _) rfl rfl rfl rfl ?_
        refine w_p (pc1 := 80) rfl rfl ?_
        refine w_t (a := 89) (b := 83) (lb_ne_t (by exact e_V_ne y)) rfl rfl ?_
        refine w_p (pc1 := 90) rfl rfl ?_
        refine w_p (pc1 := 91) rfl rfl ?_
        refine w_p (pc1 := 93) rfl rfl ?_
        refine w_je (pc1 := 96) (vs := [.int 15, .long (e_V (some x)), .long (e_V (some y))]) (rest := []) (st1 := [.int 1]) (hm) rfl rfl rfl (fun _ _ => rfl) rfl (by exact cl_s my_117 rfl rfl rfl (Nat.le_of_ble_eq_true rfl) rfl rfl) (by rfl) (Nat.le_of_ble_eq_true rfl) (Nat.le_of_ble_eq_true rfl) rfl (by rfl) ?_
        refine w_f (a := 103) (b := 99) rfl rfl rfl ?_
        refine w_p (pc1 := 100) (st1 := .long 1 :: _) rfl rfl ?_
        refine w_p (pc1 := 104) rfl rfl ?_
        refine w_r rfl rfl rfl (fun _ _ => rfl) rfl ?_
        exact ⟨rfl, rfl, rfl⟩
set_option maxRecDepth 100000 in
theorem m_116_16 (hO : t[k]? = some (.inr (8, [.ref (241 + ops), .ref (241 + opn), .int (ck g), .ref (241 + stk)]))) : Wd L xs (d + 1) y_116 (0, [(0, .ref (241 + k)), (1, .int 16), (2, .long (e_V v)), (4, .long (e_V w))], [], MH C t, sl) (Rt (some (.long (o2K (u_2 g 16 (.inl v) (.inl w))))) (MH C t) sl) nX := by
  rw [u2_B (by unfold isB; decide)]
  cases v with
  | none =>
    refine w_p (pc1 := 1) rfl rfl ?_
    refine w_p (pc1 := 3) (st1 := .int 19 :: _) rfl rfl ?_
    refine w_t (a := 30) (b := 6) rfl rfl rfl ?_
    refine w_p (pc1 := 31) rfl rfl ?_
    refine w_p (pc1 := 33) (st1 := .int 20 :: _) rfl rfl ?_
    refine w_t (a := 60) (b := 36) rfl rfl rfl ?_
    refine w_p (pc1 := 61) rfl rfl ?_
    refine w_p (pc1 := 63) (st1 := .int 13 :: _) rfl rfl ?_
    refine w_f (a := 105) (b := 66) rfl rfl rfl ?_
    refine w_p (pc1 := 67) rfl rfl ?_
    refine w_m0 (pc1 := 70) (st1 := .long (-9223372036854775808) :: _) rfl rfl rfl rfl ?_
    refine w_p (pc1 := 71) rfl rfl ?_
    refine w_t (a := 83) (b := 74) (lb_eq_t (by rfl)) rfl rfl ?_
    refine w_m0 (pc1 := 86) (st1 := .long 2 :: _) rfl rfl rfl rfl ?_
    refine w_p (pc1 := 104) rfl rfl ?_
    refine w_r rfl rfl rfl (fun _ _ => rfl) rfl ?_
    exact ⟨rfl, rfl, rfl⟩
  | some x => cases w with
    | none =>
      refine w_p (pc1 := 1) rfl rfl ?_
      refine w_p (pc1 := 3) (st1 := .int 19 :: _) rfl rfl ?_
      refine w_t (a := 30) (b := 6) rfl rfl rfl ?_
      refine w_p (pc1 := 31) rfl rfl ?_
      refine w_p (pc1 := 33) (st1 := .int 20 :: _) rfl rfl ?_
      refine w_t (a := 60) (b := 36) rfl rfl rfl ?_
      refine w_p (pc1 := 61) rfl rfl ?_
      refine w_p (pc1 := 63) (st1 := .int 13 :: _) rfl rfl ?_
      refine w_f (a := 105) (b := 66) rfl rfl rfl ?_
      refine w_p (pc1 := 67) rfl rfl ?_
      refine w_m0 (pc1 := 70) (st1 := .long (-9223372036854775808) :: _) rfl rfl rfl rfl ?_
      refine w_p (pc1 := 71) rfl rfl ?_
      refine w_f (a := 83) (b := 74) (lb_eq_f (by exact e_V_ne x)) rfl rfl ?_
      refine w_p (pc1 := 76) rfl rfl ?_
      refine w_m0 (pc1 := 79) (st1 := .long (-9223372036854775808) :: _) rfl rfl rfl rfl ?_
      refine w_p (pc1 := 80) rfl rfl ?_
      refine w_f (a := 89) (b := 83) (lb_ne_f (by rfl)) rfl rfl ?_
      refine w_m0 (pc1 := 86) (st1 := .long 2 :: _) rfl rfl rfl rfl ?_
      refine w_p (pc1 := 104) rfl rfl ?_
      refine w_r rfl rfl rfl (fun _ _ => rfl) rfl ?_
      exact ⟨rfl, rfl, rfl⟩
    | some y =>
      show Wd _ _ _ _ _ (Rt (some (.long (t_K (some (u_c 16 x y))))) _ _) _
      have hm := m_117_16 (L := L) (xs := xs) (C := C) (t := t) (d := d) (sl := 0) (x := x) (y := y)
      cases hc : u_c 16 x y with
      | false =>
        rw [hc] at hm
        refine w_p (pc1 := 1) rfl rfl ?_
        refine w_p (pc1 := 3) (st1 := .int 19 :: _) rfl rfl ?_
        refine w_t (a := 30) (b := 6) rfl rfl rfl ?_
        refine w_p (pc1 := 31) rfl rfl ?_
        refine w_p (pc1 := 33) (st1 := .int 20 :: _) rfl rfl ?_
        refine w_t (a := 60) (b := 36) rfl rfl rfl ?_
        refine w_p (pc1 := 61) rfl rfl ?_
        refine w_p (pc1 := 63) (st1 := .int 13 :: _) rfl rfl ?_
        refine w_f (a := 105) (b := 66) rfl rfl rfl ?_
        refine w_p (pc1 := 67) rfl rfl ?_
        refine w_m0 (pc1 := 70) (st1 := .long (-9223372036854775808) :: _) rfl rfl rfl rfl ?_
        refine w_p (pc1 := 71) rfl rfl ?_
        refine w_f (a := 83) (b := 74) (lb_eq_f (by exact e_V_ne x)) rfl rfl ?_
        refine w_p (pc1 := 76) rfl rfl ?_
        refine w_m0 (pc1 := 79) (st1 := .long (-9223372036854775808) :: _) rfl rfl rfl rfl ?_
        refine w_p (pc1 := 80) rfl rfl ?_
        refine w_t (a := 89) (b := 83) (lb_ne_t (by exact e_V_ne y)) rfl rfl ?_
        refine w_p (pc1 := 90) rfl rfl ?_
        refine w_p (pc1 := 91) rfl rfl ?_
        refine w_p (pc1 := 93) rfl rfl ?_
        refine w_je (pc1 := 96) (vs := [.int 16, .long (e_V (some x)), .long (e_V (some y))]) (rest := []) (st1 := [.int 0]) (hm) rfl rfl rfl (fun _ _ => rfl) rfl (by exact cl_s my_117 rfl rfl rfl (Nat.le_of_ble_eq_true rfl) rfl rfl) (by rfl) (Nat.le_of_ble_eq_true rfl) (Nat.le_of_ble_eq_true rfl) rfl (by rfl) ?_
        refine w_t (a := 103) (b := 99) rfl rfl rfl ?_
        refine w_p (pc1 := 104) (st1 := .long 0 :: _) rfl rfl ?_
        refine w_r rfl rfl rfl (fun _ _ => rfl) rfl ?_
        exact ⟨rfl, rfl, rfl⟩
      | true =>
        rw [hc] at hm
        refine w_p (pc1 := 1) rfl rfl ?_
        refine w_p (pc1 := 3) (st1 := .int 19 :: _) rfl rfl ?_
        refine w_t (a := 30) (b := 6) rfl rfl rfl ?_
        refine w_p (pc1 := 31) rfl rfl ?_
        refine w_p (pc1 := 33) (st1 := .int 20 :: _) rfl rfl ?_
        refine w_t (a := 60) (b := 36) rfl rfl rfl ?_
        refine w_p (pc1 := 61) rfl rfl ?_
        refine w_p (pc1 := 63) (st1 := .int 13 :: _) rfl rfl ?_
        refine w_f (a := 105) (b := 66) rfl rfl rfl ?_
        refine w_p (pc1 := 67) rfl rfl ?_
        refine w_m0 (pc1 := 70) (st1 := .long (-9223372036854775808) :: _) rfl rfl rfl rfl ?_
        refine w_p (pc1 := 71) rfl rfl ?_
        refine w_f (a := 83) (b := 74) (lb_eq_f (by exact e_V_ne x)) rfl rfl ?_
        refine w_p (pc1 := 76) rfl rfl ?_
        refine w_m0 (pc1 := 79) (st1 := .long (-9223372036854775808) :: _) rfl rfl rfl rfl ?_
        refine w_p (pc1 := 80) rfl rfl ?_
        refine w_t (a := 89) (b := 83) (lb_ne_t (by exact e_V_ne y)) rfl rfl ?_
        refine w_p (pc1 := 90) rfl rfl ?_
        refine w_p (pc1 := 91) rfl rfl ?_
        refine w_p (pc1 := 93) rfl rfl ?_
        refine w_je (pc1 := 96) (vs := [.int 16, .long (e_V (some x)), .long (e_V (some y))]) (rest := []) (st1 := [.int 1]) (hm) rfl rfl rfl (fun _ _ => rfl) rfl (by exact cl_s my_117 rfl rfl rfl (Nat.le_of_ble_eq_true rfl) rfl rfl) (by rfl) (Nat.le_of_ble_eq_true rfl) (Nat.le_of_ble_eq_true rfl) rfl (by rfl) ?_
        refine w_f (a := 103) (b := 99) rfl rfl rfl ?_
        refine w_p (pc1 := 100) (st1 := .long 1 :: _) rfl rfl ?_
        refine w_p (pc1 := 104) rfl rfl ?_
        refine w_r rfl rfl rfl (fun _ _ => rfl) rfl ?_
        exact ⟨rfl, rfl, rfl⟩
set_option maxRecDepth 100000 in
theorem m_116_17 (hO : t[k]? = some (.inr (8, [.ref (241 + ops), .ref (241 + opn), .int (ck g), .ref (241 + stk)]))) : Wd L xs (d + 1) y_116 (0, [(0, .ref (241 + k)), (1, .int 17), (2, .long (e_V v)), (4, .long (e_V w))], [], MH C t, sl) (Rt (some (.long (o2K (u_2 g 17 (.inl v) (.inl w))))) (MH C t) sl) nX := by
  rw [u2_B (by unfold isB; decide)]
  cases v with
  | none =>
    refine w_p (pc1 := 1) rfl rfl ?_
    refine w_p (pc1 := 3) (st1 := .int 19 :: _) rfl rfl ?_
    refine w_t (a := 30) (b := 6) rfl rfl rfl ?_
    refine w_p (pc1 := 31) rfl rfl ?_
    refine w_p (pc1 := 33) (st1 := .int 20 :: _) rfl rfl ?_
    refine w_t (a := 60) (b := 36) rfl rfl rfl ?_
    refine w_p (pc1 := 61) rfl rfl ?_
    refine w_p (pc1 := 63) (st1 := .int 13 :: _) rfl rfl ?_
    refine w_f (a := 105) (b := 66) rfl rfl rfl ?_
    refine w_p (pc1 := 67) rfl rfl ?_
    refine w_m0 (pc1 := 70) (st1 := .long (-9223372036854775808) :: _) rfl rfl rfl rfl ?_
    refine w_p (pc1 := 71) rfl rfl ?_
    refine w_t (a := 83) (b := 74) (lb_eq_t (by rfl)) rfl rfl ?_
    refine w_m0 (pc1 := 86) (st1 := .long 2 :: _) rfl rfl rfl rfl ?_
    refine w_p (pc1 := 104) rfl rfl ?_
    refine w_r rfl rfl rfl (fun _ _ => rfl) rfl ?_
    exact ⟨rfl, rfl, rfl⟩
  | some x => cases w with
    | none =>
      refine w_p (pc1 := 1) rfl rfl ?_
      refine w_p (pc1 := 3) (st1 := .int 19 :: _) rfl rfl ?_
      refine w_t (a := 30) (b := 6) rfl rfl rfl ?_
      refine w_p (pc1 := 31) rfl rfl ?_
      refine w_p (pc1 := 33) (st1 := .int 20 :: _) rfl rfl ?_
      refine w_t (a := 60) (b := 36) rfl rfl rfl ?_
      refine w_p (pc1 := 61) rfl rfl ?_
      refine w_p (pc1 := 63) (st1 := .int 13 :: _) rfl rfl ?_
      refine w_f (a := 105) (b := 66) rfl rfl rfl ?_
      refine w_p (pc1 := 67) rfl rfl ?_
      refine w_m0 (pc1 := 70) (st1 := .long (-9223372036854775808) :: _) rfl rfl rfl rfl ?_
      refine w_p (pc1 := 71) rfl rfl ?_
      refine w_f (a := 83) (b := 74) (lb_eq_f (by exact e_V_ne x)) rfl rfl ?_
      refine w_p (pc1 := 76) rfl rfl ?_
      refine w_m0 (pc1 := 79) (st1 := .long (-9223372036854775808) :: _) rfl rfl rfl rfl ?_
      refine w_p (pc1 := 80) rfl rfl ?_
      refine w_f (a := 89) (b := 83) (lb_ne_f (by rfl)) rfl rfl ?_
      refine w_m0 (pc1 := 86) (st1 := .long 2 :: _) rfl rfl rfl rfl ?_
      refine w_p (pc1 := 104) rfl rfl ?_
      refine w_r rfl rfl rfl (fun _ _ => rfl) rfl ?_
      exact ⟨rfl, rfl, rfl⟩
    | some y =>
      show Wd _ _ _ _ _ (Rt (some (.long (t_K (some (u_c 17 x y))))) _ _) _
      have hm := m_117_17 (L := L) (xs := xs) (C := C) (t := t) (d := d) (sl := 0) (x := x) (y := y)
      cases hc : u_c 17 x y with
      | false =>
        rw [hc] at hm
        refine w_p (pc1 := 1) rfl rfl ?_
        refine w_p (pc1 := 3) (st1 := .int 19 :: _) rfl rfl ?_
        refine w_t (a := 30) (b := 6) rfl rfl rfl ?_
        refine w_p (pc1 := 31) rfl rfl ?_
        refine w_p (pc1 := 33) (st1 := .int 20 :: _) rfl rfl ?_
        refine w_t (a := 60) (b := 36) rfl rfl rfl ?_
        refine w_p (pc1 := 61) rfl rfl ?_
        refine w_p (pc1 := 63) (st1 := .int 13 :: _) rfl rfl ?_
        refine w_f (a := 105) (b := 66) rfl rfl rfl ?_
        refine w_p (pc1 := 67) rfl rfl ?_
        refine w_m0 (pc1 := 70) (st1 := .long (-9223372036854775808) :: _) rfl rfl rfl rfl ?_
        refine w_p (pc1 := 71) rfl rfl ?_
        refine w_f (a := 83) (b := 74) (lb_eq_f (by exact e_V_ne x)) rfl rfl ?_
        refine w_p (pc1 := 76) rfl rfl ?_
        refine w_m0 (pc1 := 79) (st1 := .long (-9223372036854775808) :: _) rfl rfl rfl rfl ?_
        refine w_p (pc1 := 80) rfl rfl ?_
        refine w_t (a := 89) (b := 83) (lb_ne_t (by exact e_V_ne y)) rfl rfl ?_
        refine w_p (pc1 := 90) rfl rfl ?_
        refine w_p (pc1 := 91) rfl rfl ?_
        refine w_p (pc1 := 93) rfl rfl ?_
        refine w_je (pc1 := 96) (vs := [.int 17, .long (e_V (some x)), .long (e_V (some y))]) (rest := []) (st1 := [.int 0]) (hm) rfl rfl rfl (fun _ _ => rfl) rfl (by exact cl_s my_117 rfl rfl rfl (Nat.le_of_ble_eq_true rfl) rfl rfl) (by rfl) (Nat.le_of_ble_eq_true rfl) (Nat.le_of_ble_eq_true rfl) rfl (by rfl) ?_
        refine w_t (a := 103) (b := 99) rfl rfl rfl ?_
        refine w_p (pc1 := 104) (st1 := .long 0 :: _) rfl rfl ?_
        refine w_r rfl rfl rfl (fun _ _ => rfl) rfl ?_
        exact ⟨rfl, rfl, rfl⟩
      | true =>
        rw [hc] at hm
        refine w_p (pc1 := 1) rfl rfl ?_
        refine w_p (pc1 := 3) (st1 := .int 19 :: _) rfl rfl ?_
        refine w_t (a := 30) (b := 6) rfl rfl rfl ?_
        refine w_p (pc1 := 31) rfl rfl ?_
        refine w_p (pc1 := 33) (st1 := .int 20 :: _) rfl rfl ?_
        refine w_t (a := 60) (b := 36) rfl rfl rfl ?_
        refine w_p (pc1 := 61) rfl rfl ?_
        refine w_p (pc1 := 63) (st1 := .int 13 :: _) rfl rfl ?_
        refine w_f (a := 105) (b := 66) rfl rfl rfl ?_
        refine w_p (pc1 := 67) rfl rfl ?_
        refine w_m0 (pc1 := 70) (st1 := .long (-9223372036854775808) :: _) rfl rfl rfl rfl ?_
        refine w_p (pc1 := 71) rfl rfl ?_
        refine w_f (a := 83) (b := 74) (lb_eq_f (by exact e_V_ne x)) rfl rfl ?_
        refine w_p (pc1 := 76) rfl rfl ?_
        refine w_m0 (pc1 := 79) (st1 := .long (-9223372036854775808) :: _) rfl rfl rfl rfl ?_
        refine w_p (pc1 := 80) rfl rfl ?_
        refine w_t (a := 89) (b := 83) (lb_ne_t (by exact e_V_ne y)) rfl rfl ?_
        refine w_p (pc1 := 90) rfl rfl ?_
        refine w_p (pc1 := 91) rfl rfl ?_
        refine w_p (pc1 := 93) rfl rfl ?_
        refine w_je (pc1 := 96) (vs := [.int 17, .long (e_V (some x)), .long (e_V (some y))]) (rest := []) (st1 := [.int 1]) (hm) rfl rfl rfl (fun _ _ => rfl) rfl (by exact cl_s my_117 rfl rfl rfl (Nat.le_of_ble_eq_true rfl) rfl rfl) (by rfl) (Nat.le_of_ble_eq_true rfl) (Nat.le_of_ble_eq_true rfl) rfl (by rfl) ?_
        refine w_f (a := 103) (b := 99) rfl rfl rfl ?_
        refine w_p (pc1 := 100) (st1 := .long 1 :: _) rfl rfl ?_
        refine w_p (pc1 := 104) rfl rfl ?_
        refine w_r rfl rfl rfl (fun _ _ => rfl) rfl ?_
        exact ⟨rfl, rfl, rfl⟩
set_option maxRecDepth 100000 in
theorem m_116_18 (hO : t[k]? = some (.inr (8, [.ref (241 + ops), .ref (241 + opn), .int (ck g), .ref (241 + stk)]))) : Wd L xs (d + 1) y_116 (0, [(0, .ref (241 + k)), (1, .int 18), (2, .long (e_V v)), (4, .long (e_V w))], [], MH C t, sl) (Rt (some (.long (o2K (u_2 g 18 (.inl v) (.inl w))))) (MH C t) sl) nX := by
  rw [u2_B (by unfold isB; decide)]
  cases v with
  | none =>
    refine w_p (pc1 := 1) rfl rfl ?_
    refine w_p (pc1 := 3) (st1 := .int 19 :: _) rfl rfl ?_
    refine w_t (a := 30) (b := 6) rfl rfl rfl ?_
    refine w_p (pc1 := 31) rfl rfl ?_
    refine w_p (pc1 := 33) (st1 := .int 20 :: _) rfl rfl ?_
    refine w_t (a := 60) (b := 36) rfl rfl rfl ?_
    refine w_p (pc1 := 61) rfl rfl ?_
    refine w_p (pc1 := 63) (st1 := .int 13 :: _) rfl rfl ?_
    refine w_f (a := 105) (b := 66) rfl rfl rfl ?_
    refine w_p (pc1 := 67) rfl rfl ?_
    refine w_m0 (pc1 := 70) (st1 := .long (-9223372036854775808) :: _) rfl rfl rfl rfl ?_
    refine w_p (pc1 := 71) rfl rfl ?_
    refine w_t (a := 83) (b := 74) (lb_eq_t (by rfl)) rfl rfl ?_
    refine w_m0 (pc1 := 86) (st1 := .long 2 :: _) rfl rfl rfl rfl ?_
    refine w_p (pc1 := 104) rfl rfl ?_
    refine w_r rfl rfl rfl (fun _ _ => rfl) rfl ?_
    exact ⟨rfl, rfl, rfl⟩
  | some x => cases w with
    | none =>
      refine w_p (pc1 := 1) rfl rfl ?_
      refine w_p (pc1 := 3) (st1 := .int 19 :: _) rfl rfl ?_
      refine w_t (a := 30) (b := 6) rfl rfl rfl ?_
      refine w_p (pc1 := 31) rfl rfl ?_
      refine w_p (pc1 := 33) (st1 := .int 20 :: _) rfl rfl ?_
      refine w_t (a := 60) (b := 36) rfl rfl rfl ?_
      refine w_p (pc1 := 61) rfl rfl ?_
      refine w_p (pc1 := 63) (st1 := .int 13 :: _) rfl rfl ?_
      refine w_f (a := 105) (b := 66) rfl rfl rfl ?_
      refine w_p (pc1 := 67) rfl rfl ?_
      refine w_m0 (pc1 := 70) (st1 := .long (-9223372036854775808) :: _) rfl rfl rfl rfl ?_
      refine w_p (pc1 := 71) rfl rfl ?_
      refine w_f (a := 83) (b := 74) (lb_eq_f (by exact e_V_ne x)) rfl rfl ?_
      refine w_p (pc1 := 76) rfl rfl ?_
      refine w_m0 (pc1 := 79) (st1 := .long (-9223372036854775808) :: _) rfl rfl rfl rfl ?_
      refine w_p (pc1 := 80) rfl rfl ?_
      refine w_f (a := 89) (b := 83) (lb_ne_f (by rfl)) rfl rfl ?_
      refine w_m0 (pc1 := 86) (st1 := .long 2 :: _) rfl rfl rfl rfl ?_
      refine w_p (pc1 := 104) rfl rfl ?_
      refine w_r rfl rfl rfl (fun _ _ => rfl) rfl ?_
      exact ⟨rfl, rfl, rfl⟩
    | some y =>
      show Wd _ _ _ _ _ (Rt (some (.long (t_K (some (u_c 18 x y))))) _ _) _
      have hm := m_117_18 (L := L) (xs := xs) (C := C) (t := t) (d := d) (sl := 0) (x := x) (y := y)
      cases hc : u_c 18 x y with
      | false =>
        rw [hc] at hm
        refine w_p (pc1 := 1) rfl rfl ?_
        refine w_p (pc1 := 3) (st1 := .int 19 :: _) rfl rfl ?_
        refine w_t (a := 30) (b := 6) rfl rfl rfl ?_
        refine w_p (pc1 := 31) rfl rfl ?_
        refine w_p (pc1 := 33) (st1 := .int 20 :: _) rfl rfl ?_
        refine w_t (a := 60) (b := 36) rfl rfl rfl ?_
        refine w_p (pc1 := 61) rfl rfl ?_
        refine w_p (pc1 := 63) (st1 := .int 13 :: _) rfl rfl ?_
        refine w_f (a := 105) (b := 66) rfl rfl rfl ?_
        refine w_p (pc1 := 67) rfl rfl ?_
        refine w_m0 (pc1 := 70) (st1 := .long (-9223372036854775808) :: _) rfl rfl rfl rfl ?_
        refine w_p (pc1 := 71) rfl rfl ?_
        refine w_f (a := 83) (b := 74) (lb_eq_f (by exact e_V_ne x)) rfl rfl ?_
        refine w_p (pc1 := 76) rfl rfl ?_
        refine w_m0 (pc1 := 79) (st1 := .long (-9223372036854775808) :: _) rfl rfl rfl rfl ?_
        refine w_p (pc1 := 80) rfl rfl ?_
        refine w_t (a := 89) (b := 83) (lb_ne_t (by exact e_V_ne y)) rfl rfl ?_
        refine w_p (pc1 := 90) rfl rfl ?_
        refine w_p (pc1 := 91) rfl rfl ?_
        refine w_p (pc1 := 93) rfl rfl ?_
        refine w_je (pc1 := 96) (vs := [.int 18, .long (e_V (some x)), .long (e_V (some y))]) (rest := []) (st1 := [.int 0]) (hm) rfl rfl rfl (fun _ _ => rfl) rfl (by exact cl_s my_117 rfl rfl rfl (Nat.le_of_ble_eq_true rfl) rfl rfl) (by rfl) (Nat.le_of_ble_eq_true rfl) (Nat.le_of_ble_eq_true rfl) rfl (by rfl) ?_
        refine w_t (a := 103) (b := 99) rfl rfl rfl ?_
        refine w_p (pc1 := 104) (st1 := .long 0 :: _) rfl rfl ?_
        refine w_r rfl rfl rfl (fun _ _ => rfl) rfl ?_
        exact ⟨rfl, rfl, rfl⟩
      | true =>
        rw [hc] at hm
        refine w_p (pc1 := 1) rfl rfl ?_
        refine w_p (pc1 := 3) (st1 := .int 19 :: _) rfl rfl ?_
        refine w_t (a := 30) (b := 6) rfl rfl rfl ?_
        refine w_p (pc1 := 31) rfl rfl ?_
        refine w_p (pc1 := 33) (st1 := .int 20 :: _) rfl rfl ?_
        refine w_t (a := 60) (b := 36) rfl rfl rfl ?_
        refine w_p (pc1 := 61) rfl rfl ?_
        refine w_p (pc1 := 63) (st1 := .int 13 :: _) rfl rfl ?_
        refine w_f (a := 105) (b := 66) rfl rfl rfl ?_
        refine w_p (pc1 := 67) rfl rfl ?_
        refine w_m0 (pc1 := 70) (st1 := .long (-9223372036854775808) :: _) rfl rfl rfl rfl ?_
        refine w_p (pc1 := 71) rfl rfl ?_
        refine w_f (a := 83) (b := 74) (lb_eq_f (by exact e_V_ne x)) rfl rfl ?_
        refine w_p (pc1 := 76) rfl rfl ?_
        refine w_m0 (pc1 := 79) (st1 := .long (-9223372036854775808) :: _) rfl rfl rfl rfl ?_
        refine w_p (pc1 := 80) rfl rfl ?_
        refine w_t (a := 89) (b := 83) (lb_ne_t (by exact e_V_ne y)) rfl rfl ?_
        refine w_p (pc1 := 90) rfl rfl ?_
        refine w_p (pc1 := 91) rfl rfl ?_
        refine w_p (pc1 := 93) rfl rfl ?_
        refine w_je (pc1 := 96) (vs := [.int 18, .long (e_V (some x)), .long (e_V (some y))]) (rest := []) (st1 := [.int 1]) (hm) rfl rfl rfl (fun _ _ => rfl) rfl (by exact cl_s my_117 rfl rfl rfl (Nat.le_of_ble_eq_true rfl) rfl rfl) (by rfl) (Nat.le_of_ble_eq_true rfl) (Nat.le_of_ble_eq_true rfl) rfl (by rfl) ?_
        refine w_f (a := 103) (b := 99) rfl rfl rfl ?_
        refine w_p (pc1 := 100) (st1 := .long 1 :: _) rfl rfl ?_
        refine w_p (pc1 := 104) rfl rfl ?_
        refine w_r rfl rfl rfl (fun _ _ => rfl) rfl ?_
        exact ⟨rfl, rfl, rfl⟩
set_option maxRecDepth 100000 in
theorem m_116_19 {u z : Option Bool} (hO : t[k]? = some (.inr (8, [.ref (241 + ops), .ref (241 + opn), .int (ck g), .ref (241 + stk)]))) : Wd L xs (d + 1) y_116 (0, [(0, .ref (241 + k)), (1, .int 19), (2, .long (t_K u)), (4, .long (t_K z))], [], MH C t, sl) (Rt (some (.long (o2K (u_2 g 19 (.inr u) (.inr z))))) (MH C t) sl) nX := by
  rcases u with _ | _ | _ <;> rcases z with _ | _ | _
  · skip
    refine w_p (pc1 := 1) rfl rfl ?_
    refine w_p (pc1 := 3) (st1 := .int 19 :: _) rfl rfl ?_
    refine w_f (a := 30) (b := 6) rfl rfl rfl ?_
    refine w_p (pc1 := 7) rfl rfl ?_
    refine w_p (pc1 := 8) (st1 := .long 0 :: _) rfl rfl ?_
    refine w_p (pc1 := 9) rfl rfl ?_
    refine w_f (a := 19) (b := 12) (lb_eq_f (by decide)) rfl rfl ?_
    refine w_p (pc1 := 14) rfl rfl ?_
    refine w_p (pc1 := 15) (st1 := .long 0 :: _) rfl rfl ?_
    refine w_p (pc1 := 16) rfl rfl ?_
    refine w_t (a := 23) (b := 19) (lb_ne_t (by decide)) rfl rfl ?_
    refine w_p (pc1 := 24) rfl rfl ?_
    refine w_p (pc1 := 26) rfl rfl ?_
    refine w_c (pc1 := 29) rfl rfl rfl (fun fr lo h1 h2 => n_mal rfl rfl (by decide) h1 h2) rfl ?_
    refine w_r rfl rfl rfl (fun _ _ => rfl) rfl ?_
    exact ⟨congrArg (fun q => some (Value.long q)) (by show t_K (u_b 19 none none) = _; decide), rfl, rfl⟩
  · skip
    refine w_p (pc1 := 1) rfl rfl ?_
    refine w_p (pc1 := 3) (st1 := .int 19 :: _) rfl rfl ?_
    refine w_f (a := 30) (b := 6) rfl rfl rfl ?_
    refine w_p (pc1 := 7) rfl rfl ?_
    refine w_p (pc1 := 8) (st1 := .long 0 :: _) rfl rfl ?_
    refine w_p (pc1 := 9) rfl rfl ?_
    refine w_f (a := 19) (b := 12) (lb_eq_f (by decide)) rfl rfl ?_
    refine w_p (pc1 := 14) rfl rfl ?_
    refine w_p (pc1 := 15) (st1 := .long 0 :: _) rfl rfl ?_
    refine w_p (pc1 := 16) rfl rfl ?_
    refine w_f (a := 23) (b := 19) (lb_ne_f (by decide)) rfl rfl ?_
    refine w_p (pc1 := 20) (st1 := .long 0 :: _) rfl rfl ?_
    refine w_p (pc1 := 29) rfl rfl ?_
    refine w_r rfl rfl rfl (fun _ _ => rfl) rfl ?_
    exact ⟨congrArg (fun q => some (Value.long q)) (by show t_K (u_b 19 none (some false)) = _; decide), rfl, rfl⟩
  · skip
    refine w_p (pc1 := 1) rfl rfl ?_
    refine w_p (pc1 := 3) (st1 := .int 19 :: _) rfl rfl ?_
    refine w_f (a := 30) (b := 6) rfl rfl rfl ?_
    refine w_p (pc1 := 7) rfl rfl ?_
    refine w_p (pc1 := 8) (st1 := .long 0 :: _) rfl rfl ?_
    refine w_p (pc1 := 9) rfl rfl ?_
    refine w_f (a := 19) (b := 12) (lb_eq_f (by decide)) rfl rfl ?_
    refine w_p (pc1 := 14) rfl rfl ?_
    refine w_p (pc1 := 15) (st1 := .long 0 :: _) rfl rfl ?_
    refine w_p (pc1 := 16) rfl rfl ?_
    refine w_t (a := 23) (b := 19) (lb_ne_t (by decide)) rfl rfl ?_
    refine w_p (pc1 := 24) rfl rfl ?_
    refine w_p (pc1 := 26) rfl rfl ?_
    refine w_c (pc1 := 29) rfl rfl rfl (fun fr lo h1 h2 => n_mal rfl rfl (by decide) h1 h2) rfl ?_
    refine w_r rfl rfl rfl (fun _ _ => rfl) rfl ?_
    exact ⟨congrArg (fun q => some (Value.long q)) (by show t_K (u_b 19 none (some true)) = _; decide), rfl, rfl⟩
  · skip
    refine w_p (pc1 := 1) rfl rfl ?_
    refine w_p (pc1 := 3) (st1 := .int 19 :: _) rfl rfl ?_
    refine w_f (a := 30) (b := 6) rfl rfl rfl ?_
    refine w_p (pc1 := 7) rfl rfl ?_
    refine w_p (pc1 := 8) (st1 := .long 0 :: _) rfl rfl ?_
    refine w_p (pc1 := 9) rfl rfl ?_
    refine w_t (a := 19) (b := 12) (lb_eq_t (by decide)) rfl rfl ?_
    refine w_p (pc1 := 20) (st1 := .long 0 :: _) rfl rfl ?_
    refine w_p (pc1 := 29) rfl rfl ?_
    refine w_r rfl rfl rfl (fun _ _ => rfl) rfl ?_
    exact ⟨congrArg (fun q => some (Value.long q)) (by show t_K (u_b 19 (some false) none) = _; decide), rfl, rfl⟩
  · skip
    refine w_p (pc1 := 1) rfl rfl ?_
    refine w_p (pc1 := 3) (st1 := .int 19 :: _) rfl rfl ?_
    refine w_f (a := 30) (b := 6) rfl rfl rfl ?_
    refine w_p (pc1 := 7) rfl rfl ?_
    refine w_p (pc1 := 8) (st1 := .long 0 :: _) rfl rfl ?_
    refine w_p (pc1 := 9) rfl rfl ?_
    refine w_t (a := 19) (b := 12) (lb_eq_t (by decide)) rfl rfl ?_
    refine w_p (pc1 := 20) (st1 := .long 0 :: _) rfl rfl ?_
    refine w_p (pc1 := 29) rfl rfl ?_
    refine w_r rfl rfl rfl (fun _ _ => rfl) rfl ?_
    exact ⟨congrArg (fun q => some (Value.long q)) (by show t_K (u_b 19 (some false) (some false)) = _; decide), rfl, rfl⟩
  · skip
    refine w_p (pc1 := 1) rfl rfl ?_
    refine w_p (pc1 := 3) (st1 := .int 19 :: _) rfl rfl ?_
    refine w_f (a := 30) (b := 6) rfl rfl rfl ?_
    refine w_p (pc1 := 7) rfl rfl ?_
    refine w_p (pc1 := 8) (st1 := .long 0 :: _) rfl rfl ?_
    refine w_p (pc1 := 9) rfl rfl ?_
    refine w_t (a := 19) (b := 12) (lb_eq_t (by decide)) rfl rfl ?_
    refine w_p (pc1 := 20) (st1 := .long 0 :: _) rfl rfl ?_
    refine w_p (pc1 := 29) rfl rfl ?_
    refine w_r rfl rfl rfl (fun _ _ => rfl) rfl ?_
    exact ⟨congrArg (fun q => some (Value.long q)) (by show t_K (u_b 19 (some false) (some true)) = _; decide), rfl, rfl⟩
  · skip
    refine w_p (pc1 := 1) rfl rfl ?_
    refine w_p (pc1 := 3) (st1 := .int 19 :: _) rfl rfl ?_
    refine w_f (a := 30) (b := 6) rfl rfl rfl ?_
    refine w_p (pc1 := 7) rfl rfl ?_
    refine w_p (pc1 := 8) (st1 := .long 0 :: _) rfl rfl ?_
    refine w_p (pc1 := 9) rfl rfl ?_
    refine w_f (a := 19) (b := 12) (lb_eq_f (by decide)) rfl rfl ?_
    refine w_p (pc1 := 14) rfl rfl ?_
    refine w_p (pc1 := 15) (st1 := .long 0 :: _) rfl rfl ?_
    refine w_p (pc1 := 16) rfl rfl ?_
    refine w_t (a := 23) (b := 19) (lb_ne_t (by decide)) rfl rfl ?_
    refine w_p (pc1 := 24) rfl rfl ?_
    refine w_p (pc1 := 26) rfl rfl ?_
    refine w_c (pc1 := 29) rfl rfl rfl (fun fr lo h1 h2 => n_mal rfl rfl (by decide) h1 h2) rfl ?_
    refine w_r rfl rfl rfl (fun _ _ => rfl) rfl ?_
    exact ⟨congrArg (fun q => some (Value.long q)) (by show t_K (u_b 19 (some true) none) = _; decide), rfl, rfl⟩
  · skip
    refine w_p (pc1 := 1) rfl rfl ?_
    refine w_p (pc1 := 3) (st1 := .int 19 :: _) rfl rfl ?_
    refine w_f (a := 30) (b := 6) rfl rfl rfl ?_
    refine w_p (pc1 := 7) rfl rfl ?_
    refine w_p (pc1 := 8) (st1 := .long 0 :: _) rfl rfl ?_
    refine w_p (pc1 := 9) rfl rfl ?_
    refine w_f (a := 19) (b := 12) (lb_eq_f (by decide)) rfl rfl ?_
    refine w_p (pc1 := 14) rfl rfl ?_
    refine w_p (pc1 := 15) (st1 := .long 0 :: _) rfl rfl ?_
    refine w_p (pc1 := 16) rfl rfl ?_
    refine w_f (a := 23) (b := 19) (lb_ne_f (by decide)) rfl rfl ?_
    refine w_p (pc1 := 20) (st1 := .long 0 :: _) rfl rfl ?_
    refine w_p (pc1 := 29) rfl rfl ?_
    refine w_r rfl rfl rfl (fun _ _ => rfl) rfl ?_
    exact ⟨congrArg (fun q => some (Value.long q)) (by show t_K (u_b 19 (some true) (some false)) = _; decide), rfl, rfl⟩
  · skip
    refine w_p (pc1 := 1) rfl rfl ?_
    refine w_p (pc1 := 3) (st1 := .int 19 :: _) rfl rfl ?_
    refine w_f (a := 30) (b := 6) rfl rfl rfl ?_
    refine w_p (pc1 := 7) rfl rfl ?_
    refine w_p (pc1 := 8) (st1 := .long 0 :: _) rfl rfl ?_
    refine w_p (pc1 := 9) rfl rfl ?_
    refine w_f (a := 19) (b := 12) (lb_eq_f (by decide)) rfl rfl ?_
    refine w_p (pc1 := 14) rfl rfl ?_
    refine w_p (pc1 := 15) (st1 := .long 0 :: _) rfl rfl ?_
    refine w_p (pc1 := 16) rfl rfl ?_
    refine w_t (a := 23) (b := 19) (lb_ne_t (by decide)) rfl rfl ?_
    refine w_p (pc1 := 24) rfl rfl ?_
    refine w_p (pc1 := 26) rfl rfl ?_
    refine w_c (pc1 := 29) rfl rfl rfl (fun fr lo h1 h2 => n_mal rfl rfl (by decide) h1 h2) rfl ?_
    refine w_r rfl rfl rfl (fun _ _ => rfl) rfl ?_
    exact ⟨congrArg (fun q => some (Value.long q)) (by show t_K (u_b 19 (some true) (some true)) = _; decide), rfl, rfl⟩
set_option maxRecDepth 100000 in
theorem m_116_20 {u z : Option Bool} (hO : t[k]? = some (.inr (8, [.ref (241 + ops), .ref (241 + opn), .int (ck g), .ref (241 + stk)]))) : Wd L xs (d + 1) y_116 (0, [(0, .ref (241 + k)), (1, .int 20), (2, .long (t_K u)), (4, .long (t_K z))], [], MH C t, sl) (Rt (some (.long (o2K (u_2 g 20 (.inr u) (.inr z))))) (MH C t) sl) nX := by
  rcases u with _ | _ | _ <;> rcases z with _ | _ | _
  · skip
    refine w_p (pc1 := 1) rfl rfl ?_
    refine w_p (pc1 := 3) (st1 := .int 19 :: _) rfl rfl ?_
    refine w_t (a := 30) (b := 6) rfl rfl rfl ?_
    refine w_p (pc1 := 31) rfl rfl ?_
    refine w_p (pc1 := 33) (st1 := .int 20 :: _) rfl rfl ?_
    refine w_f (a := 60) (b := 36) rfl rfl rfl ?_
    refine w_p (pc1 := 37) rfl rfl ?_
    refine w_p (pc1 := 38) (st1 := .long 1 :: _) rfl rfl ?_
    refine w_p (pc1 := 39) rfl rfl ?_
    refine w_f (a := 49) (b := 42) (lb_eq_f (by decide)) rfl rfl ?_
    refine w_p (pc1 := 44) rfl rfl ?_
    refine w_p (pc1 := 45) (st1 := .long 1 :: _) rfl rfl ?_
    refine w_p (pc1 := 46) rfl rfl ?_
    refine w_t (a := 53) (b := 49) (lb_ne_t (by decide)) rfl rfl ?_
    refine w_p (pc1 := 54) rfl rfl ?_
    refine w_p (pc1 := 56) rfl rfl ?_
    refine w_c (pc1 := 59) rfl rfl rfl (fun fr lo h1 h2 => n_mal rfl rfl (by decide) h1 h2) rfl ?_
    refine w_r rfl rfl rfl (fun _ _ => rfl) rfl ?_
    exact ⟨congrArg (fun q => some (Value.long q)) (by show t_K (u_b 20 none none) = _; decide), rfl, rfl⟩
  · skip
    refine w_p (pc1 := 1) rfl rfl ?_
    refine w_p (pc1 := 3) (st1 := .int 19 :: _) rfl rfl ?_
    refine w_t (a := 30) (b := 6) rfl rfl rfl ?_
    refine w_p (pc1 := 31) rfl rfl ?_
    refine w_p (pc1 := 33) (st1 := .int 20 :: _) rfl rfl ?_
    refine w_f (a := 60) (b := 36) rfl rfl rfl ?_
    refine w_p (pc1 := 37) rfl rfl ?_
    refine w_p (pc1 := 38) (st1 := .long 1 :: _) rfl rfl ?_
    refine w_p (pc1 := 39) rfl rfl ?_
    refine w_f (a := 49) (b := 42) (lb_eq_f (by decide)) rfl rfl ?_
    refine w_p (pc1 := 44) rfl rfl ?_
    refine w_p (pc1 := 45) (st1 := .long 1 :: _) rfl rfl ?_
    refine w_p (pc1 := 46) rfl rfl ?_
    refine w_t (a := 53) (b := 49) (lb_ne_t (by decide)) rfl rfl ?_
    refine w_p (pc1 := 54) rfl rfl ?_
    refine w_p (pc1 := 56) rfl rfl ?_
    refine w_c (pc1 := 59) rfl rfl rfl (fun fr lo h1 h2 => n_mal rfl rfl (by decide) h1 h2) rfl ?_
    refine w_r rfl rfl rfl (fun _ _ => rfl) rfl ?_
    exact ⟨congrArg (fun q => some (Value.long q)) (by show t_K (u_b 20 none (some false)) = _; decide), rfl, rfl⟩
  · skip
    refine w_p (pc1 := 1) rfl rfl ?_
    refine w_p (pc1 := 3) (st1 := .int 19 :: _) rfl rfl ?_
    refine w_t (a := 30) (b := 6) rfl rfl rfl ?_
    refine w_p (pc1 := 31) rfl rfl ?_
    refine w_p (pc1 := 33) (st1 := .int 20 :: _) rfl rfl ?_
    refine w_f (a := 60) (b := 36) rfl rfl rfl ?_
    refine w_p (pc1 := 37) rfl rfl ?_
    refine w_p (pc1 := 38) (st1 := .long 1 :: _) rfl rfl ?_
    refine w_p (pc1 := 39) rfl rfl ?_
    refine w_f (a := 49) (b := 42) (lb_eq_f (by decide)) rfl rfl ?_
    refine w_p (pc1 := 44) rfl rfl ?_
    refine w_p (pc1 := 45) (st1 := .long 1 :: _) rfl rfl ?_
    refine w_p (pc1 := 46) rfl rfl ?_
    refine w_f (a := 53) (b := 49) (lb_ne_f (by decide)) rfl rfl ?_
    refine w_p (pc1 := 50) (st1 := .long 1 :: _) rfl rfl ?_
    refine w_p (pc1 := 59) rfl rfl ?_
    refine w_r rfl rfl rfl (fun _ _ => rfl) rfl ?_
    exact ⟨congrArg (fun q => some (Value.long q)) (by show t_K (u_b 20 none (some true)) = _; decide), rfl, rfl⟩
  · skip
    refine w_p (pc1 := 1) rfl rfl ?_
    refine w_p (pc1 := 3) (st1 := .int 19 :: _) rfl rfl ?_
    refine w_t (a := 30) (b := 6) rfl rfl rfl ?_
    refine w_p (pc1 := 31) rfl rfl ?_
    refine w_p (pc1 := 33) (st1 := .int 20 :: _) rfl rfl ?_
    refine w_f (a := 60) (b := 36) rfl rfl rfl ?_
    refine w_p (pc1 := 37) rfl rfl ?_
    refine w_p (pc1 := 38) (st1 := .long 1 :: _) rfl rfl ?_
    refine w_p (pc1 := 39) rfl rfl ?_
    refine w_f (a := 49) (b := 42) (lb_eq_f (by decide)) rfl rfl ?_
    refine w_p (pc1 := 44) rfl rfl ?_
    refine w_p (pc1 := 45) (st1 := .long 1 :: _) rfl rfl ?_
    refine w_p (pc1 := 46) rfl rfl ?_
    refine w_t (a := 53) (b := 49) (lb_ne_t (by decide)) rfl rfl ?_
    refine w_p (pc1 := 54) rfl rfl ?_
    refine w_p (pc1 := 56) rfl rfl ?_
    refine w_c (pc1 := 59) rfl rfl rfl (fun fr lo h1 h2 => n_mal rfl rfl (by decide) h1 h2) rfl ?_
    refine w_r rfl rfl rfl (fun _ _ => rfl) rfl ?_
    exact ⟨congrArg (fun q => some (Value.long q)) (by show t_K (u_b 20 (some false) none) = _; decide), rfl, rfl⟩
  · skip
    refine w_p (pc1 := 1) rfl rfl ?_
    refine w_p (pc1 := 3) (st1 := .int 19 :: _) rfl rfl ?_
    refine w_t (a := 30) (b := 6) rfl rfl rfl ?_
    refine w_p (pc1 := 31) rfl rfl ?_
    refine w_p (pc1 := 33) (st1 := .int 20 :: _) rfl rfl ?_
    refine w_f (a := 60) (b := 36) rfl rfl rfl ?_
    refine w_p (pc1 := 37) rfl rfl ?_
    refine w_p (pc1 := 38) (st1 := .long 1 :: _) rfl rfl ?_
    refine w_p (pc1 := 39) rfl rfl ?_
    refine w_f (a := 49) (b := 42) (lb_eq_f (by decide)) rfl rfl ?_
    refine w_p (pc1 := 44) rfl rfl ?_
    refine w_p (pc1 := 45) (st1 := .long 1 :: _) rfl rfl ?_
    refine w_p (pc1 := 46) rfl rfl ?_
    refine w_t (a := 53) (b := 49) (lb_ne_t (by decide)) rfl rfl ?_
    refine w_p (pc1 := 54) rfl rfl ?_
    refine w_p (pc1 := 56) rfl rfl ?_
    refine w_c (pc1 := 59) rfl rfl rfl (fun fr lo h1 h2 => n_mal rfl rfl (by decide) h1 h2) rfl ?_
    refine w_r rfl rfl rfl (fun _ _ => rfl) rfl ?_
    exact ⟨congrArg (fun q => some (Value.long q)) (by show t_K (u_b 20 (some false) (some false)) = _; decide), rfl, rfl⟩
  · skip
    refine w_p (pc1 := 1) rfl rfl ?_
    refine w_p (pc1 := 3) (st1 := .int 19 :: _) rfl rfl ?_
    refine w_t (a := 30) (b := 6) rfl rfl rfl ?_
    refine w_p (pc1 := 31) rfl rfl ?_
    refine w_p (pc1 := 33) (st1 := .int 20 :: _) rfl rfl ?_
    refine w_f (a := 60) (b := 36) rfl rfl rfl ?_
    refine w_p (pc1 := 37) rfl rfl ?_
    refine w_p (pc1 := 38) (st1 := .long 1 :: _) rfl rfl ?_
    refine w_p (pc1 := 39) rfl rfl ?_
    refine w_f (a := 49) (b := 42) (lb_eq_f (by decide)) rfl rfl ?_
    refine w_p (pc1 := 44) rfl rfl ?_
    refine w_p (pc1 := 45) (st1 := .long 1 :: _) rfl rfl ?_
    refine w_p (pc1 := 46) rfl rfl ?_
    refine w_f (a := 53) (b := 49) (lb_ne_f (by decide)) rfl rfl ?_
    refine w_p (pc1 := 50) (st1 := .long 1 :: _) rfl rfl ?_
    refine w_p (pc1 := 59) rfl rfl ?_
    refine w_r rfl rfl rfl (fun _ _ => rfl) rfl ?_
    exact ⟨congrArg (fun q => some (Value.long q)) (by show t_K (u_b 20 (some false) (some true)) = _; decide), rfl, rfl⟩
  · skip
    refine w_p (pc1 := 1) rfl rfl ?_
    refine w_p (pc1 := 3) (st1 := .int 19 :: _) rfl rfl ?_
    refine w_t (a := 30) (b := 6) rfl rfl rfl ?_
    refine w_p (pc1 := 31) rfl rfl ?_
    refine w_p (pc1 := 33) (st1 := .int 20 :: _) rfl rfl ?_
    refine w_f (a := 60) (b := 36) rfl rfl rfl ?_
    refine w_p (pc1 := 37) rfl rfl ?_
    refine w_p (pc1 := 38) (st1 := .long 1 :: _) rfl rfl ?_
    refine w_p (pc1 := 39) rfl rfl ?_
    refine w_t (a := 49) (b := 42) (lb_eq_t (by decide)) rfl rfl ?_
    refine w_p (pc1 := 50) (st1 := .long 1 :: _) rfl rfl ?_
    refine w_p (pc1 := 59) rfl rfl ?_
    refine w_r rfl rfl rfl (fun _ _ => rfl) rfl ?_
    exact ⟨congrArg (fun q => some (Value.long q)) (by show t_K (u_b 20 (some true) none) = _; decide), rfl, rfl⟩
  · skip
    refine w_p (pc1 := 1) rfl rfl ?_
    refine w_p (pc1 := 3) (st1 := .int 19 :: _) rfl rfl ?_
    refine w_t (a := 30) (b := 6) rfl rfl rfl ?_
    refine w_p (pc1 := 31) rfl rfl ?_
    refine w_p (pc1 := 33) (st1 := .int 20 :: _) rfl rfl ?_
    refine w_f (a := 60) (b := 36) rfl rfl rfl ?_
    refine w_p (pc1 := 37) rfl rfl ?_
    refine w_p (pc1 := 38) (st1 := .long 1 :: _) rfl rfl ?_
    refine w_p (pc1 := 39) rfl rfl ?_
    refine w_t (a := 49) (b := 42) (lb_eq_t (by decide)) rfl rfl ?_
    refine w_p (pc1 := 50) (st1 := .long 1 :: _) rfl rfl ?_
    refine w_p (pc1 := 59) rfl rfl ?_
    refine w_r rfl rfl rfl (fun _ _ => rfl) rfl ?_
    exact ⟨congrArg (fun q => some (Value.long q)) (by show t_K (u_b 20 (some true) (some false)) = _; decide), rfl, rfl⟩
  · skip
    refine w_p (pc1 := 1) rfl rfl ?_
    refine w_p (pc1 := 3) (st1 := .int 19 :: _) rfl rfl ?_
    refine w_t (a := 30) (b := 6) rfl rfl rfl ?_
    refine w_p (pc1 := 31) rfl rfl ?_
    refine w_p (pc1 := 33) (st1 := .int 20 :: _) rfl rfl ?_
    refine w_f (a := 60) (b := 36) rfl rfl rfl ?_
    refine w_p (pc1 := 37) rfl rfl ?_
    refine w_p (pc1 := 38) (st1 := .long 1 :: _) rfl rfl ?_
    refine w_p (pc1 := 39) rfl rfl ?_
    refine w_t (a := 49) (b := 42) (lb_eq_t (by decide)) rfl rfl ?_
    refine w_p (pc1 := 50) (st1 := .long 1 :: _) rfl rfl ?_
    refine w_p (pc1 := 59) rfl rfl ?_
    refine w_r rfl rfl rfl (fun _ _ => rfl) rfl ?_
    exact ⟨congrArg (fun q => some (Value.long q)) (by show t_K (u_b 20 (some true) (some true)) = _; decide), rfl, rfl⟩
end WKS
