
/-! ONE SIDE: find; table -/
section OFI
variable {L : Nat} {xs : Nat → Int32} {B : Nat → Nat} {n m : Nat} {C C' C0 C1 : co_T} {t t0 t1 : ab_H} {d sl sl0 sl1 i i0 i1 j b e ti k k0 kc ks w c : Nat} {sc : sc_T} {row : Option Nat} {tg : Option (Nat × Nat)} {nl : Option Nat} {kd0 tb0 : Int32} {P : Option Value → ab_H → Nat → Prop} {X : Nat → ab_H → Nat → Prop} {cs : List Nat} {ss : List (Option (List op_T))} {E : fe_T} {tr : Nat → Option tr_T} {x r : Int32} {a : Int64}
set_option maxRecDepth 100000 in
theorem m_173_0 (w : Wd L xs d y_32 (0, [(0, .ref 106), (1, .long a)], [], MH C t, 0) (Rt (some (.int r)) (MH C t) 0) nX) : Wd L xs (d + 1) y_173 (0, [(0, .ref 100), (1, .int 0), (2, .long a)], [], MH C t, sl) (Rt (some (.int r)) (MH C t) sl) nX := by
  refine w_p (pc1 := 1) rfl rfl ?_
  refine w_f (a := 10) (b := 4) rfl rfl rfl ?_
  refine w_p (pc1 := 5) rfl rfl ?_
  refine w_p (pc1 := 7) (st1 := .int 8 :: _) rfl rfl ?_
  refine w_t (a := 20) (b := 10) rfl rfl rfl ?_
  refine w_p (pc1 := 21) rfl rfl ?_
  refine w_p (pc1 := 48) rfl rfl ?_
  refine w_p (pc1 := 49) rfl rfl ?_
  refine w_m0 (pc1 := 52) rfl rfl (h_gC rfl rfl rfl rfl) rfl ?_
  refine w_p (pc1 := 53) rfl rfl ?_
  refine w_je (pc1 := 56) (vs := [.ref 106, .long (a)]) (rest := []) (st1 := [.int (r)]) (w) rfl rfl rfl (fun _ _ => rfl) rfl (by exact cl_v my_32 rfl rfl rfl (Nat.le_of_ble_eq_true rfl) rfl (MH_obj rfl rfl) rfl (by decide) rfl rfl) (by rfl) (Nat.le_of_ble_eq_true rfl) (Nat.le_of_ble_eq_true rfl) rfl (by rfl) ?_
  refine w_r rfl rfl rfl (fun _ _ => rfl) cr_int ?_
  exact ⟨rfl, rfl, rfl⟩
set_option maxRecDepth 100000 in
theorem m_173_1 (w : Wd L xs d y_34 (0, [(0, .ref 106), (1, .long a)], [], MH C t, 0) (Rt (some (.int r)) (MH C t) 0) nX) : Wd L xs (d + 1) y_173 (0, [(0, .ref 100), (1, .int 1), (2, .long a)], [], MH C t, sl) (Rt (some (.int r)) (MH C t) sl) nX := by
  refine w_p (pc1 := 1) rfl rfl ?_
  refine w_f (a := 10) (b := 4) rfl rfl rfl ?_
  refine w_p (pc1 := 5) rfl rfl ?_
  refine w_p (pc1 := 7) (st1 := .int 8 :: _) rfl rfl ?_
  refine w_t (a := 20) (b := 10) rfl rfl rfl ?_
  refine w_p (pc1 := 21) rfl rfl ?_
  refine w_p (pc1 := 57) rfl rfl ?_
  refine w_p (pc1 := 58) rfl rfl ?_
  refine w_m0 (pc1 := 61) rfl rfl (h_gC rfl rfl rfl rfl) rfl ?_
  refine w_p (pc1 := 62) rfl rfl ?_
  refine w_je (pc1 := 65) (vs := [.ref 106, .long (a)]) (rest := []) (st1 := [.int (r)]) (w) rfl rfl rfl (fun _ _ => rfl) rfl (by exact cl_v my_34 rfl rfl rfl (Nat.le_of_ble_eq_true rfl) rfl (MH_obj rfl rfl) rfl (by decide) rfl rfl) (by rfl) (Nat.le_of_ble_eq_true rfl) (Nat.le_of_ble_eq_true rfl) rfl (by rfl) ?_
  refine w_r rfl rfl rfl (fun _ _ => rfl) cr_int ?_
  exact ⟨rfl, rfl, rfl⟩
set_option maxRecDepth 100000 in
theorem m_173_2 (w : Wd L xs d y_92 (0, [(0, .ref 106), (1, .long a)], [], MH C t, 0) (Rt (some (.int r)) (MH C t) 0) nX) : Wd L xs (d + 1) y_173 (0, [(0, .ref 100), (1, .int 2), (2, .long a)], [], MH C t, sl) (Rt (some (.int r)) (MH C t) sl) nX := by
  refine w_p (pc1 := 1) rfl rfl ?_
  refine w_f (a := 10) (b := 4) rfl rfl rfl ?_
  refine w_p (pc1 := 5) rfl rfl ?_
  refine w_p (pc1 := 7) (st1 := .int 8 :: _) rfl rfl ?_
  refine w_t (a := 20) (b := 10) rfl rfl rfl ?_
  refine w_p (pc1 := 21) rfl rfl ?_
  refine w_p (pc1 := 66) rfl rfl ?_
  refine w_p (pc1 := 67) rfl rfl ?_
  refine w_m0 (pc1 := 70) rfl rfl (h_gC rfl rfl rfl rfl) rfl ?_
  refine w_p (pc1 := 71) rfl rfl ?_
  refine w_je (pc1 := 74) (vs := [.ref 106, .long (a)]) (rest := []) (st1 := [.int (r)]) (w) rfl rfl rfl (fun _ _ => rfl) rfl (by exact cl_v my_92 rfl rfl rfl (Nat.le_of_ble_eq_true rfl) rfl (MH_obj rfl rfl) rfl (by decide) rfl rfl) (by rfl) (Nat.le_of_ble_eq_true rfl) (Nat.le_of_ble_eq_true rfl) rfl (by rfl) ?_
  refine w_r rfl rfl rfl (fun _ _ => rfl) cr_int ?_
  exact ⟨rfl, rfl, rfl⟩
set_option maxRecDepth 100000 in
theorem m_173_3 (w : Wd L xs d y_41 (0, [(0, .ref 106), (1, .int 0), (2, .long a)], [], MH C t, 0) (Rt (some (.int r)) (MH C t) 0) nX) : Wd L xs (d + 1) y_173 (0, [(0, .ref 100), (1, .int 3), (2, .long a)], [], MH C t, sl) (Rt (some (.int r)) (MH C t) sl) nX := by
  refine w_p (pc1 := 1) rfl rfl ?_
  refine w_f (a := 10) (b := 4) rfl rfl rfl ?_
  refine w_p (pc1 := 5) rfl rfl ?_
  refine w_p (pc1 := 7) (st1 := .int 8 :: _) rfl rfl ?_
  refine w_t (a := 20) (b := 10) rfl rfl rfl ?_
  refine w_p (pc1 := 21) rfl rfl ?_
  refine w_p (pc1 := 75) rfl rfl ?_
  refine w_p (pc1 := 76) rfl rfl ?_
  refine w_m0 (pc1 := 79) rfl rfl (h_gC rfl rfl rfl rfl) rfl ?_
  refine w_p (pc1 := 80) rfl rfl ?_
  refine w_p (pc1 := 81) (st1 := .int 3 :: _) rfl rfl ?_
  refine w_p (pc1 := 82) (st1 := .int 0 :: _) rfl rfl ?_
  refine w_p (pc1 := 83) rfl rfl ?_
  refine w_je (pc1 := 86) (vs := [.ref 106, .int 0, .long (a)]) (rest := []) (st1 := [.int (r)]) (w) rfl rfl rfl (fun _ _ => rfl) rfl (by exact cl_v my_41 rfl rfl rfl (Nat.le_of_ble_eq_true rfl) rfl (MH_obj rfl rfl) rfl (by decide) rfl rfl) (by rfl) (Nat.le_of_ble_eq_true rfl) (Nat.le_of_ble_eq_true rfl) rfl (by rfl) ?_
  refine w_r rfl rfl rfl (fun _ _ => rfl) cr_int ?_
  exact ⟨rfl, rfl, rfl⟩
set_option maxRecDepth 100000 in
theorem m_173_4 (w : Wd L xs d y_41 (0, [(0, .ref 106), (1, .int 1), (2, .long a)], [], MH C t, 0) (Rt (some (.int r)) (MH C t) 0) nX) : Wd L xs (d + 1) y_173 (0, [(0, .ref 100), (1, .int 4), (2, .long a)], [], MH C t, sl) (Rt (some (.int r)) (MH C t) sl) nX := by
  refine w_p (pc1 := 1) rfl rfl ?_
  refine w_f (a := 10) (b := 4) rfl rfl rfl ?_
  refine w_p (pc1 := 5) rfl rfl ?_
  refine w_p (pc1 := 7) (st1 := .int 8 :: _) rfl rfl ?_
  refine w_t (a := 20) (b := 10) rfl rfl rfl ?_
  refine w_p (pc1 := 21) rfl rfl ?_
  refine w_p (pc1 := 75) rfl rfl ?_
  refine w_p (pc1 := 76) rfl rfl ?_
  refine w_m0 (pc1 := 79) rfl rfl (h_gC rfl rfl rfl rfl) rfl ?_
  refine w_p (pc1 := 80) rfl rfl ?_
  refine w_p (pc1 := 81) (st1 := .int 3 :: _) rfl rfl ?_
  refine w_p (pc1 := 82) (st1 := .int 1 :: _) rfl rfl ?_
  refine w_p (pc1 := 83) rfl rfl ?_
  refine w_je (pc1 := 86) (vs := [.ref 106, .int 1, .long (a)]) (rest := []) (st1 := [.int (r)]) (w) rfl rfl rfl (fun _ _ => rfl) rfl (by exact cl_v my_41 rfl rfl rfl (Nat.le_of_ble_eq_true rfl) rfl (MH_obj rfl rfl) rfl (by decide) rfl rfl) (by rfl) (Nat.le_of_ble_eq_true rfl) (Nat.le_of_ble_eq_true rfl) rfl (by rfl) ?_
  refine w_r rfl rfl rfl (fun _ _ => rfl) cr_int ?_
  exact ⟨rfl, rfl, rfl⟩
set_option maxRecDepth 100000 in
theorem m_173_5 (w : Wd L xs d y_41 (0, [(0, .ref 106), (1, .int 2), (2, .long a)], [], MH C t, 0) (Rt (some (.int r)) (MH C t) 0) nX) : Wd L xs (d + 1) y_173 (0, [(0, .ref 100), (1, .int 5), (2, .long a)], [], MH C t, sl) (Rt (some (.int r)) (MH C t) sl) nX := by
  refine w_p (pc1 := 1) rfl rfl ?_
  refine w_f (a := 10) (b := 4) rfl rfl rfl ?_
  refine w_p (pc1 := 5) rfl rfl ?_
  refine w_p (pc1 := 7) (st1 := .int 8 :: _) rfl rfl ?_
  refine w_t (a := 20) (b := 10) rfl rfl rfl ?_
  refine w_p (pc1 := 21) rfl rfl ?_
  refine w_p (pc1 := 75) rfl rfl ?_
  refine w_p (pc1 := 76) rfl rfl ?_
  refine w_m0 (pc1 := 79) rfl rfl (h_gC rfl rfl rfl rfl) rfl ?_
  refine w_p (pc1 := 80) rfl rfl ?_
  refine w_p (pc1 := 81) (st1 := .int 3 :: _) rfl rfl ?_
  refine w_p (pc1 := 82) (st1 := .int 2 :: _) rfl rfl ?_
  refine w_p (pc1 := 83) rfl rfl ?_
  refine w_je (pc1 := 86) (vs := [.ref 106, .int 2, .long (a)]) (rest := []) (st1 := [.int (r)]) (w) rfl rfl rfl (fun _ _ => rfl) rfl (by exact cl_v my_41 rfl rfl rfl (Nat.le_of_ble_eq_true rfl) rfl (MH_obj rfl rfl) rfl (by decide) rfl rfl) (by rfl) (Nat.le_of_ble_eq_true rfl) (Nat.le_of_ble_eq_true rfl) rfl (by rfl) ?_
  refine w_r rfl rfl rfl (fun _ _ => rfl) cr_int ?_
  exact ⟨rfl, rfl, rfl⟩
set_option maxRecDepth 100000 in
theorem m_173_6 (w : Wd L xs d y_41 (0, [(0, .ref 106), (1, .int 3), (2, .long a)], [], MH C t, 0) (Rt (some (.int r)) (MH C t) 0) nX) : Wd L xs (d + 1) y_173 (0, [(0, .ref 100), (1, .int 6), (2, .long a)], [], MH C t, sl) (Rt (some (.int r)) (MH C t) sl) nX := by
  refine w_p (pc1 := 1) rfl rfl ?_
  refine w_f (a := 10) (b := 4) rfl rfl rfl ?_
  refine w_p (pc1 := 5) rfl rfl ?_
  refine w_p (pc1 := 7) (st1 := .int 8 :: _) rfl rfl ?_
  refine w_t (a := 20) (b := 10) rfl rfl rfl ?_
  refine w_p (pc1 := 21) rfl rfl ?_
  refine w_p (pc1 := 75) rfl rfl ?_
  refine w_p (pc1 := 76) rfl rfl ?_
  refine w_m0 (pc1 := 79) rfl rfl (h_gC rfl rfl rfl rfl) rfl ?_
  refine w_p (pc1 := 80) rfl rfl ?_
  refine w_p (pc1 := 81) (st1 := .int 3 :: _) rfl rfl ?_
  refine w_p (pc1 := 82) (st1 := .int 3 :: _) rfl rfl ?_
  refine w_p (pc1 := 83) rfl rfl ?_
  refine w_je (pc1 := 86) (vs := [.ref 106, .int 3, .long (a)]) (rest := []) (st1 := [.int (r)]) (w) rfl rfl rfl (fun _ _ => rfl) rfl (by exact cl_v my_41 rfl rfl rfl (Nat.le_of_ble_eq_true rfl) rfl (MH_obj rfl rfl) rfl (by decide) rfl rfl) (by rfl) (Nat.le_of_ble_eq_true rfl) (Nat.le_of_ble_eq_true rfl) rfl (by rfl) ?_
  refine w_r rfl rfl rfl (fun _ _ => rfl) cr_int ?_
  exact ⟨rfl, rfl, rfl⟩
set_option maxRecDepth 100000 in
theorem m_173_7 (w : Wd L xs d y_41 (0, [(0, .ref 106), (1, .int 4), (2, .long a)], [], MH C t, 0) (Rt (some (.int r)) (MH C t) 0) nX) : Wd L xs (d + 1) y_173 (0, [(0, .ref 100), (1, .int 7), (2, .long a)], [], MH C t, sl) (Rt (some (.int r)) (MH C t) sl) nX := by
  refine w_p (pc1 := 1) rfl rfl ?_
  refine w_f (a := 10) (b := 4) rfl rfl rfl ?_
  refine w_p (pc1 := 5) rfl rfl ?_
  refine w_p (pc1 := 7) (st1 := .int 8 :: _) rfl rfl ?_
  refine w_t (a := 20) (b := 10) rfl rfl rfl ?_
  refine w_p (pc1 := 21) rfl rfl ?_
  refine w_p (pc1 := 75) rfl rfl ?_
  refine w_p (pc1 := 76) rfl rfl ?_
  refine w_m0 (pc1 := 79) rfl rfl (h_gC rfl rfl rfl rfl) rfl ?_
  refine w_p (pc1 := 80) rfl rfl ?_
  refine w_p (pc1 := 81) (st1 := .int 3 :: _) rfl rfl ?_
  refine w_p (pc1 := 82) (st1 := .int 4 :: _) rfl rfl ?_
  refine w_p (pc1 := 83) rfl rfl ?_
  refine w_je (pc1 := 86) (vs := [.ref 106, .int 4, .long (a)]) (rest := []) (st1 := [.int (r)]) (w) rfl rfl rfl (fun _ _ => rfl) rfl (by exact cl_v my_41 rfl rfl rfl (Nat.le_of_ble_eq_true rfl) rfl (MH_obj rfl rfl) rfl (by decide) rfl rfl) (by rfl) (Nat.le_of_ble_eq_true rfl) (Nat.le_of_ble_eq_true rfl) rfl (by rfl) ?_
  refine w_r rfl rfl rfl (fun _ _ => rfl) cr_int ?_
  exact ⟨rfl, rfl, rfl⟩
set_option maxRecDepth 100000 in
theorem m_173_8 (w : Wd L xs d y_41 (0, [(0, .ref 106), (1, .int 5), (2, .long a)], [], MH C t, 0) (Rt (some (.int r)) (MH C t) 0) nX) : Wd L xs (d + 1) y_173 (0, [(0, .ref 100), (1, .int 8), (2, .long a)], [], MH C t, sl) (Rt (some (.int r)) (MH C t) sl) nX := by
  refine w_p (pc1 := 1) rfl rfl ?_
  refine w_f (a := 10) (b := 4) rfl rfl rfl ?_
  refine w_p (pc1 := 5) rfl rfl ?_
  refine w_p (pc1 := 7) (st1 := .int 8 :: _) rfl rfl ?_
  refine w_t (a := 20) (b := 10) rfl rfl rfl ?_
  refine w_p (pc1 := 21) rfl rfl ?_
  refine w_p (pc1 := 75) rfl rfl ?_
  refine w_p (pc1 := 76) rfl rfl ?_
  refine w_m0 (pc1 := 79) rfl rfl (h_gC rfl rfl rfl rfl) rfl ?_
  refine w_p (pc1 := 80) rfl rfl ?_
  refine w_p (pc1 := 81) (st1 := .int 3 :: _) rfl rfl ?_
  refine w_p (pc1 := 82) (st1 := .int 5 :: _) rfl rfl ?_
  refine w_p (pc1 := 83) rfl rfl ?_
  refine w_je (pc1 := 86) (vs := [.ref 106, .int 5, .long (a)]) (rest := []) (st1 := [.int (r)]) (w) rfl rfl rfl (fun _ _ => rfl) rfl (by exact cl_v my_41 rfl rfl rfl (Nat.le_of_ble_eq_true rfl) rfl (MH_obj rfl rfl) rfl (by decide) rfl rfl) (by rfl) (Nat.le_of_ble_eq_true rfl) (Nat.le_of_ble_eq_true rfl) rfl (by rfl) ?_
  refine w_r rfl rfl rfl (fun _ _ => rfl) cr_int ?_
  exact ⟨rfl, rfl, rfl⟩
set_option maxRecDepth 100000 in
theorem m_173x (h : ¬ (0 ≤ x.toInt ∧ x.toInt ≤ 8)) : Wd L xs (d + 6) y_173 (0, [(0, .ref 100), (1, .int x), (2, .long a)], [], MH C t, sl) nP (Xk 13 C t sl) := by
  refine w_p (pc1 := 1) rfl rfl ?_
  refine w_b (a := 10) (b := 4) rfl rfl (fun c1 => ?_) (fun c1 => ?_)
  · replace c1 := ck_lt_t (n := 0) rfl c1
    refine w_x (ci := 13) rfl rfl rfl (fun _ _ => rfl) rfl rfl (fun fr lo h1 h2 => cx_ok h1 h2 rfl) (by exact ch_thr (by decide) rfl) ?_
    exact Xk_i
  · replace c1 := ck_lt_f (n := 0) rfl c1
    refine w_p (pc1 := 5) rfl rfl ?_
    refine w_p (pc1 := 7) (st1 := .int 8 :: _) rfl rfl ?_
    refine w_b (a := 20) (b := 10) rfl rfl (fun c7 => ?_) (fun c7 => ?_)
    · replace c7 := ck_le_t (n := 8) rfl c7
      exfalso; omega
    · replace c7 := ck_le_f (n := 8) rfl c7
      refine w_x (ci := 13) rfl rfl rfl (fun _ _ => rfl) rfl rfl (fun fr lo h1 h2 => cx_ok h1 h2 rfl) (by exact ch_thr (by decide) rfl) ?_
      exact Xk_i
set_option maxRecDepth 100000 in
theorem m_175n {y : Int32} (w : Wd L xs (d + 5) y_33 (0, [(0, .ref 106), (1, .int x)], [], MH C t, 0) (Rt (some (.int 0)) (MH C t) 0) nX) : Wd L xs (d + 6) y_175 (0, [(0, .ref 100), (1, .int x), (2, .int y)], [], MH C t, sl) nP (Xk 14 C t sl) := by
  refine w_p (pc1 := 1) rfl rfl ?_
  refine w_m0 (pc1 := 4) rfl rfl (h_gC rfl rfl rfl rfl) rfl ?_
  refine w_p (pc1 := 5) rfl rfl ?_
  refine w_je (pc1 := 8) (vs := [.ref 106, .int (x)]) (rest := []) (st1 := [.int 0]) (w) rfl rfl rfl (fun _ _ => rfl) rfl (by exact cl_v my_33 rfl rfl rfl (Nat.le_of_ble_eq_true rfl) rfl (MH_obj rfl rfl) rfl (by decide) rfl rfl) (by rfl) (Nat.le_of_ble_eq_true rfl) (Nat.le_of_ble_eq_true rfl) rfl (by rfl) ?_
  refine w_f (a := 21) (b := 11) rfl rfl rfl ?_
  refine w_x (ci := 14) rfl rfl rfl (fun _ _ => rfl) rfl rfl (fun fr lo h1 h2 => cx_ok h1 h2 rfl) (by exact ch_thr (by decide) rfl) ?_
  exact Xk_i
set_option maxRecDepth 100000 in
theorem m_175x {y : Int32} (w : Wd L xs (d + 5) y_33 (0, [(0, .ref 106), (1, .int x)], [], MH C t, 0) (Rt (some (.int 1)) (MH C t) 0) nX) (h : ¬ (0 ≤ y.toInt ∧ y.toInt ≤ 9)) : Wd L xs (d + 6) y_175 (0, [(0, .ref 100), (1, .int x), (2, .int y)], [], MH C t, sl) nP (Xk 13 C t sl) := by
  refine w_p (pc1 := 1) rfl rfl ?_
  refine w_m0 (pc1 := 4) rfl rfl (h_gC rfl rfl rfl rfl) rfl ?_
  refine w_p (pc1 := 5) rfl rfl ?_
  refine w_je (pc1 := 8) (vs := [.ref 106, .int (x)]) (rest := []) (st1 := [.int 1]) (w) rfl rfl rfl (fun _ _ => rfl) rfl (by exact cl_v my_33 rfl rfl rfl (Nat.le_of_ble_eq_true rfl) rfl (MH_obj rfl rfl) rfl (by decide) rfl rfl) (by rfl) (Nat.le_of_ble_eq_true rfl) (Nat.le_of_ble_eq_true rfl) rfl (by rfl) ?_
  refine w_t (a := 21) (b := 11) rfl rfl rfl ?_
  refine w_p (pc1 := 22) rfl rfl ?_
  refine w_b (a := 31) (b := 25) rfl rfl (fun c22 => ?_) (fun c22 => ?_)
  · replace c22 := ck_lt_t (n := 0) rfl c22
    refine w_x (ci := 13) rfl rfl rfl (fun _ _ => rfl) rfl rfl (fun fr lo h1 h2 => cx_ok h1 h2 rfl) (by exact ch_thr (by decide) rfl) ?_
    exact Xk_i
  · replace c22 := ck_lt_f (n := 0) rfl c22
    refine w_p (pc1 := 26) rfl rfl ?_
    refine w_p (pc1 := 28) (st1 := .int 9 :: _) rfl rfl ?_
    refine w_b (a := 41) (b := 31) rfl rfl (fun c28 => ?_) (fun c28 => ?_)
    · replace c28 := ck_le_t (n := 9) rfl c28
      exfalso; omega
    · replace c28 := ck_le_f (n := 9) rfl c28
      refine w_x (ci := 13) rfl rfl rfl (fun _ _ => rfl) rfl rfl (fun fr lo h1 h2 => cx_ok h1 h2 rfl) (by exact ch_thr (by decide) rfl) ?_
      exact Xk_i
set_option maxRecDepth 100000 in
theorem m_175_0 (hb : b < 6) (w : Wd L xs d y_33 (0, [(0, .ref 106), (1, .int (nI b))], [], MH C t, 0) (Rt (some (.int 1)) (MH C t) 0) nX) : Wd L xs (d + 1) y_175 (0, [(0, .ref 100), (1, .int (nI b)), (2, .int 0)], [], MH C t, sl) (Rt (some (.long ((C.1 8 b).toInt64))) (MH C t) sl) nX := by
  refine w_p (pc1 := 1) rfl rfl ?_
  refine w_m0 (pc1 := 4) rfl rfl (h_gC rfl rfl rfl rfl) rfl ?_
  refine w_p (pc1 := 5) rfl rfl ?_
  refine w_je (pc1 := 8) (vs := [.ref 106, .int (nI (b))]) (rest := []) (st1 := [.int 1]) (w) rfl rfl rfl (fun _ _ => rfl) rfl (by exact cl_v my_33 rfl rfl rfl (Nat.le_of_ble_eq_true rfl) rfl (MH_obj rfl rfl) rfl (by decide) rfl rfl) (by rfl) (Nat.le_of_ble_eq_true rfl) (Nat.le_of_ble_eq_true rfl) rfl (by rfl) ?_
  refine w_t (a := 21) (b := 11) rfl rfl rfl ?_
  refine w_p (pc1 := 22) rfl rfl ?_
  refine w_f (a := 31) (b := 25) rfl rfl rfl ?_
  refine w_p (pc1 := 26) rfl rfl ?_
  refine w_p (pc1 := 28) (st1 := .int 9 :: _) rfl rfl ?_
  refine w_t (a := 41) (b := 31) rfl rfl rfl ?_
  refine w_p (pc1 := 42) rfl rfl ?_
  refine w_p (pc1 := 72) rfl rfl ?_
  refine w_p (pc1 := 73) rfl rfl ?_
  refine w_m0 (pc1 := 76) rfl rfl (h_gC rfl rfl rfl rfl) rfl ?_
  refine w_m0 (pc1 := 79) rfl rfl (h_gC rfl rfl rfl rfl) rfl ?_
  refine w_p (pc1 := 80) rfl rfl ?_
  refine w_m0 (pc1 := 81) rfl rfl (n_il (e := b) rfl rfl rfl (by omega)) rfl ?_
  refine w_p (pc1 := 82) rfl rfl ?_
  refine w_r rfl rfl rfl (fun _ _ => rfl) rfl ?_
  exact ⟨rfl, rfl, rfl⟩
set_option maxRecDepth 100000 in
theorem m_175_1 (hb : b < 6) (w : Wd L xs d y_33 (0, [(0, .ref 106), (1, .int (nI b))], [], MH C t, 0) (Rt (some (.int 1)) (MH C t) 0) nX) : Wd L xs (d + 1) y_175 (0, [(0, .ref 100), (1, .int (nI b)), (2, .int 1)], [], MH C t, sl) (Rt (some (.long ((C.1 16 b).toInt64))) (MH C t) sl) nX := by
  refine w_p (pc1 := 1) rfl rfl ?_
  refine w_m0 (pc1 := 4) rfl rfl (h_gC rfl rfl rfl rfl) rfl ?_
  refine w_p (pc1 := 5) rfl rfl ?_
  refine w_je (pc1 := 8) (vs := [.ref 106, .int (nI (b))]) (rest := []) (st1 := [.int 1]) (w) rfl rfl rfl (fun _ _ => rfl) rfl (by exact cl_v my_33 rfl rfl rfl (Nat.le_of_ble_eq_true rfl) rfl (MH_obj rfl rfl) rfl (by decide) rfl rfl) (by rfl) (Nat.le_of_ble_eq_true rfl) (Nat.le_of_ble_eq_true rfl) rfl (by rfl) ?_
  refine w_t (a := 21) (b := 11) rfl rfl rfl ?_
  refine w_p (pc1 := 22) rfl rfl ?_
  refine w_f (a := 31) (b := 25) rfl rfl rfl ?_
  refine w_p (pc1 := 26) rfl rfl ?_
  refine w_p (pc1 := 28) (st1 := .int 9 :: _) rfl rfl ?_
  refine w_t (a := 41) (b := 31) rfl rfl rfl ?_
  refine w_p (pc1 := 42) rfl rfl ?_
  refine w_p (pc1 := 83) rfl rfl ?_
  refine w_p (pc1 := 84) rfl rfl ?_
  refine w_m0 (pc1 := 87) rfl rfl (h_gC rfl rfl rfl rfl) rfl ?_
  refine w_m0 (pc1 := 90) rfl rfl (h_gC rfl rfl rfl rfl) rfl ?_
  refine w_m0 (pc1 := 93) rfl rfl (h_gC rfl rfl rfl rfl) rfl ?_
  refine w_p (pc1 := 94) rfl rfl ?_
  refine w_m0 (pc1 := 95) rfl rfl (n_il (e := b) rfl rfl rfl (by omega)) rfl ?_
  refine w_p (pc1 := 96) rfl rfl ?_
  refine w_r rfl rfl rfl (fun _ _ => rfl) rfl ?_
  exact ⟨rfl, rfl, rfl⟩
set_option maxRecDepth 100000 in
theorem m_175_2 (hb : b < 6) (w : Wd L xs d y_33 (0, [(0, .ref 106), (1, .int (nI b))], [], MH C t, 0) (Rt (some (.int 1)) (MH C t) 0) nX) : Wd L xs (d + 1) y_175 (0, [(0, .ref 100), (1, .int (nI b)), (2, .int 2)], [], MH C t, sl) (Rt (some (.long ((C.1 17 b + 1).toInt64))) (MH C t) sl) nX := by
  refine w_p (pc1 := 1) rfl rfl ?_
  refine w_m0 (pc1 := 4) rfl rfl (h_gC rfl rfl rfl rfl) rfl ?_
  refine w_p (pc1 := 5) rfl rfl ?_
  refine w_je (pc1 := 8) (vs := [.ref 106, .int (nI (b))]) (rest := []) (st1 := [.int 1]) (w) rfl rfl rfl (fun _ _ => rfl) rfl (by exact cl_v my_33 rfl rfl rfl (Nat.le_of_ble_eq_true rfl) rfl (MH_obj rfl rfl) rfl (by decide) rfl rfl) (by rfl) (Nat.le_of_ble_eq_true rfl) (Nat.le_of_ble_eq_true rfl) rfl (by rfl) ?_
  refine w_t (a := 21) (b := 11) rfl rfl rfl ?_
  refine w_p (pc1 := 22) rfl rfl ?_
  refine w_f (a := 31) (b := 25) rfl rfl rfl ?_
  refine w_p (pc1 := 26) rfl rfl ?_
  refine w_p (pc1 := 28) (st1 := .int 9 :: _) rfl rfl ?_
  refine w_t (a := 41) (b := 31) rfl rfl rfl ?_
  refine w_p (pc1 := 42) rfl rfl ?_
  refine w_p (pc1 := 97) rfl rfl ?_
  refine w_p (pc1 := 98) rfl rfl ?_
  refine w_m0 (pc1 := 101) rfl rfl (h_gC rfl rfl rfl rfl) rfl ?_
  refine w_m0 (pc1 := 104) rfl rfl (h_gC rfl rfl rfl rfl) rfl ?_
  refine w_m0 (pc1 := 107) rfl rfl (h_gC rfl rfl rfl rfl) rfl ?_
  refine w_p (pc1 := 108) rfl rfl ?_
  refine w_m0 (pc1 := 109) rfl rfl (n_il (e := b) rfl rfl rfl (by omega)) rfl ?_
  refine w_p (pc1 := 110) (st1 := .int 1 :: _) rfl rfl ?_
  refine w_p (pc1 := 111) rfl rfl ?_
  refine w_p (pc1 := 112) rfl rfl ?_
  refine w_r rfl rfl rfl (fun _ _ => rfl) rfl ?_
  exact ⟨rfl, rfl, rfl⟩
set_option maxRecDepth 100000 in
theorem m_175_3 (hb : b < 6) (w : Wd L xs d y_33 (0, [(0, .ref 106), (1, .int (nI b))], [], MH C t, 0) (Rt (some (.int 1)) (MH C t) 0) nX) : Wd L xs (d + 1) y_175 (0, [(0, .ref 100), (1, .int (nI b)), (2, .int 3)], [], MH C t, sl) (Rt (some (.long (C.2.1 7 b))) (MH C t) sl) nX := by
  refine w_p (pc1 := 1) rfl rfl ?_
  refine w_m0 (pc1 := 4) rfl rfl (h_gC rfl rfl rfl rfl) rfl ?_
  refine w_p (pc1 := 5) rfl rfl ?_
  refine w_je (pc1 := 8) (vs := [.ref 106, .int (nI (b))]) (rest := []) (st1 := [.int 1]) (w) rfl rfl rfl (fun _ _ => rfl) rfl (by exact cl_v my_33 rfl rfl rfl (Nat.le_of_ble_eq_true rfl) rfl (MH_obj rfl rfl) rfl (by decide) rfl rfl) (by rfl) (Nat.le_of_ble_eq_true rfl) (Nat.le_of_ble_eq_true rfl) rfl (by rfl) ?_
  refine w_t (a := 21) (b := 11) rfl rfl rfl ?_
  refine w_p (pc1 := 22) rfl rfl ?_
  refine w_f (a := 31) (b := 25) rfl rfl rfl ?_
  refine w_p (pc1 := 26) rfl rfl ?_
  refine w_p (pc1 := 28) (st1 := .int 9 :: _) rfl rfl ?_
  refine w_t (a := 41) (b := 31) rfl rfl rfl ?_
  refine w_p (pc1 := 42) rfl rfl ?_
  refine w_p (pc1 := 113) rfl rfl ?_
  refine w_p (pc1 := 114) rfl rfl ?_
  refine w_m0 (pc1 := 117) rfl rfl (h_gC rfl rfl rfl rfl) rfl ?_
  refine w_m0 (pc1 := 120) rfl rfl (h_gC rfl rfl rfl rfl) rfl ?_
  refine w_p (pc1 := 121) rfl rfl ?_
  refine w_m0 (pc1 := 122) rfl rfl (n_ll (e := b) rfl rfl rfl (by omega)) rfl ?_
  refine w_r rfl rfl rfl (fun _ _ => rfl) rfl ?_
  exact ⟨rfl, rfl, rfl⟩
set_option maxRecDepth 100000 in
theorem m_175_4 (hb : b < 6) (w : Wd L xs d y_33 (0, [(0, .ref 106), (1, .int (nI b))], [], MH C t, 0) (Rt (some (.int 1)) (MH C t) 0) nX) (w2 : Wd L xs d y_47 (0, [(0, .ref 106), (1, .int (nI b)), (2, .int 0)], [], MH C t, 0) (Rt (some (.int 1)) (MH C t) 0) nX) : Wd L xs (d + 1) y_175 (0, [(0, .ref 100), (1, .int (nI b)), (2, .int 4)], [], MH C t, sl) (Rt (some (.long (C.2.1 9 (b * 6 + 0)))) (MH C t) sl) nX := by
  refine w_p (pc1 := 1) rfl rfl ?_
  refine w_m0 (pc1 := 4) rfl rfl (h_gC rfl rfl rfl rfl) rfl ?_
  refine w_p (pc1 := 5) rfl rfl ?_
  refine w_je (pc1 := 8) (vs := [.ref 106, .int (nI (b))]) (rest := []) (st1 := [.int 1]) (w) rfl rfl rfl (fun _ _ => rfl) rfl (by exact cl_v my_33 rfl rfl rfl (Nat.le_of_ble_eq_true rfl) rfl (MH_obj rfl rfl) rfl (by decide) rfl rfl) (by rfl) (Nat.le_of_ble_eq_true rfl) (Nat.le_of_ble_eq_true rfl) rfl (by rfl) ?_
  refine w_t (a := 21) (b := 11) rfl rfl rfl ?_
  refine w_p (pc1 := 22) rfl rfl ?_
  refine w_f (a := 31) (b := 25) rfl rfl rfl ?_
  refine w_p (pc1 := 26) rfl rfl ?_
  refine w_p (pc1 := 28) (st1 := .int 9 :: _) rfl rfl ?_
  refine w_t (a := 41) (b := 31) rfl rfl rfl ?_
  refine w_p (pc1 := 42) rfl rfl ?_
  refine w_p (pc1 := 123) rfl rfl ?_
  refine w_p (pc1 := 124) rfl rfl ?_
  refine w_m0 (pc1 := 127) rfl rfl (h_gC rfl rfl rfl rfl) rfl ?_
  refine w_p (pc1 := 128) rfl rfl ?_
  refine w_p (pc1 := 129) rfl rfl ?_
  refine w_p (pc1 := 130) (st1 := .int 4 :: _) rfl rfl ?_
  refine w_p (pc1 := 131) (st1 := .int 0 :: _) rfl rfl ?_
  refine w_je (pc1 := 134) (vs := [.ref 106, .int (nI (b)), .int 0]) (rest := []) (st1 := [.int 1]) (w2) rfl rfl rfl (fun _ _ => rfl) rfl (by exact cl_v my_47 rfl rfl rfl (Nat.le_of_ble_eq_true rfl) rfl (MH_obj rfl rfl) rfl (by decide) rfl rfl) (by rfl) (Nat.le_of_ble_eq_true rfl) (Nat.le_of_ble_eq_true rfl) rfl (by rfl) ?_
  refine w_t (a := 147) (b := 137) rfl rfl rfl ?_
  refine w_p (pc1 := 148) rfl rfl ?_
  refine w_m0 (pc1 := 151) rfl rfl (h_gC rfl rfl rfl rfl) rfl ?_
  refine w_m0 (pc1 := 154) rfl rfl (h_gC rfl rfl rfl rfl) rfl ?_
  refine w_p (pc1 := 155) rfl rfl ?_
  refine w_p (pc1 := 157) (st1 := .int 6 :: _) rfl rfl ?_
  refine w_imul (pc1 := 158) (u := nI (b)) (v := nI (6)) (z := nI (b * 6)) rfl (nK_mul) rfl ?_
  refine w_p (pc1 := 159) rfl rfl ?_
  refine w_iadd (pc1 := 160) (u := nI (b * 6)) (v := nI (4)) (z := nI (b * 6 + 4)) rfl (nK_add) rfl ?_
  refine w_p (pc1 := 161) (st1 := .int 4 :: _) rfl rfl ?_
  refine w_isub (pc1 := 162) (u := nI (b * 6 + 4)) (v := nI (4)) (z := nI (b * 6 + 4 - 4)) rfl (nK_sub (by omega)) rfl ?_
  refine w_m0 (pc1 := 163) rfl rfl (n_ll (e := b * 6 + 4 - 4) rfl rfl rfl (by omega)) rfl ?_
  refine w_r rfl rfl rfl (fun _ _ => rfl) rfl ?_
  exact ⟨rfl, rfl, rfl⟩
set_option maxRecDepth 100000 in
theorem m_175_4n (w : Wd L xs (d + 5) y_33 (0, [(0, .ref 106), (1, .int (nI b))], [], MH C t, 0) (Rt (some (.int 1)) (MH C t) 0) nX) (w2 : Wd L xs (d + 5) y_47 (0, [(0, .ref 106), (1, .int (nI b)), (2, .int 0)], [], MH C t, 0) (Rt (some (.int 0)) (MH C t) 0) nX) : Wd L xs (d + 6) y_175 (0, [(0, .ref 100), (1, .int (nI b)), (2, .int 4)], [], MH C t, sl) nP (Xk 14 C t sl) := by
  refine w_p (pc1 := 1) rfl rfl ?_
  refine w_m0 (pc1 := 4) rfl rfl (h_gC rfl rfl rfl rfl) rfl ?_
  refine w_p (pc1 := 5) rfl rfl ?_
  refine w_je (pc1 := 8) (vs := [.ref 106, .int (nI (b))]) (rest := []) (st1 := [.int 1]) (w) rfl rfl rfl (fun _ _ => rfl) rfl (by exact cl_v my_33 rfl rfl rfl (Nat.le_of_ble_eq_true rfl) rfl (MH_obj rfl rfl) rfl (by decide) rfl rfl) (by rfl) (Nat.le_of_ble_eq_true rfl) (Nat.le_of_ble_eq_true rfl) rfl (by rfl) ?_
  refine w_t (a := 21) (b := 11) rfl rfl rfl ?_
  refine w_p (pc1 := 22) rfl rfl ?_
  refine w_f (a := 31) (b := 25) rfl rfl rfl ?_
  refine w_p (pc1 := 26) rfl rfl ?_
  refine w_p (pc1 := 28) (st1 := .int 9 :: _) rfl rfl ?_
  refine w_t (a := 41) (b := 31) rfl rfl rfl ?_
  refine w_p (pc1 := 42) rfl rfl ?_
  refine w_p (pc1 := 123) rfl rfl ?_
  refine w_p (pc1 := 124) rfl rfl ?_
  refine w_m0 (pc1 := 127) rfl rfl (h_gC rfl rfl rfl rfl) rfl ?_
  refine w_p (pc1 := 128) rfl rfl ?_
  refine w_p (pc1 := 129) rfl rfl ?_
  refine w_p (pc1 := 130) (st1 := .int 4 :: _) rfl rfl ?_
  refine w_p (pc1 := 131) (st1 := .int 0 :: _) rfl rfl ?_
  refine w_je (pc1 := 134) (vs := [.ref 106, .int (nI (b)), .int 0]) (rest := []) (st1 := [.int 0]) (w2) rfl rfl rfl (fun _ _ => rfl) rfl (by exact cl_v my_47 rfl rfl rfl (Nat.le_of_ble_eq_true rfl) rfl (MH_obj rfl rfl) rfl (by decide) rfl rfl) (by rfl) (Nat.le_of_ble_eq_true rfl) (Nat.le_of_ble_eq_true rfl) rfl (by rfl) ?_
  refine w_f (a := 147) (b := 137) rfl rfl rfl ?_
  refine w_x (ci := 14) rfl rfl rfl (fun _ _ => rfl) rfl rfl (fun fr lo h1 h2 => cx_ok h1 h2 rfl) (by exact ch_thr (by decide) rfl) ?_
  exact Xk_i
set_option maxRecDepth 100000 in
theorem m_175_5 (hb : b < 6) (w : Wd L xs d y_33 (0, [(0, .ref 106), (1, .int (nI b))], [], MH C t, 0) (Rt (some (.int 1)) (MH C t) 0) nX) (w2 : Wd L xs d y_47 (0, [(0, .ref 106), (1, .int (nI b)), (2, .int 1)], [], MH C t, 0) (Rt (some (.int 1)) (MH C t) 0) nX) : Wd L xs (d + 1) y_175 (0, [(0, .ref 100), (1, .int (nI b)), (2, .int 5)], [], MH C t, sl) (Rt (some (.long (C.2.1 9 (b * 6 + 1)))) (MH C t) sl) nX := by
  refine w_p (pc1 := 1) rfl rfl ?_
  refine w_m0 (pc1 := 4) rfl rfl (h_gC rfl rfl rfl rfl) rfl ?_
  refine w_p (pc1 := 5) rfl rfl ?_
  refine w_je (pc1 := 8) (vs := [.ref 106, .int (nI (b))]) (rest := []) (st1 := [.int 1]) (w) rfl rfl rfl (fun _ _ => rfl) rfl (by exact cl_v my_33 rfl rfl rfl (Nat.le_of_ble_eq_true rfl) rfl (MH_obj rfl rfl) rfl (by decide) rfl rfl) (by rfl) (Nat.le_of_ble_eq_true rfl) (Nat.le_of_ble_eq_true rfl) rfl (by rfl) ?_
  refine w_t (a := 21) (b := 11) rfl rfl rfl ?_
  refine w_p (pc1 := 22) rfl rfl ?_
  refine w_f (a := 31) (b := 25) rfl rfl rfl ?_
  refine w_p (pc1 := 26) rfl rfl ?_
  refine w_p (pc1 := 28) (st1 := .int 9 :: _) rfl rfl ?_
  refine w_t (a := 41) (b := 31) rfl rfl rfl ?_
  refine w_p (pc1 := 42) rfl rfl ?_
  refine w_p (pc1 := 123) rfl rfl ?_
  refine w_p (pc1 := 124) rfl rfl ?_
  refine w_m0 (pc1 := 127) rfl rfl (h_gC rfl rfl rfl rfl) rfl ?_
  refine w_p (pc1 := 128) rfl rfl ?_
  refine w_p (pc1 := 129) rfl rfl ?_
  refine w_p (pc1 := 130) (st1 := .int 4 :: _) rfl rfl ?_
  refine w_p (pc1 := 131) (st1 := .int 1 :: _) rfl rfl ?_
  refine w_je (pc1 := 134) (vs := [.ref 106, .int (nI (b)), .int 1]) (rest := []) (st1 := [.int 1]) (w2) rfl rfl rfl (fun _ _ => rfl) rfl (by exact cl_v my_47 rfl rfl rfl (Nat.le_of_ble_eq_true rfl) rfl (MH_obj rfl rfl) rfl (by decide) rfl rfl) (by rfl) (Nat.le_of_ble_eq_true rfl) (Nat.le_of_ble_eq_true rfl) rfl (by rfl) ?_
  refine w_t (a := 147) (b := 137) rfl rfl rfl ?_
  refine w_p (pc1 := 148) rfl rfl ?_
  refine w_m0 (pc1 := 151) rfl rfl (h_gC rfl rfl rfl rfl) rfl ?_
  refine w_m0 (pc1 := 154) rfl rfl (h_gC rfl rfl rfl rfl) rfl ?_
  refine w_p (pc1 := 155) rfl rfl ?_
  refine w_p (pc1 := 157) (st1 := .int 6 :: _) rfl rfl ?_
  refine w_imul (pc1 := 158) (u := nI (b)) (v := nI (6)) (z := nI (b * 6)) rfl (nK_mul) rfl ?_
  refine w_p (pc1 := 159) rfl rfl ?_
  refine w_iadd (pc1 := 160) (u := nI (b * 6)) (v := nI (5)) (z := nI (b * 6 + 5)) rfl (nK_add) rfl ?_
  refine w_p (pc1 := 161) (st1 := .int 4 :: _) rfl rfl ?_
  refine w_isub (pc1 := 162) (u := nI (b * 6 + 5)) (v := nI (4)) (z := nI (b * 6 + 5 - 4)) rfl (nK_sub (by omega)) rfl ?_
  refine w_m0 (pc1 := 163) rfl rfl (n_ll (e := b * 6 + 5 - 4) rfl rfl rfl (by omega)) rfl ?_
  refine w_r rfl rfl rfl (fun _ _ => rfl) rfl ?_
  exact ⟨rfl, rfl, rfl⟩
set_option maxRecDepth 100000 in
theorem m_175_5n (w : Wd L xs (d + 5) y_33 (0, [(0, .ref 106), (1, .int (nI b))], [], MH C t, 0) (Rt (some (.int 1)) (MH C t) 0) nX) (w2 : Wd L xs (d + 5) y_47 (0, [(0, .ref 106), (1, .int (nI b)), (2, .int 1)], [], MH C t, 0) (Rt (some (.int 0)) (MH C t) 0) nX) : Wd L xs (d + 6) y_175 (0, [(0, .ref 100), (1, .int (nI b)), (2, .int 5)], [], MH C t, sl) nP (Xk 14 C t sl) := by
  refine w_p (pc1 := 1) rfl rfl ?_
  refine w_m0 (pc1 := 4) rfl rfl (h_gC rfl rfl rfl rfl) rfl ?_
  refine w_p (pc1 := 5) rfl rfl ?_
  refine w_je (pc1 := 8) (vs := [.ref 106, .int (nI (b))]) (rest := []) (st1 := [.int 1]) (w) rfl rfl rfl (fun _ _ => rfl) rfl (by exact cl_v my_33 rfl rfl rfl (Nat.le_of_ble_eq_true rfl) rfl (MH_obj rfl rfl) rfl (by decide) rfl rfl) (by rfl) (Nat.le_of_ble_eq_true rfl) (Nat.le_of_ble_eq_true rfl) rfl (by rfl) ?_
  refine w_t (a := 21) (b := 11) rfl rfl rfl ?_
  refine w_p (pc1 := 22) rfl rfl ?_
  refine w_f (a := 31) (b := 25) rfl rfl rfl ?_
  refine w_p (pc1 := 26) rfl rfl ?_
  refine w_p (pc1 := 28) (st1 := .int 9 :: _) rfl rfl ?_
  refine w_t (a := 41) (b := 31) rfl rfl rfl ?_
  refine w_p (pc1 := 42) rfl rfl ?_
  refine w_p (pc1 := 123) rfl rfl ?_
  refine w_p (pc1 := 124) rfl rfl ?_
  refine w_m0 (pc1 := 127) rfl rfl (h_gC rfl rfl rfl rfl) rfl ?_
  refine w_p (pc1 := 128) rfl rfl ?_
  refine w_p (pc1 := 129) rfl rfl ?_
  refine w_p (pc1 := 130) (st1 := .int 4 :: _) rfl rfl ?_
  refine w_p (pc1 := 131) (st1 := .int 1 :: _) rfl rfl ?_
  refine w_je (pc1 := 134) (vs := [.ref 106, .int (nI (b)), .int 1]) (rest := []) (st1 := [.int 0]) (w2) rfl rfl rfl (fun _ _ => rfl) rfl (by exact cl_v my_47 rfl rfl rfl (Nat.le_of_ble_eq_true rfl) rfl (MH_obj rfl rfl) rfl (by decide) rfl rfl) (by rfl) (Nat.le_of_ble_eq_true rfl) (Nat.le_of_ble_eq_true rfl) rfl (by rfl) ?_
  refine w_f (a := 147) (b := 137) rfl rfl rfl ?_
  refine w_x (ci := 14) rfl rfl rfl (fun _ _ => rfl) rfl rfl (fun fr lo h1 h2 => cx_ok h1 h2 rfl) (by exact ch_thr (by decide) rfl) ?_
  exact Xk_i
set_option maxRecDepth 100000 in
theorem m_175_6 (hb : b < 6) (w : Wd L xs d y_33 (0, [(0, .ref 106), (1, .int (nI b))], [], MH C t, 0) (Rt (some (.int 1)) (MH C t) 0) nX) (w2 : Wd L xs d y_47 (0, [(0, .ref 106), (1, .int (nI b)), (2, .int 2)], [], MH C t, 0) (Rt (some (.int 1)) (MH C t) 0) nX) : Wd L xs (d + 1) y_175 (0, [(0, .ref 100), (1, .int (nI b)), (2, .int 6)], [], MH C t, sl) (Rt (some (.long (C.2.1 9 (b * 6 + 2)))) (MH C t) sl) nX := by
  refine w_p (pc1 := 1) rfl rfl ?_
  refine w_m0 (pc1 := 4) rfl rfl (h_gC rfl rfl rfl rfl) rfl ?_
  refine w_p (pc1 := 5) rfl rfl ?_
  refine w_je (pc1 := 8) (vs := [.ref 106, .int (nI (b))]) (rest := []) (st1 := [.int 1]) (w) rfl rfl rfl (fun _ _ => rfl) rfl (by exact cl_v my_33 rfl rfl rfl (Nat.le_of_ble_eq_true rfl) rfl (MH_obj rfl rfl) rfl (by decide) rfl rfl) (by rfl) (Nat.le_of_ble_eq_true rfl) (Nat.le_of_ble_eq_true rfl) rfl (by rfl) ?_
  refine w_t (a := 21) (b := 11) rfl rfl rfl ?_
  refine w_p (pc1 := 22) rfl rfl ?_
  refine w_f (a := 31) (b := 25) rfl rfl rfl ?_
  refine w_p (pc1 := 26) rfl rfl ?_
  refine w_p (pc1 := 28) (st1 := .int 9 :: _) rfl rfl ?_
  refine w_t (a := 41) (b := 31) rfl rfl rfl ?_
  refine w_p (pc1 := 42) rfl rfl ?_
  refine w_p (pc1 := 123) rfl rfl ?_
  refine w_p (pc1 := 124) rfl rfl ?_
  refine w_m0 (pc1 := 127) rfl rfl (h_gC rfl rfl rfl rfl) rfl ?_
  refine w_p (pc1 := 128) rfl rfl ?_
  refine w_p (pc1 := 129) rfl rfl ?_
  refine w_p (pc1 := 130) (st1 := .int 4 :: _) rfl rfl ?_
  refine w_p (pc1 := 131) (st1 := .int 2 :: _) rfl rfl ?_
  refine w_je (pc1 := 134) (vs := [.ref 106, .int (nI (b)), .int 2]) (rest := []) (st1 := [.int 1]) (w2) rfl rfl rfl (fun _ _ => rfl) rfl (by exact cl_v my_47 rfl rfl rfl (Nat.le_of_ble_eq_true rfl) rfl (MH_obj rfl rfl) rfl (by decide) rfl rfl) (by rfl) (Nat.le_of_ble_eq_true rfl) (Nat.le_of_ble_eq_true rfl) rfl (by rfl) ?_
  refine w_t (a := 147) (b := 137) rfl rfl rfl ?_
  refine w_p (pc1 := 148) rfl rfl ?_
  refine w_m0 (pc1 := 151) rfl rfl (h_gC rfl rfl rfl rfl) rfl ?_
  refine w_m0 (pc1 := 154) rfl rfl (h_gC rfl rfl rfl rfl) rfl ?_
  refine w_p (pc1 := 155) rfl rfl ?_
  refine w_p (pc1 := 157) (st1 := .int 6 :: _) rfl rfl ?_
  refine w_imul (pc1 := 158) (u := nI (b)) (v := nI (6)) (z := nI (b * 6)) rfl (nK_mul) rfl ?_
  refine w_p (pc1 := 159) rfl rfl ?_
  refine w_iadd (pc1 := 160) (u := nI (b * 6)) (v := nI (6)) (z := nI (b * 6 + 6)) rfl (nK_add) rfl ?_
  refine w_p (pc1 := 161) (st1 := .int 4 :: _) rfl rfl ?_
  refine w_isub (pc1 := 162) (u := nI (b * 6 + 6)) (v := nI (4)) (z := nI (b * 6 + 6 - 4)) rfl (nK_sub (by omega)) rfl ?_
  refine w_m0 (pc1 := 163) rfl rfl (n_ll (e := b * 6 + 6 - 4) rfl rfl rfl (by omega)) rfl ?_
  refine w_r rfl rfl rfl (fun _ _ => rfl) rfl ?_
  exact ⟨rfl, rfl, rfl⟩
set_option maxRecDepth 100000 in
theorem m_175_6n (w : Wd L xs (d + 5) y_33 (0, [(0, .ref 106), (1, .int (nI b))], [], MH C t, 0) (Rt (some (.int 1)) (MH C t) 0) nX) (w2 : Wd L xs (d + 5) y_47 (0, [(0, .ref 106), (1, .int (nI b)), (2, .int 2)], [], MH C t, 0) (Rt (some (.int 0)) (MH C t) 0) nX) : Wd L xs (d + 6) y_175 (0, [(0, .ref 100), (1, .int (nI b)), (2, .int 6)], [], MH C t, sl) nP (Xk 14 C t sl) := by
  refine w_p (pc1 := 1) rfl rfl ?_
  refine w_m0 (pc1 := 4) rfl rfl (h_gC rfl rfl rfl rfl) rfl ?_
  refine w_p (pc1 := 5) rfl rfl ?_
  refine w_je (pc1 := 8) (vs := [.ref 106, .int (nI (b))]) (rest := []) (st1 := [.int 1]) (w) rfl rfl rfl (fun _ _ => rfl) rfl (by exact cl_v my_33 rfl rfl rfl (Nat.le_of_ble_eq_true rfl) rfl (MH_obj rfl rfl) rfl (by decide) rfl rfl) (by rfl) (Nat.le_of_ble_eq_true rfl) (Nat.le_of_ble_eq_true rfl) rfl (by rfl) ?_
  refine w_t (a := 21) (b := 11) rfl rfl rfl ?_
  refine w_p (pc1 := 22) rfl rfl ?_
  refine w_f (a := 31) (b := 25) rfl rfl rfl ?_
  refine w_p (pc1 := 26) rfl rfl ?_
  refine w_p (pc1 := 28) (st1 := .int 9 :: _) rfl rfl ?_
  refine w_t (a := 41) (b := 31) rfl rfl rfl ?_
  refine w_p (pc1 := 42) rfl rfl ?_
  refine w_p (pc1 := 123) rfl rfl ?_
  refine w_p (pc1 := 124) rfl rfl ?_
  refine w_m0 (pc1 := 127) rfl rfl (h_gC rfl rfl rfl rfl) rfl ?_
  refine w_p (pc1 := 128) rfl rfl ?_
  refine w_p (pc1 := 129) rfl rfl ?_
  refine w_p (pc1 := 130) (st1 := .int 4 :: _) rfl rfl ?_
  refine w_p (pc1 := 131) (st1 := .int 2 :: _) rfl rfl ?_
  refine w_je (pc1 := 134) (vs := [.ref 106, .int (nI (b)), .int 2]) (rest := []) (st1 := [.int 0]) (w2) rfl rfl rfl (fun _ _ => rfl) rfl (by exact cl_v my_47 rfl rfl rfl (Nat.le_of_ble_eq_true rfl) rfl (MH_obj rfl rfl) rfl (by decide) rfl rfl) (by rfl) (Nat.le_of_ble_eq_true rfl) (Nat.le_of_ble_eq_true rfl) rfl (by rfl) ?_
  refine w_f (a := 147) (b := 137) rfl rfl rfl ?_
  refine w_x (ci := 14) rfl rfl rfl (fun _ _ => rfl) rfl rfl (fun fr lo h1 h2 => cx_ok h1 h2 rfl) (by exact ch_thr (by decide) rfl) ?_
  exact Xk_i
set_option maxRecDepth 100000 in
theorem m_175_7 (hb : b < 6) (w : Wd L xs d y_33 (0, [(0, .ref 106), (1, .int (nI b))], [], MH C t, 0) (Rt (some (.int 1)) (MH C t) 0) nX) (w2 : Wd L xs d y_47 (0, [(0, .ref 106), (1, .int (nI b)), (2, .int 3)], [], MH C t, 0) (Rt (some (.int 1)) (MH C t) 0) nX) : Wd L xs (d + 1) y_175 (0, [(0, .ref 100), (1, .int (nI b)), (2, .int 7)], [], MH C t, sl) (Rt (some (.long (C.2.1 9 (b * 6 + 3)))) (MH C t) sl) nX := by
  refine w_p (pc1 := 1) rfl rfl ?_
  refine w_m0 (pc1 := 4) rfl rfl (h_gC rfl rfl rfl rfl) rfl ?_
  refine w_p (pc1 := 5) rfl rfl ?_
  refine w_je (pc1 := 8) (vs := [.ref 106, .int (nI (b))]) (rest := []) (st1 := [.int 1]) (w) rfl rfl rfl (fun _ _ => rfl) rfl (by exact cl_v my_33 rfl rfl rfl (Nat.le_of_ble_eq_true rfl) rfl (MH_obj rfl rfl) rfl (by decide) rfl rfl) (by rfl) (Nat.le_of_ble_eq_true rfl) (Nat.le_of_ble_eq_true rfl) rfl (by rfl) ?_
  refine w_t (a := 21) (b := 11) rfl rfl rfl ?_
  refine w_p (pc1 := 22) rfl rfl ?_
  refine w_f (a := 31) (b := 25) rfl rfl rfl ?_
  refine w_p (pc1 := 26) rfl rfl ?_
  refine w_p (pc1 := 28) (st1 := .int 9 :: _) rfl rfl ?_
  refine w_t (a := 41) (b := 31) rfl rfl rfl ?_
  refine w_p (pc1 := 42) rfl rfl ?_
  refine w_p (pc1 := 123) rfl rfl ?_
  refine w_p (pc1 := 124) rfl rfl ?_
  refine w_m0 (pc1 := 127) rfl rfl (h_gC rfl rfl rfl rfl) rfl ?_
  refine w_p (pc1 := 128) rfl rfl ?_
  refine w_p (pc1 := 129) rfl rfl ?_
  refine w_p (pc1 := 130) (st1 := .int 4 :: _) rfl rfl ?_
  refine w_p (pc1 := 131) (st1 := .int 3 :: _) rfl rfl ?_
  refine w_je (pc1 := 134) (vs := [.ref 106, .int (nI (b)), .int 3]) (rest := []) (st1 := [.int 1]) (w2) rfl rfl rfl (fun _ _ => rfl) rfl (by exact cl_v my_47 rfl rfl rfl (Nat.le_of_ble_eq_true rfl) rfl (MH_obj rfl rfl) rfl (by decide) rfl rfl) (by rfl) (Nat.le_of_ble_eq_true rfl) (Nat.le_of_ble_eq_true rfl) rfl (by rfl) ?_
  refine w_t (a := 147) (b := 137) rfl rfl rfl ?_
  refine w_p (pc1 := 148) rfl rfl ?_
  refine w_m0 (pc1 := 151) rfl rfl (h_gC rfl rfl rfl rfl) rfl ?_
  refine w_m0 (pc1 := 154) rfl rfl (h_gC rfl rfl rfl rfl) rfl ?_
  refine w_p (pc1 := 155) rfl rfl ?_
  refine w_p (pc1 := 157) (st1 := .int 6 :: _) rfl rfl ?_
  refine w_imul (pc1 := 158) (u := nI (b)) (v := nI (6)) (z := nI (b * 6)) rfl (nK_mul) rfl ?_
  refine w_p (pc1 := 159) rfl rfl ?_
  refine w_iadd (pc1 := 160) (u := nI (b * 6)) (v := nI (7)) (z := nI (b * 6 + 7)) rfl (nK_add) rfl ?_
  refine w_p (pc1 := 161) (st1 := .int 4 :: _) rfl rfl ?_
  refine w_isub (pc1 := 162) (u := nI (b * 6 + 7)) (v := nI (4)) (z := nI (b * 6 + 7 - 4)) rfl (nK_sub (by omega)) rfl ?_
  refine w_m0 (pc1 := 163) rfl rfl (n_ll (e := b * 6 + 7 - 4) rfl rfl rfl (by omega)) rfl ?_
  refine w_r rfl rfl rfl (fun _ _ => rfl) rfl ?_
  exact ⟨rfl, rfl, rfl⟩
set_option maxRecDepth 100000 in
theorem m_175_7n (w : Wd L xs (d + 5) y_33 (0, [(0, .ref 106), (1, .int (nI b))], [], MH C t, 0) (Rt (some (.int 1)) (MH C t) 0) nX) (w2 : Wd L xs (d + 5) y_47 (0, [(0, .ref 106), (1, .int (nI b)), (2, .int 3)], [], MH C t, 0) (Rt (some (.int 0)) (MH C t) 0) nX) : Wd L xs (d + 6) y_175 (0, [(0, .ref 100), (1, .int (nI b)), (2, .int 7)], [], MH C t, sl) nP (Xk 14 C t sl) := by
  refine w_p (pc1 := 1) rfl rfl ?_
  refine w_m0 (pc1 := 4) rfl rfl (h_gC rfl rfl rfl rfl) rfl ?_
  refine w_p (pc1 := 5) rfl rfl ?_
  refine w_je (pc1 := 8) (vs := [.ref 106, .int (nI (b))]) (rest := []) (st1 := [.int 1]) (w) rfl rfl rfl (fun _ _ => rfl) rfl (by exact cl_v my_33 rfl rfl rfl (Nat.le_of_ble_eq_true rfl) rfl (MH_obj rfl rfl) rfl (by decide) rfl rfl) (by rfl) (Nat.le_of_ble_eq_true rfl) (Nat.le_of_ble_eq_true rfl) rfl (by rfl) ?_
  refine w_t (a := 21) (b := 11) rfl rfl rfl ?_
  refine w_p (pc1 := 22) rfl rfl ?_
  refine w_f (a := 31) (b := 25) rfl rfl rfl ?_
  refine w_p (pc1 := 26) rfl rfl ?_
  refine w_p (pc1 := 28) (st1 := .int 9 :: _) rfl rfl ?_
  refine w_t (a := 41) (b := 31) rfl rfl rfl ?_
  refine w_p (pc1 := 42) rfl rfl ?_
  refine w_p (pc1 := 123) rfl rfl ?_
  refine w_p (pc1 := 124) rfl rfl ?_
  refine w_m0 (pc1 := 127) rfl rfl (h_gC rfl rfl rfl rfl) rfl ?_
  refine w_p (pc1 := 128) rfl rfl ?_
  refine w_p (pc1 := 129) rfl rfl ?_
  refine w_p (pc1 := 130) (st1 := .int 4 :: _) rfl rfl ?_
  refine w_p (pc1 := 131) (st1 := .int 3 :: _) rfl rfl ?_
  refine w_je (pc1 := 134) (vs := [.ref 106, .int (nI (b)), .int 3]) (rest := []) (st1 := [.int 0]) (w2) rfl rfl rfl (fun _ _ => rfl) rfl (by exact cl_v my_47 rfl rfl rfl (Nat.le_of_ble_eq_true rfl) rfl (MH_obj rfl rfl) rfl (by decide) rfl rfl) (by rfl) (Nat.le_of_ble_eq_true rfl) (Nat.le_of_ble_eq_true rfl) rfl (by rfl) ?_
  refine w_f (a := 147) (b := 137) rfl rfl rfl ?_
  refine w_x (ci := 14) rfl rfl rfl (fun _ _ => rfl) rfl rfl (fun fr lo h1 h2 => cx_ok h1 h2 rfl) (by exact ch_thr (by decide) rfl) ?_
  exact Xk_i
set_option maxRecDepth 100000 in
theorem m_175_8 (hb : b < 6) (w : Wd L xs d y_33 (0, [(0, .ref 106), (1, .int (nI b))], [], MH C t, 0) (Rt (some (.int 1)) (MH C t) 0) nX) (w2 : Wd L xs d y_47 (0, [(0, .ref 106), (1, .int (nI b)), (2, .int 4)], [], MH C t, 0) (Rt (some (.int 1)) (MH C t) 0) nX) : Wd L xs (d + 1) y_175 (0, [(0, .ref 100), (1, .int (nI b)), (2, .int 8)], [], MH C t, sl) (Rt (some (.long (C.2.1 9 (b * 6 + 4)))) (MH C t) sl) nX := by
  refine w_p (pc1 := 1) rfl rfl ?_
  refine w_m0 (pc1 := 4) rfl rfl (h_gC rfl rfl rfl rfl) rfl ?_
  refine w_p (pc1 := 5) rfl rfl ?_
  refine w_je (pc1 := 8) (vs := [.ref 106, .int (nI (b))]) (rest := []) (st1 := [.int 1]) (w) rfl rfl rfl (fun _ _ => rfl) rfl (by exact cl_v my_33 rfl rfl rfl (Nat.le_of_ble_eq_true rfl) rfl (MH_obj rfl rfl) rfl (by decide) rfl rfl) (by rfl) (Nat.le_of_ble_eq_true rfl) (Nat.le_of_ble_eq_true rfl) rfl (by rfl) ?_
  refine w_t (a := 21) (b := 11) rfl rfl rfl ?_
  refine w_p (pc1 := 22) rfl rfl ?_
  refine w_f (a := 31) (b := 25) rfl rfl rfl ?_
  refine w_p (pc1 := 26) rfl rfl ?_
  refine w_p (pc1 := 28) (st1 := .int 9 :: _) rfl rfl ?_
  refine w_t (a := 41) (b := 31) rfl rfl rfl ?_
  refine w_p (pc1 := 42) rfl rfl ?_
  refine w_p (pc1 := 123) rfl rfl ?_
  refine w_p (pc1 := 124) rfl rfl ?_
  refine w_m0 (pc1 := 127) rfl rfl (h_gC rfl rfl rfl rfl) rfl ?_
  refine w_p (pc1 := 128) rfl rfl ?_
  refine w_p (pc1 := 129) rfl rfl ?_
  refine w_p (pc1 := 130) (st1 := .int 4 :: _) rfl rfl ?_
  refine w_p (pc1 := 131) (st1 := .int 4 :: _) rfl rfl ?_
  refine w_je (pc1 := 134) (vs := [.ref 106, .int (nI (b)), .int 4]) (rest := []) (st1 := [.int 1]) (w2) rfl rfl rfl (fun _ _ => rfl) rfl (by exact cl_v my_47 rfl rfl rfl (Nat.le_of_ble_eq_true rfl) rfl (MH_obj rfl rfl) rfl (by decide) rfl rfl) (by rfl) (Nat.le_of_ble_eq_true rfl) (Nat.le_of_ble_eq_true rfl) rfl (by rfl) ?_
  refine w_t (a := 147) (b := 137) rfl rfl rfl ?_
  refine w_p (pc1 := 148) rfl rfl ?_
  refine w_m0 (pc1 := 151) rfl rfl (h_gC rfl rfl rfl rfl) rfl ?_
  refine w_m0 (pc1 := 154) rfl rfl (h_gC rfl rfl rfl rfl) rfl ?_
  refine w_p (pc1 := 155) rfl rfl ?_
  refine w_p (pc1 := 157) (st1 := .int 6 :: _) rfl rfl ?_
  refine w_imul (pc1 := 158) (u := nI (b)) (v := nI (6)) (z := nI (b * 6)) rfl (nK_mul) rfl ?_
  refine w_p (pc1 := 159) rfl rfl ?_
  refine w_iadd (pc1 := 160) (u := nI (b * 6)) (v := nI (8)) (z := nI (b * 6 + 8)) rfl (nK_add) rfl ?_
  refine w_p (pc1 := 161) (st1 := .int 4 :: _) rfl rfl ?_
  refine w_isub (pc1 := 162) (u := nI (b * 6 + 8)) (v := nI (4)) (z := nI (b * 6 + 8 - 4)) rfl (nK_sub (by omega)) rfl ?_
  refine w_m0 (pc1 := 163) rfl rfl (n_ll (e := b * 6 + 8 - 4) rfl rfl rfl (by omega)) rfl ?_
  refine w_r rfl rfl rfl (fun _ _ => rfl) rfl ?_
  exact ⟨rfl, rfl, rfl⟩
set_option maxRecDepth 100000 in
theorem m_175_8n (w : Wd L xs (d + 5) y_33 (0, [(0, .ref 106), (1, .int (nI b))], [], MH C t, 0) (Rt (some (.int 1)) (MH C t) 0) nX) (w2 : Wd L xs (d + 5) y_47 (0, [(0, .ref 106), (1, .int (nI b)), (2, .int 4)], [], MH C t, 0) (Rt (some (.int 0)) (MH C t) 0) nX) : Wd L xs (d + 6) y_175 (0, [(0, .ref 100), (1, .int (nI b)), (2, .int 8)], [], MH C t, sl) nP (Xk 14 C t sl) := by
  refine w_p (pc1 := 1) rfl rfl ?_
  refine w_m0 (pc1 := 4) rfl rfl (h_gC rfl rfl rfl rfl) rfl ?_
  refine w_p (pc1 := 5) rfl rfl ?_
  refine w_je (pc1 := 8) (vs := [.ref 106, .int (nI (b))]) (rest := []) (st1 := [.int 1]) (w) rfl rfl rfl (fun _ _ => rfl) rfl (by exact cl_v my_33 rfl rfl rfl (Nat.le_of_ble_eq_true rfl) rfl (MH_obj rfl rfl) rfl (by decide) rfl rfl) (by rfl) (Nat.le_of_ble_eq_true rfl) (Nat.le_of_ble_eq_true rfl) rfl (by rfl) ?_
  refine w_t (a := 21) (b := 11) rfl rfl rfl ?_
  refine w_p (pc1 := 22) rfl rfl ?_
  refine w_f (a := 31) (b := 25) rfl rfl rfl ?_
  refine w_p (pc1 := 26) rfl rfl ?_
  refine w_p (pc1 := 28) (st1 := .int 9 :: _) rfl rfl ?_
  refine w_t (a := 41) (b := 31) rfl rfl rfl ?_
  refine w_p (pc1 := 42) rfl rfl ?_
  refine w_p (pc1 := 123) rfl rfl ?_
  refine w_p (pc1 := 124) rfl rfl ?_
  refine w_m0 (pc1 := 127) rfl rfl (h_gC rfl rfl rfl rfl) rfl ?_
  refine w_p (pc1 := 128) rfl rfl ?_
  refine w_p (pc1 := 129) rfl rfl ?_
  refine w_p (pc1 := 130) (st1 := .int 4 :: _) rfl rfl ?_
  refine w_p (pc1 := 131) (st1 := .int 4 :: _) rfl rfl ?_
  refine w_je (pc1 := 134) (vs := [.ref 106, .int (nI (b)), .int 4]) (rest := []) (st1 := [.int 0]) (w2) rfl rfl rfl (fun _ _ => rfl) rfl (by exact cl_v my_47 rfl rfl rfl (Nat.le_of_ble_eq_true rfl) rfl (MH_obj rfl rfl) rfl (by decide) rfl rfl) (by rfl) (Nat.le_of_ble_eq_true rfl) (Nat.le_of_ble_eq_true rfl) rfl (by rfl) ?_
  refine w_f (a := 147) (b := 137) rfl rfl rfl ?_
  refine w_x (ci := 14) rfl rfl rfl (fun _ _ => rfl) rfl rfl (fun fr lo h1 h2 => cx_ok h1 h2 rfl) (by exact ch_thr (by decide) rfl) ?_
  exact Xk_i
set_option maxRecDepth 100000 in
theorem m_175_9 (hb : b < 6) (w : Wd L xs d y_33 (0, [(0, .ref 106), (1, .int (nI b))], [], MH C t, 0) (Rt (some (.int 1)) (MH C t) 0) nX) (w2 : Wd L xs d y_47 (0, [(0, .ref 106), (1, .int (nI b)), (2, .int 5)], [], MH C t, 0) (Rt (some (.int 1)) (MH C t) 0) nX) : Wd L xs (d + 1) y_175 (0, [(0, .ref 100), (1, .int (nI b)), (2, .int 9)], [], MH C t, sl) (Rt (some (.long (C.2.1 9 (b * 6 + 5)))) (MH C t) sl) nX := by
  refine w_p (pc1 := 1) rfl rfl ?_
  refine w_m0 (pc1 := 4) rfl rfl (h_gC rfl rfl rfl rfl) rfl ?_
  refine w_p (pc1 := 5) rfl rfl ?_
  refine w_je (pc1 := 8) (vs := [.ref 106, .int (nI (b))]) (rest := []) (st1 := [.int 1]) (w) rfl rfl rfl (fun _ _ => rfl) rfl (by exact cl_v my_33 rfl rfl rfl (Nat.le_of_ble_eq_true rfl) rfl (MH_obj rfl rfl) rfl (by decide) rfl rfl) (by rfl) (Nat.le_of_ble_eq_true rfl) (Nat.le_of_ble_eq_true rfl) rfl (by rfl) ?_
  refine w_t (a := 21) (b := 11) rfl rfl rfl ?_
  refine w_p (pc1 := 22) rfl rfl ?_
  refine w_f (a := 31) (b := 25) rfl rfl rfl ?_
  refine w_p (pc1 := 26) rfl rfl ?_
  refine w_p (pc1 := 28) (st1 := .int 9 :: _) rfl rfl ?_
  refine w_t (a := 41) (b := 31) rfl rfl rfl ?_
  refine w_p (pc1 := 42) rfl rfl ?_
  refine w_p (pc1 := 123) rfl rfl ?_
  refine w_p (pc1 := 124) rfl rfl ?_
  refine w_m0 (pc1 := 127) rfl rfl (h_gC rfl rfl rfl rfl) rfl ?_
  refine w_p (pc1 := 128) rfl rfl ?_
  refine w_p (pc1 := 129) rfl rfl ?_
  refine w_p (pc1 := 130) (st1 := .int 4 :: _) rfl rfl ?_
  refine w_p (pc1 := 131) (st1 := .int 5 :: _) rfl rfl ?_
  refine w_je (pc1 := 134) (vs := [.ref 106, .int (nI (b)), .int 5]) (rest := []) (st1 := [.int 1]) (w2) rfl rfl rfl (fun _ _ => rfl) rfl (by exact cl_v my_47 rfl rfl rfl (Nat.le_of_ble_eq_true rfl) rfl (MH_obj rfl rfl) rfl (by decide) rfl rfl) (by rfl) (Nat.le_of_ble_eq_true rfl) (Nat.le_of_ble_eq_true rfl) rfl (by rfl) ?_
  refine w_t (a := 147) (b := 137) rfl rfl rfl ?_
  refine w_p (pc1 := 148) rfl rfl ?_
  refine w_m0 (pc1 := 151) rfl rfl (h_gC rfl rfl rfl rfl) rfl ?_
  refine w_m0 (pc1 := 154) rfl rfl (h_gC rfl rfl rfl rfl) rfl ?_
  refine w_p (pc1 := 155) rfl rfl ?_
  refine w_p (pc1 := 157) (st1 := .int 6 :: _) rfl rfl ?_
  refine w_imul (pc1 := 158) (u := nI (b)) (v := nI (6)) (z := nI (b * 6)) rfl (nK_mul) rfl ?_
  refine w_p (pc1 := 159) rfl rfl ?_
  refine w_iadd (pc1 := 160) (u := nI (b * 6)) (v := nI (9)) (z := nI (b * 6 + 9)) rfl (nK_add) rfl ?_
  refine w_p (pc1 := 161) (st1 := .int 4 :: _) rfl rfl ?_
  refine w_isub (pc1 := 162) (u := nI (b * 6 + 9)) (v := nI (4)) (z := nI (b * 6 + 9 - 4)) rfl (nK_sub (by omega)) rfl ?_
  refine w_m0 (pc1 := 163) rfl rfl (n_ll (e := b * 6 + 9 - 4) rfl rfl rfl (by omega)) rfl ?_
  refine w_r rfl rfl rfl (fun _ _ => rfl) rfl ?_
  exact ⟨rfl, rfl, rfl⟩
set_option maxRecDepth 100000 in
theorem m_175_9n (w : Wd L xs (d + 5) y_33 (0, [(0, .ref 106), (1, .int (nI b))], [], MH C t, 0) (Rt (some (.int 1)) (MH C t) 0) nX) (w2 : Wd L xs (d + 5) y_47 (0, [(0, .ref 106), (1, .int (nI b)), (2, .int 5)], [], MH C t, 0) (Rt (some (.int 0)) (MH C t) 0) nX) : Wd L xs (d + 6) y_175 (0, [(0, .ref 100), (1, .int (nI b)), (2, .int 9)], [], MH C t, sl) nP (Xk 14 C t sl) := by
  refine w_p (pc1 := 1) rfl rfl ?_
  refine w_m0 (pc1 := 4) rfl rfl (h_gC rfl rfl rfl rfl) rfl ?_
  refine w_p (pc1 := 5) rfl rfl ?_
  refine w_je (pc1 := 8) (vs := [.ref 106, .int (nI (b))]) (rest := []) (st1 := [.int 1]) (w) rfl rfl rfl (fun _ _ => rfl) rfl (by exact cl_v my_33 rfl rfl rfl (Nat.le_of_ble_eq_true rfl) rfl (MH_obj rfl rfl) rfl (by decide) rfl rfl) (by rfl) (Nat.le_of_ble_eq_true rfl) (Nat.le_of_ble_eq_true rfl) rfl (by rfl) ?_
  refine w_t (a := 21) (b := 11) rfl rfl rfl ?_
  refine w_p (pc1 := 22) rfl rfl ?_
  refine w_f (a := 31) (b := 25) rfl rfl rfl ?_
  refine w_p (pc1 := 26) rfl rfl ?_
  refine w_p (pc1 := 28) (st1 := .int 9 :: _) rfl rfl ?_
  refine w_t (a := 41) (b := 31) rfl rfl rfl ?_
  refine w_p (pc1 := 42) rfl rfl ?_
  refine w_p (pc1 := 123) rfl rfl ?_
  refine w_p (pc1 := 124) rfl rfl ?_
  refine w_m0 (pc1 := 127) rfl rfl (h_gC rfl rfl rfl rfl) rfl ?_
  refine w_p (pc1 := 128) rfl rfl ?_
  refine w_p (pc1 := 129) rfl rfl ?_
  refine w_p (pc1 := 130) (st1 := .int 4 :: _) rfl rfl ?_
  refine w_p (pc1 := 131) (st1 := .int 5 :: _) rfl rfl ?_
  refine w_je (pc1 := 134) (vs := [.ref 106, .int (nI (b)), .int 5]) (rest := []) (st1 := [.int 0]) (w2) rfl rfl rfl (fun _ _ => rfl) rfl (by exact cl_v my_47 rfl rfl rfl (Nat.le_of_ble_eq_true rfl) rfl (MH_obj rfl rfl) rfl (by decide) rfl rfl) (by rfl) (Nat.le_of_ble_eq_true rfl) (Nat.le_of_ble_eq_true rfl) rfl (by rfl) ?_
  refine w_f (a := 147) (b := 137) rfl rfl rfl ?_
  refine w_x (ci := 14) rfl rfl rfl (fun _ _ => rfl) rfl rfl (fun fr lo h1 h2 => cx_ok h1 h2 rfl) (by exact ch_thr (by decide) rfl) ?_
  exact Xk_i
end OFI
