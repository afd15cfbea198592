/-! THE ROWS' QUESTIONS -/
section RWQ
variable {L : Nat} {xs : Nat → Int32} {C : co_T} {t : ab_H} {d sl b k n : Nat}
set_option maxRecDepth 100000 in
theorem m_107 (hb : b < 6) (hn : C.1 16 b = nI n) (h4 : n ≤ 40) : Wd L xs d y_107 (0, [(0, .ref 113), (1, .int (nI b))], [], MH C t, sl) (Rt (some (.int (nI n))) (MH C t) sl) nX := by
  refine w_p (pc1 := 1) rfl rfl ?_
  refine w_f (a := 10) (b := 4) (bN_lt_f (a := b) (b := 0) (by omega) (by omega) (by omega)) rfl rfl ?_
  refine w_p (pc1 := 5) rfl rfl ?_
  refine w_p (pc1 := 7) (st1 := .int 6 :: _) rfl rfl ?_
  refine w_t (a := 14) (b := 10) (bN_lt_t (a := b) (b := 6) (by omega) (by omega) (by omega)) rfl rfl ?_
  refine w_p (pc1 := 15) rfl rfl ?_
  refine w_m0 (pc1 := 18) rfl rfl (h_gC rfl rfl rfl rfl) rfl ?_
  refine w_p (pc1 := 19) rfl rfl ?_
  refine w_m0 (pc1 := 20) (st1 := .int (nI (n)) :: _) rfl rfl (n_ile (e := b) rfl rfl rfl (by omega) (hn)) rfl ?_
  refine w_r rfl rfl rfl (fun _ _ => rfl) cr_int ?_
  exact ⟨rfl, rfl, rfl⟩
set_option maxRecDepth 100000 in
theorem m_108 : Wd L xs d y_108 (0, [(0, .int (nI b)), (1, .int (nI k))], [], MH C t, sl) (Rt (some (.int (nI ((b * 40 + k) * 6)))) (MH C t) sl) nX := by
  refine w_p (pc1 := 1) rfl rfl ?_
  refine w_p (pc1 := 3) (st1 := .int 40 :: _) rfl rfl ?_
  refine w_imul (pc1 := 4) (u := nI (b)) (v := nI (40)) (z := nI (b * 40)) rfl (nK_mul) rfl ?_
  refine w_p (pc1 := 5) rfl rfl ?_
  refine w_iadd (pc1 := 6) (u := nI (b * 40)) (v := nI (k)) (z := nI (b * 40 + k)) rfl (nK_add) rfl ?_
  refine w_p (pc1 := 8) (st1 := .int 6 :: _) rfl rfl ?_
  refine w_imul (pc1 := 9) (u := nI (b * 40 + k)) (v := nI (6)) (z := nI ((b * 40 + k) * 6)) rfl (nK_mul) rfl ?_
  refine w_r rfl rfl rfl (fun _ _ => rfl) cr_int ?_
  exact ⟨rfl, rfl, rfl⟩
set_option maxRecDepth 100000 in
theorem m_129t (hb : b < 6) (hn : C.1 16 b = nI n) (h4 : n ≤ 40) (hk : k < n) : Wd L xs d y_129 (0, [(0, .ref 113), (1, .int (nI b)), (2, .int (nI k))], [], MH C t, sl) (Rt (some (.int 1)) (MH C t) sl) nX := by
  refine w_p (pc1 := 1) rfl rfl ?_
  refine w_f (a := 34) (b := 4) (bN_lt_f (a := b) (b := 0) (by omega) (by omega) (by omega)) rfl rfl ?_
  refine w_p (pc1 := 5) rfl rfl ?_
  refine w_p (pc1 := 7) (st1 := .int 6 :: _) rfl rfl ?_
  refine w_f (a := 34) (b := 10) (bN_ge_f (a := b) (b := 6) (by omega) (by omega) (by omega)) rfl rfl ?_
  refine w_p (pc1 := 11) rfl rfl ?_
  refine w_f (a := 34) (b := 14) (bN_lt_f (a := k) (b := 0) (by omega) (by omega) (by omega)) rfl rfl ?_
  refine w_p (pc1 := 15) rfl rfl ?_
  refine w_p (pc1 := 16) rfl rfl ?_
  refine w_m0 (pc1 := 19) rfl rfl (h_gC rfl rfl rfl rfl) rfl ?_
  refine w_p (pc1 := 20) rfl rfl ?_
  refine w_m0 (pc1 := 21) (st1 := .int (nI (n)) :: _) rfl rfl (n_ile (e := b) rfl rfl rfl (by omega) (hn)) rfl ?_
  refine w_f (a := 34) (b := 24) (bN_ge_f (a := k) (b := n) (by omega) (by omega) (by omega)) rfl rfl ?_
  refine w_p (pc1 := 25) rfl rfl ?_
  refine w_p (pc1 := 27) (st1 := .int 40 :: _) rfl rfl ?_
  refine w_f (a := 34) (b := 30) (bN_ge_f (a := k) (b := 40) (by omega) (by omega) (by omega)) rfl rfl ?_
  refine w_p (pc1 := 31) (st1 := .int 1 :: _) rfl rfl ?_
  refine w_p (pc1 := 35) rfl rfl ?_
  refine w_r rfl rfl rfl (fun _ _ => rfl) rfl ?_
  exact ⟨rfl, rfl, rfl⟩
set_option maxRecDepth 100000 in
theorem m_129f (hb : b < 6) (hn : C.1 16 b = nI n) (h4 : n ≤ 40) (hk : n ≤ k) (hk2 : k < 2147483648) : Wd L xs d y_129 (0, [(0, .ref 113), (1, .int (nI b)), (2, .int (nI k))], [], MH C t, sl) (Rt (some (.int 0)) (MH C t) sl) nX := by
  refine w_p (pc1 := 1) rfl rfl ?_
  refine w_f (a := 34) (b := 4) (bN_lt_f (a := b) (b := 0) (by omega) (by omega) (by omega)) rfl rfl ?_
  refine w_p (pc1 := 5) rfl rfl ?_
  refine w_p (pc1 := 7) (st1 := .int 6 :: _) rfl rfl ?_
  refine w_f (a := 34) (b := 10) (bN_ge_f (a := b) (b := 6) (by omega) (by omega) (by omega)) rfl rfl ?_
  refine w_p (pc1 := 11) rfl rfl ?_
  refine w_f (a := 34) (b := 14) (bN_lt_f (a := k) (b := 0) (by omega) (by omega) (by omega)) rfl rfl ?_
  refine w_p (pc1 := 15) rfl rfl ?_
  refine w_p (pc1 := 16) rfl rfl ?_
  refine w_m0 (pc1 := 19) rfl rfl (h_gC rfl rfl rfl rfl) rfl ?_
  refine w_p (pc1 := 20) rfl rfl ?_
  refine w_m0 (pc1 := 21) (st1 := .int (nI (n)) :: _) rfl rfl (n_ile (e := b) rfl rfl rfl (by omega) (hn)) rfl ?_
  refine w_t (a := 34) (b := 24) (bN_ge_t (a := k) (b := n) (by omega) (by omega) (by omega)) rfl rfl ?_
  refine w_p (pc1 := 35) (st1 := .int 0 :: _) rfl rfl ?_
  refine w_r rfl rfl rfl (fun _ _ => rfl) rfl ?_
  exact ⟨rfl, rfl, rfl⟩
set_option maxRecDepth 100000 in
theorem m_131 (hb : b < 6) (hn : C.1 16 b = nI n) (h4 : n ≤ 40) (hk : k < n) : Wd L xs (d + 1) y_131 (0, [(0, .ref 113), (1, .int (nI b)), (2, .int (nI k))], [], MH C t, sl) (Rt (some (.int (C.1 15 (b * 40 + k)))) (MH C t) sl) nX := by
  refine w_p (pc1 := 1) rfl rfl ?_
  refine w_p (pc1 := 2) rfl rfl ?_
  refine w_p (pc1 := 3) rfl rfl ?_
  refine w_je (pc1 := 6) (vs := [.ref 113, .int (nI (b)), .int (nI (k))]) (rest := []) (st1 := [.int 1]) (m_129t (d := _) (sl := 0) hb hn h4 hk) rfl rfl rfl (fun _ _ => rfl) rfl (by exact cl_v my_129 rfl rfl rfl (Nat.le_of_ble_eq_true rfl) rfl (MH_obj rfl rfl) rfl (by decide) rfl rfl) (by rfl) (Nat.le_of_ble_eq_true rfl) (Nat.le_of_ble_eq_true rfl) rfl (by rfl) ?_
  refine w_f (a := 23) (b := 9) rfl rfl rfl ?_
  refine w_p (pc1 := 10) rfl rfl ?_
  refine w_m0 (pc1 := 13) rfl rfl (h_gC rfl rfl rfl rfl) rfl ?_
  refine w_p (pc1 := 14) rfl rfl ?_
  refine w_p (pc1 := 16) (st1 := .int 40 :: _) rfl rfl ?_
  refine w_imul (pc1 := 17) (u := nI (b)) (v := nI (40)) (z := nI (b * 40)) rfl (nK_mul) rfl ?_
  refine w_p (pc1 := 18) rfl rfl ?_
  refine w_iadd (pc1 := 19) (u := nI (b * 40)) (v := nI (k)) (z := nI (b * 40 + k)) rfl (nK_add) rfl ?_
  refine w_m0 (pc1 := 20) rfl rfl (n_il (e := b * 40 + k) rfl rfl rfl (by omega)) rfl ?_
  refine w_p (pc1 := 24) rfl rfl ?_
  refine w_r rfl rfl rfl (fun _ _ => rfl) cr_int ?_
  exact ⟨rfl, rfl, rfl⟩
set_option maxRecDepth 100000 in
theorem m_140 {c : Nat} (hb : b < 6) (hn : C.1 16 b = nI n) (h4 : n ≤ 40) (hk : k < n) (hc : c < 6) : Wd L xs (d + 1) y_140 (0, [(0, .ref 113), (1, .int (nI b)), (2, .int (nI k)), (3, .int (nI c))], [], MH C t, sl) (Rt (some (.long (C.2.1 14 ((b * 40 + k) * 6 + c)))) (MH C t) sl) nX := by
  refine w_p (pc1 := 1) rfl rfl ?_
  refine w_p (pc1 := 2) rfl rfl ?_
  refine w_p (pc1 := 3) rfl rfl ?_
  refine w_je (pc1 := 6) (vs := [.ref 113, .int (nI (b)), .int (nI (k))]) (rest := []) (st1 := [.int 1]) (m_129t (d := _) (sl := 0) hb hn h4 hk) rfl rfl rfl (fun _ _ => rfl) rfl (by exact cl_v my_129 rfl rfl rfl (Nat.le_of_ble_eq_true rfl) rfl (MH_obj rfl rfl) rfl (by decide) rfl rfl) (by rfl) (Nat.le_of_ble_eq_true rfl) (Nat.le_of_ble_eq_true rfl) rfl (by rfl) ?_
  refine w_f (a := 19) (b := 9) rfl rfl rfl ?_
  refine w_p (pc1 := 10) rfl rfl ?_
  refine w_f (a := 19) (b := 13) (bN_lt_f (a := c) (b := 0) (by omega) (by omega) (by omega)) rfl rfl ?_
  refine w_p (pc1 := 14) rfl rfl ?_
  refine w_p (pc1 := 16) (st1 := .int 6 :: _) rfl rfl ?_
  refine w_t (a := 23) (b := 19) (bN_lt_t (a := c) (b := 6) (by omega) (by omega) (by omega)) rfl rfl ?_
  refine w_p (pc1 := 24) rfl rfl ?_
  refine w_m0 (pc1 := 27) rfl rfl (h_gC rfl rfl rfl rfl) rfl ?_
  refine w_p (pc1 := 28) rfl rfl ?_
  refine w_p (pc1 := 30) (st1 := .int 40 :: _) rfl rfl ?_
  refine w_imul (pc1 := 31) (u := nI (b)) (v := nI (40)) (z := nI (b * 40)) rfl (nK_mul) rfl ?_
  refine w_p (pc1 := 32) rfl rfl ?_
  refine w_iadd (pc1 := 33) (u := nI (b * 40)) (v := nI (k)) (z := nI (b * 40 + k)) rfl (nK_add) rfl ?_
  refine w_p (pc1 := 35) (st1 := .int 6 :: _) rfl rfl ?_
  refine w_imul (pc1 := 36) (u := nI (b * 40 + k)) (v := nI (6)) (z := nI ((b * 40 + k) * 6)) rfl (nK_mul) rfl ?_
  refine w_p (pc1 := 37) rfl rfl ?_
  refine w_iadd (pc1 := 38) (u := nI ((b * 40 + k) * 6)) (v := nI (c)) (z := nI ((b * 40 + k) * 6 + c)) rfl (nK_add) rfl ?_
  refine w_m0 (pc1 := 39) rfl rfl (n_ll (e := (b * 40 + k) * 6 + c) rfl rfl rfl (by omega)) rfl ?_
  refine w_r rfl rfl rfl (fun _ _ => rfl) rfl ?_
  exact ⟨rfl, rfl, rfl⟩
set_option maxRecDepth 100000 in
theorem m_126 (hb : b < 6) (hn : C.1 16 b = nI n) (h4 : n ≤ 40) : Wd L xs (d + 1) y_126 (0, [(0, .ref 113), (1, .int (nI b))], [], MH C t, sl) (Rt (some (.int (if 40 ≤ n then 1 else 0))) (MH C t) sl) nX := by
  refine w_p (pc1 := 1) rfl rfl ?_
  refine w_p (pc1 := 2) rfl rfl ?_
  refine w_je (pc1 := 5) (vs := [.ref 113, .int (nI (b))]) (rest := []) (st1 := [.int (nI (n))]) (m_107 (d := _) (sl := 0) hb hn h4) rfl rfl rfl (fun _ _ => rfl) rfl (by exact cl_v my_107 rfl rfl rfl (Nat.le_of_ble_eq_true rfl) rfl (MH_obj rfl rfl) rfl (by decide) rfl rfl) (by rfl) (Nat.le_of_ble_eq_true rfl) (Nat.le_of_ble_eq_true rfl) rfl (by rfl) ?_
  refine w_p (pc1 := 7) (st1 := .int 40 :: _) rfl rfl ?_
  refine w_b (a := 14) (b := 10) rfl rfl (fun c7 => ?_) (fun c7 => ?_)
  · replace c7 := cN_lt_t (a := n) (b := 40) (by omega) (by omega) c7
    refine w_p (pc1 := 15) (st1 := .int 0 :: _) rfl rfl ?_
    refine w_r rfl rfl rfl (fun _ _ => rfl) rfl ?_
    refine ⟨?_, rfl, rfl⟩; simp; omega
  · replace c7 := cN_lt_f (a := n) (b := 40) (by omega) (by omega) c7
    refine w_p (pc1 := 11) (st1 := .int 1 :: _) rfl rfl ?_
    refine w_p (pc1 := 15) rfl rfl ?_
    refine w_r rfl rfl rfl (fun _ _ => rfl) rfl ?_
    refine ⟨?_, rfl, rfl⟩; simp; omega
set_option maxRecDepth 100000 in
theorem lp_132 {i : Int32} (hb : b < 6) (hn : C.1 16 b = nI n) (h4 : n ≤ 40) : ∀ m k : Nat, k + m = n → Wd L xs (d + 2) y_132 (2, [(3, .int (nI k)), (0, .ref 113), (1, .int (nI b)), (2, .int i)], [], MH C t, sl) (Rt (some (.int (fnd (fun j => decide (C.1 15 (b * 40 + j) = i)) m k))) (MH C t) sl) nX
  | 0, k, hk => by
    obtain rfl : k = n := by omega
    refine w_p (pc1 := 3) rfl rfl ?_
    refine w_p (pc1 := 4) rfl rfl ?_
    refine w_p (pc1 := 5) rfl rfl ?_
    refine w_je (pc1 := 8) (vs := [.ref 113, .int (nI (b))]) (rest := [.int (nI (k))]) (st1 := [.int (nI (k)), .int (nI (k))]) (m_107 (d := _) (sl := 0) hb hn h4) rfl rfl rfl (fun _ _ => rfl) rfl (by exact cl_v my_107 rfl rfl rfl (Nat.le_of_ble_eq_true rfl) rfl (MH_obj rfl rfl) rfl (by decide) rfl rfl) (by rfl) (Nat.le_of_ble_eq_true rfl) (Nat.le_of_ble_eq_true rfl) rfl (by rfl) ?_
    refine w_t (a := 29) (b := 11) (bN_ge_t (a := k) (b := k) (by omega) (by omega) (by omega)) rfl rfl ?_
    refine w_p (pc1 := 30) (st1 := .int (-1) :: _) rfl rfl ?_
    refine w_r rfl rfl rfl (fun _ _ => rfl) cr_int ?_
    exact ⟨rfl, rfl, rfl⟩
  | m + 1, k, hk => by
    by_cases hi : C.1 15 (b * 40 + k) = i
    · rw [fnd, decide_eq_true hi, cond_true]
      refine w_p (pc1 := 3) rfl rfl ?_
      refine w_p (pc1 := 4) rfl rfl ?_
      refine w_p (pc1 := 5) rfl rfl ?_
      refine w_je (pc1 := 8) (vs := [.ref 113, .int (nI (b))]) (rest := [.int (nI (k))]) (st1 := [.int (nI (n)), .int (nI (k))]) (m_107 (d := _) (sl := 0) hb hn h4) rfl rfl rfl (fun _ _ => rfl) rfl (by exact cl_v my_107 rfl rfl rfl (Nat.le_of_ble_eq_true rfl) rfl (MH_obj rfl rfl) rfl (by decide) rfl rfl) (by rfl) (Nat.le_of_ble_eq_true rfl) (Nat.le_of_ble_eq_true rfl) rfl (by rfl) ?_
      refine w_f (a := 29) (b := 11) (bN_ge_f (a := k) (b := n) (by omega) (by omega) (by omega)) rfl rfl ?_
      refine w_p (pc1 := 12) rfl rfl ?_
      refine w_p (pc1 := 13) rfl rfl ?_
      refine w_p (pc1 := 14) rfl rfl ?_
      refine w_je (pc1 := 17) (vs := [.ref 113, .int (nI (b)), .int (nI (k))]) (rest := []) (st1 := [_]) (m_131 (d := _) (sl := 0) (k := k) hb hn h4 (by omega)) rfl rfl rfl (fun _ _ => rfl) rfl (by exact cl_v my_131 rfl rfl rfl (Nat.le_of_ble_eq_true rfl) rfl (MH_obj rfl rfl) rfl (by decide) rfl rfl) (by rfl) (Nat.le_of_ble_eq_true rfl) (Nat.le_of_ble_eq_true rfl) rfl (by rfl) ?_
      refine w_p (pc1 := 18) rfl rfl ?_
      refine w_f (a := 23) (b := 21) (cb_ne_f (by exact hi)) rfl rfl ?_
      refine w_p (pc1 := 22) rfl rfl ?_
      refine w_r rfl rfl rfl (fun _ _ => rfl) cr_int ?_
      exact ⟨rfl, rfl, rfl⟩
    · rw [fnd, decide_eq_false hi, cond_false]
      refine w_p (pc1 := 3) rfl rfl ?_
      refine w_p (pc1 := 4) rfl rfl ?_
      refine w_p (pc1 := 5) rfl rfl ?_
      refine w_je (pc1 := 8) (vs := [.ref 113, .int (nI (b))]) (rest := [.int (nI (k))]) (st1 := [.int (nI (n)), .int (nI (k))]) (m_107 (d := _) (sl := 0) hb hn h4) rfl rfl rfl (fun _ _ => rfl) rfl (by exact cl_v my_107 rfl rfl rfl (Nat.le_of_ble_eq_true rfl) rfl (MH_obj rfl rfl) rfl (by decide) rfl rfl) (by rfl) (Nat.le_of_ble_eq_true rfl) (Nat.le_of_ble_eq_true rfl) rfl (by rfl) ?_
      refine w_f (a := 29) (b := 11) (bN_ge_f (a := k) (b := n) (by omega) (by omega) (by omega)) rfl rfl ?_
      refine w_p (pc1 := 12) rfl rfl ?_
      refine w_p (pc1 := 13) rfl rfl ?_
      refine w_p (pc1 := 14) rfl rfl ?_
      refine w_je (pc1 := 17) (vs := [.ref 113, .int (nI (b)), .int (nI (k))]) (rest := []) (st1 := [_]) (m_131 (d := _) (sl := 0) (k := k) hb hn h4 (by omega)) rfl rfl rfl (fun _ _ => rfl) rfl (by exact cl_v my_131 rfl rfl rfl (Nat.le_of_ble_eq_true rfl) rfl (MH_obj rfl rfl) rfl (by decide) rfl rfl) (by rfl) (Nat.le_of_ble_eq_true rfl) (Nat.le_of_ble_eq_true rfl) rfl (by rfl) ?_
      refine w_p (pc1 := 18) rfl rfl ?_
      refine w_t (a := 23) (b := 21) (cb_ne_t (by exact hi)) rfl rfl ?_
      refine w_iinc (pc1 := 26) (u := nI (k)) (z := nI (k + 1)) (al1 := [(3, .int (nI (k + 1))), (0, .ref 113), (1, .int (nI (b))), (2, _)]) rfl rfl rfl nK_1 rfl rfl ?_
      refine w_p (pc1 := 2) rfl rfl ?_
      exact lp_132 hb hn h4 m (k + 1) (by omega)
set_option maxRecDepth 100000 in
theorem m_132 {i : Int32} (hb : b < 6) (hn : C.1 16 b = nI n) (h4 : n ≤ 40) : Wd L xs (d + 2) y_132 (0, [(0, .ref 113), (1, .int (nI b)), (2, .int i)], [], MH C t, sl) (Rt (some (.int (fnd (fun j => decide (C.1 15 (b * 40 + j) = i)) n 0))) (MH C t) sl) nX := by
  refine w_p (pc1 := 1) (st1 := .int 0 :: _) rfl rfl ?_
  refine w_p (pc1 := 2) (al1 := [(3, .int 0), (0, .ref 113), (1, .int (nI (b))), (2, _)]) rfl rfl ?_
  exact lp_132 hb hn h4 n 0 (by omega)
end RWQ
