/-! A FRESH OBJECT: what both sides answer when nothing is there -/
section FRS
variable {L : Nat} {xs : Nat → Int32} {C : co_T} {t : ab_H} {d sl : Nat}
set_option maxRecDepth 100000 in
theorem i9 {x : Int32} (h0 : 0 ≤ x.toInt) (h1 : x.toInt < 9) : x = 0 ∨ x = 1 ∨ x = 2 ∨ x = 3 ∨ x = 4 ∨ x = 5 ∨ x = 6 ∨ x = 7 ∨ x = 8 := by
  simp [← Int32.toInt_inj]
  omega
set_option maxRecDepth 100000 in
theorem i7 {x : Int32} (h0 : 0 ≤ x.toInt) (h1 : x.toInt < 7) : x = 0 ∨ x = 1 ∨ x = 2 ∨ x = 3 ∨ x = 4 ∨ x = 5 ∨ x = 6 := by
  simp [← Int32.toInt_inj]
  omega
/-! the one side -/
def frK (C : co_T) : Prop := (∀ i, i < 6 → C.2.1 7 i = 0) ∧ (∀ i, i < 6 → C.1 8 i = 0) ∧ (∀ i, i < 24 → C.2.2 11 i = none) ∧ (∀ i, i < 8 → C.2.2 12 i = none) ∧ C.1 6 12 = 0 ∧ C.1 6 7 = 0 ∧ C.1 1 4 = 0
/-! the other side -/
def frM (C : co_T) : Prop := (∀ i, i < 6 → C.1 78 i = 0) ∧ (∀ i, i < 24 → C.1 83 i = 0) ∧ (∀ i, i < 8 → C.1 95 i = 0) ∧ C.1 76 70 = 0 ∧ C.1 76 69 = 0 ∧ C.1 76 2 = 0
set_option maxRecDepth 100000 in
theorem m_96n {x : Int32} (F : frK C) : Wd L xs d y_96 (0, [(0, .ref 106), (1, .int x)], [], MH C t, sl) (Rt (some (.null)) (MH C t) sl) nX := by
  refine w_p (pc1 := 1) rfl rfl ?_
  refine w_b (a := 10) (b := 4) rfl rfl (fun c1 => ?_) (fun c1 => ?_)
  · replace c1 := ck_lt_t (n := 0) rfl c1
    refine w_p (pc1 := 11) rfl rfl ?_
    refine w_p (pc1 := 20) rfl rfl ?_
    refine w_r rfl rfl rfl (fun _ _ => rfl) rfl ?_
    exact ⟨rfl, rfl, rfl⟩
  · replace c1 := ck_lt_f (n := 0) rfl c1
    refine w_p (pc1 := 5) rfl rfl ?_
    refine w_p (pc1 := 7) (st1 := .int 24 :: _) rfl rfl ?_
    refine w_b (a := 14) (b := 10) rfl rfl (fun c7 => ?_) (fun c7 => ?_)
    · replace c7 := ck_lt_t (n := 24) rfl c7
      refine w_p (pc1 := 15) rfl rfl ?_
      refine w_m0 (pc1 := 18) rfl rfl (h_gC rfl rfl rfl rfl) rfl ?_
      refine w_p (pc1 := 19) rfl rfl ?_
      refine w_m0 (pc1 := 20) rfl rfl (h_alN rfl rfl (by decide) (in_ok (by omega) (by omega)) (F.2.2.1 _ (nat_of (by omega) (by omega)))) rfl ?_
      refine w_r rfl rfl rfl (fun _ _ => rfl) rfl ?_
      exact ⟨rfl, rfl, rfl⟩
    · replace c7 := ck_lt_f (n := 24) rfl c7
      refine w_p (pc1 := 11) rfl rfl ?_
      refine w_p (pc1 := 20) rfl rfl ?_
      refine w_r rfl rfl rfl (fun _ _ => rfl) rfl ?_
      exact ⟨rfl, rfl, rfl⟩
set_option maxRecDepth 100000 in
theorem m_123n {x : Int32} (F : frK C) : Wd L xs d y_123 (0, [(0, .ref 106), (1, .int x)], [], MH C t, sl) (Rt (some (.null)) (MH C t) sl) nX := by
  refine w_p (pc1 := 1) rfl rfl ?_
  refine w_b (a := 10) (b := 4) rfl rfl (fun c1 => ?_) (fun c1 => ?_)
  · replace c1 := ck_lt_t (n := 0) rfl c1
    refine w_p (pc1 := 11) rfl rfl ?_
    refine w_p (pc1 := 20) rfl rfl ?_
    refine w_r rfl rfl rfl (fun _ _ => rfl) rfl ?_
    exact ⟨rfl, rfl, rfl⟩
  · replace c1 := ck_lt_f (n := 0) rfl c1
    refine w_p (pc1 := 5) rfl rfl ?_
    refine w_p (pc1 := 7) (st1 := .int 8 :: _) rfl rfl ?_
    refine w_b (a := 14) (b := 10) rfl rfl (fun c7 => ?_) (fun c7 => ?_)
    · replace c7 := ck_lt_t (n := 8) rfl c7
      refine w_p (pc1 := 15) rfl rfl ?_
      refine w_m0 (pc1 := 18) rfl rfl (h_gC rfl rfl rfl rfl) rfl ?_
      refine w_p (pc1 := 19) rfl rfl ?_
      refine w_m0 (pc1 := 20) rfl rfl (h_alN rfl rfl (by decide) (in_ok (by omega) (by omega)) (F.2.2.2.1 _ (nat_of (by omega) (by omega)))) rfl ?_
      refine w_r rfl rfl rfl (fun _ _ => rfl) rfl ?_
      exact ⟨rfl, rfl, rfl⟩
    · replace c7 := ck_lt_f (n := 8) rfl c7
      refine w_p (pc1 := 11) rfl rfl ?_
      refine w_p (pc1 := 20) rfl rfl ?_
      refine w_r rfl rfl rfl (fun _ _ => rfl) rfl ?_
      exact ⟨rfl, rfl, rfl⟩
set_option maxRecDepth 100000 in
theorem hT_f {x : Int32} (F : frK C) : C.2.1 7 x.toNatClampNeg = 0 ∨ ¬ (0 ≤ x.toInt ∧ x.toInt < 6) := by
  by_cases h : 0 ≤ x.toInt ∧ x.toInt < 6
  · exact Or.inl (F.1 _ (nat_of h.1 h.2))
  · exact Or.inr h
set_option maxRecDepth 100000 in
theorem m_175n {x w : Int32} (F : frK C) : Wd L xs (d + 6) y_175 (0, [(0, .ref 100), (1, .int x), (2, .int w)], [], MH C t, sl) nP (Xk 14 C t sl) := by
  refine w_p (pc1 := 1) rfl rfl ?_
  refine w_m0 (pc1 := 4) rfl rfl (h_gC rfl rfl rfl rfl) rfl ?_
  refine w_p (pc1 := 5) rfl rfl ?_
  refine w_je (pc1 := 8) (vs := [.ref 106, _]) (rest := []) (st1 := [.int 0]) (m_33f (d := _) (sl := 0) (hT_f F)) rfl rfl rfl (fun _ _ => rfl) rfl (by exact cl_v my_33 rfl rfl rfl (Nat.le_of_ble_eq_true rfl) rfl (MH_obj rfl rfl) rfl (by decide) rfl rfl) (by rfl) (Nat.le_of_ble_eq_true rfl) (Nat.le_of_ble_eq_true rfl) rfl (by rfl) ?_
  refine w_f (a := 21) (b := 11) rfl rfl rfl ?_
  refine w_x (ci := 14) rfl rfl rfl (fun _ _ => rfl) rfl rfl (fun fr lo h1 h2 => cx_ok h1 h2 rfl) (by exact ch_thr (by decide) rfl) ?_
  exact Xk_i
set_option maxRecDepth 100000 in
theorem m_177n {x w z : Int32} (F : frK C) : Wd L xs (d + 6) y_177 (0, [(0, .ref 100), (1, .int x), (2, .int w), (3, .int z)], [], MH C t, sl) nP (Xk 14 C t sl) := by
  refine w_p (pc1 := 1) rfl rfl ?_
  refine w_m0 (pc1 := 4) rfl rfl (h_gC rfl rfl rfl rfl) rfl ?_
  refine w_p (pc1 := 5) rfl rfl ?_
  refine w_je (pc1 := 8) (vs := [.ref 106, _]) (rest := []) (st1 := [.int 0]) (m_33f (d := _) (sl := 0) (hT_f F)) rfl rfl rfl (fun _ _ => rfl) rfl (by exact cl_v my_33 rfl rfl rfl (Nat.le_of_ble_eq_true rfl) rfl (MH_obj rfl rfl) rfl (by decide) rfl rfl) (by rfl) (Nat.le_of_ble_eq_true rfl) (Nat.le_of_ble_eq_true rfl) rfl (by rfl) ?_
  refine w_f (a := 21) (b := 11) rfl rfl rfl ?_
  refine w_x (ci := 14) rfl rfl rfl (fun _ _ => rfl) rfl rfl (fun fr lo h1 h2 => cx_ok h1 h2 rfl) (by exact ch_thr (by decide) rfl) ?_
  exact Xk_i
set_option maxRecDepth 100000 in
theorem m_179n {x w : Int32} (F : frK C) : Wd L xs (d + 6) y_179 (0, [(0, .ref 100), (1, .int x), (2, .int w)], [], MH C t, sl) nP (Xk 14 C t sl) := by
  refine w_p (pc1 := 1) rfl rfl ?_
  refine w_m0 (pc1 := 4) rfl rfl (h_gC rfl rfl rfl rfl) rfl ?_
  refine w_p (pc1 := 5) rfl rfl ?_
  refine w_je (pc1 := 8) (vs := [.ref 106, _]) (rest := []) (st1 := [.null]) (m_96n (d := _) (sl := 0) F) rfl rfl rfl (fun _ _ => rfl) rfl (by exact cl_v my_96 rfl rfl rfl (Nat.le_of_ble_eq_true rfl) rfl (MH_obj rfl rfl) rfl (by decide) rfl rfl) (by rfl) (Nat.le_of_ble_eq_true rfl) (Nat.le_of_ble_eq_true rfl) rfl (by rfl) ?_
  refine w_p (pc1 := 9) (al1 := [(3, .null), (0, .ref 100), (1, _), (2, _)]) rfl rfl ?_
  refine w_p (pc1 := 10) rfl rfl ?_
  refine w_f (a := 23) (b := 13) rfl rfl rfl ?_
  refine w_x (ci := 14) rfl rfl rfl (fun _ _ => rfl) rfl rfl (fun fr lo h1 h2 => cx_ok h1 h2 rfl) (by exact ch_thr (by decide) rfl) ?_
  exact Xk_i
set_option maxRecDepth 100000 in
theorem m_182n {x w : Int32} (F : frK C) : Wd L xs (d + 6) y_182 (0, [(0, .ref 100), (1, .int x), (2, .int w)], [], MH C t, sl) nP (Xk 14 C t sl) := by
  refine w_p (pc1 := 1) rfl rfl ?_
  refine w_m0 (pc1 := 4) rfl rfl (h_gC rfl rfl rfl rfl) rfl ?_
  refine w_p (pc1 := 5) rfl rfl ?_
  refine w_je (pc1 := 8) (vs := [.ref 106, _]) (rest := []) (st1 := [.null]) (m_123n (d := _) (sl := 0) F) rfl rfl rfl (fun _ _ => rfl) rfl (by exact cl_v my_123 rfl rfl rfl (Nat.le_of_ble_eq_true rfl) rfl (MH_obj rfl rfl) rfl (by decide) rfl rfl) (by rfl) (Nat.le_of_ble_eq_true rfl) (Nat.le_of_ble_eq_true rfl) rfl (by rfl) ?_
  refine w_p (pc1 := 9) (al1 := [(3, .null), (0, .ref 100), (1, _), (2, _)]) rfl rfl ?_
  refine w_p (pc1 := 10) rfl rfl ?_
  refine w_f (a := 23) (b := 13) rfl rfl rfl ?_
  refine w_x (ci := 14) rfl rfl rfl (fun _ _ => rfl) rfl rfl (fun fr lo h1 h2 => cx_ok h1 h2 rfl) (by exact ch_thr (by decide) rfl) ?_
  exact Xk_i
set_option maxRecDepth 100000 in
theorem m_184n {x : Int32} (F : frK C) : Wd L xs (d + 6) y_184 (0, [(0, .ref 100), (1, .int x)], [], MH C t, sl) nP (Xk 14 C t sl) := by
  refine w_p (pc1 := 1) rfl rfl ?_
  refine w_m0 (pc1 := 4) rfl rfl (h_gC rfl rfl rfl rfl) rfl ?_
  refine w_p (pc1 := 5) rfl rfl ?_
  refine w_je (pc1 := 8) (vs := [.ref 106, _]) (rest := []) (st1 := [.null]) (m_96n (d := _) (sl := 0) F) rfl rfl rfl (fun _ _ => rfl) rfl (by exact cl_v my_96 rfl rfl rfl (Nat.le_of_ble_eq_true rfl) rfl (MH_obj rfl rfl) rfl (by decide) rfl rfl) (by rfl) (Nat.le_of_ble_eq_true rfl) (Nat.le_of_ble_eq_true rfl) rfl (by rfl) ?_
  refine w_p (pc1 := 9) (al1 := [(2, .null), (0, .ref 100), (1, _)]) rfl rfl ?_
  refine w_p (pc1 := 10) rfl rfl ?_
  refine w_f (a := 23) (b := 13) rfl rfl rfl ?_
  refine w_x (ci := 14) rfl rfl rfl (fun _ _ => rfl) rfl rfl (fun fr lo h1 h2 => cx_ok h1 h2 rfl) (by exact ch_thr (by decide) rfl) ?_
  exact Xk_i
set_option maxRecDepth 100000 in
theorem m_169z (F : frK C) : Wd L xs (d + 1) y_169 (0, [(0, .ref 106)], [], MH C t, sl) (Rt (some (.int 0)) (MH C t) sl) nX := by
  refine w_p (pc1 := 1) (st1 := .int 0 :: _) rfl rfl ?_
  refine w_p (pc1 := 2) (al1 := [(1, .int 0), (0, .ref 106)]) rfl rfl ?_
  refine w_p (pc1 := 3) (st1 := .int 0 :: _) rfl rfl ?_
  refine w_p (pc1 := 4) (al1 := [(2, .int 0), (1, .int 0), (0, .ref 106)]) rfl rfl ?_
  refine w_p (pc1 := 5) rfl rfl ?_
  refine w_p (pc1 := 7) (st1 := .int 6 :: _) rfl rfl ?_
  refine w_f (a := 32) (b := 10) rfl rfl rfl ?_
  refine w_p (pc1 := 11) rfl rfl ?_
  refine w_p (pc1 := 12) rfl rfl ?_
  refine w_p (pc1 := 13) rfl rfl ?_
  refine w_je (pc1 := 16) (vs := [.ref 106, .int 0]) (rest := [.int 0]) (st1 := [.int 0, .int 0]) (m_33f (d := _) (sl := 0) (hT_f F)) rfl rfl rfl (fun _ _ => rfl) rfl (by exact cl_v my_33 rfl rfl rfl (Nat.le_of_ble_eq_true rfl) rfl (MH_obj rfl rfl) rfl (by decide) rfl rfl) (by rfl) (Nat.le_of_ble_eq_true rfl) (Nat.le_of_ble_eq_true rfl) rfl (by rfl) ?_
  refine w_t (a := 23) (b := 19) rfl rfl rfl ?_
  refine w_p (pc1 := 24) (st1 := .int 0 :: _) rfl rfl ?_
  refine w_p (pc1 := 25) (st1 := .int 0 :: _) rfl rfl ?_
  refine w_p (pc1 := 26) (al1 := [(1, .int 0), (2, .int 0), (0, .ref 106)]) rfl rfl ?_
  refine w_p (pc1 := 29) (al1 := [(2, .int 1), (1, .int 0), (0, .ref 106)]) rfl rfl ?_
  refine w_p (pc1 := 4) rfl rfl ?_
  refine w_p (pc1 := 5) rfl rfl ?_
  refine w_p (pc1 := 7) (st1 := .int 6 :: _) rfl rfl ?_
  refine w_f (a := 32) (b := 10) rfl rfl rfl ?_
  refine w_p (pc1 := 11) rfl rfl ?_
  refine w_p (pc1 := 12) rfl rfl ?_
  refine w_p (pc1 := 13) rfl rfl ?_
  refine w_je (pc1 := 16) (vs := [.ref 106, .int 1]) (rest := [.int 0]) (st1 := [.int 0, .int 0]) (m_33f (d := _) (sl := 0) (hT_f F)) rfl rfl rfl (fun _ _ => rfl) rfl (by exact cl_v my_33 rfl rfl rfl (Nat.le_of_ble_eq_true rfl) rfl (MH_obj rfl rfl) rfl (by decide) rfl rfl) (by rfl) (Nat.le_of_ble_eq_true rfl) (Nat.le_of_ble_eq_true rfl) rfl (by rfl) ?_
  refine w_t (a := 23) (b := 19) rfl rfl rfl ?_
  refine w_p (pc1 := 24) (st1 := .int 0 :: _) rfl rfl ?_
  refine w_p (pc1 := 25) (st1 := .int 0 :: _) rfl rfl ?_
  refine w_p (pc1 := 26) (al1 := [(1, .int 0), (2, .int 1), (0, .ref 106)]) rfl rfl ?_
  refine w_p (pc1 := 29) (al1 := [(2, .int 2), (1, .int 0), (0, .ref 106)]) rfl rfl ?_
  refine w_p (pc1 := 4) rfl rfl ?_
  refine w_p (pc1 := 5) rfl rfl ?_
  refine w_p (pc1 := 7) (st1 := .int 6 :: _) rfl rfl ?_
  refine w_f (a := 32) (b := 10) rfl rfl rfl ?_
  refine w_p (pc1 := 11) rfl rfl ?_
  refine w_p (pc1 := 12) rfl rfl ?_
  refine w_p (pc1 := 13) rfl rfl ?_
  refine w_je (pc1 := 16) (vs := [.ref 106, .int 2]) (rest := [.int 0]) (st1 := [.int 0, .int 0]) (m_33f (d := _) (sl := 0) (hT_f F)) rfl rfl rfl (fun _ _ => rfl) rfl (by exact cl_v my_33 rfl rfl rfl (Nat.le_of_ble_eq_true rfl) rfl (MH_obj rfl rfl) rfl (by decide) rfl rfl) (by rfl) (Nat.le_of_ble_eq_true rfl) (Nat.le_of_ble_eq_true rfl) rfl (by rfl) ?_
  refine w_t (a := 23) (b := 19) rfl rfl rfl ?_
  refine w_p (pc1 := 24) (st1 := .int 0 :: _) rfl rfl ?_
  refine w_p (pc1 := 25) (st1 := .int 0 :: _) rfl rfl ?_
  refine w_p (pc1 := 26) (al1 := [(1, .int 0), (2, .int 2), (0, .ref 106)]) rfl rfl ?_
  refine w_p (pc1 := 29) (al1 := [(2, .int 3), (1, .int 0), (0, .ref 106)]) rfl rfl ?_
  refine w_p (pc1 := 4) rfl rfl ?_
  refine w_p (pc1 := 5) rfl rfl ?_
  refine w_p (pc1 := 7) (st1 := .int 6 :: _) rfl rfl ?_
  refine w_f (a := 32) (b := 10) rfl rfl rfl ?_
  refine w_p (pc1 := 11) rfl rfl ?_
  refine w_p (pc1 := 12) rfl rfl ?_
  refine w_p (pc1 := 13) rfl rfl ?_
  refine w_je (pc1 := 16) (vs := [.ref 106, .int 3]) (rest := [.int 0]) (st1 := [.int 0, .int 0]) (m_33f (d := _) (sl := 0) (hT_f F)) rfl rfl rfl (fun _ _ => rfl) rfl (by exact cl_v my_33 rfl rfl rfl (Nat.le_of_ble_eq_true rfl) rfl (MH_obj rfl rfl) rfl (by decide) rfl rfl) (by rfl) (Nat.le_of_ble_eq_true rfl) (Nat.le_of_ble_eq_true rfl) rfl (by rfl) ?_
  refine w_t (a := 23) (b := 19) rfl rfl rfl ?_
  refine w_p (pc1 := 24) (st1 := .int 0 :: _) rfl rfl ?_
  refine w_p (pc1 := 25) (st1 := .int 0 :: _) rfl rfl ?_
  refine w_p (pc1 := 26) (al1 := [(1, .int 0), (2, .int 3), (0, .ref 106)]) rfl rfl ?_
  refine w_p (pc1 := 29) (al1 := [(2, .int 4), (1, .int 0), (0, .ref 106)]) rfl rfl ?_
  refine w_p (pc1 := 4) rfl rfl ?_
  refine w_p (pc1 := 5) rfl rfl ?_
  refine w_p (pc1 := 7) (st1 := .int 6 :: _) rfl rfl ?_
  refine w_f (a := 32) (b := 10) rfl rfl rfl ?_
  refine w_p (pc1 := 11) rfl rfl ?_
  refine w_p (pc1 := 12) rfl rfl ?_
  refine w_p (pc1 := 13) rfl rfl ?_
  refine w_je (pc1 := 16) (vs := [.ref 106, .int 4]) (rest := [.int 0]) (st1 := [.int 0, .int 0]) (m_33f (d := _) (sl := 0) (hT_f F)) rfl rfl rfl (fun _ _ => rfl) rfl (by exact cl_v my_33 rfl rfl rfl (Nat.le_of_ble_eq_true rfl) rfl (MH_obj rfl rfl) rfl (by decide) rfl rfl) (by rfl) (Nat.le_of_ble_eq_true rfl) (Nat.le_of_ble_eq_true rfl) rfl (by rfl) ?_
  refine w_t (a := 23) (b := 19) rfl rfl rfl ?_
  refine w_p (pc1 := 24) (st1 := .int 0 :: _) rfl rfl ?_
  refine w_p (pc1 := 25) (st1 := .int 0 :: _) rfl rfl ?_
  refine w_p (pc1 := 26) (al1 := [(1, .int 0), (2, .int 4), (0, .ref 106)]) rfl rfl ?_
  refine w_p (pc1 := 29) (al1 := [(2, .int 5), (1, .int 0), (0, .ref 106)]) rfl rfl ?_
  refine w_p (pc1 := 4) rfl rfl ?_
  refine w_p (pc1 := 5) rfl rfl ?_
  refine w_p (pc1 := 7) (st1 := .int 6 :: _) rfl rfl ?_
  refine w_f (a := 32) (b := 10) rfl rfl rfl ?_
  refine w_p (pc1 := 11) rfl rfl ?_
  refine w_p (pc1 := 12) rfl rfl ?_
  refine w_p (pc1 := 13) rfl rfl ?_
  refine w_je (pc1 := 16) (vs := [.ref 106, .int 5]) (rest := [.int 0]) (st1 := [.int 0, .int 0]) (m_33f (d := _) (sl := 0) (hT_f F)) rfl rfl rfl (fun _ _ => rfl) rfl (by exact cl_v my_33 rfl rfl rfl (Nat.le_of_ble_eq_true rfl) rfl (MH_obj rfl rfl) rfl (by decide) rfl rfl) (by rfl) (Nat.le_of_ble_eq_true rfl) (Nat.le_of_ble_eq_true rfl) rfl (by rfl) ?_
  refine w_t (a := 23) (b := 19) rfl rfl rfl ?_
  refine w_p (pc1 := 24) (st1 := .int 0 :: _) rfl rfl ?_
  refine w_p (pc1 := 25) (st1 := .int 0 :: _) rfl rfl ?_
  refine w_p (pc1 := 26) (al1 := [(1, .int 0), (2, .int 5), (0, .ref 106)]) rfl rfl ?_
  refine w_p (pc1 := 29) (al1 := [(2, .int 6), (1, .int 0), (0, .ref 106)]) rfl rfl ?_
  refine w_p (pc1 := 4) rfl rfl ?_
  refine w_p (pc1 := 5) rfl rfl ?_
  refine w_p (pc1 := 7) (st1 := .int 6 :: _) rfl rfl ?_
  refine w_t (a := 32) (b := 10) rfl rfl rfl ?_
  refine w_p (pc1 := 33) rfl rfl ?_
  refine w_r rfl rfl rfl (fun _ _ => rfl) cr_int ?_
  exact ⟨rfl, rfl, rfl⟩
set_option maxRecDepth 100000 in
theorem m_170z (F : frK C) : Wd L xs d y_170 (0, [(0, .ref 106)], [], MH C t, sl) (Rt (some (.int 0)) (MH C t) sl) nX := by
  refine w_p (pc1 := 1) (st1 := .int 0 :: _) rfl rfl ?_
  refine w_p (pc1 := 2) (al1 := [(1, .int 0), (0, .ref 106)]) rfl rfl ?_
  refine w_p (pc1 := 3) (st1 := .int 0 :: _) rfl rfl ?_
  refine w_p (pc1 := 4) (al1 := [(2, .int 0), (1, .int 0), (0, .ref 106)]) rfl rfl ?_
  refine w_p (pc1 := 5) rfl rfl ?_
  refine w_p (pc1 := 7) (st1 := .int 24 :: _) rfl rfl ?_
  refine w_f (a := 33) (b := 10) rfl rfl rfl ?_
  refine w_p (pc1 := 11) rfl rfl ?_
  refine w_p (pc1 := 12) rfl rfl ?_
  refine w_m0 (pc1 := 15) rfl rfl (h_gC rfl rfl rfl rfl) rfl ?_
  refine w_p (pc1 := 16) rfl rfl ?_
  refine w_m0 (pc1 := 17) rfl rfl (h_al rfl rfl (by decide) rfl) rfl ?_
  refine w_nl_n (a := 24) (b := 20) (by exact F.2.2.1 _ (by decide)) rfl rfl rfl ?_
  refine w_p (pc1 := 25) (st1 := .int 0 :: _) rfl rfl ?_
  refine w_p (pc1 := 26) (st1 := .int 0 :: _) rfl rfl ?_
  refine w_p (pc1 := 27) (al1 := [(1, .int 0), (2, .int 0), (0, .ref 106)]) rfl rfl ?_
  refine w_p (pc1 := 30) (al1 := [(2, .int 1), (1, .int 0), (0, .ref 106)]) rfl rfl ?_
  refine w_p (pc1 := 4) rfl rfl ?_
  refine w_p (pc1 := 5) rfl rfl ?_
  refine w_p (pc1 := 7) (st1 := .int 24 :: _) rfl rfl ?_
  refine w_f (a := 33) (b := 10) rfl rfl rfl ?_
  refine w_p (pc1 := 11) rfl rfl ?_
  refine w_p (pc1 := 12) rfl rfl ?_
  refine w_m0 (pc1 := 15) rfl rfl (h_gC rfl rfl rfl rfl) rfl ?_
  refine w_p (pc1 := 16) rfl rfl ?_
  refine w_m0 (pc1 := 17) rfl rfl (h_al rfl rfl (by decide) rfl) rfl ?_
  refine w_nl_n (a := 24) (b := 20) (by exact F.2.2.1 _ (by decide)) rfl rfl rfl ?_
  refine w_p (pc1 := 25) (st1 := .int 0 :: _) rfl rfl ?_
  refine w_p (pc1 := 26) (st1 := .int 0 :: _) rfl rfl ?_
  refine w_p (pc1 := 27) (al1 := [(1, .int 0), (2, .int 1), (0, .ref 106)]) rfl rfl ?_
  refine w_p (pc1 := 30) (al1 := [(2, .int 2), (1, .int 0), (0, .ref 106)]) rfl rfl ?_
  refine w_p (pc1 := 4) rfl rfl ?_
  refine w_p (pc1 := 5) rfl rfl ?_
  refine w_p (pc1 := 7) (st1 := .int 24 :: _) rfl rfl ?_
  refine w_f (a := 33) (b := 10) rfl rfl rfl ?_
  refine w_p (pc1 := 11) rfl rfl ?_
  refine w_p (pc1 := 12) rfl rfl ?_
  refine w_m0 (pc1 := 15) rfl rfl (h_gC rfl rfl rfl rfl) rfl ?_
  refine w_p (pc1 := 16) rfl rfl ?_
  refine w_m0 (pc1 := 17) rfl rfl (h_al rfl rfl (by decide) rfl) rfl ?_
  refine w_nl_n (a := 24) (b := 20) (by exact F.2.2.1 _ (by decide)) rfl rfl rfl ?_
  refine w_p (pc1 := 25) (st1 := .int 0 :: _) rfl rfl ?_
  refine w_p (pc1 := 26) (st1 := .int 0 :: _) rfl rfl ?_
  refine w_p (pc1 := 27) (al1 := [(1, .int 0), (2, .int 2), (0, .ref 106)]) rfl rfl ?_
  refine w_p (pc1 := 30) (al1 := [(2, .int 3), (1, .int 0), (0, .ref 106)]) rfl rfl ?_
  refine w_p (pc1 := 4) rfl rfl ?_
  refine w_p (pc1 := 5) rfl rfl ?_
  refine w_p (pc1 := 7) (st1 := .int 24 :: _) rfl rfl ?_
  refine w_f (a := 33) (b := 10) rfl rfl rfl ?_
  refine w_p (pc1 := 11) rfl rfl ?_
  refine w_p (pc1 := 12) rfl rfl ?_
  refine w_m0 (pc1 := 15) rfl rfl (h_gC rfl rfl rfl rfl) rfl ?_
  refine w_p (pc1 := 16) rfl rfl ?_
  refine w_m0 (pc1 := 17) rfl rfl (h_al rfl rfl (by decide) rfl) rfl ?_
  refine w_nl_n (a := 24) (b := 20) (by exact F.2.2.1 _ (by decide)) rfl rfl rfl ?_
  refine w_p (pc1 := 25) (st1 := .int 0 :: _) rfl rfl ?_
  refine w_p (pc1 := 26) (st1 := .int 0 :: _) rfl rfl ?_
  refine w_p (pc1 := 27) (al1 := [(1, .int 0), (2, .int 3), (0, .ref 106)]) rfl rfl ?_
  refine w_p (pc1 := 30) (al1 := [(2, .int 4), (1, .int 0), (0, .ref 106)]) rfl rfl ?_
  refine w_p (pc1 := 4) rfl rfl ?_
  refine w_p (pc1 := 5) rfl rfl ?_
  refine w_p (pc1 := 7) (st1 := .int 24 :: _) rfl rfl ?_
  refine w_f (a := 33) (b := 10) rfl rfl rfl ?_
  refine w_p (pc1 := 11) rfl rfl ?_
  refine w_p (pc1 := 12) rfl rfl ?_
  refine w_m0 (pc1 := 15) rfl rfl (h_gC rfl rfl rfl rfl) rfl ?_
  refine w_p (pc1 := 16) rfl rfl ?_
  refine w_m0 (pc1 := 17) rfl rfl (h_al rfl rfl (by decide) rfl) rfl ?_
  refine w_nl_n (a := 24) (b := 20) (by exact F.2.2.1 _ (by decide)) rfl rfl rfl ?_
  refine w_p (pc1 := 25) (st1 := .int 0 :: _) rfl rfl ?_
  refine w_p (pc1 := 26) (st1 := .int 0 :: _) rfl rfl ?_
  refine w_p (pc1 := 27) (al1 := [(1, .int 0), (2, .int 4), (0, .ref 106)]) rfl rfl ?_
  refine w_p (pc1 := 30) (al1 := [(2, .int 5), (1, .int 0), (0, .ref 106)]) rfl rfl ?_
  refine w_p (pc1 := 4) rfl rfl ?_
  refine w_p (pc1 := 5) rfl rfl ?_
  refine w_p (pc1 := 7) (st1 := .int 24 :: _) rfl rfl ?_
  refine w_f (a := 33) (b := 10) rfl rfl rfl ?_
  refine w_p (pc1 := 11) rfl rfl ?_
  refine w_p (pc1 := 12) rfl rfl ?_
  refine w_m0 (pc1 := 15) rfl rfl (h_gC rfl rfl rfl rfl) rfl ?_
  refine w_p (pc1 := 16) rfl rfl ?_
  refine w_m0 (pc1 := 17) rfl rfl (h_al rfl rfl (by decide) rfl) rfl ?_
  refine w_nl_n (a := 24) (b := 20) (by exact F.2.2.1 _ (by decide)) rfl rfl rfl ?_
  refine w_p (pc1 := 25) (st1 := .int 0 :: _) rfl rfl ?_
  refine w_p (pc1 := 26) (st1 := .int 0 :: _) rfl rfl ?_
  refine w_p (pc1 := 27) (al1 := [(1, .int 0), (2, .int 5), (0, .ref 106)]) rfl rfl ?_
  refine w_p (pc1 := 30) (al1 := [(2, .int 6), (1, .int 0), (0, .ref 106)]) rfl rfl ?_
  refine w_p (pc1 := 4) rfl rfl ?_
  refine w_p (pc1 := 5) rfl rfl ?_
  refine w_p (pc1 := 7) (st1 := .int 24 :: _) rfl rfl ?_
  refine w_f (a := 33) (b := 10) rfl rfl rfl ?_
  refine w_p (pc1 := 11) rfl rfl ?_
  refine w_p (pc1 := 12) rfl rfl ?_
  refine w_m0 (pc1 := 15) rfl rfl (h_gC rfl rfl rfl rfl) rfl ?_
  refine w_p (pc1 := 16) rfl rfl ?_
  refine w_m0 (pc1 := 17) rfl rfl (h_al rfl rfl (by decide) rfl) rfl ?_
  refine w_nl_n (a := 24) (b := 20) (by exact F.2.2.1 _ (by decide)) rfl rfl rfl ?_
  refine w_p (pc1 := 25) (st1 := .int 0 :: _) rfl rfl ?_
  refine w_p (pc1 := 26) (st1 := .int 0 :: _) rfl rfl ?_
  refine w_p (pc1 := 27) (al1 := [(1, .int 0), (2, .int 6), (0, .ref 106)]) rfl rfl ?_
  refine w_p (pc1 := 30) (al1 := [(2, .int 7), (1, .int 0), (0, .ref 106)]) rfl rfl ?_
  refine w_p (pc1 := 4) rfl rfl ?_
  refine w_p (pc1 := 5) rfl rfl ?_
  refine w_p (pc1 := 7) (st1 := .int 24 :: _) rfl rfl ?_
  refine w_f (a := 33) (b := 10) rfl rfl rfl ?_
  refine w_p (pc1 := 11) rfl rfl ?_
  refine w_p (pc1 := 12) rfl rfl ?_
  refine w_m0 (pc1 := 15) rfl rfl (h_gC rfl rfl rfl rfl) rfl ?_
  refine w_p (pc1 := 16) rfl rfl ?_
  refine w_m0 (pc1 := 17) rfl rfl (h_al rfl rfl (by decide) rfl) rfl ?_
  refine w_nl_n (a := 24) (b := 20) (by exact F.2.2.1 _ (by decide)) rfl rfl rfl ?_
  refine w_p (pc1 := 25) (st1 := .int 0 :: _) rfl rfl ?_
  refine w_p (pc1 := 26) (st1 := .int 0 :: _) rfl rfl ?_
  refine w_p (pc1 := 27) (al1 := [(1, .int 0), (2, .int 7), (0, .ref 106)]) rfl rfl ?_
  refine w_p (pc1 := 30) (al1 := [(2, .int 8), (1, .int 0), (0, .ref 106)]) rfl rfl ?_
  refine w_p (pc1 := 4) rfl rfl ?_
  refine w_p (pc1 := 5) rfl rfl ?_
  refine w_p (pc1 := 7) (st1 := .int 24 :: _) rfl rfl ?_
  refine w_f (a := 33) (b := 10) rfl rfl rfl ?_
  refine w_p (pc1 := 11) rfl rfl ?_
  refine w_p (pc1 := 12) rfl rfl ?_
  refine w_m0 (pc1 := 15) rfl rfl (h_gC rfl rfl rfl rfl) rfl ?_
  refine w_p (pc1 := 16) rfl rfl ?_
  refine w_m0 (pc1 := 17) rfl rfl (h_al rfl rfl (by decide) rfl) rfl ?_
  refine w_nl_n (a := 24) (b := 20) (by exact F.2.2.1 _ (by decide)) rfl rfl rfl ?_
  refine w_p (pc1 := 25) (st1 := .int 0 :: _) rfl rfl ?_
  refine w_p (pc1 := 26) (st1 := .int 0 :: _) rfl rfl ?_
  refine w_p (pc1 := 27) (al1 := [(1, .int 0), (2, .int 8), (0, .ref 106)]) rfl rfl ?_
  refine w_p (pc1 := 30) (al1 := [(2, .int 9), (1, .int 0), (0, .ref 106)]) rfl rfl ?_
  refine w_p (pc1 := 4) rfl rfl ?_
  refine w_p (pc1 := 5) rfl rfl ?_
  refine w_p (pc1 := 7) (st1 := .int 24 :: _) rfl rfl ?_
  refine w_f (a := 33) (b := 10) rfl rfl rfl ?_
  refine w_p (pc1 := 11) rfl rfl ?_
  refine w_p (pc1 := 12) rfl rfl ?_
  refine w_m0 (pc1 := 15) rfl rfl (h_gC rfl rfl rfl rfl) rfl ?_
  refine w_p (pc1 := 16) rfl rfl ?_
  refine w_m0 (pc1 := 17) rfl rfl (h_al rfl rfl (by decide) rfl) rfl ?_
  refine w_nl_n (a := 24) (b := 20) (by exact F.2.2.1 _ (by decide)) rfl rfl rfl ?_
  refine w_p (pc1 := 25) (st1 := .int 0 :: _) rfl rfl ?_
  refine w_p (pc1 := 26) (st1 := .int 0 :: _) rfl rfl ?_
  refine w_p (pc1 := 27) (al1 := [(1, .int 0), (2, .int 9), (0, .ref 106)]) rfl rfl ?_
  refine w_p (pc1 := 30) (al1 := [(2, .int 10), (1, .int 0), (0, .ref 106)]) rfl rfl ?_
  refine w_p (pc1 := 4) rfl rfl ?_
  refine w_p (pc1 := 5) rfl rfl ?_
  refine w_p (pc1 := 7) (st1 := .int 24 :: _) rfl rfl ?_
  refine w_f (a := 33) (b := 10) rfl rfl rfl ?_
  refine w_p (pc1 := 11) rfl rfl ?_
  refine w_p (pc1 := 12) rfl rfl ?_
  refine w_m0 (pc1 := 15) rfl rfl (h_gC rfl rfl rfl rfl) rfl ?_
  refine w_p (pc1 := 16) rfl rfl ?_
  refine w_m0 (pc1 := 17) rfl rfl (h_al rfl rfl (by decide) rfl) rfl ?_
  refine w_nl_n (a := 24) (b := 20) (by exact F.2.2.1 _ (by decide)) rfl rfl rfl ?_
  refine w_p (pc1 := 25) (st1 := .int 0 :: _) rfl rfl ?_
  refine w_p (pc1 := 26) (st1 := .int 0 :: _) rfl rfl ?_
  refine w_p (pc1 := 27) (al1 := [(1, .int 0), (2, .int 10), (0, .ref 106)]) rfl rfl ?_
  refine w_p (pc1 := 30) (al1 := [(2, .int 11), (1, .int 0), (0, .ref 106)]) rfl rfl ?_
  refine w_p (pc1 := 4) rfl rfl ?_
  refine w_p (pc1 := 5) rfl rfl ?_
  refine w_p (pc1 := 7) (st1 := .int 24 :: _) rfl rfl ?_
  refine w_f (a := 33) (b := 10) rfl rfl rfl ?_
  refine w_p (pc1 := 11) rfl rfl ?_
  refine w_p (pc1 := 12) rfl rfl ?_
  refine w_m0 (pc1 := 15) rfl rfl (h_gC rfl rfl rfl rfl) rfl ?_
  refine w_p (pc1 := 16) rfl rfl ?_
  refine w_m0 (pc1 := 17) rfl rfl (h_al rfl rfl (by decide) rfl) rfl ?_
  refine w_nl_n (a := 24) (b := 20) (by exact F.2.2.1 _ (by decide)) rfl rfl rfl ?_
  refine w_p (pc1 := 25) (st1 := .int 0 :: _) rfl rfl ?_
  refine w_p (pc1 := 26) (st1 := .int 0 :: _) rfl rfl ?_
  refine w_p (pc1 := 27) (al1 := [(1, .int 0), (2, .int 11), (0, .ref 106)]) rfl rfl ?_
  refine w_p (pc1 := 30) (al1 := [(2, .int 12), (1, .int 0), (0, .ref 106)]) rfl rfl ?_
  refine w_p (pc1 := 4) rfl rfl ?_
  refine w_p (pc1 := 5) rfl rfl ?_
  refine w_p (pc1 := 7) (st1 := .int 24 :: _) rfl rfl ?_
  refine w_f (a := 33) (b := 10) rfl rfl rfl ?_
  refine w_p (pc1 := 11) rfl rfl ?_
  refine w_p (pc1 := 12) rfl rfl ?_
  refine w_m0 (pc1 := 15) rfl rfl (h_gC rfl rfl rfl rfl) rfl ?_
  refine w_p (pc1 := 16) rfl rfl ?_
  refine w_m0 (pc1 := 17) rfl rfl (h_al rfl rfl (by decide) rfl) rfl ?_
  refine w_nl_n (a := 24) (b := 20) (by exact F.2.2.1 _ (by decide)) rfl rfl rfl ?_
  refine w_p (pc1 := 25) (st1 := .int 0 :: _) rfl rfl ?_
  refine w_p (pc1 := 26) (st1 := .int 0 :: _) rfl rfl ?_
  refine w_p (pc1 := 27) (al1 := [(1, .int 0), (2, .int 12), (0, .ref 106)]) rfl rfl ?_
  refine w_p (pc1 := 30) (al1 := [(2, .int 13), (1, .int 0), (0, .ref 106)]) rfl rfl ?_
  refine w_p (pc1 := 4) rfl rfl ?_
  refine w_p (pc1 := 5) rfl rfl ?_
  refine w_p (pc1 := 7) (st1 := .int 24 :: _) rfl rfl ?_
  refine w_f (a := 33) (b := 10) rfl rfl rfl ?_
  refine w_p (pc1 := 11) rfl rfl ?_
  refine w_p (pc1 := 12) rfl rfl ?_
  refine w_m0 (pc1 := 15) rfl rfl (h_gC rfl rfl rfl rfl) rfl ?_
  refine w_p (pc1 := 16) rfl rfl ?_
  refine w_m0 (pc1 := 17) rfl rfl (h_al rfl rfl (by decide) rfl) rfl ?_
  refine w_nl_n (a := 24) (b := 20) (by exact F.2.2.1 _ (by decide)) rfl rfl rfl ?_
  refine w_p (pc1 := 25) (st1 := .int 0 :: _) rfl rfl ?_
  refine w_p (pc1 := 26) (st1 := .int 0 :: _) rfl rfl ?_
  refine w_p (pc1 := 27) (al1 := [(1, .int 0), (2, .int 13), (0, .ref 106)]) rfl rfl ?_
  refine w_p (pc1 := 30) (al1 := [(2, .int 14), (1, .int 0), (0, .ref 106)]) rfl rfl ?_
  refine w_p (pc1 := 4) rfl rfl ?_
  refine w_p (pc1 := 5) rfl rfl ?_
  refine w_p (pc1 := 7) (st1 := .int 24 :: _) rfl rfl ?_
  refine w_f (a := 33) (b := 10) rfl rfl rfl ?_
  refine w_p (pc1 := 11) rfl rfl ?_
  refine w_p (pc1 := 12) rfl rfl ?_
  refine w_m0 (pc1 := 15) rfl rfl (h_gC rfl rfl rfl rfl) rfl ?_
  refine w_p (pc1 := 16) rfl rfl ?_
  refine w_m0 (pc1 := 17) rfl rfl (h_al rfl rfl (by decide) rfl) rfl ?_
  refine w_nl_n (a := 24) (b := 20) (by exact F.2.2.1 _ (by decide)) rfl rfl rfl ?_
  refine w_p (pc1 := 25) (st1 := .int 0 :: _) rfl rfl ?_
  refine w_p (pc1 := 26) (st1 := .int 0 :: _) rfl rfl ?_
  refine w_p (pc1 := 27) (al1 := [(1, .int 0), (2, .int 14), (0, .ref 106)]) rfl rfl ?_
  refine w_p (pc1 := 30) (al1 := [(2, .int 15), (1, .int 0), (0, .ref 106)]) rfl rfl ?_
  refine w_p (pc1 := 4) rfl rfl ?_
  refine w_p (pc1 := 5) rfl rfl ?_
  refine w_p (pc1 := 7) (st1 := .int 24 :: _) rfl rfl ?_
  refine w_f (a := 33) (b := 10) rfl rfl rfl ?_
  refine w_p (pc1 := 11) rfl rfl ?_
  refine w_p (pc1 := 12) rfl rfl ?_
  refine w_m0 (pc1 := 15) rfl rfl (h_gC rfl rfl rfl rfl) rfl ?_
  refine w_p (pc1 := 16) rfl rfl ?_
  refine w_m0 (pc1 := 17) rfl rfl (h_al rfl rfl (by decide) rfl) rfl ?_
  refine w_nl_n (a := 24) (b := 20) (by exact F.2.2.1 _ (by decide)) rfl rfl rfl ?_
  refine w_p (pc1 := 25) (st1 := .int 0 :: _) rfl rfl ?_
  refine w_p (pc1 := 26) (st1 := .int 0 :: _) rfl rfl ?_
  refine w_p (pc1 := 27) (al1 := [(1, .int 0), (2, .int 15), (0, .ref 106)]) rfl rfl ?_
  refine w_p (pc1 := 30) (al1 := [(2, .int 16), (1, .int 0), (0, .ref 106)]) rfl rfl ?_
  refine w_p (pc1 := 4) rfl rfl ?_
  refine w_p (pc1 := 5) rfl rfl ?_
  refine w_p (pc1 := 7) (st1 := .int 24 :: _) rfl rfl ?_
  refine w_f (a := 33) (b := 10) rfl rfl rfl ?_
  refine w_p (pc1 := 11) rfl rfl ?_
  refine w_p (pc1 := 12) rfl rfl ?_
  refine w_m0 (pc1 := 15) rfl rfl (h_gC rfl rfl rfl rfl) rfl ?_
  refine w_p (pc1 := 16) rfl rfl ?_
  refine w_m0 (pc1 := 17) rfl rfl (h_al rfl rfl (by decide) rfl) rfl ?_
  refine w_nl_n (a := 24) (b := 20) (by exact F.2.2.1 _ (by decide)) rfl rfl rfl ?_
  refine w_p (pc1 := 25) (st1 := .int 0 :: _) rfl rfl ?_
  refine w_p (pc1 := 26) (st1 := .int 0 :: _) rfl rfl ?_
  refine w_p (pc1 := 27) (al1 := [(1, .int 0), (2, .int 16), (0, .ref 106)]) rfl rfl ?_
  refine w_p (pc1 := 30) (al1 := [(2, .int 17), (1, .int 0), (0, .ref 106)]) rfl rfl ?_
  refine w_p (pc1 := 4) rfl rfl ?_
  refine w_p (pc1 := 5) rfl rfl ?_
  refine w_p (pc1 := 7) (st1 := .int 24 :: _) rfl rfl ?_
  refine w_f (a := 33) (b := 10) rfl rfl rfl ?_
  refine w_p (pc1 := 11) rfl rfl ?_
  refine w_p (pc1 := 12) rfl rfl ?_
  refine w_m0 (pc1 := 15) rfl rfl (h_gC rfl rfl rfl rfl) rfl ?_
  refine w_p (pc1 := 16) rfl rfl ?_
  refine w_m0 (pc1 := 17) rfl rfl (h_al rfl rfl (by decide) rfl) rfl ?_
  refine w_nl_n (a := 24) (b := 20) (by exact F.2.2.1 _ (by decide)) rfl rfl rfl ?_
  refine w_p (pc1 := 25) (st1 := .int 0 :: _) rfl rfl ?_
  refine w_p (pc1 := 26) (st1 := .int 0 :: _) rfl rfl ?_
  refine w_p (pc1 := 27) (al1 := [(1, .int 0), (2, .int 17), (0, .ref 106)]) rfl rfl ?_
  refine w_p (pc1 := 30) (al1 := [(2, .int 18), (1, .int 0), (0, .ref 106)]) rfl rfl ?_
  refine w_p (pc1 := 4) rfl rfl ?_
  refine w_p (pc1 := 5) rfl rfl ?_
  refine w_p (pc1 := 7) (st1 := .int 24 :: _) rfl rfl ?_
  refine w_f (a := 33) (b := 10) rfl rfl rfl ?_
  refine w_p (pc1 := 11) rfl rfl ?_
  refine w_p (pc1 := 12) rfl rfl ?_
  refine w_m0 (pc1 := 15) rfl rfl (h_gC rfl rfl rfl rfl) rfl ?_
  refine w_p (pc1 := 16) rfl rfl ?_
  refine w_m0 (pc1 := 17) rfl rfl (h_al rfl rfl (by decide) rfl) rfl ?_
  refine w_nl_n (a := 24) (b := 20) (by exact F.2.2.1 _ (by decide)) rfl rfl rfl ?_
  refine w_p (pc1 := 25) (st1 := .int 0 :: _) rfl rfl ?_
  refine w_p (pc1 := 26) (st1 := .int 0 :: _) rfl rfl ?_
  refine w_p (pc1 := 27) (al1 := [(1, .int 0), (2, .int 18), (0, .ref 106)]) rfl rfl ?_
  refine w_p (pc1 := 30) (al1 := [(2, .int 19), (1, .int 0), (0, .ref 106)]) rfl rfl ?_
  refine w_p (pc1 := 4) rfl rfl ?_
  refine w_p (pc1 := 5) rfl rfl ?_
  refine w_p (pc1 := 7) (st1 := .int 24 :: _) rfl rfl ?_
  refine w_f (a := 33) (b := 10) rfl rfl rfl ?_
  refine w_p (pc1 := 11) rfl rfl ?_
  refine w_p (pc1 := 12) rfl rfl ?_
  refine w_m0 (pc1 := 15) rfl rfl (h_gC rfl rfl rfl rfl) rfl ?_
  refine w_p (pc1 := 16) rfl rfl ?_
  refine w_m0 (pc1 := 17) rfl rfl (h_al rfl rfl (by decide) rfl) rfl ?_
  refine w_nl_n (a := 24) (b := 20) (by exact F.2.2.1 _ (by decide)) rfl rfl rfl ?_
  refine w_p (pc1 := 25) (st1 := .int 0 :: _) rfl rfl ?_
  refine w_p (pc1 := 26) (st1 := .int 0 :: _) rfl rfl ?_
  refine w_p (pc1 := 27) (al1 := [(1, .int 0), (2, .int 19), (0, .ref 106)]) rfl rfl ?_
  refine w_p (pc1 := 30) (al1 := [(2, .int 20), (1, .int 0), (0, .ref 106)]) rfl rfl ?_
  refine w_p (pc1 := 4) rfl rfl ?_
  refine w_p (pc1 := 5) rfl rfl ?_
  refine w_p (pc1 := 7) (st1 := .int 24 :: _) rfl rfl ?_
  refine w_f (a := 33) (b := 10) rfl rfl rfl ?_
  refine w_p (pc1 := 11) rfl rfl ?_
  refine w_p (pc1 := 12) rfl rfl ?_
  refine w_m0 (pc1 := 15) rfl rfl (h_gC rfl rfl rfl rfl) rfl ?_
  refine w_p (pc1 := 16) rfl rfl ?_
  refine w_m0 (pc1 := 17) rfl rfl (h_al rfl rfl (by decide) rfl) rfl ?_
  refine w_nl_n (a := 24) (b := 20) (by exact F.2.2.1 _ (by decide)) rfl rfl rfl ?_
  refine w_p (pc1 := 25) (st1 := .int 0 :: _) rfl rfl ?_
  refine w_p (pc1 := 26) (st1 := .int 0 :: _) rfl rfl ?_
  refine w_p (pc1 := 27) (al1 := [(1, .int 0), (2, .int 20), (0, .ref 106)]) rfl rfl ?_
  refine w_p (pc1 := 30) (al1 := [(2, .int 21), (1, .int 0), (0, .ref 106)]) rfl rfl ?_
  refine w_p (pc1 := 4) rfl rfl ?_
  refine w_p (pc1 := 5) rfl rfl ?_
  refine w_p (pc1 := 7) (st1 := .int 24 :: _) rfl rfl ?_
  refine w_f (a := 33) (b := 10) rfl rfl rfl ?_
  refine w_p (pc1 := 11) rfl rfl ?_
  refine w_p (pc1 := 12) rfl rfl ?_
  refine w_m0 (pc1 := 15) rfl rfl (h_gC rfl rfl rfl rfl) rfl ?_
  refine w_p (pc1 := 16) rfl rfl ?_
  refine w_m0 (pc1 := 17) rfl rfl (h_al rfl rfl (by decide) rfl) rfl ?_
  refine w_nl_n (a := 24) (b := 20) (by exact F.2.2.1 _ (by decide)) rfl rfl rfl ?_
  refine w_p (pc1 := 25) (st1 := .int 0 :: _) rfl rfl ?_
  refine w_p (pc1 := 26) (st1 := .int 0 :: _) rfl rfl ?_
  refine w_p (pc1 := 27) (al1 := [(1, .int 0), (2, .int 21), (0, .ref 106)]) rfl rfl ?_
  refine w_p (pc1 := 30) (al1 := [(2, .int 22), (1, .int 0), (0, .ref 106)]) rfl rfl ?_
  refine w_p (pc1 := 4) rfl rfl ?_
  refine w_p (pc1 := 5) rfl rfl ?_
  refine w_p (pc1 := 7) (st1 := .int 24 :: _) rfl rfl ?_
  refine w_f (a := 33) (b := 10) rfl rfl rfl ?_
  refine w_p (pc1 := 11) rfl rfl ?_
  refine w_p (pc1 := 12) rfl rfl ?_
  refine w_m0 (pc1 := 15) rfl rfl (h_gC rfl rfl rfl rfl) rfl ?_
  refine w_p (pc1 := 16) rfl rfl ?_
  refine w_m0 (pc1 := 17) rfl rfl (h_al rfl rfl (by decide) rfl) rfl ?_
  refine w_nl_n (a := 24) (b := 20) (by exact F.2.2.1 _ (by decide)) rfl rfl rfl ?_
  refine w_p (pc1 := 25) (st1 := .int 0 :: _) rfl rfl ?_
  refine w_p (pc1 := 26) (st1 := .int 0 :: _) rfl rfl ?_
  refine w_p (pc1 := 27) (al1 := [(1, .int 0), (2, .int 22), (0, .ref 106)]) rfl rfl ?_
  refine w_p (pc1 := 30) (al1 := [(2, .int 23), (1, .int 0), (0, .ref 106)]) rfl rfl ?_
  refine w_p (pc1 := 4) rfl rfl ?_
  refine w_p (pc1 := 5) rfl rfl ?_
  refine w_p (pc1 := 7) (st1 := .int 24 :: _) rfl rfl ?_
  refine w_f (a := 33) (b := 10) rfl rfl rfl ?_
  refine w_p (pc1 := 11) rfl rfl ?_
  refine w_p (pc1 := 12) rfl rfl ?_
  refine w_m0 (pc1 := 15) rfl rfl (h_gC rfl rfl rfl rfl) rfl ?_
  refine w_p (pc1 := 16) rfl rfl ?_
  refine w_m0 (pc1 := 17) rfl rfl (h_al rfl rfl (by decide) rfl) rfl ?_
  refine w_nl_n (a := 24) (b := 20) (by exact F.2.2.1 _ (by decide)) rfl rfl rfl ?_
  refine w_p (pc1 := 25) (st1 := .int 0 :: _) rfl rfl ?_
  refine w_p (pc1 := 26) (st1 := .int 0 :: _) rfl rfl ?_
  refine w_p (pc1 := 27) (al1 := [(1, .int 0), (2, .int 23), (0, .ref 106)]) rfl rfl ?_
  refine w_p (pc1 := 30) (al1 := [(2, .int 24), (1, .int 0), (0, .ref 106)]) rfl rfl ?_
  refine w_p (pc1 := 4) rfl rfl ?_
  refine w_p (pc1 := 5) rfl rfl ?_
  refine w_p (pc1 := 7) (st1 := .int 24 :: _) rfl rfl ?_
  refine w_t (a := 33) (b := 10) rfl rfl rfl ?_
  refine w_p (pc1 := 34) rfl rfl ?_
  refine w_r rfl rfl rfl (fun _ _ => rfl) cr_int ?_
  exact ⟨rfl, rfl, rfl⟩
set_option maxRecDepth 100000 in
theorem m_171z (F : frK C) : Wd L xs d y_171 (0, [(0, .ref 106)], [], MH C t, sl) (Rt (some (.int 0)) (MH C t) sl) nX := by
  refine w_p (pc1 := 1) (st1 := .int 0 :: _) rfl rfl ?_
  refine w_p (pc1 := 2) (al1 := [(1, .int 0), (0, .ref 106)]) rfl rfl ?_
  refine w_p (pc1 := 3) (st1 := .int 0 :: _) rfl rfl ?_
  refine w_p (pc1 := 4) (al1 := [(2, .int 0), (1, .int 0), (0, .ref 106)]) rfl rfl ?_
  refine w_p (pc1 := 5) rfl rfl ?_
  refine w_p (pc1 := 7) (st1 := .int 8 :: _) rfl rfl ?_
  refine w_f (a := 33) (b := 10) rfl rfl rfl ?_
  refine w_p (pc1 := 11) rfl rfl ?_
  refine w_p (pc1 := 12) rfl rfl ?_
  refine w_m0 (pc1 := 15) rfl rfl (h_gC rfl rfl rfl rfl) rfl ?_
  refine w_p (pc1 := 16) rfl rfl ?_
  refine w_m0 (pc1 := 17) rfl rfl (h_al rfl rfl (by decide) rfl) rfl ?_
  refine w_nl_n (a := 24) (b := 20) (by exact F.2.2.2.1 _ (by decide)) rfl rfl rfl ?_
  refine w_p (pc1 := 25) (st1 := .int 0 :: _) rfl rfl ?_
  refine w_p (pc1 := 26) (st1 := .int 0 :: _) rfl rfl ?_
  refine w_p (pc1 := 27) (al1 := [(1, .int 0), (2, .int 0), (0, .ref 106)]) rfl rfl ?_
  refine w_p (pc1 := 30) (al1 := [(2, .int 1), (1, .int 0), (0, .ref 106)]) rfl rfl ?_
  refine w_p (pc1 := 4) rfl rfl ?_
  refine w_p (pc1 := 5) rfl rfl ?_
  refine w_p (pc1 := 7) (st1 := .int 8 :: _) rfl rfl ?_
  refine w_f (a := 33) (b := 10) rfl rfl rfl ?_
  refine w_p (pc1 := 11) rfl rfl ?_
  refine w_p (pc1 := 12) rfl rfl ?_
  refine w_m0 (pc1 := 15) rfl rfl (h_gC rfl rfl rfl rfl) rfl ?_
  refine w_p (pc1 := 16) rfl rfl ?_
  refine w_m0 (pc1 := 17) rfl rfl (h_al rfl rfl (by decide) rfl) rfl ?_
  refine w_nl_n (a := 24) (b := 20) (by exact F.2.2.2.1 _ (by decide)) rfl rfl rfl ?_
  refine w_p (pc1 := 25) (st1 := .int 0 :: _) rfl rfl ?_
  refine w_p (pc1 := 26) (st1 := .int 0 :: _) rfl rfl ?_
  refine w_p (pc1 := 27) (al1 := [(1, .int 0), (2, .int 1), (0, .ref 106)]) rfl rfl ?_
  refine w_p (pc1 := 30) (al1 := [(2, .int 2), (1, .int 0), (0, .ref 106)]) rfl rfl ?_
  refine w_p (pc1 := 4) rfl rfl ?_
  refine w_p (pc1 := 5) rfl rfl ?_
  refine w_p (pc1 := 7) (st1 := .int 8 :: _) rfl rfl ?_
  refine w_f (a := 33) (b := 10) rfl rfl rfl ?_
  refine w_p (pc1 := 11) rfl rfl ?_
  refine w_p (pc1 := 12) rfl rfl ?_
  refine w_m0 (pc1 := 15) rfl rfl (h_gC rfl rfl rfl rfl) rfl ?_
  refine w_p (pc1 := 16) rfl rfl ?_
  refine w_m0 (pc1 := 17) rfl rfl (h_al rfl rfl (by decide) rfl) rfl ?_
  refine w_nl_n (a := 24) (b := 20) (by exact F.2.2.2.1 _ (by decide)) rfl rfl rfl ?_
  refine w_p (pc1 := 25) (st1 := .int 0 :: _) rfl rfl ?_
  refine w_p (pc1 := 26) (st1 := .int 0 :: _) rfl rfl ?_
  refine w_p (pc1 := 27) (al1 := [(1, .int 0), (2, .int 2), (0, .ref 106)]) rfl rfl ?_
  refine w_p (pc1 := 30) (al1 := [(2, .int 3), (1, .int 0), (0, .ref 106)]) rfl rfl ?_
  refine w_p (pc1 := 4) rfl rfl ?_
  refine w_p (pc1 := 5) rfl rfl ?_
  refine w_p (pc1 := 7) (st1 := .int 8 :: _) rfl rfl ?_
  refine w_f (a := 33) (b := 10) rfl rfl rfl ?_
  refine w_p (pc1 := 11) rfl rfl ?_
  refine w_p (pc1 := 12) rfl rfl ?_
  refine w_m0 (pc1 := 15) rfl rfl (h_gC rfl rfl rfl rfl) rfl ?_
  refine w_p (pc1 := 16) rfl rfl ?_
  refine w_m0 (pc1 := 17) rfl rfl (h_al rfl rfl (by decide) rfl) rfl ?_
  refine w_nl_n (a := 24) (b := 20) (by exact F.2.2.2.1 _ (by decide)) rfl rfl rfl ?_
  refine w_p (pc1 := 25) (st1 := .int 0 :: _) rfl rfl ?_
  refine w_p (pc1 := 26) (st1 := .int 0 :: _) rfl rfl ?_
  refine w_p (pc1 := 27) (al1 := [(1, .int 0), (2, .int 3), (0, .ref 106)]) rfl rfl ?_
  refine w_p (pc1 := 30) (al1 := [(2, .int 4), (1, .int 0), (0, .ref 106)]) rfl rfl ?_
  refine w_p (pc1 := 4) rfl rfl ?_
  refine w_p (pc1 := 5) rfl rfl ?_
  refine w_p (pc1 := 7) (st1 := .int 8 :: _) rfl rfl ?_
  refine w_f (a := 33) (b := 10) rfl rfl rfl ?_
  refine w_p (pc1 := 11) rfl rfl ?_
  refine w_p (pc1 := 12) rfl rfl ?_
  refine w_m0 (pc1 := 15) rfl rfl (h_gC rfl rfl rfl rfl) rfl ?_
  refine w_p (pc1 := 16) rfl rfl ?_
  refine w_m0 (pc1 := 17) rfl rfl (h_al rfl rfl (by decide) rfl) rfl ?_
  refine w_nl_n (a := 24) (b := 20) (by exact F.2.2.2.1 _ (by decide)) rfl rfl rfl ?_
  refine w_p (pc1 := 25) (st1 := .int 0 :: _) rfl rfl ?_
  refine w_p (pc1 := 26) (st1 := .int 0 :: _) rfl rfl ?_
  refine w_p (pc1 := 27) (al1 := [(1, .int 0), (2, .int 4), (0, .ref 106)]) rfl rfl ?_
  refine w_p (pc1 := 30) (al1 := [(2, .int 5), (1, .int 0), (0, .ref 106)]) rfl rfl ?_
  refine w_p (pc1 := 4) rfl rfl ?_
  refine w_p (pc1 := 5) rfl rfl ?_
  refine w_p (pc1 := 7) (st1 := .int 8 :: _) rfl rfl ?_
  refine w_f (a := 33) (b := 10) rfl rfl rfl ?_
  refine w_p (pc1 := 11) rfl rfl ?_
  refine w_p (pc1 := 12) rfl rfl ?_
  refine w_m0 (pc1 := 15) rfl rfl (h_gC rfl rfl rfl rfl) rfl ?_
  refine w_p (pc1 := 16) rfl rfl ?_
  refine w_m0 (pc1 := 17) rfl rfl (h_al rfl rfl (by decide) rfl) rfl ?_
  refine w_nl_n (a := 24) (b := 20) (by exact F.2.2.2.1 _ (by decide)) rfl rfl rfl ?_
  refine w_p (pc1 := 25) (st1 := .int 0 :: _) rfl rfl ?_
  refine w_p (pc1 := 26) (st1 := .int 0 :: _) rfl rfl ?_
  refine w_p (pc1 := 27) (al1 := [(1, .int 0), (2, .int 5), (0, .ref 106)]) rfl rfl ?_
  refine w_p (pc1 := 30) (al1 := [(2, .int 6), (1, .int 0), (0, .ref 106)]) rfl rfl ?_
  refine w_p (pc1 := 4) rfl rfl ?_
  refine w_p (pc1 := 5) rfl rfl ?_
  refine w_p (pc1 := 7) (st1 := .int 8 :: _) rfl rfl ?_
  refine w_f (a := 33) (b := 10) rfl rfl rfl ?_
  refine w_p (pc1 := 11) rfl rfl ?_
  refine w_p (pc1 := 12) rfl rfl ?_
  refine w_m0 (pc1 := 15) rfl rfl (h_gC rfl rfl rfl rfl) rfl ?_
  refine w_p (pc1 := 16) rfl rfl ?_
  refine w_m0 (pc1 := 17) rfl rfl (h_al rfl rfl (by decide) rfl) rfl ?_
  refine w_nl_n (a := 24) (b := 20) (by exact F.2.2.2.1 _ (by decide)) rfl rfl rfl ?_
  refine w_p (pc1 := 25) (st1 := .int 0 :: _) rfl rfl ?_
  refine w_p (pc1 := 26) (st1 := .int 0 :: _) rfl rfl ?_
  refine w_p (pc1 := 27) (al1 := [(1, .int 0), (2, .int 6), (0, .ref 106)]) rfl rfl ?_
  refine w_p (pc1 := 30) (al1 := [(2, .int 7), (1, .int 0), (0, .ref 106)]) rfl rfl ?_
  refine w_p (pc1 := 4) rfl rfl ?_
  refine w_p (pc1 := 5) rfl rfl ?_
  refine w_p (pc1 := 7) (st1 := .int 8 :: _) rfl rfl ?_
  refine w_f (a := 33) (b := 10) rfl rfl rfl ?_
  refine w_p (pc1 := 11) rfl rfl ?_
  refine w_p (pc1 := 12) rfl rfl ?_
  refine w_m0 (pc1 := 15) rfl rfl (h_gC rfl rfl rfl rfl) rfl ?_
  refine w_p (pc1 := 16) rfl rfl ?_
  refine w_m0 (pc1 := 17) rfl rfl (h_al rfl rfl (by decide) rfl) rfl ?_
  refine w_nl_n (a := 24) (b := 20) (by exact F.2.2.2.1 _ (by decide)) rfl rfl rfl ?_
  refine w_p (pc1 := 25) (st1 := .int 0 :: _) rfl rfl ?_
  refine w_p (pc1 := 26) (st1 := .int 0 :: _) rfl rfl ?_
  refine w_p (pc1 := 27) (al1 := [(1, .int 0), (2, .int 7), (0, .ref 106)]) rfl rfl ?_
  refine w_p (pc1 := 30) (al1 := [(2, .int 8), (1, .int 0), (0, .ref 106)]) rfl rfl ?_
  refine w_p (pc1 := 4) rfl rfl ?_
  refine w_p (pc1 := 5) rfl rfl ?_
  refine w_p (pc1 := 7) (st1 := .int 8 :: _) rfl rfl ?_
  refine w_t (a := 33) (b := 10) rfl rfl rfl ?_
  refine w_p (pc1 := 34) rfl rfl ?_
  refine w_r rfl rfl rfl (fun _ _ => rfl) cr_int ?_
  exact ⟨rfl, rfl, rfl⟩
set_option maxRecDepth 100000 in
theorem m_23z (F : frK C) : Wd L xs d y_23 (0, [(0, .ref 106)], [], MH C t, sl) (Rt (some (.int 0)) (MH C t) sl) nX := by
  refine w_p (pc1 := 1) (st1 := .int 0 :: _) rfl rfl ?_
  refine w_p (pc1 := 2) (al1 := [(1, .int 0), (0, .ref 106)]) rfl rfl ?_
  refine w_p (pc1 := 3) (st1 := .int 0 :: _) rfl rfl ?_
  refine w_p (pc1 := 4) (al1 := [(2, .int 0), (1, .int 0), (0, .ref 106)]) rfl rfl ?_
  refine w_p (pc1 := 5) rfl rfl ?_
  refine w_p (pc1 := 7) (st1 := .int 24 :: _) rfl rfl ?_
  refine w_f (a := 41) (b := 10) rfl rfl rfl ?_
  refine w_p (pc1 := 11) rfl rfl ?_
  refine w_p (pc1 := 12) rfl rfl ?_
  refine w_m0 (pc1 := 15) rfl rfl (h_gC rfl rfl rfl rfl) rfl ?_
  refine w_p (pc1 := 16) rfl rfl ?_
  refine w_m0 (pc1 := 17) rfl rfl (h_al rfl rfl (by decide) rfl) rfl ?_
  refine w_nl_n (a := 32) (b := 20) (by exact F.2.2.1 _ (by decide)) rfl rfl rfl ?_
  refine w_p (pc1 := 33) (st1 := .int 0 :: _) rfl rfl ?_
  refine w_p (pc1 := 34) (st1 := .int 0 :: _) rfl rfl ?_
  refine w_p (pc1 := 35) (al1 := [(1, .int 0), (2, .int 0), (0, .ref 106)]) rfl rfl ?_
  refine w_p (pc1 := 38) (al1 := [(2, .int 1), (1, .int 0), (0, .ref 106)]) rfl rfl ?_
  refine w_p (pc1 := 4) rfl rfl ?_
  refine w_p (pc1 := 5) rfl rfl ?_
  refine w_p (pc1 := 7) (st1 := .int 24 :: _) rfl rfl ?_
  refine w_f (a := 41) (b := 10) rfl rfl rfl ?_
  refine w_p (pc1 := 11) rfl rfl ?_
  refine w_p (pc1 := 12) rfl rfl ?_
  refine w_m0 (pc1 := 15) rfl rfl (h_gC rfl rfl rfl rfl) rfl ?_
  refine w_p (pc1 := 16) rfl rfl ?_
  refine w_m0 (pc1 := 17) rfl rfl (h_al rfl rfl (by decide) rfl) rfl ?_
  refine w_nl_n (a := 32) (b := 20) (by exact F.2.2.1 _ (by decide)) rfl rfl rfl ?_
  refine w_p (pc1 := 33) (st1 := .int 0 :: _) rfl rfl ?_
  refine w_p (pc1 := 34) (st1 := .int 0 :: _) rfl rfl ?_
  refine w_p (pc1 := 35) (al1 := [(1, .int 0), (2, .int 1), (0, .ref 106)]) rfl rfl ?_
  refine w_p (pc1 := 38) (al1 := [(2, .int 2), (1, .int 0), (0, .ref 106)]) rfl rfl ?_
  refine w_p (pc1 := 4) rfl rfl ?_
  refine w_p (pc1 := 5) rfl rfl ?_
  refine w_p (pc1 := 7) (st1 := .int 24 :: _) rfl rfl ?_
  refine w_f (a := 41) (b := 10) rfl rfl rfl ?_
  refine w_p (pc1 := 11) rfl rfl ?_
  refine w_p (pc1 := 12) rfl rfl ?_
  refine w_m0 (pc1 := 15) rfl rfl (h_gC rfl rfl rfl rfl) rfl ?_
  refine w_p (pc1 := 16) rfl rfl ?_
  refine w_m0 (pc1 := 17) rfl rfl (h_al rfl rfl (by decide) rfl) rfl ?_
  refine w_nl_n (a := 32) (b := 20) (by exact F.2.2.1 _ (by decide)) rfl rfl rfl ?_
  refine w_p (pc1 := 33) (st1 := .int 0 :: _) rfl rfl ?_
  refine w_p (pc1 := 34) (st1 := .int 0 :: _) rfl rfl ?_
  refine w_p (pc1 := 35) (al1 := [(1, .int 0), (2, .int 2), (0, .ref 106)]) rfl rfl ?_
  refine w_p (pc1 := 38) (al1 := [(2, .int 3), (1, .int 0), (0, .ref 106)]) rfl rfl ?_
  refine w_p (pc1 := 4) rfl rfl ?_
  refine w_p (pc1 := 5) rfl rfl ?_
  refine w_p (pc1 := 7) (st1 := .int 24 :: _) rfl rfl ?_
  refine w_f (a := 41) (b := 10) rfl rfl rfl ?_
  refine w_p (pc1 := 11) rfl rfl ?_
  refine w_p (pc1 := 12) rfl rfl ?_
  refine w_m0 (pc1 := 15) rfl rfl (h_gC rfl rfl rfl rfl) rfl ?_
  refine w_p (pc1 := 16) rfl rfl ?_
  refine w_m0 (pc1 := 17) rfl rfl (h_al rfl rfl (by decide) rfl) rfl ?_
  refine w_nl_n (a := 32) (b := 20) (by exact F.2.2.1 _ (by decide)) rfl rfl rfl ?_
  refine w_p (pc1 := 33) (st1 := .int 0 :: _) rfl rfl ?_
  refine w_p (pc1 := 34) (st1 := .int 0 :: _) rfl rfl ?_
  refine w_p (pc1 := 35) (al1 := [(1, .int 0), (2, .int 3), (0, .ref 106)]) rfl rfl ?_
  refine w_p (pc1 := 38) (al1 := [(2, .int 4), (1, .int 0), (0, .ref 106)]) rfl rfl ?_
  refine w_p (pc1 := 4) rfl rfl ?_
  refine w_p (pc1 := 5) rfl rfl ?_
  refine w_p (pc1 := 7) (st1 := .int 24 :: _) rfl rfl ?_
  refine w_f (a := 41) (b := 10) rfl rfl rfl ?_
  refine w_p (pc1 := 11) rfl rfl ?_
  refine w_p (pc1 := 12) rfl rfl ?_
  refine w_m0 (pc1 := 15) rfl rfl (h_gC rfl rfl rfl rfl) rfl ?_
  refine w_p (pc1 := 16) rfl rfl ?_
  refine w_m0 (pc1 := 17) rfl rfl (h_al rfl rfl (by decide) rfl) rfl ?_
  refine w_nl_n (a := 32) (b := 20) (by exact F.2.2.1 _ (by decide)) rfl rfl rfl ?_
  refine w_p (pc1 := 33) (st1 := .int 0 :: _) rfl rfl ?_
  refine w_p (pc1 := 34) (st1 := .int 0 :: _) rfl rfl ?_
  refine w_p (pc1 := 35) (al1 := [(1, .int 0), (2, .int 4), (0, .ref 106)]) rfl rfl ?_
  refine w_p (pc1 := 38) (al1 := [(2, .int 5), (1, .int 0), (0, .ref 106)]) rfl rfl ?_
  refine w_p (pc1 := 4) rfl rfl ?_
  refine w_p (pc1 := 5) rfl rfl ?_
  refine w_p (pc1 := 7) (st1 := .int 24 :: _) rfl rfl ?_
  refine w_f (a := 41) (b := 10) rfl rfl rfl ?_
  refine w_p (pc1 := 11) rfl rfl ?_
  refine w_p (pc1 := 12) rfl rfl ?_
  refine w_m0 (pc1 := 15) rfl rfl (h_gC rfl rfl rfl rfl) rfl ?_
  refine w_p (pc1 := 16) rfl rfl ?_
  refine w_m0 (pc1 := 17) rfl rfl (h_al rfl rfl (by decide) rfl) rfl ?_
  refine w_nl_n (a := 32) (b := 20) (by exact F.2.2.1 _ (by decide)) rfl rfl rfl ?_
  refine w_p (pc1 := 33) (st1 := .int 0 :: _) rfl rfl ?_
  refine w_p (pc1 := 34) (st1 := .int 0 :: _) rfl rfl ?_
  refine w_p (pc1 := 35) (al1 := [(1, .int 0), (2, .int 5), (0, .ref 106)]) rfl rfl ?_
  refine w_p (pc1 := 38) (al1 := [(2, .int 6), (1, .int 0), (0, .ref 106)]) rfl rfl ?_
  refine w_p (pc1 := 4) rfl rfl ?_
  refine w_p (pc1 := 5) rfl rfl ?_
  refine w_p (pc1 := 7) (st1 := .int 24 :: _) rfl rfl ?_
  refine w_f (a := 41) (b := 10) rfl rfl rfl ?_
  refine w_p (pc1 := 11) rfl rfl ?_
  refine w_p (pc1 := 12) rfl rfl ?_
  refine w_m0 (pc1 := 15) rfl rfl (h_gC rfl rfl rfl rfl) rfl ?_
  refine w_p (pc1 := 16) rfl rfl ?_
  refine w_m0 (pc1 := 17) rfl rfl (h_al rfl rfl (by decide) rfl) rfl ?_
  refine w_nl_n (a := 32) (b := 20) (by exact F.2.2.1 _ (by decide)) rfl rfl rfl ?_
  refine w_p (pc1 := 33) (st1 := .int 0 :: _) rfl rfl ?_
  refine w_p (pc1 := 34) (st1 := .int 0 :: _) rfl rfl ?_
  refine w_p (pc1 := 35) (al1 := [(1, .int 0), (2, .int 6), (0, .ref 106)]) rfl rfl ?_
  refine w_p (pc1 := 38) (al1 := [(2, .int 7), (1, .int 0), (0, .ref 106)]) rfl rfl ?_
  refine w_p (pc1 := 4) rfl rfl ?_
  refine w_p (pc1 := 5) rfl rfl ?_
  refine w_p (pc1 := 7) (st1 := .int 24 :: _) rfl rfl ?_
  refine w_f (a := 41) (b := 10) rfl rfl rfl ?_
  refine w_p (pc1 := 11) rfl rfl ?_
  refine w_p (pc1 := 12) rfl rfl ?_
  refine w_m0 (pc1 := 15) rfl rfl (h_gC rfl rfl rfl rfl) rfl ?_
  refine w_p (pc1 := 16) rfl rfl ?_
  refine w_m0 (pc1 := 17) rfl rfl (h_al rfl rfl (by decide) rfl) rfl ?_
  refine w_nl_n (a := 32) (b := 20) (by exact F.2.2.1 _ (by decide)) rfl rfl rfl ?_
  refine w_p (pc1 := 33) (st1 := .int 0 :: _) rfl rfl ?_
  refine w_p (pc1 := 34) (st1 := .int 0 :: _) rfl rfl ?_
  refine w_p (pc1 := 35) (al1 := [(1, .int 0), (2, .int 7), (0, .ref 106)]) rfl rfl ?_
  refine w_p (pc1 := 38) (al1 := [(2, .int 8), (1, .int 0), (0, .ref 106)]) rfl rfl ?_
  refine w_p (pc1 := 4) rfl rfl ?_
  refine w_p (pc1 := 5) rfl rfl ?_
  refine w_p (pc1 := 7) (st1 := .int 24 :: _) rfl rfl ?_
  refine w_f (a := 41) (b := 10) rfl rfl rfl ?_
  refine w_p (pc1 := 11) rfl rfl ?_
  refine w_p (pc1 := 12) rfl rfl ?_
  refine w_m0 (pc1 := 15) rfl rfl (h_gC rfl rfl rfl rfl) rfl ?_
  refine w_p (pc1 := 16) rfl rfl ?_
  refine w_m0 (pc1 := 17) rfl rfl (h_al rfl rfl (by decide) rfl) rfl ?_
  refine w_nl_n (a := 32) (b := 20) (by exact F.2.2.1 _ (by decide)) rfl rfl rfl ?_
  refine w_p (pc1 := 33) (st1 := .int 0 :: _) rfl rfl ?_
  refine w_p (pc1 := 34) (st1 := .int 0 :: _) rfl rfl ?_
  refine w_p (pc1 := 35) (al1 := [(1, .int 0), (2, .int 8), (0, .ref 106)]) rfl rfl ?_
  refine w_p (pc1 := 38) (al1 := [(2, .int 9), (1, .int 0), (0, .ref 106)]) rfl rfl ?_
  refine w_p (pc1 := 4) rfl rfl ?_
  refine w_p (pc1 := 5) rfl rfl ?_
  refine w_p (pc1 := 7) (st1 := .int 24 :: _) rfl rfl ?_
  refine w_f (a := 41) (b := 10) rfl rfl rfl ?_
  refine w_p (pc1 := 11) rfl rfl ?_
  refine w_p (pc1 := 12) rfl rfl ?_
  refine w_m0 (pc1 := 15) rfl rfl (h_gC rfl rfl rfl rfl) rfl ?_
  refine w_p (pc1 := 16) rfl rfl ?_
  refine w_m0 (pc1 := 17) rfl rfl (h_al rfl rfl (by decide) rfl) rfl ?_
  refine w_nl_n (a := 32) (b := 20) (by exact F.2.2.1 _ (by decide)) rfl rfl rfl ?_
  refine w_p (pc1 := 33) (st1 := .int 0 :: _) rfl rfl ?_
  refine w_p (pc1 := 34) (st1 := .int 0 :: _) rfl rfl ?_
  refine w_p (pc1 := 35) (al1 := [(1, .int 0), (2, .int 9), (0, .ref 106)]) rfl rfl ?_
  refine w_p (pc1 := 38) (al1 := [(2, .int 10), (1, .int 0), (0, .ref 106)]) rfl rfl ?_
  refine w_p (pc1 := 4) rfl rfl ?_
  refine w_p (pc1 := 5) rfl rfl ?_
  refine w_p (pc1 := 7) (st1 := .int 24 :: _) rfl rfl ?_
  refine w_f (a := 41) (b := 10) rfl rfl rfl ?_
  refine w_p (pc1 := 11) rfl rfl ?_
  refine w_p (pc1 := 12) rfl rfl ?_
  refine w_m0 (pc1 := 15) rfl rfl (h_gC rfl rfl rfl rfl) rfl ?_
  refine w_p (pc1 := 16) rfl rfl ?_
  refine w_m0 (pc1 := 17) rfl rfl (h_al rfl rfl (by decide) rfl) rfl ?_
  refine w_nl_n (a := 32) (b := 20) (by exact F.2.2.1 _ (by decide)) rfl rfl rfl ?_
  refine w_p (pc1 := 33) (st1 := .int 0 :: _) rfl rfl ?_
  refine w_p (pc1 := 34) (st1 := .int 0 :: _) rfl rfl ?_
  refine w_p (pc1 := 35) (al1 := [(1, .int 0), (2, .int 10), (0, .ref 106)]) rfl rfl ?_
  refine w_p (pc1 := 38) (al1 := [(2, .int 11), (1, .int 0), (0, .ref 106)]) rfl rfl ?_
  refine w_p (pc1 := 4) rfl rfl ?_
  refine w_p (pc1 := 5) rfl rfl ?_
  refine w_p (pc1 := 7) (st1 := .int 24 :: _) rfl rfl ?_
  refine w_f (a := 41) (b := 10) rfl rfl rfl ?_
  refine w_p (pc1 := 11) rfl rfl ?_
  refine w_p (pc1 := 12) rfl rfl ?_
  refine w_m0 (pc1 := 15) rfl rfl (h_gC rfl rfl rfl rfl) rfl ?_
  refine w_p (pc1 := 16) rfl rfl ?_
  refine w_m0 (pc1 := 17) rfl rfl (h_al rfl rfl (by decide) rfl) rfl ?_
  refine w_nl_n (a := 32) (b := 20) (by exact F.2.2.1 _ (by decide)) rfl rfl rfl ?_
  refine w_p (pc1 := 33) (st1 := .int 0 :: _) rfl rfl ?_
  refine w_p (pc1 := 34) (st1 := .int 0 :: _) rfl rfl ?_
  refine w_p (pc1 := 35) (al1 := [(1, .int 0), (2, .int 11), (0, .ref 106)]) rfl rfl ?_
  refine w_p (pc1 := 38) (al1 := [(2, .int 12), (1, .int 0), (0, .ref 106)]) rfl rfl ?_
  refine w_p (pc1 := 4) rfl rfl ?_
  refine w_p (pc1 := 5) rfl rfl ?_
  refine w_p (pc1 := 7) (st1 := .int 24 :: _) rfl rfl ?_
  refine w_f (a := 41) (b := 10) rfl rfl rfl ?_
  refine w_p (pc1 := 11) rfl rfl ?_
  refine w_p (pc1 := 12) rfl rfl ?_
  refine w_m0 (pc1 := 15) rfl rfl (h_gC rfl rfl rfl rfl) rfl ?_
  refine w_p (pc1 := 16) rfl rfl ?_
  refine w_m0 (pc1 := 17) rfl rfl (h_al rfl rfl (by decide) rfl) rfl ?_
  refine w_nl_n (a := 32) (b := 20) (by exact F.2.2.1 _ (by decide)) rfl rfl rfl ?_
  refine w_p (pc1 := 33) (st1 := .int 0 :: _) rfl rfl ?_
  refine w_p (pc1 := 34) (st1 := .int 0 :: _) rfl rfl ?_
  refine w_p (pc1 := 35) (al1 := [(1, .int 0), (2, .int 12), (0, .ref 106)]) rfl rfl ?_
  refine w_p (pc1 := 38) (al1 := [(2, .int 13), (1, .int 0), (0, .ref 106)]) rfl rfl ?_
  refine w_p (pc1 := 4) rfl rfl ?_
  refine w_p (pc1 := 5) rfl rfl ?_
  refine w_p (pc1 := 7) (st1 := .int 24 :: _) rfl rfl ?_
  refine w_f (a := 41) (b := 10) rfl rfl rfl ?_
  refine w_p (pc1 := 11) rfl rfl ?_
  refine w_p (pc1 := 12) rfl rfl ?_
  refine w_m0 (pc1 := 15) rfl rfl (h_gC rfl rfl rfl rfl) rfl ?_
  refine w_p (pc1 := 16) rfl rfl ?_
  refine w_m0 (pc1 := 17) rfl rfl (h_al rfl rfl (by decide) rfl) rfl ?_
  refine w_nl_n (a := 32) (b := 20) (by exact F.2.2.1 _ (by decide)) rfl rfl rfl ?_
  refine w_p (pc1 := 33) (st1 := .int 0 :: _) rfl rfl ?_
  refine w_p (pc1 := 34) (st1 := .int 0 :: _) rfl rfl ?_
  refine w_p (pc1 := 35) (al1 := [(1, .int 0), (2, .int 13), (0, .ref 106)]) rfl rfl ?_
  refine w_p (pc1 := 38) (al1 := [(2, .int 14), (1, .int 0), (0, .ref 106)]) rfl rfl ?_
  refine w_p (pc1 := 4) rfl rfl ?_
  refine w_p (pc1 := 5) rfl rfl ?_
  refine w_p (pc1 := 7) (st1 := .int 24 :: _) rfl rfl ?_
  refine w_f (a := 41) (b := 10) rfl rfl rfl ?_
  refine w_p (pc1 := 11) rfl rfl ?_
  refine w_p (pc1 := 12) rfl rfl ?_
  refine w_m0 (pc1 := 15) rfl rfl (h_gC rfl rfl rfl rfl) rfl ?_
  refine w_p (pc1 := 16) rfl rfl ?_
  refine w_m0 (pc1 := 17) rfl rfl (h_al rfl rfl (by decide) rfl) rfl ?_
  refine w_nl_n (a := 32) (b := 20) (by exact F.2.2.1 _ (by decide)) rfl rfl rfl ?_
  refine w_p (pc1 := 33) (st1 := .int 0 :: _) rfl rfl ?_
  refine w_p (pc1 := 34) (st1 := .int 0 :: _) rfl rfl ?_
  refine w_p (pc1 := 35) (al1 := [(1, .int 0), (2, .int 14), (0, .ref 106)]) rfl rfl ?_
  refine w_p (pc1 := 38) (al1 := [(2, .int 15), (1, .int 0), (0, .ref 106)]) rfl rfl ?_
  refine w_p (pc1 := 4) rfl rfl ?_
  refine w_p (pc1 := 5) rfl rfl ?_
  refine w_p (pc1 := 7) (st1 := .int 24 :: _) rfl rfl ?_
  refine w_f (a := 41) (b := 10) rfl rfl rfl ?_
  refine w_p (pc1 := 11) rfl rfl ?_
  refine w_p (pc1 := 12) rfl rfl ?_
  refine w_m0 (pc1 := 15) rfl rfl (h_gC rfl rfl rfl rfl) rfl ?_
  refine w_p (pc1 := 16) rfl rfl ?_
  refine w_m0 (pc1 := 17) rfl rfl (h_al rfl rfl (by decide) rfl) rfl ?_
  refine w_nl_n (a := 32) (b := 20) (by exact F.2.2.1 _ (by decide)) rfl rfl rfl ?_
  refine w_p (pc1 := 33) (st1 := .int 0 :: _) rfl rfl ?_
  refine w_p (pc1 := 34) (st1 := .int 0 :: _) rfl rfl ?_
  refine w_p (pc1 := 35) (al1 := [(1, .int 0), (2, .int 15), (0, .ref 106)]) rfl rfl ?_
  refine w_p (pc1 := 38) (al1 := [(2, .int 16), (1, .int 0), (0, .ref 106)]) rfl rfl ?_
  refine w_p (pc1 := 4) rfl rfl ?_
  refine w_p (pc1 := 5) rfl rfl ?_
  refine w_p (pc1 := 7) (st1 := .int 24 :: _) rfl rfl ?_
  refine w_f (a := 41) (b := 10) rfl rfl rfl ?_
  refine w_p (pc1 := 11) rfl rfl ?_
  refine w_p (pc1 := 12) rfl rfl ?_
  refine w_m0 (pc1 := 15) rfl rfl (h_gC rfl rfl rfl rfl) rfl ?_
  refine w_p (pc1 := 16) rfl rfl ?_
  refine w_m0 (pc1 := 17) rfl rfl (h_al rfl rfl (by decide) rfl) rfl ?_
  refine w_nl_n (a := 32) (b := 20) (by exact F.2.2.1 _ (by decide)) rfl rfl rfl ?_
  refine w_p (pc1 := 33) (st1 := .int 0 :: _) rfl rfl ?_
  refine w_p (pc1 := 34) (st1 := .int 0 :: _) rfl rfl ?_
  refine w_p (pc1 := 35) (al1 := [(1, .int 0), (2, .int 16), (0, .ref 106)]) rfl rfl ?_
  refine w_p (pc1 := 38) (al1 := [(2, .int 17), (1, .int 0), (0, .ref 106)]) rfl rfl ?_
  refine w_p (pc1 := 4) rfl rfl ?_
  refine w_p (pc1 := 5) rfl rfl ?_
  refine w_p (pc1 := 7) (st1 := .int 24 :: _) rfl rfl ?_
  refine w_f (a := 41) (b := 10) rfl rfl rfl ?_
  refine w_p (pc1 := 11) rfl rfl ?_
  refine w_p (pc1 := 12) rfl rfl ?_
  refine w_m0 (pc1 := 15) rfl rfl (h_gC rfl rfl rfl rfl) rfl ?_
  refine w_p (pc1 := 16) rfl rfl ?_
  refine w_m0 (pc1 := 17) rfl rfl (h_al rfl rfl (by decide) rfl) rfl ?_
  refine w_nl_n (a := 32) (b := 20) (by exact F.2.2.1 _ (by decide)) rfl rfl rfl ?_
  refine w_p (pc1 := 33) (st1 := .int 0 :: _) rfl rfl ?_
  refine w_p (pc1 := 34) (st1 := .int 0 :: _) rfl rfl ?_
  refine w_p (pc1 := 35) (al1 := [(1, .int 0), (2, .int 17), (0, .ref 106)]) rfl rfl ?_
  refine w_p (pc1 := 38) (al1 := [(2, .int 18), (1, .int 0), (0, .ref 106)]) rfl rfl ?_
  refine w_p (pc1 := 4) rfl rfl ?_
  refine w_p (pc1 := 5) rfl rfl ?_
  refine w_p (pc1 := 7) (st1 := .int 24 :: _) rfl rfl ?_
  refine w_f (a := 41) (b := 10) rfl rfl rfl ?_
  refine w_p (pc1 := 11) rfl rfl ?_
  refine w_p (pc1 := 12) rfl rfl ?_
  refine w_m0 (pc1 := 15) rfl rfl (h_gC rfl rfl rfl rfl) rfl ?_
  refine w_p (pc1 := 16) rfl rfl ?_
  refine w_m0 (pc1 := 17) rfl rfl (h_al rfl rfl (by decide) rfl) rfl ?_
  refine w_nl_n (a := 32) (b := 20) (by exact F.2.2.1 _ (by decide)) rfl rfl rfl ?_
  refine w_p (pc1 := 33) (st1 := .int 0 :: _) rfl rfl ?_
  refine w_p (pc1 := 34) (st1 := .int 0 :: _) rfl rfl ?_
  refine w_p (pc1 := 35) (al1 := [(1, .int 0), (2, .int 18), (0, .ref 106)]) rfl rfl ?_
  refine w_p (pc1 := 38) (al1 := [(2, .int 19), (1, .int 0), (0, .ref 106)]) rfl rfl ?_
  refine w_p (pc1 := 4) rfl rfl ?_
  refine w_p (pc1 := 5) rfl rfl ?_
  refine w_p (pc1 := 7) (st1 := .int 24 :: _) rfl rfl ?_
  refine w_f (a := 41) (b := 10) rfl rfl rfl ?_
  refine w_p (pc1 := 11) rfl rfl ?_
  refine w_p (pc1 := 12) rfl rfl ?_
  refine w_m0 (pc1 := 15) rfl rfl (h_gC rfl rfl rfl rfl) rfl ?_
  refine w_p (pc1 := 16) rfl rfl ?_
  refine w_m0 (pc1 := 17) rfl rfl (h_al rfl rfl (by decide) rfl) rfl ?_
  refine w_nl_n (a := 32) (b := 20) (by exact F.2.2.1 _ (by decide)) rfl rfl rfl ?_
  refine w_p (pc1 := 33) (st1 := .int 0 :: _) rfl rfl ?_
  refine w_p (pc1 := 34) (st1 := .int 0 :: _) rfl rfl ?_
  refine w_p (pc1 := 35) (al1 := [(1, .int 0), (2, .int 19), (0, .ref 106)]) rfl rfl ?_
  refine w_p (pc1 := 38) (al1 := [(2, .int 20), (1, .int 0), (0, .ref 106)]) rfl rfl ?_
  refine w_p (pc1 := 4) rfl rfl ?_
  refine w_p (pc1 := 5) rfl rfl ?_
  refine w_p (pc1 := 7) (st1 := .int 24 :: _) rfl rfl ?_
  refine w_f (a := 41) (b := 10) rfl rfl rfl ?_
  refine w_p (pc1 := 11) rfl rfl ?_
  refine w_p (pc1 := 12) rfl rfl ?_
  refine w_m0 (pc1 := 15) rfl rfl (h_gC rfl rfl rfl rfl) rfl ?_
  refine w_p (pc1 := 16) rfl rfl ?_
  refine w_m0 (pc1 := 17) rfl rfl (h_al rfl rfl (by decide) rfl) rfl ?_
  refine w_nl_n (a := 32) (b := 20) (by exact F.2.2.1 _ (by decide)) rfl rfl rfl ?_
  refine w_p (pc1 := 33) (st1 := .int 0 :: _) rfl rfl ?_
  refine w_p (pc1 := 34) (st1 := .int 0 :: _) rfl rfl ?_
  refine w_p (pc1 := 35) (al1 := [(1, .int 0), (2, .int 20), (0, .ref 106)]) rfl rfl ?_
  refine w_p (pc1 := 38) (al1 := [(2, .int 21), (1, .int 0), (0, .ref 106)]) rfl rfl ?_
  refine w_p (pc1 := 4) rfl rfl ?_
  refine w_p (pc1 := 5) rfl rfl ?_
  refine w_p (pc1 := 7) (st1 := .int 24 :: _) rfl rfl ?_
  refine w_f (a := 41) (b := 10) rfl rfl rfl ?_
  refine w_p (pc1 := 11) rfl rfl ?_
  refine w_p (pc1 := 12) rfl rfl ?_
  refine w_m0 (pc1 := 15) rfl rfl (h_gC rfl rfl rfl rfl) rfl ?_
  refine w_p (pc1 := 16) rfl rfl ?_
  refine w_m0 (pc1 := 17) rfl rfl (h_al rfl rfl (by decide) rfl) rfl ?_
  refine w_nl_n (a := 32) (b := 20) (by exact F.2.2.1 _ (by decide)) rfl rfl rfl ?_
  refine w_p (pc1 := 33) (st1 := .int 0 :: _) rfl rfl ?_
  refine w_p (pc1 := 34) (st1 := .int 0 :: _) rfl rfl ?_
  refine w_p (pc1 := 35) (al1 := [(1, .int 0), (2, .int 21), (0, .ref 106)]) rfl rfl ?_
  refine w_p (pc1 := 38) (al1 := [(2, .int 22), (1, .int 0), (0, .ref 106)]) rfl rfl ?_
  refine w_p (pc1 := 4) rfl rfl ?_
  refine w_p (pc1 := 5) rfl rfl ?_
  refine w_p (pc1 := 7) (st1 := .int 24 :: _) rfl rfl ?_
  refine w_f (a := 41) (b := 10) rfl rfl rfl ?_
  refine w_p (pc1 := 11) rfl rfl ?_
  refine w_p (pc1 := 12) rfl rfl ?_
  refine w_m0 (pc1 := 15) rfl rfl (h_gC rfl rfl rfl rfl) rfl ?_
  refine w_p (pc1 := 16) rfl rfl ?_
  refine w_m0 (pc1 := 17) rfl rfl (h_al rfl rfl (by decide) rfl) rfl ?_
  refine w_nl_n (a := 32) (b := 20) (by exact F.2.2.1 _ (by decide)) rfl rfl rfl ?_
  refine w_p (pc1 := 33) (st1 := .int 0 :: _) rfl rfl ?_
  refine w_p (pc1 := 34) (st1 := .int 0 :: _) rfl rfl ?_
  refine w_p (pc1 := 35) (al1 := [(1, .int 0), (2, .int 22), (0, .ref 106)]) rfl rfl ?_
  refine w_p (pc1 := 38) (al1 := [(2, .int 23), (1, .int 0), (0, .ref 106)]) rfl rfl ?_
  refine w_p (pc1 := 4) rfl rfl ?_
  refine w_p (pc1 := 5) rfl rfl ?_
  refine w_p (pc1 := 7) (st1 := .int 24 :: _) rfl rfl ?_
  refine w_f (a := 41) (b := 10) rfl rfl rfl ?_
  refine w_p (pc1 := 11) rfl rfl ?_
  refine w_p (pc1 := 12) rfl rfl ?_
  refine w_m0 (pc1 := 15) rfl rfl (h_gC rfl rfl rfl rfl) rfl ?_
  refine w_p (pc1 := 16) rfl rfl ?_
  refine w_m0 (pc1 := 17) rfl rfl (h_al rfl rfl (by decide) rfl) rfl ?_
  refine w_nl_n (a := 32) (b := 20) (by exact F.2.2.1 _ (by decide)) rfl rfl rfl ?_
  refine w_p (pc1 := 33) (st1 := .int 0 :: _) rfl rfl ?_
  refine w_p (pc1 := 34) (st1 := .int 0 :: _) rfl rfl ?_
  refine w_p (pc1 := 35) (al1 := [(1, .int 0), (2, .int 23), (0, .ref 106)]) rfl rfl ?_
  refine w_p (pc1 := 38) (al1 := [(2, .int 24), (1, .int 0), (0, .ref 106)]) rfl rfl ?_
  refine w_p (pc1 := 4) rfl rfl ?_
  refine w_p (pc1 := 5) rfl rfl ?_
  refine w_p (pc1 := 7) (st1 := .int 24 :: _) rfl rfl ?_
  refine w_t (a := 41) (b := 10) rfl rfl rfl ?_
  refine w_p (pc1 := 42) (st1 := .int 0 :: _) rfl rfl ?_
  refine w_p (pc1 := 43) (al1 := [(2, .int 0), (1, .int 0), (0, .ref 106)]) rfl rfl ?_
  refine w_p (pc1 := 44) rfl rfl ?_
  refine w_p (pc1 := 46) (st1 := .int 8 :: _) rfl rfl ?_
  refine w_f (a := 80) (b := 49) rfl rfl rfl ?_
  refine w_p (pc1 := 50) rfl rfl ?_
  refine w_p (pc1 := 51) rfl rfl ?_
  refine w_m0 (pc1 := 54) rfl rfl (h_gC rfl rfl rfl rfl) rfl ?_
  refine w_p (pc1 := 55) rfl rfl ?_
  refine w_m0 (pc1 := 56) rfl rfl (h_al rfl rfl (by decide) rfl) rfl ?_
  refine w_nl_n (a := 71) (b := 59) (by exact F.2.2.2.1 _ (by decide)) rfl rfl rfl ?_
  refine w_p (pc1 := 72) (st1 := .int 0 :: _) rfl rfl ?_
  refine w_p (pc1 := 73) (st1 := .int 0 :: _) rfl rfl ?_
  refine w_p (pc1 := 74) (al1 := [(1, .int 0), (2, .int 0), (0, .ref 106)]) rfl rfl ?_
  refine w_p (pc1 := 77) (al1 := [(2, .int 1), (1, .int 0), (0, .ref 106)]) rfl rfl ?_
  refine w_p (pc1 := 43) rfl rfl ?_
  refine w_p (pc1 := 44) rfl rfl ?_
  refine w_p (pc1 := 46) (st1 := .int 8 :: _) rfl rfl ?_
  refine w_f (a := 80) (b := 49) rfl rfl rfl ?_
  refine w_p (pc1 := 50) rfl rfl ?_
  refine w_p (pc1 := 51) rfl rfl ?_
  refine w_m0 (pc1 := 54) rfl rfl (h_gC rfl rfl rfl rfl) rfl ?_
  refine w_p (pc1 := 55) rfl rfl ?_
  refine w_m0 (pc1 := 56) rfl rfl (h_al rfl rfl (by decide) rfl) rfl ?_
  refine w_nl_n (a := 71) (b := 59) (by exact F.2.2.2.1 _ (by decide)) rfl rfl rfl ?_
  refine w_p (pc1 := 72) (st1 := .int 0 :: _) rfl rfl ?_
  refine w_p (pc1 := 73) (st1 := .int 0 :: _) rfl rfl ?_
  refine w_p (pc1 := 74) (al1 := [(1, .int 0), (2, .int 1), (0, .ref 106)]) rfl rfl ?_
  refine w_p (pc1 := 77) (al1 := [(2, .int 2), (1, .int 0), (0, .ref 106)]) rfl rfl ?_
  refine w_p (pc1 := 43) rfl rfl ?_
  refine w_p (pc1 := 44) rfl rfl ?_
  refine w_p (pc1 := 46) (st1 := .int 8 :: _) rfl rfl ?_
  refine w_f (a := 80) (b := 49) rfl rfl rfl ?_
  refine w_p (pc1 := 50) rfl rfl ?_
  refine w_p (pc1 := 51) rfl rfl ?_
  refine w_m0 (pc1 := 54) rfl rfl (h_gC rfl rfl rfl rfl) rfl ?_
  refine w_p (pc1 := 55) rfl rfl ?_
  refine w_m0 (pc1 := 56) rfl rfl (h_al rfl rfl (by decide) rfl) rfl ?_
  refine w_nl_n (a := 71) (b := 59) (by exact F.2.2.2.1 _ (by decide)) rfl rfl rfl ?_
  refine w_p (pc1 := 72) (st1 := .int 0 :: _) rfl rfl ?_
  refine w_p (pc1 := 73) (st1 := .int 0 :: _) rfl rfl ?_
  refine w_p (pc1 := 74) (al1 := [(1, .int 0), (2, .int 2), (0, .ref 106)]) rfl rfl ?_
  refine w_p (pc1 := 77) (al1 := [(2, .int 3), (1, .int 0), (0, .ref 106)]) rfl rfl ?_
  refine w_p (pc1 := 43) rfl rfl ?_
  refine w_p (pc1 := 44) rfl rfl ?_
  refine w_p (pc1 := 46) (st1 := .int 8 :: _) rfl rfl ?_
  refine w_f (a := 80) (b := 49) rfl rfl rfl ?_
  refine w_p (pc1 := 50) rfl rfl ?_
  refine w_p (pc1 := 51) rfl rfl ?_
  refine w_m0 (pc1 := 54) rfl rfl (h_gC rfl rfl rfl rfl) rfl ?_
  refine w_p (pc1 := 55) rfl rfl ?_
  refine w_m0 (pc1 := 56) rfl rfl (h_al rfl rfl (by decide) rfl) rfl ?_
  refine w_nl_n (a := 71) (b := 59) (by exact F.2.2.2.1 _ (by decide)) rfl rfl rfl ?_
  refine w_p (pc1 := 72) (st1 := .int 0 :: _) rfl rfl ?_
  refine w_p (pc1 := 73) (st1 := .int 0 :: _) rfl rfl ?_
  refine w_p (pc1 := 74) (al1 := [(1, .int 0), (2, .int 3), (0, .ref 106)]) rfl rfl ?_
  refine w_p (pc1 := 77) (al1 := [(2, .int 4), (1, .int 0), (0, .ref 106)]) rfl rfl ?_
  refine w_p (pc1 := 43) rfl rfl ?_
  refine w_p (pc1 := 44) rfl rfl ?_
  refine w_p (pc1 := 46) (st1 := .int 8 :: _) rfl rfl ?_
  refine w_f (a := 80) (b := 49) rfl rfl rfl ?_
  refine w_p (pc1 := 50) rfl rfl ?_
  refine w_p (pc1 := 51) rfl rfl ?_
  refine w_m0 (pc1 := 54) rfl rfl (h_gC rfl rfl rfl rfl) rfl ?_
  refine w_p (pc1 := 55) rfl rfl ?_
  refine w_m0 (pc1 := 56) rfl rfl (h_al rfl rfl (by decide) rfl) rfl ?_
  refine w_nl_n (a := 71) (b := 59) (by exact F.2.2.2.1 _ (by decide)) rfl rfl rfl ?_
  refine w_p (pc1 := 72) (st1 := .int 0 :: _) rfl rfl ?_
  refine w_p (pc1 := 73) (st1 := .int 0 :: _) rfl rfl ?_
  refine w_p (pc1 := 74) (al1 := [(1, .int 0), (2, .int 4), (0, .ref 106)]) rfl rfl ?_
  refine w_p (pc1 := 77) (al1 := [(2, .int 5), (1, .int 0), (0, .ref 106)]) rfl rfl ?_
  refine w_p (pc1 := 43) rfl rfl ?_
  refine w_p (pc1 := 44) rfl rfl ?_
  refine w_p (pc1 := 46) (st1 := .int 8 :: _) rfl rfl ?_
  refine w_f (a := 80) (b := 49) rfl rfl rfl ?_
  refine w_p (pc1 := 50) rfl rfl ?_
  refine w_p (pc1 := 51) rfl rfl ?_
  refine w_m0 (pc1 := 54) rfl rfl (h_gC rfl rfl rfl rfl) rfl ?_
  refine w_p (pc1 := 55) rfl rfl ?_
  refine w_m0 (pc1 := 56) rfl rfl (h_al rfl rfl (by decide) rfl) rfl ?_
  refine w_nl_n (a := 71) (b := 59) (by exact F.2.2.2.1 _ (by decide)) rfl rfl rfl ?_
  refine w_p (pc1 := 72) (st1 := .int 0 :: _) rfl rfl ?_
  refine w_p (pc1 := 73) (st1 := .int 0 :: _) rfl rfl ?_
  refine w_p (pc1 := 74) (al1 := [(1, .int 0), (2, .int 5), (0, .ref 106)]) rfl rfl ?_
  refine w_p (pc1 := 77) (al1 := [(2, .int 6), (1, .int 0), (0, .ref 106)]) rfl rfl ?_
  refine w_p (pc1 := 43) rfl rfl ?_
  refine w_p (pc1 := 44) rfl rfl ?_
  refine w_p (pc1 := 46) (st1 := .int 8 :: _) rfl rfl ?_
  refine w_f (a := 80) (b := 49) rfl rfl rfl ?_
  refine w_p (pc1 := 50) rfl rfl ?_
  refine w_p (pc1 := 51) rfl rfl ?_
  refine w_m0 (pc1 := 54) rfl rfl (h_gC rfl rfl rfl rfl) rfl ?_
  refine w_p (pc1 := 55) rfl rfl ?_
  refine w_m0 (pc1 := 56) rfl rfl (h_al rfl rfl (by decide) rfl) rfl ?_
  refine w_nl_n (a := 71) (b := 59) (by exact F.2.2.2.1 _ (by decide)) rfl rfl rfl ?_
  refine w_p (pc1 := 72) (st1 := .int 0 :: _) rfl rfl ?_
  refine w_p (pc1 := 73) (st1 := .int 0 :: _) rfl rfl ?_
  refine w_p (pc1 := 74) (al1 := [(1, .int 0), (2, .int 6), (0, .ref 106)]) rfl rfl ?_
  refine w_p (pc1 := 77) (al1 := [(2, .int 7), (1, .int 0), (0, .ref 106)]) rfl rfl ?_
  refine w_p (pc1 := 43) rfl rfl ?_
  refine w_p (pc1 := 44) rfl rfl ?_
  refine w_p (pc1 := 46) (st1 := .int 8 :: _) rfl rfl ?_
  refine w_f (a := 80) (b := 49) rfl rfl rfl ?_
  refine w_p (pc1 := 50) rfl rfl ?_
  refine w_p (pc1 := 51) rfl rfl ?_
  refine w_m0 (pc1 := 54) rfl rfl (h_gC rfl rfl rfl rfl) rfl ?_
  refine w_p (pc1 := 55) rfl rfl ?_
  refine w_m0 (pc1 := 56) rfl rfl (h_al rfl rfl (by decide) rfl) rfl ?_
  refine w_nl_n (a := 71) (b := 59) (by exact F.2.2.2.1 _ (by decide)) rfl rfl rfl ?_
  refine w_p (pc1 := 72) (st1 := .int 0 :: _) rfl rfl ?_
  refine w_p (pc1 := 73) (st1 := .int 0 :: _) rfl rfl ?_
  refine w_p (pc1 := 74) (al1 := [(1, .int 0), (2, .int 7), (0, .ref 106)]) rfl rfl ?_
  refine w_p (pc1 := 77) (al1 := [(2, .int 8), (1, .int 0), (0, .ref 106)]) rfl rfl ?_
  refine w_p (pc1 := 43) rfl rfl ?_
  refine w_p (pc1 := 44) rfl rfl ?_
  refine w_p (pc1 := 46) (st1 := .int 8 :: _) rfl rfl ?_
  refine w_t (a := 80) (b := 49) rfl rfl rfl ?_
  refine w_p (pc1 := 81) rfl rfl ?_
  refine w_r rfl rfl rfl (fun _ _ => rfl) cr_int ?_
  exact ⟨rfl, rfl, rfl⟩
set_option maxRecDepth 100000 in
theorem m_32z {a : Int64} (F : frK C) : Wd L xs (d + 1) y_32 (0, [(0, .ref 106), (1, .long a)], [], MH C t, sl) (Rt (some (.int (-1))) (MH C t) sl) nX := by
  refine w_p (pc1 := 1) (st1 := .int 0 :: _) rfl rfl ?_
  refine w_p (pc1 := 2) (al1 := [(3, .int 0), (0, .ref 106), (1, _)]) rfl rfl ?_
  refine w_p (pc1 := 3) rfl rfl ?_
  refine w_p (pc1 := 5) (st1 := .int 6 :: _) rfl rfl ?_
  refine w_f (a := 35) (b := 8) rfl rfl rfl ?_
  refine w_p (pc1 := 9) rfl rfl ?_
  refine w_p (pc1 := 10) rfl rfl ?_
  refine w_je (pc1 := 13) (vs := [.ref 106, .int 0]) (rest := []) (st1 := [.int 0]) (m_33f (d := _) (sl := 0) (hT_f F)) rfl rfl rfl (fun _ _ => rfl) rfl (by exact cl_v my_33 rfl rfl rfl (Nat.le_of_ble_eq_true rfl) rfl (MH_obj rfl rfl) rfl (by decide) rfl rfl) (by rfl) (Nat.le_of_ble_eq_true rfl) (Nat.le_of_ble_eq_true rfl) rfl (by rfl) ?_
  refine w_t (a := 29) (b := 16) rfl rfl rfl ?_
  refine w_p (pc1 := 32) (al1 := [(3, .int 1), (0, .ref 106), (1, _)]) rfl rfl ?_
  refine w_p (pc1 := 2) rfl rfl ?_
  refine w_p (pc1 := 3) rfl rfl ?_
  refine w_p (pc1 := 5) (st1 := .int 6 :: _) rfl rfl ?_
  refine w_f (a := 35) (b := 8) rfl rfl rfl ?_
  refine w_p (pc1 := 9) rfl rfl ?_
  refine w_p (pc1 := 10) rfl rfl ?_
  refine w_je (pc1 := 13) (vs := [.ref 106, .int 1]) (rest := []) (st1 := [.int 0]) (m_33f (d := _) (sl := 0) (hT_f F)) rfl rfl rfl (fun _ _ => rfl) rfl (by exact cl_v my_33 rfl rfl rfl (Nat.le_of_ble_eq_true rfl) rfl (MH_obj rfl rfl) rfl (by decide) rfl rfl) (by rfl) (Nat.le_of_ble_eq_true rfl) (Nat.le_of_ble_eq_true rfl) rfl (by rfl) ?_
  refine w_t (a := 29) (b := 16) rfl rfl rfl ?_
  refine w_p (pc1 := 32) (al1 := [(3, .int 2), (0, .ref 106), (1, _)]) rfl rfl ?_
  refine w_p (pc1 := 2) rfl rfl ?_
  refine w_p (pc1 := 3) rfl rfl ?_
  refine w_p (pc1 := 5) (st1 := .int 6 :: _) rfl rfl ?_
  refine w_f (a := 35) (b := 8) rfl rfl rfl ?_
  refine w_p (pc1 := 9) rfl rfl ?_
  refine w_p (pc1 := 10) rfl rfl ?_
  refine w_je (pc1 := 13) (vs := [.ref 106, .int 2]) (rest := []) (st1 := [.int 0]) (m_33f (d := _) (sl := 0) (hT_f F)) rfl rfl rfl (fun _ _ => rfl) rfl (by exact cl_v my_33 rfl rfl rfl (Nat.le_of_ble_eq_true rfl) rfl (MH_obj rfl rfl) rfl (by decide) rfl rfl) (by rfl) (Nat.le_of_ble_eq_true rfl) (Nat.le_of_ble_eq_true rfl) rfl (by rfl) ?_
  refine w_t (a := 29) (b := 16) rfl rfl rfl ?_
  refine w_p (pc1 := 32) (al1 := [(3, .int 3), (0, .ref 106), (1, _)]) rfl rfl ?_
  refine w_p (pc1 := 2) rfl rfl ?_
  refine w_p (pc1 := 3) rfl rfl ?_
  refine w_p (pc1 := 5) (st1 := .int 6 :: _) rfl rfl ?_
  refine w_f (a := 35) (b := 8) rfl rfl rfl ?_
  refine w_p (pc1 := 9) rfl rfl ?_
  refine w_p (pc1 := 10) rfl rfl ?_
  refine w_je (pc1 := 13) (vs := [.ref 106, .int 3]) (rest := []) (st1 := [.int 0]) (m_33f (d := _) (sl := 0) (hT_f F)) rfl rfl rfl (fun _ _ => rfl) rfl (by exact cl_v my_33 rfl rfl rfl (Nat.le_of_ble_eq_true rfl) rfl (MH_obj rfl rfl) rfl (by decide) rfl rfl) (by rfl) (Nat.le_of_ble_eq_true rfl) (Nat.le_of_ble_eq_true rfl) rfl (by rfl) ?_
  refine w_t (a := 29) (b := 16) rfl rfl rfl ?_
  refine w_p (pc1 := 32) (al1 := [(3, .int 4), (0, .ref 106), (1, _)]) rfl rfl ?_
  refine w_p (pc1 := 2) rfl rfl ?_
  refine w_p (pc1 := 3) rfl rfl ?_
  refine w_p (pc1 := 5) (st1 := .int 6 :: _) rfl rfl ?_
  refine w_f (a := 35) (b := 8) rfl rfl rfl ?_
  refine w_p (pc1 := 9) rfl rfl ?_
  refine w_p (pc1 := 10) rfl rfl ?_
  refine w_je (pc1 := 13) (vs := [.ref 106, .int 4]) (rest := []) (st1 := [.int 0]) (m_33f (d := _) (sl := 0) (hT_f F)) rfl rfl rfl (fun _ _ => rfl) rfl (by exact cl_v my_33 rfl rfl rfl (Nat.le_of_ble_eq_true rfl) rfl (MH_obj rfl rfl) rfl (by decide) rfl rfl) (by rfl) (Nat.le_of_ble_eq_true rfl) (Nat.le_of_ble_eq_true rfl) rfl (by rfl) ?_
  refine w_t (a := 29) (b := 16) rfl rfl rfl ?_
  refine w_p (pc1 := 32) (al1 := [(3, .int 5), (0, .ref 106), (1, _)]) rfl rfl ?_
  refine w_p (pc1 := 2) rfl rfl ?_
  refine w_p (pc1 := 3) rfl rfl ?_
  refine w_p (pc1 := 5) (st1 := .int 6 :: _) rfl rfl ?_
  refine w_f (a := 35) (b := 8) rfl rfl rfl ?_
  refine w_p (pc1 := 9) rfl rfl ?_
  refine w_p (pc1 := 10) rfl rfl ?_
  refine w_je (pc1 := 13) (vs := [.ref 106, .int 5]) (rest := []) (st1 := [.int 0]) (m_33f (d := _) (sl := 0) (hT_f F)) rfl rfl rfl (fun _ _ => rfl) rfl (by exact cl_v my_33 rfl rfl rfl (Nat.le_of_ble_eq_true rfl) rfl (MH_obj rfl rfl) rfl (by decide) rfl rfl) (by rfl) (Nat.le_of_ble_eq_true rfl) (Nat.le_of_ble_eq_true rfl) rfl (by rfl) ?_
  refine w_t (a := 29) (b := 16) rfl rfl rfl ?_
  refine w_p (pc1 := 32) (al1 := [(3, .int 6), (0, .ref 106), (1, _)]) rfl rfl ?_
  refine w_p (pc1 := 2) rfl rfl ?_
  refine w_p (pc1 := 3) rfl rfl ?_
  refine w_p (pc1 := 5) (st1 := .int 6 :: _) rfl rfl ?_
  refine w_t (a := 35) (b := 8) rfl rfl rfl ?_
  refine w_p (pc1 := 36) (st1 := .int (-1) :: _) rfl rfl ?_
  refine w_r rfl rfl rfl (fun _ _ => rfl) cr_int ?_
  exact ⟨rfl, rfl, rfl⟩
set_option maxRecDepth 100000 in
theorem m_34z {a : Int64} (F : frK C) : Wd L xs d y_34 (0, [(0, .ref 106), (1, .long a)], [], MH C t, sl) (Rt (some (.int (-1))) (MH C t) sl) nX := by
  refine w_p (pc1 := 1) (st1 := .int 0 :: _) rfl rfl ?_
  refine w_p (pc1 := 2) (al1 := [(3, .int 0), (0, .ref 106), (1, _)]) rfl rfl ?_
  refine w_p (pc1 := 3) rfl rfl ?_
  refine w_p (pc1 := 5) (st1 := .int 8 :: _) rfl rfl ?_
  refine w_f (a := 39) (b := 8) rfl rfl rfl ?_
  refine w_p (pc1 := 9) rfl rfl ?_
  refine w_m0 (pc1 := 12) rfl rfl (h_gC rfl rfl rfl rfl) rfl ?_
  refine w_p (pc1 := 13) rfl rfl ?_
  refine w_m0 (pc1 := 14) rfl rfl (h_al rfl rfl (by decide) rfl) rfl ?_
  refine w_nl_n (a := 33) (b := 17) (by exact F.2.2.2.1 _ (by decide)) rfl rfl rfl ?_
  refine w_p (pc1 := 36) (al1 := [(3, .int 1), (0, .ref 106), (1, _)]) rfl rfl ?_
  refine w_p (pc1 := 2) rfl rfl ?_
  refine w_p (pc1 := 3) rfl rfl ?_
  refine w_p (pc1 := 5) (st1 := .int 8 :: _) rfl rfl ?_
  refine w_f (a := 39) (b := 8) rfl rfl rfl ?_
  refine w_p (pc1 := 9) rfl rfl ?_
  refine w_m0 (pc1 := 12) rfl rfl (h_gC rfl rfl rfl rfl) rfl ?_
  refine w_p (pc1 := 13) rfl rfl ?_
  refine w_m0 (pc1 := 14) rfl rfl (h_al rfl rfl (by decide) rfl) rfl ?_
  refine w_nl_n (a := 33) (b := 17) (by exact F.2.2.2.1 _ (by decide)) rfl rfl rfl ?_
  refine w_p (pc1 := 36) (al1 := [(3, .int 2), (0, .ref 106), (1, _)]) rfl rfl ?_
  refine w_p (pc1 := 2) rfl rfl ?_
  refine w_p (pc1 := 3) rfl rfl ?_
  refine w_p (pc1 := 5) (st1 := .int 8 :: _) rfl rfl ?_
  refine w_f (a := 39) (b := 8) rfl rfl rfl ?_
  refine w_p (pc1 := 9) rfl rfl ?_
  refine w_m0 (pc1 := 12) rfl rfl (h_gC rfl rfl rfl rfl) rfl ?_
  refine w_p (pc1 := 13) rfl rfl ?_
  refine w_m0 (pc1 := 14) rfl rfl (h_al rfl rfl (by decide) rfl) rfl ?_
  refine w_nl_n (a := 33) (b := 17) (by exact F.2.2.2.1 _ (by decide)) rfl rfl rfl ?_
  refine w_p (pc1 := 36) (al1 := [(3, .int 3), (0, .ref 106), (1, _)]) rfl rfl ?_
  refine w_p (pc1 := 2) rfl rfl ?_
  refine w_p (pc1 := 3) rfl rfl ?_
  refine w_p (pc1 := 5) (st1 := .int 8 :: _) rfl rfl ?_
  refine w_f (a := 39) (b := 8) rfl rfl rfl ?_
  refine w_p (pc1 := 9) rfl rfl ?_
  refine w_m0 (pc1 := 12) rfl rfl (h_gC rfl rfl rfl rfl) rfl ?_
  refine w_p (pc1 := 13) rfl rfl ?_
  refine w_m0 (pc1 := 14) rfl rfl (h_al rfl rfl (by decide) rfl) rfl ?_
  refine w_nl_n (a := 33) (b := 17) (by exact F.2.2.2.1 _ (by decide)) rfl rfl rfl ?_
  refine w_p (pc1 := 36) (al1 := [(3, .int 4), (0, .ref 106), (1, _)]) rfl rfl ?_
  refine w_p (pc1 := 2) rfl rfl ?_
  refine w_p (pc1 := 3) rfl rfl ?_
  refine w_p (pc1 := 5) (st1 := .int 8 :: _) rfl rfl ?_
  refine w_f (a := 39) (b := 8) rfl rfl rfl ?_
  refine w_p (pc1 := 9) rfl rfl ?_
  refine w_m0 (pc1 := 12) rfl rfl (h_gC rfl rfl rfl rfl) rfl ?_
  refine w_p (pc1 := 13) rfl rfl ?_
  refine w_m0 (pc1 := 14) rfl rfl (h_al rfl rfl (by decide) rfl) rfl ?_
  refine w_nl_n (a := 33) (b := 17) (by exact F.2.2.2.1 _ (by decide)) rfl rfl rfl ?_
  refine w_p (pc1 := 36) (al1 := [(3, .int 5), (0, .ref 106), (1, _)]) rfl rfl ?_
  refine w_p (pc1 := 2) rfl rfl ?_
  refine w_p (pc1 := 3) rfl rfl ?_
  refine w_p (pc1 := 5) (st1 := .int 8 :: _) rfl rfl ?_
  refine w_f (a := 39) (b := 8) rfl rfl rfl ?_
  refine w_p (pc1 := 9) rfl rfl ?_
  refine w_m0 (pc1 := 12) rfl rfl (h_gC rfl rfl rfl rfl) rfl ?_
  refine w_p (pc1 := 13) rfl rfl ?_
  refine w_m0 (pc1 := 14) rfl rfl (h_al rfl rfl (by decide) rfl) rfl ?_
  refine w_nl_n (a := 33) (b := 17) (by exact F.2.2.2.1 _ (by decide)) rfl rfl rfl ?_
  refine w_p (pc1 := 36) (al1 := [(3, .int 6), (0, .ref 106), (1, _)]) rfl rfl ?_
  refine w_p (pc1 := 2) rfl rfl ?_
  refine w_p (pc1 := 3) rfl rfl ?_
  refine w_p (pc1 := 5) (st1 := .int 8 :: _) rfl rfl ?_
  refine w_f (a := 39) (b := 8) rfl rfl rfl ?_
  refine w_p (pc1 := 9) rfl rfl ?_
  refine w_m0 (pc1 := 12) rfl rfl (h_gC rfl rfl rfl rfl) rfl ?_
  refine w_p (pc1 := 13) rfl rfl ?_
  refine w_m0 (pc1 := 14) rfl rfl (h_al rfl rfl (by decide) rfl) rfl ?_
  refine w_nl_n (a := 33) (b := 17) (by exact F.2.2.2.1 _ (by decide)) rfl rfl rfl ?_
  refine w_p (pc1 := 36) (al1 := [(3, .int 7), (0, .ref 106), (1, _)]) rfl rfl ?_
  refine w_p (pc1 := 2) rfl rfl ?_
  refine w_p (pc1 := 3) rfl rfl ?_
  refine w_p (pc1 := 5) (st1 := .int 8 :: _) rfl rfl ?_
  refine w_f (a := 39) (b := 8) rfl rfl rfl ?_
  refine w_p (pc1 := 9) rfl rfl ?_
  refine w_m0 (pc1 := 12) rfl rfl (h_gC rfl rfl rfl rfl) rfl ?_
  refine w_p (pc1 := 13) rfl rfl ?_
  refine w_m0 (pc1 := 14) rfl rfl (h_al rfl rfl (by decide) rfl) rfl ?_
  refine w_nl_n (a := 33) (b := 17) (by exact F.2.2.2.1 _ (by decide)) rfl rfl rfl ?_
  refine w_p (pc1 := 36) (al1 := [(3, .int 8), (0, .ref 106), (1, _)]) rfl rfl ?_
  refine w_p (pc1 := 2) rfl rfl ?_
  refine w_p (pc1 := 3) rfl rfl ?_
  refine w_p (pc1 := 5) (st1 := .int 8 :: _) rfl rfl ?_
  refine w_t (a := 39) (b := 8) rfl rfl rfl ?_
  refine w_p (pc1 := 40) (st1 := .int (-1) :: _) rfl rfl ?_
  refine w_r rfl rfl rfl (fun _ _ => rfl) cr_int ?_
  exact ⟨rfl, rfl, rfl⟩
set_option maxRecDepth 100000 in
theorem m_92z {a : Int64} (F : frK C) : Wd L xs d y_92 (0, [(0, .ref 106), (1, .long a)], [], MH C t, sl) (Rt (some (.int (-1))) (MH C t) sl) nX := by
  refine w_p (pc1 := 1) (st1 := .int 0 :: _) rfl rfl ?_
  refine w_p (pc1 := 2) (al1 := [(3, .int 0), (0, .ref 106), (1, _)]) rfl rfl ?_
  refine w_p (pc1 := 3) rfl rfl ?_
  refine w_p (pc1 := 4) rfl rfl ?_
  refine w_m0 (pc1 := 7) rfl rfl (h_gI rfl rfl rfl rfl rfl) rfl ?_
  refine w_t (a := 35) (b := 10) (cb_ge_t (by rw [F.2.2.2.2.1]; decide)) rfl rfl ?_
  refine w_p (pc1 := 36) (st1 := .int (-1) :: _) rfl rfl ?_
  refine w_r rfl rfl rfl (fun _ _ => rfl) cr_int ?_
  exact ⟨rfl, rfl, rfl⟩
set_option maxRecDepth 100000 in
theorem m_41z {x : Int32} {a : Int64} (F : frK C) : Wd L xs d y_41 (0, [(0, .ref 106), (1, .int x), (2, .long a)], [], MH C t, sl) (Rt (some (.int (-1))) (MH C t) sl) nX := by
  refine w_p (pc1 := 1) rfl rfl ?_
  refine w_b (a := 10) (b := 4) rfl rfl (fun c1 => ?_) (fun c1 => ?_)
  · replace c1 := ck_lt_t (n := 0) rfl c1
    refine w_p (pc1 := 11) (st1 := .int (-1) :: _) rfl rfl ?_
    refine w_r rfl rfl rfl (fun _ _ => rfl) cr_int ?_
    exact ⟨rfl, rfl, rfl⟩
  · replace c1 := ck_lt_f (n := 0) rfl c1
    refine w_p (pc1 := 5) rfl rfl ?_
    refine w_p (pc1 := 7) (st1 := .int 6 :: _) rfl rfl ?_
    refine w_b (a := 12) (b := 10) rfl rfl (fun c7 => ?_) (fun c7 => ?_)
    · replace c7 := ck_lt_t (n := 6) rfl c7
      refine w_p (pc1 := 13) (st1 := .int 0 :: _) rfl rfl ?_
      refine w_p (pc1 := 15) (al1 := [(4, .int 0), (0, .ref 106), (1, _), (2, _)]) rfl rfl ?_
      refine w_p (pc1 := 17) rfl rfl ?_
      refine w_p (pc1 := 18) rfl rfl ?_
      refine w_m0 (pc1 := 21) rfl rfl (h_gC rfl rfl rfl rfl) rfl ?_
      refine w_p (pc1 := 22) rfl rfl ?_
      refine w_m0 (pc1 := 23) rfl rfl (h_il rfl rfl (by exact in_ok (by omega) (by omega))) rfl ?_
      refine w_t (a := 59) (b := 26) (cb_ge_t (by rw [F.2.1 _ (nat_of (by omega) (by omega))]; decide)) rfl rfl ?_
      refine w_p (pc1 := 60) (st1 := .int (-1) :: _) rfl rfl ?_
      refine w_r rfl rfl rfl (fun _ _ => rfl) cr_int ?_
      exact ⟨rfl, rfl, rfl⟩
    · replace c7 := ck_lt_f (n := 6) rfl c7
      refine w_p (pc1 := 11) (st1 := .int (-1) :: _) rfl rfl ?_
      refine w_r rfl rfl rfl (fun _ _ => rfl) cr_int ?_
      exact ⟨rfl, rfl, rfl⟩
set_option maxRecDepth 100000 in
theorem m_168z {x : Int32} (F : frK C) : Wd L xs (d + 8) y_168 (0, [(0, .ref 100), (1, .int x)], [], MH C t, sl) (fun v h n => (0 ≤ x.toInt ∧ x.toInt < 7) ∧ some (.int 0) = v ∧ MH C t = h ∧ sl = n) (fun a h n => ¬ (0 ≤ x.toInt ∧ x.toInt < 7) ∧ Xk 13 C t sl a h n) := by
  by_cases hx : 0 ≤ x.toInt ∧ x.toInt < 7
  · rcases i7 hx.1 hx.2 with rfl | rfl | rfl | rfl | rfl | rfl | rfl
    · skip
      refine w_p (pc1 := 1) rfl rfl ?_
      refine w_p (pc1 := 44) rfl rfl ?_
      refine w_p (pc1 := 45) rfl rfl ?_
      refine w_m0 (pc1 := 48) rfl rfl (h_gC rfl rfl rfl rfl) rfl ?_
      refine w_je (pc1 := 51) (vs := [.ref 106]) (rest := []) (st1 := [.int 0]) (m_169z (d := _) (sl := 0) F) rfl rfl rfl (fun _ _ => rfl) rfl (by exact cl_v my_169 rfl rfl rfl (Nat.le_of_ble_eq_true rfl) rfl (MH_obj rfl rfl) rfl (by decide) rfl rfl) (by rfl) (Nat.le_of_ble_eq_true rfl) (Nat.le_of_ble_eq_true rfl) rfl (by rfl) ?_
      refine w_r rfl rfl rfl (fun _ _ => rfl) cr_int ?_
      exact ⟨by decide, rfl, rfl, rfl⟩
    · skip
      refine w_p (pc1 := 1) rfl rfl ?_
      refine w_p (pc1 := 52) rfl rfl ?_
      refine w_p (pc1 := 53) rfl rfl ?_
      refine w_m0 (pc1 := 56) rfl rfl (h_gC rfl rfl rfl rfl) rfl ?_
      refine w_je (pc1 := 59) (vs := [.ref 106]) (rest := []) (st1 := [.int 0]) (m_170z (d := _) (sl := 0) F) rfl rfl rfl (fun _ _ => rfl) rfl (by exact cl_v my_170 rfl rfl rfl (Nat.le_of_ble_eq_true rfl) rfl (MH_obj rfl rfl) rfl (by decide) rfl rfl) (by rfl) (Nat.le_of_ble_eq_true rfl) (Nat.le_of_ble_eq_true rfl) rfl (by rfl) ?_
      refine w_r rfl rfl rfl (fun _ _ => rfl) cr_int ?_
      exact ⟨by decide, rfl, rfl, rfl⟩
    · skip
      refine w_p (pc1 := 1) rfl rfl ?_
      refine w_p (pc1 := 60) rfl rfl ?_
      refine w_p (pc1 := 61) rfl rfl ?_
      refine w_m0 (pc1 := 64) rfl rfl (h_gC rfl rfl rfl rfl) rfl ?_
      refine w_je (pc1 := 67) (vs := [.ref 106]) (rest := []) (st1 := [.int 0]) (m_171z (d := _) (sl := 0) F) rfl rfl rfl (fun _ _ => rfl) rfl (by exact cl_v my_171 rfl rfl rfl (Nat.le_of_ble_eq_true rfl) rfl (MH_obj rfl rfl) rfl (by decide) rfl rfl) (by rfl) (Nat.le_of_ble_eq_true rfl) (Nat.le_of_ble_eq_true rfl) rfl (by rfl) ?_
      refine w_r rfl rfl rfl (fun _ _ => rfl) cr_int ?_
      exact ⟨by decide, rfl, rfl, rfl⟩
    · skip
      refine w_p (pc1 := 1) rfl rfl ?_
      refine w_p (pc1 := 68) rfl rfl ?_
      refine w_p (pc1 := 69) rfl rfl ?_
      refine w_m0 (pc1 := 72) rfl rfl (h_gC rfl rfl rfl rfl) rfl ?_
      refine w_m0 (pc1 := 75) rfl rfl (h_gI rfl rfl rfl rfl rfl) rfl ?_
      refine w_r rfl rfl rfl (fun _ _ => rfl) cr_int ?_
      exact ⟨by decide, by rw [F.2.2.2.2.1], rfl, rfl⟩
    · skip
      refine w_p (pc1 := 1) rfl rfl ?_
      refine w_p (pc1 := 76) rfl rfl ?_
      refine w_p (pc1 := 77) rfl rfl ?_
      refine w_m0 (pc1 := 80) rfl rfl (h_gC rfl rfl rfl rfl) rfl ?_
      refine w_je (pc1 := 83) (vs := [.ref 106]) (rest := []) (st1 := [.int 0]) (m_23z (d := _) (sl := 0) F) rfl rfl rfl (fun _ _ => rfl) rfl (by exact cl_v my_23 rfl rfl rfl (Nat.le_of_ble_eq_true rfl) rfl (MH_obj rfl rfl) rfl (by decide) rfl rfl) (by rfl) (Nat.le_of_ble_eq_true rfl) (Nat.le_of_ble_eq_true rfl) rfl (by rfl) ?_
      refine w_r rfl rfl rfl (fun _ _ => rfl) cr_int ?_
      exact ⟨by decide, rfl, rfl, rfl⟩
    · skip
      refine w_p (pc1 := 1) rfl rfl ?_
      refine w_p (pc1 := 84) rfl rfl ?_
      refine w_p (pc1 := 85) rfl rfl ?_
      refine w_m0 (pc1 := 88) rfl rfl (h_gC rfl rfl rfl rfl) rfl ?_
      refine w_m0 (pc1 := 91) rfl rfl (h_gI rfl rfl rfl rfl rfl) rfl ?_
      refine w_t (a := 98) (b := 94) (cb_eq_t (by exact F.2.2.2.2.2.1)) rfl rfl ?_
      refine w_p (pc1 := 99) (st1 := .int 0 :: _) rfl rfl ?_
      refine w_r rfl rfl rfl (fun _ _ => rfl) cr_int ?_
      exact ⟨by decide, rfl, rfl, rfl⟩
    · skip
      refine w_p (pc1 := 1) rfl rfl ?_
      refine w_p (pc1 := 100) rfl rfl ?_
      refine w_p (pc1 := 101) rfl rfl ?_
      refine w_m0 (pc1 := 104) rfl rfl (h_gC rfl rfl rfl rfl) rfl ?_
      refine w_m0 (pc1 := 107) rfl rfl (h_gI rfl rfl rfl rfl rfl) rfl ?_
      refine w_r rfl rfl rfl (fun _ _ => rfl) cr_int ?_
      exact ⟨by decide, by rw [F.2.2.2.2.2.2], rfl, rfl⟩
  · skip
    refine w_p (pc1 := 1) rfl rfl ?_
    refine w_sd (a := 108) rfl rfl (by omega) ?_
    refine w_x (ci := 13) rfl rfl rfl (fun _ _ => rfl) rfl rfl (fun fr lo h1 h2 => cx_ok h1 h2 rfl) (by exact ch_thr (by decide) rfl) ?_
    exact ⟨hx, Xk_i⟩
set_option maxRecDepth 100000 in
theorem m_173z {x : Int32} {a : Int64} (F : frK C) : Wd L xs (d + 8) y_173 (0, [(0, .ref 100), (1, .int x), (2, .long a)], [], MH C t, sl) (fun v h n => (0 ≤ x.toInt ∧ x.toInt < 9) ∧ some (.int (-1)) = v ∧ MH C t = h ∧ sl = n) (fun a h n => ¬ (0 ≤ x.toInt ∧ x.toInt < 9) ∧ Xk 13 C t sl a h n) := by
  by_cases hx : 0 ≤ x.toInt ∧ x.toInt < 9
  · rcases i9 hx.1 hx.2 with rfl | rfl | rfl | rfl | rfl | rfl | rfl | rfl | rfl
    · skip
      refine w_p (pc1 := 1) rfl rfl ?_
      refine w_f (a := 10) (b := 4) rfl rfl rfl ?_
      refine w_p (pc1 := 5) rfl rfl ?_
      refine w_p (pc1 := 7) (st1 := .int 8 :: _) rfl rfl ?_
      refine w_t (a := 20) (b := 10) rfl rfl rfl ?_
      refine w_p (pc1 := 21) rfl rfl ?_
      refine w_p (pc1 := 48) rfl rfl ?_
      refine w_p (pc1 := 49) rfl rfl ?_
      refine w_m0 (pc1 := 52) rfl rfl (h_gC rfl rfl rfl rfl) rfl ?_
      refine w_p (pc1 := 53) rfl rfl ?_
      refine w_je (pc1 := 56) (vs := [.ref 106, _]) (rest := []) (st1 := [.int (-1)]) (m_32z (d := _) (sl := 0) F) rfl rfl rfl (fun _ _ => rfl) rfl (by exact cl_v my_32 rfl rfl rfl (Nat.le_of_ble_eq_true rfl) rfl (MH_obj rfl rfl) rfl (by decide) rfl rfl) (by rfl) (Nat.le_of_ble_eq_true rfl) (Nat.le_of_ble_eq_true rfl) rfl (by rfl) ?_
      refine w_r rfl rfl rfl (fun _ _ => rfl) cr_int ?_
      exact ⟨by decide, rfl, rfl, rfl⟩
    · skip
      refine w_p (pc1 := 1) rfl rfl ?_
      refine w_f (a := 10) (b := 4) rfl rfl rfl ?_
      refine w_p (pc1 := 5) rfl rfl ?_
      refine w_p (pc1 := 7) (st1 := .int 8 :: _) rfl rfl ?_
      refine w_t (a := 20) (b := 10) rfl rfl rfl ?_
      refine w_p (pc1 := 21) rfl rfl ?_
      refine w_p (pc1 := 57) rfl rfl ?_
      refine w_p (pc1 := 58) rfl rfl ?_
      refine w_m0 (pc1 := 61) rfl rfl (h_gC rfl rfl rfl rfl) rfl ?_
      refine w_p (pc1 := 62) rfl rfl ?_
      refine w_je (pc1 := 65) (vs := [.ref 106, _]) (rest := []) (st1 := [.int (-1)]) (m_34z (d := _) (sl := 0) F) rfl rfl rfl (fun _ _ => rfl) rfl (by exact cl_v my_34 rfl rfl rfl (Nat.le_of_ble_eq_true rfl) rfl (MH_obj rfl rfl) rfl (by decide) rfl rfl) (by rfl) (Nat.le_of_ble_eq_true rfl) (Nat.le_of_ble_eq_true rfl) rfl (by rfl) ?_
      refine w_r rfl rfl rfl (fun _ _ => rfl) cr_int ?_
      exact ⟨by decide, rfl, rfl, rfl⟩
    · skip
      refine w_p (pc1 := 1) rfl rfl ?_
      refine w_f (a := 10) (b := 4) rfl rfl rfl ?_
      refine w_p (pc1 := 5) rfl rfl ?_
      refine w_p (pc1 := 7) (st1 := .int 8 :: _) rfl rfl ?_
      refine w_t (a := 20) (b := 10) rfl rfl rfl ?_
      refine w_p (pc1 := 21) rfl rfl ?_
      refine w_p (pc1 := 66) rfl rfl ?_
      refine w_p (pc1 := 67) rfl rfl ?_
      refine w_m0 (pc1 := 70) rfl rfl (h_gC rfl rfl rfl rfl) rfl ?_
      refine w_p (pc1 := 71) rfl rfl ?_
      refine w_je (pc1 := 74) (vs := [.ref 106, _]) (rest := []) (st1 := [.int (-1)]) (m_92z (d := _) (sl := 0) F) rfl rfl rfl (fun _ _ => rfl) rfl (by exact cl_v my_92 rfl rfl rfl (Nat.le_of_ble_eq_true rfl) rfl (MH_obj rfl rfl) rfl (by decide) rfl rfl) (by rfl) (Nat.le_of_ble_eq_true rfl) (Nat.le_of_ble_eq_true rfl) rfl (by rfl) ?_
      refine w_r rfl rfl rfl (fun _ _ => rfl) cr_int ?_
      exact ⟨by decide, rfl, rfl, rfl⟩
    · skip
      refine w_p (pc1 := 1) rfl rfl ?_
      refine w_f (a := 10) (b := 4) rfl rfl rfl ?_
      refine w_p (pc1 := 5) rfl rfl ?_
      refine w_p (pc1 := 7) (st1 := .int 8 :: _) rfl rfl ?_
      refine w_t (a := 20) (b := 10) rfl rfl rfl ?_
      refine w_p (pc1 := 21) rfl rfl ?_
      refine w_p (pc1 := 75) rfl rfl ?_
      refine w_p (pc1 := 76) rfl rfl ?_
      refine w_m0 (pc1 := 79) rfl rfl (h_gC rfl rfl rfl rfl) rfl ?_
      refine w_p (pc1 := 80) rfl rfl ?_
      refine w_p (pc1 := 81) (st1 := .int 3 :: _) rfl rfl ?_
      refine w_p (pc1 := 82) (st1 := .int 0 :: _) rfl rfl ?_
      refine w_p (pc1 := 83) rfl rfl ?_
      refine w_je (pc1 := 86) (vs := [.ref 106, .int 0, _]) (rest := []) (st1 := [.int (-1)]) (m_41z (d := _) (sl := 0) F) rfl rfl rfl (fun _ _ => rfl) rfl (by exact cl_v my_41 rfl rfl rfl (Nat.le_of_ble_eq_true rfl) rfl (MH_obj rfl rfl) rfl (by decide) rfl rfl) (by rfl) (Nat.le_of_ble_eq_true rfl) (Nat.le_of_ble_eq_true rfl) rfl (by rfl) ?_
      refine w_r rfl rfl rfl (fun _ _ => rfl) cr_int ?_
      exact ⟨by decide, rfl, rfl, rfl⟩
    · skip
      refine w_p (pc1 := 1) rfl rfl ?_
      refine w_f (a := 10) (b := 4) rfl rfl rfl ?_
      refine w_p (pc1 := 5) rfl rfl ?_
      refine w_p (pc1 := 7) (st1 := .int 8 :: _) rfl rfl ?_
      refine w_t (a := 20) (b := 10) rfl rfl rfl ?_
      refine w_p (pc1 := 21) rfl rfl ?_
      refine w_p (pc1 := 75) rfl rfl ?_
      refine w_p (pc1 := 76) rfl rfl ?_
      refine w_m0 (pc1 := 79) rfl rfl (h_gC rfl rfl rfl rfl) rfl ?_
      refine w_p (pc1 := 80) rfl rfl ?_
      refine w_p (pc1 := 81) (st1 := .int 3 :: _) rfl rfl ?_
      refine w_p (pc1 := 82) (st1 := .int 1 :: _) rfl rfl ?_
      refine w_p (pc1 := 83) rfl rfl ?_
      refine w_je (pc1 := 86) (vs := [.ref 106, .int 1, _]) (rest := []) (st1 := [.int (-1)]) (m_41z (d := _) (sl := 0) F) rfl rfl rfl (fun _ _ => rfl) rfl (by exact cl_v my_41 rfl rfl rfl (Nat.le_of_ble_eq_true rfl) rfl (MH_obj rfl rfl) rfl (by decide) rfl rfl) (by rfl) (Nat.le_of_ble_eq_true rfl) (Nat.le_of_ble_eq_true rfl) rfl (by rfl) ?_
      refine w_r rfl rfl rfl (fun _ _ => rfl) cr_int ?_
      exact ⟨by decide, rfl, rfl, rfl⟩
    · skip
      refine w_p (pc1 := 1) rfl rfl ?_
      refine w_f (a := 10) (b := 4) rfl rfl rfl ?_
      refine w_p (pc1 := 5) rfl rfl ?_
      refine w_p (pc1 := 7) (st1 := .int 8 :: _) rfl rfl ?_
      refine w_t (a := 20) (b := 10) rfl rfl rfl ?_
      refine w_p (pc1 := 21) rfl rfl ?_
      refine w_p (pc1 := 75) rfl rfl ?_
      refine w_p (pc1 := 76) rfl rfl ?_
      refine w_m0 (pc1 := 79) rfl rfl (h_gC rfl rfl rfl rfl) rfl ?_
      refine w_p (pc1 := 80) rfl rfl ?_
      refine w_p (pc1 := 81) (st1 := .int 3 :: _) rfl rfl ?_
      refine w_p (pc1 := 82) (st1 := .int 2 :: _) rfl rfl ?_
      refine w_p (pc1 := 83) rfl rfl ?_
      refine w_je (pc1 := 86) (vs := [.ref 106, .int 2, _]) (rest := []) (st1 := [.int (-1)]) (m_41z (d := _) (sl := 0) F) rfl rfl rfl (fun _ _ => rfl) rfl (by exact cl_v my_41 rfl rfl rfl (Nat.le_of_ble_eq_true rfl) rfl (MH_obj rfl rfl) rfl (by decide) rfl rfl) (by rfl) (Nat.le_of_ble_eq_true rfl) (Nat.le_of_ble_eq_true rfl) rfl (by rfl) ?_
      refine w_r rfl rfl rfl (fun _ _ => rfl) cr_int ?_
      exact ⟨by decide, rfl, rfl, rfl⟩
    · skip
      refine w_p (pc1 := 1) rfl rfl ?_
      refine w_f (a := 10) (b := 4) rfl rfl rfl ?_
      refine w_p (pc1 := 5) rfl rfl ?_
      refine w_p (pc1 := 7) (st1 := .int 8 :: _) rfl rfl ?_
      refine w_t (a := 20) (b := 10) rfl rfl rfl ?_
      refine w_p (pc1 := 21) rfl rfl ?_
      refine w_p (pc1 := 75) rfl rfl ?_
      refine w_p (pc1 := 76) rfl rfl ?_
      refine w_m0 (pc1 := 79) rfl rfl (h_gC rfl rfl rfl rfl) rfl ?_
      refine w_p (pc1 := 80) rfl rfl ?_
      refine w_p (pc1 := 81) (st1 := .int 3 :: _) rfl rfl ?_
      refine w_p (pc1 := 82) (st1 := .int 3 :: _) rfl rfl ?_
      refine w_p (pc1 := 83) rfl rfl ?_
      refine w_je (pc1 := 86) (vs := [.ref 106, .int 3, _]) (rest := []) (st1 := [.int (-1)]) (m_41z (d := _) (sl := 0) F) rfl rfl rfl (fun _ _ => rfl) rfl (by exact cl_v my_41 rfl rfl rfl (Nat.le_of_ble_eq_true rfl) rfl (MH_obj rfl rfl) rfl (by decide) rfl rfl) (by rfl) (Nat.le_of_ble_eq_true rfl) (Nat.le_of_ble_eq_true rfl) rfl (by rfl) ?_
      refine w_r rfl rfl rfl (fun _ _ => rfl) cr_int ?_
      exact ⟨by decide, rfl, rfl, rfl⟩
    · skip
      refine w_p (pc1 := 1) rfl rfl ?_
      refine w_f (a := 10) (b := 4) rfl rfl rfl ?_
      refine w_p (pc1 := 5) rfl rfl ?_
      refine w_p (pc1 := 7) (st1 := .int 8 :: _) rfl rfl ?_
      refine w_t (a := 20) (b := 10) rfl rfl rfl ?_
      refine w_p (pc1 := 21) rfl rfl ?_
      refine w_p (pc1 := 75) rfl rfl ?_
      refine w_p (pc1 := 76) rfl rfl ?_
      refine w_m0 (pc1 := 79) rfl rfl (h_gC rfl rfl rfl rfl) rfl ?_
      refine w_p (pc1 := 80) rfl rfl ?_
      refine w_p (pc1 := 81) (st1 := .int 3 :: _) rfl rfl ?_
      refine w_p (pc1 := 82) (st1 := .int 4 :: _) rfl rfl ?_
      refine w_p (pc1 := 83) rfl rfl ?_
      refine w_je (pc1 := 86) (vs := [.ref 106, .int 4, _]) (rest := []) (st1 := [.int (-1)]) (m_41z (d := _) (sl := 0) F) rfl rfl rfl (fun _ _ => rfl) rfl (by exact cl_v my_41 rfl rfl rfl (Nat.le_of_ble_eq_true rfl) rfl (MH_obj rfl rfl) rfl (by decide) rfl rfl) (by rfl) (Nat.le_of_ble_eq_true rfl) (Nat.le_of_ble_eq_true rfl) rfl (by rfl) ?_
      refine w_r rfl rfl rfl (fun _ _ => rfl) cr_int ?_
      exact ⟨by decide, rfl, rfl, rfl⟩
    · skip
      refine w_p (pc1 := 1) rfl rfl ?_
      refine w_f (a := 10) (b := 4) rfl rfl rfl ?_
      refine w_p (pc1 := 5) rfl rfl ?_
      refine w_p (pc1 := 7) (st1 := .int 8 :: _) rfl rfl ?_
      refine w_t (a := 20) (b := 10) rfl rfl rfl ?_
      refine w_p (pc1 := 21) rfl rfl ?_
      refine w_p (pc1 := 75) rfl rfl ?_
      refine w_p (pc1 := 76) rfl rfl ?_
      refine w_m0 (pc1 := 79) rfl rfl (h_gC rfl rfl rfl rfl) rfl ?_
      refine w_p (pc1 := 80) rfl rfl ?_
      refine w_p (pc1 := 81) (st1 := .int 3 :: _) rfl rfl ?_
      refine w_p (pc1 := 82) (st1 := .int 5 :: _) rfl rfl ?_
      refine w_p (pc1 := 83) rfl rfl ?_
      refine w_je (pc1 := 86) (vs := [.ref 106, .int 5, _]) (rest := []) (st1 := [.int (-1)]) (m_41z (d := _) (sl := 0) F) rfl rfl rfl (fun _ _ => rfl) rfl (by exact cl_v my_41 rfl rfl rfl (Nat.le_of_ble_eq_true rfl) rfl (MH_obj rfl rfl) rfl (by decide) rfl rfl) (by rfl) (Nat.le_of_ble_eq_true rfl) (Nat.le_of_ble_eq_true rfl) rfl (by rfl) ?_
      refine w_r rfl rfl rfl (fun _ _ => rfl) cr_int ?_
      exact ⟨by decide, rfl, rfl, rfl⟩
  · skip
    refine w_p (pc1 := 1) rfl rfl ?_
    refine w_b (a := 10) (b := 4) rfl rfl (fun c1 => ?_) (fun c1 => ?_)
    · replace c1 := ck_lt_t (n := 0) rfl c1
      refine w_x (ci := 13) rfl rfl rfl (fun _ _ => rfl) rfl rfl (fun fr lo h1 h2 => cx_ok h1 h2 rfl) (by exact ch_thr (by decide) rfl) ?_
      exact ⟨hx, Xk_i⟩
    · replace c1 := ck_lt_f (n := 0) rfl c1
      refine w_p (pc1 := 5) rfl rfl ?_
      refine w_p (pc1 := 7) (st1 := .int 8 :: _) rfl rfl ?_
      refine w_b (a := 20) (b := 10) rfl rfl (fun c7 => ?_) (fun c7 => ?_)
      · replace c7 := ck_le_t (n := 8) rfl c7
        exfalso; omega
      · replace c7 := ck_le_f (n := 8) rfl c7
        refine w_x (ci := 13) rfl rfl rfl (fun _ _ => rfl) rfl rfl (fun fr lo h1 h2 => cx_ok h1 h2 rfl) (by exact ch_thr (by decide) rfl) ?_
        exact ⟨hx, Xk_i⟩
set_option maxRecDepth 100000 in
theorem m_167z {x : Int32} (F : frK C) : Wd L xs (d + 9) y_167 (0, [(0, .ref 100), (1, .int x), (2, .ref 240)], [], MH C t, sl) (fun v h n => ((0 ≤ x.toInt ∧ x.toInt < 7) ∧ some (.int 0) = v ∧ MH (sJ C 140 0 0) t = h ∧ sl = n) ∨ (¬ (0 ≤ x.toInt ∧ x.toInt < 7) ∧ some (.int 1) = v ∧ MH C (t ++ [.inr (13, [])]) = h ∧ sl + 6 = n)) nX := by
  refine w_p (pc1 := 1) rfl rfl ?_
  refine w_p (pc1 := 2) (st1 := .int 0 :: _) rfl rfl ?_
  refine w_p (pc1 := 3) rfl rfl ?_
  refine w_p (pc1 := 4) rfl rfl ?_
  refine w_ji (pc1 := 7) (vs := [.ref 100, _]) (rest := [.int 0, .ref 240]) (m_168z (sl := 0) F) rfl rfl rfl (fun _ _ => rfl) rfl (by exact cl_v my_168 rfl rfl rfl (Nat.le_of_ble_eq_true rfl) rfl (MH_obj rfl rfl) rfl (by decide) rfl rfl) (by rfl) (Nat.le_of_ble_eq_true rfl) (Nat.le_of_ble_eq_true rfl) rfl (fun v h1 d1 hq => ?_) (fun a h1 d1 hq => ?_)
  · obtain ⟨hr, hv, hh, hn⟩ := hq
    subst hv; subst hh; subst hn
    refine w_p (pc1 := 8) (st1 := .long 0 :: _) rfl rfl ?_
    refine w_m0 (pc1 := 9) rfl rfl (h_ls rfl rfl rfl) rfl ?_
    refine w_p (pc1 := 15) rfl rfl ?_
    refine w_p (pc1 := 16) (st1 := .int 0 :: _) rfl rfl ?_
    refine w_r rfl rfl rfl (fun _ _ => rfl) cr_int ?_
    exact Or.inl ⟨hr, rfl, rfl, rfl⟩
  · rcases hq with ⟨hr, ha, hh, hn⟩
    · subst ha; subst hh; subst hn
      refine Or.inr ⟨12, ch_new (by decide) rfl, ?_⟩
      refine w_p (pc1 := 13) (al1 := [(3, _), (0, .ref 100), (1, _), (2, .ref 240)]) rfl rfl ?_
      refine w_p (pc1 := 14) (st1 := .int 1 :: _) rfl rfl ?_
      refine w_r rfl rfl rfl (fun _ _ => rfl) cr_int ?_
      exact Or.inr ⟨hr, rfl, rfl, rfl⟩
set_option maxRecDepth 100000 in
theorem m_172z {x : Int32} {a : Int64} (F : frK C) : Wd L xs (d + 9) y_172 (0, [(0, .ref 100), (1, .int x), (2, .long a), (4, .ref 240)], [], MH C t, sl) (fun v h n => ((0 ≤ x.toInt ∧ x.toInt < 9) ∧ some (.int 0) = v ∧ MH (sJ C 140 0 (-1)) t = h ∧ sl = n) ∨ (¬ (0 ≤ x.toInt ∧ x.toInt < 9) ∧ some (.int 1) = v ∧ MH C (t ++ [.inr (13, [])]) = h ∧ sl + 6 = n)) nX := by
  refine w_p (pc1 := 2) rfl rfl ?_
  refine w_p (pc1 := 3) (st1 := .int 0 :: _) rfl rfl ?_
  refine w_p (pc1 := 4) rfl rfl ?_
  refine w_p (pc1 := 5) rfl rfl ?_
  refine w_p (pc1 := 6) rfl rfl ?_
  refine w_ji (pc1 := 9) (vs := [.ref 100, _, _]) (rest := [.int 0, .ref 240]) (m_173z (sl := 0) F) rfl rfl rfl (fun _ _ => rfl) rfl (by exact cl_v my_173 rfl rfl rfl (Nat.le_of_ble_eq_true rfl) rfl (MH_obj rfl rfl) rfl (by decide) rfl rfl) (by rfl) (Nat.le_of_ble_eq_true rfl) (Nat.le_of_ble_eq_true rfl) rfl (fun v h1 d1 hq => ?_) (fun a h1 d1 hq => ?_)
  · obtain ⟨hr, hv, hh, hn⟩ := hq
    subst hv; subst hh; subst hn
    refine w_p (pc1 := 10) (st1 := .long (-1) :: _) rfl rfl ?_
    refine w_m0 (pc1 := 11) rfl rfl (h_ls rfl rfl rfl) rfl ?_
    refine w_p (pc1 := 18) rfl rfl ?_
    refine w_p (pc1 := 19) (st1 := .int 0 :: _) rfl rfl ?_
    refine w_r rfl rfl rfl (fun _ _ => rfl) cr_int ?_
    exact Or.inl ⟨hr, rfl, rfl, rfl⟩
  · rcases hq with ⟨hr, ha, hh, hn⟩
    · subst ha; subst hh; subst hn
      refine Or.inr ⟨14, ch_new (by decide) rfl, ?_⟩
      refine w_p (pc1 := 16) (al1 := [(5, _), (0, .ref 100), (1, _), (2, _), (4, .ref 240)]) rfl rfl ?_
      refine w_p (pc1 := 17) (st1 := .int 1 :: _) rfl rfl ?_
      refine w_r rfl rfl rfl (fun _ _ => rfl) cr_int ?_
      exact Or.inr ⟨hr, rfl, rfl, rfl⟩
set_option maxRecDepth 100000 in
theorem m_174n {x w : Int32} (F : frK C) : Wd L xs (d + 7) y_174 (0, [(0, .ref 100), (1, .int x), (2, .int w), (3, .ref 240)], [], MH C t, sl) (Rt (some (.int 1)) (MH C (t ++ [.inr (14, [])])) (sl + 6)) nX := by
  refine w_p (pc1 := 1) rfl rfl ?_
  refine w_p (pc1 := 2) (st1 := .int 0 :: _) rfl rfl ?_
  refine w_p (pc1 := 3) rfl rfl ?_
  refine w_p (pc1 := 4) rfl rfl ?_
  refine w_p (pc1 := 5) rfl rfl ?_
  refine w_ji (pc1 := 8) (vs := [.ref 100, _, _]) (rest := [.int 0, .ref 240]) (m_175n (sl := 0) F) rfl rfl rfl (fun _ _ => rfl) rfl (by exact cl_v my_175 rfl rfl rfl (Nat.le_of_ble_eq_true rfl) rfl (MH_obj rfl rfl) rfl (by decide) rfl rfl) (by rfl) (Nat.le_of_ble_eq_true rfl) (Nat.le_of_ble_eq_true rfl) rfl (fun v h1 d1 hq => ?_) (fun a h1 d1 hq => ?_)
  · exact hq.elim
  · rcases hq with ⟨ha, hh, hn⟩
    · subst ha; subst hh; subst hn
      refine Or.inr ⟨12, ch_new (by decide) rfl, ?_⟩
      refine w_p (pc1 := 14) (al1 := [(4, _), (0, .ref 100), (1, _), (2, _), (3, .ref 240)]) rfl rfl ?_
      refine w_p (pc1 := 15) (st1 := .int 1 :: _) rfl rfl ?_
      refine w_r rfl rfl rfl (fun _ _ => rfl) cr_int ?_
      exact ⟨rfl, rfl, rfl⟩
set_option maxRecDepth 100000 in
theorem m_176n {x w z : Int32} (F : frK C) : Wd L xs (d + 7) y_176 (0, [(0, .ref 100), (1, .int x), (2, .int w), (3, .int z), (4, .ref 240)], [], MH C t, sl) (Rt (some (.int 1)) (MH C (t ++ [.inr (14, [])])) (sl + 6)) nX := by
  refine w_p (pc1 := 2) rfl rfl ?_
  refine w_p (pc1 := 3) (st1 := .int 0 :: _) rfl rfl ?_
  refine w_p (pc1 := 4) rfl rfl ?_
  refine w_p (pc1 := 5) rfl rfl ?_
  refine w_p (pc1 := 6) rfl rfl ?_
  refine w_p (pc1 := 7) rfl rfl ?_
  refine w_ji (pc1 := 10) (vs := [.ref 100, _, _, _]) (rest := [.int 0, .ref 240]) (m_177n (sl := 0) F) rfl rfl rfl (fun _ _ => rfl) rfl (by exact cl_v my_177 rfl rfl rfl (Nat.le_of_ble_eq_true rfl) rfl (MH_obj rfl rfl) rfl (by decide) rfl rfl) (by rfl) (Nat.le_of_ble_eq_true rfl) (Nat.le_of_ble_eq_true rfl) rfl (fun v h1 d1 hq => ?_) (fun a h1 d1 hq => ?_)
  · exact hq.elim
  · rcases hq with ⟨ha, hh, hn⟩
    · subst ha; subst hh; subst hn
      refine Or.inr ⟨14, ch_new (by decide) rfl, ?_⟩
      refine w_p (pc1 := 16) (al1 := [(5, _), (0, .ref 100), (1, _), (2, _), (3, _), (4, .ref 240)]) rfl rfl ?_
      refine w_p (pc1 := 17) (st1 := .int 1 :: _) rfl rfl ?_
      refine w_r rfl rfl rfl (fun _ _ => rfl) cr_int ?_
      exact ⟨rfl, rfl, rfl⟩
set_option maxRecDepth 100000 in
theorem m_178n {x w : Int32} (F : frK C) : Wd L xs (d + 7) y_178 (0, [(0, .ref 100), (1, .int x), (2, .int w), (3, .ref 240)], [], MH C t, sl) (Rt (some (.int 1)) (MH C (t ++ [.inr (14, [])])) (sl + 6)) nX := by
  refine w_p (pc1 := 1) rfl rfl ?_
  refine w_p (pc1 := 2) (st1 := .int 0 :: _) rfl rfl ?_
  refine w_p (pc1 := 3) rfl rfl ?_
  refine w_p (pc1 := 4) rfl rfl ?_
  refine w_p (pc1 := 5) rfl rfl ?_
  refine w_ji (pc1 := 8) (vs := [.ref 100, _, _]) (rest := [.int 0, .ref 240]) (m_179n (sl := 0) F) rfl rfl rfl (fun _ _ => rfl) rfl (by exact cl_v my_179 rfl rfl rfl (Nat.le_of_ble_eq_true rfl) rfl (MH_obj rfl rfl) rfl (by decide) rfl rfl) (by rfl) (Nat.le_of_ble_eq_true rfl) (Nat.le_of_ble_eq_true rfl) rfl (fun v h1 d1 hq => ?_) (fun a h1 d1 hq => ?_)
  · exact hq.elim
  · rcases hq with ⟨ha, hh, hn⟩
    · subst ha; subst hh; subst hn
      refine Or.inr ⟨13, ch_new (by decide) rfl, ?_⟩
      refine w_p (pc1 := 15) (al1 := [(4, _), (0, .ref 100), (1, _), (2, _), (3, .ref 240)]) rfl rfl ?_
      refine w_p (pc1 := 16) (st1 := .int 1 :: _) rfl rfl ?_
      refine w_r rfl rfl rfl (fun _ _ => rfl) cr_int ?_
      exact ⟨rfl, rfl, rfl⟩
set_option maxRecDepth 100000 in
theorem m_181n {x w : Int32} (F : frK C) : Wd L xs (d + 7) y_181 (0, [(0, .ref 100), (1, .int x), (2, .int w), (3, .ref 240)], [], MH C t, sl) (Rt (some (.int 1)) (MH C (t ++ [.inr (14, [])])) (sl + 6)) nX := by
  refine w_p (pc1 := 1) rfl rfl ?_
  refine w_p (pc1 := 2) (st1 := .int 0 :: _) rfl rfl ?_
  refine w_p (pc1 := 3) rfl rfl ?_
  refine w_p (pc1 := 4) rfl rfl ?_
  refine w_p (pc1 := 5) rfl rfl ?_
  refine w_ji (pc1 := 8) (vs := [.ref 100, _, _]) (rest := [.int 0, .ref 240]) (m_182n (sl := 0) F) rfl rfl rfl (fun _ _ => rfl) rfl (by exact cl_v my_182 rfl rfl rfl (Nat.le_of_ble_eq_true rfl) rfl (MH_obj rfl rfl) rfl (by decide) rfl rfl) (by rfl) (Nat.le_of_ble_eq_true rfl) (Nat.le_of_ble_eq_true rfl) rfl (fun v h1 d1 hq => ?_) (fun a h1 d1 hq => ?_)
  · exact hq.elim
  · rcases hq with ⟨ha, hh, hn⟩
    · subst ha; subst hh; subst hn
      refine Or.inr ⟨12, ch_new (by decide) rfl, ?_⟩
      refine w_p (pc1 := 14) (al1 := [(4, _), (0, .ref 100), (1, _), (2, _), (3, .ref 240)]) rfl rfl ?_
      refine w_p (pc1 := 15) (st1 := .int 1 :: _) rfl rfl ?_
      refine w_r rfl rfl rfl (fun _ _ => rfl) cr_int ?_
      exact ⟨rfl, rfl, rfl⟩
set_option maxRecDepth 100000 in
theorem m_183n {x : Int32} (F : frK C) : Wd L xs (d + 7) y_183 (0, [(0, .ref 100), (1, .int x), (2, .ref 240)], [], MH C t, sl) (Rt (some (.int 1)) (MH C (t ++ [.inr (14, [])])) (sl + 6)) nX := by
  refine w_p (pc1 := 1) rfl rfl ?_
  refine w_p (pc1 := 2) (st1 := .int 0 :: _) rfl rfl ?_
  refine w_p (pc1 := 3) rfl rfl ?_
  refine w_p (pc1 := 4) rfl rfl ?_
  refine w_ji (pc1 := 7) (vs := [.ref 100, _]) (rest := [.int 0, .ref 240]) (m_184n (sl := 0) F) rfl rfl rfl (fun _ _ => rfl) rfl (by exact cl_v my_184 rfl rfl rfl (Nat.le_of_ble_eq_true rfl) rfl (MH_obj rfl rfl) rfl (by decide) rfl rfl) (by rfl) (Nat.le_of_ble_eq_true rfl) (Nat.le_of_ble_eq_true rfl) rfl (fun v h1 d1 hq => ?_) (fun a h1 d1 hq => ?_)
  · exact hq.elim
  · rcases hq with ⟨ha, hh, hn⟩
    · subst ha; subst hh; subst hn
      refine Or.inr ⟨12, ch_new (by decide) rfl, ?_⟩
      refine w_p (pc1 := 13) (al1 := [(3, _), (0, .ref 100), (1, _), (2, .ref 240)]) rfl rfl ?_
      refine w_p (pc1 := 14) (st1 := .int 1 :: _) rfl rfl ?_
      refine w_r rfl rfl rfl (fun _ _ => rfl) cr_int ?_
      exact ⟨rfl, rfl, rfl⟩
set_option maxRecDepth 100000 in
theorem m_208z {a : Int64} (F : frM C) : Wd L xs d y_208 (0, [(0, .ref 176), (1, .long a)], [], MH C t, sl) (Rt (some (.int (-1))) (MH C t) sl) nX := by
  refine w_p (pc1 := 1) (st1 := .int 0 :: _) rfl rfl ?_
  refine w_p (pc1 := 2) (al1 := [(3, .int 0), (0, .ref 176), (1, _)]) rfl rfl ?_
  refine w_p (pc1 := 3) rfl rfl ?_
  refine w_p (pc1 := 5) (st1 := .int 6 :: _) rfl rfl ?_
  refine w_f (a := 36) (b := 8) rfl rfl rfl ?_
  refine w_p (pc1 := 9) rfl rfl ?_
  refine w_m0 (pc1 := 12) rfl rfl (h_gC rfl rfl rfl rfl) rfl ?_
  refine w_p (pc1 := 13) rfl rfl ?_
  refine w_m0 (pc1 := 14) rfl rfl (h_bl rfl rfl (by decide) rfl) rfl ?_
  refine w_t (a := 30) (b := 17) (cb_eq_t (by exact F.1 _ (by decide))) rfl rfl ?_
  refine w_p (pc1 := 33) (al1 := [(3, .int 1), (0, .ref 176), (1, _)]) rfl rfl ?_
  refine w_p (pc1 := 2) rfl rfl ?_
  refine w_p (pc1 := 3) rfl rfl ?_
  refine w_p (pc1 := 5) (st1 := .int 6 :: _) rfl rfl ?_
  refine w_f (a := 36) (b := 8) rfl rfl rfl ?_
  refine w_p (pc1 := 9) rfl rfl ?_
  refine w_m0 (pc1 := 12) rfl rfl (h_gC rfl rfl rfl rfl) rfl ?_
  refine w_p (pc1 := 13) rfl rfl ?_
  refine w_m0 (pc1 := 14) rfl rfl (h_bl rfl rfl (by decide) rfl) rfl ?_
  refine w_t (a := 30) (b := 17) (cb_eq_t (by exact F.1 _ (by decide))) rfl rfl ?_
  refine w_p (pc1 := 33) (al1 := [(3, .int 2), (0, .ref 176), (1, _)]) rfl rfl ?_
  refine w_p (pc1 := 2) rfl rfl ?_
  refine w_p (pc1 := 3) rfl rfl ?_
  refine w_p (pc1 := 5) (st1 := .int 6 :: _) rfl rfl ?_
  refine w_f (a := 36) (b := 8) rfl rfl rfl ?_
  refine w_p (pc1 := 9) rfl rfl ?_
  refine w_m0 (pc1 := 12) rfl rfl (h_gC rfl rfl rfl rfl) rfl ?_
  refine w_p (pc1 := 13) rfl rfl ?_
  refine w_m0 (pc1 := 14) rfl rfl (h_bl rfl rfl (by decide) rfl) rfl ?_
  refine w_t (a := 30) (b := 17) (cb_eq_t (by exact F.1 _ (by decide))) rfl rfl ?_
  refine w_p (pc1 := 33) (al1 := [(3, .int 3), (0, .ref 176), (1, _)]) rfl rfl ?_
  refine w_p (pc1 := 2) rfl rfl ?_
  refine w_p (pc1 := 3) rfl rfl ?_
  refine w_p (pc1 := 5) (st1 := .int 6 :: _) rfl rfl ?_
  refine w_f (a := 36) (b := 8) rfl rfl rfl ?_
  refine w_p (pc1 := 9) rfl rfl ?_
  refine w_m0 (pc1 := 12) rfl rfl (h_gC rfl rfl rfl rfl) rfl ?_
  refine w_p (pc1 := 13) rfl rfl ?_
  refine w_m0 (pc1 := 14) rfl rfl (h_bl rfl rfl (by decide) rfl) rfl ?_
  refine w_t (a := 30) (b := 17) (cb_eq_t (by exact F.1 _ (by decide))) rfl rfl ?_
  refine w_p (pc1 := 33) (al1 := [(3, .int 4), (0, .ref 176), (1, _)]) rfl rfl ?_
  refine w_p (pc1 := 2) rfl rfl ?_
  refine w_p (pc1 := 3) rfl rfl ?_
  refine w_p (pc1 := 5) (st1 := .int 6 :: _) rfl rfl ?_
  refine w_f (a := 36) (b := 8) rfl rfl rfl ?_
  refine w_p (pc1 := 9) rfl rfl ?_
  refine w_m0 (pc1 := 12) rfl rfl (h_gC rfl rfl rfl rfl) rfl ?_
  refine w_p (pc1 := 13) rfl rfl ?_
  refine w_m0 (pc1 := 14) rfl rfl (h_bl rfl rfl (by decide) rfl) rfl ?_
  refine w_t (a := 30) (b := 17) (cb_eq_t (by exact F.1 _ (by decide))) rfl rfl ?_
  refine w_p (pc1 := 33) (al1 := [(3, .int 5), (0, .ref 176), (1, _)]) rfl rfl ?_
  refine w_p (pc1 := 2) rfl rfl ?_
  refine w_p (pc1 := 3) rfl rfl ?_
  refine w_p (pc1 := 5) (st1 := .int 6 :: _) rfl rfl ?_
  refine w_f (a := 36) (b := 8) rfl rfl rfl ?_
  refine w_p (pc1 := 9) rfl rfl ?_
  refine w_m0 (pc1 := 12) rfl rfl (h_gC rfl rfl rfl rfl) rfl ?_
  refine w_p (pc1 := 13) rfl rfl ?_
  refine w_m0 (pc1 := 14) rfl rfl (h_bl rfl rfl (by decide) rfl) rfl ?_
  refine w_t (a := 30) (b := 17) (cb_eq_t (by exact F.1 _ (by decide))) rfl rfl ?_
  refine w_p (pc1 := 33) (al1 := [(3, .int 6), (0, .ref 176), (1, _)]) rfl rfl ?_
  refine w_p (pc1 := 2) rfl rfl ?_
  refine w_p (pc1 := 3) rfl rfl ?_
  refine w_p (pc1 := 5) (st1 := .int 6 :: _) rfl rfl ?_
  refine w_t (a := 36) (b := 8) rfl rfl rfl ?_
  refine w_p (pc1 := 37) (st1 := .int (-1) :: _) rfl rfl ?_
  refine w_r rfl rfl rfl (fun _ _ => rfl) cr_int ?_
  exact ⟨rfl, rfl, rfl⟩
set_option maxRecDepth 100000 in
theorem m_237z {a : Int64} (F : frM C) : Wd L xs d y_237 (0, [(0, .ref 176), (1, .long a)], [], MH C t, sl) (Rt (some (.int (-1))) (MH C t) sl) nX := by
  refine w_p (pc1 := 1) (st1 := .int 0 :: _) rfl rfl ?_
  refine w_p (pc1 := 2) (al1 := [(3, .int 0), (0, .ref 176), (1, _)]) rfl rfl ?_
  refine w_p (pc1 := 3) rfl rfl ?_
  refine w_p (pc1 := 5) (st1 := .int 8 :: _) rfl rfl ?_
  refine w_f (a := 36) (b := 8) rfl rfl rfl ?_
  refine w_p (pc1 := 9) rfl rfl ?_
  refine w_m0 (pc1 := 12) rfl rfl (h_gC rfl rfl rfl rfl) rfl ?_
  refine w_p (pc1 := 13) rfl rfl ?_
  refine w_m0 (pc1 := 14) rfl rfl (h_bl rfl rfl (by decide) rfl) rfl ?_
  refine w_t (a := 30) (b := 17) (cb_eq_t (by exact F.2.2.1 _ (by decide))) rfl rfl ?_
  refine w_p (pc1 := 33) (al1 := [(3, .int 1), (0, .ref 176), (1, _)]) rfl rfl ?_
  refine w_p (pc1 := 2) rfl rfl ?_
  refine w_p (pc1 := 3) rfl rfl ?_
  refine w_p (pc1 := 5) (st1 := .int 8 :: _) rfl rfl ?_
  refine w_f (a := 36) (b := 8) rfl rfl rfl ?_
  refine w_p (pc1 := 9) rfl rfl ?_
  refine w_m0 (pc1 := 12) rfl rfl (h_gC rfl rfl rfl rfl) rfl ?_
  refine w_p (pc1 := 13) rfl rfl ?_
  refine w_m0 (pc1 := 14) rfl rfl (h_bl rfl rfl (by decide) rfl) rfl ?_
  refine w_t (a := 30) (b := 17) (cb_eq_t (by exact F.2.2.1 _ (by decide))) rfl rfl ?_
  refine w_p (pc1 := 33) (al1 := [(3, .int 2), (0, .ref 176), (1, _)]) rfl rfl ?_
  refine w_p (pc1 := 2) rfl rfl ?_
  refine w_p (pc1 := 3) rfl rfl ?_
  refine w_p (pc1 := 5) (st1 := .int 8 :: _) rfl rfl ?_
  refine w_f (a := 36) (b := 8) rfl rfl rfl ?_
  refine w_p (pc1 := 9) rfl rfl ?_
  refine w_m0 (pc1 := 12) rfl rfl (h_gC rfl rfl rfl rfl) rfl ?_
  refine w_p (pc1 := 13) rfl rfl ?_
  refine w_m0 (pc1 := 14) rfl rfl (h_bl rfl rfl (by decide) rfl) rfl ?_
  refine w_t (a := 30) (b := 17) (cb_eq_t (by exact F.2.2.1 _ (by decide))) rfl rfl ?_
  refine w_p (pc1 := 33) (al1 := [(3, .int 3), (0, .ref 176), (1, _)]) rfl rfl ?_
  refine w_p (pc1 := 2) rfl rfl ?_
  refine w_p (pc1 := 3) rfl rfl ?_
  refine w_p (pc1 := 5) (st1 := .int 8 :: _) rfl rfl ?_
  refine w_f (a := 36) (b := 8) rfl rfl rfl ?_
  refine w_p (pc1 := 9) rfl rfl ?_
  refine w_m0 (pc1 := 12) rfl rfl (h_gC rfl rfl rfl rfl) rfl ?_
  refine w_p (pc1 := 13) rfl rfl ?_
  refine w_m0 (pc1 := 14) rfl rfl (h_bl rfl rfl (by decide) rfl) rfl ?_
  refine w_t (a := 30) (b := 17) (cb_eq_t (by exact F.2.2.1 _ (by decide))) rfl rfl ?_
  refine w_p (pc1 := 33) (al1 := [(3, .int 4), (0, .ref 176), (1, _)]) rfl rfl ?_
  refine w_p (pc1 := 2) rfl rfl ?_
  refine w_p (pc1 := 3) rfl rfl ?_
  refine w_p (pc1 := 5) (st1 := .int 8 :: _) rfl rfl ?_
  refine w_f (a := 36) (b := 8) rfl rfl rfl ?_
  refine w_p (pc1 := 9) rfl rfl ?_
  refine w_m0 (pc1 := 12) rfl rfl (h_gC rfl rfl rfl rfl) rfl ?_
  refine w_p (pc1 := 13) rfl rfl ?_
  refine w_m0 (pc1 := 14) rfl rfl (h_bl rfl rfl (by decide) rfl) rfl ?_
  refine w_t (a := 30) (b := 17) (cb_eq_t (by exact F.2.2.1 _ (by decide))) rfl rfl ?_
  refine w_p (pc1 := 33) (al1 := [(3, .int 5), (0, .ref 176), (1, _)]) rfl rfl ?_
  refine w_p (pc1 := 2) rfl rfl ?_
  refine w_p (pc1 := 3) rfl rfl ?_
  refine w_p (pc1 := 5) (st1 := .int 8 :: _) rfl rfl ?_
  refine w_f (a := 36) (b := 8) rfl rfl rfl ?_
  refine w_p (pc1 := 9) rfl rfl ?_
  refine w_m0 (pc1 := 12) rfl rfl (h_gC rfl rfl rfl rfl) rfl ?_
  refine w_p (pc1 := 13) rfl rfl ?_
  refine w_m0 (pc1 := 14) rfl rfl (h_bl rfl rfl (by decide) rfl) rfl ?_
  refine w_t (a := 30) (b := 17) (cb_eq_t (by exact F.2.2.1 _ (by decide))) rfl rfl ?_
  refine w_p (pc1 := 33) (al1 := [(3, .int 6), (0, .ref 176), (1, _)]) rfl rfl ?_
  refine w_p (pc1 := 2) rfl rfl ?_
  refine w_p (pc1 := 3) rfl rfl ?_
  refine w_p (pc1 := 5) (st1 := .int 8 :: _) rfl rfl ?_
  refine w_f (a := 36) (b := 8) rfl rfl rfl ?_
  refine w_p (pc1 := 9) rfl rfl ?_
  refine w_m0 (pc1 := 12) rfl rfl (h_gC rfl rfl rfl rfl) rfl ?_
  refine w_p (pc1 := 13) rfl rfl ?_
  refine w_m0 (pc1 := 14) rfl rfl (h_bl rfl rfl (by decide) rfl) rfl ?_
  refine w_t (a := 30) (b := 17) (cb_eq_t (by exact F.2.2.1 _ (by decide))) rfl rfl ?_
  refine w_p (pc1 := 33) (al1 := [(3, .int 7), (0, .ref 176), (1, _)]) rfl rfl ?_
  refine w_p (pc1 := 2) rfl rfl ?_
  refine w_p (pc1 := 3) rfl rfl ?_
  refine w_p (pc1 := 5) (st1 := .int 8 :: _) rfl rfl ?_
  refine w_f (a := 36) (b := 8) rfl rfl rfl ?_
  refine w_p (pc1 := 9) rfl rfl ?_
  refine w_m0 (pc1 := 12) rfl rfl (h_gC rfl rfl rfl rfl) rfl ?_
  refine w_p (pc1 := 13) rfl rfl ?_
  refine w_m0 (pc1 := 14) rfl rfl (h_bl rfl rfl (by decide) rfl) rfl ?_
  refine w_t (a := 30) (b := 17) (cb_eq_t (by exact F.2.2.1 _ (by decide))) rfl rfl ?_
  refine w_p (pc1 := 33) (al1 := [(3, .int 8), (0, .ref 176), (1, _)]) rfl rfl ?_
  refine w_p (pc1 := 2) rfl rfl ?_
  refine w_p (pc1 := 3) rfl rfl ?_
  refine w_p (pc1 := 5) (st1 := .int 8 :: _) rfl rfl ?_
  refine w_t (a := 36) (b := 8) rfl rfl rfl ?_
  refine w_p (pc1 := 37) (st1 := .int (-1) :: _) rfl rfl ?_
  refine w_r rfl rfl rfl (fun _ _ => rfl) cr_int ?_
  exact ⟨rfl, rfl, rfl⟩
set_option maxRecDepth 100000 in
theorem m_246z {a : Int64} (F : frM C) : Wd L xs d y_246 (0, [(0, .ref 176), (1, .long a)], [], MH C t, sl) (Rt (some (.int (-1))) (MH C t) sl) nX := by
  refine w_p (pc1 := 1) (st1 := .int 0 :: _) rfl rfl ?_
  refine w_p (pc1 := 2) (al1 := [(3, .int 0), (0, .ref 176), (1, _)]) rfl rfl ?_
  refine w_p (pc1 := 3) rfl rfl ?_
  refine w_p (pc1 := 4) rfl rfl ?_
  refine w_m0 (pc1 := 7) rfl rfl (h_gI rfl rfl rfl rfl rfl) rfl ?_
  refine w_t (a := 29) (b := 10) (cb_ge_t (by rw [F.2.2.2.1]; decide)) rfl rfl ?_
  refine w_p (pc1 := 30) (st1 := .int (-1) :: _) rfl rfl ?_
  refine w_r rfl rfl rfl (fun _ _ => rfl) cr_int ?_
  exact ⟨rfl, rfl, rfl⟩
set_option maxRecDepth 100000 in
theorem m_194z (F : frM C) : Wd L xs d y_194 (0, [(0, .ref 176)], [], MH C t, sl) (Rt (some (.int 0)) (MH C t) sl) nX := by
  refine w_p (pc1 := 1) (st1 := .int 0 :: _) rfl rfl ?_
  refine w_p (pc1 := 2) (al1 := [(1, .int 0), (0, .ref 176)]) rfl rfl ?_
  refine w_p (pc1 := 3) (st1 := .int 0 :: _) rfl rfl ?_
  refine w_p (pc1 := 4) (al1 := [(2, .int 0), (1, .int 0), (0, .ref 176)]) rfl rfl ?_
  refine w_p (pc1 := 5) rfl rfl ?_
  refine w_p (pc1 := 7) (st1 := .int 24 :: _) rfl rfl ?_
  refine w_f (a := 38) (b := 10) rfl rfl rfl ?_
  refine w_p (pc1 := 11) rfl rfl ?_
  refine w_p (pc1 := 12) rfl rfl ?_
  refine w_m0 (pc1 := 15) rfl rfl (h_gC rfl rfl rfl rfl) rfl ?_
  refine w_p (pc1 := 16) rfl rfl ?_
  refine w_m0 (pc1 := 17) rfl rfl (h_bl rfl rfl (by decide) rfl) rfl ?_
  refine w_t (a := 29) (b := 20) (cb_eq_t (by exact F.2.1 _ (by decide))) rfl rfl ?_
  refine w_p (pc1 := 30) (st1 := .int 0 :: _) rfl rfl ?_
  refine w_p (pc1 := 31) (st1 := .int 0 :: _) rfl rfl ?_
  refine w_p (pc1 := 32) (al1 := [(1, .int 0), (2, .int 0), (0, .ref 176)]) rfl rfl ?_
  refine w_p (pc1 := 35) (al1 := [(2, .int 1), (1, .int 0), (0, .ref 176)]) rfl rfl ?_
  refine w_p (pc1 := 4) rfl rfl ?_
  refine w_p (pc1 := 5) rfl rfl ?_
  refine w_p (pc1 := 7) (st1 := .int 24 :: _) rfl rfl ?_
  refine w_f (a := 38) (b := 10) rfl rfl rfl ?_
  refine w_p (pc1 := 11) rfl rfl ?_
  refine w_p (pc1 := 12) rfl rfl ?_
  refine w_m0 (pc1 := 15) rfl rfl (h_gC rfl rfl rfl rfl) rfl ?_
  refine w_p (pc1 := 16) rfl rfl ?_
  refine w_m0 (pc1 := 17) rfl rfl (h_bl rfl rfl (by decide) rfl) rfl ?_
  refine w_t (a := 29) (b := 20) (cb_eq_t (by exact F.2.1 _ (by decide))) rfl rfl ?_
  refine w_p (pc1 := 30) (st1 := .int 0 :: _) rfl rfl ?_
  refine w_p (pc1 := 31) (st1 := .int 0 :: _) rfl rfl ?_
  refine w_p (pc1 := 32) (al1 := [(1, .int 0), (2, .int 1), (0, .ref 176)]) rfl rfl ?_
  refine w_p (pc1 := 35) (al1 := [(2, .int 2), (1, .int 0), (0, .ref 176)]) rfl rfl ?_
  refine w_p (pc1 := 4) rfl rfl ?_
  refine w_p (pc1 := 5) rfl rfl ?_
  refine w_p (pc1 := 7) (st1 := .int 24 :: _) rfl rfl ?_
  refine w_f (a := 38) (b := 10) rfl rfl rfl ?_
  refine w_p (pc1 := 11) rfl rfl ?_
  refine w_p (pc1 := 12) rfl rfl ?_
  refine w_m0 (pc1 := 15) rfl rfl (h_gC rfl rfl rfl rfl) rfl ?_
  refine w_p (pc1 := 16) rfl rfl ?_
  refine w_m0 (pc1 := 17) rfl rfl (h_bl rfl rfl (by decide) rfl) rfl ?_
  refine w_t (a := 29) (b := 20) (cb_eq_t (by exact F.2.1 _ (by decide))) rfl rfl ?_
  refine w_p (pc1 := 30) (st1 := .int 0 :: _) rfl rfl ?_
  refine w_p (pc1 := 31) (st1 := .int 0 :: _) rfl rfl ?_
  refine w_p (pc1 := 32) (al1 := [(1, .int 0), (2, .int 2), (0, .ref 176)]) rfl rfl ?_
  refine w_p (pc1 := 35) (al1 := [(2, .int 3), (1, .int 0), (0, .ref 176)]) rfl rfl ?_
  refine w_p (pc1 := 4) rfl rfl ?_
  refine w_p (pc1 := 5) rfl rfl ?_
  refine w_p (pc1 := 7) (st1 := .int 24 :: _) rfl rfl ?_
  refine w_f (a := 38) (b := 10) rfl rfl rfl ?_
  refine w_p (pc1 := 11) rfl rfl ?_
  refine w_p (pc1 := 12) rfl rfl ?_
  refine w_m0 (pc1 := 15) rfl rfl (h_gC rfl rfl rfl rfl) rfl ?_
  refine w_p (pc1 := 16) rfl rfl ?_
  refine w_m0 (pc1 := 17) rfl rfl (h_bl rfl rfl (by decide) rfl) rfl ?_
  refine w_t (a := 29) (b := 20) (cb_eq_t (by exact F.2.1 _ (by decide))) rfl rfl ?_
  refine w_p (pc1 := 30) (st1 := .int 0 :: _) rfl rfl ?_
  refine w_p (pc1 := 31) (st1 := .int 0 :: _) rfl rfl ?_
  refine w_p (pc1 := 32) (al1 := [(1, .int 0), (2, .int 3), (0, .ref 176)]) rfl rfl ?_
  refine w_p (pc1 := 35) (al1 := [(2, .int 4), (1, .int 0), (0, .ref 176)]) rfl rfl ?_
  refine w_p (pc1 := 4) rfl rfl ?_
  refine w_p (pc1 := 5) rfl rfl ?_
  refine w_p (pc1 := 7) (st1 := .int 24 :: _) rfl rfl ?_
  refine w_f (a := 38) (b := 10) rfl rfl rfl ?_
  refine w_p (pc1 := 11) rfl rfl ?_
  refine w_p (pc1 := 12) rfl rfl ?_
  refine w_m0 (pc1 := 15) rfl rfl (h_gC rfl rfl rfl rfl) rfl ?_
  refine w_p (pc1 := 16) rfl rfl ?_
  refine w_m0 (pc1 := 17) rfl rfl (h_bl rfl rfl (by decide) rfl) rfl ?_
  refine w_t (a := 29) (b := 20) (cb_eq_t (by exact F.2.1 _ (by decide))) rfl rfl ?_
  refine w_p (pc1 := 30) (st1 := .int 0 :: _) rfl rfl ?_
  refine w_p (pc1 := 31) (st1 := .int 0 :: _) rfl rfl ?_
  refine w_p (pc1 := 32) (al1 := [(1, .int 0), (2, .int 4), (0, .ref 176)]) rfl rfl ?_
  refine w_p (pc1 := 35) (al1 := [(2, .int 5), (1, .int 0), (0, .ref 176)]) rfl rfl ?_
  refine w_p (pc1 := 4) rfl rfl ?_
  refine w_p (pc1 := 5) rfl rfl ?_
  refine w_p (pc1 := 7) (st1 := .int 24 :: _) rfl rfl ?_
  refine w_f (a := 38) (b := 10) rfl rfl rfl ?_
  refine w_p (pc1 := 11) rfl rfl ?_
  refine w_p (pc1 := 12) rfl rfl ?_
  refine w_m0 (pc1 := 15) rfl rfl (h_gC rfl rfl rfl rfl) rfl ?_
  refine w_p (pc1 := 16) rfl rfl ?_
  refine w_m0 (pc1 := 17) rfl rfl (h_bl rfl rfl (by decide) rfl) rfl ?_
  refine w_t (a := 29) (b := 20) (cb_eq_t (by exact F.2.1 _ (by decide))) rfl rfl ?_
  refine w_p (pc1 := 30) (st1 := .int 0 :: _) rfl rfl ?_
  refine w_p (pc1 := 31) (st1 := .int 0 :: _) rfl rfl ?_
  refine w_p (pc1 := 32) (al1 := [(1, .int 0), (2, .int 5), (0, .ref 176)]) rfl rfl ?_
  refine w_p (pc1 := 35) (al1 := [(2, .int 6), (1, .int 0), (0, .ref 176)]) rfl rfl ?_
  refine w_p (pc1 := 4) rfl rfl ?_
  refine w_p (pc1 := 5) rfl rfl ?_
  refine w_p (pc1 := 7) (st1 := .int 24 :: _) rfl rfl ?_
  refine w_f (a := 38) (b := 10) rfl rfl rfl ?_
  refine w_p (pc1 := 11) rfl rfl ?_
  refine w_p (pc1 := 12) rfl rfl ?_
  refine w_m0 (pc1 := 15) rfl rfl (h_gC rfl rfl rfl rfl) rfl ?_
  refine w_p (pc1 := 16) rfl rfl ?_
  refine w_m0 (pc1 := 17) rfl rfl (h_bl rfl rfl (by decide) rfl) rfl ?_
  refine w_t (a := 29) (b := 20) (cb_eq_t (by exact F.2.1 _ (by decide))) rfl rfl ?_
  refine w_p (pc1 := 30) (st1 := .int 0 :: _) rfl rfl ?_
  refine w_p (pc1 := 31) (st1 := .int 0 :: _) rfl rfl ?_
  refine w_p (pc1 := 32) (al1 := [(1, .int 0), (2, .int 6), (0, .ref 176)]) rfl rfl ?_
  refine w_p (pc1 := 35) (al1 := [(2, .int 7), (1, .int 0), (0, .ref 176)]) rfl rfl ?_
  refine w_p (pc1 := 4) rfl rfl ?_
  refine w_p (pc1 := 5) rfl rfl ?_
  refine w_p (pc1 := 7) (st1 := .int 24 :: _) rfl rfl ?_
  refine w_f (a := 38) (b := 10) rfl rfl rfl ?_
  refine w_p (pc1 := 11) rfl rfl ?_
  refine w_p (pc1 := 12) rfl rfl ?_
  refine w_m0 (pc1 := 15) rfl rfl (h_gC rfl rfl rfl rfl) rfl ?_
  refine w_p (pc1 := 16) rfl rfl ?_
  refine w_m0 (pc1 := 17) rfl rfl (h_bl rfl rfl (by decide) rfl) rfl ?_
  refine w_t (a := 29) (b := 20) (cb_eq_t (by exact F.2.1 _ (by decide))) rfl rfl ?_
  refine w_p (pc1 := 30) (st1 := .int 0 :: _) rfl rfl ?_
  refine w_p (pc1 := 31) (st1 := .int 0 :: _) rfl rfl ?_
  refine w_p (pc1 := 32) (al1 := [(1, .int 0), (2, .int 7), (0, .ref 176)]) rfl rfl ?_
  refine w_p (pc1 := 35) (al1 := [(2, .int 8), (1, .int 0), (0, .ref 176)]) rfl rfl ?_
  refine w_p (pc1 := 4) rfl rfl ?_
  refine w_p (pc1 := 5) rfl rfl ?_
  refine w_p (pc1 := 7) (st1 := .int 24 :: _) rfl rfl ?_
  refine w_f (a := 38) (b := 10) rfl rfl rfl ?_
  refine w_p (pc1 := 11) rfl rfl ?_
  refine w_p (pc1 := 12) rfl rfl ?_
  refine w_m0 (pc1 := 15) rfl rfl (h_gC rfl rfl rfl rfl) rfl ?_
  refine w_p (pc1 := 16) rfl rfl ?_
  refine w_m0 (pc1 := 17) rfl rfl (h_bl rfl rfl (by decide) rfl) rfl ?_
  refine w_t (a := 29) (b := 20) (cb_eq_t (by exact F.2.1 _ (by decide))) rfl rfl ?_
  refine w_p (pc1 := 30) (st1 := .int 0 :: _) rfl rfl ?_
  refine w_p (pc1 := 31) (st1 := .int 0 :: _) rfl rfl ?_
  refine w_p (pc1 := 32) (al1 := [(1, .int 0), (2, .int 8), (0, .ref 176)]) rfl rfl ?_
  refine w_p (pc1 := 35) (al1 := [(2, .int 9), (1, .int 0), (0, .ref 176)]) rfl rfl ?_
  refine w_p (pc1 := 4) rfl rfl ?_
  refine w_p (pc1 := 5) rfl rfl ?_
  refine w_p (pc1 := 7) (st1 := .int 24 :: _) rfl rfl ?_
  refine w_f (a := 38) (b := 10) rfl rfl rfl ?_
  refine w_p (pc1 := 11) rfl rfl ?_
  refine w_p (pc1 := 12) rfl rfl ?_
  refine w_m0 (pc1 := 15) rfl rfl (h_gC rfl rfl rfl rfl) rfl ?_
  refine w_p (pc1 := 16) rfl rfl ?_
  refine w_m0 (pc1 := 17) rfl rfl (h_bl rfl rfl (by decide) rfl) rfl ?_
  refine w_t (a := 29) (b := 20) (cb_eq_t (by exact F.2.1 _ (by decide))) rfl rfl ?_
  refine w_p (pc1 := 30) (st1 := .int 0 :: _) rfl rfl ?_
  refine w_p (pc1 := 31) (st1 := .int 0 :: _) rfl rfl ?_
  refine w_p (pc1 := 32) (al1 := [(1, .int 0), (2, .int 9), (0, .ref 176)]) rfl rfl ?_
  refine w_p (pc1 := 35) (al1 := [(2, .int 10), (1, .int 0), (0, .ref 176)]) rfl rfl ?_
  refine w_p (pc1 := 4) rfl rfl ?_
  refine w_p (pc1 := 5) rfl rfl ?_
  refine w_p (pc1 := 7) (st1 := .int 24 :: _) rfl rfl ?_
  refine w_f (a := 38) (b := 10) rfl rfl rfl ?_
  refine w_p (pc1 := 11) rfl rfl ?_
  refine w_p (pc1 := 12) rfl rfl ?_
  refine w_m0 (pc1 := 15) rfl rfl (h_gC rfl rfl rfl rfl) rfl ?_
  refine w_p (pc1 := 16) rfl rfl ?_
  refine w_m0 (pc1 := 17) rfl rfl (h_bl rfl rfl (by decide) rfl) rfl ?_
  refine w_t (a := 29) (b := 20) (cb_eq_t (by exact F.2.1 _ (by decide))) rfl rfl ?_
  refine w_p (pc1 := 30) (st1 := .int 0 :: _) rfl rfl ?_
  refine w_p (pc1 := 31) (st1 := .int 0 :: _) rfl rfl ?_
  refine w_p (pc1 := 32) (al1 := [(1, .int 0), (2, .int 10), (0, .ref 176)]) rfl rfl ?_
  refine w_p (pc1 := 35) (al1 := [(2, .int 11), (1, .int 0), (0, .ref 176)]) rfl rfl ?_
  refine w_p (pc1 := 4) rfl rfl ?_
  refine w_p (pc1 := 5) rfl rfl ?_
  refine w_p (pc1 := 7) (st1 := .int 24 :: _) rfl rfl ?_
  refine w_f (a := 38) (b := 10) rfl rfl rfl ?_
  refine w_p (pc1 := 11) rfl rfl ?_
  refine w_p (pc1 := 12) rfl rfl ?_
  refine w_m0 (pc1 := 15) rfl rfl (h_gC rfl rfl rfl rfl) rfl ?_
  refine w_p (pc1 := 16) rfl rfl ?_
  refine w_m0 (pc1 := 17) rfl rfl (h_bl rfl rfl (by decide) rfl) rfl ?_
  refine w_t (a := 29) (b := 20) (cb_eq_t (by exact F.2.1 _ (by decide))) rfl rfl ?_
  refine w_p (pc1 := 30) (st1 := .int 0 :: _) rfl rfl ?_
  refine w_p (pc1 := 31) (st1 := .int 0 :: _) rfl rfl ?_
  refine w_p (pc1 := 32) (al1 := [(1, .int 0), (2, .int 11), (0, .ref 176)]) rfl rfl ?_
  refine w_p (pc1 := 35) (al1 := [(2, .int 12), (1, .int 0), (0, .ref 176)]) rfl rfl ?_
  refine w_p (pc1 := 4) rfl rfl ?_
  refine w_p (pc1 := 5) rfl rfl ?_
  refine w_p (pc1 := 7) (st1 := .int 24 :: _) rfl rfl ?_
  refine w_f (a := 38) (b := 10) rfl rfl rfl ?_
  refine w_p (pc1 := 11) rfl rfl ?_
  refine w_p (pc1 := 12) rfl rfl ?_
  refine w_m0 (pc1 := 15) rfl rfl (h_gC rfl rfl rfl rfl) rfl ?_
  refine w_p (pc1 := 16) rfl rfl ?_
  refine w_m0 (pc1 := 17) rfl rfl (h_bl rfl rfl (by decide) rfl) rfl ?_
  refine w_t (a := 29) (b := 20) (cb_eq_t (by exact F.2.1 _ (by decide))) rfl rfl ?_
  refine w_p (pc1 := 30) (st1 := .int 0 :: _) rfl rfl ?_
  refine w_p (pc1 := 31) (st1 := .int 0 :: _) rfl rfl ?_
  refine w_p (pc1 := 32) (al1 := [(1, .int 0), (2, .int 12), (0, .ref 176)]) rfl rfl ?_
  refine w_p (pc1 := 35) (al1 := [(2, .int 13), (1, .int 0), (0, .ref 176)]) rfl rfl ?_
  refine w_p (pc1 := 4) rfl rfl ?_
  refine w_p (pc1 := 5) rfl rfl ?_
  refine w_p (pc1 := 7) (st1 := .int 24 :: _) rfl rfl ?_
  refine w_f (a := 38) (b := 10) rfl rfl rfl ?_
  refine w_p (pc1 := 11) rfl rfl ?_
  refine w_p (pc1 := 12) rfl rfl ?_
  refine w_m0 (pc1 := 15) rfl rfl (h_gC rfl rfl rfl rfl) rfl ?_
  refine w_p (pc1 := 16) rfl rfl ?_
  refine w_m0 (pc1 := 17) rfl rfl (h_bl rfl rfl (by decide) rfl) rfl ?_
  refine w_t (a := 29) (b := 20) (cb_eq_t (by exact F.2.1 _ (by decide))) rfl rfl ?_
  refine w_p (pc1 := 30) (st1 := .int 0 :: _) rfl rfl ?_
  refine w_p (pc1 := 31) (st1 := .int 0 :: _) rfl rfl ?_
  refine w_p (pc1 := 32) (al1 := [(1, .int 0), (2, .int 13), (0, .ref 176)]) rfl rfl ?_
  refine w_p (pc1 := 35) (al1 := [(2, .int 14), (1, .int 0), (0, .ref 176)]) rfl rfl ?_
  refine w_p (pc1 := 4) rfl rfl ?_
  refine w_p (pc1 := 5) rfl rfl ?_
  refine w_p (pc1 := 7) (st1 := .int 24 :: _) rfl rfl ?_
  refine w_f (a := 38) (b := 10) rfl rfl rfl ?_
  refine w_p (pc1 := 11) rfl rfl ?_
  refine w_p (pc1 := 12) rfl rfl ?_
  refine w_m0 (pc1 := 15) rfl rfl (h_gC rfl rfl rfl rfl) rfl ?_
  refine w_p (pc1 := 16) rfl rfl ?_
  refine w_m0 (pc1 := 17) rfl rfl (h_bl rfl rfl (by decide) rfl) rfl ?_
  refine w_t (a := 29) (b := 20) (cb_eq_t (by exact F.2.1 _ (by decide))) rfl rfl ?_
  refine w_p (pc1 := 30) (st1 := .int 0 :: _) rfl rfl ?_
  refine w_p (pc1 := 31) (st1 := .int 0 :: _) rfl rfl ?_
  refine w_p (pc1 := 32) (al1 := [(1, .int 0), (2, .int 14), (0, .ref 176)]) rfl rfl ?_
  refine w_p (pc1 := 35) (al1 := [(2, .int 15), (1, .int 0), (0, .ref 176)]) rfl rfl ?_
  refine w_p (pc1 := 4) rfl rfl ?_
  refine w_p (pc1 := 5) rfl rfl ?_
  refine w_p (pc1 := 7) (st1 := .int 24 :: _) rfl rfl ?_
  refine w_f (a := 38) (b := 10) rfl rfl rfl ?_
  refine w_p (pc1 := 11) rfl rfl ?_
  refine w_p (pc1 := 12) rfl rfl ?_
  refine w_m0 (pc1 := 15) rfl rfl (h_gC rfl rfl rfl rfl) rfl ?_
  refine w_p (pc1 := 16) rfl rfl ?_
  refine w_m0 (pc1 := 17) rfl rfl (h_bl rfl rfl (by decide) rfl) rfl ?_
  refine w_t (a := 29) (b := 20) (cb_eq_t (by exact F.2.1 _ (by decide))) rfl rfl ?_
  refine w_p (pc1 := 30) (st1 := .int 0 :: _) rfl rfl ?_
  refine w_p (pc1 := 31) (st1 := .int 0 :: _) rfl rfl ?_
  refine w_p (pc1 := 32) (al1 := [(1, .int 0), (2, .int 15), (0, .ref 176)]) rfl rfl ?_
  refine w_p (pc1 := 35) (al1 := [(2, .int 16), (1, .int 0), (0, .ref 176)]) rfl rfl ?_
  refine w_p (pc1 := 4) rfl rfl ?_
  refine w_p (pc1 := 5) rfl rfl ?_
  refine w_p (pc1 := 7) (st1 := .int 24 :: _) rfl rfl ?_
  refine w_f (a := 38) (b := 10) rfl rfl rfl ?_
  refine w_p (pc1 := 11) rfl rfl ?_
  refine w_p (pc1 := 12) rfl rfl ?_
  refine w_m0 (pc1 := 15) rfl rfl (h_gC rfl rfl rfl rfl) rfl ?_
  refine w_p (pc1 := 16) rfl rfl ?_
  refine w_m0 (pc1 := 17) rfl rfl (h_bl rfl rfl (by decide) rfl) rfl ?_
  refine w_t (a := 29) (b := 20) (cb_eq_t (by exact F.2.1 _ (by decide))) rfl rfl ?_
  refine w_p (pc1 := 30) (st1 := .int 0 :: _) rfl rfl ?_
  refine w_p (pc1 := 31) (st1 := .int 0 :: _) rfl rfl ?_
  refine w_p (pc1 := 32) (al1 := [(1, .int 0), (2, .int 16), (0, .ref 176)]) rfl rfl ?_
  refine w_p (pc1 := 35) (al1 := [(2, .int 17), (1, .int 0), (0, .ref 176)]) rfl rfl ?_
  refine w_p (pc1 := 4) rfl rfl ?_
  refine w_p (pc1 := 5) rfl rfl ?_
  refine w_p (pc1 := 7) (st1 := .int 24 :: _) rfl rfl ?_
  refine w_f (a := 38) (b := 10) rfl rfl rfl ?_
  refine w_p (pc1 := 11) rfl rfl ?_
  refine w_p (pc1 := 12) rfl rfl ?_
  refine w_m0 (pc1 := 15) rfl rfl (h_gC rfl rfl rfl rfl) rfl ?_
  refine w_p (pc1 := 16) rfl rfl ?_
  refine w_m0 (pc1 := 17) rfl rfl (h_bl rfl rfl (by decide) rfl) rfl ?_
  refine w_t (a := 29) (b := 20) (cb_eq_t (by exact F.2.1 _ (by decide))) rfl rfl ?_
  refine w_p (pc1 := 30) (st1 := .int 0 :: _) rfl rfl ?_
  refine w_p (pc1 := 31) (st1 := .int 0 :: _) rfl rfl ?_
  refine w_p (pc1 := 32) (al1 := [(1, .int 0), (2, .int 17), (0, .ref 176)]) rfl rfl ?_
  refine w_p (pc1 := 35) (al1 := [(2, .int 18), (1, .int 0), (0, .ref 176)]) rfl rfl ?_
  refine w_p (pc1 := 4) rfl rfl ?_
  refine w_p (pc1 := 5) rfl rfl ?_
  refine w_p (pc1 := 7) (st1 := .int 24 :: _) rfl rfl ?_
  refine w_f (a := 38) (b := 10) rfl rfl rfl ?_
  refine w_p (pc1 := 11) rfl rfl ?_
  refine w_p (pc1 := 12) rfl rfl ?_
  refine w_m0 (pc1 := 15) rfl rfl (h_gC rfl rfl rfl rfl) rfl ?_
  refine w_p (pc1 := 16) rfl rfl ?_
  refine w_m0 (pc1 := 17) rfl rfl (h_bl rfl rfl (by decide) rfl) rfl ?_
  refine w_t (a := 29) (b := 20) (cb_eq_t (by exact F.2.1 _ (by decide))) rfl rfl ?_
  refine w_p (pc1 := 30) (st1 := .int 0 :: _) rfl rfl ?_
  refine w_p (pc1 := 31) (st1 := .int 0 :: _) rfl rfl ?_
  refine w_p (pc1 := 32) (al1 := [(1, .int 0), (2, .int 18), (0, .ref 176)]) rfl rfl ?_
  refine w_p (pc1 := 35) (al1 := [(2, .int 19), (1, .int 0), (0, .ref 176)]) rfl rfl ?_
  refine w_p (pc1 := 4) rfl rfl ?_
  refine w_p (pc1 := 5) rfl rfl ?_
  refine w_p (pc1 := 7) (st1 := .int 24 :: _) rfl rfl ?_
  refine w_f (a := 38) (b := 10) rfl rfl rfl ?_
  refine w_p (pc1 := 11) rfl rfl ?_
  refine w_p (pc1 := 12) rfl rfl ?_
  refine w_m0 (pc1 := 15) rfl rfl (h_gC rfl rfl rfl rfl) rfl ?_
  refine w_p (pc1 := 16) rfl rfl ?_
  refine w_m0 (pc1 := 17) rfl rfl (h_bl rfl rfl (by decide) rfl) rfl ?_
  refine w_t (a := 29) (b := 20) (cb_eq_t (by exact F.2.1 _ (by decide))) rfl rfl ?_
  refine w_p (pc1 := 30) (st1 := .int 0 :: _) rfl rfl ?_
  refine w_p (pc1 := 31) (st1 := .int 0 :: _) rfl rfl ?_
  refine w_p (pc1 := 32) (al1 := [(1, .int 0), (2, .int 19), (0, .ref 176)]) rfl rfl ?_
  refine w_p (pc1 := 35) (al1 := [(2, .int 20), (1, .int 0), (0, .ref 176)]) rfl rfl ?_
  refine w_p (pc1 := 4) rfl rfl ?_
  refine w_p (pc1 := 5) rfl rfl ?_
  refine w_p (pc1 := 7) (st1 := .int 24 :: _) rfl rfl ?_
  refine w_f (a := 38) (b := 10) rfl rfl rfl ?_
  refine w_p (pc1 := 11) rfl rfl ?_
  refine w_p (pc1 := 12) rfl rfl ?_
  refine w_m0 (pc1 := 15) rfl rfl (h_gC rfl rfl rfl rfl) rfl ?_
  refine w_p (pc1 := 16) rfl rfl ?_
  refine w_m0 (pc1 := 17) rfl rfl (h_bl rfl rfl (by decide) rfl) rfl ?_
  refine w_t (a := 29) (b := 20) (cb_eq_t (by exact F.2.1 _ (by decide))) rfl rfl ?_
  refine w_p (pc1 := 30) (st1 := .int 0 :: _) rfl rfl ?_
  refine w_p (pc1 := 31) (st1 := .int 0 :: _) rfl rfl ?_
  refine w_p (pc1 := 32) (al1 := [(1, .int 0), (2, .int 20), (0, .ref 176)]) rfl rfl ?_
  refine w_p (pc1 := 35) (al1 := [(2, .int 21), (1, .int 0), (0, .ref 176)]) rfl rfl ?_
  refine w_p (pc1 := 4) rfl rfl ?_
  refine w_p (pc1 := 5) rfl rfl ?_
  refine w_p (pc1 := 7) (st1 := .int 24 :: _) rfl rfl ?_
  refine w_f (a := 38) (b := 10) rfl rfl rfl ?_
  refine w_p (pc1 := 11) rfl rfl ?_
  refine w_p (pc1 := 12) rfl rfl ?_
  refine w_m0 (pc1 := 15) rfl rfl (h_gC rfl rfl rfl rfl) rfl ?_
  refine w_p (pc1 := 16) rfl rfl ?_
  refine w_m0 (pc1 := 17) rfl rfl (h_bl rfl rfl (by decide) rfl) rfl ?_
  refine w_t (a := 29) (b := 20) (cb_eq_t (by exact F.2.1 _ (by decide))) rfl rfl ?_
  refine w_p (pc1 := 30) (st1 := .int 0 :: _) rfl rfl ?_
  refine w_p (pc1 := 31) (st1 := .int 0 :: _) rfl rfl ?_
  refine w_p (pc1 := 32) (al1 := [(1, .int 0), (2, .int 21), (0, .ref 176)]) rfl rfl ?_
  refine w_p (pc1 := 35) (al1 := [(2, .int 22), (1, .int 0), (0, .ref 176)]) rfl rfl ?_
  refine w_p (pc1 := 4) rfl rfl ?_
  refine w_p (pc1 := 5) rfl rfl ?_
  refine w_p (pc1 := 7) (st1 := .int 24 :: _) rfl rfl ?_
  refine w_f (a := 38) (b := 10) rfl rfl rfl ?_
  refine w_p (pc1 := 11) rfl rfl ?_
  refine w_p (pc1 := 12) rfl rfl ?_
  refine w_m0 (pc1 := 15) rfl rfl (h_gC rfl rfl rfl rfl) rfl ?_
  refine w_p (pc1 := 16) rfl rfl ?_
  refine w_m0 (pc1 := 17) rfl rfl (h_bl rfl rfl (by decide) rfl) rfl ?_
  refine w_t (a := 29) (b := 20) (cb_eq_t (by exact F.2.1 _ (by decide))) rfl rfl ?_
  refine w_p (pc1 := 30) (st1 := .int 0 :: _) rfl rfl ?_
  refine w_p (pc1 := 31) (st1 := .int 0 :: _) rfl rfl ?_
  refine w_p (pc1 := 32) (al1 := [(1, .int 0), (2, .int 22), (0, .ref 176)]) rfl rfl ?_
  refine w_p (pc1 := 35) (al1 := [(2, .int 23), (1, .int 0), (0, .ref 176)]) rfl rfl ?_
  refine w_p (pc1 := 4) rfl rfl ?_
  refine w_p (pc1 := 5) rfl rfl ?_
  refine w_p (pc1 := 7) (st1 := .int 24 :: _) rfl rfl ?_
  refine w_f (a := 38) (b := 10) rfl rfl rfl ?_
  refine w_p (pc1 := 11) rfl rfl ?_
  refine w_p (pc1 := 12) rfl rfl ?_
  refine w_m0 (pc1 := 15) rfl rfl (h_gC rfl rfl rfl rfl) rfl ?_
  refine w_p (pc1 := 16) rfl rfl ?_
  refine w_m0 (pc1 := 17) rfl rfl (h_bl rfl rfl (by decide) rfl) rfl ?_
  refine w_t (a := 29) (b := 20) (cb_eq_t (by exact F.2.1 _ (by decide))) rfl rfl ?_
  refine w_p (pc1 := 30) (st1 := .int 0 :: _) rfl rfl ?_
  refine w_p (pc1 := 31) (st1 := .int 0 :: _) rfl rfl ?_
  refine w_p (pc1 := 32) (al1 := [(1, .int 0), (2, .int 23), (0, .ref 176)]) rfl rfl ?_
  refine w_p (pc1 := 35) (al1 := [(2, .int 24), (1, .int 0), (0, .ref 176)]) rfl rfl ?_
  refine w_p (pc1 := 4) rfl rfl ?_
  refine w_p (pc1 := 5) rfl rfl ?_
  refine w_p (pc1 := 7) (st1 := .int 24 :: _) rfl rfl ?_
  refine w_t (a := 38) (b := 10) rfl rfl rfl ?_
  refine w_p (pc1 := 39) (st1 := .int 0 :: _) rfl rfl ?_
  refine w_p (pc1 := 40) (al1 := [(2, .int 0), (1, .int 0), (0, .ref 176)]) rfl rfl ?_
  refine w_p (pc1 := 41) rfl rfl ?_
  refine w_p (pc1 := 43) (st1 := .int 8 :: _) rfl rfl ?_
  refine w_f (a := 74) (b := 46) rfl rfl rfl ?_
  refine w_p (pc1 := 47) rfl rfl ?_
  refine w_p (pc1 := 48) rfl rfl ?_
  refine w_m0 (pc1 := 51) rfl rfl (h_gC rfl rfl rfl rfl) rfl ?_
  refine w_p (pc1 := 52) rfl rfl ?_
  refine w_m0 (pc1 := 53) rfl rfl (h_bl rfl rfl (by decide) rfl) rfl ?_
  refine w_t (a := 65) (b := 56) (cb_eq_t (by exact F.2.2.1 _ (by decide))) rfl rfl ?_
  refine w_p (pc1 := 66) (st1 := .int 0 :: _) rfl rfl ?_
  refine w_p (pc1 := 67) (st1 := .int 0 :: _) rfl rfl ?_
  refine w_p (pc1 := 68) (al1 := [(1, .int 0), (2, .int 0), (0, .ref 176)]) rfl rfl ?_
  refine w_p (pc1 := 71) (al1 := [(2, .int 1), (1, .int 0), (0, .ref 176)]) rfl rfl ?_
  refine w_p (pc1 := 40) rfl rfl ?_
  refine w_p (pc1 := 41) rfl rfl ?_
  refine w_p (pc1 := 43) (st1 := .int 8 :: _) rfl rfl ?_
  refine w_f (a := 74) (b := 46) rfl rfl rfl ?_
  refine w_p (pc1 := 47) rfl rfl ?_
  refine w_p (pc1 := 48) rfl rfl ?_
  refine w_m0 (pc1 := 51) rfl rfl (h_gC rfl rfl rfl rfl) rfl ?_
  refine w_p (pc1 := 52) rfl rfl ?_
  refine w_m0 (pc1 := 53) rfl rfl (h_bl rfl rfl (by decide) rfl) rfl ?_
  refine w_t (a := 65) (b := 56) (cb_eq_t (by exact F.2.2.1 _ (by decide))) rfl rfl ?_
  refine w_p (pc1 := 66) (st1 := .int 0 :: _) rfl rfl ?_
  refine w_p (pc1 := 67) (st1 := .int 0 :: _) rfl rfl ?_
  refine w_p (pc1 := 68) (al1 := [(1, .int 0), (2, .int 1), (0, .ref 176)]) rfl rfl ?_
  refine w_p (pc1 := 71) (al1 := [(2, .int 2), (1, .int 0), (0, .ref 176)]) rfl rfl ?_
  refine w_p (pc1 := 40) rfl rfl ?_
  refine w_p (pc1 := 41) rfl rfl ?_
  refine w_p (pc1 := 43) (st1 := .int 8 :: _) rfl rfl ?_
  refine w_f (a := 74) (b := 46) rfl rfl rfl ?_
  refine w_p (pc1 := 47) rfl rfl ?_
  refine w_p (pc1 := 48) rfl rfl ?_
  refine w_m0 (pc1 := 51) rfl rfl (h_gC rfl rfl rfl rfl) rfl ?_
  refine w_p (pc1 := 52) rfl rfl ?_
  refine w_m0 (pc1 := 53) rfl rfl (h_bl rfl rfl (by decide) rfl) rfl ?_
  refine w_t (a := 65) (b := 56) (cb_eq_t (by exact F.2.2.1 _ (by decide))) rfl rfl ?_
  refine w_p (pc1 := 66) (st1 := .int 0 :: _) rfl rfl ?_
  refine w_p (pc1 := 67) (st1 := .int 0 :: _) rfl rfl ?_
  refine w_p (pc1 := 68) (al1 := [(1, .int 0), (2, .int 2), (0, .ref 176)]) rfl rfl ?_
  refine w_p (pc1 := 71) (al1 := [(2, .int 3), (1, .int 0), (0, .ref 176)]) rfl rfl ?_
  refine w_p (pc1 := 40) rfl rfl ?_
  refine w_p (pc1 := 41) rfl rfl ?_
  refine w_p (pc1 := 43) (st1 := .int 8 :: _) rfl rfl ?_
  refine w_f (a := 74) (b := 46) rfl rfl rfl ?_
  refine w_p (pc1 := 47) rfl rfl ?_
  refine w_p (pc1 := 48) rfl rfl ?_
  refine w_m0 (pc1 := 51) rfl rfl (h_gC rfl rfl rfl rfl) rfl ?_
  refine w_p (pc1 := 52) rfl rfl ?_
  refine w_m0 (pc1 := 53) rfl rfl (h_bl rfl rfl (by decide) rfl) rfl ?_
  refine w_t (a := 65) (b := 56) (cb_eq_t (by exact F.2.2.1 _ (by decide))) rfl rfl ?_
  refine w_p (pc1 := 66) (st1 := .int 0 :: _) rfl rfl ?_
  refine w_p (pc1 := 67) (st1 := .int 0 :: _) rfl rfl ?_
  refine w_p (pc1 := 68) (al1 := [(1, .int 0), (2, .int 3), (0, .ref 176)]) rfl rfl ?_
  refine w_p (pc1 := 71) (al1 := [(2, .int 4), (1, .int 0), (0, .ref 176)]) rfl rfl ?_
  refine w_p (pc1 := 40) rfl rfl ?_
  refine w_p (pc1 := 41) rfl rfl ?_
  refine w_p (pc1 := 43) (st1 := .int 8 :: _) rfl rfl ?_
  refine w_f (a := 74) (b := 46) rfl rfl rfl ?_
  refine w_p (pc1 := 47) rfl rfl ?_
  refine w_p (pc1 := 48) rfl rfl ?_
  refine w_m0 (pc1 := 51) rfl rfl (h_gC rfl rfl rfl rfl) rfl ?_
  refine w_p (pc1 := 52) rfl rfl ?_
  refine w_m0 (pc1 := 53) rfl rfl (h_bl rfl rfl (by decide) rfl) rfl ?_
  refine w_t (a := 65) (b := 56) (cb_eq_t (by exact F.2.2.1 _ (by decide))) rfl rfl ?_
  refine w_p (pc1 := 66) (st1 := .int 0 :: _) rfl rfl ?_
  refine w_p (pc1 := 67) (st1 := .int 0 :: _) rfl rfl ?_
  refine w_p (pc1 := 68) (al1 := [(1, .int 0), (2, .int 4), (0, .ref 176)]) rfl rfl ?_
  refine w_p (pc1 := 71) (al1 := [(2, .int 5), (1, .int 0), (0, .ref 176)]) rfl rfl ?_
  refine w_p (pc1 := 40) rfl rfl ?_
  refine w_p (pc1 := 41) rfl rfl ?_
  refine w_p (pc1 := 43) (st1 := .int 8 :: _) rfl rfl ?_
  refine w_f (a := 74) (b := 46) rfl rfl rfl ?_
  refine w_p (pc1 := 47) rfl rfl ?_
  refine w_p (pc1 := 48) rfl rfl ?_
  refine w_m0 (pc1 := 51) rfl rfl (h_gC rfl rfl rfl rfl) rfl ?_
  refine w_p (pc1 := 52) rfl rfl ?_
  refine w_m0 (pc1 := 53) rfl rfl (h_bl rfl rfl (by decide) rfl) rfl ?_
  refine w_t (a := 65) (b := 56) (cb_eq_t (by exact F.2.2.1 _ (by decide))) rfl rfl ?_
  refine w_p (pc1 := 66) (st1 := .int 0 :: _) rfl rfl ?_
  refine w_p (pc1 := 67) (st1 := .int 0 :: _) rfl rfl ?_
  refine w_p (pc1 := 68) (al1 := [(1, .int 0), (2, .int 5), (0, .ref 176)]) rfl rfl ?_
  refine w_p (pc1 := 71) (al1 := [(2, .int 6), (1, .int 0), (0, .ref 176)]) rfl rfl ?_
  refine w_p (pc1 := 40) rfl rfl ?_
  refine w_p (pc1 := 41) rfl rfl ?_
  refine w_p (pc1 := 43) (st1 := .int 8 :: _) rfl rfl ?_
  refine w_f (a := 74) (b := 46) rfl rfl rfl ?_
  refine w_p (pc1 := 47) rfl rfl ?_
  refine w_p (pc1 := 48) rfl rfl ?_
  refine w_m0 (pc1 := 51) rfl rfl (h_gC rfl rfl rfl rfl) rfl ?_
  refine w_p (pc1 := 52) rfl rfl ?_
  refine w_m0 (pc1 := 53) rfl rfl (h_bl rfl rfl (by decide) rfl) rfl ?_
  refine w_t (a := 65) (b := 56) (cb_eq_t (by exact F.2.2.1 _ (by decide))) rfl rfl ?_
  refine w_p (pc1 := 66) (st1 := .int 0 :: _) rfl rfl ?_
  refine w_p (pc1 := 67) (st1 := .int 0 :: _) rfl rfl ?_
  refine w_p (pc1 := 68) (al1 := [(1, .int 0), (2, .int 6), (0, .ref 176)]) rfl rfl ?_
  refine w_p (pc1 := 71) (al1 := [(2, .int 7), (1, .int 0), (0, .ref 176)]) rfl rfl ?_
  refine w_p (pc1 := 40) rfl rfl ?_
  refine w_p (pc1 := 41) rfl rfl ?_
  refine w_p (pc1 := 43) (st1 := .int 8 :: _) rfl rfl ?_
  refine w_f (a := 74) (b := 46) rfl rfl rfl ?_
  refine w_p (pc1 := 47) rfl rfl ?_
  refine w_p (pc1 := 48) rfl rfl ?_
  refine w_m0 (pc1 := 51) rfl rfl (h_gC rfl rfl rfl rfl) rfl ?_
  refine w_p (pc1 := 52) rfl rfl ?_
  refine w_m0 (pc1 := 53) rfl rfl (h_bl rfl rfl (by decide) rfl) rfl ?_
  refine w_t (a := 65) (b := 56) (cb_eq_t (by exact F.2.2.1 _ (by decide))) rfl rfl ?_
  refine w_p (pc1 := 66) (st1 := .int 0 :: _) rfl rfl ?_
  refine w_p (pc1 := 67) (st1 := .int 0 :: _) rfl rfl ?_
  refine w_p (pc1 := 68) (al1 := [(1, .int 0), (2, .int 7), (0, .ref 176)]) rfl rfl ?_
  refine w_p (pc1 := 71) (al1 := [(2, .int 8), (1, .int 0), (0, .ref 176)]) rfl rfl ?_
  refine w_p (pc1 := 40) rfl rfl ?_
  refine w_p (pc1 := 41) rfl rfl ?_
  refine w_p (pc1 := 43) (st1 := .int 8 :: _) rfl rfl ?_
  refine w_t (a := 74) (b := 46) rfl rfl rfl ?_
  refine w_p (pc1 := 75) rfl rfl ?_
  refine w_r rfl rfl rfl (fun _ _ => rfl) cr_int ?_
  exact ⟨rfl, rfl, rfl⟩
set_option maxRecDepth 100000 in
theorem frM_t {v : Int32} (F : frM C) : frM (sI C 76 0 v) := by
  obtain ⟨h1, h2, h3, h4, h5, h6⟩ := F
  refine ⟨fun i hi => ?_, fun i hi => ?_, fun i hi => ?_, ?_, ?_, ?_⟩
  · rw [sI_1, if_neg (by omega)]; exact h1 i hi
  · rw [sI_1, if_neg (by omega)]; exact h2 i hi
  · rw [sI_1, if_neg (by omega)]; exact h3 i hi
  · rw [sI_1, if_neg (by omega)]; exact h4
  · rw [sI_1, if_neg (by omega)]; exact h5
  · rw [sI_1, if_neg (by omega)]; exact h6
set_option maxHeartbeats 8000000 in
set_option maxRecDepth 100000 in
theorem m_288z {x : Int32} (F : frM C) : Wd L xs (d + 2) y_288 (0, [(0, .ref 176), (1, .int x)], [], MH C t, sl) (fun v h n => ((0 ≤ x.toInt ∧ x.toInt < 7) ∧ some (.int 0) = v ∧ MH (sI C 76 0 0) t = h ∧ sl = n) ∨ (¬ (0 ≤ x.toInt ∧ x.toInt < 7) ∧ some (.int 0) = v ∧ MH (sI C 76 0 1) t = h ∧ sl = n)) nX := by
  by_cases hx : 0 ≤ x.toInt ∧ x.toInt < 7
  · rcases i7 hx.1 hx.2 with rfl | rfl | rfl | rfl | rfl | rfl | rfl
    · skip
      refine w_p (pc1 := 1) rfl rfl ?_
      refine w_p (pc1 := 2) rfl rfl ?_
      refine w_p (pc1 := 3) (st1 := .long 0 :: _) rfl rfl ?_
      refine w_p (pc1 := 4) (st1 := .long 0 :: _) rfl rfl ?_
      refine w_m0 (pc1 := 7) (st1 := .long 6 :: _) rfl rfl rfl rfl ?_
      refine w_je (pc1 := 10) (vs := [.long 0, .long 0, .long 6]) (rest := [.ref 176]) (st1 := [.int 1, .ref 176]) (m_189t (d := _) (sl := 0) rfl) rfl rfl rfl (fun _ _ => rfl) rfl (by exact cl_s my_189 rfl rfl rfl (Nat.le_of_ble_eq_true rfl) rfl rfl) (by rfl) (Nat.le_of_ble_eq_true rfl) (Nat.le_of_ble_eq_true rfl) rfl (by rfl) ?_
      refine w_p (pc1 := 11) (st1 := .int 1 :: _) rfl rfl ?_
      refine w_je (pc1 := 14) (vs := [.ref 176, .int 1, .int 1]) (rest := []) (st1 := [.int 1]) (m_190 (d := _) (sl := 0)) rfl rfl rfl (fun _ _ => rfl) rfl (by exact cl_v my_190 rfl rfl rfl (Nat.le_of_ble_eq_true rfl) rfl (MH_obj rfl rfl) rfl (by decide) rfl rfl) (by rfl) (Nat.le_of_ble_eq_true rfl) (Nat.le_of_ble_eq_true rfl) rfl (by rfl) ?_
      refine w_t (a := 19) (b := 17) rfl rfl rfl ?_
      refine w_p (pc1 := 20) (st1 := .int 0 :: _) rfl rfl ?_
      refine w_p (pc1 := 21) (al1 := [(2, .int 0), (0, .ref 176), (1, .int 0)]) rfl rfl ?_
      refine w_p (pc1 := 22) (st1 := .int 0 :: _) rfl rfl ?_
      refine w_p (pc1 := 23) (al1 := [(3, .int 0), (2, .int 0), (0, .ref 176), (1, .int 0)]) rfl rfl ?_
      refine w_p (pc1 := 24) (st1 := .int 0 :: _) rfl rfl ?_
      refine w_p (pc1 := 26) (al1 := [(4, .int 0), (3, .int 0), (2, .int 0), (0, .ref 176), (1, .int 0)]) rfl rfl ?_
      refine w_p (pc1 := 27) (st1 := .int 0 :: _) rfl rfl ?_
      refine w_p (pc1 := 29) (al1 := [(5, .int 0), (4, .int 0), (3, .int 0), (2, .int 0), (0, .ref 176), (1, .int 0)]) rfl rfl ?_
      refine w_p (pc1 := 31) rfl rfl ?_
      refine w_p (pc1 := 33) (st1 := .int 24 :: _) rfl rfl ?_
      refine w_f (a := 112) (b := 36) rfl rfl rfl ?_
      refine w_p (pc1 := 37) rfl rfl ?_
      refine w_p (pc1 := 39) rfl rfl ?_
      refine w_p (pc1 := 41) (st1 := .int 6 :: _) rfl rfl ?_
      refine w_f (a := 58) (b := 44) rfl rfl rfl ?_
      refine w_p (pc1 := 45) rfl rfl ?_
      refine w_m0 (pc1 := 48) rfl rfl (h_gC rfl rfl rfl rfl) rfl ?_
      refine w_p (pc1 := 50) rfl rfl ?_
      refine w_m0 (pc1 := 51) rfl rfl (h_bl rfl rfl (by decide) rfl) rfl ?_
      refine w_t (a := 58) (b := 54) (cb_eq_t (by exact (frM_t F).1 _ (by decide))) rfl rfl ?_
      refine w_p (pc1 := 59) (st1 := .int 0 :: _) rfl rfl ?_
      refine w_p (pc1 := 60) (st1 := .int 0 :: _) rfl rfl ?_
      refine w_p (pc1 := 61) (al1 := [(2, .int 0), (5, .int 0), (4, .int 0), (3, .int 0), (0, .ref 176), (1, .int 0)]) rfl rfl ?_
      refine w_p (pc1 := 62) rfl rfl ?_
      refine w_p (pc1 := 63) rfl rfl ?_
      refine w_m0 (pc1 := 66) rfl rfl (h_gC rfl rfl rfl rfl) rfl ?_
      refine w_p (pc1 := 68) rfl rfl ?_
      refine w_m0 (pc1 := 69) rfl rfl (h_bl rfl rfl (by decide) rfl) rfl ?_
      refine w_t (a := 76) (b := 72) (cb_eq_t (by exact (frM_t F).2.1 _ (by decide))) rfl rfl ?_
      refine w_p (pc1 := 77) (st1 := .int 0 :: _) rfl rfl ?_
      refine w_p (pc1 := 78) (st1 := .int 0 :: _) rfl rfl ?_
      refine w_p (pc1 := 79) (al1 := [(3, .int 0), (2, .int 0), (5, .int 0), (4, .int 0), (0, .ref 176), (1, .int 0)]) rfl rfl ?_
      refine w_p (pc1 := 81) rfl rfl ?_
      refine w_p (pc1 := 83) rfl rfl ?_
      refine w_p (pc1 := 85) (st1 := .int 8 :: _) rfl rfl ?_
      refine w_f (a := 102) (b := 88) rfl rfl rfl ?_
      refine w_p (pc1 := 89) rfl rfl ?_
      refine w_m0 (pc1 := 92) rfl rfl (h_gC rfl rfl rfl rfl) rfl ?_
      refine w_p (pc1 := 94) rfl rfl ?_
      refine w_m0 (pc1 := 95) rfl rfl (h_bl rfl rfl (by decide) rfl) rfl ?_
      refine w_t (a := 102) (b := 98) (cb_eq_t (by exact (frM_t F).2.2.1 _ (by decide))) rfl rfl ?_
      refine w_p (pc1 := 103) (st1 := .int 0 :: _) rfl rfl ?_
      refine w_p (pc1 := 104) (st1 := .int 0 :: _) rfl rfl ?_
      refine w_p (pc1 := 106) (al1 := [(4, .int 0), (3, .int 0), (2, .int 0), (5, .int 0), (0, .ref 176), (1, .int 0)]) rfl rfl ?_
      refine w_p (pc1 := 109) (al1 := [(5, .int 1), (4, .int 0), (3, .int 0), (2, .int 0), (0, .ref 176), (1, .int 0)]) rfl rfl ?_
      refine w_p (pc1 := 29) rfl rfl ?_
      refine w_p (pc1 := 31) rfl rfl ?_
      refine w_p (pc1 := 33) (st1 := .int 24 :: _) rfl rfl ?_
      refine w_f (a := 112) (b := 36) rfl rfl rfl ?_
      refine w_p (pc1 := 37) rfl rfl ?_
      refine w_p (pc1 := 39) rfl rfl ?_
      refine w_p (pc1 := 41) (st1 := .int 6 :: _) rfl rfl ?_
      refine w_f (a := 58) (b := 44) rfl rfl rfl ?_
      refine w_p (pc1 := 45) rfl rfl ?_
      refine w_m0 (pc1 := 48) rfl rfl (h_gC rfl rfl rfl rfl) rfl ?_
      refine w_p (pc1 := 50) rfl rfl ?_
      refine w_m0 (pc1 := 51) rfl rfl (h_bl rfl rfl (by decide) rfl) rfl ?_
      refine w_t (a := 58) (b := 54) (cb_eq_t (by exact (frM_t F).1 _ (by decide))) rfl rfl ?_
      refine w_p (pc1 := 59) (st1 := .int 0 :: _) rfl rfl ?_
      refine w_p (pc1 := 60) (st1 := .int 0 :: _) rfl rfl ?_
      refine w_p (pc1 := 61) (al1 := [(2, .int 0), (5, .int 1), (4, .int 0), (3, .int 0), (0, .ref 176), (1, .int 0)]) rfl rfl ?_
      refine w_p (pc1 := 62) rfl rfl ?_
      refine w_p (pc1 := 63) rfl rfl ?_
      refine w_m0 (pc1 := 66) rfl rfl (h_gC rfl rfl rfl rfl) rfl ?_
      refine w_p (pc1 := 68) rfl rfl ?_
      refine w_m0 (pc1 := 69) rfl rfl (h_bl rfl rfl (by decide) rfl) rfl ?_
      refine w_t (a := 76) (b := 72) (cb_eq_t (by exact (frM_t F).2.1 _ (by decide))) rfl rfl ?_
      refine w_p (pc1 := 77) (st1 := .int 0 :: _) rfl rfl ?_
      refine w_p (pc1 := 78) (st1 := .int 0 :: _) rfl rfl ?_
      refine w_p (pc1 := 79) (al1 := [(3, .int 0), (2, .int 0), (5, .int 1), (4, .int 0), (0, .ref 176), (1, .int 0)]) rfl rfl ?_
      refine w_p (pc1 := 81) rfl rfl ?_
      refine w_p (pc1 := 83) rfl rfl ?_
      refine w_p (pc1 := 85) (st1 := .int 8 :: _) rfl rfl ?_
      refine w_f (a := 102) (b := 88) rfl rfl rfl ?_
      refine w_p (pc1 := 89) rfl rfl ?_
      refine w_m0 (pc1 := 92) rfl rfl (h_gC rfl rfl rfl rfl) rfl ?_
      refine w_p (pc1 := 94) rfl rfl ?_
      refine w_m0 (pc1 := 95) rfl rfl (h_bl rfl rfl (by decide) rfl) rfl ?_
      refine w_t (a := 102) (b := 98) (cb_eq_t (by exact (frM_t F).2.2.1 _ (by decide))) rfl rfl ?_
      refine w_p (pc1 := 103) (st1 := .int 0 :: _) rfl rfl ?_
      refine w_p (pc1 := 104) (st1 := .int 0 :: _) rfl rfl ?_
      refine w_p (pc1 := 106) (al1 := [(4, .int 0), (3, .int 0), (2, .int 0), (5, .int 1), (0, .ref 176), (1, .int 0)]) rfl rfl ?_
      refine w_p (pc1 := 109) (al1 := [(5, .int 2), (4, .int 0), (3, .int 0), (2, .int 0), (0, .ref 176), (1, .int 0)]) rfl rfl ?_
      refine w_p (pc1 := 29) rfl rfl ?_
      refine w_p (pc1 := 31) rfl rfl ?_
      refine w_p (pc1 := 33) (st1 := .int 24 :: _) rfl rfl ?_
      refine w_f (a := 112) (b := 36) rfl rfl rfl ?_
      refine w_p (pc1 := 37) rfl rfl ?_
      refine w_p (pc1 := 39) rfl rfl ?_
      refine w_p (pc1 := 41) (st1 := .int 6 :: _) rfl rfl ?_
      refine w_f (a := 58) (b := 44) rfl rfl rfl ?_
      refine w_p (pc1 := 45) rfl rfl ?_
      refine w_m0 (pc1 := 48) rfl rfl (h_gC rfl rfl rfl rfl) rfl ?_
      refine w_p (pc1 := 50) rfl rfl ?_
      refine w_m0 (pc1 := 51) rfl rfl (h_bl rfl rfl (by decide) rfl) rfl ?_
      refine w_t (a := 58) (b := 54) (cb_eq_t (by exact (frM_t F).1 _ (by decide))) rfl rfl ?_
      refine w_p (pc1 := 59) (st1 := .int 0 :: _) rfl rfl ?_
      refine w_p (pc1 := 60) (st1 := .int 0 :: _) rfl rfl ?_
      refine w_p (pc1 := 61) (al1 := [(2, .int 0), (5, .int 2), (4, .int 0), (3, .int 0), (0, .ref 176), (1, .int 0)]) rfl rfl ?_
      refine w_p (pc1 := 62) rfl rfl ?_
      refine w_p (pc1 := 63) rfl rfl ?_
      refine w_m0 (pc1 := 66) rfl rfl (h_gC rfl rfl rfl rfl) rfl ?_
      refine w_p (pc1 := 68) rfl rfl ?_
      refine w_m0 (pc1 := 69) rfl rfl (h_bl rfl rfl (by decide) rfl) rfl ?_
      refine w_t (a := 76) (b := 72) (cb_eq_t (by exact (frM_t F).2.1 _ (by decide))) rfl rfl ?_
      refine w_p (pc1 := 77) (st1 := .int 0 :: _) rfl rfl ?_
      refine w_p (pc1 := 78) (st1 := .int 0 :: _) rfl rfl ?_
      refine w_p (pc1 := 79) (al1 := [(3, .int 0), (2, .int 0), (5, .int 2), (4, .int 0), (0, .ref 176), (1, .int 0)]) rfl rfl ?_
      refine w_p (pc1 := 81) rfl rfl ?_
      refine w_p (pc1 := 83) rfl rfl ?_
      refine w_p (pc1 := 85) (st1 := .int 8 :: _) rfl rfl ?_
      refine w_f (a := 102) (b := 88) rfl rfl rfl ?_
      refine w_p (pc1 := 89) rfl rfl ?_
      refine w_m0 (pc1 := 92) rfl rfl (h_gC rfl rfl rfl rfl) rfl ?_
      refine w_p (pc1 := 94) rfl rfl ?_
      refine w_m0 (pc1 := 95) rfl rfl (h_bl rfl rfl (by decide) rfl) rfl ?_
      refine w_t (a := 102) (b := 98) (cb_eq_t (by exact (frM_t F).2.2.1 _ (by decide))) rfl rfl ?_
      refine w_p (pc1 := 103) (st1 := .int 0 :: _) rfl rfl ?_
      refine w_p (pc1 := 104) (st1 := .int 0 :: _) rfl rfl ?_
      refine w_p (pc1 := 106) (al1 := [(4, .int 0), (3, .int 0), (2, .int 0), (5, .int 2), (0, .ref 176), (1, .int 0)]) rfl rfl ?_
      refine w_p (pc1 := 109) (al1 := [(5, .int 3), (4, .int 0), (3, .int 0), (2, .int 0), (0, .ref 176), (1, .int 0)]) rfl rfl ?_
      refine w_p (pc1 := 29) rfl rfl ?_
      refine w_p (pc1 := 31) rfl rfl ?_
      refine w_p (pc1 := 33) (st1 := .int 24 :: _) rfl rfl ?_
      refine w_f (a := 112) (b := 36) rfl rfl rfl ?_
      refine w_p (pc1 := 37) rfl rfl ?_
      refine w_p (pc1 := 39) rfl rfl ?_
      refine w_p (pc1 := 41) (st1 := .int 6 :: _) rfl rfl ?_
      refine w_f (a := 58) (b := 44) rfl rfl rfl ?_
      refine w_p (pc1 := 45) rfl rfl ?_
      refine w_m0 (pc1 := 48) rfl rfl (h_gC rfl rfl rfl rfl) rfl ?_
      refine w_p (pc1 := 50) rfl rfl ?_
      refine w_m0 (pc1 := 51) rfl rfl (h_bl rfl rfl (by decide) rfl) rfl ?_
      refine w_t (a := 58) (b := 54) (cb_eq_t (by exact (frM_t F).1 _ (by decide))) rfl rfl ?_
      refine w_p (pc1 := 59) (st1 := .int 0 :: _) rfl rfl ?_
      refine w_p (pc1 := 60) (st1 := .int 0 :: _) rfl rfl ?_
      refine w_p (pc1 := 61) (al1 := [(2, .int 0), (5, .int 3), (4, .int 0), (3, .int 0), (0, .ref 176), (1, .int 0)]) rfl rfl ?_
      refine w_p (pc1 := 62) rfl rfl ?_
      refine w_p (pc1 := 63) rfl rfl ?_
      refine w_m0 (pc1 := 66) rfl rfl (h_gC rfl rfl rfl rfl) rfl ?_
      refine w_p (pc1 := 68) rfl rfl ?_
      refine w_m0 (pc1 := 69) rfl rfl (h_bl rfl rfl (by decide) rfl) rfl ?_
      refine w_t (a := 76) (b := 72) (cb_eq_t (by exact (frM_t F).2.1 _ (by decide))) rfl rfl ?_
      refine w_p (pc1 := 77) (st1 := .int 0 :: _) rfl rfl ?_
      refine w_p (pc1 := 78) (st1 := .int 0 :: _) rfl rfl ?_
      refine w_p (pc1 := 79) (al1 := [(3, .int 0), (2, .int 0), (5, .int 3), (4, .int 0), (0, .ref 176), (1, .int 0)]) rfl rfl ?_
      refine w_p (pc1 := 81) rfl rfl ?_
      refine w_p (pc1 := 83) rfl rfl ?_
      refine w_p (pc1 := 85) (st1 := .int 8 :: _) rfl rfl ?_
      refine w_f (a := 102) (b := 88) rfl rfl rfl ?_
      refine w_p (pc1 := 89) rfl rfl ?_
      refine w_m0 (pc1 := 92) rfl rfl (h_gC rfl rfl rfl rfl) rfl ?_
      refine w_p (pc1 := 94) rfl rfl ?_
      refine w_m0 (pc1 := 95) rfl rfl (h_bl rfl rfl (by decide) rfl) rfl ?_
      refine w_t (a := 102) (b := 98) (cb_eq_t (by exact (frM_t F).2.2.1 _ (by decide))) rfl rfl ?_
      refine w_p (pc1 := 103) (st1 := .int 0 :: _) rfl rfl ?_
      refine w_p (pc1 := 104) (st1 := .int 0 :: _) rfl rfl ?_
      refine w_p (pc1 := 106) (al1 := [(4, .int 0), (3, .int 0), (2, .int 0), (5, .int 3), (0, .ref 176), (1, .int 0)]) rfl rfl ?_
      refine w_p (pc1 := 109) (al1 := [(5, .int 4), (4, .int 0), (3, .int 0), (2, .int 0), (0, .ref 176), (1, .int 0)]) rfl rfl ?_
      refine w_p (pc1 := 29) rfl rfl ?_
      refine w_p (pc1 := 31) rfl rfl ?_
      refine w_p (pc1 := 33) (st1 := .int 24 :: _) rfl rfl ?_
      refine w_f (a := 112) (b := 36) rfl rfl rfl ?_
      refine w_p (pc1 := 37) rfl rfl ?_
      refine w_p (pc1 := 39) rfl rfl ?_
      refine w_p (pc1 := 41) (st1 := .int 6 :: _) rfl rfl ?_
      refine w_f (a := 58) (b := 44) rfl rfl rfl ?_
      refine w_p (pc1 := 45) rfl rfl ?_
      refine w_m0 (pc1 := 48) rfl rfl (h_gC rfl rfl rfl rfl) rfl ?_
      refine w_p (pc1 := 50) rfl rfl ?_
      refine w_m0 (pc1 := 51) rfl rfl (h_bl rfl rfl (by decide) rfl) rfl ?_
      refine w_t (a := 58) (b := 54) (cb_eq_t (by exact (frM_t F).1 _ (by decide))) rfl rfl ?_
      refine w_p (pc1 := 59) (st1 := .int 0 :: _) rfl rfl ?_
      refine w_p (pc1 := 60) (st1 := .int 0 :: _) rfl rfl ?_
      refine w_p (pc1 := 61) (al1 := [(2, .int 0), (5, .int 4), (4, .int 0), (3, .int 0), (0, .ref 176), (1, .int 0)]) rfl rfl ?_
      refine w_p (pc1 := 62) rfl rfl ?_
      refine w_p (pc1 := 63) rfl rfl ?_
      refine w_m0 (pc1 := 66) rfl rfl (h_gC rfl rfl rfl rfl) rfl ?_
      refine w_p (pc1 := 68) rfl rfl ?_
      refine w_m0 (pc1 := 69) rfl rfl (h_bl rfl rfl (by decide) rfl) rfl ?_
      refine w_t (a := 76) (b := 72) (cb_eq_t (by exact (frM_t F).2.1 _ (by decide))) rfl rfl ?_
      refine w_p (pc1 := 77) (st1 := .int 0 :: _) rfl rfl ?_
      refine w_p (pc1 := 78) (st1 := .int 0 :: _) rfl rfl ?_
      refine w_p (pc1 := 79) (al1 := [(3, .int 0), (2, .int 0), (5, .int 4), (4, .int 0), (0, .ref 176), (1, .int 0)]) rfl rfl ?_
      refine w_p (pc1 := 81) rfl rfl ?_
      refine w_p (pc1 := 83) rfl rfl ?_
      refine w_p (pc1 := 85) (st1 := .int 8 :: _) rfl rfl ?_
      refine w_f (a := 102) (b := 88) rfl rfl rfl ?_
      refine w_p (pc1 := 89) rfl rfl ?_
      refine w_m0 (pc1 := 92) rfl rfl (h_gC rfl rfl rfl rfl) rfl ?_
      refine w_p (pc1 := 94) rfl rfl ?_
      refine w_m0 (pc1 := 95) rfl rfl (h_bl rfl rfl (by decide) rfl) rfl ?_
      refine w_t (a := 102) (b := 98) (cb_eq_t (by exact (frM_t F).2.2.1 _ (by decide))) rfl rfl ?_
      refine w_p (pc1 := 103) (st1 := .int 0 :: _) rfl rfl ?_
      refine w_p (pc1 := 104) (st1 := .int 0 :: _) rfl rfl ?_
      refine w_p (pc1 := 106) (al1 := [(4, .int 0), (3, .int 0), (2, .int 0), (5, .int 4), (0, .ref 176), (1, .int 0)]) rfl rfl ?_
      refine w_p (pc1 := 109) (al1 := [(5, .int 5), (4, .int 0), (3, .int 0), (2, .int 0), (0, .ref 176), (1, .int 0)]) rfl rfl ?_
      refine w_p (pc1 := 29) rfl rfl ?_
      refine w_p (pc1 := 31) rfl rfl ?_
      refine w_p (pc1 := 33) (st1 := .int 24 :: _) rfl rfl ?_
      refine w_f (a := 112) (b := 36) rfl rfl rfl ?_
      refine w_p (pc1 := 37) rfl rfl ?_
      refine w_p (pc1 := 39) rfl rfl ?_
      refine w_p (pc1 := 41) (st1 := .int 6 :: _) rfl rfl ?_
      refine w_f (a := 58) (b := 44) rfl rfl rfl ?_
      refine w_p (pc1 := 45) rfl rfl ?_
      refine w_m0 (pc1 := 48) rfl rfl (h_gC rfl rfl rfl rfl) rfl ?_
      refine w_p (pc1 := 50) rfl rfl ?_
      refine w_m0 (pc1 := 51) rfl rfl (h_bl rfl rfl (by decide) rfl) rfl ?_
      refine w_t (a := 58) (b := 54) (cb_eq_t (by exact (frM_t F).1 _ (by decide))) rfl rfl ?_
      refine w_p (pc1 := 59) (st1 := .int 0 :: _) rfl rfl ?_
      refine w_p (pc1 := 60) (st1 := .int 0 :: _) rfl rfl ?_
      refine w_p (pc1 := 61) (al1 := [(2, .int 0), (5, .int 5), (4, .int 0), (3, .int 0), (0, .ref 176), (1, .int 0)]) rfl rfl ?_
      refine w_p (pc1 := 62) rfl rfl ?_
      refine w_p (pc1 := 63) rfl rfl ?_
      refine w_m0 (pc1 := 66) rfl rfl (h_gC rfl rfl rfl rfl) rfl ?_
      refine w_p (pc1 := 68) rfl rfl ?_
      refine w_m0 (pc1 := 69) rfl rfl (h_bl rfl rfl (by decide) rfl) rfl ?_
      refine w_t (a := 76) (b := 72) (cb_eq_t (by exact (frM_t F).2.1 _ (by decide))) rfl rfl ?_
      refine w_p (pc1 := 77) (st1 := .int 0 :: _) rfl rfl ?_
      refine w_p (pc1 := 78) (st1 := .int 0 :: _) rfl rfl ?_
      refine w_p (pc1 := 79) (al1 := [(3, .int 0), (2, .int 0), (5, .int 5), (4, .int 0), (0, .ref 176), (1, .int 0)]) rfl rfl ?_
      refine w_p (pc1 := 81) rfl rfl ?_
      refine w_p (pc1 := 83) rfl rfl ?_
      refine w_p (pc1 := 85) (st1 := .int 8 :: _) rfl rfl ?_
      refine w_f (a := 102) (b := 88) rfl rfl rfl ?_
      refine w_p (pc1 := 89) rfl rfl ?_
      refine w_m0 (pc1 := 92) rfl rfl (h_gC rfl rfl rfl rfl) rfl ?_
      refine w_p (pc1 := 94) rfl rfl ?_
      refine w_m0 (pc1 := 95) rfl rfl (h_bl rfl rfl (by decide) rfl) rfl ?_
      refine w_t (a := 102) (b := 98) (cb_eq_t (by exact (frM_t F).2.2.1 _ (by decide))) rfl rfl ?_
      refine w_p (pc1 := 103) (st1 := .int 0 :: _) rfl rfl ?_
      refine w_p (pc1 := 104) (st1 := .int 0 :: _) rfl rfl ?_
      refine w_p (pc1 := 106) (al1 := [(4, .int 0), (3, .int 0), (2, .int 0), (5, .int 5), (0, .ref 176), (1, .int 0)]) rfl rfl ?_
      refine w_p (pc1 := 109) (al1 := [(5, .int 6), (4, .int 0), (3, .int 0), (2, .int 0), (0, .ref 176), (1, .int 0)]) rfl rfl ?_
      refine w_p (pc1 := 29) rfl rfl ?_
      refine w_p (pc1 := 31) rfl rfl ?_
      refine w_p (pc1 := 33) (st1 := .int 24 :: _) rfl rfl ?_
      refine w_f (a := 112) (b := 36) rfl rfl rfl ?_
      refine w_p (pc1 := 37) rfl rfl ?_
      refine w_p (pc1 := 39) rfl rfl ?_
      refine w_p (pc1 := 41) (st1 := .int 6 :: _) rfl rfl ?_
      refine w_t (a := 58) (b := 44) rfl rfl rfl ?_
      refine w_p (pc1 := 59) (st1 := .int 0 :: _) rfl rfl ?_
      refine w_p (pc1 := 60) (st1 := .int 0 :: _) rfl rfl ?_
      refine w_p (pc1 := 61) (al1 := [(2, .int 0), (5, .int 6), (4, .int 0), (3, .int 0), (0, .ref 176), (1, .int 0)]) rfl rfl ?_
      refine w_p (pc1 := 62) rfl rfl ?_
      refine w_p (pc1 := 63) rfl rfl ?_
      refine w_m0 (pc1 := 66) rfl rfl (h_gC rfl rfl rfl rfl) rfl ?_
      refine w_p (pc1 := 68) rfl rfl ?_
      refine w_m0 (pc1 := 69) rfl rfl (h_bl rfl rfl (by decide) rfl) rfl ?_
      refine w_t (a := 76) (b := 72) (cb_eq_t (by exact (frM_t F).2.1 _ (by decide))) rfl rfl ?_
      refine w_p (pc1 := 77) (st1 := .int 0 :: _) rfl rfl ?_
      refine w_p (pc1 := 78) (st1 := .int 0 :: _) rfl rfl ?_
      refine w_p (pc1 := 79) (al1 := [(3, .int 0), (2, .int 0), (5, .int 6), (4, .int 0), (0, .ref 176), (1, .int 0)]) rfl rfl ?_
      refine w_p (pc1 := 81) rfl rfl ?_
      refine w_p (pc1 := 83) rfl rfl ?_
      refine w_p (pc1 := 85) (st1 := .int 8 :: _) rfl rfl ?_
      refine w_f (a := 102) (b := 88) rfl rfl rfl ?_
      refine w_p (pc1 := 89) rfl rfl ?_
      refine w_m0 (pc1 := 92) rfl rfl (h_gC rfl rfl rfl rfl) rfl ?_
      refine w_p (pc1 := 94) rfl rfl ?_
      refine w_m0 (pc1 := 95) rfl rfl (h_bl rfl rfl (by decide) rfl) rfl ?_
      refine w_t (a := 102) (b := 98) (cb_eq_t (by exact (frM_t F).2.2.1 _ (by decide))) rfl rfl ?_
      refine w_p (pc1 := 103) (st1 := .int 0 :: _) rfl rfl ?_
      refine w_p (pc1 := 104) (st1 := .int 0 :: _) rfl rfl ?_
      refine w_p (pc1 := 106) (al1 := [(4, .int 0), (3, .int 0), (2, .int 0), (5, .int 6), (0, .ref 176), (1, .int 0)]) rfl rfl ?_
      refine w_p (pc1 := 109) (al1 := [(5, .int 7), (4, .int 0), (3, .int 0), (2, .int 0), (0, .ref 176), (1, .int 0)]) rfl rfl ?_
      refine w_p (pc1 := 29) rfl rfl ?_
      refine w_p (pc1 := 31) rfl rfl ?_
      refine w_p (pc1 := 33) (st1 := .int 24 :: _) rfl rfl ?_
      refine w_f (a := 112) (b := 36) rfl rfl rfl ?_
      refine w_p (pc1 := 37) rfl rfl ?_
      refine w_p (pc1 := 39) rfl rfl ?_
      refine w_p (pc1 := 41) (st1 := .int 6 :: _) rfl rfl ?_
      refine w_t (a := 58) (b := 44) rfl rfl rfl ?_
      refine w_p (pc1 := 59) (st1 := .int 0 :: _) rfl rfl ?_
      refine w_p (pc1 := 60) (st1 := .int 0 :: _) rfl rfl ?_
      refine w_p (pc1 := 61) (al1 := [(2, .int 0), (5, .int 7), (4, .int 0), (3, .int 0), (0, .ref 176), (1, .int 0)]) rfl rfl ?_
      refine w_p (pc1 := 62) rfl rfl ?_
      refine w_p (pc1 := 63) rfl rfl ?_
      refine w_m0 (pc1 := 66) rfl rfl (h_gC rfl rfl rfl rfl) rfl ?_
      refine w_p (pc1 := 68) rfl rfl ?_
      refine w_m0 (pc1 := 69) rfl rfl (h_bl rfl rfl (by decide) rfl) rfl ?_
      refine w_t (a := 76) (b := 72) (cb_eq_t (by exact (frM_t F).2.1 _ (by decide))) rfl rfl ?_
      refine w_p (pc1 := 77) (st1 := .int 0 :: _) rfl rfl ?_
      refine w_p (pc1 := 78) (st1 := .int 0 :: _) rfl rfl ?_
      refine w_p (pc1 := 79) (al1 := [(3, .int 0), (2, .int 0), (5, .int 7), (4, .int 0), (0, .ref 176), (1, .int 0)]) rfl rfl ?_
      refine w_p (pc1 := 81) rfl rfl ?_
      refine w_p (pc1 := 83) rfl rfl ?_
      refine w_p (pc1 := 85) (st1 := .int 8 :: _) rfl rfl ?_
      refine w_f (a := 102) (b := 88) rfl rfl rfl ?_
      refine w_p (pc1 := 89) rfl rfl ?_
      refine w_m0 (pc1 := 92) rfl rfl (h_gC rfl rfl rfl rfl) rfl ?_
      refine w_p (pc1 := 94) rfl rfl ?_
      refine w_m0 (pc1 := 95) rfl rfl (h_bl rfl rfl (by decide) rfl) rfl ?_
      refine w_t (a := 102) (b := 98) (cb_eq_t (by exact (frM_t F).2.2.1 _ (by decide))) rfl rfl ?_
      refine w_p (pc1 := 103) (st1 := .int 0 :: _) rfl rfl ?_
      refine w_p (pc1 := 104) (st1 := .int 0 :: _) rfl rfl ?_
      refine w_p (pc1 := 106) (al1 := [(4, .int 0), (3, .int 0), (2, .int 0), (5, .int 7), (0, .ref 176), (1, .int 0)]) rfl rfl ?_
      refine w_p (pc1 := 109) (al1 := [(5, .int 8), (4, .int 0), (3, .int 0), (2, .int 0), (0, .ref 176), (1, .int 0)]) rfl rfl ?_
      refine w_p (pc1 := 29) rfl rfl ?_
      refine w_p (pc1 := 31) rfl rfl ?_
      refine w_p (pc1 := 33) (st1 := .int 24 :: _) rfl rfl ?_
      refine w_f (a := 112) (b := 36) rfl rfl rfl ?_
      refine w_p (pc1 := 37) rfl rfl ?_
      refine w_p (pc1 := 39) rfl rfl ?_
      refine w_p (pc1 := 41) (st1 := .int 6 :: _) rfl rfl ?_
      refine w_t (a := 58) (b := 44) rfl rfl rfl ?_
      refine w_p (pc1 := 59) (st1 := .int 0 :: _) rfl rfl ?_
      refine w_p (pc1 := 60) (st1 := .int 0 :: _) rfl rfl ?_
      refine w_p (pc1 := 61) (al1 := [(2, .int 0), (5, .int 8), (4, .int 0), (3, .int 0), (0, .ref 176), (1, .int 0)]) rfl rfl ?_
      refine w_p (pc1 := 62) rfl rfl ?_
      refine w_p (pc1 := 63) rfl rfl ?_
      refine w_m0 (pc1 := 66) rfl rfl (h_gC rfl rfl rfl rfl) rfl ?_
      refine w_p (pc1 := 68) rfl rfl ?_
      refine w_m0 (pc1 := 69) rfl rfl (h_bl rfl rfl (by decide) rfl) rfl ?_
      refine w_t (a := 76) (b := 72) (cb_eq_t (by exact (frM_t F).2.1 _ (by decide))) rfl rfl ?_
      refine w_p (pc1 := 77) (st1 := .int 0 :: _) rfl rfl ?_
      refine w_p (pc1 := 78) (st1 := .int 0 :: _) rfl rfl ?_
      refine w_p (pc1 := 79) (al1 := [(3, .int 0), (2, .int 0), (5, .int 8), (4, .int 0), (0, .ref 176), (1, .int 0)]) rfl rfl ?_
      refine w_p (pc1 := 81) rfl rfl ?_
      refine w_p (pc1 := 83) rfl rfl ?_
      refine w_p (pc1 := 85) (st1 := .int 8 :: _) rfl rfl ?_
      refine w_t (a := 102) (b := 88) rfl rfl rfl ?_
      refine w_p (pc1 := 103) (st1 := .int 0 :: _) rfl rfl ?_
      refine w_p (pc1 := 104) (st1 := .int 0 :: _) rfl rfl ?_
      refine w_p (pc1 := 106) (al1 := [(4, .int 0), (3, .int 0), (2, .int 0), (5, .int 8), (0, .ref 176), (1, .int 0)]) rfl rfl ?_
      refine w_p (pc1 := 109) (al1 := [(5, .int 9), (4, .int 0), (3, .int 0), (2, .int 0), (0, .ref 176), (1, .int 0)]) rfl rfl ?_
      refine w_p (pc1 := 29) rfl rfl ?_
      refine w_p (pc1 := 31) rfl rfl ?_
      refine w_p (pc1 := 33) (st1 := .int 24 :: _) rfl rfl ?_
      refine w_f (a := 112) (b := 36) rfl rfl rfl ?_
      refine w_p (pc1 := 37) rfl rfl ?_
      refine w_p (pc1 := 39) rfl rfl ?_
      refine w_p (pc1 := 41) (st1 := .int 6 :: _) rfl rfl ?_
      refine w_t (a := 58) (b := 44) rfl rfl rfl ?_
      refine w_p (pc1 := 59) (st1 := .int 0 :: _) rfl rfl ?_
      refine w_p (pc1 := 60) (st1 := .int 0 :: _) rfl rfl ?_
      refine w_p (pc1 := 61) (al1 := [(2, .int 0), (5, .int 9), (4, .int 0), (3, .int 0), (0, .ref 176), (1, .int 0)]) rfl rfl ?_
      refine w_p (pc1 := 62) rfl rfl ?_
      refine w_p (pc1 := 63) rfl rfl ?_
      refine w_m0 (pc1 := 66) rfl rfl (h_gC rfl rfl rfl rfl) rfl ?_
      refine w_p (pc1 := 68) rfl rfl ?_
      refine w_m0 (pc1 := 69) rfl rfl (h_bl rfl rfl (by decide) rfl) rfl ?_
      refine w_t (a := 76) (b := 72) (cb_eq_t (by exact (frM_t F).2.1 _ (by decide))) rfl rfl ?_
      refine w_p (pc1 := 77) (st1 := .int 0 :: _) rfl rfl ?_
      refine w_p (pc1 := 78) (st1 := .int 0 :: _) rfl rfl ?_
      refine w_p (pc1 := 79) (al1 := [(3, .int 0), (2, .int 0), (5, .int 9), (4, .int 0), (0, .ref 176), (1, .int 0)]) rfl rfl ?_
      refine w_p (pc1 := 81) rfl rfl ?_
      refine w_p (pc1 := 83) rfl rfl ?_
      refine w_p (pc1 := 85) (st1 := .int 8 :: _) rfl rfl ?_
      refine w_t (a := 102) (b := 88) rfl rfl rfl ?_
      refine w_p (pc1 := 103) (st1 := .int 0 :: _) rfl rfl ?_
      refine w_p (pc1 := 104) (st1 := .int 0 :: _) rfl rfl ?_
      refine w_p (pc1 := 106) (al1 := [(4, .int 0), (3, .int 0), (2, .int 0), (5, .int 9), (0, .ref 176), (1, .int 0)]) rfl rfl ?_
      refine w_p (pc1 := 109) (al1 := [(5, .int 10), (4, .int 0), (3, .int 0), (2, .int 0), (0, .ref 176), (1, .int 0)]) rfl rfl ?_
      refine w_p (pc1 := 29) rfl rfl ?_
      refine w_p (pc1 := 31) rfl rfl ?_
      refine w_p (pc1 := 33) (st1 := .int 24 :: _) rfl rfl ?_
      refine w_f (a := 112) (b := 36) rfl rfl rfl ?_
      refine w_p (pc1 := 37) rfl rfl ?_
      refine w_p (pc1 := 39) rfl rfl ?_
      refine w_p (pc1 := 41) (st1 := .int 6 :: _) rfl rfl ?_
      refine w_t (a := 58) (b := 44) rfl rfl rfl ?_
      refine w_p (pc1 := 59) (st1 := .int 0 :: _) rfl rfl ?_
      refine w_p (pc1 := 60) (st1 := .int 0 :: _) rfl rfl ?_
      refine w_p (pc1 := 61) (al1 := [(2, .int 0), (5, .int 10), (4, .int 0), (3, .int 0), (0, .ref 176), (1, .int 0)]) rfl rfl ?_
      refine w_p (pc1 := 62) rfl rfl ?_
      refine w_p (pc1 := 63) rfl rfl ?_
      refine w_m0 (pc1 := 66) rfl rfl (h_gC rfl rfl rfl rfl) rfl ?_
      refine w_p (pc1 := 68) rfl rfl ?_
      refine w_m0 (pc1 := 69) rfl rfl (h_bl rfl rfl (by decide) rfl) rfl ?_
      refine w_t (a := 76) (b := 72) (cb_eq_t (by exact (frM_t F).2.1 _ (by decide))) rfl rfl ?_
      refine w_p (pc1 := 77) (st1 := .int 0 :: _) rfl rfl ?_
      refine w_p (pc1 := 78) (st1 := .int 0 :: _) rfl rfl ?_
      refine w_p (pc1 := 79) (al1 := [(3, .int 0), (2, .int 0), (5, .int 10), (4, .int 0), (0, .ref 176), (1, .int 0)]) rfl rfl ?_
      refine w_p (pc1 := 81) rfl rfl ?_
      refine w_p (pc1 := 83) rfl rfl ?_
      refine w_p (pc1 := 85) (st1 := .int 8 :: _) rfl rfl ?_
      refine w_t (a := 102) (b := 88) rfl rfl rfl ?_
      refine w_p (pc1 := 103) (st1 := .int 0 :: _) rfl rfl ?_
      refine w_p (pc1 := 104) (st1 := .int 0 :: _) rfl rfl ?_
      refine w_p (pc1 := 106) (al1 := [(4, .int 0), (3, .int 0), (2, .int 0), (5, .int 10), (0, .ref 176), (1, .int 0)]) rfl rfl ?_
      refine w_p (pc1 := 109) (al1 := [(5, .int 11), (4, .int 0), (3, .int 0), (2, .int 0), (0, .ref 176), (1, .int 0)]) rfl rfl ?_
      refine w_p (pc1 := 29) rfl rfl ?_
      refine w_p (pc1 := 31) rfl rfl ?_
      refine w_p (pc1 := 33) (st1 := .int 24 :: _) rfl rfl ?_
      refine w_f (a := 112) (b := 36) rfl rfl rfl ?_
      refine w_p (pc1 := 37) rfl rfl ?_
      refine w_p (pc1 := 39) rfl rfl ?_
      refine w_p (pc1 := 41) (st1 := .int 6 :: _) rfl rfl ?_
      refine w_t (a := 58) (b := 44) rfl rfl rfl ?_
      refine w_p (pc1 := 59) (st1 := .int 0 :: _) rfl rfl ?_
      refine w_p (pc1 := 60) (st1 := .int 0 :: _) rfl rfl ?_
      refine w_p (pc1 := 61) (al1 := [(2, .int 0), (5, .int 11), (4, .int 0), (3, .int 0), (0, .ref 176), (1, .int 0)]) rfl rfl ?_
      refine w_p (pc1 := 62) rfl rfl ?_
      refine w_p (pc1 := 63) rfl rfl ?_
      refine w_m0 (pc1 := 66) rfl rfl (h_gC rfl rfl rfl rfl) rfl ?_
      refine w_p (pc1 := 68) rfl rfl ?_
      refine w_m0 (pc1 := 69) rfl rfl (h_bl rfl rfl (by decide) rfl) rfl ?_
      refine w_t (a := 76) (b := 72) (cb_eq_t (by exact (frM_t F).2.1 _ (by decide))) rfl rfl ?_
      refine w_p (pc1 := 77) (st1 := .int 0 :: _) rfl rfl ?_
      refine w_p (pc1 := 78) (st1 := .int 0 :: _) rfl rfl ?_
      refine w_p (pc1 := 79) (al1 := [(3, .int 0), (2, .int 0), (5, .int 11), (4, .int 0), (0, .ref 176), (1, .int 0)]) rfl rfl ?_
      refine w_p (pc1 := 81) rfl rfl ?_
      refine w_p (pc1 := 83) rfl rfl ?_
      refine w_p (pc1 := 85) (st1 := .int 8 :: _) rfl rfl ?_
      refine w_t (a := 102) (b := 88) rfl rfl rfl ?_
      refine w_p (pc1 := 103) (st1 := .int 0 :: _) rfl rfl ?_
      refine w_p (pc1 := 104) (st1 := .int 0 :: _) rfl rfl ?_
      refine w_p (pc1 := 106) (al1 := [(4, .int 0), (3, .int 0), (2, .int 0), (5, .int 11), (0, .ref 176), (1, .int 0)]) rfl rfl ?_
      refine w_p (pc1 := 109) (al1 := [(5, .int 12), (4, .int 0), (3, .int 0), (2, .int 0), (0, .ref 176), (1, .int 0)]) rfl rfl ?_
      refine w_p (pc1 := 29) rfl rfl ?_
      refine w_p (pc1 := 31) rfl rfl ?_
      refine w_p (pc1 := 33) (st1 := .int 24 :: _) rfl rfl ?_
      refine w_f (a := 112) (b := 36) rfl rfl rfl ?_
      refine w_p (pc1 := 37) rfl rfl ?_
      refine w_p (pc1 := 39) rfl rfl ?_
      refine w_p (pc1 := 41) (st1 := .int 6 :: _) rfl rfl ?_
      refine w_t (a := 58) (b := 44) rfl rfl rfl ?_
      refine w_p (pc1 := 59) (st1 := .int 0 :: _) rfl rfl ?_
      refine w_p (pc1 := 60) (st1 := .int 0 :: _) rfl rfl ?_
      refine w_p (pc1 := 61) (al1 := [(2, .int 0), (5, .int 12), (4, .int 0), (3, .int 0), (0, .ref 176), (1, .int 0)]) rfl rfl ?_
      refine w_p (pc1 := 62) rfl rfl ?_
      refine w_p (pc1 := 63) rfl rfl ?_
      refine w_m0 (pc1 := 66) rfl rfl (h_gC rfl rfl rfl rfl) rfl ?_
      refine w_p (pc1 := 68) rfl rfl ?_
      refine w_m0 (pc1 := 69) rfl rfl (h_bl rfl rfl (by decide) rfl) rfl ?_
      refine w_t (a := 76) (b := 72) (cb_eq_t (by exact (frM_t F).2.1 _ (by decide))) rfl rfl ?_
      refine w_p (pc1 := 77) (st1 := .int 0 :: _) rfl rfl ?_
      refine w_p (pc1 := 78) (st1 := .int 0 :: _) rfl rfl ?_
      refine w_p (pc1 := 79) (al1 := [(3, .int 0), (2, .int 0), (5, .int 12), (4, .int 0), (0, .ref 176), (1, .int 0)]) rfl rfl ?_
      refine w_p (pc1 := 81) rfl rfl ?_
      refine w_p (pc1 := 83) rfl rfl ?_
      refine w_p (pc1 := 85) (st1 := .int 8 :: _) rfl rfl ?_
      refine w_t (a := 102) (b := 88) rfl rfl rfl ?_
      refine w_p (pc1 := 103) (st1 := .int 0 :: _) rfl rfl ?_
      refine w_p (pc1 := 104) (st1 := .int 0 :: _) rfl rfl ?_
      refine w_p (pc1 := 106) (al1 := [(4, .int 0), (3, .int 0), (2, .int 0), (5, .int 12), (0, .ref 176), (1, .int 0)]) rfl rfl ?_
      refine w_p (pc1 := 109) (al1 := [(5, .int 13), (4, .int 0), (3, .int 0), (2, .int 0), (0, .ref 176), (1, .int 0)]) rfl rfl ?_
      refine w_p (pc1 := 29) rfl rfl ?_
      refine w_p (pc1 := 31) rfl rfl ?_
      refine w_p (pc1 := 33) (st1 := .int 24 :: _) rfl rfl ?_
      refine w_f (a := 112) (b := 36) rfl rfl rfl ?_
      refine w_p (pc1 := 37) rfl rfl ?_
      refine w_p (pc1 := 39) rfl rfl ?_
      refine w_p (pc1 := 41) (st1 := .int 6 :: _) rfl rfl ?_
      refine w_t (a := 58) (b := 44) rfl rfl rfl ?_
      refine w_p (pc1 := 59) (st1 := .int 0 :: _) rfl rfl ?_
      refine w_p (pc1 := 60) (st1 := .int 0 :: _) rfl rfl ?_
      refine w_p (pc1 := 61) (al1 := [(2, .int 0), (5, .int 13), (4, .int 0), (3, .int 0), (0, .ref 176), (1, .int 0)]) rfl rfl ?_
      refine w_p (pc1 := 62) rfl rfl ?_
      refine w_p (pc1 := 63) rfl rfl ?_
      refine w_m0 (pc1 := 66) rfl rfl (h_gC rfl rfl rfl rfl) rfl ?_
      refine w_p (pc1 := 68) rfl rfl ?_
      refine w_m0 (pc1 := 69) rfl rfl (h_bl rfl rfl (by decide) rfl) rfl ?_
      refine w_t (a := 76) (b := 72) (cb_eq_t (by exact (frM_t F).2.1 _ (by decide))) rfl rfl ?_
      refine w_p (pc1 := 77) (st1 := .int 0 :: _) rfl rfl ?_
      refine w_p (pc1 := 78) (st1 := .int 0 :: _) rfl rfl ?_
      refine w_p (pc1 := 79) (al1 := [(3, .int 0), (2, .int 0), (5, .int 13), (4, .int 0), (0, .ref 176), (1, .int 0)]) rfl rfl ?_
      refine w_p (pc1 := 81) rfl rfl ?_
      refine w_p (pc1 := 83) rfl rfl ?_
      refine w_p (pc1 := 85) (st1 := .int 8 :: _) rfl rfl ?_
      refine w_t (a := 102) (b := 88) rfl rfl rfl ?_
      refine w_p (pc1 := 103) (st1 := .int 0 :: _) rfl rfl ?_
      refine w_p (pc1 := 104) (st1 := .int 0 :: _) rfl rfl ?_
      refine w_p (pc1 := 106) (al1 := [(4, .int 0), (3, .int 0), (2, .int 0), (5, .int 13), (0, .ref 176), (1, .int 0)]) rfl rfl ?_
      refine w_p (pc1 := 109) (al1 := [(5, .int 14), (4, .int 0), (3, .int 0), (2, .int 0), (0, .ref 176), (1, .int 0)]) rfl rfl ?_
      refine w_p (pc1 := 29) rfl rfl ?_
      refine w_p (pc1 := 31) rfl rfl ?_
      refine w_p (pc1 := 33) (st1 := .int 24 :: _) rfl rfl ?_
      refine w_f (a := 112) (b := 36) rfl rfl rfl ?_
      refine w_p (pc1 := 37) rfl rfl ?_
      refine w_p (pc1 := 39) rfl rfl ?_
      refine w_p (pc1 := 41) (st1 := .int 6 :: _) rfl rfl ?_
      refine w_t (a := 58) (b := 44) rfl rfl rfl ?_
      refine w_p (pc1 := 59) (st1 := .int 0 :: _) rfl rfl ?_
      refine w_p (pc1 := 60) (st1 := .int 0 :: _) rfl rfl ?_
      refine w_p (pc1 := 61) (al1 := [(2, .int 0), (5, .int 14), (4, .int 0), (3, .int 0), (0, .ref 176), (1, .int 0)]) rfl rfl ?_
      refine w_p (pc1 := 62) rfl rfl ?_
      refine w_p (pc1 := 63) rfl rfl ?_
      refine w_m0 (pc1 := 66) rfl rfl (h_gC rfl rfl rfl rfl) rfl ?_
      refine w_p (pc1 := 68) rfl rfl ?_
      refine w_m0 (pc1 := 69) rfl rfl (h_bl rfl rfl (by decide) rfl) rfl ?_
      refine w_t (a := 76) (b := 72) (cb_eq_t (by exact (frM_t F).2.1 _ (by decide))) rfl rfl ?_
      refine w_p (pc1 := 77) (st1 := .int 0 :: _) rfl rfl ?_
      refine w_p (pc1 := 78) (st1 := .int 0 :: _) rfl rfl ?_
      refine w_p (pc1 := 79) (al1 := [(3, .int 0), (2, .int 0), (5, .int 14), (4, .int 0), (0, .ref 176), (1, .int 0)]) rfl rfl ?_
      refine w_p (pc1 := 81) rfl rfl ?_
      refine w_p (pc1 := 83) rfl rfl ?_
      refine w_p (pc1 := 85) (st1 := .int 8 :: _) rfl rfl ?_
      refine w_t (a := 102) (b := 88) rfl rfl rfl ?_
      refine w_p (pc1 := 103) (st1 := .int 0 :: _) rfl rfl ?_
      refine w_p (pc1 := 104) (st1 := .int 0 :: _) rfl rfl ?_
      refine w_p (pc1 := 106) (al1 := [(4, .int 0), (3, .int 0), (2, .int 0), (5, .int 14), (0, .ref 176), (1, .int 0)]) rfl rfl ?_
      refine w_p (pc1 := 109) (al1 := [(5, .int 15), (4, .int 0), (3, .int 0), (2, .int 0), (0, .ref 176), (1, .int 0)]) rfl rfl ?_
      refine w_p (pc1 := 29) rfl rfl ?_
      refine w_p (pc1 := 31) rfl rfl ?_
      refine w_p (pc1 := 33) (st1 := .int 24 :: _) rfl rfl ?_
      refine w_f (a := 112) (b := 36) rfl rfl rfl ?_
      refine w_p (pc1 := 37) rfl rfl ?_
      refine w_p (pc1 := 39) rfl rfl ?_
      refine w_p (pc1 := 41) (st1 := .int 6 :: _) rfl rfl ?_
      refine w_t (a := 58) (b := 44) rfl rfl rfl ?_
      refine w_p (pc1 := 59) (st1 := .int 0 :: _) rfl rfl ?_
      refine w_p (pc1 := 60) (st1 := .int 0 :: _) rfl rfl ?_
      refine w_p (pc1 := 61) (al1 := [(2, .int 0), (5, .int 15), (4, .int 0), (3, .int 0), (0, .ref 176), (1, .int 0)]) rfl rfl ?_
      refine w_p (pc1 := 62) rfl rfl ?_
      refine w_p (pc1 := 63) rfl rfl ?_
      refine w_m0 (pc1 := 66) rfl rfl (h_gC rfl rfl rfl rfl) rfl ?_
      refine w_p (pc1 := 68) rfl rfl ?_
      refine w_m0 (pc1 := 69) rfl rfl (h_bl rfl rfl (by decide) rfl) rfl ?_
      refine w_t (a := 76) (b := 72) (cb_eq_t (by exact (frM_t F).2.1 _ (by decide))) rfl rfl ?_
      refine w_p (pc1 := 77) (st1 := .int 0 :: _) rfl rfl ?_
      refine w_p (pc1 := 78) (st1 := .int 0 :: _) rfl rfl ?_
      refine w_p (pc1 := 79) (al1 := [(3, .int 0), (2, .int 0), (5, .int 15), (4, .int 0), (0, .ref 176), (1, .int 0)]) rfl rfl ?_
      refine w_p (pc1 := 81) rfl rfl ?_
      refine w_p (pc1 := 83) rfl rfl ?_
      refine w_p (pc1 := 85) (st1 := .int 8 :: _) rfl rfl ?_
      refine w_t (a := 102) (b := 88) rfl rfl rfl ?_
      refine w_p (pc1 := 103) (st1 := .int 0 :: _) rfl rfl ?_
      refine w_p (pc1 := 104) (st1 := .int 0 :: _) rfl rfl ?_
      refine w_p (pc1 := 106) (al1 := [(4, .int 0), (3, .int 0), (2, .int 0), (5, .int 15), (0, .ref 176), (1, .int 0)]) rfl rfl ?_
      refine w_p (pc1 := 109) (al1 := [(5, .int 16), (4, .int 0), (3, .int 0), (2, .int 0), (0, .ref 176), (1, .int 0)]) rfl rfl ?_
      refine w_p (pc1 := 29) rfl rfl ?_
      refine w_p (pc1 := 31) rfl rfl ?_
      refine w_p (pc1 := 33) (st1 := .int 24 :: _) rfl rfl ?_
      refine w_f (a := 112) (b := 36) rfl rfl rfl ?_
      refine w_p (pc1 := 37) rfl rfl ?_
      refine w_p (pc1 := 39) rfl rfl ?_
      refine w_p (pc1 := 41) (st1 := .int 6 :: _) rfl rfl ?_
      refine w_t (a := 58) (b := 44) rfl rfl rfl ?_
      refine w_p (pc1 := 59) (st1 := .int 0 :: _) rfl rfl ?_
      refine w_p (pc1 := 60) (st1 := .int 0 :: _) rfl rfl ?_
      refine w_p (pc1 := 61) (al1 := [(2, .int 0), (5, .int 16), (4, .int 0), (3, .int 0), (0, .ref 176), (1, .int 0)]) rfl rfl ?_
      refine w_p (pc1 := 62) rfl rfl ?_
      refine w_p (pc1 := 63) rfl rfl ?_
      refine w_m0 (pc1 := 66) rfl rfl (h_gC rfl rfl rfl rfl) rfl ?_
      refine w_p (pc1 := 68) rfl rfl ?_
      refine w_m0 (pc1 := 69) rfl rfl (h_bl rfl rfl (by decide) rfl) rfl ?_
      refine w_t (a := 76) (b := 72) (cb_eq_t (by exact (frM_t F).2.1 _ (by decide))) rfl rfl ?_
      refine w_p (pc1 := 77) (st1 := .int 0 :: _) rfl rfl ?_
      refine w_p (pc1 := 78) (st1 := .int 0 :: _) rfl rfl ?_
      refine w_p (pc1 := 79) (al1 := [(3, .int 0), (2, .int 0), (5, .int 16), (4, .int 0), (0, .ref 176), (1, .int 0)]) rfl rfl ?_
      refine w_p (pc1 := 81) rfl rfl ?_
      refine w_p (pc1 := 83) rfl rfl ?_
      refine w_p (pc1 := 85) (st1 := .int 8 :: _) rfl rfl ?_
      refine w_t (a := 102) (b := 88) rfl rfl rfl ?_
      refine w_p (pc1 := 103) (st1 := .int 0 :: _) rfl rfl ?_
      refine w_p (pc1 := 104) (st1 := .int 0 :: _) rfl rfl ?_
      refine w_p (pc1 := 106) (al1 := [(4, .int 0), (3, .int 0), (2, .int 0), (5, .int 16), (0, .ref 176), (1, .int 0)]) rfl rfl ?_
      refine w_p (pc1 := 109) (al1 := [(5, .int 17), (4, .int 0), (3, .int 0), (2, .int 0), (0, .ref 176), (1, .int 0)]) rfl rfl ?_
      refine w_p (pc1 := 29) rfl rfl ?_
      refine w_p (pc1 := 31) rfl rfl ?_
      refine w_p (pc1 := 33) (st1 := .int 24 :: _) rfl rfl ?_
      refine w_f (a := 112) (b := 36) rfl rfl rfl ?_
      refine w_p (pc1 := 37) rfl rfl ?_
      refine w_p (pc1 := 39) rfl rfl ?_
      refine w_p (pc1 := 41) (st1 := .int 6 :: _) rfl rfl ?_
      refine w_t (a := 58) (b := 44) rfl rfl rfl ?_
      refine w_p (pc1 := 59) (st1 := .int 0 :: _) rfl rfl ?_
      refine w_p (pc1 := 60) (st1 := .int 0 :: _) rfl rfl ?_
      refine w_p (pc1 := 61) (al1 := [(2, .int 0), (5, .int 17), (4, .int 0), (3, .int 0), (0, .ref 176), (1, .int 0)]) rfl rfl ?_
      refine w_p (pc1 := 62) rfl rfl ?_
      refine w_p (pc1 := 63) rfl rfl ?_
      refine w_m0 (pc1 := 66) rfl rfl (h_gC rfl rfl rfl rfl) rfl ?_
      refine w_p (pc1 := 68) rfl rfl ?_
      refine w_m0 (pc1 := 69) rfl rfl (h_bl rfl rfl (by decide) rfl) rfl ?_
      refine w_t (a := 76) (b := 72) (cb_eq_t (by exact (frM_t F).2.1 _ (by decide))) rfl rfl ?_
      refine w_p (pc1 := 77) (st1 := .int 0 :: _) rfl rfl ?_
      refine w_p (pc1 := 78) (st1 := .int 0 :: _) rfl rfl ?_
      refine w_p (pc1 := 79) (al1 := [(3, .int 0), (2, .int 0), (5, .int 17), (4, .int 0), (0, .ref 176), (1, .int 0)]) rfl rfl ?_
      refine w_p (pc1 := 81) rfl rfl ?_
      refine w_p (pc1 := 83) rfl rfl ?_
      refine w_p (pc1 := 85) (st1 := .int 8 :: _) rfl rfl ?_
      refine w_t (a := 102) (b := 88) rfl rfl rfl ?_
      refine w_p (pc1 := 103) (st1 := .int 0 :: _) rfl rfl ?_
      refine w_p (pc1 := 104) (st1 := .int 0 :: _) rfl rfl ?_
      refine w_p (pc1 := 106) (al1 := [(4, .int 0), (3, .int 0), (2, .int 0), (5, .int 17), (0, .ref 176), (1, .int 0)]) rfl rfl ?_
      refine w_p (pc1 := 109) (al1 := [(5, .int 18), (4, .int 0), (3, .int 0), (2, .int 0), (0, .ref 176), (1, .int 0)]) rfl rfl ?_
      refine w_p (pc1 := 29) rfl rfl ?_
      refine w_p (pc1 := 31) rfl rfl ?_
      refine w_p (pc1 := 33) (st1 := .int 24 :: _) rfl rfl ?_
      refine w_f (a := 112) (b := 36) rfl rfl rfl ?_
      refine w_p (pc1 := 37) rfl rfl ?_
      refine w_p (pc1 := 39) rfl rfl ?_
      refine w_p (pc1 := 41) (st1 := .int 6 :: _) rfl rfl ?_
      refine w_t (a := 58) (b := 44) rfl rfl rfl ?_
      refine w_p (pc1 := 59) (st1 := .int 0 :: _) rfl rfl ?_
      refine w_p (pc1 := 60) (st1 := .int 0 :: _) rfl rfl ?_
      refine w_p (pc1 := 61) (al1 := [(2, .int 0), (5, .int 18), (4, .int 0), (3, .int 0), (0, .ref 176), (1, .int 0)]) rfl rfl ?_
      refine w_p (pc1 := 62) rfl rfl ?_
      refine w_p (pc1 := 63) rfl rfl ?_
      refine w_m0 (pc1 := 66) rfl rfl (h_gC rfl rfl rfl rfl) rfl ?_
      refine w_p (pc1 := 68) rfl rfl ?_
      refine w_m0 (pc1 := 69) rfl rfl (h_bl rfl rfl (by decide) rfl) rfl ?_
      refine w_t (a := 76) (b := 72) (cb_eq_t (by exact (frM_t F).2.1 _ (by decide))) rfl rfl ?_
      refine w_p (pc1 := 77) (st1 := .int 0 :: _) rfl rfl ?_
      refine w_p (pc1 := 78) (st1 := .int 0 :: _) rfl rfl ?_
      refine w_p (pc1 := 79) (al1 := [(3, .int 0), (2, .int 0), (5, .int 18), (4, .int 0), (0, .ref 176), (1, .int 0)]) rfl rfl ?_
      refine w_p (pc1 := 81) rfl rfl ?_
      refine w_p (pc1 := 83) rfl rfl ?_
      refine w_p (pc1 := 85) (st1 := .int 8 :: _) rfl rfl ?_
      refine w_t (a := 102) (b := 88) rfl rfl rfl ?_
      refine w_p (pc1 := 103) (st1 := .int 0 :: _) rfl rfl ?_
      refine w_p (pc1 := 104) (st1 := .int 0 :: _) rfl rfl ?_
      refine w_p (pc1 := 106) (al1 := [(4, .int 0), (3, .int 0), (2, .int 0), (5, .int 18), (0, .ref 176), (1, .int 0)]) rfl rfl ?_
      refine w_p (pc1 := 109) (al1 := [(5, .int 19), (4, .int 0), (3, .int 0), (2, .int 0), (0, .ref 176), (1, .int 0)]) rfl rfl ?_
      refine w_p (pc1 := 29) rfl rfl ?_
      refine w_p (pc1 := 31) rfl rfl ?_
      refine w_p (pc1 := 33) (st1 := .int 24 :: _) rfl rfl ?_
      refine w_f (a := 112) (b := 36) rfl rfl rfl ?_
      refine w_p (pc1 := 37) rfl rfl ?_
      refine w_p (pc1 := 39) rfl rfl ?_
      refine w_p (pc1 := 41) (st1 := .int 6 :: _) rfl rfl ?_
      refine w_t (a := 58) (b := 44) rfl rfl rfl ?_
      refine w_p (pc1 := 59) (st1 := .int 0 :: _) rfl rfl ?_
      refine w_p (pc1 := 60) (st1 := .int 0 :: _) rfl rfl ?_
      refine w_p (pc1 := 61) (al1 := [(2, .int 0), (5, .int 19), (4, .int 0), (3, .int 0), (0, .ref 176), (1, .int 0)]) rfl rfl ?_
      refine w_p (pc1 := 62) rfl rfl ?_
      refine w_p (pc1 := 63) rfl rfl ?_
      refine w_m0 (pc1 := 66) rfl rfl (h_gC rfl rfl rfl rfl) rfl ?_
      refine w_p (pc1 := 68) rfl rfl ?_
      refine w_m0 (pc1 := 69) rfl rfl (h_bl rfl rfl (by decide) rfl) rfl ?_
      refine w_t (a := 76) (b := 72) (cb_eq_t (by exact (frM_t F).2.1 _ (by decide))) rfl rfl ?_
      refine w_p (pc1 := 77) (st1 := .int 0 :: _) rfl rfl ?_
      refine w_p (pc1 := 78) (st1 := .int 0 :: _) rfl rfl ?_
      refine w_p (pc1 := 79) (al1 := [(3, .int 0), (2, .int 0), (5, .int 19), (4, .int 0), (0, .ref 176), (1, .int 0)]) rfl rfl ?_
      refine w_p (pc1 := 81) rfl rfl ?_
      refine w_p (pc1 := 83) rfl rfl ?_
      refine w_p (pc1 := 85) (st1 := .int 8 :: _) rfl rfl ?_
      refine w_t (a := 102) (b := 88) rfl rfl rfl ?_
      refine w_p (pc1 := 103) (st1 := .int 0 :: _) rfl rfl ?_
      refine w_p (pc1 := 104) (st1 := .int 0 :: _) rfl rfl ?_
      refine w_p (pc1 := 106) (al1 := [(4, .int 0), (3, .int 0), (2, .int 0), (5, .int 19), (0, .ref 176), (1, .int 0)]) rfl rfl ?_
      refine w_p (pc1 := 109) (al1 := [(5, .int 20), (4, .int 0), (3, .int 0), (2, .int 0), (0, .ref 176), (1, .int 0)]) rfl rfl ?_
      refine w_p (pc1 := 29) rfl rfl ?_
      refine w_p (pc1 := 31) rfl rfl ?_
      refine w_p (pc1 := 33) (st1 := .int 24 :: _) rfl rfl ?_
      refine w_f (a := 112) (b := 36) rfl rfl rfl ?_
      refine w_p (pc1 := 37) rfl rfl ?_
      refine w_p (pc1 := 39) rfl rfl ?_
      refine w_p (pc1 := 41) (st1 := .int 6 :: _) rfl rfl ?_
      refine w_t (a := 58) (b := 44) rfl rfl rfl ?_
      refine w_p (pc1 := 59) (st1 := .int 0 :: _) rfl rfl ?_
      refine w_p (pc1 := 60) (st1 := .int 0 :: _) rfl rfl ?_
      refine w_p (pc1 := 61) (al1 := [(2, .int 0), (5, .int 20), (4, .int 0), (3, .int 0), (0, .ref 176), (1, .int 0)]) rfl rfl ?_
      refine w_p (pc1 := 62) rfl rfl ?_
      refine w_p (pc1 := 63) rfl rfl ?_
      refine w_m0 (pc1 := 66) rfl rfl (h_gC rfl rfl rfl rfl) rfl ?_
      refine w_p (pc1 := 68) rfl rfl ?_
      refine w_m0 (pc1 := 69) rfl rfl (h_bl rfl rfl (by decide) rfl) rfl ?_
      refine w_t (a := 76) (b := 72) (cb_eq_t (by exact (frM_t F).2.1 _ (by decide))) rfl rfl ?_
      refine w_p (pc1 := 77) (st1 := .int 0 :: _) rfl rfl ?_
      refine w_p (pc1 := 78) (st1 := .int 0 :: _) rfl rfl ?_
      refine w_p (pc1 := 79) (al1 := [(3, .int 0), (2, .int 0), (5, .int 20), (4, .int 0), (0, .ref 176), (1, .int 0)]) rfl rfl ?_
      refine w_p (pc1 := 81) rfl rfl ?_
      refine w_p (pc1 := 83) rfl rfl ?_
      refine w_p (pc1 := 85) (st1 := .int 8 :: _) rfl rfl ?_
      refine w_t (a := 102) (b := 88) rfl rfl rfl ?_
      refine w_p (pc1 := 103) (st1 := .int 0 :: _) rfl rfl ?_
      refine w_p (pc1 := 104) (st1 := .int 0 :: _) rfl rfl ?_
      refine w_p (pc1 := 106) (al1 := [(4, .int 0), (3, .int 0), (2, .int 0), (5, .int 20), (0, .ref 176), (1, .int 0)]) rfl rfl ?_
      refine w_p (pc1 := 109) (al1 := [(5, .int 21), (4, .int 0), (3, .int 0), (2, .int 0), (0, .ref 176), (1, .int 0)]) rfl rfl ?_
      refine w_p (pc1 := 29) rfl rfl ?_
      refine w_p (pc1 := 31) rfl rfl ?_
      refine w_p (pc1 := 33) (st1 := .int 24 :: _) rfl rfl ?_
      refine w_f (a := 112) (b := 36) rfl rfl rfl ?_
      refine w_p (pc1 := 37) rfl rfl ?_
      refine w_p (pc1 := 39) rfl rfl ?_
      refine w_p (pc1 := 41) (st1 := .int 6 :: _) rfl rfl ?_
      refine w_t (a := 58) (b := 44) rfl rfl rfl ?_
      refine w_p (pc1 := 59) (st1 := .int 0 :: _) rfl rfl ?_
      refine w_p (pc1 := 60) (st1 := .int 0 :: _) rfl rfl ?_
      refine w_p (pc1 := 61) (al1 := [(2, .int 0), (5, .int 21), (4, .int 0), (3, .int 0), (0, .ref 176), (1, .int 0)]) rfl rfl ?_
      refine w_p (pc1 := 62) rfl rfl ?_
      refine w_p (pc1 := 63) rfl rfl ?_
      refine w_m0 (pc1 := 66) rfl rfl (h_gC rfl rfl rfl rfl) rfl ?_
      refine w_p (pc1 := 68) rfl rfl ?_
      refine w_m0 (pc1 := 69) rfl rfl (h_bl rfl rfl (by decide) rfl) rfl ?_
      refine w_t (a := 76) (b := 72) (cb_eq_t (by exact (frM_t F).2.1 _ (by decide))) rfl rfl ?_
      refine w_p (pc1 := 77) (st1 := .int 0 :: _) rfl rfl ?_
      refine w_p (pc1 := 78) (st1 := .int 0 :: _) rfl rfl ?_
      refine w_p (pc1 := 79) (al1 := [(3, .int 0), (2, .int 0), (5, .int 21), (4, .int 0), (0, .ref 176), (1, .int 0)]) rfl rfl ?_
      refine w_p (pc1 := 81) rfl rfl ?_
      refine w_p (pc1 := 83) rfl rfl ?_
      refine w_p (pc1 := 85) (st1 := .int 8 :: _) rfl rfl ?_
      refine w_t (a := 102) (b := 88) rfl rfl rfl ?_
      refine w_p (pc1 := 103) (st1 := .int 0 :: _) rfl rfl ?_
      refine w_p (pc1 := 104) (st1 := .int 0 :: _) rfl rfl ?_
      refine w_p (pc1 := 106) (al1 := [(4, .int 0), (3, .int 0), (2, .int 0), (5, .int 21), (0, .ref 176), (1, .int 0)]) rfl rfl ?_
      refine w_p (pc1 := 109) (al1 := [(5, .int 22), (4, .int 0), (3, .int 0), (2, .int 0), (0, .ref 176), (1, .int 0)]) rfl rfl ?_
      refine w_p (pc1 := 29) rfl rfl ?_
      refine w_p (pc1 := 31) rfl rfl ?_
      refine w_p (pc1 := 33) (st1 := .int 24 :: _) rfl rfl ?_
      refine w_f (a := 112) (b := 36) rfl rfl rfl ?_
      refine w_p (pc1 := 37) rfl rfl ?_
      refine w_p (pc1 := 39) rfl rfl ?_
      refine w_p (pc1 := 41) (st1 := .int 6 :: _) rfl rfl ?_
      refine w_t (a := 58) (b := 44) rfl rfl rfl ?_
      refine w_p (pc1 := 59) (st1 := .int 0 :: _) rfl rfl ?_
      refine w_p (pc1 := 60) (st1 := .int 0 :: _) rfl rfl ?_
      refine w_p (pc1 := 61) (al1 := [(2, .int 0), (5, .int 22), (4, .int 0), (3, .int 0), (0, .ref 176), (1, .int 0)]) rfl rfl ?_
      refine w_p (pc1 := 62) rfl rfl ?_
      refine w_p (pc1 := 63) rfl rfl ?_
      refine w_m0 (pc1 := 66) rfl rfl (h_gC rfl rfl rfl rfl) rfl ?_
      refine w_p (pc1 := 68) rfl rfl ?_
      refine w_m0 (pc1 := 69) rfl rfl (h_bl rfl rfl (by decide) rfl) rfl ?_
      refine w_t (a := 76) (b := 72) (cb_eq_t (by exact (frM_t F).2.1 _ (by decide))) rfl rfl ?_
      refine w_p (pc1 := 77) (st1 := .int 0 :: _) rfl rfl ?_
      refine w_p (pc1 := 78) (st1 := .int 0 :: _) rfl rfl ?_
      refine w_p (pc1 := 79) (al1 := [(3, .int 0), (2, .int 0), (5, .int 22), (4, .int 0), (0, .ref 176), (1, .int 0)]) rfl rfl ?_
      refine w_p (pc1 := 81) rfl rfl ?_
      refine w_p (pc1 := 83) rfl rfl ?_
      refine w_p (pc1 := 85) (st1 := .int 8 :: _) rfl rfl ?_
      refine w_t (a := 102) (b := 88) rfl rfl rfl ?_
      refine w_p (pc1 := 103) (st1 := .int 0 :: _) rfl rfl ?_
      refine w_p (pc1 := 104) (st1 := .int 0 :: _) rfl rfl ?_
      refine w_p (pc1 := 106) (al1 := [(4, .int 0), (3, .int 0), (2, .int 0), (5, .int 22), (0, .ref 176), (1, .int 0)]) rfl rfl ?_
      refine w_p (pc1 := 109) (al1 := [(5, .int 23), (4, .int 0), (3, .int 0), (2, .int 0), (0, .ref 176), (1, .int 0)]) rfl rfl ?_
      refine w_p (pc1 := 29) rfl rfl ?_
      refine w_p (pc1 := 31) rfl rfl ?_
      refine w_p (pc1 := 33) (st1 := .int 24 :: _) rfl rfl ?_
      refine w_f (a := 112) (b := 36) rfl rfl rfl ?_
      refine w_p (pc1 := 37) rfl rfl ?_
      refine w_p (pc1 := 39) rfl rfl ?_
      refine w_p (pc1 := 41) (st1 := .int 6 :: _) rfl rfl ?_
      refine w_t (a := 58) (b := 44) rfl rfl rfl ?_
      refine w_p (pc1 := 59) (st1 := .int 0 :: _) rfl rfl ?_
      refine w_p (pc1 := 60) (st1 := .int 0 :: _) rfl rfl ?_
      refine w_p (pc1 := 61) (al1 := [(2, .int 0), (5, .int 23), (4, .int 0), (3, .int 0), (0, .ref 176), (1, .int 0)]) rfl rfl ?_
      refine w_p (pc1 := 62) rfl rfl ?_
      refine w_p (pc1 := 63) rfl rfl ?_
      refine w_m0 (pc1 := 66) rfl rfl (h_gC rfl rfl rfl rfl) rfl ?_
      refine w_p (pc1 := 68) rfl rfl ?_
      refine w_m0 (pc1 := 69) rfl rfl (h_bl rfl rfl (by decide) rfl) rfl ?_
      refine w_t (a := 76) (b := 72) (cb_eq_t (by exact (frM_t F).2.1 _ (by decide))) rfl rfl ?_
      refine w_p (pc1 := 77) (st1 := .int 0 :: _) rfl rfl ?_
      refine w_p (pc1 := 78) (st1 := .int 0 :: _) rfl rfl ?_
      refine w_p (pc1 := 79) (al1 := [(3, .int 0), (2, .int 0), (5, .int 23), (4, .int 0), (0, .ref 176), (1, .int 0)]) rfl rfl ?_
      refine w_p (pc1 := 81) rfl rfl ?_
      refine w_p (pc1 := 83) rfl rfl ?_
      refine w_p (pc1 := 85) (st1 := .int 8 :: _) rfl rfl ?_
      refine w_t (a := 102) (b := 88) rfl rfl rfl ?_
      refine w_p (pc1 := 103) (st1 := .int 0 :: _) rfl rfl ?_
      refine w_p (pc1 := 104) (st1 := .int 0 :: _) rfl rfl ?_
      refine w_p (pc1 := 106) (al1 := [(4, .int 0), (3, .int 0), (2, .int 0), (5, .int 23), (0, .ref 176), (1, .int 0)]) rfl rfl ?_
      refine w_p (pc1 := 109) (al1 := [(5, .int 24), (4, .int 0), (3, .int 0), (2, .int 0), (0, .ref 176), (1, .int 0)]) rfl rfl ?_
      refine w_p (pc1 := 29) rfl rfl ?_
      refine w_p (pc1 := 31) rfl rfl ?_
      refine w_p (pc1 := 33) (st1 := .int 24 :: _) rfl rfl ?_
      refine w_t (a := 112) (b := 36) rfl rfl rfl ?_
      refine w_p (pc1 := 113) rfl rfl ?_
      refine w_f (a := 120) (b := 116) rfl rfl rfl ?_
      refine w_p (pc1 := 117) rfl rfl ?_
      refine w_p (pc1 := 187) rfl rfl ?_
      refine w_r rfl rfl rfl (fun _ _ => rfl) cr_int ?_
      refine Or.inl ⟨by decide, ?_, rfl, rfl⟩; first | rfl | rw [(frM_t F).2.2.2.1] | rw [(frM_t F).2.2.2.2.2]
    · skip
      refine w_p (pc1 := 1) rfl rfl ?_
      refine w_p (pc1 := 2) rfl rfl ?_
      refine w_p (pc1 := 3) (st1 := .long 1 :: _) rfl rfl ?_
      refine w_p (pc1 := 4) (st1 := .long 0 :: _) rfl rfl ?_
      refine w_m0 (pc1 := 7) (st1 := .long 6 :: _) rfl rfl rfl rfl ?_
      refine w_je (pc1 := 10) (vs := [.long 1, .long 0, .long 6]) (rest := [.ref 176]) (st1 := [.int 1, .ref 176]) (m_189t (d := _) (sl := 0) rfl) rfl rfl rfl (fun _ _ => rfl) rfl (by exact cl_s my_189 rfl rfl rfl (Nat.le_of_ble_eq_true rfl) rfl rfl) (by rfl) (Nat.le_of_ble_eq_true rfl) (Nat.le_of_ble_eq_true rfl) rfl (by rfl) ?_
      refine w_p (pc1 := 11) (st1 := .int 1 :: _) rfl rfl ?_
      refine w_je (pc1 := 14) (vs := [.ref 176, .int 1, .int 1]) (rest := []) (st1 := [.int 1]) (m_190 (d := _) (sl := 0)) rfl rfl rfl (fun _ _ => rfl) rfl (by exact cl_v my_190 rfl rfl rfl (Nat.le_of_ble_eq_true rfl) rfl (MH_obj rfl rfl) rfl (by decide) rfl rfl) (by rfl) (Nat.le_of_ble_eq_true rfl) (Nat.le_of_ble_eq_true rfl) rfl (by rfl) ?_
      refine w_t (a := 19) (b := 17) rfl rfl rfl ?_
      refine w_p (pc1 := 20) (st1 := .int 0 :: _) rfl rfl ?_
      refine w_p (pc1 := 21) (al1 := [(2, .int 0), (0, .ref 176), (1, .int 1)]) rfl rfl ?_
      refine w_p (pc1 := 22) (st1 := .int 0 :: _) rfl rfl ?_
      refine w_p (pc1 := 23) (al1 := [(3, .int 0), (2, .int 0), (0, .ref 176), (1, .int 1)]) rfl rfl ?_
      refine w_p (pc1 := 24) (st1 := .int 0 :: _) rfl rfl ?_
      refine w_p (pc1 := 26) (al1 := [(4, .int 0), (3, .int 0), (2, .int 0), (0, .ref 176), (1, .int 1)]) rfl rfl ?_
      refine w_p (pc1 := 27) (st1 := .int 0 :: _) rfl rfl ?_
      refine w_p (pc1 := 29) (al1 := [(5, .int 0), (4, .int 0), (3, .int 0), (2, .int 0), (0, .ref 176), (1, .int 1)]) rfl rfl ?_
      refine w_p (pc1 := 31) rfl rfl ?_
      refine w_p (pc1 := 33) (st1 := .int 24 :: _) rfl rfl ?_
      refine w_f (a := 112) (b := 36) rfl rfl rfl ?_
      refine w_p (pc1 := 37) rfl rfl ?_
      refine w_p (pc1 := 39) rfl rfl ?_
      refine w_p (pc1 := 41) (st1 := .int 6 :: _) rfl rfl ?_
      refine w_f (a := 58) (b := 44) rfl rfl rfl ?_
      refine w_p (pc1 := 45) rfl rfl ?_
      refine w_m0 (pc1 := 48) rfl rfl (h_gC rfl rfl rfl rfl) rfl ?_
      refine w_p (pc1 := 50) rfl rfl ?_
      refine w_m0 (pc1 := 51) rfl rfl (h_bl rfl rfl (by decide) rfl) rfl ?_
      refine w_t (a := 58) (b := 54) (cb_eq_t (by exact (frM_t F).1 _ (by decide))) rfl rfl ?_
      refine w_p (pc1 := 59) (st1 := .int 0 :: _) rfl rfl ?_
      refine w_p (pc1 := 60) (st1 := .int 0 :: _) rfl rfl ?_
      refine w_p (pc1 := 61) (al1 := [(2, .int 0), (5, .int 0), (4, .int 0), (3, .int 0), (0, .ref 176), (1, .int 1)]) rfl rfl ?_
      refine w_p (pc1 := 62) rfl rfl ?_
      refine w_p (pc1 := 63) rfl rfl ?_
      refine w_m0 (pc1 := 66) rfl rfl (h_gC rfl rfl rfl rfl) rfl ?_
      refine w_p (pc1 := 68) rfl rfl ?_
      refine w_m0 (pc1 := 69) rfl rfl (h_bl rfl rfl (by decide) rfl) rfl ?_
      refine w_t (a := 76) (b := 72) (cb_eq_t (by exact (frM_t F).2.1 _ (by decide))) rfl rfl ?_
      refine w_p (pc1 := 77) (st1 := .int 0 :: _) rfl rfl ?_
      refine w_p (pc1 := 78) (st1 := .int 0 :: _) rfl rfl ?_
      refine w_p (pc1 := 79) (al1 := [(3, .int 0), (2, .int 0), (5, .int 0), (4, .int 0), (0, .ref 176), (1, .int 1)]) rfl rfl ?_
      refine w_p (pc1 := 81) rfl rfl ?_
      refine w_p (pc1 := 83) rfl rfl ?_
      refine w_p (pc1 := 85) (st1 := .int 8 :: _) rfl rfl ?_
      refine w_f (a := 102) (b := 88) rfl rfl rfl ?_
      refine w_p (pc1 := 89) rfl rfl ?_
      refine w_m0 (pc1 := 92) rfl rfl (h_gC rfl rfl rfl rfl) rfl ?_
      refine w_p (pc1 := 94) rfl rfl ?_
      refine w_m0 (pc1 := 95) rfl rfl (h_bl rfl rfl (by decide) rfl) rfl ?_
      refine w_t (a := 102) (b := 98) (cb_eq_t (by exact (frM_t F).2.2.1 _ (by decide))) rfl rfl ?_
      refine w_p (pc1 := 103) (st1 := .int 0 :: _) rfl rfl ?_
      refine w_p (pc1 := 104) (st1 := .int 0 :: _) rfl rfl ?_
      refine w_p (pc1 := 106) (al1 := [(4, .int 0), (3, .int 0), (2, .int 0), (5, .int 0), (0, .ref 176), (1, .int 1)]) rfl rfl ?_
      refine w_p (pc1 := 109) (al1 := [(5, .int 1), (4, .int 0), (3, .int 0), (2, .int 0), (0, .ref 176), (1, .int 1)]) rfl rfl ?_
      refine w_p (pc1 := 29) rfl rfl ?_
      refine w_p (pc1 := 31) rfl rfl ?_
      refine w_p (pc1 := 33) (st1 := .int 24 :: _) rfl rfl ?_
      refine w_f (a := 112) (b := 36) rfl rfl rfl ?_
      refine w_p (pc1 := 37) rfl rfl ?_
      refine w_p (pc1 := 39) rfl rfl ?_
      refine w_p (pc1 := 41) (st1 := .int 6 :: _) rfl rfl ?_
      refine w_f (a := 58) (b := 44) rfl rfl rfl ?_
      refine w_p (pc1 := 45) rfl rfl ?_
      refine w_m0 (pc1 := 48) rfl rfl (h_gC rfl rfl rfl rfl) rfl ?_
      refine w_p (pc1 := 50) rfl rfl ?_
      refine w_m0 (pc1 := 51) rfl rfl (h_bl rfl rfl (by decide) rfl) rfl ?_
      refine w_t (a := 58) (b := 54) (cb_eq_t (by exact (frM_t F).1 _ (by decide))) rfl rfl ?_
      refine w_p (pc1 := 59) (st1 := .int 0 :: _) rfl rfl ?_
      refine w_p (pc1 := 60) (st1 := .int 0 :: _) rfl rfl ?_
      refine w_p (pc1 := 61) (al1 := [(2, .int 0), (5, .int 1), (4, .int 0), (3, .int 0), (0, .ref 176), (1, .int 1)]) rfl rfl ?_
      refine w_p (pc1 := 62) rfl rfl ?_
      refine w_p (pc1 := 63) rfl rfl ?_
      refine w_m0 (pc1 := 66) rfl rfl (h_gC rfl rfl rfl rfl) rfl ?_
      refine w_p (pc1 := 68) rfl rfl ?_
      refine w_m0 (pc1 := 69) rfl rfl (h_bl rfl rfl (by decide) rfl) rfl ?_
      refine w_t (a := 76) (b := 72) (cb_eq_t (by exact (frM_t F).2.1 _ (by decide))) rfl rfl ?_
      refine w_p (pc1 := 77) (st1 := .int 0 :: _) rfl rfl ?_
      refine w_p (pc1 := 78) (st1 := .int 0 :: _) rfl rfl ?_
      refine w_p (pc1 := 79) (al1 := [(3, .int 0), (2, .int 0), (5, .int 1), (4, .int 0), (0, .ref 176), (1, .int 1)]) rfl rfl ?_
      refine w_p (pc1 := 81) rfl rfl ?_
      refine w_p (pc1 := 83) rfl rfl ?_
      refine w_p (pc1 := 85) (st1 := .int 8 :: _) rfl rfl ?_
      refine w_f (a := 102) (b := 88) rfl rfl rfl ?_
      refine w_p (pc1 := 89) rfl rfl ?_
      refine w_m0 (pc1 := 92) rfl rfl (h_gC rfl rfl rfl rfl) rfl ?_
      refine w_p (pc1 := 94) rfl rfl ?_
      refine w_m0 (pc1 := 95) rfl rfl (h_bl rfl rfl (by decide) rfl) rfl ?_
      refine w_t (a := 102) (b := 98) (cb_eq_t (by exact (frM_t F).2.2.1 _ (by decide))) rfl rfl ?_
      refine w_p (pc1 := 103) (st1 := .int 0 :: _) rfl rfl ?_
      refine w_p (pc1 := 104) (st1 := .int 0 :: _) rfl rfl ?_
      refine w_p (pc1 := 106) (al1 := [(4, .int 0), (3, .int 0), (2, .int 0), (5, .int 1), (0, .ref 176), (1, .int 1)]) rfl rfl ?_
      refine w_p (pc1 := 109) (al1 := [(5, .int 2), (4, .int 0), (3, .int 0), (2, .int 0), (0, .ref 176), (1, .int 1)]) rfl rfl ?_
      refine w_p (pc1 := 29) rfl rfl ?_
      refine w_p (pc1 := 31) rfl rfl ?_
      refine w_p (pc1 := 33) (st1 := .int 24 :: _) rfl rfl ?_
      refine w_f (a := 112) (b := 36) rfl rfl rfl ?_
      refine w_p (pc1 := 37) rfl rfl ?_
      refine w_p (pc1 := 39) rfl rfl ?_
      refine w_p (pc1 := 41) (st1 := .int 6 :: _) rfl rfl ?_
      refine w_f (a := 58) (b := 44) rfl rfl rfl ?_
      refine w_p (pc1 := 45) rfl rfl ?_
      refine w_m0 (pc1 := 48) rfl rfl (h_gC rfl rfl rfl rfl) rfl ?_
      refine w_p (pc1 := 50) rfl rfl ?_
      refine w_m0 (pc1 := 51) rfl rfl (h_bl rfl rfl (by decide) rfl) rfl ?_
      refine w_t (a := 58) (b := 54) (cb_eq_t (by exact (frM_t F).1 _ (by decide))) rfl rfl ?_
      refine w_p (pc1 := 59) (st1 := .int 0 :: _) rfl rfl ?_
      refine w_p (pc1 := 60) (st1 := .int 0 :: _) rfl rfl ?_
      refine w_p (pc1 := 61) (al1 := [(2, .int 0), (5, .int 2), (4, .int 0), (3, .int 0), (0, .ref 176), (1, .int 1)]) rfl rfl ?_
      refine w_p (pc1 := 62) rfl rfl ?_
      refine w_p (pc1 := 63) rfl rfl ?_
      refine w_m0 (pc1 := 66) rfl rfl (h_gC rfl rfl rfl rfl) rfl ?_
      refine w_p (pc1 := 68) rfl rfl ?_
      refine w_m0 (pc1 := 69) rfl rfl (h_bl rfl rfl (by decide) rfl) rfl ?_
      refine w_t (a := 76) (b := 72) (cb_eq_t (by exact (frM_t F).2.1 _ (by decide))) rfl rfl ?_
      refine w_p (pc1 := 77) (st1 := .int 0 :: _) rfl rfl ?_
      refine w_p (pc1 := 78) (st1 := .int 0 :: _) rfl rfl ?_
      refine w_p (pc1 := 79) (al1 := [(3, .int 0), (2, .int 0), (5, .int 2), (4, .int 0), (0, .ref 176), (1, .int 1)]) rfl rfl ?_
      refine w_p (pc1 := 81) rfl rfl ?_
      refine w_p (pc1 := 83) rfl rfl ?_
      refine w_p (pc1 := 85) (st1 := .int 8 :: _) rfl rfl ?_
      refine w_f (a := 102) (b := 88) rfl rfl rfl ?_
      refine w_p (pc1 := 89) rfl rfl ?_
      refine w_m0 (pc1 := 92) rfl rfl (h_gC rfl rfl rfl rfl) rfl ?_
      refine w_p (pc1 := 94) rfl rfl ?_
      refine w_m0 (pc1 := 95) rfl rfl (h_bl rfl rfl (by decide) rfl) rfl ?_
      refine w_t (a := 102) (b := 98) (cb_eq_t (by exact (frM_t F).2.2.1 _ (by decide))) rfl rfl ?_
      refine w_p (pc1 := 103) (st1 := .int 0 :: _) rfl rfl ?_
      refine w_p (pc1 := 104) (st1 := .int 0 :: _) rfl rfl ?_
      refine w_p (pc1 := 106) (al1 := [(4, .int 0), (3, .int 0), (2, .int 0), (5, .int 2), (0, .ref 176), (1, .int 1)]) rfl rfl ?_
      refine w_p (pc1 := 109) (al1 := [(5, .int 3), (4, .int 0), (3, .int 0), (2, .int 0), (0, .ref 176), (1, .int 1)]) rfl rfl ?_
      refine w_p (pc1 := 29) rfl rfl ?_
      refine w_p (pc1 := 31) rfl rfl ?_
      refine w_p (pc1 := 33) (st1 := .int 24 :: _) rfl rfl ?_
      refine w_f (a := 112) (b := 36) rfl rfl rfl ?_
      refine w_p (pc1 := 37) rfl rfl ?_
      refine w_p (pc1 := 39) rfl rfl ?_
      refine w_p (pc1 := 41) (st1 := .int 6 :: _) rfl rfl ?_
      refine w_f (a := 58) (b := 44) rfl rfl rfl ?_
      refine w_p (pc1 := 45) rfl rfl ?_
      refine w_m0 (pc1 := 48) rfl rfl (h_gC rfl rfl rfl rfl) rfl ?_
      refine w_p (pc1 := 50) rfl rfl ?_
      refine w_m0 (pc1 := 51) rfl rfl (h_bl rfl rfl (by decide) rfl) rfl ?_
      refine w_t (a := 58) (b := 54) (cb_eq_t (by exact (frM_t F).1 _ (by decide))) rfl rfl ?_
      refine w_p (pc1 := 59) (st1 := .int 0 :: _) rfl rfl ?_
      refine w_p (pc1 := 60) (st1 := .int 0 :: _) rfl rfl ?_
      refine w_p (pc1 := 61) (al1 := [(2, .int 0), (5, .int 3), (4, .int 0), (3, .int 0), (0, .ref 176), (1, .int 1)]) rfl rfl ?_
      refine w_p (pc1 := 62) rfl rfl ?_
      refine w_p (pc1 := 63) rfl rfl ?_
      refine w_m0 (pc1 := 66) rfl rfl (h_gC rfl rfl rfl rfl) rfl ?_
      refine w_p (pc1 := 68) rfl rfl ?_
      refine w_m0 (pc1 := 69) rfl rfl (h_bl rfl rfl (by decide) rfl) rfl ?_
      refine w_t (a := 76) (b := 72) (cb_eq_t (by exact (frM_t F).2.1 _ (by decide))) rfl rfl ?_
      refine w_p (pc1 := 77) (st1 := .int 0 :: _) rfl rfl ?_
      refine w_p (pc1 := 78) (st1 := .int 0 :: _) rfl rfl ?_
      refine w_p (pc1 := 79) (al1 := [(3, .int 0), (2, .int 0), (5, .int 3), (4, .int 0), (0, .ref 176), (1, .int 1)]) rfl rfl ?_
      refine w_p (pc1 := 81) rfl rfl ?_
      refine w_p (pc1 := 83) rfl rfl ?_
      refine w_p (pc1 := 85) (st1 := .int 8 :: _) rfl rfl ?_
      refine w_f (a := 102) (b := 88) rfl rfl rfl ?_
      refine w_p (pc1 := 89) rfl rfl ?_
      refine w_m0 (pc1 := 92) rfl rfl (h_gC rfl rfl rfl rfl) rfl ?_
      refine w_p (pc1 := 94) rfl rfl ?_
      refine w_m0 (pc1 := 95) rfl rfl (h_bl rfl rfl (by decide) rfl) rfl ?_
      refine w_t (a := 102) (b := 98) (cb_eq_t (by exact (frM_t F).2.2.1 _ (by decide))) rfl rfl ?_
      refine w_p (pc1 := 103) (st1 := .int 0 :: _) rfl rfl ?_
      refine w_p (pc1 := 104) (st1 := .int 0 :: _) rfl rfl ?_
      refine w_p (pc1 := 106) (al1 := [(4, .int 0), (3, .int 0), (2, .int 0), (5, .int 3), (0, .ref 176), (1, .int 1)]) rfl rfl ?_
      refine w_p (pc1 := 109) (al1 := [(5, .int 4), (4, .int 0), (3, .int 0), (2, .int 0), (0, .ref 176), (1, .int 1)]) rfl rfl ?_
      refine w_p (pc1 := 29) rfl rfl ?_
      refine w_p (pc1 := 31) rfl rfl ?_
      refine w_p (pc1 := 33) (st1 := .int 24 :: _) rfl rfl ?_
      refine w_f (a := 112) (b := 36) rfl rfl rfl ?_
      refine w_p (pc1 := 37) rfl rfl ?_
      refine w_p (pc1 := 39) rfl rfl ?_
      refine w_p (pc1 := 41) (st1 := .int 6 :: _) rfl rfl ?_
      refine w_f (a := 58) (b := 44) rfl rfl rfl ?_
      refine w_p (pc1 := 45) rfl rfl ?_
      refine w_m0 (pc1 := 48) rfl rfl (h_gC rfl rfl rfl rfl) rfl ?_
      refine w_p (pc1 := 50) rfl rfl ?_
      refine w_m0 (pc1 := 51) rfl rfl (h_bl rfl rfl (by decide) rfl) rfl ?_
      refine w_t (a := 58) (b := 54) (cb_eq_t (by exact (frM_t F).1 _ (by decide))) rfl rfl ?_
      refine w_p (pc1 := 59) (st1 := .int 0 :: _) rfl rfl ?_
      refine w_p (pc1 := 60) (st1 := .int 0 :: _) rfl rfl ?_
      refine w_p (pc1 := 61) (al1 := [(2, .int 0), (5, .int 4), (4, .int 0), (3, .int 0), (0, .ref 176), (1, .int 1)]) rfl rfl ?_
      refine w_p (pc1 := 62) rfl rfl ?_
      refine w_p (pc1 := 63) rfl rfl ?_
      refine w_m0 (pc1 := 66) rfl rfl (h_gC rfl rfl rfl rfl) rfl ?_
      refine w_p (pc1 := 68) rfl rfl ?_
      refine w_m0 (pc1 := 69) rfl rfl (h_bl rfl rfl (by decide) rfl) rfl ?_
      refine w_t (a := 76) (b := 72) (cb_eq_t (by exact (frM_t F).2.1 _ (by decide))) rfl rfl ?_
      refine w_p (pc1 := 77) (st1 := .int 0 :: _) rfl rfl ?_
      refine w_p (pc1 := 78) (st1 := .int 0 :: _) rfl rfl ?_
      refine w_p (pc1 := 79) (al1 := [(3, .int 0), (2, .int 0), (5, .int 4), (4, .int 0), (0, .ref 176), (1, .int 1)]) rfl rfl ?_
      refine w_p (pc1 := 81) rfl rfl ?_
      refine w_p (pc1 := 83) rfl rfl ?_
      refine w_p (pc1 := 85) (st1 := .int 8 :: _) rfl rfl ?_
      refine w_f (a := 102) (b := 88) rfl rfl rfl ?_
      refine w_p (pc1 := 89) rfl rfl ?_
      refine w_m0 (pc1 := 92) rfl rfl (h_gC rfl rfl rfl rfl) rfl ?_
      refine w_p (pc1 := 94) rfl rfl ?_
      refine w_m0 (pc1 := 95) rfl rfl (h_bl rfl rfl (by decide) rfl) rfl ?_
      refine w_t (a := 102) (b := 98) (cb_eq_t (by exact (frM_t F).2.2.1 _ (by decide))) rfl rfl ?_
      refine w_p (pc1 := 103) (st1 := .int 0 :: _) rfl rfl ?_
      refine w_p (pc1 := 104) (st1 := .int 0 :: _) rfl rfl ?_
      refine w_p (pc1 := 106) (al1 := [(4, .int 0), (3, .int 0), (2, .int 0), (5, .int 4), (0, .ref 176), (1, .int 1)]) rfl rfl ?_
      refine w_p (pc1 := 109) (al1 := [(5, .int 5), (4, .int 0), (3, .int 0), (2, .int 0), (0, .ref 176), (1, .int 1)]) rfl rfl ?_
      refine w_p (pc1 := 29) rfl rfl ?_
      refine w_p (pc1 := 31) rfl rfl ?_
      refine w_p (pc1 := 33) (st1 := .int 24 :: _) rfl rfl ?_
      refine w_f (a := 112) (b := 36) rfl rfl rfl ?_
      refine w_p (pc1 := 37) rfl rfl ?_
      refine w_p (pc1 := 39) rfl rfl ?_
      refine w_p (pc1 := 41) (st1 := .int 6 :: _) rfl rfl ?_
      refine w_f (a := 58) (b := 44) rfl rfl rfl ?_
      refine w_p (pc1 := 45) rfl rfl ?_
      refine w_m0 (pc1 := 48) rfl rfl (h_gC rfl rfl rfl rfl) rfl ?_
      refine w_p (pc1 := 50) rfl rfl ?_
      refine w_m0 (pc1 := 51) rfl rfl (h_bl rfl rfl (by decide) rfl) rfl ?_
      refine w_t (a := 58) (b := 54) (cb_eq_t (by exact (frM_t F).1 _ (by decide))) rfl rfl ?_
      refine w_p (pc1 := 59) (st1 := .int 0 :: _) rfl rfl ?_
      refine w_p (pc1 := 60) (st1 := .int 0 :: _) rfl rfl ?_
      refine w_p (pc1 := 61) (al1 := [(2, .int 0), (5, .int 5), (4, .int 0), (3, .int 0), (0, .ref 176), (1, .int 1)]) rfl rfl ?_
      refine w_p (pc1 := 62) rfl rfl ?_
      refine w_p (pc1 := 63) rfl rfl ?_
      refine w_m0 (pc1 := 66) rfl rfl (h_gC rfl rfl rfl rfl) rfl ?_
      refine w_p (pc1 := 68) rfl rfl ?_
      refine w_m0 (pc1 := 69) rfl rfl (h_bl rfl rfl (by decide) rfl) rfl ?_
      refine w_t (a := 76) (b := 72) (cb_eq_t (by exact (frM_t F).2.1 _ (by decide))) rfl rfl ?_
      refine w_p (pc1 := 77) (st1 := .int 0 :: _) rfl rfl ?_
      refine w_p (pc1 := 78) (st1 := .int 0 :: _) rfl rfl ?_
      refine w_p (pc1 := 79) (al1 := [(3, .int 0), (2, .int 0), (5, .int 5), (4, .int 0), (0, .ref 176), (1, .int 1)]) rfl rfl ?_
      refine w_p (pc1 := 81) rfl rfl ?_
      refine w_p (pc1 := 83) rfl rfl ?_
      refine w_p (pc1 := 85) (st1 := .int 8 :: _) rfl rfl ?_
      refine w_f (a := 102) (b := 88) rfl rfl rfl ?_
      refine w_p (pc1 := 89) rfl rfl ?_
      refine w_m0 (pc1 := 92) rfl rfl (h_gC rfl rfl rfl rfl) rfl ?_
      refine w_p (pc1 := 94) rfl rfl ?_
      refine w_m0 (pc1 := 95) rfl rfl (h_bl rfl rfl (by decide) rfl) rfl ?_
      refine w_t (a := 102) (b := 98) (cb_eq_t (by exact (frM_t F).2.2.1 _ (by decide))) rfl rfl ?_
      refine w_p (pc1 := 103) (st1 := .int 0 :: _) rfl rfl ?_
      refine w_p (pc1 := 104) (st1 := .int 0 :: _) rfl rfl ?_
      refine w_p (pc1 := 106) (al1 := [(4, .int 0), (3, .int 0), (2, .int 0), (5, .int 5), (0, .ref 176), (1, .int 1)]) rfl rfl ?_
      refine w_p (pc1 := 109) (al1 := [(5, .int 6), (4, .int 0), (3, .int 0), (2, .int 0), (0, .ref 176), (1, .int 1)]) rfl rfl ?_
      refine w_p (pc1 := 29) rfl rfl ?_
      refine w_p (pc1 := 31) rfl rfl ?_
      refine w_p (pc1 := 33) (st1 := .int 24 :: _) rfl rfl ?_
      refine w_f (a := 112) (b := 36) rfl rfl rfl ?_
      refine w_p (pc1 := 37) rfl rfl ?_
      refine w_p (pc1 := 39) rfl rfl ?_
      refine w_p (pc1 := 41) (st1 := .int 6 :: _) rfl rfl ?_
      refine w_t (a := 58) (b := 44) rfl rfl rfl ?_
      refine w_p (pc1 := 59) (st1 := .int 0 :: _) rfl rfl ?_
      refine w_p (pc1 := 60) (st1 := .int 0 :: _) rfl rfl ?_
      refine w_p (pc1 := 61) (al1 := [(2, .int 0), (5, .int 6), (4, .int 0), (3, .int 0), (0, .ref 176), (1, .int 1)]) rfl rfl ?_
      refine w_p (pc1 := 62) rfl rfl ?_
      refine w_p (pc1 := 63) rfl rfl ?_
      refine w_m0 (pc1 := 66) rfl rfl (h_gC rfl rfl rfl rfl) rfl ?_
      refine w_p (pc1 := 68) rfl rfl ?_
      refine w_m0 (pc1 := 69) rfl rfl (h_bl rfl rfl (by decide) rfl) rfl ?_
      refine w_t (a := 76) (b := 72) (cb_eq_t (by exact (frM_t F).2.1 _ (by decide))) rfl rfl ?_
      refine w_p (pc1 := 77) (st1 := .int 0 :: _) rfl rfl ?_
      refine w_p (pc1 := 78) (st1 := .int 0 :: _) rfl rfl ?_
      refine w_p (pc1 := 79) (al1 := [(3, .int 0), (2, .int 0), (5, .int 6), (4, .int 0), (0, .ref 176), (1, .int 1)]) rfl rfl ?_
      refine w_p (pc1 := 81) rfl rfl ?_
      refine w_p (pc1 := 83) rfl rfl ?_
      refine w_p (pc1 := 85) (st1 := .int 8 :: _) rfl rfl ?_
      refine w_f (a := 102) (b := 88) rfl rfl rfl ?_
      refine w_p (pc1 := 89) rfl rfl ?_
      refine w_m0 (pc1 := 92) rfl rfl (h_gC rfl rfl rfl rfl) rfl ?_
      refine w_p (pc1 := 94) rfl rfl ?_
      refine w_m0 (pc1 := 95) rfl rfl (h_bl rfl rfl (by decide) rfl) rfl ?_
      refine w_t (a := 102) (b := 98) (cb_eq_t (by exact (frM_t F).2.2.1 _ (by decide))) rfl rfl ?_
      refine w_p (pc1 := 103) (st1 := .int 0 :: _) rfl rfl ?_
      refine w_p (pc1 := 104) (st1 := .int 0 :: _) rfl rfl ?_
      refine w_p (pc1 := 106) (al1 := [(4, .int 0), (3, .int 0), (2, .int 0), (5, .int 6), (0, .ref 176), (1, .int 1)]) rfl rfl ?_
      refine w_p (pc1 := 109) (al1 := [(5, .int 7), (4, .int 0), (3, .int 0), (2, .int 0), (0, .ref 176), (1, .int 1)]) rfl rfl ?_
      refine w_p (pc1 := 29) rfl rfl ?_
      refine w_p (pc1 := 31) rfl rfl ?_
      refine w_p (pc1 := 33) (st1 := .int 24 :: _) rfl rfl ?_
      refine w_f (a := 112) (b := 36) rfl rfl rfl ?_
      refine w_p (pc1 := 37) rfl rfl ?_
      refine w_p (pc1 := 39) rfl rfl ?_
      refine w_p (pc1 := 41) (st1 := .int 6 :: _) rfl rfl ?_
      refine w_t (a := 58) (b := 44) rfl rfl rfl ?_
      refine w_p (pc1 := 59) (st1 := .int 0 :: _) rfl rfl ?_
      refine w_p (pc1 := 60) (st1 := .int 0 :: _) rfl rfl ?_
      refine w_p (pc1 := 61) (al1 := [(2, .int 0), (5, .int 7), (4, .int 0), (3, .int 0), (0, .ref 176), (1, .int 1)]) rfl rfl ?_
      refine w_p (pc1 := 62) rfl rfl ?_
      refine w_p (pc1 := 63) rfl rfl ?_
      refine w_m0 (pc1 := 66) rfl rfl (h_gC rfl rfl rfl rfl) rfl ?_
      refine w_p (pc1 := 68) rfl rfl ?_
      refine w_m0 (pc1 := 69) rfl rfl (h_bl rfl rfl (by decide) rfl) rfl ?_
      refine w_t (a := 76) (b := 72) (cb_eq_t (by exact (frM_t F).2.1 _ (by decide))) rfl rfl ?_
      refine w_p (pc1 := 77) (st1 := .int 0 :: _) rfl rfl ?_
      refine w_p (pc1 := 78) (st1 := .int 0 :: _) rfl rfl ?_
      refine w_p (pc1 := 79) (al1 := [(3, .int 0), (2, .int 0), (5, .int 7), (4, .int 0), (0, .ref 176), (1, .int 1)]) rfl rfl ?_
      refine w_p (pc1 := 81) rfl rfl ?_
      refine w_p (pc1 := 83) rfl rfl ?_
      refine w_p (pc1 := 85) (st1 := .int 8 :: _) rfl rfl ?_
      refine w_f (a := 102) (b := 88) rfl rfl rfl ?_
      refine w_p (pc1 := 89) rfl rfl ?_
      refine w_m0 (pc1 := 92) rfl rfl (h_gC rfl rfl rfl rfl) rfl ?_
      refine w_p (pc1 := 94) rfl rfl ?_
      refine w_m0 (pc1 := 95) rfl rfl (h_bl rfl rfl (by decide) rfl) rfl ?_
      refine w_t (a := 102) (b := 98) (cb_eq_t (by exact (frM_t F).2.2.1 _ (by decide))) rfl rfl ?_
      refine w_p (pc1 := 103) (st1 := .int 0 :: _) rfl rfl ?_
      refine w_p (pc1 := 104) (st1 := .int 0 :: _) rfl rfl ?_
      refine w_p (pc1 := 106) (al1 := [(4, .int 0), (3, .int 0), (2, .int 0), (5, .int 7), (0, .ref 176), (1, .int 1)]) rfl rfl ?_
      refine w_p (pc1 := 109) (al1 := [(5, .int 8), (4, .int 0), (3, .int 0), (2, .int 0), (0, .ref 176), (1, .int 1)]) rfl rfl ?_
      refine w_p (pc1 := 29) rfl rfl ?_
      refine w_p (pc1 := 31) rfl rfl ?_
      refine w_p (pc1 := 33) (st1 := .int 24 :: _) rfl rfl ?_
      refine w_f (a := 112) (b := 36) rfl rfl rfl ?_
      refine w_p (pc1 := 37) rfl rfl ?_
      refine w_p (pc1 := 39) rfl rfl ?_
      refine w_p (pc1 := 41) (st1 := .int 6 :: _) rfl rfl ?_
      refine w_t (a := 58) (b := 44) rfl rfl rfl ?_
      refine w_p (pc1 := 59) (st1 := .int 0 :: _) rfl rfl ?_
      refine w_p (pc1 := 60) (st1 := .int 0 :: _) rfl rfl ?_
      refine w_p (pc1 := 61) (al1 := [(2, .int 0), (5, .int 8), (4, .int 0), (3, .int 0), (0, .ref 176), (1, .int 1)]) rfl rfl ?_
      refine w_p (pc1 := 62) rfl rfl ?_
      refine w_p (pc1 := 63) rfl rfl ?_
      refine w_m0 (pc1 := 66) rfl rfl (h_gC rfl rfl rfl rfl) rfl ?_
      refine w_p (pc1 := 68) rfl rfl ?_
      refine w_m0 (pc1 := 69) rfl rfl (h_bl rfl rfl (by decide) rfl) rfl ?_
      refine w_t (a := 76) (b := 72) (cb_eq_t (by exact (frM_t F).2.1 _ (by decide))) rfl rfl ?_
      refine w_p (pc1 := 77) (st1 := .int 0 :: _) rfl rfl ?_
      refine w_p (pc1 := 78) (st1 := .int 0 :: _) rfl rfl ?_
      refine w_p (pc1 := 79) (al1 := [(3, .int 0), (2, .int 0), (5, .int 8), (4, .int 0), (0, .ref 176), (1, .int 1)]) rfl rfl ?_
      refine w_p (pc1 := 81) rfl rfl ?_
      refine w_p (pc1 := 83) rfl rfl ?_
      refine w_p (pc1 := 85) (st1 := .int 8 :: _) rfl rfl ?_
      refine w_t (a := 102) (b := 88) rfl rfl rfl ?_
      refine w_p (pc1 := 103) (st1 := .int 0 :: _) rfl rfl ?_
      refine w_p (pc1 := 104) (st1 := .int 0 :: _) rfl rfl ?_
      refine w_p (pc1 := 106) (al1 := [(4, .int 0), (3, .int 0), (2, .int 0), (5, .int 8), (0, .ref 176), (1, .int 1)]) rfl rfl ?_
      refine w_p (pc1 := 109) (al1 := [(5, .int 9), (4, .int 0), (3, .int 0), (2, .int 0), (0, .ref 176), (1, .int 1)]) rfl rfl ?_
      refine w_p (pc1 := 29) rfl rfl ?_
      refine w_p (pc1 := 31) rfl rfl ?_
      refine w_p (pc1 := 33) (st1 := .int 24 :: _) rfl rfl ?_
      refine w_f (a := 112) (b := 36) rfl rfl rfl ?_
      refine w_p (pc1 := 37) rfl rfl ?_
      refine w_p (pc1 := 39) rfl rfl ?_
      refine w_p (pc1 := 41) (st1 := .int 6 :: _) rfl rfl ?_
      refine w_t (a := 58) (b := 44) rfl rfl rfl ?_
      refine w_p (pc1 := 59) (st1 := .int 0 :: _) rfl rfl ?_
      refine w_p (pc1 := 60) (st1 := .int 0 :: _) rfl rfl ?_
      refine w_p (pc1 := 61) (al1 := [(2, .int 0), (5, .int 9), (4, .int 0), (3, .int 0), (0, .ref 176), (1, .int 1)]) rfl rfl ?_
      refine w_p (pc1 := 62) rfl rfl ?_
      refine w_p (pc1 := 63) rfl rfl ?_
      refine w_m0 (pc1 := 66) rfl rfl (h_gC rfl rfl rfl rfl) rfl ?_
      refine w_p (pc1 := 68) rfl rfl ?_
      refine w_m0 (pc1 := 69) rfl rfl (h_bl rfl rfl (by decide) rfl) rfl ?_
      refine w_t (a := 76) (b := 72) (cb_eq_t (by exact (frM_t F).2.1 _ (by decide))) rfl rfl ?_
      refine w_p (pc1 := 77) (st1 := .int 0 :: _) rfl rfl ?_
      refine w_p (pc1 := 78) (st1 := .int 0 :: _) rfl rfl ?_
      refine w_p (pc1 := 79) (al1 := [(3, .int 0), (2, .int 0), (5, .int 9), (4, .int 0), (0, .ref 176), (1, .int 1)]) rfl rfl ?_
      refine w_p (pc1 := 81) rfl rfl ?_
      refine w_p (pc1 := 83) rfl rfl ?_
      refine w_p (pc1 := 85) (st1 := .int 8 :: _) rfl rfl ?_
      refine w_t (a := 102) (b := 88) rfl rfl rfl ?_
      refine w_p (pc1 := 103) (st1 := .int 0 :: _) rfl rfl ?_
      refine w_p (pc1 := 104) (st1 := .int 0 :: _) rfl rfl ?_
      refine w_p (pc1 := 106) (al1 := [(4, .int 0), (3, .int 0), (2, .int 0), (5, .int 9), (0, .ref 176), (1, .int 1)]) rfl rfl ?_
      refine w_p (pc1 := 109) (al1 := [(5, .int 10), (4, .int 0), (3, .int 0), (2, .int 0), (0, .ref 176), (1, .int 1)]) rfl rfl ?_
      refine w_p (pc1 := 29) rfl rfl ?_
      refine w_p (pc1 := 31) rfl rfl ?_
      refine w_p (pc1 := 33) (st1 := .int 24 :: _) rfl rfl ?_
      refine w_f (a := 112) (b := 36) rfl rfl rfl ?_
      refine w_p (pc1 := 37) rfl rfl ?_
      refine w_p (pc1 := 39) rfl rfl ?_
      refine w_p (pc1 := 41) (st1 := .int 6 :: _) rfl rfl ?_
      refine w_t (a := 58) (b := 44) rfl rfl rfl ?_
      refine w_p (pc1 := 59) (st1 := .int 0 :: _) rfl rfl ?_
      refine w_p (pc1 := 60) (st1 := .int 0 :: _) rfl rfl ?_
      refine w_p (pc1 := 61) (al1 := [(2, .int 0), (5, .int 10), (4, .int 0), (3, .int 0), (0, .ref 176), (1, .int 1)]) rfl rfl ?_
      refine w_p (pc1 := 62) rfl rfl ?_
      refine w_p (pc1 := 63) rfl rfl ?_
      refine w_m0 (pc1 := 66) rfl rfl (h_gC rfl rfl rfl rfl) rfl ?_
      refine w_p (pc1 := 68) rfl rfl ?_
      refine w_m0 (pc1 := 69) rfl rfl (h_bl rfl rfl (by decide) rfl) rfl ?_
      refine w_t (a := 76) (b := 72) (cb_eq_t (by exact (frM_t F).2.1 _ (by decide))) rfl rfl ?_
      refine w_p (pc1 := 77) (st1 := .int 0 :: _) rfl rfl ?_
      refine w_p (pc1 := 78) (st1 := .int 0 :: _) rfl rfl ?_
      refine w_p (pc1 := 79) (al1 := [(3, .int 0), (2, .int 0), (5, .int 10), (4, .int 0), (0, .ref 176), (1, .int 1)]) rfl rfl ?_
      refine w_p (pc1 := 81) rfl rfl ?_
      refine w_p (pc1 := 83) rfl rfl ?_
      refine w_p (pc1 := 85) (st1 := .int 8 :: _) rfl rfl ?_
      refine w_t (a := 102) (b := 88) rfl rfl rfl ?_
      refine w_p (pc1 := 103) (st1 := .int 0 :: _) rfl rfl ?_
      refine w_p (pc1 := 104) (st1 := .int 0 :: _) rfl rfl ?_
      refine w_p (pc1 := 106) (al1 := [(4, .int 0), (3, .int 0), (2, .int 0), (5, .int 10), (0, .ref 176), (1, .int 1)]) rfl rfl ?_
      refine w_p (pc1 := 109) (al1 := [(5, .int 11), (4, .int 0), (3, .int 0), (2, .int 0), (0, .ref 176), (1, .int 1)]) rfl rfl ?_
      refine w_p (pc1 := 29) rfl rfl ?_
      refine w_p (pc1 := 31) rfl rfl ?_
      refine w_p (pc1 := 33) (st1 := .int 24 :: _) rfl rfl ?_
      refine w_f (a := 112) (b := 36) rfl rfl rfl ?_
      refine w_p (pc1 := 37) rfl rfl ?_
      refine w_p (pc1 := 39) rfl rfl ?_
      refine w_p (pc1 := 41) (st1 := .int 6 :: _) rfl rfl ?_
      refine w_t (a := 58) (b := 44) rfl rfl rfl ?_
      refine w_p (pc1 := 59) (st1 := .int 0 :: _) rfl rfl ?_
      refine w_p (pc1 := 60) (st1 := .int 0 :: _) rfl rfl ?_
      refine w_p (pc1 := 61) (al1 := [(2, .int 0), (5, .int 11), (4, .int 0), (3, .int 0), (0, .ref 176), (1, .int 1)]) rfl rfl ?_
      refine w_p (pc1 := 62) rfl rfl ?_
      refine w_p (pc1 := 63) rfl rfl ?_
      refine w_m0 (pc1 := 66) rfl rfl (h_gC rfl rfl rfl rfl) rfl ?_
      refine w_p (pc1 := 68) rfl rfl ?_
      refine w_m0 (pc1 := 69) rfl rfl (h_bl rfl rfl (by decide) rfl) rfl ?_
      refine w_t (a := 76) (b := 72) (cb_eq_t (by exact (frM_t F).2.1 _ (by decide))) rfl rfl ?_
      refine w_p (pc1 := 77) (st1 := .int 0 :: _) rfl rfl ?_
      refine w_p (pc1 := 78) (st1 := .int 0 :: _) rfl rfl ?_
      refine w_p (pc1 := 79) (al1 := [(3, .int 0), (2, .int 0), (5, .int 11), (4, .int 0), (0, .ref 176), (1, .int 1)]) rfl rfl ?_
      refine w_p (pc1 := 81) rfl rfl ?_
      refine w_p (pc1 := 83) rfl rfl ?_
      refine w_p (pc1 := 85) (st1 := .int 8 :: _) rfl rfl ?_
      refine w_t (a := 102) (b := 88) rfl rfl rfl ?_
      refine w_p (pc1 := 103) (st1 := .int 0 :: _) rfl rfl ?_
      refine w_p (pc1 := 104) (st1 := .int 0 :: _) rfl rfl ?_
      refine w_p (pc1 := 106) (al1 := [(4, .int 0), (3, .int 0), (2, .int 0), (5, .int 11), (0, .ref 176), (1, .int 1)]) rfl rfl ?_
      refine w_p (pc1 := 109) (al1 := [(5, .int 12), (4, .int 0), (3, .int 0), (2, .int 0), (0, .ref 176), (1, .int 1)]) rfl rfl ?_
      refine w_p (pc1 := 29) rfl rfl ?_
      refine w_p (pc1 := 31) rfl rfl ?_
      refine w_p (pc1 := 33) (st1 := .int 24 :: _) rfl rfl ?_
      refine w_f (a := 112) (b := 36) rfl rfl rfl ?_
      refine w_p (pc1 := 37) rfl rfl ?_
      refine w_p (pc1 := 39) rfl rfl ?_
      refine w_p (pc1 := 41) (st1 := .int 6 :: _) rfl rfl ?_
      refine w_t (a := 58) (b := 44) rfl rfl rfl ?_
      refine w_p (pc1 := 59) (st1 := .int 0 :: _) rfl rfl ?_
      refine w_p (pc1 := 60) (st1 := .int 0 :: _) rfl rfl ?_
      refine w_p (pc1 := 61) (al1 := [(2, .int 0), (5, .int 12), (4, .int 0), (3, .int 0), (0, .ref 176), (1, .int 1)]) rfl rfl ?_
      refine w_p (pc1 := 62) rfl rfl ?_
      refine w_p (pc1 := 63) rfl rfl ?_
      refine w_m0 (pc1 := 66) rfl rfl (h_gC rfl rfl rfl rfl) rfl ?_
      refine w_p (pc1 := 68) rfl rfl ?_
      refine w_m0 (pc1 := 69) rfl rfl (h_bl rfl rfl (by decide) rfl) rfl ?_
      refine w_t (a := 76) (b := 72) (cb_eq_t (by exact (frM_t F).2.1 _ (by decide))) rfl rfl ?_
      refine w_p (pc1 := 77) (st1 := .int 0 :: _) rfl rfl ?_
      refine w_p (pc1 := 78) (st1 := .int 0 :: _) rfl rfl ?_
      refine w_p (pc1 := 79) (al1 := [(3, .int 0), (2, .int 0), (5, .int 12), (4, .int 0), (0, .ref 176), (1, .int 1)]) rfl rfl ?_
      refine w_p (pc1 := 81) rfl rfl ?_
      refine w_p (pc1 := 83) rfl rfl ?_
      refine w_p (pc1 := 85) (st1 := .int 8 :: _) rfl rfl ?_
      refine w_t (a := 102) (b := 88) rfl rfl rfl ?_
      refine w_p (pc1 := 103) (st1 := .int 0 :: _) rfl rfl ?_
      refine w_p (pc1 := 104) (st1 := .int 0 :: _) rfl rfl ?_
      refine w_p (pc1 := 106) (al1 := [(4, .int 0), (3, .int 0), (2, .int 0), (5, .int 12), (0, .ref 176), (1, .int 1)]) rfl rfl ?_
      refine w_p (pc1 := 109) (al1 := [(5, .int 13), (4, .int 0), (3, .int 0), (2, .int 0), (0, .ref 176), (1, .int 1)]) rfl rfl ?_
      refine w_p (pc1 := 29) rfl rfl ?_
      refine w_p (pc1 := 31) rfl rfl ?_
      refine w_p (pc1 := 33) (st1 := .int 24 :: _) rfl rfl ?_
      refine w_f (a := 112) (b := 36) rfl rfl rfl ?_
      refine w_p (pc1 := 37) rfl rfl ?_
      refine w_p (pc1 := 39) rfl rfl ?_
      refine w_p (pc1 := 41) (st1 := .int 6 :: _) rfl rfl ?_
      refine w_t (a := 58) (b := 44) rfl rfl rfl ?_
      refine w_p (pc1 := 59) (st1 := .int 0 :: _) rfl rfl ?_
      refine w_p (pc1 := 60) (st1 := .int 0 :: _) rfl rfl ?_
      refine w_p (pc1 := 61) (al1 := [(2, .int 0), (5, .int 13), (4, .int 0), (3, .int 0), (0, .ref 176), (1, .int 1)]) rfl rfl ?_
      refine w_p (pc1 := 62) rfl rfl ?_
      refine w_p (pc1 := 63) rfl rfl ?_
      refine w_m0 (pc1 := 66) rfl rfl (h_gC rfl rfl rfl rfl) rfl ?_
      refine w_p (pc1 := 68) rfl rfl ?_
      refine w_m0 (pc1 := 69) rfl rfl (h_bl rfl rfl (by decide) rfl) rfl ?_
      refine w_t (a := 76) (b := 72) (cb_eq_t (by exact (frM_t F).2.1 _ (by decide))) rfl rfl ?_
      refine w_p (pc1 := 77) (st1 := .int 0 :: _) rfl rfl ?_
      refine w_p (pc1 := 78) (st1 := .int 0 :: _) rfl rfl ?_
      refine w_p (pc1 := 79) (al1 := [(3, .int 0), (2, .int 0), (5, .int 13), (4, .int 0), (0, .ref 176), (1, .int 1)]) rfl rfl ?_
      refine w_p (pc1 := 81) rfl rfl ?_
      refine w_p (pc1 := 83) rfl rfl ?_
      refine w_p (pc1 := 85) (st1 := .int 8 :: _) rfl rfl ?_
      refine w_t (a := 102) (b := 88) rfl rfl rfl ?_
      refine w_p (pc1 := 103) (st1 := .int 0 :: _) rfl rfl ?_
      refine w_p (pc1 := 104) (st1 := .int 0 :: _) rfl rfl ?_
      refine w_p (pc1 := 106) (al1 := [(4, .int 0), (3, .int 0), (2, .int 0), (5, .int 13), (0, .ref 176), (1, .int 1)]) rfl rfl ?_
      refine w_p (pc1 := 109) (al1 := [(5, .int 14), (4, .int 0), (3, .int 0), (2, .int 0), (0, .ref 176), (1, .int 1)]) rfl rfl ?_
      refine w_p (pc1 := 29) rfl rfl ?_
      refine w_p (pc1 := 31) rfl rfl ?_
      refine w_p (pc1 := 33) (st1 := .int 24 :: _) rfl rfl ?_
      refine w_f (a := 112) (b := 36) rfl rfl rfl ?_
      refine w_p (pc1 := 37) rfl rfl ?_
      refine w_p (pc1 := 39) rfl rfl ?_
      refine w_p (pc1 := 41) (st1 := .int 6 :: _) rfl rfl ?_
      refine w_t (a := 58) (b := 44) rfl rfl rfl ?_
      refine w_p (pc1 := 59) (st1 := .int 0 :: _) rfl rfl ?_
      refine w_p (pc1 := 60) (st1 := .int 0 :: _) rfl rfl ?_
      refine w_p (pc1 := 61) (al1 := [(2, .int 0), (5, .int 14), (4, .int 0), (3, .int 0), (0, .ref 176), (1, .int 1)]) rfl rfl ?_
      refine w_p (pc1 := 62) rfl rfl ?_
      refine w_p (pc1 := 63) rfl rfl ?_
      refine w_m0 (pc1 := 66) rfl rfl (h_gC rfl rfl rfl rfl) rfl ?_
      refine w_p (pc1 := 68) rfl rfl ?_
      refine w_m0 (pc1 := 69) rfl rfl (h_bl rfl rfl (by decide) rfl) rfl ?_
      refine w_t (a := 76) (b := 72) (cb_eq_t (by exact (frM_t F).2.1 _ (by decide))) rfl rfl ?_
      refine w_p (pc1 := 77) (st1 := .int 0 :: _) rfl rfl ?_
      refine w_p (pc1 := 78) (st1 := .int 0 :: _) rfl rfl ?_
      refine w_p (pc1 := 79) (al1 := [(3, .int 0), (2, .int 0), (5, .int 14), (4, .int 0), (0, .ref 176), (1, .int 1)]) rfl rfl ?_
      refine w_p (pc1 := 81) rfl rfl ?_
      refine w_p (pc1 := 83) rfl rfl ?_
      refine w_p (pc1 := 85) (st1 := .int 8 :: _) rfl rfl ?_
      refine w_t (a := 102) (b := 88) rfl rfl rfl ?_
      refine w_p (pc1 := 103) (st1 := .int 0 :: _) rfl rfl ?_
      refine w_p (pc1 := 104) (st1 := .int 0 :: _) rfl rfl ?_
      refine w_p (pc1 := 106) (al1 := [(4, .int 0), (3, .int 0), (2, .int 0), (5, .int 14), (0, .ref 176), (1, .int 1)]) rfl rfl ?_
      refine w_p (pc1 := 109) (al1 := [(5, .int 15), (4, .int 0), (3, .int 0), (2, .int 0), (0, .ref 176), (1, .int 1)]) rfl rfl ?_
      refine w_p (pc1 := 29) rfl rfl ?_
      refine w_p (pc1 := 31) rfl rfl ?_
      refine w_p (pc1 := 33) (st1 := .int 24 :: _) rfl rfl ?_
      refine w_f (a := 112) (b := 36) rfl rfl rfl ?_
      refine w_p (pc1 := 37) rfl rfl ?_
      refine w_p (pc1 := 39) rfl rfl ?_
      refine w_p (pc1 := 41) (st1 := .int 6 :: _) rfl rfl ?_
      refine w_t (a := 58) (b := 44) rfl rfl rfl ?_
      refine w_p (pc1 := 59) (st1 := .int 0 :: _) rfl rfl ?_
      refine w_p (pc1 := 60) (st1 := .int 0 :: _) rfl rfl ?_
      refine w_p (pc1 := 61) (al1 := [(2, .int 0), (5, .int 15), (4, .int 0), (3, .int 0), (0, .ref 176), (1, .int 1)]) rfl rfl ?_
      refine w_p (pc1 := 62) rfl rfl ?_
      refine w_p (pc1 := 63) rfl rfl ?_
      refine w_m0 (pc1 := 66) rfl rfl (h_gC rfl rfl rfl rfl) rfl ?_
      refine w_p (pc1 := 68) rfl rfl ?_
      refine w_m0 (pc1 := 69) rfl rfl (h_bl rfl rfl (by decide) rfl) rfl ?_
      refine w_t (a := 76) (b := 72) (cb_eq_t (by exact (frM_t F).2.1 _ (by decide))) rfl rfl ?_
      refine w_p (pc1 := 77) (st1 := .int 0 :: _) rfl rfl ?_
      refine w_p (pc1 := 78) (st1 := .int 0 :: _) rfl rfl ?_
      refine w_p (pc1 := 79) (al1 := [(3, .int 0), (2, .int 0), (5, .int 15), (4, .int 0), (0, .ref 176), (1, .int 1)]) rfl rfl ?_
      refine w_p (pc1 := 81) rfl rfl ?_
      refine w_p (pc1 := 83) rfl rfl ?_
      refine w_p (pc1 := 85) (st1 := .int 8 :: _) rfl rfl ?_
      refine w_t (a := 102) (b := 88) rfl rfl rfl ?_
      refine w_p (pc1 := 103) (st1 := .int 0 :: _) rfl rfl ?_
      refine w_p (pc1 := 104) (st1 := .int 0 :: _) rfl rfl ?_
      refine w_p (pc1 := 106) (al1 := [(4, .int 0), (3, .int 0), (2, .int 0), (5, .int 15), (0, .ref 176), (1, .int 1)]) rfl rfl ?_
      refine w_p (pc1 := 109) (al1 := [(5, .int 16), (4, .int 0), (3, .int 0), (2, .int 0), (0, .ref 176), (1, .int 1)]) rfl rfl ?_
      refine w_p (pc1 := 29) rfl rfl ?_
      refine w_p (pc1 := 31) rfl rfl ?_
      refine w_p (pc1 := 33) (st1 := .int 24 :: _) rfl rfl ?_
      refine w_f (a := 112) (b := 36) rfl rfl rfl ?_
      refine w_p (pc1 := 37) rfl rfl ?_
      refine w_p (pc1 := 39) rfl rfl ?_
      refine w_p (pc1 := 41) (st1 := .int 6 :: _) rfl rfl ?_
      refine w_t (a := 58) (b := 44) rfl rfl rfl ?_
      refine w_p (pc1 := 59) (st1 := .int 0 :: _) rfl rfl ?_
      refine w_p (pc1 := 60) (st1 := .int 0 :: _) rfl rfl ?_
      refine w_p (pc1 := 61) (al1 := [(2, .int 0), (5, .int 16), (4, .int 0), (3, .int 0), (0, .ref 176), (1, .int 1)]) rfl rfl ?_
      refine w_p (pc1 := 62) rfl rfl ?_
      refine w_p (pc1 := 63) rfl rfl ?_
      refine w_m0 (pc1 := 66) rfl rfl (h_gC rfl rfl rfl rfl) rfl ?_
      refine w_p (pc1 := 68) rfl rfl ?_
      refine w_m0 (pc1 := 69) rfl rfl (h_bl rfl rfl (by decide) rfl) rfl ?_
      refine w_t (a := 76) (b := 72) (cb_eq_t (by exact (frM_t F).2.1 _ (by decide))) rfl rfl ?_
      refine w_p (pc1 := 77) (st1 := .int 0 :: _) rfl rfl ?_
      refine w_p (pc1 := 78) (st1 := .int 0 :: _) rfl rfl ?_
      refine w_p (pc1 := 79) (al1 := [(3, .int 0), (2, .int 0), (5, .int 16), (4, .int 0), (0, .ref 176), (1, .int 1)]) rfl rfl ?_
      refine w_p (pc1 := 81) rfl rfl ?_
      refine w_p (pc1 := 83) rfl rfl ?_
      refine w_p (pc1 := 85) (st1 := .int 8 :: _) rfl rfl ?_
      refine w_t (a := 102) (b := 88) rfl rfl rfl ?_
      refine w_p (pc1 := 103) (st1 := .int 0 :: _) rfl rfl ?_
      refine w_p (pc1 := 104) (st1 := .int 0 :: _) rfl rfl ?_
      refine w_p (pc1 := 106) (al1 := [(4, .int 0), (3, .int 0), (2, .int 0), (5, .int 16), (0, .ref 176), (1, .int 1)]) rfl rfl ?_
      refine w_p (pc1 := 109) (al1 := [(5, .int 17), (4, .int 0), (3, .int 0), (2, .int 0), (0, .ref 176), (1, .int 1)]) rfl rfl ?_
      refine w_p (pc1 := 29) rfl rfl ?_
      refine w_p (pc1 := 31) rfl rfl ?_
      refine w_p (pc1 := 33) (st1 := .int 24 :: _) rfl rfl ?_
      refine w_f (a := 112) (b := 36) rfl rfl rfl ?_
      refine w_p (pc1 := 37) rfl rfl ?_
      refine w_p (pc1 := 39) rfl rfl ?_
      refine w_p (pc1 := 41) (st1 := .int 6 :: _) rfl rfl ?_
      refine w_t (a := 58) (b := 44) rfl rfl rfl ?_
      refine w_p (pc1 := 59) (st1 := .int 0 :: _) rfl rfl ?_
      refine w_p (pc1 := 60) (st1 := .int 0 :: _) rfl rfl ?_
      refine w_p (pc1 := 61) (al1 := [(2, .int 0), (5, .int 17), (4, .int 0), (3, .int 0), (0, .ref 176), (1, .int 1)]) rfl rfl ?_
      refine w_p (pc1 := 62) rfl rfl ?_
      refine w_p (pc1 := 63) rfl rfl ?_
      refine w_m0 (pc1 := 66) rfl rfl (h_gC rfl rfl rfl rfl) rfl ?_
      refine w_p (pc1 := 68) rfl rfl ?_
      refine w_m0 (pc1 := 69) rfl rfl (h_bl rfl rfl (by decide) rfl) rfl ?_
      refine w_t (a := 76) (b := 72) (cb_eq_t (by exact (frM_t F).2.1 _ (by decide))) rfl rfl ?_
      refine w_p (pc1 := 77) (st1 := .int 0 :: _) rfl rfl ?_
      refine w_p (pc1 := 78) (st1 := .int 0 :: _) rfl rfl ?_
      refine w_p (pc1 := 79) (al1 := [(3, .int 0), (2, .int 0), (5, .int 17), (4, .int 0), (0, .ref 176), (1, .int 1)]) rfl rfl ?_
      refine w_p (pc1 := 81) rfl rfl ?_
      refine w_p (pc1 := 83) rfl rfl ?_
      refine w_p (pc1 := 85) (st1 := .int 8 :: _) rfl rfl ?_
      refine w_t (a := 102) (b := 88) rfl rfl rfl ?_
      refine w_p (pc1 := 103) (st1 := .int 0 :: _) rfl rfl ?_
      refine w_p (pc1 := 104) (st1 := .int 0 :: _) rfl rfl ?_
      refine w_p (pc1 := 106) (al1 := [(4, .int 0), (3, .int 0), (2, .int 0), (5, .int 17), (0, .ref 176), (1, .int 1)]) rfl rfl ?_
      refine w_p (pc1 := 109) (al1 := [(5, .int 18), (4, .int 0), (3, .int 0), (2, .int 0), (0, .ref 176), (1, .int 1)]) rfl rfl ?_
      refine w_p (pc1 := 29) rfl rfl ?_
      refine w_p (pc1 := 31) rfl rfl ?_
      refine w_p (pc1 := 33) (st1 := .int 24 :: _) rfl rfl ?_
      refine w_f (a := 112) (b := 36) rfl rfl rfl ?_
      refine w_p (pc1 := 37) rfl rfl ?_
      refine w_p (pc1 := 39) rfl rfl ?_
      refine w_p (pc1 := 41) (st1 := .int 6 :: _) rfl rfl ?_
      refine w_t (a := 58) (b := 44) rfl rfl rfl ?_
      refine w_p (pc1 := 59) (st1 := .int 0 :: _) rfl rfl ?_
      refine w_p (pc1 := 60) (st1 := .int 0 :: _) rfl rfl ?_
      refine w_p (pc1 := 61) (al1 := [(2, .int 0), (5, .int 18), (4, .int 0), (3, .int 0), (0, .ref 176), (1, .int 1)]) rfl rfl ?_
      refine w_p (pc1 := 62) rfl rfl ?_
      refine w_p (pc1 := 63) rfl rfl ?_
      refine w_m0 (pc1 := 66) rfl rfl (h_gC rfl rfl rfl rfl) rfl ?_
      refine w_p (pc1 := 68) rfl rfl ?_
      refine w_m0 (pc1 := 69) rfl rfl (h_bl rfl rfl (by decide) rfl) rfl ?_
      refine w_t (a := 76) (b := 72) (cb_eq_t (by exact (frM_t F).2.1 _ (by decide))) rfl rfl ?_
      refine w_p (pc1 := 77) (st1 := .int 0 :: _) rfl rfl ?_
      refine w_p (pc1 := 78) (st1 := .int 0 :: _) rfl rfl ?_
      refine w_p (pc1 := 79) (al1 := [(3, .int 0), (2, .int 0), (5, .int 18), (4, .int 0), (0, .ref 176), (1, .int 1)]) rfl rfl ?_
      refine w_p (pc1 := 81) rfl rfl ?_
      refine w_p (pc1 := 83) rfl rfl ?_
      refine w_p (pc1 := 85) (st1 := .int 8 :: _) rfl rfl ?_
      refine w_t (a := 102) (b := 88) rfl rfl rfl ?_
      refine w_p (pc1 := 103) (st1 := .int 0 :: _) rfl rfl ?_
      refine w_p (pc1 := 104) (st1 := .int 0 :: _) rfl rfl ?_
      refine w_p (pc1 := 106) (al1 := [(4, .int 0), (3, .int 0), (2, .int 0), (5, .int 18), (0, .ref 176), (1, .int 1)]) rfl rfl ?_
      refine w_p (pc1 := 109) (al1 := [(5, .int 19), (4, .int 0), (3, .int 0), (2, .int 0), (0, .ref 176), (1, .int 1)]) rfl rfl ?_
      refine w_p (pc1 := 29) rfl rfl ?_
      refine w_p (pc1 := 31) rfl rfl ?_
      refine w_p (pc1 := 33) (st1 := .int 24 :: _) rfl rfl ?_
      refine w_f (a := 112) (b := 36) rfl rfl rfl ?_
      refine w_p (pc1 := 37) rfl rfl ?_
      refine w_p (pc1 := 39) rfl rfl ?_
      refine w_p (pc1 := 41) (st1 := .int 6 :: _) rfl rfl ?_
      refine w_t (a := 58) (b := 44) rfl rfl rfl ?_
      refine w_p (pc1 := 59) (st1 := .int 0 :: _) rfl rfl ?_
      refine w_p (pc1 := 60) (st1 := .int 0 :: _) rfl rfl ?_
      refine w_p (pc1 := 61) (al1 := [(2, .int 0), (5, .int 19), (4, .int 0), (3, .int 0), (0, .ref 176), (1, .int 1)]) rfl rfl ?_
      refine w_p (pc1 := 62) rfl rfl ?_
      refine w_p (pc1 := 63) rfl rfl ?_
      refine w_m0 (pc1 := 66) rfl rfl (h_gC rfl rfl rfl rfl) rfl ?_
      refine w_p (pc1 := 68) rfl rfl ?_
      refine w_m0 (pc1 := 69) rfl rfl (h_bl rfl rfl (by decide) rfl) rfl ?_
      refine w_t (a := 76) (b := 72) (cb_eq_t (by exact (frM_t F).2.1 _ (by decide))) rfl rfl ?_
      refine w_p (pc1 := 77) (st1 := .int 0 :: _) rfl rfl ?_
      refine w_p (pc1 := 78) (st1 := .int 0 :: _) rfl rfl ?_
      refine w_p (pc1 := 79) (al1 := [(3, .int 0), (2, .int 0), (5, .int 19), (4, .int 0), (0, .ref 176), (1, .int 1)]) rfl rfl ?_
      refine w_p (pc1 := 81) rfl rfl ?_
      refine w_p (pc1 := 83) rfl rfl ?_
      refine w_p (pc1 := 85) (st1 := .int 8 :: _) rfl rfl ?_
      refine w_t (a := 102) (b := 88) rfl rfl rfl ?_
      refine w_p (pc1 := 103) (st1 := .int 0 :: _) rfl rfl ?_
      refine w_p (pc1 := 104) (st1 := .int 0 :: _) rfl rfl ?_
      refine w_p (pc1 := 106) (al1 := [(4, .int 0), (3, .int 0), (2, .int 0), (5, .int 19), (0, .ref 176), (1, .int 1)]) rfl rfl ?_
      refine w_p (pc1 := 109) (al1 := [(5, .int 20), (4, .int 0), (3, .int 0), (2, .int 0), (0, .ref 176), (1, .int 1)]) rfl rfl ?_
      refine w_p (pc1 := 29) rfl rfl ?_
      refine w_p (pc1 := 31) rfl rfl ?_
      refine w_p (pc1 := 33) (st1 := .int 24 :: _) rfl rfl ?_
      refine w_f (a := 112) (b := 36) rfl rfl rfl ?_
      refine w_p (pc1 := 37) rfl rfl ?_
      refine w_p (pc1 := 39) rfl rfl ?_
      refine w_p (pc1 := 41) (st1 := .int 6 :: _) rfl rfl ?_
      refine w_t (a := 58) (b := 44) rfl rfl rfl ?_
      refine w_p (pc1 := 59) (st1 := .int 0 :: _) rfl rfl ?_
      refine w_p (pc1 := 60) (st1 := .int 0 :: _) rfl rfl ?_
      refine w_p (pc1 := 61) (al1 := [(2, .int 0), (5, .int 20), (4, .int 0), (3, .int 0), (0, .ref 176), (1, .int 1)]) rfl rfl ?_
      refine w_p (pc1 := 62) rfl rfl ?_
      refine w_p (pc1 := 63) rfl rfl ?_
      refine w_m0 (pc1 := 66) rfl rfl (h_gC rfl rfl rfl rfl) rfl ?_
      refine w_p (pc1 := 68) rfl rfl ?_
      refine w_m0 (pc1 := 69) rfl rfl (h_bl rfl rfl (by decide) rfl) rfl ?_
      refine w_t (a := 76) (b := 72) (cb_eq_t (by exact (frM_t F).2.1 _ (by decide))) rfl rfl ?_
      refine w_p (pc1 := 77) (st1 := .int 0 :: _) rfl rfl ?_
      refine w_p (pc1 := 78) (st1 := .int 0 :: _) rfl rfl ?_
      refine w_p (pc1 := 79) (al1 := [(3, .int 0), (2, .int 0), (5, .int 20), (4, .int 0), (0, .ref 176), (1, .int 1)]) rfl rfl ?_
      refine w_p (pc1 := 81) rfl rfl ?_
      refine w_p (pc1 := 83) rfl rfl ?_
      refine w_p (pc1 := 85) (st1 := .int 8 :: _) rfl rfl ?_
      refine w_t (a := 102) (b := 88) rfl rfl rfl ?_
      refine w_p (pc1 := 103) (st1 := .int 0 :: _) rfl rfl ?_
      refine w_p (pc1 := 104) (st1 := .int 0 :: _) rfl rfl ?_
      refine w_p (pc1 := 106) (al1 := [(4, .int 0), (3, .int 0), (2, .int 0), (5, .int 20), (0, .ref 176), (1, .int 1)]) rfl rfl ?_
      refine w_p (pc1 := 109) (al1 := [(5, .int 21), (4, .int 0), (3, .int 0), (2, .int 0), (0, .ref 176), (1, .int 1)]) rfl rfl ?_
      refine w_p (pc1 := 29) rfl rfl ?_
      refine w_p (pc1 := 31) rfl rfl ?_
      refine w_p (pc1 := 33) (st1 := .int 24 :: _) rfl rfl ?_
      refine w_f (a := 112) (b := 36) rfl rfl rfl ?_
      refine w_p (pc1 := 37) rfl rfl ?_
      refine w_p (pc1 := 39) rfl rfl ?_
      refine w_p (pc1 := 41) (st1 := .int 6 :: _) rfl rfl ?_
      refine w_t (a := 58) (b := 44) rfl rfl rfl ?_
      refine w_p (pc1 := 59) (st1 := .int 0 :: _) rfl rfl ?_
      refine w_p (pc1 := 60) (st1 := .int 0 :: _) rfl rfl ?_
      refine w_p (pc1 := 61) (al1 := [(2, .int 0), (5, .int 21), (4, .int 0), (3, .int 0), (0, .ref 176), (1, .int 1)]) rfl rfl ?_
      refine w_p (pc1 := 62) rfl rfl ?_
      refine w_p (pc1 := 63) rfl rfl ?_
      refine w_m0 (pc1 := 66) rfl rfl (h_gC rfl rfl rfl rfl) rfl ?_
      refine w_p (pc1 := 68) rfl rfl ?_
      refine w_m0 (pc1 := 69) rfl rfl (h_bl rfl rfl (by decide) rfl) rfl ?_
      refine w_t (a := 76) (b := 72) (cb_eq_t (by exact (frM_t F).2.1 _ (by decide))) rfl rfl ?_
      refine w_p (pc1 := 77) (st1 := .int 0 :: _) rfl rfl ?_
      refine w_p (pc1 := 78) (st1 := .int 0 :: _) rfl rfl ?_
      refine w_p (pc1 := 79) (al1 := [(3, .int 0), (2, .int 0), (5, .int 21), (4, .int 0), (0, .ref 176), (1, .int 1)]) rfl rfl ?_
      refine w_p (pc1 := 81) rfl rfl ?_
      refine w_p (pc1 := 83) rfl rfl ?_
      refine w_p (pc1 := 85) (st1 := .int 8 :: _) rfl rfl ?_
      refine w_t (a := 102) (b := 88) rfl rfl rfl ?_
      refine w_p (pc1 := 103) (st1 := .int 0 :: _) rfl rfl ?_
      refine w_p (pc1 := 104) (st1 := .int 0 :: _) rfl rfl ?_
      refine w_p (pc1 := 106) (al1 := [(4, .int 0), (3, .int 0), (2, .int 0), (5, .int 21), (0, .ref 176), (1, .int 1)]) rfl rfl ?_
      refine w_p (pc1 := 109) (al1 := [(5, .int 22), (4, .int 0), (3, .int 0), (2, .int 0), (0, .ref 176), (1, .int 1)]) rfl rfl ?_
      refine w_p (pc1 := 29) rfl rfl ?_
      refine w_p (pc1 := 31) rfl rfl ?_
      refine w_p (pc1 := 33) (st1 := .int 24 :: _) rfl rfl ?_
      refine w_f (a := 112) (b := 36) rfl rfl rfl ?_
      refine w_p (pc1 := 37) rfl rfl ?_
      refine w_p (pc1 := 39) rfl rfl ?_
      refine w_p (pc1 := 41) (st1 := .int 6 :: _) rfl rfl ?_
      refine w_t (a := 58) (b := 44) rfl rfl rfl ?_
      refine w_p (pc1 := 59) (st1 := .int 0 :: _) rfl rfl ?_
      refine w_p (pc1 := 60) (st1 := .int 0 :: _) rfl rfl ?_
      refine w_p (pc1 := 61) (al1 := [(2, .int 0), (5, .int 22), (4, .int 0), (3, .int 0), (0, .ref 176), (1, .int 1)]) rfl rfl ?_
      refine w_p (pc1 := 62) rfl rfl ?_
      refine w_p (pc1 := 63) rfl rfl ?_
      refine w_m0 (pc1 := 66) rfl rfl (h_gC rfl rfl rfl rfl) rfl ?_
      refine w_p (pc1 := 68) rfl rfl ?_
      refine w_m0 (pc1 := 69) rfl rfl (h_bl rfl rfl (by decide) rfl) rfl ?_
      refine w_t (a := 76) (b := 72) (cb_eq_t (by exact (frM_t F).2.1 _ (by decide))) rfl rfl ?_
      refine w_p (pc1 := 77) (st1 := .int 0 :: _) rfl rfl ?_
      refine w_p (pc1 := 78) (st1 := .int 0 :: _) rfl rfl ?_
      refine w_p (pc1 := 79) (al1 := [(3, .int 0), (2, .int 0), (5, .int 22), (4, .int 0), (0, .ref 176), (1, .int 1)]) rfl rfl ?_
      refine w_p (pc1 := 81) rfl rfl ?_
      refine w_p (pc1 := 83) rfl rfl ?_
      refine w_p (pc1 := 85) (st1 := .int 8 :: _) rfl rfl ?_
      refine w_t (a := 102) (b := 88) rfl rfl rfl ?_
      refine w_p (pc1 := 103) (st1 := .int 0 :: _) rfl rfl ?_
      refine w_p (pc1 := 104) (st1 := .int 0 :: _) rfl rfl ?_
      refine w_p (pc1 := 106) (al1 := [(4, .int 0), (3, .int 0), (2, .int 0), (5, .int 22), (0, .ref 176), (1, .int 1)]) rfl rfl ?_
      refine w_p (pc1 := 109) (al1 := [(5, .int 23), (4, .int 0), (3, .int 0), (2, .int 0), (0, .ref 176), (1, .int 1)]) rfl rfl ?_
      refine w_p (pc1 := 29) rfl rfl ?_
      refine w_p (pc1 := 31) rfl rfl ?_
      refine w_p (pc1 := 33) (st1 := .int 24 :: _) rfl rfl ?_
      refine w_f (a := 112) (b := 36) rfl rfl rfl ?_
      refine w_p (pc1 := 37) rfl rfl ?_
      refine w_p (pc1 := 39) rfl rfl ?_
      refine w_p (pc1 := 41) (st1 := .int 6 :: _) rfl rfl ?_
      refine w_t (a := 58) (b := 44) rfl rfl rfl ?_
      refine w_p (pc1 := 59) (st1 := .int 0 :: _) rfl rfl ?_
      refine w_p (pc1 := 60) (st1 := .int 0 :: _) rfl rfl ?_
      refine w_p (pc1 := 61) (al1 := [(2, .int 0), (5, .int 23), (4, .int 0), (3, .int 0), (0, .ref 176), (1, .int 1)]) rfl rfl ?_
      refine w_p (pc1 := 62) rfl rfl ?_
      refine w_p (pc1 := 63) rfl rfl ?_
      refine w_m0 (pc1 := 66) rfl rfl (h_gC rfl rfl rfl rfl) rfl ?_
      refine w_p (pc1 := 68) rfl rfl ?_
      refine w_m0 (pc1 := 69) rfl rfl (h_bl rfl rfl (by decide) rfl) rfl ?_
      refine w_t (a := 76) (b := 72) (cb_eq_t (by exact (frM_t F).2.1 _ (by decide))) rfl rfl ?_
      refine w_p (pc1 := 77) (st1 := .int 0 :: _) rfl rfl ?_
      refine w_p (pc1 := 78) (st1 := .int 0 :: _) rfl rfl ?_
      refine w_p (pc1 := 79) (al1 := [(3, .int 0), (2, .int 0), (5, .int 23), (4, .int 0), (0, .ref 176), (1, .int 1)]) rfl rfl ?_
      refine w_p (pc1 := 81) rfl rfl ?_
      refine w_p (pc1 := 83) rfl rfl ?_
      refine w_p (pc1 := 85) (st1 := .int 8 :: _) rfl rfl ?_
      refine w_t (a := 102) (b := 88) rfl rfl rfl ?_
      refine w_p (pc1 := 103) (st1 := .int 0 :: _) rfl rfl ?_
      refine w_p (pc1 := 104) (st1 := .int 0 :: _) rfl rfl ?_
      refine w_p (pc1 := 106) (al1 := [(4, .int 0), (3, .int 0), (2, .int 0), (5, .int 23), (0, .ref 176), (1, .int 1)]) rfl rfl ?_
      refine w_p (pc1 := 109) (al1 := [(5, .int 24), (4, .int 0), (3, .int 0), (2, .int 0), (0, .ref 176), (1, .int 1)]) rfl rfl ?_
      refine w_p (pc1 := 29) rfl rfl ?_
      refine w_p (pc1 := 31) rfl rfl ?_
      refine w_p (pc1 := 33) (st1 := .int 24 :: _) rfl rfl ?_
      refine w_t (a := 112) (b := 36) rfl rfl rfl ?_
      refine w_p (pc1 := 113) rfl rfl ?_
      refine w_t (a := 120) (b := 116) rfl rfl rfl ?_
      refine w_p (pc1 := 121) rfl rfl ?_
      refine w_p (pc1 := 122) (st1 := .int 1 :: _) rfl rfl ?_
      refine w_f (a := 129) (b := 125) rfl rfl rfl ?_
      refine w_p (pc1 := 126) rfl rfl ?_
      refine w_p (pc1 := 187) rfl rfl ?_
      refine w_r rfl rfl rfl (fun _ _ => rfl) cr_int ?_
      refine Or.inl ⟨by decide, ?_, rfl, rfl⟩; first | rfl | rw [(frM_t F).2.2.2.1] | rw [(frM_t F).2.2.2.2.2]
    · skip
      refine w_p (pc1 := 1) rfl rfl ?_
      refine w_p (pc1 := 2) rfl rfl ?_
      refine w_p (pc1 := 3) (st1 := .long 2 :: _) rfl rfl ?_
      refine w_p (pc1 := 4) (st1 := .long 0 :: _) rfl rfl ?_
      refine w_m0 (pc1 := 7) (st1 := .long 6 :: _) rfl rfl rfl rfl ?_
      refine w_je (pc1 := 10) (vs := [.long 2, .long 0, .long 6]) (rest := [.ref 176]) (st1 := [.int 1, .ref 176]) (m_189t (d := _) (sl := 0) rfl) rfl rfl rfl (fun _ _ => rfl) rfl (by exact cl_s my_189 rfl rfl rfl (Nat.le_of_ble_eq_true rfl) rfl rfl) (by rfl) (Nat.le_of_ble_eq_true rfl) (Nat.le_of_ble_eq_true rfl) rfl (by rfl) ?_
      refine w_p (pc1 := 11) (st1 := .int 1 :: _) rfl rfl ?_
      refine w_je (pc1 := 14) (vs := [.ref 176, .int 1, .int 1]) (rest := []) (st1 := [.int 1]) (m_190 (d := _) (sl := 0)) rfl rfl rfl (fun _ _ => rfl) rfl (by exact cl_v my_190 rfl rfl rfl (Nat.le_of_ble_eq_true rfl) rfl (MH_obj rfl rfl) rfl (by decide) rfl rfl) (by rfl) (Nat.le_of_ble_eq_true rfl) (Nat.le_of_ble_eq_true rfl) rfl (by rfl) ?_
      refine w_t (a := 19) (b := 17) rfl rfl rfl ?_
      refine w_p (pc1 := 20) (st1 := .int 0 :: _) rfl rfl ?_
      refine w_p (pc1 := 21) (al1 := [(2, .int 0), (0, .ref 176), (1, .int 2)]) rfl rfl ?_
      refine w_p (pc1 := 22) (st1 := .int 0 :: _) rfl rfl ?_
      refine w_p (pc1 := 23) (al1 := [(3, .int 0), (2, .int 0), (0, .ref 176), (1, .int 2)]) rfl rfl ?_
      refine w_p (pc1 := 24) (st1 := .int 0 :: _) rfl rfl ?_
      refine w_p (pc1 := 26) (al1 := [(4, .int 0), (3, .int 0), (2, .int 0), (0, .ref 176), (1, .int 2)]) rfl rfl ?_
      refine w_p (pc1 := 27) (st1 := .int 0 :: _) rfl rfl ?_
      refine w_p (pc1 := 29) (al1 := [(5, .int 0), (4, .int 0), (3, .int 0), (2, .int 0), (0, .ref 176), (1, .int 2)]) rfl rfl ?_
      refine w_p (pc1 := 31) rfl rfl ?_
      refine w_p (pc1 := 33) (st1 := .int 24 :: _) rfl rfl ?_
      refine w_f (a := 112) (b := 36) rfl rfl rfl ?_
      refine w_p (pc1 := 37) rfl rfl ?_
      refine w_p (pc1 := 39) rfl rfl ?_
      refine w_p (pc1 := 41) (st1 := .int 6 :: _) rfl rfl ?_
      refine w_f (a := 58) (b := 44) rfl rfl rfl ?_
      refine w_p (pc1 := 45) rfl rfl ?_
      refine w_m0 (pc1 := 48) rfl rfl (h_gC rfl rfl rfl rfl) rfl ?_
      refine w_p (pc1 := 50) rfl rfl ?_
      refine w_m0 (pc1 := 51) rfl rfl (h_bl rfl rfl (by decide) rfl) rfl ?_
      refine w_t (a := 58) (b := 54) (cb_eq_t (by exact (frM_t F).1 _ (by decide))) rfl rfl ?_
      refine w_p (pc1 := 59) (st1 := .int 0 :: _) rfl rfl ?_
      refine w_p (pc1 := 60) (st1 := .int 0 :: _) rfl rfl ?_
      refine w_p (pc1 := 61) (al1 := [(2, .int 0), (5, .int 0), (4, .int 0), (3, .int 0), (0, .ref 176), (1, .int 2)]) rfl rfl ?_
      refine w_p (pc1 := 62) rfl rfl ?_
      refine w_p (pc1 := 63) rfl rfl ?_
      refine w_m0 (pc1 := 66) rfl rfl (h_gC rfl rfl rfl rfl) rfl ?_
      refine w_p (pc1 := 68) rfl rfl ?_
      refine w_m0 (pc1 := 69) rfl rfl (h_bl rfl rfl (by decide) rfl) rfl ?_
      refine w_t (a := 76) (b := 72) (cb_eq_t (by exact (frM_t F).2.1 _ (by decide))) rfl rfl ?_
      refine w_p (pc1 := 77) (st1 := .int 0 :: _) rfl rfl ?_
      refine w_p (pc1 := 78) (st1 := .int 0 :: _) rfl rfl ?_
      refine w_p (pc1 := 79) (al1 := [(3, .int 0), (2, .int 0), (5, .int 0), (4, .int 0), (0, .ref 176), (1, .int 2)]) rfl rfl ?_
      refine w_p (pc1 := 81) rfl rfl ?_
      refine w_p (pc1 := 83) rfl rfl ?_
      refine w_p (pc1 := 85) (st1 := .int 8 :: _) rfl rfl ?_
      refine w_f (a := 102) (b := 88) rfl rfl rfl ?_
      refine w_p (pc1 := 89) rfl rfl ?_
      refine w_m0 (pc1 := 92) rfl rfl (h_gC rfl rfl rfl rfl) rfl ?_
      refine w_p (pc1 := 94) rfl rfl ?_
      refine w_m0 (pc1 := 95) rfl rfl (h_bl rfl rfl (by decide) rfl) rfl ?_
      refine w_t (a := 102) (b := 98) (cb_eq_t (by exact (frM_t F).2.2.1 _ (by decide))) rfl rfl ?_
      refine w_p (pc1 := 103) (st1 := .int 0 :: _) rfl rfl ?_
      refine w_p (pc1 := 104) (st1 := .int 0 :: _) rfl rfl ?_
      refine w_p (pc1 := 106) (al1 := [(4, .int 0), (3, .int 0), (2, .int 0), (5, .int 0), (0, .ref 176), (1, .int 2)]) rfl rfl ?_
      refine w_p (pc1 := 109) (al1 := [(5, .int 1), (4, .int 0), (3, .int 0), (2, .int 0), (0, .ref 176), (1, .int 2)]) rfl rfl ?_
      refine w_p (pc1 := 29) rfl rfl ?_
      refine w_p (pc1 := 31) rfl rfl ?_
      refine w_p (pc1 := 33) (st1 := .int 24 :: _) rfl rfl ?_
      refine w_f (a := 112) (b := 36) rfl rfl rfl ?_
      refine w_p (pc1 := 37) rfl rfl ?_
      refine w_p (pc1 := 39) rfl rfl ?_
      refine w_p (pc1 := 41) (st1 := .int 6 :: _) rfl rfl ?_
      refine w_f (a := 58) (b := 44) rfl rfl rfl ?_
      refine w_p (pc1 := 45) rfl rfl ?_
      refine w_m0 (pc1 := 48) rfl rfl (h_gC rfl rfl rfl rfl) rfl ?_
      refine w_p (pc1 := 50) rfl rfl ?_
      refine w_m0 (pc1 := 51) rfl rfl (h_bl rfl rfl (by decide) rfl) rfl ?_
      refine w_t (a := 58) (b := 54) (cb_eq_t (by exact (frM_t F).1 _ (by decide))) rfl rfl ?_
      refine w_p (pc1 := 59) (st1 := .int 0 :: _) rfl rfl ?_
      refine w_p (pc1 := 60) (st1 := .int 0 :: _) rfl rfl ?_
      refine w_p (pc1 := 61) (al1 := [(2, .int 0), (5, .int 1), (4, .int 0), (3, .int 0), (0, .ref 176), (1, .int 2)]) rfl rfl ?_
      refine w_p (pc1 := 62) rfl rfl ?_
      refine w_p (pc1 := 63) rfl rfl ?_
      refine w_m0 (pc1 := 66) rfl rfl (h_gC rfl rfl rfl rfl) rfl ?_
      refine w_p (pc1 := 68) rfl rfl ?_
      refine w_m0 (pc1 := 69) rfl rfl (h_bl rfl rfl (by decide) rfl) rfl ?_
      refine w_t (a := 76) (b := 72) (cb_eq_t (by exact (frM_t F).2.1 _ (by decide))) rfl rfl ?_
      refine w_p (pc1 := 77) (st1 := .int 0 :: _) rfl rfl ?_
      refine w_p (pc1 := 78) (st1 := .int 0 :: _) rfl rfl ?_
      refine w_p (pc1 := 79) (al1 := [(3, .int 0), (2, .int 0), (5, .int 1), (4, .int 0), (0, .ref 176), (1, .int 2)]) rfl rfl ?_
      refine w_p (pc1 := 81) rfl rfl ?_
      refine w_p (pc1 := 83) rfl rfl ?_
      refine w_p (pc1 := 85) (st1 := .int 8 :: _) rfl rfl ?_
      refine w_f (a := 102) (b := 88) rfl rfl rfl ?_
      refine w_p (pc1 := 89) rfl rfl ?_
      refine w_m0 (pc1 := 92) rfl rfl (h_gC rfl rfl rfl rfl) rfl ?_
      refine w_p (pc1 := 94) rfl rfl ?_
      refine w_m0 (pc1 := 95) rfl rfl (h_bl rfl rfl (by decide) rfl) rfl ?_
      refine w_t (a := 102) (b := 98) (cb_eq_t (by exact (frM_t F).2.2.1 _ (by decide))) rfl rfl ?_
      refine w_p (pc1 := 103) (st1 := .int 0 :: _) rfl rfl ?_
      refine w_p (pc1 := 104) (st1 := .int 0 :: _) rfl rfl ?_
      refine w_p (pc1 := 106) (al1 := [(4, .int 0), (3, .int 0), (2, .int 0), (5, .int 1), (0, .ref 176), (1, .int 2)]) rfl rfl ?_
      refine w_p (pc1 := 109) (al1 := [(5, .int 2), (4, .int 0), (3, .int 0), (2, .int 0), (0, .ref 176), (1, .int 2)]) rfl rfl ?_
      refine w_p (pc1 := 29) rfl rfl ?_
      refine w_p (pc1 := 31) rfl rfl ?_
      refine w_p (pc1 := 33) (st1 := .int 24 :: _) rfl rfl ?_
      refine w_f (a := 112) (b := 36) rfl rfl rfl ?_
      refine w_p (pc1 := 37) rfl rfl ?_
      refine w_p (pc1 := 39) rfl rfl ?_
      refine w_p (pc1 := 41) (st1 := .int 6 :: _) rfl rfl ?_
      refine w_f (a := 58) (b := 44) rfl rfl rfl ?_
      refine w_p (pc1 := 45) rfl rfl ?_
      refine w_m0 (pc1 := 48) rfl rfl (h_gC rfl rfl rfl rfl) rfl ?_
      refine w_p (pc1 := 50) rfl rfl ?_
      refine w_m0 (pc1 := 51) rfl rfl (h_bl rfl rfl (by decide) rfl) rfl ?_
      refine w_t (a := 58) (b := 54) (cb_eq_t (by exact (frM_t F).1 _ (by decide))) rfl rfl ?_
      refine w_p (pc1 := 59) (st1 := .int 0 :: _) rfl rfl ?_
      refine w_p (pc1 := 60) (st1 := .int 0 :: _) rfl rfl ?_
      refine w_p (pc1 := 61) (al1 := [(2, .int 0), (5, .int 2), (4, .int 0), (3, .int 0), (0, .ref 176), (1, .int 2)]) rfl rfl ?_
      refine w_p (pc1 := 62) rfl rfl ?_
      refine w_p (pc1 := 63) rfl rfl ?_
      refine w_m0 (pc1 := 66) rfl rfl (h_gC rfl rfl rfl rfl) rfl ?_
      refine w_p (pc1 := 68) rfl rfl ?_
      refine w_m0 (pc1 := 69) rfl rfl (h_bl rfl rfl (by decide) rfl) rfl ?_
      refine w_t (a := 76) (b := 72) (cb_eq_t (by exact (frM_t F).2.1 _ (by decide))) rfl rfl ?_
      refine w_p (pc1 := 77) (st1 := .int 0 :: _) rfl rfl ?_
      refine w_p (pc1 := 78) (st1 := .int 0 :: _) rfl rfl ?_
      refine w_p (pc1 := 79) (al1 := [(3, .int 0), (2, .int 0), (5, .int 2), (4, .int 0), (0, .ref 176), (1, .int 2)]) rfl rfl ?_
      refine w_p (pc1 := 81) rfl rfl ?_
      refine w_p (pc1 := 83) rfl rfl ?_
      refine w_p (pc1 := 85) (st1 := .int 8 :: _) rfl rfl ?_
      refine w_f (a := 102) (b := 88) rfl rfl rfl ?_
      refine w_p (pc1 := 89) rfl rfl ?_
      refine w_m0 (pc1 := 92) rfl rfl (h_gC rfl rfl rfl rfl) rfl ?_
      refine w_p (pc1 := 94) rfl rfl ?_
      refine w_m0 (pc1 := 95) rfl rfl (h_bl rfl rfl (by decide) rfl) rfl ?_
      refine w_t (a := 102) (b := 98) (cb_eq_t (by exact (frM_t F).2.2.1 _ (by decide))) rfl rfl ?_
      refine w_p (pc1 := 103) (st1 := .int 0 :: _) rfl rfl ?_
      refine w_p (pc1 := 104) (st1 := .int 0 :: _) rfl rfl ?_
      refine w_p (pc1 := 106) (al1 := [(4, .int 0), (3, .int 0), (2, .int 0), (5, .int 2), (0, .ref 176), (1, .int 2)]) rfl rfl ?_
      refine w_p (pc1 := 109) (al1 := [(5, .int 3), (4, .int 0), (3, .int 0), (2, .int 0), (0, .ref 176), (1, .int 2)]) rfl rfl ?_
      refine w_p (pc1 := 29) rfl rfl ?_
      refine w_p (pc1 := 31) rfl rfl ?_
      refine w_p (pc1 := 33) (st1 := .int 24 :: _) rfl rfl ?_
      refine w_f (a := 112) (b := 36) rfl rfl rfl ?_
      refine w_p (pc1 := 37) rfl rfl ?_
      refine w_p (pc1 := 39) rfl rfl ?_
      refine w_p (pc1 := 41) (st1 := .int 6 :: _) rfl rfl ?_
      refine w_f (a := 58) (b := 44) rfl rfl rfl ?_
      refine w_p (pc1 := 45) rfl rfl ?_
      refine w_m0 (pc1 := 48) rfl rfl (h_gC rfl rfl rfl rfl) rfl ?_
      refine w_p (pc1 := 50) rfl rfl ?_
      refine w_m0 (pc1 := 51) rfl rfl (h_bl rfl rfl (by decide) rfl) rfl ?_
      refine w_t (a := 58) (b := 54) (cb_eq_t (by exact (frM_t F).1 _ (by decide))) rfl rfl ?_
      refine w_p (pc1 := 59) (st1 := .int 0 :: _) rfl rfl ?_
      refine w_p (pc1 := 60) (st1 := .int 0 :: _) rfl rfl ?_
      refine w_p (pc1 := 61) (al1 := [(2, .int 0), (5, .int 3), (4, .int 0), (3, .int 0), (0, .ref 176), (1, .int 2)]) rfl rfl ?_
      refine w_p (pc1 := 62) rfl rfl ?_
      refine w_p (pc1 := 63) rfl rfl ?_
      refine w_m0 (pc1 := 66) rfl rfl (h_gC rfl rfl rfl rfl) rfl ?_
      refine w_p (pc1 := 68) rfl rfl ?_
      refine w_m0 (pc1 := 69) rfl rfl (h_bl rfl rfl (by decide) rfl) rfl ?_
      refine w_t (a := 76) (b := 72) (cb_eq_t (by exact (frM_t F).2.1 _ (by decide))) rfl rfl ?_
      refine w_p (pc1 := 77) (st1 := .int 0 :: _) rfl rfl ?_
      refine w_p (pc1 := 78) (st1 := .int 0 :: _) rfl rfl ?_
      refine w_p (pc1 := 79) (al1 := [(3, .int 0), (2, .int 0), (5, .int 3), (4, .int 0), (0, .ref 176), (1, .int 2)]) rfl rfl ?_
      refine w_p (pc1 := 81) rfl rfl ?_
      refine w_p (pc1 := 83) rfl rfl ?_
      refine w_p (pc1 := 85) (st1 := .int 8 :: _) rfl rfl ?_
      refine w_f (a := 102) (b := 88) rfl rfl rfl ?_
      refine w_p (pc1 := 89) rfl rfl ?_
      refine w_m0 (pc1 := 92) rfl rfl (h_gC rfl rfl rfl rfl) rfl ?_
      refine w_p (pc1 := 94) rfl rfl ?_
      refine w_m0 (pc1 := 95) rfl rfl (h_bl rfl rfl (by decide) rfl) rfl ?_
      refine w_t (a := 102) (b := 98) (cb_eq_t (by exact (frM_t F).2.2.1 _ (by decide))) rfl rfl ?_
      refine w_p (pc1 := 103) (st1 := .int 0 :: _) rfl rfl ?_
      refine w_p (pc1 := 104) (st1 := .int 0 :: _) rfl rfl ?_
      refine w_p (pc1 := 106) (al1 := [(4, .int 0), (3, .int 0), (2, .int 0), (5, .int 3), (0, .ref 176), (1, .int 2)]) rfl rfl ?_
      refine w_p (pc1 := 109) (al1 := [(5, .int 4), (4, .int 0), (3, .int 0), (2, .int 0), (0, .ref 176), (1, .int 2)]) rfl rfl ?_
      refine w_p (pc1 := 29) rfl rfl ?_
      refine w_p (pc1 := 31) rfl rfl ?_
      refine w_p (pc1 := 33) (st1 := .int 24 :: _) rfl rfl ?_
      refine w_f (a := 112) (b := 36) rfl rfl rfl ?_
      refine w_p (pc1 := 37) rfl rfl ?_
      refine w_p (pc1 := 39) rfl rfl ?_
      refine w_p (pc1 := 41) (st1 := .int 6 :: _) rfl rfl ?_
      refine w_f (a := 58) (b := 44) rfl rfl rfl ?_
      refine w_p (pc1 := 45) rfl rfl ?_
      refine w_m0 (pc1 := 48) rfl rfl (h_gC rfl rfl rfl rfl) rfl ?_
      refine w_p (pc1 := 50) rfl rfl ?_
      refine w_m0 (pc1 := 51) rfl rfl (h_bl rfl rfl (by decide) rfl) rfl ?_
      refine w_t (a := 58) (b := 54) (cb_eq_t (by exact (frM_t F).1 _ (by decide))) rfl rfl ?_
      refine w_p (pc1 := 59) (st1 := .int 0 :: _) rfl rfl ?_
      refine w_p (pc1 := 60) (st1 := .int 0 :: _) rfl rfl ?_
      refine w_p (pc1 := 61) (al1 := [(2, .int 0), (5, .int 4), (4, .int 0), (3, .int 0), (0, .ref 176), (1, .int 2)]) rfl rfl ?_
      refine w_p (pc1 := 62) rfl rfl ?_
      refine w_p (pc1 := 63) rfl rfl ?_
      refine w_m0 (pc1 := 66) rfl rfl (h_gC rfl rfl rfl rfl) rfl ?_
      refine w_p (pc1 := 68) rfl rfl ?_
      refine w_m0 (pc1 := 69) rfl rfl (h_bl rfl rfl (by decide) rfl) rfl ?_
      refine w_t (a := 76) (b := 72) (cb_eq_t (by exact (frM_t F).2.1 _ (by decide))) rfl rfl ?_
      refine w_p (pc1 := 77) (st1 := .int 0 :: _) rfl rfl ?_
      refine w_p (pc1 := 78) (st1 := .int 0 :: _) rfl rfl ?_
      refine w_p (pc1 := 79) (al1 := [(3, .int 0), (2, .int 0), (5, .int 4), (4, .int 0), (0, .ref 176), (1, .int 2)]) rfl rfl ?_
      refine w_p (pc1 := 81) rfl rfl ?_
      refine w_p (pc1 := 83) rfl rfl ?_
      refine w_p (pc1 := 85) (st1 := .int 8 :: _) rfl rfl ?_
      refine w_f (a := 102) (b := 88) rfl rfl rfl ?_
      refine w_p (pc1 := 89) rfl rfl ?_
      refine w_m0 (pc1 := 92) rfl rfl (h_gC rfl rfl rfl rfl) rfl ?_
      refine w_p (pc1 := 94) rfl rfl ?_
      refine w_m0 (pc1 := 95) rfl rfl (h_bl rfl rfl (by decide) rfl) rfl ?_
      refine w_t (a := 102) (b := 98) (cb_eq_t (by exact (frM_t F).2.2.1 _ (by decide))) rfl rfl ?_
      refine w_p (pc1 := 103) (st1 := .int 0 :: _) rfl rfl ?_
      refine w_p (pc1 := 104) (st1 := .int 0 :: _) rfl rfl ?_
      refine w_p (pc1 := 106) (al1 := [(4, .int 0), (3, .int 0), (2, .int 0), (5, .int 4), (0, .ref 176), (1, .int 2)]) rfl rfl ?_
      refine w_p (pc1 := 109) (al1 := [(5, .int 5), (4, .int 0), (3, .int 0), (2, .int 0), (0, .ref 176), (1, .int 2)]) rfl rfl ?_
      refine w_p (pc1 := 29) rfl rfl ?_
      refine w_p (pc1 := 31) rfl rfl ?_
      refine w_p (pc1 := 33) (st1 := .int 24 :: _) rfl rfl ?_
      refine w_f (a := 112) (b := 36) rfl rfl rfl ?_
      refine w_p (pc1 := 37) rfl rfl ?_
      refine w_p (pc1 := 39) rfl rfl ?_
      refine w_p (pc1 := 41) (st1 := .int 6 :: _) rfl rfl ?_
      refine w_f (a := 58) (b := 44) rfl rfl rfl ?_
      refine w_p (pc1 := 45) rfl rfl ?_
      refine w_m0 (pc1 := 48) rfl rfl (h_gC rfl rfl rfl rfl) rfl ?_
      refine w_p (pc1 := 50) rfl rfl ?_
      refine w_m0 (pc1 := 51) rfl rfl (h_bl rfl rfl (by decide) rfl) rfl ?_
      refine w_t (a := 58) (b := 54) (cb_eq_t (by exact (frM_t F).1 _ (by decide))) rfl rfl ?_
      refine w_p (pc1 := 59) (st1 := .int 0 :: _) rfl rfl ?_
      refine w_p (pc1 := 60) (st1 := .int 0 :: _) rfl rfl ?_
      refine w_p (pc1 := 61) (al1 := [(2, .int 0), (5, .int 5), (4, .int 0), (3, .int 0), (0, .ref 176), (1, .int 2)]) rfl rfl ?_
      refine w_p (pc1 := 62) rfl rfl ?_
      refine w_p (pc1 := 63) rfl rfl ?_
      refine w_m0 (pc1 := 66) rfl rfl (h_gC rfl rfl rfl rfl) rfl ?_
      refine w_p (pc1 := 68) rfl rfl ?_
      refine w_m0 (pc1 := 69) rfl rfl (h_bl rfl rfl (by decide) rfl) rfl ?_
      refine w_t (a := 76) (b := 72) (cb_eq_t (by exact (frM_t F).2.1 _ (by decide))) rfl rfl ?_
      refine w_p (pc1 := 77) (st1 := .int 0 :: _) rfl rfl ?_
      refine w_p (pc1 := 78) (st1 := .int 0 :: _) rfl rfl ?_
      refine w_p (pc1 := 79) (al1 := [(3, .int 0), (2, .int 0), (5, .int 5), (4, .int 0), (0, .ref 176), (1, .int 2)]) rfl rfl ?_
      refine w_p (pc1 := 81) rfl rfl ?_
      refine w_p (pc1 := 83) rfl rfl ?_
      refine w_p (pc1 := 85) (st1 := .int 8 :: _) rfl rfl ?_
      refine w_f (a := 102) (b := 88) rfl rfl rfl ?_
      refine w_p (pc1 := 89) rfl rfl ?_
      refine w_m0 (pc1 := 92) rfl rfl (h_gC rfl rfl rfl rfl) rfl ?_
      refine w_p (pc1 := 94) rfl rfl ?_
      refine w_m0 (pc1 := 95) rfl rfl (h_bl rfl rfl (by decide) rfl) rfl ?_
      refine w_t (a := 102) (b := 98) (cb_eq_t (by exact (frM_t F).2.2.1 _ (by decide))) rfl rfl ?_
      refine w_p (pc1 := 103) (st1 := .int 0 :: _) rfl rfl ?_
      refine w_p (pc1 := 104) (st1 := .int 0 :: _) rfl rfl ?_
      refine w_p (pc1 := 106) (al1 := [(4, .int 0), (3, .int 0), (2, .int 0), (5, .int 5), (0, .ref 176), (1, .int 2)]) rfl rfl ?_
      refine w_p (pc1 := 109) (al1 := [(5, .int 6), (4, .int 0), (3, .int 0), (2, .int 0), (0, .ref 176), (1, .int 2)]) rfl rfl ?_
      refine w_p (pc1 := 29) rfl rfl ?_
      refine w_p (pc1 := 31) rfl rfl ?_
      refine w_p (pc1 := 33) (st1 := .int 24 :: _) rfl rfl ?_
      refine w_f (a := 112) (b := 36) rfl rfl rfl ?_
      refine w_p (pc1 := 37) rfl rfl ?_
      refine w_p (pc1 := 39) rfl rfl ?_
      refine w_p (pc1 := 41) (st1 := .int 6 :: _) rfl rfl ?_
      refine w_t (a := 58) (b := 44) rfl rfl rfl ?_
      refine w_p (pc1 := 59) (st1 := .int 0 :: _) rfl rfl ?_
      refine w_p (pc1 := 60) (st1 := .int 0 :: _) rfl rfl ?_
      refine w_p (pc1 := 61) (al1 := [(2, .int 0), (5, .int 6), (4, .int 0), (3, .int 0), (0, .ref 176), (1, .int 2)]) rfl rfl ?_
      refine w_p (pc1 := 62) rfl rfl ?_
      refine w_p (pc1 := 63) rfl rfl ?_
      refine w_m0 (pc1 := 66) rfl rfl (h_gC rfl rfl rfl rfl) rfl ?_
      refine w_p (pc1 := 68) rfl rfl ?_
      refine w_m0 (pc1 := 69) rfl rfl (h_bl rfl rfl (by decide) rfl) rfl ?_
      refine w_t (a := 76) (b := 72) (cb_eq_t (by exact (frM_t F).2.1 _ (by decide))) rfl rfl ?_
      refine w_p (pc1 := 77) (st1 := .int 0 :: _) rfl rfl ?_
      refine w_p (pc1 := 78) (st1 := .int 0 :: _) rfl rfl ?_
      refine w_p (pc1 := 79) (al1 := [(3, .int 0), (2, .int 0), (5, .int 6), (4, .int 0), (0, .ref 176), (1, .int 2)]) rfl rfl ?_
      refine w_p (pc1 := 81) rfl rfl ?_
      refine w_p (pc1 := 83) rfl rfl ?_
      refine w_p (pc1 := 85) (st1 := .int 8 :: _) rfl rfl ?_
      refine w_f (a := 102) (b := 88) rfl rfl rfl ?_
      refine w_p (pc1 := 89) rfl rfl ?_
      refine w_m0 (pc1 := 92) rfl rfl (h_gC rfl rfl rfl rfl) rfl ?_
      refine w_p (pc1 := 94) rfl rfl ?_
      refine w_m0 (pc1 := 95) rfl rfl (h_bl rfl rfl (by decide) rfl) rfl ?_
      refine w_t (a := 102) (b := 98) (cb_eq_t (by exact (frM_t F).2.2.1 _ (by decide))) rfl rfl ?_
      refine w_p (pc1 := 103) (st1 := .int 0 :: _) rfl rfl ?_
      refine w_p (pc1 := 104) (st1 := .int 0 :: _) rfl rfl ?_
      refine w_p (pc1 := 106) (al1 := [(4, .int 0), (3, .int 0), (2, .int 0), (5, .int 6), (0, .ref 176), (1, .int 2)]) rfl rfl ?_
      refine w_p (pc1 := 109) (al1 := [(5, .int 7), (4, .int 0), (3, .int 0), (2, .int 0), (0, .ref 176), (1, .int 2)]) rfl rfl ?_
      refine w_p (pc1 := 29) rfl rfl ?_
      refine w_p (pc1 := 31) rfl rfl ?_
      refine w_p (pc1 := 33) (st1 := .int 24 :: _) rfl rfl ?_
      refine w_f (a := 112) (b := 36) rfl rfl rfl ?_
      refine w_p (pc1 := 37) rfl rfl ?_
      refine w_p (pc1 := 39) rfl rfl ?_
      refine w_p (pc1 := 41) (st1 := .int 6 :: _) rfl rfl ?_
      refine w_t (a := 58) (b := 44) rfl rfl rfl ?_
      refine w_p (pc1 := 59) (st1 := .int 0 :: _) rfl rfl ?_
      refine w_p (pc1 := 60) (st1 := .int 0 :: _) rfl rfl ?_
      refine w_p (pc1 := 61) (al1 := [(2, .int 0), (5, .int 7), (4, .int 0), (3, .int 0), (0, .ref 176), (1, .int 2)]) rfl rfl ?_
      refine w_p (pc1 := 62) rfl rfl ?_
      refine w_p (pc1 := 63) rfl rfl ?_
      refine w_m0 (pc1 := 66) rfl rfl (h_gC rfl rfl rfl rfl) rfl ?_
      refine w_p (pc1 := 68) rfl rfl ?_
      refine w_m0 (pc1 := 69) rfl rfl (h_bl rfl rfl (by decide) rfl) rfl ?_
      refine w_t (a := 76) (b := 72) (cb_eq_t (by exact (frM_t F).2.1 _ (by decide))) rfl rfl ?_
      refine w_p (pc1 := 77) (st1 := .int 0 :: _) rfl rfl ?_
      refine w_p (pc1 := 78) (st1 := .int 0 :: _) rfl rfl ?_
      refine w_p (pc1 := 79) (al1 := [(3, .int 0), (2, .int 0), (5, .int 7), (4, .int 0), (0, .ref 176), (1, .int 2)]) rfl rfl ?_
      refine w_p (pc1 := 81) rfl rfl ?_
      refine w_p (pc1 := 83) rfl rfl ?_
      refine w_p (pc1 := 85) (st1 := .int 8 :: _) rfl rfl ?_
      refine w_f (a := 102) (b := 88) rfl rfl rfl ?_
      refine w_p (pc1 := 89) rfl rfl ?_
      refine w_m0 (pc1 := 92) rfl rfl (h_gC rfl rfl rfl rfl) rfl ?_
      refine w_p (pc1 := 94) rfl rfl ?_
      refine w_m0 (pc1 := 95) rfl rfl (h_bl rfl rfl (by decide) rfl) rfl ?_
      refine w_t (a := 102) (b := 98) (cb_eq_t (by exact (frM_t F).2.2.1 _ (by decide))) rfl rfl ?_
      refine w_p (pc1 := 103) (st1 := .int 0 :: _) rfl rfl ?_
      refine w_p (pc1 := 104) (st1 := .int 0 :: _) rfl rfl ?_
      refine w_p (pc1 := 106) (al1 := [(4, .int 0), (3, .int 0), (2, .int 0), (5, .int 7), (0, .ref 176), (1, .int 2)]) rfl rfl ?_
      refine w_p (pc1 := 109) (al1 := [(5, .int 8), (4, .int 0), (3, .int 0), (2, .int 0), (0, .ref 176), (1, .int 2)]) rfl rfl ?_
      refine w_p (pc1 := 29) rfl rfl ?_
      refine w_p (pc1 := 31) rfl rfl ?_
      refine w_p (pc1 := 33) (st1 := .int 24 :: _) rfl rfl ?_
      refine w_f (a := 112) (b := 36) rfl rfl rfl ?_
      refine w_p (pc1 := 37) rfl rfl ?_
      refine w_p (pc1 := 39) rfl rfl ?_
      refine w_p (pc1 := 41) (st1 := .int 6 :: _) rfl rfl ?_
      refine w_t (a := 58) (b := 44) rfl rfl rfl ?_
      refine w_p (pc1 := 59) (st1 := .int 0 :: _) rfl rfl ?_
      refine w_p (pc1 := 60) (st1 := .int 0 :: _) rfl rfl ?_
      refine w_p (pc1 := 61) (al1 := [(2, .int 0), (5, .int 8), (4, .int 0), (3, .int 0), (0, .ref 176), (1, .int 2)]) rfl rfl ?_
      refine w_p (pc1 := 62) rfl rfl ?_
      refine w_p (pc1 := 63) rfl rfl ?_
      refine w_m0 (pc1 := 66) rfl rfl (h_gC rfl rfl rfl rfl) rfl ?_
      refine w_p (pc1 := 68) rfl rfl ?_
      refine w_m0 (pc1 := 69) rfl rfl (h_bl rfl rfl (by decide) rfl) rfl ?_
      refine w_t (a := 76) (b := 72) (cb_eq_t (by exact (frM_t F).2.1 _ (by decide))) rfl rfl ?_
      refine w_p (pc1 := 77) (st1 := .int 0 :: _) rfl rfl ?_
      refine w_p (pc1 := 78) (st1 := .int 0 :: _) rfl rfl ?_
      refine w_p (pc1 := 79) (al1 := [(3, .int 0), (2, .int 0), (5, .int 8), (4, .int 0), (0, .ref 176), (1, .int 2)]) rfl rfl ?_
      refine w_p (pc1 := 81) rfl rfl ?_
      refine w_p (pc1 := 83) rfl rfl ?_
      refine w_p (pc1 := 85) (st1 := .int 8 :: _) rfl rfl ?_
      refine w_t (a := 102) (b := 88) rfl rfl rfl ?_
      refine w_p (pc1 := 103) (st1 := .int 0 :: _) rfl rfl ?_
      refine w_p (pc1 := 104) (st1 := .int 0 :: _) rfl rfl ?_
      refine w_p (pc1 := 106) (al1 := [(4, .int 0), (3, .int 0), (2, .int 0), (5, .int 8), (0, .ref 176), (1, .int 2)]) rfl rfl ?_
      refine w_p (pc1 := 109) (al1 := [(5, .int 9), (4, .int 0), (3, .int 0), (2, .int 0), (0, .ref 176), (1, .int 2)]) rfl rfl ?_
      refine w_p (pc1 := 29) rfl rfl ?_
      refine w_p (pc1 := 31) rfl rfl ?_
      refine w_p (pc1 := 33) (st1 := .int 24 :: _) rfl rfl ?_
      refine w_f (a := 112) (b := 36) rfl rfl rfl ?_
      refine w_p (pc1 := 37) rfl rfl ?_
      refine w_p (pc1 := 39) rfl rfl ?_
      refine w_p (pc1 := 41) (st1 := .int 6 :: _) rfl rfl ?_
      refine w_t (a := 58) (b := 44) rfl rfl rfl ?_
      refine w_p (pc1 := 59) (st1 := .int 0 :: _) rfl rfl ?_
      refine w_p (pc1 := 60) (st1 := .int 0 :: _) rfl rfl ?_
      refine w_p (pc1 := 61) (al1 := [(2, .int 0), (5, .int 9), (4, .int 0), (3, .int 0), (0, .ref 176), (1, .int 2)]) rfl rfl ?_
      refine w_p (pc1 := 62) rfl rfl ?_
      refine w_p (pc1 := 63) rfl rfl ?_
      refine w_m0 (pc1 := 66) rfl rfl (h_gC rfl rfl rfl rfl) rfl ?_
      refine w_p (pc1 := 68) rfl rfl ?_
      refine w_m0 (pc1 := 69) rfl rfl (h_bl rfl rfl (by decide) rfl) rfl ?_
      refine w_t (a := 76) (b := 72) (cb_eq_t (by exact (frM_t F).2.1 _ (by decide))) rfl rfl ?_
      refine w_p (pc1 := 77) (st1 := .int 0 :: _) rfl rfl ?_
      refine w_p (pc1 := 78) (st1 := .int 0 :: _) rfl rfl ?_
      refine w_p (pc1 := 79) (al1 := [(3, .int 0), (2, .int 0), (5, .int 9), (4, .int 0), (0, .ref 176), (1, .int 2)]) rfl rfl ?_
      refine w_p (pc1 := 81) rfl rfl ?_
      refine w_p (pc1 := 83) rfl rfl ?_
      refine w_p (pc1 := 85) (st1 := .int 8 :: _) rfl rfl ?_
      refine w_t (a := 102) (b := 88) rfl rfl rfl ?_
      refine w_p (pc1 := 103) (st1 := .int 0 :: _) rfl rfl ?_
      refine w_p (pc1 := 104) (st1 := .int 0 :: _) rfl rfl ?_
      refine w_p (pc1 := 106) (al1 := [(4, .int 0), (3, .int 0), (2, .int 0), (5, .int 9), (0, .ref 176), (1, .int 2)]) rfl rfl ?_
      refine w_p (pc1 := 109) (al1 := [(5, .int 10), (4, .int 0), (3, .int 0), (2, .int 0), (0, .ref 176), (1, .int 2)]) rfl rfl ?_
      refine w_p (pc1 := 29) rfl rfl ?_
      refine w_p (pc1 := 31) rfl rfl ?_
      refine w_p (pc1 := 33) (st1 := .int 24 :: _) rfl rfl ?_
      refine w_f (a := 112) (b := 36) rfl rfl rfl ?_
      refine w_p (pc1 := 37) rfl rfl ?_
      refine w_p (pc1 := 39) rfl rfl ?_
      refine w_p (pc1 := 41) (st1 := .int 6 :: _) rfl rfl ?_
      refine w_t (a := 58) (b := 44) rfl rfl rfl ?_
      refine w_p (pc1 := 59) (st1 := .int 0 :: _) rfl rfl ?_
      refine w_p (pc1 := 60) (st1 := .int 0 :: _) rfl rfl ?_
      refine w_p (pc1 := 61) (al1 := [(2, .int 0), (5, .int 10), (4, .int 0), (3, .int 0), (0, .ref 176), (1, .int 2)]) rfl rfl ?_
      refine w_p (pc1 := 62) rfl rfl ?_
      refine w_p (pc1 := 63) rfl rfl ?_
      refine w_m0 (pc1 := 66) rfl rfl (h_gC rfl rfl rfl rfl) rfl ?_
      refine w_p (pc1 := 68) rfl rfl ?_
      refine w_m0 (pc1 := 69) rfl rfl (h_bl rfl rfl (by decide) rfl) rfl ?_
      refine w_t (a := 76) (b := 72) (cb_eq_t (by exact (frM_t F).2.1 _ (by decide))) rfl rfl ?_
      refine w_p (pc1 := 77) (st1 := .int 0 :: _) rfl rfl ?_
      refine w_p (pc1 := 78) (st1 := .int 0 :: _) rfl rfl ?_
      refine w_p (pc1 := 79) (al1 := [(3, .int 0), (2, .int 0), (5, .int 10), (4, .int 0), (0, .ref 176), (1, .int 2)]) rfl rfl ?_
      refine w_p (pc1 := 81) rfl rfl ?_
      refine w_p (pc1 := 83) rfl rfl ?_
      refine w_p (pc1 := 85) (st1 := .int 8 :: _) rfl rfl ?_
      refine w_t (a := 102) (b := 88) rfl rfl rfl ?_
      refine w_p (pc1 := 103) (st1 := .int 0 :: _) rfl rfl ?_
      refine w_p (pc1 := 104) (st1 := .int 0 :: _) rfl rfl ?_
      refine w_p (pc1 := 106) (al1 := [(4, .int 0), (3, .int 0), (2, .int 0), (5, .int 10), (0, .ref 176), (1, .int 2)]) rfl rfl ?_
      refine w_p (pc1 := 109) (al1 := [(5, .int 11), (4, .int 0), (3, .int 0), (2, .int 0), (0, .ref 176), (1, .int 2)]) rfl rfl ?_
      refine w_p (pc1 := 29) rfl rfl ?_
      refine w_p (pc1 := 31) rfl rfl ?_
      refine w_p (pc1 := 33) (st1 := .int 24 :: _) rfl rfl ?_
      refine w_f (a := 112) (b := 36) rfl rfl rfl ?_
      refine w_p (pc1 := 37) rfl rfl ?_
      refine w_p (pc1 := 39) rfl rfl ?_
      refine w_p (pc1 := 41) (st1 := .int 6 :: _) rfl rfl ?_
      refine w_t (a := 58) (b := 44) rfl rfl rfl ?_
      refine w_p (pc1 := 59) (st1 := .int 0 :: _) rfl rfl ?_
      refine w_p (pc1 := 60) (st1 := .int 0 :: _) rfl rfl ?_
      refine w_p (pc1 := 61) (al1 := [(2, .int 0), (5, .int 11), (4, .int 0), (3, .int 0), (0, .ref 176), (1, .int 2)]) rfl rfl ?_
      refine w_p (pc1 := 62) rfl rfl ?_
      refine w_p (pc1 := 63) rfl rfl ?_
      refine w_m0 (pc1 := 66) rfl rfl (h_gC rfl rfl rfl rfl) rfl ?_
      refine w_p (pc1 := 68) rfl rfl ?_
      refine w_m0 (pc1 := 69) rfl rfl (h_bl rfl rfl (by decide) rfl) rfl ?_
      refine w_t (a := 76) (b := 72) (cb_eq_t (by exact (frM_t F).2.1 _ (by decide))) rfl rfl ?_
      refine w_p (pc1 := 77) (st1 := .int 0 :: _) rfl rfl ?_
      refine w_p (pc1 := 78) (st1 := .int 0 :: _) rfl rfl ?_
      refine w_p (pc1 := 79) (al1 := [(3, .int 0), (2, .int 0), (5, .int 11), (4, .int 0), (0, .ref 176), (1, .int 2)]) rfl rfl ?_
      refine w_p (pc1 := 81) rfl rfl ?_
      refine w_p (pc1 := 83) rfl rfl ?_
      refine w_p (pc1 := 85) (st1 := .int 8 :: _) rfl rfl ?_
      refine w_t (a := 102) (b := 88) rfl rfl rfl ?_
      refine w_p (pc1 := 103) (st1 := .int 0 :: _) rfl rfl ?_
      refine w_p (pc1 := 104) (st1 := .int 0 :: _) rfl rfl ?_
      refine w_p (pc1 := 106) (al1 := [(4, .int 0), (3, .int 0), (2, .int 0), (5, .int 11), (0, .ref 176), (1, .int 2)]) rfl rfl ?_
      refine w_p (pc1 := 109) (al1 := [(5, .int 12), (4, .int 0), (3, .int 0), (2, .int 0), (0, .ref 176), (1, .int 2)]) rfl rfl ?_
      refine w_p (pc1 := 29) rfl rfl ?_
      refine w_p (pc1 := 31) rfl rfl ?_
      refine w_p (pc1 := 33) (st1 := .int 24 :: _) rfl rfl ?_
      refine w_f (a := 112) (b := 36) rfl rfl rfl ?_
      refine w_p (pc1 := 37) rfl rfl ?_
      refine w_p (pc1 := 39) rfl rfl ?_
      refine w_p (pc1 := 41) (st1 := .int 6 :: _) rfl rfl ?_
      refine w_t (a := 58) (b := 44) rfl rfl rfl ?_
      refine w_p (pc1 := 59) (st1 := .int 0 :: _) rfl rfl ?_
      refine w_p (pc1 := 60) (st1 := .int 0 :: _) rfl rfl ?_
      refine w_p (pc1 := 61) (al1 := [(2, .int 0), (5, .int 12), (4, .int 0), (3, .int 0), (0, .ref 176), (1, .int 2)]) rfl rfl ?_
      refine w_p (pc1 := 62) rfl rfl ?_
      refine w_p (pc1 := 63) rfl rfl ?_
      refine w_m0 (pc1 := 66) rfl rfl (h_gC rfl rfl rfl rfl) rfl ?_
      refine w_p (pc1 := 68) rfl rfl ?_
      refine w_m0 (pc1 := 69) rfl rfl (h_bl rfl rfl (by decide) rfl) rfl ?_
      refine w_t (a := 76) (b := 72) (cb_eq_t (by exact (frM_t F).2.1 _ (by decide))) rfl rfl ?_
      refine w_p (pc1 := 77) (st1 := .int 0 :: _) rfl rfl ?_
      refine w_p (pc1 := 78) (st1 := .int 0 :: _) rfl rfl ?_
      refine w_p (pc1 := 79) (al1 := [(3, .int 0), (2, .int 0), (5, .int 12), (4, .int 0), (0, .ref 176), (1, .int 2)]) rfl rfl ?_
      refine w_p (pc1 := 81) rfl rfl ?_
      refine w_p (pc1 := 83) rfl rfl ?_
      refine w_p (pc1 := 85) (st1 := .int 8 :: _) rfl rfl ?_
      refine w_t (a := 102) (b := 88) rfl rfl rfl ?_
      refine w_p (pc1 := 103) (st1 := .int 0 :: _) rfl rfl ?_
      refine w_p (pc1 := 104) (st1 := .int 0 :: _) rfl rfl ?_
      refine w_p (pc1 := 106) (al1 := [(4, .int 0), (3, .int 0), (2, .int 0), (5, .int 12), (0, .ref 176), (1, .int 2)]) rfl rfl ?_
      refine w_p (pc1 := 109) (al1 := [(5, .int 13), (4, .int 0), (3, .int 0), (2, .int 0), (0, .ref 176), (1, .int 2)]) rfl rfl ?_
      refine w_p (pc1 := 29) rfl rfl ?_
      refine w_p (pc1 := 31) rfl rfl ?_
      refine w_p (pc1 := 33) (st1 := .int 24 :: _) rfl rfl ?_
      refine w_f (a := 112) (b := 36) rfl rfl rfl ?_
      refine w_p (pc1 := 37) rfl rfl ?_
      refine w_p (pc1 := 39) rfl rfl ?_
      refine w_p (pc1 := 41) (st1 := .int 6 :: _) rfl rfl ?_
      refine w_t (a := 58) (b := 44) rfl rfl rfl ?_
      refine w_p (pc1 := 59) (st1 := .int 0 :: _) rfl rfl ?_
      refine w_p (pc1 := 60) (st1 := .int 0 :: _) rfl rfl ?_
      refine w_p (pc1 := 61) (al1 := [(2, .int 0), (5, .int 13), (4, .int 0), (3, .int 0), (0, .ref 176), (1, .int 2)]) rfl rfl ?_
      refine w_p (pc1 := 62) rfl rfl ?_
      refine w_p (pc1 := 63) rfl rfl ?_
      refine w_m0 (pc1 := 66) rfl rfl (h_gC rfl rfl rfl rfl) rfl ?_
      refine w_p (pc1 := 68) rfl rfl ?_
      refine w_m0 (pc1 := 69) rfl rfl (h_bl rfl rfl (by decide) rfl) rfl ?_
      refine w_t (a := 76) (b := 72) (cb_eq_t (by exact (frM_t F).2.1 _ (by decide))) rfl rfl ?_
      refine w_p (pc1 := 77) (st1 := .int 0 :: _) rfl rfl ?_
      refine w_p (pc1 := 78) (st1 := .int 0 :: _) rfl rfl ?_
      refine w_p (pc1 := 79) (al1 := [(3, .int 0), (2, .int 0), (5, .int 13), (4, .int 0), (0, .ref 176), (1, .int 2)]) rfl rfl ?_
      refine w_p (pc1 := 81) rfl rfl ?_
      refine w_p (pc1 := 83) rfl rfl ?_
      refine w_p (pc1 := 85) (st1 := .int 8 :: _) rfl rfl ?_
      refine w_t (a := 102) (b := 88) rfl rfl rfl ?_
      refine w_p (pc1 := 103) (st1 := .int 0 :: _) rfl rfl ?_
      refine w_p (pc1 := 104) (st1 := .int 0 :: _) rfl rfl ?_
      refine w_p (pc1 := 106) (al1 := [(4, .int 0), (3, .int 0), (2, .int 0), (5, .int 13), (0, .ref 176), (1, .int 2)]) rfl rfl ?_
      refine w_p (pc1 := 109) (al1 := [(5, .int 14), (4, .int 0), (3, .int 0), (2, .int 0), (0, .ref 176), (1, .int 2)]) rfl rfl ?_
      refine w_p (pc1 := 29) rfl rfl ?_
      refine w_p (pc1 := 31) rfl rfl ?_
      refine w_p (pc1 := 33) (st1 := .int 24 :: _) rfl rfl ?_
      refine w_f (a := 112) (b := 36) rfl rfl rfl ?_
      refine w_p (pc1 := 37) rfl rfl ?_
      refine w_p (pc1 := 39) rfl rfl ?_
      refine w_p (pc1 := 41) (st1 := .int 6 :: _) rfl rfl ?_
      refine w_t (a := 58) (b := 44) rfl rfl rfl ?_
      refine w_p (pc1 := 59) (st1 := .int 0 :: _) rfl rfl ?_
      refine w_p (pc1 := 60) (st1 := .int 0 :: _) rfl rfl ?_
      refine w_p (pc1 := 61) (al1 := [(2, .int 0), (5, .int 14), (4, .int 0), (3, .int 0), (0, .ref 176), (1, .int 2)]) rfl rfl ?_
      refine w_p (pc1 := 62) rfl rfl ?_
      refine w_p (pc1 := 63) rfl rfl ?_
      refine w_m0 (pc1 := 66) rfl rfl (h_gC rfl rfl rfl rfl) rfl ?_
      refine w_p (pc1 := 68) rfl rfl ?_
      refine w_m0 (pc1 := 69) rfl rfl (h_bl rfl rfl (by decide) rfl) rfl ?_
      refine w_t (a := 76) (b := 72) (cb_eq_t (by exact (frM_t F).2.1 _ (by decide))) rfl rfl ?_
      refine w_p (pc1 := 77) (st1 := .int 0 :: _) rfl rfl ?_
      refine w_p (pc1 := 78) (st1 := .int 0 :: _) rfl rfl ?_
      refine w_p (pc1 := 79) (al1 := [(3, .int 0), (2, .int 0), (5, .int 14), (4, .int 0), (0, .ref 176), (1, .int 2)]) rfl rfl ?_
      refine w_p (pc1 := 81) rfl rfl ?_
      refine w_p (pc1 := 83) rfl rfl ?_
      refine w_p (pc1 := 85) (st1 := .int 8 :: _) rfl rfl ?_
      refine w_t (a := 102) (b := 88) rfl rfl rfl ?_
      refine w_p (pc1 := 103) (st1 := .int 0 :: _) rfl rfl ?_
      refine w_p (pc1 := 104) (st1 := .int 0 :: _) rfl rfl ?_
      refine w_p (pc1 := 106) (al1 := [(4, .int 0), (3, .int 0), (2, .int 0), (5, .int 14), (0, .ref 176), (1, .int 2)]) rfl rfl ?_
      refine w_p (pc1 := 109) (al1 := [(5, .int 15), (4, .int 0), (3, .int 0), (2, .int 0), (0, .ref 176), (1, .int 2)]) rfl rfl ?_
      refine w_p (pc1 := 29) rfl rfl ?_
      refine w_p (pc1 := 31) rfl rfl ?_
      refine w_p (pc1 := 33) (st1 := .int 24 :: _) rfl rfl ?_
      refine w_f (a := 112) (b := 36) rfl rfl rfl ?_
      refine w_p (pc1 := 37) rfl rfl ?_
      refine w_p (pc1 := 39) rfl rfl ?_
      refine w_p (pc1 := 41) (st1 := .int 6 :: _) rfl rfl ?_
      refine w_t (a := 58) (b := 44) rfl rfl rfl ?_
      refine w_p (pc1 := 59) (st1 := .int 0 :: _) rfl rfl ?_
      refine w_p (pc1 := 60) (st1 := .int 0 :: _) rfl rfl ?_
      refine w_p (pc1 := 61) (al1 := [(2, .int 0), (5, .int 15), (4, .int 0), (3, .int 0), (0, .ref 176), (1, .int 2)]) rfl rfl ?_
      refine w_p (pc1 := 62) rfl rfl ?_
      refine w_p (pc1 := 63) rfl rfl ?_
      refine w_m0 (pc1 := 66) rfl rfl (h_gC rfl rfl rfl rfl) rfl ?_
      refine w_p (pc1 := 68) rfl rfl ?_
      refine w_m0 (pc1 := 69) rfl rfl (h_bl rfl rfl (by decide) rfl) rfl ?_
      refine w_t (a := 76) (b := 72) (cb_eq_t (by exact (frM_t F).2.1 _ (by decide))) rfl rfl ?_
      refine w_p (pc1 := 77) (st1 := .int 0 :: _) rfl rfl ?_
      refine w_p (pc1 := 78) (st1 := .int 0 :: _) rfl rfl ?_
      refine w_p (pc1 := 79) (al1 := [(3, .int 0), (2, .int 0), (5, .int 15), (4, .int 0), (0, .ref 176), (1, .int 2)]) rfl rfl ?_
      refine w_p (pc1 := 81) rfl rfl ?_
      refine w_p (pc1 := 83) rfl rfl ?_
      refine w_p (pc1 := 85) (st1 := .int 8 :: _) rfl rfl ?_
      refine w_t (a := 102) (b := 88) rfl rfl rfl ?_
      refine w_p (pc1 := 103) (st1 := .int 0 :: _) rfl rfl ?_
      refine w_p (pc1 := 104) (st1 := .int 0 :: _) rfl rfl ?_
      refine w_p (pc1 := 106) (al1 := [(4, .int 0), (3, .int 0), (2, .int 0), (5, .int 15), (0, .ref 176), (1, .int 2)]) rfl rfl ?_
      refine w_p (pc1 := 109) (al1 := [(5, .int 16), (4, .int 0), (3, .int 0), (2, .int 0), (0, .ref 176), (1, .int 2)]) rfl rfl ?_
      refine w_p (pc1 := 29) rfl rfl ?_
      refine w_p (pc1 := 31) rfl rfl ?_
      refine w_p (pc1 := 33) (st1 := .int 24 :: _) rfl rfl ?_
      refine w_f (a := 112) (b := 36) rfl rfl rfl ?_
      refine w_p (pc1 := 37) rfl rfl ?_
      refine w_p (pc1 := 39) rfl rfl ?_
      refine w_p (pc1 := 41) (st1 := .int 6 :: _) rfl rfl ?_
      refine w_t (a := 58) (b := 44) rfl rfl rfl ?_
      refine w_p (pc1 := 59) (st1 := .int 0 :: _) rfl rfl ?_
      refine w_p (pc1 := 60) (st1 := .int 0 :: _) rfl rfl ?_
      refine w_p (pc1 := 61) (al1 := [(2, .int 0), (5, .int 16), (4, .int 0), (3, .int 0), (0, .ref 176), (1, .int 2)]) rfl rfl ?_
      refine w_p (pc1 := 62) rfl rfl ?_
      refine w_p (pc1 := 63) rfl rfl ?_
      refine w_m0 (pc1 := 66) rfl rfl (h_gC rfl rfl rfl rfl) rfl ?_
      refine w_p (pc1 := 68) rfl rfl ?_
      refine w_m0 (pc1 := 69) rfl rfl (h_bl rfl rfl (by decide) rfl) rfl ?_
      refine w_t (a := 76) (b := 72) (cb_eq_t (by exact (frM_t F).2.1 _ (by decide))) rfl rfl ?_
      refine w_p (pc1 := 77) (st1 := .int 0 :: _) rfl rfl ?_
      refine w_p (pc1 := 78) (st1 := .int 0 :: _) rfl rfl ?_
      refine w_p (pc1 := 79) (al1 := [(3, .int 0), (2, .int 0), (5, .int 16), (4, .int 0), (0, .ref 176), (1, .int 2)]) rfl rfl ?_
      refine w_p (pc1 := 81) rfl rfl ?_
      refine w_p (pc1 := 83) rfl rfl ?_
      refine w_p (pc1 := 85) (st1 := .int 8 :: _) rfl rfl ?_
      refine w_t (a := 102) (b := 88) rfl rfl rfl ?_
      refine w_p (pc1 := 103) (st1 := .int 0 :: _) rfl rfl ?_
      refine w_p (pc1 := 104) (st1 := .int 0 :: _) rfl rfl ?_
      refine w_p (pc1 := 106) (al1 := [(4, .int 0), (3, .int 0), (2, .int 0), (5, .int 16), (0, .ref 176), (1, .int 2)]) rfl rfl ?_
      refine w_p (pc1 := 109) (al1 := [(5, .int 17), (4, .int 0), (3, .int 0), (2, .int 0), (0, .ref 176), (1, .int 2)]) rfl rfl ?_
      refine w_p (pc1 := 29) rfl rfl ?_
      refine w_p (pc1 := 31) rfl rfl ?_
      refine w_p (pc1 := 33) (st1 := .int 24 :: _) rfl rfl ?_
      refine w_f (a := 112) (b := 36) rfl rfl rfl ?_
      refine w_p (pc1 := 37) rfl rfl ?_
      refine w_p (pc1 := 39) rfl rfl ?_
      refine w_p (pc1 := 41) (st1 := .int 6 :: _) rfl rfl ?_
      refine w_t (a := 58) (b := 44) rfl rfl rfl ?_
      refine w_p (pc1 := 59) (st1 := .int 0 :: _) rfl rfl ?_
      refine w_p (pc1 := 60) (st1 := .int 0 :: _) rfl rfl ?_
      refine w_p (pc1 := 61) (al1 := [(2, .int 0), (5, .int 17), (4, .int 0), (3, .int 0), (0, .ref 176), (1, .int 2)]) rfl rfl ?_
      refine w_p (pc1 := 62) rfl rfl ?_
      refine w_p (pc1 := 63) rfl rfl ?_
      refine w_m0 (pc1 := 66) rfl rfl (h_gC rfl rfl rfl rfl) rfl ?_
      refine w_p (pc1 := 68) rfl rfl ?_
      refine w_m0 (pc1 := 69) rfl rfl (h_bl rfl rfl (by decide) rfl) rfl ?_
      refine w_t (a := 76) (b := 72) (cb_eq_t (by exact (frM_t F).2.1 _ (by decide))) rfl rfl ?_
      refine w_p (pc1 := 77) (st1 := .int 0 :: _) rfl rfl ?_
      refine w_p (pc1 := 78) (st1 := .int 0 :: _) rfl rfl ?_
      refine w_p (pc1 := 79) (al1 := [(3, .int 0), (2, .int 0), (5, .int 17), (4, .int 0), (0, .ref 176), (1, .int 2)]) rfl rfl ?_
      refine w_p (pc1 := 81) rfl rfl ?_
      refine w_p (pc1 := 83) rfl rfl ?_
      refine w_p (pc1 := 85) (st1 := .int 8 :: _) rfl rfl ?_
      refine w_t (a := 102) (b := 88) rfl rfl rfl ?_
      refine w_p (pc1 := 103) (st1 := .int 0 :: _) rfl rfl ?_
      refine w_p (pc1 := 104) (st1 := .int 0 :: _) rfl rfl ?_
      refine w_p (pc1 := 106) (al1 := [(4, .int 0), (3, .int 0), (2, .int 0), (5, .int 17), (0, .ref 176), (1, .int 2)]) rfl rfl ?_
      refine w_p (pc1 := 109) (al1 := [(5, .int 18), (4, .int 0), (3, .int 0), (2, .int 0), (0, .ref 176), (1, .int 2)]) rfl rfl ?_
      refine w_p (pc1 := 29) rfl rfl ?_
      refine w_p (pc1 := 31) rfl rfl ?_
      refine w_p (pc1 := 33) (st1 := .int 24 :: _) rfl rfl ?_
      refine w_f (a := 112) (b := 36) rfl rfl rfl ?_
      refine w_p (pc1 := 37) rfl rfl ?_
      refine w_p (pc1 := 39) rfl rfl ?_
      refine w_p (pc1 := 41) (st1 := .int 6 :: _) rfl rfl ?_
      refine w_t (a := 58) (b := 44) rfl rfl rfl ?_
      refine w_p (pc1 := 59) (st1 := .int 0 :: _) rfl rfl ?_
      refine w_p (pc1 := 60) (st1 := .int 0 :: _) rfl rfl ?_
      refine w_p (pc1 := 61) (al1 := [(2, .int 0), (5, .int 18), (4, .int 0), (3, .int 0), (0, .ref 176), (1, .int 2)]) rfl rfl ?_
      refine w_p (pc1 := 62) rfl rfl ?_
      refine w_p (pc1 := 63) rfl rfl ?_
      refine w_m0 (pc1 := 66) rfl rfl (h_gC rfl rfl rfl rfl) rfl ?_
      refine w_p (pc1 := 68) rfl rfl ?_
      refine w_m0 (pc1 := 69) rfl rfl (h_bl rfl rfl (by decide) rfl) rfl ?_
      refine w_t (a := 76) (b := 72) (cb_eq_t (by exact (frM_t F).2.1 _ (by decide))) rfl rfl ?_
      refine w_p (pc1 := 77) (st1 := .int 0 :: _) rfl rfl ?_
      refine w_p (pc1 := 78) (st1 := .int 0 :: _) rfl rfl ?_
      refine w_p (pc1 := 79) (al1 := [(3, .int 0), (2, .int 0), (5, .int 18), (4, .int 0), (0, .ref 176), (1, .int 2)]) rfl rfl ?_
      refine w_p (pc1 := 81) rfl rfl ?_
      refine w_p (pc1 := 83) rfl rfl ?_
      refine w_p (pc1 := 85) (st1 := .int 8 :: _) rfl rfl ?_
      refine w_t (a := 102) (b := 88) rfl rfl rfl ?_
      refine w_p (pc1 := 103) (st1 := .int 0 :: _) rfl rfl ?_
      refine w_p (pc1 := 104) (st1 := .int 0 :: _) rfl rfl ?_
      refine w_p (pc1 := 106) (al1 := [(4, .int 0), (3, .int 0), (2, .int 0), (5, .int 18), (0, .ref 176), (1, .int 2)]) rfl rfl ?_
      refine w_p (pc1 := 109) (al1 := [(5, .int 19), (4, .int 0), (3, .int 0), (2, .int 0), (0, .ref 176), (1, .int 2)]) rfl rfl ?_
      refine w_p (pc1 := 29) rfl rfl ?_
      refine w_p (pc1 := 31) rfl rfl ?_
      refine w_p (pc1 := 33) (st1 := .int 24 :: _) rfl rfl ?_
      refine w_f (a := 112) (b := 36) rfl rfl rfl ?_
      refine w_p (pc1 := 37) rfl rfl ?_
      refine w_p (pc1 := 39) rfl rfl ?_
      refine w_p (pc1 := 41) (st1 := .int 6 :: _) rfl rfl ?_
      refine w_t (a := 58) (b := 44) rfl rfl rfl ?_
      refine w_p (pc1 := 59) (st1 := .int 0 :: _) rfl rfl ?_
      refine w_p (pc1 := 60) (st1 := .int 0 :: _) rfl rfl ?_
      refine w_p (pc1 := 61) (al1 := [(2, .int 0), (5, .int 19), (4, .int 0), (3, .int 0), (0, .ref 176), (1, .int 2)]) rfl rfl ?_
      refine w_p (pc1 := 62) rfl rfl ?_
      refine w_p (pc1 := 63) rfl rfl ?_
      refine w_m0 (pc1 := 66) rfl rfl (h_gC rfl rfl rfl rfl) rfl ?_
      refine w_p (pc1 := 68) rfl rfl ?_
      refine w_m0 (pc1 := 69) rfl rfl (h_bl rfl rfl (by decide) rfl) rfl ?_
      refine w_t (a := 76) (b := 72) (cb_eq_t (by exact (frM_t F).2.1 _ (by decide))) rfl rfl ?_
      refine w_p (pc1 := 77) (st1 := .int 0 :: _) rfl rfl ?_
      refine w_p (pc1 := 78) (st1 := .int 0 :: _) rfl rfl ?_
      refine w_p (pc1 := 79) (al1 := [(3, .int 0), (2, .int 0), (5, .int 19), (4, .int 0), (0, .ref 176), (1, .int 2)]) rfl rfl ?_
      refine w_p (pc1 := 81) rfl rfl ?_
      refine w_p (pc1 := 83) rfl rfl ?_
      refine w_p (pc1 := 85) (st1 := .int 8 :: _) rfl rfl ?_
      refine w_t (a := 102) (b := 88) rfl rfl rfl ?_
      refine w_p (pc1 := 103) (st1 := .int 0 :: _) rfl rfl ?_
      refine w_p (pc1 := 104) (st1 := .int 0 :: _) rfl rfl ?_
      refine w_p (pc1 := 106) (al1 := [(4, .int 0), (3, .int 0), (2, .int 0), (5, .int 19), (0, .ref 176), (1, .int 2)]) rfl rfl ?_
      refine w_p (pc1 := 109) (al1 := [(5, .int 20), (4, .int 0), (3, .int 0), (2, .int 0), (0, .ref 176), (1, .int 2)]) rfl rfl ?_
      refine w_p (pc1 := 29) rfl rfl ?_
      refine w_p (pc1 := 31) rfl rfl ?_
      refine w_p (pc1 := 33) (st1 := .int 24 :: _) rfl rfl ?_
      refine w_f (a := 112) (b := 36) rfl rfl rfl ?_
      refine w_p (pc1 := 37) rfl rfl ?_
      refine w_p (pc1 := 39) rfl rfl ?_
      refine w_p (pc1 := 41) (st1 := .int 6 :: _) rfl rfl ?_
      refine w_t (a := 58) (b := 44) rfl rfl rfl ?_
      refine w_p (pc1 := 59) (st1 := .int 0 :: _) rfl rfl ?_
      refine w_p (pc1 := 60) (st1 := .int 0 :: _) rfl rfl ?_
      refine w_p (pc1 := 61) (al1 := [(2, .int 0), (5, .int 20), (4, .int 0), (3, .int 0), (0, .ref 176), (1, .int 2)]) rfl rfl ?_
      refine w_p (pc1 := 62) rfl rfl ?_
      refine w_p (pc1 := 63) rfl rfl ?_
      refine w_m0 (pc1 := 66) rfl rfl (h_gC rfl rfl rfl rfl) rfl ?_
      refine w_p (pc1 := 68) rfl rfl ?_
      refine w_m0 (pc1 := 69) rfl rfl (h_bl rfl rfl (by decide) rfl) rfl ?_
      refine w_t (a := 76) (b := 72) (cb_eq_t (by exact (frM_t F).2.1 _ (by decide))) rfl rfl ?_
      refine w_p (pc1 := 77) (st1 := .int 0 :: _) rfl rfl ?_
      refine w_p (pc1 := 78) (st1 := .int 0 :: _) rfl rfl ?_
      refine w_p (pc1 := 79) (al1 := [(3, .int 0), (2, .int 0), (5, .int 20), (4, .int 0), (0, .ref 176), (1, .int 2)]) rfl rfl ?_
      refine w_p (pc1 := 81) rfl rfl ?_
      refine w_p (pc1 := 83) rfl rfl ?_
      refine w_p (pc1 := 85) (st1 := .int 8 :: _) rfl rfl ?_
      refine w_t (a := 102) (b := 88) rfl rfl rfl ?_
      refine w_p (pc1 := 103) (st1 := .int 0 :: _) rfl rfl ?_
      refine w_p (pc1 := 104) (st1 := .int 0 :: _) rfl rfl ?_
      refine w_p (pc1 := 106) (al1 := [(4, .int 0), (3, .int 0), (2, .int 0), (5, .int 20), (0, .ref 176), (1, .int 2)]) rfl rfl ?_
      refine w_p (pc1 := 109) (al1 := [(5, .int 21), (4, .int 0), (3, .int 0), (2, .int 0), (0, .ref 176), (1, .int 2)]) rfl rfl ?_
      refine w_p (pc1 := 29) rfl rfl ?_
      refine w_p (pc1 := 31) rfl rfl ?_
      refine w_p (pc1 := 33) (st1 := .int 24 :: _) rfl rfl ?_
      refine w_f (a := 112) (b := 36) rfl rfl rfl ?_
      refine w_p (pc1 := 37) rfl rfl ?_
      refine w_p (pc1 := 39) rfl rfl ?_
      refine w_p (pc1 := 41) (st1 := .int 6 :: _) rfl rfl ?_
      refine w_t (a := 58) (b := 44) rfl rfl rfl ?_
      refine w_p (pc1 := 59) (st1 := .int 0 :: _) rfl rfl ?_
      refine w_p (pc1 := 60) (st1 := .int 0 :: _) rfl rfl ?_
      refine w_p (pc1 := 61) (al1 := [(2, .int 0), (5, .int 21), (4, .int 0), (3, .int 0), (0, .ref 176), (1, .int 2)]) rfl rfl ?_
      refine w_p (pc1 := 62) rfl rfl ?_
      refine w_p (pc1 := 63) rfl rfl ?_
      refine w_m0 (pc1 := 66) rfl rfl (h_gC rfl rfl rfl rfl) rfl ?_
      refine w_p (pc1 := 68) rfl rfl ?_
      refine w_m0 (pc1 := 69) rfl rfl (h_bl rfl rfl (by decide) rfl) rfl ?_
      refine w_t (a := 76) (b := 72) (cb_eq_t (by exact (frM_t F).2.1 _ (by decide))) rfl rfl ?_
      refine w_p (pc1 := 77) (st1 := .int 0 :: _) rfl rfl ?_
      refine w_p (pc1 := 78) (st1 := .int 0 :: _) rfl rfl ?_
      refine w_p (pc1 := 79) (al1 := [(3, .int 0), (2, .int 0), (5, .int 21), (4, .int 0), (0, .ref 176), (1, .int 2)]) rfl rfl ?_
      refine w_p (pc1 := 81) rfl rfl ?_
      refine w_p (pc1 := 83) rfl rfl ?_
      refine w_p (pc1 := 85) (st1 := .int 8 :: _) rfl rfl ?_
      refine w_t (a := 102) (b := 88) rfl rfl rfl ?_
      refine w_p (pc1 := 103) (st1 := .int 0 :: _) rfl rfl ?_
      refine w_p (pc1 := 104) (st1 := .int 0 :: _) rfl rfl ?_
      refine w_p (pc1 := 106) (al1 := [(4, .int 0), (3, .int 0), (2, .int 0), (5, .int 21), (0, .ref 176), (1, .int 2)]) rfl rfl ?_
      refine w_p (pc1 := 109) (al1 := [(5, .int 22), (4, .int 0), (3, .int 0), (2, .int 0), (0, .ref 176), (1, .int 2)]) rfl rfl ?_
      refine w_p (pc1 := 29) rfl rfl ?_
      refine w_p (pc1 := 31) rfl rfl ?_
      refine w_p (pc1 := 33) (st1 := .int 24 :: _) rfl rfl ?_
      refine w_f (a := 112) (b := 36) rfl rfl rfl ?_
      refine w_p (pc1 := 37) rfl rfl ?_
      refine w_p (pc1 := 39) rfl rfl ?_
      refine w_p (pc1 := 41) (st1 := .int 6 :: _) rfl rfl ?_
      refine w_t (a := 58) (b := 44) rfl rfl rfl ?_
      refine w_p (pc1 := 59) (st1 := .int 0 :: _) rfl rfl ?_
      refine w_p (pc1 := 60) (st1 := .int 0 :: _) rfl rfl ?_
      refine w_p (pc1 := 61) (al1 := [(2, .int 0), (5, .int 22), (4, .int 0), (3, .int 0), (0, .ref 176), (1, .int 2)]) rfl rfl ?_
      refine w_p (pc1 := 62) rfl rfl ?_
      refine w_p (pc1 := 63) rfl rfl ?_
      refine w_m0 (pc1 := 66) rfl rfl (h_gC rfl rfl rfl rfl) rfl ?_
      refine w_p (pc1 := 68) rfl rfl ?_
      refine w_m0 (pc1 := 69) rfl rfl (h_bl rfl rfl (by decide) rfl) rfl ?_
      refine w_t (a := 76) (b := 72) (cb_eq_t (by exact (frM_t F).2.1 _ (by decide))) rfl rfl ?_
      refine w_p (pc1 := 77) (st1 := .int 0 :: _) rfl rfl ?_
      refine w_p (pc1 := 78) (st1 := .int 0 :: _) rfl rfl ?_
      refine w_p (pc1 := 79) (al1 := [(3, .int 0), (2, .int 0), (5, .int 22), (4, .int 0), (0, .ref 176), (1, .int 2)]) rfl rfl ?_
      refine w_p (pc1 := 81) rfl rfl ?_
      refine w_p (pc1 := 83) rfl rfl ?_
      refine w_p (pc1 := 85) (st1 := .int 8 :: _) rfl rfl ?_
      refine w_t (a := 102) (b := 88) rfl rfl rfl ?_
      refine w_p (pc1 := 103) (st1 := .int 0 :: _) rfl rfl ?_
      refine w_p (pc1 := 104) (st1 := .int 0 :: _) rfl rfl ?_
      refine w_p (pc1 := 106) (al1 := [(4, .int 0), (3, .int 0), (2, .int 0), (5, .int 22), (0, .ref 176), (1, .int 2)]) rfl rfl ?_
      refine w_p (pc1 := 109) (al1 := [(5, .int 23), (4, .int 0), (3, .int 0), (2, .int 0), (0, .ref 176), (1, .int 2)]) rfl rfl ?_
      refine w_p (pc1 := 29) rfl rfl ?_
      refine w_p (pc1 := 31) rfl rfl ?_
      refine w_p (pc1 := 33) (st1 := .int 24 :: _) rfl rfl ?_
      refine w_f (a := 112) (b := 36) rfl rfl rfl ?_
      refine w_p (pc1 := 37) rfl rfl ?_
      refine w_p (pc1 := 39) rfl rfl ?_
      refine w_p (pc1 := 41) (st1 := .int 6 :: _) rfl rfl ?_
      refine w_t (a := 58) (b := 44) rfl rfl rfl ?_
      refine w_p (pc1 := 59) (st1 := .int 0 :: _) rfl rfl ?_
      refine w_p (pc1 := 60) (st1 := .int 0 :: _) rfl rfl ?_
      refine w_p (pc1 := 61) (al1 := [(2, .int 0), (5, .int 23), (4, .int 0), (3, .int 0), (0, .ref 176), (1, .int 2)]) rfl rfl ?_
      refine w_p (pc1 := 62) rfl rfl ?_
      refine w_p (pc1 := 63) rfl rfl ?_
      refine w_m0 (pc1 := 66) rfl rfl (h_gC rfl rfl rfl rfl) rfl ?_
      refine w_p (pc1 := 68) rfl rfl ?_
      refine w_m0 (pc1 := 69) rfl rfl (h_bl rfl rfl (by decide) rfl) rfl ?_
      refine w_t (a := 76) (b := 72) (cb_eq_t (by exact (frM_t F).2.1 _ (by decide))) rfl rfl ?_
      refine w_p (pc1 := 77) (st1 := .int 0 :: _) rfl rfl ?_
      refine w_p (pc1 := 78) (st1 := .int 0 :: _) rfl rfl ?_
      refine w_p (pc1 := 79) (al1 := [(3, .int 0), (2, .int 0), (5, .int 23), (4, .int 0), (0, .ref 176), (1, .int 2)]) rfl rfl ?_
      refine w_p (pc1 := 81) rfl rfl ?_
      refine w_p (pc1 := 83) rfl rfl ?_
      refine w_p (pc1 := 85) (st1 := .int 8 :: _) rfl rfl ?_
      refine w_t (a := 102) (b := 88) rfl rfl rfl ?_
      refine w_p (pc1 := 103) (st1 := .int 0 :: _) rfl rfl ?_
      refine w_p (pc1 := 104) (st1 := .int 0 :: _) rfl rfl ?_
      refine w_p (pc1 := 106) (al1 := [(4, .int 0), (3, .int 0), (2, .int 0), (5, .int 23), (0, .ref 176), (1, .int 2)]) rfl rfl ?_
      refine w_p (pc1 := 109) (al1 := [(5, .int 24), (4, .int 0), (3, .int 0), (2, .int 0), (0, .ref 176), (1, .int 2)]) rfl rfl ?_
      refine w_p (pc1 := 29) rfl rfl ?_
      refine w_p (pc1 := 31) rfl rfl ?_
      refine w_p (pc1 := 33) (st1 := .int 24 :: _) rfl rfl ?_
      refine w_t (a := 112) (b := 36) rfl rfl rfl ?_
      refine w_p (pc1 := 113) rfl rfl ?_
      refine w_t (a := 120) (b := 116) rfl rfl rfl ?_
      refine w_p (pc1 := 121) rfl rfl ?_
      refine w_p (pc1 := 122) (st1 := .int 1 :: _) rfl rfl ?_
      refine w_t (a := 129) (b := 125) rfl rfl rfl ?_
      refine w_p (pc1 := 130) rfl rfl ?_
      refine w_p (pc1 := 131) (st1 := .int 2 :: _) rfl rfl ?_
      refine w_f (a := 139) (b := 134) rfl rfl rfl ?_
      refine w_p (pc1 := 136) rfl rfl ?_
      refine w_p (pc1 := 187) rfl rfl ?_
      refine w_r rfl rfl rfl (fun _ _ => rfl) cr_int ?_
      refine Or.inl ⟨by decide, ?_, rfl, rfl⟩; first | rfl | rw [(frM_t F).2.2.2.1] | rw [(frM_t F).2.2.2.2.2]
    · skip
      refine w_p (pc1 := 1) rfl rfl ?_
      refine w_p (pc1 := 2) rfl rfl ?_
      refine w_p (pc1 := 3) (st1 := .long 3 :: _) rfl rfl ?_
      refine w_p (pc1 := 4) (st1 := .long 0 :: _) rfl rfl ?_
      refine w_m0 (pc1 := 7) (st1 := .long 6 :: _) rfl rfl rfl rfl ?_
      refine w_je (pc1 := 10) (vs := [.long 3, .long 0, .long 6]) (rest := [.ref 176]) (st1 := [.int 1, .ref 176]) (m_189t (d := _) (sl := 0) rfl) rfl rfl rfl (fun _ _ => rfl) rfl (by exact cl_s my_189 rfl rfl rfl (Nat.le_of_ble_eq_true rfl) rfl rfl) (by rfl) (Nat.le_of_ble_eq_true rfl) (Nat.le_of_ble_eq_true rfl) rfl (by rfl) ?_
      refine w_p (pc1 := 11) (st1 := .int 1 :: _) rfl rfl ?_
      refine w_je (pc1 := 14) (vs := [.ref 176, .int 1, .int 1]) (rest := []) (st1 := [.int 1]) (m_190 (d := _) (sl := 0)) rfl rfl rfl (fun _ _ => rfl) rfl (by exact cl_v my_190 rfl rfl rfl (Nat.le_of_ble_eq_true rfl) rfl (MH_obj rfl rfl) rfl (by decide) rfl rfl) (by rfl) (Nat.le_of_ble_eq_true rfl) (Nat.le_of_ble_eq_true rfl) rfl (by rfl) ?_
      refine w_t (a := 19) (b := 17) rfl rfl rfl ?_
      refine w_p (pc1 := 20) (st1 := .int 0 :: _) rfl rfl ?_
      refine w_p (pc1 := 21) (al1 := [(2, .int 0), (0, .ref 176), (1, .int 3)]) rfl rfl ?_
      refine w_p (pc1 := 22) (st1 := .int 0 :: _) rfl rfl ?_
      refine w_p (pc1 := 23) (al1 := [(3, .int 0), (2, .int 0), (0, .ref 176), (1, .int 3)]) rfl rfl ?_
      refine w_p (pc1 := 24) (st1 := .int 0 :: _) rfl rfl ?_
      refine w_p (pc1 := 26) (al1 := [(4, .int 0), (3, .int 0), (2, .int 0), (0, .ref 176), (1, .int 3)]) rfl rfl ?_
      refine w_p (pc1 := 27) (st1 := .int 0 :: _) rfl rfl ?_
      refine w_p (pc1 := 29) (al1 := [(5, .int 0), (4, .int 0), (3, .int 0), (2, .int 0), (0, .ref 176), (1, .int 3)]) rfl rfl ?_
      refine w_p (pc1 := 31) rfl rfl ?_
      refine w_p (pc1 := 33) (st1 := .int 24 :: _) rfl rfl ?_
      refine w_f (a := 112) (b := 36) rfl rfl rfl ?_
      refine w_p (pc1 := 37) rfl rfl ?_
      refine w_p (pc1 := 39) rfl rfl ?_
      refine w_p (pc1 := 41) (st1 := .int 6 :: _) rfl rfl ?_
      refine w_f (a := 58) (b := 44) rfl rfl rfl ?_
      refine w_p (pc1 := 45) rfl rfl ?_
      refine w_m0 (pc1 := 48) rfl rfl (h_gC rfl rfl rfl rfl) rfl ?_
      refine w_p (pc1 := 50) rfl rfl ?_
      refine w_m0 (pc1 := 51) rfl rfl (h_bl rfl rfl (by decide) rfl) rfl ?_
      refine w_t (a := 58) (b := 54) (cb_eq_t (by exact (frM_t F).1 _ (by decide))) rfl rfl ?_
      refine w_p (pc1 := 59) (st1 := .int 0 :: _) rfl rfl ?_
      refine w_p (pc1 := 60) (st1 := .int 0 :: _) rfl rfl ?_
      refine w_p (pc1 := 61) (al1 := [(2, .int 0), (5, .int 0), (4, .int 0), (3, .int 0), (0, .ref 176), (1, .int 3)]) rfl rfl ?_
      refine w_p (pc1 := 62) rfl rfl ?_
      refine w_p (pc1 := 63) rfl rfl ?_
      refine w_m0 (pc1 := 66) rfl rfl (h_gC rfl rfl rfl rfl) rfl ?_
      refine w_p (pc1 := 68) rfl rfl ?_
      refine w_m0 (pc1 := 69) rfl rfl (h_bl rfl rfl (by decide) rfl) rfl ?_
      refine w_t (a := 76) (b := 72) (cb_eq_t (by exact (frM_t F).2.1 _ (by decide))) rfl rfl ?_
      refine w_p (pc1 := 77) (st1 := .int 0 :: _) rfl rfl ?_
      refine w_p (pc1 := 78) (st1 := .int 0 :: _) rfl rfl ?_
      refine w_p (pc1 := 79) (al1 := [(3, .int 0), (2, .int 0), (5, .int 0), (4, .int 0), (0, .ref 176), (1, .int 3)]) rfl rfl ?_
      refine w_p (pc1 := 81) rfl rfl ?_
      refine w_p (pc1 := 83) rfl rfl ?_
      refine w_p (pc1 := 85) (st1 := .int 8 :: _) rfl rfl ?_
      refine w_f (a := 102) (b := 88) rfl rfl rfl ?_
      refine w_p (pc1 := 89) rfl rfl ?_
      refine w_m0 (pc1 := 92) rfl rfl (h_gC rfl rfl rfl rfl) rfl ?_
      refine w_p (pc1 := 94) rfl rfl ?_
      refine w_m0 (pc1 := 95) rfl rfl (h_bl rfl rfl (by decide) rfl) rfl ?_
      refine w_t (a := 102) (b := 98) (cb_eq_t (by exact (frM_t F).2.2.1 _ (by decide))) rfl rfl ?_
      refine w_p (pc1 := 103) (st1 := .int 0 :: _) rfl rfl ?_
      refine w_p (pc1 := 104) (st1 := .int 0 :: _) rfl rfl ?_
      refine w_p (pc1 := 106) (al1 := [(4, .int 0), (3, .int 0), (2, .int 0), (5, .int 0), (0, .ref 176), (1, .int 3)]) rfl rfl ?_
      refine w_p (pc1 := 109) (al1 := [(5, .int 1), (4, .int 0), (3, .int 0), (2, .int 0), (0, .ref 176), (1, .int 3)]) rfl rfl ?_
      refine w_p (pc1 := 29) rfl rfl ?_
      refine w_p (pc1 := 31) rfl rfl ?_
      refine w_p (pc1 := 33) (st1 := .int 24 :: _) rfl rfl ?_
      refine w_f (a := 112) (b := 36) rfl rfl rfl ?_
      refine w_p (pc1 := 37) rfl rfl ?_
      refine w_p (pc1 := 39) rfl rfl ?_
      refine w_p (pc1 := 41) (st1 := .int 6 :: _) rfl rfl ?_
      refine w_f (a := 58) (b := 44) rfl rfl rfl ?_
      refine w_p (pc1 := 45) rfl rfl ?_
      refine w_m0 (pc1 := 48) rfl rfl (h_gC rfl rfl rfl rfl) rfl ?_
      refine w_p (pc1 := 50) rfl rfl ?_
      refine w_m0 (pc1 := 51) rfl rfl (h_bl rfl rfl (by decide) rfl) rfl ?_
      refine w_t (a := 58) (b := 54) (cb_eq_t (by exact (frM_t F).1 _ (by decide))) rfl rfl ?_
      refine w_p (pc1 := 59) (st1 := .int 0 :: _) rfl rfl ?_
      refine w_p (pc1 := 60) (st1 := .int 0 :: _) rfl rfl ?_
      refine w_p (pc1 := 61) (al1 := [(2, .int 0), (5, .int 1), (4, .int 0), (3, .int 0), (0, .ref 176), (1, .int 3)]) rfl rfl ?_
      refine w_p (pc1 := 62) rfl rfl ?_
      refine w_p (pc1 := 63) rfl rfl ?_
      refine w_m0 (pc1 := 66) rfl rfl (h_gC rfl rfl rfl rfl) rfl ?_
      refine w_p (pc1 := 68) rfl rfl ?_
      refine w_m0 (pc1 := 69) rfl rfl (h_bl rfl rfl (by decide) rfl) rfl ?_
      refine w_t (a := 76) (b := 72) (cb_eq_t (by exact (frM_t F).2.1 _ (by decide))) rfl rfl ?_
      refine w_p (pc1 := 77) (st1 := .int 0 :: _) rfl rfl ?_
      refine w_p (pc1 := 78) (st1 := .int 0 :: _) rfl rfl ?_
      refine w_p (pc1 := 79) (al1 := [(3, .int 0), (2, .int 0), (5, .int 1), (4, .int 0), (0, .ref 176), (1, .int 3)]) rfl rfl ?_
      refine w_p (pc1 := 81) rfl rfl ?_
      refine w_p (pc1 := 83) rfl rfl ?_
      refine w_p (pc1 := 85) (st1 := .int 8 :: _) rfl rfl ?_
      refine w_f (a := 102) (b := 88) rfl rfl rfl ?_
      refine w_p (pc1 := 89) rfl rfl ?_
      refine w_m0 (pc1 := 92) rfl rfl (h_gC rfl rfl rfl rfl) rfl ?_
      refine w_p (pc1 := 94) rfl rfl ?_
      refine w_m0 (pc1 := 95) rfl rfl (h_bl rfl rfl (by decide) rfl) rfl ?_
      refine w_t (a := 102) (b := 98) (cb_eq_t (by exact (frM_t F).2.2.1 _ (by decide))) rfl rfl ?_
      refine w_p (pc1 := 103) (st1 := .int 0 :: _) rfl rfl ?_
      refine w_p (pc1 := 104) (st1 := .int 0 :: _) rfl rfl ?_
      refine w_p (pc1 := 106) (al1 := [(4, .int 0), (3, .int 0), (2, .int 0), (5, .int 1), (0, .ref 176), (1, .int 3)]) rfl rfl ?_
      refine w_p (pc1 := 109) (al1 := [(5, .int 2), (4, .int 0), (3, .int 0), (2, .int 0), (0, .ref 176), (1, .int 3)]) rfl rfl ?_
      refine w_p (pc1 := 29) rfl rfl ?_
      refine w_p (pc1 := 31) rfl rfl ?_
      refine w_p (pc1 := 33) (st1 := .int 24 :: _) rfl rfl ?_
      refine w_f (a := 112) (b := 36) rfl rfl rfl ?_
      refine w_p (pc1 := 37) rfl rfl ?_
      refine w_p (pc1 := 39) rfl rfl ?_
      refine w_p (pc1 := 41) (st1 := .int 6 :: _) rfl rfl ?_
      refine w_f (a := 58) (b := 44) rfl rfl rfl ?_
      refine w_p (pc1 := 45) rfl rfl ?_
      refine w_m0 (pc1 := 48) rfl rfl (h_gC rfl rfl rfl rfl) rfl ?_
      refine w_p (pc1 := 50) rfl rfl ?_
      refine w_m0 (pc1 := 51) rfl rfl (h_bl rfl rfl (by decide) rfl) rfl ?_
      refine w_t (a := 58) (b := 54) (cb_eq_t (by exact (frM_t F).1 _ (by decide))) rfl rfl ?_
      refine w_p (pc1 := 59) (st1 := .int 0 :: _) rfl rfl ?_
      refine w_p (pc1 := 60) (st1 := .int 0 :: _) rfl rfl ?_
      refine w_p (pc1 := 61) (al1 := [(2, .int 0), (5, .int 2), (4, .int 0), (3, .int 0), (0, .ref 176), (1, .int 3)]) rfl rfl ?_
      refine w_p (pc1 := 62) rfl rfl ?_
      refine w_p (pc1 := 63) rfl rfl ?_
      refine w_m0 (pc1 := 66) rfl rfl (h_gC rfl rfl rfl rfl) rfl ?_
      refine w_p (pc1 := 68) rfl rfl ?_
      refine w_m0 (pc1 := 69) rfl rfl (h_bl rfl rfl (by decide) rfl) rfl ?_
      refine w_t (a := 76) (b := 72) (cb_eq_t (by exact (frM_t F).2.1 _ (by decide))) rfl rfl ?_
      refine w_p (pc1 := 77) (st1 := .int 0 :: _) rfl rfl ?_
      refine w_p (pc1 := 78) (st1 := .int 0 :: _) rfl rfl ?_
      refine w_p (pc1 := 79) (al1 := [(3, .int 0), (2, .int 0), (5, .int 2), (4, .int 0), (0, .ref 176), (1, .int 3)]) rfl rfl ?_
      refine w_p (pc1 := 81) rfl rfl ?_
      refine w_p (pc1 := 83) rfl rfl ?_
      refine w_p (pc1 := 85) (st1 := .int 8 :: _) rfl rfl ?_
      refine w_f (a := 102) (b := 88) rfl rfl rfl ?_
      refine w_p (pc1 := 89) rfl rfl ?_
      refine w_m0 (pc1 := 92) rfl rfl (h_gC rfl rfl rfl rfl) rfl ?_
      refine w_p (pc1 := 94) rfl rfl ?_
      refine w_m0 (pc1 := 95) rfl rfl (h_bl rfl rfl (by decide) rfl) rfl ?_
      refine w_t (a := 102) (b := 98) (cb_eq_t (by exact (frM_t F).2.2.1 _ (by decide))) rfl rfl ?_
      refine w_p (pc1 := 103) (st1 := .int 0 :: _) rfl rfl ?_
      refine w_p (pc1 := 104) (st1 := .int 0 :: _) rfl rfl ?_
      refine w_p (pc1 := 106) (al1 := [(4, .int 0), (3, .int 0), (2, .int 0), (5, .int 2), (0, .ref 176), (1, .int 3)]) rfl rfl ?_
      refine w_p (pc1 := 109) (al1 := [(5, .int 3), (4, .int 0), (3, .int 0), (2, .int 0), (0, .ref 176), (1, .int 3)]) rfl rfl ?_
      refine w_p (pc1 := 29) rfl rfl ?_
      refine w_p (pc1 := 31) rfl rfl ?_
      refine w_p (pc1 := 33) (st1 := .int 24 :: _) rfl rfl ?_
      refine w_f (a := 112) (b := 36) rfl rfl rfl ?_
      refine w_p (pc1 := 37) rfl rfl ?_
      refine w_p (pc1 := 39) rfl rfl ?_
      refine w_p (pc1 := 41) (st1 := .int 6 :: _) rfl rfl ?_
      refine w_f (a := 58) (b := 44) rfl rfl rfl ?_
      refine w_p (pc1 := 45) rfl rfl ?_
      refine w_m0 (pc1 := 48) rfl rfl (h_gC rfl rfl rfl rfl) rfl ?_
      refine w_p (pc1 := 50) rfl rfl ?_
      refine w_m0 (pc1 := 51) rfl rfl (h_bl rfl rfl (by decide) rfl) rfl ?_
      refine w_t (a := 58) (b := 54) (cb_eq_t (by exact (frM_t F).1 _ (by decide))) rfl rfl ?_
      refine w_p (pc1 := 59) (st1 := .int 0 :: _) rfl rfl ?_
      refine w_p (pc1 := 60) (st1 := .int 0 :: _) rfl rfl ?_
      refine w_p (pc1 := 61) (al1 := [(2, .int 0), (5, .int 3), (4, .int 0), (3, .int 0), (0, .ref 176), (1, .int 3)]) rfl rfl ?_
      refine w_p (pc1 := 62) rfl rfl ?_
      refine w_p (pc1 := 63) rfl rfl ?_
      refine w_m0 (pc1 := 66) rfl rfl (h_gC rfl rfl rfl rfl) rfl ?_
      refine w_p (pc1 := 68) rfl rfl ?_
      refine w_m0 (pc1 := 69) rfl rfl (h_bl rfl rfl (by decide) rfl) rfl ?_
      refine w_t (a := 76) (b := 72) (cb_eq_t (by exact (frM_t F).2.1 _ (by decide))) rfl rfl ?_
      refine w_p (pc1 := 77) (st1 := .int 0 :: _) rfl rfl ?_
      refine w_p (pc1 := 78) (st1 := .int 0 :: _) rfl rfl ?_
      refine w_p (pc1 := 79) (al1 := [(3, .int 0), (2, .int 0), (5, .int 3), (4, .int 0), (0, .ref 176), (1, .int 3)]) rfl rfl ?_
      refine w_p (pc1 := 81) rfl rfl ?_
      refine w_p (pc1 := 83) rfl rfl ?_
      refine w_p (pc1 := 85) (st1 := .int 8 :: _) rfl rfl ?_
      refine w_f (a := 102) (b := 88) rfl rfl rfl ?_
      refine w_p (pc1 := 89) rfl rfl ?_
      refine w_m0 (pc1 := 92) rfl rfl (h_gC rfl rfl rfl rfl) rfl ?_
      refine w_p (pc1 := 94) rfl rfl ?_
      refine w_m0 (pc1 := 95) rfl rfl (h_bl rfl rfl (by decide) rfl) rfl ?_
      refine w_t (a := 102) (b := 98) (cb_eq_t (by exact (frM_t F).2.2.1 _ (by decide))) rfl rfl ?_
      refine w_p (pc1 := 103) (st1 := .int 0 :: _) rfl rfl ?_
      refine w_p (pc1 := 104) (st1 := .int 0 :: _) rfl rfl ?_
      refine w_p (pc1 := 106) (al1 := [(4, .int 0), (3, .int 0), (2, .int 0), (5, .int 3), (0, .ref 176), (1, .int 3)]) rfl rfl ?_
      refine w_p (pc1 := 109) (al1 := [(5, .int 4), (4, .int 0), (3, .int 0), (2, .int 0), (0, .ref 176), (1, .int 3)]) rfl rfl ?_
      refine w_p (pc1 := 29) rfl rfl ?_
      refine w_p (pc1 := 31) rfl rfl ?_
      refine w_p (pc1 := 33) (st1 := .int 24 :: _) rfl rfl ?_
      refine w_f (a := 112) (b := 36) rfl rfl rfl ?_
      refine w_p (pc1 := 37) rfl rfl ?_
      refine w_p (pc1 := 39) rfl rfl ?_
      refine w_p (pc1 := 41) (st1 := .int 6 :: _) rfl rfl ?_
      refine w_f (a := 58) (b := 44) rfl rfl rfl ?_
      refine w_p (pc1 := 45) rfl rfl ?_
      refine w_m0 (pc1 := 48) rfl rfl (h_gC rfl rfl rfl rfl) rfl ?_
      refine w_p (pc1 := 50) rfl rfl ?_
      refine w_m0 (pc1 := 51) rfl rfl (h_bl rfl rfl (by decide) rfl) rfl ?_
      refine w_t (a := 58) (b := 54) (cb_eq_t (by exact (frM_t F).1 _ (by decide))) rfl rfl ?_
      refine w_p (pc1 := 59) (st1 := .int 0 :: _) rfl rfl ?_
      refine w_p (pc1 := 60) (st1 := .int 0 :: _) rfl rfl ?_
      refine w_p (pc1 := 61) (al1 := [(2, .int 0), (5, .int 4), (4, .int 0), (3, .int 0), (0, .ref 176), (1, .int 3)]) rfl rfl ?_
      refine w_p (pc1 := 62) rfl rfl ?_
      refine w_p (pc1 := 63) rfl rfl ?_
      refine w_m0 (pc1 := 66) rfl rfl (h_gC rfl rfl rfl rfl) rfl ?_
      refine w_p (pc1 := 68) rfl rfl ?_
      refine w_m0 (pc1 := 69) rfl rfl (h_bl rfl rfl (by decide) rfl) rfl ?_
      refine w_t (a := 76) (b := 72) (cb_eq_t (by exact (frM_t F).2.1 _ (by decide))) rfl rfl ?_
      refine w_p (pc1 := 77) (st1 := .int 0 :: _) rfl rfl ?_
      refine w_p (pc1 := 78) (st1 := .int 0 :: _) rfl rfl ?_
      refine w_p (pc1 := 79) (al1 := [(3, .int 0), (2, .int 0), (5, .int 4), (4, .int 0), (0, .ref 176), (1, .int 3)]) rfl rfl ?_
      refine w_p (pc1 := 81) rfl rfl ?_
      refine w_p (pc1 := 83) rfl rfl ?_
      refine w_p (pc1 := 85) (st1 := .int 8 :: _) rfl rfl ?_
      refine w_f (a := 102) (b := 88) rfl rfl rfl ?_
      refine w_p (pc1 := 89) rfl rfl ?_
      refine w_m0 (pc1 := 92) rfl rfl (h_gC rfl rfl rfl rfl) rfl ?_
      refine w_p (pc1 := 94) rfl rfl ?_
      refine w_m0 (pc1 := 95) rfl rfl (h_bl rfl rfl (by decide) rfl) rfl ?_
      refine w_t (a := 102) (b := 98) (cb_eq_t (by exact (frM_t F).2.2.1 _ (by decide))) rfl rfl ?_
      refine w_p (pc1 := 103) (st1 := .int 0 :: _) rfl rfl ?_
      refine w_p (pc1 := 104) (st1 := .int 0 :: _) rfl rfl ?_
      refine w_p (pc1 := 106) (al1 := [(4, .int 0), (3, .int 0), (2, .int 0), (5, .int 4), (0, .ref 176), (1, .int 3)]) rfl rfl ?_
      refine w_p (pc1 := 109) (al1 := [(5, .int 5), (4, .int 0), (3, .int 0), (2, .int 0), (0, .ref 176), (1, .int 3)]) rfl rfl ?_
      refine w_p (pc1 := 29) rfl rfl ?_
      refine w_p (pc1 := 31) rfl rfl ?_
      refine w_p (pc1 := 33) (st1 := .int 24 :: _) rfl rfl ?_
      refine w_f (a := 112) (b := 36) rfl rfl rfl ?_
      refine w_p (pc1 := 37) rfl rfl ?_
      refine w_p (pc1 := 39) rfl rfl ?_
      refine w_p (pc1 := 41) (st1 := .int 6 :: _) rfl rfl ?_
      refine w_f (a := 58) (b := 44) rfl rfl rfl ?_
      refine w_p (pc1 := 45) rfl rfl ?_
      refine w_m0 (pc1 := 48) rfl rfl (h_gC rfl rfl rfl rfl) rfl ?_
      refine w_p (pc1 := 50) rfl rfl ?_
      refine w_m0 (pc1 := 51) rfl rfl (h_bl rfl rfl (by decide) rfl) rfl ?_
      refine w_t (a := 58) (b := 54) (cb_eq_t (by exact (frM_t F).1 _ (by decide))) rfl rfl ?_
      refine w_p (pc1 := 59) (st1 := .int 0 :: _) rfl rfl ?_
      refine w_p (pc1 := 60) (st1 := .int 0 :: _) rfl rfl ?_
      refine w_p (pc1 := 61) (al1 := [(2, .int 0), (5, .int 5), (4, .int 0), (3, .int 0), (0, .ref 176), (1, .int 3)]) rfl rfl ?_
      refine w_p (pc1 := 62) rfl rfl ?_
      refine w_p (pc1 := 63) rfl rfl ?_
      refine w_m0 (pc1 := 66) rfl rfl (h_gC rfl rfl rfl rfl) rfl ?_
      refine w_p (pc1 := 68) rfl rfl ?_
      refine w_m0 (pc1 := 69) rfl rfl (h_bl rfl rfl (by decide) rfl) rfl ?_
      refine w_t (a := 76) (b := 72) (cb_eq_t (by exact (frM_t F).2.1 _ (by decide))) rfl rfl ?_
      refine w_p (pc1 := 77) (st1 := .int 0 :: _) rfl rfl ?_
      refine w_p (pc1 := 78) (st1 := .int 0 :: _) rfl rfl ?_
      refine w_p (pc1 := 79) (al1 := [(3, .int 0), (2, .int 0), (5, .int 5), (4, .int 0), (0, .ref 176), (1, .int 3)]) rfl rfl ?_
      refine w_p (pc1 := 81) rfl rfl ?_
      refine w_p (pc1 := 83) rfl rfl ?_
      refine w_p (pc1 := 85) (st1 := .int 8 :: _) rfl rfl ?_
      refine w_f (a := 102) (b := 88) rfl rfl rfl ?_
      refine w_p (pc1 := 89) rfl rfl ?_
      refine w_m0 (pc1 := 92) rfl rfl (h_gC rfl rfl rfl rfl) rfl ?_
      refine w_p (pc1 := 94) rfl rfl ?_
      refine w_m0 (pc1 := 95) rfl rfl (h_bl rfl rfl (by decide) rfl) rfl ?_
      refine w_t (a := 102) (b := 98) (cb_eq_t (by exact (frM_t F).2.2.1 _ (by decide))) rfl rfl ?_
      refine w_p (pc1 := 103) (st1 := .int 0 :: _) rfl rfl ?_
      refine w_p (pc1 := 104) (st1 := .int 0 :: _) rfl rfl ?_
      refine w_p (pc1 := 106) (al1 := [(4, .int 0), (3, .int 0), (2, .int 0), (5, .int 5), (0, .ref 176), (1, .int 3)]) rfl rfl ?_
      refine w_p (pc1 := 109) (al1 := [(5, .int 6), (4, .int 0), (3, .int 0), (2, .int 0), (0, .ref 176), (1, .int 3)]) rfl rfl ?_
      refine w_p (pc1 := 29) rfl rfl ?_
      refine w_p (pc1 := 31) rfl rfl ?_
      refine w_p (pc1 := 33) (st1 := .int 24 :: _) rfl rfl ?_
      refine w_f (a := 112) (b := 36) rfl rfl rfl ?_
      refine w_p (pc1 := 37) rfl rfl ?_
      refine w_p (pc1 := 39) rfl rfl ?_
      refine w_p (pc1 := 41) (st1 := .int 6 :: _) rfl rfl ?_
      refine w_t (a := 58) (b := 44) rfl rfl rfl ?_
      refine w_p (pc1 := 59) (st1 := .int 0 :: _) rfl rfl ?_
      refine w_p (pc1 := 60) (st1 := .int 0 :: _) rfl rfl ?_
      refine w_p (pc1 := 61) (al1 := [(2, .int 0), (5, .int 6), (4, .int 0), (3, .int 0), (0, .ref 176), (1, .int 3)]) rfl rfl ?_
      refine w_p (pc1 := 62) rfl rfl ?_
      refine w_p (pc1 := 63) rfl rfl ?_
      refine w_m0 (pc1 := 66) rfl rfl (h_gC rfl rfl rfl rfl) rfl ?_
      refine w_p (pc1 := 68) rfl rfl ?_
      refine w_m0 (pc1 := 69) rfl rfl (h_bl rfl rfl (by decide) rfl) rfl ?_
      refine w_t (a := 76) (b := 72) (cb_eq_t (by exact (frM_t F).2.1 _ (by decide))) rfl rfl ?_
      refine w_p (pc1 := 77) (st1 := .int 0 :: _) rfl rfl ?_
      refine w_p (pc1 := 78) (st1 := .int 0 :: _) rfl rfl ?_
      refine w_p (pc1 := 79) (al1 := [(3, .int 0), (2, .int 0), (5, .int 6), (4, .int 0), (0, .ref 176), (1, .int 3)]) rfl rfl ?_
      refine w_p (pc1 := 81) rfl rfl ?_
      refine w_p (pc1 := 83) rfl rfl ?_
      refine w_p (pc1 := 85) (st1 := .int 8 :: _) rfl rfl ?_
      refine w_f (a := 102) (b := 88) rfl rfl rfl ?_
      refine w_p (pc1 := 89) rfl rfl ?_
      refine w_m0 (pc1 := 92) rfl rfl (h_gC rfl rfl rfl rfl) rfl ?_
      refine w_p (pc1 := 94) rfl rfl ?_
      refine w_m0 (pc1 := 95) rfl rfl (h_bl rfl rfl (by decide) rfl) rfl ?_
      refine w_t (a := 102) (b := 98) (cb_eq_t (by exact (frM_t F).2.2.1 _ (by decide))) rfl rfl ?_
      refine w_p (pc1 := 103) (st1 := .int 0 :: _) rfl rfl ?_
      refine w_p (pc1 := 104) (st1 := .int 0 :: _) rfl rfl ?_
      refine w_p (pc1 := 106) (al1 := [(4, .int 0), (3, .int 0), (2, .int 0), (5, .int 6), (0, .ref 176), (1, .int 3)]) rfl rfl ?_
      refine w_p (pc1 := 109) (al1 := [(5, .int 7), (4, .int 0), (3, .int 0), (2, .int 0), (0, .ref 176), (1, .int 3)]) rfl rfl ?_
      refine w_p (pc1 := 29) rfl rfl ?_
      refine w_p (pc1 := 31) rfl rfl ?_
      refine w_p (pc1 := 33) (st1 := .int 24 :: _) rfl rfl ?_
      refine w_f (a := 112) (b := 36) rfl rfl rfl ?_
      refine w_p (pc1 := 37) rfl rfl ?_
      refine w_p (pc1 := 39) rfl rfl ?_
      refine w_p (pc1 := 41) (st1 := .int 6 :: _) rfl rfl ?_
      refine w_t (a := 58) (b := 44) rfl rfl rfl ?_
      refine w_p (pc1 := 59) (st1 := .int 0 :: _) rfl rfl ?_
      refine w_p (pc1 := 60) (st1 := .int 0 :: _) rfl rfl ?_
      refine w_p (pc1 := 61) (al1 := [(2, .int 0), (5, .int 7), (4, .int 0), (3, .int 0), (0, .ref 176), (1, .int 3)]) rfl rfl ?_
      refine w_p (pc1 := 62) rfl rfl ?_
      refine w_p (pc1 := 63) rfl rfl ?_
      refine w_m0 (pc1 := 66) rfl rfl (h_gC rfl rfl rfl rfl) rfl ?_
      refine w_p (pc1 := 68) rfl rfl ?_
      refine w_m0 (pc1 := 69) rfl rfl (h_bl rfl rfl (by decide) rfl) rfl ?_
      refine w_t (a := 76) (b := 72) (cb_eq_t (by exact (frM_t F).2.1 _ (by decide))) rfl rfl ?_
      refine w_p (pc1 := 77) (st1 := .int 0 :: _) rfl rfl ?_
      refine w_p (pc1 := 78) (st1 := .int 0 :: _) rfl rfl ?_
      refine w_p (pc1 := 79) (al1 := [(3, .int 0), (2, .int 0), (5, .int 7), (4, .int 0), (0, .ref 176), (1, .int 3)]) rfl rfl ?_
      refine w_p (pc1 := 81) rfl rfl ?_
      refine w_p (pc1 := 83) rfl rfl ?_
      refine w_p (pc1 := 85) (st1 := .int 8 :: _) rfl rfl ?_
      refine w_f (a := 102) (b := 88) rfl rfl rfl ?_
      refine w_p (pc1 := 89) rfl rfl ?_
      refine w_m0 (pc1 := 92) rfl rfl (h_gC rfl rfl rfl rfl) rfl ?_
      refine w_p (pc1 := 94) rfl rfl ?_
      refine w_m0 (pc1 := 95) rfl rfl (h_bl rfl rfl (by decide) rfl) rfl ?_
      refine w_t (a := 102) (b := 98) (cb_eq_t (by exact (frM_t F).2.2.1 _ (by decide))) rfl rfl ?_
      refine w_p (pc1 := 103) (st1 := .int 0 :: _) rfl rfl ?_
      refine w_p (pc1 := 104) (st1 := .int 0 :: _) rfl rfl ?_
      refine w_p (pc1 := 106) (al1 := [(4, .int 0), (3, .int 0), (2, .int 0), (5, .int 7), (0, .ref 176), (1, .int 3)]) rfl rfl ?_
      refine w_p (pc1 := 109) (al1 := [(5, .int 8), (4, .int 0), (3, .int 0), (2, .int 0), (0, .ref 176), (1, .int 3)]) rfl rfl ?_
      refine w_p (pc1 := 29) rfl rfl ?_
      refine w_p (pc1 := 31) rfl rfl ?_
      refine w_p (pc1 := 33) (st1 := .int 24 :: _) rfl rfl ?_
      refine w_f (a := 112) (b := 36) rfl rfl rfl ?_
      refine w_p (pc1 := 37) rfl rfl ?_
      refine w_p (pc1 := 39) rfl rfl ?_
      refine w_p (pc1 := 41) (st1 := .int 6 :: _) rfl rfl ?_
      refine w_t (a := 58) (b := 44) rfl rfl rfl ?_
      refine w_p (pc1 := 59) (st1 := .int 0 :: _) rfl rfl ?_
      refine w_p (pc1 := 60) (st1 := .int 0 :: _) rfl rfl ?_
      refine w_p (pc1 := 61) (al1 := [(2, .int 0), (5, .int 8), (4, .int 0), (3, .int 0), (0, .ref 176), (1, .int 3)]) rfl rfl ?_
      refine w_p (pc1 := 62) rfl rfl ?_
      refine w_p (pc1 := 63) rfl rfl ?_
      refine w_m0 (pc1 := 66) rfl rfl (h_gC rfl rfl rfl rfl) rfl ?_
      refine w_p (pc1 := 68) rfl rfl ?_
      refine w_m0 (pc1 := 69) rfl rfl (h_bl rfl rfl (by decide) rfl) rfl ?_
      refine w_t (a := 76) (b := 72) (cb_eq_t (by exact (frM_t F).2.1 _ (by decide))) rfl rfl ?_
      refine w_p (pc1 := 77) (st1 := .int 0 :: _) rfl rfl ?_
      refine w_p (pc1 := 78) (st1 := .int 0 :: _) rfl rfl ?_
      refine w_p (pc1 := 79) (al1 := [(3, .int 0), (2, .int 0), (5, .int 8), (4, .int 0), (0, .ref 176), (1, .int 3)]) rfl rfl ?_
      refine w_p (pc1 := 81) rfl rfl ?_
      refine w_p (pc1 := 83) rfl rfl ?_
      refine w_p (pc1 := 85) (st1 := .int 8 :: _) rfl rfl ?_
      refine w_t (a := 102) (b := 88) rfl rfl rfl ?_
      refine w_p (pc1 := 103) (st1 := .int 0 :: _) rfl rfl ?_
      refine w_p (pc1 := 104) (st1 := .int 0 :: _) rfl rfl ?_
      refine w_p (pc1 := 106) (al1 := [(4, .int 0), (3, .int 0), (2, .int 0), (5, .int 8), (0, .ref 176), (1, .int 3)]) rfl rfl ?_
      refine w_p (pc1 := 109) (al1 := [(5, .int 9), (4, .int 0), (3, .int 0), (2, .int 0), (0, .ref 176), (1, .int 3)]) rfl rfl ?_
      refine w_p (pc1 := 29) rfl rfl ?_
      refine w_p (pc1 := 31) rfl rfl ?_
      refine w_p (pc1 := 33) (st1 := .int 24 :: _) rfl rfl ?_
      refine w_f (a := 112) (b := 36) rfl rfl rfl ?_
      refine w_p (pc1 := 37) rfl rfl ?_
      refine w_p (pc1 := 39) rfl rfl ?_
      refine w_p (pc1 := 41) (st1 := .int 6 :: _) rfl rfl ?_
      refine w_t (a := 58) (b := 44) rfl rfl rfl ?_
      refine w_p (pc1 := 59) (st1 := .int 0 :: _) rfl rfl ?_
      refine w_p (pc1 := 60) (st1 := .int 0 :: _) rfl rfl ?_
      refine w_p (pc1 := 61) (al1 := [(2, .int 0), (5, .int 9), (4, .int 0), (3, .int 0), (0, .ref 176), (1, .int 3)]) rfl rfl ?_
      refine w_p (pc1 := 62) rfl rfl ?_
      refine w_p (pc1 := 63) rfl rfl ?_
      refine w_m0 (pc1 := 66) rfl rfl (h_gC rfl rfl rfl rfl) rfl ?_
      refine w_p (pc1 := 68) rfl rfl ?_
      refine w_m0 (pc1 := 69) rfl rfl (h_bl rfl rfl (by decide) rfl) rfl ?_
      refine w_t (a := 76) (b := 72) (cb_eq_t (by exact (frM_t F).2.1 _ (by decide))) rfl rfl ?_
      refine w_p (pc1 := 77) (st1 := .int 0 :: _) rfl rfl ?_
      refine w_p (pc1 := 78) (st1 := .int 0 :: _) rfl rfl ?_
      refine w_p (pc1 := 79) (al1 := [(3, .int 0), (2, .int 0), (5, .int 9), (4, .int 0), (0, .ref 176), (1, .int 3)]) rfl rfl ?_
      refine w_p (pc1 := 81) rfl rfl ?_
      refine w_p (pc1 := 83) rfl rfl ?_
      refine w_p (pc1 := 85) (st1 := .int 8 :: _) rfl rfl ?_
      refine w_t (a := 102) (b := 88) rfl rfl rfl ?_
      refine w_p (pc1 := 103) (st1 := .int 0 :: _) rfl rfl ?_
      refine w_p (pc1 := 104) (st1 := .int 0 :: _) rfl rfl ?_
      refine w_p (pc1 := 106) (al1 := [(4, .int 0), (3, .int 0), (2, .int 0), (5, .int 9), (0, .ref 176), (1, .int 3)]) rfl rfl ?_
      refine w_p (pc1 := 109) (al1 := [(5, .int 10), (4, .int 0), (3, .int 0), (2, .int 0), (0, .ref 176), (1, .int 3)]) rfl rfl ?_
      refine w_p (pc1 := 29) rfl rfl ?_
      refine w_p (pc1 := 31) rfl rfl ?_
      refine w_p (pc1 := 33) (st1 := .int 24 :: _) rfl rfl ?_
      refine w_f (a := 112) (b := 36) rfl rfl rfl ?_
      refine w_p (pc1 := 37) rfl rfl ?_
      refine w_p (pc1 := 39) rfl rfl ?_
      refine w_p (pc1 := 41) (st1 := .int 6 :: _) rfl rfl ?_
      refine w_t (a := 58) (b := 44) rfl rfl rfl ?_
      refine w_p (pc1 := 59) (st1 := .int 0 :: _) rfl rfl ?_
      refine w_p (pc1 := 60) (st1 := .int 0 :: _) rfl rfl ?_
      refine w_p (pc1 := 61) (al1 := [(2, .int 0), (5, .int 10), (4, .int 0), (3, .int 0), (0, .ref 176), (1, .int 3)]) rfl rfl ?_
      refine w_p (pc1 := 62) rfl rfl ?_
      refine w_p (pc1 := 63) rfl rfl ?_
      refine w_m0 (pc1 := 66) rfl rfl (h_gC rfl rfl rfl rfl) rfl ?_
      refine w_p (pc1 := 68) rfl rfl ?_
      refine w_m0 (pc1 := 69) rfl rfl (h_bl rfl rfl (by decide) rfl) rfl ?_
      refine w_t (a := 76) (b := 72) (cb_eq_t (by exact (frM_t F).2.1 _ (by decide))) rfl rfl ?_
      refine w_p (pc1 := 77) (st1 := .int 0 :: _) rfl rfl ?_
      refine w_p (pc1 := 78) (st1 := .int 0 :: _) rfl rfl ?_
      refine w_p (pc1 := 79) (al1 := [(3, .int 0), (2, .int 0), (5, .int 10), (4, .int 0), (0, .ref 176), (1, .int 3)]) rfl rfl ?_
      refine w_p (pc1 := 81) rfl rfl ?_
      refine w_p (pc1 := 83) rfl rfl ?_
      refine w_p (pc1 := 85) (st1 := .int 8 :: _) rfl rfl ?_
      refine w_t (a := 102) (b := 88) rfl rfl rfl ?_
      refine w_p (pc1 := 103) (st1 := .int 0 :: _) rfl rfl ?_
      refine w_p (pc1 := 104) (st1 := .int 0 :: _) rfl rfl ?_
      refine w_p (pc1 := 106) (al1 := [(4, .int 0), (3, .int 0), (2, .int 0), (5, .int 10), (0, .ref 176), (1, .int 3)]) rfl rfl ?_
      refine w_p (pc1 := 109) (al1 := [(5, .int 11), (4, .int 0), (3, .int 0), (2, .int 0), (0, .ref 176), (1, .int 3)]) rfl rfl ?_
      refine w_p (pc1 := 29) rfl rfl ?_
      refine w_p (pc1 := 31) rfl rfl ?_
      refine w_p (pc1 := 33) (st1 := .int 24 :: _) rfl rfl ?_
      refine w_f (a := 112) (b := 36) rfl rfl rfl ?_
      refine w_p (pc1 := 37) rfl rfl ?_
      refine w_p (pc1 := 39) rfl rfl ?_
      refine w_p (pc1 := 41) (st1 := .int 6 :: _) rfl rfl ?_
      refine w_t (a := 58) (b := 44) rfl rfl rfl ?_
      refine w_p (pc1 := 59) (st1 := .int 0 :: _) rfl rfl ?_
      refine w_p (pc1 := 60) (st1 := .int 0 :: _) rfl rfl ?_
      refine w_p (pc1 := 61) (al1 := [(2, .int 0), (5, .int 11), (4, .int 0), (3, .int 0), (0, .ref 176), (1, .int 3)]) rfl rfl ?_
      refine w_p (pc1 := 62) rfl rfl ?_
      refine w_p (pc1 := 63) rfl rfl ?_
      refine w_m0 (pc1 := 66) rfl rfl (h_gC rfl rfl rfl rfl) rfl ?_
      refine w_p (pc1 := 68) rfl rfl ?_
      refine w_m0 (pc1 := 69) rfl rfl (h_bl rfl rfl (by decide) rfl) rfl ?_
      refine w_t (a := 76) (b := 72) (cb_eq_t (by exact (frM_t F).2.1 _ (by decide))) rfl rfl ?_
      refine w_p (pc1 := 77) (st1 := .int 0 :: _) rfl rfl ?_
      refine w_p (pc1 := 78) (st1 := .int 0 :: _) rfl rfl ?_
      refine w_p (pc1 := 79) (al1 := [(3, .int 0), (2, .int 0), (5, .int 11), (4, .int 0), (0, .ref 176), (1, .int 3)]) rfl rfl ?_
      refine w_p (pc1 := 81) rfl rfl ?_
      refine w_p (pc1 := 83) rfl rfl ?_
      refine w_p (pc1 := 85) (st1 := .int 8 :: _) rfl rfl ?_
      refine w_t (a := 102) (b := 88) rfl rfl rfl ?_
      refine w_p (pc1 := 103) (st1 := .int 0 :: _) rfl rfl ?_
      refine w_p (pc1 := 104) (st1 := .int 0 :: _) rfl rfl ?_
      refine w_p (pc1 := 106) (al1 := [(4, .int 0), (3, .int 0), (2, .int 0), (5, .int 11), (0, .ref 176), (1, .int 3)]) rfl rfl ?_
      refine w_p (pc1 := 109) (al1 := [(5, .int 12), (4, .int 0), (3, .int 0), (2, .int 0), (0, .ref 176), (1, .int 3)]) rfl rfl ?_
      refine w_p (pc1 := 29) rfl rfl ?_
      refine w_p (pc1 := 31) rfl rfl ?_
      refine w_p (pc1 := 33) (st1 := .int 24 :: _) rfl rfl ?_
      refine w_f (a := 112) (b := 36) rfl rfl rfl ?_
      refine w_p (pc1 := 37) rfl rfl ?_
      refine w_p (pc1 := 39) rfl rfl ?_
      refine w_p (pc1 := 41) (st1 := .int 6 :: _) rfl rfl ?_
      refine w_t (a := 58) (b := 44) rfl rfl rfl ?_
      refine w_p (pc1 := 59) (st1 := .int 0 :: _) rfl rfl ?_
      refine w_p (pc1 := 60) (st1 := .int 0 :: _) rfl rfl ?_
      refine w_p (pc1 := 61) (al1 := [(2, .int 0), (5, .int 12), (4, .int 0), (3, .int 0), (0, .ref 176), (1, .int 3)]) rfl rfl ?_
      refine w_p (pc1 := 62) rfl rfl ?_
      refine w_p (pc1 := 63) rfl rfl ?_
      refine w_m0 (pc1 := 66) rfl rfl (h_gC rfl rfl rfl rfl) rfl ?_
      refine w_p (pc1 := 68) rfl rfl ?_
      refine w_m0 (pc1 := 69) rfl rfl (h_bl rfl rfl (by decide) rfl) rfl ?_
      refine w_t (a := 76) (b := 72) (cb_eq_t (by exact (frM_t F).2.1 _ (by decide))) rfl rfl ?_
      refine w_p (pc1 := 77) (st1 := .int 0 :: _) rfl rfl ?_
      refine w_p (pc1 := 78) (st1 := .int 0 :: _) rfl rfl ?_
      refine w_p (pc1 := 79) (al1 := [(3, .int 0), (2, .int 0), (5, .int 12), (4, .int 0), (0, .ref 176), (1, .int 3)]) rfl rfl ?_
      refine w_p (pc1 := 81) rfl rfl ?_
      refine w_p (pc1 := 83) rfl rfl ?_
      refine w_p (pc1 := 85) (st1 := .int 8 :: _) rfl rfl ?_
      refine w_t (a := 102) (b := 88) rfl rfl rfl ?_
      refine w_p (pc1 := 103) (st1 := .int 0 :: _) rfl rfl ?_
      refine w_p (pc1 := 104) (st1 := .int 0 :: _) rfl rfl ?_
      refine w_p (pc1 := 106) (al1 := [(4, .int 0), (3, .int 0), (2, .int 0), (5, .int 12), (0, .ref 176), (1, .int 3)]) rfl rfl ?_
      refine w_p (pc1 := 109) (al1 := [(5, .int 13), (4, .int 0), (3, .int 0), (2, .int 0), (0, .ref 176), (1, .int 3)]) rfl rfl ?_
      refine w_p (pc1 := 29) rfl rfl ?_
      refine w_p (pc1 := 31) rfl rfl ?_
      refine w_p (pc1 := 33) (st1 := .int 24 :: _) rfl rfl ?_
      refine w_f (a := 112) (b := 36) rfl rfl rfl ?_
      refine w_p (pc1 := 37) rfl rfl ?_
      refine w_p (pc1 := 39) rfl rfl ?_
      refine w_p (pc1 := 41) (st1 := .int 6 :: _) rfl rfl ?_
      refine w_t (a := 58) (b := 44) rfl rfl rfl ?_
      refine w_p (pc1 := 59) (st1 := .int 0 :: _) rfl rfl ?_
      refine w_p (pc1 := 60) (st1 := .int 0 :: _) rfl rfl ?_
      refine w_p (pc1 := 61) (al1 := [(2, .int 0), (5, .int 13), (4, .int 0), (3, .int 0), (0, .ref 176), (1, .int 3)]) rfl rfl ?_
      refine w_p (pc1 := 62) rfl rfl ?_
      refine w_p (pc1 := 63) rfl rfl ?_
      refine w_m0 (pc1 := 66) rfl rfl (h_gC rfl rfl rfl rfl) rfl ?_
      refine w_p (pc1 := 68) rfl rfl ?_
      refine w_m0 (pc1 := 69) rfl rfl (h_bl rfl rfl (by decide) rfl) rfl ?_
      refine w_t (a := 76) (b := 72) (cb_eq_t (by exact (frM_t F).2.1 _ (by decide))) rfl rfl ?_
      refine w_p (pc1 := 77) (st1 := .int 0 :: _) rfl rfl ?_
      refine w_p (pc1 := 78) (st1 := .int 0 :: _) rfl rfl ?_
      refine w_p (pc1 := 79) (al1 := [(3, .int 0), (2, .int 0), (5, .int 13), (4, .int 0), (0, .ref 176), (1, .int 3)]) rfl rfl ?_
      refine w_p (pc1 := 81) rfl rfl ?_
      refine w_p (pc1 := 83) rfl rfl ?_
      refine w_p (pc1 := 85) (st1 := .int 8 :: _) rfl rfl ?_
      refine w_t (a := 102) (b := 88) rfl rfl rfl ?_
      refine w_p (pc1 := 103) (st1 := .int 0 :: _) rfl rfl ?_
      refine w_p (pc1 := 104) (st1 := .int 0 :: _) rfl rfl ?_
      refine w_p (pc1 := 106) (al1 := [(4, .int 0), (3, .int 0), (2, .int 0), (5, .int 13), (0, .ref 176), (1, .int 3)]) rfl rfl ?_
      refine w_p (pc1 := 109) (al1 := [(5, .int 14), (4, .int 0), (3, .int 0), (2, .int 0), (0, .ref 176), (1, .int 3)]) rfl rfl ?_
      refine w_p (pc1 := 29) rfl rfl ?_
      refine w_p (pc1 := 31) rfl rfl ?_
      refine w_p (pc1 := 33) (st1 := .int 24 :: _) rfl rfl ?_
      refine w_f (a := 112) (b := 36) rfl rfl rfl ?_
      refine w_p (pc1 := 37) rfl rfl ?_
      refine w_p (pc1 := 39) rfl rfl ?_
      refine w_p (pc1 := 41) (st1 := .int 6 :: _) rfl rfl ?_
      refine w_t (a := 58) (b := 44) rfl rfl rfl ?_
      refine w_p (pc1 := 59) (st1 := .int 0 :: _) rfl rfl ?_
      refine w_p (pc1 := 60) (st1 := .int 0 :: _) rfl rfl ?_
      refine w_p (pc1 := 61) (al1 := [(2, .int 0), (5, .int 14), (4, .int 0), (3, .int 0), (0, .ref 176), (1, .int 3)]) rfl rfl ?_
      refine w_p (pc1 := 62) rfl rfl ?_
      refine w_p (pc1 := 63) rfl rfl ?_
      refine w_m0 (pc1 := 66) rfl rfl (h_gC rfl rfl rfl rfl) rfl ?_
      refine w_p (pc1 := 68) rfl rfl ?_
      refine w_m0 (pc1 := 69) rfl rfl (h_bl rfl rfl (by decide) rfl) rfl ?_
      refine w_t (a := 76) (b := 72) (cb_eq_t (by exact (frM_t F).2.1 _ (by decide))) rfl rfl ?_
      refine w_p (pc1 := 77) (st1 := .int 0 :: _) rfl rfl ?_
      refine w_p (pc1 := 78) (st1 := .int 0 :: _) rfl rfl ?_
      refine w_p (pc1 := 79) (al1 := [(3, .int 0), (2, .int 0), (5, .int 14), (4, .int 0), (0, .ref 176), (1, .int 3)]) rfl rfl ?_
      refine w_p (pc1 := 81) rfl rfl ?_
      refine w_p (pc1 := 83) rfl rfl ?_
      refine w_p (pc1 := 85) (st1 := .int 8 :: _) rfl rfl ?_
      refine w_t (a := 102) (b := 88) rfl rfl rfl ?_
      refine w_p (pc1 := 103) (st1 := .int 0 :: _) rfl rfl ?_
      refine w_p (pc1 := 104) (st1 := .int 0 :: _) rfl rfl ?_
      refine w_p (pc1 := 106) (al1 := [(4, .int 0), (3, .int 0), (2, .int 0), (5, .int 14), (0, .ref 176), (1, .int 3)]) rfl rfl ?_
      refine w_p (pc1 := 109) (al1 := [(5, .int 15), (4, .int 0), (3, .int 0), (2, .int 0), (0, .ref 176), (1, .int 3)]) rfl rfl ?_
      refine w_p (pc1 := 29) rfl rfl ?_
      refine w_p (pc1 := 31) rfl rfl ?_
      refine w_p (pc1 := 33) (st1 := .int 24 :: _) rfl rfl ?_
      refine w_f (a := 112) (b := 36) rfl rfl rfl ?_
      refine w_p (pc1 := 37) rfl rfl ?_
      refine w_p (pc1 := 39) rfl rfl ?_
      refine w_p (pc1 := 41) (st1 := .int 6 :: _) rfl rfl ?_
      refine w_t (a := 58) (b := 44) rfl rfl rfl ?_
      refine w_p (pc1 := 59) (st1 := .int 0 :: _) rfl rfl ?_
      refine w_p (pc1 := 60) (st1 := .int 0 :: _) rfl rfl ?_
      refine w_p (pc1 := 61) (al1 := [(2, .int 0), (5, .int 15), (4, .int 0), (3, .int 0), (0, .ref 176), (1, .int 3)]) rfl rfl ?_
      refine w_p (pc1 := 62) rfl rfl ?_
      refine w_p (pc1 := 63) rfl rfl ?_
      refine w_m0 (pc1 := 66) rfl rfl (h_gC rfl rfl rfl rfl) rfl ?_
      refine w_p (pc1 := 68) rfl rfl ?_
      refine w_m0 (pc1 := 69) rfl rfl (h_bl rfl rfl (by decide) rfl) rfl ?_
      refine w_t (a := 76) (b := 72) (cb_eq_t (by exact (frM_t F).2.1 _ (by decide))) rfl rfl ?_
      refine w_p (pc1 := 77) (st1 := .int 0 :: _) rfl rfl ?_
      refine w_p (pc1 := 78) (st1 := .int 0 :: _) rfl rfl ?_
      refine w_p (pc1 := 79) (al1 := [(3, .int 0), (2, .int 0), (5, .int 15), (4, .int 0), (0, .ref 176), (1, .int 3)]) rfl rfl ?_
      refine w_p (pc1 := 81) rfl rfl ?_
      refine w_p (pc1 := 83) rfl rfl ?_
      refine w_p (pc1 := 85) (st1 := .int 8 :: _) rfl rfl ?_
      refine w_t (a := 102) (b := 88) rfl rfl rfl ?_
      refine w_p (pc1 := 103) (st1 := .int 0 :: _) rfl rfl ?_
      refine w_p (pc1 := 104) (st1 := .int 0 :: _) rfl rfl ?_
      refine w_p (pc1 := 106) (al1 := [(4, .int 0), (3, .int 0), (2, .int 0), (5, .int 15), (0, .ref 176), (1, .int 3)]) rfl rfl ?_
      refine w_p (pc1 := 109) (al1 := [(5, .int 16), (4, .int 0), (3, .int 0), (2, .int 0), (0, .ref 176), (1, .int 3)]) rfl rfl ?_
      refine w_p (pc1 := 29) rfl rfl ?_
      refine w_p (pc1 := 31) rfl rfl ?_
      refine w_p (pc1 := 33) (st1 := .int 24 :: _) rfl rfl ?_
      refine w_f (a := 112) (b := 36) rfl rfl rfl ?_
      refine w_p (pc1 := 37) rfl rfl ?_
      refine w_p (pc1 := 39) rfl rfl ?_
      refine w_p (pc1 := 41) (st1 := .int 6 :: _) rfl rfl ?_
      refine w_t (a := 58) (b := 44) rfl rfl rfl ?_
      refine w_p (pc1 := 59) (st1 := .int 0 :: _) rfl rfl ?_
      refine w_p (pc1 := 60) (st1 := .int 0 :: _) rfl rfl ?_
      refine w_p (pc1 := 61) (al1 := [(2, .int 0), (5, .int 16), (4, .int 0), (3, .int 0), (0, .ref 176), (1, .int 3)]) rfl rfl ?_
      refine w_p (pc1 := 62) rfl rfl ?_
      refine w_p (pc1 := 63) rfl rfl ?_
      refine w_m0 (pc1 := 66) rfl rfl (h_gC rfl rfl rfl rfl) rfl ?_
      refine w_p (pc1 := 68) rfl rfl ?_
      refine w_m0 (pc1 := 69) rfl rfl (h_bl rfl rfl (by decide) rfl) rfl ?_
      refine w_t (a := 76) (b := 72) (cb_eq_t (by exact (frM_t F).2.1 _ (by decide))) rfl rfl ?_
      refine w_p (pc1 := 77) (st1 := .int 0 :: _) rfl rfl ?_
      refine w_p (pc1 := 78) (st1 := .int 0 :: _) rfl rfl ?_
      refine w_p (pc1 := 79) (al1 := [(3, .int 0), (2, .int 0), (5, .int 16), (4, .int 0), (0, .ref 176), (1, .int 3)]) rfl rfl ?_
      refine w_p (pc1 := 81) rfl rfl ?_
      refine w_p (pc1 := 83) rfl rfl ?_
      refine w_p (pc1 := 85) (st1 := .int 8 :: _) rfl rfl ?_
      refine w_t (a := 102) (b := 88) rfl rfl rfl ?_
      refine w_p (pc1 := 103) (st1 := .int 0 :: _) rfl rfl ?_
      refine w_p (pc1 := 104) (st1 := .int 0 :: _) rfl rfl ?_
      refine w_p (pc1 := 106) (al1 := [(4, .int 0), (3, .int 0), (2, .int 0), (5, .int 16), (0, .ref 176), (1, .int 3)]) rfl rfl ?_
      refine w_p (pc1 := 109) (al1 := [(5, .int 17), (4, .int 0), (3, .int 0), (2, .int 0), (0, .ref 176), (1, .int 3)]) rfl rfl ?_
      refine w_p (pc1 := 29) rfl rfl ?_
      refine w_p (pc1 := 31) rfl rfl ?_
      refine w_p (pc1 := 33) (st1 := .int 24 :: _) rfl rfl ?_
      refine w_f (a := 112) (b := 36) rfl rfl rfl ?_
      refine w_p (pc1 := 37) rfl rfl ?_
      refine w_p (pc1 := 39) rfl rfl ?_
      refine w_p (pc1 := 41) (st1 := .int 6 :: _) rfl rfl ?_
      refine w_t (a := 58) (b := 44) rfl rfl rfl ?_
      refine w_p (pc1 := 59) (st1 := .int 0 :: _) rfl rfl ?_
      refine w_p (pc1 := 60) (st1 := .int 0 :: _) rfl rfl ?_
      refine w_p (pc1 := 61) (al1 := [(2, .int 0), (5, .int 17), (4, .int 0), (3, .int 0), (0, .ref 176), (1, .int 3)]) rfl rfl ?_
      refine w_p (pc1 := 62) rfl rfl ?_
      refine w_p (pc1 := 63) rfl rfl ?_
      refine w_m0 (pc1 := 66) rfl rfl (h_gC rfl rfl rfl rfl) rfl ?_
      refine w_p (pc1 := 68) rfl rfl ?_
      refine w_m0 (pc1 := 69) rfl rfl (h_bl rfl rfl (by decide) rfl) rfl ?_
      refine w_t (a := 76) (b := 72) (cb_eq_t (by exact (frM_t F).2.1 _ (by decide))) rfl rfl ?_
      refine w_p (pc1 := 77) (st1 := .int 0 :: _) rfl rfl ?_
      refine w_p (pc1 := 78) (st1 := .int 0 :: _) rfl rfl ?_
      refine w_p (pc1 := 79) (al1 := [(3, .int 0), (2, .int 0), (5, .int 17), (4, .int 0), (0, .ref 176), (1, .int 3)]) rfl rfl ?_
      refine w_p (pc1 := 81) rfl rfl ?_
      refine w_p (pc1 := 83) rfl rfl ?_
      refine w_p (pc1 := 85) (st1 := .int 8 :: _) rfl rfl ?_
      refine w_t (a := 102) (b := 88) rfl rfl rfl ?_
      refine w_p (pc1 := 103) (st1 := .int 0 :: _) rfl rfl ?_
      refine w_p (pc1 := 104) (st1 := .int 0 :: _) rfl rfl ?_
      refine w_p (pc1 := 106) (al1 := [(4, .int 0), (3, .int 0), (2, .int 0), (5, .int 17), (0, .ref 176), (1, .int 3)]) rfl rfl ?_
      refine w_p (pc1 := 109) (al1 := [(5, .int 18), (4, .int 0), (3, .int 0), (2, .int 0), (0, .ref 176), (1, .int 3)]) rfl rfl ?_
      refine w_p (pc1 := 29) rfl rfl ?_
      refine w_p (pc1 := 31) rfl rfl ?_
      refine w_p (pc1 := 33) (st1 := .int 24 :: _) rfl rfl ?_
      refine w_f (a := 112) (b := 36) rfl rfl rfl ?_
      refine w_p (pc1 := 37) rfl rfl ?_
      refine w_p (pc1 := 39) rfl rfl ?_
      refine w_p (pc1 := 41) (st1 := .int 6 :: _) rfl rfl ?_
      refine w_t (a := 58) (b := 44) rfl rfl rfl ?_
      refine w_p (pc1 := 59) (st1 := .int 0 :: _) rfl rfl ?_
      refine w_p (pc1 := 60) (st1 := .int 0 :: _) rfl rfl ?_
      refine w_p (pc1 := 61) (al1 := [(2, .int 0), (5, .int 18), (4, .int 0), (3, .int 0), (0, .ref 176), (1, .int 3)]) rfl rfl ?_
      refine w_p (pc1 := 62) rfl rfl ?_
      refine w_p (pc1 := 63) rfl rfl ?_
      refine w_m0 (pc1 := 66) rfl rfl (h_gC rfl rfl rfl rfl) rfl ?_
      refine w_p (pc1 := 68) rfl rfl ?_
      refine w_m0 (pc1 := 69) rfl rfl (h_bl rfl rfl (by decide) rfl) rfl ?_
      refine w_t (a := 76) (b := 72) (cb_eq_t (by exact (frM_t F).2.1 _ (by decide))) rfl rfl ?_
      refine w_p (pc1 := 77) (st1 := .int 0 :: _) rfl rfl ?_
      refine w_p (pc1 := 78) (st1 := .int 0 :: _) rfl rfl ?_
      refine w_p (pc1 := 79) (al1 := [(3, .int 0), (2, .int 0), (5, .int 18), (4, .int 0), (0, .ref 176), (1, .int 3)]) rfl rfl ?_
      refine w_p (pc1 := 81) rfl rfl ?_
      refine w_p (pc1 := 83) rfl rfl ?_
      refine w_p (pc1 := 85) (st1 := .int 8 :: _) rfl rfl ?_
      refine w_t (a := 102) (b := 88) rfl rfl rfl ?_
      refine w_p (pc1 := 103) (st1 := .int 0 :: _) rfl rfl ?_
      refine w_p (pc1 := 104) (st1 := .int 0 :: _) rfl rfl ?_
      refine w_p (pc1 := 106) (al1 := [(4, .int 0), (3, .int 0), (2, .int 0), (5, .int 18), (0, .ref 176), (1, .int 3)]) rfl rfl ?_
      refine w_p (pc1 := 109) (al1 := [(5, .int 19), (4, .int 0), (3, .int 0), (2, .int 0), (0, .ref 176), (1, .int 3)]) rfl rfl ?_
      refine w_p (pc1 := 29) rfl rfl ?_
      refine w_p (pc1 := 31) rfl rfl ?_
      refine w_p (pc1 := 33) (st1 := .int 24 :: _) rfl rfl ?_
      refine w_f (a := 112) (b := 36) rfl rfl rfl ?_
      refine w_p (pc1 := 37) rfl rfl ?_
      refine w_p (pc1 := 39) rfl rfl ?_
      refine w_p (pc1 := 41) (st1 := .int 6 :: _) rfl rfl ?_
      refine w_t (a := 58) (b := 44) rfl rfl rfl ?_
      refine w_p (pc1 := 59) (st1 := .int 0 :: _) rfl rfl ?_
      refine w_p (pc1 := 60) (st1 := .int 0 :: _) rfl rfl ?_
      refine w_p (pc1 := 61) (al1 := [(2, .int 0), (5, .int 19), (4, .int 0), (3, .int 0), (0, .ref 176), (1, .int 3)]) rfl rfl ?_
      refine w_p (pc1 := 62) rfl rfl ?_
      refine w_p (pc1 := 63) rfl rfl ?_
      refine w_m0 (pc1 := 66) rfl rfl (h_gC rfl rfl rfl rfl) rfl ?_
      refine w_p (pc1 := 68) rfl rfl ?_
      refine w_m0 (pc1 := 69) rfl rfl (h_bl rfl rfl (by decide) rfl) rfl ?_
      refine w_t (a := 76) (b := 72) (cb_eq_t (by exact (frM_t F).2.1 _ (by decide))) rfl rfl ?_
      refine w_p (pc1 := 77) (st1 := .int 0 :: _) rfl rfl ?_
      refine w_p (pc1 := 78) (st1 := .int 0 :: _) rfl rfl ?_
      refine w_p (pc1 := 79) (al1 := [(3, .int 0), (2, .int 0), (5, .int 19), (4, .int 0), (0, .ref 176), (1, .int 3)]) rfl rfl ?_
      refine w_p (pc1 := 81) rfl rfl ?_
      refine w_p (pc1 := 83) rfl rfl ?_
      refine w_p (pc1 := 85) (st1 := .int 8 :: _) rfl rfl ?_
      refine w_t (a := 102) (b := 88) rfl rfl rfl ?_
      refine w_p (pc1 := 103) (st1 := .int 0 :: _) rfl rfl ?_
      refine w_p (pc1 := 104) (st1 := .int 0 :: _) rfl rfl ?_
      refine w_p (pc1 := 106) (al1 := [(4, .int 0), (3, .int 0), (2, .int 0), (5, .int 19), (0, .ref 176), (1, .int 3)]) rfl rfl ?_
      refine w_p (pc1 := 109) (al1 := [(5, .int 20), (4, .int 0), (3, .int 0), (2, .int 0), (0, .ref 176), (1, .int 3)]) rfl rfl ?_
      refine w_p (pc1 := 29) rfl rfl ?_
      refine w_p (pc1 := 31) rfl rfl ?_
      refine w_p (pc1 := 33) (st1 := .int 24 :: _) rfl rfl ?_
      refine w_f (a := 112) (b := 36) rfl rfl rfl ?_
      refine w_p (pc1 := 37) rfl rfl ?_
      refine w_p (pc1 := 39) rfl rfl ?_
      refine w_p (pc1 := 41) (st1 := .int 6 :: _) rfl rfl ?_
      refine w_t (a := 58) (b := 44) rfl rfl rfl ?_
      refine w_p (pc1 := 59) (st1 := .int 0 :: _) rfl rfl ?_
      refine w_p (pc1 := 60) (st1 := .int 0 :: _) rfl rfl ?_
      refine w_p (pc1 := 61) (al1 := [(2, .int 0), (5, .int 20), (4, .int 0), (3, .int 0), (0, .ref 176), (1, .int 3)]) rfl rfl ?_
      refine w_p (pc1 := 62) rfl rfl ?_
      refine w_p (pc1 := 63) rfl rfl ?_
      refine w_m0 (pc1 := 66) rfl rfl (h_gC rfl rfl rfl rfl) rfl ?_
      refine w_p (pc1 := 68) rfl rfl ?_
      refine w_m0 (pc1 := 69) rfl rfl (h_bl rfl rfl (by decide) rfl) rfl ?_
      refine w_t (a := 76) (b := 72) (cb_eq_t (by exact (frM_t F).2.1 _ (by decide))) rfl rfl ?_
      refine w_p (pc1 := 77) (st1 := .int 0 :: _) rfl rfl ?_
      refine w_p (pc1 := 78) (st1 := .int 0 :: _) rfl rfl ?_
      refine w_p (pc1 := 79) (al1 := [(3, .int 0), (2, .int 0), (5, .int 20), (4, .int 0), (0, .ref 176), (1, .int 3)]) rfl rfl ?_
      refine w_p (pc1 := 81) rfl rfl ?_
      refine w_p (pc1 := 83) rfl rfl ?_
      refine w_p (pc1 := 85) (st1 := .int 8 :: _) rfl rfl ?_
      refine w_t (a := 102) (b := 88) rfl rfl rfl ?_
      refine w_p (pc1 := 103) (st1 := .int 0 :: _) rfl rfl ?_
      refine w_p (pc1 := 104) (st1 := .int 0 :: _) rfl rfl ?_
      refine w_p (pc1 := 106) (al1 := [(4, .int 0), (3, .int 0), (2, .int 0), (5, .int 20), (0, .ref 176), (1, .int 3)]) rfl rfl ?_
      refine w_p (pc1 := 109) (al1 := [(5, .int 21), (4, .int 0), (3, .int 0), (2, .int 0), (0, .ref 176), (1, .int 3)]) rfl rfl ?_
      refine w_p (pc1 := 29) rfl rfl ?_
      refine w_p (pc1 := 31) rfl rfl ?_
      refine w_p (pc1 := 33) (st1 := .int 24 :: _) rfl rfl ?_
      refine w_f (a := 112) (b := 36) rfl rfl rfl ?_
      refine w_p (pc1 := 37) rfl rfl ?_
      refine w_p (pc1 := 39) rfl rfl ?_
      refine w_p (pc1 := 41) (st1 := .int 6 :: _) rfl rfl ?_
      refine w_t (a := 58) (b := 44) rfl rfl rfl ?_
      refine w_p (pc1 := 59) (st1 := .int 0 :: _) rfl rfl ?_
      refine w_p (pc1 := 60) (st1 := .int 0 :: _) rfl rfl ?_
      refine w_p (pc1 := 61) (al1 := [(2, .int 0), (5, .int 21), (4, .int 0), (3, .int 0), (0, .ref 176), (1, .int 3)]) rfl rfl ?_
      refine w_p (pc1 := 62) rfl rfl ?_
      refine w_p (pc1 := 63) rfl rfl ?_
      refine w_m0 (pc1 := 66) rfl rfl (h_gC rfl rfl rfl rfl) rfl ?_
      refine w_p (pc1 := 68) rfl rfl ?_
      refine w_m0 (pc1 := 69) rfl rfl (h_bl rfl rfl (by decide) rfl) rfl ?_
      refine w_t (a := 76) (b := 72) (cb_eq_t (by exact (frM_t F).2.1 _ (by decide))) rfl rfl ?_
      refine w_p (pc1 := 77) (st1 := .int 0 :: _) rfl rfl ?_
      refine w_p (pc1 := 78) (st1 := .int 0 :: _) rfl rfl ?_
      refine w_p (pc1 := 79) (al1 := [(3, .int 0), (2, .int 0), (5, .int 21), (4, .int 0), (0, .ref 176), (1, .int 3)]) rfl rfl ?_
      refine w_p (pc1 := 81) rfl rfl ?_
      refine w_p (pc1 := 83) rfl rfl ?_
      refine w_p (pc1 := 85) (st1 := .int 8 :: _) rfl rfl ?_
      refine w_t (a := 102) (b := 88) rfl rfl rfl ?_
      refine w_p (pc1 := 103) (st1 := .int 0 :: _) rfl rfl ?_
      refine w_p (pc1 := 104) (st1 := .int 0 :: _) rfl rfl ?_
      refine w_p (pc1 := 106) (al1 := [(4, .int 0), (3, .int 0), (2, .int 0), (5, .int 21), (0, .ref 176), (1, .int 3)]) rfl rfl ?_
      refine w_p (pc1 := 109) (al1 := [(5, .int 22), (4, .int 0), (3, .int 0), (2, .int 0), (0, .ref 176), (1, .int 3)]) rfl rfl ?_
      refine w_p (pc1 := 29) rfl rfl ?_
      refine w_p (pc1 := 31) rfl rfl ?_
      refine w_p (pc1 := 33) (st1 := .int 24 :: _) rfl rfl ?_
      refine w_f (a := 112) (b := 36) rfl rfl rfl ?_
      refine w_p (pc1 := 37) rfl rfl ?_
      refine w_p (pc1 := 39) rfl rfl ?_
      refine w_p (pc1 := 41) (st1 := .int 6 :: _) rfl rfl ?_
      refine w_t (a := 58) (b := 44) rfl rfl rfl ?_
      refine w_p (pc1 := 59) (st1 := .int 0 :: _) rfl rfl ?_
      refine w_p (pc1 := 60) (st1 := .int 0 :: _) rfl rfl ?_
      refine w_p (pc1 := 61) (al1 := [(2, .int 0), (5, .int 22), (4, .int 0), (3, .int 0), (0, .ref 176), (1, .int 3)]) rfl rfl ?_
      refine w_p (pc1 := 62) rfl rfl ?_
      refine w_p (pc1 := 63) rfl rfl ?_
      refine w_m0 (pc1 := 66) rfl rfl (h_gC rfl rfl rfl rfl) rfl ?_
      refine w_p (pc1 := 68) rfl rfl ?_
      refine w_m0 (pc1 := 69) rfl rfl (h_bl rfl rfl (by decide) rfl) rfl ?_
      refine w_t (a := 76) (b := 72) (cb_eq_t (by exact (frM_t F).2.1 _ (by decide))) rfl rfl ?_
      refine w_p (pc1 := 77) (st1 := .int 0 :: _) rfl rfl ?_
      refine w_p (pc1 := 78) (st1 := .int 0 :: _) rfl rfl ?_
      refine w_p (pc1 := 79) (al1 := [(3, .int 0), (2, .int 0), (5, .int 22), (4, .int 0), (0, .ref 176), (1, .int 3)]) rfl rfl ?_
      refine w_p (pc1 := 81) rfl rfl ?_
      refine w_p (pc1 := 83) rfl rfl ?_
      refine w_p (pc1 := 85) (st1 := .int 8 :: _) rfl rfl ?_
      refine w_t (a := 102) (b := 88) rfl rfl rfl ?_
      refine w_p (pc1 := 103) (st1 := .int 0 :: _) rfl rfl ?_
      refine w_p (pc1 := 104) (st1 := .int 0 :: _) rfl rfl ?_
      refine w_p (pc1 := 106) (al1 := [(4, .int 0), (3, .int 0), (2, .int 0), (5, .int 22), (0, .ref 176), (1, .int 3)]) rfl rfl ?_
      refine w_p (pc1 := 109) (al1 := [(5, .int 23), (4, .int 0), (3, .int 0), (2, .int 0), (0, .ref 176), (1, .int 3)]) rfl rfl ?_
      refine w_p (pc1 := 29) rfl rfl ?_
      refine w_p (pc1 := 31) rfl rfl ?_
      refine w_p (pc1 := 33) (st1 := .int 24 :: _) rfl rfl ?_
      refine w_f (a := 112) (b := 36) rfl rfl rfl ?_
      refine w_p (pc1 := 37) rfl rfl ?_
      refine w_p (pc1 := 39) rfl rfl ?_
      refine w_p (pc1 := 41) (st1 := .int 6 :: _) rfl rfl ?_
      refine w_t (a := 58) (b := 44) rfl rfl rfl ?_
      refine w_p (pc1 := 59) (st1 := .int 0 :: _) rfl rfl ?_
      refine w_p (pc1 := 60) (st1 := .int 0 :: _) rfl rfl ?_
      refine w_p (pc1 := 61) (al1 := [(2, .int 0), (5, .int 23), (4, .int 0), (3, .int 0), (0, .ref 176), (1, .int 3)]) rfl rfl ?_
      refine w_p (pc1 := 62) rfl rfl ?_
      refine w_p (pc1 := 63) rfl rfl ?_
      refine w_m0 (pc1 := 66) rfl rfl (h_gC rfl rfl rfl rfl) rfl ?_
      refine w_p (pc1 := 68) rfl rfl ?_
      refine w_m0 (pc1 := 69) rfl rfl (h_bl rfl rfl (by decide) rfl) rfl ?_
      refine w_t (a := 76) (b := 72) (cb_eq_t (by exact (frM_t F).2.1 _ (by decide))) rfl rfl ?_
      refine w_p (pc1 := 77) (st1 := .int 0 :: _) rfl rfl ?_
      refine w_p (pc1 := 78) (st1 := .int 0 :: _) rfl rfl ?_
      refine w_p (pc1 := 79) (al1 := [(3, .int 0), (2, .int 0), (5, .int 23), (4, .int 0), (0, .ref 176), (1, .int 3)]) rfl rfl ?_
      refine w_p (pc1 := 81) rfl rfl ?_
      refine w_p (pc1 := 83) rfl rfl ?_
      refine w_p (pc1 := 85) (st1 := .int 8 :: _) rfl rfl ?_
      refine w_t (a := 102) (b := 88) rfl rfl rfl ?_
      refine w_p (pc1 := 103) (st1 := .int 0 :: _) rfl rfl ?_
      refine w_p (pc1 := 104) (st1 := .int 0 :: _) rfl rfl ?_
      refine w_p (pc1 := 106) (al1 := [(4, .int 0), (3, .int 0), (2, .int 0), (5, .int 23), (0, .ref 176), (1, .int 3)]) rfl rfl ?_
      refine w_p (pc1 := 109) (al1 := [(5, .int 24), (4, .int 0), (3, .int 0), (2, .int 0), (0, .ref 176), (1, .int 3)]) rfl rfl ?_
      refine w_p (pc1 := 29) rfl rfl ?_
      refine w_p (pc1 := 31) rfl rfl ?_
      refine w_p (pc1 := 33) (st1 := .int 24 :: _) rfl rfl ?_
      refine w_t (a := 112) (b := 36) rfl rfl rfl ?_
      refine w_p (pc1 := 113) rfl rfl ?_
      refine w_t (a := 120) (b := 116) rfl rfl rfl ?_
      refine w_p (pc1 := 121) rfl rfl ?_
      refine w_p (pc1 := 122) (st1 := .int 1 :: _) rfl rfl ?_
      refine w_t (a := 129) (b := 125) rfl rfl rfl ?_
      refine w_p (pc1 := 130) rfl rfl ?_
      refine w_p (pc1 := 131) (st1 := .int 2 :: _) rfl rfl ?_
      refine w_t (a := 139) (b := 134) rfl rfl rfl ?_
      refine w_p (pc1 := 140) rfl rfl ?_
      refine w_p (pc1 := 141) (st1 := .int 3 :: _) rfl rfl ?_
      refine w_f (a := 151) (b := 144) rfl rfl rfl ?_
      refine w_p (pc1 := 145) rfl rfl ?_
      refine w_m0 (pc1 := 148) rfl rfl (h_gI rfl rfl rfl rfl rfl) rfl ?_
      refine w_p (pc1 := 187) rfl rfl ?_
      refine w_r rfl rfl rfl (fun _ _ => rfl) cr_int ?_
      refine Or.inl ⟨by decide, ?_, rfl, rfl⟩; first | rfl | rw [(frM_t F).2.2.2.1] | rw [(frM_t F).2.2.2.2.2]
    · skip
      refine w_p (pc1 := 1) rfl rfl ?_
      refine w_p (pc1 := 2) rfl rfl ?_
      refine w_p (pc1 := 3) (st1 := .long 4 :: _) rfl rfl ?_
      refine w_p (pc1 := 4) (st1 := .long 0 :: _) rfl rfl ?_
      refine w_m0 (pc1 := 7) (st1 := .long 6 :: _) rfl rfl rfl rfl ?_
      refine w_je (pc1 := 10) (vs := [.long 4, .long 0, .long 6]) (rest := [.ref 176]) (st1 := [.int 1, .ref 176]) (m_189t (d := _) (sl := 0) rfl) rfl rfl rfl (fun _ _ => rfl) rfl (by exact cl_s my_189 rfl rfl rfl (Nat.le_of_ble_eq_true rfl) rfl rfl) (by rfl) (Nat.le_of_ble_eq_true rfl) (Nat.le_of_ble_eq_true rfl) rfl (by rfl) ?_
      refine w_p (pc1 := 11) (st1 := .int 1 :: _) rfl rfl ?_
      refine w_je (pc1 := 14) (vs := [.ref 176, .int 1, .int 1]) (rest := []) (st1 := [.int 1]) (m_190 (d := _) (sl := 0)) rfl rfl rfl (fun _ _ => rfl) rfl (by exact cl_v my_190 rfl rfl rfl (Nat.le_of_ble_eq_true rfl) rfl (MH_obj rfl rfl) rfl (by decide) rfl rfl) (by rfl) (Nat.le_of_ble_eq_true rfl) (Nat.le_of_ble_eq_true rfl) rfl (by rfl) ?_
      refine w_t (a := 19) (b := 17) rfl rfl rfl ?_
      refine w_p (pc1 := 20) (st1 := .int 0 :: _) rfl rfl ?_
      refine w_p (pc1 := 21) (al1 := [(2, .int 0), (0, .ref 176), (1, .int 4)]) rfl rfl ?_
      refine w_p (pc1 := 22) (st1 := .int 0 :: _) rfl rfl ?_
      refine w_p (pc1 := 23) (al1 := [(3, .int 0), (2, .int 0), (0, .ref 176), (1, .int 4)]) rfl rfl ?_
      refine w_p (pc1 := 24) (st1 := .int 0 :: _) rfl rfl ?_
      refine w_p (pc1 := 26) (al1 := [(4, .int 0), (3, .int 0), (2, .int 0), (0, .ref 176), (1, .int 4)]) rfl rfl ?_
      refine w_p (pc1 := 27) (st1 := .int 0 :: _) rfl rfl ?_
      refine w_p (pc1 := 29) (al1 := [(5, .int 0), (4, .int 0), (3, .int 0), (2, .int 0), (0, .ref 176), (1, .int 4)]) rfl rfl ?_
      refine w_p (pc1 := 31) rfl rfl ?_
      refine w_p (pc1 := 33) (st1 := .int 24 :: _) rfl rfl ?_
      refine w_f (a := 112) (b := 36) rfl rfl rfl ?_
      refine w_p (pc1 := 37) rfl rfl ?_
      refine w_p (pc1 := 39) rfl rfl ?_
      refine w_p (pc1 := 41) (st1 := .int 6 :: _) rfl rfl ?_
      refine w_f (a := 58) (b := 44) rfl rfl rfl ?_
      refine w_p (pc1 := 45) rfl rfl ?_
      refine w_m0 (pc1 := 48) rfl rfl (h_gC rfl rfl rfl rfl) rfl ?_
      refine w_p (pc1 := 50) rfl rfl ?_
      refine w_m0 (pc1 := 51) rfl rfl (h_bl rfl rfl (by decide) rfl) rfl ?_
      refine w_t (a := 58) (b := 54) (cb_eq_t (by exact (frM_t F).1 _ (by decide))) rfl rfl ?_
      refine w_p (pc1 := 59) (st1 := .int 0 :: _) rfl rfl ?_
      refine w_p (pc1 := 60) (st1 := .int 0 :: _) rfl rfl ?_
      refine w_p (pc1 := 61) (al1 := [(2, .int 0), (5, .int 0), (4, .int 0), (3, .int 0), (0, .ref 176), (1, .int 4)]) rfl rfl ?_
      refine w_p (pc1 := 62) rfl rfl ?_
      refine w_p (pc1 := 63) rfl rfl ?_
      refine w_m0 (pc1 := 66) rfl rfl (h_gC rfl rfl rfl rfl) rfl ?_
      refine w_p (pc1 := 68) rfl rfl ?_
      refine w_m0 (pc1 := 69) rfl rfl (h_bl rfl rfl (by decide) rfl) rfl ?_
      refine w_t (a := 76) (b := 72) (cb_eq_t (by exact (frM_t F).2.1 _ (by decide))) rfl rfl ?_
      refine w_p (pc1 := 77) (st1 := .int 0 :: _) rfl rfl ?_
      refine w_p (pc1 := 78) (st1 := .int 0 :: _) rfl rfl ?_
      refine w_p (pc1 := 79) (al1 := [(3, .int 0), (2, .int 0), (5, .int 0), (4, .int 0), (0, .ref 176), (1, .int 4)]) rfl rfl ?_
      refine w_p (pc1 := 81) rfl rfl ?_
      refine w_p (pc1 := 83) rfl rfl ?_
      refine w_p (pc1 := 85) (st1 := .int 8 :: _) rfl rfl ?_
      refine w_f (a := 102) (b := 88) rfl rfl rfl ?_
      refine w_p (pc1 := 89) rfl rfl ?_
      refine w_m0 (pc1 := 92) rfl rfl (h_gC rfl rfl rfl rfl) rfl ?_
      refine w_p (pc1 := 94) rfl rfl ?_
      refine w_m0 (pc1 := 95) rfl rfl (h_bl rfl rfl (by decide) rfl) rfl ?_
      refine w_t (a := 102) (b := 98) (cb_eq_t (by exact (frM_t F).2.2.1 _ (by decide))) rfl rfl ?_
      refine w_p (pc1 := 103) (st1 := .int 0 :: _) rfl rfl ?_
      refine w_p (pc1 := 104) (st1 := .int 0 :: _) rfl rfl ?_
      refine w_p (pc1 := 106) (al1 := [(4, .int 0), (3, .int 0), (2, .int 0), (5, .int 0), (0, .ref 176), (1, .int 4)]) rfl rfl ?_
      refine w_p (pc1 := 109) (al1 := [(5, .int 1), (4, .int 0), (3, .int 0), (2, .int 0), (0, .ref 176), (1, .int 4)]) rfl rfl ?_
      refine w_p (pc1 := 29) rfl rfl ?_
      refine w_p (pc1 := 31) rfl rfl ?_
      refine w_p (pc1 := 33) (st1 := .int 24 :: _) rfl rfl ?_
      refine w_f (a := 112) (b := 36) rfl rfl rfl ?_
      refine w_p (pc1 := 37) rfl rfl ?_
      refine w_p (pc1 := 39) rfl rfl ?_
      refine w_p (pc1 := 41) (st1 := .int 6 :: _) rfl rfl ?_
      refine w_f (a := 58) (b := 44) rfl rfl rfl ?_
      refine w_p (pc1 := 45) rfl rfl ?_
      refine w_m0 (pc1 := 48) rfl rfl (h_gC rfl rfl rfl rfl) rfl ?_
      refine w_p (pc1 := 50) rfl rfl ?_
      refine w_m0 (pc1 := 51) rfl rfl (h_bl rfl rfl (by decide) rfl) rfl ?_
      refine w_t (a := 58) (b := 54) (cb_eq_t (by exact (frM_t F).1 _ (by decide))) rfl rfl ?_
      refine w_p (pc1 := 59) (st1 := .int 0 :: _) rfl rfl ?_
      refine w_p (pc1 := 60) (st1 := .int 0 :: _) rfl rfl ?_
      refine w_p (pc1 := 61) (al1 := [(2, .int 0), (5, .int 1), (4, .int 0), (3, .int 0), (0, .ref 176), (1, .int 4)]) rfl rfl ?_
      refine w_p (pc1 := 62) rfl rfl ?_
      refine w_p (pc1 := 63) rfl rfl ?_
      refine w_m0 (pc1 := 66) rfl rfl (h_gC rfl rfl rfl rfl) rfl ?_
      refine w_p (pc1 := 68) rfl rfl ?_
      refine w_m0 (pc1 := 69) rfl rfl (h_bl rfl rfl (by decide) rfl) rfl ?_
      refine w_t (a := 76) (b := 72) (cb_eq_t (by exact (frM_t F).2.1 _ (by decide))) rfl rfl ?_
      refine w_p (pc1 := 77) (st1 := .int 0 :: _) rfl rfl ?_
      refine w_p (pc1 := 78) (st1 := .int 0 :: _) rfl rfl ?_
      refine w_p (pc1 := 79) (al1 := [(3, .int 0), (2, .int 0), (5, .int 1), (4, .int 0), (0, .ref 176), (1, .int 4)]) rfl rfl ?_
      refine w_p (pc1 := 81) rfl rfl ?_
      refine w_p (pc1 := 83) rfl rfl ?_
      refine w_p (pc1 := 85) (st1 := .int 8 :: _) rfl rfl ?_
      refine w_f (a := 102) (b := 88) rfl rfl rfl ?_
      refine w_p (pc1 := 89) rfl rfl ?_
      refine w_m0 (pc1 := 92) rfl rfl (h_gC rfl rfl rfl rfl) rfl ?_
      refine w_p (pc1 := 94) rfl rfl ?_
      refine w_m0 (pc1 := 95) rfl rfl (h_bl rfl rfl (by decide) rfl) rfl ?_
      refine w_t (a := 102) (b := 98) (cb_eq_t (by exact (frM_t F).2.2.1 _ (by decide))) rfl rfl ?_
      refine w_p (pc1 := 103) (st1 := .int 0 :: _) rfl rfl ?_
      refine w_p (pc1 := 104) (st1 := .int 0 :: _) rfl rfl ?_
      refine w_p (pc1 := 106) (al1 := [(4, .int 0), (3, .int 0), (2, .int 0), (5, .int 1), (0, .ref 176), (1, .int 4)]) rfl rfl ?_
      refine w_p (pc1 := 109) (al1 := [(5, .int 2), (4, .int 0), (3, .int 0), (2, .int 0), (0, .ref 176), (1, .int 4)]) rfl rfl ?_
      refine w_p (pc1 := 29) rfl rfl ?_
      refine w_p (pc1 := 31) rfl rfl ?_
      refine w_p (pc1 := 33) (st1 := .int 24 :: _) rfl rfl ?_
      refine w_f (a := 112) (b := 36) rfl rfl rfl ?_
      refine w_p (pc1 := 37) rfl rfl ?_
      refine w_p (pc1 := 39) rfl rfl ?_
      refine w_p (pc1 := 41) (st1 := .int 6 :: _) rfl rfl ?_
      refine w_f (a := 58) (b := 44) rfl rfl rfl ?_
      refine w_p (pc1 := 45) rfl rfl ?_
      refine w_m0 (pc1 := 48) rfl rfl (h_gC rfl rfl rfl rfl) rfl ?_
      refine w_p (pc1 := 50) rfl rfl ?_
      refine w_m0 (pc1 := 51) rfl rfl (h_bl rfl rfl (by decide) rfl) rfl ?_
      refine w_t (a := 58) (b := 54) (cb_eq_t (by exact (frM_t F).1 _ (by decide))) rfl rfl ?_
      refine w_p (pc1 := 59) (st1 := .int 0 :: _) rfl rfl ?_
      refine w_p (pc1 := 60) (st1 := .int 0 :: _) rfl rfl ?_
      refine w_p (pc1 := 61) (al1 := [(2, .int 0), (5, .int 2), (4, .int 0), (3, .int 0), (0, .ref 176), (1, .int 4)]) rfl rfl ?_
      refine w_p (pc1 := 62) rfl rfl ?_
      refine w_p (pc1 := 63) rfl rfl ?_
      refine w_m0 (pc1 := 66) rfl rfl (h_gC rfl rfl rfl rfl) rfl ?_
      refine w_p (pc1 := 68) rfl rfl ?_
      refine w_m0 (pc1 := 69) rfl rfl (h_bl rfl rfl (by decide) rfl) rfl ?_
      refine w_t (a := 76) (b := 72) (cb_eq_t (by exact (frM_t F).2.1 _ (by decide))) rfl rfl ?_
      refine w_p (pc1 := 77) (st1 := .int 0 :: _) rfl rfl ?_
      refine w_p (pc1 := 78) (st1 := .int 0 :: _) rfl rfl ?_
      refine w_p (pc1 := 79) (al1 := [(3, .int 0), (2, .int 0), (5, .int 2), (4, .int 0), (0, .ref 176), (1, .int 4)]) rfl rfl ?_
      refine w_p (pc1 := 81) rfl rfl ?_
      refine w_p (pc1 := 83) rfl rfl ?_
      refine w_p (pc1 := 85) (st1 := .int 8 :: _) rfl rfl ?_
      refine w_f (a := 102) (b := 88) rfl rfl rfl ?_
      refine w_p (pc1 := 89) rfl rfl ?_
      refine w_m0 (pc1 := 92) rfl rfl (h_gC rfl rfl rfl rfl) rfl ?_
      refine w_p (pc1 := 94) rfl rfl ?_
      refine w_m0 (pc1 := 95) rfl rfl (h_bl rfl rfl (by decide) rfl) rfl ?_
      refine w_t (a := 102) (b := 98) (cb_eq_t (by exact (frM_t F).2.2.1 _ (by decide))) rfl rfl ?_
      refine w_p (pc1 := 103) (st1 := .int 0 :: _) rfl rfl ?_
      refine w_p (pc1 := 104) (st1 := .int 0 :: _) rfl rfl ?_
      refine w_p (pc1 := 106) (al1 := [(4, .int 0), (3, .int 0), (2, .int 0), (5, .int 2), (0, .ref 176), (1, .int 4)]) rfl rfl ?_
      refine w_p (pc1 := 109) (al1 := [(5, .int 3), (4, .int 0), (3, .int 0), (2, .int 0), (0, .ref 176), (1, .int 4)]) rfl rfl ?_
      refine w_p (pc1 := 29) rfl rfl ?_
      refine w_p (pc1 := 31) rfl rfl ?_
      refine w_p (pc1 := 33) (st1 := .int 24 :: _) rfl rfl ?_
      refine w_f (a := 112) (b := 36) rfl rfl rfl ?_
      refine w_p (pc1 := 37) rfl rfl ?_
      refine w_p (pc1 := 39) rfl rfl ?_
      refine w_p (pc1 := 41) (st1 := .int 6 :: _) rfl rfl ?_
      refine w_f (a := 58) (b := 44) rfl rfl rfl ?_
      refine w_p (pc1 := 45) rfl rfl ?_
      refine w_m0 (pc1 := 48) rfl rfl (h_gC rfl rfl rfl rfl) rfl ?_
      refine w_p (pc1 := 50) rfl rfl ?_
      refine w_m0 (pc1 := 51) rfl rfl (h_bl rfl rfl (by decide) rfl) rfl ?_
      refine w_t (a := 58) (b := 54) (cb_eq_t (by exact (frM_t F).1 _ (by decide))) rfl rfl ?_
      refine w_p (pc1 := 59) (st1 := .int 0 :: _) rfl rfl ?_
      refine w_p (pc1 := 60) (st1 := .int 0 :: _) rfl rfl ?_
      refine w_p (pc1 := 61) (al1 := [(2, .int 0), (5, .int 3), (4, .int 0), (3, .int 0), (0, .ref 176), (1, .int 4)]) rfl rfl ?_
      refine w_p (pc1 := 62) rfl rfl ?_
      refine w_p (pc1 := 63) rfl rfl ?_
      refine w_m0 (pc1 := 66) rfl rfl (h_gC rfl rfl rfl rfl) rfl ?_
      refine w_p (pc1 := 68) rfl rfl ?_
      refine w_m0 (pc1 := 69) rfl rfl (h_bl rfl rfl (by decide) rfl) rfl ?_
      refine w_t (a := 76) (b := 72) (cb_eq_t (by exact (frM_t F).2.1 _ (by decide))) rfl rfl ?_
      refine w_p (pc1 := 77) (st1 := .int 0 :: _) rfl rfl ?_
      refine w_p (pc1 := 78) (st1 := .int 0 :: _) rfl rfl ?_
      refine w_p (pc1 := 79) (al1 := [(3, .int 0), (2, .int 0), (5, .int 3), (4, .int 0), (0, .ref 176), (1, .int 4)]) rfl rfl ?_
      refine w_p (pc1 := 81) rfl rfl ?_
      refine w_p (pc1 := 83) rfl rfl ?_
      refine w_p (pc1 := 85) (st1 := .int 8 :: _) rfl rfl ?_
      refine w_f (a := 102) (b := 88) rfl rfl rfl ?_
      refine w_p (pc1 := 89) rfl rfl ?_
      refine w_m0 (pc1 := 92) rfl rfl (h_gC rfl rfl rfl rfl) rfl ?_
      refine w_p (pc1 := 94) rfl rfl ?_
      refine w_m0 (pc1 := 95) rfl rfl (h_bl rfl rfl (by decide) rfl) rfl ?_
      refine w_t (a := 102) (b := 98) (cb_eq_t (by exact (frM_t F).2.2.1 _ (by decide))) rfl rfl ?_
      refine w_p (pc1 := 103) (st1 := .int 0 :: _) rfl rfl ?_
      refine w_p (pc1 := 104) (st1 := .int 0 :: _) rfl rfl ?_
      refine w_p (pc1 := 106) (al1 := [(4, .int 0), (3, .int 0), (2, .int 0), (5, .int 3), (0, .ref 176), (1, .int 4)]) rfl rfl ?_
      refine w_p (pc1 := 109) (al1 := [(5, .int 4), (4, .int 0), (3, .int 0), (2, .int 0), (0, .ref 176), (1, .int 4)]) rfl rfl ?_
      refine w_p (pc1 := 29) rfl rfl ?_
      refine w_p (pc1 := 31) rfl rfl ?_
      refine w_p (pc1 := 33) (st1 := .int 24 :: _) rfl rfl ?_
      refine w_f (a := 112) (b := 36) rfl rfl rfl ?_
      refine w_p (pc1 := 37) rfl rfl ?_
      refine w_p (pc1 := 39) rfl rfl ?_
      refine w_p (pc1 := 41) (st1 := .int 6 :: _) rfl rfl ?_
      refine w_f (a := 58) (b := 44) rfl rfl rfl ?_
      refine w_p (pc1 := 45) rfl rfl ?_
      refine w_m0 (pc1 := 48) rfl rfl (h_gC rfl rfl rfl rfl) rfl ?_
      refine w_p (pc1 := 50) rfl rfl ?_
      refine w_m0 (pc1 := 51) rfl rfl (h_bl rfl rfl (by decide) rfl) rfl ?_
      refine w_t (a := 58) (b := 54) (cb_eq_t (by exact (frM_t F).1 _ (by decide))) rfl rfl ?_
      refine w_p (pc1 := 59) (st1 := .int 0 :: _) rfl rfl ?_
      refine w_p (pc1 := 60) (st1 := .int 0 :: _) rfl rfl ?_
      refine w_p (pc1 := 61) (al1 := [(2, .int 0), (5, .int 4), (4, .int 0), (3, .int 0), (0, .ref 176), (1, .int 4)]) rfl rfl ?_
      refine w_p (pc1 := 62) rfl rfl ?_
      refine w_p (pc1 := 63) rfl rfl ?_
      refine w_m0 (pc1 := 66) rfl rfl (h_gC rfl rfl rfl rfl) rfl ?_
      refine w_p (pc1 := 68) rfl rfl ?_
      refine w_m0 (pc1 := 69) rfl rfl (h_bl rfl rfl (by decide) rfl) rfl ?_
      refine w_t (a := 76) (b := 72) (cb_eq_t (by exact (frM_t F).2.1 _ (by decide))) rfl rfl ?_
      refine w_p (pc1 := 77) (st1 := .int 0 :: _) rfl rfl ?_
      refine w_p (pc1 := 78) (st1 := .int 0 :: _) rfl rfl ?_
      refine w_p (pc1 := 79) (al1 := [(3, .int 0), (2, .int 0), (5, .int 4), (4, .int 0), (0, .ref 176), (1, .int 4)]) rfl rfl ?_
      refine w_p (pc1 := 81) rfl rfl ?_
      refine w_p (pc1 := 83) rfl rfl ?_
      refine w_p (pc1 := 85) (st1 := .int 8 :: _) rfl rfl ?_
      refine w_f (a := 102) (b := 88) rfl rfl rfl ?_
      refine w_p (pc1 := 89) rfl rfl ?_
      refine w_m0 (pc1 := 92) rfl rfl (h_gC rfl rfl rfl rfl) rfl ?_
      refine w_p (pc1 := 94) rfl rfl ?_
      refine w_m0 (pc1 := 95) rfl rfl (h_bl rfl rfl (by decide) rfl) rfl ?_
      refine w_t (a := 102) (b := 98) (cb_eq_t (by exact (frM_t F).2.2.1 _ (by decide))) rfl rfl ?_
      refine w_p (pc1 := 103) (st1 := .int 0 :: _) rfl rfl ?_
      refine w_p (pc1 := 104) (st1 := .int 0 :: _) rfl rfl ?_
      refine w_p (pc1 := 106) (al1 := [(4, .int 0), (3, .int 0), (2, .int 0), (5, .int 4), (0, .ref 176), (1, .int 4)]) rfl rfl ?_
      refine w_p (pc1 := 109) (al1 := [(5, .int 5), (4, .int 0), (3, .int 0), (2, .int 0), (0, .ref 176), (1, .int 4)]) rfl rfl ?_
      refine w_p (pc1 := 29) rfl rfl ?_
      refine w_p (pc1 := 31) rfl rfl ?_
      refine w_p (pc1 := 33) (st1 := .int 24 :: _) rfl rfl ?_
      refine w_f (a := 112) (b := 36) rfl rfl rfl ?_
      refine w_p (pc1 := 37) rfl rfl ?_
      refine w_p (pc1 := 39) rfl rfl ?_
      refine w_p (pc1 := 41) (st1 := .int 6 :: _) rfl rfl ?_
      refine w_f (a := 58) (b := 44) rfl rfl rfl ?_
      refine w_p (pc1 := 45) rfl rfl ?_
      refine w_m0 (pc1 := 48) rfl rfl (h_gC rfl rfl rfl rfl) rfl ?_
      refine w_p (pc1 := 50) rfl rfl ?_
      refine w_m0 (pc1 := 51) rfl rfl (h_bl rfl rfl (by decide) rfl) rfl ?_
      refine w_t (a := 58) (b := 54) (cb_eq_t (by exact (frM_t F).1 _ (by decide))) rfl rfl ?_
      refine w_p (pc1 := 59) (st1 := .int 0 :: _) rfl rfl ?_
      refine w_p (pc1 := 60) (st1 := .int 0 :: _) rfl rfl ?_
      refine w_p (pc1 := 61) (al1 := [(2, .int 0), (5, .int 5), (4, .int 0), (3, .int 0), (0, .ref 176), (1, .int 4)]) rfl rfl ?_
      refine w_p (pc1 := 62) rfl rfl ?_
      refine w_p (pc1 := 63) rfl rfl ?_
      refine w_m0 (pc1 := 66) rfl rfl (h_gC rfl rfl rfl rfl) rfl ?_
      refine w_p (pc1 := 68) rfl rfl ?_
      refine w_m0 (pc1 := 69) rfl rfl (h_bl rfl rfl (by decide) rfl) rfl ?_
      refine w_t (a := 76) (b := 72) (cb_eq_t (by exact (frM_t F).2.1 _ (by decide))) rfl rfl ?_
      refine w_p (pc1 := 77) (st1 := .int 0 :: _) rfl rfl ?_
      refine w_p (pc1 := 78) (st1 := .int 0 :: _) rfl rfl ?_
      refine w_p (pc1 := 79) (al1 := [(3, .int 0), (2, .int 0), (5, .int 5), (4, .int 0), (0, .ref 176), (1, .int 4)]) rfl rfl ?_
      refine w_p (pc1 := 81) rfl rfl ?_
      refine w_p (pc1 := 83) rfl rfl ?_
      refine w_p (pc1 := 85) (st1 := .int 8 :: _) rfl rfl ?_
      refine w_f (a := 102) (b := 88) rfl rfl rfl ?_
      refine w_p (pc1 := 89) rfl rfl ?_
      refine w_m0 (pc1 := 92) rfl rfl (h_gC rfl rfl rfl rfl) rfl ?_
      refine w_p (pc1 := 94) rfl rfl ?_
      refine w_m0 (pc1 := 95) rfl rfl (h_bl rfl rfl (by decide) rfl) rfl ?_
      refine w_t (a := 102) (b := 98) (cb_eq_t (by exact (frM_t F).2.2.1 _ (by decide))) rfl rfl ?_
      refine w_p (pc1 := 103) (st1 := .int 0 :: _) rfl rfl ?_
      refine w_p (pc1 := 104) (st1 := .int 0 :: _) rfl rfl ?_
      refine w_p (pc1 := 106) (al1 := [(4, .int 0), (3, .int 0), (2, .int 0), (5, .int 5), (0, .ref 176), (1, .int 4)]) rfl rfl ?_
      refine w_p (pc1 := 109) (al1 := [(5, .int 6), (4, .int 0), (3, .int 0), (2, .int 0), (0, .ref 176), (1, .int 4)]) rfl rfl ?_
      refine w_p (pc1 := 29) rfl rfl ?_
      refine w_p (pc1 := 31) rfl rfl ?_
      refine w_p (pc1 := 33) (st1 := .int 24 :: _) rfl rfl ?_
      refine w_f (a := 112) (b := 36) rfl rfl rfl ?_
      refine w_p (pc1 := 37) rfl rfl ?_
      refine w_p (pc1 := 39) rfl rfl ?_
      refine w_p (pc1 := 41) (st1 := .int 6 :: _) rfl rfl ?_
      refine w_t (a := 58) (b := 44) rfl rfl rfl ?_
      refine w_p (pc1 := 59) (st1 := .int 0 :: _) rfl rfl ?_
      refine w_p (pc1 := 60) (st1 := .int 0 :: _) rfl rfl ?_
      refine w_p (pc1 := 61) (al1 := [(2, .int 0), (5, .int 6), (4, .int 0), (3, .int 0), (0, .ref 176), (1, .int 4)]) rfl rfl ?_
      refine w_p (pc1 := 62) rfl rfl ?_
      refine w_p (pc1 := 63) rfl rfl ?_
      refine w_m0 (pc1 := 66) rfl rfl (h_gC rfl rfl rfl rfl) rfl ?_
      refine w_p (pc1 := 68) rfl rfl ?_
      refine w_m0 (pc1 := 69) rfl rfl (h_bl rfl rfl (by decide) rfl) rfl ?_
      refine w_t (a := 76) (b := 72) (cb_eq_t (by exact (frM_t F).2.1 _ (by decide))) rfl rfl ?_
      refine w_p (pc1 := 77) (st1 := .int 0 :: _) rfl rfl ?_
      refine w_p (pc1 := 78) (st1 := .int 0 :: _) rfl rfl ?_
      refine w_p (pc1 := 79) (al1 := [(3, .int 0), (2, .int 0), (5, .int 6), (4, .int 0), (0, .ref 176), (1, .int 4)]) rfl rfl ?_
      refine w_p (pc1 := 81) rfl rfl ?_
      refine w_p (pc1 := 83) rfl rfl ?_
      refine w_p (pc1 := 85) (st1 := .int 8 :: _) rfl rfl ?_
      refine w_f (a := 102) (b := 88) rfl rfl rfl ?_
      refine w_p (pc1 := 89) rfl rfl ?_
      refine w_m0 (pc1 := 92) rfl rfl (h_gC rfl rfl rfl rfl) rfl ?_
      refine w_p (pc1 := 94) rfl rfl ?_
      refine w_m0 (pc1 := 95) rfl rfl (h_bl rfl rfl (by decide) rfl) rfl ?_
      refine w_t (a := 102) (b := 98) (cb_eq_t (by exact (frM_t F).2.2.1 _ (by decide))) rfl rfl ?_
      refine w_p (pc1 := 103) (st1 := .int 0 :: _) rfl rfl ?_
      refine w_p (pc1 := 104) (st1 := .int 0 :: _) rfl rfl ?_
      refine w_p (pc1 := 106) (al1 := [(4, .int 0), (3, .int 0), (2, .int 0), (5, .int 6), (0, .ref 176), (1, .int 4)]) rfl rfl ?_
      refine w_p (pc1 := 109) (al1 := [(5, .int 7), (4, .int 0), (3, .int 0), (2, .int 0), (0, .ref 176), (1, .int 4)]) rfl rfl ?_
      refine w_p (pc1 := 29) rfl rfl ?_
      refine w_p (pc1 := 31) rfl rfl ?_
      refine w_p (pc1 := 33) (st1 := .int 24 :: _) rfl rfl ?_
      refine w_f (a := 112) (b := 36) rfl rfl rfl ?_
      refine w_p (pc1 := 37) rfl rfl ?_
      refine w_p (pc1 := 39) rfl rfl ?_
      refine w_p (pc1 := 41) (st1 := .int 6 :: _) rfl rfl ?_
      refine w_t (a := 58) (b := 44) rfl rfl rfl ?_
      refine w_p (pc1 := 59) (st1 := .int 0 :: _) rfl rfl ?_
      refine w_p (pc1 := 60) (st1 := .int 0 :: _) rfl rfl ?_
      refine w_p (pc1 := 61) (al1 := [(2, .int 0), (5, .int 7), (4, .int 0), (3, .int 0), (0, .ref 176), (1, .int 4)]) rfl rfl ?_
      refine w_p (pc1 := 62) rfl rfl ?_
      refine w_p (pc1 := 63) rfl rfl ?_
      refine w_m0 (pc1 := 66) rfl rfl (h_gC rfl rfl rfl rfl) rfl ?_
      refine w_p (pc1 := 68) rfl rfl ?_
      refine w_m0 (pc1 := 69) rfl rfl (h_bl rfl rfl (by decide) rfl) rfl ?_
      refine w_t (a := 76) (b := 72) (cb_eq_t (by exact (frM_t F).2.1 _ (by decide))) rfl rfl ?_
      refine w_p (pc1 := 77) (st1 := .int 0 :: _) rfl rfl ?_
      refine w_p (pc1 := 78) (st1 := .int 0 :: _) rfl rfl ?_
      refine w_p (pc1 := 79) (al1 := [(3, .int 0), (2, .int 0), (5, .int 7), (4, .int 0), (0, .ref 176), (1, .int 4)]) rfl rfl ?_
      refine w_p (pc1 := 81) rfl rfl ?_
      refine w_p (pc1 := 83) rfl rfl ?_
      refine w_p (pc1 := 85) (st1 := .int 8 :: _) rfl rfl ?_
      refine w_f (a := 102) (b := 88) rfl rfl rfl ?_
      refine w_p (pc1 := 89) rfl rfl ?_
      refine w_m0 (pc1 := 92) rfl rfl (h_gC rfl rfl rfl rfl) rfl ?_
      refine w_p (pc1 := 94) rfl rfl ?_
      refine w_m0 (pc1 := 95) rfl rfl (h_bl rfl rfl (by decide) rfl) rfl ?_
      refine w_t (a := 102) (b := 98) (cb_eq_t (by exact (frM_t F).2.2.1 _ (by decide))) rfl rfl ?_
      refine w_p (pc1 := 103) (st1 := .int 0 :: _) rfl rfl ?_
      refine w_p (pc1 := 104) (st1 := .int 0 :: _) rfl rfl ?_
      refine w_p (pc1 := 106) (al1 := [(4, .int 0), (3, .int 0), (2, .int 0), (5, .int 7), (0, .ref 176), (1, .int 4)]) rfl rfl ?_
      refine w_p (pc1 := 109) (al1 := [(5, .int 8), (4, .int 0), (3, .int 0), (2, .int 0), (0, .ref 176), (1, .int 4)]) rfl rfl ?_
      refine w_p (pc1 := 29) rfl rfl ?_
      refine w_p (pc1 := 31) rfl rfl ?_
      refine w_p (pc1 := 33) (st1 := .int 24 :: _) rfl rfl ?_
      refine w_f (a := 112) (b := 36) rfl rfl rfl ?_
      refine w_p (pc1 := 37) rfl rfl ?_
      refine w_p (pc1 := 39) rfl rfl ?_
      refine w_p (pc1 := 41) (st1 := .int 6 :: _) rfl rfl ?_
      refine w_t (a := 58) (b := 44) rfl rfl rfl ?_
      refine w_p (pc1 := 59) (st1 := .int 0 :: _) rfl rfl ?_
      refine w_p (pc1 := 60) (st1 := .int 0 :: _) rfl rfl ?_
      refine w_p (pc1 := 61) (al1 := [(2, .int 0), (5, .int 8), (4, .int 0), (3, .int 0), (0, .ref 176), (1, .int 4)]) rfl rfl ?_
      refine w_p (pc1 := 62) rfl rfl ?_
      refine w_p (pc1 := 63) rfl rfl ?_
      refine w_m0 (pc1 := 66) rfl rfl (h_gC rfl rfl rfl rfl) rfl ?_
      refine w_p (pc1 := 68) rfl rfl ?_
      refine w_m0 (pc1 := 69) rfl rfl (h_bl rfl rfl (by decide) rfl) rfl ?_
      refine w_t (a := 76) (b := 72) (cb_eq_t (by exact (frM_t F).2.1 _ (by decide))) rfl rfl ?_
      refine w_p (pc1 := 77) (st1 := .int 0 :: _) rfl rfl ?_
      refine w_p (pc1 := 78) (st1 := .int 0 :: _) rfl rfl ?_
      refine w_p (pc1 := 79) (al1 := [(3, .int 0), (2, .int 0), (5, .int 8), (4, .int 0), (0, .ref 176), (1, .int 4)]) rfl rfl ?_
      refine w_p (pc1 := 81) rfl rfl ?_
      refine w_p (pc1 := 83) rfl rfl ?_
      refine w_p (pc1 := 85) (st1 := .int 8 :: _) rfl rfl ?_
      refine w_t (a := 102) (b := 88) rfl rfl rfl ?_
      refine w_p (pc1 := 103) (st1 := .int 0 :: _) rfl rfl ?_
      refine w_p (pc1 := 104) (st1 := .int 0 :: _) rfl rfl ?_
      refine w_p (pc1 := 106) (al1 := [(4, .int 0), (3, .int 0), (2, .int 0), (5, .int 8), (0, .ref 176), (1, .int 4)]) rfl rfl ?_
      refine w_p (pc1 := 109) (al1 := [(5, .int 9), (4, .int 0), (3, .int 0), (2, .int 0), (0, .ref 176), (1, .int 4)]) rfl rfl ?_
      refine w_p (pc1 := 29) rfl rfl ?_
      refine w_p (pc1 := 31) rfl rfl ?_
      refine w_p (pc1 := 33) (st1 := .int 24 :: _) rfl rfl ?_
      refine w_f (a := 112) (b := 36) rfl rfl rfl ?_
      refine w_p (pc1 := 37) rfl rfl ?_
      refine w_p (pc1 := 39) rfl rfl ?_
      refine w_p (pc1 := 41) (st1 := .int 6 :: _) rfl rfl ?_
      refine w_t (a := 58) (b := 44) rfl rfl rfl ?_
      refine w_p (pc1 := 59) (st1 := .int 0 :: _) rfl rfl ?_
      refine w_p (pc1 := 60) (st1 := .int 0 :: _) rfl rfl ?_
      refine w_p (pc1 := 61) (al1 := [(2, .int 0), (5, .int 9), (4, .int 0), (3, .int 0), (0, .ref 176), (1, .int 4)]) rfl rfl ?_
      refine w_p (pc1 := 62) rfl rfl ?_
      refine w_p (pc1 := 63) rfl rfl ?_
      refine w_m0 (pc1 := 66) rfl rfl (h_gC rfl rfl rfl rfl) rfl ?_
      refine w_p (pc1 := 68) rfl rfl ?_
      refine w_m0 (pc1 := 69) rfl rfl (h_bl rfl rfl (by decide) rfl) rfl ?_
      refine w_t (a := 76) (b := 72) (cb_eq_t (by exact (frM_t F).2.1 _ (by decide))) rfl rfl ?_
      refine w_p (pc1 := 77) (st1 := .int 0 :: _) rfl rfl ?_
      refine w_p (pc1 := 78) (st1 := .int 0 :: _) rfl rfl ?_
      refine w_p (pc1 := 79) (al1 := [(3, .int 0), (2, .int 0), (5, .int 9), (4, .int 0), (0, .ref 176), (1, .int 4)]) rfl rfl ?_
      refine w_p (pc1 := 81) rfl rfl ?_
      refine w_p (pc1 := 83) rfl rfl ?_
      refine w_p (pc1 := 85) (st1 := .int 8 :: _) rfl rfl ?_
      refine w_t (a := 102) (b := 88) rfl rfl rfl ?_
      refine w_p (pc1 := 103) (st1 := .int 0 :: _) rfl rfl ?_
      refine w_p (pc1 := 104) (st1 := .int 0 :: _) rfl rfl ?_
      refine w_p (pc1 := 106) (al1 := [(4, .int 0), (3, .int 0), (2, .int 0), (5, .int 9), (0, .ref 176), (1, .int 4)]) rfl rfl ?_
      refine w_p (pc1 := 109) (al1 := [(5, .int 10), (4, .int 0), (3, .int 0), (2, .int 0), (0, .ref 176), (1, .int 4)]) rfl rfl ?_
      refine w_p (pc1 := 29) rfl rfl ?_
      refine w_p (pc1 := 31) rfl rfl ?_
      refine w_p (pc1 := 33) (st1 := .int 24 :: _) rfl rfl ?_
      refine w_f (a := 112) (b := 36) rfl rfl rfl ?_
      refine w_p (pc1 := 37) rfl rfl ?_
      refine w_p (pc1 := 39) rfl rfl ?_
      refine w_p (pc1 := 41) (st1 := .int 6 :: _) rfl rfl ?_
      refine w_t (a := 58) (b := 44) rfl rfl rfl ?_
      refine w_p (pc1 := 59) (st1 := .int 0 :: _) rfl rfl ?_
      refine w_p (pc1 := 60) (st1 := .int 0 :: _) rfl rfl ?_
      refine w_p (pc1 := 61) (al1 := [(2, .int 0), (5, .int 10), (4, .int 0), (3, .int 0), (0, .ref 176), (1, .int 4)]) rfl rfl ?_
      refine w_p (pc1 := 62) rfl rfl ?_
      refine w_p (pc1 := 63) rfl rfl ?_
      refine w_m0 (pc1 := 66) rfl rfl (h_gC rfl rfl rfl rfl) rfl ?_
      refine w_p (pc1 := 68) rfl rfl ?_
      refine w_m0 (pc1 := 69) rfl rfl (h_bl rfl rfl (by decide) rfl) rfl ?_
      refine w_t (a := 76) (b := 72) (cb_eq_t (by exact (frM_t F).2.1 _ (by decide))) rfl rfl ?_
      refine w_p (pc1 := 77) (st1 := .int 0 :: _) rfl rfl ?_
      refine w_p (pc1 := 78) (st1 := .int 0 :: _) rfl rfl ?_
      refine w_p (pc1 := 79) (al1 := [(3, .int 0), (2, .int 0), (5, .int 10), (4, .int 0), (0, .ref 176), (1, .int 4)]) rfl rfl ?_
      refine w_p (pc1 := 81) rfl rfl ?_
      refine w_p (pc1 := 83) rfl rfl ?_
      refine w_p (pc1 := 85) (st1 := .int 8 :: _) rfl rfl ?_
      refine w_t (a := 102) (b := 88) rfl rfl rfl ?_
      refine w_p (pc1 := 103) (st1 := .int 0 :: _) rfl rfl ?_
      refine w_p (pc1 := 104) (st1 := .int 0 :: _) rfl rfl ?_
      refine w_p (pc1 := 106) (al1 := [(4, .int 0), (3, .int 0), (2, .int 0), (5, .int 10), (0, .ref 176), (1, .int 4)]) rfl rfl ?_
      refine w_p (pc1 := 109) (al1 := [(5, .int 11), (4, .int 0), (3, .int 0), (2, .int 0), (0, .ref 176), (1, .int 4)]) rfl rfl ?_
      refine w_p (pc1 := 29) rfl rfl ?_
      refine w_p (pc1 := 31) rfl rfl ?_
      refine w_p (pc1 := 33) (st1 := .int 24 :: _) rfl rfl ?_
      refine w_f (a := 112) (b := 36) rfl rfl rfl ?_
      refine w_p (pc1 := 37) rfl rfl ?_
      refine w_p (pc1 := 39) rfl rfl ?_
      refine w_p (pc1 := 41) (st1 := .int 6 :: _) rfl rfl ?_
      refine w_t (a := 58) (b := 44) rfl rfl rfl ?_
      refine w_p (pc1 := 59) (st1 := .int 0 :: _) rfl rfl ?_
      refine w_p (pc1 := 60) (st1 := .int 0 :: _) rfl rfl ?_
      refine w_p (pc1 := 61) (al1 := [(2, .int 0), (5, .int 11), (4, .int 0), (3, .int 0), (0, .ref 176), (1, .int 4)]) rfl rfl ?_
      refine w_p (pc1 := 62) rfl rfl ?_
      refine w_p (pc1 := 63) rfl rfl ?_
      refine w_m0 (pc1 := 66) rfl rfl (h_gC rfl rfl rfl rfl) rfl ?_
      refine w_p (pc1 := 68) rfl rfl ?_
      refine w_m0 (pc1 := 69) rfl rfl (h_bl rfl rfl (by decide) rfl) rfl ?_
      refine w_t (a := 76) (b := 72) (cb_eq_t (by exact (frM_t F).2.1 _ (by decide))) rfl rfl ?_
      refine w_p (pc1 := 77) (st1 := .int 0 :: _) rfl rfl ?_
      refine w_p (pc1 := 78) (st1 := .int 0 :: _) rfl rfl ?_
      refine w_p (pc1 := 79) (al1 := [(3, .int 0), (2, .int 0), (5, .int 11), (4, .int 0), (0, .ref 176), (1, .int 4)]) rfl rfl ?_
      refine w_p (pc1 := 81) rfl rfl ?_
      refine w_p (pc1 := 83) rfl rfl ?_
      refine w_p (pc1 := 85) (st1 := .int 8 :: _) rfl rfl ?_
      refine w_t (a := 102) (b := 88) rfl rfl rfl ?_
      refine w_p (pc1 := 103) (st1 := .int 0 :: _) rfl rfl ?_
      refine w_p (pc1 := 104) (st1 := .int 0 :: _) rfl rfl ?_
      refine w_p (pc1 := 106) (al1 := [(4, .int 0), (3, .int 0), (2, .int 0), (5, .int 11), (0, .ref 176), (1, .int 4)]) rfl rfl ?_
      refine w_p (pc1 := 109) (al1 := [(5, .int 12), (4, .int 0), (3, .int 0), (2, .int 0), (0, .ref 176), (1, .int 4)]) rfl rfl ?_
      refine w_p (pc1 := 29) rfl rfl ?_
      refine w_p (pc1 := 31) rfl rfl ?_
      refine w_p (pc1 := 33) (st1 := .int 24 :: _) rfl rfl ?_
      refine w_f (a := 112) (b := 36) rfl rfl rfl ?_
      refine w_p (pc1 := 37) rfl rfl ?_
      refine w_p (pc1 := 39) rfl rfl ?_
      refine w_p (pc1 := 41) (st1 := .int 6 :: _) rfl rfl ?_
      refine w_t (a := 58) (b := 44) rfl rfl rfl ?_
      refine w_p (pc1 := 59) (st1 := .int 0 :: _) rfl rfl ?_
      refine w_p (pc1 := 60) (st1 := .int 0 :: _) rfl rfl ?_
      refine w_p (pc1 := 61) (al1 := [(2, .int 0), (5, .int 12), (4, .int 0), (3, .int 0), (0, .ref 176), (1, .int 4)]) rfl rfl ?_
      refine w_p (pc1 := 62) rfl rfl ?_
      refine w_p (pc1 := 63) rfl rfl ?_
      refine w_m0 (pc1 := 66) rfl rfl (h_gC rfl rfl rfl rfl) rfl ?_
      refine w_p (pc1 := 68) rfl rfl ?_
      refine w_m0 (pc1 := 69) rfl rfl (h_bl rfl rfl (by decide) rfl) rfl ?_
      refine w_t (a := 76) (b := 72) (cb_eq_t (by exact (frM_t F).2.1 _ (by decide))) rfl rfl ?_
      refine w_p (pc1 := 77) (st1 := .int 0 :: _) rfl rfl ?_
      refine w_p (pc1 := 78) (st1 := .int 0 :: _) rfl rfl ?_
      refine w_p (pc1 := 79) (al1 := [(3, .int 0), (2, .int 0), (5, .int 12), (4, .int 0), (0, .ref 176), (1, .int 4)]) rfl rfl ?_
      refine w_p (pc1 := 81) rfl rfl ?_
      refine w_p (pc1 := 83) rfl rfl ?_
      refine w_p (pc1 := 85) (st1 := .int 8 :: _) rfl rfl ?_
      refine w_t (a := 102) (b := 88) rfl rfl rfl ?_
      refine w_p (pc1 := 103) (st1 := .int 0 :: _) rfl rfl ?_
      refine w_p (pc1 := 104) (st1 := .int 0 :: _) rfl rfl ?_
      refine w_p (pc1 := 106) (al1 := [(4, .int 0), (3, .int 0), (2, .int 0), (5, .int 12), (0, .ref 176), (1, .int 4)]) rfl rfl ?_
      refine w_p (pc1 := 109) (al1 := [(5, .int 13), (4, .int 0), (3, .int 0), (2, .int 0), (0, .ref 176), (1, .int 4)]) rfl rfl ?_
      refine w_p (pc1 := 29) rfl rfl ?_
      refine w_p (pc1 := 31) rfl rfl ?_
      refine w_p (pc1 := 33) (st1 := .int 24 :: _) rfl rfl ?_
      refine w_f (a := 112) (b := 36) rfl rfl rfl ?_
      refine w_p (pc1 := 37) rfl rfl ?_
      refine w_p (pc1 := 39) rfl rfl ?_
      refine w_p (pc1 := 41) (st1 := .int 6 :: _) rfl rfl ?_
      refine w_t (a := 58) (b := 44) rfl rfl rfl ?_
      refine w_p (pc1 := 59) (st1 := .int 0 :: _) rfl rfl ?_
      refine w_p (pc1 := 60) (st1 := .int 0 :: _) rfl rfl ?_
      refine w_p (pc1 := 61) (al1 := [(2, .int 0), (5, .int 13), (4, .int 0), (3, .int 0), (0, .ref 176), (1, .int 4)]) rfl rfl ?_
      refine w_p (pc1 := 62) rfl rfl ?_
      refine w_p (pc1 := 63) rfl rfl ?_
      refine w_m0 (pc1 := 66) rfl rfl (h_gC rfl rfl rfl rfl) rfl ?_
      refine w_p (pc1 := 68) rfl rfl ?_
      refine w_m0 (pc1 := 69) rfl rfl (h_bl rfl rfl (by decide) rfl) rfl ?_
      refine w_t (a := 76) (b := 72) (cb_eq_t (by exact (frM_t F).2.1 _ (by decide))) rfl rfl ?_
      refine w_p (pc1 := 77) (st1 := .int 0 :: _) rfl rfl ?_
      refine w_p (pc1 := 78) (st1 := .int 0 :: _) rfl rfl ?_
      refine w_p (pc1 := 79) (al1 := [(3, .int 0), (2, .int 0), (5, .int 13), (4, .int 0), (0, .ref 176), (1, .int 4)]) rfl rfl ?_
      refine w_p (pc1 := 81) rfl rfl ?_
      refine w_p (pc1 := 83) rfl rfl ?_
      refine w_p (pc1 := 85) (st1 := .int 8 :: _) rfl rfl ?_
      refine w_t (a := 102) (b := 88) rfl rfl rfl ?_
      refine w_p (pc1 := 103) (st1 := .int 0 :: _) rfl rfl ?_
      refine w_p (pc1 := 104) (st1 := .int 0 :: _) rfl rfl ?_
      refine w_p (pc1 := 106) (al1 := [(4, .int 0), (3, .int 0), (2, .int 0), (5, .int 13), (0, .ref 176), (1, .int 4)]) rfl rfl ?_
      refine w_p (pc1 := 109) (al1 := [(5, .int 14), (4, .int 0), (3, .int 0), (2, .int 0), (0, .ref 176), (1, .int 4)]) rfl rfl ?_
      refine w_p (pc1 := 29) rfl rfl ?_
      refine w_p (pc1 := 31) rfl rfl ?_
      refine w_p (pc1 := 33) (st1 := .int 24 :: _) rfl rfl ?_
      refine w_f (a := 112) (b := 36) rfl rfl rfl ?_
      refine w_p (pc1 := 37) rfl rfl ?_
      refine w_p (pc1 := 39) rfl rfl ?_
      refine w_p (pc1 := 41) (st1 := .int 6 :: _) rfl rfl ?_
      refine w_t (a := 58) (b := 44) rfl rfl rfl ?_
      refine w_p (pc1 := 59) (st1 := .int 0 :: _) rfl rfl ?_
      refine w_p (pc1 := 60) (st1 := .int 0 :: _) rfl rfl ?_
      refine w_p (pc1 := 61) (al1 := [(2, .int 0), (5, .int 14), (4, .int 0), (3, .int 0), (0, .ref 176), (1, .int 4)]) rfl rfl ?_
      refine w_p (pc1 := 62) rfl rfl ?_
      refine w_p (pc1 := 63) rfl rfl ?_
      refine w_m0 (pc1 := 66) rfl rfl (h_gC rfl rfl rfl rfl) rfl ?_
      refine w_p (pc1 := 68) rfl rfl ?_
      refine w_m0 (pc1 := 69) rfl rfl (h_bl rfl rfl (by decide) rfl) rfl ?_
      refine w_t (a := 76) (b := 72) (cb_eq_t (by exact (frM_t F).2.1 _ (by decide))) rfl rfl ?_
      refine w_p (pc1 := 77) (st1 := .int 0 :: _) rfl rfl ?_
      refine w_p (pc1 := 78) (st1 := .int 0 :: _) rfl rfl ?_
      refine w_p (pc1 := 79) (al1 := [(3, .int 0), (2, .int 0), (5, .int 14), (4, .int 0), (0, .ref 176), (1, .int 4)]) rfl rfl ?_
      refine w_p (pc1 := 81) rfl rfl ?_
      refine w_p (pc1 := 83) rfl rfl ?_
      refine w_p (pc1 := 85) (st1 := .int 8 :: _) rfl rfl ?_
      refine w_t (a := 102) (b := 88) rfl rfl rfl ?_
      refine w_p (pc1 := 103) (st1 := .int 0 :: _) rfl rfl ?_
      refine w_p (pc1 := 104) (st1 := .int 0 :: _) rfl rfl ?_
      refine w_p (pc1 := 106) (al1 := [(4, .int 0), (3, .int 0), (2, .int 0), (5, .int 14), (0, .ref 176), (1, .int 4)]) rfl rfl ?_
      refine w_p (pc1 := 109) (al1 := [(5, .int 15), (4, .int 0), (3, .int 0), (2, .int 0), (0, .ref 176), (1, .int 4)]) rfl rfl ?_
      refine w_p (pc1 := 29) rfl rfl ?_
      refine w_p (pc1 := 31) rfl rfl ?_
      refine w_p (pc1 := 33) (st1 := .int 24 :: _) rfl rfl ?_
      refine w_f (a := 112) (b := 36) rfl rfl rfl ?_
      refine w_p (pc1 := 37) rfl rfl ?_
      refine w_p (pc1 := 39) rfl rfl ?_
      refine w_p (pc1 := 41) (st1 := .int 6 :: _) rfl rfl ?_
      refine w_t (a := 58) (b := 44) rfl rfl rfl ?_
      refine w_p (pc1 := 59) (st1 := .int 0 :: _) rfl rfl ?_
      refine w_p (pc1 := 60) (st1 := .int 0 :: _) rfl rfl ?_
      refine w_p (pc1 := 61) (al1 := [(2, .int 0), (5, .int 15), (4, .int 0), (3, .int 0), (0, .ref 176), (1, .int 4)]) rfl rfl ?_
      refine w_p (pc1 := 62) rfl rfl ?_
      refine w_p (pc1 := 63) rfl rfl ?_
      refine w_m0 (pc1 := 66) rfl rfl (h_gC rfl rfl rfl rfl) rfl ?_
      refine w_p (pc1 := 68) rfl rfl ?_
      refine w_m0 (pc1 := 69) rfl rfl (h_bl rfl rfl (by decide) rfl) rfl ?_
      refine w_t (a := 76) (b := 72) (cb_eq_t (by exact (frM_t F).2.1 _ (by decide))) rfl rfl ?_
      refine w_p (pc1 := 77) (st1 := .int 0 :: _) rfl rfl ?_
      refine w_p (pc1 := 78) (st1 := .int 0 :: _) rfl rfl ?_
      refine w_p (pc1 := 79) (al1 := [(3, .int 0), (2, .int 0), (5, .int 15), (4, .int 0), (0, .ref 176), (1, .int 4)]) rfl rfl ?_
      refine w_p (pc1 := 81) rfl rfl ?_
      refine w_p (pc1 := 83) rfl rfl ?_
      refine w_p (pc1 := 85) (st1 := .int 8 :: _) rfl rfl ?_
      refine w_t (a := 102) (b := 88) rfl rfl rfl ?_
      refine w_p (pc1 := 103) (st1 := .int 0 :: _) rfl rfl ?_
      refine w_p (pc1 := 104) (st1 := .int 0 :: _) rfl rfl ?_
      refine w_p (pc1 := 106) (al1 := [(4, .int 0), (3, .int 0), (2, .int 0), (5, .int 15), (0, .ref 176), (1, .int 4)]) rfl rfl ?_
      refine w_p (pc1 := 109) (al1 := [(5, .int 16), (4, .int 0), (3, .int 0), (2, .int 0), (0, .ref 176), (1, .int 4)]) rfl rfl ?_
      refine w_p (pc1 := 29) rfl rfl ?_
      refine w_p (pc1 := 31) rfl rfl ?_
      refine w_p (pc1 := 33) (st1 := .int 24 :: _) rfl rfl ?_
      refine w_f (a := 112) (b := 36) rfl rfl rfl ?_
      refine w_p (pc1 := 37) rfl rfl ?_
      refine w_p (pc1 := 39) rfl rfl ?_
      refine w_p (pc1 := 41) (st1 := .int 6 :: _) rfl rfl ?_
      refine w_t (a := 58) (b := 44) rfl rfl rfl ?_
      refine w_p (pc1 := 59) (st1 := .int 0 :: _) rfl rfl ?_
      refine w_p (pc1 := 60) (st1 := .int 0 :: _) rfl rfl ?_
      refine w_p (pc1 := 61) (al1 := [(2, .int 0), (5, .int 16), (4, .int 0), (3, .int 0), (0, .ref 176), (1, .int 4)]) rfl rfl ?_
      refine w_p (pc1 := 62) rfl rfl ?_
      refine w_p (pc1 := 63) rfl rfl ?_
      refine w_m0 (pc1 := 66) rfl rfl (h_gC rfl rfl rfl rfl) rfl ?_
      refine w_p (pc1 := 68) rfl rfl ?_
      refine w_m0 (pc1 := 69) rfl rfl (h_bl rfl rfl (by decide) rfl) rfl ?_
      refine w_t (a := 76) (b := 72) (cb_eq_t (by exact (frM_t F).2.1 _ (by decide))) rfl rfl ?_
      refine w_p (pc1 := 77) (st1 := .int 0 :: _) rfl rfl ?_
      refine w_p (pc1 := 78) (st1 := .int 0 :: _) rfl rfl ?_
      refine w_p (pc1 := 79) (al1 := [(3, .int 0), (2, .int 0), (5, .int 16), (4, .int 0), (0, .ref 176), (1, .int 4)]) rfl rfl ?_
      refine w_p (pc1 := 81) rfl rfl ?_
      refine w_p (pc1 := 83) rfl rfl ?_
      refine w_p (pc1 := 85) (st1 := .int 8 :: _) rfl rfl ?_
      refine w_t (a := 102) (b := 88) rfl rfl rfl ?_
      refine w_p (pc1 := 103) (st1 := .int 0 :: _) rfl rfl ?_
      refine w_p (pc1 := 104) (st1 := .int 0 :: _) rfl rfl ?_
      refine w_p (pc1 := 106) (al1 := [(4, .int 0), (3, .int 0), (2, .int 0), (5, .int 16), (0, .ref 176), (1, .int 4)]) rfl rfl ?_
      refine w_p (pc1 := 109) (al1 := [(5, .int 17), (4, .int 0), (3, .int 0), (2, .int 0), (0, .ref 176), (1, .int 4)]) rfl rfl ?_
      refine w_p (pc1 := 29) rfl rfl ?_
      refine w_p (pc1 := 31) rfl rfl ?_
      refine w_p (pc1 := 33) (st1 := .int 24 :: _) rfl rfl ?_
      refine w_f (a := 112) (b := 36) rfl rfl rfl ?_
      refine w_p (pc1 := 37) rfl rfl ?_
      refine w_p (pc1 := 39) rfl rfl ?_
      refine w_p (pc1 := 41) (st1 := .int 6 :: _) rfl rfl ?_
      refine w_t (a := 58) (b := 44) rfl rfl rfl ?_
      refine w_p (pc1 := 59) (st1 := .int 0 :: _) rfl rfl ?_
      refine w_p (pc1 := 60) (st1 := .int 0 :: _) rfl rfl ?_
      refine w_p (pc1 := 61) (al1 := [(2, .int 0), (5, .int 17), (4, .int 0), (3, .int 0), (0, .ref 176), (1, .int 4)]) rfl rfl ?_
      refine w_p (pc1 := 62) rfl rfl ?_
      refine w_p (pc1 := 63) rfl rfl ?_
      refine w_m0 (pc1 := 66) rfl rfl (h_gC rfl rfl rfl rfl) rfl ?_
      refine w_p (pc1 := 68) rfl rfl ?_
      refine w_m0 (pc1 := 69) rfl rfl (h_bl rfl rfl (by decide) rfl) rfl ?_
      refine w_t (a := 76) (b := 72) (cb_eq_t (by exact (frM_t F).2.1 _ (by decide))) rfl rfl ?_
      refine w_p (pc1 := 77) (st1 := .int 0 :: _) rfl rfl ?_
      refine w_p (pc1 := 78) (st1 := .int 0 :: _) rfl rfl ?_
      refine w_p (pc1 := 79) (al1 := [(3, .int 0), (2, .int 0), (5, .int 17), (4, .int 0), (0, .ref 176), (1, .int 4)]) rfl rfl ?_
      refine w_p (pc1 := 81) rfl rfl ?_
      refine w_p (pc1 := 83) rfl rfl ?_
      refine w_p (pc1 := 85) (st1 := .int 8 :: _) rfl rfl ?_
      refine w_t (a := 102) (b := 88) rfl rfl rfl ?_
      refine w_p (pc1 := 103) (st1 := .int 0 :: _) rfl rfl ?_
      refine w_p (pc1 := 104) (st1 := .int 0 :: _) rfl rfl ?_
      refine w_p (pc1 := 106) (al1 := [(4, .int 0), (3, .int 0), (2, .int 0), (5, .int 17), (0, .ref 176), (1, .int 4)]) rfl rfl ?_
      refine w_p (pc1 := 109) (al1 := [(5, .int 18), (4, .int 0), (3, .int 0), (2, .int 0), (0, .ref 176), (1, .int 4)]) rfl rfl ?_
      refine w_p (pc1 := 29) rfl rfl ?_
      refine w_p (pc1 := 31) rfl rfl ?_
      refine w_p (pc1 := 33) (st1 := .int 24 :: _) rfl rfl ?_
      refine w_f (a := 112) (b := 36) rfl rfl rfl ?_
      refine w_p (pc1 := 37) rfl rfl ?_
      refine w_p (pc1 := 39) rfl rfl ?_
      refine w_p (pc1 := 41) (st1 := .int 6 :: _) rfl rfl ?_
      refine w_t (a := 58) (b := 44) rfl rfl rfl ?_
      refine w_p (pc1 := 59) (st1 := .int 0 :: _) rfl rfl ?_
      refine w_p (pc1 := 60) (st1 := .int 0 :: _) rfl rfl ?_
      refine w_p (pc1 := 61) (al1 := [(2, .int 0), (5, .int 18), (4, .int 0), (3, .int 0), (0, .ref 176), (1, .int 4)]) rfl rfl ?_
      refine w_p (pc1 := 62) rfl rfl ?_
      refine w_p (pc1 := 63) rfl rfl ?_
      refine w_m0 (pc1 := 66) rfl rfl (h_gC rfl rfl rfl rfl) rfl ?_
      refine w_p (pc1 := 68) rfl rfl ?_
      refine w_m0 (pc1 := 69) rfl rfl (h_bl rfl rfl (by decide) rfl) rfl ?_
      refine w_t (a := 76) (b := 72) (cb_eq_t (by exact (frM_t F).2.1 _ (by decide))) rfl rfl ?_
      refine w_p (pc1 := 77) (st1 := .int 0 :: _) rfl rfl ?_
      refine w_p (pc1 := 78) (st1 := .int 0 :: _) rfl rfl ?_
      refine w_p (pc1 := 79) (al1 := [(3, .int 0), (2, .int 0), (5, .int 18), (4, .int 0), (0, .ref 176), (1, .int 4)]) rfl rfl ?_
      refine w_p (pc1 := 81) rfl rfl ?_
      refine w_p (pc1 := 83) rfl rfl ?_
      refine w_p (pc1 := 85) (st1 := .int 8 :: _) rfl rfl ?_
      refine w_t (a := 102) (b := 88) rfl rfl rfl ?_
      refine w_p (pc1 := 103) (st1 := .int 0 :: _) rfl rfl ?_
      refine w_p (pc1 := 104) (st1 := .int 0 :: _) rfl rfl ?_
      refine w_p (pc1 := 106) (al1 := [(4, .int 0), (3, .int 0), (2, .int 0), (5, .int 18), (0, .ref 176), (1, .int 4)]) rfl rfl ?_
      refine w_p (pc1 := 109) (al1 := [(5, .int 19), (4, .int 0), (3, .int 0), (2, .int 0), (0, .ref 176), (1, .int 4)]) rfl rfl ?_
      refine w_p (pc1 := 29) rfl rfl ?_
      refine w_p (pc1 := 31) rfl rfl ?_
      refine w_p (pc1 := 33) (st1 := .int 24 :: _) rfl rfl ?_
      refine w_f (a := 112) (b := 36) rfl rfl rfl ?_
      refine w_p (pc1 := 37) rfl rfl ?_
      refine w_p (pc1 := 39) rfl rfl ?_
      refine w_p (pc1 := 41) (st1 := .int 6 :: _) rfl rfl ?_
      refine w_t (a := 58) (b := 44) rfl rfl rfl ?_
      refine w_p (pc1 := 59) (st1 := .int 0 :: _) rfl rfl ?_
      refine w_p (pc1 := 60) (st1 := .int 0 :: _) rfl rfl ?_
      refine w_p (pc1 := 61) (al1 := [(2, .int 0), (5, .int 19), (4, .int 0), (3, .int 0), (0, .ref 176), (1, .int 4)]) rfl rfl ?_
      refine w_p (pc1 := 62) rfl rfl ?_
      refine w_p (pc1 := 63) rfl rfl ?_
      refine w_m0 (pc1 := 66) rfl rfl (h_gC rfl rfl rfl rfl) rfl ?_
      refine w_p (pc1 := 68) rfl rfl ?_
      refine w_m0 (pc1 := 69) rfl rfl (h_bl rfl rfl (by decide) rfl) rfl ?_
      refine w_t (a := 76) (b := 72) (cb_eq_t (by exact (frM_t F).2.1 _ (by decide))) rfl rfl ?_
      refine w_p (pc1 := 77) (st1 := .int 0 :: _) rfl rfl ?_
      refine w_p (pc1 := 78) (st1 := .int 0 :: _) rfl rfl ?_
      refine w_p (pc1 := 79) (al1 := [(3, .int 0), (2, .int 0), (5, .int 19), (4, .int 0), (0, .ref 176), (1, .int 4)]) rfl rfl ?_
      refine w_p (pc1 := 81) rfl rfl ?_
      refine w_p (pc1 := 83) rfl rfl ?_
      refine w_p (pc1 := 85) (st1 := .int 8 :: _) rfl rfl ?_
      refine w_t (a := 102) (b := 88) rfl rfl rfl ?_
      refine w_p (pc1 := 103) (st1 := .int 0 :: _) rfl rfl ?_
      refine w_p (pc1 := 104) (st1 := .int 0 :: _) rfl rfl ?_
      refine w_p (pc1 := 106) (al1 := [(4, .int 0), (3, .int 0), (2, .int 0), (5, .int 19), (0, .ref 176), (1, .int 4)]) rfl rfl ?_
      refine w_p (pc1 := 109) (al1 := [(5, .int 20), (4, .int 0), (3, .int 0), (2, .int 0), (0, .ref 176), (1, .int 4)]) rfl rfl ?_
      refine w_p (pc1 := 29) rfl rfl ?_
      refine w_p (pc1 := 31) rfl rfl ?_
      refine w_p (pc1 := 33) (st1 := .int 24 :: _) rfl rfl ?_
      refine w_f (a := 112) (b := 36) rfl rfl rfl ?_
      refine w_p (pc1 := 37) rfl rfl ?_
      refine w_p (pc1 := 39) rfl rfl ?_
      refine w_p (pc1 := 41) (st1 := .int 6 :: _) rfl rfl ?_
      refine w_t (a := 58) (b := 44) rfl rfl rfl ?_
      refine w_p (pc1 := 59) (st1 := .int 0 :: _) rfl rfl ?_
      refine w_p (pc1 := 60) (st1 := .int 0 :: _) rfl rfl ?_
      refine w_p (pc1 := 61) (al1 := [(2, .int 0), (5, .int 20), (4, .int 0), (3, .int 0), (0, .ref 176), (1, .int 4)]) rfl rfl ?_
      refine w_p (pc1 := 62) rfl rfl ?_
      refine w_p (pc1 := 63) rfl rfl ?_
      refine w_m0 (pc1 := 66) rfl rfl (h_gC rfl rfl rfl rfl) rfl ?_
      refine w_p (pc1 := 68) rfl rfl ?_
      refine w_m0 (pc1 := 69) rfl rfl (h_bl rfl rfl (by decide) rfl) rfl ?_
      refine w_t (a := 76) (b := 72) (cb_eq_t (by exact (frM_t F).2.1 _ (by decide))) rfl rfl ?_
      refine w_p (pc1 := 77) (st1 := .int 0 :: _) rfl rfl ?_
      refine w_p (pc1 := 78) (st1 := .int 0 :: _) rfl rfl ?_
      refine w_p (pc1 := 79) (al1 := [(3, .int 0), (2, .int 0), (5, .int 20), (4, .int 0), (0, .ref 176), (1, .int 4)]) rfl rfl ?_
      refine w_p (pc1 := 81) rfl rfl ?_
      refine w_p (pc1 := 83) rfl rfl ?_
      refine w_p (pc1 := 85) (st1 := .int 8 :: _) rfl rfl ?_
      refine w_t (a := 102) (b := 88) rfl rfl rfl ?_
      refine w_p (pc1 := 103) (st1 := .int 0 :: _) rfl rfl ?_
      refine w_p (pc1 := 104) (st1 := .int 0 :: _) rfl rfl ?_
      refine w_p (pc1 := 106) (al1 := [(4, .int 0), (3, .int 0), (2, .int 0), (5, .int 20), (0, .ref 176), (1, .int 4)]) rfl rfl ?_
      refine w_p (pc1 := 109) (al1 := [(5, .int 21), (4, .int 0), (3, .int 0), (2, .int 0), (0, .ref 176), (1, .int 4)]) rfl rfl ?_
      refine w_p (pc1 := 29) rfl rfl ?_
      refine w_p (pc1 := 31) rfl rfl ?_
      refine w_p (pc1 := 33) (st1 := .int 24 :: _) rfl rfl ?_
      refine w_f (a := 112) (b := 36) rfl rfl rfl ?_
      refine w_p (pc1 := 37) rfl rfl ?_
      refine w_p (pc1 := 39) rfl rfl ?_
      refine w_p (pc1 := 41) (st1 := .int 6 :: _) rfl rfl ?_
      refine w_t (a := 58) (b := 44) rfl rfl rfl ?_
      refine w_p (pc1 := 59) (st1 := .int 0 :: _) rfl rfl ?_
      refine w_p (pc1 := 60) (st1 := .int 0 :: _) rfl rfl ?_
      refine w_p (pc1 := 61) (al1 := [(2, .int 0), (5, .int 21), (4, .int 0), (3, .int 0), (0, .ref 176), (1, .int 4)]) rfl rfl ?_
      refine w_p (pc1 := 62) rfl rfl ?_
      refine w_p (pc1 := 63) rfl rfl ?_
      refine w_m0 (pc1 := 66) rfl rfl (h_gC rfl rfl rfl rfl) rfl ?_
      refine w_p (pc1 := 68) rfl rfl ?_
      refine w_m0 (pc1 := 69) rfl rfl (h_bl rfl rfl (by decide) rfl) rfl ?_
      refine w_t (a := 76) (b := 72) (cb_eq_t (by exact (frM_t F).2.1 _ (by decide))) rfl rfl ?_
      refine w_p (pc1 := 77) (st1 := .int 0 :: _) rfl rfl ?_
      refine w_p (pc1 := 78) (st1 := .int 0 :: _) rfl rfl ?_
      refine w_p (pc1 := 79) (al1 := [(3, .int 0), (2, .int 0), (5, .int 21), (4, .int 0), (0, .ref 176), (1, .int 4)]) rfl rfl ?_
      refine w_p (pc1 := 81) rfl rfl ?_
      refine w_p (pc1 := 83) rfl rfl ?_
      refine w_p (pc1 := 85) (st1 := .int 8 :: _) rfl rfl ?_
      refine w_t (a := 102) (b := 88) rfl rfl rfl ?_
      refine w_p (pc1 := 103) (st1 := .int 0 :: _) rfl rfl ?_
      refine w_p (pc1 := 104) (st1 := .int 0 :: _) rfl rfl ?_
      refine w_p (pc1 := 106) (al1 := [(4, .int 0), (3, .int 0), (2, .int 0), (5, .int 21), (0, .ref 176), (1, .int 4)]) rfl rfl ?_
      refine w_p (pc1 := 109) (al1 := [(5, .int 22), (4, .int 0), (3, .int 0), (2, .int 0), (0, .ref 176), (1, .int 4)]) rfl rfl ?_
      refine w_p (pc1 := 29) rfl rfl ?_
      refine w_p (pc1 := 31) rfl rfl ?_
      refine w_p (pc1 := 33) (st1 := .int 24 :: _) rfl rfl ?_
      refine w_f (a := 112) (b := 36) rfl rfl rfl ?_
      refine w_p (pc1 := 37) rfl rfl ?_
      refine w_p (pc1 := 39) rfl rfl ?_
      refine w_p (pc1 := 41) (st1 := .int 6 :: _) rfl rfl ?_
      refine w_t (a := 58) (b := 44) rfl rfl rfl ?_
      refine w_p (pc1 := 59) (st1 := .int 0 :: _) rfl rfl ?_
      refine w_p (pc1 := 60) (st1 := .int 0 :: _) rfl rfl ?_
      refine w_p (pc1 := 61) (al1 := [(2, .int 0), (5, .int 22), (4, .int 0), (3, .int 0), (0, .ref 176), (1, .int 4)]) rfl rfl ?_
      refine w_p (pc1 := 62) rfl rfl ?_
      refine w_p (pc1 := 63) rfl rfl ?_
      refine w_m0 (pc1 := 66) rfl rfl (h_gC rfl rfl rfl rfl) rfl ?_
      refine w_p (pc1 := 68) rfl rfl ?_
      refine w_m0 (pc1 := 69) rfl rfl (h_bl rfl rfl (by decide) rfl) rfl ?_
      refine w_t (a := 76) (b := 72) (cb_eq_t (by exact (frM_t F).2.1 _ (by decide))) rfl rfl ?_
      refine w_p (pc1 := 77) (st1 := .int 0 :: _) rfl rfl ?_
      refine w_p (pc1 := 78) (st1 := .int 0 :: _) rfl rfl ?_
      refine w_p (pc1 := 79) (al1 := [(3, .int 0), (2, .int 0), (5, .int 22), (4, .int 0), (0, .ref 176), (1, .int 4)]) rfl rfl ?_
      refine w_p (pc1 := 81) rfl rfl ?_
      refine w_p (pc1 := 83) rfl rfl ?_
      refine w_p (pc1 := 85) (st1 := .int 8 :: _) rfl rfl ?_
      refine w_t (a := 102) (b := 88) rfl rfl rfl ?_
      refine w_p (pc1 := 103) (st1 := .int 0 :: _) rfl rfl ?_
      refine w_p (pc1 := 104) (st1 := .int 0 :: _) rfl rfl ?_
      refine w_p (pc1 := 106) (al1 := [(4, .int 0), (3, .int 0), (2, .int 0), (5, .int 22), (0, .ref 176), (1, .int 4)]) rfl rfl ?_
      refine w_p (pc1 := 109) (al1 := [(5, .int 23), (4, .int 0), (3, .int 0), (2, .int 0), (0, .ref 176), (1, .int 4)]) rfl rfl ?_
      refine w_p (pc1 := 29) rfl rfl ?_
      refine w_p (pc1 := 31) rfl rfl ?_
      refine w_p (pc1 := 33) (st1 := .int 24 :: _) rfl rfl ?_
      refine w_f (a := 112) (b := 36) rfl rfl rfl ?_
      refine w_p (pc1 := 37) rfl rfl ?_
      refine w_p (pc1 := 39) rfl rfl ?_
      refine w_p (pc1 := 41) (st1 := .int 6 :: _) rfl rfl ?_
      refine w_t (a := 58) (b := 44) rfl rfl rfl ?_
      refine w_p (pc1 := 59) (st1 := .int 0 :: _) rfl rfl ?_
      refine w_p (pc1 := 60) (st1 := .int 0 :: _) rfl rfl ?_
      refine w_p (pc1 := 61) (al1 := [(2, .int 0), (5, .int 23), (4, .int 0), (3, .int 0), (0, .ref 176), (1, .int 4)]) rfl rfl ?_
      refine w_p (pc1 := 62) rfl rfl ?_
      refine w_p (pc1 := 63) rfl rfl ?_
      refine w_m0 (pc1 := 66) rfl rfl (h_gC rfl rfl rfl rfl) rfl ?_
      refine w_p (pc1 := 68) rfl rfl ?_
      refine w_m0 (pc1 := 69) rfl rfl (h_bl rfl rfl (by decide) rfl) rfl ?_
      refine w_t (a := 76) (b := 72) (cb_eq_t (by exact (frM_t F).2.1 _ (by decide))) rfl rfl ?_
      refine w_p (pc1 := 77) (st1 := .int 0 :: _) rfl rfl ?_
      refine w_p (pc1 := 78) (st1 := .int 0 :: _) rfl rfl ?_
      refine w_p (pc1 := 79) (al1 := [(3, .int 0), (2, .int 0), (5, .int 23), (4, .int 0), (0, .ref 176), (1, .int 4)]) rfl rfl ?_
      refine w_p (pc1 := 81) rfl rfl ?_
      refine w_p (pc1 := 83) rfl rfl ?_
      refine w_p (pc1 := 85) (st1 := .int 8 :: _) rfl rfl ?_
      refine w_t (a := 102) (b := 88) rfl rfl rfl ?_
      refine w_p (pc1 := 103) (st1 := .int 0 :: _) rfl rfl ?_
      refine w_p (pc1 := 104) (st1 := .int 0 :: _) rfl rfl ?_
      refine w_p (pc1 := 106) (al1 := [(4, .int 0), (3, .int 0), (2, .int 0), (5, .int 23), (0, .ref 176), (1, .int 4)]) rfl rfl ?_
      refine w_p (pc1 := 109) (al1 := [(5, .int 24), (4, .int 0), (3, .int 0), (2, .int 0), (0, .ref 176), (1, .int 4)]) rfl rfl ?_
      refine w_p (pc1 := 29) rfl rfl ?_
      refine w_p (pc1 := 31) rfl rfl ?_
      refine w_p (pc1 := 33) (st1 := .int 24 :: _) rfl rfl ?_
      refine w_t (a := 112) (b := 36) rfl rfl rfl ?_
      refine w_p (pc1 := 113) rfl rfl ?_
      refine w_t (a := 120) (b := 116) rfl rfl rfl ?_
      refine w_p (pc1 := 121) rfl rfl ?_
      refine w_p (pc1 := 122) (st1 := .int 1 :: _) rfl rfl ?_
      refine w_t (a := 129) (b := 125) rfl rfl rfl ?_
      refine w_p (pc1 := 130) rfl rfl ?_
      refine w_p (pc1 := 131) (st1 := .int 2 :: _) rfl rfl ?_
      refine w_t (a := 139) (b := 134) rfl rfl rfl ?_
      refine w_p (pc1 := 140) rfl rfl ?_
      refine w_p (pc1 := 141) (st1 := .int 3 :: _) rfl rfl ?_
      refine w_t (a := 151) (b := 144) rfl rfl rfl ?_
      refine w_p (pc1 := 152) rfl rfl ?_
      refine w_p (pc1 := 153) (st1 := .int 4 :: _) rfl rfl ?_
      refine w_f (a := 163) (b := 156) rfl rfl rfl ?_
      refine w_p (pc1 := 157) rfl rfl ?_
      refine w_je (pc1 := 160) (vs := [.ref 176]) (rest := []) (st1 := [.int 0]) (m_194z (d := _) (sl := 0) (frM_t F)) rfl rfl rfl (fun _ _ => rfl) rfl (by exact cl_v my_194 rfl rfl rfl (Nat.le_of_ble_eq_true rfl) rfl (MH_obj rfl rfl) rfl (by decide) rfl rfl) (by rfl) (Nat.le_of_ble_eq_true rfl) (Nat.le_of_ble_eq_true rfl) rfl (by rfl) ?_
      refine w_p (pc1 := 187) rfl rfl ?_
      refine w_r rfl rfl rfl (fun _ _ => rfl) cr_int ?_
      refine Or.inl ⟨by decide, ?_, rfl, rfl⟩; first | rfl | rw [(frM_t F).2.2.2.1] | rw [(frM_t F).2.2.2.2.2]
    · skip
      refine w_p (pc1 := 1) rfl rfl ?_
      refine w_p (pc1 := 2) rfl rfl ?_
      refine w_p (pc1 := 3) (st1 := .long 5 :: _) rfl rfl ?_
      refine w_p (pc1 := 4) (st1 := .long 0 :: _) rfl rfl ?_
      refine w_m0 (pc1 := 7) (st1 := .long 6 :: _) rfl rfl rfl rfl ?_
      refine w_je (pc1 := 10) (vs := [.long 5, .long 0, .long 6]) (rest := [.ref 176]) (st1 := [.int 1, .ref 176]) (m_189t (d := _) (sl := 0) rfl) rfl rfl rfl (fun _ _ => rfl) rfl (by exact cl_s my_189 rfl rfl rfl (Nat.le_of_ble_eq_true rfl) rfl rfl) (by rfl) (Nat.le_of_ble_eq_true rfl) (Nat.le_of_ble_eq_true rfl) rfl (by rfl) ?_
      refine w_p (pc1 := 11) (st1 := .int 1 :: _) rfl rfl ?_
      refine w_je (pc1 := 14) (vs := [.ref 176, .int 1, .int 1]) (rest := []) (st1 := [.int 1]) (m_190 (d := _) (sl := 0)) rfl rfl rfl (fun _ _ => rfl) rfl (by exact cl_v my_190 rfl rfl rfl (Nat.le_of_ble_eq_true rfl) rfl (MH_obj rfl rfl) rfl (by decide) rfl rfl) (by rfl) (Nat.le_of_ble_eq_true rfl) (Nat.le_of_ble_eq_true rfl) rfl (by rfl) ?_
      refine w_t (a := 19) (b := 17) rfl rfl rfl ?_
      refine w_p (pc1 := 20) (st1 := .int 0 :: _) rfl rfl ?_
      refine w_p (pc1 := 21) (al1 := [(2, .int 0), (0, .ref 176), (1, .int 5)]) rfl rfl ?_
      refine w_p (pc1 := 22) (st1 := .int 0 :: _) rfl rfl ?_
      refine w_p (pc1 := 23) (al1 := [(3, .int 0), (2, .int 0), (0, .ref 176), (1, .int 5)]) rfl rfl ?_
      refine w_p (pc1 := 24) (st1 := .int 0 :: _) rfl rfl ?_
      refine w_p (pc1 := 26) (al1 := [(4, .int 0), (3, .int 0), (2, .int 0), (0, .ref 176), (1, .int 5)]) rfl rfl ?_
      refine w_p (pc1 := 27) (st1 := .int 0 :: _) rfl rfl ?_
      refine w_p (pc1 := 29) (al1 := [(5, .int 0), (4, .int 0), (3, .int 0), (2, .int 0), (0, .ref 176), (1, .int 5)]) rfl rfl ?_
      refine w_p (pc1 := 31) rfl rfl ?_
      refine w_p (pc1 := 33) (st1 := .int 24 :: _) rfl rfl ?_
      refine w_f (a := 112) (b := 36) rfl rfl rfl ?_
      refine w_p (pc1 := 37) rfl rfl ?_
      refine w_p (pc1 := 39) rfl rfl ?_
      refine w_p (pc1 := 41) (st1 := .int 6 :: _) rfl rfl ?_
      refine w_f (a := 58) (b := 44) rfl rfl rfl ?_
      refine w_p (pc1 := 45) rfl rfl ?_
      refine w_m0 (pc1 := 48) rfl rfl (h_gC rfl rfl rfl rfl) rfl ?_
      refine w_p (pc1 := 50) rfl rfl ?_
      refine w_m0 (pc1 := 51) rfl rfl (h_bl rfl rfl (by decide) rfl) rfl ?_
      refine w_t (a := 58) (b := 54) (cb_eq_t (by exact (frM_t F).1 _ (by decide))) rfl rfl ?_
      refine w_p (pc1 := 59) (st1 := .int 0 :: _) rfl rfl ?_
      refine w_p (pc1 := 60) (st1 := .int 0 :: _) rfl rfl ?_
      refine w_p (pc1 := 61) (al1 := [(2, .int 0), (5, .int 0), (4, .int 0), (3, .int 0), (0, .ref 176), (1, .int 5)]) rfl rfl ?_
      refine w_p (pc1 := 62) rfl rfl ?_
      refine w_p (pc1 := 63) rfl rfl ?_
      refine w_m0 (pc1 := 66) rfl rfl (h_gC rfl rfl rfl rfl) rfl ?_
      refine w_p (pc1 := 68) rfl rfl ?_
      refine w_m0 (pc1 := 69) rfl rfl (h_bl rfl rfl (by decide) rfl) rfl ?_
      refine w_t (a := 76) (b := 72) (cb_eq_t (by exact (frM_t F).2.1 _ (by decide))) rfl rfl ?_
      refine w_p (pc1 := 77) (st1 := .int 0 :: _) rfl rfl ?_
      refine w_p (pc1 := 78) (st1 := .int 0 :: _) rfl rfl ?_
      refine w_p (pc1 := 79) (al1 := [(3, .int 0), (2, .int 0), (5, .int 0), (4, .int 0), (0, .ref 176), (1, .int 5)]) rfl rfl ?_
      refine w_p (pc1 := 81) rfl rfl ?_
      refine w_p (pc1 := 83) rfl rfl ?_
      refine w_p (pc1 := 85) (st1 := .int 8 :: _) rfl rfl ?_
      refine w_f (a := 102) (b := 88) rfl rfl rfl ?_
      refine w_p (pc1 := 89) rfl rfl ?_
      refine w_m0 (pc1 := 92) rfl rfl (h_gC rfl rfl rfl rfl) rfl ?_
      refine w_p (pc1 := 94) rfl rfl ?_
      refine w_m0 (pc1 := 95) rfl rfl (h_bl rfl rfl (by decide) rfl) rfl ?_
      refine w_t (a := 102) (b := 98) (cb_eq_t (by exact (frM_t F).2.2.1 _ (by decide))) rfl rfl ?_
      refine w_p (pc1 := 103) (st1 := .int 0 :: _) rfl rfl ?_
      refine w_p (pc1 := 104) (st1 := .int 0 :: _) rfl rfl ?_
      refine w_p (pc1 := 106) (al1 := [(4, .int 0), (3, .int 0), (2, .int 0), (5, .int 0), (0, .ref 176), (1, .int 5)]) rfl rfl ?_
      refine w_p (pc1 := 109) (al1 := [(5, .int 1), (4, .int 0), (3, .int 0), (2, .int 0), (0, .ref 176), (1, .int 5)]) rfl rfl ?_
      refine w_p (pc1 := 29) rfl rfl ?_
      refine w_p (pc1 := 31) rfl rfl ?_
      refine w_p (pc1 := 33) (st1 := .int 24 :: _) rfl rfl ?_
      refine w_f (a := 112) (b := 36) rfl rfl rfl ?_
      refine w_p (pc1 := 37) rfl rfl ?_
      refine w_p (pc1 := 39) rfl rfl ?_
      refine w_p (pc1 := 41) (st1 := .int 6 :: _) rfl rfl ?_
      refine w_f (a := 58) (b := 44) rfl rfl rfl ?_
      refine w_p (pc1 := 45) rfl rfl ?_
      refine w_m0 (pc1 := 48) rfl rfl (h_gC rfl rfl rfl rfl) rfl ?_
      refine w_p (pc1 := 50) rfl rfl ?_
      refine w_m0 (pc1 := 51) rfl rfl (h_bl rfl rfl (by decide) rfl) rfl ?_
      refine w_t (a := 58) (b := 54) (cb_eq_t (by exact (frM_t F).1 _ (by decide))) rfl rfl ?_
      refine w_p (pc1 := 59) (st1 := .int 0 :: _) rfl rfl ?_
      refine w_p (pc1 := 60) (st1 := .int 0 :: _) rfl rfl ?_
      refine w_p (pc1 := 61) (al1 := [(2, .int 0), (5, .int 1), (4, .int 0), (3, .int 0), (0, .ref 176), (1, .int 5)]) rfl rfl ?_
      refine w_p (pc1 := 62) rfl rfl ?_
      refine w_p (pc1 := 63) rfl rfl ?_
      refine w_m0 (pc1 := 66) rfl rfl (h_gC rfl rfl rfl rfl) rfl ?_
      refine w_p (pc1 := 68) rfl rfl ?_
      refine w_m0 (pc1 := 69) rfl rfl (h_bl rfl rfl (by decide) rfl) rfl ?_
      refine w_t (a := 76) (b := 72) (cb_eq_t (by exact (frM_t F).2.1 _ (by decide))) rfl rfl ?_
      refine w_p (pc1 := 77) (st1 := .int 0 :: _) rfl rfl ?_
      refine w_p (pc1 := 78) (st1 := .int 0 :: _) rfl rfl ?_
      refine w_p (pc1 := 79) (al1 := [(3, .int 0), (2, .int 0), (5, .int 1), (4, .int 0), (0, .ref 176), (1, .int 5)]) rfl rfl ?_
      refine w_p (pc1 := 81) rfl rfl ?_
      refine w_p (pc1 := 83) rfl rfl ?_
      refine w_p (pc1 := 85) (st1 := .int 8 :: _) rfl rfl ?_
      refine w_f (a := 102) (b := 88) rfl rfl rfl ?_
      refine w_p (pc1 := 89) rfl rfl ?_
      refine w_m0 (pc1 := 92) rfl rfl (h_gC rfl rfl rfl rfl) rfl ?_
      refine w_p (pc1 := 94) rfl rfl ?_
      refine w_m0 (pc1 := 95) rfl rfl (h_bl rfl rfl (by decide) rfl) rfl ?_
      refine w_t (a := 102) (b := 98) (cb_eq_t (by exact (frM_t F).2.2.1 _ (by decide))) rfl rfl ?_
      refine w_p (pc1 := 103) (st1 := .int 0 :: _) rfl rfl ?_
      refine w_p (pc1 := 104) (st1 := .int 0 :: _) rfl rfl ?_
      refine w_p (pc1 := 106) (al1 := [(4, .int 0), (3, .int 0), (2, .int 0), (5, .int 1), (0, .ref 176), (1, .int 5)]) rfl rfl ?_
      refine w_p (pc1 := 109) (al1 := [(5, .int 2), (4, .int 0), (3, .int 0), (2, .int 0), (0, .ref 176), (1, .int 5)]) rfl rfl ?_
      refine w_p (pc1 := 29) rfl rfl ?_
      refine w_p (pc1 := 31) rfl rfl ?_
      refine w_p (pc1 := 33) (st1 := .int 24 :: _) rfl rfl ?_
      refine w_f (a := 112) (b := 36) rfl rfl rfl ?_
      refine w_p (pc1 := 37) rfl rfl ?_
      refine w_p (pc1 := 39) rfl rfl ?_
      refine w_p (pc1 := 41) (st1 := .int 6 :: _) rfl rfl ?_
      refine w_f (a := 58) (b := 44) rfl rfl rfl ?_
      refine w_p (pc1 := 45) rfl rfl ?_
      refine w_m0 (pc1 := 48) rfl rfl (h_gC rfl rfl rfl rfl) rfl ?_
      refine w_p (pc1 := 50) rfl rfl ?_
      refine w_m0 (pc1 := 51) rfl rfl (h_bl rfl rfl (by decide) rfl) rfl ?_
      refine w_t (a := 58) (b := 54) (cb_eq_t (by exact (frM_t F).1 _ (by decide))) rfl rfl ?_
      refine w_p (pc1 := 59) (st1 := .int 0 :: _) rfl rfl ?_
      refine w_p (pc1 := 60) (st1 := .int 0 :: _) rfl rfl ?_
      refine w_p (pc1 := 61) (al1 := [(2, .int 0), (5, .int 2), (4, .int 0), (3, .int 0), (0, .ref 176), (1, .int 5)]) rfl rfl ?_
      refine w_p (pc1 := 62) rfl rfl ?_
      refine w_p (pc1 := 63) rfl rfl ?_
      refine w_m0 (pc1 := 66) rfl rfl (h_gC rfl rfl rfl rfl) rfl ?_
      refine w_p (pc1 := 68) rfl rfl ?_
      refine w_m0 (pc1 := 69) rfl rfl (h_bl rfl rfl (by decide) rfl) rfl ?_
      refine w_t (a := 76) (b := 72) (cb_eq_t (by exact (frM_t F).2.1 _ (by decide))) rfl rfl ?_
      refine w_p (pc1 := 77) (st1 := .int 0 :: _) rfl rfl ?_
      refine w_p (pc1 := 78) (st1 := .int 0 :: _) rfl rfl ?_
      refine w_p (pc1 := 79) (al1 := [(3, .int 0), (2, .int 0), (5, .int 2), (4, .int 0), (0, .ref 176), (1, .int 5)]) rfl rfl ?_
      refine w_p (pc1 := 81) rfl rfl ?_
      refine w_p (pc1 := 83) rfl rfl ?_
      refine w_p (pc1 := 85) (st1 := .int 8 :: _) rfl rfl ?_
      refine w_f (a := 102) (b := 88) rfl rfl rfl ?_
      refine w_p (pc1 := 89) rfl rfl ?_
      refine w_m0 (pc1 := 92) rfl rfl (h_gC rfl rfl rfl rfl) rfl ?_
      refine w_p (pc1 := 94) rfl rfl ?_
      refine w_m0 (pc1 := 95) rfl rfl (h_bl rfl rfl (by decide) rfl) rfl ?_
      refine w_t (a := 102) (b := 98) (cb_eq_t (by exact (frM_t F).2.2.1 _ (by decide))) rfl rfl ?_
      refine w_p (pc1 := 103) (st1 := .int 0 :: _) rfl rfl ?_
      refine w_p (pc1 := 104) (st1 := .int 0 :: _) rfl rfl ?_
      refine w_p (pc1 := 106) (al1 := [(4, .int 0), (3, .int 0), (2, .int 0), (5, .int 2), (0, .ref 176), (1, .int 5)]) rfl rfl ?_
      refine w_p (pc1 := 109) (al1 := [(5, .int 3), (4, .int 0), (3, .int 0), (2, .int 0), (0, .ref 176), (1, .int 5)]) rfl rfl ?_
      refine w_p (pc1 := 29) rfl rfl ?_
      refine w_p (pc1 := 31) rfl rfl ?_
      refine w_p (pc1 := 33) (st1 := .int 24 :: _) rfl rfl ?_
      refine w_f (a := 112) (b := 36) rfl rfl rfl ?_
      refine w_p (pc1 := 37) rfl rfl ?_
      refine w_p (pc1 := 39) rfl rfl ?_
      refine w_p (pc1 := 41) (st1 := .int 6 :: _) rfl rfl ?_
      refine w_f (a := 58) (b := 44) rfl rfl rfl ?_
      refine w_p (pc1 := 45) rfl rfl ?_
      refine w_m0 (pc1 := 48) rfl rfl (h_gC rfl rfl rfl rfl) rfl ?_
      refine w_p (pc1 := 50) rfl rfl ?_
      refine w_m0 (pc1 := 51) rfl rfl (h_bl rfl rfl (by decide) rfl) rfl ?_
      refine w_t (a := 58) (b := 54) (cb_eq_t (by exact (frM_t F).1 _ (by decide))) rfl rfl ?_
      refine w_p (pc1 := 59) (st1 := .int 0 :: _) rfl rfl ?_
      refine w_p (pc1 := 60) (st1 := .int 0 :: _) rfl rfl ?_
      refine w_p (pc1 := 61) (al1 := [(2, .int 0), (5, .int 3), (4, .int 0), (3, .int 0), (0, .ref 176), (1, .int 5)]) rfl rfl ?_
      refine w_p (pc1 := 62) rfl rfl ?_
      refine w_p (pc1 := 63) rfl rfl ?_
      refine w_m0 (pc1 := 66) rfl rfl (h_gC rfl rfl rfl rfl) rfl ?_
      refine w_p (pc1 := 68) rfl rfl ?_
      refine w_m0 (pc1 := 69) rfl rfl (h_bl rfl rfl (by decide) rfl) rfl ?_
      refine w_t (a := 76) (b := 72) (cb_eq_t (by exact (frM_t F).2.1 _ (by decide))) rfl rfl ?_
      refine w_p (pc1 := 77) (st1 := .int 0 :: _) rfl rfl ?_
      refine w_p (pc1 := 78) (st1 := .int 0 :: _) rfl rfl ?_
      refine w_p (pc1 := 79) (al1 := [(3, .int 0), (2, .int 0), (5, .int 3), (4, .int 0), (0, .ref 176), (1, .int 5)]) rfl rfl ?_
      refine w_p (pc1 := 81) rfl rfl ?_
      refine w_p (pc1 := 83) rfl rfl ?_
      refine w_p (pc1 := 85) (st1 := .int 8 :: _) rfl rfl ?_
      refine w_f (a := 102) (b := 88) rfl rfl rfl ?_
      refine w_p (pc1 := 89) rfl rfl ?_
      refine w_m0 (pc1 := 92) rfl rfl (h_gC rfl rfl rfl rfl) rfl ?_
      refine w_p (pc1 := 94) rfl rfl ?_
      refine w_m0 (pc1 := 95) rfl rfl (h_bl rfl rfl (by decide) rfl) rfl ?_
      refine w_t (a := 102) (b := 98) (cb_eq_t (by exact (frM_t F).2.2.1 _ (by decide))) rfl rfl ?_
      refine w_p (pc1 := 103) (st1 := .int 0 :: _) rfl rfl ?_
      refine w_p (pc1 := 104) (st1 := .int 0 :: _) rfl rfl ?_
      refine w_p (pc1 := 106) (al1 := [(4, .int 0), (3, .int 0), (2, .int 0), (5, .int 3), (0, .ref 176), (1, .int 5)]) rfl rfl ?_
      refine w_p (pc1 := 109) (al1 := [(5, .int 4), (4, .int 0), (3, .int 0), (2, .int 0), (0, .ref 176), (1, .int 5)]) rfl rfl ?_
      refine w_p (pc1 := 29) rfl rfl ?_
      refine w_p (pc1 := 31) rfl rfl ?_
      refine w_p (pc1 := 33) (st1 := .int 24 :: _) rfl rfl ?_
      refine w_f (a := 112) (b := 36) rfl rfl rfl ?_
      refine w_p (pc1 := 37) rfl rfl ?_
      refine w_p (pc1 := 39) rfl rfl ?_
      refine w_p (pc1 := 41) (st1 := .int 6 :: _) rfl rfl ?_
      refine w_f (a := 58) (b := 44) rfl rfl rfl ?_
      refine w_p (pc1 := 45) rfl rfl ?_
      refine w_m0 (pc1 := 48) rfl rfl (h_gC rfl rfl rfl rfl) rfl ?_
      refine w_p (pc1 := 50) rfl rfl ?_
      refine w_m0 (pc1 := 51) rfl rfl (h_bl rfl rfl (by decide) rfl) rfl ?_
      refine w_t (a := 58) (b := 54) (cb_eq_t (by exact (frM_t F).1 _ (by decide))) rfl rfl ?_
      refine w_p (pc1 := 59) (st1 := .int 0 :: _) rfl rfl ?_
      refine w_p (pc1 := 60) (st1 := .int 0 :: _) rfl rfl ?_
      refine w_p (pc1 := 61) (al1 := [(2, .int 0), (5, .int 4), (4, .int 0), (3, .int 0), (0, .ref 176), (1, .int 5)]) rfl rfl ?_
      refine w_p (pc1 := 62) rfl rfl ?_
      refine w_p (pc1 := 63) rfl rfl ?_
      refine w_m0 (pc1 := 66) rfl rfl (h_gC rfl rfl rfl rfl) rfl ?_
      refine w_p (pc1 := 68) rfl rfl ?_
      refine w_m0 (pc1 := 69) rfl rfl (h_bl rfl rfl (by decide) rfl) rfl ?_
      refine w_t (a := 76) (b := 72) (cb_eq_t (by exact (frM_t F).2.1 _ (by decide))) rfl rfl ?_
      refine w_p (pc1 := 77) (st1 := .int 0 :: _) rfl rfl ?_
      refine w_p (pc1 := 78) (st1 := .int 0 :: _) rfl rfl ?_
      refine w_p (pc1 := 79) (al1 := [(3, .int 0), (2, .int 0), (5, .int 4), (4, .int 0), (0, .ref 176), (1, .int 5)]) rfl rfl ?_
      refine w_p (pc1 := 81) rfl rfl ?_
      refine w_p (pc1 := 83) rfl rfl ?_
      refine w_p (pc1 := 85) (st1 := .int 8 :: _) rfl rfl ?_
      refine w_f (a := 102) (b := 88) rfl rfl rfl ?_
      refine w_p (pc1 := 89) rfl rfl ?_
      refine w_m0 (pc1 := 92) rfl rfl (h_gC rfl rfl rfl rfl) rfl ?_
      refine w_p (pc1 := 94) rfl rfl ?_
      refine w_m0 (pc1 := 95) rfl rfl (h_bl rfl rfl (by decide) rfl) rfl ?_
      refine w_t (a := 102) (b := 98) (cb_eq_t (by exact (frM_t F).2.2.1 _ (by decide))) rfl rfl ?_
      refine w_p (pc1 := 103) (st1 := .int 0 :: _) rfl rfl ?_
      refine w_p (pc1 := 104) (st1 := .int 0 :: _) rfl rfl ?_
      refine w_p (pc1 := 106) (al1 := [(4, .int 0), (3, .int 0), (2, .int 0), (5, .int 4), (0, .ref 176), (1, .int 5)]) rfl rfl ?_
      refine w_p (pc1 := 109) (al1 := [(5, .int 5), (4, .int 0), (3, .int 0), (2, .int 0), (0, .ref 176), (1, .int 5)]) rfl rfl ?_
      refine w_p (pc1 := 29) rfl rfl ?_
      refine w_p (pc1 := 31) rfl rfl ?_
      refine w_p (pc1 := 33) (st1 := .int 24 :: _) rfl rfl ?_
      refine w_f (a := 112) (b := 36) rfl rfl rfl ?_
      refine w_p (pc1 := 37) rfl rfl ?_
      refine w_p (pc1 := 39) rfl rfl ?_
      refine w_p (pc1 := 41) (st1 := .int 6 :: _) rfl rfl ?_
      refine w_f (a := 58) (b := 44) rfl rfl rfl ?_
      refine w_p (pc1 := 45) rfl rfl ?_
      refine w_m0 (pc1 := 48) rfl rfl (h_gC rfl rfl rfl rfl) rfl ?_
      refine w_p (pc1 := 50) rfl rfl ?_
      refine w_m0 (pc1 := 51) rfl rfl (h_bl rfl rfl (by decide) rfl) rfl ?_
      refine w_t (a := 58) (b := 54) (cb_eq_t (by exact (frM_t F).1 _ (by decide))) rfl rfl ?_
      refine w_p (pc1 := 59) (st1 := .int 0 :: _) rfl rfl ?_
      refine w_p (pc1 := 60) (st1 := .int 0 :: _) rfl rfl ?_
      refine w_p (pc1 := 61) (al1 := [(2, .int 0), (5, .int 5), (4, .int 0), (3, .int 0), (0, .ref 176), (1, .int 5)]) rfl rfl ?_
      refine w_p (pc1 := 62) rfl rfl ?_
      refine w_p (pc1 := 63) rfl rfl ?_
      refine w_m0 (pc1 := 66) rfl rfl (h_gC rfl rfl rfl rfl) rfl ?_
      refine w_p (pc1 := 68) rfl rfl ?_
      refine w_m0 (pc1 := 69) rfl rfl (h_bl rfl rfl (by decide) rfl) rfl ?_
      refine w_t (a := 76) (b := 72) (cb_eq_t (by exact (frM_t F).2.1 _ (by decide))) rfl rfl ?_
      refine w_p (pc1 := 77) (st1 := .int 0 :: _) rfl rfl ?_
      refine w_p (pc1 := 78) (st1 := .int 0 :: _) rfl rfl ?_
      refine w_p (pc1 := 79) (al1 := [(3, .int 0), (2, .int 0), (5, .int 5), (4, .int 0), (0, .ref 176), (1, .int 5)]) rfl rfl ?_
      refine w_p (pc1 := 81) rfl rfl ?_
      refine w_p (pc1 := 83) rfl rfl ?_
      refine w_p (pc1 := 85) (st1 := .int 8 :: _) rfl rfl ?_
      refine w_f (a := 102) (b := 88) rfl rfl rfl ?_
      refine w_p (pc1 := 89) rfl rfl ?_
      refine w_m0 (pc1 := 92) rfl rfl (h_gC rfl rfl rfl rfl) rfl ?_
      refine w_p (pc1 := 94) rfl rfl ?_
      refine w_m0 (pc1 := 95) rfl rfl (h_bl rfl rfl (by decide) rfl) rfl ?_
      refine w_t (a := 102) (b := 98) (cb_eq_t (by exact (frM_t F).2.2.1 _ (by decide))) rfl rfl ?_
      refine w_p (pc1 := 103) (st1 := .int 0 :: _) rfl rfl ?_
      refine w_p (pc1 := 104) (st1 := .int 0 :: _) rfl rfl ?_
      refine w_p (pc1 := 106) (al1 := [(4, .int 0), (3, .int 0), (2, .int 0), (5, .int 5), (0, .ref 176), (1, .int 5)]) rfl rfl ?_
      refine w_p (pc1 := 109) (al1 := [(5, .int 6), (4, .int 0), (3, .int 0), (2, .int 0), (0, .ref 176), (1, .int 5)]) rfl rfl ?_
      refine w_p (pc1 := 29) rfl rfl ?_
      refine w_p (pc1 := 31) rfl rfl ?_
      refine w_p (pc1 := 33) (st1 := .int 24 :: _) rfl rfl ?_
      refine w_f (a := 112) (b := 36) rfl rfl rfl ?_
      refine w_p (pc1 := 37) rfl rfl ?_
      refine w_p (pc1 := 39) rfl rfl ?_
      refine w_p (pc1 := 41) (st1 := .int 6 :: _) rfl rfl ?_
      refine w_t (a := 58) (b := 44) rfl rfl rfl ?_
      refine w_p (pc1 := 59) (st1 := .int 0 :: _) rfl rfl ?_
      refine w_p (pc1 := 60) (st1 := .int 0 :: _) rfl rfl ?_
      refine w_p (pc1 := 61) (al1 := [(2, .int 0), (5, .int 6), (4, .int 0), (3, .int 0), (0, .ref 176), (1, .int 5)]) rfl rfl ?_
      refine w_p (pc1 := 62) rfl rfl ?_
      refine w_p (pc1 := 63) rfl rfl ?_
      refine w_m0 (pc1 := 66) rfl rfl (h_gC rfl rfl rfl rfl) rfl ?_
      refine w_p (pc1 := 68) rfl rfl ?_
      refine w_m0 (pc1 := 69) rfl rfl (h_bl rfl rfl (by decide) rfl) rfl ?_
      refine w_t (a := 76) (b := 72) (cb_eq_t (by exact (frM_t F).2.1 _ (by decide))) rfl rfl ?_
      refine w_p (pc1 := 77) (st1 := .int 0 :: _) rfl rfl ?_
      refine w_p (pc1 := 78) (st1 := .int 0 :: _) rfl rfl ?_
      refine w_p (pc1 := 79) (al1 := [(3, .int 0), (2, .int 0), (5, .int 6), (4, .int 0), (0, .ref 176), (1, .int 5)]) rfl rfl ?_
      refine w_p (pc1 := 81) rfl rfl ?_
      refine w_p (pc1 := 83) rfl rfl ?_
      refine w_p (pc1 := 85) (st1 := .int 8 :: _) rfl rfl ?_
      refine w_f (a := 102) (b := 88) rfl rfl rfl ?_
      refine w_p (pc1 := 89) rfl rfl ?_
      refine w_m0 (pc1 := 92) rfl rfl (h_gC rfl rfl rfl rfl) rfl ?_
      refine w_p (pc1 := 94) rfl rfl ?_
      refine w_m0 (pc1 := 95) rfl rfl (h_bl rfl rfl (by decide) rfl) rfl ?_
      refine w_t (a := 102) (b := 98) (cb_eq_t (by exact (frM_t F).2.2.1 _ (by decide))) rfl rfl ?_
      refine w_p (pc1 := 103) (st1 := .int 0 :: _) rfl rfl ?_
      refine w_p (pc1 := 104) (st1 := .int 0 :: _) rfl rfl ?_
      refine w_p (pc1 := 106) (al1 := [(4, .int 0), (3, .int 0), (2, .int 0), (5, .int 6), (0, .ref 176), (1, .int 5)]) rfl rfl ?_
      refine w_p (pc1 := 109) (al1 := [(5, .int 7), (4, .int 0), (3, .int 0), (2, .int 0), (0, .ref 176), (1, .int 5)]) rfl rfl ?_
      refine w_p (pc1 := 29) rfl rfl ?_
      refine w_p (pc1 := 31) rfl rfl ?_
      refine w_p (pc1 := 33) (st1 := .int 24 :: _) rfl rfl ?_
      refine w_f (a := 112) (b := 36) rfl rfl rfl ?_
      refine w_p (pc1 := 37) rfl rfl ?_
      refine w_p (pc1 := 39) rfl rfl ?_
      refine w_p (pc1 := 41) (st1 := .int 6 :: _) rfl rfl ?_
      refine w_t (a := 58) (b := 44) rfl rfl rfl ?_
      refine w_p (pc1 := 59) (st1 := .int 0 :: _) rfl rfl ?_
      refine w_p (pc1 := 60) (st1 := .int 0 :: _) rfl rfl ?_
      refine w_p (pc1 := 61) (al1 := [(2, .int 0), (5, .int 7), (4, .int 0), (3, .int 0), (0, .ref 176), (1, .int 5)]) rfl rfl ?_
      refine w_p (pc1 := 62) rfl rfl ?_
      refine w_p (pc1 := 63) rfl rfl ?_
      refine w_m0 (pc1 := 66) rfl rfl (h_gC rfl rfl rfl rfl) rfl ?_
      refine w_p (pc1 := 68) rfl rfl ?_
      refine w_m0 (pc1 := 69) rfl rfl (h_bl rfl rfl (by decide) rfl) rfl ?_
      refine w_t (a := 76) (b := 72) (cb_eq_t (by exact (frM_t F).2.1 _ (by decide))) rfl rfl ?_
      refine w_p (pc1 := 77) (st1 := .int 0 :: _) rfl rfl ?_
      refine w_p (pc1 := 78) (st1 := .int 0 :: _) rfl rfl ?_
      refine w_p (pc1 := 79) (al1 := [(3, .int 0), (2, .int 0), (5, .int 7), (4, .int 0), (0, .ref 176), (1, .int 5)]) rfl rfl ?_
      refine w_p (pc1 := 81) rfl rfl ?_
      refine w_p (pc1 := 83) rfl rfl ?_
      refine w_p (pc1 := 85) (st1 := .int 8 :: _) rfl rfl ?_
      refine w_f (a := 102) (b := 88) rfl rfl rfl ?_
      refine w_p (pc1 := 89) rfl rfl ?_
      refine w_m0 (pc1 := 92) rfl rfl (h_gC rfl rfl rfl rfl) rfl ?_
      refine w_p (pc1 := 94) rfl rfl ?_
      refine w_m0 (pc1 := 95) rfl rfl (h_bl rfl rfl (by decide) rfl) rfl ?_
      refine w_t (a := 102) (b := 98) (cb_eq_t (by exact (frM_t F).2.2.1 _ (by decide))) rfl rfl ?_
      refine w_p (pc1 := 103) (st1 := .int 0 :: _) rfl rfl ?_
      refine w_p (pc1 := 104) (st1 := .int 0 :: _) rfl rfl ?_
      refine w_p (pc1 := 106) (al1 := [(4, .int 0), (3, .int 0), (2, .int 0), (5, .int 7), (0, .ref 176), (1, .int 5)]) rfl rfl ?_
      refine w_p (pc1 := 109) (al1 := [(5, .int 8), (4, .int 0), (3, .int 0), (2, .int 0), (0, .ref 176), (1, .int 5)]) rfl rfl ?_
      refine w_p (pc1 := 29) rfl rfl ?_
      refine w_p (pc1 := 31) rfl rfl ?_
      refine w_p (pc1 := 33) (st1 := .int 24 :: _) rfl rfl ?_
      refine w_f (a := 112) (b := 36) rfl rfl rfl ?_
      refine w_p (pc1 := 37) rfl rfl ?_
      refine w_p (pc1 := 39) rfl rfl ?_
      refine w_p (pc1 := 41) (st1 := .int 6 :: _) rfl rfl ?_
      refine w_t (a := 58) (b := 44) rfl rfl rfl ?_
      refine w_p (pc1 := 59) (st1 := .int 0 :: _) rfl rfl ?_
      refine w_p (pc1 := 60) (st1 := .int 0 :: _) rfl rfl ?_
      refine w_p (pc1 := 61) (al1 := [(2, .int 0), (5, .int 8), (4, .int 0), (3, .int 0), (0, .ref 176), (1, .int 5)]) rfl rfl ?_
      refine w_p (pc1 := 62) rfl rfl ?_
      refine w_p (pc1 := 63) rfl rfl ?_
      refine w_m0 (pc1 := 66) rfl rfl (h_gC rfl rfl rfl rfl) rfl ?_
      refine w_p (pc1 := 68) rfl rfl ?_
      refine w_m0 (pc1 := 69) rfl rfl (h_bl rfl rfl (by decide) rfl) rfl ?_
      refine w_t (a := 76) (b := 72) (cb_eq_t (by exact (frM_t F).2.1 _ (by decide))) rfl rfl ?_
      refine w_p (pc1 := 77) (st1 := .int 0 :: _) rfl rfl ?_
      refine w_p (pc1 := 78) (st1 := .int 0 :: _) rfl rfl ?_
      refine w_p (pc1 := 79) (al1 := [(3, .int 0), (2, .int 0), (5, .int 8), (4, .int 0), (0, .ref 176), (1, .int 5)]) rfl rfl ?_
      refine w_p (pc1 := 81) rfl rfl ?_
      refine w_p (pc1 := 83) rfl rfl ?_
      refine w_p (pc1 := 85) (st1 := .int 8 :: _) rfl rfl ?_
      refine w_t (a := 102) (b := 88) rfl rfl rfl ?_
      refine w_p (pc1 := 103) (st1 := .int 0 :: _) rfl rfl ?_
      refine w_p (pc1 := 104) (st1 := .int 0 :: _) rfl rfl ?_
      refine w_p (pc1 := 106) (al1 := [(4, .int 0), (3, .int 0), (2, .int 0), (5, .int 8), (0, .ref 176), (1, .int 5)]) rfl rfl ?_
      refine w_p (pc1 := 109) (al1 := [(5, .int 9), (4, .int 0), (3, .int 0), (2, .int 0), (0, .ref 176), (1, .int 5)]) rfl rfl ?_
      refine w_p (pc1 := 29) rfl rfl ?_
      refine w_p (pc1 := 31) rfl rfl ?_
      refine w_p (pc1 := 33) (st1 := .int 24 :: _) rfl rfl ?_
      refine w_f (a := 112) (b := 36) rfl rfl rfl ?_
      refine w_p (pc1 := 37) rfl rfl ?_
      refine w_p (pc1 := 39) rfl rfl ?_
      refine w_p (pc1 := 41) (st1 := .int 6 :: _) rfl rfl ?_
      refine w_t (a := 58) (b := 44) rfl rfl rfl ?_
      refine w_p (pc1 := 59) (st1 := .int 0 :: _) rfl rfl ?_
      refine w_p (pc1 := 60) (st1 := .int 0 :: _) rfl rfl ?_
      refine w_p (pc1 := 61) (al1 := [(2, .int 0), (5, .int 9), (4, .int 0), (3, .int 0), (0, .ref 176), (1, .int 5)]) rfl rfl ?_
      refine w_p (pc1 := 62) rfl rfl ?_
      refine w_p (pc1 := 63) rfl rfl ?_
      refine w_m0 (pc1 := 66) rfl rfl (h_gC rfl rfl rfl rfl) rfl ?_
      refine w_p (pc1 := 68) rfl rfl ?_
      refine w_m0 (pc1 := 69) rfl rfl (h_bl rfl rfl (by decide) rfl) rfl ?_
      refine w_t (a := 76) (b := 72) (cb_eq_t (by exact (frM_t F).2.1 _ (by decide))) rfl rfl ?_
      refine w_p (pc1 := 77) (st1 := .int 0 :: _) rfl rfl ?_
      refine w_p (pc1 := 78) (st1 := .int 0 :: _) rfl rfl ?_
      refine w_p (pc1 := 79) (al1 := [(3, .int 0), (2, .int 0), (5, .int 9), (4, .int 0), (0, .ref 176), (1, .int 5)]) rfl rfl ?_
      refine w_p (pc1 := 81) rfl rfl ?_
      refine w_p (pc1 := 83) rfl rfl ?_
      refine w_p (pc1 := 85) (st1 := .int 8 :: _) rfl rfl ?_
      refine w_t (a := 102) (b := 88) rfl rfl rfl ?_
      refine w_p (pc1 := 103) (st1 := .int 0 :: _) rfl rfl ?_
      refine w_p (pc1 := 104) (st1 := .int 0 :: _) rfl rfl ?_
      refine w_p (pc1 := 106) (al1 := [(4, .int 0), (3, .int 0), (2, .int 0), (5, .int 9), (0, .ref 176), (1, .int 5)]) rfl rfl ?_
      refine w_p (pc1 := 109) (al1 := [(5, .int 10), (4, .int 0), (3, .int 0), (2, .int 0), (0, .ref 176), (1, .int 5)]) rfl rfl ?_
      refine w_p (pc1 := 29) rfl rfl ?_
      refine w_p (pc1 := 31) rfl rfl ?_
      refine w_p (pc1 := 33) (st1 := .int 24 :: _) rfl rfl ?_
      refine w_f (a := 112) (b := 36) rfl rfl rfl ?_
      refine w_p (pc1 := 37) rfl rfl ?_
      refine w_p (pc1 := 39) rfl rfl ?_
      refine w_p (pc1 := 41) (st1 := .int 6 :: _) rfl rfl ?_
      refine w_t (a := 58) (b := 44) rfl rfl rfl ?_
      refine w_p (pc1 := 59) (st1 := .int 0 :: _) rfl rfl ?_
      refine w_p (pc1 := 60) (st1 := .int 0 :: _) rfl rfl ?_
      refine w_p (pc1 := 61) (al1 := [(2, .int 0), (5, .int 10), (4, .int 0), (3, .int 0), (0, .ref 176), (1, .int 5)]) rfl rfl ?_
      refine w_p (pc1 := 62) rfl rfl ?_
      refine w_p (pc1 := 63) rfl rfl ?_
      refine w_m0 (pc1 := 66) rfl rfl (h_gC rfl rfl rfl rfl) rfl ?_
      refine w_p (pc1 := 68) rfl rfl ?_
      refine w_m0 (pc1 := 69) rfl rfl (h_bl rfl rfl (by decide) rfl) rfl ?_
      refine w_t (a := 76) (b := 72) (cb_eq_t (by exact (frM_t F).2.1 _ (by decide))) rfl rfl ?_
      refine w_p (pc1 := 77) (st1 := .int 0 :: _) rfl rfl ?_
      refine w_p (pc1 := 78) (st1 := .int 0 :: _) rfl rfl ?_
      refine w_p (pc1 := 79) (al1 := [(3, .int 0), (2, .int 0), (5, .int 10), (4, .int 0), (0, .ref 176), (1, .int 5)]) rfl rfl ?_
      refine w_p (pc1 := 81) rfl rfl ?_
      refine w_p (pc1 := 83) rfl rfl ?_
      refine w_p (pc1 := 85) (st1 := .int 8 :: _) rfl rfl ?_
      refine w_t (a := 102) (b := 88) rfl rfl rfl ?_
      refine w_p (pc1 := 103) (st1 := .int 0 :: _) rfl rfl ?_
      refine w_p (pc1 := 104) (st1 := .int 0 :: _) rfl rfl ?_
      refine w_p (pc1 := 106) (al1 := [(4, .int 0), (3, .int 0), (2, .int 0), (5, .int 10), (0, .ref 176), (1, .int 5)]) rfl rfl ?_
      refine w_p (pc1 := 109) (al1 := [(5, .int 11), (4, .int 0), (3, .int 0), (2, .int 0), (0, .ref 176), (1, .int 5)]) rfl rfl ?_
      refine w_p (pc1 := 29) rfl rfl ?_
      refine w_p (pc1 := 31) rfl rfl ?_
      refine w_p (pc1 := 33) (st1 := .int 24 :: _) rfl rfl ?_
      refine w_f (a := 112) (b := 36) rfl rfl rfl ?_
      refine w_p (pc1 := 37) rfl rfl ?_
      refine w_p (pc1 := 39) rfl rfl ?_
      refine w_p (pc1 := 41) (st1 := .int 6 :: _) rfl rfl ?_
      refine w_t (a := 58) (b := 44) rfl rfl rfl ?_
      refine w_p (pc1 := 59) (st1 := .int 0 :: _) rfl rfl ?_
      refine w_p (pc1 := 60) (st1 := .int 0 :: _) rfl rfl ?_
      refine w_p (pc1 := 61) (al1 := [(2, .int 0), (5, .int 11), (4, .int 0), (3, .int 0), (0, .ref 176), (1, .int 5)]) rfl rfl ?_
      refine w_p (pc1 := 62) rfl rfl ?_
      refine w_p (pc1 := 63) rfl rfl ?_
      refine w_m0 (pc1 := 66) rfl rfl (h_gC rfl rfl rfl rfl) rfl ?_
      refine w_p (pc1 := 68) rfl rfl ?_
      refine w_m0 (pc1 := 69) rfl rfl (h_bl rfl rfl (by decide) rfl) rfl ?_
      refine w_t (a := 76) (b := 72) (cb_eq_t (by exact (frM_t F).2.1 _ (by decide))) rfl rfl ?_
      refine w_p (pc1 := 77) (st1 := .int 0 :: _) rfl rfl ?_
      refine w_p (pc1 := 78) (st1 := .int 0 :: _) rfl rfl ?_
      refine w_p (pc1 := 79) (al1 := [(3, .int 0), (2, .int 0), (5, .int 11), (4, .int 0), (0, .ref 176), (1, .int 5)]) rfl rfl ?_
      refine w_p (pc1 := 81) rfl rfl ?_
      refine w_p (pc1 := 83) rfl rfl ?_
      refine w_p (pc1 := 85) (st1 := .int 8 :: _) rfl rfl ?_
      refine w_t (a := 102) (b := 88) rfl rfl rfl ?_
      refine w_p (pc1 := 103) (st1 := .int 0 :: _) rfl rfl ?_
      refine w_p (pc1 := 104) (st1 := .int 0 :: _) rfl rfl ?_
      refine w_p (pc1 := 106) (al1 := [(4, .int 0), (3, .int 0), (2, .int 0), (5, .int 11), (0, .ref 176), (1, .int 5)]) rfl rfl ?_
      refine w_p (pc1 := 109) (al1 := [(5, .int 12), (4, .int 0), (3, .int 0), (2, .int 0), (0, .ref 176), (1, .int 5)]) rfl rfl ?_
      refine w_p (pc1 := 29) rfl rfl ?_
      refine w_p (pc1 := 31) rfl rfl ?_
      refine w_p (pc1 := 33) (st1 := .int 24 :: _) rfl rfl ?_
      refine w_f (a := 112) (b := 36) rfl rfl rfl ?_
      refine w_p (pc1 := 37) rfl rfl ?_
      refine w_p (pc1 := 39) rfl rfl ?_
      refine w_p (pc1 := 41) (st1 := .int 6 :: _) rfl rfl ?_
      refine w_t (a := 58) (b := 44) rfl rfl rfl ?_
      refine w_p (pc1 := 59) (st1 := .int 0 :: _) rfl rfl ?_
      refine w_p (pc1 := 60) (st1 := .int 0 :: _) rfl rfl ?_
      refine w_p (pc1 := 61) (al1 := [(2, .int 0), (5, .int 12), (4, .int 0), (3, .int 0), (0, .ref 176), (1, .int 5)]) rfl rfl ?_
      refine w_p (pc1 := 62) rfl rfl ?_
      refine w_p (pc1 := 63) rfl rfl ?_
      refine w_m0 (pc1 := 66) rfl rfl (h_gC rfl rfl rfl rfl) rfl ?_
      refine w_p (pc1 := 68) rfl rfl ?_
      refine w_m0 (pc1 := 69) rfl rfl (h_bl rfl rfl (by decide) rfl) rfl ?_
      refine w_t (a := 76) (b := 72) (cb_eq_t (by exact (frM_t F).2.1 _ (by decide))) rfl rfl ?_
      refine w_p (pc1 := 77) (st1 := .int 0 :: _) rfl rfl ?_
      refine w_p (pc1 := 78) (st1 := .int 0 :: _) rfl rfl ?_
      refine w_p (pc1 := 79) (al1 := [(3, .int 0), (2, .int 0), (5, .int 12), (4, .int 0), (0, .ref 176), (1, .int 5)]) rfl rfl ?_
      refine w_p (pc1 := 81) rfl rfl ?_
      refine w_p (pc1 := 83) rfl rfl ?_
      refine w_p (pc1 := 85) (st1 := .int 8 :: _) rfl rfl ?_
      refine w_t (a := 102) (b := 88) rfl rfl rfl ?_
      refine w_p (pc1 := 103) (st1 := .int 0 :: _) rfl rfl ?_
      refine w_p (pc1 := 104) (st1 := .int 0 :: _) rfl rfl ?_
      refine w_p (pc1 := 106) (al1 := [(4, .int 0), (3, .int 0), (2, .int 0), (5, .int 12), (0, .ref 176), (1, .int 5)]) rfl rfl ?_
      refine w_p (pc1 := 109) (al1 := [(5, .int 13), (4, .int 0), (3, .int 0), (2, .int 0), (0, .ref 176), (1, .int 5)]) rfl rfl ?_
      refine w_p (pc1 := 29) rfl rfl ?_
      refine w_p (pc1 := 31) rfl rfl ?_
      refine w_p (pc1 := 33) (st1 := .int 24 :: _) rfl rfl ?_
      refine w_f (a := 112) (b := 36) rfl rfl rfl ?_
      refine w_p (pc1 := 37) rfl rfl ?_
      refine w_p (pc1 := 39) rfl rfl ?_
      refine w_p (pc1 := 41) (st1 := .int 6 :: _) rfl rfl ?_
      refine w_t (a := 58) (b := 44) rfl rfl rfl ?_
      refine w_p (pc1 := 59) (st1 := .int 0 :: _) rfl rfl ?_
      refine w_p (pc1 := 60) (st1 := .int 0 :: _) rfl rfl ?_
      refine w_p (pc1 := 61) (al1 := [(2, .int 0), (5, .int 13), (4, .int 0), (3, .int 0), (0, .ref 176), (1, .int 5)]) rfl rfl ?_
      refine w_p (pc1 := 62) rfl rfl ?_
      refine w_p (pc1 := 63) rfl rfl ?_
      refine w_m0 (pc1 := 66) rfl rfl (h_gC rfl rfl rfl rfl) rfl ?_
      refine w_p (pc1 := 68) rfl rfl ?_
      refine w_m0 (pc1 := 69) rfl rfl (h_bl rfl rfl (by decide) rfl) rfl ?_
      refine w_t (a := 76) (b := 72) (cb_eq_t (by exact (frM_t F).2.1 _ (by decide))) rfl rfl ?_
      refine w_p (pc1 := 77) (st1 := .int 0 :: _) rfl rfl ?_
      refine w_p (pc1 := 78) (st1 := .int 0 :: _) rfl rfl ?_
      refine w_p (pc1 := 79) (al1 := [(3, .int 0), (2, .int 0), (5, .int 13), (4, .int 0), (0, .ref 176), (1, .int 5)]) rfl rfl ?_
      refine w_p (pc1 := 81) rfl rfl ?_
      refine w_p (pc1 := 83) rfl rfl ?_
      refine w_p (pc1 := 85) (st1 := .int 8 :: _) rfl rfl ?_
      refine w_t (a := 102) (b := 88) rfl rfl rfl ?_
      refine w_p (pc1 := 103) (st1 := .int 0 :: _) rfl rfl ?_
      refine w_p (pc1 := 104) (st1 := .int 0 :: _) rfl rfl ?_
      refine w_p (pc1 := 106) (al1 := [(4, .int 0), (3, .int 0), (2, .int 0), (5, .int 13), (0, .ref 176), (1, .int 5)]) rfl rfl ?_
      refine w_p (pc1 := 109) (al1 := [(5, .int 14), (4, .int 0), (3, .int 0), (2, .int 0), (0, .ref 176), (1, .int 5)]) rfl rfl ?_
      refine w_p (pc1 := 29) rfl rfl ?_
      refine w_p (pc1 := 31) rfl rfl ?_
      refine w_p (pc1 := 33) (st1 := .int 24 :: _) rfl rfl ?_
      refine w_f (a := 112) (b := 36) rfl rfl rfl ?_
      refine w_p (pc1 := 37) rfl rfl ?_
      refine w_p (pc1 := 39) rfl rfl ?_
      refine w_p (pc1 := 41) (st1 := .int 6 :: _) rfl rfl ?_
      refine w_t (a := 58) (b := 44) rfl rfl rfl ?_
      refine w_p (pc1 := 59) (st1 := .int 0 :: _) rfl rfl ?_
      refine w_p (pc1 := 60) (st1 := .int 0 :: _) rfl rfl ?_
      refine w_p (pc1 := 61) (al1 := [(2, .int 0), (5, .int 14), (4, .int 0), (3, .int 0), (0, .ref 176), (1, .int 5)]) rfl rfl ?_
      refine w_p (pc1 := 62) rfl rfl ?_
      refine w_p (pc1 := 63) rfl rfl ?_
      refine w_m0 (pc1 := 66) rfl rfl (h_gC rfl rfl rfl rfl) rfl ?_
      refine w_p (pc1 := 68) rfl rfl ?_
      refine w_m0 (pc1 := 69) rfl rfl (h_bl rfl rfl (by decide) rfl) rfl ?_
      refine w_t (a := 76) (b := 72) (cb_eq_t (by exact (frM_t F).2.1 _ (by decide))) rfl rfl ?_
      refine w_p (pc1 := 77) (st1 := .int 0 :: _) rfl rfl ?_
      refine w_p (pc1 := 78) (st1 := .int 0 :: _) rfl rfl ?_
      refine w_p (pc1 := 79) (al1 := [(3, .int 0), (2, .int 0), (5, .int 14), (4, .int 0), (0, .ref 176), (1, .int 5)]) rfl rfl ?_
      refine w_p (pc1 := 81) rfl rfl ?_
      refine w_p (pc1 := 83) rfl rfl ?_
      refine w_p (pc1 := 85) (st1 := .int 8 :: _) rfl rfl ?_
      refine w_t (a := 102) (b := 88) rfl rfl rfl ?_
      refine w_p (pc1 := 103) (st1 := .int 0 :: _) rfl rfl ?_
      refine w_p (pc1 := 104) (st1 := .int 0 :: _) rfl rfl ?_
      refine w_p (pc1 := 106) (al1 := [(4, .int 0), (3, .int 0), (2, .int 0), (5, .int 14), (0, .ref 176), (1, .int 5)]) rfl rfl ?_
      refine w_p (pc1 := 109) (al1 := [(5, .int 15), (4, .int 0), (3, .int 0), (2, .int 0), (0, .ref 176), (1, .int 5)]) rfl rfl ?_
      refine w_p (pc1 := 29) rfl rfl ?_
      refine w_p (pc1 := 31) rfl rfl ?_
      refine w_p (pc1 := 33) (st1 := .int 24 :: _) rfl rfl ?_
      refine w_f (a := 112) (b := 36) rfl rfl rfl ?_
      refine w_p (pc1 := 37) rfl rfl ?_
      refine w_p (pc1 := 39) rfl rfl ?_
      refine w_p (pc1 := 41) (st1 := .int 6 :: _) rfl rfl ?_
      refine w_t (a := 58) (b := 44) rfl rfl rfl ?_
      refine w_p (pc1 := 59) (st1 := .int 0 :: _) rfl rfl ?_
      refine w_p (pc1 := 60) (st1 := .int 0 :: _) rfl rfl ?_
      refine w_p (pc1 := 61) (al1 := [(2, .int 0), (5, .int 15), (4, .int 0), (3, .int 0), (0, .ref 176), (1, .int 5)]) rfl rfl ?_
      refine w_p (pc1 := 62) rfl rfl ?_
      refine w_p (pc1 := 63) rfl rfl ?_
      refine w_m0 (pc1 := 66) rfl rfl (h_gC rfl rfl rfl rfl) rfl ?_
      refine w_p (pc1 := 68) rfl rfl ?_
      refine w_m0 (pc1 := 69) rfl rfl (h_bl rfl rfl (by decide) rfl) rfl ?_
      refine w_t (a := 76) (b := 72) (cb_eq_t (by exact (frM_t F).2.1 _ (by decide))) rfl rfl ?_
      refine w_p (pc1 := 77) (st1 := .int 0 :: _) rfl rfl ?_
      refine w_p (pc1 := 78) (st1 := .int 0 :: _) rfl rfl ?_
      refine w_p (pc1 := 79) (al1 := [(3, .int 0), (2, .int 0), (5, .int 15), (4, .int 0), (0, .ref 176), (1, .int 5)]) rfl rfl ?_
      refine w_p (pc1 := 81) rfl rfl ?_
      refine w_p (pc1 := 83) rfl rfl ?_
      refine w_p (pc1 := 85) (st1 := .int 8 :: _) rfl rfl ?_
      refine w_t (a := 102) (b := 88) rfl rfl rfl ?_
      refine w_p (pc1 := 103) (st1 := .int 0 :: _) rfl rfl ?_
      refine w_p (pc1 := 104) (st1 := .int 0 :: _) rfl rfl ?_
      refine w_p (pc1 := 106) (al1 := [(4, .int 0), (3, .int 0), (2, .int 0), (5, .int 15), (0, .ref 176), (1, .int 5)]) rfl rfl ?_
      refine w_p (pc1 := 109) (al1 := [(5, .int 16), (4, .int 0), (3, .int 0), (2, .int 0), (0, .ref 176), (1, .int 5)]) rfl rfl ?_
      refine w_p (pc1 := 29) rfl rfl ?_
      refine w_p (pc1 := 31) rfl rfl ?_
      refine w_p (pc1 := 33) (st1 := .int 24 :: _) rfl rfl ?_
      refine w_f (a := 112) (b := 36) rfl rfl rfl ?_
      refine w_p (pc1 := 37) rfl rfl ?_
      refine w_p (pc1 := 39) rfl rfl ?_
      refine w_p (pc1 := 41) (st1 := .int 6 :: _) rfl rfl ?_
      refine w_t (a := 58) (b := 44) rfl rfl rfl ?_
      refine w_p (pc1 := 59) (st1 := .int 0 :: _) rfl rfl ?_
      refine w_p (pc1 := 60) (st1 := .int 0 :: _) rfl rfl ?_
      refine w_p (pc1 := 61) (al1 := [(2, .int 0), (5, .int 16), (4, .int 0), (3, .int 0), (0, .ref 176), (1, .int 5)]) rfl rfl ?_
      refine w_p (pc1 := 62) rfl rfl ?_
      refine w_p (pc1 := 63) rfl rfl ?_
      refine w_m0 (pc1 := 66) rfl rfl (h_gC rfl rfl rfl rfl) rfl ?_
      refine w_p (pc1 := 68) rfl rfl ?_
      refine w_m0 (pc1 := 69) rfl rfl (h_bl rfl rfl (by decide) rfl) rfl ?_
      refine w_t (a := 76) (b := 72) (cb_eq_t (by exact (frM_t F).2.1 _ (by decide))) rfl rfl ?_
      refine w_p (pc1 := 77) (st1 := .int 0 :: _) rfl rfl ?_
      refine w_p (pc1 := 78) (st1 := .int 0 :: _) rfl rfl ?_
      refine w_p (pc1 := 79) (al1 := [(3, .int 0), (2, .int 0), (5, .int 16), (4, .int 0), (0, .ref 176), (1, .int 5)]) rfl rfl ?_
      refine w_p (pc1 := 81) rfl rfl ?_
      refine w_p (pc1 := 83) rfl rfl ?_
      refine w_p (pc1 := 85) (st1 := .int 8 :: _) rfl rfl ?_
      refine w_t (a := 102) (b := 88) rfl rfl rfl ?_
      refine w_p (pc1 := 103) (st1 := .int 0 :: _) rfl rfl ?_
      refine w_p (pc1 := 104) (st1 := .int 0 :: _) rfl rfl ?_
      refine w_p (pc1 := 106) (al1 := [(4, .int 0), (3, .int 0), (2, .int 0), (5, .int 16), (0, .ref 176), (1, .int 5)]) rfl rfl ?_
      refine w_p (pc1 := 109) (al1 := [(5, .int 17), (4, .int 0), (3, .int 0), (2, .int 0), (0, .ref 176), (1, .int 5)]) rfl rfl ?_
      refine w_p (pc1 := 29) rfl rfl ?_
      refine w_p (pc1 := 31) rfl rfl ?_
      refine w_p (pc1 := 33) (st1 := .int 24 :: _) rfl rfl ?_
      refine w_f (a := 112) (b := 36) rfl rfl rfl ?_
      refine w_p (pc1 := 37) rfl rfl ?_
      refine w_p (pc1 := 39) rfl rfl ?_
      refine w_p (pc1 := 41) (st1 := .int 6 :: _) rfl rfl ?_
      refine w_t (a := 58) (b := 44) rfl rfl rfl ?_
      refine w_p (pc1 := 59) (st1 := .int 0 :: _) rfl rfl ?_
      refine w_p (pc1 := 60) (st1 := .int 0 :: _) rfl rfl ?_
      refine w_p (pc1 := 61) (al1 := [(2, .int 0), (5, .int 17), (4, .int 0), (3, .int 0), (0, .ref 176), (1, .int 5)]) rfl rfl ?_
      refine w_p (pc1 := 62) rfl rfl ?_
      refine w_p (pc1 := 63) rfl rfl ?_
      refine w_m0 (pc1 := 66) rfl rfl (h_gC rfl rfl rfl rfl) rfl ?_
      refine w_p (pc1 := 68) rfl rfl ?_
      refine w_m0 (pc1 := 69) rfl rfl (h_bl rfl rfl (by decide) rfl) rfl ?_
      refine w_t (a := 76) (b := 72) (cb_eq_t (by exact (frM_t F).2.1 _ (by decide))) rfl rfl ?_
      refine w_p (pc1 := 77) (st1 := .int 0 :: _) rfl rfl ?_
      refine w_p (pc1 := 78) (st1 := .int 0 :: _) rfl rfl ?_
      refine w_p (pc1 := 79) (al1 := [(3, .int 0), (2, .int 0), (5, .int 17), (4, .int 0), (0, .ref 176), (1, .int 5)]) rfl rfl ?_
      refine w_p (pc1 := 81) rfl rfl ?_
      refine w_p (pc1 := 83) rfl rfl ?_
      refine w_p (pc1 := 85) (st1 := .int 8 :: _) rfl rfl ?_
      refine w_t (a := 102) (b := 88) rfl rfl rfl ?_
      refine w_p (pc1 := 103) (st1 := .int 0 :: _) rfl rfl ?_
      refine w_p (pc1 := 104) (st1 := .int 0 :: _) rfl rfl ?_
      refine w_p (pc1 := 106) (al1 := [(4, .int 0), (3, .int 0), (2, .int 0), (5, .int 17), (0, .ref 176), (1, .int 5)]) rfl rfl ?_
      refine w_p (pc1 := 109) (al1 := [(5, .int 18), (4, .int 0), (3, .int 0), (2, .int 0), (0, .ref 176), (1, .int 5)]) rfl rfl ?_
      refine w_p (pc1 := 29) rfl rfl ?_
      refine w_p (pc1 := 31) rfl rfl ?_
      refine w_p (pc1 := 33) (st1 := .int 24 :: _) rfl rfl ?_
      refine w_f (a := 112) (b := 36) rfl rfl rfl ?_
      refine w_p (pc1 := 37) rfl rfl ?_
      refine w_p (pc1 := 39) rfl rfl ?_
      refine w_p (pc1 := 41) (st1 := .int 6 :: _) rfl rfl ?_
      refine w_t (a := 58) (b := 44) rfl rfl rfl ?_
      refine w_p (pc1 := 59) (st1 := .int 0 :: _) rfl rfl ?_
      refine w_p (pc1 := 60) (st1 := .int 0 :: _) rfl rfl ?_
      refine w_p (pc1 := 61) (al1 := [(2, .int 0), (5, .int 18), (4, .int 0), (3, .int 0), (0, .ref 176), (1, .int 5)]) rfl rfl ?_
      refine w_p (pc1 := 62) rfl rfl ?_
      refine w_p (pc1 := 63) rfl rfl ?_
      refine w_m0 (pc1 := 66) rfl rfl (h_gC rfl rfl rfl rfl) rfl ?_
      refine w_p (pc1 := 68) rfl rfl ?_
      refine w_m0 (pc1 := 69) rfl rfl (h_bl rfl rfl (by decide) rfl) rfl ?_
      refine w_t (a := 76) (b := 72) (cb_eq_t (by exact (frM_t F).2.1 _ (by decide))) rfl rfl ?_
      refine w_p (pc1 := 77) (st1 := .int 0 :: _) rfl rfl ?_
      refine w_p (pc1 := 78) (st1 := .int 0 :: _) rfl rfl ?_
      refine w_p (pc1 := 79) (al1 := [(3, .int 0), (2, .int 0), (5, .int 18), (4, .int 0), (0, .ref 176), (1, .int 5)]) rfl rfl ?_
      refine w_p (pc1 := 81) rfl rfl ?_
      refine w_p (pc1 := 83) rfl rfl ?_
      refine w_p (pc1 := 85) (st1 := .int 8 :: _) rfl rfl ?_
      refine w_t (a := 102) (b := 88) rfl rfl rfl ?_
      refine w_p (pc1 := 103) (st1 := .int 0 :: _) rfl rfl ?_
      refine w_p (pc1 := 104) (st1 := .int 0 :: _) rfl rfl ?_
      refine w_p (pc1 := 106) (al1 := [(4, .int 0), (3, .int 0), (2, .int 0), (5, .int 18), (0, .ref 176), (1, .int 5)]) rfl rfl ?_
      refine w_p (pc1 := 109) (al1 := [(5, .int 19), (4, .int 0), (3, .int 0), (2, .int 0), (0, .ref 176), (1, .int 5)]) rfl rfl ?_
      refine w_p (pc1 := 29) rfl rfl ?_
      refine w_p (pc1 := 31) rfl rfl ?_
      refine w_p (pc1 := 33) (st1 := .int 24 :: _) rfl rfl ?_
      refine w_f (a := 112) (b := 36) rfl rfl rfl ?_
      refine w_p (pc1 := 37) rfl rfl ?_
      refine w_p (pc1 := 39) rfl rfl ?_
      refine w_p (pc1 := 41) (st1 := .int 6 :: _) rfl rfl ?_
      refine w_t (a := 58) (b := 44) rfl rfl rfl ?_
      refine w_p (pc1 := 59) (st1 := .int 0 :: _) rfl rfl ?_
      refine w_p (pc1 := 60) (st1 := .int 0 :: _) rfl rfl ?_
      refine w_p (pc1 := 61) (al1 := [(2, .int 0), (5, .int 19), (4, .int 0), (3, .int 0), (0, .ref 176), (1, .int 5)]) rfl rfl ?_
      refine w_p (pc1 := 62) rfl rfl ?_
      refine w_p (pc1 := 63) rfl rfl ?_
      refine w_m0 (pc1 := 66) rfl rfl (h_gC rfl rfl rfl rfl) rfl ?_
      refine w_p (pc1 := 68) rfl rfl ?_
      refine w_m0 (pc1 := 69) rfl rfl (h_bl rfl rfl (by decide) rfl) rfl ?_
      refine w_t (a := 76) (b := 72) (cb_eq_t (by exact (frM_t F).2.1 _ (by decide))) rfl rfl ?_
      refine w_p (pc1 := 77) (st1 := .int 0 :: _) rfl rfl ?_
      refine w_p (pc1 := 78) (st1 := .int 0 :: _) rfl rfl ?_
      refine w_p (pc1 := 79) (al1 := [(3, .int 0), (2, .int 0), (5, .int 19), (4, .int 0), (0, .ref 176), (1, .int 5)]) rfl rfl ?_
      refine w_p (pc1 := 81) rfl rfl ?_
      refine w_p (pc1 := 83) rfl rfl ?_
      refine w_p (pc1 := 85) (st1 := .int 8 :: _) rfl rfl ?_
      refine w_t (a := 102) (b := 88) rfl rfl rfl ?_
      refine w_p (pc1 := 103) (st1 := .int 0 :: _) rfl rfl ?_
      refine w_p (pc1 := 104) (st1 := .int 0 :: _) rfl rfl ?_
      refine w_p (pc1 := 106) (al1 := [(4, .int 0), (3, .int 0), (2, .int 0), (5, .int 19), (0, .ref 176), (1, .int 5)]) rfl rfl ?_
      refine w_p (pc1 := 109) (al1 := [(5, .int 20), (4, .int 0), (3, .int 0), (2, .int 0), (0, .ref 176), (1, .int 5)]) rfl rfl ?_
      refine w_p (pc1 := 29) rfl rfl ?_
      refine w_p (pc1 := 31) rfl rfl ?_
      refine w_p (pc1 := 33) (st1 := .int 24 :: _) rfl rfl ?_
      refine w_f (a := 112) (b := 36) rfl rfl rfl ?_
      refine w_p (pc1 := 37) rfl rfl ?_
      refine w_p (pc1 := 39) rfl rfl ?_
      refine w_p (pc1 := 41) (st1 := .int 6 :: _) rfl rfl ?_
      refine w_t (a := 58) (b := 44) rfl rfl rfl ?_
      refine w_p (pc1 := 59) (st1 := .int 0 :: _) rfl rfl ?_
      refine w_p (pc1 := 60) (st1 := .int 0 :: _) rfl rfl ?_
      refine w_p (pc1 := 61) (al1 := [(2, .int 0), (5, .int 20), (4, .int 0), (3, .int 0), (0, .ref 176), (1, .int 5)]) rfl rfl ?_
      refine w_p (pc1 := 62) rfl rfl ?_
      refine w_p (pc1 := 63) rfl rfl ?_
      refine w_m0 (pc1 := 66) rfl rfl (h_gC rfl rfl rfl rfl) rfl ?_
      refine w_p (pc1 := 68) rfl rfl ?_
      refine w_m0 (pc1 := 69) rfl rfl (h_bl rfl rfl (by decide) rfl) rfl ?_
      refine w_t (a := 76) (b := 72) (cb_eq_t (by exact (frM_t F).2.1 _ (by decide))) rfl rfl ?_
      refine w_p (pc1 := 77) (st1 := .int 0 :: _) rfl rfl ?_
      refine w_p (pc1 := 78) (st1 := .int 0 :: _) rfl rfl ?_
      refine w_p (pc1 := 79) (al1 := [(3, .int 0), (2, .int 0), (5, .int 20), (4, .int 0), (0, .ref 176), (1, .int 5)]) rfl rfl ?_
      refine w_p (pc1 := 81) rfl rfl ?_
      refine w_p (pc1 := 83) rfl rfl ?_
      refine w_p (pc1 := 85) (st1 := .int 8 :: _) rfl rfl ?_
      refine w_t (a := 102) (b := 88) rfl rfl rfl ?_
      refine w_p (pc1 := 103) (st1 := .int 0 :: _) rfl rfl ?_
      refine w_p (pc1 := 104) (st1 := .int 0 :: _) rfl rfl ?_
      refine w_p (pc1 := 106) (al1 := [(4, .int 0), (3, .int 0), (2, .int 0), (5, .int 20), (0, .ref 176), (1, .int 5)]) rfl rfl ?_
      refine w_p (pc1 := 109) (al1 := [(5, .int 21), (4, .int 0), (3, .int 0), (2, .int 0), (0, .ref 176), (1, .int 5)]) rfl rfl ?_
      refine w_p (pc1 := 29) rfl rfl ?_
      refine w_p (pc1 := 31) rfl rfl ?_
      refine w_p (pc1 := 33) (st1 := .int 24 :: _) rfl rfl ?_
      refine w_f (a := 112) (b := 36) rfl rfl rfl ?_
      refine w_p (pc1 := 37) rfl rfl ?_
      refine w_p (pc1 := 39) rfl rfl ?_
      refine w_p (pc1 := 41) (st1 := .int 6 :: _) rfl rfl ?_
      refine w_t (a := 58) (b := 44) rfl rfl rfl ?_
      refine w_p (pc1 := 59) (st1 := .int 0 :: _) rfl rfl ?_
      refine w_p (pc1 := 60) (st1 := .int 0 :: _) rfl rfl ?_
      refine w_p (pc1 := 61) (al1 := [(2, .int 0), (5, .int 21), (4, .int 0), (3, .int 0), (0, .ref 176), (1, .int 5)]) rfl rfl ?_
      refine w_p (pc1 := 62) rfl rfl ?_
      refine w_p (pc1 := 63) rfl rfl ?_
      refine w_m0 (pc1 := 66) rfl rfl (h_gC rfl rfl rfl rfl) rfl ?_
      refine w_p (pc1 := 68) rfl rfl ?_
      refine w_m0 (pc1 := 69) rfl rfl (h_bl rfl rfl (by decide) rfl) rfl ?_
      refine w_t (a := 76) (b := 72) (cb_eq_t (by exact (frM_t F).2.1 _ (by decide))) rfl rfl ?_
      refine w_p (pc1 := 77) (st1 := .int 0 :: _) rfl rfl ?_
      refine w_p (pc1 := 78) (st1 := .int 0 :: _) rfl rfl ?_
      refine w_p (pc1 := 79) (al1 := [(3, .int 0), (2, .int 0), (5, .int 21), (4, .int 0), (0, .ref 176), (1, .int 5)]) rfl rfl ?_
      refine w_p (pc1 := 81) rfl rfl ?_
      refine w_p (pc1 := 83) rfl rfl ?_
      refine w_p (pc1 := 85) (st1 := .int 8 :: _) rfl rfl ?_
      refine w_t (a := 102) (b := 88) rfl rfl rfl ?_
      refine w_p (pc1 := 103) (st1 := .int 0 :: _) rfl rfl ?_
      refine w_p (pc1 := 104) (st1 := .int 0 :: _) rfl rfl ?_
      refine w_p (pc1 := 106) (al1 := [(4, .int 0), (3, .int 0), (2, .int 0), (5, .int 21), (0, .ref 176), (1, .int 5)]) rfl rfl ?_
      refine w_p (pc1 := 109) (al1 := [(5, .int 22), (4, .int 0), (3, .int 0), (2, .int 0), (0, .ref 176), (1, .int 5)]) rfl rfl ?_
      refine w_p (pc1 := 29) rfl rfl ?_
      refine w_p (pc1 := 31) rfl rfl ?_
      refine w_p (pc1 := 33) (st1 := .int 24 :: _) rfl rfl ?_
      refine w_f (a := 112) (b := 36) rfl rfl rfl ?_
      refine w_p (pc1 := 37) rfl rfl ?_
      refine w_p (pc1 := 39) rfl rfl ?_
      refine w_p (pc1 := 41) (st1 := .int 6 :: _) rfl rfl ?_
      refine w_t (a := 58) (b := 44) rfl rfl rfl ?_
      refine w_p (pc1 := 59) (st1 := .int 0 :: _) rfl rfl ?_
      refine w_p (pc1 := 60) (st1 := .int 0 :: _) rfl rfl ?_
      refine w_p (pc1 := 61) (al1 := [(2, .int 0), (5, .int 22), (4, .int 0), (3, .int 0), (0, .ref 176), (1, .int 5)]) rfl rfl ?_
      refine w_p (pc1 := 62) rfl rfl ?_
      refine w_p (pc1 := 63) rfl rfl ?_
      refine w_m0 (pc1 := 66) rfl rfl (h_gC rfl rfl rfl rfl) rfl ?_
      refine w_p (pc1 := 68) rfl rfl ?_
      refine w_m0 (pc1 := 69) rfl rfl (h_bl rfl rfl (by decide) rfl) rfl ?_
      refine w_t (a := 76) (b := 72) (cb_eq_t (by exact (frM_t F).2.1 _ (by decide))) rfl rfl ?_
      refine w_p (pc1 := 77) (st1 := .int 0 :: _) rfl rfl ?_
      refine w_p (pc1 := 78) (st1 := .int 0 :: _) rfl rfl ?_
      refine w_p (pc1 := 79) (al1 := [(3, .int 0), (2, .int 0), (5, .int 22), (4, .int 0), (0, .ref 176), (1, .int 5)]) rfl rfl ?_
      refine w_p (pc1 := 81) rfl rfl ?_
      refine w_p (pc1 := 83) rfl rfl ?_
      refine w_p (pc1 := 85) (st1 := .int 8 :: _) rfl rfl ?_
      refine w_t (a := 102) (b := 88) rfl rfl rfl ?_
      refine w_p (pc1 := 103) (st1 := .int 0 :: _) rfl rfl ?_
      refine w_p (pc1 := 104) (st1 := .int 0 :: _) rfl rfl ?_
      refine w_p (pc1 := 106) (al1 := [(4, .int 0), (3, .int 0), (2, .int 0), (5, .int 22), (0, .ref 176), (1, .int 5)]) rfl rfl ?_
      refine w_p (pc1 := 109) (al1 := [(5, .int 23), (4, .int 0), (3, .int 0), (2, .int 0), (0, .ref 176), (1, .int 5)]) rfl rfl ?_
      refine w_p (pc1 := 29) rfl rfl ?_
      refine w_p (pc1 := 31) rfl rfl ?_
      refine w_p (pc1 := 33) (st1 := .int 24 :: _) rfl rfl ?_
      refine w_f (a := 112) (b := 36) rfl rfl rfl ?_
      refine w_p (pc1 := 37) rfl rfl ?_
      refine w_p (pc1 := 39) rfl rfl ?_
      refine w_p (pc1 := 41) (st1 := .int 6 :: _) rfl rfl ?_
      refine w_t (a := 58) (b := 44) rfl rfl rfl ?_
      refine w_p (pc1 := 59) (st1 := .int 0 :: _) rfl rfl ?_
      refine w_p (pc1 := 60) (st1 := .int 0 :: _) rfl rfl ?_
      refine w_p (pc1 := 61) (al1 := [(2, .int 0), (5, .int 23), (4, .int 0), (3, .int 0), (0, .ref 176), (1, .int 5)]) rfl rfl ?_
      refine w_p (pc1 := 62) rfl rfl ?_
      refine w_p (pc1 := 63) rfl rfl ?_
      refine w_m0 (pc1 := 66) rfl rfl (h_gC rfl rfl rfl rfl) rfl ?_
      refine w_p (pc1 := 68) rfl rfl ?_
      refine w_m0 (pc1 := 69) rfl rfl (h_bl rfl rfl (by decide) rfl) rfl ?_
      refine w_t (a := 76) (b := 72) (cb_eq_t (by exact (frM_t F).2.1 _ (by decide))) rfl rfl ?_
      refine w_p (pc1 := 77) (st1 := .int 0 :: _) rfl rfl ?_
      refine w_p (pc1 := 78) (st1 := .int 0 :: _) rfl rfl ?_
      refine w_p (pc1 := 79) (al1 := [(3, .int 0), (2, .int 0), (5, .int 23), (4, .int 0), (0, .ref 176), (1, .int 5)]) rfl rfl ?_
      refine w_p (pc1 := 81) rfl rfl ?_
      refine w_p (pc1 := 83) rfl rfl ?_
      refine w_p (pc1 := 85) (st1 := .int 8 :: _) rfl rfl ?_
      refine w_t (a := 102) (b := 88) rfl rfl rfl ?_
      refine w_p (pc1 := 103) (st1 := .int 0 :: _) rfl rfl ?_
      refine w_p (pc1 := 104) (st1 := .int 0 :: _) rfl rfl ?_
      refine w_p (pc1 := 106) (al1 := [(4, .int 0), (3, .int 0), (2, .int 0), (5, .int 23), (0, .ref 176), (1, .int 5)]) rfl rfl ?_
      refine w_p (pc1 := 109) (al1 := [(5, .int 24), (4, .int 0), (3, .int 0), (2, .int 0), (0, .ref 176), (1, .int 5)]) rfl rfl ?_
      refine w_p (pc1 := 29) rfl rfl ?_
      refine w_p (pc1 := 31) rfl rfl ?_
      refine w_p (pc1 := 33) (st1 := .int 24 :: _) rfl rfl ?_
      refine w_t (a := 112) (b := 36) rfl rfl rfl ?_
      refine w_p (pc1 := 113) rfl rfl ?_
      refine w_t (a := 120) (b := 116) rfl rfl rfl ?_
      refine w_p (pc1 := 121) rfl rfl ?_
      refine w_p (pc1 := 122) (st1 := .int 1 :: _) rfl rfl ?_
      refine w_t (a := 129) (b := 125) rfl rfl rfl ?_
      refine w_p (pc1 := 130) rfl rfl ?_
      refine w_p (pc1 := 131) (st1 := .int 2 :: _) rfl rfl ?_
      refine w_t (a := 139) (b := 134) rfl rfl rfl ?_
      refine w_p (pc1 := 140) rfl rfl ?_
      refine w_p (pc1 := 141) (st1 := .int 3 :: _) rfl rfl ?_
      refine w_t (a := 151) (b := 144) rfl rfl rfl ?_
      refine w_p (pc1 := 152) rfl rfl ?_
      refine w_p (pc1 := 153) (st1 := .int 4 :: _) rfl rfl ?_
      refine w_t (a := 163) (b := 156) rfl rfl rfl ?_
      refine w_p (pc1 := 164) rfl rfl ?_
      refine w_p (pc1 := 165) (st1 := .int 5 :: _) rfl rfl ?_
      refine w_f (a := 183) (b := 168) rfl rfl rfl ?_
      refine w_p (pc1 := 169) rfl rfl ?_
      refine w_m0 (pc1 := 172) rfl rfl (h_gI rfl rfl rfl rfl rfl) rfl ?_
      refine w_t (a := 179) (b := 175) (cb_eq_t (by exact (frM_t F).2.2.2.2.1)) rfl rfl ?_
      refine w_p (pc1 := 180) (st1 := .int 0 :: _) rfl rfl ?_
      refine w_p (pc1 := 187) rfl rfl ?_
      refine w_r rfl rfl rfl (fun _ _ => rfl) cr_int ?_
      refine Or.inl ⟨by decide, ?_, rfl, rfl⟩; first | rfl | rw [(frM_t F).2.2.2.1] | rw [(frM_t F).2.2.2.2.2]
    · skip
      refine w_p (pc1 := 1) rfl rfl ?_
      refine w_p (pc1 := 2) rfl rfl ?_
      refine w_p (pc1 := 3) (st1 := .long 6 :: _) rfl rfl ?_
      refine w_p (pc1 := 4) (st1 := .long 0 :: _) rfl rfl ?_
      refine w_m0 (pc1 := 7) (st1 := .long 6 :: _) rfl rfl rfl rfl ?_
      refine w_je (pc1 := 10) (vs := [.long 6, .long 0, .long 6]) (rest := [.ref 176]) (st1 := [.int 1, .ref 176]) (m_189t (d := _) (sl := 0) rfl) rfl rfl rfl (fun _ _ => rfl) rfl (by exact cl_s my_189 rfl rfl rfl (Nat.le_of_ble_eq_true rfl) rfl rfl) (by rfl) (Nat.le_of_ble_eq_true rfl) (Nat.le_of_ble_eq_true rfl) rfl (by rfl) ?_
      refine w_p (pc1 := 11) (st1 := .int 1 :: _) rfl rfl ?_
      refine w_je (pc1 := 14) (vs := [.ref 176, .int 1, .int 1]) (rest := []) (st1 := [.int 1]) (m_190 (d := _) (sl := 0)) rfl rfl rfl (fun _ _ => rfl) rfl (by exact cl_v my_190 rfl rfl rfl (Nat.le_of_ble_eq_true rfl) rfl (MH_obj rfl rfl) rfl (by decide) rfl rfl) (by rfl) (Nat.le_of_ble_eq_true rfl) (Nat.le_of_ble_eq_true rfl) rfl (by rfl) ?_
      refine w_t (a := 19) (b := 17) rfl rfl rfl ?_
      refine w_p (pc1 := 20) (st1 := .int 0 :: _) rfl rfl ?_
      refine w_p (pc1 := 21) (al1 := [(2, .int 0), (0, .ref 176), (1, .int 6)]) rfl rfl ?_
      refine w_p (pc1 := 22) (st1 := .int 0 :: _) rfl rfl ?_
      refine w_p (pc1 := 23) (al1 := [(3, .int 0), (2, .int 0), (0, .ref 176), (1, .int 6)]) rfl rfl ?_
      refine w_p (pc1 := 24) (st1 := .int 0 :: _) rfl rfl ?_
      refine w_p (pc1 := 26) (al1 := [(4, .int 0), (3, .int 0), (2, .int 0), (0, .ref 176), (1, .int 6)]) rfl rfl ?_
      refine w_p (pc1 := 27) (st1 := .int 0 :: _) rfl rfl ?_
      refine w_p (pc1 := 29) (al1 := [(5, .int 0), (4, .int 0), (3, .int 0), (2, .int 0), (0, .ref 176), (1, .int 6)]) rfl rfl ?_
      refine w_p (pc1 := 31) rfl rfl ?_
      refine w_p (pc1 := 33) (st1 := .int 24 :: _) rfl rfl ?_
      refine w_f (a := 112) (b := 36) rfl rfl rfl ?_
      refine w_p (pc1 := 37) rfl rfl ?_
      refine w_p (pc1 := 39) rfl rfl ?_
      refine w_p (pc1 := 41) (st1 := .int 6 :: _) rfl rfl ?_
      refine w_f (a := 58) (b := 44) rfl rfl rfl ?_
      refine w_p (pc1 := 45) rfl rfl ?_
      refine w_m0 (pc1 := 48) rfl rfl (h_gC rfl rfl rfl rfl) rfl ?_
      refine w_p (pc1 := 50) rfl rfl ?_
      refine w_m0 (pc1 := 51) rfl rfl (h_bl rfl rfl (by decide) rfl) rfl ?_
      refine w_t (a := 58) (b := 54) (cb_eq_t (by exact (frM_t F).1 _ (by decide))) rfl rfl ?_
      refine w_p (pc1 := 59) (st1 := .int 0 :: _) rfl rfl ?_
      refine w_p (pc1 := 60) (st1 := .int 0 :: _) rfl rfl ?_
      refine w_p (pc1 := 61) (al1 := [(2, .int 0), (5, .int 0), (4, .int 0), (3, .int 0), (0, .ref 176), (1, .int 6)]) rfl rfl ?_
      refine w_p (pc1 := 62) rfl rfl ?_
      refine w_p (pc1 := 63) rfl rfl ?_
      refine w_m0 (pc1 := 66) rfl rfl (h_gC rfl rfl rfl rfl) rfl ?_
      refine w_p (pc1 := 68) rfl rfl ?_
      refine w_m0 (pc1 := 69) rfl rfl (h_bl rfl rfl (by decide) rfl) rfl ?_
      refine w_t (a := 76) (b := 72) (cb_eq_t (by exact (frM_t F).2.1 _ (by decide))) rfl rfl ?_
      refine w_p (pc1 := 77) (st1 := .int 0 :: _) rfl rfl ?_
      refine w_p (pc1 := 78) (st1 := .int 0 :: _) rfl rfl ?_
      refine w_p (pc1 := 79) (al1 := [(3, .int 0), (2, .int 0), (5, .int 0), (4, .int 0), (0, .ref 176), (1, .int 6)]) rfl rfl ?_
      refine w_p (pc1 := 81) rfl rfl ?_
      refine w_p (pc1 := 83) rfl rfl ?_
      refine w_p (pc1 := 85) (st1 := .int 8 :: _) rfl rfl ?_
      refine w_f (a := 102) (b := 88) rfl rfl rfl ?_
      refine w_p (pc1 := 89) rfl rfl ?_
      refine w_m0 (pc1 := 92) rfl rfl (h_gC rfl rfl rfl rfl) rfl ?_
      refine w_p (pc1 := 94) rfl rfl ?_
      refine w_m0 (pc1 := 95) rfl rfl (h_bl rfl rfl (by decide) rfl) rfl ?_
      refine w_t (a := 102) (b := 98) (cb_eq_t (by exact (frM_t F).2.2.1 _ (by decide))) rfl rfl ?_
      refine w_p (pc1 := 103) (st1 := .int 0 :: _) rfl rfl ?_
      refine w_p (pc1 := 104) (st1 := .int 0 :: _) rfl rfl ?_
      refine w_p (pc1 := 106) (al1 := [(4, .int 0), (3, .int 0), (2, .int 0), (5, .int 0), (0, .ref 176), (1, .int 6)]) rfl rfl ?_
      refine w_p (pc1 := 109) (al1 := [(5, .int 1), (4, .int 0), (3, .int 0), (2, .int 0), (0, .ref 176), (1, .int 6)]) rfl rfl ?_
      refine w_p (pc1 := 29) rfl rfl ?_
      refine w_p (pc1 := 31) rfl rfl ?_
      refine w_p (pc1 := 33) (st1 := .int 24 :: _) rfl rfl ?_
      refine w_f (a := 112) (b := 36) rfl rfl rfl ?_
      refine w_p (pc1 := 37) rfl rfl ?_
      refine w_p (pc1 := 39) rfl rfl ?_
      refine w_p (pc1 := 41) (st1 := .int 6 :: _) rfl rfl ?_
      refine w_f (a := 58) (b := 44) rfl rfl rfl ?_
      refine w_p (pc1 := 45) rfl rfl ?_
      refine w_m0 (pc1 := 48) rfl rfl (h_gC rfl rfl rfl rfl) rfl ?_
      refine w_p (pc1 := 50) rfl rfl ?_
      refine w_m0 (pc1 := 51) rfl rfl (h_bl rfl rfl (by decide) rfl) rfl ?_
      refine w_t (a := 58) (b := 54) (cb_eq_t (by exact (frM_t F).1 _ (by decide))) rfl rfl ?_
      refine w_p (pc1 := 59) (st1 := .int 0 :: _) rfl rfl ?_
      refine w_p (pc1 := 60) (st1 := .int 0 :: _) rfl rfl ?_
      refine w_p (pc1 := 61) (al1 := [(2, .int 0), (5, .int 1), (4, .int 0), (3, .int 0), (0, .ref 176), (1, .int 6)]) rfl rfl ?_
      refine w_p (pc1 := 62) rfl rfl ?_
      refine w_p (pc1 := 63) rfl rfl ?_
      refine w_m0 (pc1 := 66) rfl rfl (h_gC rfl rfl rfl rfl) rfl ?_
      refine w_p (pc1 := 68) rfl rfl ?_
      refine w_m0 (pc1 := 69) rfl rfl (h_bl rfl rfl (by decide) rfl) rfl ?_
      refine w_t (a := 76) (b := 72) (cb_eq_t (by exact (frM_t F).2.1 _ (by decide))) rfl rfl ?_
      refine w_p (pc1 := 77) (st1 := .int 0 :: _) rfl rfl ?_
      refine w_p (pc1 := 78) (st1 := .int 0 :: _) rfl rfl ?_
      refine w_p (pc1 := 79) (al1 := [(3, .int 0), (2, .int 0), (5, .int 1), (4, .int 0), (0, .ref 176), (1, .int 6)]) rfl rfl ?_
      refine w_p (pc1 := 81) rfl rfl ?_
      refine w_p (pc1 := 83) rfl rfl ?_
      refine w_p (pc1 := 85) (st1 := .int 8 :: _) rfl rfl ?_
      refine w_f (a := 102) (b := 88) rfl rfl rfl ?_
      refine w_p (pc1 := 89) rfl rfl ?_
      refine w_m0 (pc1 := 92) rfl rfl (h_gC rfl rfl rfl rfl) rfl ?_
      refine w_p (pc1 := 94) rfl rfl ?_
      refine w_m0 (pc1 := 95) rfl rfl (h_bl rfl rfl (by decide) rfl) rfl ?_
      refine w_t (a := 102) (b := 98) (cb_eq_t (by exact (frM_t F).2.2.1 _ (by decide))) rfl rfl ?_
      refine w_p (pc1 := 103) (st1 := .int 0 :: _) rfl rfl ?_
      refine w_p (pc1 := 104) (st1 := .int 0 :: _) rfl rfl ?_
      refine w_p (pc1 := 106) (al1 := [(4, .int 0), (3, .int 0), (2, .int 0), (5, .int 1), (0, .ref 176), (1, .int 6)]) rfl rfl ?_
      refine w_p (pc1 := 109) (al1 := [(5, .int 2), (4, .int 0), (3, .int 0), (2, .int 0), (0, .ref 176), (1, .int 6)]) rfl rfl ?_
      refine w_p (pc1 := 29) rfl rfl ?_
      refine w_p (pc1 := 31) rfl rfl ?_
      refine w_p (pc1 := 33) (st1 := .int 24 :: _) rfl rfl ?_
      refine w_f (a := 112) (b := 36) rfl rfl rfl ?_
      refine w_p (pc1 := 37) rfl rfl ?_
      refine w_p (pc1 := 39) rfl rfl ?_
      refine w_p (pc1 := 41) (st1 := .int 6 :: _) rfl rfl ?_
      refine w_f (a := 58) (b := 44) rfl rfl rfl ?_
      refine w_p (pc1 := 45) rfl rfl ?_
      refine w_m0 (pc1 := 48) rfl rfl (h_gC rfl rfl rfl rfl) rfl ?_
      refine w_p (pc1 := 50) rfl rfl ?_
      refine w_m0 (pc1 := 51) rfl rfl (h_bl rfl rfl (by decide) rfl) rfl ?_
      refine w_t (a := 58) (b := 54) (cb_eq_t (by exact (frM_t F).1 _ (by decide))) rfl rfl ?_
      refine w_p (pc1 := 59) (st1 := .int 0 :: _) rfl rfl ?_
      refine w_p (pc1 := 60) (st1 := .int 0 :: _) rfl rfl ?_
      refine w_p (pc1 := 61) (al1 := [(2, .int 0), (5, .int 2), (4, .int 0), (3, .int 0), (0, .ref 176), (1, .int 6)]) rfl rfl ?_
      refine w_p (pc1 := 62) rfl rfl ?_
      refine w_p (pc1 := 63) rfl rfl ?_
      refine w_m0 (pc1 := 66) rfl rfl (h_gC rfl rfl rfl rfl) rfl ?_
      refine w_p (pc1 := 68) rfl rfl ?_
      refine w_m0 (pc1 := 69) rfl rfl (h_bl rfl rfl (by decide) rfl) rfl ?_
      refine w_t (a := 76) (b := 72) (cb_eq_t (by exact (frM_t F).2.1 _ (by decide))) rfl rfl ?_
      refine w_p (pc1 := 77) (st1 := .int 0 :: _) rfl rfl ?_
      refine w_p (pc1 := 78) (st1 := .int 0 :: _) rfl rfl ?_
      refine w_p (pc1 := 79) (al1 := [(3, .int 0), (2, .int 0), (5, .int 2), (4, .int 0), (0, .ref 176), (1, .int 6)]) rfl rfl ?_
      refine w_p (pc1 := 81) rfl rfl ?_
      refine w_p (pc1 := 83) rfl rfl ?_
      refine w_p (pc1 := 85) (st1 := .int 8 :: _) rfl rfl ?_
      refine w_f (a := 102) (b := 88) rfl rfl rfl ?_
      refine w_p (pc1 := 89) rfl rfl ?_
      refine w_m0 (pc1 := 92) rfl rfl (h_gC rfl rfl rfl rfl) rfl ?_
      refine w_p (pc1 := 94) rfl rfl ?_
      refine w_m0 (pc1 := 95) rfl rfl (h_bl rfl rfl (by decide) rfl) rfl ?_
      refine w_t (a := 102) (b := 98) (cb_eq_t (by exact (frM_t F).2.2.1 _ (by decide))) rfl rfl ?_
      refine w_p (pc1 := 103) (st1 := .int 0 :: _) rfl rfl ?_
      refine w_p (pc1 := 104) (st1 := .int 0 :: _) rfl rfl ?_
      refine w_p (pc1 := 106) (al1 := [(4, .int 0), (3, .int 0), (2, .int 0), (5, .int 2), (0, .ref 176), (1, .int 6)]) rfl rfl ?_
      refine w_p (pc1 := 109) (al1 := [(5, .int 3), (4, .int 0), (3, .int 0), (2, .int 0), (0, .ref 176), (1, .int 6)]) rfl rfl ?_
      refine w_p (pc1 := 29) rfl rfl ?_
      refine w_p (pc1 := 31) rfl rfl ?_
      refine w_p (pc1 := 33) (st1 := .int 24 :: _) rfl rfl ?_
      refine w_f (a := 112) (b := 36) rfl rfl rfl ?_
      refine w_p (pc1 := 37) rfl rfl ?_
      refine w_p (pc1 := 39) rfl rfl ?_
      refine w_p (pc1 := 41) (st1 := .int 6 :: _) rfl rfl ?_
      refine w_f (a := 58) (b := 44) rfl rfl rfl ?_
      refine w_p (pc1 := 45) rfl rfl ?_
      refine w_m0 (pc1 := 48) rfl rfl (h_gC rfl rfl rfl rfl) rfl ?_
      refine w_p (pc1 := 50) rfl rfl ?_
      refine w_m0 (pc1 := 51) rfl rfl (h_bl rfl rfl (by decide) rfl) rfl ?_
      refine w_t (a := 58) (b := 54) (cb_eq_t (by exact (frM_t F).1 _ (by decide))) rfl rfl ?_
      refine w_p (pc1 := 59) (st1 := .int 0 :: _) rfl rfl ?_
      refine w_p (pc1 := 60) (st1 := .int 0 :: _) rfl rfl ?_
      refine w_p (pc1 := 61) (al1 := [(2, .int 0), (5, .int 3), (4, .int 0), (3, .int 0), (0, .ref 176), (1, .int 6)]) rfl rfl ?_
      refine w_p (pc1 := 62) rfl rfl ?_
      refine w_p (pc1 := 63) rfl rfl ?_
      refine w_m0 (pc1 := 66) rfl rfl (h_gC rfl rfl rfl rfl) rfl ?_
      refine w_p (pc1 := 68) rfl rfl ?_
      refine w_m0 (pc1 := 69) rfl rfl (h_bl rfl rfl (by decide) rfl) rfl ?_
      refine w_t (a := 76) (b := 72) (cb_eq_t (by exact (frM_t F).2.1 _ (by decide))) rfl rfl ?_
      refine w_p (pc1 := 77) (st1 := .int 0 :: _) rfl rfl ?_
      refine w_p (pc1 := 78) (st1 := .int 0 :: _) rfl rfl ?_
      refine w_p (pc1 := 79) (al1 := [(3, .int 0), (2, .int 0), (5, .int 3), (4, .int 0), (0, .ref 176), (1, .int 6)]) rfl rfl ?_
      refine w_p (pc1 := 81) rfl rfl ?_
      refine w_p (pc1 := 83) rfl rfl ?_
      refine w_p (pc1 := 85) (st1 := .int 8 :: _) rfl rfl ?_
      refine w_f (a := 102) (b := 88) rfl rfl rfl ?_
      refine w_p (pc1 := 89) rfl rfl ?_
      refine w_m0 (pc1 := 92) rfl rfl (h_gC rfl rfl rfl rfl) rfl ?_
      refine w_p (pc1 := 94) rfl rfl ?_
      refine w_m0 (pc1 := 95) rfl rfl (h_bl rfl rfl (by decide) rfl) rfl ?_
      refine w_t (a := 102) (b := 98) (cb_eq_t (by exact (frM_t F).2.2.1 _ (by decide))) rfl rfl ?_
      refine w_p (pc1 := 103) (st1 := .int 0 :: _) rfl rfl ?_
      refine w_p (pc1 := 104) (st1 := .int 0 :: _) rfl rfl ?_
      refine w_p (pc1 := 106) (al1 := [(4, .int 0), (3, .int 0), (2, .int 0), (5, .int 3), (0, .ref 176), (1, .int 6)]) rfl rfl ?_
      refine w_p (pc1 := 109) (al1 := [(5, .int 4), (4, .int 0), (3, .int 0), (2, .int 0), (0, .ref 176), (1, .int 6)]) rfl rfl ?_
      refine w_p (pc1 := 29) rfl rfl ?_
      refine w_p (pc1 := 31) rfl rfl ?_
      refine w_p (pc1 := 33) (st1 := .int 24 :: _) rfl rfl ?_
      refine w_f (a := 112) (b := 36) rfl rfl rfl ?_
      refine w_p (pc1 := 37) rfl rfl ?_
      refine w_p (pc1 := 39) rfl rfl ?_
      refine w_p (pc1 := 41) (st1 := .int 6 :: _) rfl rfl ?_
      refine w_f (a := 58) (b := 44) rfl rfl rfl ?_
      refine w_p (pc1 := 45) rfl rfl ?_
      refine w_m0 (pc1 := 48) rfl rfl (h_gC rfl rfl rfl rfl) rfl ?_
      refine w_p (pc1 := 50) rfl rfl ?_
      refine w_m0 (pc1 := 51) rfl rfl (h_bl rfl rfl (by decide) rfl) rfl ?_
      refine w_t (a := 58) (b := 54) (cb_eq_t (by exact (frM_t F).1 _ (by decide))) rfl rfl ?_
      refine w_p (pc1 := 59) (st1 := .int 0 :: _) rfl rfl ?_
      refine w_p (pc1 := 60) (st1 := .int 0 :: _) rfl rfl ?_
      refine w_p (pc1 := 61) (al1 := [(2, .int 0), (5, .int 4), (4, .int 0), (3, .int 0), (0, .ref 176), (1, .int 6)]) rfl rfl ?_
      refine w_p (pc1 := 62) rfl rfl ?_
      refine w_p (pc1 := 63) rfl rfl ?_
      refine w_m0 (pc1 := 66) rfl rfl (h_gC rfl rfl rfl rfl) rfl ?_
      refine w_p (pc1 := 68) rfl rfl ?_
      refine w_m0 (pc1 := 69) rfl rfl (h_bl rfl rfl (by decide) rfl) rfl ?_
      refine w_t (a := 76) (b := 72) (cb_eq_t (by exact (frM_t F).2.1 _ (by decide))) rfl rfl ?_
      refine w_p (pc1 := 77) (st1 := .int 0 :: _) rfl rfl ?_
      refine w_p (pc1 := 78) (st1 := .int 0 :: _) rfl rfl ?_
      refine w_p (pc1 := 79) (al1 := [(3, .int 0), (2, .int 0), (5, .int 4), (4, .int 0), (0, .ref 176), (1, .int 6)]) rfl rfl ?_
      refine w_p (pc1 := 81) rfl rfl ?_
      refine w_p (pc1 := 83) rfl rfl ?_
      refine w_p (pc1 := 85) (st1 := .int 8 :: _) rfl rfl ?_
      refine w_f (a := 102) (b := 88) rfl rfl rfl ?_
      refine w_p (pc1 := 89) rfl rfl ?_
      refine w_m0 (pc1 := 92) rfl rfl (h_gC rfl rfl rfl rfl) rfl ?_
      refine w_p (pc1 := 94) rfl rfl ?_
      refine w_m0 (pc1 := 95) rfl rfl (h_bl rfl rfl (by decide) rfl) rfl ?_
      refine w_t (a := 102) (b := 98) (cb_eq_t (by exact (frM_t F).2.2.1 _ (by decide))) rfl rfl ?_
      refine w_p (pc1 := 103) (st1 := .int 0 :: _) rfl rfl ?_
      refine w_p (pc1 := 104) (st1 := .int 0 :: _) rfl rfl ?_
      refine w_p (pc1 := 106) (al1 := [(4, .int 0), (3, .int 0), (2, .int 0), (5, .int 4), (0, .ref 176), (1, .int 6)]) rfl rfl ?_
      refine w_p (pc1 := 109) (al1 := [(5, .int 5), (4, .int 0), (3, .int 0), (2, .int 0), (0, .ref 176), (1, .int 6)]) rfl rfl ?_
      refine w_p (pc1 := 29) rfl rfl ?_
      refine w_p (pc1 := 31) rfl rfl ?_
      refine w_p (pc1 := 33) (st1 := .int 24 :: _) rfl rfl ?_
      refine w_f (a := 112) (b := 36) rfl rfl rfl ?_
      refine w_p (pc1 := 37) rfl rfl ?_
      refine w_p (pc1 := 39) rfl rfl ?_
      refine w_p (pc1 := 41) (st1 := .int 6 :: _) rfl rfl ?_
      refine w_f (a := 58) (b := 44) rfl rfl rfl ?_
      refine w_p (pc1 := 45) rfl rfl ?_
      refine w_m0 (pc1 := 48) rfl rfl (h_gC rfl rfl rfl rfl) rfl ?_
      refine w_p (pc1 := 50) rfl rfl ?_
      refine w_m0 (pc1 := 51) rfl rfl (h_bl rfl rfl (by decide) rfl) rfl ?_
      refine w_t (a := 58) (b := 54) (cb_eq_t (by exact (frM_t F).1 _ (by decide))) rfl rfl ?_
      refine w_p (pc1 := 59) (st1 := .int 0 :: _) rfl rfl ?_
      refine w_p (pc1 := 60) (st1 := .int 0 :: _) rfl rfl ?_
      refine w_p (pc1 := 61) (al1 := [(2, .int 0), (5, .int 5), (4, .int 0), (3, .int 0), (0, .ref 176), (1, .int 6)]) rfl rfl ?_
      refine w_p (pc1 := 62) rfl rfl ?_
      refine w_p (pc1 := 63) rfl rfl ?_
      refine w_m0 (pc1 := 66) rfl rfl (h_gC rfl rfl rfl rfl) rfl ?_
      refine w_p (pc1 := 68) rfl rfl ?_
      refine w_m0 (pc1 := 69) rfl rfl (h_bl rfl rfl (by decide) rfl) rfl ?_
      refine w_t (a := 76) (b := 72) (cb_eq_t (by exact (frM_t F).2.1 _ (by decide))) rfl rfl ?_
      refine w_p (pc1 := 77) (st1 := .int 0 :: _) rfl rfl ?_
      refine w_p (pc1 := 78) (st1 := .int 0 :: _) rfl rfl ?_
      refine w_p (pc1 := 79) (al1 := [(3, .int 0), (2, .int 0), (5, .int 5), (4, .int 0), (0, .ref 176), (1, .int 6)]) rfl rfl ?_
      refine w_p (pc1 := 81) rfl rfl ?_
      refine w_p (pc1 := 83) rfl rfl ?_
      refine w_p (pc1 := 85) (st1 := .int 8 :: _) rfl rfl ?_
      refine w_f (a := 102) (b := 88) rfl rfl rfl ?_
      refine w_p (pc1 := 89) rfl rfl ?_
      refine w_m0 (pc1 := 92) rfl rfl (h_gC rfl rfl rfl rfl) rfl ?_
      refine w_p (pc1 := 94) rfl rfl ?_
      refine w_m0 (pc1 := 95) rfl rfl (h_bl rfl rfl (by decide) rfl) rfl ?_
      refine w_t (a := 102) (b := 98) (cb_eq_t (by exact (frM_t F).2.2.1 _ (by decide))) rfl rfl ?_
      refine w_p (pc1 := 103) (st1 := .int 0 :: _) rfl rfl ?_
      refine w_p (pc1 := 104) (st1 := .int 0 :: _) rfl rfl ?_
      refine w_p (pc1 := 106) (al1 := [(4, .int 0), (3, .int 0), (2, .int 0), (5, .int 5), (0, .ref 176), (1, .int 6)]) rfl rfl ?_
      refine w_p (pc1 := 109) (al1 := [(5, .int 6), (4, .int 0), (3, .int 0), (2, .int 0), (0, .ref 176), (1, .int 6)]) rfl rfl ?_
      refine w_p (pc1 := 29) rfl rfl ?_
      refine w_p (pc1 := 31) rfl rfl ?_
      refine w_p (pc1 := 33) (st1 := .int 24 :: _) rfl rfl ?_
      refine w_f (a := 112) (b := 36) rfl rfl rfl ?_
      refine w_p (pc1 := 37) rfl rfl ?_
      refine w_p (pc1 := 39) rfl rfl ?_
      refine w_p (pc1 := 41) (st1 := .int 6 :: _) rfl rfl ?_
      refine w_t (a := 58) (b := 44) rfl rfl rfl ?_
      refine w_p (pc1 := 59) (st1 := .int 0 :: _) rfl rfl ?_
      refine w_p (pc1 := 60) (st1 := .int 0 :: _) rfl rfl ?_
      refine w_p (pc1 := 61) (al1 := [(2, .int 0), (5, .int 6), (4, .int 0), (3, .int 0), (0, .ref 176), (1, .int 6)]) rfl rfl ?_
      refine w_p (pc1 := 62) rfl rfl ?_
      refine w_p (pc1 := 63) rfl rfl ?_
      refine w_m0 (pc1 := 66) rfl rfl (h_gC rfl rfl rfl rfl) rfl ?_
      refine w_p (pc1 := 68) rfl rfl ?_
      refine w_m0 (pc1 := 69) rfl rfl (h_bl rfl rfl (by decide) rfl) rfl ?_
      refine w_t (a := 76) (b := 72) (cb_eq_t (by exact (frM_t F).2.1 _ (by decide))) rfl rfl ?_
      refine w_p (pc1 := 77) (st1 := .int 0 :: _) rfl rfl ?_
      refine w_p (pc1 := 78) (st1 := .int 0 :: _) rfl rfl ?_
      refine w_p (pc1 := 79) (al1 := [(3, .int 0), (2, .int 0), (5, .int 6), (4, .int 0), (0, .ref 176), (1, .int 6)]) rfl rfl ?_
      refine w_p (pc1 := 81) rfl rfl ?_
      refine w_p (pc1 := 83) rfl rfl ?_
      refine w_p (pc1 := 85) (st1 := .int 8 :: _) rfl rfl ?_
      refine w_f (a := 102) (b := 88) rfl rfl rfl ?_
      refine w_p (pc1 := 89) rfl rfl ?_
      refine w_m0 (pc1 := 92) rfl rfl (h_gC rfl rfl rfl rfl) rfl ?_
      refine w_p (pc1 := 94) rfl rfl ?_
      refine w_m0 (pc1 := 95) rfl rfl (h_bl rfl rfl (by decide) rfl) rfl ?_
      refine w_t (a := 102) (b := 98) (cb_eq_t (by exact (frM_t F).2.2.1 _ (by decide))) rfl rfl ?_
      refine w_p (pc1 := 103) (st1 := .int 0 :: _) rfl rfl ?_
      refine w_p (pc1 := 104) (st1 := .int 0 :: _) rfl rfl ?_
      refine w_p (pc1 := 106) (al1 := [(4, .int 0), (3, .int 0), (2, .int 0), (5, .int 6), (0, .ref 176), (1, .int 6)]) rfl rfl ?_
      refine w_p (pc1 := 109) (al1 := [(5, .int 7), (4, .int 0), (3, .int 0), (2, .int 0), (0, .ref 176), (1, .int 6)]) rfl rfl ?_
      refine w_p (pc1 := 29) rfl rfl ?_
      refine w_p (pc1 := 31) rfl rfl ?_
      refine w_p (pc1 := 33) (st1 := .int 24 :: _) rfl rfl ?_
      refine w_f (a := 112) (b := 36) rfl rfl rfl ?_
      refine w_p (pc1 := 37) rfl rfl ?_
      refine w_p (pc1 := 39) rfl rfl ?_
      refine w_p (pc1 := 41) (st1 := .int 6 :: _) rfl rfl ?_
      refine w_t (a := 58) (b := 44) rfl rfl rfl ?_
      refine w_p (pc1 := 59) (st1 := .int 0 :: _) rfl rfl ?_
      refine w_p (pc1 := 60) (st1 := .int 0 :: _) rfl rfl ?_
      refine w_p (pc1 := 61) (al1 := [(2, .int 0), (5, .int 7), (4, .int 0), (3, .int 0), (0, .ref 176), (1, .int 6)]) rfl rfl ?_
      refine w_p (pc1 := 62) rfl rfl ?_
      refine w_p (pc1 := 63) rfl rfl ?_
      refine w_m0 (pc1 := 66) rfl rfl (h_gC rfl rfl rfl rfl) rfl ?_
      refine w_p (pc1 := 68) rfl rfl ?_
      refine w_m0 (pc1 := 69) rfl rfl (h_bl rfl rfl (by decide) rfl) rfl ?_
      refine w_t (a := 76) (b := 72) (cb_eq_t (by exact (frM_t F).2.1 _ (by decide))) rfl rfl ?_
      refine w_p (pc1 := 77) (st1 := .int 0 :: _) rfl rfl ?_
      refine w_p (pc1 := 78) (st1 := .int 0 :: _) rfl rfl ?_
      refine w_p (pc1 := 79) (al1 := [(3, .int 0), (2, .int 0), (5, .int 7), (4, .int 0), (0, .ref 176), (1, .int 6)]) rfl rfl ?_
      refine w_p (pc1 := 81) rfl rfl ?_
      refine w_p (pc1 := 83) rfl rfl ?_
      refine w_p (pc1 := 85) (st1 := .int 8 :: _) rfl rfl ?_
      refine w_f (a := 102) (b := 88) rfl rfl rfl ?_
      refine w_p (pc1 := 89) rfl rfl ?_
      refine w_m0 (pc1 := 92) rfl rfl (h_gC rfl rfl rfl rfl) rfl ?_
      refine w_p (pc1 := 94) rfl rfl ?_
      refine w_m0 (pc1 := 95) rfl rfl (h_bl rfl rfl (by decide) rfl) rfl ?_
      refine w_t (a := 102) (b := 98) (cb_eq_t (by exact (frM_t F).2.2.1 _ (by decide))) rfl rfl ?_
      refine w_p (pc1 := 103) (st1 := .int 0 :: _) rfl rfl ?_
      refine w_p (pc1 := 104) (st1 := .int 0 :: _) rfl rfl ?_
      refine w_p (pc1 := 106) (al1 := [(4, .int 0), (3, .int 0), (2, .int 0), (5, .int 7), (0, .ref 176), (1, .int 6)]) rfl rfl ?_
      refine w_p (pc1 := 109) (al1 := [(5, .int 8), (4, .int 0), (3, .int 0), (2, .int 0), (0, .ref 176), (1, .int 6)]) rfl rfl ?_
      refine w_p (pc1 := 29) rfl rfl ?_
      refine w_p (pc1 := 31) rfl rfl ?_
      refine w_p (pc1 := 33) (st1 := .int 24 :: _) rfl rfl ?_
      refine w_f (a := 112) (b := 36) rfl rfl rfl ?_
      refine w_p (pc1 := 37) rfl rfl ?_
      refine w_p (pc1 := 39) rfl rfl ?_
      refine w_p (pc1 := 41) (st1 := .int 6 :: _) rfl rfl ?_
      refine w_t (a := 58) (b := 44) rfl rfl rfl ?_
      refine w_p (pc1 := 59) (st1 := .int 0 :: _) rfl rfl ?_
      refine w_p (pc1 := 60) (st1 := .int 0 :: _) rfl rfl ?_
      refine w_p (pc1 := 61) (al1 := [(2, .int 0), (5, .int 8), (4, .int 0), (3, .int 0), (0, .ref 176), (1, .int 6)]) rfl rfl ?_
      refine w_p (pc1 := 62) rfl rfl ?_
      refine w_p (pc1 := 63) rfl rfl ?_
      refine w_m0 (pc1 := 66) rfl rfl (h_gC rfl rfl rfl rfl) rfl ?_
      refine w_p (pc1 := 68) rfl rfl ?_
      refine w_m0 (pc1 := 69) rfl rfl (h_bl rfl rfl (by decide) rfl) rfl ?_
      refine w_t (a := 76) (b := 72) (cb_eq_t (by exact (frM_t F).2.1 _ (by decide))) rfl rfl ?_
      refine w_p (pc1 := 77) (st1 := .int 0 :: _) rfl rfl ?_
      refine w_p (pc1 := 78) (st1 := .int 0 :: _) rfl rfl ?_
      refine w_p (pc1 := 79) (al1 := [(3, .int 0), (2, .int 0), (5, .int 8), (4, .int 0), (0, .ref 176), (1, .int 6)]) rfl rfl ?_
      refine w_p (pc1 := 81) rfl rfl ?_
      refine w_p (pc1 := 83) rfl rfl ?_
      refine w_p (pc1 := 85) (st1 := .int 8 :: _) rfl rfl ?_
      refine w_t (a := 102) (b := 88) rfl rfl rfl ?_
      refine w_p (pc1 := 103) (st1 := .int 0 :: _) rfl rfl ?_
      refine w_p (pc1 := 104) (st1 := .int 0 :: _) rfl rfl ?_
      refine w_p (pc1 := 106) (al1 := [(4, .int 0), (3, .int 0), (2, .int 0), (5, .int 8), (0, .ref 176), (1, .int 6)]) rfl rfl ?_
      refine w_p (pc1 := 109) (al1 := [(5, .int 9), (4, .int 0), (3, .int 0), (2, .int 0), (0, .ref 176), (1, .int 6)]) rfl rfl ?_
      refine w_p (pc1 := 29) rfl rfl ?_
      refine w_p (pc1 := 31) rfl rfl ?_
      refine w_p (pc1 := 33) (st1 := .int 24 :: _) rfl rfl ?_
      refine w_f (a := 112) (b := 36) rfl rfl rfl ?_
      refine w_p (pc1 := 37) rfl rfl ?_
      refine w_p (pc1 := 39) rfl rfl ?_
      refine w_p (pc1 := 41) (st1 := .int 6 :: _) rfl rfl ?_
      refine w_t (a := 58) (b := 44) rfl rfl rfl ?_
      refine w_p (pc1 := 59) (st1 := .int 0 :: _) rfl rfl ?_
      refine w_p (pc1 := 60) (st1 := .int 0 :: _) rfl rfl ?_
      refine w_p (pc1 := 61) (al1 := [(2, .int 0), (5, .int 9), (4, .int 0), (3, .int 0), (0, .ref 176), (1, .int 6)]) rfl rfl ?_
      refine w_p (pc1 := 62) rfl rfl ?_
      refine w_p (pc1 := 63) rfl rfl ?_
      refine w_m0 (pc1 := 66) rfl rfl (h_gC rfl rfl rfl rfl) rfl ?_
      refine w_p (pc1 := 68) rfl rfl ?_
      refine w_m0 (pc1 := 69) rfl rfl (h_bl rfl rfl (by decide) rfl) rfl ?_
      refine w_t (a := 76) (b := 72) (cb_eq_t (by exact (frM_t F).2.1 _ (by decide))) rfl rfl ?_
      refine w_p (pc1 := 77) (st1 := .int 0 :: _) rfl rfl ?_
      refine w_p (pc1 := 78) (st1 := .int 0 :: _) rfl rfl ?_
      refine w_p (pc1 := 79) (al1 := [(3, .int 0), (2, .int 0), (5, .int 9), (4, .int 0), (0, .ref 176), (1, .int 6)]) rfl rfl ?_
      refine w_p (pc1 := 81) rfl rfl ?_
      refine w_p (pc1 := 83) rfl rfl ?_
      refine w_p (pc1 := 85) (st1 := .int 8 :: _) rfl rfl ?_
      refine w_t (a := 102) (b := 88) rfl rfl rfl ?_
      refine w_p (pc1 := 103) (st1 := .int 0 :: _) rfl rfl ?_
      refine w_p (pc1 := 104) (st1 := .int 0 :: _) rfl rfl ?_
      refine w_p (pc1 := 106) (al1 := [(4, .int 0), (3, .int 0), (2, .int 0), (5, .int 9), (0, .ref 176), (1, .int 6)]) rfl rfl ?_
      refine w_p (pc1 := 109) (al1 := [(5, .int 10), (4, .int 0), (3, .int 0), (2, .int 0), (0, .ref 176), (1, .int 6)]) rfl rfl ?_
      refine w_p (pc1 := 29) rfl rfl ?_
      refine w_p (pc1 := 31) rfl rfl ?_
      refine w_p (pc1 := 33) (st1 := .int 24 :: _) rfl rfl ?_
      refine w_f (a := 112) (b := 36) rfl rfl rfl ?_
      refine w_p (pc1 := 37) rfl rfl ?_
      refine w_p (pc1 := 39) rfl rfl ?_
      refine w_p (pc1 := 41) (st1 := .int 6 :: _) rfl rfl ?_
      refine w_t (a := 58) (b := 44) rfl rfl rfl ?_
      refine w_p (pc1 := 59) (st1 := .int 0 :: _) rfl rfl ?_
      refine w_p (pc1 := 60) (st1 := .int 0 :: _) rfl rfl ?_
      refine w_p (pc1 := 61) (al1 := [(2, .int 0), (5, .int 10), (4, .int 0), (3, .int 0), (0, .ref 176), (1, .int 6)]) rfl rfl ?_
      refine w_p (pc1 := 62) rfl rfl ?_
      refine w_p (pc1 := 63) rfl rfl ?_
      refine w_m0 (pc1 := 66) rfl rfl (h_gC rfl rfl rfl rfl) rfl ?_
      refine w_p (pc1 := 68) rfl rfl ?_
      refine w_m0 (pc1 := 69) rfl rfl (h_bl rfl rfl (by decide) rfl) rfl ?_
      refine w_t (a := 76) (b := 72) (cb_eq_t (by exact (frM_t F).2.1 _ (by decide))) rfl rfl ?_
      refine w_p (pc1 := 77) (st1 := .int 0 :: _) rfl rfl ?_
      refine w_p (pc1 := 78) (st1 := .int 0 :: _) rfl rfl ?_
      refine w_p (pc1 := 79) (al1 := [(3, .int 0), (2, .int 0), (5, .int 10), (4, .int 0), (0, .ref 176), (1, .int 6)]) rfl rfl ?_
      refine w_p (pc1 := 81) rfl rfl ?_
      refine w_p (pc1 := 83) rfl rfl ?_
      refine w_p (pc1 := 85) (st1 := .int 8 :: _) rfl rfl ?_
      refine w_t (a := 102) (b := 88) rfl rfl rfl ?_
      refine w_p (pc1 := 103) (st1 := .int 0 :: _) rfl rfl ?_
      refine w_p (pc1 := 104) (st1 := .int 0 :: _) rfl rfl ?_
      refine w_p (pc1 := 106) (al1 := [(4, .int 0), (3, .int 0), (2, .int 0), (5, .int 10), (0, .ref 176), (1, .int 6)]) rfl rfl ?_
      refine w_p (pc1 := 109) (al1 := [(5, .int 11), (4, .int 0), (3, .int 0), (2, .int 0), (0, .ref 176), (1, .int 6)]) rfl rfl ?_
      refine w_p (pc1 := 29) rfl rfl ?_
      refine w_p (pc1 := 31) rfl rfl ?_
      refine w_p (pc1 := 33) (st1 := .int 24 :: _) rfl rfl ?_
      refine w_f (a := 112) (b := 36) rfl rfl rfl ?_
      refine w_p (pc1 := 37) rfl rfl ?_
      refine w_p (pc1 := 39) rfl rfl ?_
      refine w_p (pc1 := 41) (st1 := .int 6 :: _) rfl rfl ?_
      refine w_t (a := 58) (b := 44) rfl rfl rfl ?_
      refine w_p (pc1 := 59) (st1 := .int 0 :: _) rfl rfl ?_
      refine w_p (pc1 := 60) (st1 := .int 0 :: _) rfl rfl ?_
      refine w_p (pc1 := 61) (al1 := [(2, .int 0), (5, .int 11), (4, .int 0), (3, .int 0), (0, .ref 176), (1, .int 6)]) rfl rfl ?_
      refine w_p (pc1 := 62) rfl rfl ?_
      refine w_p (pc1 := 63) rfl rfl ?_
      refine w_m0 (pc1 := 66) rfl rfl (h_gC rfl rfl rfl rfl) rfl ?_
      refine w_p (pc1 := 68) rfl rfl ?_
      refine w_m0 (pc1 := 69) rfl rfl (h_bl rfl rfl (by decide) rfl) rfl ?_
      refine w_t (a := 76) (b := 72) (cb_eq_t (by exact (frM_t F).2.1 _ (by decide))) rfl rfl ?_
      refine w_p (pc1 := 77) (st1 := .int 0 :: _) rfl rfl ?_
      refine w_p (pc1 := 78) (st1 := .int 0 :: _) rfl rfl ?_
      refine w_p (pc1 := 79) (al1 := [(3, .int 0), (2, .int 0), (5, .int 11), (4, .int 0), (0, .ref 176), (1, .int 6)]) rfl rfl ?_
      refine w_p (pc1 := 81) rfl rfl ?_
      refine w_p (pc1 := 83) rfl rfl ?_
      refine w_p (pc1 := 85) (st1 := .int 8 :: _) rfl rfl ?_
      refine w_t (a := 102) (b := 88) rfl rfl rfl ?_
      refine w_p (pc1 := 103) (st1 := .int 0 :: _) rfl rfl ?_
      refine w_p (pc1 := 104) (st1 := .int 0 :: _) rfl rfl ?_
      refine w_p (pc1 := 106) (al1 := [(4, .int 0), (3, .int 0), (2, .int 0), (5, .int 11), (0, .ref 176), (1, .int 6)]) rfl rfl ?_
      refine w_p (pc1 := 109) (al1 := [(5, .int 12), (4, .int 0), (3, .int 0), (2, .int 0), (0, .ref 176), (1, .int 6)]) rfl rfl ?_
      refine w_p (pc1 := 29) rfl rfl ?_
      refine w_p (pc1 := 31) rfl rfl ?_
      refine w_p (pc1 := 33) (st1 := .int 24 :: _) rfl rfl ?_
      refine w_f (a := 112) (b := 36) rfl rfl rfl ?_
      refine w_p (pc1 := 37) rfl rfl ?_
      refine w_p (pc1 := 39) rfl rfl ?_
      refine w_p (pc1 := 41) (st1 := .int 6 :: _) rfl rfl ?_
      refine w_t (a := 58) (b := 44) rfl rfl rfl ?_
      refine w_p (pc1 := 59) (st1 := .int 0 :: _) rfl rfl ?_
      refine w_p (pc1 := 60) (st1 := .int 0 :: _) rfl rfl ?_
      refine w_p (pc1 := 61) (al1 := [(2, .int 0), (5, .int 12), (4, .int 0), (3, .int 0), (0, .ref 176), (1, .int 6)]) rfl rfl ?_
      refine w_p (pc1 := 62) rfl rfl ?_
      refine w_p (pc1 := 63) rfl rfl ?_
      refine w_m0 (pc1 := 66) rfl rfl (h_gC rfl rfl rfl rfl) rfl ?_
      refine w_p (pc1 := 68) rfl rfl ?_
      refine w_m0 (pc1 := 69) rfl rfl (h_bl rfl rfl (by decide) rfl) rfl ?_
      refine w_t (a := 76) (b := 72) (cb_eq_t (by exact (frM_t F).2.1 _ (by decide))) rfl rfl ?_
      refine w_p (pc1 := 77) (st1 := .int 0 :: _) rfl rfl ?_
      refine w_p (pc1 := 78) (st1 := .int 0 :: _) rfl rfl ?_
      refine w_p (pc1 := 79) (al1 := [(3, .int 0), (2, .int 0), (5, .int 12), (4, .int 0), (0, .ref 176), (1, .int 6)]) rfl rfl ?_
      refine w_p (pc1 := 81) rfl rfl ?_
      refine w_p (pc1 := 83) rfl rfl ?_
      refine w_p (pc1 := 85) (st1 := .int 8 :: _) rfl rfl ?_
      refine w_t (a := 102) (b := 88) rfl rfl rfl ?_
      refine w_p (pc1 := 103) (st1 := .int 0 :: _) rfl rfl ?_
      refine w_p (pc1 := 104) (st1 := .int 0 :: _) rfl rfl ?_
      refine w_p (pc1 := 106) (al1 := [(4, .int 0), (3, .int 0), (2, .int 0), (5, .int 12), (0, .ref 176), (1, .int 6)]) rfl rfl ?_
      refine w_p (pc1 := 109) (al1 := [(5, .int 13), (4, .int 0), (3, .int 0), (2, .int 0), (0, .ref 176), (1, .int 6)]) rfl rfl ?_
      refine w_p (pc1 := 29) rfl rfl ?_
      refine w_p (pc1 := 31) rfl rfl ?_
      refine w_p (pc1 := 33) (st1 := .int 24 :: _) rfl rfl ?_
      refine w_f (a := 112) (b := 36) rfl rfl rfl ?_
      refine w_p (pc1 := 37) rfl rfl ?_
      refine w_p (pc1 := 39) rfl rfl ?_
      refine w_p (pc1 := 41) (st1 := .int 6 :: _) rfl rfl ?_
      refine w_t (a := 58) (b := 44) rfl rfl rfl ?_
      refine w_p (pc1 := 59) (st1 := .int 0 :: _) rfl rfl ?_
      refine w_p (pc1 := 60) (st1 := .int 0 :: _) rfl rfl ?_
      refine w_p (pc1 := 61) (al1 := [(2, .int 0), (5, .int 13), (4, .int 0), (3, .int 0), (0, .ref 176), (1, .int 6)]) rfl rfl ?_
      refine w_p (pc1 := 62) rfl rfl ?_
      refine w_p (pc1 := 63) rfl rfl ?_
      refine w_m0 (pc1 := 66) rfl rfl (h_gC rfl rfl rfl rfl) rfl ?_
      refine w_p (pc1 := 68) rfl rfl ?_
      refine w_m0 (pc1 := 69) rfl rfl (h_bl rfl rfl (by decide) rfl) rfl ?_
      refine w_t (a := 76) (b := 72) (cb_eq_t (by exact (frM_t F).2.1 _ (by decide))) rfl rfl ?_
      refine w_p (pc1 := 77) (st1 := .int 0 :: _) rfl rfl ?_
      refine w_p (pc1 := 78) (st1 := .int 0 :: _) rfl rfl ?_
      refine w_p (pc1 := 79) (al1 := [(3, .int 0), (2, .int 0), (5, .int 13), (4, .int 0), (0, .ref 176), (1, .int 6)]) rfl rfl ?_
      refine w_p (pc1 := 81) rfl rfl ?_
      refine w_p (pc1 := 83) rfl rfl ?_
      refine w_p (pc1 := 85) (st1 := .int 8 :: _) rfl rfl ?_
      refine w_t (a := 102) (b := 88) rfl rfl rfl ?_
      refine w_p (pc1 := 103) (st1 := .int 0 :: _) rfl rfl ?_
      refine w_p (pc1 := 104) (st1 := .int 0 :: _) rfl rfl ?_
      refine w_p (pc1 := 106) (al1 := [(4, .int 0), (3, .int 0), (2, .int 0), (5, .int 13), (0, .ref 176), (1, .int 6)]) rfl rfl ?_
      refine w_p (pc1 := 109) (al1 := [(5, .int 14), (4, .int 0), (3, .int 0), (2, .int 0), (0, .ref 176), (1, .int 6)]) rfl rfl ?_
      refine w_p (pc1 := 29) rfl rfl ?_
      refine w_p (pc1 := 31) rfl rfl ?_
      refine w_p (pc1 := 33) (st1 := .int 24 :: _) rfl rfl ?_
      refine w_f (a := 112) (b := 36) rfl rfl rfl ?_
      refine w_p (pc1 := 37) rfl rfl ?_
      refine w_p (pc1 := 39) rfl rfl ?_
      refine w_p (pc1 := 41) (st1 := .int 6 :: _) rfl rfl ?_
      refine w_t (a := 58) (b := 44) rfl rfl rfl ?_
      refine w_p (pc1 := 59) (st1 := .int 0 :: _) rfl rfl ?_
      refine w_p (pc1 := 60) (st1 := .int 0 :: _) rfl rfl ?_
      refine w_p (pc1 := 61) (al1 := [(2, .int 0), (5, .int 14), (4, .int 0), (3, .int 0), (0, .ref 176), (1, .int 6)]) rfl rfl ?_
      refine w_p (pc1 := 62) rfl rfl ?_
      refine w_p (pc1 := 63) rfl rfl ?_
      refine w_m0 (pc1 := 66) rfl rfl (h_gC rfl rfl rfl rfl) rfl ?_
      refine w_p (pc1 := 68) rfl rfl ?_
      refine w_m0 (pc1 := 69) rfl rfl (h_bl rfl rfl (by decide) rfl) rfl ?_
      refine w_t (a := 76) (b := 72) (cb_eq_t (by exact (frM_t F).2.1 _ (by decide))) rfl rfl ?_
      refine w_p (pc1 := 77) (st1 := .int 0 :: _) rfl rfl ?_
      refine w_p (pc1 := 78) (st1 := .int 0 :: _) rfl rfl ?_
      refine w_p (pc1 := 79) (al1 := [(3, .int 0), (2, .int 0), (5, .int 14), (4, .int 0), (0, .ref 176), (1, .int 6)]) rfl rfl ?_
      refine w_p (pc1 := 81) rfl rfl ?_
      refine w_p (pc1 := 83) rfl rfl ?_
      refine w_p (pc1 := 85) (st1 := .int 8 :: _) rfl rfl ?_
      refine w_t (a := 102) (b := 88) rfl rfl rfl ?_
      refine w_p (pc1 := 103) (st1 := .int 0 :: _) rfl rfl ?_
      refine w_p (pc1 := 104) (st1 := .int 0 :: _) rfl rfl ?_
      refine w_p (pc1 := 106) (al1 := [(4, .int 0), (3, .int 0), (2, .int 0), (5, .int 14), (0, .ref 176), (1, .int 6)]) rfl rfl ?_
      refine w_p (pc1 := 109) (al1 := [(5, .int 15), (4, .int 0), (3, .int 0), (2, .int 0), (0, .ref 176), (1, .int 6)]) rfl rfl ?_
      refine w_p (pc1 := 29) rfl rfl ?_
      refine w_p (pc1 := 31) rfl rfl ?_
      refine w_p (pc1 := 33) (st1 := .int 24 :: _) rfl rfl ?_
      refine w_f (a := 112) (b := 36) rfl rfl rfl ?_
      refine w_p (pc1 := 37) rfl rfl ?_
      refine w_p (pc1 := 39) rfl rfl ?_
      refine w_p (pc1 := 41) (st1 := .int 6 :: _) rfl rfl ?_
      refine w_t (a := 58) (b := 44) rfl rfl rfl ?_
      refine w_p (pc1 := 59) (st1 := .int 0 :: _) rfl rfl ?_
      refine w_p (pc1 := 60) (st1 := .int 0 :: _) rfl rfl ?_
      refine w_p (pc1 := 61) (al1 := [(2, .int 0), (5, .int 15), (4, .int 0), (3, .int 0), (0, .ref 176), (1, .int 6)]) rfl rfl ?_
      refine w_p (pc1 := 62) rfl rfl ?_
      refine w_p (pc1 := 63) rfl rfl ?_
      refine w_m0 (pc1 := 66) rfl rfl (h_gC rfl rfl rfl rfl) rfl ?_
      refine w_p (pc1 := 68) rfl rfl ?_
      refine w_m0 (pc1 := 69) rfl rfl (h_bl rfl rfl (by decide) rfl) rfl ?_
      refine w_t (a := 76) (b := 72) (cb_eq_t (by exact (frM_t F).2.1 _ (by decide))) rfl rfl ?_
      refine w_p (pc1 := 77) (st1 := .int 0 :: _) rfl rfl ?_
      refine w_p (pc1 := 78) (st1 := .int 0 :: _) rfl rfl ?_
      refine w_p (pc1 := 79) (al1 := [(3, .int 0), (2, .int 0), (5, .int 15), (4, .int 0), (0, .ref 176), (1, .int 6)]) rfl rfl ?_
      refine w_p (pc1 := 81) rfl rfl ?_
      refine w_p (pc1 := 83) rfl rfl ?_
      refine w_p (pc1 := 85) (st1 := .int 8 :: _) rfl rfl ?_
      refine w_t (a := 102) (b := 88) rfl rfl rfl ?_
      refine w_p (pc1 := 103) (st1 := .int 0 :: _) rfl rfl ?_
      refine w_p (pc1 := 104) (st1 := .int 0 :: _) rfl rfl ?_
      refine w_p (pc1 := 106) (al1 := [(4, .int 0), (3, .int 0), (2, .int 0), (5, .int 15), (0, .ref 176), (1, .int 6)]) rfl rfl ?_
      refine w_p (pc1 := 109) (al1 := [(5, .int 16), (4, .int 0), (3, .int 0), (2, .int 0), (0, .ref 176), (1, .int 6)]) rfl rfl ?_
      refine w_p (pc1 := 29) rfl rfl ?_
      refine w_p (pc1 := 31) rfl rfl ?_
      refine w_p (pc1 := 33) (st1 := .int 24 :: _) rfl rfl ?_
      refine w_f (a := 112) (b := 36) rfl rfl rfl ?_
      refine w_p (pc1 := 37) rfl rfl ?_
      refine w_p (pc1 := 39) rfl rfl ?_
      refine w_p (pc1 := 41) (st1 := .int 6 :: _) rfl rfl ?_
      refine w_t (a := 58) (b := 44) rfl rfl rfl ?_
      refine w_p (pc1 := 59) (st1 := .int 0 :: _) rfl rfl ?_
      refine w_p (pc1 := 60) (st1 := .int 0 :: _) rfl rfl ?_
      refine w_p (pc1 := 61) (al1 := [(2, .int 0), (5, .int 16), (4, .int 0), (3, .int 0), (0, .ref 176), (1, .int 6)]) rfl rfl ?_
      refine w_p (pc1 := 62) rfl rfl ?_
      refine w_p (pc1 := 63) rfl rfl ?_
      refine w_m0 (pc1 := 66) rfl rfl (h_gC rfl rfl rfl rfl) rfl ?_
      refine w_p (pc1 := 68) rfl rfl ?_
      refine w_m0 (pc1 := 69) rfl rfl (h_bl rfl rfl (by decide) rfl) rfl ?_
      refine w_t (a := 76) (b := 72) (cb_eq_t (by exact (frM_t F).2.1 _ (by decide))) rfl rfl ?_
      refine w_p (pc1 := 77) (st1 := .int 0 :: _) rfl rfl ?_
      refine w_p (pc1 := 78) (st1 := .int 0 :: _) rfl rfl ?_
      refine w_p (pc1 := 79) (al1 := [(3, .int 0), (2, .int 0), (5, .int 16), (4, .int 0), (0, .ref 176), (1, .int 6)]) rfl rfl ?_
      refine w_p (pc1 := 81) rfl rfl ?_
      refine w_p (pc1 := 83) rfl rfl ?_
      refine w_p (pc1 := 85) (st1 := .int 8 :: _) rfl rfl ?_
      refine w_t (a := 102) (b := 88) rfl rfl rfl ?_
      refine w_p (pc1 := 103) (st1 := .int 0 :: _) rfl rfl ?_
      refine w_p (pc1 := 104) (st1 := .int 0 :: _) rfl rfl ?_
      refine w_p (pc1 := 106) (al1 := [(4, .int 0), (3, .int 0), (2, .int 0), (5, .int 16), (0, .ref 176), (1, .int 6)]) rfl rfl ?_
      refine w_p (pc1 := 109) (al1 := [(5, .int 17), (4, .int 0), (3, .int 0), (2, .int 0), (0, .ref 176), (1, .int 6)]) rfl rfl ?_
      refine w_p (pc1 := 29) rfl rfl ?_
      refine w_p (pc1 := 31) rfl rfl ?_
      refine w_p (pc1 := 33) (st1 := .int 24 :: _) rfl rfl ?_
      refine w_f (a := 112) (b := 36) rfl rfl rfl ?_
      refine w_p (pc1 := 37) rfl rfl ?_
      refine w_p (pc1 := 39) rfl rfl ?_
      refine w_p (pc1 := 41) (st1 := .int 6 :: _) rfl rfl ?_
      refine w_t (a := 58) (b := 44) rfl rfl rfl ?_
      refine w_p (pc1 := 59) (st1 := .int 0 :: _) rfl rfl ?_
      refine w_p (pc1 := 60) (st1 := .int 0 :: _) rfl rfl ?_
      refine w_p (pc1 := 61) (al1 := [(2, .int 0), (5, .int 17), (4, .int 0), (3, .int 0), (0, .ref 176), (1, .int 6)]) rfl rfl ?_
      refine w_p (pc1 := 62) rfl rfl ?_
      refine w_p (pc1 := 63) rfl rfl ?_
      refine w_m0 (pc1 := 66) rfl rfl (h_gC rfl rfl rfl rfl) rfl ?_
      refine w_p (pc1 := 68) rfl rfl ?_
      refine w_m0 (pc1 := 69) rfl rfl (h_bl rfl rfl (by decide) rfl) rfl ?_
      refine w_t (a := 76) (b := 72) (cb_eq_t (by exact (frM_t F).2.1 _ (by decide))) rfl rfl ?_
      refine w_p (pc1 := 77) (st1 := .int 0 :: _) rfl rfl ?_
      refine w_p (pc1 := 78) (st1 := .int 0 :: _) rfl rfl ?_
      refine w_p (pc1 := 79) (al1 := [(3, .int 0), (2, .int 0), (5, .int 17), (4, .int 0), (0, .ref 176), (1, .int 6)]) rfl rfl ?_
      refine w_p (pc1 := 81) rfl rfl ?_
      refine w_p (pc1 := 83) rfl rfl ?_
      refine w_p (pc1 := 85) (st1 := .int 8 :: _) rfl rfl ?_
      refine w_t (a := 102) (b := 88) rfl rfl rfl ?_
      refine w_p (pc1 := 103) (st1 := .int 0 :: _) rfl rfl ?_
      refine w_p (pc1 := 104) (st1 := .int 0 :: _) rfl rfl ?_
      refine w_p (pc1 := 106) (al1 := [(4, .int 0), (3, .int 0), (2, .int 0), (5, .int 17), (0, .ref 176), (1, .int 6)]) rfl rfl ?_
      refine w_p (pc1 := 109) (al1 := [(5, .int 18), (4, .int 0), (3, .int 0), (2, .int 0), (0, .ref 176), (1, .int 6)]) rfl rfl ?_
      refine w_p (pc1 := 29) rfl rfl ?_
      refine w_p (pc1 := 31) rfl rfl ?_
      refine w_p (pc1 := 33) (st1 := .int 24 :: _) rfl rfl ?_
      refine w_f (a := 112) (b := 36) rfl rfl rfl ?_
      refine w_p (pc1 := 37) rfl rfl ?_
      refine w_p (pc1 := 39) rfl rfl ?_
      refine w_p (pc1 := 41) (st1 := .int 6 :: _) rfl rfl ?_
      refine w_t (a := 58) (b := 44) rfl rfl rfl ?_
      refine w_p (pc1 := 59) (st1 := .int 0 :: _) rfl rfl ?_
      refine w_p (pc1 := 60) (st1 := .int 0 :: _) rfl rfl ?_
      refine w_p (pc1 := 61) (al1 := [(2, .int 0), (5, .int 18), (4, .int 0), (3, .int 0), (0, .ref 176), (1, .int 6)]) rfl rfl ?_
      refine w_p (pc1 := 62) rfl rfl ?_
      refine w_p (pc1 := 63) rfl rfl ?_
      refine w_m0 (pc1 := 66) rfl rfl (h_gC rfl rfl rfl rfl) rfl ?_
      refine w_p (pc1 := 68) rfl rfl ?_
      refine w_m0 (pc1 := 69) rfl rfl (h_bl rfl rfl (by decide) rfl) rfl ?_
      refine w_t (a := 76) (b := 72) (cb_eq_t (by exact (frM_t F).2.1 _ (by decide))) rfl rfl ?_
      refine w_p (pc1 := 77) (st1 := .int 0 :: _) rfl rfl ?_
      refine w_p (pc1 := 78) (st1 := .int 0 :: _) rfl rfl ?_
      refine w_p (pc1 := 79) (al1 := [(3, .int 0), (2, .int 0), (5, .int 18), (4, .int 0), (0, .ref 176), (1, .int 6)]) rfl rfl ?_
      refine w_p (pc1 := 81) rfl rfl ?_
      refine w_p (pc1 := 83) rfl rfl ?_
      refine w_p (pc1 := 85) (st1 := .int 8 :: _) rfl rfl ?_
      refine w_t (a := 102) (b := 88) rfl rfl rfl ?_
      refine w_p (pc1 := 103) (st1 := .int 0 :: _) rfl rfl ?_
      refine w_p (pc1 := 104) (st1 := .int 0 :: _) rfl rfl ?_
      refine w_p (pc1 := 106) (al1 := [(4, .int 0), (3, .int 0), (2, .int 0), (5, .int 18), (0, .ref 176), (1, .int 6)]) rfl rfl ?_
      refine w_p (pc1 := 109) (al1 := [(5, .int 19), (4, .int 0), (3, .int 0), (2, .int 0), (0, .ref 176), (1, .int 6)]) rfl rfl ?_
      refine w_p (pc1 := 29) rfl rfl ?_
      refine w_p (pc1 := 31) rfl rfl ?_
      refine w_p (pc1 := 33) (st1 := .int 24 :: _) rfl rfl ?_
      refine w_f (a := 112) (b := 36) rfl rfl rfl ?_
      refine w_p (pc1 := 37) rfl rfl ?_
      refine w_p (pc1 := 39) rfl rfl ?_
      refine w_p (pc1 := 41) (st1 := .int 6 :: _) rfl rfl ?_
      refine w_t (a := 58) (b := 44) rfl rfl rfl ?_
      refine w_p (pc1 := 59) (st1 := .int 0 :: _) rfl rfl ?_
      refine w_p (pc1 := 60) (st1 := .int 0 :: _) rfl rfl ?_
      refine w_p (pc1 := 61) (al1 := [(2, .int 0), (5, .int 19), (4, .int 0), (3, .int 0), (0, .ref 176), (1, .int 6)]) rfl rfl ?_
      refine w_p (pc1 := 62) rfl rfl ?_
      refine w_p (pc1 := 63) rfl rfl ?_
      refine w_m0 (pc1 := 66) rfl rfl (h_gC rfl rfl rfl rfl) rfl ?_
      refine w_p (pc1 := 68) rfl rfl ?_
      refine w_m0 (pc1 := 69) rfl rfl (h_bl rfl rfl (by decide) rfl) rfl ?_
      refine w_t (a := 76) (b := 72) (cb_eq_t (by exact (frM_t F).2.1 _ (by decide))) rfl rfl ?_
      refine w_p (pc1 := 77) (st1 := .int 0 :: _) rfl rfl ?_
      refine w_p (pc1 := 78) (st1 := .int 0 :: _) rfl rfl ?_
      refine w_p (pc1 := 79) (al1 := [(3, .int 0), (2, .int 0), (5, .int 19), (4, .int 0), (0, .ref 176), (1, .int 6)]) rfl rfl ?_
      refine w_p (pc1 := 81) rfl rfl ?_
      refine w_p (pc1 := 83) rfl rfl ?_
      refine w_p (pc1 := 85) (st1 := .int 8 :: _) rfl rfl ?_
      refine w_t (a := 102) (b := 88) rfl rfl rfl ?_
      refine w_p (pc1 := 103) (st1 := .int 0 :: _) rfl rfl ?_
      refine w_p (pc1 := 104) (st1 := .int 0 :: _) rfl rfl ?_
      refine w_p (pc1 := 106) (al1 := [(4, .int 0), (3, .int 0), (2, .int 0), (5, .int 19), (0, .ref 176), (1, .int 6)]) rfl rfl ?_
      refine w_p (pc1 := 109) (al1 := [(5, .int 20), (4, .int 0), (3, .int 0), (2, .int 0), (0, .ref 176), (1, .int 6)]) rfl rfl ?_
      refine w_p (pc1 := 29) rfl rfl ?_
      refine w_p (pc1 := 31) rfl rfl ?_
      refine w_p (pc1 := 33) (st1 := .int 24 :: _) rfl rfl ?_
      refine w_f (a := 112) (b := 36) rfl rfl rfl ?_
      refine w_p (pc1 := 37) rfl rfl ?_
      refine w_p (pc1 := 39) rfl rfl ?_
      refine w_p (pc1 := 41) (st1 := .int 6 :: _) rfl rfl ?_
      refine w_t (a := 58) (b := 44) rfl rfl rfl ?_
      refine w_p (pc1 := 59) (st1 := .int 0 :: _) rfl rfl ?_
      refine w_p (pc1 := 60) (st1 := .int 0 :: _) rfl rfl ?_
      refine w_p (pc1 := 61) (al1 := [(2, .int 0), (5, .int 20), (4, .int 0), (3, .int 0), (0, .ref 176), (1, .int 6)]) rfl rfl ?_
      refine w_p (pc1 := 62) rfl rfl ?_
      refine w_p (pc1 := 63) rfl rfl ?_
      refine w_m0 (pc1 := 66) rfl rfl (h_gC rfl rfl rfl rfl) rfl ?_
      refine w_p (pc1 := 68) rfl rfl ?_
      refine w_m0 (pc1 := 69) rfl rfl (h_bl rfl rfl (by decide) rfl) rfl ?_
      refine w_t (a := 76) (b := 72) (cb_eq_t (by exact (frM_t F).2.1 _ (by decide))) rfl rfl ?_
      refine w_p (pc1 := 77) (st1 := .int 0 :: _) rfl rfl ?_
      refine w_p (pc1 := 78) (st1 := .int 0 :: _) rfl rfl ?_
      refine w_p (pc1 := 79) (al1 := [(3, .int 0), (2, .int 0), (5, .int 20), (4, .int 0), (0, .ref 176), (1, .int 6)]) rfl rfl ?_
      refine w_p (pc1 := 81) rfl rfl ?_
      refine w_p (pc1 := 83) rfl rfl ?_
      refine w_p (pc1 := 85) (st1 := .int 8 :: _) rfl rfl ?_
      refine w_t (a := 102) (b := 88) rfl rfl rfl ?_
      refine w_p (pc1 := 103) (st1 := .int 0 :: _) rfl rfl ?_
      refine w_p (pc1 := 104) (st1 := .int 0 :: _) rfl rfl ?_
      refine w_p (pc1 := 106) (al1 := [(4, .int 0), (3, .int 0), (2, .int 0), (5, .int 20), (0, .ref 176), (1, .int 6)]) rfl rfl ?_
      refine w_p (pc1 := 109) (al1 := [(5, .int 21), (4, .int 0), (3, .int 0), (2, .int 0), (0, .ref 176), (1, .int 6)]) rfl rfl ?_
      refine w_p (pc1 := 29) rfl rfl ?_
      refine w_p (pc1 := 31) rfl rfl ?_
      refine w_p (pc1 := 33) (st1 := .int 24 :: _) rfl rfl ?_
      refine w_f (a := 112) (b := 36) rfl rfl rfl ?_
      refine w_p (pc1 := 37) rfl rfl ?_
      refine w_p (pc1 := 39) rfl rfl ?_
      refine w_p (pc1 := 41) (st1 := .int 6 :: _) rfl rfl ?_
      refine w_t (a := 58) (b := 44) rfl rfl rfl ?_
      refine w_p (pc1 := 59) (st1 := .int 0 :: _) rfl rfl ?_
      refine w_p (pc1 := 60) (st1 := .int 0 :: _) rfl rfl ?_
      refine w_p (pc1 := 61) (al1 := [(2, .int 0), (5, .int 21), (4, .int 0), (3, .int 0), (0, .ref 176), (1, .int 6)]) rfl rfl ?_
      refine w_p (pc1 := 62) rfl rfl ?_
      refine w_p (pc1 := 63) rfl rfl ?_
      refine w_m0 (pc1 := 66) rfl rfl (h_gC rfl rfl rfl rfl) rfl ?_
      refine w_p (pc1 := 68) rfl rfl ?_
      refine w_m0 (pc1 := 69) rfl rfl (h_bl rfl rfl (by decide) rfl) rfl ?_
      refine w_t (a := 76) (b := 72) (cb_eq_t (by exact (frM_t F).2.1 _ (by decide))) rfl rfl ?_
      refine w_p (pc1 := 77) (st1 := .int 0 :: _) rfl rfl ?_
      refine w_p (pc1 := 78) (st1 := .int 0 :: _) rfl rfl ?_
      refine w_p (pc1 := 79) (al1 := [(3, .int 0), (2, .int 0), (5, .int 21), (4, .int 0), (0, .ref 176), (1, .int 6)]) rfl rfl ?_
      refine w_p (pc1 := 81) rfl rfl ?_
      refine w_p (pc1 := 83) rfl rfl ?_
      refine w_p (pc1 := 85) (st1 := .int 8 :: _) rfl rfl ?_
      refine w_t (a := 102) (b := 88) rfl rfl rfl ?_
      refine w_p (pc1 := 103) (st1 := .int 0 :: _) rfl rfl ?_
      refine w_p (pc1 := 104) (st1 := .int 0 :: _) rfl rfl ?_
      refine w_p (pc1 := 106) (al1 := [(4, .int 0), (3, .int 0), (2, .int 0), (5, .int 21), (0, .ref 176), (1, .int 6)]) rfl rfl ?_
      refine w_p (pc1 := 109) (al1 := [(5, .int 22), (4, .int 0), (3, .int 0), (2, .int 0), (0, .ref 176), (1, .int 6)]) rfl rfl ?_
      refine w_p (pc1 := 29) rfl rfl ?_
      refine w_p (pc1 := 31) rfl rfl ?_
      refine w_p (pc1 := 33) (st1 := .int 24 :: _) rfl rfl ?_
      refine w_f (a := 112) (b := 36) rfl rfl rfl ?_
      refine w_p (pc1 := 37) rfl rfl ?_
      refine w_p (pc1 := 39) rfl rfl ?_
      refine w_p (pc1 := 41) (st1 := .int 6 :: _) rfl rfl ?_
      refine w_t (a := 58) (b := 44) rfl rfl rfl ?_
      refine w_p (pc1 := 59) (st1 := .int 0 :: _) rfl rfl ?_
      refine w_p (pc1 := 60) (st1 := .int 0 :: _) rfl rfl ?_
      refine w_p (pc1 := 61) (al1 := [(2, .int 0), (5, .int 22), (4, .int 0), (3, .int 0), (0, .ref 176), (1, .int 6)]) rfl rfl ?_
      refine w_p (pc1 := 62) rfl rfl ?_
      refine w_p (pc1 := 63) rfl rfl ?_
      refine w_m0 (pc1 := 66) rfl rfl (h_gC rfl rfl rfl rfl) rfl ?_
      refine w_p (pc1 := 68) rfl rfl ?_
      refine w_m0 (pc1 := 69) rfl rfl (h_bl rfl rfl (by decide) rfl) rfl ?_
      refine w_t (a := 76) (b := 72) (cb_eq_t (by exact (frM_t F).2.1 _ (by decide))) rfl rfl ?_
      refine w_p (pc1 := 77) (st1 := .int 0 :: _) rfl rfl ?_
      refine w_p (pc1 := 78) (st1 := .int 0 :: _) rfl rfl ?_
      refine w_p (pc1 := 79) (al1 := [(3, .int 0), (2, .int 0), (5, .int 22), (4, .int 0), (0, .ref 176), (1, .int 6)]) rfl rfl ?_
      refine w_p (pc1 := 81) rfl rfl ?_
      refine w_p (pc1 := 83) rfl rfl ?_
      refine w_p (pc1 := 85) (st1 := .int 8 :: _) rfl rfl ?_
      refine w_t (a := 102) (b := 88) rfl rfl rfl ?_
      refine w_p (pc1 := 103) (st1 := .int 0 :: _) rfl rfl ?_
      refine w_p (pc1 := 104) (st1 := .int 0 :: _) rfl rfl ?_
      refine w_p (pc1 := 106) (al1 := [(4, .int 0), (3, .int 0), (2, .int 0), (5, .int 22), (0, .ref 176), (1, .int 6)]) rfl rfl ?_
      refine w_p (pc1 := 109) (al1 := [(5, .int 23), (4, .int 0), (3, .int 0), (2, .int 0), (0, .ref 176), (1, .int 6)]) rfl rfl ?_
      refine w_p (pc1 := 29) rfl rfl ?_
      refine w_p (pc1 := 31) rfl rfl ?_
      refine w_p (pc1 := 33) (st1 := .int 24 :: _) rfl rfl ?_
      refine w_f (a := 112) (b := 36) rfl rfl rfl ?_
      refine w_p (pc1 := 37) rfl rfl ?_
      refine w_p (pc1 := 39) rfl rfl ?_
      refine w_p (pc1 := 41) (st1 := .int 6 :: _) rfl rfl ?_
      refine w_t (a := 58) (b := 44) rfl rfl rfl ?_
      refine w_p (pc1 := 59) (st1 := .int 0 :: _) rfl rfl ?_
      refine w_p (pc1 := 60) (st1 := .int 0 :: _) rfl rfl ?_
      refine w_p (pc1 := 61) (al1 := [(2, .int 0), (5, .int 23), (4, .int 0), (3, .int 0), (0, .ref 176), (1, .int 6)]) rfl rfl ?_
      refine w_p (pc1 := 62) rfl rfl ?_
      refine w_p (pc1 := 63) rfl rfl ?_
      refine w_m0 (pc1 := 66) rfl rfl (h_gC rfl rfl rfl rfl) rfl ?_
      refine w_p (pc1 := 68) rfl rfl ?_
      refine w_m0 (pc1 := 69) rfl rfl (h_bl rfl rfl (by decide) rfl) rfl ?_
      refine w_t (a := 76) (b := 72) (cb_eq_t (by exact (frM_t F).2.1 _ (by decide))) rfl rfl ?_
      refine w_p (pc1 := 77) (st1 := .int 0 :: _) rfl rfl ?_
      refine w_p (pc1 := 78) (st1 := .int 0 :: _) rfl rfl ?_
      refine w_p (pc1 := 79) (al1 := [(3, .int 0), (2, .int 0), (5, .int 23), (4, .int 0), (0, .ref 176), (1, .int 6)]) rfl rfl ?_
      refine w_p (pc1 := 81) rfl rfl ?_
      refine w_p (pc1 := 83) rfl rfl ?_
      refine w_p (pc1 := 85) (st1 := .int 8 :: _) rfl rfl ?_
      refine w_t (a := 102) (b := 88) rfl rfl rfl ?_
      refine w_p (pc1 := 103) (st1 := .int 0 :: _) rfl rfl ?_
      refine w_p (pc1 := 104) (st1 := .int 0 :: _) rfl rfl ?_
      refine w_p (pc1 := 106) (al1 := [(4, .int 0), (3, .int 0), (2, .int 0), (5, .int 23), (0, .ref 176), (1, .int 6)]) rfl rfl ?_
      refine w_p (pc1 := 109) (al1 := [(5, .int 24), (4, .int 0), (3, .int 0), (2, .int 0), (0, .ref 176), (1, .int 6)]) rfl rfl ?_
      refine w_p (pc1 := 29) rfl rfl ?_
      refine w_p (pc1 := 31) rfl rfl ?_
      refine w_p (pc1 := 33) (st1 := .int 24 :: _) rfl rfl ?_
      refine w_t (a := 112) (b := 36) rfl rfl rfl ?_
      refine w_p (pc1 := 113) rfl rfl ?_
      refine w_t (a := 120) (b := 116) rfl rfl rfl ?_
      refine w_p (pc1 := 121) rfl rfl ?_
      refine w_p (pc1 := 122) (st1 := .int 1 :: _) rfl rfl ?_
      refine w_t (a := 129) (b := 125) rfl rfl rfl ?_
      refine w_p (pc1 := 130) rfl rfl ?_
      refine w_p (pc1 := 131) (st1 := .int 2 :: _) rfl rfl ?_
      refine w_t (a := 139) (b := 134) rfl rfl rfl ?_
      refine w_p (pc1 := 140) rfl rfl ?_
      refine w_p (pc1 := 141) (st1 := .int 3 :: _) rfl rfl ?_
      refine w_t (a := 151) (b := 144) rfl rfl rfl ?_
      refine w_p (pc1 := 152) rfl rfl ?_
      refine w_p (pc1 := 153) (st1 := .int 4 :: _) rfl rfl ?_
      refine w_t (a := 163) (b := 156) rfl rfl rfl ?_
      refine w_p (pc1 := 164) rfl rfl ?_
      refine w_p (pc1 := 165) (st1 := .int 5 :: _) rfl rfl ?_
      refine w_t (a := 183) (b := 168) rfl rfl rfl ?_
      refine w_p (pc1 := 184) rfl rfl ?_
      refine w_m0 (pc1 := 187) rfl rfl (h_gI rfl rfl rfl rfl rfl) rfl ?_
      refine w_r rfl rfl rfl (fun _ _ => rfl) cr_int ?_
      refine Or.inl ⟨by decide, ?_, rfl, rfl⟩; first | rfl | rw [(frM_t F).2.2.2.1] | rw [(frM_t F).2.2.2.2.2]
  · skip
    refine w_p (pc1 := 1) rfl rfl ?_
    refine w_p (pc1 := 2) rfl rfl ?_
    refine w_p (pc1 := 3) rfl rfl ?_
    refine w_p (pc1 := 4) (st1 := .long 0 :: _) rfl rfl ?_
    refine w_m0 (pc1 := 7) (st1 := .long 6 :: _) rfl rfl rfl rfl ?_
    refine w_je (pc1 := 10) (vs := [_, .long 0, .long 6]) (rest := [.ref 176]) (st1 := [.int 0, .ref 176]) (m_189f (d := _) (sl := 0) (isIn_f (x := x) (m := 0) (n := 6) rfl rfl (by omega))) rfl rfl rfl (fun _ _ => rfl) rfl (by exact cl_s my_189 rfl rfl rfl (Nat.le_of_ble_eq_true rfl) rfl rfl) (by rfl) (Nat.le_of_ble_eq_true rfl) (Nat.le_of_ble_eq_true rfl) rfl (by rfl) ?_
    refine w_p (pc1 := 11) (st1 := .int 1 :: _) rfl rfl ?_
    refine w_je (pc1 := 14) (vs := [.ref 176, .int 0, .int 1]) (rest := []) (st1 := [.int 0]) (m_190 (d := _) (sl := 0)) rfl rfl rfl (fun _ _ => rfl) rfl (by exact cl_v my_190 rfl rfl rfl (Nat.le_of_ble_eq_true rfl) rfl (MH_obj rfl rfl) rfl (by decide) rfl rfl) (by rfl) (Nat.le_of_ble_eq_true rfl) (Nat.le_of_ble_eq_true rfl) rfl (by rfl) ?_
    refine w_f (a := 19) (b := 17) rfl rfl rfl ?_
    refine w_p (pc1 := 18) (st1 := .int 0 :: _) rfl rfl ?_
    refine w_r rfl rfl rfl (fun _ _ => rfl) cr_int ?_
    exact Or.inr ⟨hx, rfl, rfl, rfl⟩
set_option maxHeartbeats 8000000 in
set_option maxRecDepth 100000 in
theorem m_289z {x : Int32} {a : Int64} (F : frM C) : Wd L xs (d + 2) y_289 (0, [(0, .ref 176), (1, .int x), (2, .long a)], [], MH C t, sl) (fun v h n => ((0 ≤ x.toInt ∧ x.toInt < 9) ∧ some (.int (-1)) = v ∧ MH (sI C 76 0 0) t = h ∧ sl = n) ∨ (¬ (0 ≤ x.toInt ∧ x.toInt < 9) ∧ some (.int 0) = v ∧ MH (sI C 76 0 1) t = h ∧ sl = n)) nX := by
  by_cases hx : 0 ≤ x.toInt ∧ x.toInt < 9
  · rcases i9 hx.1 hx.2 with rfl | rfl | rfl | rfl | rfl | rfl | rfl | rfl | rfl
    · skip
      refine w_p (pc1 := 1) rfl rfl ?_
      refine w_p (pc1 := 2) rfl rfl ?_
      refine w_p (pc1 := 3) (st1 := .long 0 :: _) rfl rfl ?_
      refine w_p (pc1 := 4) (st1 := .long 0 :: _) rfl rfl ?_
      refine w_m0 (pc1 := 7) (st1 := .long 8 :: _) rfl rfl rfl rfl ?_
      refine w_je (pc1 := 10) (vs := [.long 0, .long 0, .long 8]) (rest := [.ref 176]) (st1 := [.int 1, .ref 176]) (m_189t (d := _) (sl := 0) rfl) rfl rfl rfl (fun _ _ => rfl) rfl (by exact cl_s my_189 rfl rfl rfl (Nat.le_of_ble_eq_true rfl) rfl rfl) (by rfl) (Nat.le_of_ble_eq_true rfl) (Nat.le_of_ble_eq_true rfl) rfl (by rfl) ?_
      refine w_p (pc1 := 11) (st1 := .int 1 :: _) rfl rfl ?_
      refine w_je (pc1 := 14) (vs := [.ref 176, .int 1, .int 1]) (rest := []) (st1 := [.int 1]) (m_190 (d := _) (sl := 0)) rfl rfl rfl (fun _ _ => rfl) rfl (by exact cl_v my_190 rfl rfl rfl (Nat.le_of_ble_eq_true rfl) rfl (MH_obj rfl rfl) rfl (by decide) rfl rfl) (by rfl) (Nat.le_of_ble_eq_true rfl) (Nat.le_of_ble_eq_true rfl) rfl (by rfl) ?_
      refine w_t (a := 19) (b := 17) rfl rfl rfl ?_
      refine w_p (pc1 := 20) rfl rfl ?_
      refine w_p (pc1 := 21) (st1 := .int 3 :: _) rfl rfl ?_
      refine w_f (a := 55) (b := 24) rfl rfl rfl ?_
      refine w_p (pc1 := 25) rfl rfl ?_
      refine w_f (a := 36) (b := 28) rfl rfl rfl ?_
      refine w_p (pc1 := 29) rfl rfl ?_
      refine w_p (pc1 := 30) rfl rfl ?_
      refine w_je (pc1 := 33) (vs := [.ref 176, _]) (rest := []) (st1 := [.int (-1)]) (m_208z (d := _) (sl := 0) (frM_t F)) rfl rfl rfl (fun _ _ => rfl) rfl (by exact cl_v my_208 rfl rfl rfl (Nat.le_of_ble_eq_true rfl) rfl (MH_obj rfl rfl) rfl (by decide) rfl rfl) (by rfl) (Nat.le_of_ble_eq_true rfl) (Nat.le_of_ble_eq_true rfl) rfl (by rfl) ?_
      refine w_p (pc1 := 54) rfl rfl ?_
      refine w_r rfl rfl rfl (fun _ _ => rfl) cr_int ?_
      exact Or.inl ⟨by decide, rfl, rfl, rfl⟩
    · skip
      refine w_p (pc1 := 1) rfl rfl ?_
      refine w_p (pc1 := 2) rfl rfl ?_
      refine w_p (pc1 := 3) (st1 := .long 1 :: _) rfl rfl ?_
      refine w_p (pc1 := 4) (st1 := .long 0 :: _) rfl rfl ?_
      refine w_m0 (pc1 := 7) (st1 := .long 8 :: _) rfl rfl rfl rfl ?_
      refine w_je (pc1 := 10) (vs := [.long 1, .long 0, .long 8]) (rest := [.ref 176]) (st1 := [.int 1, .ref 176]) (m_189t (d := _) (sl := 0) rfl) rfl rfl rfl (fun _ _ => rfl) rfl (by exact cl_s my_189 rfl rfl rfl (Nat.le_of_ble_eq_true rfl) rfl rfl) (by rfl) (Nat.le_of_ble_eq_true rfl) (Nat.le_of_ble_eq_true rfl) rfl (by rfl) ?_
      refine w_p (pc1 := 11) (st1 := .int 1 :: _) rfl rfl ?_
      refine w_je (pc1 := 14) (vs := [.ref 176, .int 1, .int 1]) (rest := []) (st1 := [.int 1]) (m_190 (d := _) (sl := 0)) rfl rfl rfl (fun _ _ => rfl) rfl (by exact cl_v my_190 rfl rfl rfl (Nat.le_of_ble_eq_true rfl) rfl (MH_obj rfl rfl) rfl (by decide) rfl rfl) (by rfl) (Nat.le_of_ble_eq_true rfl) (Nat.le_of_ble_eq_true rfl) rfl (by rfl) ?_
      refine w_t (a := 19) (b := 17) rfl rfl rfl ?_
      refine w_p (pc1 := 20) rfl rfl ?_
      refine w_p (pc1 := 21) (st1 := .int 3 :: _) rfl rfl ?_
      refine w_f (a := 55) (b := 24) rfl rfl rfl ?_
      refine w_p (pc1 := 25) rfl rfl ?_
      refine w_t (a := 36) (b := 28) rfl rfl rfl ?_
      refine w_p (pc1 := 37) rfl rfl ?_
      refine w_p (pc1 := 38) (st1 := .int 1 :: _) rfl rfl ?_
      refine w_f (a := 49) (b := 41) rfl rfl rfl ?_
      refine w_p (pc1 := 42) rfl rfl ?_
      refine w_p (pc1 := 43) rfl rfl ?_
      refine w_je (pc1 := 46) (vs := [.ref 176, _]) (rest := []) (st1 := [.int (-1)]) (m_237z (d := _) (sl := 0) (frM_t F)) rfl rfl rfl (fun _ _ => rfl) rfl (by exact cl_v my_237 rfl rfl rfl (Nat.le_of_ble_eq_true rfl) rfl (MH_obj rfl rfl) rfl (by decide) rfl rfl) (by rfl) (Nat.le_of_ble_eq_true rfl) (Nat.le_of_ble_eq_true rfl) rfl (by rfl) ?_
      refine w_p (pc1 := 54) rfl rfl ?_
      refine w_r rfl rfl rfl (fun _ _ => rfl) cr_int ?_
      exact Or.inl ⟨by decide, rfl, rfl, rfl⟩
    · skip
      refine w_p (pc1 := 1) rfl rfl ?_
      refine w_p (pc1 := 2) rfl rfl ?_
      refine w_p (pc1 := 3) (st1 := .long 2 :: _) rfl rfl ?_
      refine w_p (pc1 := 4) (st1 := .long 0 :: _) rfl rfl ?_
      refine w_m0 (pc1 := 7) (st1 := .long 8 :: _) rfl rfl rfl rfl ?_
      refine w_je (pc1 := 10) (vs := [.long 2, .long 0, .long 8]) (rest := [.ref 176]) (st1 := [.int 1, .ref 176]) (m_189t (d := _) (sl := 0) rfl) rfl rfl rfl (fun _ _ => rfl) rfl (by exact cl_s my_189 rfl rfl rfl (Nat.le_of_ble_eq_true rfl) rfl rfl) (by rfl) (Nat.le_of_ble_eq_true rfl) (Nat.le_of_ble_eq_true rfl) rfl (by rfl) ?_
      refine w_p (pc1 := 11) (st1 := .int 1 :: _) rfl rfl ?_
      refine w_je (pc1 := 14) (vs := [.ref 176, .int 1, .int 1]) (rest := []) (st1 := [.int 1]) (m_190 (d := _) (sl := 0)) rfl rfl rfl (fun _ _ => rfl) rfl (by exact cl_v my_190 rfl rfl rfl (Nat.le_of_ble_eq_true rfl) rfl (MH_obj rfl rfl) rfl (by decide) rfl rfl) (by rfl) (Nat.le_of_ble_eq_true rfl) (Nat.le_of_ble_eq_true rfl) rfl (by rfl) ?_
      refine w_t (a := 19) (b := 17) rfl rfl rfl ?_
      refine w_p (pc1 := 20) rfl rfl ?_
      refine w_p (pc1 := 21) (st1 := .int 3 :: _) rfl rfl ?_
      refine w_f (a := 55) (b := 24) rfl rfl rfl ?_
      refine w_p (pc1 := 25) rfl rfl ?_
      refine w_t (a := 36) (b := 28) rfl rfl rfl ?_
      refine w_p (pc1 := 37) rfl rfl ?_
      refine w_p (pc1 := 38) (st1 := .int 1 :: _) rfl rfl ?_
      refine w_t (a := 49) (b := 41) rfl rfl rfl ?_
      refine w_p (pc1 := 50) rfl rfl ?_
      refine w_p (pc1 := 51) rfl rfl ?_
      refine w_je (pc1 := 54) (vs := [.ref 176, _]) (rest := []) (st1 := [.int (-1)]) (m_246z (d := _) (sl := 0) (frM_t F)) rfl rfl rfl (fun _ _ => rfl) rfl (by exact cl_v my_246 rfl rfl rfl (Nat.le_of_ble_eq_true rfl) rfl (MH_obj rfl rfl) rfl (by decide) rfl rfl) (by rfl) (Nat.le_of_ble_eq_true rfl) (Nat.le_of_ble_eq_true rfl) rfl (by rfl) ?_
      refine w_r rfl rfl rfl (fun _ _ => rfl) cr_int ?_
      exact Or.inl ⟨by decide, rfl, rfl, rfl⟩
    · skip
      refine w_p (pc1 := 1) rfl rfl ?_
      refine w_p (pc1 := 2) rfl rfl ?_
      refine w_p (pc1 := 3) (st1 := .long 3 :: _) rfl rfl ?_
      refine w_p (pc1 := 4) (st1 := .long 0 :: _) rfl rfl ?_
      refine w_m0 (pc1 := 7) (st1 := .long 8 :: _) rfl rfl rfl rfl ?_
      refine w_je (pc1 := 10) (vs := [.long 3, .long 0, .long 8]) (rest := [.ref 176]) (st1 := [.int 1, .ref 176]) (m_189t (d := _) (sl := 0) rfl) rfl rfl rfl (fun _ _ => rfl) rfl (by exact cl_s my_189 rfl rfl rfl (Nat.le_of_ble_eq_true rfl) rfl rfl) (by rfl) (Nat.le_of_ble_eq_true rfl) (Nat.le_of_ble_eq_true rfl) rfl (by rfl) ?_
      refine w_p (pc1 := 11) (st1 := .int 1 :: _) rfl rfl ?_
      refine w_je (pc1 := 14) (vs := [.ref 176, .int 1, .int 1]) (rest := []) (st1 := [.int 1]) (m_190 (d := _) (sl := 0)) rfl rfl rfl (fun _ _ => rfl) rfl (by exact cl_v my_190 rfl rfl rfl (Nat.le_of_ble_eq_true rfl) rfl (MH_obj rfl rfl) rfl (by decide) rfl rfl) (by rfl) (Nat.le_of_ble_eq_true rfl) (Nat.le_of_ble_eq_true rfl) rfl (by rfl) ?_
      refine w_t (a := 19) (b := 17) rfl rfl rfl ?_
      refine w_p (pc1 := 20) rfl rfl ?_
      refine w_p (pc1 := 21) (st1 := .int 3 :: _) rfl rfl ?_
      refine w_t (a := 55) (b := 24) rfl rfl rfl ?_
      refine w_p (pc1 := 56) rfl rfl ?_
      refine w_m0 (pc1 := 59) rfl rfl (h_gC rfl rfl rfl rfl) rfl ?_
      refine w_p (pc1 := 60) rfl rfl ?_
      refine w_p (pc1 := 61) (st1 := .int 3 :: _) rfl rfl ?_
      refine w_p (pc1 := 62) (st1 := .int 0 :: _) rfl rfl ?_
      refine w_m0 (pc1 := 63) rfl rfl (h_bl rfl rfl (by decide) rfl) rfl ?_
      refine w_t (a := 77) (b := 66) (cb_eq_t (by exact (frM_t F).1 _ (by decide))) rfl rfl ?_
      refine w_p (pc1 := 78) (st1 := .int (-1) :: _) rfl rfl ?_
      refine w_r rfl rfl rfl (fun _ _ => rfl) cr_int ?_
      exact Or.inl ⟨by decide, rfl, rfl, rfl⟩
    · skip
      refine w_p (pc1 := 1) rfl rfl ?_
      refine w_p (pc1 := 2) rfl rfl ?_
      refine w_p (pc1 := 3) (st1 := .long 4 :: _) rfl rfl ?_
      refine w_p (pc1 := 4) (st1 := .long 0 :: _) rfl rfl ?_
      refine w_m0 (pc1 := 7) (st1 := .long 8 :: _) rfl rfl rfl rfl ?_
      refine w_je (pc1 := 10) (vs := [.long 4, .long 0, .long 8]) (rest := [.ref 176]) (st1 := [.int 1, .ref 176]) (m_189t (d := _) (sl := 0) rfl) rfl rfl rfl (fun _ _ => rfl) rfl (by exact cl_s my_189 rfl rfl rfl (Nat.le_of_ble_eq_true rfl) rfl rfl) (by rfl) (Nat.le_of_ble_eq_true rfl) (Nat.le_of_ble_eq_true rfl) rfl (by rfl) ?_
      refine w_p (pc1 := 11) (st1 := .int 1 :: _) rfl rfl ?_
      refine w_je (pc1 := 14) (vs := [.ref 176, .int 1, .int 1]) (rest := []) (st1 := [.int 1]) (m_190 (d := _) (sl := 0)) rfl rfl rfl (fun _ _ => rfl) rfl (by exact cl_v my_190 rfl rfl rfl (Nat.le_of_ble_eq_true rfl) rfl (MH_obj rfl rfl) rfl (by decide) rfl rfl) (by rfl) (Nat.le_of_ble_eq_true rfl) (Nat.le_of_ble_eq_true rfl) rfl (by rfl) ?_
      refine w_t (a := 19) (b := 17) rfl rfl rfl ?_
      refine w_p (pc1 := 20) rfl rfl ?_
      refine w_p (pc1 := 21) (st1 := .int 3 :: _) rfl rfl ?_
      refine w_t (a := 55) (b := 24) rfl rfl rfl ?_
      refine w_p (pc1 := 56) rfl rfl ?_
      refine w_m0 (pc1 := 59) rfl rfl (h_gC rfl rfl rfl rfl) rfl ?_
      refine w_p (pc1 := 60) rfl rfl ?_
      refine w_p (pc1 := 61) (st1 := .int 3 :: _) rfl rfl ?_
      refine w_p (pc1 := 62) (st1 := .int 1 :: _) rfl rfl ?_
      refine w_m0 (pc1 := 63) rfl rfl (h_bl rfl rfl (by decide) rfl) rfl ?_
      refine w_t (a := 77) (b := 66) (cb_eq_t (by exact (frM_t F).1 _ (by decide))) rfl rfl ?_
      refine w_p (pc1 := 78) (st1 := .int (-1) :: _) rfl rfl ?_
      refine w_r rfl rfl rfl (fun _ _ => rfl) cr_int ?_
      exact Or.inl ⟨by decide, rfl, rfl, rfl⟩
    · skip
      refine w_p (pc1 := 1) rfl rfl ?_
      refine w_p (pc1 := 2) rfl rfl ?_
      refine w_p (pc1 := 3) (st1 := .long 5 :: _) rfl rfl ?_
      refine w_p (pc1 := 4) (st1 := .long 0 :: _) rfl rfl ?_
      refine w_m0 (pc1 := 7) (st1 := .long 8 :: _) rfl rfl rfl rfl ?_
      refine w_je (pc1 := 10) (vs := [.long 5, .long 0, .long 8]) (rest := [.ref 176]) (st1 := [.int 1, .ref 176]) (m_189t (d := _) (sl := 0) rfl) rfl rfl rfl (fun _ _ => rfl) rfl (by exact cl_s my_189 rfl rfl rfl (Nat.le_of_ble_eq_true rfl) rfl rfl) (by rfl) (Nat.le_of_ble_eq_true rfl) (Nat.le_of_ble_eq_true rfl) rfl (by rfl) ?_
      refine w_p (pc1 := 11) (st1 := .int 1 :: _) rfl rfl ?_
      refine w_je (pc1 := 14) (vs := [.ref 176, .int 1, .int 1]) (rest := []) (st1 := [.int 1]) (m_190 (d := _) (sl := 0)) rfl rfl rfl (fun _ _ => rfl) rfl (by exact cl_v my_190 rfl rfl rfl (Nat.le_of_ble_eq_true rfl) rfl (MH_obj rfl rfl) rfl (by decide) rfl rfl) (by rfl) (Nat.le_of_ble_eq_true rfl) (Nat.le_of_ble_eq_true rfl) rfl (by rfl) ?_
      refine w_t (a := 19) (b := 17) rfl rfl rfl ?_
      refine w_p (pc1 := 20) rfl rfl ?_
      refine w_p (pc1 := 21) (st1 := .int 3 :: _) rfl rfl ?_
      refine w_t (a := 55) (b := 24) rfl rfl rfl ?_
      refine w_p (pc1 := 56) rfl rfl ?_
      refine w_m0 (pc1 := 59) rfl rfl (h_gC rfl rfl rfl rfl) rfl ?_
      refine w_p (pc1 := 60) rfl rfl ?_
      refine w_p (pc1 := 61) (st1 := .int 3 :: _) rfl rfl ?_
      refine w_p (pc1 := 62) (st1 := .int 2 :: _) rfl rfl ?_
      refine w_m0 (pc1 := 63) rfl rfl (h_bl rfl rfl (by decide) rfl) rfl ?_
      refine w_t (a := 77) (b := 66) (cb_eq_t (by exact (frM_t F).1 _ (by decide))) rfl rfl ?_
      refine w_p (pc1 := 78) (st1 := .int (-1) :: _) rfl rfl ?_
      refine w_r rfl rfl rfl (fun _ _ => rfl) cr_int ?_
      exact Or.inl ⟨by decide, rfl, rfl, rfl⟩
    · skip
      refine w_p (pc1 := 1) rfl rfl ?_
      refine w_p (pc1 := 2) rfl rfl ?_
      refine w_p (pc1 := 3) (st1 := .long 6 :: _) rfl rfl ?_
      refine w_p (pc1 := 4) (st1 := .long 0 :: _) rfl rfl ?_
      refine w_m0 (pc1 := 7) (st1 := .long 8 :: _) rfl rfl rfl rfl ?_
      refine w_je (pc1 := 10) (vs := [.long 6, .long 0, .long 8]) (rest := [.ref 176]) (st1 := [.int 1, .ref 176]) (m_189t (d := _) (sl := 0) rfl) rfl rfl rfl (fun _ _ => rfl) rfl (by exact cl_s my_189 rfl rfl rfl (Nat.le_of_ble_eq_true rfl) rfl rfl) (by rfl) (Nat.le_of_ble_eq_true rfl) (Nat.le_of_ble_eq_true rfl) rfl (by rfl) ?_
      refine w_p (pc1 := 11) (st1 := .int 1 :: _) rfl rfl ?_
      refine w_je (pc1 := 14) (vs := [.ref 176, .int 1, .int 1]) (rest := []) (st1 := [.int 1]) (m_190 (d := _) (sl := 0)) rfl rfl rfl (fun _ _ => rfl) rfl (by exact cl_v my_190 rfl rfl rfl (Nat.le_of_ble_eq_true rfl) rfl (MH_obj rfl rfl) rfl (by decide) rfl rfl) (by rfl) (Nat.le_of_ble_eq_true rfl) (Nat.le_of_ble_eq_true rfl) rfl (by rfl) ?_
      refine w_t (a := 19) (b := 17) rfl rfl rfl ?_
      refine w_p (pc1 := 20) rfl rfl ?_
      refine w_p (pc1 := 21) (st1 := .int 3 :: _) rfl rfl ?_
      refine w_t (a := 55) (b := 24) rfl rfl rfl ?_
      refine w_p (pc1 := 56) rfl rfl ?_
      refine w_m0 (pc1 := 59) rfl rfl (h_gC rfl rfl rfl rfl) rfl ?_
      refine w_p (pc1 := 60) rfl rfl ?_
      refine w_p (pc1 := 61) (st1 := .int 3 :: _) rfl rfl ?_
      refine w_p (pc1 := 62) (st1 := .int 3 :: _) rfl rfl ?_
      refine w_m0 (pc1 := 63) rfl rfl (h_bl rfl rfl (by decide) rfl) rfl ?_
      refine w_t (a := 77) (b := 66) (cb_eq_t (by exact (frM_t F).1 _ (by decide))) rfl rfl ?_
      refine w_p (pc1 := 78) (st1 := .int (-1) :: _) rfl rfl ?_
      refine w_r rfl rfl rfl (fun _ _ => rfl) cr_int ?_
      exact Or.inl ⟨by decide, rfl, rfl, rfl⟩
    · skip
      refine w_p (pc1 := 1) rfl rfl ?_
      refine w_p (pc1 := 2) rfl rfl ?_
      refine w_p (pc1 := 3) (st1 := .long 7 :: _) rfl rfl ?_
      refine w_p (pc1 := 4) (st1 := .long 0 :: _) rfl rfl ?_
      refine w_m0 (pc1 := 7) (st1 := .long 8 :: _) rfl rfl rfl rfl ?_
      refine w_je (pc1 := 10) (vs := [.long 7, .long 0, .long 8]) (rest := [.ref 176]) (st1 := [.int 1, .ref 176]) (m_189t (d := _) (sl := 0) rfl) rfl rfl rfl (fun _ _ => rfl) rfl (by exact cl_s my_189 rfl rfl rfl (Nat.le_of_ble_eq_true rfl) rfl rfl) (by rfl) (Nat.le_of_ble_eq_true rfl) (Nat.le_of_ble_eq_true rfl) rfl (by rfl) ?_
      refine w_p (pc1 := 11) (st1 := .int 1 :: _) rfl rfl ?_
      refine w_je (pc1 := 14) (vs := [.ref 176, .int 1, .int 1]) (rest := []) (st1 := [.int 1]) (m_190 (d := _) (sl := 0)) rfl rfl rfl (fun _ _ => rfl) rfl (by exact cl_v my_190 rfl rfl rfl (Nat.le_of_ble_eq_true rfl) rfl (MH_obj rfl rfl) rfl (by decide) rfl rfl) (by rfl) (Nat.le_of_ble_eq_true rfl) (Nat.le_of_ble_eq_true rfl) rfl (by rfl) ?_
      refine w_t (a := 19) (b := 17) rfl rfl rfl ?_
      refine w_p (pc1 := 20) rfl rfl ?_
      refine w_p (pc1 := 21) (st1 := .int 3 :: _) rfl rfl ?_
      refine w_t (a := 55) (b := 24) rfl rfl rfl ?_
      refine w_p (pc1 := 56) rfl rfl ?_
      refine w_m0 (pc1 := 59) rfl rfl (h_gC rfl rfl rfl rfl) rfl ?_
      refine w_p (pc1 := 60) rfl rfl ?_
      refine w_p (pc1 := 61) (st1 := .int 3 :: _) rfl rfl ?_
      refine w_p (pc1 := 62) (st1 := .int 4 :: _) rfl rfl ?_
      refine w_m0 (pc1 := 63) rfl rfl (h_bl rfl rfl (by decide) rfl) rfl ?_
      refine w_t (a := 77) (b := 66) (cb_eq_t (by exact (frM_t F).1 _ (by decide))) rfl rfl ?_
      refine w_p (pc1 := 78) (st1 := .int (-1) :: _) rfl rfl ?_
      refine w_r rfl rfl rfl (fun _ _ => rfl) cr_int ?_
      exact Or.inl ⟨by decide, rfl, rfl, rfl⟩
    · skip
      refine w_p (pc1 := 1) rfl rfl ?_
      refine w_p (pc1 := 2) rfl rfl ?_
      refine w_p (pc1 := 3) (st1 := .long 8 :: _) rfl rfl ?_
      refine w_p (pc1 := 4) (st1 := .long 0 :: _) rfl rfl ?_
      refine w_m0 (pc1 := 7) (st1 := .long 8 :: _) rfl rfl rfl rfl ?_
      refine w_je (pc1 := 10) (vs := [.long 8, .long 0, .long 8]) (rest := [.ref 176]) (st1 := [.int 1, .ref 176]) (m_189t (d := _) (sl := 0) rfl) rfl rfl rfl (fun _ _ => rfl) rfl (by exact cl_s my_189 rfl rfl rfl (Nat.le_of_ble_eq_true rfl) rfl rfl) (by rfl) (Nat.le_of_ble_eq_true rfl) (Nat.le_of_ble_eq_true rfl) rfl (by rfl) ?_
      refine w_p (pc1 := 11) (st1 := .int 1 :: _) rfl rfl ?_
      refine w_je (pc1 := 14) (vs := [.ref 176, .int 1, .int 1]) (rest := []) (st1 := [.int 1]) (m_190 (d := _) (sl := 0)) rfl rfl rfl (fun _ _ => rfl) rfl (by exact cl_v my_190 rfl rfl rfl (Nat.le_of_ble_eq_true rfl) rfl (MH_obj rfl rfl) rfl (by decide) rfl rfl) (by rfl) (Nat.le_of_ble_eq_true rfl) (Nat.le_of_ble_eq_true rfl) rfl (by rfl) ?_
      refine w_t (a := 19) (b := 17) rfl rfl rfl ?_
      refine w_p (pc1 := 20) rfl rfl ?_
      refine w_p (pc1 := 21) (st1 := .int 3 :: _) rfl rfl ?_
      refine w_t (a := 55) (b := 24) rfl rfl rfl ?_
      refine w_p (pc1 := 56) rfl rfl ?_
      refine w_m0 (pc1 := 59) rfl rfl (h_gC rfl rfl rfl rfl) rfl ?_
      refine w_p (pc1 := 60) rfl rfl ?_
      refine w_p (pc1 := 61) (st1 := .int 3 :: _) rfl rfl ?_
      refine w_p (pc1 := 62) (st1 := .int 5 :: _) rfl rfl ?_
      refine w_m0 (pc1 := 63) rfl rfl (h_bl rfl rfl (by decide) rfl) rfl ?_
      refine w_t (a := 77) (b := 66) (cb_eq_t (by exact (frM_t F).1 _ (by decide))) rfl rfl ?_
      refine w_p (pc1 := 78) (st1 := .int (-1) :: _) rfl rfl ?_
      refine w_r rfl rfl rfl (fun _ _ => rfl) cr_int ?_
      exact Or.inl ⟨by decide, rfl, rfl, rfl⟩
  · skip
    refine w_p (pc1 := 1) rfl rfl ?_
    refine w_p (pc1 := 2) rfl rfl ?_
    refine w_p (pc1 := 3) rfl rfl ?_
    refine w_p (pc1 := 4) (st1 := .long 0 :: _) rfl rfl ?_
    refine w_m0 (pc1 := 7) (st1 := .long 8 :: _) rfl rfl rfl rfl ?_
    refine w_je (pc1 := 10) (vs := [_, .long 0, .long 8]) (rest := [.ref 176]) (st1 := [.int 0, .ref 176]) (m_189f (d := _) (sl := 0) (isIn_f (x := x) (m := 0) (n := 8) rfl rfl (by omega))) rfl rfl rfl (fun _ _ => rfl) rfl (by exact cl_s my_189 rfl rfl rfl (Nat.le_of_ble_eq_true rfl) rfl rfl) (by rfl) (Nat.le_of_ble_eq_true rfl) (Nat.le_of_ble_eq_true rfl) rfl (by rfl) ?_
    refine w_p (pc1 := 11) (st1 := .int 1 :: _) rfl rfl ?_
    refine w_je (pc1 := 14) (vs := [.ref 176, .int 0, .int 1]) (rest := []) (st1 := [.int 0]) (m_190 (d := _) (sl := 0)) rfl rfl rfl (fun _ _ => rfl) rfl (by exact cl_v my_190 rfl rfl rfl (Nat.le_of_ble_eq_true rfl) rfl (MH_obj rfl rfl) rfl (by decide) rfl rfl) (by rfl) (Nat.le_of_ble_eq_true rfl) (Nat.le_of_ble_eq_true rfl) rfl (by rfl) ?_
    refine w_f (a := 19) (b := 17) rfl rfl rfl ?_
    refine w_p (pc1 := 18) (st1 := .int 0 :: _) rfl rfl ?_
    refine w_r rfl rfl rfl (fun _ _ => rfl) cr_int ?_
    exact Or.inr ⟨hx, rfl, rfl, rfl⟩
set_option maxRecDepth 100000 in
theorem m_290n {x w : Int32} (F : frM C) : Wd L xs (d + 1) y_290 (0, [(0, .ref 176), (1, .int x), (2, .int w)], [], MH C t, sl) (Rt (some (.long 0)) (MH (sI C 76 0 1) t) sl) nX := by
  by_cases hx : 0 ≤ x.toInt ∧ x.toInt < 6
  · skip
    refine w_p (pc1 := 1) rfl rfl ?_
    refine w_p (pc1 := 2) rfl rfl ?_
    refine w_p (pc1 := 3) (st1 := .long 0 :: _) rfl rfl ?_
    refine w_m0 (pc1 := 6) (st1 := .long 5 :: _) rfl rfl rfl rfl ?_
    refine w_je (pc1 := 9) (vs := [_, .long 0, .long 5]) (rest := []) (st1 := [.int 1]) (m_189t (d := _) (sl := 0) (isIn_t (x := x) (m := 0) (n := 5) rfl rfl hx.1 (by omega))) rfl rfl rfl (fun _ _ => rfl) rfl (by exact cl_s my_189 rfl rfl rfl (Nat.le_of_ble_eq_true rfl) rfl rfl) (by rfl) (Nat.le_of_ble_eq_true rfl) (Nat.le_of_ble_eq_true rfl) rfl (by rfl) ?_
    refine w_f (a := 25) (b := 12) rfl rfl rfl ?_
    refine w_p (pc1 := 13) rfl rfl ?_
    refine w_m0 (pc1 := 16) rfl rfl (h_gC rfl rfl rfl rfl) rfl ?_
    refine w_p (pc1 := 17) rfl rfl ?_
    refine w_m0 (pc1 := 18) rfl rfl (h_bl rfl rfl (by decide) (by exact in_ok (by omega) (by omega))) rfl ?_
    refine w_t (a := 25) (b := 21) (cb_eq_t (by exact F.1 _ (nat_of hx.1 (by omega)))) rfl rfl ?_
    refine w_p (pc1 := 26) (st1 := .int 0 :: _) rfl rfl ?_
    refine w_p (pc1 := 27) (al1 := [(3, .int 0), (0, .ref 176), (1, _), (2, _)]) rfl rfl ?_
    refine w_p (pc1 := 28) rfl rfl ?_
    refine w_p (pc1 := 29) rfl rfl ?_
    refine w_m0 (pc1 := 32) (st1 := .long 4 :: _) rfl rfl rfl rfl ?_
    refine w_m0 (pc1 := 35) (st1 := .long 9 :: _) rfl rfl rfl rfl ?_
    refine w_je (pc1 := 38) (vs := [_, .long 4, .long 9]) (rest := []) (st1 := [_]) (m_189 (d := _) (sl := 0)) rfl rfl rfl (fun _ _ => rfl) rfl (by exact cl_s my_189 rfl rfl rfl (Nat.le_of_ble_eq_true rfl) rfl rfl) (by rfl) (Nat.le_of_ble_eq_true rfl) (Nat.le_of_ble_eq_true rfl) rfl (by rfl) ?_
    refine w_b (a := 57) (b := 41) rfl rfl (fun c38 => ?_) (fun c38 => ?_)
    · replace c38 := cc_eq_t c38
      refine w_p (pc1 := 58) (st1 := .int 1 :: _) rfl rfl ?_
      refine w_p (pc1 := 62) rfl rfl ?_
      refine w_p (pc1 := 64) (al1 := [(4, .int 1), (3, .int 0), (0, .ref 176), (1, _), (2, _)]) rfl rfl ?_
      refine w_p (pc1 := 65) rfl rfl ?_
      refine w_p (pc1 := 66) rfl rfl ?_
      refine w_t (a := 78) (b := 69) rfl rfl rfl ?_
      refine w_p (pc1 := 79) (st1 := .int 0 :: _) rfl rfl ?_
      refine w_p (pc1 := 80) rfl rfl ?_
      refine w_p (pc1 := 81) rfl rfl ?_
      refine w_p (pc1 := 82) (st1 := .long 0 :: _) rfl rfl ?_
      refine w_m0 (pc1 := 85) (st1 := .long 9 :: _) rfl rfl rfl rfl ?_
      refine w_je (pc1 := 88) (vs := [_, .long 0, .long 9]) (rest := [.int 0, .ref 176]) (st1 := [_, .int 0, .ref 176]) (m_189 (d := _) (sl := 0)) rfl rfl rfl (fun _ _ => rfl) rfl (by exact cl_s my_189 rfl rfl rfl (Nat.le_of_ble_eq_true rfl) rfl rfl) (by rfl) (Nat.le_of_ble_eq_true rfl) (Nat.le_of_ble_eq_true rfl) rfl (by rfl) ?_
      refine w_je (pc1 := 91) (vs := [.ref 176, .int 0, _]) (rest := []) (st1 := [.int 0]) (m_190 (d := _) (sl := 0)) rfl rfl rfl (fun _ _ => rfl) rfl (by exact cl_v my_190 rfl rfl rfl (Nat.le_of_ble_eq_true rfl) rfl (MH_obj rfl rfl) rfl (by decide) rfl rfl) (by rfl) (Nat.le_of_ble_eq_true rfl) (Nat.le_of_ble_eq_true rfl) rfl (by rfl) ?_
      refine w_f (a := 96) (b := 94) rfl rfl rfl ?_
      refine w_p (pc1 := 95) (st1 := .long 0 :: _) rfl rfl ?_
      refine w_r rfl rfl rfl (fun _ _ => rfl) rfl ?_
      exact ⟨rfl, rfl, rfl⟩
    · replace c38 := cc_eq_f c38
      refine w_p (pc1 := 42) rfl rfl ?_
      refine w_t (a := 61) (b := 45) rfl rfl rfl ?_
      refine w_p (pc1 := 62) (st1 := .int 0 :: _) rfl rfl ?_
      refine w_p (pc1 := 64) (al1 := [(4, .int 0), (3, .int 0), (0, .ref 176), (1, _), (2, _)]) rfl rfl ?_
      refine w_p (pc1 := 65) rfl rfl ?_
      refine w_p (pc1 := 66) rfl rfl ?_
      refine w_t (a := 78) (b := 69) rfl rfl rfl ?_
      refine w_p (pc1 := 79) (st1 := .int 0 :: _) rfl rfl ?_
      refine w_p (pc1 := 80) rfl rfl ?_
      refine w_p (pc1 := 81) rfl rfl ?_
      refine w_p (pc1 := 82) (st1 := .long 0 :: _) rfl rfl ?_
      refine w_m0 (pc1 := 85) (st1 := .long 9 :: _) rfl rfl rfl rfl ?_
      refine w_je (pc1 := 88) (vs := [_, .long 0, .long 9]) (rest := [.int 0, .ref 176]) (st1 := [_, .int 0, .ref 176]) (m_189 (d := _) (sl := 0)) rfl rfl rfl (fun _ _ => rfl) rfl (by exact cl_s my_189 rfl rfl rfl (Nat.le_of_ble_eq_true rfl) rfl rfl) (by rfl) (Nat.le_of_ble_eq_true rfl) (Nat.le_of_ble_eq_true rfl) rfl (by rfl) ?_
      refine w_je (pc1 := 91) (vs := [.ref 176, .int 0, _]) (rest := []) (st1 := [.int 0]) (m_190 (d := _) (sl := 0)) rfl rfl rfl (fun _ _ => rfl) rfl (by exact cl_v my_190 rfl rfl rfl (Nat.le_of_ble_eq_true rfl) rfl (MH_obj rfl rfl) rfl (by decide) rfl rfl) (by rfl) (Nat.le_of_ble_eq_true rfl) (Nat.le_of_ble_eq_true rfl) rfl (by rfl) ?_
      refine w_f (a := 96) (b := 94) rfl rfl rfl ?_
      refine w_p (pc1 := 95) (st1 := .long 0 :: _) rfl rfl ?_
      refine w_r rfl rfl rfl (fun _ _ => rfl) rfl ?_
      exact ⟨rfl, rfl, rfl⟩
  · skip
    refine w_p (pc1 := 1) rfl rfl ?_
    refine w_p (pc1 := 2) rfl rfl ?_
    refine w_p (pc1 := 3) (st1 := .long 0 :: _) rfl rfl ?_
    refine w_m0 (pc1 := 6) (st1 := .long 5 :: _) rfl rfl rfl rfl ?_
    refine w_je (pc1 := 9) (vs := [_, .long 0, .long 5]) (rest := []) (st1 := [.int 0]) (m_189f (d := _) (sl := 0) (isIn_f (x := x) (m := 0) (n := 5) rfl rfl (by omega))) rfl rfl rfl (fun _ _ => rfl) rfl (by exact cl_s my_189 rfl rfl rfl (Nat.le_of_ble_eq_true rfl) rfl rfl) (by rfl) (Nat.le_of_ble_eq_true rfl) (Nat.le_of_ble_eq_true rfl) rfl (by rfl) ?_
    refine w_t (a := 25) (b := 12) rfl rfl rfl ?_
    refine w_p (pc1 := 26) (st1 := .int 0 :: _) rfl rfl ?_
    refine w_p (pc1 := 27) (al1 := [(3, .int 0), (0, .ref 176), (1, _), (2, _)]) rfl rfl ?_
    refine w_p (pc1 := 28) rfl rfl ?_
    refine w_p (pc1 := 29) rfl rfl ?_
    refine w_m0 (pc1 := 32) (st1 := .long 4 :: _) rfl rfl rfl rfl ?_
    refine w_m0 (pc1 := 35) (st1 := .long 9 :: _) rfl rfl rfl rfl ?_
    refine w_je (pc1 := 38) (vs := [_, .long 4, .long 9]) (rest := []) (st1 := [_]) (m_189 (d := _) (sl := 0)) rfl rfl rfl (fun _ _ => rfl) rfl (by exact cl_s my_189 rfl rfl rfl (Nat.le_of_ble_eq_true rfl) rfl rfl) (by rfl) (Nat.le_of_ble_eq_true rfl) (Nat.le_of_ble_eq_true rfl) rfl (by rfl) ?_
    refine w_b (a := 57) (b := 41) rfl rfl (fun c38 => ?_) (fun c38 => ?_)
    · replace c38 := cc_eq_t c38
      refine w_p (pc1 := 58) (st1 := .int 1 :: _) rfl rfl ?_
      refine w_p (pc1 := 62) rfl rfl ?_
      refine w_p (pc1 := 64) (al1 := [(4, .int 1), (3, .int 0), (0, .ref 176), (1, _), (2, _)]) rfl rfl ?_
      refine w_p (pc1 := 65) rfl rfl ?_
      refine w_p (pc1 := 66) rfl rfl ?_
      refine w_t (a := 78) (b := 69) rfl rfl rfl ?_
      refine w_p (pc1 := 79) (st1 := .int 0 :: _) rfl rfl ?_
      refine w_p (pc1 := 80) rfl rfl ?_
      refine w_p (pc1 := 81) rfl rfl ?_
      refine w_p (pc1 := 82) (st1 := .long 0 :: _) rfl rfl ?_
      refine w_m0 (pc1 := 85) (st1 := .long 9 :: _) rfl rfl rfl rfl ?_
      refine w_je (pc1 := 88) (vs := [_, .long 0, .long 9]) (rest := [.int 0, .ref 176]) (st1 := [_, .int 0, .ref 176]) (m_189 (d := _) (sl := 0)) rfl rfl rfl (fun _ _ => rfl) rfl (by exact cl_s my_189 rfl rfl rfl (Nat.le_of_ble_eq_true rfl) rfl rfl) (by rfl) (Nat.le_of_ble_eq_true rfl) (Nat.le_of_ble_eq_true rfl) rfl (by rfl) ?_
      refine w_je (pc1 := 91) (vs := [.ref 176, .int 0, _]) (rest := []) (st1 := [.int 0]) (m_190 (d := _) (sl := 0)) rfl rfl rfl (fun _ _ => rfl) rfl (by exact cl_v my_190 rfl rfl rfl (Nat.le_of_ble_eq_true rfl) rfl (MH_obj rfl rfl) rfl (by decide) rfl rfl) (by rfl) (Nat.le_of_ble_eq_true rfl) (Nat.le_of_ble_eq_true rfl) rfl (by rfl) ?_
      refine w_f (a := 96) (b := 94) rfl rfl rfl ?_
      refine w_p (pc1 := 95) (st1 := .long 0 :: _) rfl rfl ?_
      refine w_r rfl rfl rfl (fun _ _ => rfl) rfl ?_
      exact ⟨rfl, rfl, rfl⟩
    · replace c38 := cc_eq_f c38
      refine w_p (pc1 := 42) rfl rfl ?_
      refine w_t (a := 61) (b := 45) rfl rfl rfl ?_
      refine w_p (pc1 := 62) (st1 := .int 0 :: _) rfl rfl ?_
      refine w_p (pc1 := 64) (al1 := [(4, .int 0), (3, .int 0), (0, .ref 176), (1, _), (2, _)]) rfl rfl ?_
      refine w_p (pc1 := 65) rfl rfl ?_
      refine w_p (pc1 := 66) rfl rfl ?_
      refine w_t (a := 78) (b := 69) rfl rfl rfl ?_
      refine w_p (pc1 := 79) (st1 := .int 0 :: _) rfl rfl ?_
      refine w_p (pc1 := 80) rfl rfl ?_
      refine w_p (pc1 := 81) rfl rfl ?_
      refine w_p (pc1 := 82) (st1 := .long 0 :: _) rfl rfl ?_
      refine w_m0 (pc1 := 85) (st1 := .long 9 :: _) rfl rfl rfl rfl ?_
      refine w_je (pc1 := 88) (vs := [_, .long 0, .long 9]) (rest := [.int 0, .ref 176]) (st1 := [_, .int 0, .ref 176]) (m_189 (d := _) (sl := 0)) rfl rfl rfl (fun _ _ => rfl) rfl (by exact cl_s my_189 rfl rfl rfl (Nat.le_of_ble_eq_true rfl) rfl rfl) (by rfl) (Nat.le_of_ble_eq_true rfl) (Nat.le_of_ble_eq_true rfl) rfl (by rfl) ?_
      refine w_je (pc1 := 91) (vs := [.ref 176, .int 0, _]) (rest := []) (st1 := [.int 0]) (m_190 (d := _) (sl := 0)) rfl rfl rfl (fun _ _ => rfl) rfl (by exact cl_v my_190 rfl rfl rfl (Nat.le_of_ble_eq_true rfl) rfl (MH_obj rfl rfl) rfl (by decide) rfl rfl) (by rfl) (Nat.le_of_ble_eq_true rfl) (Nat.le_of_ble_eq_true rfl) rfl (by rfl) ?_
      refine w_f (a := 96) (b := 94) rfl rfl rfl ?_
      refine w_p (pc1 := 95) (st1 := .long 0 :: _) rfl rfl ?_
      refine w_r rfl rfl rfl (fun _ _ => rfl) rfl ?_
      exact ⟨rfl, rfl, rfl⟩
set_option maxRecDepth 100000 in
theorem m_291n {x w z : Int32} (F : frM C) : Wd L xs (d + 1) y_291 (0, [(0, .ref 176), (1, .int x), (2, .int w), (3, .int z)], [], MH C t, sl) (Rt (some (.long 0)) (MH (sI C 76 0 1) t) sl) nX := by
  by_cases hx : 0 ≤ x.toInt ∧ x.toInt < 6
  · skip
    refine w_p (pc1 := 1) rfl rfl ?_
    refine w_p (pc1 := 2) rfl rfl ?_
    refine w_p (pc1 := 3) (st1 := .long 0 :: _) rfl rfl ?_
    refine w_m0 (pc1 := 6) (st1 := .long 5 :: _) rfl rfl rfl rfl ?_
    refine w_je (pc1 := 9) (vs := [_, .long 0, .long 5]) (rest := []) (st1 := [.int 1]) (m_189t (d := _) (sl := 0) (isIn_t (x := x) (m := 0) (n := 5) rfl rfl hx.1 (by omega))) rfl rfl rfl (fun _ _ => rfl) rfl (by exact cl_s my_189 rfl rfl rfl (Nat.le_of_ble_eq_true rfl) rfl rfl) (by rfl) (Nat.le_of_ble_eq_true rfl) (Nat.le_of_ble_eq_true rfl) rfl (by rfl) ?_
    refine w_f (a := 63) (b := 12) rfl rfl rfl ?_
    refine w_p (pc1 := 13) rfl rfl ?_
    refine w_m0 (pc1 := 16) rfl rfl (h_gC rfl rfl rfl rfl) rfl ?_
    refine w_p (pc1 := 17) rfl rfl ?_
    refine w_m0 (pc1 := 18) rfl rfl (h_bl rfl rfl (by decide) (by exact in_ok (by omega) (by omega))) rfl ?_
    refine w_t (a := 63) (b := 21) (cb_eq_t (by exact F.1 _ (nat_of hx.1 (by omega)))) rfl rfl ?_
    refine w_p (pc1 := 64) (st1 := .int 0 :: _) rfl rfl ?_
    refine w_p (pc1 := 66) (al1 := [(4, .int 0), (0, .ref 176), (1, _), (2, _), (3, _)]) rfl rfl ?_
    refine w_p (pc1 := 67) rfl rfl ?_
    refine w_p (pc1 := 69) rfl rfl ?_
    refine w_p (pc1 := 70) (st1 := .int 1 :: _) rfl rfl ?_
    refine w_je (pc1 := 73) (vs := [.ref 176, .int 0, .int 1]) (rest := []) (st1 := [.int 0]) (m_190 (d := _) (sl := 0)) rfl rfl rfl (fun _ _ => rfl) rfl (by exact cl_v my_190 rfl rfl rfl (Nat.le_of_ble_eq_true rfl) rfl (MH_obj rfl rfl) rfl (by decide) rfl rfl) (by rfl) (Nat.le_of_ble_eq_true rfl) (Nat.le_of_ble_eq_true rfl) rfl (by rfl) ?_
    refine w_f (a := 78) (b := 76) rfl rfl rfl ?_
    refine w_p (pc1 := 77) (st1 := .long 0 :: _) rfl rfl ?_
    refine w_r rfl rfl rfl (fun _ _ => rfl) rfl ?_
    exact ⟨rfl, rfl, rfl⟩
  · skip
    refine w_p (pc1 := 1) rfl rfl ?_
    refine w_p (pc1 := 2) rfl rfl ?_
    refine w_p (pc1 := 3) (st1 := .long 0 :: _) rfl rfl ?_
    refine w_m0 (pc1 := 6) (st1 := .long 5 :: _) rfl rfl rfl rfl ?_
    refine w_je (pc1 := 9) (vs := [_, .long 0, .long 5]) (rest := []) (st1 := [.int 0]) (m_189f (d := _) (sl := 0) (isIn_f (x := x) (m := 0) (n := 5) rfl rfl (by omega))) rfl rfl rfl (fun _ _ => rfl) rfl (by exact cl_s my_189 rfl rfl rfl (Nat.le_of_ble_eq_true rfl) rfl rfl) (by rfl) (Nat.le_of_ble_eq_true rfl) (Nat.le_of_ble_eq_true rfl) rfl (by rfl) ?_
    refine w_t (a := 63) (b := 12) rfl rfl rfl ?_
    refine w_p (pc1 := 64) (st1 := .int 0 :: _) rfl rfl ?_
    refine w_p (pc1 := 66) (al1 := [(4, .int 0), (0, .ref 176), (1, _), (2, _), (3, _)]) rfl rfl ?_
    refine w_p (pc1 := 67) rfl rfl ?_
    refine w_p (pc1 := 69) rfl rfl ?_
    refine w_p (pc1 := 70) (st1 := .int 1 :: _) rfl rfl ?_
    refine w_je (pc1 := 73) (vs := [.ref 176, .int 0, .int 1]) (rest := []) (st1 := [.int 0]) (m_190 (d := _) (sl := 0)) rfl rfl rfl (fun _ _ => rfl) rfl (by exact cl_v my_190 rfl rfl rfl (Nat.le_of_ble_eq_true rfl) rfl (MH_obj rfl rfl) rfl (by decide) rfl rfl) (by rfl) (Nat.le_of_ble_eq_true rfl) (Nat.le_of_ble_eq_true rfl) rfl (by rfl) ?_
    refine w_f (a := 78) (b := 76) rfl rfl rfl ?_
    refine w_p (pc1 := 77) (st1 := .long 0 :: _) rfl rfl ?_
    refine w_r rfl rfl rfl (fun _ _ => rfl) rfl ?_
    exact ⟨rfl, rfl, rfl⟩
set_option maxRecDepth 100000 in
theorem m_292n {x w : Int32} (F : frM C) : Wd L xs (d + 1) y_292 (0, [(0, .ref 176), (1, .int x), (2, .int w)], [], MH C t, sl) (Rt (some (.int 0)) (MH (sI C 76 0 1) t) sl) nX := by
  by_cases hx : 0 ≤ x.toInt ∧ x.toInt < 24
  · skip
    refine w_p (pc1 := 1) rfl rfl ?_
    refine w_p (pc1 := 2) rfl rfl ?_
    refine w_p (pc1 := 3) rfl rfl ?_
    refine w_p (pc1 := 4) (st1 := .long 0 :: _) rfl rfl ?_
    refine w_m0 (pc1 := 7) (st1 := .long 23 :: _) rfl rfl rfl rfl ?_
    refine w_je (pc1 := 10) (vs := [_, .long 0, .long 23]) (rest := [.ref 176]) (st1 := [.int 1, .ref 176]) (m_189t (d := _) (sl := 0) (isIn_t (x := x) (m := 0) (n := 23) rfl rfl hx.1 (by omega))) rfl rfl rfl (fun _ _ => rfl) rfl (by exact cl_s my_189 rfl rfl rfl (Nat.le_of_ble_eq_true rfl) rfl rfl) (by rfl) (Nat.le_of_ble_eq_true rfl) (Nat.le_of_ble_eq_true rfl) rfl (by rfl) ?_
    refine w_f (a := 26) (b := 13) rfl rfl rfl ?_
    refine w_p (pc1 := 14) rfl rfl ?_
    refine w_m0 (pc1 := 17) rfl rfl (h_gC rfl rfl rfl rfl) rfl ?_
    refine w_p (pc1 := 18) rfl rfl ?_
    refine w_m0 (pc1 := 19) rfl rfl (h_bl rfl rfl (by decide) (by exact in_ok (by omega) (by omega))) rfl ?_
    refine w_t (a := 26) (b := 22) (cb_eq_t (by exact F.2.1 _ (nat_of hx.1 (by omega)))) rfl rfl ?_
    refine w_p (pc1 := 27) (st1 := .int 0 :: _) rfl rfl ?_
    refine w_p (pc1 := 28) rfl rfl ?_
    refine w_p (pc1 := 29) rfl rfl ?_
    refine w_p (pc1 := 30) (st1 := .long 0 :: _) rfl rfl ?_
    refine w_m0 (pc1 := 33) (st1 := .long 7 :: _) rfl rfl rfl rfl ?_
    refine w_je (pc1 := 36) (vs := [_, .long 0, .long 7]) (rest := [.int 0, .ref 176]) (st1 := [_, .int 0, .ref 176]) (m_189 (d := _) (sl := 0)) rfl rfl rfl (fun _ _ => rfl) rfl (by exact cl_s my_189 rfl rfl rfl (Nat.le_of_ble_eq_true rfl) rfl rfl) (by rfl) (Nat.le_of_ble_eq_true rfl) (Nat.le_of_ble_eq_true rfl) rfl (by rfl) ?_
    refine w_je (pc1 := 39) (vs := [.ref 176, .int 0, _]) (rest := []) (st1 := [.int 0]) (m_190 (d := _) (sl := 0)) rfl rfl rfl (fun _ _ => rfl) rfl (by exact cl_v my_190 rfl rfl rfl (Nat.le_of_ble_eq_true rfl) rfl (MH_obj rfl rfl) rfl (by decide) rfl rfl) (by rfl) (Nat.le_of_ble_eq_true rfl) (Nat.le_of_ble_eq_true rfl) rfl (by rfl) ?_
    refine w_f (a := 44) (b := 42) rfl rfl rfl ?_
    refine w_p (pc1 := 43) (st1 := .int 0 :: _) rfl rfl ?_
    refine w_r rfl rfl rfl (fun _ _ => rfl) cr_int ?_
    exact ⟨rfl, rfl, rfl⟩
  · skip
    refine w_p (pc1 := 1) rfl rfl ?_
    refine w_p (pc1 := 2) rfl rfl ?_
    refine w_p (pc1 := 3) rfl rfl ?_
    refine w_p (pc1 := 4) (st1 := .long 0 :: _) rfl rfl ?_
    refine w_m0 (pc1 := 7) (st1 := .long 23 :: _) rfl rfl rfl rfl ?_
    refine w_je (pc1 := 10) (vs := [_, .long 0, .long 23]) (rest := [.ref 176]) (st1 := [.int 0, .ref 176]) (m_189f (d := _) (sl := 0) (isIn_f (x := x) (m := 0) (n := 23) rfl rfl (by omega))) rfl rfl rfl (fun _ _ => rfl) rfl (by exact cl_s my_189 rfl rfl rfl (Nat.le_of_ble_eq_true rfl) rfl rfl) (by rfl) (Nat.le_of_ble_eq_true rfl) (Nat.le_of_ble_eq_true rfl) rfl (by rfl) ?_
    refine w_t (a := 26) (b := 13) rfl rfl rfl ?_
    refine w_p (pc1 := 27) (st1 := .int 0 :: _) rfl rfl ?_
    refine w_p (pc1 := 28) rfl rfl ?_
    refine w_p (pc1 := 29) rfl rfl ?_
    refine w_p (pc1 := 30) (st1 := .long 0 :: _) rfl rfl ?_
    refine w_m0 (pc1 := 33) (st1 := .long 7 :: _) rfl rfl rfl rfl ?_
    refine w_je (pc1 := 36) (vs := [_, .long 0, .long 7]) (rest := [.int 0, .ref 176]) (st1 := [_, .int 0, .ref 176]) (m_189 (d := _) (sl := 0)) rfl rfl rfl (fun _ _ => rfl) rfl (by exact cl_s my_189 rfl rfl rfl (Nat.le_of_ble_eq_true rfl) rfl rfl) (by rfl) (Nat.le_of_ble_eq_true rfl) (Nat.le_of_ble_eq_true rfl) rfl (by rfl) ?_
    refine w_je (pc1 := 39) (vs := [.ref 176, .int 0, _]) (rest := []) (st1 := [.int 0]) (m_190 (d := _) (sl := 0)) rfl rfl rfl (fun _ _ => rfl) rfl (by exact cl_v my_190 rfl rfl rfl (Nat.le_of_ble_eq_true rfl) rfl (MH_obj rfl rfl) rfl (by decide) rfl rfl) (by rfl) (Nat.le_of_ble_eq_true rfl) (Nat.le_of_ble_eq_true rfl) rfl (by rfl) ?_
    refine w_f (a := 44) (b := 42) rfl rfl rfl ?_
    refine w_p (pc1 := 43) (st1 := .int 0 :: _) rfl rfl ?_
    refine w_r rfl rfl rfl (fun _ _ => rfl) cr_int ?_
    exact ⟨rfl, rfl, rfl⟩
set_option maxRecDepth 100000 in
theorem m_293n {x w : Int32} (F : frM C) : Wd L xs (d + 1) y_293 (0, [(0, .ref 176), (1, .int x), (2, .int w)], [], MH C t, sl) (Rt (some (.long 0)) (MH (sI C 76 0 1) t) sl) nX := by
  by_cases hx : 0 ≤ x.toInt ∧ x.toInt < 8
  · skip
    refine w_p (pc1 := 1) rfl rfl ?_
    refine w_p (pc1 := 2) rfl rfl ?_
    refine w_p (pc1 := 3) rfl rfl ?_
    refine w_p (pc1 := 4) (st1 := .long 0 :: _) rfl rfl ?_
    refine w_m0 (pc1 := 7) (st1 := .long 7 :: _) rfl rfl rfl rfl ?_
    refine w_je (pc1 := 10) (vs := [_, .long 0, .long 7]) (rest := [.ref 176]) (st1 := [.int 1, .ref 176]) (m_189t (d := _) (sl := 0) (isIn_t (x := x) (m := 0) (n := 7) rfl rfl hx.1 (by omega))) rfl rfl rfl (fun _ _ => rfl) rfl (by exact cl_s my_189 rfl rfl rfl (Nat.le_of_ble_eq_true rfl) rfl rfl) (by rfl) (Nat.le_of_ble_eq_true rfl) (Nat.le_of_ble_eq_true rfl) rfl (by rfl) ?_
    refine w_f (a := 26) (b := 13) rfl rfl rfl ?_
    refine w_p (pc1 := 14) rfl rfl ?_
    refine w_m0 (pc1 := 17) rfl rfl (h_gC rfl rfl rfl rfl) rfl ?_
    refine w_p (pc1 := 18) rfl rfl ?_
    refine w_m0 (pc1 := 19) rfl rfl (h_bl rfl rfl (by decide) (by exact in_ok (by omega) (by omega))) rfl ?_
    refine w_t (a := 26) (b := 22) (cb_eq_t (by exact F.2.2.1 _ (nat_of hx.1 (by omega)))) rfl rfl ?_
    refine w_p (pc1 := 27) (st1 := .int 0 :: _) rfl rfl ?_
    refine w_p (pc1 := 28) rfl rfl ?_
    refine w_p (pc1 := 29) rfl rfl ?_
    refine w_p (pc1 := 30) (st1 := .long 0 :: _) rfl rfl ?_
    refine w_m0 (pc1 := 33) (st1 := .long 5 :: _) rfl rfl rfl rfl ?_
    refine w_je (pc1 := 36) (vs := [_, .long 0, .long 5]) (rest := [.int 0, .ref 176]) (st1 := [_, .int 0, .ref 176]) (m_189 (d := _) (sl := 0)) rfl rfl rfl (fun _ _ => rfl) rfl (by exact cl_s my_189 rfl rfl rfl (Nat.le_of_ble_eq_true rfl) rfl rfl) (by rfl) (Nat.le_of_ble_eq_true rfl) (Nat.le_of_ble_eq_true rfl) rfl (by rfl) ?_
    refine w_je (pc1 := 39) (vs := [.ref 176, .int 0, _]) (rest := []) (st1 := [.int 0]) (m_190 (d := _) (sl := 0)) rfl rfl rfl (fun _ _ => rfl) rfl (by exact cl_v my_190 rfl rfl rfl (Nat.le_of_ble_eq_true rfl) rfl (MH_obj rfl rfl) rfl (by decide) rfl rfl) (by rfl) (Nat.le_of_ble_eq_true rfl) (Nat.le_of_ble_eq_true rfl) rfl (by rfl) ?_
    refine w_f (a := 44) (b := 42) rfl rfl rfl ?_
    refine w_p (pc1 := 43) (st1 := .long 0 :: _) rfl rfl ?_
    refine w_r rfl rfl rfl (fun _ _ => rfl) rfl ?_
    exact ⟨rfl, rfl, rfl⟩
  · skip
    refine w_p (pc1 := 1) rfl rfl ?_
    refine w_p (pc1 := 2) rfl rfl ?_
    refine w_p (pc1 := 3) rfl rfl ?_
    refine w_p (pc1 := 4) (st1 := .long 0 :: _) rfl rfl ?_
    refine w_m0 (pc1 := 7) (st1 := .long 7 :: _) rfl rfl rfl rfl ?_
    refine w_je (pc1 := 10) (vs := [_, .long 0, .long 7]) (rest := [.ref 176]) (st1 := [.int 0, .ref 176]) (m_189f (d := _) (sl := 0) (isIn_f (x := x) (m := 0) (n := 7) rfl rfl (by omega))) rfl rfl rfl (fun _ _ => rfl) rfl (by exact cl_s my_189 rfl rfl rfl (Nat.le_of_ble_eq_true rfl) rfl rfl) (by rfl) (Nat.le_of_ble_eq_true rfl) (Nat.le_of_ble_eq_true rfl) rfl (by rfl) ?_
    refine w_t (a := 26) (b := 13) rfl rfl rfl ?_
    refine w_p (pc1 := 27) (st1 := .int 0 :: _) rfl rfl ?_
    refine w_p (pc1 := 28) rfl rfl ?_
    refine w_p (pc1 := 29) rfl rfl ?_
    refine w_p (pc1 := 30) (st1 := .long 0 :: _) rfl rfl ?_
    refine w_m0 (pc1 := 33) (st1 := .long 5 :: _) rfl rfl rfl rfl ?_
    refine w_je (pc1 := 36) (vs := [_, .long 0, .long 5]) (rest := [.int 0, .ref 176]) (st1 := [_, .int 0, .ref 176]) (m_189 (d := _) (sl := 0)) rfl rfl rfl (fun _ _ => rfl) rfl (by exact cl_s my_189 rfl rfl rfl (Nat.le_of_ble_eq_true rfl) rfl rfl) (by rfl) (Nat.le_of_ble_eq_true rfl) (Nat.le_of_ble_eq_true rfl) rfl (by rfl) ?_
    refine w_je (pc1 := 39) (vs := [.ref 176, .int 0, _]) (rest := []) (st1 := [.int 0]) (m_190 (d := _) (sl := 0)) rfl rfl rfl (fun _ _ => rfl) rfl (by exact cl_v my_190 rfl rfl rfl (Nat.le_of_ble_eq_true rfl) rfl (MH_obj rfl rfl) rfl (by decide) rfl rfl) (by rfl) (Nat.le_of_ble_eq_true rfl) (Nat.le_of_ble_eq_true rfl) rfl (by rfl) ?_
    refine w_f (a := 44) (b := 42) rfl rfl rfl ?_
    refine w_p (pc1 := 43) (st1 := .long 0 :: _) rfl rfl ?_
    refine w_r rfl rfl rfl (fun _ _ => rfl) rfl ?_
    exact ⟨rfl, rfl, rfl⟩
set_option maxRecDepth 100000 in
theorem m_294n {x : Int32} (F : frM C) : Wd L xs (d + 1) y_294 (0, [(0, .ref 176), (1, .int x)], [], MH C t, sl) (Rt (some (.int 0)) (MH (sI C 76 0 1) t) sl) nX := by
  by_cases hx : 0 ≤ x.toInt ∧ x.toInt < 24
  · skip
    refine w_p (pc1 := 1) rfl rfl ?_
    refine w_p (pc1 := 2) rfl rfl ?_
    refine w_p (pc1 := 3) rfl rfl ?_
    refine w_p (pc1 := 4) (st1 := .long 0 :: _) rfl rfl ?_
    refine w_m0 (pc1 := 7) (st1 := .long 23 :: _) rfl rfl rfl rfl ?_
    refine w_je (pc1 := 10) (vs := [_, .long 0, .long 23]) (rest := [.ref 176]) (st1 := [.int 1, .ref 176]) (m_189t (d := _) (sl := 0) (isIn_t (x := x) (m := 0) (n := 23) rfl rfl hx.1 (by omega))) rfl rfl rfl (fun _ _ => rfl) rfl (by exact cl_s my_189 rfl rfl rfl (Nat.le_of_ble_eq_true rfl) rfl rfl) (by rfl) (Nat.le_of_ble_eq_true rfl) (Nat.le_of_ble_eq_true rfl) rfl (by rfl) ?_
    refine w_f (a := 26) (b := 13) rfl rfl rfl ?_
    refine w_p (pc1 := 14) rfl rfl ?_
    refine w_m0 (pc1 := 17) rfl rfl (h_gC rfl rfl rfl rfl) rfl ?_
    refine w_p (pc1 := 18) rfl rfl ?_
    refine w_m0 (pc1 := 19) rfl rfl (h_bl rfl rfl (by decide) (by exact in_ok (by omega) (by omega))) rfl ?_
    refine w_t (a := 26) (b := 22) (cb_eq_t (by exact F.2.1 _ (nat_of hx.1 (by omega)))) rfl rfl ?_
    refine w_p (pc1 := 27) (st1 := .int 0 :: _) rfl rfl ?_
    refine w_p (pc1 := 28) (st1 := .int 1 :: _) rfl rfl ?_
    refine w_je (pc1 := 31) (vs := [.ref 176, .int 0, .int 1]) (rest := []) (st1 := [.int 0]) (m_190 (d := _) (sl := 0)) rfl rfl rfl (fun _ _ => rfl) rfl (by exact cl_v my_190 rfl rfl rfl (Nat.le_of_ble_eq_true rfl) rfl (MH_obj rfl rfl) rfl (by decide) rfl rfl) (by rfl) (Nat.le_of_ble_eq_true rfl) (Nat.le_of_ble_eq_true rfl) rfl (by rfl) ?_
    refine w_t (a := 42) (b := 34) rfl rfl rfl ?_
    refine w_p (pc1 := 43) (st1 := .int 0 :: _) rfl rfl ?_
    refine w_r rfl rfl rfl (fun _ _ => rfl) cr_int ?_
    exact ⟨rfl, rfl, rfl⟩
  · skip
    refine w_p (pc1 := 1) rfl rfl ?_
    refine w_p (pc1 := 2) rfl rfl ?_
    refine w_p (pc1 := 3) rfl rfl ?_
    refine w_p (pc1 := 4) (st1 := .long 0 :: _) rfl rfl ?_
    refine w_m0 (pc1 := 7) (st1 := .long 23 :: _) rfl rfl rfl rfl ?_
    refine w_je (pc1 := 10) (vs := [_, .long 0, .long 23]) (rest := [.ref 176]) (st1 := [.int 0, .ref 176]) (m_189f (d := _) (sl := 0) (isIn_f (x := x) (m := 0) (n := 23) rfl rfl (by omega))) rfl rfl rfl (fun _ _ => rfl) rfl (by exact cl_s my_189 rfl rfl rfl (Nat.le_of_ble_eq_true rfl) rfl rfl) (by rfl) (Nat.le_of_ble_eq_true rfl) (Nat.le_of_ble_eq_true rfl) rfl (by rfl) ?_
    refine w_t (a := 26) (b := 13) rfl rfl rfl ?_
    refine w_p (pc1 := 27) (st1 := .int 0 :: _) rfl rfl ?_
    refine w_p (pc1 := 28) (st1 := .int 1 :: _) rfl rfl ?_
    refine w_je (pc1 := 31) (vs := [.ref 176, .int 0, .int 1]) (rest := []) (st1 := [.int 0]) (m_190 (d := _) (sl := 0)) rfl rfl rfl (fun _ _ => rfl) rfl (by exact cl_v my_190 rfl rfl rfl (Nat.le_of_ble_eq_true rfl) rfl (MH_obj rfl rfl) rfl (by decide) rfl rfl) (by rfl) (Nat.le_of_ble_eq_true rfl) (Nat.le_of_ble_eq_true rfl) rfl (by rfl) ?_
    refine w_t (a := 42) (b := 34) rfl rfl rfl ?_
    refine w_p (pc1 := 43) (st1 := .int 0 :: _) rfl rfl ?_
    refine w_r rfl rfl rfl (fun _ _ => rfl) cr_int ?_
    exact ⟨rfl, rfl, rfl⟩
end FRS
