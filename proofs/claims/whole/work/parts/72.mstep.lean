/-! THE OTHER SIDE'S TAPE, 3: the step to the next token -/
section MT3
variable {L : Nat} {xs : Nat → Int32} {C : co_T} {t : ab_H} {d sl n z : Nat} {B : Nat → Nat}
def nx1 (C : co_T) (a : Nat) : co_T := sI (sI (sI C 76 3 (nI a)) 76 5 (nI a)) 76 6 (nI (a + 1))
def two (B : Nat → Nat) (n a : Nat) : Bool := (decide (B a = 60) || decide (B a = 62)) && decide (bt B n (a + 1) = 61)
def sgV (B : Nat → Nat) (n a : Nat) : Int64 := bif two B n a then (nI (100 + B a)).toInt64 else (nI (B a)).toInt64
def sg2 (C : co_T) (B : Nat → Nat) (n a : Nat) : co_T := sI (sJ (sI (nx1 C a) 76 4 4) 76 7 (sgV B n a)) 76 6 (nI (a + bif two B n a then 2 else 1))
def nxM (B : Nat → Nat) (n : Nat) (C : co_T) (a : Nat) : co_T := if n ≤ a then sJ (sI (sI (sI (nx1 C a) 76 5 (nI n)) 76 6 (nI n)) 76 4 0) 76 7 0 else bif isL (B a) then rlF (nx1 C a) a (adv (fun i => atL B n i || atF B n i) (n - a) a) (rlV B n a (n - a) a 0) else bif isF (B a) then rfF (nx1 C a) a (adv (atF B n) (n - a) a) (rfV B n a (n - a) a 0) else bif isSg (B a) then sg2 C B n a else fl_ (sg2 C B n a) 1 (nI a)
/-! an elder fault lies ahead of z -/
def flO (C : co_T) (n z : Nat) : Prop := C.1 76 8 ≠ 0 → ∃ q, C.1 76 9 = nI q ∧ q ≤ n ∧ (q < z ∨ z = n)
set_option maxRecDepth 100000 in
theorem flO_L {a : Nat} (h : flO C n z) (hz : z ≤ a) (ha : a < n) (hn : n ≤ 600) : orL (nx1 C a) 1 ((nx1 C a).1 76 5) := by
  intro hf
  obtain ⟨q, h1, h2, h3⟩ := h hf
  refine Or.inl ?_
  show (C.1 76 9).toInt < (nI a).toInt
  rw [h1, nK_int (by omega), nK_int (by omega)]
  omega
set_option maxHeartbeats 8000000 in
set_option maxRecDepth 100000 in
theorem nx_E {k : Nat} (T : tpM C B n) (hO : flO C n z) (hz : z ≤ k) (hk : n ≤ k) (hk2 : k ≤ 601) : Wd L xs (d + 3) y_195 (47, [(0, .ref 176)], [], MH (sI C 76 3 (nI k)) t, sl) (Rt none (MH (nxM B n C k) t) sl) nX := by
  have h6 := T.2.1
  rw [nxM, if_pos hk]
  refine w_p (pc1 := 48) rfl rfl ?_
  refine w_p (pc1 := 49) rfl rfl ?_
  refine w_m0 (pc1 := 52) (st1 := .int (nI (k)) :: _) rfl rfl (h_gIe rfl rfl rfl rfl rfl (rfl)) rfl ?_
  refine w_m0 (pc1 := 55) rfl rfl (h_pI (j := 5) rfl rfl rfl rfl rfl rfl rfl ⟨rfl, rfl⟩ rfl) rfl ?_
  refine w_p (pc1 := 56) rfl rfl ?_
  refine w_p (pc1 := 57) rfl rfl ?_
  refine w_m0 (pc1 := 60) (st1 := .int (nI (k)) :: _) rfl rfl (h_gIe rfl rfl rfl rfl rfl (rfl)) rfl ?_
  refine w_p (pc1 := 61) (st1 := .int 1 :: _) rfl rfl ?_
  refine w_iadd (pc1 := 62) (u := nI (k)) (v := nI (1)) (z := nI (k + 1)) rfl (nK_add) rfl ?_
  refine w_m0 (pc1 := 65) rfl rfl (h_pI (j := 6) rfl rfl rfl rfl rfl rfl rfl ⟨rfl, rfl⟩ rfl) rfl ?_
  refine w_p (pc1 := 66) rfl rfl ?_
  refine w_m0 (pc1 := 69) (st1 := .int (nI (k)) :: _) rfl rfl (h_gIe rfl rfl rfl rfl rfl (rfl)) rfl ?_
  refine w_p (pc1 := 70) rfl rfl ?_
  refine w_m0 (pc1 := 73) (st1 := .int (nI (n)) :: _) rfl rfl (h_gIe rfl rfl rfl rfl rfl (T.1)) rfl ?_
  refine w_f (a := 103) (b := 76) (bN_lt_f (a := k) (b := n) (by omega) (by omega) (by omega)) rfl rfl ?_
  refine w_p (pc1 := 77) rfl rfl ?_
  refine w_p (pc1 := 78) rfl rfl ?_
  refine w_m0 (pc1 := 81) (st1 := .int (nI (n)) :: _) rfl rfl (h_gIe rfl rfl rfl rfl rfl (T.1)) rfl ?_
  refine w_m0 (pc1 := 84) rfl rfl (h_pI (j := 5) rfl rfl rfl rfl rfl rfl rfl ⟨rfl, rfl⟩ rfl) rfl ?_
  refine w_p (pc1 := 85) rfl rfl ?_
  refine w_p (pc1 := 86) rfl rfl ?_
  refine w_m0 (pc1 := 89) (st1 := .int (nI (n)) :: _) rfl rfl (h_gIe rfl rfl rfl rfl rfl (T.1)) rfl ?_
  refine w_m0 (pc1 := 92) rfl rfl (h_pI (j := 6) rfl rfl rfl rfl rfl rfl rfl ⟨rfl, rfl⟩ rfl) rfl ?_
  refine w_p (pc1 := 93) rfl rfl ?_
  refine w_p (pc1 := 94) (st1 := .int 0 :: _) rfl rfl ?_
  refine w_m0 (pc1 := 97) rfl rfl (h_pI (j := 4) rfl rfl rfl rfl rfl rfl rfl ⟨rfl, rfl⟩ rfl) rfl ?_
  refine w_p (pc1 := 98) rfl rfl ?_
  refine w_p (pc1 := 99) (st1 := .long 0 :: _) rfl rfl ?_
  refine w_m0 (pc1 := 102) rfl rfl (h_pJ (j := 7) rfl rfl rfl rfl rfl rfl rfl ⟨rfl, rfl⟩ rfl) rfl ?_
  refine w_r rfl rfl rfl (fun _ _ => rfl) rfl ?_
  exact ⟨rfl, rfl, rfl⟩
set_option maxHeartbeats 8000000 in
set_option maxRecDepth 100000 in
theorem nx_L {k : Nat} (T : tpM C B n) (hO : flO C n z) (hz : z ≤ k) (hn : k < n) (hl : isL (B k) = true) : Wd L xs (d + 3) y_195 (47, [(0, .ref 176)], [], MH (sI C 76 3 (nI k)) t, sl) (Rt none (MH (nxM B n C k) t) sl) nX := by
  have h6 := T.2.1
  have T2 : tpM (sI C 76 3 (nI k)) B n := T
  have hb := (T.2.2 k hn).1
  have hb1 := bt_lt (p := k + 1) T
  have hL := flO_L hO hz hn h6
  have T3 : tpM (nx1 C k) B n := T
  rw [nxM, if_neg (by omega)]
  rw [hl, cond_true]
  refine w_p (pc1 := 48) rfl rfl ?_
  refine w_p (pc1 := 49) rfl rfl ?_
  refine w_m0 (pc1 := 52) (st1 := .int (nI (k)) :: _) rfl rfl (h_gIe rfl rfl rfl rfl rfl (rfl)) rfl ?_
  refine w_m0 (pc1 := 55) rfl rfl (h_pI (j := 5) rfl rfl rfl rfl rfl rfl rfl ⟨rfl, rfl⟩ rfl) rfl ?_
  refine w_p (pc1 := 56) rfl rfl ?_
  refine w_p (pc1 := 57) rfl rfl ?_
  refine w_m0 (pc1 := 60) (st1 := .int (nI (k)) :: _) rfl rfl (h_gIe rfl rfl rfl rfl rfl (rfl)) rfl ?_
  refine w_p (pc1 := 61) (st1 := .int 1 :: _) rfl rfl ?_
  refine w_iadd (pc1 := 62) (u := nI (k)) (v := nI (1)) (z := nI (k + 1)) rfl (nK_add) rfl ?_
  refine w_m0 (pc1 := 65) rfl rfl (h_pI (j := 6) rfl rfl rfl rfl rfl rfl rfl ⟨rfl, rfl⟩ rfl) rfl ?_
  refine w_p (pc1 := 66) rfl rfl ?_
  refine w_m0 (pc1 := 69) (st1 := .int (nI (k)) :: _) rfl rfl (h_gIe rfl rfl rfl rfl rfl (rfl)) rfl ?_
  refine w_p (pc1 := 70) rfl rfl ?_
  refine w_m0 (pc1 := 73) (st1 := .int (nI (n)) :: _) rfl rfl (h_gIe rfl rfl rfl rfl rfl (T.1)) rfl ?_
  refine w_t (a := 103) (b := 76) (bN_lt_t (a := k) (b := n) (by omega) (by omega) (by omega)) rfl rfl ?_
  refine w_p (pc1 := 104) rfl rfl ?_
  refine w_m0 (pc1 := 107) rfl rfl (h_gC rfl rfl rfl rfl) rfl ?_
  refine w_p (pc1 := 108) rfl rfl ?_
  refine w_m0 (pc1 := 111) (st1 := .int (nI (k)) :: _) rfl rfl (h_gIe rfl rfl rfl rfl rfl (rfl)) rfl ?_
  refine w_m0 (pc1 := 112) (st1 := .int (nI (B k)) :: _) rfl rfl (n_ile (e := k) rfl rfl rfl (by omega) ((T.2.2 k hn).2)) rfl ?_
  refine w_p (pc1 := 113) (al1 := [(1, .int (nI (B k))), (0, .ref 176)]) rfl rfl ?_
  refine w_p (pc1 := 114) rfl rfl ?_
  refine w_je (pc1 := 117) (vs := [.int (nI (B k))]) (rest := []) (st1 := [.int 1]) (m_197t (d := _) (sl := 0) hb hl) rfl rfl rfl (fun _ _ => rfl) rfl (by exact cl_s my_197 rfl rfl rfl (Nat.le_of_ble_eq_true rfl) rfl rfl) (by rfl) (Nat.le_of_ble_eq_true rfl) (Nat.le_of_ble_eq_true rfl) rfl (by rfl) ?_
  refine w_f (a := 127) (b := 120) rfl rfl rfl ?_
  refine w_p (pc1 := 121) rfl rfl ?_
  refine w_je (pc1 := 124) (vs := [.ref 176]) (rest := []) (st1 := []) (m_198 (d := _) (sl := 0) (C := nx1 C k) (p := k) T3 rfl hL (by omega)) rfl rfl rfl (fun _ _ => rfl) rfl (by exact cl_v my_198 rfl rfl rfl (Nat.le_of_ble_eq_true rfl) rfl (MH_obj rfl rfl) rfl (by decide) rfl rfl) (by rfl) (Nat.le_of_ble_eq_true rfl) (Nat.le_of_ble_eq_true rfl) rfl (by rfl) ?_
  refine w_p (pc1 := 227) rfl rfl ?_
  refine w_r rfl rfl rfl (fun _ _ => rfl) rfl ?_
  exact ⟨rfl, rfl, rfl⟩
set_option maxHeartbeats 8000000 in
set_option maxRecDepth 100000 in
theorem nx_F {k : Nat} (T : tpM C B n) (hO : flO C n z) (hz : z ≤ k) (hn : k < n) (hl : isL (B k) = false) (hg : isF (B k) = true) : Wd L xs (d + 3) y_195 (47, [(0, .ref 176)], [], MH (sI C 76 3 (nI k)) t, sl) (Rt none (MH (nxM B n C k) t) sl) nX := by
  have h6 := T.2.1
  have T2 : tpM (sI C 76 3 (nI k)) B n := T
  have hb := (T.2.2 k hn).1
  have hb1 := bt_lt (p := k + 1) T
  have hL := flO_L hO hz hn h6
  have T3 : tpM (nx1 C k) B n := T
  rw [nxM, if_neg (by omega)]
  rw [hl, cond_false, hg, cond_true]
  refine w_p (pc1 := 48) rfl rfl ?_
  refine w_p (pc1 := 49) rfl rfl ?_
  refine w_m0 (pc1 := 52) (st1 := .int (nI (k)) :: _) rfl rfl (h_gIe rfl rfl rfl rfl rfl (rfl)) rfl ?_
  refine w_m0 (pc1 := 55) rfl rfl (h_pI (j := 5) rfl rfl rfl rfl rfl rfl rfl ⟨rfl, rfl⟩ rfl) rfl ?_
  refine w_p (pc1 := 56) rfl rfl ?_
  refine w_p (pc1 := 57) rfl rfl ?_
  refine w_m0 (pc1 := 60) (st1 := .int (nI (k)) :: _) rfl rfl (h_gIe rfl rfl rfl rfl rfl (rfl)) rfl ?_
  refine w_p (pc1 := 61) (st1 := .int 1 :: _) rfl rfl ?_
  refine w_iadd (pc1 := 62) (u := nI (k)) (v := nI (1)) (z := nI (k + 1)) rfl (nK_add) rfl ?_
  refine w_m0 (pc1 := 65) rfl rfl (h_pI (j := 6) rfl rfl rfl rfl rfl rfl rfl ⟨rfl, rfl⟩ rfl) rfl ?_
  refine w_p (pc1 := 66) rfl rfl ?_
  refine w_m0 (pc1 := 69) (st1 := .int (nI (k)) :: _) rfl rfl (h_gIe rfl rfl rfl rfl rfl (rfl)) rfl ?_
  refine w_p (pc1 := 70) rfl rfl ?_
  refine w_m0 (pc1 := 73) (st1 := .int (nI (n)) :: _) rfl rfl (h_gIe rfl rfl rfl rfl rfl (T.1)) rfl ?_
  refine w_t (a := 103) (b := 76) (bN_lt_t (a := k) (b := n) (by omega) (by omega) (by omega)) rfl rfl ?_
  refine w_p (pc1 := 104) rfl rfl ?_
  refine w_m0 (pc1 := 107) rfl rfl (h_gC rfl rfl rfl rfl) rfl ?_
  refine w_p (pc1 := 108) rfl rfl ?_
  refine w_m0 (pc1 := 111) (st1 := .int (nI (k)) :: _) rfl rfl (h_gIe rfl rfl rfl rfl rfl (rfl)) rfl ?_
  refine w_m0 (pc1 := 112) (st1 := .int (nI (B k)) :: _) rfl rfl (n_ile (e := k) rfl rfl rfl (by omega) ((T.2.2 k hn).2)) rfl ?_
  refine w_p (pc1 := 113) (al1 := [(1, .int (nI (B k))), (0, .ref 176)]) rfl rfl ?_
  refine w_p (pc1 := 114) rfl rfl ?_
  refine w_je (pc1 := 117) (vs := [.int (nI (B k))]) (rest := []) (st1 := [.int 0]) (m_197f (d := _) (sl := 0) hb hl) rfl rfl rfl (fun _ _ => rfl) rfl (by exact cl_s my_197 rfl rfl rfl (Nat.le_of_ble_eq_true rfl) rfl rfl) (by rfl) (Nat.le_of_ble_eq_true rfl) (Nat.le_of_ble_eq_true rfl) rfl (by rfl) ?_
  refine w_t (a := 127) (b := 120) rfl rfl rfl ?_
  refine w_p (pc1 := 128) rfl rfl ?_
  refine w_je (pc1 := 131) (vs := [.int (nI (B k))]) (rest := []) (st1 := [.int 1]) (m_199t (d := _) (sl := 0) hb hg) rfl rfl rfl (fun _ _ => rfl) rfl (by exact cl_s my_199 rfl rfl rfl (Nat.le_of_ble_eq_true rfl) rfl rfl) (by rfl) (Nat.le_of_ble_eq_true rfl) (Nat.le_of_ble_eq_true rfl) rfl (by rfl) ?_
  refine w_f (a := 141) (b := 134) rfl rfl rfl ?_
  refine w_p (pc1 := 135) rfl rfl ?_
  refine w_je (pc1 := 138) (vs := [.ref 176]) (rest := []) (st1 := []) (m_203 (d := _) (sl := 0) (C := nx1 C k) (p := k) T3 rfl hL (by omega)) rfl rfl rfl (fun _ _ => rfl) rfl (by exact cl_v my_203 rfl rfl rfl (Nat.le_of_ble_eq_true rfl) rfl (MH_obj rfl rfl) rfl (by decide) rfl rfl) (by rfl) (Nat.le_of_ble_eq_true rfl) (Nat.le_of_ble_eq_true rfl) rfl (by rfl) ?_
  refine w_p (pc1 := 227) rfl rfl ?_
  refine w_r rfl rfl rfl (fun _ _ => rfl) rfl ?_
  exact ⟨rfl, rfl, rfl⟩
set_option maxHeartbeats 8000000 in
set_option maxRecDepth 100000 in
theorem nx_S1 {k : Nat} (T : tpM C B n) (hO : flO C n z) (hz : z ≤ k) (hn : k < n) (hl : isL (B k) = false) (hg : isF (B k) = false) (h60 : B k = 60) (h61 : bt B n (k + 1) = 61) : Wd L xs (d + 3) y_195 (47, [(0, .ref 176)], [], MH (sI C 76 3 (nI k)) t, sl) (Rt none (MH (nxM B n C k) t) sl) nX := by
  have h6 := T.2.1
  have T2 : tpM (sI C 76 3 (nI k)) B n := T
  have hb := (T.2.2 k hn).1
  have hb1 := bt_lt (p := k + 1) T
  have hL := flO_L hO hz hn h6
  have T3 : tpM (nx1 C k) B n := T
  rw [nxM, if_neg (by omega)]
  have ht : two B n k = true := by simp [two, h60, h61]
  rw [hl, cond_false, hg, cond_false]
  cases hs : isSg (B k) with
  | true =>
    simp only [cond_true, cond_false, sg2, sgV, ht]
    refine w_p (pc1 := 48) rfl rfl ?_
    refine w_p (pc1 := 49) rfl rfl ?_
    refine w_m0 (pc1 := 52) (st1 := .int (nI (k)) :: _) rfl rfl (h_gIe rfl rfl rfl rfl rfl (rfl)) rfl ?_
    refine w_m0 (pc1 := 55) rfl rfl (h_pI (j := 5) rfl rfl rfl rfl rfl rfl rfl ⟨rfl, rfl⟩ rfl) rfl ?_
    refine w_p (pc1 := 56) rfl rfl ?_
    refine w_p (pc1 := 57) rfl rfl ?_
    refine w_m0 (pc1 := 60) (st1 := .int (nI (k)) :: _) rfl rfl (h_gIe rfl rfl rfl rfl rfl (rfl)) rfl ?_
    refine w_p (pc1 := 61) (st1 := .int 1 :: _) rfl rfl ?_
    refine w_iadd (pc1 := 62) (u := nI (k)) (v := nI (1)) (z := nI (k + 1)) rfl (nK_add) rfl ?_
    refine w_m0 (pc1 := 65) rfl rfl (h_pI (j := 6) rfl rfl rfl rfl rfl rfl rfl ⟨rfl, rfl⟩ rfl) rfl ?_
    refine w_p (pc1 := 66) rfl rfl ?_
    refine w_m0 (pc1 := 69) (st1 := .int (nI (k)) :: _) rfl rfl (h_gIe rfl rfl rfl rfl rfl (rfl)) rfl ?_
    refine w_p (pc1 := 70) rfl rfl ?_
    refine w_m0 (pc1 := 73) (st1 := .int (nI (n)) :: _) rfl rfl (h_gIe rfl rfl rfl rfl rfl (T.1)) rfl ?_
    refine w_t (a := 103) (b := 76) (bN_lt_t (a := k) (b := n) (by omega) (by omega) (by omega)) rfl rfl ?_
    refine w_p (pc1 := 104) rfl rfl ?_
    refine w_m0 (pc1 := 107) rfl rfl (h_gC rfl rfl rfl rfl) rfl ?_
    refine w_p (pc1 := 108) rfl rfl ?_
    refine w_m0 (pc1 := 111) (st1 := .int (nI (k)) :: _) rfl rfl (h_gIe rfl rfl rfl rfl rfl (rfl)) rfl ?_
    refine w_m0 (pc1 := 112) (st1 := .int (nI (B k)) :: _) rfl rfl (n_ile (e := k) rfl rfl rfl (by omega) ((T.2.2 k hn).2)) rfl ?_
    refine w_p (pc1 := 113) (al1 := [(1, .int (nI (B k))), (0, .ref 176)]) rfl rfl ?_
    refine w_p (pc1 := 114) rfl rfl ?_
    refine w_je (pc1 := 117) (vs := [.int (nI (B k))]) (rest := []) (st1 := [.int 0]) (m_197f (d := _) (sl := 0) hb hl) rfl rfl rfl (fun _ _ => rfl) rfl (by exact cl_s my_197 rfl rfl rfl (Nat.le_of_ble_eq_true rfl) rfl rfl) (by rfl) (Nat.le_of_ble_eq_true rfl) (Nat.le_of_ble_eq_true rfl) rfl (by rfl) ?_
    refine w_t (a := 127) (b := 120) rfl rfl rfl ?_
    refine w_p (pc1 := 128) rfl rfl ?_
    refine w_je (pc1 := 131) (vs := [.int (nI (B k))]) (rest := []) (st1 := [.int 0]) (m_199f (d := _) (sl := 0) hb hg) rfl rfl rfl (fun _ _ => rfl) rfl (by exact cl_s my_199 rfl rfl rfl (Nat.le_of_ble_eq_true rfl) rfl rfl) (by rfl) (Nat.le_of_ble_eq_true rfl) (Nat.le_of_ble_eq_true rfl) rfl (by rfl) ?_
    refine w_t (a := 141) (b := 134) rfl rfl rfl ?_
    refine w_p (pc1 := 142) rfl rfl ?_
    refine w_p (pc1 := 144) (st1 := .int 60 :: _) rfl rfl ?_
    refine w_t (a := 153) (b := 147) (bN_eq_t (a := B k) (b := 60) (by omega) (by omega) (by exact h60)) rfl rfl ?_
    refine w_p (pc1 := 154) rfl rfl ?_
    refine w_p (pc1 := 155) rfl rfl ?_
    refine w_m0 (pc1 := 158) (st1 := .int (nI (k)) :: _) rfl rfl (h_gIe rfl rfl rfl rfl rfl (rfl)) rfl ?_
    refine w_p (pc1 := 159) (st1 := .int 1 :: _) rfl rfl ?_
    refine w_iadd (pc1 := 160) (u := nI (k)) (v := nI (1)) (z := nI (k + 1)) rfl (nK_add) rfl ?_
    refine w_je (pc1 := 163) (vs := [.ref 176, .int (nI (k + 1))]) (rest := []) (st1 := [.int (nI (bt B n (k + 1)))]) (m_196 (d := _) (sl := 0) (p := k + 1) T2 (by omega)) rfl rfl rfl (fun _ _ => rfl) rfl (by exact cl_v my_196 rfl rfl rfl (Nat.le_of_ble_eq_true rfl) rfl (MH_obj rfl rfl) rfl (by decide) rfl rfl) (by rfl) (Nat.le_of_ble_eq_true rfl) (Nat.le_of_ble_eq_true rfl) rfl (by rfl) ?_
    refine w_p (pc1 := 165) (st1 := .int 61 :: _) rfl rfl ?_
    refine w_f (a := 172) (b := 168) (bN_ne_f (a := bt B n (k + 1)) (b := 61) (by omega) (by omega) (by exact h61)) rfl rfl ?_
    refine w_p (pc1 := 169) (st1 := .int 1 :: _) rfl rfl ?_
    refine w_p (pc1 := 173) rfl rfl ?_
    refine w_p (pc1 := 174) (al1 := [(2, .int 1), (1, .int (nI (B k))), (0, .ref 176)]) rfl rfl ?_
    refine w_p (pc1 := 175) rfl rfl ?_
    refine w_p (pc1 := 176) (st1 := .int 4 :: _) rfl rfl ?_
    refine w_m0 (pc1 := 179) rfl rfl (h_pI (j := 4) rfl rfl rfl rfl rfl rfl rfl ⟨rfl, rfl⟩ rfl) rfl ?_
    refine w_p (pc1 := 180) rfl rfl ?_
    refine w_p (pc1 := 181) rfl rfl ?_
    refine w_f (a := 192) (b := 184) rfl rfl rfl ?_
    refine w_p (pc1 := 186) (st1 := .int 100 :: _) rfl rfl ?_
    refine w_p (pc1 := 187) rfl rfl ?_
    refine w_iadd (pc1 := 188) (u := nI (100)) (v := nI (B k)) (z := nI (100 + (B k))) rfl (nK_add) rfl ?_
    refine w_p (pc1 := 189) rfl rfl ?_
    refine w_p (pc1 := 194) rfl rfl ?_
    refine w_m0 (pc1 := 197) rfl rfl (h_pJ (j := 7) rfl rfl rfl rfl rfl rfl rfl ⟨rfl, rfl⟩ rfl) rfl ?_
    refine w_p (pc1 := 198) rfl rfl ?_
    refine w_p (pc1 := 199) rfl rfl ?_
    refine w_m0 (pc1 := 202) (st1 := .int (nI (k)) :: _) rfl rfl (h_gIe rfl rfl rfl rfl rfl (rfl)) rfl ?_
    refine w_p (pc1 := 203) rfl rfl ?_
    refine w_f (a := 210) (b := 206) rfl rfl rfl ?_
    refine w_p (pc1 := 207) (st1 := .int 2 :: _) rfl rfl ?_
    refine w_p (pc1 := 211) rfl rfl ?_
    refine w_iadd (pc1 := 212) (u := nI (k)) (v := nI (2)) (z := nI (k + 2)) rfl (nK_add) rfl ?_
    refine w_m0 (pc1 := 215) rfl rfl (h_pI (j := 6) rfl rfl rfl rfl rfl rfl rfl ⟨rfl, rfl⟩ rfl) rfl ?_
    refine w_p (pc1 := 216) rfl rfl ?_
    refine w_je (pc1 := 219) (vs := [.int (nI (B k))]) (rest := []) (st1 := [.int 1]) (m_204t (d := _) (sl := 0) hs) rfl rfl rfl (fun _ _ => rfl) rfl (by exact cl_s my_204 rfl rfl rfl (Nat.le_of_ble_eq_true rfl) rfl rfl) (by rfl) (Nat.le_of_ble_eq_true rfl) (Nat.le_of_ble_eq_true rfl) rfl (by rfl) ?_
    refine w_t (a := 227) (b := 222) rfl rfl rfl ?_
    refine w_r rfl rfl rfl (fun _ _ => rfl) rfl ?_
    exact ⟨rfl, rfl, rfl⟩
  | false =>
    simp only [cond_true, cond_false, sg2, sgV, ht]
    refine w_p (pc1 := 48) rfl rfl ?_
    refine w_p (pc1 := 49) rfl rfl ?_
    refine w_m0 (pc1 := 52) (st1 := .int (nI (k)) :: _) rfl rfl (h_gIe rfl rfl rfl rfl rfl (rfl)) rfl ?_
    refine w_m0 (pc1 := 55) rfl rfl (h_pI (j := 5) rfl rfl rfl rfl rfl rfl rfl ⟨rfl, rfl⟩ rfl) rfl ?_
    refine w_p (pc1 := 56) rfl rfl ?_
    refine w_p (pc1 := 57) rfl rfl ?_
    refine w_m0 (pc1 := 60) (st1 := .int (nI (k)) :: _) rfl rfl (h_gIe rfl rfl rfl rfl rfl (rfl)) rfl ?_
    refine w_p (pc1 := 61) (st1 := .int 1 :: _) rfl rfl ?_
    refine w_iadd (pc1 := 62) (u := nI (k)) (v := nI (1)) (z := nI (k + 1)) rfl (nK_add) rfl ?_
    refine w_m0 (pc1 := 65) rfl rfl (h_pI (j := 6) rfl rfl rfl rfl rfl rfl rfl ⟨rfl, rfl⟩ rfl) rfl ?_
    refine w_p (pc1 := 66) rfl rfl ?_
    refine w_m0 (pc1 := 69) (st1 := .int (nI (k)) :: _) rfl rfl (h_gIe rfl rfl rfl rfl rfl (rfl)) rfl ?_
    refine w_p (pc1 := 70) rfl rfl ?_
    refine w_m0 (pc1 := 73) (st1 := .int (nI (n)) :: _) rfl rfl (h_gIe rfl rfl rfl rfl rfl (T.1)) rfl ?_
    refine w_t (a := 103) (b := 76) (bN_lt_t (a := k) (b := n) (by omega) (by omega) (by omega)) rfl rfl ?_
    refine w_p (pc1 := 104) rfl rfl ?_
    refine w_m0 (pc1 := 107) rfl rfl (h_gC rfl rfl rfl rfl) rfl ?_
    refine w_p (pc1 := 108) rfl rfl ?_
    refine w_m0 (pc1 := 111) (st1 := .int (nI (k)) :: _) rfl rfl (h_gIe rfl rfl rfl rfl rfl (rfl)) rfl ?_
    refine w_m0 (pc1 := 112) (st1 := .int (nI (B k)) :: _) rfl rfl (n_ile (e := k) rfl rfl rfl (by omega) ((T.2.2 k hn).2)) rfl ?_
    refine w_p (pc1 := 113) (al1 := [(1, .int (nI (B k))), (0, .ref 176)]) rfl rfl ?_
    refine w_p (pc1 := 114) rfl rfl ?_
    refine w_je (pc1 := 117) (vs := [.int (nI (B k))]) (rest := []) (st1 := [.int 0]) (m_197f (d := _) (sl := 0) hb hl) rfl rfl rfl (fun _ _ => rfl) rfl (by exact cl_s my_197 rfl rfl rfl (Nat.le_of_ble_eq_true rfl) rfl rfl) (by rfl) (Nat.le_of_ble_eq_true rfl) (Nat.le_of_ble_eq_true rfl) rfl (by rfl) ?_
    refine w_t (a := 127) (b := 120) rfl rfl rfl ?_
    refine w_p (pc1 := 128) rfl rfl ?_
    refine w_je (pc1 := 131) (vs := [.int (nI (B k))]) (rest := []) (st1 := [.int 0]) (m_199f (d := _) (sl := 0) hb hg) rfl rfl rfl (fun _ _ => rfl) rfl (by exact cl_s my_199 rfl rfl rfl (Nat.le_of_ble_eq_true rfl) rfl rfl) (by rfl) (Nat.le_of_ble_eq_true rfl) (Nat.le_of_ble_eq_true rfl) rfl (by rfl) ?_
    refine w_t (a := 141) (b := 134) rfl rfl rfl ?_
    refine w_p (pc1 := 142) rfl rfl ?_
    refine w_p (pc1 := 144) (st1 := .int 60 :: _) rfl rfl ?_
    refine w_t (a := 153) (b := 147) (bN_eq_t (a := B k) (b := 60) (by omega) (by omega) (by exact h60)) rfl rfl ?_
    refine w_p (pc1 := 154) rfl rfl ?_
    refine w_p (pc1 := 155) rfl rfl ?_
    refine w_m0 (pc1 := 158) (st1 := .int (nI (k)) :: _) rfl rfl (h_gIe rfl rfl rfl rfl rfl (rfl)) rfl ?_
    refine w_p (pc1 := 159) (st1 := .int 1 :: _) rfl rfl ?_
    refine w_iadd (pc1 := 160) (u := nI (k)) (v := nI (1)) (z := nI (k + 1)) rfl (nK_add) rfl ?_
    refine w_je (pc1 := 163) (vs := [.ref 176, .int (nI (k + 1))]) (rest := []) (st1 := [.int (nI (bt B n (k + 1)))]) (m_196 (d := _) (sl := 0) (p := k + 1) T2 (by omega)) rfl rfl rfl (fun _ _ => rfl) rfl (by exact cl_v my_196 rfl rfl rfl (Nat.le_of_ble_eq_true rfl) rfl (MH_obj rfl rfl) rfl (by decide) rfl rfl) (by rfl) (Nat.le_of_ble_eq_true rfl) (Nat.le_of_ble_eq_true rfl) rfl (by rfl) ?_
    refine w_p (pc1 := 165) (st1 := .int 61 :: _) rfl rfl ?_
    refine w_f (a := 172) (b := 168) (bN_ne_f (a := bt B n (k + 1)) (b := 61) (by omega) (by omega) (by exact h61)) rfl rfl ?_
    refine w_p (pc1 := 169) (st1 := .int 1 :: _) rfl rfl ?_
    refine w_p (pc1 := 173) rfl rfl ?_
    refine w_p (pc1 := 174) (al1 := [(2, .int 1), (1, .int (nI (B k))), (0, .ref 176)]) rfl rfl ?_
    refine w_p (pc1 := 175) rfl rfl ?_
    refine w_p (pc1 := 176) (st1 := .int 4 :: _) rfl rfl ?_
    refine w_m0 (pc1 := 179) rfl rfl (h_pI (j := 4) rfl rfl rfl rfl rfl rfl rfl ⟨rfl, rfl⟩ rfl) rfl ?_
    refine w_p (pc1 := 180) rfl rfl ?_
    refine w_p (pc1 := 181) rfl rfl ?_
    refine w_f (a := 192) (b := 184) rfl rfl rfl ?_
    refine w_p (pc1 := 186) (st1 := .int 100 :: _) rfl rfl ?_
    refine w_p (pc1 := 187) rfl rfl ?_
    refine w_iadd (pc1 := 188) (u := nI (100)) (v := nI (B k)) (z := nI (100 + (B k))) rfl (nK_add) rfl ?_
    refine w_p (pc1 := 189) rfl rfl ?_
    refine w_p (pc1 := 194) rfl rfl ?_
    refine w_m0 (pc1 := 197) rfl rfl (h_pJ (j := 7) rfl rfl rfl rfl rfl rfl rfl ⟨rfl, rfl⟩ rfl) rfl ?_
    refine w_p (pc1 := 198) rfl rfl ?_
    refine w_p (pc1 := 199) rfl rfl ?_
    refine w_m0 (pc1 := 202) (st1 := .int (nI (k)) :: _) rfl rfl (h_gIe rfl rfl rfl rfl rfl (rfl)) rfl ?_
    refine w_p (pc1 := 203) rfl rfl ?_
    refine w_f (a := 210) (b := 206) rfl rfl rfl ?_
    refine w_p (pc1 := 207) (st1 := .int 2 :: _) rfl rfl ?_
    refine w_p (pc1 := 211) rfl rfl ?_
    refine w_iadd (pc1 := 212) (u := nI (k)) (v := nI (2)) (z := nI (k + 2)) rfl (nK_add) rfl ?_
    refine w_m0 (pc1 := 215) rfl rfl (h_pI (j := 6) rfl rfl rfl rfl rfl rfl rfl ⟨rfl, rfl⟩ rfl) rfl ?_
    refine w_p (pc1 := 216) rfl rfl ?_
    refine w_je (pc1 := 219) (vs := [.int (nI (B k))]) (rest := []) (st1 := [.int 0]) (m_204f (d := _) (sl := 0) hb hs) rfl rfl rfl (fun _ _ => rfl) rfl (by exact cl_s my_204 rfl rfl rfl (Nat.le_of_ble_eq_true rfl) rfl rfl) (by rfl) (Nat.le_of_ble_eq_true rfl) (Nat.le_of_ble_eq_true rfl) rfl (by rfl) ?_
    refine w_f (a := 227) (b := 222) rfl rfl rfl ?_
    refine w_p (pc1 := 223) rfl rfl ?_
    refine w_p (pc1 := 224) (st1 := .int 1 :: _) rfl rfl ?_
    refine w_je (pc1 := 227) (vs := [.ref 176, .int 1]) (rest := []) (st1 := []) (m_200 (d := _) (sl := 0) hL) rfl rfl rfl (fun _ _ => rfl) rfl (by exact cl_v my_200 rfl rfl rfl (Nat.le_of_ble_eq_true rfl) rfl (MH_obj rfl rfl) rfl (by decide) rfl rfl) (by rfl) (Nat.le_of_ble_eq_true rfl) (Nat.le_of_ble_eq_true rfl) rfl (by rfl) ?_
    refine w_r rfl rfl rfl (fun _ _ => rfl) rfl ?_
    exact ⟨rfl, rfl, rfl⟩
set_option maxHeartbeats 8000000 in
set_option maxRecDepth 100000 in
theorem nx_S2 {k : Nat} (T : tpM C B n) (hO : flO C n z) (hz : z ≤ k) (hn : k < n) (hl : isL (B k) = false) (hg : isF (B k) = false) (h60 : B k = 60) (h61 : bt B n (k + 1) ≠ 61) : Wd L xs (d + 3) y_195 (47, [(0, .ref 176)], [], MH (sI C 76 3 (nI k)) t, sl) (Rt none (MH (nxM B n C k) t) sl) nX := by
  have h6 := T.2.1
  have T2 : tpM (sI C 76 3 (nI k)) B n := T
  have hb := (T.2.2 k hn).1
  have hb1 := bt_lt (p := k + 1) T
  have hL := flO_L hO hz hn h6
  have T3 : tpM (nx1 C k) B n := T
  rw [nxM, if_neg (by omega)]
  have ht : two B n k = false := by simp [two, h61]
  rw [hl, cond_false, hg, cond_false]
  cases hs : isSg (B k) with
  | true =>
    simp only [cond_true, cond_false, sg2, sgV, ht]
    refine w_p (pc1 := 48) rfl rfl ?_
    refine w_p (pc1 := 49) rfl rfl ?_
    refine w_m0 (pc1 := 52) (st1 := .int (nI (k)) :: _) rfl rfl (h_gIe rfl rfl rfl rfl rfl (rfl)) rfl ?_
    refine w_m0 (pc1 := 55) rfl rfl (h_pI (j := 5) rfl rfl rfl rfl rfl rfl rfl ⟨rfl, rfl⟩ rfl) rfl ?_
    refine w_p (pc1 := 56) rfl rfl ?_
    refine w_p (pc1 := 57) rfl rfl ?_
    refine w_m0 (pc1 := 60) (st1 := .int (nI (k)) :: _) rfl rfl (h_gIe rfl rfl rfl rfl rfl (rfl)) rfl ?_
    refine w_p (pc1 := 61) (st1 := .int 1 :: _) rfl rfl ?_
    refine w_iadd (pc1 := 62) (u := nI (k)) (v := nI (1)) (z := nI (k + 1)) rfl (nK_add) rfl ?_
    refine w_m0 (pc1 := 65) rfl rfl (h_pI (j := 6) rfl rfl rfl rfl rfl rfl rfl ⟨rfl, rfl⟩ rfl) rfl ?_
    refine w_p (pc1 := 66) rfl rfl ?_
    refine w_m0 (pc1 := 69) (st1 := .int (nI (k)) :: _) rfl rfl (h_gIe rfl rfl rfl rfl rfl (rfl)) rfl ?_
    refine w_p (pc1 := 70) rfl rfl ?_
    refine w_m0 (pc1 := 73) (st1 := .int (nI (n)) :: _) rfl rfl (h_gIe rfl rfl rfl rfl rfl (T.1)) rfl ?_
    refine w_t (a := 103) (b := 76) (bN_lt_t (a := k) (b := n) (by omega) (by omega) (by omega)) rfl rfl ?_
    refine w_p (pc1 := 104) rfl rfl ?_
    refine w_m0 (pc1 := 107) rfl rfl (h_gC rfl rfl rfl rfl) rfl ?_
    refine w_p (pc1 := 108) rfl rfl ?_
    refine w_m0 (pc1 := 111) (st1 := .int (nI (k)) :: _) rfl rfl (h_gIe rfl rfl rfl rfl rfl (rfl)) rfl ?_
    refine w_m0 (pc1 := 112) (st1 := .int (nI (B k)) :: _) rfl rfl (n_ile (e := k) rfl rfl rfl (by omega) ((T.2.2 k hn).2)) rfl ?_
    refine w_p (pc1 := 113) (al1 := [(1, .int (nI (B k))), (0, .ref 176)]) rfl rfl ?_
    refine w_p (pc1 := 114) rfl rfl ?_
    refine w_je (pc1 := 117) (vs := [.int (nI (B k))]) (rest := []) (st1 := [.int 0]) (m_197f (d := _) (sl := 0) hb hl) rfl rfl rfl (fun _ _ => rfl) rfl (by exact cl_s my_197 rfl rfl rfl (Nat.le_of_ble_eq_true rfl) rfl rfl) (by rfl) (Nat.le_of_ble_eq_true rfl) (Nat.le_of_ble_eq_true rfl) rfl (by rfl) ?_
    refine w_t (a := 127) (b := 120) rfl rfl rfl ?_
    refine w_p (pc1 := 128) rfl rfl ?_
    refine w_je (pc1 := 131) (vs := [.int (nI (B k))]) (rest := []) (st1 := [.int 0]) (m_199f (d := _) (sl := 0) hb hg) rfl rfl rfl (fun _ _ => rfl) rfl (by exact cl_s my_199 rfl rfl rfl (Nat.le_of_ble_eq_true rfl) rfl rfl) (by rfl) (Nat.le_of_ble_eq_true rfl) (Nat.le_of_ble_eq_true rfl) rfl (by rfl) ?_
    refine w_t (a := 141) (b := 134) rfl rfl rfl ?_
    refine w_p (pc1 := 142) rfl rfl ?_
    refine w_p (pc1 := 144) (st1 := .int 60 :: _) rfl rfl ?_
    refine w_t (a := 153) (b := 147) (bN_eq_t (a := B k) (b := 60) (by omega) (by omega) (by exact h60)) rfl rfl ?_
    refine w_p (pc1 := 154) rfl rfl ?_
    refine w_p (pc1 := 155) rfl rfl ?_
    refine w_m0 (pc1 := 158) (st1 := .int (nI (k)) :: _) rfl rfl (h_gIe rfl rfl rfl rfl rfl (rfl)) rfl ?_
    refine w_p (pc1 := 159) (st1 := .int 1 :: _) rfl rfl ?_
    refine w_iadd (pc1 := 160) (u := nI (k)) (v := nI (1)) (z := nI (k + 1)) rfl (nK_add) rfl ?_
    refine w_je (pc1 := 163) (vs := [.ref 176, .int (nI (k + 1))]) (rest := []) (st1 := [.int (nI (bt B n (k + 1)))]) (m_196 (d := _) (sl := 0) (p := k + 1) T2 (by omega)) rfl rfl rfl (fun _ _ => rfl) rfl (by exact cl_v my_196 rfl rfl rfl (Nat.le_of_ble_eq_true rfl) rfl (MH_obj rfl rfl) rfl (by decide) rfl rfl) (by rfl) (Nat.le_of_ble_eq_true rfl) (Nat.le_of_ble_eq_true rfl) rfl (by rfl) ?_
    refine w_p (pc1 := 165) (st1 := .int 61 :: _) rfl rfl ?_
    refine w_t (a := 172) (b := 168) (bN_ne_t (a := bt B n (k + 1)) (b := 61) (by omega) (by omega) (by exact h61)) rfl rfl ?_
    refine w_p (pc1 := 173) (st1 := .int 0 :: _) rfl rfl ?_
    refine w_p (pc1 := 174) (al1 := [(2, .int 0), (1, .int (nI (B k))), (0, .ref 176)]) rfl rfl ?_
    refine w_p (pc1 := 175) rfl rfl ?_
    refine w_p (pc1 := 176) (st1 := .int 4 :: _) rfl rfl ?_
    refine w_m0 (pc1 := 179) rfl rfl (h_pI (j := 4) rfl rfl rfl rfl rfl rfl rfl ⟨rfl, rfl⟩ rfl) rfl ?_
    refine w_p (pc1 := 180) rfl rfl ?_
    refine w_p (pc1 := 181) rfl rfl ?_
    refine w_t (a := 192) (b := 184) rfl rfl rfl ?_
    refine w_p (pc1 := 193) rfl rfl ?_
    refine w_p (pc1 := 194) rfl rfl ?_
    refine w_m0 (pc1 := 197) rfl rfl (h_pJ (j := 7) rfl rfl rfl rfl rfl rfl rfl ⟨rfl, rfl⟩ rfl) rfl ?_
    refine w_p (pc1 := 198) rfl rfl ?_
    refine w_p (pc1 := 199) rfl rfl ?_
    refine w_m0 (pc1 := 202) (st1 := .int (nI (k)) :: _) rfl rfl (h_gIe rfl rfl rfl rfl rfl (rfl)) rfl ?_
    refine w_p (pc1 := 203) rfl rfl ?_
    refine w_t (a := 210) (b := 206) rfl rfl rfl ?_
    refine w_p (pc1 := 211) (st1 := .int 1 :: _) rfl rfl ?_
    refine w_iadd (pc1 := 212) (u := nI (k)) (v := nI (1)) (z := nI (k + 1)) rfl (nK_add) rfl ?_
    refine w_m0 (pc1 := 215) rfl rfl (h_pI (j := 6) rfl rfl rfl rfl rfl rfl rfl ⟨rfl, rfl⟩ rfl) rfl ?_
    refine w_p (pc1 := 216) rfl rfl ?_
    refine w_je (pc1 := 219) (vs := [.int (nI (B k))]) (rest := []) (st1 := [.int 1]) (m_204t (d := _) (sl := 0) hs) rfl rfl rfl (fun _ _ => rfl) rfl (by exact cl_s my_204 rfl rfl rfl (Nat.le_of_ble_eq_true rfl) rfl rfl) (by rfl) (Nat.le_of_ble_eq_true rfl) (Nat.le_of_ble_eq_true rfl) rfl (by rfl) ?_
    refine w_t (a := 227) (b := 222) rfl rfl rfl ?_
    refine w_r rfl rfl rfl (fun _ _ => rfl) rfl ?_
    exact ⟨rfl, rfl, rfl⟩
  | false =>
    simp only [cond_true, cond_false, sg2, sgV, ht]
    refine w_p (pc1 := 48) rfl rfl ?_
    refine w_p (pc1 := 49) rfl rfl ?_
    refine w_m0 (pc1 := 52) (st1 := .int (nI (k)) :: _) rfl rfl (h_gIe rfl rfl rfl rfl rfl (rfl)) rfl ?_
    refine w_m0 (pc1 := 55) rfl rfl (h_pI (j := 5) rfl rfl rfl rfl rfl rfl rfl ⟨rfl, rfl⟩ rfl) rfl ?_
    refine w_p (pc1 := 56) rfl rfl ?_
    refine w_p (pc1 := 57) rfl rfl ?_
    refine w_m0 (pc1 := 60) (st1 := .int (nI (k)) :: _) rfl rfl (h_gIe rfl rfl rfl rfl rfl (rfl)) rfl ?_
    refine w_p (pc1 := 61) (st1 := .int 1 :: _) rfl rfl ?_
    refine w_iadd (pc1 := 62) (u := nI (k)) (v := nI (1)) (z := nI (k + 1)) rfl (nK_add) rfl ?_
    refine w_m0 (pc1 := 65) rfl rfl (h_pI (j := 6) rfl rfl rfl rfl rfl rfl rfl ⟨rfl, rfl⟩ rfl) rfl ?_
    refine w_p (pc1 := 66) rfl rfl ?_
    refine w_m0 (pc1 := 69) (st1 := .int (nI (k)) :: _) rfl rfl (h_gIe rfl rfl rfl rfl rfl (rfl)) rfl ?_
    refine w_p (pc1 := 70) rfl rfl ?_
    refine w_m0 (pc1 := 73) (st1 := .int (nI (n)) :: _) rfl rfl (h_gIe rfl rfl rfl rfl rfl (T.1)) rfl ?_
    refine w_t (a := 103) (b := 76) (bN_lt_t (a := k) (b := n) (by omega) (by omega) (by omega)) rfl rfl ?_
    refine w_p (pc1 := 104) rfl rfl ?_
    refine w_m0 (pc1 := 107) rfl rfl (h_gC rfl rfl rfl rfl) rfl ?_
    refine w_p (pc1 := 108) rfl rfl ?_
    refine w_m0 (pc1 := 111) (st1 := .int (nI (k)) :: _) rfl rfl (h_gIe rfl rfl rfl rfl rfl (rfl)) rfl ?_
    refine w_m0 (pc1 := 112) (st1 := .int (nI (B k)) :: _) rfl rfl (n_ile (e := k) rfl rfl rfl (by omega) ((T.2.2 k hn).2)) rfl ?_
    refine w_p (pc1 := 113) (al1 := [(1, .int (nI (B k))), (0, .ref 176)]) rfl rfl ?_
    refine w_p (pc1 := 114) rfl rfl ?_
    refine w_je (pc1 := 117) (vs := [.int (nI (B k))]) (rest := []) (st1 := [.int 0]) (m_197f (d := _) (sl := 0) hb hl) rfl rfl rfl (fun _ _ => rfl) rfl (by exact cl_s my_197 rfl rfl rfl (Nat.le_of_ble_eq_true rfl) rfl rfl) (by rfl) (Nat.le_of_ble_eq_true rfl) (Nat.le_of_ble_eq_true rfl) rfl (by rfl) ?_
    refine w_t (a := 127) (b := 120) rfl rfl rfl ?_
    refine w_p (pc1 := 128) rfl rfl ?_
    refine w_je (pc1 := 131) (vs := [.int (nI (B k))]) (rest := []) (st1 := [.int 0]) (m_199f (d := _) (sl := 0) hb hg) rfl rfl rfl (fun _ _ => rfl) rfl (by exact cl_s my_199 rfl rfl rfl (Nat.le_of_ble_eq_true rfl) rfl rfl) (by rfl) (Nat.le_of_ble_eq_true rfl) (Nat.le_of_ble_eq_true rfl) rfl (by rfl) ?_
    refine w_t (a := 141) (b := 134) rfl rfl rfl ?_
    refine w_p (pc1 := 142) rfl rfl ?_
    refine w_p (pc1 := 144) (st1 := .int 60 :: _) rfl rfl ?_
    refine w_t (a := 153) (b := 147) (bN_eq_t (a := B k) (b := 60) (by omega) (by omega) (by exact h60)) rfl rfl ?_
    refine w_p (pc1 := 154) rfl rfl ?_
    refine w_p (pc1 := 155) rfl rfl ?_
    refine w_m0 (pc1 := 158) (st1 := .int (nI (k)) :: _) rfl rfl (h_gIe rfl rfl rfl rfl rfl (rfl)) rfl ?_
    refine w_p (pc1 := 159) (st1 := .int 1 :: _) rfl rfl ?_
    refine w_iadd (pc1 := 160) (u := nI (k)) (v := nI (1)) (z := nI (k + 1)) rfl (nK_add) rfl ?_
    refine w_je (pc1 := 163) (vs := [.ref 176, .int (nI (k + 1))]) (rest := []) (st1 := [.int (nI (bt B n (k + 1)))]) (m_196 (d := _) (sl := 0) (p := k + 1) T2 (by omega)) rfl rfl rfl (fun _ _ => rfl) rfl (by exact cl_v my_196 rfl rfl rfl (Nat.le_of_ble_eq_true rfl) rfl (MH_obj rfl rfl) rfl (by decide) rfl rfl) (by rfl) (Nat.le_of_ble_eq_true rfl) (Nat.le_of_ble_eq_true rfl) rfl (by rfl) ?_
    refine w_p (pc1 := 165) (st1 := .int 61 :: _) rfl rfl ?_
    refine w_t (a := 172) (b := 168) (bN_ne_t (a := bt B n (k + 1)) (b := 61) (by omega) (by omega) (by exact h61)) rfl rfl ?_
    refine w_p (pc1 := 173) (st1 := .int 0 :: _) rfl rfl ?_
    refine w_p (pc1 := 174) (al1 := [(2, .int 0), (1, .int (nI (B k))), (0, .ref 176)]) rfl rfl ?_
    refine w_p (pc1 := 175) rfl rfl ?_
    refine w_p (pc1 := 176) (st1 := .int 4 :: _) rfl rfl ?_
    refine w_m0 (pc1 := 179) rfl rfl (h_pI (j := 4) rfl rfl rfl rfl rfl rfl rfl ⟨rfl, rfl⟩ rfl) rfl ?_
    refine w_p (pc1 := 180) rfl rfl ?_
    refine w_p (pc1 := 181) rfl rfl ?_
    refine w_t (a := 192) (b := 184) rfl rfl rfl ?_
    refine w_p (pc1 := 193) rfl rfl ?_
    refine w_p (pc1 := 194) rfl rfl ?_
    refine w_m0 (pc1 := 197) rfl rfl (h_pJ (j := 7) rfl rfl rfl rfl rfl rfl rfl ⟨rfl, rfl⟩ rfl) rfl ?_
    refine w_p (pc1 := 198) rfl rfl ?_
    refine w_p (pc1 := 199) rfl rfl ?_
    refine w_m0 (pc1 := 202) (st1 := .int (nI (k)) :: _) rfl rfl (h_gIe rfl rfl rfl rfl rfl (rfl)) rfl ?_
    refine w_p (pc1 := 203) rfl rfl ?_
    refine w_t (a := 210) (b := 206) rfl rfl rfl ?_
    refine w_p (pc1 := 211) (st1 := .int 1 :: _) rfl rfl ?_
    refine w_iadd (pc1 := 212) (u := nI (k)) (v := nI (1)) (z := nI (k + 1)) rfl (nK_add) rfl ?_
    refine w_m0 (pc1 := 215) rfl rfl (h_pI (j := 6) rfl rfl rfl rfl rfl rfl rfl ⟨rfl, rfl⟩ rfl) rfl ?_
    refine w_p (pc1 := 216) rfl rfl ?_
    refine w_je (pc1 := 219) (vs := [.int (nI (B k))]) (rest := []) (st1 := [.int 0]) (m_204f (d := _) (sl := 0) hb hs) rfl rfl rfl (fun _ _ => rfl) rfl (by exact cl_s my_204 rfl rfl rfl (Nat.le_of_ble_eq_true rfl) rfl rfl) (by rfl) (Nat.le_of_ble_eq_true rfl) (Nat.le_of_ble_eq_true rfl) rfl (by rfl) ?_
    refine w_f (a := 227) (b := 222) rfl rfl rfl ?_
    refine w_p (pc1 := 223) rfl rfl ?_
    refine w_p (pc1 := 224) (st1 := .int 1 :: _) rfl rfl ?_
    refine w_je (pc1 := 227) (vs := [.ref 176, .int 1]) (rest := []) (st1 := []) (m_200 (d := _) (sl := 0) hL) rfl rfl rfl (fun _ _ => rfl) rfl (by exact cl_v my_200 rfl rfl rfl (Nat.le_of_ble_eq_true rfl) rfl (MH_obj rfl rfl) rfl (by decide) rfl rfl) (by rfl) (Nat.le_of_ble_eq_true rfl) (Nat.le_of_ble_eq_true rfl) rfl (by rfl) ?_
    refine w_r rfl rfl rfl (fun _ _ => rfl) rfl ?_
    exact ⟨rfl, rfl, rfl⟩
set_option maxHeartbeats 8000000 in
set_option maxRecDepth 100000 in
theorem nx_S3 {k : Nat} (T : tpM C B n) (hO : flO C n z) (hz : z ≤ k) (hn : k < n) (hl : isL (B k) = false) (hg : isF (B k) = false) (h60 : B k ≠ 60) (h62 : B k = 62) (h61 : bt B n (k + 1) = 61) : Wd L xs (d + 3) y_195 (47, [(0, .ref 176)], [], MH (sI C 76 3 (nI k)) t, sl) (Rt none (MH (nxM B n C k) t) sl) nX := by
  have h6 := T.2.1
  have T2 : tpM (sI C 76 3 (nI k)) B n := T
  have hb := (T.2.2 k hn).1
  have hb1 := bt_lt (p := k + 1) T
  have hL := flO_L hO hz hn h6
  have T3 : tpM (nx1 C k) B n := T
  rw [nxM, if_neg (by omega)]
  have ht : two B n k = true := by simp [two, h62, h61]
  rw [hl, cond_false, hg, cond_false]
  cases hs : isSg (B k) with
  | true =>
    simp only [cond_true, cond_false, sg2, sgV, ht]
    refine w_p (pc1 := 48) rfl rfl ?_
    refine w_p (pc1 := 49) rfl rfl ?_
    refine w_m0 (pc1 := 52) (st1 := .int (nI (k)) :: _) rfl rfl (h_gIe rfl rfl rfl rfl rfl (rfl)) rfl ?_
    refine w_m0 (pc1 := 55) rfl rfl (h_pI (j := 5) rfl rfl rfl rfl rfl rfl rfl ⟨rfl, rfl⟩ rfl) rfl ?_
    refine w_p (pc1 := 56) rfl rfl ?_
    refine w_p (pc1 := 57) rfl rfl ?_
    refine w_m0 (pc1 := 60) (st1 := .int (nI (k)) :: _) rfl rfl (h_gIe rfl rfl rfl rfl rfl (rfl)) rfl ?_
    refine w_p (pc1 := 61) (st1 := .int 1 :: _) rfl rfl ?_
    refine w_iadd (pc1 := 62) (u := nI (k)) (v := nI (1)) (z := nI (k + 1)) rfl (nK_add) rfl ?_
    refine w_m0 (pc1 := 65) rfl rfl (h_pI (j := 6) rfl rfl rfl rfl rfl rfl rfl ⟨rfl, rfl⟩ rfl) rfl ?_
    refine w_p (pc1 := 66) rfl rfl ?_
    refine w_m0 (pc1 := 69) (st1 := .int (nI (k)) :: _) rfl rfl (h_gIe rfl rfl rfl rfl rfl (rfl)) rfl ?_
    refine w_p (pc1 := 70) rfl rfl ?_
    refine w_m0 (pc1 := 73) (st1 := .int (nI (n)) :: _) rfl rfl (h_gIe rfl rfl rfl rfl rfl (T.1)) rfl ?_
    refine w_t (a := 103) (b := 76) (bN_lt_t (a := k) (b := n) (by omega) (by omega) (by omega)) rfl rfl ?_
    refine w_p (pc1 := 104) rfl rfl ?_
    refine w_m0 (pc1 := 107) rfl rfl (h_gC rfl rfl rfl rfl) rfl ?_
    refine w_p (pc1 := 108) rfl rfl ?_
    refine w_m0 (pc1 := 111) (st1 := .int (nI (k)) :: _) rfl rfl (h_gIe rfl rfl rfl rfl rfl (rfl)) rfl ?_
    refine w_m0 (pc1 := 112) (st1 := .int (nI (B k)) :: _) rfl rfl (n_ile (e := k) rfl rfl rfl (by omega) ((T.2.2 k hn).2)) rfl ?_
    refine w_p (pc1 := 113) (al1 := [(1, .int (nI (B k))), (0, .ref 176)]) rfl rfl ?_
    refine w_p (pc1 := 114) rfl rfl ?_
    refine w_je (pc1 := 117) (vs := [.int (nI (B k))]) (rest := []) (st1 := [.int 0]) (m_197f (d := _) (sl := 0) hb hl) rfl rfl rfl (fun _ _ => rfl) rfl (by exact cl_s my_197 rfl rfl rfl (Nat.le_of_ble_eq_true rfl) rfl rfl) (by rfl) (Nat.le_of_ble_eq_true rfl) (Nat.le_of_ble_eq_true rfl) rfl (by rfl) ?_
    refine w_t (a := 127) (b := 120) rfl rfl rfl ?_
    refine w_p (pc1 := 128) rfl rfl ?_
    refine w_je (pc1 := 131) (vs := [.int (nI (B k))]) (rest := []) (st1 := [.int 0]) (m_199f (d := _) (sl := 0) hb hg) rfl rfl rfl (fun _ _ => rfl) rfl (by exact cl_s my_199 rfl rfl rfl (Nat.le_of_ble_eq_true rfl) rfl rfl) (by rfl) (Nat.le_of_ble_eq_true rfl) (Nat.le_of_ble_eq_true rfl) rfl (by rfl) ?_
    refine w_t (a := 141) (b := 134) rfl rfl rfl ?_
    refine w_p (pc1 := 142) rfl rfl ?_
    refine w_p (pc1 := 144) (st1 := .int 60 :: _) rfl rfl ?_
    refine w_f (a := 153) (b := 147) (bN_eq_f (a := B k) (b := 60) (by omega) (by omega) (by exact h60)) rfl rfl ?_
    refine w_p (pc1 := 148) rfl rfl ?_
    refine w_p (pc1 := 150) (st1 := .int 62 :: _) rfl rfl ?_
    refine w_f (a := 172) (b := 153) (bN_ne_f (a := B k) (b := 62) (by omega) (by omega) (by exact h62)) rfl rfl ?_
    refine w_p (pc1 := 154) rfl rfl ?_
    refine w_p (pc1 := 155) rfl rfl ?_
    refine w_m0 (pc1 := 158) (st1 := .int (nI (k)) :: _) rfl rfl (h_gIe rfl rfl rfl rfl rfl (rfl)) rfl ?_
    refine w_p (pc1 := 159) (st1 := .int 1 :: _) rfl rfl ?_
    refine w_iadd (pc1 := 160) (u := nI (k)) (v := nI (1)) (z := nI (k + 1)) rfl (nK_add) rfl ?_
    refine w_je (pc1 := 163) (vs := [.ref 176, .int (nI (k + 1))]) (rest := []) (st1 := [.int (nI (bt B n (k + 1)))]) (m_196 (d := _) (sl := 0) (p := k + 1) T2 (by omega)) rfl rfl rfl (fun _ _ => rfl) rfl (by exact cl_v my_196 rfl rfl rfl (Nat.le_of_ble_eq_true rfl) rfl (MH_obj rfl rfl) rfl (by decide) rfl rfl) (by rfl) (Nat.le_of_ble_eq_true rfl) (Nat.le_of_ble_eq_true rfl) rfl (by rfl) ?_
    refine w_p (pc1 := 165) (st1 := .int 61 :: _) rfl rfl ?_
    refine w_f (a := 172) (b := 168) (bN_ne_f (a := bt B n (k + 1)) (b := 61) (by omega) (by omega) (by exact h61)) rfl rfl ?_
    refine w_p (pc1 := 169) (st1 := .int 1 :: _) rfl rfl ?_
    refine w_p (pc1 := 173) rfl rfl ?_
    refine w_p (pc1 := 174) (al1 := [(2, .int 1), (1, .int (nI (B k))), (0, .ref 176)]) rfl rfl ?_
    refine w_p (pc1 := 175) rfl rfl ?_
    refine w_p (pc1 := 176) (st1 := .int 4 :: _) rfl rfl ?_
    refine w_m0 (pc1 := 179) rfl rfl (h_pI (j := 4) rfl rfl rfl rfl rfl rfl rfl ⟨rfl, rfl⟩ rfl) rfl ?_
    refine w_p (pc1 := 180) rfl rfl ?_
    refine w_p (pc1 := 181) rfl rfl ?_
    refine w_f (a := 192) (b := 184) rfl rfl rfl ?_
    refine w_p (pc1 := 186) (st1 := .int 100 :: _) rfl rfl ?_
    refine w_p (pc1 := 187) rfl rfl ?_
    refine w_iadd (pc1 := 188) (u := nI (100)) (v := nI (B k)) (z := nI (100 + (B k))) rfl (nK_add) rfl ?_
    refine w_p (pc1 := 189) rfl rfl ?_
    refine w_p (pc1 := 194) rfl rfl ?_
    refine w_m0 (pc1 := 197) rfl rfl (h_pJ (j := 7) rfl rfl rfl rfl rfl rfl rfl ⟨rfl, rfl⟩ rfl) rfl ?_
    refine w_p (pc1 := 198) rfl rfl ?_
    refine w_p (pc1 := 199) rfl rfl ?_
    refine w_m0 (pc1 := 202) (st1 := .int (nI (k)) :: _) rfl rfl (h_gIe rfl rfl rfl rfl rfl (rfl)) rfl ?_
    refine w_p (pc1 := 203) rfl rfl ?_
    refine w_f (a := 210) (b := 206) rfl rfl rfl ?_
    refine w_p (pc1 := 207) (st1 := .int 2 :: _) rfl rfl ?_
    refine w_p (pc1 := 211) rfl rfl ?_
    refine w_iadd (pc1 := 212) (u := nI (k)) (v := nI (2)) (z := nI (k + 2)) rfl (nK_add) rfl ?_
    refine w_m0 (pc1 := 215) rfl rfl (h_pI (j := 6) rfl rfl rfl rfl rfl rfl rfl ⟨rfl, rfl⟩ rfl) rfl ?_
    refine w_p (pc1 := 216) rfl rfl ?_
    refine w_je (pc1 := 219) (vs := [.int (nI (B k))]) (rest := []) (st1 := [.int 1]) (m_204t (d := _) (sl := 0) hs) rfl rfl rfl (fun _ _ => rfl) rfl (by exact cl_s my_204 rfl rfl rfl (Nat.le_of_ble_eq_true rfl) rfl rfl) (by rfl) (Nat.le_of_ble_eq_true rfl) (Nat.le_of_ble_eq_true rfl) rfl (by rfl) ?_
    refine w_t (a := 227) (b := 222) rfl rfl rfl ?_
    refine w_r rfl rfl rfl (fun _ _ => rfl) rfl ?_
    exact ⟨rfl, rfl, rfl⟩
  | false =>
    simp only [cond_true, cond_false, sg2, sgV, ht]
    refine w_p (pc1 := 48) rfl rfl ?_
    refine w_p (pc1 := 49) rfl rfl ?_
    refine w_m0 (pc1 := 52) (st1 := .int (nI (k)) :: _) rfl rfl (h_gIe rfl rfl rfl rfl rfl (rfl)) rfl ?_
    refine w_m0 (pc1 := 55) rfl rfl (h_pI (j := 5) rfl rfl rfl rfl rfl rfl rfl ⟨rfl, rfl⟩ rfl) rfl ?_
    refine w_p (pc1 := 56) rfl rfl ?_
    refine w_p (pc1 := 57) rfl rfl ?_
    refine w_m0 (pc1 := 60) (st1 := .int (nI (k)) :: _) rfl rfl (h_gIe rfl rfl rfl rfl rfl (rfl)) rfl ?_
    refine w_p (pc1 := 61) (st1 := .int 1 :: _) rfl rfl ?_
    refine w_iadd (pc1 := 62) (u := nI (k)) (v := nI (1)) (z := nI (k + 1)) rfl (nK_add) rfl ?_
    refine w_m0 (pc1 := 65) rfl rfl (h_pI (j := 6) rfl rfl rfl rfl rfl rfl rfl ⟨rfl, rfl⟩ rfl) rfl ?_
    refine w_p (pc1 := 66) rfl rfl ?_
    refine w_m0 (pc1 := 69) (st1 := .int (nI (k)) :: _) rfl rfl (h_gIe rfl rfl rfl rfl rfl (rfl)) rfl ?_
    refine w_p (pc1 := 70) rfl rfl ?_
    refine w_m0 (pc1 := 73) (st1 := .int (nI (n)) :: _) rfl rfl (h_gIe rfl rfl rfl rfl rfl (T.1)) rfl ?_
    refine w_t (a := 103) (b := 76) (bN_lt_t (a := k) (b := n) (by omega) (by omega) (by omega)) rfl rfl ?_
    refine w_p (pc1 := 104) rfl rfl ?_
    refine w_m0 (pc1 := 107) rfl rfl (h_gC rfl rfl rfl rfl) rfl ?_
    refine w_p (pc1 := 108) rfl rfl ?_
    refine w_m0 (pc1 := 111) (st1 := .int (nI (k)) :: _) rfl rfl (h_gIe rfl rfl rfl rfl rfl (rfl)) rfl ?_
    refine w_m0 (pc1 := 112) (st1 := .int (nI (B k)) :: _) rfl rfl (n_ile (e := k) rfl rfl rfl (by omega) ((T.2.2 k hn).2)) rfl ?_
    refine w_p (pc1 := 113) (al1 := [(1, .int (nI (B k))), (0, .ref 176)]) rfl rfl ?_
    refine w_p (pc1 := 114) rfl rfl ?_
    refine w_je (pc1 := 117) (vs := [.int (nI (B k))]) (rest := []) (st1 := [.int 0]) (m_197f (d := _) (sl := 0) hb hl) rfl rfl rfl (fun _ _ => rfl) rfl (by exact cl_s my_197 rfl rfl rfl (Nat.le_of_ble_eq_true rfl) rfl rfl) (by rfl) (Nat.le_of_ble_eq_true rfl) (Nat.le_of_ble_eq_true rfl) rfl (by rfl) ?_
    refine w_t (a := 127) (b := 120) rfl rfl rfl ?_
    refine w_p (pc1 := 128) rfl rfl ?_
    refine w_je (pc1 := 131) (vs := [.int (nI (B k))]) (rest := []) (st1 := [.int 0]) (m_199f (d := _) (sl := 0) hb hg) rfl rfl rfl (fun _ _ => rfl) rfl (by exact cl_s my_199 rfl rfl rfl (Nat.le_of_ble_eq_true rfl) rfl rfl) (by rfl) (Nat.le_of_ble_eq_true rfl) (Nat.le_of_ble_eq_true rfl) rfl (by rfl) ?_
    refine w_t (a := 141) (b := 134) rfl rfl rfl ?_
    refine w_p (pc1 := 142) rfl rfl ?_
    refine w_p (pc1 := 144) (st1 := .int 60 :: _) rfl rfl ?_
    refine w_f (a := 153) (b := 147) (bN_eq_f (a := B k) (b := 60) (by omega) (by omega) (by exact h60)) rfl rfl ?_
    refine w_p (pc1 := 148) rfl rfl ?_
    refine w_p (pc1 := 150) (st1 := .int 62 :: _) rfl rfl ?_
    refine w_f (a := 172) (b := 153) (bN_ne_f (a := B k) (b := 62) (by omega) (by omega) (by exact h62)) rfl rfl ?_
    refine w_p (pc1 := 154) rfl rfl ?_
    refine w_p (pc1 := 155) rfl rfl ?_
    refine w_m0 (pc1 := 158) (st1 := .int (nI (k)) :: _) rfl rfl (h_gIe rfl rfl rfl rfl rfl (rfl)) rfl ?_
    refine w_p (pc1 := 159) (st1 := .int 1 :: _) rfl rfl ?_
    refine w_iadd (pc1 := 160) (u := nI (k)) (v := nI (1)) (z := nI (k + 1)) rfl (nK_add) rfl ?_
    refine w_je (pc1 := 163) (vs := [.ref 176, .int (nI (k + 1))]) (rest := []) (st1 := [.int (nI (bt B n (k + 1)))]) (m_196 (d := _) (sl := 0) (p := k + 1) T2 (by omega)) rfl rfl rfl (fun _ _ => rfl) rfl (by exact cl_v my_196 rfl rfl rfl (Nat.le_of_ble_eq_true rfl) rfl (MH_obj rfl rfl) rfl (by decide) rfl rfl) (by rfl) (Nat.le_of_ble_eq_true rfl) (Nat.le_of_ble_eq_true rfl) rfl (by rfl) ?_
    refine w_p (pc1 := 165) (st1 := .int 61 :: _) rfl rfl ?_
    refine w_f (a := 172) (b := 168) (bN_ne_f (a := bt B n (k + 1)) (b := 61) (by omega) (by omega) (by exact h61)) rfl rfl ?_
    refine w_p (pc1 := 169) (st1 := .int 1 :: _) rfl rfl ?_
    refine w_p (pc1 := 173) rfl rfl ?_
    refine w_p (pc1 := 174) (al1 := [(2, .int 1), (1, .int (nI (B k))), (0, .ref 176)]) rfl rfl ?_
    refine w_p (pc1 := 175) rfl rfl ?_
    refine w_p (pc1 := 176) (st1 := .int 4 :: _) rfl rfl ?_
    refine w_m0 (pc1 := 179) rfl rfl (h_pI (j := 4) rfl rfl rfl rfl rfl rfl rfl ⟨rfl, rfl⟩ rfl) rfl ?_
    refine w_p (pc1 := 180) rfl rfl ?_
    refine w_p (pc1 := 181) rfl rfl ?_
    refine w_f (a := 192) (b := 184) rfl rfl rfl ?_
    refine w_p (pc1 := 186) (st1 := .int 100 :: _) rfl rfl ?_
    refine w_p (pc1 := 187) rfl rfl ?_
    refine w_iadd (pc1 := 188) (u := nI (100)) (v := nI (B k)) (z := nI (100 + (B k))) rfl (nK_add) rfl ?_
    refine w_p (pc1 := 189) rfl rfl ?_
    refine w_p (pc1 := 194) rfl rfl ?_
    refine w_m0 (pc1 := 197) rfl rfl (h_pJ (j := 7) rfl rfl rfl rfl rfl rfl rfl ⟨rfl, rfl⟩ rfl) rfl ?_
    refine w_p (pc1 := 198) rfl rfl ?_
    refine w_p (pc1 := 199) rfl rfl ?_
    refine w_m0 (pc1 := 202) (st1 := .int (nI (k)) :: _) rfl rfl (h_gIe rfl rfl rfl rfl rfl (rfl)) rfl ?_
    refine w_p (pc1 := 203) rfl rfl ?_
    refine w_f (a := 210) (b := 206) rfl rfl rfl ?_
    refine w_p (pc1 := 207) (st1 := .int 2 :: _) rfl rfl ?_
    refine w_p (pc1 := 211) rfl rfl ?_
    refine w_iadd (pc1 := 212) (u := nI (k)) (v := nI (2)) (z := nI (k + 2)) rfl (nK_add) rfl ?_
    refine w_m0 (pc1 := 215) rfl rfl (h_pI (j := 6) rfl rfl rfl rfl rfl rfl rfl ⟨rfl, rfl⟩ rfl) rfl ?_
    refine w_p (pc1 := 216) rfl rfl ?_
    refine w_je (pc1 := 219) (vs := [.int (nI (B k))]) (rest := []) (st1 := [.int 0]) (m_204f (d := _) (sl := 0) hb hs) rfl rfl rfl (fun _ _ => rfl) rfl (by exact cl_s my_204 rfl rfl rfl (Nat.le_of_ble_eq_true rfl) rfl rfl) (by rfl) (Nat.le_of_ble_eq_true rfl) (Nat.le_of_ble_eq_true rfl) rfl (by rfl) ?_
    refine w_f (a := 227) (b := 222) rfl rfl rfl ?_
    refine w_p (pc1 := 223) rfl rfl ?_
    refine w_p (pc1 := 224) (st1 := .int 1 :: _) rfl rfl ?_
    refine w_je (pc1 := 227) (vs := [.ref 176, .int 1]) (rest := []) (st1 := []) (m_200 (d := _) (sl := 0) hL) rfl rfl rfl (fun _ _ => rfl) rfl (by exact cl_v my_200 rfl rfl rfl (Nat.le_of_ble_eq_true rfl) rfl (MH_obj rfl rfl) rfl (by decide) rfl rfl) (by rfl) (Nat.le_of_ble_eq_true rfl) (Nat.le_of_ble_eq_true rfl) rfl (by rfl) ?_
    refine w_r rfl rfl rfl (fun _ _ => rfl) rfl ?_
    exact ⟨rfl, rfl, rfl⟩
set_option maxHeartbeats 8000000 in
set_option maxRecDepth 100000 in
theorem nx_S4 {k : Nat} (T : tpM C B n) (hO : flO C n z) (hz : z ≤ k) (hn : k < n) (hl : isL (B k) = false) (hg : isF (B k) = false) (h60 : B k ≠ 60) (h62 : B k = 62) (h61 : bt B n (k + 1) ≠ 61) : Wd L xs (d + 3) y_195 (47, [(0, .ref 176)], [], MH (sI C 76 3 (nI k)) t, sl) (Rt none (MH (nxM B n C k) t) sl) nX := by
  have h6 := T.2.1
  have T2 : tpM (sI C 76 3 (nI k)) B n := T
  have hb := (T.2.2 k hn).1
  have hb1 := bt_lt (p := k + 1) T
  have hL := flO_L hO hz hn h6
  have T3 : tpM (nx1 C k) B n := T
  rw [nxM, if_neg (by omega)]
  have ht : two B n k = false := by simp [two, h61]
  rw [hl, cond_false, hg, cond_false]
  cases hs : isSg (B k) with
  | true =>
    simp only [cond_true, cond_false, sg2, sgV, ht]
    refine w_p (pc1 := 48) rfl rfl ?_
    refine w_p (pc1 := 49) rfl rfl ?_
    refine w_m0 (pc1 := 52) (st1 := .int (nI (k)) :: _) rfl rfl (h_gIe rfl rfl rfl rfl rfl (rfl)) rfl ?_
    refine w_m0 (pc1 := 55) rfl rfl (h_pI (j := 5) rfl rfl rfl rfl rfl rfl rfl ⟨rfl, rfl⟩ rfl) rfl ?_
    refine w_p (pc1 := 56) rfl rfl ?_
    refine w_p (pc1 := 57) rfl rfl ?_
    refine w_m0 (pc1 := 60) (st1 := .int (nI (k)) :: _) rfl rfl (h_gIe rfl rfl rfl rfl rfl (rfl)) rfl ?_
    refine w_p (pc1 := 61) (st1 := .int 1 :: _) rfl rfl ?_
    refine w_iadd (pc1 := 62) (u := nI (k)) (v := nI (1)) (z := nI (k + 1)) rfl (nK_add) rfl ?_
    refine w_m0 (pc1 := 65) rfl rfl (h_pI (j := 6) rfl rfl rfl rfl rfl rfl rfl ⟨rfl, rfl⟩ rfl) rfl ?_
    refine w_p (pc1 := 66) rfl rfl ?_
    refine w_m0 (pc1 := 69) (st1 := .int (nI (k)) :: _) rfl rfl (h_gIe rfl rfl rfl rfl rfl (rfl)) rfl ?_
    refine w_p (pc1 := 70) rfl rfl ?_
    refine w_m0 (pc1 := 73) (st1 := .int (nI (n)) :: _) rfl rfl (h_gIe rfl rfl rfl rfl rfl (T.1)) rfl ?_
    refine w_t (a := 103) (b := 76) (bN_lt_t (a := k) (b := n) (by omega) (by omega) (by omega)) rfl rfl ?_
    refine w_p (pc1 := 104) rfl rfl ?_
    refine w_m0 (pc1 := 107) rfl rfl (h_gC rfl rfl rfl rfl) rfl ?_
    refine w_p (pc1 := 108) rfl rfl ?_
    refine w_m0 (pc1 := 111) (st1 := .int (nI (k)) :: _) rfl rfl (h_gIe rfl rfl rfl rfl rfl (rfl)) rfl ?_
    refine w_m0 (pc1 := 112) (st1 := .int (nI (B k)) :: _) rfl rfl (n_ile (e := k) rfl rfl rfl (by omega) ((T.2.2 k hn).2)) rfl ?_
    refine w_p (pc1 := 113) (al1 := [(1, .int (nI (B k))), (0, .ref 176)]) rfl rfl ?_
    refine w_p (pc1 := 114) rfl rfl ?_
    refine w_je (pc1 := 117) (vs := [.int (nI (B k))]) (rest := []) (st1 := [.int 0]) (m_197f (d := _) (sl := 0) hb hl) rfl rfl rfl (fun _ _ => rfl) rfl (by exact cl_s my_197 rfl rfl rfl (Nat.le_of_ble_eq_true rfl) rfl rfl) (by rfl) (Nat.le_of_ble_eq_true rfl) (Nat.le_of_ble_eq_true rfl) rfl (by rfl) ?_
    refine w_t (a := 127) (b := 120) rfl rfl rfl ?_
    refine w_p (pc1 := 128) rfl rfl ?_
    refine w_je (pc1 := 131) (vs := [.int (nI (B k))]) (rest := []) (st1 := [.int 0]) (m_199f (d := _) (sl := 0) hb hg) rfl rfl rfl (fun _ _ => rfl) rfl (by exact cl_s my_199 rfl rfl rfl (Nat.le_of_ble_eq_true rfl) rfl rfl) (by rfl) (Nat.le_of_ble_eq_true rfl) (Nat.le_of_ble_eq_true rfl) rfl (by rfl) ?_
    refine w_t (a := 141) (b := 134) rfl rfl rfl ?_
    refine w_p (pc1 := 142) rfl rfl ?_
    refine w_p (pc1 := 144) (st1 := .int 60 :: _) rfl rfl ?_
    refine w_f (a := 153) (b := 147) (bN_eq_f (a := B k) (b := 60) (by omega) (by omega) (by exact h60)) rfl rfl ?_
    refine w_p (pc1 := 148) rfl rfl ?_
    refine w_p (pc1 := 150) (st1 := .int 62 :: _) rfl rfl ?_
    refine w_f (a := 172) (b := 153) (bN_ne_f (a := B k) (b := 62) (by omega) (by omega) (by exact h62)) rfl rfl ?_
    refine w_p (pc1 := 154) rfl rfl ?_
    refine w_p (pc1 := 155) rfl rfl ?_
    refine w_m0 (pc1 := 158) (st1 := .int (nI (k)) :: _) rfl rfl (h_gIe rfl rfl rfl rfl rfl (rfl)) rfl ?_
    refine w_p (pc1 := 159) (st1 := .int 1 :: _) rfl rfl ?_
    refine w_iadd (pc1 := 160) (u := nI (k)) (v := nI (1)) (z := nI (k + 1)) rfl (nK_add) rfl ?_
    refine w_je (pc1 := 163) (vs := [.ref 176, .int (nI (k + 1))]) (rest := []) (st1 := [.int (nI (bt B n (k + 1)))]) (m_196 (d := _) (sl := 0) (p := k + 1) T2 (by omega)) rfl rfl rfl (fun _ _ => rfl) rfl (by exact cl_v my_196 rfl rfl rfl (Nat.le_of_ble_eq_true rfl) rfl (MH_obj rfl rfl) rfl (by decide) rfl rfl) (by rfl) (Nat.le_of_ble_eq_true rfl) (Nat.le_of_ble_eq_true rfl) rfl (by rfl) ?_
    refine w_p (pc1 := 165) (st1 := .int 61 :: _) rfl rfl ?_
    refine w_t (a := 172) (b := 168) (bN_ne_t (a := bt B n (k + 1)) (b := 61) (by omega) (by omega) (by exact h61)) rfl rfl ?_
    refine w_p (pc1 := 173) (st1 := .int 0 :: _) rfl rfl ?_
    refine w_p (pc1 := 174) (al1 := [(2, .int 0), (1, .int (nI (B k))), (0, .ref 176)]) rfl rfl ?_
    refine w_p (pc1 := 175) rfl rfl ?_
    refine w_p (pc1 := 176) (st1 := .int 4 :: _) rfl rfl ?_
    refine w_m0 (pc1 := 179) rfl rfl (h_pI (j := 4) rfl rfl rfl rfl rfl rfl rfl ⟨rfl, rfl⟩ rfl) rfl ?_
    refine w_p (pc1 := 180) rfl rfl ?_
    refine w_p (pc1 := 181) rfl rfl ?_
    refine w_t (a := 192) (b := 184) rfl rfl rfl ?_
    refine w_p (pc1 := 193) rfl rfl ?_
    refine w_p (pc1 := 194) rfl rfl ?_
    refine w_m0 (pc1 := 197) rfl rfl (h_pJ (j := 7) rfl rfl rfl rfl rfl rfl rfl ⟨rfl, rfl⟩ rfl) rfl ?_
    refine w_p (pc1 := 198) rfl rfl ?_
    refine w_p (pc1 := 199) rfl rfl ?_
    refine w_m0 (pc1 := 202) (st1 := .int (nI (k)) :: _) rfl rfl (h_gIe rfl rfl rfl rfl rfl (rfl)) rfl ?_
    refine w_p (pc1 := 203) rfl rfl ?_
    refine w_t (a := 210) (b := 206) rfl rfl rfl ?_
    refine w_p (pc1 := 211) (st1 := .int 1 :: _) rfl rfl ?_
    refine w_iadd (pc1 := 212) (u := nI (k)) (v := nI (1)) (z := nI (k + 1)) rfl (nK_add) rfl ?_
    refine w_m0 (pc1 := 215) rfl rfl (h_pI (j := 6) rfl rfl rfl rfl rfl rfl rfl ⟨rfl, rfl⟩ rfl) rfl ?_
    refine w_p (pc1 := 216) rfl rfl ?_
    refine w_je (pc1 := 219) (vs := [.int (nI (B k))]) (rest := []) (st1 := [.int 1]) (m_204t (d := _) (sl := 0) hs) rfl rfl rfl (fun _ _ => rfl) rfl (by exact cl_s my_204 rfl rfl rfl (Nat.le_of_ble_eq_true rfl) rfl rfl) (by rfl) (Nat.le_of_ble_eq_true rfl) (Nat.le_of_ble_eq_true rfl) rfl (by rfl) ?_
    refine w_t (a := 227) (b := 222) rfl rfl rfl ?_
    refine w_r rfl rfl rfl (fun _ _ => rfl) rfl ?_
    exact ⟨rfl, rfl, rfl⟩
  | false =>
    simp only [cond_true, cond_false, sg2, sgV, ht]
    refine w_p (pc1 := 48) rfl rfl ?_
    refine w_p (pc1 := 49) rfl rfl ?_
    refine w_m0 (pc1 := 52) (st1 := .int (nI (k)) :: _) rfl rfl (h_gIe rfl rfl rfl rfl rfl (rfl)) rfl ?_
    refine w_m0 (pc1 := 55) rfl rfl (h_pI (j := 5) rfl rfl rfl rfl rfl rfl rfl ⟨rfl, rfl⟩ rfl) rfl ?_
    refine w_p (pc1 := 56) rfl rfl ?_
    refine w_p (pc1 := 57) rfl rfl ?_
    refine w_m0 (pc1 := 60) (st1 := .int (nI (k)) :: _) rfl rfl (h_gIe rfl rfl rfl rfl rfl (rfl)) rfl ?_
    refine w_p (pc1 := 61) (st1 := .int 1 :: _) rfl rfl ?_
    refine w_iadd (pc1 := 62) (u := nI (k)) (v := nI (1)) (z := nI (k + 1)) rfl (nK_add) rfl ?_
    refine w_m0 (pc1 := 65) rfl rfl (h_pI (j := 6) rfl rfl rfl rfl rfl rfl rfl ⟨rfl, rfl⟩ rfl) rfl ?_
    refine w_p (pc1 := 66) rfl rfl ?_
    refine w_m0 (pc1 := 69) (st1 := .int (nI (k)) :: _) rfl rfl (h_gIe rfl rfl rfl rfl rfl (rfl)) rfl ?_
    refine w_p (pc1 := 70) rfl rfl ?_
    refine w_m0 (pc1 := 73) (st1 := .int (nI (n)) :: _) rfl rfl (h_gIe rfl rfl rfl rfl rfl (T.1)) rfl ?_
    refine w_t (a := 103) (b := 76) (bN_lt_t (a := k) (b := n) (by omega) (by omega) (by omega)) rfl rfl ?_
    refine w_p (pc1 := 104) rfl rfl ?_
    refine w_m0 (pc1 := 107) rfl rfl (h_gC rfl rfl rfl rfl) rfl ?_
    refine w_p (pc1 := 108) rfl rfl ?_
    refine w_m0 (pc1 := 111) (st1 := .int (nI (k)) :: _) rfl rfl (h_gIe rfl rfl rfl rfl rfl (rfl)) rfl ?_
    refine w_m0 (pc1 := 112) (st1 := .int (nI (B k)) :: _) rfl rfl (n_ile (e := k) rfl rfl rfl (by omega) ((T.2.2 k hn).2)) rfl ?_
    refine w_p (pc1 := 113) (al1 := [(1, .int (nI (B k))), (0, .ref 176)]) rfl rfl ?_
    refine w_p (pc1 := 114) rfl rfl ?_
    refine w_je (pc1 := 117) (vs := [.int (nI (B k))]) (rest := []) (st1 := [.int 0]) (m_197f (d := _) (sl := 0) hb hl) rfl rfl rfl (fun _ _ => rfl) rfl (by exact cl_s my_197 rfl rfl rfl (Nat.le_of_ble_eq_true rfl) rfl rfl) (by rfl) (Nat.le_of_ble_eq_true rfl) (Nat.le_of_ble_eq_true rfl) rfl (by rfl) ?_
    refine w_t (a := 127) (b := 120) rfl rfl rfl ?_
    refine w_p (pc1 := 128) rfl rfl ?_
    refine w_je (pc1 := 131) (vs := [.int (nI (B k))]) (rest := []) (st1 := [.int 0]) (m_199f (d := _) (sl := 0) hb hg) rfl rfl rfl (fun _ _ => rfl) rfl (by exact cl_s my_199 rfl rfl rfl (Nat.le_of_ble_eq_true rfl) rfl rfl) (by rfl) (Nat.le_of_ble_eq_true rfl) (Nat.le_of_ble_eq_true rfl) rfl (by rfl) ?_
    refine w_t (a := 141) (b := 134) rfl rfl rfl ?_
    refine w_p (pc1 := 142) rfl rfl ?_
    refine w_p (pc1 := 144) (st1 := .int 60 :: _) rfl rfl ?_
    refine w_f (a := 153) (b := 147) (bN_eq_f (a := B k) (b := 60) (by omega) (by omega) (by exact h60)) rfl rfl ?_
    refine w_p (pc1 := 148) rfl rfl ?_
    refine w_p (pc1 := 150) (st1 := .int 62 :: _) rfl rfl ?_
    refine w_f (a := 172) (b := 153) (bN_ne_f (a := B k) (b := 62) (by omega) (by omega) (by exact h62)) rfl rfl ?_
    refine w_p (pc1 := 154) rfl rfl ?_
    refine w_p (pc1 := 155) rfl rfl ?_
    refine w_m0 (pc1 := 158) (st1 := .int (nI (k)) :: _) rfl rfl (h_gIe rfl rfl rfl rfl rfl (rfl)) rfl ?_
    refine w_p (pc1 := 159) (st1 := .int 1 :: _) rfl rfl ?_
    refine w_iadd (pc1 := 160) (u := nI (k)) (v := nI (1)) (z := nI (k + 1)) rfl (nK_add) rfl ?_
    refine w_je (pc1 := 163) (vs := [.ref 176, .int (nI (k + 1))]) (rest := []) (st1 := [.int (nI (bt B n (k + 1)))]) (m_196 (d := _) (sl := 0) (p := k + 1) T2 (by omega)) rfl rfl rfl (fun _ _ => rfl) rfl (by exact cl_v my_196 rfl rfl rfl (Nat.le_of_ble_eq_true rfl) rfl (MH_obj rfl rfl) rfl (by decide) rfl rfl) (by rfl) (Nat.le_of_ble_eq_true rfl) (Nat.le_of_ble_eq_true rfl) rfl (by rfl) ?_
    refine w_p (pc1 := 165) (st1 := .int 61 :: _) rfl rfl ?_
    refine w_t (a := 172) (b := 168) (bN_ne_t (a := bt B n (k + 1)) (b := 61) (by omega) (by omega) (by exact h61)) rfl rfl ?_
    refine w_p (pc1 := 173) (st1 := .int 0 :: _) rfl rfl ?_
    refine w_p (pc1 := 174) (al1 := [(2, .int 0), (1, .int (nI (B k))), (0, .ref 176)]) rfl rfl ?_
    refine w_p (pc1 := 175) rfl rfl ?_
    refine w_p (pc1 := 176) (st1 := .int 4 :: _) rfl rfl ?_
    refine w_m0 (pc1 := 179) rfl rfl (h_pI (j := 4) rfl rfl rfl rfl rfl rfl rfl ⟨rfl, rfl⟩ rfl) rfl ?_
    refine w_p (pc1 := 180) rfl rfl ?_
    refine w_p (pc1 := 181) rfl rfl ?_
    refine w_t (a := 192) (b := 184) rfl rfl rfl ?_
    refine w_p (pc1 := 193) rfl rfl ?_
    refine w_p (pc1 := 194) rfl rfl ?_
    refine w_m0 (pc1 := 197) rfl rfl (h_pJ (j := 7) rfl rfl rfl rfl rfl rfl rfl ⟨rfl, rfl⟩ rfl) rfl ?_
    refine w_p (pc1 := 198) rfl rfl ?_
    refine w_p (pc1 := 199) rfl rfl ?_
    refine w_m0 (pc1 := 202) (st1 := .int (nI (k)) :: _) rfl rfl (h_gIe rfl rfl rfl rfl rfl (rfl)) rfl ?_
    refine w_p (pc1 := 203) rfl rfl ?_
    refine w_t (a := 210) (b := 206) rfl rfl rfl ?_
    refine w_p (pc1 := 211) (st1 := .int 1 :: _) rfl rfl ?_
    refine w_iadd (pc1 := 212) (u := nI (k)) (v := nI (1)) (z := nI (k + 1)) rfl (nK_add) rfl ?_
    refine w_m0 (pc1 := 215) rfl rfl (h_pI (j := 6) rfl rfl rfl rfl rfl rfl rfl ⟨rfl, rfl⟩ rfl) rfl ?_
    refine w_p (pc1 := 216) rfl rfl ?_
    refine w_je (pc1 := 219) (vs := [.int (nI (B k))]) (rest := []) (st1 := [.int 0]) (m_204f (d := _) (sl := 0) hb hs) rfl rfl rfl (fun _ _ => rfl) rfl (by exact cl_s my_204 rfl rfl rfl (Nat.le_of_ble_eq_true rfl) rfl rfl) (by rfl) (Nat.le_of_ble_eq_true rfl) (Nat.le_of_ble_eq_true rfl) rfl (by rfl) ?_
    refine w_f (a := 227) (b := 222) rfl rfl rfl ?_
    refine w_p (pc1 := 223) rfl rfl ?_
    refine w_p (pc1 := 224) (st1 := .int 1 :: _) rfl rfl ?_
    refine w_je (pc1 := 227) (vs := [.ref 176, .int 1]) (rest := []) (st1 := []) (m_200 (d := _) (sl := 0) hL) rfl rfl rfl (fun _ _ => rfl) rfl (by exact cl_v my_200 rfl rfl rfl (Nat.le_of_ble_eq_true rfl) rfl (MH_obj rfl rfl) rfl (by decide) rfl rfl) (by rfl) (Nat.le_of_ble_eq_true rfl) (Nat.le_of_ble_eq_true rfl) rfl (by rfl) ?_
    refine w_r rfl rfl rfl (fun _ _ => rfl) rfl ?_
    exact ⟨rfl, rfl, rfl⟩
set_option maxHeartbeats 8000000 in
set_option maxRecDepth 100000 in
theorem nx_S5 {k : Nat} (T : tpM C B n) (hO : flO C n z) (hz : z ≤ k) (hn : k < n) (hl : isL (B k) = false) (hg : isF (B k) = false) (h60 : B k ≠ 60) (h62 : B k ≠ 62) : Wd L xs (d + 3) y_195 (47, [(0, .ref 176)], [], MH (sI C 76 3 (nI k)) t, sl) (Rt none (MH (nxM B n C k) t) sl) nX := by
  have h6 := T.2.1
  have T2 : tpM (sI C 76 3 (nI k)) B n := T
  have hb := (T.2.2 k hn).1
  have hb1 := bt_lt (p := k + 1) T
  have hL := flO_L hO hz hn h6
  have T3 : tpM (nx1 C k) B n := T
  rw [nxM, if_neg (by omega)]
  have ht : two B n k = false := by simp [two, h60, h62]
  rw [hl, cond_false, hg, cond_false]
  cases hs : isSg (B k) with
  | true =>
    simp only [cond_true, cond_false, sg2, sgV, ht]
    refine w_p (pc1 := 48) rfl rfl ?_
    refine w_p (pc1 := 49) rfl rfl ?_
    refine w_m0 (pc1 := 52) (st1 := .int (nI (k)) :: _) rfl rfl (h_gIe rfl rfl rfl rfl rfl (rfl)) rfl ?_
    refine w_m0 (pc1 := 55) rfl rfl (h_pI (j := 5) rfl rfl rfl rfl rfl rfl rfl ⟨rfl, rfl⟩ rfl) rfl ?_
    refine w_p (pc1 := 56) rfl rfl ?_
    refine w_p (pc1 := 57) rfl rfl ?_
    refine w_m0 (pc1 := 60) (st1 := .int (nI (k)) :: _) rfl rfl (h_gIe rfl rfl rfl rfl rfl (rfl)) rfl ?_
    refine w_p (pc1 := 61) (st1 := .int 1 :: _) rfl rfl ?_
    refine w_iadd (pc1 := 62) (u := nI (k)) (v := nI (1)) (z := nI (k + 1)) rfl (nK_add) rfl ?_
    refine w_m0 (pc1 := 65) rfl rfl (h_pI (j := 6) rfl rfl rfl rfl rfl rfl rfl ⟨rfl, rfl⟩ rfl) rfl ?_
    refine w_p (pc1 := 66) rfl rfl ?_
    refine w_m0 (pc1 := 69) (st1 := .int (nI (k)) :: _) rfl rfl (h_gIe rfl rfl rfl rfl rfl (rfl)) rfl ?_
    refine w_p (pc1 := 70) rfl rfl ?_
    refine w_m0 (pc1 := 73) (st1 := .int (nI (n)) :: _) rfl rfl (h_gIe rfl rfl rfl rfl rfl (T.1)) rfl ?_
    refine w_t (a := 103) (b := 76) (bN_lt_t (a := k) (b := n) (by omega) (by omega) (by omega)) rfl rfl ?_
    refine w_p (pc1 := 104) rfl rfl ?_
    refine w_m0 (pc1 := 107) rfl rfl (h_gC rfl rfl rfl rfl) rfl ?_
    refine w_p (pc1 := 108) rfl rfl ?_
    refine w_m0 (pc1 := 111) (st1 := .int (nI (k)) :: _) rfl rfl (h_gIe rfl rfl rfl rfl rfl (rfl)) rfl ?_
    refine w_m0 (pc1 := 112) (st1 := .int (nI (B k)) :: _) rfl rfl (n_ile (e := k) rfl rfl rfl (by omega) ((T.2.2 k hn).2)) rfl ?_
    refine w_p (pc1 := 113) (al1 := [(1, .int (nI (B k))), (0, .ref 176)]) rfl rfl ?_
    refine w_p (pc1 := 114) rfl rfl ?_
    refine w_je (pc1 := 117) (vs := [.int (nI (B k))]) (rest := []) (st1 := [.int 0]) (m_197f (d := _) (sl := 0) hb hl) rfl rfl rfl (fun _ _ => rfl) rfl (by exact cl_s my_197 rfl rfl rfl (Nat.le_of_ble_eq_true rfl) rfl rfl) (by rfl) (Nat.le_of_ble_eq_true rfl) (Nat.le_of_ble_eq_true rfl) rfl (by rfl) ?_
    refine w_t (a := 127) (b := 120) rfl rfl rfl ?_
    refine w_p (pc1 := 128) rfl rfl ?_
    refine w_je (pc1 := 131) (vs := [.int (nI (B k))]) (rest := []) (st1 := [.int 0]) (m_199f (d := _) (sl := 0) hb hg) rfl rfl rfl (fun _ _ => rfl) rfl (by exact cl_s my_199 rfl rfl rfl (Nat.le_of_ble_eq_true rfl) rfl rfl) (by rfl) (Nat.le_of_ble_eq_true rfl) (Nat.le_of_ble_eq_true rfl) rfl (by rfl) ?_
    refine w_t (a := 141) (b := 134) rfl rfl rfl ?_
    refine w_p (pc1 := 142) rfl rfl ?_
    refine w_p (pc1 := 144) (st1 := .int 60 :: _) rfl rfl ?_
    refine w_f (a := 153) (b := 147) (bN_eq_f (a := B k) (b := 60) (by omega) (by omega) (by exact h60)) rfl rfl ?_
    refine w_p (pc1 := 148) rfl rfl ?_
    refine w_p (pc1 := 150) (st1 := .int 62 :: _) rfl rfl ?_
    refine w_t (a := 172) (b := 153) (bN_ne_t (a := B k) (b := 62) (by omega) (by omega) (by exact h62)) rfl rfl ?_
    refine w_p (pc1 := 173) (st1 := .int 0 :: _) rfl rfl ?_
    refine w_p (pc1 := 174) (al1 := [(2, .int 0), (1, .int (nI (B k))), (0, .ref 176)]) rfl rfl ?_
    refine w_p (pc1 := 175) rfl rfl ?_
    refine w_p (pc1 := 176) (st1 := .int 4 :: _) rfl rfl ?_
    refine w_m0 (pc1 := 179) rfl rfl (h_pI (j := 4) rfl rfl rfl rfl rfl rfl rfl ⟨rfl, rfl⟩ rfl) rfl ?_
    refine w_p (pc1 := 180) rfl rfl ?_
    refine w_p (pc1 := 181) rfl rfl ?_
    refine w_t (a := 192) (b := 184) rfl rfl rfl ?_
    refine w_p (pc1 := 193) rfl rfl ?_
    refine w_p (pc1 := 194) rfl rfl ?_
    refine w_m0 (pc1 := 197) rfl rfl (h_pJ (j := 7) rfl rfl rfl rfl rfl rfl rfl ⟨rfl, rfl⟩ rfl) rfl ?_
    refine w_p (pc1 := 198) rfl rfl ?_
    refine w_p (pc1 := 199) rfl rfl ?_
    refine w_m0 (pc1 := 202) (st1 := .int (nI (k)) :: _) rfl rfl (h_gIe rfl rfl rfl rfl rfl (rfl)) rfl ?_
    refine w_p (pc1 := 203) rfl rfl ?_
    refine w_t (a := 210) (b := 206) rfl rfl rfl ?_
    refine w_p (pc1 := 211) (st1 := .int 1 :: _) rfl rfl ?_
    refine w_iadd (pc1 := 212) (u := nI (k)) (v := nI (1)) (z := nI (k + 1)) rfl (nK_add) rfl ?_
    refine w_m0 (pc1 := 215) rfl rfl (h_pI (j := 6) rfl rfl rfl rfl rfl rfl rfl ⟨rfl, rfl⟩ rfl) rfl ?_
    refine w_p (pc1 := 216) rfl rfl ?_
    refine w_je (pc1 := 219) (vs := [.int (nI (B k))]) (rest := []) (st1 := [.int 1]) (m_204t (d := _) (sl := 0) hs) rfl rfl rfl (fun _ _ => rfl) rfl (by exact cl_s my_204 rfl rfl rfl (Nat.le_of_ble_eq_true rfl) rfl rfl) (by rfl) (Nat.le_of_ble_eq_true rfl) (Nat.le_of_ble_eq_true rfl) rfl (by rfl) ?_
    refine w_t (a := 227) (b := 222) rfl rfl rfl ?_
    refine w_r rfl rfl rfl (fun _ _ => rfl) rfl ?_
    exact ⟨rfl, rfl, rfl⟩
  | false =>
    simp only [cond_true, cond_false, sg2, sgV, ht]
    refine w_p (pc1 := 48) rfl rfl ?_
    refine w_p (pc1 := 49) rfl rfl ?_
    refine w_m0 (pc1 := 52) (st1 := .int (nI (k)) :: _) rfl rfl (h_gIe rfl rfl rfl rfl rfl (rfl)) rfl ?_
    refine w_m0 (pc1 := 55) rfl rfl (h_pI (j := 5) rfl rfl rfl rfl rfl rfl rfl ⟨rfl, rfl⟩ rfl) rfl ?_
    refine w_p (pc1 := 56) rfl rfl ?_
    refine w_p (pc1 := 57) rfl rfl ?_
    refine w_m0 (pc1 := 60) (st1 := .int (nI (k)) :: _) rfl rfl (h_gIe rfl rfl rfl rfl rfl (rfl)) rfl ?_
    refine w_p (pc1 := 61) (st1 := .int 1 :: _) rfl rfl ?_
    refine w_iadd (pc1 := 62) (u := nI (k)) (v := nI (1)) (z := nI (k + 1)) rfl (nK_add) rfl ?_
    refine w_m0 (pc1 := 65) rfl rfl (h_pI (j := 6) rfl rfl rfl rfl rfl rfl rfl ⟨rfl, rfl⟩ rfl) rfl ?_
    refine w_p (pc1 := 66) rfl rfl ?_
    refine w_m0 (pc1 := 69) (st1 := .int (nI (k)) :: _) rfl rfl (h_gIe rfl rfl rfl rfl rfl (rfl)) rfl ?_
    refine w_p (pc1 := 70) rfl rfl ?_
    refine w_m0 (pc1 := 73) (st1 := .int (nI (n)) :: _) rfl rfl (h_gIe rfl rfl rfl rfl rfl (T.1)) rfl ?_
    refine w_t (a := 103) (b := 76) (bN_lt_t (a := k) (b := n) (by omega) (by omega) (by omega)) rfl rfl ?_
    refine w_p (pc1 := 104) rfl rfl ?_
    refine w_m0 (pc1 := 107) rfl rfl (h_gC rfl rfl rfl rfl) rfl ?_
    refine w_p (pc1 := 108) rfl rfl ?_
    refine w_m0 (pc1 := 111) (st1 := .int (nI (k)) :: _) rfl rfl (h_gIe rfl rfl rfl rfl rfl (rfl)) rfl ?_
    refine w_m0 (pc1 := 112) (st1 := .int (nI (B k)) :: _) rfl rfl (n_ile (e := k) rfl rfl rfl (by omega) ((T.2.2 k hn).2)) rfl ?_
    refine w_p (pc1 := 113) (al1 := [(1, .int (nI (B k))), (0, .ref 176)]) rfl rfl ?_
    refine w_p (pc1 := 114) rfl rfl ?_
    refine w_je (pc1 := 117) (vs := [.int (nI (B k))]) (rest := []) (st1 := [.int 0]) (m_197f (d := _) (sl := 0) hb hl) rfl rfl rfl (fun _ _ => rfl) rfl (by exact cl_s my_197 rfl rfl rfl (Nat.le_of_ble_eq_true rfl) rfl rfl) (by rfl) (Nat.le_of_ble_eq_true rfl) (Nat.le_of_ble_eq_true rfl) rfl (by rfl) ?_
    refine w_t (a := 127) (b := 120) rfl rfl rfl ?_
    refine w_p (pc1 := 128) rfl rfl ?_
    refine w_je (pc1 := 131) (vs := [.int (nI (B k))]) (rest := []) (st1 := [.int 0]) (m_199f (d := _) (sl := 0) hb hg) rfl rfl rfl (fun _ _ => rfl) rfl (by exact cl_s my_199 rfl rfl rfl (Nat.le_of_ble_eq_true rfl) rfl rfl) (by rfl) (Nat.le_of_ble_eq_true rfl) (Nat.le_of_ble_eq_true rfl) rfl (by rfl) ?_
    refine w_t (a := 141) (b := 134) rfl rfl rfl ?_
    refine w_p (pc1 := 142) rfl rfl ?_
    refine w_p (pc1 := 144) (st1 := .int 60 :: _) rfl rfl ?_
    refine w_f (a := 153) (b := 147) (bN_eq_f (a := B k) (b := 60) (by omega) (by omega) (by exact h60)) rfl rfl ?_
    refine w_p (pc1 := 148) rfl rfl ?_
    refine w_p (pc1 := 150) (st1 := .int 62 :: _) rfl rfl ?_
    refine w_t (a := 172) (b := 153) (bN_ne_t (a := B k) (b := 62) (by omega) (by omega) (by exact h62)) rfl rfl ?_
    refine w_p (pc1 := 173) (st1 := .int 0 :: _) rfl rfl ?_
    refine w_p (pc1 := 174) (al1 := [(2, .int 0), (1, .int (nI (B k))), (0, .ref 176)]) rfl rfl ?_
    refine w_p (pc1 := 175) rfl rfl ?_
    refine w_p (pc1 := 176) (st1 := .int 4 :: _) rfl rfl ?_
    refine w_m0 (pc1 := 179) rfl rfl (h_pI (j := 4) rfl rfl rfl rfl rfl rfl rfl ⟨rfl, rfl⟩ rfl) rfl ?_
    refine w_p (pc1 := 180) rfl rfl ?_
    refine w_p (pc1 := 181) rfl rfl ?_
    refine w_t (a := 192) (b := 184) rfl rfl rfl ?_
    refine w_p (pc1 := 193) rfl rfl ?_
    refine w_p (pc1 := 194) rfl rfl ?_
    refine w_m0 (pc1 := 197) rfl rfl (h_pJ (j := 7) rfl rfl rfl rfl rfl rfl rfl ⟨rfl, rfl⟩ rfl) rfl ?_
    refine w_p (pc1 := 198) rfl rfl ?_
    refine w_p (pc1 := 199) rfl rfl ?_
    refine w_m0 (pc1 := 202) (st1 := .int (nI (k)) :: _) rfl rfl (h_gIe rfl rfl rfl rfl rfl (rfl)) rfl ?_
    refine w_p (pc1 := 203) rfl rfl ?_
    refine w_t (a := 210) (b := 206) rfl rfl rfl ?_
    refine w_p (pc1 := 211) (st1 := .int 1 :: _) rfl rfl ?_
    refine w_iadd (pc1 := 212) (u := nI (k)) (v := nI (1)) (z := nI (k + 1)) rfl (nK_add) rfl ?_
    refine w_m0 (pc1 := 215) rfl rfl (h_pI (j := 6) rfl rfl rfl rfl rfl rfl rfl ⟨rfl, rfl⟩ rfl) rfl ?_
    refine w_p (pc1 := 216) rfl rfl ?_
    refine w_je (pc1 := 219) (vs := [.int (nI (B k))]) (rest := []) (st1 := [.int 0]) (m_204f (d := _) (sl := 0) hb hs) rfl rfl rfl (fun _ _ => rfl) rfl (by exact cl_s my_204 rfl rfl rfl (Nat.le_of_ble_eq_true rfl) rfl rfl) (by rfl) (Nat.le_of_ble_eq_true rfl) (Nat.le_of_ble_eq_true rfl) rfl (by rfl) ?_
    refine w_f (a := 227) (b := 222) rfl rfl rfl ?_
    refine w_p (pc1 := 223) rfl rfl ?_
    refine w_p (pc1 := 224) (st1 := .int 1 :: _) rfl rfl ?_
    refine w_je (pc1 := 227) (vs := [.ref 176, .int 1]) (rest := []) (st1 := []) (m_200 (d := _) (sl := 0) hL) rfl rfl rfl (fun _ _ => rfl) rfl (by exact cl_v my_200 rfl rfl rfl (Nat.le_of_ble_eq_true rfl) rfl (MH_obj rfl rfl) rfl (by decide) rfl rfl) (by rfl) (Nat.le_of_ble_eq_true rfl) (Nat.le_of_ble_eq_true rfl) rfl (by rfl) ?_
    refine w_r rfl rfl rfl (fun _ _ => rfl) rfl ?_
    exact ⟨rfl, rfl, rfl⟩
set_option maxRecDepth 100000 in
theorem nx_A {k : Nat} (T : tpM C B n) (hO : flO C n z) (hz : z ≤ k) (hk2 : k ≤ 601) : Wd L xs (d + 3) y_195 (47, [(0, .ref 176)], [], MH (sI C 76 3 (nI k)) t, sl) (Rt none (MH (nxM B n C k) t) sl) nX := by
  by_cases hn : k < n
  · cases hl : isL (B k) with
    | true => exact nx_L T hO hz hn hl
    | false =>
      cases hg : isF (B k) with
      | true => exact nx_F T hO hz hn hl hg
      | false =>
        by_cases h60 : B k = 60
        · by_cases h61 : bt B n (k + 1) = 61
          · exact nx_S1 T hO hz hn hl hg h60 h61
          · exact nx_S2 T hO hz hn hl hg h60 h61
        · by_cases h62 : B k = 62
          · by_cases h61 : bt B n (k + 1) = 61
            · exact nx_S3 T hO hz hn hl hg h60 h62 h61
            · exact nx_S4 T hO hz hn hl hg h60 h62 h61
          · exact nx_S5 T hO hz hn hl hg h60 h62
  · exact nx_E T hO hz (by omega) hk2
set_option maxRecDepth 100000 in
theorem lp_195 (T : tpM C B n) (hO : flO C n z) : ∀ f k : Nat, k + f = n → z ≤ k → Wd L xs (d + 3) y_195 (8, [(0, .ref 176)], [], MH (sI C 76 3 (nI k)) t, sl) (Rt none (MH (nxM B n C (adv (atW B n) f k)) t) sl) nX
  | 0, k, hf, hz => by
    have h6 := T.2.1
    have T2 : tpM (sI C 76 3 (nI k)) B n := T
    have hb0 : bt B n k = 0 := by rw [bt, if_neg (by omega)]
    rw [adv]
    refine w_p (pc1 := 9) rfl rfl ?_
    refine w_p (pc1 := 10) rfl rfl ?_
    refine w_m0 (pc1 := 13) (st1 := .int (nI (k)) :: _) rfl rfl (h_gIe rfl rfl rfl rfl rfl (rfl)) rfl ?_
    refine w_je (pc1 := 16) (vs := [.ref 176, .int (nI (k))]) (rest := []) (st1 := [.int (nI (bt B n k))]) (m_196 (d := _) (sl := 0) (p := k) T2 (by omega)) rfl rfl rfl (fun _ _ => rfl) rfl (by exact cl_v my_196 rfl rfl rfl (Nat.le_of_ble_eq_true rfl) rfl (MH_obj rfl rfl) rfl (by decide) rfl rfl) (by rfl) (Nat.le_of_ble_eq_true rfl) (Nat.le_of_ble_eq_true rfl) rfl (by rfl) ?_
    refine w_p (pc1 := 18) (st1 := .int 32 :: _) rfl rfl ?_
    refine w_f (a := 34) (b := 21) (bN_eq_f (a := bt B n k) (b := 32) (by omega) (by omega) (by rw [hb0]; decide)) rfl rfl ?_
    refine w_p (pc1 := 22) rfl rfl ?_
    refine w_p (pc1 := 23) rfl rfl ?_
    refine w_m0 (pc1 := 26) (st1 := .int (nI (k)) :: _) rfl rfl (h_gIe rfl rfl rfl rfl rfl (rfl)) rfl ?_
    refine w_je (pc1 := 29) (vs := [.ref 176, .int (nI (k))]) (rest := []) (st1 := [.int (nI (bt B n k))]) (m_196 (d := _) (sl := 0) (p := k) T2 (by omega)) rfl rfl rfl (fun _ _ => rfl) rfl (by exact cl_v my_196 rfl rfl rfl (Nat.le_of_ble_eq_true rfl) rfl (MH_obj rfl rfl) rfl (by decide) rfl rfl) (by rfl) (Nat.le_of_ble_eq_true rfl) (Nat.le_of_ble_eq_true rfl) rfl (by rfl) ?_
    refine w_p (pc1 := 31) (st1 := .int 10 :: _) rfl rfl ?_
    refine w_t (a := 47) (b := 34) (bN_ne_t (a := bt B n k) (b := 10) (by omega) (by omega) (by rw [hb0]; decide)) rfl rfl ?_
    exact nx_A T hO hz (by omega)
  | f + 1, k, hf, hz => by
    have h6 := T.2.1
    have T2 : tpM (sI C 76 3 (nI k)) B n := T
    have hn : k < n := by omega
    have hb := (T.2.2 k hn).1
    have hbt : bt B n k = B k := by rw [bt, if_pos hn]
    by_cases h32 : B k = 32
    · rw [adv, show atW B n k = true by simp [atW, isW, hn, h32], cond_true]
      refine w_p (pc1 := 9) rfl rfl ?_
      refine w_p (pc1 := 10) rfl rfl ?_
      refine w_m0 (pc1 := 13) (st1 := .int (nI (k)) :: _) rfl rfl (h_gIe rfl rfl rfl rfl rfl (rfl)) rfl ?_
      refine w_je (pc1 := 16) (vs := [.ref 176, .int (nI (k))]) (rest := []) (st1 := [.int (nI (bt B n k))]) (m_196 (d := _) (sl := 0) (p := k) T2 (by omega)) rfl rfl rfl (fun _ _ => rfl) rfl (by exact cl_v my_196 rfl rfl rfl (Nat.le_of_ble_eq_true rfl) rfl (MH_obj rfl rfl) rfl (by decide) rfl rfl) (by rfl) (Nat.le_of_ble_eq_true rfl) (Nat.le_of_ble_eq_true rfl) rfl (by rfl) ?_
      refine w_p (pc1 := 18) (st1 := .int 32 :: _) rfl rfl ?_
      refine w_t (a := 34) (b := 21) (bN_eq_t (a := bt B n k) (b := 32) (by omega) (by omega) (by rw [hbt]; exact h32)) rfl rfl ?_
      refine w_p (pc1 := 35) rfl rfl ?_
      refine w_p (pc1 := 36) rfl rfl ?_
      refine w_m0 (pc1 := 39) (st1 := .int (nI (k)) :: _) rfl rfl (h_gIe rfl rfl rfl rfl rfl (rfl)) rfl ?_
      refine w_p (pc1 := 40) (st1 := .int 1 :: _) rfl rfl ?_
      refine w_iadd (pc1 := 41) (u := nI (k)) (v := nI (1)) (z := nI (k + 1)) rfl (nK_add) rfl ?_
      refine w_m0 (pc1 := 44) rfl rfl (h_pI (j := 3) rfl rfl rfl rfl rfl rfl rfl ⟨rfl, rfl⟩ rfl) rfl ?_
      refine w_p (pc1 := 8) rfl rfl ?_
      rw [sI_sI]
      exact lp_195 T hO f (k + 1) (by omega) (by omega)
    · by_cases h10 : B k = 10
      · rw [adv, show atW B n k = true by simp [atW, isW, hn, h10], cond_true]
        refine w_p (pc1 := 9) rfl rfl ?_
        refine w_p (pc1 := 10) rfl rfl ?_
        refine w_m0 (pc1 := 13) (st1 := .int (nI (k)) :: _) rfl rfl (h_gIe rfl rfl rfl rfl rfl (rfl)) rfl ?_
        refine w_je (pc1 := 16) (vs := [.ref 176, .int (nI (k))]) (rest := []) (st1 := [.int (nI (bt B n k))]) (m_196 (d := _) (sl := 0) (p := k) T2 (by omega)) rfl rfl rfl (fun _ _ => rfl) rfl (by exact cl_v my_196 rfl rfl rfl (Nat.le_of_ble_eq_true rfl) rfl (MH_obj rfl rfl) rfl (by decide) rfl rfl) (by rfl) (Nat.le_of_ble_eq_true rfl) (Nat.le_of_ble_eq_true rfl) rfl (by rfl) ?_
        refine w_p (pc1 := 18) (st1 := .int 32 :: _) rfl rfl ?_
        refine w_f (a := 34) (b := 21) (bN_eq_f (a := bt B n k) (b := 32) (by omega) (by omega) (by rw [hbt]; exact h32)) rfl rfl ?_
        refine w_p (pc1 := 22) rfl rfl ?_
        refine w_p (pc1 := 23) rfl rfl ?_
        refine w_m0 (pc1 := 26) (st1 := .int (nI (k)) :: _) rfl rfl (h_gIe rfl rfl rfl rfl rfl (rfl)) rfl ?_
        refine w_je (pc1 := 29) (vs := [.ref 176, .int (nI (k))]) (rest := []) (st1 := [.int (nI (bt B n k))]) (m_196 (d := _) (sl := 0) (p := k) T2 (by omega)) rfl rfl rfl (fun _ _ => rfl) rfl (by exact cl_v my_196 rfl rfl rfl (Nat.le_of_ble_eq_true rfl) rfl (MH_obj rfl rfl) rfl (by decide) rfl rfl) (by rfl) (Nat.le_of_ble_eq_true rfl) (Nat.le_of_ble_eq_true rfl) rfl (by rfl) ?_
        refine w_p (pc1 := 31) (st1 := .int 10 :: _) rfl rfl ?_
        refine w_f (a := 47) (b := 34) (bN_ne_f (a := bt B n k) (b := 10) (by omega) (by omega) (by rw [hbt]; exact h10)) rfl rfl ?_
        refine w_p (pc1 := 35) rfl rfl ?_
        refine w_p (pc1 := 36) rfl rfl ?_
        refine w_m0 (pc1 := 39) (st1 := .int (nI (k)) :: _) rfl rfl (h_gIe rfl rfl rfl rfl rfl (rfl)) rfl ?_
        refine w_p (pc1 := 40) (st1 := .int 1 :: _) rfl rfl ?_
        refine w_iadd (pc1 := 41) (u := nI (k)) (v := nI (1)) (z := nI (k + 1)) rfl (nK_add) rfl ?_
        refine w_m0 (pc1 := 44) rfl rfl (h_pI (j := 3) rfl rfl rfl rfl rfl rfl rfl ⟨rfl, rfl⟩ rfl) rfl ?_
        refine w_p (pc1 := 8) rfl rfl ?_
        rw [sI_sI]
        exact lp_195 T hO f (k + 1) (by omega) (by omega)
      · rw [adv, show atW B n k = false by simp [atW, isW, h32, h10], cond_false]
        refine w_p (pc1 := 9) rfl rfl ?_
        refine w_p (pc1 := 10) rfl rfl ?_
        refine w_m0 (pc1 := 13) (st1 := .int (nI (k)) :: _) rfl rfl (h_gIe rfl rfl rfl rfl rfl (rfl)) rfl ?_
        refine w_je (pc1 := 16) (vs := [.ref 176, .int (nI (k))]) (rest := []) (st1 := [.int (nI (bt B n k))]) (m_196 (d := _) (sl := 0) (p := k) T2 (by omega)) rfl rfl rfl (fun _ _ => rfl) rfl (by exact cl_v my_196 rfl rfl rfl (Nat.le_of_ble_eq_true rfl) rfl (MH_obj rfl rfl) rfl (by decide) rfl rfl) (by rfl) (Nat.le_of_ble_eq_true rfl) (Nat.le_of_ble_eq_true rfl) rfl (by rfl) ?_
        refine w_p (pc1 := 18) (st1 := .int 32 :: _) rfl rfl ?_
        refine w_f (a := 34) (b := 21) (bN_eq_f (a := bt B n k) (b := 32) (by omega) (by omega) (by rw [hbt]; exact h32)) rfl rfl ?_
        refine w_p (pc1 := 22) rfl rfl ?_
        refine w_p (pc1 := 23) rfl rfl ?_
        refine w_m0 (pc1 := 26) (st1 := .int (nI (k)) :: _) rfl rfl (h_gIe rfl rfl rfl rfl rfl (rfl)) rfl ?_
        refine w_je (pc1 := 29) (vs := [.ref 176, .int (nI (k))]) (rest := []) (st1 := [.int (nI (bt B n k))]) (m_196 (d := _) (sl := 0) (p := k) T2 (by omega)) rfl rfl rfl (fun _ _ => rfl) rfl (by exact cl_v my_196 rfl rfl rfl (Nat.le_of_ble_eq_true rfl) rfl (MH_obj rfl rfl) rfl (by decide) rfl rfl) (by rfl) (Nat.le_of_ble_eq_true rfl) (Nat.le_of_ble_eq_true rfl) rfl (by rfl) ?_
        refine w_p (pc1 := 31) (st1 := .int 10 :: _) rfl rfl ?_
        refine w_t (a := 47) (b := 34) (bN_ne_t (a := bt B n k) (b := 10) (by omega) (by omega) (by rw [hbt]; exact h10)) rfl rfl ?_
        exact nx_A T hO hz (by omega)
set_option maxRecDepth 100000 in
theorem m_195 (T : tpM C B n) (hz : C.1 76 6 = nI z) (hn : z ≤ n) (hO : flO C n z) : Wd L xs (d + 3) y_195 (0, [(0, .ref 176)], [], MH C t, sl) (Rt none (MH (nxM B n C (blk B n z)) t) sl) nX := by
  refine w_p (pc1 := 1) rfl rfl ?_
  refine w_p (pc1 := 2) rfl rfl ?_
  refine w_m0 (pc1 := 5) (st1 := .int (nI (z)) :: _) rfl rfl (h_gIe rfl rfl rfl rfl rfl (hz)) rfl ?_
  refine w_m0 (pc1 := 8) rfl rfl (h_pI (j := 3) rfl rfl rfl rfl rfl rfl rfl ⟨rfl, rfl⟩ rfl) rfl ?_
  exact lp_195 T hO (n - z) z (by omega) (Nat.le_refl _)
end MT3
