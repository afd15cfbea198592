/-! THE OTHER SIDE'S FORMULAS, 7: names -/
section MNM
variable {L : Nat} {xs : Nat → Int32} {t : ab_H} {d sl n p b wb e f : Nat} {B : Nat → Nat} {C0 C : co_T} {s y z : fs_T} {W : List (Int32 × Int64)} {c : Int32} {i : Nat}
set_option maxRecDepth 100000 in
theorem lp_213 {a : Int64} {q w : Nat} (hb : q < 6) (hw : C.1 80 q = nI w) (h6 : w ≤ 6) : ∀ m k : Nat, k + m = w → Wd L xs d y_213 (3, [(4, .int (nI k)), (0, .ref 176), (1, .int (nI q)), (2, .long a)], [], MH C t, sl) (Rt (some (.int (fnd (fun j => decide (C.2.1 81 (6 * q + j) = a)) m k))) (MH C t) sl) nX
  | 0, k, hk => by
    obtain rfl : k = w := by omega
    refine w_p (pc1 := 5) rfl rfl ?_
    refine w_p (pc1 := 6) rfl rfl ?_
    refine w_m0 (pc1 := 9) rfl rfl (h_gC rfl rfl rfl rfl) rfl ?_
    refine w_p (pc1 := 10) rfl rfl ?_
    refine w_m0 (pc1 := 11) (st1 := .int (nI (k)) :: _) rfl rfl (n_ile (e := q) rfl rfl rfl (by omega) (hw)) rfl ?_
    refine w_t (a := 40) (b := 14) (bN_ge_t (a := k) (b := k) (by omega) (by omega) (by omega)) rfl rfl ?_
    refine w_p (pc1 := 41) (st1 := .int (-1) :: _) rfl rfl ?_
    refine w_r rfl rfl rfl (fun _ _ => rfl) cr_int ?_
    exact ⟨rfl, rfl, rfl⟩
  | m + 1, k, hk => by
    by_cases ha : C.2.1 81 (6 * q + k) = a
    · rw [fnd, decide_eq_true ha, cond_true]
      refine w_p (pc1 := 5) rfl rfl ?_
      refine w_p (pc1 := 6) rfl rfl ?_
      refine w_m0 (pc1 := 9) rfl rfl (h_gC rfl rfl rfl rfl) rfl ?_
      refine w_p (pc1 := 10) rfl rfl ?_
      refine w_m0 (pc1 := 11) (st1 := .int (nI (w)) :: _) rfl rfl (n_ile (e := q) rfl rfl rfl (by omega) (hw)) rfl ?_
      refine w_f (a := 40) (b := 14) (bN_ge_f (a := k) (b := w) (by omega) (by omega) (by omega)) rfl rfl ?_
      refine w_p (pc1 := 15) rfl rfl ?_
      refine w_m0 (pc1 := 18) rfl rfl (h_gC rfl rfl rfl rfl) rfl ?_
      refine w_p (pc1 := 20) (st1 := .int 6 :: _) rfl rfl ?_
      refine w_p (pc1 := 21) rfl rfl ?_
      refine w_imul (pc1 := 22) (u := nI (6)) (v := nI (q)) (z := nI (6 * q)) rfl (nK_mul) rfl ?_
      refine w_p (pc1 := 24) rfl rfl ?_
      refine w_iadd (pc1 := 25) (u := nI (6 * q)) (v := nI (k)) (z := nI (6 * q + k)) rfl (nK_add) rfl ?_
      refine w_m0 (pc1 := 26) rfl rfl (n_ll (e := 6 * q + k) rfl rfl rfl (by omega)) rfl ?_
      refine w_p (pc1 := 27) rfl rfl ?_
      refine w_p (pc1 := 28) rfl rfl ?_
      refine w_f (a := 34) (b := 31) (lb_ne_f (by exact ha)) rfl rfl ?_
      refine w_p (pc1 := 33) rfl rfl ?_
      refine w_r rfl rfl rfl (fun _ _ => rfl) cr_int ?_
      exact ⟨rfl, rfl, rfl⟩
    · rw [fnd, decide_eq_false ha, cond_false]
      refine w_p (pc1 := 5) rfl rfl ?_
      refine w_p (pc1 := 6) rfl rfl ?_
      refine w_m0 (pc1 := 9) rfl rfl (h_gC rfl rfl rfl rfl) rfl ?_
      refine w_p (pc1 := 10) rfl rfl ?_
      refine w_m0 (pc1 := 11) (st1 := .int (nI (w)) :: _) rfl rfl (n_ile (e := q) rfl rfl rfl (by omega) (hw)) rfl ?_
      refine w_f (a := 40) (b := 14) (bN_ge_f (a := k) (b := w) (by omega) (by omega) (by omega)) rfl rfl ?_
      refine w_p (pc1 := 15) rfl rfl ?_
      refine w_m0 (pc1 := 18) rfl rfl (h_gC rfl rfl rfl rfl) rfl ?_
      refine w_p (pc1 := 20) (st1 := .int 6 :: _) rfl rfl ?_
      refine w_p (pc1 := 21) rfl rfl ?_
      refine w_imul (pc1 := 22) (u := nI (6)) (v := nI (q)) (z := nI (6 * q)) rfl (nK_mul) rfl ?_
      refine w_p (pc1 := 24) rfl rfl ?_
      refine w_iadd (pc1 := 25) (u := nI (6 * q)) (v := nI (k)) (z := nI (6 * q + k)) rfl (nK_add) rfl ?_
      refine w_m0 (pc1 := 26) rfl rfl (n_ll (e := 6 * q + k) rfl rfl rfl (by omega)) rfl ?_
      refine w_p (pc1 := 27) rfl rfl ?_
      refine w_p (pc1 := 28) rfl rfl ?_
      refine w_t (a := 34) (b := 31) (lb_ne_t (by exact ha)) rfl rfl ?_
      refine w_iinc (pc1 := 37) (u := nI (k)) (z := nI (k + 1)) (al1 := [(4, .int (nI (k + 1))), (0, .ref 176), (1, .int (nI (q))), (2, .long (a))]) rfl rfl rfl nK_1 rfl rfl ?_
      refine w_p (pc1 := 3) rfl rfl ?_
      exact lp_213 hb hw h6 m (k + 1) (by omega)
set_option maxRecDepth 100000 in
theorem m_213 {a : Int64} {q w : Nat} (hb : q < 6) (hw : C.1 80 q = nI w) (h6 : w ≤ 6) : Wd L xs d y_213 (0, [(0, .ref 176), (1, .int (nI q)), (2, .long a)], [], MH C t, sl) (Rt (some (.int (fnd (fun j => decide (C.2.1 81 (6 * q + j) = a)) w 0))) (MH C t) sl) nX := by
  refine w_p (pc1 := 1) (st1 := .int 0 :: _) rfl rfl ?_
  refine w_p (pc1 := 3) (al1 := [(4, .int 0), (0, .ref 176), (1, .int (nI (q))), (2, .long (a))]) rfl rfl ?_
  exact lp_213 hb hw h6 w 0 (by omega)
set_option maxRecDepth 100000 in
theorem iN (M : MK B n C0 C p b wb e s W) (hk : kd B n s.1 = 3) : Wd L xs d y_207 (0, [(0, .ref 176)], [], MH C t, 0) (Rt (some (.int 1)) (MH C t) 0) nX := by
  refine w_p (pc1 := 1) rfl rfl ?_
  refine w_m0 (pc1 := 4) (st1 := .int 0 :: _) rfl rfl (h_gIe (j := 8) rfl rfl rfl rfl rfl (M.2.1.2.1)) rfl ?_
  refine w_f (a := 20) (b := 7) rfl rfl rfl ?_
  refine w_p (pc1 := 8) rfl rfl ?_
  refine w_m0 (pc1 := 11) (st1 := .int 1 :: _) rfl rfl (h_gIe (j := 4) rfl rfl rfl rfl rfl (by rw [M.2.1.2.2.1, hk]; rfl)) rfl ?_
  refine w_p (pc1 := 12) (st1 := .int 1 :: _) rfl rfl ?_
  refine w_t (a := 20) (b := 15) rfl rfl rfl ?_
  refine w_p (pc1 := 21) rfl rfl ?_
  refine w_m0 (pc1 := 24) (st1 := .int 0 :: _) rfl rfl (h_gIe (j := 8) rfl rfl rfl rfl rfl (M.2.1.2.1)) rfl ?_
  refine w_f (a := 31) (b := 27) rfl rfl rfl ?_
  refine w_p (pc1 := 28) (st1 := .int 1 :: _) rfl rfl ?_
  refine w_p (pc1 := 32) rfl rfl ?_
  refine w_r rfl rfl rfl (fun _ _ => rfl) rfl ?_
  exact ⟨rfl, rfl, rfl⟩
set_option maxRecDepth 100000 in
theorem iE (M : MK B n C0 C p b wb e s W) (hk : kd B n s.1 ≠ 3) : Wd L xs (d + 2) y_207 (0, [(0, .ref 176)], [], MH C t, 0) (RFM B n C0 t p b wb 0 (some (.int 0)) 2 s.1) nX := by
  have hF := FM_new (c := 2) M (by decide)
  refine w_p (pc1 := 1) rfl rfl ?_
  refine w_m0 (pc1 := 4) (st1 := .int 0 :: _) rfl rfl (h_gIe (j := 8) rfl rfl rfl rfl rfl (M.2.1.2.1)) rfl ?_
  refine w_f (a := 20) (b := 7) rfl rfl rfl ?_
  refine w_p (pc1 := 8) rfl rfl ?_
  refine w_m0 (pc1 := 11) rfl rfl (h_gI (j := 4) rfl rfl rfl rfl rfl) rfl ?_
  refine w_p (pc1 := 12) (st1 := .int 1 :: _) rfl rfl ?_
  refine w_f (a := 20) (b := 15) (cb_eq_f (by exact fun z => hk ((nm_k M.2.1).1.mp z))) rfl rfl ?_
  refine w_p (pc1 := 16) rfl rfl ?_
  refine w_p (pc1 := 17) (st1 := .int 2 :: _) rfl rfl ?_
  refine w_je (pc1 := 20) (vs := [.ref 176, .int 2]) (rest := []) (st1 := []) (m_200 (d := _) (sl := 0) (fun z => absurd M.2.1.2.1 z)) rfl rfl rfl (fun _ _ => rfl) rfl (by exact cl_v my_200 rfl rfl rfl (Nat.le_of_ble_eq_true rfl) rfl (MH_obj rfl rfl) rfl (by decide) rfl rfl) (by rfl) (Nat.le_of_ble_eq_true rfl) (Nat.le_of_ble_eq_true rfl) rfl (by rfl) ?_
  refine w_p (pc1 := 21) rfl rfl ?_
  refine w_m0 (pc1 := 24) rfl rfl (h_gI (j := 8) rfl rfl rfl rfl rfl) rfl ?_
  refine w_t (a := 31) (b := 27) (cb_ne_t (by rw [hF.1.2.1]; decide)) rfl rfl ?_
  refine w_p (pc1 := 32) (st1 := .int 0 :: _) rfl rfl ?_
  refine w_r rfl rfl rfl (fun _ _ => rfl) rfl ?_
  exact ⟨rfl, ⟨_, hF, rfl⟩, rfl⟩
set_option maxRecDepth 100000 in
theorem iF {g : Nat} (F : FM B n C0 C p b wb g c i) : Wd L xs d y_207 (0, [(0, .ref 176)], [], MH C t, 0) (Rt (some (.int 0)) (MH C t) 0) nX := by
  have h0 : C.1 76 8 ≠ 0 := by rw [F.1.2.1]; exact F.1.1
  refine w_p (pc1 := 1) rfl rfl ?_
  refine w_m0 (pc1 := 4) rfl rfl (h_gI (j := 8) rfl rfl rfl rfl rfl) rfl ?_
  refine w_t (a := 20) (b := 7) (cb_ne_t (by exact h0)) rfl rfl ?_
  refine w_p (pc1 := 21) rfl rfl ?_
  refine w_m0 (pc1 := 24) rfl rfl (h_gI (j := 8) rfl rfl rfl rfl rfl) rfl ?_
  refine w_t (a := 31) (b := 27) (cb_ne_t (by exact h0)) rfl rfl ?_
  refine w_p (pc1 := 32) (st1 := .int 0 :: _) rfl rfl ?_
  refine w_r rfl rfl rfl (fun _ _ => rfl) rfl ?_
  exact ⟨rfl, rfl, rfl⟩
set_option maxRecDepth 100000 in
theorem gx_er (M : MK B n C0 C p b wb (e + 1) s W) (he : e < 9) (k4 : kd B n s.1 ≠ 4) (k27 : kd B n s.1 ≠ 27) (k3 : kd B n s.1 ≠ 3) (k24 : kd B n s.1 ≠ 24) (k28 : kd B n s.1 ≠ 28) (k57 : kd B n s.1 ≠ 57) (k44 : kd B n s.1 ≠ 44) : Wd L xs (d + 5) y_229 (0, [(0, .ref 176)], [], MH C t, 0) (RFM B n C0 t p b wb 0 (some (.int 1)) 2 s.1) nX := by
  refine w_p (pc1 := 1) rfl rfl ?_
  refine w_m0 (pc1 := 4) rfl rfl (h_gI (j := 4) rfl rfl rfl rfl rfl) rfl ?_
  refine w_p (pc1 := 5) (st1 := .int 2 :: _) rfl rfl ?_
  refine w_f (a := 18) (b := 8) (cb_eq_f (by exact fun z => k4 ((nm_k M.2.1).2.1.mp z))) rfl rfl ?_
  refine w_p (pc1 := 9) rfl rfl ?_
  refine w_m0 (pc1 := 12) (st1 := .long 1853189228 :: _) rfl rfl rfl rfl ?_
  refine w_je (pc1 := 15) (vs := [.ref 176, .long 1853189228]) (rest := []) (st1 := [.int 0]) (m_205f (d := _) (sl := 0) ((wd_k (k := 27) M.2.1 (by decide) (by decide)).trans (decide_eq_false k27))) rfl rfl rfl (fun _ _ => rfl) rfl (by exact cl_v my_205 rfl rfl rfl (Nat.le_of_ble_eq_true rfl) rfl (MH_obj rfl rfl) rfl (by decide) rfl rfl) (by rfl) (Nat.le_of_ble_eq_true rfl) (Nat.le_of_ble_eq_true rfl) rfl (by rfl) ?_
  refine w_t (a := 49) (b := 18) rfl rfl rfl ?_
  refine w_p (pc1 := 50) rfl rfl ?_
  refine w_p (pc1 := 52) (st1 := .int 45 :: _) rfl rfl ?_
  refine w_je (pc1 := 55) (vs := [.ref 176, .int 45]) (rest := []) (st1 := [.int 0]) (m_210f (d := _) (sl := 0) (c := 45) ((sg_k (k := 57) M.2.1 (by decide) (by decide)).trans (decide_eq_false k57))) rfl rfl rfl (fun _ _ => rfl) rfl (by exact cl_v my_210 rfl rfl rfl (Nat.le_of_ble_eq_true rfl) rfl (MH_obj rfl rfl) rfl (by decide) rfl rfl) (by rfl) (Nat.le_of_ble_eq_true rfl) (Nat.le_of_ble_eq_true rfl) rfl (by rfl) ?_
  refine w_t (a := 78) (b := 58) rfl rfl rfl ?_
  refine w_p (pc1 := 79) rfl rfl ?_
  refine w_p (pc1 := 81) (st1 := .int 40 :: _) rfl rfl ?_
  refine w_je (pc1 := 84) (vs := [.ref 176, .int 40]) (rest := []) (st1 := [.int 0]) (m_210f (d := _) (sl := 0) (c := 40) ((sg_k (k := 44) M.2.1 (by decide) (by decide)).trans (decide_eq_false k44))) rfl rfl rfl (fun _ _ => rfl) rfl (by exact cl_v my_210 rfl rfl rfl (Nat.le_of_ble_eq_true rfl) rfl (MH_obj rfl rfl) rfl (by decide) rfl rfl) (by rfl) (Nat.le_of_ble_eq_true rfl) (Nat.le_of_ble_eq_true rfl) rfl (by rfl) ?_
  refine w_t (a := 103) (b := 87) rfl rfl rfl ?_
  refine w_p (pc1 := 104) rfl rfl ?_
  refine w_m0 (pc1 := 107) (st1 := .long 7234935 :: _) rfl rfl rfl rfl ?_
  refine w_je (pc1 := 110) (vs := [.ref 176, .long 7234935]) (rest := []) (st1 := [.int 0]) (m_205f (d := _) (sl := 0) ((wd_k (k := 24) M.2.1 (by decide) (by decide)).trans (decide_eq_false k24))) rfl rfl rfl (fun _ _ => rfl) rfl (by exact cl_v my_205 rfl rfl rfl (Nat.le_of_ble_eq_true rfl) rfl (MH_obj rfl rfl) rfl (by decide) rfl rfl) (by rfl) (Nat.le_of_ble_eq_true rfl) (Nat.le_of_ble_eq_true rfl) rfl (by rfl) ?_
  refine w_f (a := 123) (b := 113) rfl rfl rfl ?_
  refine w_p (pc1 := 114) rfl rfl ?_
  refine w_m0 (pc1 := 117) (st1 := .long 7302244 :: _) rfl rfl rfl rfl ?_
  refine w_je (pc1 := 120) (vs := [.ref 176, .long 7302244]) (rest := []) (st1 := [.int 0]) (m_205f (d := _) (sl := 0) ((wd_k (k := 28) M.2.1 (by decide) (by decide)).trans (decide_eq_false k28))) rfl rfl rfl (fun _ _ => rfl) rfl (by exact cl_v my_205 rfl rfl rfl (Nat.le_of_ble_eq_true rfl) rfl (MH_obj rfl rfl) rfl (by decide) rfl rfl) (by rfl) (Nat.le_of_ble_eq_true rfl) (Nat.le_of_ble_eq_true rfl) rfl (by rfl) ?_
  refine w_t (a := 136) (b := 123) rfl rfl rfl ?_
  refine w_p (pc1 := 137) rfl rfl ?_
  refine w_ji (pc1 := 140) (vs := [.ref 176]) (rest := []) (iE (d := _) M k3) rfl rfl rfl (fun _ _ => rfl) rfl (by exact cl_v my_207 rfl rfl rfl (Nat.le_of_ble_eq_true rfl) rfl (MH_obj rfl rfl) rfl (by decide) rfl rfl) (by rfl) (Nat.le_of_ble_eq_true rfl) (Nat.le_of_ble_eq_true rfl) rfl (fun v h1 d1 hq => ?_) (fun _ _ _ e => e.elim)
  rcases hq with ⟨hv, ⟨C1, F1, hh⟩, hn⟩
  · subst hv; subst hh; subst hn
    refine w_f (a := 145) (b := 143) rfl rfl rfl ?_
    refine w_p (pc1 := 144) (st1 := .int 1 :: _) rfl rfl ?_
    refine w_r rfl rfl rfl (fun _ _ => rfl) rfl ?_
    exact ⟨rfl, ⟨C1, F1, rfl⟩, rfl⟩
set_option maxRecDepth 100000 in
theorem gk_no (M : MK B n C0 C p b wb (e + 1) s W) (he : e < 9) (hk : kd B n s.1 = 3) (hx : C0.1 76 46 = -1) : Wd L xs (d + 5) y_229 (0, [(0, .ref 176)], [], MH C t, 0) (RFM B n C0 t p b wb 0 (some (.int 1)) 7 s.1) nX := by
  have hF := FM_new (c := 7) M (by decide)
  refine w_p (pc1 := 1) rfl rfl ?_
  refine w_m0 (pc1 := 4) (st1 := .int 1 :: _) rfl rfl (h_gIe (j := 4) rfl rfl rfl rfl rfl (by rw [M.2.1.2.2.1, hk]; rfl)) rfl ?_
  refine w_p (pc1 := 5) (st1 := .int 2 :: _) rfl rfl ?_
  refine w_f (a := 18) (b := 8) rfl rfl rfl ?_
  refine w_p (pc1 := 9) rfl rfl ?_
  refine w_m0 (pc1 := 12) (st1 := .long 1853189228 :: _) rfl rfl rfl rfl ?_
  refine w_je (pc1 := 15) (vs := [.ref 176, .long 1853189228]) (rest := []) (st1 := [.int 0]) (m_205f (d := _) (sl := 0) ((wd_k (k := 27) M.2.1 (by decide) (by decide)).trans (decide_eq_false (by rw [hk]; decide)))) rfl rfl rfl (fun _ _ => rfl) rfl (by exact cl_v my_205 rfl rfl rfl (Nat.le_of_ble_eq_true rfl) rfl (MH_obj rfl rfl) rfl (by decide) rfl rfl) (by rfl) (Nat.le_of_ble_eq_true rfl) (Nat.le_of_ble_eq_true rfl) rfl (by rfl) ?_
  refine w_t (a := 49) (b := 18) rfl rfl rfl ?_
  refine w_p (pc1 := 50) rfl rfl ?_
  refine w_p (pc1 := 52) (st1 := .int 45 :: _) rfl rfl ?_
  refine w_je (pc1 := 55) (vs := [.ref 176, .int 45]) (rest := []) (st1 := [.int 0]) (m_210f (d := _) (sl := 0) (c := 45) ((sg_k (k := 57) M.2.1 (by decide) (by decide)).trans (decide_eq_false (by rw [hk]; decide)))) rfl rfl rfl (fun _ _ => rfl) rfl (by exact cl_v my_210 rfl rfl rfl (Nat.le_of_ble_eq_true rfl) rfl (MH_obj rfl rfl) rfl (by decide) rfl rfl) (by rfl) (Nat.le_of_ble_eq_true rfl) (Nat.le_of_ble_eq_true rfl) rfl (by rfl) ?_
  refine w_t (a := 78) (b := 58) rfl rfl rfl ?_
  refine w_p (pc1 := 79) rfl rfl ?_
  refine w_p (pc1 := 81) (st1 := .int 40 :: _) rfl rfl ?_
  refine w_je (pc1 := 84) (vs := [.ref 176, .int 40]) (rest := []) (st1 := [.int 0]) (m_210f (d := _) (sl := 0) (c := 40) ((sg_k (k := 44) M.2.1 (by decide) (by decide)).trans (decide_eq_false (by rw [hk]; decide)))) rfl rfl rfl (fun _ _ => rfl) rfl (by exact cl_v my_210 rfl rfl rfl (Nat.le_of_ble_eq_true rfl) rfl (MH_obj rfl rfl) rfl (by decide) rfl rfl) (by rfl) (Nat.le_of_ble_eq_true rfl) (Nat.le_of_ble_eq_true rfl) rfl (by rfl) ?_
  refine w_t (a := 103) (b := 87) rfl rfl rfl ?_
  refine w_p (pc1 := 104) rfl rfl ?_
  refine w_m0 (pc1 := 107) (st1 := .long 7234935 :: _) rfl rfl rfl rfl ?_
  refine w_je (pc1 := 110) (vs := [.ref 176, .long 7234935]) (rest := []) (st1 := [.int 0]) (m_205f (d := _) (sl := 0) ((wd_k (k := 24) M.2.1 (by decide) (by decide)).trans (decide_eq_false (by rw [hk]; decide)))) rfl rfl rfl (fun _ _ => rfl) rfl (by exact cl_v my_205 rfl rfl rfl (Nat.le_of_ble_eq_true rfl) rfl (MH_obj rfl rfl) rfl (by decide) rfl rfl) (by rfl) (Nat.le_of_ble_eq_true rfl) (Nat.le_of_ble_eq_true rfl) rfl (by rfl) ?_
  refine w_f (a := 123) (b := 113) rfl rfl rfl ?_
  refine w_p (pc1 := 114) rfl rfl ?_
  refine w_m0 (pc1 := 117) (st1 := .long 7302244 :: _) rfl rfl rfl rfl ?_
  refine w_je (pc1 := 120) (vs := [.ref 176, .long 7302244]) (rest := []) (st1 := [.int 0]) (m_205f (d := _) (sl := 0) ((wd_k (k := 28) M.2.1 (by decide) (by decide)).trans (decide_eq_false (by rw [hk]; decide)))) rfl rfl rfl (fun _ _ => rfl) rfl (by exact cl_v my_205 rfl rfl rfl (Nat.le_of_ble_eq_true rfl) rfl (MH_obj rfl rfl) rfl (by decide) rfl rfl) (by rfl) (Nat.le_of_ble_eq_true rfl) (Nat.le_of_ble_eq_true rfl) rfl (by rfl) ?_
  refine w_t (a := 136) (b := 123) rfl rfl rfl ?_
  refine w_p (pc1 := 137) rfl rfl ?_
  refine w_je (pc1 := 140) (vs := [.ref 176]) (rest := []) (st1 := [.int 1]) (iN (d := _) M hk) rfl rfl rfl (fun _ _ => rfl) rfl (by exact cl_v my_207 rfl rfl rfl (Nat.le_of_ble_eq_true rfl) rfl (MH_obj rfl rfl) rfl (by decide) rfl rfl) (by rfl) (Nat.le_of_ble_eq_true rfl) (Nat.le_of_ble_eq_true rfl) rfl (by rfl) ?_
  refine w_t (a := 145) (b := 143) rfl rfl rfl ?_
  refine w_p (pc1 := 146) rfl rfl ?_
  refine w_m0 (pc1 := 149) (st1 := .int (-1) :: _) rfl rfl (h_gIe (j := 46) rfl rfl rfl rfl rfl ((M.2.2.2.2.2.2.2.2.2.2.2.2.2.1 76 46 (by omega) (by omega) (by omega)).trans hx)) rfl ?_
  refine w_p (pc1 := 150) (st1 := .int (-1) :: _) rfl rfl ?_
  refine w_f (a := 162) (b := 153) rfl rfl rfl ?_
  refine w_p (pc1 := 154) rfl rfl ?_
  refine w_p (pc1 := 156) (st1 := .int 7 :: _) rfl rfl ?_
  refine w_je (pc1 := 159) (vs := [.ref 176, .int 7]) (rest := []) (st1 := []) (m_200 (d := _) (sl := 0) (fun z => absurd M.2.1.2.1 z)) rfl rfl rfl (fun _ _ => rfl) rfl (by exact cl_v my_200 rfl rfl rfl (Nat.le_of_ble_eq_true rfl) rfl (MH_obj rfl rfl) rfl (by decide) rfl rfl) (by rfl) (Nat.le_of_ble_eq_true rfl) (Nat.le_of_ble_eq_true rfl) rfl (by rfl) ?_
  refine w_p (pc1 := 196) rfl rfl ?_
  refine w_p (pc1 := 197) rfl rfl ?_
  refine w_ji (pc1 := 200) (vs := [.ref 176]) (rest := []) (nF (d := _) hF) rfl rfl rfl (fun _ _ => rfl) rfl (by exact cl_v my_195 rfl rfl rfl (Nat.le_of_ble_eq_true rfl) rfl (MH_obj rfl rfl) rfl (by decide) rfl rfl) (by rfl) (Nat.le_of_ble_eq_true rfl) (Nat.le_of_ble_eq_true rfl) rfl (fun v h1 d1 hq => ?_) (fun _ _ _ e => e.elim)
  rcases hq with ⟨hv, ⟨C1, F1, hh⟩, hn⟩
  · subst hv; subst hh; subst hn
    refine w_p (pc1 := 201) (st1 := .int 1 :: _) rfl rfl ?_
    refine w_r rfl rfl rfl (fun _ _ => rfl) rfl ?_
    exact ⟨rfl, ⟨C1, F1, rfl⟩, rfl⟩
set_option maxRecDepth 100000 in
theorem mr_w {q w : Nat} (M : MK B n C0 C p b wb e s W) (h : C0.1 80 q = nI w) : C.1 80 q = nI w := (M.2.2.2.2.2.2.2.2.2.2.2.2.2.1 80 q (by omega) (by omega) (by omega)).trans h
set_option maxRecDepth 100000 in
theorem mr_col {q w : Nat} {v : Int64} (M : MK B n C0 C p b wb e s W) : fnd (fun j => decide (C.2.1 81 (6 * q + j) = v)) w 0 = fnd (fun j => decide (C0.2.1 81 (6 * q + j) = v)) w 0 := by
  have h := M.2.2.2.2.2.2.2.2.2.2.2.2.2.2.1
  congr 1
  funext j
  rw [h 81 (6 * q + j) (by omega) (by omega) (by omega)]
set_option maxRecDepth 100000 in
theorem gk_un (M : MK B n C0 C p b wb (e + 1) s W) (he : e < 9) {q w : Nat} (hb : q < 6) (hw : w ≤ 6) (hx : C0.1 76 46 = nI q) (h8 : C0.1 80 q = nI w) (hk : kd B n s.1 = 3) (hg : fnd (fun j => decide (C0.2.1 81 (6 * q + j) = vl B n s.1)) w 0 = -1) : Wd L xs (d + 5) y_229 (0, [(0, .ref 176)], [], MH C t, 0) (RFM B n C0 t p b wb 2 (some (.int 1)) 4 s.1) nX := by
  have hF := FM_new (c := 4) M (by decide)
  rw [← mr_col M] at hg
  refine w_p (pc1 := 1) rfl rfl ?_
  refine w_m0 (pc1 := 4) (st1 := .int 1 :: _) rfl rfl (h_gIe (j := 4) rfl rfl rfl rfl rfl (by rw [M.2.1.2.2.1, hk]; rfl)) rfl ?_
  refine w_p (pc1 := 5) (st1 := .int 2 :: _) rfl rfl ?_
  refine w_f (a := 18) (b := 8) rfl rfl rfl ?_
  refine w_p (pc1 := 9) rfl rfl ?_
  refine w_m0 (pc1 := 12) (st1 := .long 1853189228 :: _) rfl rfl rfl rfl ?_
  refine w_je (pc1 := 15) (vs := [.ref 176, .long 1853189228]) (rest := []) (st1 := [.int 0]) (m_205f (d := _) (sl := 0) ((wd_k (k := 27) M.2.1 (by decide) (by decide)).trans (decide_eq_false (by rw [hk]; decide)))) rfl rfl rfl (fun _ _ => rfl) rfl (by exact cl_v my_205 rfl rfl rfl (Nat.le_of_ble_eq_true rfl) rfl (MH_obj rfl rfl) rfl (by decide) rfl rfl) (by rfl) (Nat.le_of_ble_eq_true rfl) (Nat.le_of_ble_eq_true rfl) rfl (by rfl) ?_
  refine w_t (a := 49) (b := 18) rfl rfl rfl ?_
  refine w_p (pc1 := 50) rfl rfl ?_
  refine w_p (pc1 := 52) (st1 := .int 45 :: _) rfl rfl ?_
  refine w_je (pc1 := 55) (vs := [.ref 176, .int 45]) (rest := []) (st1 := [.int 0]) (m_210f (d := _) (sl := 0) (c := 45) ((sg_k (k := 57) M.2.1 (by decide) (by decide)).trans (decide_eq_false (by rw [hk]; decide)))) rfl rfl rfl (fun _ _ => rfl) rfl (by exact cl_v my_210 rfl rfl rfl (Nat.le_of_ble_eq_true rfl) rfl (MH_obj rfl rfl) rfl (by decide) rfl rfl) (by rfl) (Nat.le_of_ble_eq_true rfl) (Nat.le_of_ble_eq_true rfl) rfl (by rfl) ?_
  refine w_t (a := 78) (b := 58) rfl rfl rfl ?_
  refine w_p (pc1 := 79) rfl rfl ?_
  refine w_p (pc1 := 81) (st1 := .int 40 :: _) rfl rfl ?_
  refine w_je (pc1 := 84) (vs := [.ref 176, .int 40]) (rest := []) (st1 := [.int 0]) (m_210f (d := _) (sl := 0) (c := 40) ((sg_k (k := 44) M.2.1 (by decide) (by decide)).trans (decide_eq_false (by rw [hk]; decide)))) rfl rfl rfl (fun _ _ => rfl) rfl (by exact cl_v my_210 rfl rfl rfl (Nat.le_of_ble_eq_true rfl) rfl (MH_obj rfl rfl) rfl (by decide) rfl rfl) (by rfl) (Nat.le_of_ble_eq_true rfl) (Nat.le_of_ble_eq_true rfl) rfl (by rfl) ?_
  refine w_t (a := 103) (b := 87) rfl rfl rfl ?_
  refine w_p (pc1 := 104) rfl rfl ?_
  refine w_m0 (pc1 := 107) (st1 := .long 7234935 :: _) rfl rfl rfl rfl ?_
  refine w_je (pc1 := 110) (vs := [.ref 176, .long 7234935]) (rest := []) (st1 := [.int 0]) (m_205f (d := _) (sl := 0) ((wd_k (k := 24) M.2.1 (by decide) (by decide)).trans (decide_eq_false (by rw [hk]; decide)))) rfl rfl rfl (fun _ _ => rfl) rfl (by exact cl_v my_205 rfl rfl rfl (Nat.le_of_ble_eq_true rfl) rfl (MH_obj rfl rfl) rfl (by decide) rfl rfl) (by rfl) (Nat.le_of_ble_eq_true rfl) (Nat.le_of_ble_eq_true rfl) rfl (by rfl) ?_
  refine w_f (a := 123) (b := 113) rfl rfl rfl ?_
  refine w_p (pc1 := 114) rfl rfl ?_
  refine w_m0 (pc1 := 117) (st1 := .long 7302244 :: _) rfl rfl rfl rfl ?_
  refine w_je (pc1 := 120) (vs := [.ref 176, .long 7302244]) (rest := []) (st1 := [.int 0]) (m_205f (d := _) (sl := 0) ((wd_k (k := 28) M.2.1 (by decide) (by decide)).trans (decide_eq_false (by rw [hk]; decide)))) rfl rfl rfl (fun _ _ => rfl) rfl (by exact cl_v my_205 rfl rfl rfl (Nat.le_of_ble_eq_true rfl) rfl (MH_obj rfl rfl) rfl (by decide) rfl rfl) (by rfl) (Nat.le_of_ble_eq_true rfl) (Nat.le_of_ble_eq_true rfl) rfl (by rfl) ?_
  refine w_t (a := 136) (b := 123) rfl rfl rfl ?_
  refine w_p (pc1 := 137) rfl rfl ?_
  refine w_je (pc1 := 140) (vs := [.ref 176]) (rest := []) (st1 := [.int 1]) (iN (d := _) M hk) rfl rfl rfl (fun _ _ => rfl) rfl (by exact cl_v my_207 rfl rfl rfl (Nat.le_of_ble_eq_true rfl) rfl (MH_obj rfl rfl) rfl (by decide) rfl rfl) (by rfl) (Nat.le_of_ble_eq_true rfl) (Nat.le_of_ble_eq_true rfl) rfl (by rfl) ?_
  refine w_t (a := 145) (b := 143) rfl rfl rfl ?_
  refine w_p (pc1 := 146) rfl rfl ?_
  refine w_m0 (pc1 := 149) (st1 := .int (nI (q)) :: _) rfl rfl (h_gIe (j := 46) rfl rfl rfl rfl rfl ((M.2.2.2.2.2.2.2.2.2.2.2.2.2.1 76 46 (by omega) (by omega) (by omega)).trans hx)) rfl ?_
  refine w_p (pc1 := 150) (st1 := .int (-1) :: _) rfl rfl ?_
  refine w_t (a := 162) (b := 153) (cb_ne_t (by exact nK_m1 (by omega))) rfl rfl ?_
  refine w_p (pc1 := 163) rfl rfl ?_
  refine w_p (pc1 := 164) rfl rfl ?_
  refine w_m0 (pc1 := 167) (st1 := .int (nI (q)) :: _) rfl rfl (h_gIe (j := 46) rfl rfl rfl rfl rfl ((M.2.2.2.2.2.2.2.2.2.2.2.2.2.1 76 46 (by omega) (by omega) (by omega)).trans hx)) rfl ?_
  refine w_p (pc1 := 168) rfl rfl ?_
  refine w_m0 (pc1 := 171) (st1 := .long (vl B n s.1) :: _) rfl rfl (h_gJe (j := 7) rfl rfl rfl rfl rfl (by rw [M.2.1.2.2.2.1, hk]; rfl)) rfl ?_
  refine w_je (pc1 := 174) (vs := [.ref 176, .int (nI (q)), .long (vl B n s.1)]) (rest := []) (st1 := [.int (fnd (fun j => decide (C.2.1 81 (6 * q + j) = vl B n s.1)) w 0)]) (m_213 (d := _) (sl := 0) hb (mr_w M h8) hw) rfl rfl rfl (fun _ _ => rfl) rfl (by exact cl_v my_213 rfl rfl rfl (Nat.le_of_ble_eq_true rfl) rfl (MH_obj rfl rfl) rfl (by decide) rfl rfl) (by rfl) (Nat.le_of_ble_eq_true rfl) (Nat.le_of_ble_eq_true rfl) rfl (by rfl) ?_
  refine w_p (pc1 := 175) (al1 := [(1, .int (fnd (fun j => decide (C.2.1 81 (6 * q + j) = vl B n s.1)) w 0)), (0, .ref 176)]) rfl rfl ?_
  refine w_p (pc1 := 176) rfl rfl ?_
  refine w_p (pc1 := 177) (st1 := .int (-1) :: _) rfl rfl ?_
  refine w_f (a := 185) (b := 180) (cb_ne_f (by exact hg)) rfl rfl ?_
  refine w_p (pc1 := 181) rfl rfl ?_
  refine w_p (pc1 := 182) (st1 := .int 4 :: _) rfl rfl ?_
  refine w_je (pc1 := 185) (vs := [.ref 176, .int 4]) (rest := []) (st1 := []) (m_200 (d := _) (sl := 0) (fun z => absurd M.2.1.2.1 z)) rfl rfl rfl (fun _ _ => rfl) rfl (by exact cl_v my_200 rfl rfl rfl (Nat.le_of_ble_eq_true rfl) rfl (MH_obj rfl rfl) rfl (by decide) rfl rfl) (by rfl) (Nat.le_of_ble_eq_true rfl) (Nat.le_of_ble_eq_true rfl) rfl (by rfl) ?_
  refine w_p (pc1 := 186) rfl rfl ?_
  refine w_ji (pc1 := 189) (vs := [.ref 176]) (rest := []) (dF (d := _) hF (by decide) (by omega)) rfl rfl rfl (fun _ _ => rfl) rfl (by exact cl_v my_226 rfl rfl rfl (Nat.le_of_ble_eq_true rfl) rfl (MH_obj rfl rfl) rfl (by decide) rfl rfl) (by rfl) (Nat.le_of_ble_eq_true rfl) (Nat.le_of_ble_eq_true rfl) rfl (fun v h1 d1 hq => ?_) (fun _ _ _ e => e.elim)
  rcases hq with ⟨hv, ⟨C1, F1, hh⟩, hn⟩
  · subst hv; subst hh; subst hn
    refine w_p (pc1 := 190) rfl rfl ?_
    refine w_p (pc1 := 191) (st1 := .int 3 :: _) rfl rfl ?_
    refine w_p (pc1 := 192) rfl rfl ?_
    refine w_p (pc1 := 193) rfl rfl ?_
    refine w_ji (pc1 := 196) (vs := [.ref 176, .int 3, _]) (rest := []) (sF (d := _) F1 (by omega)) rfl rfl rfl (fun _ _ => rfl) rfl (by exact cl_v my_230 rfl rfl rfl (Nat.le_of_ble_eq_true rfl) rfl (MH_obj rfl rfl) rfl (by decide) rfl rfl) (by rfl) (Nat.le_of_ble_eq_true rfl) (Nat.le_of_ble_eq_true rfl) rfl (fun v h1 d1 hq => ?_) (fun _ _ _ e => e.elim)
    rcases hq with ⟨hv, ⟨C2, F2, hh⟩, hn⟩
    · subst hv; subst hh; subst hn
      refine w_p (pc1 := 197) rfl rfl ?_
      refine w_ji (pc1 := 200) (vs := [.ref 176]) (rest := []) (nF (d := _) F2) rfl rfl rfl (fun _ _ => rfl) rfl (by exact cl_v my_195 rfl rfl rfl (Nat.le_of_ble_eq_true rfl) rfl (MH_obj rfl rfl) rfl (by decide) rfl rfl) (by rfl) (Nat.le_of_ble_eq_true rfl) (Nat.le_of_ble_eq_true rfl) rfl (fun v h1 d1 hq => ?_) (fun _ _ _ e => e.elim)
      rcases hq with ⟨hv, ⟨C3, F3, hh⟩, hn⟩
      · subst hv; subst hh; subst hn
        refine w_p (pc1 := 201) (st1 := .int 1 :: _) rfl rfl ?_
        refine w_r rfl rfl rfl (fun _ _ => rfl) rfl ?_
        exact ⟨rfl, ⟨C3, F3, rfl⟩, rfl⟩
set_option maxRecDepth 100000 in
theorem gk_er (M : MK B n C0 C p b wb (e + 1) s W) (he : e < 9) {q w : Nat} (hb : q < 6) (hw : w ≤ 6) (hx : C0.1 76 46 = nI q) (h8 : C0.1 80 q = nI w) (hk : kd B n s.1 = 3) (hg : fnd (fun j => decide (C0.2.1 81 (6 * q + j) = vl B n s.1)) w 0 ≠ -1) (h1 : spd s = .inl (c, i)) : Wd L xs (d + 5) y_229 (0, [(0, .ref 176)], [], MH C t, 0) (RFM B n C0 t p b wb 2 (some (.int 1)) c i) nX := by
  rw [← mr_col M] at hg
  refine w_p (pc1 := 1) rfl rfl ?_
  refine w_m0 (pc1 := 4) (st1 := .int 1 :: _) rfl rfl (h_gIe (j := 4) rfl rfl rfl rfl rfl (by rw [M.2.1.2.2.1, hk]; rfl)) rfl ?_
  refine w_p (pc1 := 5) (st1 := .int 2 :: _) rfl rfl ?_
  refine w_f (a := 18) (b := 8) rfl rfl rfl ?_
  refine w_p (pc1 := 9) rfl rfl ?_
  refine w_m0 (pc1 := 12) (st1 := .long 1853189228 :: _) rfl rfl rfl rfl ?_
  refine w_je (pc1 := 15) (vs := [.ref 176, .long 1853189228]) (rest := []) (st1 := [.int 0]) (m_205f (d := _) (sl := 0) ((wd_k (k := 27) M.2.1 (by decide) (by decide)).trans (decide_eq_false (by rw [hk]; decide)))) rfl rfl rfl (fun _ _ => rfl) rfl (by exact cl_v my_205 rfl rfl rfl (Nat.le_of_ble_eq_true rfl) rfl (MH_obj rfl rfl) rfl (by decide) rfl rfl) (by rfl) (Nat.le_of_ble_eq_true rfl) (Nat.le_of_ble_eq_true rfl) rfl (by rfl) ?_
  refine w_t (a := 49) (b := 18) rfl rfl rfl ?_
  refine w_p (pc1 := 50) rfl rfl ?_
  refine w_p (pc1 := 52) (st1 := .int 45 :: _) rfl rfl ?_
  refine w_je (pc1 := 55) (vs := [.ref 176, .int 45]) (rest := []) (st1 := [.int 0]) (m_210f (d := _) (sl := 0) (c := 45) ((sg_k (k := 57) M.2.1 (by decide) (by decide)).trans (decide_eq_false (by rw [hk]; decide)))) rfl rfl rfl (fun _ _ => rfl) rfl (by exact cl_v my_210 rfl rfl rfl (Nat.le_of_ble_eq_true rfl) rfl (MH_obj rfl rfl) rfl (by decide) rfl rfl) (by rfl) (Nat.le_of_ble_eq_true rfl) (Nat.le_of_ble_eq_true rfl) rfl (by rfl) ?_
  refine w_t (a := 78) (b := 58) rfl rfl rfl ?_
  refine w_p (pc1 := 79) rfl rfl ?_
  refine w_p (pc1 := 81) (st1 := .int 40 :: _) rfl rfl ?_
  refine w_je (pc1 := 84) (vs := [.ref 176, .int 40]) (rest := []) (st1 := [.int 0]) (m_210f (d := _) (sl := 0) (c := 40) ((sg_k (k := 44) M.2.1 (by decide) (by decide)).trans (decide_eq_false (by rw [hk]; decide)))) rfl rfl rfl (fun _ _ => rfl) rfl (by exact cl_v my_210 rfl rfl rfl (Nat.le_of_ble_eq_true rfl) rfl (MH_obj rfl rfl) rfl (by decide) rfl rfl) (by rfl) (Nat.le_of_ble_eq_true rfl) (Nat.le_of_ble_eq_true rfl) rfl (by rfl) ?_
  refine w_t (a := 103) (b := 87) rfl rfl rfl ?_
  refine w_p (pc1 := 104) rfl rfl ?_
  refine w_m0 (pc1 := 107) (st1 := .long 7234935 :: _) rfl rfl rfl rfl ?_
  refine w_je (pc1 := 110) (vs := [.ref 176, .long 7234935]) (rest := []) (st1 := [.int 0]) (m_205f (d := _) (sl := 0) ((wd_k (k := 24) M.2.1 (by decide) (by decide)).trans (decide_eq_false (by rw [hk]; decide)))) rfl rfl rfl (fun _ _ => rfl) rfl (by exact cl_v my_205 rfl rfl rfl (Nat.le_of_ble_eq_true rfl) rfl (MH_obj rfl rfl) rfl (by decide) rfl rfl) (by rfl) (Nat.le_of_ble_eq_true rfl) (Nat.le_of_ble_eq_true rfl) rfl (by rfl) ?_
  refine w_f (a := 123) (b := 113) rfl rfl rfl ?_
  refine w_p (pc1 := 114) rfl rfl ?_
  refine w_m0 (pc1 := 117) (st1 := .long 7302244 :: _) rfl rfl rfl rfl ?_
  refine w_je (pc1 := 120) (vs := [.ref 176, .long 7302244]) (rest := []) (st1 := [.int 0]) (m_205f (d := _) (sl := 0) ((wd_k (k := 28) M.2.1 (by decide) (by decide)).trans (decide_eq_false (by rw [hk]; decide)))) rfl rfl rfl (fun _ _ => rfl) rfl (by exact cl_v my_205 rfl rfl rfl (Nat.le_of_ble_eq_true rfl) rfl (MH_obj rfl rfl) rfl (by decide) rfl rfl) (by rfl) (Nat.le_of_ble_eq_true rfl) (Nat.le_of_ble_eq_true rfl) rfl (by rfl) ?_
  refine w_t (a := 136) (b := 123) rfl rfl rfl ?_
  refine w_p (pc1 := 137) rfl rfl ?_
  refine w_je (pc1 := 140) (vs := [.ref 176]) (rest := []) (st1 := [.int 1]) (iN (d := _) M hk) rfl rfl rfl (fun _ _ => rfl) rfl (by exact cl_v my_207 rfl rfl rfl (Nat.le_of_ble_eq_true rfl) rfl (MH_obj rfl rfl) rfl (by decide) rfl rfl) (by rfl) (Nat.le_of_ble_eq_true rfl) (Nat.le_of_ble_eq_true rfl) rfl (by rfl) ?_
  refine w_t (a := 145) (b := 143) rfl rfl rfl ?_
  refine w_p (pc1 := 146) rfl rfl ?_
  refine w_m0 (pc1 := 149) (st1 := .int (nI (q)) :: _) rfl rfl (h_gIe (j := 46) rfl rfl rfl rfl rfl ((M.2.2.2.2.2.2.2.2.2.2.2.2.2.1 76 46 (by omega) (by omega) (by omega)).trans hx)) rfl ?_
  refine w_p (pc1 := 150) (st1 := .int (-1) :: _) rfl rfl ?_
  refine w_t (a := 162) (b := 153) (cb_ne_t (by exact nK_m1 (by omega))) rfl rfl ?_
  refine w_p (pc1 := 163) rfl rfl ?_
  refine w_p (pc1 := 164) rfl rfl ?_
  refine w_m0 (pc1 := 167) (st1 := .int (nI (q)) :: _) rfl rfl (h_gIe (j := 46) rfl rfl rfl rfl rfl ((M.2.2.2.2.2.2.2.2.2.2.2.2.2.1 76 46 (by omega) (by omega) (by omega)).trans hx)) rfl ?_
  refine w_p (pc1 := 168) rfl rfl ?_
  refine w_m0 (pc1 := 171) (st1 := .long (vl B n s.1) :: _) rfl rfl (h_gJe (j := 7) rfl rfl rfl rfl rfl (by rw [M.2.1.2.2.2.1, hk]; rfl)) rfl ?_
  refine w_je (pc1 := 174) (vs := [.ref 176, .int (nI (q)), .long (vl B n s.1)]) (rest := []) (st1 := [.int (fnd (fun j => decide (C.2.1 81 (6 * q + j) = vl B n s.1)) w 0)]) (m_213 (d := _) (sl := 0) hb (mr_w M h8) hw) rfl rfl rfl (fun _ _ => rfl) rfl (by exact cl_v my_213 rfl rfl rfl (Nat.le_of_ble_eq_true rfl) rfl (MH_obj rfl rfl) rfl (by decide) rfl rfl) (by rfl) (Nat.le_of_ble_eq_true rfl) (Nat.le_of_ble_eq_true rfl) rfl (by rfl) ?_
  refine w_p (pc1 := 175) (al1 := [(1, .int (fnd (fun j => decide (C.2.1 81 (6 * q + j) = vl B n s.1)) w 0)), (0, .ref 176)]) rfl rfl ?_
  refine w_p (pc1 := 176) rfl rfl ?_
  refine w_p (pc1 := 177) (st1 := .int (-1) :: _) rfl rfl ?_
  refine w_t (a := 185) (b := 180) (cb_ne_t (by exact hg)) rfl rfl ?_
  refine w_p (pc1 := 186) rfl rfl ?_
  refine w_ji (pc1 := 189) (vs := [.ref 176]) (rest := []) (dE (d := _) M h1) rfl rfl rfl (fun _ _ => rfl) rfl (by exact cl_v my_226 rfl rfl rfl (Nat.le_of_ble_eq_true rfl) rfl (MH_obj rfl rfl) rfl (by decide) rfl rfl) (by rfl) (Nat.le_of_ble_eq_true rfl) (Nat.le_of_ble_eq_true rfl) rfl (fun v h1 d1 hq => ?_) (fun _ _ _ e => e.elim)
  rcases hq with ⟨hv, ⟨C1, F1, hh⟩, hn⟩
  · subst hv; subst hh; subst hn
    refine w_p (pc1 := 190) rfl rfl ?_
    refine w_p (pc1 := 191) (st1 := .int 3 :: _) rfl rfl ?_
    refine w_p (pc1 := 192) rfl rfl ?_
    refine w_p (pc1 := 193) rfl rfl ?_
    refine w_ji (pc1 := 196) (vs := [.ref 176, .int 3, _]) (rest := []) (sF (d := _) F1 (by omega)) rfl rfl rfl (fun _ _ => rfl) rfl (by exact cl_v my_230 rfl rfl rfl (Nat.le_of_ble_eq_true rfl) rfl (MH_obj rfl rfl) rfl (by decide) rfl rfl) (by rfl) (Nat.le_of_ble_eq_true rfl) (Nat.le_of_ble_eq_true rfl) rfl (fun v h1 d1 hq => ?_) (fun _ _ _ e => e.elim)
    rcases hq with ⟨hv, ⟨C2, F2, hh⟩, hn⟩
    · subst hv; subst hh; subst hn
      refine w_p (pc1 := 197) rfl rfl ?_
      refine w_ji (pc1 := 200) (vs := [.ref 176]) (rest := []) (nF (d := _) F2) rfl rfl rfl (fun _ _ => rfl) rfl (by exact cl_v my_195 rfl rfl rfl (Nat.le_of_ble_eq_true rfl) rfl (MH_obj rfl rfl) rfl (by decide) rfl rfl) (by rfl) (Nat.le_of_ble_eq_true rfl) (Nat.le_of_ble_eq_true rfl) rfl (fun v h1 d1 hq => ?_) (fun _ _ _ e => e.elim)
      rcases hq with ⟨hv, ⟨C3, F3, hh⟩, hn⟩
      · subst hv; subst hh; subst hn
        refine w_p (pc1 := 201) (st1 := .int 1 :: _) rfl rfl ?_
        refine w_r rfl rfl rfl (fun _ _ => rfl) rfl ?_
        exact ⟨rfl, ⟨C3, F3, rfl⟩, rfl⟩
set_option maxRecDepth 100000 in
theorem gk_ok (M : MK B n C0 C p b wb (e + 1) s W) (he : e < 9) (h6 : s.1 < 600) {q w : Nat} (hb : q < 6) (hw : w ≤ 6) (hx : C0.1 76 46 = nI q) (h8 : C0.1 80 q = nI w) (hk : kd B n s.1 = 3) (hg : fnd (fun j => decide (C0.2.1 81 (6 * q + j) = vl B n s.1)) w 0 ≠ -1) (h1 : spd s = .inr y) : Wd L xs (d + 5) y_229 (0, [(0, .ref 176)], [], MH C t, 0) (QM B n C0 t p b wb (e + 1) (some (.int 1)) (nxt (emt y 2 (fnd (fun j => decide (C0.2.1 81 (6 * q + j) = vl B n s.1)) w 0))) W) nX := by
  have hy := spd_s h1
  rw [← mr_col M] at hg ⊢
  refine w_p (pc1 := 1) rfl rfl ?_
  refine w_m0 (pc1 := 4) (st1 := .int 1 :: _) rfl rfl (h_gIe (j := 4) rfl rfl rfl rfl rfl (by rw [M.2.1.2.2.1, hk]; rfl)) rfl ?_
  refine w_p (pc1 := 5) (st1 := .int 2 :: _) rfl rfl ?_
  refine w_f (a := 18) (b := 8) rfl rfl rfl ?_
  refine w_p (pc1 := 9) rfl rfl ?_
  refine w_m0 (pc1 := 12) (st1 := .long 1853189228 :: _) rfl rfl rfl rfl ?_
  refine w_je (pc1 := 15) (vs := [.ref 176, .long 1853189228]) (rest := []) (st1 := [.int 0]) (m_205f (d := _) (sl := 0) ((wd_k (k := 27) M.2.1 (by decide) (by decide)).trans (decide_eq_false (by rw [hk]; decide)))) rfl rfl rfl (fun _ _ => rfl) rfl (by exact cl_v my_205 rfl rfl rfl (Nat.le_of_ble_eq_true rfl) rfl (MH_obj rfl rfl) rfl (by decide) rfl rfl) (by rfl) (Nat.le_of_ble_eq_true rfl) (Nat.le_of_ble_eq_true rfl) rfl (by rfl) ?_
  refine w_t (a := 49) (b := 18) rfl rfl rfl ?_
  refine w_p (pc1 := 50) rfl rfl ?_
  refine w_p (pc1 := 52) (st1 := .int 45 :: _) rfl rfl ?_
  refine w_je (pc1 := 55) (vs := [.ref 176, .int 45]) (rest := []) (st1 := [.int 0]) (m_210f (d := _) (sl := 0) (c := 45) ((sg_k (k := 57) M.2.1 (by decide) (by decide)).trans (decide_eq_false (by rw [hk]; decide)))) rfl rfl rfl (fun _ _ => rfl) rfl (by exact cl_v my_210 rfl rfl rfl (Nat.le_of_ble_eq_true rfl) rfl (MH_obj rfl rfl) rfl (by decide) rfl rfl) (by rfl) (Nat.le_of_ble_eq_true rfl) (Nat.le_of_ble_eq_true rfl) rfl (by rfl) ?_
  refine w_t (a := 78) (b := 58) rfl rfl rfl ?_
  refine w_p (pc1 := 79) rfl rfl ?_
  refine w_p (pc1 := 81) (st1 := .int 40 :: _) rfl rfl ?_
  refine w_je (pc1 := 84) (vs := [.ref 176, .int 40]) (rest := []) (st1 := [.int 0]) (m_210f (d := _) (sl := 0) (c := 40) ((sg_k (k := 44) M.2.1 (by decide) (by decide)).trans (decide_eq_false (by rw [hk]; decide)))) rfl rfl rfl (fun _ _ => rfl) rfl (by exact cl_v my_210 rfl rfl rfl (Nat.le_of_ble_eq_true rfl) rfl (MH_obj rfl rfl) rfl (by decide) rfl rfl) (by rfl) (Nat.le_of_ble_eq_true rfl) (Nat.le_of_ble_eq_true rfl) rfl (by rfl) ?_
  refine w_t (a := 103) (b := 87) rfl rfl rfl ?_
  refine w_p (pc1 := 104) rfl rfl ?_
  refine w_m0 (pc1 := 107) (st1 := .long 7234935 :: _) rfl rfl rfl rfl ?_
  refine w_je (pc1 := 110) (vs := [.ref 176, .long 7234935]) (rest := []) (st1 := [.int 0]) (m_205f (d := _) (sl := 0) ((wd_k (k := 24) M.2.1 (by decide) (by decide)).trans (decide_eq_false (by rw [hk]; decide)))) rfl rfl rfl (fun _ _ => rfl) rfl (by exact cl_v my_205 rfl rfl rfl (Nat.le_of_ble_eq_true rfl) rfl (MH_obj rfl rfl) rfl (by decide) rfl rfl) (by rfl) (Nat.le_of_ble_eq_true rfl) (Nat.le_of_ble_eq_true rfl) rfl (by rfl) ?_
  refine w_f (a := 123) (b := 113) rfl rfl rfl ?_
  refine w_p (pc1 := 114) rfl rfl ?_
  refine w_m0 (pc1 := 117) (st1 := .long 7302244 :: _) rfl rfl rfl rfl ?_
  refine w_je (pc1 := 120) (vs := [.ref 176, .long 7302244]) (rest := []) (st1 := [.int 0]) (m_205f (d := _) (sl := 0) ((wd_k (k := 28) M.2.1 (by decide) (by decide)).trans (decide_eq_false (by rw [hk]; decide)))) rfl rfl rfl (fun _ _ => rfl) rfl (by exact cl_v my_205 rfl rfl rfl (Nat.le_of_ble_eq_true rfl) rfl (MH_obj rfl rfl) rfl (by decide) rfl rfl) (by rfl) (Nat.le_of_ble_eq_true rfl) (Nat.le_of_ble_eq_true rfl) rfl (by rfl) ?_
  refine w_t (a := 136) (b := 123) rfl rfl rfl ?_
  refine w_p (pc1 := 137) rfl rfl ?_
  refine w_je (pc1 := 140) (vs := [.ref 176]) (rest := []) (st1 := [.int 1]) (iN (d := _) M hk) rfl rfl rfl (fun _ _ => rfl) rfl (by exact cl_v my_207 rfl rfl rfl (Nat.le_of_ble_eq_true rfl) rfl (MH_obj rfl rfl) rfl (by decide) rfl rfl) (by rfl) (Nat.le_of_ble_eq_true rfl) (Nat.le_of_ble_eq_true rfl) rfl (by rfl) ?_
  refine w_t (a := 145) (b := 143) rfl rfl rfl ?_
  refine w_p (pc1 := 146) rfl rfl ?_
  refine w_m0 (pc1 := 149) (st1 := .int (nI (q)) :: _) rfl rfl (h_gIe (j := 46) rfl rfl rfl rfl rfl ((M.2.2.2.2.2.2.2.2.2.2.2.2.2.1 76 46 (by omega) (by omega) (by omega)).trans hx)) rfl ?_
  refine w_p (pc1 := 150) (st1 := .int (-1) :: _) rfl rfl ?_
  refine w_t (a := 162) (b := 153) (cb_ne_t (by exact nK_m1 (by omega))) rfl rfl ?_
  refine w_p (pc1 := 163) rfl rfl ?_
  refine w_p (pc1 := 164) rfl rfl ?_
  refine w_m0 (pc1 := 167) (st1 := .int (nI (q)) :: _) rfl rfl (h_gIe (j := 46) rfl rfl rfl rfl rfl ((M.2.2.2.2.2.2.2.2.2.2.2.2.2.1 76 46 (by omega) (by omega) (by omega)).trans hx)) rfl ?_
  refine w_p (pc1 := 168) rfl rfl ?_
  refine w_m0 (pc1 := 171) (st1 := .long (vl B n s.1) :: _) rfl rfl (h_gJe (j := 7) rfl rfl rfl rfl rfl (by rw [M.2.1.2.2.2.1, hk]; rfl)) rfl ?_
  refine w_je (pc1 := 174) (vs := [.ref 176, .int (nI (q)), .long (vl B n s.1)]) (rest := []) (st1 := [.int (fnd (fun j => decide (C.2.1 81 (6 * q + j) = vl B n s.1)) w 0)]) (m_213 (d := _) (sl := 0) hb (mr_w M h8) hw) rfl rfl rfl (fun _ _ => rfl) rfl (by exact cl_v my_213 rfl rfl rfl (Nat.le_of_ble_eq_true rfl) rfl (MH_obj rfl rfl) rfl (by decide) rfl rfl) (by rfl) (Nat.le_of_ble_eq_true rfl) (Nat.le_of_ble_eq_true rfl) rfl (by rfl) ?_
  refine w_p (pc1 := 175) (al1 := [(1, .int (fnd (fun j => decide (C.2.1 81 (6 * q + j) = vl B n s.1)) w 0)), (0, .ref 176)]) rfl rfl ?_
  refine w_p (pc1 := 176) rfl rfl ?_
  refine w_p (pc1 := 177) (st1 := .int (-1) :: _) rfl rfl ?_
  refine w_t (a := 185) (b := 180) (cb_ne_t (by exact hg)) rfl rfl ?_
  refine w_p (pc1 := 186) rfl rfl ?_
  refine w_ji (pc1 := 189) (vs := [.ref 176]) (rest := []) (dM (d := _) M h1) rfl rfl rfl (fun _ _ => rfl) rfl (by exact cl_v my_226 rfl rfl rfl (Nat.le_of_ble_eq_true rfl) rfl (MH_obj rfl rfl) rfl (by decide) rfl rfl) (by rfl) (Nat.le_of_ble_eq_true rfl) (Nat.le_of_ble_eq_true rfl) rfl (fun v h1 d1 hq => ?_) (fun _ _ _ e => e.elim)
  rcases hq with ⟨hv, ⟨C1, M1, hh⟩, hn⟩
  · subst hv; subst hh; subst hn
    refine w_p (pc1 := 190) rfl rfl ?_
    refine w_p (pc1 := 191) (st1 := .int 3 :: _) rfl rfl ?_
    refine w_p (pc1 := 192) rfl rfl ?_
    refine w_p (pc1 := 193) rfl rfl ?_
    refine w_ji (pc1 := 196) (vs := [.ref 176, .int 3, _]) (rest := []) (sM (a := 2) (c := fnd (fun j => decide (C.2.1 81 (6 * q + j) = vl B n s.1)) w 0) (d := _) M1 (by omega) (Or.inr (Or.inr (Or.inl ⟨rfl, rfl, rfl⟩)))) rfl rfl rfl (fun _ _ => rfl) rfl (by exact cl_v my_230 rfl rfl rfl (Nat.le_of_ble_eq_true rfl) rfl (MH_obj rfl rfl) rfl (by decide) rfl rfl) (by rfl) (Nat.le_of_ble_eq_true rfl) (Nat.le_of_ble_eq_true rfl) rfl (fun v h1 d1 hq => ?_) (fun _ _ _ e => e.elim)
    rcases hq with ⟨hv, ⟨C2, M2, hh⟩, hn⟩
    · subst hv; subst hh; subst hn
      refine w_p (pc1 := 197) rfl rfl ?_
      refine w_ji (pc1 := 200) (vs := [.ref 176]) (rest := []) (nA (d := _) M2 (show y.1 < 600 by rw [hy.1]; exact h6)) rfl rfl rfl (fun _ _ => rfl) rfl (by exact cl_v my_195 rfl rfl rfl (Nat.le_of_ble_eq_true rfl) rfl (MH_obj rfl rfl) rfl (by decide) rfl rfl) (by rfl) (Nat.le_of_ble_eq_true rfl) (Nat.le_of_ble_eq_true rfl) rfl (fun v h1 d1 hq => ?_) (fun _ _ _ e => e.elim)
      rcases hq with ⟨hv, ⟨C3, Q3, hh⟩, hn⟩
      · subst hv; subst hh; subst hn
        refine w_p (pc1 := 201) (st1 := .int 1 :: _) rfl rfl ?_
        refine w_r rfl rfl rfl (fun _ _ => rfl) rfl ?_
        exact ⟨rfl, ⟨C3, Q3, rfl⟩, rfl⟩
end MNM
