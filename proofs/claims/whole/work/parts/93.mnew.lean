/-! THE OTHER SIDE'S FORMULAS, 8: a sign that must come; NEW and OLD -/
section MNW
variable {L : Nat} {xs : Nat → Int32} {t : ab_H} {d n p b wb e f k : Nat} {B : Nat → Nat} {C0 C : co_T} {s y z : fs_T} {W : List (Int32 × Int64)} {c : Int32} {i : Nat}
set_option maxRecDepth 100000 in
theorem nB (M : MK B n C0 C p b wb e s W) (h : kd B n (s.1 + 1) = 1) : Wd L xs (d + 3) y_195 (0, [(0, .ref 176)], [], MH C t, 0) (PFM B n C0 t p b wb 0 1 (s.1 + 1)) nX := Wd_r (m_195R M.1 M.2.1) ⟨rfl, ⟨_, FM_bad M h, rfl⟩, rfl⟩
set_option maxRecDepth 100000 in
theorem tS (M : MK B n C0 C p b wb (e + 1) s W) (h6 : s.1 < 600) (h44 : 44 ≤ k) (h59 : k ≤ 59) (hk : kd B n s.1 = k) : Wd L xs (d + 4) y_209 (0, [(0, .ref 176), (1, .int (nI (sgc.getD (k - 44) 0)))], [], MH C t, 0) (QM B n C0 t p b wb e none (nxt s) W) nX := by
  refine w_p (pc1 := 1) rfl rfl ?_
  refine w_m0 (pc1 := 4) (st1 := .int 0 :: _) rfl rfl (h_gIe (j := 8) rfl rfl rfl rfl rfl (M.2.1.2.1)) rfl ?_
  refine w_f (a := 20) (b := 7) rfl rfl rfl ?_
  refine w_p (pc1 := 8) rfl rfl ?_
  refine w_p (pc1 := 9) rfl rfl ?_
  refine w_je (pc1 := 12) (vs := [.ref 176, .int (nI (sgc.getD (k - 44) 0))]) (rest := []) (st1 := [.int 1]) (m_210t (d := _) (sl := 0) ((sg_k M.2.1 h44 h59).trans (decide_eq_true hk))) rfl rfl rfl (fun _ _ => rfl) rfl (by exact cl_v my_210 rfl rfl rfl (Nat.le_of_ble_eq_true rfl) rfl (MH_obj rfl rfl) rfl (by decide) rfl rfl) (by rfl) (Nat.le_of_ble_eq_true rfl) (Nat.le_of_ble_eq_true rfl) rfl (by rfl) ?_
  refine w_t (a := 20) (b := 15) rfl rfl rfl ?_
  refine w_p (pc1 := 21) rfl rfl ?_
  refine w_m0 (pc1 := 24) (st1 := .int 0 :: _) rfl rfl (h_gIe (j := 8) rfl rfl rfl rfl rfl (M.2.1.2.1)) rfl ?_
  refine w_f (a := 31) (b := 27) rfl rfl rfl ?_
  refine w_p (pc1 := 28) rfl rfl ?_
  refine w_ji (pc1 := 31) (vs := [.ref 176]) (rest := []) (nA (d := _) M h6) rfl rfl rfl (fun _ _ => rfl) rfl (by exact cl_v my_195 rfl rfl rfl (Nat.le_of_ble_eq_true rfl) rfl (MH_obj rfl rfl) rfl (by decide) rfl rfl) (by rfl) (Nat.le_of_ble_eq_true rfl) (Nat.le_of_ble_eq_true rfl) rfl (fun v h1 d1 hq => ?_) (fun _ _ _ e => e.elim)
  rcases hq with ⟨hv, ⟨C1, Q1, hh⟩, hn⟩
  · subst hv; subst hh; subst hn
    refine w_r rfl rfl rfl (fun _ _ => rfl) rfl ?_
    exact ⟨rfl, ⟨C1, Q1, rfl⟩, rfl⟩
set_option maxRecDepth 100000 in
theorem tSm (M : MK B n C0 C p b wb (e + 1) s W) (h6 : s.1 < 600) (h44 : 44 ≤ k) (h59 : k ≤ 59) (hk : kd B n s.1 = k) (hb : kd B n (s.1 + 1) ≠ 1) : Wd L xs (d + 4) y_209 (0, [(0, .ref 176), (1, .int (nI (sgc.getD (k - 44) 0)))], [], MH C t, 0) (PMK B n C0 t p b wb e none (nxt s) W) nX := by
  refine w_p (pc1 := 1) rfl rfl ?_
  refine w_m0 (pc1 := 4) (st1 := .int 0 :: _) rfl rfl (h_gIe (j := 8) rfl rfl rfl rfl rfl (M.2.1.2.1)) rfl ?_
  refine w_f (a := 20) (b := 7) rfl rfl rfl ?_
  refine w_p (pc1 := 8) rfl rfl ?_
  refine w_p (pc1 := 9) rfl rfl ?_
  refine w_je (pc1 := 12) (vs := [.ref 176, .int (nI (sgc.getD (k - 44) 0))]) (rest := []) (st1 := [.int 1]) (m_210t (d := _) (sl := 0) ((sg_k M.2.1 h44 h59).trans (decide_eq_true hk))) rfl rfl rfl (fun _ _ => rfl) rfl (by exact cl_v my_210 rfl rfl rfl (Nat.le_of_ble_eq_true rfl) rfl (MH_obj rfl rfl) rfl (by decide) rfl rfl) (by rfl) (Nat.le_of_ble_eq_true rfl) (Nat.le_of_ble_eq_true rfl) rfl (by rfl) ?_
  refine w_t (a := 20) (b := 15) rfl rfl rfl ?_
  refine w_p (pc1 := 21) rfl rfl ?_
  refine w_m0 (pc1 := 24) (st1 := .int 0 :: _) rfl rfl (h_gIe (j := 8) rfl rfl rfl rfl rfl (M.2.1.2.1)) rfl ?_
  refine w_f (a := 31) (b := 27) rfl rfl rfl ?_
  refine w_p (pc1 := 28) rfl rfl ?_
  refine w_ji (pc1 := 31) (vs := [.ref 176]) (rest := []) (nM (d := _) M hb h6) rfl rfl rfl (fun _ _ => rfl) rfl (by exact cl_v my_195 rfl rfl rfl (Nat.le_of_ble_eq_true rfl) rfl (MH_obj rfl rfl) rfl (by decide) rfl rfl) (by rfl) (Nat.le_of_ble_eq_true rfl) (Nat.le_of_ble_eq_true rfl) rfl (fun v h1 d1 hq => ?_) (fun _ _ _ e => e.elim)
  rcases hq with ⟨hv, ⟨C1, M1, hh⟩, hn⟩
  · subst hv; subst hh; subst hn
    refine w_r rfl rfl rfl (fun _ _ => rfl) rfl ?_
    exact PM_i M1
set_option maxRecDepth 100000 in
theorem tSb (M : MK B n C0 C p b wb e s W) (h44 : 44 ≤ k) (h59 : k ≤ 59) (hk : kd B n s.1 = k) (hb : kd B n (s.1 + 1) = 1) : Wd L xs (d + 4) y_209 (0, [(0, .ref 176), (1, .int (nI (sgc.getD (k - 44) 0)))], [], MH C t, 0) (PFM B n C0 t p b wb 0 1 (s.1 + 1)) nX := by
  refine w_p (pc1 := 1) rfl rfl ?_
  refine w_m0 (pc1 := 4) (st1 := .int 0 :: _) rfl rfl (h_gIe (j := 8) rfl rfl rfl rfl rfl (M.2.1.2.1)) rfl ?_
  refine w_f (a := 20) (b := 7) rfl rfl rfl ?_
  refine w_p (pc1 := 8) rfl rfl ?_
  refine w_p (pc1 := 9) rfl rfl ?_
  refine w_je (pc1 := 12) (vs := [.ref 176, .int (nI (sgc.getD (k - 44) 0))]) (rest := []) (st1 := [.int 1]) (m_210t (d := _) (sl := 0) ((sg_k M.2.1 h44 h59).trans (decide_eq_true hk))) rfl rfl rfl (fun _ _ => rfl) rfl (by exact cl_v my_210 rfl rfl rfl (Nat.le_of_ble_eq_true rfl) rfl (MH_obj rfl rfl) rfl (by decide) rfl rfl) (by rfl) (Nat.le_of_ble_eq_true rfl) (Nat.le_of_ble_eq_true rfl) rfl (by rfl) ?_
  refine w_t (a := 20) (b := 15) rfl rfl rfl ?_
  refine w_p (pc1 := 21) rfl rfl ?_
  refine w_m0 (pc1 := 24) (st1 := .int 0 :: _) rfl rfl (h_gIe (j := 8) rfl rfl rfl rfl rfl (M.2.1.2.1)) rfl ?_
  refine w_f (a := 31) (b := 27) rfl rfl rfl ?_
  refine w_p (pc1 := 28) rfl rfl ?_
  refine w_ji (pc1 := 31) (vs := [.ref 176]) (rest := []) (nB (d := _) M hb) rfl rfl rfl (fun _ _ => rfl) rfl (by exact cl_v my_195 rfl rfl rfl (Nat.le_of_ble_eq_true rfl) rfl (MH_obj rfl rfl) rfl (by decide) rfl rfl) (by rfl) (Nat.le_of_ble_eq_true rfl) (Nat.le_of_ble_eq_true rfl) rfl (fun v h1 d1 hq => ?_) (fun _ _ _ e => e.elim)
  rcases hq with ⟨hv, ⟨C1, F1, hh⟩, hn⟩
  · subst hv; subst hh; subst hn
    refine w_r rfl rfl rfl (fun _ _ => rfl) rfl ?_
    exact ⟨rfl, ⟨C1, F1, rfl⟩, rfl⟩
set_option maxRecDepth 100000 in
theorem tE (M : MK B n C0 C p b wb e s W) (h44 : 44 ≤ k) (h59 : k ≤ 59) (hk : kd B n s.1 ≠ k) : Wd L xs (d + 2) y_209 (0, [(0, .ref 176), (1, .int (nI (sgc.getD (k - 44) 0)))], [], MH C t, 0) (PFM B n C0 t p b wb 0 2 s.1) nX := by
  have hF := FM_new (c := 2) M (by decide)
  refine w_p (pc1 := 1) rfl rfl ?_
  refine w_m0 (pc1 := 4) (st1 := .int 0 :: _) rfl rfl (h_gIe (j := 8) rfl rfl rfl rfl rfl (M.2.1.2.1)) rfl ?_
  refine w_f (a := 20) (b := 7) rfl rfl rfl ?_
  refine w_p (pc1 := 8) rfl rfl ?_
  refine w_p (pc1 := 9) rfl rfl ?_
  refine w_je (pc1 := 12) (vs := [.ref 176, .int (nI (sgc.getD (k - 44) 0))]) (rest := []) (st1 := [.int 0]) (m_210f (d := _) (sl := 0) ((sg_k M.2.1 h44 h59).trans (decide_eq_false hk))) rfl rfl rfl (fun _ _ => rfl) rfl (by exact cl_v my_210 rfl rfl rfl (Nat.le_of_ble_eq_true rfl) rfl (MH_obj rfl rfl) rfl (by decide) rfl rfl) (by rfl) (Nat.le_of_ble_eq_true rfl) (Nat.le_of_ble_eq_true rfl) rfl (by rfl) ?_
  refine w_f (a := 20) (b := 15) rfl rfl rfl ?_
  refine w_p (pc1 := 16) rfl rfl ?_
  refine w_p (pc1 := 17) (st1 := .int 2 :: _) rfl rfl ?_
  refine w_je (pc1 := 20) (vs := [.ref 176, .int 2]) (rest := []) (st1 := []) (m_200 (d := _) (sl := 0) (fun z => absurd M.2.1.2.1 z)) rfl rfl rfl (fun _ _ => rfl) rfl (by exact cl_v my_200 rfl rfl rfl (Nat.le_of_ble_eq_true rfl) rfl (MH_obj rfl rfl) rfl (by decide) rfl rfl) (by rfl) (Nat.le_of_ble_eq_true rfl) (Nat.le_of_ble_eq_true rfl) rfl (by rfl) ?_
  refine w_p (pc1 := 21) rfl rfl ?_
  refine w_m0 (pc1 := 24) rfl rfl (h_gI (j := 8) rfl rfl rfl rfl rfl) rfl ?_
  refine w_t (a := 31) (b := 27) (cb_ne_t (by rw [hF.1.2.1]; decide)) rfl rfl ?_
  refine w_r rfl rfl rfl (fun _ _ => rfl) rfl ?_
  exact ⟨rfl, ⟨_, hF, rfl⟩, rfl⟩
set_option maxRecDepth 100000 in
theorem tF {x : Int32} (F : FM B n C0 C p b wb f c i) : Wd L xs d y_209 (0, [(0, .ref 176), (1, .int x)], [], MH C t, 0) (Rt none (MH C t) 0) nX := by
  have h0 : C.1 76 8 ≠ 0 := by rw [F.1.2.1]; exact F.1.1
  refine w_p (pc1 := 1) rfl rfl ?_
  refine w_m0 (pc1 := 4) rfl rfl (h_gI (j := 8) rfl rfl rfl rfl rfl) rfl ?_
  refine w_t (a := 20) (b := 7) (cb_ne_t (by exact h0)) rfl rfl ?_
  refine w_p (pc1 := 21) rfl rfl ?_
  refine w_m0 (pc1 := 24) rfl rfl (h_gI (j := 8) rfl rfl rfl rfl rfl) rfl ?_
  refine w_t (a := 31) (b := 27) (cb_ne_t (by exact h0)) rfl rfl ?_
  refine w_r rfl rfl rfl (fun _ _ => rfl) rfl ?_
  exact ⟨rfl, rfl, rfl⟩
set_option maxRecDepth 100000 in
theorem vw_n1 (M : MK B n C0 C p b wb (e + 1) s W) (he : e < 9) (hx : C0.1 76 47 = -1) : Wd L xs (d + 5) y_231 (0, [(0, .ref 176), (1, .int 1)], [], MH C t, 0) (PFM B n C0 t p b wb 0 7 s.1) nX := by
  have hF := FM_new (c := 7) M (by decide)
  refine w_p (pc1 := 1) rfl rfl ?_
  refine w_m0 (pc1 := 4) (st1 := .int (-1) :: _) rfl rfl (h_gIe (j := 47) rfl rfl rfl rfl rfl ((M.2.2.2.2.2.2.2.2.2.2.2.2.2.1 76 47 (by omega) (by omega) (by omega)).trans hx)) rfl ?_
  refine w_p (pc1 := 5) (st1 := .int (-1) :: _) rfl rfl ?_
  refine w_t (a := 33) (b := 8) rfl rfl rfl ?_
  refine w_p (pc1 := 34) (st1 := .int 0 :: _) rfl rfl ?_
  refine w_p (pc1 := 35) (al1 := [(2, .int 0), (0, .ref 176), (1, .int 1)]) rfl rfl ?_
  refine w_p (pc1 := 36) rfl rfl ?_
  refine w_f (a := 45) (b := 39) rfl rfl rfl ?_
  refine w_p (pc1 := 40) rfl rfl ?_
  refine w_p (pc1 := 42) (st1 := .int 7 :: _) rfl rfl ?_
  refine w_je (pc1 := 45) (vs := [.ref 176, .int 7]) (rest := []) (st1 := []) (m_200 (d := _) (sl := 0) (fun z => absurd M.2.1.2.1 z)) rfl rfl rfl (fun _ _ => rfl) rfl (by exact cl_v my_200 rfl rfl rfl (Nat.le_of_ble_eq_true rfl) rfl (MH_obj rfl rfl) rfl (by decide) rfl rfl) (by rfl) (Nat.le_of_ble_eq_true rfl) (Nat.le_of_ble_eq_true rfl) rfl (by rfl) ?_
  refine w_p (pc1 := 46) rfl rfl ?_
  refine w_m0 (pc1 := 49) rfl rfl (h_gI (j := 47) rfl rfl rfl rfl rfl) rfl ?_
  refine w_p (pc1 := 50) (al1 := [(3, _), (2, .int 0), (0, .ref 176), (1, .int 1)]) rfl rfl ?_
  refine w_p (pc1 := 51) rfl rfl ?_
  refine w_m0 (pc1 := 54) rfl rfl (h_gI (j := 8) rfl rfl rfl rfl rfl) rfl ?_
  refine w_t (a := 61) (b := 57) (cb_ne_t (by rw [hF.1.2.1]; decide)) rfl rfl ?_
  refine w_p (pc1 := 62) rfl rfl ?_
  refine w_p (pc1 := 64) (st1 := .int 46 :: _) rfl rfl ?_
  refine w_je (pc1 := 67) (vs := [.ref 176, .int 46]) (rest := []) (st1 := []) (tF (d := _) hF) rfl rfl rfl (fun _ _ => rfl) rfl (by exact cl_v my_209 rfl rfl rfl (Nat.le_of_ble_eq_true rfl) rfl (MH_obj rfl rfl) rfl (by decide) rfl rfl) (by rfl) (Nat.le_of_ble_eq_true rfl) (Nat.le_of_ble_eq_true rfl) rfl (by rfl) ?_
  refine w_p (pc1 := 68) rfl rfl ?_
  refine w_je (pc1 := 71) (vs := [.ref 176]) (rest := []) (st1 := [.int 0]) (iF (d := _) hF) rfl rfl rfl (fun _ _ => rfl) rfl (by exact cl_v my_207 rfl rfl rfl (Nat.le_of_ble_eq_true rfl) rfl (MH_obj rfl rfl) rfl (by decide) rfl rfl) (by rfl) (Nat.le_of_ble_eq_true rfl) (Nat.le_of_ble_eq_true rfl) rfl (by rfl) ?_
  refine w_f (a := 75) (b := 74) rfl rfl rfl ?_
  refine w_r rfl rfl rfl (fun _ _ => rfl) rfl ?_
  exact ⟨rfl, ⟨_, hF, rfl⟩, rfl⟩
set_option maxRecDepth 100000 in
theorem vw_n2 (M : MK B n C0 C p b wb (e + 1) s W) (he : e < 9) (hx : C0.1 76 47 ≠ -1) (hv0 : C0.1 76 48 = 0) : Wd L xs (d + 5) y_231 (0, [(0, .ref 176), (1, .int 1)], [], MH C t, 0) (PFM B n C0 t p b wb 0 7 s.1) nX := by
  have hF := FM_new (c := 7) M (by decide)
  refine w_p (pc1 := 1) rfl rfl ?_
  refine w_m0 (pc1 := 4) rfl rfl (h_gI (j := 47) rfl rfl rfl rfl rfl) rfl ?_
  refine w_p (pc1 := 5) (st1 := .int (-1) :: _) rfl rfl ?_
  refine w_f (a := 33) (b := 8) (cb_eq_f (by rw [(M.2.2.2.2.2.2.2.2.2.2.2.2.2.1 76 47 (by omega) (by omega) (by omega))]; exact hx)) rfl rfl ?_
  refine w_p (pc1 := 9) rfl rfl ?_
  refine w_f (a := 22) (b := 12) rfl rfl rfl ?_
  refine w_p (pc1 := 13) rfl rfl ?_
  refine w_m0 (pc1 := 16) (st1 := .int 0 :: _) rfl rfl (h_gIe (j := 48) rfl rfl rfl rfl rfl ((M.2.2.2.2.2.2.2.2.2.2.2.2.2.1 76 48 (by omega) (by omega) (by omega)).trans hv0)) rfl ?_
  refine w_t (a := 33) (b := 19) rfl rfl rfl ?_
  refine w_p (pc1 := 34) (st1 := .int 0 :: _) rfl rfl ?_
  refine w_p (pc1 := 35) (al1 := [(2, .int 0), (0, .ref 176), (1, .int 1)]) rfl rfl ?_
  refine w_p (pc1 := 36) rfl rfl ?_
  refine w_f (a := 45) (b := 39) rfl rfl rfl ?_
  refine w_p (pc1 := 40) rfl rfl ?_
  refine w_p (pc1 := 42) (st1 := .int 7 :: _) rfl rfl ?_
  refine w_je (pc1 := 45) (vs := [.ref 176, .int 7]) (rest := []) (st1 := []) (m_200 (d := _) (sl := 0) (fun z => absurd M.2.1.2.1 z)) rfl rfl rfl (fun _ _ => rfl) rfl (by exact cl_v my_200 rfl rfl rfl (Nat.le_of_ble_eq_true rfl) rfl (MH_obj rfl rfl) rfl (by decide) rfl rfl) (by rfl) (Nat.le_of_ble_eq_true rfl) (Nat.le_of_ble_eq_true rfl) rfl (by rfl) ?_
  refine w_p (pc1 := 46) rfl rfl ?_
  refine w_m0 (pc1 := 49) rfl rfl (h_gI (j := 47) rfl rfl rfl rfl rfl) rfl ?_
  refine w_p (pc1 := 50) (al1 := [(3, _), (2, .int 0), (0, .ref 176), (1, .int 1)]) rfl rfl ?_
  refine w_p (pc1 := 51) rfl rfl ?_
  refine w_m0 (pc1 := 54) rfl rfl (h_gI (j := 8) rfl rfl rfl rfl rfl) rfl ?_
  refine w_t (a := 61) (b := 57) (cb_ne_t (by rw [hF.1.2.1]; decide)) rfl rfl ?_
  refine w_p (pc1 := 62) rfl rfl ?_
  refine w_p (pc1 := 64) (st1 := .int 46 :: _) rfl rfl ?_
  refine w_je (pc1 := 67) (vs := [.ref 176, .int 46]) (rest := []) (st1 := []) (tF (d := _) hF) rfl rfl rfl (fun _ _ => rfl) rfl (by exact cl_v my_209 rfl rfl rfl (Nat.le_of_ble_eq_true rfl) rfl (MH_obj rfl rfl) rfl (by decide) rfl rfl) (by rfl) (Nat.le_of_ble_eq_true rfl) (Nat.le_of_ble_eq_true rfl) rfl (by rfl) ?_
  refine w_p (pc1 := 68) rfl rfl ?_
  refine w_je (pc1 := 71) (vs := [.ref 176]) (rest := []) (st1 := [.int 0]) (iF (d := _) hF) rfl rfl rfl (fun _ _ => rfl) rfl (by exact cl_v my_207 rfl rfl rfl (Nat.le_of_ble_eq_true rfl) rfl (MH_obj rfl rfl) rfl (by decide) rfl rfl) (by rfl) (Nat.le_of_ble_eq_true rfl) (Nat.le_of_ble_eq_true rfl) rfl (by rfl) ?_
  refine w_f (a := 75) (b := 74) rfl rfl rfl ?_
  refine w_r rfl rfl rfl (fun _ _ => rfl) rfl ?_
  exact ⟨rfl, ⟨_, hF, rfl⟩, rfl⟩
set_option maxRecDepth 100000 in
theorem vw_b1 (M : MK B n C0 C p b wb (e + 1) s W) (he : e < 9) {q : Nat} (hx : C0.1 76 47 = nI q) (hq6 : q < 6) (hv1 : C0.1 76 48 = 1) (h6 : s.1 < 600) (hd : kd B n (s.1 + 1) = 1) : Wd L xs (d + 5) y_231 (0, [(0, .ref 176), (1, .int 1)], [], MH C t, 0) (PFM B n C0 t p b wb 0 1 (s.1 + 1)) nX := by
  refine w_p (pc1 := 1) rfl rfl ?_
  refine w_m0 (pc1 := 4) (st1 := .int (nI (q)) :: _) rfl rfl (h_gIe (j := 47) rfl rfl rfl rfl rfl ((M.2.2.2.2.2.2.2.2.2.2.2.2.2.1 76 47 (by omega) (by omega) (by omega)).trans hx)) rfl ?_
  refine w_p (pc1 := 5) (st1 := .int (-1) :: _) rfl rfl ?_
  refine w_f (a := 33) (b := 8) (cb_eq_f (by exact nK_m1 (by omega))) rfl rfl ?_
  refine w_p (pc1 := 9) rfl rfl ?_
  refine w_f (a := 22) (b := 12) rfl rfl rfl ?_
  refine w_p (pc1 := 13) rfl rfl ?_
  refine w_m0 (pc1 := 16) (st1 := .int 1 :: _) rfl rfl (h_gIe (j := 48) rfl rfl rfl rfl rfl ((M.2.2.2.2.2.2.2.2.2.2.2.2.2.1 76 48 (by omega) (by omega) (by omega)).trans hv1)) rfl ?_
  refine w_f (a := 33) (b := 19) rfl rfl rfl ?_
  refine w_p (pc1 := 29) rfl rfl ?_
  refine w_p (pc1 := 30) (st1 := .int 1 :: _) rfl rfl ?_
  refine w_p (pc1 := 34) rfl rfl ?_
  refine w_p (pc1 := 35) (al1 := [(2, .int 1), (0, .ref 176), (1, .int 1)]) rfl rfl ?_
  refine w_p (pc1 := 36) rfl rfl ?_
  refine w_t (a := 45) (b := 39) rfl rfl rfl ?_
  refine w_p (pc1 := 46) rfl rfl ?_
  refine w_m0 (pc1 := 49) (st1 := .int (nI (q)) :: _) rfl rfl (h_gIe (j := 47) rfl rfl rfl rfl rfl ((M.2.2.2.2.2.2.2.2.2.2.2.2.2.1 76 47 (by omega) (by omega) (by omega)).trans hx)) rfl ?_
  refine w_p (pc1 := 50) (al1 := [(3, .int (nI (q))), (2, .int 1), (0, .ref 176), (1, .int 1)]) rfl rfl ?_
  refine w_p (pc1 := 51) rfl rfl ?_
  refine w_m0 (pc1 := 54) (st1 := .int 0 :: _) rfl rfl (h_gIe (j := 8) rfl rfl rfl rfl rfl (M.2.1.2.1)) rfl ?_
  refine w_f (a := 61) (b := 57) rfl rfl rfl ?_
  refine w_p (pc1 := 58) rfl rfl ?_
  refine w_ji (pc1 := 61) (vs := [.ref 176]) (rest := []) (nB (d := _) M hd) rfl rfl rfl (fun _ _ => rfl) rfl (by exact cl_v my_195 rfl rfl rfl (Nat.le_of_ble_eq_true rfl) rfl (MH_obj rfl rfl) rfl (by decide) rfl rfl) (by rfl) (Nat.le_of_ble_eq_true rfl) (Nat.le_of_ble_eq_true rfl) rfl (fun v h1 d1 hq => ?_) (fun _ _ _ e => e.elim)
  rcases hq with ⟨hv, ⟨C1, F1, hh⟩, hn⟩
  · subst hv; subst hh; subst hn
    refine w_p (pc1 := 62) rfl rfl ?_
    refine w_p (pc1 := 64) (st1 := .int 46 :: _) rfl rfl ?_
    refine w_je (pc1 := 67) (vs := [.ref 176, .int 46]) (rest := []) (st1 := []) (tF (d := _) F1) rfl rfl rfl (fun _ _ => rfl) rfl (by exact cl_v my_209 rfl rfl rfl (Nat.le_of_ble_eq_true rfl) rfl (MH_obj rfl rfl) rfl (by decide) rfl rfl) (by rfl) (Nat.le_of_ble_eq_true rfl) (Nat.le_of_ble_eq_true rfl) rfl (by rfl) ?_
    refine w_p (pc1 := 68) rfl rfl ?_
    refine w_je (pc1 := 71) (vs := [.ref 176]) (rest := []) (st1 := [.int 0]) (iF (d := _) F1) rfl rfl rfl (fun _ _ => rfl) rfl (by exact cl_v my_207 rfl rfl rfl (Nat.le_of_ble_eq_true rfl) rfl (MH_obj rfl rfl) rfl (by decide) rfl rfl) (by rfl) (Nat.le_of_ble_eq_true rfl) (Nat.le_of_ble_eq_true rfl) rfl (by rfl) ?_
    refine w_f (a := 75) (b := 74) rfl rfl rfl ?_
    refine w_r rfl rfl rfl (fun _ _ => rfl) rfl ?_
    exact ⟨rfl, ⟨C1, F1, rfl⟩, rfl⟩
set_option maxRecDepth 100000 in
theorem vw_d0 (M : MK B n C0 C p b wb (e + 1) s W) (he : e < 9) {q : Nat} (hx : C0.1 76 47 = nI q) (hq6 : q < 6) (hv1 : C0.1 76 48 = 1) (h6 : s.1 < 600) (hd1 : kd B n (s.1 + 1) ≠ 1) (hd : kd B n (s.1 + 1) ≠ 49) : Wd L xs (d + 5) y_231 (0, [(0, .ref 176), (1, .int 1)], [], MH C t, 0) (PFM B n C0 t p b wb 0 2 (s.1 + 1)) nX := by
  refine w_p (pc1 := 1) rfl rfl ?_
  refine w_m0 (pc1 := 4) (st1 := .int (nI (q)) :: _) rfl rfl (h_gIe (j := 47) rfl rfl rfl rfl rfl ((M.2.2.2.2.2.2.2.2.2.2.2.2.2.1 76 47 (by omega) (by omega) (by omega)).trans hx)) rfl ?_
  refine w_p (pc1 := 5) (st1 := .int (-1) :: _) rfl rfl ?_
  refine w_f (a := 33) (b := 8) (cb_eq_f (by exact nK_m1 (by omega))) rfl rfl ?_
  refine w_p (pc1 := 9) rfl rfl ?_
  refine w_f (a := 22) (b := 12) rfl rfl rfl ?_
  refine w_p (pc1 := 13) rfl rfl ?_
  refine w_m0 (pc1 := 16) (st1 := .int 1 :: _) rfl rfl (h_gIe (j := 48) rfl rfl rfl rfl rfl ((M.2.2.2.2.2.2.2.2.2.2.2.2.2.1 76 48 (by omega) (by omega) (by omega)).trans hv1)) rfl ?_
  refine w_f (a := 33) (b := 19) rfl rfl rfl ?_
  refine w_p (pc1 := 29) rfl rfl ?_
  refine w_p (pc1 := 30) (st1 := .int 1 :: _) rfl rfl ?_
  refine w_p (pc1 := 34) rfl rfl ?_
  refine w_p (pc1 := 35) (al1 := [(2, .int 1), (0, .ref 176), (1, .int 1)]) rfl rfl ?_
  refine w_p (pc1 := 36) rfl rfl ?_
  refine w_t (a := 45) (b := 39) rfl rfl rfl ?_
  refine w_p (pc1 := 46) rfl rfl ?_
  refine w_m0 (pc1 := 49) (st1 := .int (nI (q)) :: _) rfl rfl (h_gIe (j := 47) rfl rfl rfl rfl rfl ((M.2.2.2.2.2.2.2.2.2.2.2.2.2.1 76 47 (by omega) (by omega) (by omega)).trans hx)) rfl ?_
  refine w_p (pc1 := 50) (al1 := [(3, .int (nI (q))), (2, .int 1), (0, .ref 176), (1, .int 1)]) rfl rfl ?_
  refine w_p (pc1 := 51) rfl rfl ?_
  refine w_m0 (pc1 := 54) (st1 := .int 0 :: _) rfl rfl (h_gIe (j := 8) rfl rfl rfl rfl rfl (M.2.1.2.1)) rfl ?_
  refine w_f (a := 61) (b := 57) rfl rfl rfl ?_
  refine w_p (pc1 := 58) rfl rfl ?_
  refine w_ji (pc1 := 61) (vs := [.ref 176]) (rest := []) (nM (d := _) M hd1 (by omega)) rfl rfl rfl (fun _ _ => rfl) rfl (by exact cl_v my_195 rfl rfl rfl (Nat.le_of_ble_eq_true rfl) rfl (MH_obj rfl rfl) rfl (by decide) rfl rfl) (by rfl) (Nat.le_of_ble_eq_true rfl) (Nat.le_of_ble_eq_true rfl) rfl (fun v h1 d1 hq => ?_) (fun _ _ _ e => e.elim)
  rcases hq with ⟨hv, ⟨C1, M1, hh⟩, hn⟩
  · subst hv; subst hh; subst hn
    refine w_p (pc1 := 62) rfl rfl ?_
    refine w_p (pc1 := 64) (st1 := .int 46 :: _) rfl rfl ?_
    refine w_ji (pc1 := 67) (vs := [.ref 176, .int 46]) (rest := []) (tE (k := 49) (d := _) M1 (by decide) (by decide) hd) rfl rfl rfl (fun _ _ => rfl) rfl (by exact cl_v my_209 rfl rfl rfl (Nat.le_of_ble_eq_true rfl) rfl (MH_obj rfl rfl) rfl (by decide) rfl rfl) (by rfl) (Nat.le_of_ble_eq_true rfl) (Nat.le_of_ble_eq_true rfl) rfl (fun v h1 d1 hq => ?_) (fun _ _ _ e => e.elim)
    rcases hq with ⟨hv, ⟨C2, F2, hh⟩, hn⟩
    · subst hv; subst hh; subst hn
      refine w_p (pc1 := 68) rfl rfl ?_
      refine w_je (pc1 := 71) (vs := [.ref 176]) (rest := []) (st1 := [.int 0]) (iF (d := _) F2) rfl rfl rfl (fun _ _ => rfl) rfl (by exact cl_v my_207 rfl rfl rfl (Nat.le_of_ble_eq_true rfl) rfl (MH_obj rfl rfl) rfl (by decide) rfl rfl) (by rfl) (Nat.le_of_ble_eq_true rfl) (Nat.le_of_ble_eq_true rfl) rfl (by rfl) ?_
      refine w_f (a := 75) (b := 74) rfl rfl rfl ?_
      refine w_r rfl rfl rfl (fun _ _ => rfl) rfl ?_
      exact ⟨rfl, ⟨C2, F2, rfl⟩, rfl⟩
set_option maxRecDepth 100000 in
theorem vw_b2 (M : MK B n C0 C p b wb (e + 1) s W) (he : e < 9) {q : Nat} (hx : C0.1 76 47 = nI q) (hq6 : q < 6) (hv1 : C0.1 76 48 = 1) (h6 : s.1 + 1 < 600) (hd : kd B n (s.1 + 1) = 49) (hb2 : kd B n (s.1 + 2) = 1) : Wd L xs (d + 5) y_231 (0, [(0, .ref 176), (1, .int 1)], [], MH C t, 0) (PFM B n C0 t p b wb 0 1 (s.1 + 2)) nX := by
  have hd1 : kd B n (s.1 + 1) ≠ 1 := by rw [hd]; decide
  refine w_p (pc1 := 1) rfl rfl ?_
  refine w_m0 (pc1 := 4) (st1 := .int (nI (q)) :: _) rfl rfl (h_gIe (j := 47) rfl rfl rfl rfl rfl ((M.2.2.2.2.2.2.2.2.2.2.2.2.2.1 76 47 (by omega) (by omega) (by omega)).trans hx)) rfl ?_
  refine w_p (pc1 := 5) (st1 := .int (-1) :: _) rfl rfl ?_
  refine w_f (a := 33) (b := 8) (cb_eq_f (by exact nK_m1 (by omega))) rfl rfl ?_
  refine w_p (pc1 := 9) rfl rfl ?_
  refine w_f (a := 22) (b := 12) rfl rfl rfl ?_
  refine w_p (pc1 := 13) rfl rfl ?_
  refine w_m0 (pc1 := 16) (st1 := .int 1 :: _) rfl rfl (h_gIe (j := 48) rfl rfl rfl rfl rfl ((M.2.2.2.2.2.2.2.2.2.2.2.2.2.1 76 48 (by omega) (by omega) (by omega)).trans hv1)) rfl ?_
  refine w_f (a := 33) (b := 19) rfl rfl rfl ?_
  refine w_p (pc1 := 29) rfl rfl ?_
  refine w_p (pc1 := 30) (st1 := .int 1 :: _) rfl rfl ?_
  refine w_p (pc1 := 34) rfl rfl ?_
  refine w_p (pc1 := 35) (al1 := [(2, .int 1), (0, .ref 176), (1, .int 1)]) rfl rfl ?_
  refine w_p (pc1 := 36) rfl rfl ?_
  refine w_t (a := 45) (b := 39) rfl rfl rfl ?_
  refine w_p (pc1 := 46) rfl rfl ?_
  refine w_m0 (pc1 := 49) (st1 := .int (nI (q)) :: _) rfl rfl (h_gIe (j := 47) rfl rfl rfl rfl rfl ((M.2.2.2.2.2.2.2.2.2.2.2.2.2.1 76 47 (by omega) (by omega) (by omega)).trans hx)) rfl ?_
  refine w_p (pc1 := 50) (al1 := [(3, .int (nI (q))), (2, .int 1), (0, .ref 176), (1, .int 1)]) rfl rfl ?_
  refine w_p (pc1 := 51) rfl rfl ?_
  refine w_m0 (pc1 := 54) (st1 := .int 0 :: _) rfl rfl (h_gIe (j := 8) rfl rfl rfl rfl rfl (M.2.1.2.1)) rfl ?_
  refine w_f (a := 61) (b := 57) rfl rfl rfl ?_
  refine w_p (pc1 := 58) rfl rfl ?_
  refine w_ji (pc1 := 61) (vs := [.ref 176]) (rest := []) (nM (d := _) M hd1 (by omega)) rfl rfl rfl (fun _ _ => rfl) rfl (by exact cl_v my_195 rfl rfl rfl (Nat.le_of_ble_eq_true rfl) rfl (MH_obj rfl rfl) rfl (by decide) rfl rfl) (by rfl) (Nat.le_of_ble_eq_true rfl) (Nat.le_of_ble_eq_true rfl) rfl (fun v h1 d1 hq => ?_) (fun _ _ _ e => e.elim)
  rcases hq with ⟨hv, ⟨C1, M1, hh⟩, hn⟩
  · subst hv; subst hh; subst hn
    refine w_p (pc1 := 62) rfl rfl ?_
    refine w_p (pc1 := 64) (st1 := .int 46 :: _) rfl rfl ?_
    refine w_ji (pc1 := 67) (vs := [.ref 176, .int 46]) (rest := []) (tSb (k := 49) (d := _) M1 (by decide) (by decide) hd hb2) rfl rfl rfl (fun _ _ => rfl) rfl (by exact cl_v my_209 rfl rfl rfl (Nat.le_of_ble_eq_true rfl) rfl (MH_obj rfl rfl) rfl (by decide) rfl rfl) (by rfl) (Nat.le_of_ble_eq_true rfl) (Nat.le_of_ble_eq_true rfl) rfl (fun v h1 d1 hq => ?_) (fun _ _ _ e => e.elim)
    rcases hq with ⟨hv, ⟨C2, F2, hh⟩, hn⟩
    · subst hv; subst hh; subst hn
      refine w_p (pc1 := 68) rfl rfl ?_
      refine w_je (pc1 := 71) (vs := [.ref 176]) (rest := []) (st1 := [.int 0]) (iF (d := _) F2) rfl rfl rfl (fun _ _ => rfl) rfl (by exact cl_v my_207 rfl rfl rfl (Nat.le_of_ble_eq_true rfl) rfl (MH_obj rfl rfl) rfl (by decide) rfl rfl) (by rfl) (Nat.le_of_ble_eq_true rfl) (Nat.le_of_ble_eq_true rfl) rfl (by rfl) ?_
      refine w_f (a := 75) (b := 74) rfl rfl rfl ?_
      refine w_r rfl rfl rfl (fun _ _ => rfl) rfl ?_
      exact ⟨rfl, ⟨C2, F2, rfl⟩, rfl⟩
set_option maxRecDepth 100000 in
theorem vw_m1 {q : Nat} (M : MK B n C0 C p b wb (e + 2) s W) (he : e < 9) (hx : C0.1 76 47 = nI q) (hq6 : q < 6) (hv1 : C0.1 76 48 = 1) (h6 : s.1 + 1 < 600) (hd : kd B n (s.1 + 1) = 49) (hb2 : kd B n (s.1 + 2) ≠ 1) (h3 : kd B n (s.1 + 2) ≠ 3) : Wd L xs (d + 5) y_231 (0, [(0, .ref 176), (1, .int 1)], [], MH C t, 0) (PFM B n C0 t p b wb 0 2 (s.1 + 2)) nX := by
  have hd1 : kd B n (s.1 + 1) ≠ 1 := by rw [hd]; decide
  refine w_p (pc1 := 1) rfl rfl ?_
  refine w_m0 (pc1 := 4) (st1 := .int (nI (q)) :: _) rfl rfl (h_gIe (j := 47) rfl rfl rfl rfl rfl ((M.2.2.2.2.2.2.2.2.2.2.2.2.2.1 76 47 (by omega) (by omega) (by omega)).trans hx)) rfl ?_
  refine w_p (pc1 := 5) (st1 := .int (-1) :: _) rfl rfl ?_
  refine w_f (a := 33) (b := 8) (cb_eq_f (by exact nK_m1 (by omega))) rfl rfl ?_
  refine w_p (pc1 := 9) rfl rfl ?_
  refine w_f (a := 22) (b := 12) rfl rfl rfl ?_
  refine w_p (pc1 := 13) rfl rfl ?_
  refine w_m0 (pc1 := 16) (st1 := .int 1 :: _) rfl rfl (h_gIe (j := 48) rfl rfl rfl rfl rfl ((M.2.2.2.2.2.2.2.2.2.2.2.2.2.1 76 48 (by omega) (by omega) (by omega)).trans hv1)) rfl ?_
  refine w_f (a := 33) (b := 19) rfl rfl rfl ?_
  refine w_p (pc1 := 29) rfl rfl ?_
  refine w_p (pc1 := 30) (st1 := .int 1 :: _) rfl rfl ?_
  refine w_p (pc1 := 34) rfl rfl ?_
  refine w_p (pc1 := 35) (al1 := [(2, .int 1), (0, .ref 176), (1, .int 1)]) rfl rfl ?_
  refine w_p (pc1 := 36) rfl rfl ?_
  refine w_t (a := 45) (b := 39) rfl rfl rfl ?_
  refine w_p (pc1 := 46) rfl rfl ?_
  refine w_m0 (pc1 := 49) (st1 := .int (nI (q)) :: _) rfl rfl (h_gIe (j := 47) rfl rfl rfl rfl rfl ((M.2.2.2.2.2.2.2.2.2.2.2.2.2.1 76 47 (by omega) (by omega) (by omega)).trans hx)) rfl ?_
  refine w_p (pc1 := 50) (al1 := [(3, .int (nI (q))), (2, .int 1), (0, .ref 176), (1, .int 1)]) rfl rfl ?_
  refine w_p (pc1 := 51) rfl rfl ?_
  refine w_m0 (pc1 := 54) (st1 := .int 0 :: _) rfl rfl (h_gIe (j := 8) rfl rfl rfl rfl rfl (M.2.1.2.1)) rfl ?_
  refine w_f (a := 61) (b := 57) rfl rfl rfl ?_
  refine w_p (pc1 := 58) rfl rfl ?_
  refine w_ji (pc1 := 61) (vs := [.ref 176]) (rest := []) (nM (d := _) M hd1 (by omega)) rfl rfl rfl (fun _ _ => rfl) rfl (by exact cl_v my_195 rfl rfl rfl (Nat.le_of_ble_eq_true rfl) rfl (MH_obj rfl rfl) rfl (by decide) rfl rfl) (by rfl) (Nat.le_of_ble_eq_true rfl) (Nat.le_of_ble_eq_true rfl) rfl (fun v h1 d1 hq => ?_) (fun _ _ _ e => e.elim)
  rcases hq with ⟨hv, ⟨C1, M1, hh⟩, hn⟩
  · subst hv; subst hh; subst hn
    refine w_p (pc1 := 62) rfl rfl ?_
    refine w_p (pc1 := 64) (st1 := .int 46 :: _) rfl rfl ?_
    refine w_ji (pc1 := 67) (vs := [.ref 176, .int 46]) (rest := []) (tSm (k := 49) (d := _) M1 (show s.1 + 1 < 600 by omega) (by decide) (by decide) hd hb2) rfl rfl rfl (fun _ _ => rfl) rfl (by exact cl_v my_209 rfl rfl rfl (Nat.le_of_ble_eq_true rfl) rfl (MH_obj rfl rfl) rfl (by decide) rfl rfl) (by rfl) (Nat.le_of_ble_eq_true rfl) (Nat.le_of_ble_eq_true rfl) rfl (fun v h1 d1 hq => ?_) (fun _ _ _ e => e.elim)
    rcases hq with ⟨hv, ⟨C2, M2, hh⟩, hn⟩
    · subst hv; subst hh; subst hn
      refine w_p (pc1 := 68) rfl rfl ?_
      refine w_ji (pc1 := 71) (vs := [.ref 176]) (rest := []) (iE (d := _) M2 h3) rfl rfl rfl (fun _ _ => rfl) rfl (by exact cl_v my_207 rfl rfl rfl (Nat.le_of_ble_eq_true rfl) rfl (MH_obj rfl rfl) rfl (by decide) rfl rfl) (by rfl) (Nat.le_of_ble_eq_true rfl) (Nat.le_of_ble_eq_true rfl) rfl (fun v h1 d1 hq => ?_) (fun _ _ _ e => e.elim)
      rcases hq with ⟨hv, ⟨C3, F3, hh⟩, hn⟩
      · subst hv; subst hh; subst hn
        refine w_f (a := 75) (b := 74) rfl rfl rfl ?_
        refine w_r rfl rfl rfl (fun _ _ => rfl) rfl ?_
        exact ⟨rfl, ⟨C3, F3, rfl⟩, rfl⟩
set_option maxRecDepth 100000 in
theorem vw_un {q : Nat} (M : MK B n C0 C p b wb (e + 2) s W) (he : e < 9) (hx : C0.1 76 47 = nI q) (hq6 : q < 6) (hv1 : C0.1 76 48 = 1) (h6 : s.1 + 2 < 600) {w : Nat} (hw : w ≤ 6) (h8 : C0.1 80 q = nI w) (hd : kd B n (s.1 + 1) = 49) (h3 : kd B n (s.1 + 2) = 3) (hg : fnd (fun j => decide (C0.2.1 81 (6 * q + j) = vl B n (s.1 + 2))) w 0 = -1) : Wd L xs (d + 5) y_231 (0, [(0, .ref 176), (1, .int 1)], [], MH C t, 0) (PFM B n C0 t p b wb 2 4 (s.1 + 2)) nX := by
  have hd1 : kd B n (s.1 + 1) ≠ 1 := by rw [hd]; decide
  have hb2 : kd B n (s.1 + 2) ≠ 1 := by rw [h3]; decide
  refine w_p (pc1 := 1) rfl rfl ?_
  refine w_m0 (pc1 := 4) (st1 := .int (nI (q)) :: _) rfl rfl (h_gIe (j := 47) rfl rfl rfl rfl rfl ((M.2.2.2.2.2.2.2.2.2.2.2.2.2.1 76 47 (by omega) (by omega) (by omega)).trans hx)) rfl ?_
  refine w_p (pc1 := 5) (st1 := .int (-1) :: _) rfl rfl ?_
  refine w_f (a := 33) (b := 8) (cb_eq_f (by exact nK_m1 (by omega))) rfl rfl ?_
  refine w_p (pc1 := 9) rfl rfl ?_
  refine w_f (a := 22) (b := 12) rfl rfl rfl ?_
  refine w_p (pc1 := 13) rfl rfl ?_
  refine w_m0 (pc1 := 16) (st1 := .int 1 :: _) rfl rfl (h_gIe (j := 48) rfl rfl rfl rfl rfl ((M.2.2.2.2.2.2.2.2.2.2.2.2.2.1 76 48 (by omega) (by omega) (by omega)).trans hv1)) rfl ?_
  refine w_f (a := 33) (b := 19) rfl rfl rfl ?_
  refine w_p (pc1 := 29) rfl rfl ?_
  refine w_p (pc1 := 30) (st1 := .int 1 :: _) rfl rfl ?_
  refine w_p (pc1 := 34) rfl rfl ?_
  refine w_p (pc1 := 35) (al1 := [(2, .int 1), (0, .ref 176), (1, .int 1)]) rfl rfl ?_
  refine w_p (pc1 := 36) rfl rfl ?_
  refine w_t (a := 45) (b := 39) rfl rfl rfl ?_
  refine w_p (pc1 := 46) rfl rfl ?_
  refine w_m0 (pc1 := 49) (st1 := .int (nI (q)) :: _) rfl rfl (h_gIe (j := 47) rfl rfl rfl rfl rfl ((M.2.2.2.2.2.2.2.2.2.2.2.2.2.1 76 47 (by omega) (by omega) (by omega)).trans hx)) rfl ?_
  refine w_p (pc1 := 50) (al1 := [(3, .int (nI (q))), (2, .int 1), (0, .ref 176), (1, .int 1)]) rfl rfl ?_
  refine w_p (pc1 := 51) rfl rfl ?_
  refine w_m0 (pc1 := 54) (st1 := .int 0 :: _) rfl rfl (h_gIe (j := 8) rfl rfl rfl rfl rfl (M.2.1.2.1)) rfl ?_
  refine w_f (a := 61) (b := 57) rfl rfl rfl ?_
  refine w_p (pc1 := 58) rfl rfl ?_
  refine w_ji (pc1 := 61) (vs := [.ref 176]) (rest := []) (nM (d := _) M hd1 (by omega)) rfl rfl rfl (fun _ _ => rfl) rfl (by exact cl_v my_195 rfl rfl rfl (Nat.le_of_ble_eq_true rfl) rfl (MH_obj rfl rfl) rfl (by decide) rfl rfl) (by rfl) (Nat.le_of_ble_eq_true rfl) (Nat.le_of_ble_eq_true rfl) rfl (fun v h1 d1 hq => ?_) (fun _ _ _ e => e.elim)
  rcases hq with ⟨hv, ⟨C1, M1, hh⟩, hn⟩
  · subst hv; subst hh; subst hn
    refine w_p (pc1 := 62) rfl rfl ?_
    refine w_p (pc1 := 64) (st1 := .int 46 :: _) rfl rfl ?_
    refine w_ji (pc1 := 67) (vs := [.ref 176, .int 46]) (rest := []) (tSm (k := 49) (d := _) M1 (show s.1 + 1 < 600 by omega) (by decide) (by decide) hd hb2) rfl rfl rfl (fun _ _ => rfl) rfl (by exact cl_v my_209 rfl rfl rfl (Nat.le_of_ble_eq_true rfl) rfl (MH_obj rfl rfl) rfl (by decide) rfl rfl) (by rfl) (Nat.le_of_ble_eq_true rfl) (Nat.le_of_ble_eq_true rfl) rfl (fun v h1 d1 hq => ?_) (fun _ _ _ e => e.elim)
    rcases hq with ⟨hv, ⟨C2, M2, hh⟩, hn⟩
    · subst hv; subst hh; subst hn
      refine w_p (pc1 := 68) rfl rfl ?_
      refine w_je (pc1 := 71) (vs := [.ref 176]) (rest := []) (st1 := [.int 1]) (iN (d := _) M2 h3) rfl rfl rfl (fun _ _ => rfl) rfl (by exact cl_v my_207 rfl rfl rfl (Nat.le_of_ble_eq_true rfl) rfl (MH_obj rfl rfl) rfl (by decide) rfl rfl) (by rfl) (Nat.le_of_ble_eq_true rfl) (Nat.le_of_ble_eq_true rfl) rfl (by rfl) ?_
      refine w_t (a := 75) (b := 74) rfl rfl rfl ?_
      refine w_p (pc1 := 76) rfl rfl ?_
      refine w_p (pc1 := 77) rfl rfl ?_
      refine w_p (pc1 := 78) rfl rfl ?_
      refine w_m0 (pc1 := 81) (st1 := .long (vl B n (s.1 + 2)) :: _) rfl rfl (h_gJe (j := 7) rfl rfl rfl rfl rfl (by rw [M2.2.1.2.2.2.1]; show mIs (kd B n (s.1 + 2)) _ = _; rw [h3]; rfl)) rfl ?_
      refine w_je (pc1 := 84) (vs := [.ref 176, .int (nI (q)), .long (vl B n (s.1 + 2))]) (rest := []) (st1 := [.int (fnd (fun j => decide (C2.2.1 81 (6 * q + j) = vl B n (s.1 + 2))) w 0)]) (m_213 (d := _) (sl := 0) hq6 (mr_w M2 h8) hw) rfl rfl rfl (fun _ _ => rfl) rfl (by exact cl_v my_213 rfl rfl rfl (Nat.le_of_ble_eq_true rfl) rfl (MH_obj rfl rfl) rfl (by decide) rfl rfl) (by rfl) (Nat.le_of_ble_eq_true rfl) (Nat.le_of_ble_eq_true rfl) rfl (by rfl) ?_
      refine w_p (pc1 := 86) (al1 := [(4, .int (fnd (fun j => decide (C2.2.1 81 (6 * q + j) = vl B n (s.1 + 2))) w 0)), (3, .int (nI (q))), (2, .int 1), (0, .ref 176), (1, .int 1)]) rfl rfl ?_
      refine w_p (pc1 := 88) rfl rfl ?_
      refine w_p (pc1 := 89) (st1 := .int (-1) :: _) rfl rfl ?_
      refine w_f (a := 97) (b := 92) (cb_ne_f (by rw [mr_col M2]; exact hg)) rfl rfl ?_
      refine w_p (pc1 := 93) rfl rfl ?_
      refine w_p (pc1 := 94) (st1 := .int 4 :: _) rfl rfl ?_
      refine w_je (pc1 := 97) (vs := [.ref 176, .int 4]) (rest := []) (st1 := []) (m_200 (d := _) (sl := 0) (fun z => absurd M2.2.1.2.1 z)) rfl rfl rfl (fun _ _ => rfl) rfl (by exact cl_v my_200 rfl rfl rfl (Nat.le_of_ble_eq_true rfl) rfl (MH_obj rfl rfl) rfl (by decide) rfl rfl) (by rfl) (Nat.le_of_ble_eq_true rfl) (Nat.le_of_ble_eq_true rfl) rfl (by rfl) ?_
      refine w_p (pc1 := 98) rfl rfl ?_
      refine w_ji (pc1 := 101) (vs := [.ref 176]) (rest := []) (dF (d := _) (FM_new (c := 4) M2 (by decide)) (by decide) (by omega)) rfl rfl rfl (fun _ _ => rfl) rfl (by exact cl_v my_226 rfl rfl rfl (Nat.le_of_ble_eq_true rfl) rfl (MH_obj rfl rfl) rfl (by decide) rfl rfl) (by rfl) (Nat.le_of_ble_eq_true rfl) (Nat.le_of_ble_eq_true rfl) rfl (fun v h1 d1 hq => ?_) (fun _ _ _ e => e.elim)
      rcases hq with ⟨hv, ⟨C3, F3, hh⟩, hn⟩
      · subst hv; subst hh; subst hn
        refine w_p (pc1 := 102) rfl rfl ?_
        refine w_p (pc1 := 103) rfl rfl ?_
        refine w_f (a := 110) (b := 106) rfl rfl rfl ?_
        refine w_p (pc1 := 107) (st1 := .int 4 :: _) rfl rfl ?_
        refine w_p (pc1 := 111) rfl rfl ?_
        refine w_p (pc1 := 113) rfl rfl ?_
        refine w_p (pc1 := 114) rfl rfl ?_
        refine w_ji (pc1 := 117) (vs := [.ref 176, .int 4, _]) (rest := []) (sF (d := _) F3 (by omega)) rfl rfl rfl (fun _ _ => rfl) rfl (by exact cl_v my_230 rfl rfl rfl (Nat.le_of_ble_eq_true rfl) rfl (MH_obj rfl rfl) rfl (by decide) rfl rfl) (by rfl) (Nat.le_of_ble_eq_true rfl) (Nat.le_of_ble_eq_true rfl) rfl (fun v h1 d1 hq => ?_) (fun _ _ _ e => e.elim)
        rcases hq with ⟨hv, ⟨C4, F4, hh⟩, hn⟩
        · subst hv; subst hh; subst hn
          refine w_p (pc1 := 118) rfl rfl ?_
          refine w_ji (pc1 := 121) (vs := [.ref 176]) (rest := []) (nF (d := _) F4) rfl rfl rfl (fun _ _ => rfl) rfl (by exact cl_v my_195 rfl rfl rfl (Nat.le_of_ble_eq_true rfl) rfl (MH_obj rfl rfl) rfl (by decide) rfl rfl) (by rfl) (Nat.le_of_ble_eq_true rfl) (Nat.le_of_ble_eq_true rfl) rfl (fun v h1 d1 hq => ?_) (fun _ _ _ e => e.elim)
          rcases hq with ⟨hv, ⟨C5, F5, hh⟩, hn⟩
          · subst hv; subst hh; subst hn
            refine w_r rfl rfl rfl (fun _ _ => rfl) rfl ?_
            exact ⟨rfl, ⟨C5, F5, rfl⟩, rfl⟩
set_option maxRecDepth 100000 in
theorem vw_er {q : Nat} (M : MK B n C0 C p b wb (e + 2) s W) (he : e < 9) (hx : C0.1 76 47 = nI q) (hq6 : q < 6) (hv1 : C0.1 76 48 = 1) (h6 : s.1 + 2 < 600) {w : Nat} (hw : w ≤ 6) (h8 : C0.1 80 q = nI w) (hd : kd B n (s.1 + 1) = 49) (h3 : kd B n (s.1 + 2) = 3) (hg : fnd (fun j => decide (C0.2.1 81 (6 * q + j) = vl B n (s.1 + 2))) w 0 ≠ -1) (h1 : spd (nxt (nxt s)) = .inl (c, i)) : Wd L xs (d + 5) y_231 (0, [(0, .ref 176), (1, .int 1)], [], MH C t, 0) (PFM B n C0 t p b wb 2 c i) nX := by
  have hd1 : kd B n (s.1 + 1) ≠ 1 := by rw [hd]; decide
  have hb2 : kd B n (s.1 + 2) ≠ 1 := by rw [h3]; decide
  refine w_p (pc1 := 1) rfl rfl ?_
  refine w_m0 (pc1 := 4) (st1 := .int (nI (q)) :: _) rfl rfl (h_gIe (j := 47) rfl rfl rfl rfl rfl ((M.2.2.2.2.2.2.2.2.2.2.2.2.2.1 76 47 (by omega) (by omega) (by omega)).trans hx)) rfl ?_
  refine w_p (pc1 := 5) (st1 := .int (-1) :: _) rfl rfl ?_
  refine w_f (a := 33) (b := 8) (cb_eq_f (by exact nK_m1 (by omega))) rfl rfl ?_
  refine w_p (pc1 := 9) rfl rfl ?_
  refine w_f (a := 22) (b := 12) rfl rfl rfl ?_
  refine w_p (pc1 := 13) rfl rfl ?_
  refine w_m0 (pc1 := 16) (st1 := .int 1 :: _) rfl rfl (h_gIe (j := 48) rfl rfl rfl rfl rfl ((M.2.2.2.2.2.2.2.2.2.2.2.2.2.1 76 48 (by omega) (by omega) (by omega)).trans hv1)) rfl ?_
  refine w_f (a := 33) (b := 19) rfl rfl rfl ?_
  refine w_p (pc1 := 29) rfl rfl ?_
  refine w_p (pc1 := 30) (st1 := .int 1 :: _) rfl rfl ?_
  refine w_p (pc1 := 34) rfl rfl ?_
  refine w_p (pc1 := 35) (al1 := [(2, .int 1), (0, .ref 176), (1, .int 1)]) rfl rfl ?_
  refine w_p (pc1 := 36) rfl rfl ?_
  refine w_t (a := 45) (b := 39) rfl rfl rfl ?_
  refine w_p (pc1 := 46) rfl rfl ?_
  refine w_m0 (pc1 := 49) (st1 := .int (nI (q)) :: _) rfl rfl (h_gIe (j := 47) rfl rfl rfl rfl rfl ((M.2.2.2.2.2.2.2.2.2.2.2.2.2.1 76 47 (by omega) (by omega) (by omega)).trans hx)) rfl ?_
  refine w_p (pc1 := 50) (al1 := [(3, .int (nI (q))), (2, .int 1), (0, .ref 176), (1, .int 1)]) rfl rfl ?_
  refine w_p (pc1 := 51) rfl rfl ?_
  refine w_m0 (pc1 := 54) (st1 := .int 0 :: _) rfl rfl (h_gIe (j := 8) rfl rfl rfl rfl rfl (M.2.1.2.1)) rfl ?_
  refine w_f (a := 61) (b := 57) rfl rfl rfl ?_
  refine w_p (pc1 := 58) rfl rfl ?_
  refine w_ji (pc1 := 61) (vs := [.ref 176]) (rest := []) (nM (d := _) M hd1 (by omega)) rfl rfl rfl (fun _ _ => rfl) rfl (by exact cl_v my_195 rfl rfl rfl (Nat.le_of_ble_eq_true rfl) rfl (MH_obj rfl rfl) rfl (by decide) rfl rfl) (by rfl) (Nat.le_of_ble_eq_true rfl) (Nat.le_of_ble_eq_true rfl) rfl (fun v h1 d1 hq => ?_) (fun _ _ _ e => e.elim)
  rcases hq with ⟨hv, ⟨C1, M1, hh⟩, hn⟩
  · subst hv; subst hh; subst hn
    refine w_p (pc1 := 62) rfl rfl ?_
    refine w_p (pc1 := 64) (st1 := .int 46 :: _) rfl rfl ?_
    refine w_ji (pc1 := 67) (vs := [.ref 176, .int 46]) (rest := []) (tSm (k := 49) (d := _) M1 (show s.1 + 1 < 600 by omega) (by decide) (by decide) hd hb2) rfl rfl rfl (fun _ _ => rfl) rfl (by exact cl_v my_209 rfl rfl rfl (Nat.le_of_ble_eq_true rfl) rfl (MH_obj rfl rfl) rfl (by decide) rfl rfl) (by rfl) (Nat.le_of_ble_eq_true rfl) (Nat.le_of_ble_eq_true rfl) rfl (fun v h1 d1 hq => ?_) (fun _ _ _ e => e.elim)
    rcases hq with ⟨hv, ⟨C2, M2, hh⟩, hn⟩
    · subst hv; subst hh; subst hn
      refine w_p (pc1 := 68) rfl rfl ?_
      refine w_je (pc1 := 71) (vs := [.ref 176]) (rest := []) (st1 := [.int 1]) (iN (d := _) M2 h3) rfl rfl rfl (fun _ _ => rfl) rfl (by exact cl_v my_207 rfl rfl rfl (Nat.le_of_ble_eq_true rfl) rfl (MH_obj rfl rfl) rfl (by decide) rfl rfl) (by rfl) (Nat.le_of_ble_eq_true rfl) (Nat.le_of_ble_eq_true rfl) rfl (by rfl) ?_
      refine w_t (a := 75) (b := 74) rfl rfl rfl ?_
      refine w_p (pc1 := 76) rfl rfl ?_
      refine w_p (pc1 := 77) rfl rfl ?_
      refine w_p (pc1 := 78) rfl rfl ?_
      refine w_m0 (pc1 := 81) (st1 := .long (vl B n (s.1 + 2)) :: _) rfl rfl (h_gJe (j := 7) rfl rfl rfl rfl rfl (by rw [M2.2.1.2.2.2.1]; show mIs (kd B n (s.1 + 2)) _ = _; rw [h3]; rfl)) rfl ?_
      refine w_je (pc1 := 84) (vs := [.ref 176, .int (nI (q)), .long (vl B n (s.1 + 2))]) (rest := []) (st1 := [.int (fnd (fun j => decide (C2.2.1 81 (6 * q + j) = vl B n (s.1 + 2))) w 0)]) (m_213 (d := _) (sl := 0) hq6 (mr_w M2 h8) hw) rfl rfl rfl (fun _ _ => rfl) rfl (by exact cl_v my_213 rfl rfl rfl (Nat.le_of_ble_eq_true rfl) rfl (MH_obj rfl rfl) rfl (by decide) rfl rfl) (by rfl) (Nat.le_of_ble_eq_true rfl) (Nat.le_of_ble_eq_true rfl) rfl (by rfl) ?_
      refine w_p (pc1 := 86) (al1 := [(4, .int (fnd (fun j => decide (C2.2.1 81 (6 * q + j) = vl B n (s.1 + 2))) w 0)), (3, .int (nI (q))), (2, .int 1), (0, .ref 176), (1, .int 1)]) rfl rfl ?_
      refine w_p (pc1 := 88) rfl rfl ?_
      refine w_p (pc1 := 89) (st1 := .int (-1) :: _) rfl rfl ?_
      refine w_t (a := 97) (b := 92) (cb_ne_t (by rw [mr_col M2]; exact hg)) rfl rfl ?_
      refine w_p (pc1 := 98) rfl rfl ?_
      refine w_ji (pc1 := 101) (vs := [.ref 176]) (rest := []) (dE (d := _) M2 h1) rfl rfl rfl (fun _ _ => rfl) rfl (by exact cl_v my_226 rfl rfl rfl (Nat.le_of_ble_eq_true rfl) rfl (MH_obj rfl rfl) rfl (by decide) rfl rfl) (by rfl) (Nat.le_of_ble_eq_true rfl) (Nat.le_of_ble_eq_true rfl) rfl (fun v h1 d1 hq => ?_) (fun _ _ _ e => e.elim)
      rcases hq with ⟨hv, ⟨C3, F3, hh⟩, hn⟩
      · subst hv; subst hh; subst hn
        refine w_p (pc1 := 102) rfl rfl ?_
        refine w_p (pc1 := 103) rfl rfl ?_
        refine w_f (a := 110) (b := 106) rfl rfl rfl ?_
        refine w_p (pc1 := 107) (st1 := .int 4 :: _) rfl rfl ?_
        refine w_p (pc1 := 111) rfl rfl ?_
        refine w_p (pc1 := 113) rfl rfl ?_
        refine w_p (pc1 := 114) rfl rfl ?_
        refine w_ji (pc1 := 117) (vs := [.ref 176, .int 4, _]) (rest := []) (sF (d := _) F3 (by omega)) rfl rfl rfl (fun _ _ => rfl) rfl (by exact cl_v my_230 rfl rfl rfl (Nat.le_of_ble_eq_true rfl) rfl (MH_obj rfl rfl) rfl (by decide) rfl rfl) (by rfl) (Nat.le_of_ble_eq_true rfl) (Nat.le_of_ble_eq_true rfl) rfl (fun v h1 d1 hq => ?_) (fun _ _ _ e => e.elim)
        rcases hq with ⟨hv, ⟨C4, F4, hh⟩, hn⟩
        · subst hv; subst hh; subst hn
          refine w_p (pc1 := 118) rfl rfl ?_
          refine w_ji (pc1 := 121) (vs := [.ref 176]) (rest := []) (nF (d := _) F4) rfl rfl rfl (fun _ _ => rfl) rfl (by exact cl_v my_195 rfl rfl rfl (Nat.le_of_ble_eq_true rfl) rfl (MH_obj rfl rfl) rfl (by decide) rfl rfl) (by rfl) (Nat.le_of_ble_eq_true rfl) (Nat.le_of_ble_eq_true rfl) rfl (fun v h1 d1 hq => ?_) (fun _ _ _ e => e.elim)
          rcases hq with ⟨hv, ⟨C5, F5, hh⟩, hn⟩
          · subst hv; subst hh; subst hn
            refine w_r rfl rfl rfl (fun _ _ => rfl) rfl ?_
            exact ⟨rfl, ⟨C5, F5, rfl⟩, rfl⟩
set_option maxRecDepth 100000 in
theorem vw_ok {q : Nat} (M : MK B n C0 C p b wb (e + 2) s W) (he : e < 9) (hx : C0.1 76 47 = nI q) (hq6 : q < 6) (hv1 : C0.1 76 48 = 1) (h6 : s.1 + 2 < 600) {w : Nat} (hw : w ≤ 6) (h8 : C0.1 80 q = nI w) (hd : kd B n (s.1 + 1) = 49) (h3 : kd B n (s.1 + 2) = 3) (hg : fnd (fun j => decide (C0.2.1 81 (6 * q + j) = vl B n (s.1 + 2))) w 0 ≠ -1) (h1 : spd (nxt (nxt s)) = .inr y) : Wd L xs (d + 5) y_231 (0, [(0, .ref 176), (1, .int 1)], [], MH C t, 0) (QM B n C0 t p b wb e none (nxt (emt y 3 (fnd (fun j => decide (C0.2.1 81 (6 * q + j) = vl B n (s.1 + 2))) w 0))) W) nX := by
  have hd1 : kd B n (s.1 + 1) ≠ 1 := by rw [hd]; decide
  have hb2 : kd B n (s.1 + 2) ≠ 1 := by rw [h3]; decide
  have hy := spd_s h1
  refine w_p (pc1 := 1) rfl rfl ?_
  refine w_m0 (pc1 := 4) (st1 := .int (nI (q)) :: _) rfl rfl (h_gIe (j := 47) rfl rfl rfl rfl rfl ((M.2.2.2.2.2.2.2.2.2.2.2.2.2.1 76 47 (by omega) (by omega) (by omega)).trans hx)) rfl ?_
  refine w_p (pc1 := 5) (st1 := .int (-1) :: _) rfl rfl ?_
  refine w_f (a := 33) (b := 8) (cb_eq_f (by exact nK_m1 (by omega))) rfl rfl ?_
  refine w_p (pc1 := 9) rfl rfl ?_
  refine w_f (a := 22) (b := 12) rfl rfl rfl ?_
  refine w_p (pc1 := 13) rfl rfl ?_
  refine w_m0 (pc1 := 16) (st1 := .int 1 :: _) rfl rfl (h_gIe (j := 48) rfl rfl rfl rfl rfl ((M.2.2.2.2.2.2.2.2.2.2.2.2.2.1 76 48 (by omega) (by omega) (by omega)).trans hv1)) rfl ?_
  refine w_f (a := 33) (b := 19) rfl rfl rfl ?_
  refine w_p (pc1 := 29) rfl rfl ?_
  refine w_p (pc1 := 30) (st1 := .int 1 :: _) rfl rfl ?_
  refine w_p (pc1 := 34) rfl rfl ?_
  refine w_p (pc1 := 35) (al1 := [(2, .int 1), (0, .ref 176), (1, .int 1)]) rfl rfl ?_
  refine w_p (pc1 := 36) rfl rfl ?_
  refine w_t (a := 45) (b := 39) rfl rfl rfl ?_
  refine w_p (pc1 := 46) rfl rfl ?_
  refine w_m0 (pc1 := 49) (st1 := .int (nI (q)) :: _) rfl rfl (h_gIe (j := 47) rfl rfl rfl rfl rfl ((M.2.2.2.2.2.2.2.2.2.2.2.2.2.1 76 47 (by omega) (by omega) (by omega)).trans hx)) rfl ?_
  refine w_p (pc1 := 50) (al1 := [(3, .int (nI (q))), (2, .int 1), (0, .ref 176), (1, .int 1)]) rfl rfl ?_
  refine w_p (pc1 := 51) rfl rfl ?_
  refine w_m0 (pc1 := 54) (st1 := .int 0 :: _) rfl rfl (h_gIe (j := 8) rfl rfl rfl rfl rfl (M.2.1.2.1)) rfl ?_
  refine w_f (a := 61) (b := 57) rfl rfl rfl ?_
  refine w_p (pc1 := 58) rfl rfl ?_
  refine w_ji (pc1 := 61) (vs := [.ref 176]) (rest := []) (nM (d := _) M hd1 (by omega)) rfl rfl rfl (fun _ _ => rfl) rfl (by exact cl_v my_195 rfl rfl rfl (Nat.le_of_ble_eq_true rfl) rfl (MH_obj rfl rfl) rfl (by decide) rfl rfl) (by rfl) (Nat.le_of_ble_eq_true rfl) (Nat.le_of_ble_eq_true rfl) rfl (fun v h1 d1 hq => ?_) (fun _ _ _ e => e.elim)
  rcases hq with ⟨hv, ⟨C1, M1, hh⟩, hn⟩
  · subst hv; subst hh; subst hn
    refine w_p (pc1 := 62) rfl rfl ?_
    refine w_p (pc1 := 64) (st1 := .int 46 :: _) rfl rfl ?_
    refine w_ji (pc1 := 67) (vs := [.ref 176, .int 46]) (rest := []) (tSm (k := 49) (d := _) M1 (show s.1 + 1 < 600 by omega) (by decide) (by decide) hd hb2) rfl rfl rfl (fun _ _ => rfl) rfl (by exact cl_v my_209 rfl rfl rfl (Nat.le_of_ble_eq_true rfl) rfl (MH_obj rfl rfl) rfl (by decide) rfl rfl) (by rfl) (Nat.le_of_ble_eq_true rfl) (Nat.le_of_ble_eq_true rfl) rfl (fun v h1 d1 hq => ?_) (fun _ _ _ e => e.elim)
    rcases hq with ⟨hv, ⟨C2, M2, hh⟩, hn⟩
    · subst hv; subst hh; subst hn
      refine w_p (pc1 := 68) rfl rfl ?_
      refine w_je (pc1 := 71) (vs := [.ref 176]) (rest := []) (st1 := [.int 1]) (iN (d := _) M2 h3) rfl rfl rfl (fun _ _ => rfl) rfl (by exact cl_v my_207 rfl rfl rfl (Nat.le_of_ble_eq_true rfl) rfl (MH_obj rfl rfl) rfl (by decide) rfl rfl) (by rfl) (Nat.le_of_ble_eq_true rfl) (Nat.le_of_ble_eq_true rfl) rfl (by rfl) ?_
      refine w_t (a := 75) (b := 74) rfl rfl rfl ?_
      refine w_p (pc1 := 76) rfl rfl ?_
      refine w_p (pc1 := 77) rfl rfl ?_
      refine w_p (pc1 := 78) rfl rfl ?_
      refine w_m0 (pc1 := 81) (st1 := .long (vl B n (s.1 + 2)) :: _) rfl rfl (h_gJe (j := 7) rfl rfl rfl rfl rfl (by rw [M2.2.1.2.2.2.1]; show mIs (kd B n (s.1 + 2)) _ = _; rw [h3]; rfl)) rfl ?_
      refine w_je (pc1 := 84) (vs := [.ref 176, .int (nI (q)), .long (vl B n (s.1 + 2))]) (rest := []) (st1 := [.int (fnd (fun j => decide (C2.2.1 81 (6 * q + j) = vl B n (s.1 + 2))) w 0)]) (m_213 (d := _) (sl := 0) hq6 (mr_w M2 h8) hw) rfl rfl rfl (fun _ _ => rfl) rfl (by exact cl_v my_213 rfl rfl rfl (Nat.le_of_ble_eq_true rfl) rfl (MH_obj rfl rfl) rfl (by decide) rfl rfl) (by rfl) (Nat.le_of_ble_eq_true rfl) (Nat.le_of_ble_eq_true rfl) rfl (by rfl) ?_
      refine w_p (pc1 := 86) (al1 := [(4, .int (fnd (fun j => decide (C2.2.1 81 (6 * q + j) = vl B n (s.1 + 2))) w 0)), (3, .int (nI (q))), (2, .int 1), (0, .ref 176), (1, .int 1)]) rfl rfl ?_
      refine w_p (pc1 := 88) rfl rfl ?_
      refine w_p (pc1 := 89) (st1 := .int (-1) :: _) rfl rfl ?_
      refine w_t (a := 97) (b := 92) (cb_ne_t (by rw [mr_col M2]; exact hg)) rfl rfl ?_
      refine w_p (pc1 := 98) rfl rfl ?_
      refine w_ji (pc1 := 101) (vs := [.ref 176]) (rest := []) (dM (d := _) M2 h1) rfl rfl rfl (fun _ _ => rfl) rfl (by exact cl_v my_226 rfl rfl rfl (Nat.le_of_ble_eq_true rfl) rfl (MH_obj rfl rfl) rfl (by decide) rfl rfl) (by rfl) (Nat.le_of_ble_eq_true rfl) (Nat.le_of_ble_eq_true rfl) rfl (fun v h1 d1 hq => ?_) (fun _ _ _ e => e.elim)
      rcases hq with ⟨hv, ⟨C3, M3, hh⟩, hn⟩
      · subst hv; subst hh; subst hn
        refine w_p (pc1 := 102) rfl rfl ?_
        refine w_p (pc1 := 103) rfl rfl ?_
        refine w_f (a := 110) (b := 106) rfl rfl rfl ?_
        refine w_p (pc1 := 107) (st1 := .int 4 :: _) rfl rfl ?_
        refine w_p (pc1 := 111) rfl rfl ?_
        refine w_p (pc1 := 113) rfl rfl ?_
        refine w_p (pc1 := 114) rfl rfl ?_
        refine w_ji (pc1 := 117) (vs := [.ref 176, .int 4, _]) (rest := []) (sM (a := 3) (c := fnd (fun j => decide (C0.2.1 81 (6 * q + j) = vl B n (s.1 + 2))) w 0) (v := (fnd (fun j => decide (C2.2.1 81 (6 * q + j) = vl B n (s.1 + 2))) w 0).toInt64) (d := _) M3 (by omega) (Or.inr (Or.inr (Or.inr (Or.inl ⟨rfl, rfl, by rw [mr_col M2]⟩))))) rfl rfl rfl (fun _ _ => rfl) rfl (by exact cl_v my_230 rfl rfl rfl (Nat.le_of_ble_eq_true rfl) rfl (MH_obj rfl rfl) rfl (by decide) rfl rfl) (by rfl) (Nat.le_of_ble_eq_true rfl) (Nat.le_of_ble_eq_true rfl) rfl (fun v h1 d1 hq => ?_) (fun _ _ _ e => e.elim)
        rcases hq with ⟨hv, ⟨C4, M4, hh⟩, hn⟩
        · subst hv; subst hh; subst hn
          refine w_p (pc1 := 118) rfl rfl ?_
          refine w_ji (pc1 := 121) (vs := [.ref 176]) (rest := []) (nA (d := _) M4 (show y.1 < 600 by rw [hy.1]; exact h6)) rfl rfl rfl (fun _ _ => rfl) rfl (by exact cl_v my_195 rfl rfl rfl (Nat.le_of_ble_eq_true rfl) rfl (MH_obj rfl rfl) rfl (by decide) rfl rfl) (by rfl) (Nat.le_of_ble_eq_true rfl) (Nat.le_of_ble_eq_true rfl) rfl (fun v h1 d1 hq => ?_) (fun _ _ _ e => e.elim)
          rcases hq with ⟨hv, ⟨C5, Q5, hh⟩, hn⟩
          · subst hv; subst hh; subst hn
            refine w_r rfl rfl rfl (fun _ _ => rfl) rfl ?_
            exact ⟨rfl, ⟨C5, Q5, rfl⟩, rfl⟩
set_option maxRecDepth 100000 in
theorem vo_n1 (M : MK B n C0 C p b wb (e + 1) s W) (he : e < 9) (hx : C0.1 76 47 = -1) : Wd L xs (d + 5) y_231 (0, [(0, .ref 176), (1, .int 0)], [], MH C t, 0) (PFM B n C0 t p b wb 0 7 s.1) nX := by
  have hF := FM_new (c := 7) M (by decide)
  refine w_p (pc1 := 1) rfl rfl ?_
  refine w_m0 (pc1 := 4) (st1 := .int (-1) :: _) rfl rfl (h_gIe (j := 47) rfl rfl rfl rfl rfl ((M.2.2.2.2.2.2.2.2.2.2.2.2.2.1 76 47 (by omega) (by omega) (by omega)).trans hx)) rfl ?_
  refine w_p (pc1 := 5) (st1 := .int (-1) :: _) rfl rfl ?_
  refine w_t (a := 33) (b := 8) rfl rfl rfl ?_
  refine w_p (pc1 := 34) (st1 := .int 0 :: _) rfl rfl ?_
  refine w_p (pc1 := 35) (al1 := [(2, .int 0), (0, .ref 176), (1, .int 0)]) rfl rfl ?_
  refine w_p (pc1 := 36) rfl rfl ?_
  refine w_f (a := 45) (b := 39) rfl rfl rfl ?_
  refine w_p (pc1 := 40) rfl rfl ?_
  refine w_p (pc1 := 42) (st1 := .int 7 :: _) rfl rfl ?_
  refine w_je (pc1 := 45) (vs := [.ref 176, .int 7]) (rest := []) (st1 := []) (m_200 (d := _) (sl := 0) (fun z => absurd M.2.1.2.1 z)) rfl rfl rfl (fun _ _ => rfl) rfl (by exact cl_v my_200 rfl rfl rfl (Nat.le_of_ble_eq_true rfl) rfl (MH_obj rfl rfl) rfl (by decide) rfl rfl) (by rfl) (Nat.le_of_ble_eq_true rfl) (Nat.le_of_ble_eq_true rfl) rfl (by rfl) ?_
  refine w_p (pc1 := 46) rfl rfl ?_
  refine w_m0 (pc1 := 49) rfl rfl (h_gI (j := 47) rfl rfl rfl rfl rfl) rfl ?_
  refine w_p (pc1 := 50) (al1 := [(3, _), (2, .int 0), (0, .ref 176), (1, .int 0)]) rfl rfl ?_
  refine w_p (pc1 := 51) rfl rfl ?_
  refine w_m0 (pc1 := 54) rfl rfl (h_gI (j := 8) rfl rfl rfl rfl rfl) rfl ?_
  refine w_t (a := 61) (b := 57) (cb_ne_t (by rw [hF.1.2.1]; decide)) rfl rfl ?_
  refine w_p (pc1 := 62) rfl rfl ?_
  refine w_p (pc1 := 64) (st1 := .int 46 :: _) rfl rfl ?_
  refine w_je (pc1 := 67) (vs := [.ref 176, .int 46]) (rest := []) (st1 := []) (tF (d := _) hF) rfl rfl rfl (fun _ _ => rfl) rfl (by exact cl_v my_209 rfl rfl rfl (Nat.le_of_ble_eq_true rfl) rfl (MH_obj rfl rfl) rfl (by decide) rfl rfl) (by rfl) (Nat.le_of_ble_eq_true rfl) (Nat.le_of_ble_eq_true rfl) rfl (by rfl) ?_
  refine w_p (pc1 := 68) rfl rfl ?_
  refine w_je (pc1 := 71) (vs := [.ref 176]) (rest := []) (st1 := [.int 0]) (iF (d := _) hF) rfl rfl rfl (fun _ _ => rfl) rfl (by exact cl_v my_207 rfl rfl rfl (Nat.le_of_ble_eq_true rfl) rfl (MH_obj rfl rfl) rfl (by decide) rfl rfl) (by rfl) (Nat.le_of_ble_eq_true rfl) (Nat.le_of_ble_eq_true rfl) rfl (by rfl) ?_
  refine w_f (a := 75) (b := 74) rfl rfl rfl ?_
  refine w_r rfl rfl rfl (fun _ _ => rfl) rfl ?_
  exact ⟨rfl, ⟨_, hF, rfl⟩, rfl⟩
set_option maxRecDepth 100000 in
theorem vo_n2 (M : MK B n C0 C p b wb (e + 1) s W) (he : e < 9) (hx : C0.1 76 47 ≠ -1) (hv0 : C0.1 76 49 = 0) : Wd L xs (d + 5) y_231 (0, [(0, .ref 176), (1, .int 0)], [], MH C t, 0) (PFM B n C0 t p b wb 0 7 s.1) nX := by
  have hF := FM_new (c := 7) M (by decide)
  refine w_p (pc1 := 1) rfl rfl ?_
  refine w_m0 (pc1 := 4) rfl rfl (h_gI (j := 47) rfl rfl rfl rfl rfl) rfl ?_
  refine w_p (pc1 := 5) (st1 := .int (-1) :: _) rfl rfl ?_
  refine w_f (a := 33) (b := 8) (cb_eq_f (by rw [(M.2.2.2.2.2.2.2.2.2.2.2.2.2.1 76 47 (by omega) (by omega) (by omega))]; exact hx)) rfl rfl ?_
  refine w_p (pc1 := 9) rfl rfl ?_
  refine w_t (a := 22) (b := 12) rfl rfl rfl ?_
  refine w_p (pc1 := 23) rfl rfl ?_
  refine w_m0 (pc1 := 26) (st1 := .int 0 :: _) rfl rfl (h_gIe (j := 49) rfl rfl rfl rfl rfl ((M.2.2.2.2.2.2.2.2.2.2.2.2.2.1 76 49 (by omega) (by omega) (by omega)).trans hv0)) rfl ?_
  refine w_t (a := 33) (b := 29) rfl rfl rfl ?_
  refine w_p (pc1 := 34) (st1 := .int 0 :: _) rfl rfl ?_
  refine w_p (pc1 := 35) (al1 := [(2, .int 0), (0, .ref 176), (1, .int 0)]) rfl rfl ?_
  refine w_p (pc1 := 36) rfl rfl ?_
  refine w_f (a := 45) (b := 39) rfl rfl rfl ?_
  refine w_p (pc1 := 40) rfl rfl ?_
  refine w_p (pc1 := 42) (st1 := .int 7 :: _) rfl rfl ?_
  refine w_je (pc1 := 45) (vs := [.ref 176, .int 7]) (rest := []) (st1 := []) (m_200 (d := _) (sl := 0) (fun z => absurd M.2.1.2.1 z)) rfl rfl rfl (fun _ _ => rfl) rfl (by exact cl_v my_200 rfl rfl rfl (Nat.le_of_ble_eq_true rfl) rfl (MH_obj rfl rfl) rfl (by decide) rfl rfl) (by rfl) (Nat.le_of_ble_eq_true rfl) (Nat.le_of_ble_eq_true rfl) rfl (by rfl) ?_
  refine w_p (pc1 := 46) rfl rfl ?_
  refine w_m0 (pc1 := 49) rfl rfl (h_gI (j := 47) rfl rfl rfl rfl rfl) rfl ?_
  refine w_p (pc1 := 50) (al1 := [(3, _), (2, .int 0), (0, .ref 176), (1, .int 0)]) rfl rfl ?_
  refine w_p (pc1 := 51) rfl rfl ?_
  refine w_m0 (pc1 := 54) rfl rfl (h_gI (j := 8) rfl rfl rfl rfl rfl) rfl ?_
  refine w_t (a := 61) (b := 57) (cb_ne_t (by rw [hF.1.2.1]; decide)) rfl rfl ?_
  refine w_p (pc1 := 62) rfl rfl ?_
  refine w_p (pc1 := 64) (st1 := .int 46 :: _) rfl rfl ?_
  refine w_je (pc1 := 67) (vs := [.ref 176, .int 46]) (rest := []) (st1 := []) (tF (d := _) hF) rfl rfl rfl (fun _ _ => rfl) rfl (by exact cl_v my_209 rfl rfl rfl (Nat.le_of_ble_eq_true rfl) rfl (MH_obj rfl rfl) rfl (by decide) rfl rfl) (by rfl) (Nat.le_of_ble_eq_true rfl) (Nat.le_of_ble_eq_true rfl) rfl (by rfl) ?_
  refine w_p (pc1 := 68) rfl rfl ?_
  refine w_je (pc1 := 71) (vs := [.ref 176]) (rest := []) (st1 := [.int 0]) (iF (d := _) hF) rfl rfl rfl (fun _ _ => rfl) rfl (by exact cl_v my_207 rfl rfl rfl (Nat.le_of_ble_eq_true rfl) rfl (MH_obj rfl rfl) rfl (by decide) rfl rfl) (by rfl) (Nat.le_of_ble_eq_true rfl) (Nat.le_of_ble_eq_true rfl) rfl (by rfl) ?_
  refine w_f (a := 75) (b := 74) rfl rfl rfl ?_
  refine w_r rfl rfl rfl (fun _ _ => rfl) rfl ?_
  exact ⟨rfl, ⟨_, hF, rfl⟩, rfl⟩
set_option maxRecDepth 100000 in
theorem vo_b1 (M : MK B n C0 C p b wb (e + 1) s W) (he : e < 9) {q : Nat} (hx : C0.1 76 47 = nI q) (hq6 : q < 6) (hv1 : C0.1 76 49 = 1) (h6 : s.1 < 600) (hd : kd B n (s.1 + 1) = 1) : Wd L xs (d + 5) y_231 (0, [(0, .ref 176), (1, .int 0)], [], MH C t, 0) (PFM B n C0 t p b wb 0 1 (s.1 + 1)) nX := by
  refine w_p (pc1 := 1) rfl rfl ?_
  refine w_m0 (pc1 := 4) (st1 := .int (nI (q)) :: _) rfl rfl (h_gIe (j := 47) rfl rfl rfl rfl rfl ((M.2.2.2.2.2.2.2.2.2.2.2.2.2.1 76 47 (by omega) (by omega) (by omega)).trans hx)) rfl ?_
  refine w_p (pc1 := 5) (st1 := .int (-1) :: _) rfl rfl ?_
  refine w_f (a := 33) (b := 8) (cb_eq_f (by exact nK_m1 (by omega))) rfl rfl ?_
  refine w_p (pc1 := 9) rfl rfl ?_
  refine w_t (a := 22) (b := 12) rfl rfl rfl ?_
  refine w_p (pc1 := 23) rfl rfl ?_
  refine w_m0 (pc1 := 26) (st1 := .int 1 :: _) rfl rfl (h_gIe (j := 49) rfl rfl rfl rfl rfl ((M.2.2.2.2.2.2.2.2.2.2.2.2.2.1 76 49 (by omega) (by omega) (by omega)).trans hv1)) rfl ?_
  refine w_f (a := 33) (b := 29) rfl rfl rfl ?_
  refine w_p (pc1 := 30) (st1 := .int 1 :: _) rfl rfl ?_
  refine w_p (pc1 := 34) rfl rfl ?_
  refine w_p (pc1 := 35) (al1 := [(2, .int 1), (0, .ref 176), (1, .int 0)]) rfl rfl ?_
  refine w_p (pc1 := 36) rfl rfl ?_
  refine w_t (a := 45) (b := 39) rfl rfl rfl ?_
  refine w_p (pc1 := 46) rfl rfl ?_
  refine w_m0 (pc1 := 49) (st1 := .int (nI (q)) :: _) rfl rfl (h_gIe (j := 47) rfl rfl rfl rfl rfl ((M.2.2.2.2.2.2.2.2.2.2.2.2.2.1 76 47 (by omega) (by omega) (by omega)).trans hx)) rfl ?_
  refine w_p (pc1 := 50) (al1 := [(3, .int (nI (q))), (2, .int 1), (0, .ref 176), (1, .int 0)]) rfl rfl ?_
  refine w_p (pc1 := 51) rfl rfl ?_
  refine w_m0 (pc1 := 54) (st1 := .int 0 :: _) rfl rfl (h_gIe (j := 8) rfl rfl rfl rfl rfl (M.2.1.2.1)) rfl ?_
  refine w_f (a := 61) (b := 57) rfl rfl rfl ?_
  refine w_p (pc1 := 58) rfl rfl ?_
  refine w_ji (pc1 := 61) (vs := [.ref 176]) (rest := []) (nB (d := _) M hd) rfl rfl rfl (fun _ _ => rfl) rfl (by exact cl_v my_195 rfl rfl rfl (Nat.le_of_ble_eq_true rfl) rfl (MH_obj rfl rfl) rfl (by decide) rfl rfl) (by rfl) (Nat.le_of_ble_eq_true rfl) (Nat.le_of_ble_eq_true rfl) rfl (fun v h1 d1 hq => ?_) (fun _ _ _ e => e.elim)
  rcases hq with ⟨hv, ⟨C1, F1, hh⟩, hn⟩
  · subst hv; subst hh; subst hn
    refine w_p (pc1 := 62) rfl rfl ?_
    refine w_p (pc1 := 64) (st1 := .int 46 :: _) rfl rfl ?_
    refine w_je (pc1 := 67) (vs := [.ref 176, .int 46]) (rest := []) (st1 := []) (tF (d := _) F1) rfl rfl rfl (fun _ _ => rfl) rfl (by exact cl_v my_209 rfl rfl rfl (Nat.le_of_ble_eq_true rfl) rfl (MH_obj rfl rfl) rfl (by decide) rfl rfl) (by rfl) (Nat.le_of_ble_eq_true rfl) (Nat.le_of_ble_eq_true rfl) rfl (by rfl) ?_
    refine w_p (pc1 := 68) rfl rfl ?_
    refine w_je (pc1 := 71) (vs := [.ref 176]) (rest := []) (st1 := [.int 0]) (iF (d := _) F1) rfl rfl rfl (fun _ _ => rfl) rfl (by exact cl_v my_207 rfl rfl rfl (Nat.le_of_ble_eq_true rfl) rfl (MH_obj rfl rfl) rfl (by decide) rfl rfl) (by rfl) (Nat.le_of_ble_eq_true rfl) (Nat.le_of_ble_eq_true rfl) rfl (by rfl) ?_
    refine w_f (a := 75) (b := 74) rfl rfl rfl ?_
    refine w_r rfl rfl rfl (fun _ _ => rfl) rfl ?_
    exact ⟨rfl, ⟨C1, F1, rfl⟩, rfl⟩
set_option maxRecDepth 100000 in
theorem vo_d0 (M : MK B n C0 C p b wb (e + 1) s W) (he : e < 9) {q : Nat} (hx : C0.1 76 47 = nI q) (hq6 : q < 6) (hv1 : C0.1 76 49 = 1) (h6 : s.1 < 600) (hd1 : kd B n (s.1 + 1) ≠ 1) (hd : kd B n (s.1 + 1) ≠ 49) : Wd L xs (d + 5) y_231 (0, [(0, .ref 176), (1, .int 0)], [], MH C t, 0) (PFM B n C0 t p b wb 0 2 (s.1 + 1)) nX := by
  refine w_p (pc1 := 1) rfl rfl ?_
  refine w_m0 (pc1 := 4) (st1 := .int (nI (q)) :: _) rfl rfl (h_gIe (j := 47) rfl rfl rfl rfl rfl ((M.2.2.2.2.2.2.2.2.2.2.2.2.2.1 76 47 (by omega) (by omega) (by omega)).trans hx)) rfl ?_
  refine w_p (pc1 := 5) (st1 := .int (-1) :: _) rfl rfl ?_
  refine w_f (a := 33) (b := 8) (cb_eq_f (by exact nK_m1 (by omega))) rfl rfl ?_
  refine w_p (pc1 := 9) rfl rfl ?_
  refine w_t (a := 22) (b := 12) rfl rfl rfl ?_
  refine w_p (pc1 := 23) rfl rfl ?_
  refine w_m0 (pc1 := 26) (st1 := .int 1 :: _) rfl rfl (h_gIe (j := 49) rfl rfl rfl rfl rfl ((M.2.2.2.2.2.2.2.2.2.2.2.2.2.1 76 49 (by omega) (by omega) (by omega)).trans hv1)) rfl ?_
  refine w_f (a := 33) (b := 29) rfl rfl rfl ?_
  refine w_p (pc1 := 30) (st1 := .int 1 :: _) rfl rfl ?_
  refine w_p (pc1 := 34) rfl rfl ?_
  refine w_p (pc1 := 35) (al1 := [(2, .int 1), (0, .ref 176), (1, .int 0)]) rfl rfl ?_
  refine w_p (pc1 := 36) rfl rfl ?_
  refine w_t (a := 45) (b := 39) rfl rfl rfl ?_
  refine w_p (pc1 := 46) rfl rfl ?_
  refine w_m0 (pc1 := 49) (st1 := .int (nI (q)) :: _) rfl rfl (h_gIe (j := 47) rfl rfl rfl rfl rfl ((M.2.2.2.2.2.2.2.2.2.2.2.2.2.1 76 47 (by omega) (by omega) (by omega)).trans hx)) rfl ?_
  refine w_p (pc1 := 50) (al1 := [(3, .int (nI (q))), (2, .int 1), (0, .ref 176), (1, .int 0)]) rfl rfl ?_
  refine w_p (pc1 := 51) rfl rfl ?_
  refine w_m0 (pc1 := 54) (st1 := .int 0 :: _) rfl rfl (h_gIe (j := 8) rfl rfl rfl rfl rfl (M.2.1.2.1)) rfl ?_
  refine w_f (a := 61) (b := 57) rfl rfl rfl ?_
  refine w_p (pc1 := 58) rfl rfl ?_
  refine w_ji (pc1 := 61) (vs := [.ref 176]) (rest := []) (nM (d := _) M hd1 (by omega)) rfl rfl rfl (fun _ _ => rfl) rfl (by exact cl_v my_195 rfl rfl rfl (Nat.le_of_ble_eq_true rfl) rfl (MH_obj rfl rfl) rfl (by decide) rfl rfl) (by rfl) (Nat.le_of_ble_eq_true rfl) (Nat.le_of_ble_eq_true rfl) rfl (fun v h1 d1 hq => ?_) (fun _ _ _ e => e.elim)
  rcases hq with ⟨hv, ⟨C1, M1, hh⟩, hn⟩
  · subst hv; subst hh; subst hn
    refine w_p (pc1 := 62) rfl rfl ?_
    refine w_p (pc1 := 64) (st1 := .int 46 :: _) rfl rfl ?_
    refine w_ji (pc1 := 67) (vs := [.ref 176, .int 46]) (rest := []) (tE (k := 49) (d := _) M1 (by decide) (by decide) hd) rfl rfl rfl (fun _ _ => rfl) rfl (by exact cl_v my_209 rfl rfl rfl (Nat.le_of_ble_eq_true rfl) rfl (MH_obj rfl rfl) rfl (by decide) rfl rfl) (by rfl) (Nat.le_of_ble_eq_true rfl) (Nat.le_of_ble_eq_true rfl) rfl (fun v h1 d1 hq => ?_) (fun _ _ _ e => e.elim)
    rcases hq with ⟨hv, ⟨C2, F2, hh⟩, hn⟩
    · subst hv; subst hh; subst hn
      refine w_p (pc1 := 68) rfl rfl ?_
      refine w_je (pc1 := 71) (vs := [.ref 176]) (rest := []) (st1 := [.int 0]) (iF (d := _) F2) rfl rfl rfl (fun _ _ => rfl) rfl (by exact cl_v my_207 rfl rfl rfl (Nat.le_of_ble_eq_true rfl) rfl (MH_obj rfl rfl) rfl (by decide) rfl rfl) (by rfl) (Nat.le_of_ble_eq_true rfl) (Nat.le_of_ble_eq_true rfl) rfl (by rfl) ?_
      refine w_f (a := 75) (b := 74) rfl rfl rfl ?_
      refine w_r rfl rfl rfl (fun _ _ => rfl) rfl ?_
      exact ⟨rfl, ⟨C2, F2, rfl⟩, rfl⟩
set_option maxRecDepth 100000 in
theorem vo_b2 (M : MK B n C0 C p b wb (e + 1) s W) (he : e < 9) {q : Nat} (hx : C0.1 76 47 = nI q) (hq6 : q < 6) (hv1 : C0.1 76 49 = 1) (h6 : s.1 + 1 < 600) (hd : kd B n (s.1 + 1) = 49) (hb2 : kd B n (s.1 + 2) = 1) : Wd L xs (d + 5) y_231 (0, [(0, .ref 176), (1, .int 0)], [], MH C t, 0) (PFM B n C0 t p b wb 0 1 (s.1 + 2)) nX := by
  have hd1 : kd B n (s.1 + 1) ≠ 1 := by rw [hd]; decide
  refine w_p (pc1 := 1) rfl rfl ?_
  refine w_m0 (pc1 := 4) (st1 := .int (nI (q)) :: _) rfl rfl (h_gIe (j := 47) rfl rfl rfl rfl rfl ((M.2.2.2.2.2.2.2.2.2.2.2.2.2.1 76 47 (by omega) (by omega) (by omega)).trans hx)) rfl ?_
  refine w_p (pc1 := 5) (st1 := .int (-1) :: _) rfl rfl ?_
  refine w_f (a := 33) (b := 8) (cb_eq_f (by exact nK_m1 (by omega))) rfl rfl ?_
  refine w_p (pc1 := 9) rfl rfl ?_
  refine w_t (a := 22) (b := 12) rfl rfl rfl ?_
  refine w_p (pc1 := 23) rfl rfl ?_
  refine w_m0 (pc1 := 26) (st1 := .int 1 :: _) rfl rfl (h_gIe (j := 49) rfl rfl rfl rfl rfl ((M.2.2.2.2.2.2.2.2.2.2.2.2.2.1 76 49 (by omega) (by omega) (by omega)).trans hv1)) rfl ?_
  refine w_f (a := 33) (b := 29) rfl rfl rfl ?_
  refine w_p (pc1 := 30) (st1 := .int 1 :: _) rfl rfl ?_
  refine w_p (pc1 := 34) rfl rfl ?_
  refine w_p (pc1 := 35) (al1 := [(2, .int 1), (0, .ref 176), (1, .int 0)]) rfl rfl ?_
  refine w_p (pc1 := 36) rfl rfl ?_
  refine w_t (a := 45) (b := 39) rfl rfl rfl ?_
  refine w_p (pc1 := 46) rfl rfl ?_
  refine w_m0 (pc1 := 49) (st1 := .int (nI (q)) :: _) rfl rfl (h_gIe (j := 47) rfl rfl rfl rfl rfl ((M.2.2.2.2.2.2.2.2.2.2.2.2.2.1 76 47 (by omega) (by omega) (by omega)).trans hx)) rfl ?_
  refine w_p (pc1 := 50) (al1 := [(3, .int (nI (q))), (2, .int 1), (0, .ref 176), (1, .int 0)]) rfl rfl ?_
  refine w_p (pc1 := 51) rfl rfl ?_
  refine w_m0 (pc1 := 54) (st1 := .int 0 :: _) rfl rfl (h_gIe (j := 8) rfl rfl rfl rfl rfl (M.2.1.2.1)) rfl ?_
  refine w_f (a := 61) (b := 57) rfl rfl rfl ?_
  refine w_p (pc1 := 58) rfl rfl ?_
  refine w_ji (pc1 := 61) (vs := [.ref 176]) (rest := []) (nM (d := _) M hd1 (by omega)) rfl rfl rfl (fun _ _ => rfl) rfl (by exact cl_v my_195 rfl rfl rfl (Nat.le_of_ble_eq_true rfl) rfl (MH_obj rfl rfl) rfl (by decide) rfl rfl) (by rfl) (Nat.le_of_ble_eq_true rfl) (Nat.le_of_ble_eq_true rfl) rfl (fun v h1 d1 hq => ?_) (fun _ _ _ e => e.elim)
  rcases hq with ⟨hv, ⟨C1, M1, hh⟩, hn⟩
  · subst hv; subst hh; subst hn
    refine w_p (pc1 := 62) rfl rfl ?_
    refine w_p (pc1 := 64) (st1 := .int 46 :: _) rfl rfl ?_
    refine w_ji (pc1 := 67) (vs := [.ref 176, .int 46]) (rest := []) (tSb (k := 49) (d := _) M1 (by decide) (by decide) hd hb2) rfl rfl rfl (fun _ _ => rfl) rfl (by exact cl_v my_209 rfl rfl rfl (Nat.le_of_ble_eq_true rfl) rfl (MH_obj rfl rfl) rfl (by decide) rfl rfl) (by rfl) (Nat.le_of_ble_eq_true rfl) (Nat.le_of_ble_eq_true rfl) rfl (fun v h1 d1 hq => ?_) (fun _ _ _ e => e.elim)
    rcases hq with ⟨hv, ⟨C2, F2, hh⟩, hn⟩
    · subst hv; subst hh; subst hn
      refine w_p (pc1 := 68) rfl rfl ?_
      refine w_je (pc1 := 71) (vs := [.ref 176]) (rest := []) (st1 := [.int 0]) (iF (d := _) F2) rfl rfl rfl (fun _ _ => rfl) rfl (by exact cl_v my_207 rfl rfl rfl (Nat.le_of_ble_eq_true rfl) rfl (MH_obj rfl rfl) rfl (by decide) rfl rfl) (by rfl) (Nat.le_of_ble_eq_true rfl) (Nat.le_of_ble_eq_true rfl) rfl (by rfl) ?_
      refine w_f (a := 75) (b := 74) rfl rfl rfl ?_
      refine w_r rfl rfl rfl (fun _ _ => rfl) rfl ?_
      exact ⟨rfl, ⟨C2, F2, rfl⟩, rfl⟩
set_option maxRecDepth 100000 in
theorem vo_m1 {q : Nat} (M : MK B n C0 C p b wb (e + 2) s W) (he : e < 9) (hx : C0.1 76 47 = nI q) (hq6 : q < 6) (hv1 : C0.1 76 49 = 1) (h6 : s.1 + 1 < 600) (hd : kd B n (s.1 + 1) = 49) (hb2 : kd B n (s.1 + 2) ≠ 1) (h3 : kd B n (s.1 + 2) ≠ 3) : Wd L xs (d + 5) y_231 (0, [(0, .ref 176), (1, .int 0)], [], MH C t, 0) (PFM B n C0 t p b wb 0 2 (s.1 + 2)) nX := by
  have hd1 : kd B n (s.1 + 1) ≠ 1 := by rw [hd]; decide
  refine w_p (pc1 := 1) rfl rfl ?_
  refine w_m0 (pc1 := 4) (st1 := .int (nI (q)) :: _) rfl rfl (h_gIe (j := 47) rfl rfl rfl rfl rfl ((M.2.2.2.2.2.2.2.2.2.2.2.2.2.1 76 47 (by omega) (by omega) (by omega)).trans hx)) rfl ?_
  refine w_p (pc1 := 5) (st1 := .int (-1) :: _) rfl rfl ?_
  refine w_f (a := 33) (b := 8) (cb_eq_f (by exact nK_m1 (by omega))) rfl rfl ?_
  refine w_p (pc1 := 9) rfl rfl ?_
  refine w_t (a := 22) (b := 12) rfl rfl rfl ?_
  refine w_p (pc1 := 23) rfl rfl ?_
  refine w_m0 (pc1 := 26) (st1 := .int 1 :: _) rfl rfl (h_gIe (j := 49) rfl rfl rfl rfl rfl ((M.2.2.2.2.2.2.2.2.2.2.2.2.2.1 76 49 (by omega) (by omega) (by omega)).trans hv1)) rfl ?_
  refine w_f (a := 33) (b := 29) rfl rfl rfl ?_
  refine w_p (pc1 := 30) (st1 := .int 1 :: _) rfl rfl ?_
  refine w_p (pc1 := 34) rfl rfl ?_
  refine w_p (pc1 := 35) (al1 := [(2, .int 1), (0, .ref 176), (1, .int 0)]) rfl rfl ?_
  refine w_p (pc1 := 36) rfl rfl ?_
  refine w_t (a := 45) (b := 39) rfl rfl rfl ?_
  refine w_p (pc1 := 46) rfl rfl ?_
  refine w_m0 (pc1 := 49) (st1 := .int (nI (q)) :: _) rfl rfl (h_gIe (j := 47) rfl rfl rfl rfl rfl ((M.2.2.2.2.2.2.2.2.2.2.2.2.2.1 76 47 (by omega) (by omega) (by omega)).trans hx)) rfl ?_
  refine w_p (pc1 := 50) (al1 := [(3, .int (nI (q))), (2, .int 1), (0, .ref 176), (1, .int 0)]) rfl rfl ?_
  refine w_p (pc1 := 51) rfl rfl ?_
  refine w_m0 (pc1 := 54) (st1 := .int 0 :: _) rfl rfl (h_gIe (j := 8) rfl rfl rfl rfl rfl (M.2.1.2.1)) rfl ?_
  refine w_f (a := 61) (b := 57) rfl rfl rfl ?_
  refine w_p (pc1 := 58) rfl rfl ?_
  refine w_ji (pc1 := 61) (vs := [.ref 176]) (rest := []) (nM (d := _) M hd1 (by omega)) rfl rfl rfl (fun _ _ => rfl) rfl (by exact cl_v my_195 rfl rfl rfl (Nat.le_of_ble_eq_true rfl) rfl (MH_obj rfl rfl) rfl (by decide) rfl rfl) (by rfl) (Nat.le_of_ble_eq_true rfl) (Nat.le_of_ble_eq_true rfl) rfl (fun v h1 d1 hq => ?_) (fun _ _ _ e => e.elim)
  rcases hq with ⟨hv, ⟨C1, M1, hh⟩, hn⟩
  · subst hv; subst hh; subst hn
    refine w_p (pc1 := 62) rfl rfl ?_
    refine w_p (pc1 := 64) (st1 := .int 46 :: _) rfl rfl ?_
    refine w_ji (pc1 := 67) (vs := [.ref 176, .int 46]) (rest := []) (tSm (k := 49) (d := _) M1 (show s.1 + 1 < 600 by omega) (by decide) (by decide) hd hb2) rfl rfl rfl (fun _ _ => rfl) rfl (by exact cl_v my_209 rfl rfl rfl (Nat.le_of_ble_eq_true rfl) rfl (MH_obj rfl rfl) rfl (by decide) rfl rfl) (by rfl) (Nat.le_of_ble_eq_true rfl) (Nat.le_of_ble_eq_true rfl) rfl (fun v h1 d1 hq => ?_) (fun _ _ _ e => e.elim)
    rcases hq with ⟨hv, ⟨C2, M2, hh⟩, hn⟩
    · subst hv; subst hh; subst hn
      refine w_p (pc1 := 68) rfl rfl ?_
      refine w_ji (pc1 := 71) (vs := [.ref 176]) (rest := []) (iE (d := _) M2 h3) rfl rfl rfl (fun _ _ => rfl) rfl (by exact cl_v my_207 rfl rfl rfl (Nat.le_of_ble_eq_true rfl) rfl (MH_obj rfl rfl) rfl (by decide) rfl rfl) (by rfl) (Nat.le_of_ble_eq_true rfl) (Nat.le_of_ble_eq_true rfl) rfl (fun v h1 d1 hq => ?_) (fun _ _ _ e => e.elim)
      rcases hq with ⟨hv, ⟨C3, F3, hh⟩, hn⟩
      · subst hv; subst hh; subst hn
        refine w_f (a := 75) (b := 74) rfl rfl rfl ?_
        refine w_r rfl rfl rfl (fun _ _ => rfl) rfl ?_
        exact ⟨rfl, ⟨C3, F3, rfl⟩, rfl⟩
set_option maxRecDepth 100000 in
theorem vo_un {q : Nat} (M : MK B n C0 C p b wb (e + 2) s W) (he : e < 9) (hx : C0.1 76 47 = nI q) (hq6 : q < 6) (hv1 : C0.1 76 49 = 1) (h6 : s.1 + 2 < 600) {w : Nat} (hw : w ≤ 6) (h8 : C0.1 80 q = nI w) (hd : kd B n (s.1 + 1) = 49) (h3 : kd B n (s.1 + 2) = 3) (hg : fnd (fun j => decide (C0.2.1 81 (6 * q + j) = vl B n (s.1 + 2))) w 0 = -1) : Wd L xs (d + 5) y_231 (0, [(0, .ref 176), (1, .int 0)], [], MH C t, 0) (PFM B n C0 t p b wb 2 4 (s.1 + 2)) nX := by
  have hd1 : kd B n (s.1 + 1) ≠ 1 := by rw [hd]; decide
  have hb2 : kd B n (s.1 + 2) ≠ 1 := by rw [h3]; decide
  refine w_p (pc1 := 1) rfl rfl ?_
  refine w_m0 (pc1 := 4) (st1 := .int (nI (q)) :: _) rfl rfl (h_gIe (j := 47) rfl rfl rfl rfl rfl ((M.2.2.2.2.2.2.2.2.2.2.2.2.2.1 76 47 (by omega) (by omega) (by omega)).trans hx)) rfl ?_
  refine w_p (pc1 := 5) (st1 := .int (-1) :: _) rfl rfl ?_
  refine w_f (a := 33) (b := 8) (cb_eq_f (by exact nK_m1 (by omega))) rfl rfl ?_
  refine w_p (pc1 := 9) rfl rfl ?_
  refine w_t (a := 22) (b := 12) rfl rfl rfl ?_
  refine w_p (pc1 := 23) rfl rfl ?_
  refine w_m0 (pc1 := 26) (st1 := .int 1 :: _) rfl rfl (h_gIe (j := 49) rfl rfl rfl rfl rfl ((M.2.2.2.2.2.2.2.2.2.2.2.2.2.1 76 49 (by omega) (by omega) (by omega)).trans hv1)) rfl ?_
  refine w_f (a := 33) (b := 29) rfl rfl rfl ?_
  refine w_p (pc1 := 30) (st1 := .int 1 :: _) rfl rfl ?_
  refine w_p (pc1 := 34) rfl rfl ?_
  refine w_p (pc1 := 35) (al1 := [(2, .int 1), (0, .ref 176), (1, .int 0)]) rfl rfl ?_
  refine w_p (pc1 := 36) rfl rfl ?_
  refine w_t (a := 45) (b := 39) rfl rfl rfl ?_
  refine w_p (pc1 := 46) rfl rfl ?_
  refine w_m0 (pc1 := 49) (st1 := .int (nI (q)) :: _) rfl rfl (h_gIe (j := 47) rfl rfl rfl rfl rfl ((M.2.2.2.2.2.2.2.2.2.2.2.2.2.1 76 47 (by omega) (by omega) (by omega)).trans hx)) rfl ?_
  refine w_p (pc1 := 50) (al1 := [(3, .int (nI (q))), (2, .int 1), (0, .ref 176), (1, .int 0)]) rfl rfl ?_
  refine w_p (pc1 := 51) rfl rfl ?_
  refine w_m0 (pc1 := 54) (st1 := .int 0 :: _) rfl rfl (h_gIe (j := 8) rfl rfl rfl rfl rfl (M.2.1.2.1)) rfl ?_
  refine w_f (a := 61) (b := 57) rfl rfl rfl ?_
  refine w_p (pc1 := 58) rfl rfl ?_
  refine w_ji (pc1 := 61) (vs := [.ref 176]) (rest := []) (nM (d := _) M hd1 (by omega)) rfl rfl rfl (fun _ _ => rfl) rfl (by exact cl_v my_195 rfl rfl rfl (Nat.le_of_ble_eq_true rfl) rfl (MH_obj rfl rfl) rfl (by decide) rfl rfl) (by rfl) (Nat.le_of_ble_eq_true rfl) (Nat.le_of_ble_eq_true rfl) rfl (fun v h1 d1 hq => ?_) (fun _ _ _ e => e.elim)
  rcases hq with ⟨hv, ⟨C1, M1, hh⟩, hn⟩
  · subst hv; subst hh; subst hn
    refine w_p (pc1 := 62) rfl rfl ?_
    refine w_p (pc1 := 64) (st1 := .int 46 :: _) rfl rfl ?_
    refine w_ji (pc1 := 67) (vs := [.ref 176, .int 46]) (rest := []) (tSm (k := 49) (d := _) M1 (show s.1 + 1 < 600 by omega) (by decide) (by decide) hd hb2) rfl rfl rfl (fun _ _ => rfl) rfl (by exact cl_v my_209 rfl rfl rfl (Nat.le_of_ble_eq_true rfl) rfl (MH_obj rfl rfl) rfl (by decide) rfl rfl) (by rfl) (Nat.le_of_ble_eq_true rfl) (Nat.le_of_ble_eq_true rfl) rfl (fun v h1 d1 hq => ?_) (fun _ _ _ e => e.elim)
    rcases hq with ⟨hv, ⟨C2, M2, hh⟩, hn⟩
    · subst hv; subst hh; subst hn
      refine w_p (pc1 := 68) rfl rfl ?_
      refine w_je (pc1 := 71) (vs := [.ref 176]) (rest := []) (st1 := [.int 1]) (iN (d := _) M2 h3) rfl rfl rfl (fun _ _ => rfl) rfl (by exact cl_v my_207 rfl rfl rfl (Nat.le_of_ble_eq_true rfl) rfl (MH_obj rfl rfl) rfl (by decide) rfl rfl) (by rfl) (Nat.le_of_ble_eq_true rfl) (Nat.le_of_ble_eq_true rfl) rfl (by rfl) ?_
      refine w_t (a := 75) (b := 74) rfl rfl rfl ?_
      refine w_p (pc1 := 76) rfl rfl ?_
      refine w_p (pc1 := 77) rfl rfl ?_
      refine w_p (pc1 := 78) rfl rfl ?_
      refine w_m0 (pc1 := 81) (st1 := .long (vl B n (s.1 + 2)) :: _) rfl rfl (h_gJe (j := 7) rfl rfl rfl rfl rfl (by rw [M2.2.1.2.2.2.1]; show mIs (kd B n (s.1 + 2)) _ = _; rw [h3]; rfl)) rfl ?_
      refine w_je (pc1 := 84) (vs := [.ref 176, .int (nI (q)), .long (vl B n (s.1 + 2))]) (rest := []) (st1 := [.int (fnd (fun j => decide (C2.2.1 81 (6 * q + j) = vl B n (s.1 + 2))) w 0)]) (m_213 (d := _) (sl := 0) hq6 (mr_w M2 h8) hw) rfl rfl rfl (fun _ _ => rfl) rfl (by exact cl_v my_213 rfl rfl rfl (Nat.le_of_ble_eq_true rfl) rfl (MH_obj rfl rfl) rfl (by decide) rfl rfl) (by rfl) (Nat.le_of_ble_eq_true rfl) (Nat.le_of_ble_eq_true rfl) rfl (by rfl) ?_
      refine w_p (pc1 := 86) (al1 := [(4, .int (fnd (fun j => decide (C2.2.1 81 (6 * q + j) = vl B n (s.1 + 2))) w 0)), (3, .int (nI (q))), (2, .int 1), (0, .ref 176), (1, .int 0)]) rfl rfl ?_
      refine w_p (pc1 := 88) rfl rfl ?_
      refine w_p (pc1 := 89) (st1 := .int (-1) :: _) rfl rfl ?_
      refine w_f (a := 97) (b := 92) (cb_ne_f (by rw [mr_col M2]; exact hg)) rfl rfl ?_
      refine w_p (pc1 := 93) rfl rfl ?_
      refine w_p (pc1 := 94) (st1 := .int 4 :: _) rfl rfl ?_
      refine w_je (pc1 := 97) (vs := [.ref 176, .int 4]) (rest := []) (st1 := []) (m_200 (d := _) (sl := 0) (fun z => absurd M2.2.1.2.1 z)) rfl rfl rfl (fun _ _ => rfl) rfl (by exact cl_v my_200 rfl rfl rfl (Nat.le_of_ble_eq_true rfl) rfl (MH_obj rfl rfl) rfl (by decide) rfl rfl) (by rfl) (Nat.le_of_ble_eq_true rfl) (Nat.le_of_ble_eq_true rfl) rfl (by rfl) ?_
      refine w_p (pc1 := 98) rfl rfl ?_
      refine w_ji (pc1 := 101) (vs := [.ref 176]) (rest := []) (dF (d := _) (FM_new (c := 4) M2 (by decide)) (by decide) (by omega)) rfl rfl rfl (fun _ _ => rfl) rfl (by exact cl_v my_226 rfl rfl rfl (Nat.le_of_ble_eq_true rfl) rfl (MH_obj rfl rfl) rfl (by decide) rfl rfl) (by rfl) (Nat.le_of_ble_eq_true rfl) (Nat.le_of_ble_eq_true rfl) rfl (fun v h1 d1 hq => ?_) (fun _ _ _ e => e.elim)
      rcases hq with ⟨hv, ⟨C3, F3, hh⟩, hn⟩
      · subst hv; subst hh; subst hn
        refine w_p (pc1 := 102) rfl rfl ?_
        refine w_p (pc1 := 103) rfl rfl ?_
        refine w_t (a := 110) (b := 106) rfl rfl rfl ?_
        refine w_p (pc1 := 111) (st1 := .int 5 :: _) rfl rfl ?_
        refine w_p (pc1 := 113) rfl rfl ?_
        refine w_p (pc1 := 114) rfl rfl ?_
        refine w_ji (pc1 := 117) (vs := [.ref 176, .int 5, _]) (rest := []) (sF (d := _) F3 (by omega)) rfl rfl rfl (fun _ _ => rfl) rfl (by exact cl_v my_230 rfl rfl rfl (Nat.le_of_ble_eq_true rfl) rfl (MH_obj rfl rfl) rfl (by decide) rfl rfl) (by rfl) (Nat.le_of_ble_eq_true rfl) (Nat.le_of_ble_eq_true rfl) rfl (fun v h1 d1 hq => ?_) (fun _ _ _ e => e.elim)
        rcases hq with ⟨hv, ⟨C4, F4, hh⟩, hn⟩
        · subst hv; subst hh; subst hn
          refine w_p (pc1 := 118) rfl rfl ?_
          refine w_ji (pc1 := 121) (vs := [.ref 176]) (rest := []) (nF (d := _) F4) rfl rfl rfl (fun _ _ => rfl) rfl (by exact cl_v my_195 rfl rfl rfl (Nat.le_of_ble_eq_true rfl) rfl (MH_obj rfl rfl) rfl (by decide) rfl rfl) (by rfl) (Nat.le_of_ble_eq_true rfl) (Nat.le_of_ble_eq_true rfl) rfl (fun v h1 d1 hq => ?_) (fun _ _ _ e => e.elim)
          rcases hq with ⟨hv, ⟨C5, F5, hh⟩, hn⟩
          · subst hv; subst hh; subst hn
            refine w_r rfl rfl rfl (fun _ _ => rfl) rfl ?_
            exact ⟨rfl, ⟨C5, F5, rfl⟩, rfl⟩
set_option maxRecDepth 100000 in
theorem vo_er {q : Nat} (M : MK B n C0 C p b wb (e + 2) s W) (he : e < 9) (hx : C0.1 76 47 = nI q) (hq6 : q < 6) (hv1 : C0.1 76 49 = 1) (h6 : s.1 + 2 < 600) {w : Nat} (hw : w ≤ 6) (h8 : C0.1 80 q = nI w) (hd : kd B n (s.1 + 1) = 49) (h3 : kd B n (s.1 + 2) = 3) (hg : fnd (fun j => decide (C0.2.1 81 (6 * q + j) = vl B n (s.1 + 2))) w 0 ≠ -1) (h1 : spd (nxt (nxt s)) = .inl (c, i)) : Wd L xs (d + 5) y_231 (0, [(0, .ref 176), (1, .int 0)], [], MH C t, 0) (PFM B n C0 t p b wb 2 c i) nX := by
  have hd1 : kd B n (s.1 + 1) ≠ 1 := by rw [hd]; decide
  have hb2 : kd B n (s.1 + 2) ≠ 1 := by rw [h3]; decide
  refine w_p (pc1 := 1) rfl rfl ?_
  refine w_m0 (pc1 := 4) (st1 := .int (nI (q)) :: _) rfl rfl (h_gIe (j := 47) rfl rfl rfl rfl rfl ((M.2.2.2.2.2.2.2.2.2.2.2.2.2.1 76 47 (by omega) (by omega) (by omega)).trans hx)) rfl ?_
  refine w_p (pc1 := 5) (st1 := .int (-1) :: _) rfl rfl ?_
  refine w_f (a := 33) (b := 8) (cb_eq_f (by exact nK_m1 (by omega))) rfl rfl ?_
  refine w_p (pc1 := 9) rfl rfl ?_
  refine w_t (a := 22) (b := 12) rfl rfl rfl ?_
  refine w_p (pc1 := 23) rfl rfl ?_
  refine w_m0 (pc1 := 26) (st1 := .int 1 :: _) rfl rfl (h_gIe (j := 49) rfl rfl rfl rfl rfl ((M.2.2.2.2.2.2.2.2.2.2.2.2.2.1 76 49 (by omega) (by omega) (by omega)).trans hv1)) rfl ?_
  refine w_f (a := 33) (b := 29) rfl rfl rfl ?_
  refine w_p (pc1 := 30) (st1 := .int 1 :: _) rfl rfl ?_
  refine w_p (pc1 := 34) rfl rfl ?_
  refine w_p (pc1 := 35) (al1 := [(2, .int 1), (0, .ref 176), (1, .int 0)]) rfl rfl ?_
  refine w_p (pc1 := 36) rfl rfl ?_
  refine w_t (a := 45) (b := 39) rfl rfl rfl ?_
  refine w_p (pc1 := 46) rfl rfl ?_
  refine w_m0 (pc1 := 49) (st1 := .int (nI (q)) :: _) rfl rfl (h_gIe (j := 47) rfl rfl rfl rfl rfl ((M.2.2.2.2.2.2.2.2.2.2.2.2.2.1 76 47 (by omega) (by omega) (by omega)).trans hx)) rfl ?_
  refine w_p (pc1 := 50) (al1 := [(3, .int (nI (q))), (2, .int 1), (0, .ref 176), (1, .int 0)]) rfl rfl ?_
  refine w_p (pc1 := 51) rfl rfl ?_
  refine w_m0 (pc1 := 54) (st1 := .int 0 :: _) rfl rfl (h_gIe (j := 8) rfl rfl rfl rfl rfl (M.2.1.2.1)) rfl ?_
  refine w_f (a := 61) (b := 57) rfl rfl rfl ?_
  refine w_p (pc1 := 58) rfl rfl ?_
  refine w_ji (pc1 := 61) (vs := [.ref 176]) (rest := []) (nM (d := _) M hd1 (by omega)) rfl rfl rfl (fun _ _ => rfl) rfl (by exact cl_v my_195 rfl rfl rfl (Nat.le_of_ble_eq_true rfl) rfl (MH_obj rfl rfl) rfl (by decide) rfl rfl) (by rfl) (Nat.le_of_ble_eq_true rfl) (Nat.le_of_ble_eq_true rfl) rfl (fun v h1 d1 hq => ?_) (fun _ _ _ e => e.elim)
  rcases hq with ⟨hv, ⟨C1, M1, hh⟩, hn⟩
  · subst hv; subst hh; subst hn
    refine w_p (pc1 := 62) rfl rfl ?_
    refine w_p (pc1 := 64) (st1 := .int 46 :: _) rfl rfl ?_
    refine w_ji (pc1 := 67) (vs := [.ref 176, .int 46]) (rest := []) (tSm (k := 49) (d := _) M1 (show s.1 + 1 < 600 by omega) (by decide) (by decide) hd hb2) rfl rfl rfl (fun _ _ => rfl) rfl (by exact cl_v my_209 rfl rfl rfl (Nat.le_of_ble_eq_true rfl) rfl (MH_obj rfl rfl) rfl (by decide) rfl rfl) (by rfl) (Nat.le_of_ble_eq_true rfl) (Nat.le_of_ble_eq_true rfl) rfl (fun v h1 d1 hq => ?_) (fun _ _ _ e => e.elim)
    rcases hq with ⟨hv, ⟨C2, M2, hh⟩, hn⟩
    · subst hv; subst hh; subst hn
      refine w_p (pc1 := 68) rfl rfl ?_
      refine w_je (pc1 := 71) (vs := [.ref 176]) (rest := []) (st1 := [.int 1]) (iN (d := _) M2 h3) rfl rfl rfl (fun _ _ => rfl) rfl (by exact cl_v my_207 rfl rfl rfl (Nat.le_of_ble_eq_true rfl) rfl (MH_obj rfl rfl) rfl (by decide) rfl rfl) (by rfl) (Nat.le_of_ble_eq_true rfl) (Nat.le_of_ble_eq_true rfl) rfl (by rfl) ?_
      refine w_t (a := 75) (b := 74) rfl rfl rfl ?_
      refine w_p (pc1 := 76) rfl rfl ?_
      refine w_p (pc1 := 77) rfl rfl ?_
      refine w_p (pc1 := 78) rfl rfl ?_
      refine w_m0 (pc1 := 81) (st1 := .long (vl B n (s.1 + 2)) :: _) rfl rfl (h_gJe (j := 7) rfl rfl rfl rfl rfl (by rw [M2.2.1.2.2.2.1]; show mIs (kd B n (s.1 + 2)) _ = _; rw [h3]; rfl)) rfl ?_
      refine w_je (pc1 := 84) (vs := [.ref 176, .int (nI (q)), .long (vl B n (s.1 + 2))]) (rest := []) (st1 := [.int (fnd (fun j => decide (C2.2.1 81 (6 * q + j) = vl B n (s.1 + 2))) w 0)]) (m_213 (d := _) (sl := 0) hq6 (mr_w M2 h8) hw) rfl rfl rfl (fun _ _ => rfl) rfl (by exact cl_v my_213 rfl rfl rfl (Nat.le_of_ble_eq_true rfl) rfl (MH_obj rfl rfl) rfl (by decide) rfl rfl) (by rfl) (Nat.le_of_ble_eq_true rfl) (Nat.le_of_ble_eq_true rfl) rfl (by rfl) ?_
      refine w_p (pc1 := 86) (al1 := [(4, .int (fnd (fun j => decide (C2.2.1 81 (6 * q + j) = vl B n (s.1 + 2))) w 0)), (3, .int (nI (q))), (2, .int 1), (0, .ref 176), (1, .int 0)]) rfl rfl ?_
      refine w_p (pc1 := 88) rfl rfl ?_
      refine w_p (pc1 := 89) (st1 := .int (-1) :: _) rfl rfl ?_
      refine w_t (a := 97) (b := 92) (cb_ne_t (by rw [mr_col M2]; exact hg)) rfl rfl ?_
      refine w_p (pc1 := 98) rfl rfl ?_
      refine w_ji (pc1 := 101) (vs := [.ref 176]) (rest := []) (dE (d := _) M2 h1) rfl rfl rfl (fun _ _ => rfl) rfl (by exact cl_v my_226 rfl rfl rfl (Nat.le_of_ble_eq_true rfl) rfl (MH_obj rfl rfl) rfl (by decide) rfl rfl) (by rfl) (Nat.le_of_ble_eq_true rfl) (Nat.le_of_ble_eq_true rfl) rfl (fun v h1 d1 hq => ?_) (fun _ _ _ e => e.elim)
      rcases hq with ⟨hv, ⟨C3, F3, hh⟩, hn⟩
      · subst hv; subst hh; subst hn
        refine w_p (pc1 := 102) rfl rfl ?_
        refine w_p (pc1 := 103) rfl rfl ?_
        refine w_t (a := 110) (b := 106) rfl rfl rfl ?_
        refine w_p (pc1 := 111) (st1 := .int 5 :: _) rfl rfl ?_
        refine w_p (pc1 := 113) rfl rfl ?_
        refine w_p (pc1 := 114) rfl rfl ?_
        refine w_ji (pc1 := 117) (vs := [.ref 176, .int 5, _]) (rest := []) (sF (d := _) F3 (by omega)) rfl rfl rfl (fun _ _ => rfl) rfl (by exact cl_v my_230 rfl rfl rfl (Nat.le_of_ble_eq_true rfl) rfl (MH_obj rfl rfl) rfl (by decide) rfl rfl) (by rfl) (Nat.le_of_ble_eq_true rfl) (Nat.le_of_ble_eq_true rfl) rfl (fun v h1 d1 hq => ?_) (fun _ _ _ e => e.elim)
        rcases hq with ⟨hv, ⟨C4, F4, hh⟩, hn⟩
        · subst hv; subst hh; subst hn
          refine w_p (pc1 := 118) rfl rfl ?_
          refine w_ji (pc1 := 121) (vs := [.ref 176]) (rest := []) (nF (d := _) F4) rfl rfl rfl (fun _ _ => rfl) rfl (by exact cl_v my_195 rfl rfl rfl (Nat.le_of_ble_eq_true rfl) rfl (MH_obj rfl rfl) rfl (by decide) rfl rfl) (by rfl) (Nat.le_of_ble_eq_true rfl) (Nat.le_of_ble_eq_true rfl) rfl (fun v h1 d1 hq => ?_) (fun _ _ _ e => e.elim)
          rcases hq with ⟨hv, ⟨C5, F5, hh⟩, hn⟩
          · subst hv; subst hh; subst hn
            refine w_r rfl rfl rfl (fun _ _ => rfl) rfl ?_
            exact ⟨rfl, ⟨C5, F5, rfl⟩, rfl⟩
set_option maxRecDepth 100000 in
theorem vo_ok {q : Nat} (M : MK B n C0 C p b wb (e + 2) s W) (he : e < 9) (hx : C0.1 76 47 = nI q) (hq6 : q < 6) (hv1 : C0.1 76 49 = 1) (h6 : s.1 + 2 < 600) {w : Nat} (hw : w ≤ 6) (h8 : C0.1 80 q = nI w) (hd : kd B n (s.1 + 1) = 49) (h3 : kd B n (s.1 + 2) = 3) (hg : fnd (fun j => decide (C0.2.1 81 (6 * q + j) = vl B n (s.1 + 2))) w 0 ≠ -1) (h1 : spd (nxt (nxt s)) = .inr y) : Wd L xs (d + 5) y_231 (0, [(0, .ref 176), (1, .int 0)], [], MH C t, 0) (QM B n C0 t p b wb e none (nxt (emt y 4 (fnd (fun j => decide (C0.2.1 81 (6 * q + j) = vl B n (s.1 + 2))) w 0))) W) nX := by
  have hd1 : kd B n (s.1 + 1) ≠ 1 := by rw [hd]; decide
  have hb2 : kd B n (s.1 + 2) ≠ 1 := by rw [h3]; decide
  have hy := spd_s h1
  refine w_p (pc1 := 1) rfl rfl ?_
  refine w_m0 (pc1 := 4) (st1 := .int (nI (q)) :: _) rfl rfl (h_gIe (j := 47) rfl rfl rfl rfl rfl ((M.2.2.2.2.2.2.2.2.2.2.2.2.2.1 76 47 (by omega) (by omega) (by omega)).trans hx)) rfl ?_
  refine w_p (pc1 := 5) (st1 := .int (-1) :: _) rfl rfl ?_
  refine w_f (a := 33) (b := 8) (cb_eq_f (by exact nK_m1 (by omega))) rfl rfl ?_
  refine w_p (pc1 := 9) rfl rfl ?_
  refine w_t (a := 22) (b := 12) rfl rfl rfl ?_
  refine w_p (pc1 := 23) rfl rfl ?_
  refine w_m0 (pc1 := 26) (st1 := .int 1 :: _) rfl rfl (h_gIe (j := 49) rfl rfl rfl rfl rfl ((M.2.2.2.2.2.2.2.2.2.2.2.2.2.1 76 49 (by omega) (by omega) (by omega)).trans hv1)) rfl ?_
  refine w_f (a := 33) (b := 29) rfl rfl rfl ?_
  refine w_p (pc1 := 30) (st1 := .int 1 :: _) rfl rfl ?_
  refine w_p (pc1 := 34) rfl rfl ?_
  refine w_p (pc1 := 35) (al1 := [(2, .int 1), (0, .ref 176), (1, .int 0)]) rfl rfl ?_
  refine w_p (pc1 := 36) rfl rfl ?_
  refine w_t (a := 45) (b := 39) rfl rfl rfl ?_
  refine w_p (pc1 := 46) rfl rfl ?_
  refine w_m0 (pc1 := 49) (st1 := .int (nI (q)) :: _) rfl rfl (h_gIe (j := 47) rfl rfl rfl rfl rfl ((M.2.2.2.2.2.2.2.2.2.2.2.2.2.1 76 47 (by omega) (by omega) (by omega)).trans hx)) rfl ?_
  refine w_p (pc1 := 50) (al1 := [(3, .int (nI (q))), (2, .int 1), (0, .ref 176), (1, .int 0)]) rfl rfl ?_
  refine w_p (pc1 := 51) rfl rfl ?_
  refine w_m0 (pc1 := 54) (st1 := .int 0 :: _) rfl rfl (h_gIe (j := 8) rfl rfl rfl rfl rfl (M.2.1.2.1)) rfl ?_
  refine w_f (a := 61) (b := 57) rfl rfl rfl ?_
  refine w_p (pc1 := 58) rfl rfl ?_
  refine w_ji (pc1 := 61) (vs := [.ref 176]) (rest := []) (nM (d := _) M hd1 (by omega)) rfl rfl rfl (fun _ _ => rfl) rfl (by exact cl_v my_195 rfl rfl rfl (Nat.le_of_ble_eq_true rfl) rfl (MH_obj rfl rfl) rfl (by decide) rfl rfl) (by rfl) (Nat.le_of_ble_eq_true rfl) (Nat.le_of_ble_eq_true rfl) rfl (fun v h1 d1 hq => ?_) (fun _ _ _ e => e.elim)
  rcases hq with ⟨hv, ⟨C1, M1, hh⟩, hn⟩
  · subst hv; subst hh; subst hn
    refine w_p (pc1 := 62) rfl rfl ?_
    refine w_p (pc1 := 64) (st1 := .int 46 :: _) rfl rfl ?_
    refine w_ji (pc1 := 67) (vs := [.ref 176, .int 46]) (rest := []) (tSm (k := 49) (d := _) M1 (show s.1 + 1 < 600 by omega) (by decide) (by decide) hd hb2) rfl rfl rfl (fun _ _ => rfl) rfl (by exact cl_v my_209 rfl rfl rfl (Nat.le_of_ble_eq_true rfl) rfl (MH_obj rfl rfl) rfl (by decide) rfl rfl) (by rfl) (Nat.le_of_ble_eq_true rfl) (Nat.le_of_ble_eq_true rfl) rfl (fun v h1 d1 hq => ?_) (fun _ _ _ e => e.elim)
    rcases hq with ⟨hv, ⟨C2, M2, hh⟩, hn⟩
    · subst hv; subst hh; subst hn
      refine w_p (pc1 := 68) rfl rfl ?_
      refine w_je (pc1 := 71) (vs := [.ref 176]) (rest := []) (st1 := [.int 1]) (iN (d := _) M2 h3) rfl rfl rfl (fun _ _ => rfl) rfl (by exact cl_v my_207 rfl rfl rfl (Nat.le_of_ble_eq_true rfl) rfl (MH_obj rfl rfl) rfl (by decide) rfl rfl) (by rfl) (Nat.le_of_ble_eq_true rfl) (Nat.le_of_ble_eq_true rfl) rfl (by rfl) ?_
      refine w_t (a := 75) (b := 74) rfl rfl rfl ?_
      refine w_p (pc1 := 76) rfl rfl ?_
      refine w_p (pc1 := 77) rfl rfl ?_
      refine w_p (pc1 := 78) rfl rfl ?_
      refine w_m0 (pc1 := 81) (st1 := .long (vl B n (s.1 + 2)) :: _) rfl rfl (h_gJe (j := 7) rfl rfl rfl rfl rfl (by rw [M2.2.1.2.2.2.1]; show mIs (kd B n (s.1 + 2)) _ = _; rw [h3]; rfl)) rfl ?_
      refine w_je (pc1 := 84) (vs := [.ref 176, .int (nI (q)), .long (vl B n (s.1 + 2))]) (rest := []) (st1 := [.int (fnd (fun j => decide (C2.2.1 81 (6 * q + j) = vl B n (s.1 + 2))) w 0)]) (m_213 (d := _) (sl := 0) hq6 (mr_w M2 h8) hw) rfl rfl rfl (fun _ _ => rfl) rfl (by exact cl_v my_213 rfl rfl rfl (Nat.le_of_ble_eq_true rfl) rfl (MH_obj rfl rfl) rfl (by decide) rfl rfl) (by rfl) (Nat.le_of_ble_eq_true rfl) (Nat.le_of_ble_eq_true rfl) rfl (by rfl) ?_
      refine w_p (pc1 := 86) (al1 := [(4, .int (fnd (fun j => decide (C2.2.1 81 (6 * q + j) = vl B n (s.1 + 2))) w 0)), (3, .int (nI (q))), (2, .int 1), (0, .ref 176), (1, .int 0)]) rfl rfl ?_
      refine w_p (pc1 := 88) rfl rfl ?_
      refine w_p (pc1 := 89) (st1 := .int (-1) :: _) rfl rfl ?_
      refine w_t (a := 97) (b := 92) (cb_ne_t (by rw [mr_col M2]; exact hg)) rfl rfl ?_
      refine w_p (pc1 := 98) rfl rfl ?_
      refine w_ji (pc1 := 101) (vs := [.ref 176]) (rest := []) (dM (d := _) M2 h1) rfl rfl rfl (fun _ _ => rfl) rfl (by exact cl_v my_226 rfl rfl rfl (Nat.le_of_ble_eq_true rfl) rfl (MH_obj rfl rfl) rfl (by decide) rfl rfl) (by rfl) (Nat.le_of_ble_eq_true rfl) (Nat.le_of_ble_eq_true rfl) rfl (fun v h1 d1 hq => ?_) (fun _ _ _ e => e.elim)
      rcases hq with ⟨hv, ⟨C3, M3, hh⟩, hn⟩
      · subst hv; subst hh; subst hn
        refine w_p (pc1 := 102) rfl rfl ?_
        refine w_p (pc1 := 103) rfl rfl ?_
        refine w_t (a := 110) (b := 106) rfl rfl rfl ?_
        refine w_p (pc1 := 111) (st1 := .int 5 :: _) rfl rfl ?_
        refine w_p (pc1 := 113) rfl rfl ?_
        refine w_p (pc1 := 114) rfl rfl ?_
        refine w_ji (pc1 := 117) (vs := [.ref 176, .int 5, _]) (rest := []) (sM (a := 4) (c := fnd (fun j => decide (C0.2.1 81 (6 * q + j) = vl B n (s.1 + 2))) w 0) (v := (fnd (fun j => decide (C2.2.1 81 (6 * q + j) = vl B n (s.1 + 2))) w 0).toInt64) (d := _) M3 (by omega) (Or.inr (Or.inr (Or.inr (Or.inr (Or.inl ⟨rfl, rfl, by rw [mr_col M2]⟩)))))) rfl rfl rfl (fun _ _ => rfl) rfl (by exact cl_v my_230 rfl rfl rfl (Nat.le_of_ble_eq_true rfl) rfl (MH_obj rfl rfl) rfl (by decide) rfl rfl) (by rfl) (Nat.le_of_ble_eq_true rfl) (Nat.le_of_ble_eq_true rfl) rfl (fun v h1 d1 hq => ?_) (fun _ _ _ e => e.elim)
        rcases hq with ⟨hv, ⟨C4, M4, hh⟩, hn⟩
        · subst hv; subst hh; subst hn
          refine w_p (pc1 := 118) rfl rfl ?_
          refine w_ji (pc1 := 121) (vs := [.ref 176]) (rest := []) (nA (d := _) M4 (show y.1 < 600 by rw [hy.1]; exact h6)) rfl rfl rfl (fun _ _ => rfl) rfl (by exact cl_v my_195 rfl rfl rfl (Nat.le_of_ble_eq_true rfl) rfl (MH_obj rfl rfl) rfl (by decide) rfl rfl) (by rfl) (Nat.le_of_ble_eq_true rfl) (Nat.le_of_ble_eq_true rfl) rfl (fun v h1 d1 hq => ?_) (fun _ _ _ e => e.elim)
          rcases hq with ⟨hv, ⟨C5, Q5, hh⟩, hn⟩
          · subst hv; subst hh; subst hn
            refine w_r rfl rfl rfl (fun _ _ => rfl) rfl ?_
            exact ⟨rfl, ⟨C5, Q5, rfl⟩, rfl⟩
end MNW
