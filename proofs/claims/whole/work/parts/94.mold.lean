/-! THE OTHER SIDE'S FORMULAS, 9: a factor that is NEW or OLD; at a bad token all reading refuses -/
section MNO
variable {L : Nat} {xs : Nat → Int32} {t : ab_H} {d n p b wb e f : Nat} {B : Nat → Nat} {C0 C : co_T} {s z : fs_T} {W : List (Int32 × Int64)} {c : Int32} {i : Nat}
set_option maxRecDepth 100000 in
theorem gw24_q (M : MK B n C0 C p b wb f s W) (hk : kd B n s.1 = 24) (h : Wd L xs (d + 5) y_231 (0, [(0, .ref 176), (1, .int 1)], [], MH C t, 0) (QM B n C0 t p b wb e none z W) nX) : Wd L xs (d + 6) y_229 (0, [(0, .ref 176)], [], MH C t, 0) (QM B n C0 t p b wb e (some (.int 1)) z W) nX := by
  refine w_p (pc1 := 1) rfl rfl ?_
  refine w_m0 (pc1 := 4) (st1 := .int 3 :: _) rfl rfl (h_gIe (j := 4) rfl rfl rfl rfl rfl (by rw [M.2.1.2.2.1, hk]; rfl)) rfl ?_
  refine w_p (pc1 := 5) (st1 := .int 2 :: _) rfl rfl ?_
  refine w_f (a := 18) (b := 8) rfl rfl rfl ?_
  refine w_p (pc1 := 9) rfl rfl ?_
  refine w_m0 (pc1 := 12) (st1 := .long 1853189228 :: _) rfl rfl rfl rfl ?_
  refine w_je (pc1 := 15) (vs := [.ref 176, .long 1853189228]) (rest := []) (st1 := [.int 0]) (m_205f (d := _) (sl := 0) ((wd_k (k := 27) M.2.1 (by decide) (by decide)).trans (decide_eq_false (by rw [hk]; decide)))) rfl rfl rfl (fun _ _ => rfl) rfl (by exact cl_v my_205 rfl rfl rfl (Nat.le_of_ble_eq_true rfl) rfl (MH_obj rfl rfl) rfl (by decide) rfl rfl) (by rfl) (Nat.le_of_ble_eq_true rfl) (Nat.le_of_ble_eq_true rfl) rfl (by rfl) ?_
  refine w_t (a := 49) (b := 18) rfl rfl rfl ?_
  refine w_p (pc1 := 50) rfl rfl ?_
  refine w_p (pc1 := 52) (st1 := .int 45 :: _) rfl rfl ?_
  refine w_je (pc1 := 55) (vs := [.ref 176, .int 45]) (rest := []) (st1 := [.int 0]) (m_210f (d := _) (sl := 0) (c := 45) ((sg_k (k := 57) M.2.1 (by decide) (by decide)).trans (decide_eq_false (by rw [hk]; decide)))) rfl rfl rfl (fun _ _ => rfl) rfl (by exact cl_v my_210 rfl rfl rfl (Nat.le_of_ble_eq_true rfl) rfl (MH_obj rfl rfl) rfl (by decide) rfl rfl) (by rfl) (Nat.le_of_ble_eq_true rfl) (Nat.le_of_ble_eq_true rfl) rfl (by rfl) ?_
  refine w_t (a := 78) (b := 58) rfl rfl rfl ?_
  refine w_p (pc1 := 79) rfl rfl ?_
  refine w_p (pc1 := 81) (st1 := .int 40 :: _) rfl rfl ?_
  refine w_je (pc1 := 84) (vs := [.ref 176, .int 40]) (rest := []) (st1 := [.int 0]) (m_210f (d := _) (sl := 0) (c := 40) ((sg_k (k := 44) M.2.1 (by decide) (by decide)).trans (decide_eq_false (by rw [hk]; decide)))) rfl rfl rfl (fun _ _ => rfl) rfl (by exact cl_v my_210 rfl rfl rfl (Nat.le_of_ble_eq_true rfl) rfl (MH_obj rfl rfl) rfl (by decide) rfl rfl) (by rfl) (Nat.le_of_ble_eq_true rfl) (Nat.le_of_ble_eq_true rfl) rfl (by rfl) ?_
  refine w_t (a := 103) (b := 87) rfl rfl rfl ?_
  refine w_p (pc1 := 104) rfl rfl ?_
  refine w_m0 (pc1 := 107) (st1 := .long 7234935 :: _) rfl rfl rfl rfl ?_
  refine w_je (pc1 := 110) (vs := [.ref 176, .long 7234935]) (rest := []) (st1 := [.int 1]) (m_205t (d := _) (sl := 0) ((wd_k (k := 24) M.2.1 (by decide) (by decide)).trans (decide_eq_true hk))) rfl rfl rfl (fun _ _ => rfl) rfl (by exact cl_v my_205 rfl rfl rfl (Nat.le_of_ble_eq_true rfl) rfl (MH_obj rfl rfl) rfl (by decide) rfl rfl) (by rfl) (Nat.le_of_ble_eq_true rfl) (Nat.le_of_ble_eq_true rfl) rfl (by rfl) ?_
  refine w_t (a := 123) (b := 113) rfl rfl rfl ?_
  refine w_p (pc1 := 124) rfl rfl ?_
  refine w_p (pc1 := 125) rfl rfl ?_
  refine w_m0 (pc1 := 128) (st1 := .long 7234935 :: _) rfl rfl rfl rfl ?_
  refine w_je (pc1 := 131) (vs := [.ref 176, .long 7234935]) (rest := [.ref 176]) (st1 := [.int 1, .ref 176]) (m_205t (d := _) (sl := 0) ((wd_k (k := 24) M.2.1 (by decide) (by decide)).trans (decide_eq_true hk))) rfl rfl rfl (fun _ _ => rfl) rfl (by exact cl_v my_205 rfl rfl rfl (Nat.le_of_ble_eq_true rfl) rfl (MH_obj rfl rfl) rfl (by decide) rfl rfl) (by rfl) (Nat.le_of_ble_eq_true rfl) (Nat.le_of_ble_eq_true rfl) rfl (by rfl) ?_
  refine w_ji (pc1 := 134) (vs := [.ref 176, .int 1]) (rest := []) (h) rfl rfl rfl (fun _ _ => rfl) rfl (by exact cl_v my_231 rfl rfl rfl (Nat.le_of_ble_eq_true rfl) rfl (MH_obj rfl rfl) rfl (by decide) rfl rfl) (by rfl) (Nat.le_of_ble_eq_true rfl) (Nat.le_of_ble_eq_true rfl) rfl (fun v h1 d1 hq => ?_) (fun _ _ _ e => e.elim)
  rcases hq with ⟨hv, ⟨C1, Q1, hh⟩, hn⟩
  · subst hv; subst hh; subst hn
    refine w_p (pc1 := 135) (st1 := .int 1 :: _) rfl rfl ?_
    refine w_r rfl rfl rfl (fun _ _ => rfl) rfl ?_
    exact ⟨rfl, ⟨C1, Q1, rfl⟩, rfl⟩
set_option maxRecDepth 100000 in
theorem gw24_f (M : MK B n C0 C p b wb f s W) (hk : kd B n s.1 = 24) (h : Wd L xs (d + 5) y_231 (0, [(0, .ref 176), (1, .int 1)], [], MH C t, 0) (PFM B n C0 t p b wb e c i) nX) : Wd L xs (d + 6) y_229 (0, [(0, .ref 176)], [], MH C t, 0) (RFM B n C0 t p b wb e (some (.int 1)) c i) nX := by
  refine w_p (pc1 := 1) rfl rfl ?_
  refine w_m0 (pc1 := 4) (st1 := .int 3 :: _) rfl rfl (h_gIe (j := 4) rfl rfl rfl rfl rfl (by rw [M.2.1.2.2.1, hk]; rfl)) rfl ?_
  refine w_p (pc1 := 5) (st1 := .int 2 :: _) rfl rfl ?_
  refine w_f (a := 18) (b := 8) rfl rfl rfl ?_
  refine w_p (pc1 := 9) rfl rfl ?_
  refine w_m0 (pc1 := 12) (st1 := .long 1853189228 :: _) rfl rfl rfl rfl ?_
  refine w_je (pc1 := 15) (vs := [.ref 176, .long 1853189228]) (rest := []) (st1 := [.int 0]) (m_205f (d := _) (sl := 0) ((wd_k (k := 27) M.2.1 (by decide) (by decide)).trans (decide_eq_false (by rw [hk]; decide)))) rfl rfl rfl (fun _ _ => rfl) rfl (by exact cl_v my_205 rfl rfl rfl (Nat.le_of_ble_eq_true rfl) rfl (MH_obj rfl rfl) rfl (by decide) rfl rfl) (by rfl) (Nat.le_of_ble_eq_true rfl) (Nat.le_of_ble_eq_true rfl) rfl (by rfl) ?_
  refine w_t (a := 49) (b := 18) rfl rfl rfl ?_
  refine w_p (pc1 := 50) rfl rfl ?_
  refine w_p (pc1 := 52) (st1 := .int 45 :: _) rfl rfl ?_
  refine w_je (pc1 := 55) (vs := [.ref 176, .int 45]) (rest := []) (st1 := [.int 0]) (m_210f (d := _) (sl := 0) (c := 45) ((sg_k (k := 57) M.2.1 (by decide) (by decide)).trans (decide_eq_false (by rw [hk]; decide)))) rfl rfl rfl (fun _ _ => rfl) rfl (by exact cl_v my_210 rfl rfl rfl (Nat.le_of_ble_eq_true rfl) rfl (MH_obj rfl rfl) rfl (by decide) rfl rfl) (by rfl) (Nat.le_of_ble_eq_true rfl) (Nat.le_of_ble_eq_true rfl) rfl (by rfl) ?_
  refine w_t (a := 78) (b := 58) rfl rfl rfl ?_
  refine w_p (pc1 := 79) rfl rfl ?_
  refine w_p (pc1 := 81) (st1 := .int 40 :: _) rfl rfl ?_
  refine w_je (pc1 := 84) (vs := [.ref 176, .int 40]) (rest := []) (st1 := [.int 0]) (m_210f (d := _) (sl := 0) (c := 40) ((sg_k (k := 44) M.2.1 (by decide) (by decide)).trans (decide_eq_false (by rw [hk]; decide)))) rfl rfl rfl (fun _ _ => rfl) rfl (by exact cl_v my_210 rfl rfl rfl (Nat.le_of_ble_eq_true rfl) rfl (MH_obj rfl rfl) rfl (by decide) rfl rfl) (by rfl) (Nat.le_of_ble_eq_true rfl) (Nat.le_of_ble_eq_true rfl) rfl (by rfl) ?_
  refine w_t (a := 103) (b := 87) rfl rfl rfl ?_
  refine w_p (pc1 := 104) rfl rfl ?_
  refine w_m0 (pc1 := 107) (st1 := .long 7234935 :: _) rfl rfl rfl rfl ?_
  refine w_je (pc1 := 110) (vs := [.ref 176, .long 7234935]) (rest := []) (st1 := [.int 1]) (m_205t (d := _) (sl := 0) ((wd_k (k := 24) M.2.1 (by decide) (by decide)).trans (decide_eq_true hk))) rfl rfl rfl (fun _ _ => rfl) rfl (by exact cl_v my_205 rfl rfl rfl (Nat.le_of_ble_eq_true rfl) rfl (MH_obj rfl rfl) rfl (by decide) rfl rfl) (by rfl) (Nat.le_of_ble_eq_true rfl) (Nat.le_of_ble_eq_true rfl) rfl (by rfl) ?_
  refine w_t (a := 123) (b := 113) rfl rfl rfl ?_
  refine w_p (pc1 := 124) rfl rfl ?_
  refine w_p (pc1 := 125) rfl rfl ?_
  refine w_m0 (pc1 := 128) (st1 := .long 7234935 :: _) rfl rfl rfl rfl ?_
  refine w_je (pc1 := 131) (vs := [.ref 176, .long 7234935]) (rest := [.ref 176]) (st1 := [.int 1, .ref 176]) (m_205t (d := _) (sl := 0) ((wd_k (k := 24) M.2.1 (by decide) (by decide)).trans (decide_eq_true hk))) rfl rfl rfl (fun _ _ => rfl) rfl (by exact cl_v my_205 rfl rfl rfl (Nat.le_of_ble_eq_true rfl) rfl (MH_obj rfl rfl) rfl (by decide) rfl rfl) (by rfl) (Nat.le_of_ble_eq_true rfl) (Nat.le_of_ble_eq_true rfl) rfl (by rfl) ?_
  refine w_ji (pc1 := 134) (vs := [.ref 176, .int 1]) (rest := []) (h) rfl rfl rfl (fun _ _ => rfl) rfl (by exact cl_v my_231 rfl rfl rfl (Nat.le_of_ble_eq_true rfl) rfl (MH_obj rfl rfl) rfl (by decide) rfl rfl) (by rfl) (Nat.le_of_ble_eq_true rfl) (Nat.le_of_ble_eq_true rfl) rfl (fun v h1 d1 hq => ?_) (fun _ _ _ e => e.elim)
  rcases hq with ⟨hv, ⟨C1, F1, hh⟩, hn⟩
  · subst hv; subst hh; subst hn
    refine w_p (pc1 := 135) (st1 := .int 1 :: _) rfl rfl ?_
    refine w_r rfl rfl rfl (fun _ _ => rfl) rfl ?_
    exact ⟨rfl, ⟨C1, F1, rfl⟩, rfl⟩
set_option maxRecDepth 100000 in
theorem gw28_q (M : MK B n C0 C p b wb f s W) (hk : kd B n s.1 = 28) (h : Wd L xs (d + 5) y_231 (0, [(0, .ref 176), (1, .int 0)], [], MH C t, 0) (QM B n C0 t p b wb e none z W) nX) : Wd L xs (d + 6) y_229 (0, [(0, .ref 176)], [], MH C t, 0) (QM B n C0 t p b wb e (some (.int 1)) z W) nX := by
  refine w_p (pc1 := 1) rfl rfl ?_
  refine w_m0 (pc1 := 4) (st1 := .int 3 :: _) rfl rfl (h_gIe (j := 4) rfl rfl rfl rfl rfl (by rw [M.2.1.2.2.1, hk]; rfl)) rfl ?_
  refine w_p (pc1 := 5) (st1 := .int 2 :: _) rfl rfl ?_
  refine w_f (a := 18) (b := 8) rfl rfl rfl ?_
  refine w_p (pc1 := 9) rfl rfl ?_
  refine w_m0 (pc1 := 12) (st1 := .long 1853189228 :: _) rfl rfl rfl rfl ?_
  refine w_je (pc1 := 15) (vs := [.ref 176, .long 1853189228]) (rest := []) (st1 := [.int 0]) (m_205f (d := _) (sl := 0) ((wd_k (k := 27) M.2.1 (by decide) (by decide)).trans (decide_eq_false (by rw [hk]; decide)))) rfl rfl rfl (fun _ _ => rfl) rfl (by exact cl_v my_205 rfl rfl rfl (Nat.le_of_ble_eq_true rfl) rfl (MH_obj rfl rfl) rfl (by decide) rfl rfl) (by rfl) (Nat.le_of_ble_eq_true rfl) (Nat.le_of_ble_eq_true rfl) rfl (by rfl) ?_
  refine w_t (a := 49) (b := 18) rfl rfl rfl ?_
  refine w_p (pc1 := 50) rfl rfl ?_
  refine w_p (pc1 := 52) (st1 := .int 45 :: _) rfl rfl ?_
  refine w_je (pc1 := 55) (vs := [.ref 176, .int 45]) (rest := []) (st1 := [.int 0]) (m_210f (d := _) (sl := 0) (c := 45) ((sg_k (k := 57) M.2.1 (by decide) (by decide)).trans (decide_eq_false (by rw [hk]; decide)))) rfl rfl rfl (fun _ _ => rfl) rfl (by exact cl_v my_210 rfl rfl rfl (Nat.le_of_ble_eq_true rfl) rfl (MH_obj rfl rfl) rfl (by decide) rfl rfl) (by rfl) (Nat.le_of_ble_eq_true rfl) (Nat.le_of_ble_eq_true rfl) rfl (by rfl) ?_
  refine w_t (a := 78) (b := 58) rfl rfl rfl ?_
  refine w_p (pc1 := 79) rfl rfl ?_
  refine w_p (pc1 := 81) (st1 := .int 40 :: _) rfl rfl ?_
  refine w_je (pc1 := 84) (vs := [.ref 176, .int 40]) (rest := []) (st1 := [.int 0]) (m_210f (d := _) (sl := 0) (c := 40) ((sg_k (k := 44) M.2.1 (by decide) (by decide)).trans (decide_eq_false (by rw [hk]; decide)))) rfl rfl rfl (fun _ _ => rfl) rfl (by exact cl_v my_210 rfl rfl rfl (Nat.le_of_ble_eq_true rfl) rfl (MH_obj rfl rfl) rfl (by decide) rfl rfl) (by rfl) (Nat.le_of_ble_eq_true rfl) (Nat.le_of_ble_eq_true rfl) rfl (by rfl) ?_
  refine w_t (a := 103) (b := 87) rfl rfl rfl ?_
  refine w_p (pc1 := 104) rfl rfl ?_
  refine w_m0 (pc1 := 107) (st1 := .long 7234935 :: _) rfl rfl rfl rfl ?_
  refine w_je (pc1 := 110) (vs := [.ref 176, .long 7234935]) (rest := []) (st1 := [.int 0]) (m_205f (d := _) (sl := 0) ((wd_k (k := 24) M.2.1 (by decide) (by decide)).trans (decide_eq_false (by rw [hk]; decide)))) rfl rfl rfl (fun _ _ => rfl) rfl (by exact cl_v my_205 rfl rfl rfl (Nat.le_of_ble_eq_true rfl) rfl (MH_obj rfl rfl) rfl (by decide) rfl rfl) (by rfl) (Nat.le_of_ble_eq_true rfl) (Nat.le_of_ble_eq_true rfl) rfl (by rfl) ?_
  refine w_f (a := 123) (b := 113) rfl rfl rfl ?_
  refine w_p (pc1 := 114) rfl rfl ?_
  refine w_m0 (pc1 := 117) (st1 := .long 7302244 :: _) rfl rfl rfl rfl ?_
  refine w_je (pc1 := 120) (vs := [.ref 176, .long 7302244]) (rest := []) (st1 := [.int 1]) (m_205t (d := _) (sl := 0) ((wd_k (k := 28) M.2.1 (by decide) (by decide)).trans (decide_eq_true hk))) rfl rfl rfl (fun _ _ => rfl) rfl (by exact cl_v my_205 rfl rfl rfl (Nat.le_of_ble_eq_true rfl) rfl (MH_obj rfl rfl) rfl (by decide) rfl rfl) (by rfl) (Nat.le_of_ble_eq_true rfl) (Nat.le_of_ble_eq_true rfl) rfl (by rfl) ?_
  refine w_f (a := 136) (b := 123) rfl rfl rfl ?_
  refine w_p (pc1 := 124) rfl rfl ?_
  refine w_p (pc1 := 125) rfl rfl ?_
  refine w_m0 (pc1 := 128) (st1 := .long 7234935 :: _) rfl rfl rfl rfl ?_
  refine w_je (pc1 := 131) (vs := [.ref 176, .long 7234935]) (rest := [.ref 176]) (st1 := [.int 0, .ref 176]) (m_205f (d := _) (sl := 0) ((wd_k (k := 24) M.2.1 (by decide) (by decide)).trans (decide_eq_false (by rw [hk]; decide)))) rfl rfl rfl (fun _ _ => rfl) rfl (by exact cl_v my_205 rfl rfl rfl (Nat.le_of_ble_eq_true rfl) rfl (MH_obj rfl rfl) rfl (by decide) rfl rfl) (by rfl) (Nat.le_of_ble_eq_true rfl) (Nat.le_of_ble_eq_true rfl) rfl (by rfl) ?_
  refine w_ji (pc1 := 134) (vs := [.ref 176, .int 0]) (rest := []) (h) rfl rfl rfl (fun _ _ => rfl) rfl (by exact cl_v my_231 rfl rfl rfl (Nat.le_of_ble_eq_true rfl) rfl (MH_obj rfl rfl) rfl (by decide) rfl rfl) (by rfl) (Nat.le_of_ble_eq_true rfl) (Nat.le_of_ble_eq_true rfl) rfl (fun v h1 d1 hq => ?_) (fun _ _ _ e => e.elim)
  rcases hq with ⟨hv, ⟨C1, Q1, hh⟩, hn⟩
  · subst hv; subst hh; subst hn
    refine w_p (pc1 := 135) (st1 := .int 1 :: _) rfl rfl ?_
    refine w_r rfl rfl rfl (fun _ _ => rfl) rfl ?_
    exact ⟨rfl, ⟨C1, Q1, rfl⟩, rfl⟩
set_option maxRecDepth 100000 in
theorem gw28_f (M : MK B n C0 C p b wb f s W) (hk : kd B n s.1 = 28) (h : Wd L xs (d + 5) y_231 (0, [(0, .ref 176), (1, .int 0)], [], MH C t, 0) (PFM B n C0 t p b wb e c i) nX) : Wd L xs (d + 6) y_229 (0, [(0, .ref 176)], [], MH C t, 0) (RFM B n C0 t p b wb e (some (.int 1)) c i) nX := by
  refine w_p (pc1 := 1) rfl rfl ?_
  refine w_m0 (pc1 := 4) (st1 := .int 3 :: _) rfl rfl (h_gIe (j := 4) rfl rfl rfl rfl rfl (by rw [M.2.1.2.2.1, hk]; rfl)) rfl ?_
  refine w_p (pc1 := 5) (st1 := .int 2 :: _) rfl rfl ?_
  refine w_f (a := 18) (b := 8) rfl rfl rfl ?_
  refine w_p (pc1 := 9) rfl rfl ?_
  refine w_m0 (pc1 := 12) (st1 := .long 1853189228 :: _) rfl rfl rfl rfl ?_
  refine w_je (pc1 := 15) (vs := [.ref 176, .long 1853189228]) (rest := []) (st1 := [.int 0]) (m_205f (d := _) (sl := 0) ((wd_k (k := 27) M.2.1 (by decide) (by decide)).trans (decide_eq_false (by rw [hk]; decide)))) rfl rfl rfl (fun _ _ => rfl) rfl (by exact cl_v my_205 rfl rfl rfl (Nat.le_of_ble_eq_true rfl) rfl (MH_obj rfl rfl) rfl (by decide) rfl rfl) (by rfl) (Nat.le_of_ble_eq_true rfl) (Nat.le_of_ble_eq_true rfl) rfl (by rfl) ?_
  refine w_t (a := 49) (b := 18) rfl rfl rfl ?_
  refine w_p (pc1 := 50) rfl rfl ?_
  refine w_p (pc1 := 52) (st1 := .int 45 :: _) rfl rfl ?_
  refine w_je (pc1 := 55) (vs := [.ref 176, .int 45]) (rest := []) (st1 := [.int 0]) (m_210f (d := _) (sl := 0) (c := 45) ((sg_k (k := 57) M.2.1 (by decide) (by decide)).trans (decide_eq_false (by rw [hk]; decide)))) rfl rfl rfl (fun _ _ => rfl) rfl (by exact cl_v my_210 rfl rfl rfl (Nat.le_of_ble_eq_true rfl) rfl (MH_obj rfl rfl) rfl (by decide) rfl rfl) (by rfl) (Nat.le_of_ble_eq_true rfl) (Nat.le_of_ble_eq_true rfl) rfl (by rfl) ?_
  refine w_t (a := 78) (b := 58) rfl rfl rfl ?_
  refine w_p (pc1 := 79) rfl rfl ?_
  refine w_p (pc1 := 81) (st1 := .int 40 :: _) rfl rfl ?_
  refine w_je (pc1 := 84) (vs := [.ref 176, .int 40]) (rest := []) (st1 := [.int 0]) (m_210f (d := _) (sl := 0) (c := 40) ((sg_k (k := 44) M.2.1 (by decide) (by decide)).trans (decide_eq_false (by rw [hk]; decide)))) rfl rfl rfl (fun _ _ => rfl) rfl (by exact cl_v my_210 rfl rfl rfl (Nat.le_of_ble_eq_true rfl) rfl (MH_obj rfl rfl) rfl (by decide) rfl rfl) (by rfl) (Nat.le_of_ble_eq_true rfl) (Nat.le_of_ble_eq_true rfl) rfl (by rfl) ?_
  refine w_t (a := 103) (b := 87) rfl rfl rfl ?_
  refine w_p (pc1 := 104) rfl rfl ?_
  refine w_m0 (pc1 := 107) (st1 := .long 7234935 :: _) rfl rfl rfl rfl ?_
  refine w_je (pc1 := 110) (vs := [.ref 176, .long 7234935]) (rest := []) (st1 := [.int 0]) (m_205f (d := _) (sl := 0) ((wd_k (k := 24) M.2.1 (by decide) (by decide)).trans (decide_eq_false (by rw [hk]; decide)))) rfl rfl rfl (fun _ _ => rfl) rfl (by exact cl_v my_205 rfl rfl rfl (Nat.le_of_ble_eq_true rfl) rfl (MH_obj rfl rfl) rfl (by decide) rfl rfl) (by rfl) (Nat.le_of_ble_eq_true rfl) (Nat.le_of_ble_eq_true rfl) rfl (by rfl) ?_
  refine w_f (a := 123) (b := 113) rfl rfl rfl ?_
  refine w_p (pc1 := 114) rfl rfl ?_
  refine w_m0 (pc1 := 117) (st1 := .long 7302244 :: _) rfl rfl rfl rfl ?_
  refine w_je (pc1 := 120) (vs := [.ref 176, .long 7302244]) (rest := []) (st1 := [.int 1]) (m_205t (d := _) (sl := 0) ((wd_k (k := 28) M.2.1 (by decide) (by decide)).trans (decide_eq_true hk))) rfl rfl rfl (fun _ _ => rfl) rfl (by exact cl_v my_205 rfl rfl rfl (Nat.le_of_ble_eq_true rfl) rfl (MH_obj rfl rfl) rfl (by decide) rfl rfl) (by rfl) (Nat.le_of_ble_eq_true rfl) (Nat.le_of_ble_eq_true rfl) rfl (by rfl) ?_
  refine w_f (a := 136) (b := 123) rfl rfl rfl ?_
  refine w_p (pc1 := 124) rfl rfl ?_
  refine w_p (pc1 := 125) rfl rfl ?_
  refine w_m0 (pc1 := 128) (st1 := .long 7234935 :: _) rfl rfl rfl rfl ?_
  refine w_je (pc1 := 131) (vs := [.ref 176, .long 7234935]) (rest := [.ref 176]) (st1 := [.int 0, .ref 176]) (m_205f (d := _) (sl := 0) ((wd_k (k := 24) M.2.1 (by decide) (by decide)).trans (decide_eq_false (by rw [hk]; decide)))) rfl rfl rfl (fun _ _ => rfl) rfl (by exact cl_v my_205 rfl rfl rfl (Nat.le_of_ble_eq_true rfl) rfl (MH_obj rfl rfl) rfl (by decide) rfl rfl) (by rfl) (Nat.le_of_ble_eq_true rfl) (Nat.le_of_ble_eq_true rfl) rfl (by rfl) ?_
  refine w_ji (pc1 := 134) (vs := [.ref 176, .int 0]) (rest := []) (h) rfl rfl rfl (fun _ _ => rfl) rfl (by exact cl_v my_231 rfl rfl rfl (Nat.le_of_ble_eq_true rfl) rfl (MH_obj rfl rfl) rfl (by decide) rfl rfl) (by rfl) (Nat.le_of_ble_eq_true rfl) (Nat.le_of_ble_eq_true rfl) rfl (fun v h1 d1 hq => ?_) (fun _ _ _ e => e.elim)
  rcases hq with ⟨hv, ⟨C1, F1, hh⟩, hn⟩
  · subst hv; subst hh; subst hn
    refine w_p (pc1 := 135) (st1 := .int 1 :: _) rfl rfl ?_
    refine w_r rfl rfl rfl (fun _ _ => rfl) rfl ?_
    exact ⟨rfl, ⟨C1, F1, rfl⟩, rfl⟩
/-! at a token of kind 1 every mode but the loops refuses there -/
set_option maxRecDepth 100000 in
theorem rd_bad {E : fe_T} {s : fs_T} (hb : E.1 s.1 = 1) : ∀ (g md : Nat), (md = 0 ∨ md = 1 ∨ md = 3 ∨ md = 5 ∨ md = 6 ∨ md = 8) → (∃ c, rd E g md s = .inl (c, s.1)) ∨ rd E g md s = .inl (0, 0)
  | 0, _, _ => Or.inr rfl
  | g + 1, md, h => by
    have ih := rd_bad (E := E) hb g
    have go : ∀ (m2 : Nat) (k : fs_T → fr_T), (m2 = 0 ∨ m2 = 1 ∨ m2 = 3 ∨ m2 = 5 ∨ m2 = 6 ∨ m2 = 8) → (∃ c, bnd (rd E g m2 s) k = .inl (c, s.1)) ∨ bnd (rd E g m2 s) k = .inl (0, 0) := by
      intro m2 k hm
      rcases ih m2 hm with ⟨c, e⟩ | e
      · exact Or.inl ⟨c, by rw [e]; rfl⟩
      · exact Or.inr (by rw [e]; rfl)
    rcases h with rfl | rfl | rfl | rfl | rfl | rfl
    · refine Or.inl ⟨2, ?_⟩
      unfold rd
      simp only [hb]
      rfl
    · exact go 0 _ (by omega)
    · exact go 1 _ (by omega)
    · unfold rd
      simp only [hb]
      rw [if_neg (by decide), if_neg (by decide)]
      exact go 3 _ (by omega)
    · exact go 5 _ (by omega)
    · exact go 6 _ (by omega)
end MNO
