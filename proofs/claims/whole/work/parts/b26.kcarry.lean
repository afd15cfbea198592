
/-! ONE SIDE: a statement is carried out -/
section CRY
variable {L : Nat} {xs : Nat → Int32} {B : Nat → Nat} {n m : Nat} {C C' C0 C1 : co_T} {t t0 t1 : ab_H} {d sl sl0 sl1 i i0 i1 j b e ti k k0 kc ks w c : Nat} {sc : sc_T} {row : Option Nat} {tg : Option (Nat × Nat)} {nl : Option Nat} {kd0 tb0 : Int32} {P : Option Value → ab_H → Nat → Prop} {X : Nat → ab_H → Nat → Prop} {cs : List Nat} {ss : List (Option (List op_T))} {E : fe_T} {tr : Nat → Option tr_T} {u z : Bool} {wd : Nat → Nat} {rs : rs_T} {Pc : Option Value → ab_H → Nat → Prop}
def totF (rs : rs_T) : Nat → Nat → Nat → Nat
  | 0, _, a => a
  | f + 1, b, a => totF rs f (b + 1) (a + (rs b).1.length)
set_option maxRecDepth 100000 in
theorem lp_10 (h : ∀ b, b < 6 → C.1 16 b = nI (rs b).1.length) : ∀ (f b a : Nat), b + f = 6 → Wd L xs d y_10 (4, [(2, .int (nI b)), (1, .int (nI a)), (0, .ref 113)], [], MH C t, sl) (Rt (some (.int (nI (totF rs f b a)))) (MH C t) sl) nX
  | 0, b, a, hb => by
    refine w_p (pc1 := 5) rfl rfl ?_
    refine w_p (pc1 := 7) (st1 := .int 6 :: _) rfl rfl ?_
    refine w_t (a := 25) (b := 10) (bN_ge_t (a := b) (b := 6) (by omega) (by omega) (by omega)) rfl rfl ?_
    refine w_p (pc1 := 26) rfl rfl ?_
    refine w_r rfl rfl rfl (fun _ _ => rfl) cr_int ?_
    exact ⟨rfl, rfl, rfl⟩
  | f + 1, b, a, hb => by
    have hz := h b (by omega)
    have ih := lp_10 h f (b + 1) (a + (rs b).1.length) (by omega)
    refine w_p (pc1 := 5) rfl rfl ?_
    refine w_p (pc1 := 7) (st1 := .int 6 :: _) rfl rfl ?_
    refine w_f (a := 25) (b := 10) (bN_ge_f (a := b) (b := 6) (by omega) (by omega) (by omega)) rfl rfl ?_
    refine w_p (pc1 := 11) rfl rfl ?_
    refine w_p (pc1 := 12) rfl rfl ?_
    refine w_m0 (pc1 := 15) rfl rfl (h_gC rfl rfl rfl rfl) rfl ?_
    refine w_p (pc1 := 16) rfl rfl ?_
    refine w_m0 (pc1 := 17) (st1 := .int (nI ((rs b).1.length)) :: _) rfl rfl (n_ile (e := b) rfl rfl rfl (by omega) (hz)) rfl ?_
    refine w_iadd (pc1 := 18) (u := nI (a)) (v := nI ((rs b).1.length)) (z := nI (a + ((rs b).1.length))) rfl (nK_add) rfl ?_
    refine w_p (pc1 := 19) (al1 := [(1, .int (nI (a + ((rs b).1.length)))), (2, .int (nI (b))), (0, .ref 113)]) rfl rfl ?_
    refine w_iinc (pc1 := 22) (u := nI (b)) (z := nI (b + 1)) (al1 := [(2, .int (nI (b + 1))), (1, .int (nI (a + ((rs b).1.length)))), (0, .ref 113)]) rfl rfl rfl nK_1 rfl rfl ?_
    refine w_p (pc1 := 4) rfl rfl ?_
    exact ih
set_option maxRecDepth 100000 in
theorem m_10 (h : ∀ b, b < 6 → C.1 16 b = nI (rs b).1.length) : Wd L xs d y_10 (0, [(0, .ref 113)], [], MH C t, sl) (Rt (some (.int (nI (totF rs 6 0 0)))) (MH C t) sl) nX := by
  refine w_p (pc1 := 1) (st1 := .int 0 :: _) rfl rfl ?_
  refine w_p (pc1 := 2) (al1 := [(1, .int 0), (0, .ref 113)]) rfl rfl ?_
  refine w_p (pc1 := 3) (st1 := .int 0 :: _) rfl rfl ?_
  refine w_p (pc1 := 4) (al1 := [(2, .int 0), (1, .int 0), (0, .ref 113)]) rfl rfl ?_
  exact lp_10 h 6 0 0 rfl
set_option maxRecDepth 100000 in
theorem m_11 : Wd L xs d y_11 (0, [(0, .ref 124)], [], MH C t, sl) (Rt none (MH (sI (sI C 24 7 0) 24 8 0) t) sl) nX := by
  refine w_p (pc1 := 1) rfl rfl ?_
  refine w_p (pc1 := 2) (st1 := .int 0 :: _) rfl rfl ?_
  refine w_m0 (pc1 := 5) rfl rfl (h_pI (j := 7) rfl rfl rfl rfl rfl rfl rfl ⟨rfl, rfl⟩ rfl) rfl ?_
  refine w_p (pc1 := 6) rfl rfl ?_
  refine w_p (pc1 := 7) (st1 := .int 0 :: _) rfl rfl ?_
  refine w_m0 (pc1 := 10) rfl rfl (h_pI (j := 8) rfl rfl rfl rfl rfl rfl rfl ⟨rfl, rfl⟩ rfl) rfl ?_
  refine w_r rfl rfl rfl (fun _ _ => rfl) rfl ?_
  exact ⟨rfl, rfl, rfl⟩
set_option maxRecDepth 100000 in
theorem m_101_17u (hv : C.2.2 20 3 = some 17) (hu : C.1 6 7 = ck true) : Wd L xs (d + 1) y_101 (0, [(0, .ref 100)], [], MH C t, sl) (Rt (some (.int (ck false))) (MH C t) sl) nX := by
  refine w_m0 (pc1 := 3) (st1 := .ref 61 :: _) rfl rfl rfl rfl ?_
  refine w_p (pc1 := 4) rfl rfl ?_
  refine w_m0 (pc1 := 7) rfl rfl (h_gC rfl rfl rfl rfl) rfl ?_
  refine w_m0 (pc1 := 10) (st1 := .ref 17 :: _) rfl rfl (h_gRs (j := 3) rfl rfl rfl rfl rfl (hv)) rfl ?_
  refine w_c (pc1 := 13) rfl rfl rfl (fun fr lo h1 h2 => n_or rfl (by decide) (by decide) h1 h2) rfl ?_
  refine w_m0 (pc1 := 14) rfl rfl (h_sw (by decide)) rfl ?_
  refine w_p (pc1 := 80) rfl rfl ?_
  refine w_p (pc1 := 81) rfl rfl ?_
  refine w_m0 (pc1 := 84) rfl rfl (h_gC rfl rfl rfl rfl) rfl ?_
  refine w_m0 (pc1 := 87) (st1 := .int 1 :: _) rfl rfl (h_gIe (j := 7) rfl rfl rfl rfl rfl (hu)) rfl ?_
  refine w_t (a := 124) (b := 90) rfl rfl rfl ?_
  refine w_p (pc1 := 125) (st1 := .int 0 :: _) rfl rfl ?_
  refine w_r rfl rfl rfl (fun _ _ => rfl) rfl ?_
  exact ⟨rfl, rfl, rfl⟩
set_option maxRecDepth 100000 in
theorem m_101_17g (hv : C.2.2 20 3 = some 17) (hu : C.1 6 7 = ck false) (hn : C.2.2 20 4 = some 39) : Wd L xs (d + 1) y_101 (0, [(0, .ref 100)], [], MH C t, sl) (Rt (some (.int (ck true))) (MH C t) sl) nX := by
  refine w_m0 (pc1 := 3) (st1 := .ref 61 :: _) rfl rfl rfl rfl ?_
  refine w_p (pc1 := 4) rfl rfl ?_
  refine w_m0 (pc1 := 7) rfl rfl (h_gC rfl rfl rfl rfl) rfl ?_
  refine w_m0 (pc1 := 10) (st1 := .ref 17 :: _) rfl rfl (h_gRs (j := 3) rfl rfl rfl rfl rfl (hv)) rfl ?_
  refine w_c (pc1 := 13) rfl rfl rfl (fun fr lo h1 h2 => n_or rfl (by decide) (by decide) h1 h2) rfl ?_
  refine w_m0 (pc1 := 14) rfl rfl (h_sw (by decide)) rfl ?_
  refine w_p (pc1 := 80) rfl rfl ?_
  refine w_p (pc1 := 81) rfl rfl ?_
  refine w_m0 (pc1 := 84) rfl rfl (h_gC rfl rfl rfl rfl) rfl ?_
  refine w_m0 (pc1 := 87) (st1 := .int 0 :: _) rfl rfl (h_gIe (j := 7) rfl rfl rfl rfl rfl (hu)) rfl ?_
  refine w_f (a := 124) (b := 90) rfl rfl rfl ?_
  refine w_p (pc1 := 91) rfl rfl ?_
  refine w_m0 (pc1 := 94) rfl rfl (h_gC rfl rfl rfl rfl) rfl ?_
  refine w_m0 (pc1 := 97) (st1 := .ref 39 :: _) rfl rfl (h_gRs (j := 4) rfl rfl rfl rfl rfl (hn)) rfl ?_
  refine w_m0 (pc1 := 100) (st1 := .ref 37 :: _) rfl rfl rfl rfl ?_
  refine w_t (a := 120) (b := 103) rfl rfl rfl ?_
  refine w_p (pc1 := 121) (st1 := .int 1 :: _) rfl rfl ?_
  refine w_p (pc1 := 125) rfl rfl ?_
  refine w_r rfl rfl rfl (fun _ _ => rfl) rfl ?_
  exact ⟨rfl, rfl, rfl⟩
set_option maxRecDepth 100000 in
theorem m_101_17t (hv : C.2.2 20 3 = some 17) (hu : C.1 6 7 = ck false) (hn : C.2.2 20 4 = some 37) (h5 : C.1 20 5 = nI b) (w : Wd L xs d y_102 (0, [(0, .ref 106), (1, .int (nI b))], [], MH C t, 0) (Rt (some (.int (ck z))) (MH C t) 0) nX) : Wd L xs (d + 1) y_101 (0, [(0, .ref 100)], [], MH C t, sl) (Rt (some (.int (ck z))) (MH C t) sl) nX := by
  cases z with
  | true =>
    refine w_m0 (pc1 := 3) (st1 := .ref 61 :: _) rfl rfl rfl rfl ?_
    refine w_p (pc1 := 4) rfl rfl ?_
    refine w_m0 (pc1 := 7) rfl rfl (h_gC rfl rfl rfl rfl) rfl ?_
    refine w_m0 (pc1 := 10) (st1 := .ref 17 :: _) rfl rfl (h_gRs (j := 3) rfl rfl rfl rfl rfl (hv)) rfl ?_
    refine w_c (pc1 := 13) rfl rfl rfl (fun fr lo h1 h2 => n_or rfl (by decide) (by decide) h1 h2) rfl ?_
    refine w_m0 (pc1 := 14) rfl rfl (h_sw (by decide)) rfl ?_
    refine w_p (pc1 := 80) rfl rfl ?_
    refine w_p (pc1 := 81) rfl rfl ?_
    refine w_m0 (pc1 := 84) rfl rfl (h_gC rfl rfl rfl rfl) rfl ?_
    refine w_m0 (pc1 := 87) (st1 := .int 0 :: _) rfl rfl (h_gIe (j := 7) rfl rfl rfl rfl rfl (hu)) rfl ?_
    refine w_f (a := 124) (b := 90) rfl rfl rfl ?_
    refine w_p (pc1 := 91) rfl rfl ?_
    refine w_m0 (pc1 := 94) rfl rfl (h_gC rfl rfl rfl rfl) rfl ?_
    refine w_m0 (pc1 := 97) (st1 := .ref 37 :: _) rfl rfl (h_gRs (j := 4) rfl rfl rfl rfl rfl (hn)) rfl ?_
    refine w_m0 (pc1 := 100) (st1 := .ref 37 :: _) rfl rfl rfl rfl ?_
    refine w_f (a := 120) (b := 103) rfl rfl rfl ?_
    refine w_p (pc1 := 104) rfl rfl ?_
    refine w_m0 (pc1 := 107) rfl rfl (h_gC rfl rfl rfl rfl) rfl ?_
    refine w_p (pc1 := 108) rfl rfl ?_
    refine w_m0 (pc1 := 111) rfl rfl (h_gC rfl rfl rfl rfl) rfl ?_
    refine w_m0 (pc1 := 114) (st1 := .int (nI (b)) :: _) rfl rfl (h_gIe (j := 5) rfl rfl rfl rfl rfl (h5)) rfl ?_
    refine w_je (pc1 := 117) (vs := [.ref 106, .int (nI (b))]) (rest := []) (st1 := [.int 1]) (w) rfl rfl rfl (fun _ _ => rfl) rfl (by exact cl_v my_102 rfl rfl rfl (Nat.le_of_ble_eq_true rfl) rfl (MH_obj rfl rfl) rfl (by decide) rfl rfl) (by rfl) (Nat.le_of_ble_eq_true rfl) (Nat.le_of_ble_eq_true rfl) rfl (by rfl) ?_
    refine w_f (a := 124) (b := 120) rfl rfl rfl ?_
    refine w_p (pc1 := 121) (st1 := .int 1 :: _) rfl rfl ?_
    refine w_p (pc1 := 125) rfl rfl ?_
    refine w_r rfl rfl rfl (fun _ _ => rfl) rfl ?_
    exact ⟨rfl, rfl, rfl⟩
  | false =>
    refine w_m0 (pc1 := 3) (st1 := .ref 61 :: _) rfl rfl rfl rfl ?_
    refine w_p (pc1 := 4) rfl rfl ?_
    refine w_m0 (pc1 := 7) rfl rfl (h_gC rfl rfl rfl rfl) rfl ?_
    refine w_m0 (pc1 := 10) (st1 := .ref 17 :: _) rfl rfl (h_gRs (j := 3) rfl rfl rfl rfl rfl (hv)) rfl ?_
    refine w_c (pc1 := 13) rfl rfl rfl (fun fr lo h1 h2 => n_or rfl (by decide) (by decide) h1 h2) rfl ?_
    refine w_m0 (pc1 := 14) rfl rfl (h_sw (by decide)) rfl ?_
    refine w_p (pc1 := 80) rfl rfl ?_
    refine w_p (pc1 := 81) rfl rfl ?_
    refine w_m0 (pc1 := 84) rfl rfl (h_gC rfl rfl rfl rfl) rfl ?_
    refine w_m0 (pc1 := 87) (st1 := .int 0 :: _) rfl rfl (h_gIe (j := 7) rfl rfl rfl rfl rfl (hu)) rfl ?_
    refine w_f (a := 124) (b := 90) rfl rfl rfl ?_
    refine w_p (pc1 := 91) rfl rfl ?_
    refine w_m0 (pc1 := 94) rfl rfl (h_gC rfl rfl rfl rfl) rfl ?_
    refine w_m0 (pc1 := 97) (st1 := .ref 37 :: _) rfl rfl (h_gRs (j := 4) rfl rfl rfl rfl rfl (hn)) rfl ?_
    refine w_m0 (pc1 := 100) (st1 := .ref 37 :: _) rfl rfl rfl rfl ?_
    refine w_f (a := 120) (b := 103) rfl rfl rfl ?_
    refine w_p (pc1 := 104) rfl rfl ?_
    refine w_m0 (pc1 := 107) rfl rfl (h_gC rfl rfl rfl rfl) rfl ?_
    refine w_p (pc1 := 108) rfl rfl ?_
    refine w_m0 (pc1 := 111) rfl rfl (h_gC rfl rfl rfl rfl) rfl ?_
    refine w_m0 (pc1 := 114) (st1 := .int (nI (b)) :: _) rfl rfl (h_gIe (j := 5) rfl rfl rfl rfl rfl (h5)) rfl ?_
    refine w_je (pc1 := 117) (vs := [.ref 106, .int (nI (b))]) (rest := []) (st1 := [.int 0]) (w) rfl rfl rfl (fun _ _ => rfl) rfl (by exact cl_v my_102 rfl rfl rfl (Nat.le_of_ble_eq_true rfl) rfl (MH_obj rfl rfl) rfl (by decide) rfl rfl) (by rfl) (Nat.le_of_ble_eq_true rfl) (Nat.le_of_ble_eq_true rfl) rfl (by rfl) ?_
    refine w_t (a := 124) (b := 120) rfl rfl rfl ?_
    refine w_p (pc1 := 125) (st1 := .int 0 :: _) rfl rfl ?_
    refine w_r rfl rfl rfl (fun _ _ => rfl) rfl ?_
    exact ⟨rfl, rfl, rfl⟩
/-! carryOut: possible or not -/
set_option maxRecDepth 100000 in
theorem p_100 (w : Wd L xs d y_101 (0, [(0, .ref 100)], [], MH C t, 0) (Rt (some (.int 1)) (MH C t) 0) nX) (k : Wd L xs (d + 1) y_100 (17, [(0, .ref 100)], [], MH C t, sl) P X) : Wd L xs (d + 1) y_100 (0, [(0, .ref 100)], [], MH C t, sl) P X := by
  refine w_p (pc1 := 1) rfl rfl ?_
  refine w_je (pc1 := 4) (vs := [.ref 100]) (rest := []) (st1 := [.int 1]) (w) rfl rfl rfl (fun _ _ => rfl) rfl (by exact cl_v my_101 rfl rfl rfl (Nat.le_of_ble_eq_true rfl) rfl (MH_obj rfl rfl) rfl (by decide) rfl rfl) (by rfl) (Nat.le_of_ble_eq_true rfl) (Nat.le_of_ble_eq_true rfl) rfl (by rfl) ?_
  refine w_t (a := 17) (b := 7) rfl rfl rfl ?_
  exact k
set_option maxRecDepth 100000 in
theorem n_100 (w : Wd L xs d y_101 (0, [(0, .ref 100)], [], MH C t, 0) (Rt (some (.int 0)) (MH C t) 0) nX) (w2 : Wd L xs d y_97 (0, [(0, .ref 120)], [], MH C t, 0) Pc nX) (hP : ∀ v h q, Pc v h q → v = none ∧ P (some (.int (nI 7))) h (sl + q)) : Wd L xs (d + 1) y_100 (0, [(0, .ref 100)], [], MH C t, sl) P nX := by
  refine w_p (pc1 := 1) rfl rfl ?_
  refine w_je (pc1 := 4) (vs := [.ref 100]) (rest := []) (st1 := [.int 0]) (w) rfl rfl rfl (fun _ _ => rfl) rfl (by exact cl_v my_101 rfl rfl rfl (Nat.le_of_ble_eq_true rfl) rfl (MH_obj rfl rfl) rfl (by decide) rfl rfl) (by rfl) (Nat.le_of_ble_eq_true rfl) (Nat.le_of_ble_eq_true rfl) rfl (by rfl) ?_
  refine w_f (a := 17) (b := 7) rfl rfl rfl ?_
  refine w_p (pc1 := 8) rfl rfl ?_
  refine w_m0 (pc1 := 11) rfl rfl (h_gC rfl rfl rfl rfl) rfl ?_
  refine w_ji (pc1 := 14) (vs := [.ref 120]) (rest := []) (w2) rfl rfl rfl (fun _ _ => rfl) rfl (by exact cl_v my_97 rfl rfl rfl (Nat.le_of_ble_eq_true rfl) rfl (MH_obj rfl rfl) rfl (by decide) rfl rfl) (by rfl) (Nat.le_of_ble_eq_true rfl) (Nat.le_of_ble_eq_true rfl) rfl (fun v h q hq => ?_) (fun _ _ _ e => e.elim)
  obtain ⟨rfl, hq2⟩ := hP _ _ _ hq
  refine w_p (pc1 := 16) (st1 := .int 7 :: _) rfl rfl ?_
  refine w_r rfl rfl rfl (fun _ _ => rfl) cr_int ?_
  exact hq2
set_option maxRecDepth 100000 in
theorem c_100_37 (hv : C.2.2 20 3 = some 37) (hP : P (some (.int (nI 0))) (MH C t) sl) : Wd L xs (d + 1) y_100 (17, [(0, .ref 100)], [], MH C t, sl) P nX := by
  refine w_m0 (pc1 := 20) (st1 := .ref 61 :: _) rfl rfl rfl rfl ?_
  refine w_p (pc1 := 21) rfl rfl ?_
  refine w_m0 (pc1 := 24) rfl rfl (h_gC rfl rfl rfl rfl) rfl ?_
  refine w_m0 (pc1 := 27) (st1 := .ref 37 :: _) rfl rfl (h_gRs (j := 3) rfl rfl rfl rfl rfl (hv)) rfl ?_
  refine w_c (pc1 := 30) rfl rfl rfl (fun fr lo h1 h2 => n_or rfl (by decide) (by decide) h1 h2) rfl ?_
  refine w_m0 (pc1 := 31) rfl rfl (h_sw (by decide)) rfl ?_
  refine w_p (pc1 := 308) rfl rfl ?_
  refine w_p (pc1 := 309) (st1 := .int 0 :: _) rfl rfl ?_
  refine w_r rfl rfl rfl (fun _ _ => rfl) cr_int ?_
  exact hP
set_option maxRecDepth 100000 in
theorem c_100_39 (hv : C.2.2 20 3 = some 39) (h5 : C.1 20 5 = nI b) (h9 : C.2.2 20 9 = some (241 + k)) (w : Wd L xs d y_103 (0, [(0, .ref 106), (1, .int (nI b)), (2, .ref (241 + k))], [], MH C t, 0) Pc nX) (hP : ∀ v h q, Pc v h q → v = none ∧ P (some (.int (nI 0))) h (sl + q)) : Wd L xs (d + 1) y_100 (17, [(0, .ref 100)], [], MH C t, sl) P nX := by
  refine w_m0 (pc1 := 20) (st1 := .ref 61 :: _) rfl rfl rfl rfl ?_
  refine w_p (pc1 := 21) rfl rfl ?_
  refine w_m0 (pc1 := 24) rfl rfl (h_gC rfl rfl rfl rfl) rfl ?_
  refine w_m0 (pc1 := 27) (st1 := .ref 39 :: _) rfl rfl (h_gRs (j := 3) rfl rfl rfl rfl rfl (hv)) rfl ?_
  refine w_c (pc1 := 30) rfl rfl rfl (fun fr lo h1 h2 => n_or rfl (by decide) (by decide) h1 h2) rfl ?_
  refine w_m0 (pc1 := 31) rfl rfl (h_sw (by decide)) rfl ?_
  refine w_p (pc1 := 88) rfl rfl ?_
  refine w_p (pc1 := 89) rfl rfl ?_
  refine w_m0 (pc1 := 92) rfl rfl (h_gC rfl rfl rfl rfl) rfl ?_
  refine w_p (pc1 := 93) rfl rfl ?_
  refine w_m0 (pc1 := 96) rfl rfl (h_gC rfl rfl rfl rfl) rfl ?_
  refine w_m0 (pc1 := 99) (st1 := .int (nI (b)) :: _) rfl rfl (h_gIe (j := 5) rfl rfl rfl rfl rfl (h5)) rfl ?_
  refine w_p (pc1 := 100) rfl rfl ?_
  refine w_m0 (pc1 := 103) rfl rfl (h_gC rfl rfl rfl rfl) rfl ?_
  refine w_m0 (pc1 := 106) (st1 := .ref (241 + k) :: _) rfl rfl (h_gRs (j := 9) rfl rfl rfl rfl rfl (h9)) rfl ?_
  refine w_ji (pc1 := 109) (vs := [.ref 106, .int (nI (b)), .ref (241 + k)]) (rest := []) (w) rfl rfl rfl (fun _ _ => rfl) rfl (by exact cl_v my_103 rfl rfl rfl (Nat.le_of_ble_eq_true rfl) rfl (MH_obj rfl rfl) rfl (by decide) rfl rfl) (by rfl) (Nat.le_of_ble_eq_true rfl) (Nat.le_of_ble_eq_true rfl) rfl (fun v h q hq => ?_) (fun _ _ _ e => e.elim)
  obtain ⟨rfl, hq2⟩ := hP _ _ _ hq
  refine w_p (pc1 := 110) (st1 := .int 0 :: _) rfl rfl ?_
  refine w_r rfl rfl rfl (fun _ _ => rfl) cr_int ?_
  exact hq2
set_option maxRecDepth 100000 in
theorem c_100_17t (hv : C.2.2 20 3 = some 17) (hn : C.2.2 20 4 = some 37) (h5 : C.1 20 5 = nI b) (w : Wd L xs d y_98 (0, [(0, .ref 106), (1, .int (nI b))], [], MH C t, 0) Pc nX) (hP : ∀ v h q, Pc v h q → v = none ∧ P (some (.int (nI 0))) h (sl + q)) : Wd L xs (d + 1) y_100 (17, [(0, .ref 100)], [], MH C t, sl) P nX := by
  refine w_m0 (pc1 := 20) (st1 := .ref 61 :: _) rfl rfl rfl rfl ?_
  refine w_p (pc1 := 21) rfl rfl ?_
  refine w_m0 (pc1 := 24) rfl rfl (h_gC rfl rfl rfl rfl) rfl ?_
  refine w_m0 (pc1 := 27) (st1 := .ref 17 :: _) rfl rfl (h_gRs (j := 3) rfl rfl rfl rfl rfl (hv)) rfl ?_
  refine w_c (pc1 := 30) rfl rfl rfl (fun fr lo h1 h2 => n_or rfl (by decide) (by decide) h1 h2) rfl ?_
  refine w_m0 (pc1 := 31) rfl rfl (h_sw (by decide)) rfl ?_
  refine w_p (pc1 := 111) rfl rfl ?_
  refine w_p (pc1 := 112) rfl rfl ?_
  refine w_m0 (pc1 := 115) rfl rfl (h_gC rfl rfl rfl rfl) rfl ?_
  refine w_m0 (pc1 := 118) (st1 := .ref 37 :: _) rfl rfl (h_gRs (j := 4) rfl rfl rfl rfl rfl (hn)) rfl ?_
  refine w_m0 (pc1 := 121) (st1 := .ref 37 :: _) rfl rfl rfl rfl ?_
  refine w_f (a := 141) (b := 124) rfl rfl rfl ?_
  refine w_p (pc1 := 125) rfl rfl ?_
  refine w_m0 (pc1 := 128) rfl rfl (h_gC rfl rfl rfl rfl) rfl ?_
  refine w_p (pc1 := 129) rfl rfl ?_
  refine w_m0 (pc1 := 132) rfl rfl (h_gC rfl rfl rfl rfl) rfl ?_
  refine w_m0 (pc1 := 135) (st1 := .int (nI (b)) :: _) rfl rfl (h_gIe (j := 5) rfl rfl rfl rfl rfl (h5)) rfl ?_
  refine w_ji (pc1 := 138) (vs := [.ref 106, .int (nI (b))]) (rest := []) (w) rfl rfl rfl (fun _ _ => rfl) rfl (by exact cl_v my_98 rfl rfl rfl (Nat.le_of_ble_eq_true rfl) rfl (MH_obj rfl rfl) rfl (by decide) rfl rfl) (by rfl) (Nat.le_of_ble_eq_true rfl) (Nat.le_of_ble_eq_true rfl) rfl (fun v h q hq => ?_) (fun _ _ _ e => e.elim)
  obtain ⟨rfl, hq2⟩ := hP _ _ _ hq
  refine w_p (pc1 := 155) rfl rfl ?_
  refine w_p (pc1 := 156) (st1 := .int 0 :: _) rfl rfl ?_
  refine w_r rfl rfl rfl (fun _ _ => rfl) cr_int ?_
  exact hq2
set_option maxRecDepth 100000 in
theorem c_100_17g (hv : C.2.2 20 3 = some 17) (hn : C.2.2 20 4 = some 39) (h5 : C.1 20 5 = nI b) (w : Wd L xs d y_104 (0, [(0, .ref 106), (1, .int (nI b))], [], MH C t, 0) Pc nX) (hP : ∀ v h q, Pc v h q → v = none ∧ P (some (.int (nI 0))) h (sl + q)) : Wd L xs (d + 1) y_100 (17, [(0, .ref 100)], [], MH C t, sl) P nX := by
  refine w_m0 (pc1 := 20) (st1 := .ref 61 :: _) rfl rfl rfl rfl ?_
  refine w_p (pc1 := 21) rfl rfl ?_
  refine w_m0 (pc1 := 24) rfl rfl (h_gC rfl rfl rfl rfl) rfl ?_
  refine w_m0 (pc1 := 27) (st1 := .ref 17 :: _) rfl rfl (h_gRs (j := 3) rfl rfl rfl rfl rfl (hv)) rfl ?_
  refine w_c (pc1 := 30) rfl rfl rfl (fun fr lo h1 h2 => n_or rfl (by decide) (by decide) h1 h2) rfl ?_
  refine w_m0 (pc1 := 31) rfl rfl (h_sw (by decide)) rfl ?_
  refine w_p (pc1 := 111) rfl rfl ?_
  refine w_p (pc1 := 112) rfl rfl ?_
  refine w_m0 (pc1 := 115) rfl rfl (h_gC rfl rfl rfl rfl) rfl ?_
  refine w_m0 (pc1 := 118) (st1 := .ref 39 :: _) rfl rfl (h_gRs (j := 4) rfl rfl rfl rfl rfl (hn)) rfl ?_
  refine w_m0 (pc1 := 121) (st1 := .ref 37 :: _) rfl rfl rfl rfl ?_
  refine w_t (a := 141) (b := 124) rfl rfl rfl ?_
  refine w_p (pc1 := 142) rfl rfl ?_
  refine w_m0 (pc1 := 145) rfl rfl (h_gC rfl rfl rfl rfl) rfl ?_
  refine w_p (pc1 := 146) rfl rfl ?_
  refine w_m0 (pc1 := 149) rfl rfl (h_gC rfl rfl rfl rfl) rfl ?_
  refine w_m0 (pc1 := 152) (st1 := .int (nI (b)) :: _) rfl rfl (h_gIe (j := 5) rfl rfl rfl rfl rfl (h5)) rfl ?_
  refine w_ji (pc1 := 155) (vs := [.ref 106, .int (nI (b))]) (rest := []) (w) rfl rfl rfl (fun _ _ => rfl) rfl (by exact cl_v my_104 rfl rfl rfl (Nat.le_of_ble_eq_true rfl) rfl (MH_obj rfl rfl) rfl (by decide) rfl rfl) (by rfl) (Nat.le_of_ble_eq_true rfl) (Nat.le_of_ble_eq_true rfl) rfl (fun v h q hq => ?_) (fun _ _ _ e => e.elim)
  obtain ⟨rfl, hq2⟩ := hP _ _ _ hq
  refine w_p (pc1 := 156) (st1 := .int 0 :: _) rfl rfl ?_
  refine w_r rfl rfl rfl (fun _ _ => rfl) cr_int ?_
  exact hq2
set_option maxRecDepth 100000 in
theorem c_100_18 (hv : C.2.2 20 3 = some 18) (h8 : C.2.2 20 8 = some (241 + k)) (w : Wd L xs d y_105 (0, [(0, .ref 124), (1, .ref (241 + k))], [], MH C t, 0) Pc nX) (hP : ∀ v h q, Pc v h q → ∃ x, some (.int x) = v ∧ P v h (sl + q)) : Wd L xs (d + 1) y_100 (17, [(0, .ref 100)], [], MH C t, sl) P nX := by
  refine w_m0 (pc1 := 20) (st1 := .ref 61 :: _) rfl rfl rfl rfl ?_
  refine w_p (pc1 := 21) rfl rfl ?_
  refine w_m0 (pc1 := 24) rfl rfl (h_gC rfl rfl rfl rfl) rfl ?_
  refine w_m0 (pc1 := 27) (st1 := .ref 18 :: _) rfl rfl (h_gRs (j := 3) rfl rfl rfl rfl rfl (hv)) rfl ?_
  refine w_c (pc1 := 30) rfl rfl rfl (fun fr lo h1 h2 => n_or rfl (by decide) (by decide) h1 h2) rfl ?_
  refine w_m0 (pc1 := 31) rfl rfl (h_sw (by decide)) rfl ?_
  refine w_p (pc1 := 157) rfl rfl ?_
  refine w_p (pc1 := 158) rfl rfl ?_
  refine w_m0 (pc1 := 161) rfl rfl (h_gC rfl rfl rfl rfl) rfl ?_
  refine w_p (pc1 := 162) rfl rfl ?_
  refine w_m0 (pc1 := 165) rfl rfl (h_gC rfl rfl rfl rfl) rfl ?_
  refine w_m0 (pc1 := 168) (st1 := .ref (241 + k) :: _) rfl rfl (h_gRs (j := 8) rfl rfl rfl rfl rfl (h8)) rfl ?_
  refine w_ji (pc1 := 171) (vs := [.ref 124, .ref (241 + k)]) (rest := []) (w) rfl rfl rfl (fun _ _ => rfl) rfl (by exact cl_v my_105 rfl rfl rfl (Nat.le_of_ble_eq_true rfl) rfl (MH_obj rfl rfl) rfl (by decide) rfl rfl) (by rfl) (Nat.le_of_ble_eq_true rfl) (Nat.le_of_ble_eq_true rfl) rfl (fun v h q hq => ?_) (fun _ _ _ e => e.elim)
  obtain ⟨x, rfl, hq2⟩ := hP _ _ _ hq
  refine w_r rfl rfl rfl (fun _ _ => rfl) cr_int ?_
  exact hq2
set_option maxRecDepth 100000 in
theorem c_100_41 (hv : C.2.2 20 3 = some 41) (h8 : C.2.2 20 8 = some (241 + k)) (w : Wd L xs d y_105 (0, [(0, .ref 124), (1, .ref (241 + k))], [], MH C t, 0) Pc nX) (hP : ∀ v h q, Pc v h q → ∃ x, some (.int x) = v ∧ P v h (sl + q)) : Wd L xs (d + 1) y_100 (17, [(0, .ref 100)], [], MH C t, sl) P nX := by
  refine w_m0 (pc1 := 20) (st1 := .ref 61 :: _) rfl rfl rfl rfl ?_
  refine w_p (pc1 := 21) rfl rfl ?_
  refine w_m0 (pc1 := 24) rfl rfl (h_gC rfl rfl rfl rfl) rfl ?_
  refine w_m0 (pc1 := 27) (st1 := .ref 41 :: _) rfl rfl (h_gRs (j := 3) rfl rfl rfl rfl rfl (hv)) rfl ?_
  refine w_c (pc1 := 30) rfl rfl rfl (fun fr lo h1 h2 => n_or rfl (by decide) (by decide) h1 h2) rfl ?_
  refine w_m0 (pc1 := 31) rfl rfl (h_sw (by decide)) rfl ?_
  refine w_p (pc1 := 157) rfl rfl ?_
  refine w_p (pc1 := 158) rfl rfl ?_
  refine w_m0 (pc1 := 161) rfl rfl (h_gC rfl rfl rfl rfl) rfl ?_
  refine w_p (pc1 := 162) rfl rfl ?_
  refine w_m0 (pc1 := 165) rfl rfl (h_gC rfl rfl rfl rfl) rfl ?_
  refine w_m0 (pc1 := 168) (st1 := .ref (241 + k) :: _) rfl rfl (h_gRs (j := 8) rfl rfl rfl rfl rfl (h8)) rfl ?_
  refine w_ji (pc1 := 171) (vs := [.ref 124, .ref (241 + k)]) (rest := []) (w) rfl rfl rfl (fun _ _ => rfl) rfl (by exact cl_v my_105 rfl rfl rfl (Nat.le_of_ble_eq_true rfl) rfl (MH_obj rfl rfl) rfl (by decide) rfl rfl) (by rfl) (Nat.le_of_ble_eq_true rfl) (Nat.le_of_ble_eq_true rfl) rfl (fun v h q hq => ?_) (fun _ _ _ e => e.elim)
  obtain ⟨x, rfl, hq2⟩ := hP _ _ _ hq
  refine w_r rfl rfl rfl (fun _ _ => rfl) cr_int ?_
  exact hq2
set_option maxRecDepth 100000 in
theorem c_100_15 (hv : C.2.2 20 3 = some 15) (h8 : C.2.2 20 8 = some (241 + k)) (w : Wd L xs d y_105 (0, [(0, .ref 124), (1, .ref (241 + k))], [], MH C t, 0) Pc nX) (hP : ∀ v h q, Pc v h q → ∃ x, some (.int x) = v ∧ P v h (sl + q)) : Wd L xs (d + 1) y_100 (17, [(0, .ref 100)], [], MH C t, sl) P nX := by
  refine w_m0 (pc1 := 20) (st1 := .ref 61 :: _) rfl rfl rfl rfl ?_
  refine w_p (pc1 := 21) rfl rfl ?_
  refine w_m0 (pc1 := 24) rfl rfl (h_gC rfl rfl rfl rfl) rfl ?_
  refine w_m0 (pc1 := 27) (st1 := .ref 15 :: _) rfl rfl (h_gRs (j := 3) rfl rfl rfl rfl rfl (hv)) rfl ?_
  refine w_c (pc1 := 30) rfl rfl rfl (fun fr lo h1 h2 => n_or rfl (by decide) (by decide) h1 h2) rfl ?_
  refine w_m0 (pc1 := 31) rfl rfl (h_sw (by decide)) rfl ?_
  refine w_p (pc1 := 157) rfl rfl ?_
  refine w_p (pc1 := 158) rfl rfl ?_
  refine w_m0 (pc1 := 161) rfl rfl (h_gC rfl rfl rfl rfl) rfl ?_
  refine w_p (pc1 := 162) rfl rfl ?_
  refine w_m0 (pc1 := 165) rfl rfl (h_gC rfl rfl rfl rfl) rfl ?_
  refine w_m0 (pc1 := 168) (st1 := .ref (241 + k) :: _) rfl rfl (h_gRs (j := 8) rfl rfl rfl rfl rfl (h8)) rfl ?_
  refine w_ji (pc1 := 171) (vs := [.ref 124, .ref (241 + k)]) (rest := []) (w) rfl rfl rfl (fun _ _ => rfl) rfl (by exact cl_v my_105 rfl rfl rfl (Nat.le_of_ble_eq_true rfl) rfl (MH_obj rfl rfl) rfl (by decide) rfl rfl) (by rfl) (Nat.le_of_ble_eq_true rfl) (Nat.le_of_ble_eq_true rfl) rfl (fun v h q hq => ?_) (fun _ _ _ e => e.elim)
  obtain ⟨x, rfl, hq2⟩ := hP _ _ _ hq
  refine w_r rfl rfl rfl (fun _ _ => rfl) cr_int ?_
  exact hq2
set_option maxRecDepth 100000 in
theorem c_100_10 (hv : C.2.2 20 3 = some 10) (w : Wd L xs d y_149 (0, [(0, .ref 106)], [], MH C t, 0) Pc nX) (hP : ∀ v h q, Pc v h q → v = none ∧ P (some (.int (nI 0))) h (sl + q)) : Wd L xs (d + 1) y_100 (17, [(0, .ref 100)], [], MH C t, sl) P nX := by
  refine w_m0 (pc1 := 20) (st1 := .ref 61 :: _) rfl rfl rfl rfl ?_
  refine w_p (pc1 := 21) rfl rfl ?_
  refine w_m0 (pc1 := 24) rfl rfl (h_gC rfl rfl rfl rfl) rfl ?_
  refine w_m0 (pc1 := 27) (st1 := .ref 10 :: _) rfl rfl (h_gRs (j := 3) rfl rfl rfl rfl rfl (hv)) rfl ?_
  refine w_c (pc1 := 30) rfl rfl rfl (fun fr lo h1 h2 => n_or rfl (by decide) (by decide) h1 h2) rfl ?_
  refine w_m0 (pc1 := 31) rfl rfl (h_sw (by decide)) rfl ?_
  refine w_p (pc1 := 172) rfl rfl ?_
  refine w_p (pc1 := 173) rfl rfl ?_
  refine w_m0 (pc1 := 176) rfl rfl (h_gC rfl rfl rfl rfl) rfl ?_
  refine w_ji (pc1 := 179) (vs := [.ref 106]) (rest := []) (w) rfl rfl rfl (fun _ _ => rfl) rfl (by exact cl_v my_149 rfl rfl rfl (Nat.le_of_ble_eq_true rfl) rfl (MH_obj rfl rfl) rfl (by decide) rfl rfl) (by rfl) (Nat.le_of_ble_eq_true rfl) (Nat.le_of_ble_eq_true rfl) rfl (fun v h q hq => ?_) (fun _ _ _ e => e.elim)
  obtain ⟨rfl, hq2⟩ := hP _ _ _ hq
  refine w_p (pc1 := 180) (st1 := .int 0 :: _) rfl rfl ?_
  refine w_r rfl rfl rfl (fun _ _ => rfl) cr_int ?_
  exact hq2
set_option maxRecDepth 100000 in
theorem c_100_8n (hv : C.2.2 20 3 = some 8) (h5 : C.1 20 5 = -1) (w : Wd L xs d y_154 (0, [(0, .ref 106)], [], MH C t, 0) Pc nX) (hP : ∀ v h q, Pc v h q → v = none ∧ P (some (.int (nI 0))) h (sl + q)) : Wd L xs (d + 1) y_100 (17, [(0, .ref 100)], [], MH C t, sl) P nX := by
  refine w_m0 (pc1 := 20) (st1 := .ref 61 :: _) rfl rfl rfl rfl ?_
  refine w_p (pc1 := 21) rfl rfl ?_
  refine w_m0 (pc1 := 24) rfl rfl (h_gC rfl rfl rfl rfl) rfl ?_
  refine w_m0 (pc1 := 27) (st1 := .ref 8 :: _) rfl rfl (h_gRs (j := 3) rfl rfl rfl rfl rfl (hv)) rfl ?_
  refine w_c (pc1 := 30) rfl rfl rfl (fun fr lo h1 h2 => n_or rfl (by decide) (by decide) h1 h2) rfl ?_
  refine w_m0 (pc1 := 31) rfl rfl (h_sw (by decide)) rfl ?_
  refine w_p (pc1 := 197) rfl rfl ?_
  refine w_p (pc1 := 198) rfl rfl ?_
  refine w_m0 (pc1 := 201) rfl rfl (h_gC rfl rfl rfl rfl) rfl ?_
  refine w_m0 (pc1 := 204) (st1 := .int (-1) :: _) rfl rfl (h_gIe (j := 5) rfl rfl rfl rfl rfl (h5)) rfl ?_
  refine w_p (pc1 := 205) (st1 := .int (-1) :: _) rfl rfl ?_
  refine w_f (a := 218) (b := 208) rfl rfl rfl ?_
  refine w_p (pc1 := 209) rfl rfl ?_
  refine w_m0 (pc1 := 212) rfl rfl (h_gC rfl rfl rfl rfl) rfl ?_
  refine w_ji (pc1 := 215) (vs := [.ref 106]) (rest := []) (w) rfl rfl rfl (fun _ _ => rfl) rfl (by exact cl_v my_154 rfl rfl rfl (Nat.le_of_ble_eq_true rfl) rfl (MH_obj rfl rfl) rfl (by decide) rfl rfl) (by rfl) (Nat.le_of_ble_eq_true rfl) (Nat.le_of_ble_eq_true rfl) rfl (fun v h q hq => ?_) (fun _ _ _ e => e.elim)
  obtain ⟨rfl, hq2⟩ := hP _ _ _ hq
  refine w_p (pc1 := 232) rfl rfl ?_
  refine w_p (pc1 := 233) (st1 := .int 0 :: _) rfl rfl ?_
  refine w_r rfl rfl rfl (fun _ _ => rfl) cr_int ?_
  exact hq2
set_option maxRecDepth 100000 in
theorem c_100_8m (hv : C.2.2 20 3 = some 8) (h5 : C.1 20 5 = nI b) (hb : b < 6) (w : Wd L xs d y_155 (0, [(0, .ref 106), (1, .int (nI b))], [], MH C t, 0) Pc nX) (hP : ∀ v h q, Pc v h q → v = none ∧ P (some (.int (nI 0))) h (sl + q)) : Wd L xs (d + 1) y_100 (17, [(0, .ref 100)], [], MH C t, sl) P nX := by
  refine w_m0 (pc1 := 20) (st1 := .ref 61 :: _) rfl rfl rfl rfl ?_
  refine w_p (pc1 := 21) rfl rfl ?_
  refine w_m0 (pc1 := 24) rfl rfl (h_gC rfl rfl rfl rfl) rfl ?_
  refine w_m0 (pc1 := 27) (st1 := .ref 8 :: _) rfl rfl (h_gRs (j := 3) rfl rfl rfl rfl rfl (hv)) rfl ?_
  refine w_c (pc1 := 30) rfl rfl rfl (fun fr lo h1 h2 => n_or rfl (by decide) (by decide) h1 h2) rfl ?_
  refine w_m0 (pc1 := 31) rfl rfl (h_sw (by decide)) rfl ?_
  refine w_p (pc1 := 197) rfl rfl ?_
  refine w_p (pc1 := 198) rfl rfl ?_
  refine w_m0 (pc1 := 201) rfl rfl (h_gC rfl rfl rfl rfl) rfl ?_
  refine w_m0 (pc1 := 204) (st1 := .int (nI b) :: _) rfl rfl (h_gIe (j := 5) rfl rfl rfl rfl rfl (h5)) rfl ?_
  refine w_p (pc1 := 205) (st1 := .int (-1) :: _) rfl rfl ?_
  refine w_t (a := 218) (b := 208) (cb_ne_t (by exact nK_m1 (by omega))) rfl rfl ?_
  refine w_p (pc1 := 219) rfl rfl ?_
  refine w_m0 (pc1 := 222) rfl rfl (h_gC rfl rfl rfl rfl) rfl ?_
  refine w_p (pc1 := 223) rfl rfl ?_
  refine w_m0 (pc1 := 226) rfl rfl (h_gC rfl rfl rfl rfl) rfl ?_
  refine w_m0 (pc1 := 229) (st1 := .int (nI (b)) :: _) rfl rfl (h_gIe (j := 5) rfl rfl rfl rfl rfl (h5)) rfl ?_
  refine w_ji (pc1 := 232) (vs := [.ref 106, .int (nI (b))]) (rest := []) (w) rfl rfl rfl (fun _ _ => rfl) rfl (by exact cl_v my_155 rfl rfl rfl (Nat.le_of_ble_eq_true rfl) rfl (MH_obj rfl rfl) rfl (by decide) rfl rfl) (by rfl) (Nat.le_of_ble_eq_true rfl) (Nat.le_of_ble_eq_true rfl) rfl (fun v h q hq => ?_) (fun _ _ _ e => e.elim)
  obtain ⟨rfl, hq2⟩ := hP _ _ _ hq
  refine w_p (pc1 := 233) (st1 := .int 0 :: _) rfl rfl ?_
  refine w_r rfl rfl rfl (fun _ _ => rfl) cr_int ?_
  exact hq2
set_option maxRecDepth 100000 in
theorem c_100_22 {nv : Int64} (hv : C.2.2 20 3 = some 22) (h6 : C.2.1 20 6 = nv) (w : Wd L xs d y_156 (0, [(0, .ref 106), (1, .long nv)], [], MH C t, 0) Pc nX) (hP : ∀ v h q, Pc v h q → v = none ∧ P (some (.int (nI 0))) h (sl + q)) : Wd L xs (d + 1) y_100 (17, [(0, .ref 100)], [], MH C t, sl) P nX := by
  refine w_m0 (pc1 := 20) (st1 := .ref 61 :: _) rfl rfl rfl rfl ?_
  refine w_p (pc1 := 21) rfl rfl ?_
  refine w_m0 (pc1 := 24) rfl rfl (h_gC rfl rfl rfl rfl) rfl ?_
  refine w_m0 (pc1 := 27) (st1 := .ref 22 :: _) rfl rfl (h_gRs (j := 3) rfl rfl rfl rfl rfl (hv)) rfl ?_
  refine w_c (pc1 := 30) rfl rfl rfl (fun fr lo h1 h2 => n_or rfl (by decide) (by decide) h1 h2) rfl ?_
  refine w_m0 (pc1 := 31) rfl rfl (h_sw (by decide)) rfl ?_
  refine w_p (pc1 := 234) rfl rfl ?_
  refine w_p (pc1 := 235) rfl rfl ?_
  refine w_m0 (pc1 := 238) rfl rfl (h_gC rfl rfl rfl rfl) rfl ?_
  refine w_p (pc1 := 239) rfl rfl ?_
  refine w_m0 (pc1 := 242) rfl rfl (h_gC rfl rfl rfl rfl) rfl ?_
  refine w_m0 (pc1 := 245) (st1 := .long (nv) :: _) rfl rfl (h_gJe (j := 6) rfl rfl rfl rfl rfl (h6)) rfl ?_
  refine w_ji (pc1 := 248) (vs := [.ref 106, .long (nv)]) (rest := []) (w) rfl rfl rfl (fun _ _ => rfl) rfl (by exact cl_v my_156 rfl rfl rfl (Nat.le_of_ble_eq_true rfl) rfl (MH_obj rfl rfl) rfl (by decide) rfl rfl) (by rfl) (Nat.le_of_ble_eq_true rfl) (Nat.le_of_ble_eq_true rfl) rfl (fun v h q hq => ?_) (fun _ _ _ e => e.elim)
  obtain ⟨rfl, hq2⟩ := hP _ _ _ hq
  refine w_p (pc1 := 249) (st1 := .int 0 :: _) rfl rfl ?_
  refine w_r rfl rfl rfl (fun _ _ => rfl) cr_int ?_
  exact hq2
end CRY
