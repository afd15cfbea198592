
/-! ONE SIDE: how many -/
section CNT
variable {L : Nat} {xs : Nat → Int32} {B : Nat → Nat} {n m : Nat} {C C' C0 C1 : co_T} {t t0 t1 : ab_H} {d sl sl0 sl1 i i0 i1 j b e ti k k0 kc ks w c : Nat} {sc : sc_T} {row : Option Nat} {tg : Option (Nat × Nat)} {nl : Option Nat} {kd0 tb0 : Int32} {P : Option Value → ab_H → Nat → Prop} {X : Nat → ab_H → Nat → Prop} {cs : List Nat} {ss : List (Option (List op_T))} {E : fe_T} {tr : Nat → Option tr_T} {x : Int32} {u : Bool}
set_option maxRecDepth 100000 in
theorem m_168_0 (w : Wd L xs d y_169 (0, [(0, .ref 106)], [], MH C t, 0) (Rt (some (.int x)) (MH C t) 0) nX) : Wd L xs (d + 1) y_168 (0, [(0, .ref 100), (1, .int 0)], [], MH C t, sl) (Rt (some (.int x)) (MH C t) sl) nX := by
  refine w_p (pc1 := 1) rfl rfl ?_
  refine w_p (pc1 := 44) rfl rfl ?_
  refine w_p (pc1 := 45) rfl rfl ?_
  refine w_m0 (pc1 := 48) rfl rfl (h_gC rfl rfl rfl rfl) rfl ?_
  refine w_je (pc1 := 51) (vs := [.ref 106]) (rest := []) (st1 := [.int (x)]) (w) rfl rfl rfl (fun _ _ => rfl) rfl (by exact cl_v my_169 rfl rfl rfl (Nat.le_of_ble_eq_true rfl) rfl (MH_obj rfl rfl) rfl (by decide) rfl rfl) (by rfl) (Nat.le_of_ble_eq_true rfl) (Nat.le_of_ble_eq_true rfl) rfl (by rfl) ?_
  refine w_r rfl rfl rfl (fun _ _ => rfl) cr_int ?_
  exact ⟨rfl, rfl, rfl⟩
set_option maxRecDepth 100000 in
theorem m_168_1 (w : Wd L xs d y_170 (0, [(0, .ref 106)], [], MH C t, 0) (Rt (some (.int x)) (MH C t) 0) nX) : Wd L xs (d + 1) y_168 (0, [(0, .ref 100), (1, .int 1)], [], MH C t, sl) (Rt (some (.int x)) (MH C t) sl) nX := by
  refine w_p (pc1 := 1) rfl rfl ?_
  refine w_p (pc1 := 52) rfl rfl ?_
  refine w_p (pc1 := 53) rfl rfl ?_
  refine w_m0 (pc1 := 56) rfl rfl (h_gC rfl rfl rfl rfl) rfl ?_
  refine w_je (pc1 := 59) (vs := [.ref 106]) (rest := []) (st1 := [.int (x)]) (w) rfl rfl rfl (fun _ _ => rfl) rfl (by exact cl_v my_170 rfl rfl rfl (Nat.le_of_ble_eq_true rfl) rfl (MH_obj rfl rfl) rfl (by decide) rfl rfl) (by rfl) (Nat.le_of_ble_eq_true rfl) (Nat.le_of_ble_eq_true rfl) rfl (by rfl) ?_
  refine w_r rfl rfl rfl (fun _ _ => rfl) cr_int ?_
  exact ⟨rfl, rfl, rfl⟩
set_option maxRecDepth 100000 in
theorem m_168_2 (w : Wd L xs d y_171 (0, [(0, .ref 106)], [], MH C t, 0) (Rt (some (.int x)) (MH C t) 0) nX) : Wd L xs (d + 1) y_168 (0, [(0, .ref 100), (1, .int 2)], [], MH C t, sl) (Rt (some (.int x)) (MH C t) sl) nX := by
  refine w_p (pc1 := 1) rfl rfl ?_
  refine w_p (pc1 := 60) rfl rfl ?_
  refine w_p (pc1 := 61) rfl rfl ?_
  refine w_m0 (pc1 := 64) rfl rfl (h_gC rfl rfl rfl rfl) rfl ?_
  refine w_je (pc1 := 67) (vs := [.ref 106]) (rest := []) (st1 := [.int (x)]) (w) rfl rfl rfl (fun _ _ => rfl) rfl (by exact cl_v my_171 rfl rfl rfl (Nat.le_of_ble_eq_true rfl) rfl (MH_obj rfl rfl) rfl (by decide) rfl rfl) (by rfl) (Nat.le_of_ble_eq_true rfl) (Nat.le_of_ble_eq_true rfl) rfl (by rfl) ?_
  refine w_r rfl rfl rfl (fun _ _ => rfl) cr_int ?_
  exact ⟨rfl, rfl, rfl⟩
set_option maxRecDepth 100000 in
theorem m_168_4 (w : Wd L xs d y_23 (0, [(0, .ref 106)], [], MH C t, 0) (Rt (some (.int x)) (MH C t) 0) nX) : Wd L xs (d + 1) y_168 (0, [(0, .ref 100), (1, .int 4)], [], MH C t, sl) (Rt (some (.int x)) (MH C t) sl) nX := by
  refine w_p (pc1 := 1) rfl rfl ?_
  refine w_p (pc1 := 76) rfl rfl ?_
  refine w_p (pc1 := 77) rfl rfl ?_
  refine w_m0 (pc1 := 80) rfl rfl (h_gC rfl rfl rfl rfl) rfl ?_
  refine w_je (pc1 := 83) (vs := [.ref 106]) (rest := []) (st1 := [.int (x)]) (w) rfl rfl rfl (fun _ _ => rfl) rfl (by exact cl_v my_23 rfl rfl rfl (Nat.le_of_ble_eq_true rfl) rfl (MH_obj rfl rfl) rfl (by decide) rfl rfl) (by rfl) (Nat.le_of_ble_eq_true rfl) (Nat.le_of_ble_eq_true rfl) rfl (by rfl) ?_
  refine w_r rfl rfl rfl (fun _ _ => rfl) cr_int ?_
  exact ⟨rfl, rfl, rfl⟩
set_option maxRecDepth 100000 in
theorem m_168_3 (h : C.1 6 12 = x) : Wd L xs d y_168 (0, [(0, .ref 100), (1, .int 3)], [], MH C t, sl) (Rt (some (.int x)) (MH C t) sl) nX := by
  refine w_p (pc1 := 1) rfl rfl ?_
  refine w_p (pc1 := 68) rfl rfl ?_
  refine w_p (pc1 := 69) rfl rfl ?_
  refine w_m0 (pc1 := 72) rfl rfl (h_gC rfl rfl rfl rfl) rfl ?_
  refine w_m0 (pc1 := 75) (st1 := .int (x) :: _) rfl rfl (h_gIe (j := 12) rfl rfl rfl rfl rfl (h)) rfl ?_
  refine w_r rfl rfl rfl (fun _ _ => rfl) cr_int ?_
  exact ⟨rfl, rfl, rfl⟩
set_option maxRecDepth 100000 in
theorem m_168_6 (h : C.1 1 4 = x) : Wd L xs d y_168 (0, [(0, .ref 100), (1, .int 6)], [], MH C t, sl) (Rt (some (.int x)) (MH C t) sl) nX := by
  refine w_p (pc1 := 1) rfl rfl ?_
  refine w_p (pc1 := 100) rfl rfl ?_
  refine w_p (pc1 := 101) rfl rfl ?_
  refine w_m0 (pc1 := 104) rfl rfl (h_gC rfl rfl rfl rfl) rfl ?_
  refine w_m0 (pc1 := 107) (st1 := .int (x) :: _) rfl rfl (h_gIe (j := 4) rfl rfl rfl rfl rfl (h)) rfl ?_
  refine w_r rfl rfl rfl (fun _ _ => rfl) cr_int ?_
  exact ⟨rfl, rfl, rfl⟩
set_option maxRecDepth 100000 in
theorem m_168_5 (h : C.1 6 7 = ck u) : Wd L xs d y_168 (0, [(0, .ref 100), (1, .int 5)], [], MH C t, sl) (Rt (some (.int (ck u))) (MH C t) sl) nX := by
  cases u with
  | true =>
    refine w_p (pc1 := 1) rfl rfl ?_
    refine w_p (pc1 := 84) rfl rfl ?_
    refine w_p (pc1 := 85) rfl rfl ?_
    refine w_m0 (pc1 := 88) rfl rfl (h_gC rfl rfl rfl rfl) rfl ?_
    refine w_m0 (pc1 := 91) (st1 := .int 1 :: _) rfl rfl (h_gIe (j := 7) rfl rfl rfl rfl rfl (h)) rfl ?_
    refine w_f (a := 98) (b := 94) rfl rfl rfl ?_
    refine w_p (pc1 := 95) (st1 := .int 1 :: _) rfl rfl ?_
    refine w_p (pc1 := 99) rfl rfl ?_
    refine w_r rfl rfl rfl (fun _ _ => rfl) cr_int ?_
    exact ⟨rfl, rfl, rfl⟩
  | false =>
    refine w_p (pc1 := 1) rfl rfl ?_
    refine w_p (pc1 := 84) rfl rfl ?_
    refine w_p (pc1 := 85) rfl rfl ?_
    refine w_m0 (pc1 := 88) rfl rfl (h_gC rfl rfl rfl rfl) rfl ?_
    refine w_m0 (pc1 := 91) (st1 := .int 0 :: _) rfl rfl (h_gIe (j := 7) rfl rfl rfl rfl rfl (h)) rfl ?_
    refine w_t (a := 98) (b := 94) rfl rfl rfl ?_
    refine w_p (pc1 := 99) (st1 := .int 0 :: _) rfl rfl ?_
    refine w_r rfl rfl rfl (fun _ _ => rfl) cr_int ?_
    exact ⟨rfl, rfl, rfl⟩
end CNT
