
/-! ONE SIDE: a statement is carried out, 2 -/
section CRZ
variable {L : Nat} {xs : Nat → Int32} {B : Nat → Nat} {n m : Nat} {C C' C0 C1 : co_T} {t t0 t1 : ab_H} {d sl sl0 sl1 i i0 i1 j b e ti k k0 kc ks w c : Nat} {sc : sc_T} {row : Option Nat} {tg : Option (Nat × Nat)} {nl : Option Nat} {kd0 tb0 : Int32} {P : Option Value → ab_H → Nat → Prop} {X : Nat → ab_H → Nat → Prop} {cs : List Nat} {ss : List (Option (List op_T))} {E : fe_T} {tr : Nat → Option tr_T} {u z : Bool} {Pc : Option Value → ab_H → Nat → Prop} {r wm : Int32}
set_option maxRecDepth 100000 in
theorem c_100_20 (hv : C.2.2 20 3 = some 20) (h7 : C.1 20 7 = r) (w : Wd L xs d y_150 (0, [(0, .ref 106)], [], MH C t, 0) (Rt (some (.int wm)) (MH C t) 0) nX) (hP : P (some (.int (nI 0))) (MH (sI C 6 8 (C.1 6 8 ||| (r &&& wm))) t) sl) : Wd L xs (d + 1) y_100 (17, [(0, .ref 100)], [], MH C t, sl) P nX := by
  refine w_m0 (pc1 := 20) (st1 := .ref 61 :: _) rfl rfl rfl rfl ?_
  refine w_p (pc1 := 21) rfl rfl ?_
  refine w_m0 (pc1 := 24) rfl rfl (h_gC rfl rfl rfl rfl) rfl ?_
  refine w_m0 (pc1 := 27) (st1 := .ref 20 :: _) rfl rfl (h_gRs (j := 3) rfl rfl rfl rfl rfl (hv)) rfl ?_
  refine w_c (pc1 := 30) rfl rfl rfl (fun fr lo h1 h2 => n_or rfl (by decide) (by decide) h1 h2) rfl ?_
  refine w_m0 (pc1 := 31) rfl rfl (h_sw (by decide)) rfl ?_
  refine w_p (pc1 := 250) rfl rfl ?_
  refine w_p (pc1 := 251) rfl rfl ?_
  refine w_m0 (pc1 := 254) rfl rfl (h_gC rfl rfl rfl rfl) rfl ?_
  refine w_p (pc1 := 255) rfl rfl ?_
  refine w_m0 (pc1 := 258) rfl rfl (h_gI (j := 8) rfl rfl rfl rfl rfl) rfl ?_
  refine w_p (pc1 := 259) rfl rfl ?_
  refine w_m0 (pc1 := 262) rfl rfl (h_gC rfl rfl rfl rfl) rfl ?_
  refine w_m0 (pc1 := 265) (st1 := .int (r) :: _) rfl rfl (h_gIe (j := 7) rfl rfl rfl rfl rfl (h7)) rfl ?_
  refine w_p (pc1 := 266) rfl rfl ?_
  refine w_m0 (pc1 := 269) rfl rfl (h_gC rfl rfl rfl rfl) rfl ?_
  refine w_je (pc1 := 272) (vs := [.ref 106]) (rest := [.int (r), _, .ref 106]) (st1 := [.int (wm), .int (r), _, .ref 106]) (w) rfl rfl rfl (fun _ _ => rfl) rfl (by exact cl_v my_150 rfl rfl rfl (Nat.le_of_ble_eq_true rfl) rfl (MH_obj rfl rfl) rfl (by decide) rfl rfl) (by rfl) (Nat.le_of_ble_eq_true rfl) (Nat.le_of_ble_eq_true rfl) rfl (by rfl) ?_
  refine w_p (pc1 := 273) rfl rfl ?_
  refine w_p (pc1 := 274) rfl rfl ?_
  refine w_m0 (pc1 := 277) rfl rfl (h_pI (j := 8) rfl rfl rfl rfl rfl rfl rfl ⟨rfl, rfl⟩ rfl) rfl ?_
  refine w_p (pc1 := 278) (st1 := .int 0 :: _) rfl rfl ?_
  refine w_r rfl rfl rfl (fun _ _ => rfl) cr_int ?_
  exact hP
set_option maxRecDepth 100000 in
theorem c_100_13 (hv : C.2.2 20 3 = some 13) (w : Wd L xs d y_145 (0, [(0, .ref 124), (1, .int (-1))], [], MH C t, 0) Pc nX) (hP : ∀ v h q, Pc v h q → ∃ e C' t' Pd, some (.int (nI e)) = v ∧ MH C' t' = h ∧ Wd L xs d y_152 (0, [(0, .ref 106), (1, .int (nI e))], [], MH C' t', 0) Pd nX ∧ ∀ v2 h2 q2, Pd v2 h2 q2 → ∃ x, some (.int x) = v2 ∧ P v2 h2 (sl + q + q2)) : Wd L xs (d + 1) y_100 (17, [(0, .ref 100)], [], MH C t, sl) P nX := by
  refine w_m0 (pc1 := 20) (st1 := .ref 61 :: _) rfl rfl rfl rfl ?_
  refine w_p (pc1 := 21) rfl rfl ?_
  refine w_m0 (pc1 := 24) rfl rfl (h_gC rfl rfl rfl rfl) rfl ?_
  refine w_m0 (pc1 := 27) (st1 := .ref 13 :: _) rfl rfl (h_gRs (j := 3) rfl rfl rfl rfl rfl (hv)) rfl ?_
  refine w_c (pc1 := 30) rfl rfl rfl (fun fr lo h1 h2 => n_or rfl (by decide) (by decide) h1 h2) rfl ?_
  refine w_m0 (pc1 := 31) rfl rfl (h_sw (by decide)) rfl ?_
  refine w_p (pc1 := 181) rfl rfl ?_
  refine w_p (pc1 := 182) rfl rfl ?_
  refine w_m0 (pc1 := 185) rfl rfl (h_gC rfl rfl rfl rfl) rfl ?_
  refine w_p (pc1 := 186) rfl rfl ?_
  refine w_m0 (pc1 := 189) rfl rfl (h_gC rfl rfl rfl rfl) rfl ?_
  refine w_p (pc1 := 190) (st1 := .int (-1) :: _) rfl rfl ?_
  refine w_ji (pc1 := 193) (vs := [.ref 124, .int (-1)]) (rest := [.ref 106]) (w) rfl rfl rfl (fun _ _ => rfl) rfl (by exact cl_v my_145 rfl rfl rfl (Nat.le_of_ble_eq_true rfl) rfl (MH_obj rfl rfl) rfl (by decide) rfl rfl) (by rfl) (Nat.le_of_ble_eq_true rfl) (Nat.le_of_ble_eq_true rfl) rfl (fun v h q hq => ?_) (fun _ _ _ e => e.elim)
  obtain ⟨e, C', t', Pd, rfl, rfl, w2, hQ⟩ := hP _ _ _ hq
  refine w_ji (pc1 := 196) (vs := [.ref 106, .int (nI (e))]) (rest := []) (w2) rfl rfl rfl (fun _ _ => rfl) rfl (by exact cl_v my_152 rfl rfl rfl (Nat.le_of_ble_eq_true rfl) rfl (MH_obj rfl rfl) rfl (by decide) rfl rfl) (by rfl) (Nat.le_of_ble_eq_true rfl) (Nat.le_of_ble_eq_true rfl) rfl (fun v2 h2 q2 hq2 => ?_) (fun _ _ _ e => e.elim)
  obtain ⟨x, rfl, hq3⟩ := hQ _ _ _ hq2
  refine w_r rfl rfl rfl (fun _ _ => rfl) cr_int ?_
  exact hq3
set_option maxRecDepth 100000 in
theorem c_100_26 (hv : C.2.2 20 3 = some 26) (h7 : C.1 20 7 = r) (w : Wd L xs d y_145 (0, [(0, .ref 124), (1, .int r)], [], MH C t, 0) Pc nX) (hP : ∀ v h q, Pc v h q → ∃ e C' t' Pd, some (.int (nI e)) = v ∧ MH C' t' = h ∧ Wd L xs d y_157 (0, [(0, .ref 106), (1, .int r), (2, .int (nI e))], [], MH C' t', 0) Pd nX ∧ ∀ v2 h2 q2, Pd v2 h2 q2 → ∃ x, some (.int x) = v2 ∧ P v2 h2 (sl + q + q2)) : Wd L xs (d + 1) y_100 (17, [(0, .ref 100)], [], MH C t, sl) P nX := by
  refine w_m0 (pc1 := 20) (st1 := .ref 61 :: _) rfl rfl rfl rfl ?_
  refine w_p (pc1 := 21) rfl rfl ?_
  refine w_m0 (pc1 := 24) rfl rfl (h_gC rfl rfl rfl rfl) rfl ?_
  refine w_m0 (pc1 := 27) (st1 := .ref 26 :: _) rfl rfl (h_gRs (j := 3) rfl rfl rfl rfl rfl (hv)) rfl ?_
  refine w_c (pc1 := 30) rfl rfl rfl (fun fr lo h1 h2 => n_or rfl (by decide) (by decide) h1 h2) rfl ?_
  refine w_m0 (pc1 := 31) rfl rfl (h_sw (by decide)) rfl ?_
  refine w_p (pc1 := 279) rfl rfl ?_
  refine w_p (pc1 := 280) rfl rfl ?_
  refine w_m0 (pc1 := 283) rfl rfl (h_gC rfl rfl rfl rfl) rfl ?_
  refine w_p (pc1 := 284) rfl rfl ?_
  refine w_m0 (pc1 := 287) rfl rfl (h_gC rfl rfl rfl rfl) rfl ?_
  refine w_m0 (pc1 := 290) (st1 := .int (r) :: _) rfl rfl (h_gIe (j := 7) rfl rfl rfl rfl rfl (h7)) rfl ?_
  refine w_p (pc1 := 291) rfl rfl ?_
  refine w_m0 (pc1 := 294) rfl rfl (h_gC rfl rfl rfl rfl) rfl ?_
  refine w_p (pc1 := 295) rfl rfl ?_
  refine w_m0 (pc1 := 298) rfl rfl (h_gC rfl rfl rfl rfl) rfl ?_
  refine w_m0 (pc1 := 301) (st1 := .int (r) :: _) rfl rfl (h_gIe (j := 7) rfl rfl rfl rfl rfl (h7)) rfl ?_
  refine w_ji (pc1 := 304) (vs := [.ref 124, .int (r)]) (rest := [.int (r), .ref 106]) (w) rfl rfl rfl (fun _ _ => rfl) rfl (by exact cl_v my_145 rfl rfl rfl (Nat.le_of_ble_eq_true rfl) rfl (MH_obj rfl rfl) rfl (by decide) rfl rfl) (by rfl) (Nat.le_of_ble_eq_true rfl) (Nat.le_of_ble_eq_true rfl) rfl (fun v h q hq => ?_) (fun _ _ _ e => e.elim)
  obtain ⟨e, C', t', Pd, rfl, rfl, w2, hQ⟩ := hP _ _ _ hq
  refine w_ji (pc1 := 307) (vs := [.ref 106, .int (r), .int (nI (e))]) (rest := []) (w2) rfl rfl rfl (fun _ _ => rfl) rfl (by exact cl_v my_157 rfl rfl rfl (Nat.le_of_ble_eq_true rfl) rfl (MH_obj rfl rfl) rfl (by decide) rfl rfl) (by rfl) (Nat.le_of_ble_eq_true rfl) (Nat.le_of_ble_eq_true rfl) rfl (fun v2 h2 q2 hq2 => ?_) (fun _ _ _ e => e.elim)
  obtain ⟨x, rfl, hq3⟩ := hQ _ _ _ hq2
  refine w_r rfl rfl rfl (fun _ _ => rfl) cr_int ?_
  exact hq3
end CRZ
