
/-! THE OTHER SIDE: a statement is run -/
section RUN
variable {L : Nat} {xs : Nat → Int32} {B : Nat → Nat} {n m : Nat} {C C' C0 C1 : co_T} {t t0 t1 : ab_H} {d sl sl0 sl1 i i0 i1 j b e ti k k0 kc ks w c : Nat} {sc : sc_T} {row : Option Nat} {tg : Option (Nat × Nat)} {nl : Option Nat} {kd0 tb0 : Int32} {P : Option Value → ab_H → Nat → Prop} {X : Nat → ab_H → Nat → Prop} {cs : List Nat} {ss : List (Option (List op_T))} {E : fe_T} {tr : Nat → Option tr_T} {r0 r1 x : Int32} {s : Nat} {Pc : Option Value → ab_H → Nat → Prop}
abbrev rnC (C : co_T) : co_T := sJ (sI (sI (sI (sI (sI (sI (sI C 76 0 0) 76 89 0) 76 74 0) 76 93 0) 76 95 0) 76 90 (-1)) 76 91 (-1)) 76 92 (-1)
set_option maxRecDepth 100000 in
theorem e2_o (h : j ≠ 2) : (sI C 76 2 0).1 76 j = C.1 76 j := by rw [sI_1, if_neg (fun z => h z.2)]
set_option maxRecDepth 100000 in
theorem e_191 (w0 : Wd L xs d y_192 (0, [(0, .ref 176)], [], MH (rnC C) t, 0) (Rt (some (.int r0)) (MH (rnC C) t) 0) nX) (w : Wd L xs d y_193 (0, [(0, .ref 176)], [], MH (rnC C) t, 0) Pc nX) (hP : ∀ v h q, Pc v h q → none = v ∧ ∃ C' t', MH C' t' = h ∧ Wd L xs (d + 1) y_191 (51, [(1, .int r0), (0, .ref 176)], [], MH C' t', sl + q) P X) : Wd L xs (d + 1) y_191 (0, [(0, .ref 176)], [], MH C t, sl) P X := by
  refine w_p (pc1 := 1) rfl rfl ?_
  refine w_p (pc1 := 2) (st1 := .int 0 :: _) rfl rfl ?_
  refine w_m0 (pc1 := 5) rfl rfl (h_pI (j := 0) rfl rfl rfl rfl rfl rfl rfl ⟨rfl, rfl⟩ rfl) rfl ?_
  refine w_p (pc1 := 6) rfl rfl ?_
  refine w_p (pc1 := 7) (st1 := .int 0 :: _) rfl rfl ?_
  refine w_m0 (pc1 := 10) rfl rfl (h_pI (j := 89) rfl rfl rfl rfl rfl rfl rfl ⟨rfl, rfl⟩ rfl) rfl ?_
  refine w_p (pc1 := 11) rfl rfl ?_
  refine w_p (pc1 := 12) (st1 := .int 0 :: _) rfl rfl ?_
  refine w_m0 (pc1 := 15) rfl rfl (h_pI (j := 74) rfl rfl rfl rfl rfl rfl rfl ⟨rfl, rfl⟩ rfl) rfl ?_
  refine w_p (pc1 := 16) rfl rfl ?_
  refine w_p (pc1 := 17) (st1 := .int 0 :: _) rfl rfl ?_
  refine w_m0 (pc1 := 20) rfl rfl (h_pI (j := 93) rfl rfl rfl rfl rfl rfl rfl ⟨rfl, rfl⟩ rfl) rfl ?_
  refine w_p (pc1 := 21) rfl rfl ?_
  refine w_p (pc1 := 22) (st1 := .int 0 :: _) rfl rfl ?_
  refine w_m0 (pc1 := 25) rfl rfl (h_pI (j := 95) rfl rfl rfl rfl rfl rfl rfl ⟨rfl, rfl⟩ rfl) rfl ?_
  refine w_p (pc1 := 26) rfl rfl ?_
  refine w_p (pc1 := 27) (st1 := .int (-1) :: _) rfl rfl ?_
  refine w_m0 (pc1 := 30) rfl rfl (h_pI (j := 90) rfl rfl rfl rfl rfl rfl rfl ⟨rfl, rfl⟩ rfl) rfl ?_
  refine w_p (pc1 := 31) rfl rfl ?_
  refine w_p (pc1 := 32) (st1 := .int (-1) :: _) rfl rfl ?_
  refine w_m0 (pc1 := 35) rfl rfl (h_pI (j := 91) rfl rfl rfl rfl rfl rfl rfl ⟨rfl, rfl⟩ rfl) rfl ?_
  refine w_p (pc1 := 36) rfl rfl ?_
  refine w_m0 (pc1 := 39) (st1 := .long (-1) :: _) rfl rfl rfl rfl ?_
  refine w_m0 (pc1 := 42) rfl rfl (h_pJ (j := 92) rfl rfl rfl rfl rfl rfl rfl ⟨rfl, rfl⟩ rfl) rfl ?_
  refine w_p (pc1 := 43) rfl rfl ?_
  refine w_je (pc1 := 46) (vs := [.ref 176]) (rest := []) (st1 := [.int (r0)]) (w0) rfl rfl rfl (fun _ _ => rfl) rfl (by exact cl_v my_192 rfl rfl rfl (Nat.le_of_ble_eq_true rfl) rfl (MH_obj rfl rfl) rfl (by decide) rfl rfl) (by rfl) (Nat.le_of_ble_eq_true rfl) (Nat.le_of_ble_eq_true rfl) rfl (by rfl) ?_
  refine w_p (pc1 := 47) (al1 := [(1, .int (r0)), (0, .ref 176)]) rfl rfl ?_
  refine w_p (pc1 := 48) rfl rfl ?_
  refine w_ji (pc1 := 51) (vs := [.ref 176]) (rest := []) (w) rfl rfl rfl (fun _ _ => rfl) rfl (by exact cl_v my_193 rfl rfl rfl (Nat.le_of_ble_eq_true rfl) rfl (MH_obj rfl rfl) rfl (by decide) rfl rfl) (by rfl) (Nat.le_of_ble_eq_true rfl) (Nat.le_of_ble_eq_true rfl) rfl (fun v h q hq => ?_) (fun _ _ _ e => e.elim)
  obtain ⟨rfl, C', t', rfl, w51⟩ := hP _ _ _ hq
  exact w51
set_option maxRecDepth 100000 in
theorem f_191 (hx : C.1 76 8 = x) (h0 : 0 < x.toInt) (k : Wd L xs d y_191 (142, [(1, .int r0), (0, .ref 176)], [], MH (sI (sI C 76 2 0) 76 102 1) t, sl) P X) : Wd L xs d y_191 (51, [(1, .int r0), (0, .ref 176)], [], MH C t, sl) P X := by
  have h8 : (sI C 76 2 0).1 76 8 = x := (e2_o (by decide)).trans hx
  have h1 : (0 : Int32).toInt < x.toInt := h0
  refine w_p (pc1 := 52) rfl rfl ?_
  refine w_p (pc1 := 53) (st1 := .int 0 :: _) rfl rfl ?_
  refine w_m0 (pc1 := 56) rfl rfl (h_pI (j := 2) rfl rfl rfl rfl rfl rfl rfl ⟨rfl, rfl⟩ rfl) rfl ?_
  refine w_p (pc1 := 57) rfl rfl ?_
  refine w_m0 (pc1 := 60) (st1 := .int (x) :: _) rfl rfl (h_gIe (j := 8) rfl rfl rfl rfl rfl (h8)) rfl ?_
  refine w_f (a := 71) (b := 63) (cb_le_f (by exact h1)) rfl rfl ?_
  refine w_p (pc1 := 64) rfl rfl ?_
  refine w_p (pc1 := 65) (st1 := .int 1 :: _) rfl rfl ?_
  refine w_m0 (pc1 := 68) rfl rfl (h_pI (j := 102) rfl rfl rfl rfl rfl rfl rfl ⟨rfl, rfl⟩ rfl) rfl ?_
  refine w_p (pc1 := 142) rfl rfl ?_
  exact k
set_option maxRecDepth 100000 in
theorem s_191 (hf : C.1 76 8 = 0) (hs : C.1 76 97 = nI s) (h5 : s = 5) (w : Wd L xs d y_248 (0, [(0, .ref 176)], [], MH (sI C 76 2 0) t, 0) Pc nX) (hP : ∀ v h q, Pc v h q → ∃ x C' t', some (.int x) = v ∧ MH C' t' = h ∧ Wd L xs (d + 1) y_191 (142, [(1, .int r0), (0, .ref 176)], [], MH (sI C' 76 102 x) t', sl + q) P X) : Wd L xs (d + 1) y_191 (51, [(1, .int r0), (0, .ref 176)], [], MH C t, sl) P X := by
  have h8 : (sI C 76 2 0).1 76 8 = 0 := (e2_o (by decide)).trans hf
  have h97 : (sI C 76 2 0).1 76 97 = nI s := (e2_o (by decide)).trans hs
  refine w_p (pc1 := 52) rfl rfl ?_
  refine w_p (pc1 := 53) (st1 := .int 0 :: _) rfl rfl ?_
  refine w_m0 (pc1 := 56) rfl rfl (h_pI (j := 2) rfl rfl rfl rfl rfl rfl rfl ⟨rfl, rfl⟩ rfl) rfl ?_
  refine w_p (pc1 := 57) rfl rfl ?_
  refine w_m0 (pc1 := 60) (st1 := .int 0 :: _) rfl rfl (h_gIe (j := 8) rfl rfl rfl rfl rfl (h8)) rfl ?_
  refine w_t (a := 71) (b := 63) rfl rfl rfl ?_
  refine w_p (pc1 := 72) rfl rfl ?_
  refine w_m0 (pc1 := 75) (st1 := .int (nI (s)) :: _) rfl rfl (h_gIe (j := 97) rfl rfl rfl rfl rfl (h97)) rfl ?_
  refine w_p (pc1 := 76) (st1 := .int 5 :: _) rfl rfl ?_
  refine w_f (a := 90) (b := 79) (bN_ne_f (a := s) (b := 5) (by omega) (by omega) (by omega)) rfl rfl ?_
  refine w_p (pc1 := 80) rfl rfl ?_
  refine w_p (pc1 := 81) rfl rfl ?_
  refine w_ji (pc1 := 84) (vs := [.ref 176]) (rest := [.ref 176]) (w) rfl rfl rfl (fun _ _ => rfl) rfl (by exact cl_v my_248 rfl rfl rfl (Nat.le_of_ble_eq_true rfl) rfl (MH_obj rfl rfl) rfl (by decide) rfl rfl) (by rfl) (Nat.le_of_ble_eq_true rfl) (Nat.le_of_ble_eq_true rfl) rfl (fun v h q hq => ?_) (fun _ _ _ e => e.elim)
  obtain ⟨x, C', t', rfl, rfl, w2⟩ := hP _ _ _ hq
  refine w_m0 (pc1 := 87) rfl rfl (h_pI (j := 102) rfl rfl rfl rfl rfl rfl rfl ⟨rfl, rfl⟩ rfl) rfl ?_
  refine w_p (pc1 := 142) rfl rfl ?_
  exact w2
set_option maxRecDepth 100000 in
theorem xi_191 (hf : C.1 76 8 = 0) (hs : C.1 76 97 = nI s) (h7 : 7 ≤ s) (h12 : s ≤ 12) (hu : C.1 76 69 = 0) (k : Wd L xs d y_191 (142, [(1, .int r0), (0, .ref 176)], [], MH (sI (sI C 76 2 0) 76 102 7) t, sl) P X) : Wd L xs d y_191 (51, [(1, .int r0), (0, .ref 176)], [], MH C t, sl) P X := by
  have h8 : (sI C 76 2 0).1 76 8 = 0 := (e2_o (by decide)).trans hf
  have h97 : (sI C 76 2 0).1 76 97 = nI s := (e2_o (by decide)).trans hs
  have h69 : (sI C 76 2 0).1 76 69 = 0 := (e2_o (by decide)).trans hu
  refine w_p (pc1 := 52) rfl rfl ?_
  refine w_p (pc1 := 53) (st1 := .int 0 :: _) rfl rfl ?_
  refine w_m0 (pc1 := 56) rfl rfl (h_pI (j := 2) rfl rfl rfl rfl rfl rfl rfl ⟨rfl, rfl⟩ rfl) rfl ?_
  refine w_p (pc1 := 57) rfl rfl ?_
  refine w_m0 (pc1 := 60) (st1 := .int 0 :: _) rfl rfl (h_gIe (j := 8) rfl rfl rfl rfl rfl (h8)) rfl ?_
  refine w_t (a := 71) (b := 63) rfl rfl rfl ?_
  refine w_p (pc1 := 72) rfl rfl ?_
  refine w_m0 (pc1 := 75) (st1 := .int (nI (s)) :: _) rfl rfl (h_gIe (j := 97) rfl rfl rfl rfl rfl (h97)) rfl ?_
  refine w_p (pc1 := 76) (st1 := .int 5 :: _) rfl rfl ?_
  refine w_t (a := 90) (b := 79) (bN_ne_t (a := s) (b := 5) (by omega) (by omega) (by omega)) rfl rfl ?_
  refine w_p (pc1 := 91) rfl rfl ?_
  refine w_m0 (pc1 := 94) (st1 := .int (nI (s)) :: _) rfl rfl (h_gIe (j := 97) rfl rfl rfl rfl rfl (h97)) rfl ?_
  refine w_p (pc1 := 96) (st1 := .int 7 :: _) rfl rfl ?_
  refine w_f (a := 103) (b := 99) (bN_lt_f (a := s) (b := 7) (by omega) (by omega) (by omega)) rfl rfl ?_
  refine w_p (pc1 := 100) (st1 := .int 1 :: _) rfl rfl ?_
  refine w_p (pc1 := 104) rfl rfl ?_
  refine w_p (pc1 := 105) rfl rfl ?_
  refine w_m0 (pc1 := 108) (st1 := .int 0 :: _) rfl rfl (h_gIe (j := 69) rfl rfl rfl rfl rfl (h69)) rfl ?_
  refine w_f (a := 120) (b := 111) rfl rfl rfl ?_
  refine w_p (pc1 := 112) rfl rfl ?_
  refine w_p (pc1 := 114) (st1 := .int 7 :: _) rfl rfl ?_
  refine w_m0 (pc1 := 117) rfl rfl (h_pI (j := 102) rfl rfl rfl rfl rfl rfl rfl ⟨rfl, rfl⟩ rfl) rfl ?_
  refine w_p (pc1 := 142) rfl rfl ?_
  exact k
set_option maxRecDepth 100000 in
theorem xo_191 (hf : C.1 76 8 = 0) (hs : C.1 76 97 = nI s) (h7 : s < 7) (h5 : s ≠ 5) (hu : C.1 76 69 = 1) (k : Wd L xs d y_191 (142, [(1, .int r0), (0, .ref 176)], [], MH (sI (sI C 76 2 0) 76 102 7) t, sl) P X) : Wd L xs d y_191 (51, [(1, .int r0), (0, .ref 176)], [], MH C t, sl) P X := by
  have h8 : (sI C 76 2 0).1 76 8 = 0 := (e2_o (by decide)).trans hf
  have h97 : (sI C 76 2 0).1 76 97 = nI s := (e2_o (by decide)).trans hs
  have h69 : (sI C 76 2 0).1 76 69 = 1 := (e2_o (by decide)).trans hu
  refine w_p (pc1 := 52) rfl rfl ?_
  refine w_p (pc1 := 53) (st1 := .int 0 :: _) rfl rfl ?_
  refine w_m0 (pc1 := 56) rfl rfl (h_pI (j := 2) rfl rfl rfl rfl rfl rfl rfl ⟨rfl, rfl⟩ rfl) rfl ?_
  refine w_p (pc1 := 57) rfl rfl ?_
  refine w_m0 (pc1 := 60) (st1 := .int 0 :: _) rfl rfl (h_gIe (j := 8) rfl rfl rfl rfl rfl (h8)) rfl ?_
  refine w_t (a := 71) (b := 63) rfl rfl rfl ?_
  refine w_p (pc1 := 72) rfl rfl ?_
  refine w_m0 (pc1 := 75) (st1 := .int (nI (s)) :: _) rfl rfl (h_gIe (j := 97) rfl rfl rfl rfl rfl (h97)) rfl ?_
  refine w_p (pc1 := 76) (st1 := .int 5 :: _) rfl rfl ?_
  refine w_t (a := 90) (b := 79) (bN_ne_t (a := s) (b := 5) (by omega) (by omega) (by omega)) rfl rfl ?_
  refine w_p (pc1 := 91) rfl rfl ?_
  refine w_m0 (pc1 := 94) (st1 := .int (nI (s)) :: _) rfl rfl (h_gIe (j := 97) rfl rfl rfl rfl rfl (h97)) rfl ?_
  refine w_p (pc1 := 96) (st1 := .int 7 :: _) rfl rfl ?_
  refine w_t (a := 103) (b := 99) (bN_lt_t (a := s) (b := 7) (by omega) (by omega) (by omega)) rfl rfl ?_
  refine w_p (pc1 := 104) (st1 := .int 0 :: _) rfl rfl ?_
  refine w_p (pc1 := 105) rfl rfl ?_
  refine w_m0 (pc1 := 108) (st1 := .int 1 :: _) rfl rfl (h_gIe (j := 69) rfl rfl rfl rfl rfl (h69)) rfl ?_
  refine w_f (a := 120) (b := 111) rfl rfl rfl ?_
  refine w_p (pc1 := 112) rfl rfl ?_
  refine w_p (pc1 := 114) (st1 := .int 7 :: _) rfl rfl ?_
  refine w_m0 (pc1 := 117) rfl rfl (h_pI (j := 102) rfl rfl rfl rfl rfl rfl rfl ⟨rfl, rfl⟩ rfl) rfl ?_
  refine w_p (pc1 := 142) rfl rfl ?_
  exact k
set_option maxRecDepth 100000 in
theorem i_191 (hf : C.1 76 8 = 0) (hs : C.1 76 97 = nI s) (h7 : 7 ≤ s) (h12 : s ≤ 12) (hu : C.1 76 69 = 1) (w : Wd L xs d y_279 (0, [(0, .ref 176)], [], MH (sI C 76 2 0) t, 0) Pc nX) (hP : ∀ v h q, Pc v h q → ∃ x C' t', some (.int x) = v ∧ MH C' t' = h ∧ Wd L xs (d + 1) y_191 (142, [(1, .int r0), (0, .ref 176)], [], MH (sI C' 76 102 x) t', sl + q) P X) : Wd L xs (d + 1) y_191 (51, [(1, .int r0), (0, .ref 176)], [], MH C t, sl) P X := by
  have h8 : (sI C 76 2 0).1 76 8 = 0 := (e2_o (by decide)).trans hf
  have h97 : (sI C 76 2 0).1 76 97 = nI s := (e2_o (by decide)).trans hs
  have h69 : (sI C 76 2 0).1 76 69 = 1 := (e2_o (by decide)).trans hu
  refine w_p (pc1 := 52) rfl rfl ?_
  refine w_p (pc1 := 53) (st1 := .int 0 :: _) rfl rfl ?_
  refine w_m0 (pc1 := 56) rfl rfl (h_pI (j := 2) rfl rfl rfl rfl rfl rfl rfl ⟨rfl, rfl⟩ rfl) rfl ?_
  refine w_p (pc1 := 57) rfl rfl ?_
  refine w_m0 (pc1 := 60) (st1 := .int 0 :: _) rfl rfl (h_gIe (j := 8) rfl rfl rfl rfl rfl (h8)) rfl ?_
  refine w_t (a := 71) (b := 63) rfl rfl rfl ?_
  refine w_p (pc1 := 72) rfl rfl ?_
  refine w_m0 (pc1 := 75) (st1 := .int (nI (s)) :: _) rfl rfl (h_gIe (j := 97) rfl rfl rfl rfl rfl (h97)) rfl ?_
  refine w_p (pc1 := 76) (st1 := .int 5 :: _) rfl rfl ?_
  refine w_t (a := 90) (b := 79) (bN_ne_t (a := s) (b := 5) (by omega) (by omega) (by omega)) rfl rfl ?_
  refine w_p (pc1 := 91) rfl rfl ?_
  refine w_m0 (pc1 := 94) (st1 := .int (nI (s)) :: _) rfl rfl (h_gIe (j := 97) rfl rfl rfl rfl rfl (h97)) rfl ?_
  refine w_p (pc1 := 96) (st1 := .int 7 :: _) rfl rfl ?_
  refine w_f (a := 103) (b := 99) (bN_lt_f (a := s) (b := 7) (by omega) (by omega) (by omega)) rfl rfl ?_
  refine w_p (pc1 := 100) (st1 := .int 1 :: _) rfl rfl ?_
  refine w_p (pc1 := 104) rfl rfl ?_
  refine w_p (pc1 := 105) rfl rfl ?_
  refine w_m0 (pc1 := 108) (st1 := .int 1 :: _) rfl rfl (h_gIe (j := 69) rfl rfl rfl rfl rfl (h69)) rfl ?_
  refine w_t (a := 120) (b := 111) rfl rfl rfl ?_
  refine w_p (pc1 := 121) rfl rfl ?_
  refine w_p (pc1 := 122) rfl rfl ?_
  refine w_m0 (pc1 := 125) (st1 := .int 1 :: _) rfl rfl (h_gIe (j := 69) rfl rfl rfl rfl rfl (h69)) rfl ?_
  refine w_f (a := 135) (b := 128) rfl rfl rfl ?_
  refine w_p (pc1 := 129) rfl rfl ?_
  refine w_ji (pc1 := 132) (vs := [.ref 176]) (rest := [.ref 176]) (w) rfl rfl rfl (fun _ _ => rfl) rfl (by exact cl_v my_279 rfl rfl rfl (Nat.le_of_ble_eq_true rfl) rfl (MH_obj rfl rfl) rfl (by decide) rfl rfl) (by rfl) (Nat.le_of_ble_eq_true rfl) (Nat.le_of_ble_eq_true rfl) rfl (fun v h q hq => ?_) (fun _ _ _ e => e.elim)
  obtain ⟨x, C', t', rfl, rfl, w2⟩ := hP _ _ _ hq
  refine w_p (pc1 := 139) rfl rfl ?_
  refine w_m0 (pc1 := 142) rfl rfl (h_pI (j := 102) rfl rfl rfl rfl rfl rfl rfl ⟨rfl, rfl⟩ rfl) rfl ?_
  exact w2
set_option maxRecDepth 100000 in
theorem o_191 (hf : C.1 76 8 = 0) (hs : C.1 76 97 = nI s) (h7 : s < 7) (h5 : s ≠ 5) (hu : C.1 76 69 = 0) (w : Wd L xs d y_284 (0, [(0, .ref 176)], [], MH (sI C 76 2 0) t, 0) Pc nX) (hP : ∀ v h q, Pc v h q → ∃ x C' t', some (.int x) = v ∧ MH C' t' = h ∧ Wd L xs (d + 1) y_191 (142, [(1, .int r0), (0, .ref 176)], [], MH (sI C' 76 102 x) t', sl + q) P X) : Wd L xs (d + 1) y_191 (51, [(1, .int r0), (0, .ref 176)], [], MH C t, sl) P X := by
  have h8 : (sI C 76 2 0).1 76 8 = 0 := (e2_o (by decide)).trans hf
  have h97 : (sI C 76 2 0).1 76 97 = nI s := (e2_o (by decide)).trans hs
  have h69 : (sI C 76 2 0).1 76 69 = 0 := (e2_o (by decide)).trans hu
  refine w_p (pc1 := 52) rfl rfl ?_
  refine w_p (pc1 := 53) (st1 := .int 0 :: _) rfl rfl ?_
  refine w_m0 (pc1 := 56) rfl rfl (h_pI (j := 2) rfl rfl rfl rfl rfl rfl rfl ⟨rfl, rfl⟩ rfl) rfl ?_
  refine w_p (pc1 := 57) rfl rfl ?_
  refine w_m0 (pc1 := 60) (st1 := .int 0 :: _) rfl rfl (h_gIe (j := 8) rfl rfl rfl rfl rfl (h8)) rfl ?_
  refine w_t (a := 71) (b := 63) rfl rfl rfl ?_
  refine w_p (pc1 := 72) rfl rfl ?_
  refine w_m0 (pc1 := 75) (st1 := .int (nI (s)) :: _) rfl rfl (h_gIe (j := 97) rfl rfl rfl rfl rfl (h97)) rfl ?_
  refine w_p (pc1 := 76) (st1 := .int 5 :: _) rfl rfl ?_
  refine w_t (a := 90) (b := 79) (bN_ne_t (a := s) (b := 5) (by omega) (by omega) (by omega)) rfl rfl ?_
  refine w_p (pc1 := 91) rfl rfl ?_
  refine w_m0 (pc1 := 94) (st1 := .int (nI (s)) :: _) rfl rfl (h_gIe (j := 97) rfl rfl rfl rfl rfl (h97)) rfl ?_
  refine w_p (pc1 := 96) (st1 := .int 7 :: _) rfl rfl ?_
  refine w_t (a := 103) (b := 99) (bN_lt_t (a := s) (b := 7) (by omega) (by omega) (by omega)) rfl rfl ?_
  refine w_p (pc1 := 104) (st1 := .int 0 :: _) rfl rfl ?_
  refine w_p (pc1 := 105) rfl rfl ?_
  refine w_m0 (pc1 := 108) (st1 := .int 0 :: _) rfl rfl (h_gIe (j := 69) rfl rfl rfl rfl rfl (h69)) rfl ?_
  refine w_t (a := 120) (b := 111) rfl rfl rfl ?_
  refine w_p (pc1 := 121) rfl rfl ?_
  refine w_p (pc1 := 122) rfl rfl ?_
  refine w_m0 (pc1 := 125) (st1 := .int 0 :: _) rfl rfl (h_gIe (j := 69) rfl rfl rfl rfl rfl (h69)) rfl ?_
  refine w_t (a := 135) (b := 128) rfl rfl rfl ?_
  refine w_p (pc1 := 136) rfl rfl ?_
  refine w_ji (pc1 := 139) (vs := [.ref 176]) (rest := [.ref 176]) (w) rfl rfl rfl (fun _ _ => rfl) rfl (by exact cl_v my_284 rfl rfl rfl (Nat.le_of_ble_eq_true rfl) rfl (MH_obj rfl rfl) rfl (by decide) rfl rfl) (by rfl) (Nat.le_of_ble_eq_true rfl) (Nat.le_of_ble_eq_true rfl) rfl (fun v h q hq => ?_) (fun _ _ _ e => e.elim)
  obtain ⟨x, C', t', rfl, rfl, w2⟩ := hP _ _ _ hq
  refine w_m0 (pc1 := 142) rfl rfl (h_pI (j := 102) rfl rfl rfl rfl rfl rfl rfl ⟨rfl, rfl⟩ rfl) rfl ?_
  exact w2
set_option maxRecDepth 100000 in
theorem t_191 (hx : C.1 76 102 = x) (w : Wd L xs d y_192 (0, [(0, .ref 176)], [], MH C t, 0) (Rt (some (.int r1)) (MH C t) 0) nX) : Wd L xs (d + 1) y_191 (142, [(1, .int r0), (0, .ref 176)], [], MH C t, sl) (Rt (some (.int x)) (MH (sI C 76 101 (r1 - r0)) t) sl) nX := by
  have h2 : (sI C 76 101 (r1 - r0)).1 76 102 = x := by rw [sI_1, if_neg (by omega)]; exact hx
  refine w_p (pc1 := 143) rfl rfl ?_
  refine w_p (pc1 := 144) rfl rfl ?_
  refine w_je (pc1 := 147) (vs := [.ref 176]) (rest := [.ref 176]) (st1 := [.int (r1), .ref 176]) (w) rfl rfl rfl (fun _ _ => rfl) rfl (by exact cl_v my_192 rfl rfl rfl (Nat.le_of_ble_eq_true rfl) rfl (MH_obj rfl rfl) rfl (by decide) rfl rfl) (by rfl) (Nat.le_of_ble_eq_true rfl) (Nat.le_of_ble_eq_true rfl) rfl (by rfl) ?_
  refine w_p (pc1 := 148) rfl rfl ?_
  refine w_isub (pc1 := 149) (z := r1 - r0) rfl (rfl) rfl ?_
  refine w_m0 (pc1 := 152) rfl rfl (h_pI (j := 101) rfl rfl rfl rfl rfl rfl rfl ⟨rfl, rfl⟩ rfl) rfl ?_
  refine w_p (pc1 := 153) rfl rfl ?_
  refine w_m0 (pc1 := 156) (st1 := .int (x) :: _) rfl rfl (h_gIe (j := 102) rfl rfl rfl rfl rfl (h2)) rfl ?_
  refine w_r rfl rfl rfl (fun _ _ => rfl) cr_int ?_
  exact ⟨rfl, rfl, rfl⟩
end RUN
