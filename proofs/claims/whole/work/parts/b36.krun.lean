
/-! ONE SIDE: a statement is run -/
section RNK
variable {L : Nat} {xs : Nat → Int32} {B : Nat → Nat} {n m : Nat} {C C' C0 C1 : co_T} {t t0 t1 : ab_H} {d sl sl0 sl1 i i0 i1 j b e ti k k0 kc ks w c : Nat} {sc : sc_T} {row : Option Nat} {tg : Option (Nat × Nat)} {nl : Option Nat} {kd0 tb0 : Int32} {P : Option Value → ab_H → Nat → Prop} {X : Nat → ab_H → Nat → Prop} {cs : List Nat} {ss : List (Option (List op_T))} {E : fe_T} {tr : Nat → Option tr_T} {r0 r1 z2 : Int32} {Pc : Option Value → ab_H → Nat → Prop} {Xc : Nat → ab_H → Nat → Prop}
abbrev saC (C : co_T) : co_T := sI (sI C 24 7 0) 24 8 0
set_option maxRecDepth 100000 in
theorem e_9 (w0 : Wd L xs d y_10 (0, [(0, .ref 113)], [], MH C t, 0) (Rt (some (.int r0)) (MH C t) 0) nX) (w : Wd L xs d y_12 (0, [(0, .ref 120)], [], MH (saC C) t, 0) Pc Xc) (hP : ∀ v h q, Pc v h q → none = v ∧ ∃ C' t', MH C' t' = h ∧ Wd L xs (d + 1) y_9 (40, [(2, .int 1), (1, .int r0), (0, .ref 100)], [], MH C' t', sl + q) P X) (hX : ∀ a h q, Xc a h q → ∃ C' t' s, Xk 12 C' t' s a h q ∧ Wd L xs (d + 1) y_9 (33, [(3, .ref a), (2, .int 0), (1, .int r0), (0, .ref 100)], [], h, sl + q) P X) : Wd L xs (d + 1) y_9 (0, [(0, .ref 100)], [], MH C t, sl) P X := by
  refine w_p (pc1 := 1) rfl rfl ?_
  refine w_m0 (pc1 := 4) rfl rfl (h_gC rfl rfl rfl rfl) rfl ?_
  refine w_m0 (pc1 := 7) rfl rfl (h_gC rfl rfl rfl rfl) rfl ?_
  refine w_je (pc1 := 10) (vs := [.ref 113]) (rest := []) (st1 := [.int (r0)]) (w0) rfl rfl rfl (fun _ _ => rfl) rfl (by exact cl_v my_10 rfl rfl rfl (Nat.le_of_ble_eq_true rfl) rfl (MH_obj rfl rfl) rfl (by decide) rfl rfl) (by rfl) (Nat.le_of_ble_eq_true rfl) (Nat.le_of_ble_eq_true rfl) rfl (by rfl) ?_
  refine w_p (pc1 := 11) (al1 := [(1, .int (r0)), (0, .ref 100)]) rfl rfl ?_
  refine w_p (pc1 := 12) rfl rfl ?_
  refine w_m0 (pc1 := 15) rfl rfl (h_gC rfl rfl rfl rfl) rfl ?_
  refine w_je (pc1 := 18) (vs := [.ref 124]) (rest := []) (st1 := []) (m_11 (d := d) (sl := 0)) rfl rfl rfl (fun _ _ => rfl) rfl (by exact cl_v my_11 rfl rfl rfl (Nat.le_of_ble_eq_true rfl) rfl (MH_obj rfl rfl) rfl (by decide) rfl rfl) (by rfl) (Nat.le_of_ble_eq_true rfl) (Nat.le_of_ble_eq_true rfl) rfl (by rfl) ?_
  refine w_p (pc1 := 19) (st1 := .int 0 :: _) rfl rfl ?_
  refine w_p (pc1 := 20) (al1 := [(2, .int 0), (1, .int (r0)), (0, .ref 100)]) rfl rfl ?_
  refine w_p (pc1 := 21) rfl rfl ?_
  refine w_m0 (pc1 := 24) rfl rfl (h_gC rfl rfl rfl rfl) rfl ?_
  refine w_ji (pc1 := 27) (vs := [.ref 120]) (rest := []) (w) rfl rfl rfl (fun _ _ => rfl) rfl (by exact cl_v my_12 rfl rfl rfl (Nat.le_of_ble_eq_true rfl) rfl (MH_obj rfl rfl) rfl (by decide) rfl rfl) (by rfl) (Nat.le_of_ble_eq_true rfl) (Nat.le_of_ble_eq_true rfl) rfl (fun v h1 d1 hq => ?_) (fun a h1 d1 hq => ?_)
  · obtain hq := hq
    obtain ⟨rfl, C', t', rfl, w40⟩ := hP _ _ _ hq
    refine w_p (pc1 := 28) (st1 := .int 1 :: _) rfl rfl ?_
    refine w_p (pc1 := 29) (al1 := [(2, .int 1), (1, .int (r0)), (0, .ref 100)]) rfl rfl ?_
    refine w_p (pc1 := 40) rfl rfl ?_
    exact w40
  · rcases hq with hq
    · obtain ⟨C', t', s, ⟨ha, hh, hn⟩, w33⟩ := hX _ _ _ hq; subst ha; subst hh; subst hn
      refine Or.inr ⟨32, ch_new (by decide) rfl, ?_⟩
      refine w_p (pc1 := 33) (al1 := [(3, _), (2, .int 0), (1, .int (r0)), (0, .ref 100)]) rfl rfl ?_
      exact w33
set_option maxRecDepth 100000 in
theorem u_9 (w : Wd L xs d y_97 (0, [(0, .ref 120)], [], MH C t, 0) Pc nX) (hP : ∀ v h q, Pc v h q → none = v ∧ ∃ C' t', MH C' t' = h ∧ Wd L xs (d + 1) y_9 (53, [(3, .int (nI 1)), (2, .int 0), (1, .int r0), (0, .ref 100)], [], MH C' t', sl + q) P X) : Wd L xs (d + 1) y_9 (33, [(3, .ref j), (2, .int 0), (1, .int r0), (0, .ref 100)], [], MH C t, sl) P X := by
  refine w_p (pc1 := 34) rfl rfl ?_
  refine w_m0 (pc1 := 37) rfl rfl (h_gC rfl rfl rfl rfl) rfl ?_
  refine w_ji (pc1 := 40) (vs := [.ref 120]) (rest := []) (w) rfl rfl rfl (fun _ _ => rfl) rfl (by exact cl_v my_97 rfl rfl rfl (Nat.le_of_ble_eq_true rfl) rfl (MH_obj rfl rfl) rfl (by decide) rfl rfl) (by rfl) (Nat.le_of_ble_eq_true rfl) (Nat.le_of_ble_eq_true rfl) rfl (fun v h q hq => ?_) (fun _ _ _ e => e.elim)
  obtain ⟨rfl, C', t', rfl, w2⟩ := hP _ _ _ hq
  refine w_p (pc1 := 41) rfl rfl ?_
  refine w_t (a := 51) (b := 44) rfl rfl rfl ?_
  refine w_p (pc1 := 52) (st1 := .int 1 :: _) rfl rfl ?_
  refine w_p (pc1 := 53) (al1 := [(3, .int 1), (2, .int 0), (1, .int (r0)), (0, .ref 100)]) rfl rfl ?_
  exact w2
set_option maxRecDepth 100000 in
theorem c_9 (w : Wd L xs d y_100 (0, [(0, .ref 100)], [], MH C t, 0) Pc nX) (hP : ∀ v h q, Pc v h q → ∃ x C' t', some (.int x) = v ∧ MH C' t' = h ∧ Wd L xs (d + 1) y_9 (53, [(3, .int x), (2, .int 1), (1, .int r0), (0, .ref 100)], [], MH C' t', sl + q) P X) : Wd L xs (d + 1) y_9 (40, [(2, .int 1), (1, .int r0), (0, .ref 100)], [], MH C t, sl) P X := by
  refine w_p (pc1 := 41) rfl rfl ?_
  refine w_f (a := 51) (b := 44) rfl rfl rfl ?_
  refine w_p (pc1 := 45) rfl rfl ?_
  refine w_ji (pc1 := 48) (vs := [.ref 100]) (rest := []) (w) rfl rfl rfl (fun _ _ => rfl) rfl (by exact cl_v my_100 rfl rfl rfl (Nat.le_of_ble_eq_true rfl) rfl (MH_obj rfl rfl) rfl (by decide) rfl rfl) (by rfl) (Nat.le_of_ble_eq_true rfl) (Nat.le_of_ble_eq_true rfl) rfl (fun v h q hq => ?_) (fun _ _ _ e => e.elim)
  obtain ⟨x, C', t', rfl, rfl, w2⟩ := hP _ _ _ hq
  refine w_p (pc1 := 52) rfl rfl ?_
  refine w_p (pc1 := 53) (al1 := [(3, .int (x)), (2, .int 1), (1, .int (r0)), (0, .ref 100)]) rfl rfl ?_
  exact w2
set_option maxRecDepth 100000 in
theorem t_9 {v : Nat → Int32} (he : e < 8) (h0 : C.1 1 9 = v 0) (h1 : C.1 1 10 = v 1) (h2 : C.1 24 9 = v 2) (h3 : C.1 24 10 = v 3) (h4 : C.1 24 11 = v 4) (h5 : C.1 24 7 = v 5) (h6 : C.1 24 8 = v 6) (w : Wd L xs d y_10 (0, [(0, .ref 113)], [], MH (sI C 1 4 0) t, 0) (Rt (some (.int r1)) (MH (sI C 1 4 0) t) 0) nX) : Wd L xs (d + 1) y_9 (53, [(3, .int (nI e)), (2, .int z2), (1, .int r0), (0, .ref 100)], [], MH C t, sl) (Rt (some (.int (nI e))) (MH (ntC (sI C 1 4 0) e v (r1 - r0)) t) sl) nX := by
  have g : ∀ q j, ¬ (q = 1 ∧ j = 4) → (sI C 1 4 0).1 q j = C.1 q j := fun q j h => by rw [sI_1, if_neg h]
  have hn := m_158 (L := L) (xs := xs) (t := t) (d := d) (sl := 0) (C := sI C 1 4 0) (g := r1 - r0) he ((g 1 9 (by omega)).trans h0) ((g 1 10 (by omega)).trans h1) ((g 24 9 (by omega)).trans h2) ((g 24 10 (by omega)).trans h3) ((g 24 11 (by omega)).trans h4) ((g 24 7 (by omega)).trans h5) ((g 24 8 (by omega)).trans h6)
  refine w_p (pc1 := 54) rfl rfl ?_
  refine w_m0 (pc1 := 57) rfl rfl (h_gC rfl rfl rfl rfl) rfl ?_
  refine w_p (pc1 := 58) (st1 := .int 0 :: _) rfl rfl ?_
  refine w_m0 (pc1 := 61) rfl rfl (h_pI (j := 4) rfl rfl rfl rfl rfl rfl rfl ⟨rfl, rfl⟩ rfl) rfl ?_
  refine w_p (pc1 := 62) rfl rfl ?_
  refine w_p (pc1 := 63) rfl rfl ?_
  refine w_p (pc1 := 64) rfl rfl ?_
  refine w_m0 (pc1 := 67) rfl rfl (h_gC rfl rfl rfl rfl) rfl ?_
  refine w_m0 (pc1 := 70) rfl rfl (h_gC rfl rfl rfl rfl) rfl ?_
  refine w_je (pc1 := 73) (vs := [.ref 113]) (rest := [.int (nI (e)), .ref 100]) (st1 := [.int (r1), .int (nI (e)), .ref 100]) (w) rfl rfl rfl (fun _ _ => rfl) rfl (by exact cl_v my_10 rfl rfl rfl (Nat.le_of_ble_eq_true rfl) rfl (MH_obj rfl rfl) rfl (by decide) rfl rfl) (by rfl) (Nat.le_of_ble_eq_true rfl) (Nat.le_of_ble_eq_true rfl) rfl (by rfl) ?_
  refine w_p (pc1 := 74) rfl rfl ?_
  refine w_isub (pc1 := 75) (z := r1 - r0) rfl (rfl) rfl ?_
  refine w_je (pc1 := 78) (vs := [.ref 100, .int (nI (e)), .int (r1 - r0)]) (rest := []) (st1 := []) (hn) rfl rfl rfl (fun _ _ => rfl) rfl (by exact cl_v my_158 rfl rfl rfl (Nat.le_of_ble_eq_true rfl) rfl (MH_obj rfl rfl) rfl (by decide) rfl rfl) (by rfl) (Nat.le_of_ble_eq_true rfl) (Nat.le_of_ble_eq_true rfl) rfl (by rfl) ?_
  refine w_p (pc1 := 79) rfl rfl ?_
  refine w_r rfl rfl rfl (fun _ _ => rfl) cr_int ?_
  exact ⟨rfl, rfl, rfl⟩
end RNK
