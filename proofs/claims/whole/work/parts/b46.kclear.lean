
/-! ONE SIDE: all is cleared -/
section CLR
variable {L : Nat} {xs : Nat → Int32} {B : Nat → Nat} {n m : Nat} {C C' C0 C1 : co_T} {t t0 t1 : ab_H} {d sl sl0 sl1 i i0 i1 j b e ti k k0 kc ks w c : Nat} {sc : sc_T} {row : Option Nat} {tg : Option (Nat × Nat)} {nl : Option Nat} {kd0 tb0 : Int32} {P : Option Value → ab_H → Nat → Prop} {X : Nat → ab_H → Nat → Prop} {cs : List Nat} {ss : List (Option (List op_T))} {E : fe_T} {tr : Nat → Option tr_T} {x r y z : Int32} {Q : Nat → co_T → Prop}
set_option maxRecDepth 100000 in
theorem lp_160 (hQ : ∀ b C, b < 6 → Q b C → Wd L xs d y_98 (0, [(0, .ref 106), (1, .int (nI b))], [], MH C t, 0) (fun v h q => none = v ∧ (∃ C', Q (b + 1) C' ∧ MH C' t = h) ∧ 0 = q) nX) : ∀ (f b : Nat) (C : co_T), b + f = 6 → Q b C → Wd L xs (d + 1) y_160 (2, [(1, .int (nI b)), (0, .ref 106)], [], MH C t, sl) (fun v h q => none = v ∧ (∃ C', Q 6 C' ∧ MH (enC C') t = h) ∧ sl = q) nX
  | 0, b, C, hb, hq => by
    obtain rfl : b = 6 := by omega
    refine w_p (pc1 := 3) rfl rfl ?_
    refine w_p (pc1 := 5) (st1 := .int 6 :: _) rfl rfl ?_
    refine w_t (a := 19) (b := 8) (bN_ge_t (a := 6) (b := 6) (by omega) (by omega) (by omega)) rfl rfl ?_
    refine w_p (pc1 := 20) rfl rfl ?_
    refine w_je (pc1 := 23) (vs := [.ref 106]) (rest := []) (st1 := []) (m_153 (d := d) (sl := 0)) rfl rfl rfl (fun _ _ => rfl) rfl (by exact cl_v my_153 rfl rfl rfl (Nat.le_of_ble_eq_true rfl) rfl (MH_obj rfl rfl) rfl (by decide) rfl rfl) (by rfl) (Nat.le_of_ble_eq_true rfl) (Nat.le_of_ble_eq_true rfl) rfl (by rfl) ?_
    refine w_r rfl rfl rfl (fun _ _ => rfl) rfl ?_
    exact ⟨rfl, ⟨C, hq, rfl⟩, rfl⟩
  | f + 1, b, C, hb, hq => by
    refine w_p (pc1 := 3) rfl rfl ?_
    refine w_p (pc1 := 5) (st1 := .int 6 :: _) rfl rfl ?_
    refine w_f (a := 19) (b := 8) (bN_ge_f (a := b) (b := 6) (by omega) (by omega) (by omega)) rfl rfl ?_
    refine w_p (pc1 := 9) rfl rfl ?_
    refine w_p (pc1 := 10) rfl rfl ?_
    refine w_ji (pc1 := 13) (vs := [.ref 106, .int (nI (b))]) (rest := []) (hQ b C (by omega) hq) rfl rfl rfl (fun _ _ => rfl) rfl (by exact cl_v my_98 rfl rfl rfl (Nat.le_of_ble_eq_true rfl) rfl (MH_obj rfl rfl) rfl (by decide) rfl rfl) (by rfl) (Nat.le_of_ble_eq_true rfl) (Nat.le_of_ble_eq_true rfl) rfl (fun v h q hz => ?_) (fun _ _ _ e => e.elim)
    obtain ⟨rfl, ⟨C1, hq1, rfl⟩, rfl⟩ := hz
    refine w_iinc (pc1 := 16) (u := nI (b)) (z := nI (b + 1)) (al1 := [(1, .int (nI (b + 1))), (0, .ref 106)]) rfl rfl rfl nK_1 rfl rfl ?_
    refine w_p (pc1 := 2) rfl rfl ?_
    exact lp_160 hQ f (b + 1) C1 (by omega) hq1
set_option maxRecDepth 100000 in
theorem m_160 (hQ : ∀ b C, b < 6 → Q b C → Wd L xs d y_98 (0, [(0, .ref 106), (1, .int (nI b))], [], MH C t, 0) (fun v h q => none = v ∧ (∃ C', Q (b + 1) C' ∧ MH C' t = h) ∧ 0 = q) nX) (h0 : Q 0 C) : Wd L xs (d + 1) y_160 (0, [(0, .ref 106)], [], MH C t, sl) (fun v h q => none = v ∧ (∃ C', Q 6 C' ∧ MH (enC C') t = h) ∧ sl = q) nX := by
  refine w_p (pc1 := 1) (st1 := .int 0 :: _) rfl rfl ?_
  refine w_p (pc1 := 2) (al1 := [(1, .int 0), (0, .ref 106)]) rfl rfl ?_
  exact lp_160 hQ 6 0 C rfl h0
set_option maxRecDepth 100000 in
theorem m_159 {R : co_T → Prop} (w : Wd L xs (d + 1) y_160 (0, [(0, .ref 106)], [], MH (sI C 1 4 0) t, 0) (fun v h q => none = v ∧ (∃ C', R C' ∧ MH C' t = h) ∧ 0 = q) nX) : Wd L xs (d + 2) y_159 (0, [(0, .ref 100)], [], MH C t, sl) (fun v h q => none = v ∧ (∃ C1 C2 C3, R C1 ∧ flU C1 C2 75 8 (fun _ => 0) ∧ flU C2 C3 75 5 (fun _ => -1) ∧ MH C3 t = h) ∧ sl = q) nX := by
  refine w_p (pc1 := 1) rfl rfl ?_
  refine w_m0 (pc1 := 4) rfl rfl (h_gC rfl rfl rfl rfl) rfl ?_
  refine w_p (pc1 := 5) (st1 := .int 0 :: _) rfl rfl ?_
  refine w_m0 (pc1 := 8) rfl rfl (h_pI (j := 4) rfl rfl rfl rfl rfl rfl rfl ⟨rfl, rfl⟩ rfl) rfl ?_
  refine w_p (pc1 := 9) rfl rfl ?_
  refine w_m0 (pc1 := 12) rfl rfl (h_gC rfl rfl rfl rfl) rfl ?_
  refine w_ji (pc1 := 15) (vs := [.ref 106]) (rest := []) (w) rfl rfl rfl (fun _ _ => rfl) rfl (by exact cl_v my_160 rfl rfl rfl (Nat.le_of_ble_eq_true rfl) rfl (MH_obj rfl rfl) rfl (by decide) rfl rfl) (by rfl) (Nat.le_of_ble_eq_true rfl) (Nat.le_of_ble_eq_true rfl) rfl (fun v h q hz => ?_) (fun _ _ _ e => e.elim)
  obtain ⟨rfl, ⟨C1, hq1, rfl⟩, rfl⟩ := hz
  refine w_p (pc1 := 16) rfl rfl ?_
  refine w_m0 (pc1 := 19) rfl rfl (h_gC rfl rfl rfl rfl) rfl ?_
  refine w_p (pc1 := 20) (st1 := .int 0 :: _) rfl rfl ?_
  refine w_ji (pc1 := 23) (vs := [.ref 175, .int 0]) (rest := []) (m_161 (d := d + 1) (sl := 0) (C := C1)) rfl rfl rfl (fun _ _ => rfl) rfl (by exact cl_s my_161 rfl rfl rfl (Nat.le_of_ble_eq_true rfl) rfl rfl) (by rfl) (Nat.le_of_ble_eq_true rfl) (Nat.le_of_ble_eq_true rfl) rfl (fun v h q hz => ?_) (fun _ _ _ e => e.elim)
  obtain ⟨rfl, ⟨C2, hq2, rfl⟩, rfl⟩ := hz
  refine w_p (pc1 := 24) rfl rfl ?_
  refine w_m0 (pc1 := 27) rfl rfl (h_gC rfl rfl rfl rfl) rfl ?_
  refine w_p (pc1 := 28) (st1 := .int 0 :: _) rfl rfl ?_
  refine w_p (pc1 := 29) (st1 := .int 5 :: _) rfl rfl ?_
  refine w_p (pc1 := 30) (st1 := .int (-1) :: _) rfl rfl ?_
  refine w_ji (pc1 := 33) (vs := [.ref 175, .int 0, .int 5, .int (-1)]) (rest := []) (m_7 (d := d) (sl := 0) (C := C2)) rfl rfl rfl (fun _ _ => cn_s rfl rfl rfl rfl) rfl (by exact cl_s my_7 rfl rfl rfl (Nat.le_of_ble_eq_true rfl) rfl rfl) (by rfl) (Nat.le_of_ble_eq_true rfl) (Nat.le_of_ble_eq_true rfl) rfl (fun v h q hz => ?_) (fun _ _ _ e => e.elim)
  obtain ⟨rfl, ⟨C3, hq3, rfl⟩, rfl⟩ := hz
  refine w_r rfl rfl rfl (fun _ _ => rfl) rfl ?_
  exact ⟨rfl, ⟨C1, C2, C3, hq1, hq2, hq3, rfl⟩, rfl⟩
end CLR
