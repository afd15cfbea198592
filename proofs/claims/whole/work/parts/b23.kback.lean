
/-! ONE SIDE: back to the begin, back to a mark -/
section BCK
variable {L : Nat} {xs : Nat → Int32} {B : Nat → Nat} {n m : Nat} {C C' C0 C1 : co_T} {t t0 t1 : ab_H} {d sl sl0 sl1 i i0 i1 j b e ti k k0 kc ks w c : Nat} {sc : sc_T} {row : Option Nat} {tg : Option (Nat × Nat)} {nl : Option Nat} {kd0 tb0 : Int32} {P : Option Value → ab_H → Nat → Prop} {X : Nat → ab_H → Nat → Prop} {cs : List Nat} {ss : List (Option (List op_T))} {E : fe_T} {tr : Nat → Option tr_T} {ru : Nat → Option ru_T} {wd : Nat → Nat} {rs : rs_T}
abbrev enC (C : co_T) : co_T := sI (sI (sI C 6 7 0) 6 8 0) 6 12 0
def bkP (C C' : co_T) (wd : Nat → Nat) (rs : rs_T) : Prop := frR 13 C C' ∧ RWf (C'.2.1 14) (C'.1 15) (C'.1 16) wd rs ∧ ∀ q, q < 6 → C'.1 17 q = (rs q).2
set_option maxRecDepth 100000 in
theorem m_154 (hA : C.2.2 6 9 = some (241 + k)) (R : RWt t k wd rs) : Wd L xs (d + 3) y_154 (0, [(0, .ref 106)], [], MH C t, sl) (fun v h q => none = v ∧ (∃ C', bkP C C' wd rs ∧ MH (enC C') t = h) ∧ sl = q) nX := by
  obtain ⟨ce, id, sz, la, R1⟩ := id R
  refine w_p (pc1 := 1) rfl rfl ?_
  refine w_m0 (pc1 := 4) (st1 := .ref (241 + k) :: _) rfl rfl (h_gRs (j := 9) rfl rfl rfl rfl rfl (hA)) rfl ?_
  refine w_f (a := 18) (b := 7) rfl rfl rfl ?_
  refine w_p (pc1 := 8) rfl rfl ?_
  refine w_m0 (pc1 := 11) rfl rfl (h_gC rfl rfl rfl rfl) rfl ?_
  refine w_p (pc1 := 12) rfl rfl ?_
  refine w_m0 (pc1 := 15) (st1 := .ref (241 + k) :: _) rfl rfl (h_gRs (j := 9) rfl rfl rfl rfl rfl (hA)) rfl ?_
  refine w_ji (pc1 := 18) (vs := [.ref 113, .ref (241 + k)]) (rest := []) (m_106_t (d := d + 1) (sl := 0) R) rfl rfl rfl (fun _ _ => rfl) rfl (by exact cl_v my_106 rfl rfl rfl (Nat.le_of_ble_eq_true rfl) rfl (MH_obj rfl rfl) rfl (by decide) rfl rfl) (by rfl) (Nat.le_of_ble_eq_true rfl) (Nat.le_of_ble_eq_true rfl) rfl (fun v h q hq => ?_) (fun _ _ _ e => e.elim)
  obtain ⟨rfl, ⟨C', n3, rfl⟩, rfl⟩ := hq
  refine w_p (pc1 := 19) rfl rfl ?_
  refine w_je (pc1 := 22) (vs := [.ref 106]) (rest := []) (st1 := []) (m_153 (d := d + 2) (sl := 0)) rfl rfl rfl (fun _ _ => rfl) rfl (by exact cl_v my_153 rfl rfl rfl (Nat.le_of_ble_eq_true rfl) rfl (MH_obj rfl rfl) rfl (by decide) rfl rfl) (by rfl) (Nat.le_of_ble_eq_true rfl) (Nat.le_of_ble_eq_true rfl) rfl (by rfl) ?_
  refine w_r rfl rfl rfl (fun _ _ => rfl) rfl ?_
  exact ⟨rfl, ⟨C', n3, rfl⟩, rfl⟩
set_option maxRecDepth 100000 in
theorem m_152_0 : Wd L xs (d + 1) y_152 (0, [(0, .ref 106), (1, .int (nI 0))], [], MH C t, sl) (Rt (some (.int (nI 0))) (MH (enC C) t) sl) nX := by
  refine w_p (pc1 := 1) rfl rfl ?_
  refine w_f (a := 11) (b := 4) (bN_ne_f (a := 0) (b := 0) (by omega) (by omega) (by decide)) rfl rfl ?_
  refine w_p (pc1 := 5) rfl rfl ?_
  refine w_je (pc1 := 8) (vs := [.ref 106]) (rest := []) (st1 := []) (m_153 (d := d) (sl := 0)) rfl rfl rfl (fun _ _ => rfl) rfl (by exact cl_v my_153 rfl rfl rfl (Nat.le_of_ble_eq_true rfl) rfl (MH_obj rfl rfl) rfl (by decide) rfl rfl) (by rfl) (Nat.le_of_ble_eq_true rfl) (Nat.le_of_ble_eq_true rfl) rfl (by rfl) ?_
  refine w_p (pc1 := 15) rfl rfl ?_
  refine w_p (pc1 := 16) rfl rfl ?_
  refine w_r rfl rfl rfl (fun _ _ => rfl) cr_int ?_
  exact ⟨rfl, rfl, rfl⟩
set_option maxRecDepth 100000 in
theorem m_152_e {e : Nat} (he : 0 < e) (h8 : e < 8) (hA : C.2.2 6 9 = some (241 + k)) (R : RWt t k wd rs) : Wd L xs (d + 4) y_152 (0, [(0, .ref 106), (1, .int (nI e))], [], MH C t, sl) (fun v h q => some (.int (nI e)) = v ∧ (∃ C', bkP C C' wd rs ∧ MH (enC C') t = h) ∧ sl = q) nX := by
  refine w_p (pc1 := 1) rfl rfl ?_
  refine w_t (a := 11) (b := 4) (bN_ne_t (a := e) (b := 0) (by omega) (by omega) (by omega)) rfl rfl ?_
  refine w_p (pc1 := 12) rfl rfl ?_
  refine w_ji (pc1 := 15) (vs := [.ref 106]) (rest := []) (m_154 (d := d) (sl := 0) hA R) rfl rfl rfl (fun _ _ => rfl) rfl (by exact cl_v my_154 rfl rfl rfl (Nat.le_of_ble_eq_true rfl) rfl (MH_obj rfl rfl) rfl (by decide) rfl rfl) (by rfl) (Nat.le_of_ble_eq_true rfl) (Nat.le_of_ble_eq_true rfl) rfl (fun v h q hq => ?_) (fun _ _ _ e => e.elim)
  obtain ⟨rfl, ⟨C', n3, rfl⟩, rfl⟩ := hq
  refine w_p (pc1 := 16) rfl rfl ?_
  refine w_r rfl rfl rfl (fun _ _ => rfl) cr_int ?_
  exact ⟨rfl, ⟨C', n3, rfl⟩, rfl⟩
set_option maxRecDepth 100000 in
theorem m_155 {mk : Nat} (hm : C.1 6 12 = nI mk) (h6 : mk ≤ 6) (hi : i < mk) (hA : C.2.2 18 i = some (241 + k)) (R : RWt t k wd rs) : Wd L xs (d + 2) y_155 (0, [(0, .ref 106), (1, .int (nI i))], [], MH C t, sl) (fun v h q => none = v ∧ (∃ C', bkP C C' wd rs ∧ MH (sI C' 6 12 (nI (i + 1))) t = h) ∧ sl = q) nX := by
  obtain ⟨ce, id, sz, la, R1⟩ := id R
  refine w_p (pc1 := 1) rfl rfl ?_
  refine w_f (a := 27) (b := 4) (bN_lt_f (a := i) (b := 0) (by omega) (by omega) (by omega)) rfl rfl ?_
  refine w_p (pc1 := 5) rfl rfl ?_
  refine w_p (pc1 := 6) rfl rfl ?_
  refine w_m0 (pc1 := 9) (st1 := .int (nI (mk)) :: _) rfl rfl (h_gIe (j := 12) rfl rfl rfl rfl rfl (hm)) rfl ?_
  refine w_f (a := 27) (b := 12) (bN_ge_f (a := i) (b := mk) (by omega) (by omega) (by omega)) rfl rfl ?_
  refine w_p (pc1 := 13) rfl rfl ?_
  refine w_p (pc1 := 15) (st1 := .int 6 :: _) rfl rfl ?_
  refine w_f (a := 27) (b := 18) (bN_ge_f (a := i) (b := 6) (by omega) (by omega) (by omega)) rfl rfl ?_
  refine w_p (pc1 := 19) rfl rfl ?_
  refine w_m0 (pc1 := 22) rfl rfl (h_gC rfl rfl rfl rfl) rfl ?_
  refine w_p (pc1 := 23) rfl rfl ?_
  refine w_m0 (pc1 := 24) (st1 := .ref (241 + k) :: _) rfl rfl (n_als (e := i) rfl rfl (by decide) rfl (by omega) (hA)) rfl ?_
  refine w_t (a := 28) (b := 27) rfl rfl rfl ?_
  refine w_p (pc1 := 29) rfl rfl ?_
  refine w_m0 (pc1 := 32) rfl rfl (h_gC rfl rfl rfl rfl) rfl ?_
  refine w_p (pc1 := 33) rfl rfl ?_
  refine w_m0 (pc1 := 36) rfl rfl (h_gC rfl rfl rfl rfl) rfl ?_
  refine w_p (pc1 := 37) rfl rfl ?_
  refine w_m0 (pc1 := 38) (st1 := .ref (241 + k) :: _) rfl rfl (n_als (e := i) rfl rfl (by decide) rfl (by omega) (hA)) rfl ?_
  refine w_ji (pc1 := 41) (vs := [.ref 113, .ref (241 + k)]) (rest := []) (m_106_t (d := d) (sl := 0) R) rfl rfl rfl (fun _ _ => rfl) rfl (by exact cl_v my_106 rfl rfl rfl (Nat.le_of_ble_eq_true rfl) rfl (MH_obj rfl rfl) rfl (by decide) rfl rfl) (by rfl) (Nat.le_of_ble_eq_true rfl) (Nat.le_of_ble_eq_true rfl) rfl (fun v h q hq => ?_) (fun _ _ _ e => e.elim)
  obtain ⟨rfl, ⟨C', n3, rfl⟩, rfl⟩ := hq
  refine w_p (pc1 := 42) rfl rfl ?_
  refine w_p (pc1 := 43) rfl rfl ?_
  refine w_p (pc1 := 44) (st1 := .int 1 :: _) rfl rfl ?_
  refine w_iadd (pc1 := 45) (u := nI (i)) (v := nI (1)) (z := nI (i + 1)) rfl (nK_add) rfl ?_
  refine w_m0 (pc1 := 48) rfl rfl (h_pI (j := 12) rfl rfl rfl rfl rfl rfl rfl ⟨rfl, rfl⟩ rfl) rfl ?_
  refine w_r rfl rfl rfl (fun _ _ => rfl) rfl ?_
  exact ⟨rfl, ⟨C', n3, rfl⟩, rfl⟩
set_option maxRecDepth 100000 in
theorem m_157_e {e : Nat} {a : Int32} (he : 0 < e) (h8 : e < 8) : Wd L xs d y_157 (0, [(0, .ref 106), (1, .int a), (2, .int (nI e))], [], MH C t, sl) (Rt (some (.int (nI e))) (MH C t) sl) nX := by
  refine w_p (pc1 := 1) rfl rfl ?_
  refine w_t (a := 16) (b := 4) (bN_ne_t (a := e) (b := 0) (by omega) (by omega) (by omega)) rfl rfl ?_
  refine w_p (pc1 := 17) rfl rfl ?_
  refine w_r rfl rfl rfl (fun _ _ => rfl) cr_int ?_
  exact ⟨rfl, rfl, rfl⟩
set_option maxRecDepth 100000 in
theorem m_157_0 {a : Int32} : Wd L xs d y_157 (0, [(0, .ref 106), (1, .int a), (2, .int (nI 0))], [], MH C t, sl) (Rt (some (.int (nI 0))) (MH (sI C 6 8 (C.1 6 8 &&& (a ^^^ (-1)))) t) sl) nX := by
  refine w_p (pc1 := 1) rfl rfl ?_
  refine w_f (a := 16) (b := 4) (bN_ne_f (a := 0) (b := 0) (by omega) (by omega) (by decide)) rfl rfl ?_
  refine w_p (pc1 := 5) rfl rfl ?_
  refine w_p (pc1 := 6) rfl rfl ?_
  refine w_m0 (pc1 := 9) rfl rfl (h_gI (j := 8) rfl rfl rfl rfl rfl) rfl ?_
  refine w_p (pc1 := 10) rfl rfl ?_
  refine w_p (pc1 := 11) (st1 := .int (-1) :: _) rfl rfl ?_
  refine w_p (pc1 := 12) rfl rfl ?_
  refine w_p (pc1 := 13) rfl rfl ?_
  refine w_m0 (pc1 := 16) rfl rfl (h_pI (j := 8) rfl rfl rfl rfl rfl rfl rfl ⟨rfl, rfl⟩ rfl) rfl ?_
  refine w_p (pc1 := 17) rfl rfl ?_
  refine w_r rfl rfl rfl (fun _ _ => rfl) cr_int ?_
  exact ⟨rfl, rfl, rfl⟩
end BCK
