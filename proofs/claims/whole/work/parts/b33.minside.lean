
/-! THE OTHER SIDE: what is done within a transaction -/
section INS
variable {L : Nat} {xs : Nat → Int32} {B : Nat → Nat} {n m : Nat} {C C' C0 C1 : co_T} {t t0 t1 : ab_H} {d sl sl0 sl1 i i0 i1 j b e ti k k0 kc ks w c : Nat} {sc : sc_T} {row : Option Nat} {tg : Option (Nat × Nat)} {nl : Option Nat} {kd0 tb0 : Int32} {P : Option Value → ab_H → Nat → Prop} {X : Nat → ab_H → Nat → Prop} {cs : List Nat} {ss : List (Option (List op_T))} {E : fe_T} {tr : Nat → Option tr_T} {nn f p : Nat} {S : st_T} {rs : rs_T} {v : Int64} {z : Bool} {wt nm : Nat → Bool}
set_option maxRecDepth 100000 in
theorem m_281f (h6 : nn ≤ 6) (hi : i + f + 1 = nn) (hw : C.1 76 98 = nI i) (hn : C.1 76 70 = nI nn) (hv : C.2.1 76 99 = v) : Wd L xs (d + 1) y_281 (0, [(0, .ref 176)], [], MH C t, sl) (fun v' h' q => none = v' ∧ (∃ C', smP C i f (nn - 1) v C' ∧ MH C' t = h') ∧ sl = q) nX := by
  refine w_p (pc1 := 1) rfl rfl ?_
  refine w_m0 (pc1 := 4) (st1 := .int (nI i) :: _) rfl rfl (h_gIe (j := 98) rfl rfl rfl rfl rfl (hw)) rfl ?_
  refine w_p (pc1 := 5) (st1 := .int (-1) :: _) rfl rfl ?_
  refine w_t (a := 15) (b := 8) (cb_ne_t (by exact nK_m1 (by omega))) rfl rfl ?_
  refine w_p (pc1 := 16) rfl rfl ?_
  refine w_m0 (pc1 := 19) (st1 := .int (nI (i)) :: _) rfl rfl (h_gIe (j := 98) rfl rfl rfl rfl rfl (hw)) rfl ?_
  refine w_p (pc1 := 20) (al1 := [(1, .int (nI (i))), (0, .ref 176)]) rfl rfl ?_
  refine w_p (pc1 := 21) rfl rfl ?_
  refine w_p (pc1 := 22) (al1 := [(2, .int (nI (i))), (1, .int (nI (i))), (0, .ref 176)]) rfl rfl ?_
  exact lp_281 h6 f i C (Or.inl hi) hn (fun C' h => t_281f h6 hi hw hn hv h)
set_option maxRecDepth 100000 in
theorem m_281n (h5 : nn < 6) (hw : C.1 76 98 = -1) (hn : C.1 76 70 = nI nn) (hv : C.2.1 76 99 = v) : Wd L xs (d + 1) y_281 (0, [(0, .ref 176)], [], MH C t, sl) (fun v' h' q => none = v' ∧ (∃ C', smP C nn 0 nn v C' ∧ MH C' t = h') ∧ sl = q) nX := by
  refine w_p (pc1 := 1) rfl rfl ?_
  refine w_m0 (pc1 := 4) (st1 := .int ((-1)) :: _) rfl rfl (h_gIe (j := 98) rfl rfl rfl rfl rfl (hw)) rfl ?_
  refine w_p (pc1 := 5) (st1 := .int (-1) :: _) rfl rfl ?_
  refine w_f (a := 15) (b := 8) (cb_ne_f (by rfl)) rfl rfl ?_
  refine w_p (pc1 := 9) rfl rfl ?_
  refine w_m0 (pc1 := 12) (st1 := .int (nI (nn)) :: _) rfl rfl (h_gIe (j := 70) rfl rfl rfl rfl rfl (hn)) rfl ?_
  refine w_p (pc1 := 19) rfl rfl ?_
  refine w_p (pc1 := 20) (al1 := [(1, .int (nI (nn))), (0, .ref 176)]) rfl rfl ?_
  refine w_p (pc1 := 21) rfl rfl ?_
  refine w_p (pc1 := 22) (al1 := [(2, .int (nI (nn))), (1, .int (nI (nn))), (0, .ref 176)]) rfl rfl ?_
  exact lp_281 (i := nn) (by omega) 0 nn C (Or.inr ⟨rfl, by omega, by omega⟩) hn (fun C' h => t_281n (f := 0) (by omega) rfl rfl h5 hw hn hv h)
abbrev ovC (C : co_T) : co_T := sI (sI C 76 69 0) 76 70 0
def CMM (C : co_T) (t : ab_H) (sl : Nat) (x : Option (Nat × Int32)) : Option Value → ab_H → Nat → Prop := fun v h q => (∃ C1 C3, frZ C C1 ∧ ((∃ e, x = some e ∧ some (.int (nI 2)) = v ∧ ∃ C2, SLC 115 0 0 0 119 (240 * 1) (1440 * 1) (6 * 1) (lkM C1 (some e)) C2 ∧ flU (ovC C2) C3 91 24 (fun _ => 0)) ∨ (x = none ∧ some (.int (nI 0)) = v ∧ flU (ovC C1) C3 91 24 (fun _ => 0))) ∧ MH C3 t = h) ∧ sl = q
set_option maxRecDepth 100000 in
theorem m_279_7 (hs : C.1 76 97 = 7) (W : RWM C (sWd S) rs) (K : MSt C S) (ho : okSt S) (hz : C.1 76 74 = ck z) : Wd L xs (d + 7) y_279 (0, [(0, .ref 176)], [], MH C t, sl) (CMM C t sl (lkR S rs (fun _ => true) (rng 0 24))) nX := by
  have hl := m_273_0 (L := L) (xs := xs) (t := t) (d := d) (sl := 0) W K ho hz
  cases e : lkR S rs (fun _ => true) (rng 0 24) with
  | some x =>
    rw [e] at hl
    refine w_p (pc1 := 1) rfl rfl ?_
    refine w_m0 (pc1 := 4) (st1 := .int 7 :: _) rfl rfl (h_gIe (j := 97) rfl rfl rfl rfl rfl (hs)) rfl ?_
    refine w_p (pc1 := 40) rfl rfl ?_
    refine w_p (pc1 := 41) rfl rfl ?_
    refine w_p (pc1 := 42) (st1 := .int 0 :: _) rfl rfl ?_
    refine w_ji (pc1 := 45) (vs := [.ref 176, .int 0]) (rest := []) (hl) rfl rfl rfl (fun _ _ => rfl) rfl (by exact cl_v my_273 rfl rfl rfl (Nat.le_of_ble_eq_true rfl) rfl (MH_obj rfl rfl) rfl (by decide) rfl rfl) (by rfl) (Nat.le_of_ble_eq_true rfl) (Nat.le_of_ble_eq_true rfl) rfl (fun v h q hq => ?_) (fun _ _ _ e => e.elim)
    obtain ⟨rfl, ⟨C1, F1, rfl⟩, rfl⟩ := hq
    refine w_p (pc1 := 46) (al1 := [(1, .int 1), (0, .ref 176)]) rfl rfl ?_
    refine w_p (pc1 := 47) rfl rfl ?_
    refine w_f (a := 55) (b := 50) rfl rfl rfl ?_
    refine w_p (pc1 := 51) rfl rfl ?_
    refine w_p (pc1 := 52) (st1 := .int 1 :: _) rfl rfl ?_
    refine w_ji (pc1 := 55) (vs := [.ref 176, .int 1]) (rest := []) (m_278 (d := d + 6) (sl := 0) (s := 1) (by omega)) rfl rfl rfl (fun _ _ => rfl) rfl (by exact cl_v my_278 rfl rfl rfl (Nat.le_of_ble_eq_true rfl) rfl (MH_obj rfl rfl) rfl (by decide) rfl rfl) (by rfl) (Nat.le_of_ble_eq_true rfl) (Nat.le_of_ble_eq_true rfl) rfl (fun v h q hq => ?_) (fun _ _ _ e => e.elim)
    obtain ⟨rfl, ⟨C2, S2, rfl⟩, rfl⟩ := hq
    refine w_p (pc1 := 56) rfl rfl ?_
    refine w_ji (pc1 := 59) (vs := [.ref 176]) (rest := []) (m_280 (d := d + 6) (sl := 0)) rfl rfl rfl (fun _ _ => rfl) rfl (by exact cl_v my_280 rfl rfl rfl (Nat.le_of_ble_eq_true rfl) rfl (MH_obj rfl rfl) rfl (by decide) rfl rfl) (by rfl) (Nat.le_of_ble_eq_true rfl) (Nat.le_of_ble_eq_true rfl) rfl (fun v h q hq => ?_) (fun _ _ _ e => e.elim)
    obtain ⟨rfl, ⟨C3, F3, rfl⟩, rfl⟩ := hq
    refine w_p (pc1 := 60) rfl rfl ?_
    refine w_f (a := 67) (b := 63) rfl rfl rfl ?_
    refine w_p (pc1 := 64) (st1 := .int 2 :: _) rfl rfl ?_
    refine w_p (pc1 := 68) rfl rfl ?_
    refine w_r rfl rfl rfl (fun _ _ => rfl) cr_int ?_
    exact ⟨⟨C1, C3, F1, Or.inl ⟨x, rfl, rfl, C2, S2, F3⟩, rfl⟩, rfl⟩
  | none =>
    rw [e] at hl
    refine w_p (pc1 := 1) rfl rfl ?_
    refine w_m0 (pc1 := 4) (st1 := .int 7 :: _) rfl rfl (h_gIe (j := 97) rfl rfl rfl rfl rfl (hs)) rfl ?_
    refine w_p (pc1 := 40) rfl rfl ?_
    refine w_p (pc1 := 41) rfl rfl ?_
    refine w_p (pc1 := 42) (st1 := .int 0 :: _) rfl rfl ?_
    refine w_ji (pc1 := 45) (vs := [.ref 176, .int 0]) (rest := []) (hl) rfl rfl rfl (fun _ _ => rfl) rfl (by exact cl_v my_273 rfl rfl rfl (Nat.le_of_ble_eq_true rfl) rfl (MH_obj rfl rfl) rfl (by decide) rfl rfl) (by rfl) (Nat.le_of_ble_eq_true rfl) (Nat.le_of_ble_eq_true rfl) rfl (fun v h q hq => ?_) (fun _ _ _ e => e.elim)
    obtain ⟨rfl, ⟨C1, F1, rfl⟩, rfl⟩ := hq
    refine w_p (pc1 := 46) (al1 := [(1, .int 0), (0, .ref 176)]) rfl rfl ?_
    refine w_p (pc1 := 47) rfl rfl ?_
    refine w_t (a := 55) (b := 50) rfl rfl rfl ?_
    refine w_p (pc1 := 56) rfl rfl ?_
    refine w_ji (pc1 := 59) (vs := [.ref 176]) (rest := []) (m_280 (d := d + 6) (sl := 0)) rfl rfl rfl (fun _ _ => rfl) rfl (by exact cl_v my_280 rfl rfl rfl (Nat.le_of_ble_eq_true rfl) rfl (MH_obj rfl rfl) rfl (by decide) rfl rfl) (by rfl) (Nat.le_of_ble_eq_true rfl) (Nat.le_of_ble_eq_true rfl) rfl (fun v h q hq => ?_) (fun _ _ _ e => e.elim)
    obtain ⟨rfl, ⟨C3, F3, rfl⟩, rfl⟩ := hq
    refine w_p (pc1 := 60) rfl rfl ?_
    refine w_t (a := 67) (b := 63) rfl rfl rfl ?_
    refine w_p (pc1 := 68) (st1 := .int 0 :: _) rfl rfl ?_
    refine w_r rfl rfl rfl (fun _ _ => rfl) cr_int ?_
    exact ⟨⟨C1, C3, F1, Or.inr ⟨rfl, rfl, F3⟩, rfl⟩, rfl⟩
set_option maxRecDepth 100000 in
theorem m_279_8 (hs : C.1 76 97 = 8) : Wd L xs (d + 7) y_279 (0, [(0, .ref 176)], [], MH C t, sl) (fun v h q => some (.int (nI 0)) = v ∧ (∃ C2 C3, SLC 115 0 0 0 119 (240 * 1) (1440 * 1) (6 * 1) C C2 ∧ flU (ovC C2) C3 91 24 (fun _ => 0) ∧ MH C3 t = h) ∧ sl = q) nX := by
  refine w_p (pc1 := 1) rfl rfl ?_
  refine w_m0 (pc1 := 4) (st1 := .int 8 :: _) rfl rfl (h_gIe (j := 97) rfl rfl rfl rfl rfl (hs)) rfl ?_
  refine w_p (pc1 := 69) rfl rfl ?_
  refine w_p (pc1 := 70) rfl rfl ?_
  refine w_p (pc1 := 71) (st1 := .int 1 :: _) rfl rfl ?_
  refine w_ji (pc1 := 74) (vs := [.ref 176, .int 1]) (rest := []) (m_278 (d := d + 6) (sl := 0) (s := 1) (by omega)) rfl rfl rfl (fun _ _ => rfl) rfl (by exact cl_v my_278 rfl rfl rfl (Nat.le_of_ble_eq_true rfl) rfl (MH_obj rfl rfl) rfl (by decide) rfl rfl) (by rfl) (Nat.le_of_ble_eq_true rfl) (Nat.le_of_ble_eq_true rfl) rfl (fun v h q hq => ?_) (fun _ _ _ e => e.elim)
  obtain ⟨rfl, ⟨C2, S2, rfl⟩, rfl⟩ := hq
  refine w_p (pc1 := 75) rfl rfl ?_
  refine w_ji (pc1 := 78) (vs := [.ref 176]) (rest := []) (m_280 (d := d + 6) (sl := 0)) rfl rfl rfl (fun _ _ => rfl) rfl (by exact cl_v my_280 rfl rfl rfl (Nat.le_of_ble_eq_true rfl) rfl (MH_obj rfl rfl) rfl (by decide) rfl rfl) (by rfl) (Nat.le_of_ble_eq_true rfl) (Nat.le_of_ble_eq_true rfl) rfl (fun v h q hq => ?_) (fun _ _ _ e => e.elim)
  obtain ⟨rfl, ⟨C3, F3, rfl⟩, rfl⟩ := hq
  refine w_p (pc1 := 79) (st1 := .int 0 :: _) rfl rfl ?_
  refine w_r rfl rfl rfl (fun _ _ => rfl) cr_int ?_
  exact ⟨rfl, ⟨C2, C3, S2, F3, rfl⟩, rfl⟩
set_option maxRecDepth 100000 in
theorem m_279_9 (hs : C.1 76 97 = 9) (hw : C.1 76 98 = nI i) (hi : i < 6) : Wd L xs (d + 7) y_279 (0, [(0, .ref 176)], [], MH C t, sl) (fun v h q => some (.int (nI 0)) = v ∧ (∃ C2, SLC 115 0 0 0 119 (240 * (2 + i)) (1440 * (2 + i)) (6 * (2 + i)) C C2 ∧ MH (sI C2 76 70 (nI (i + 1))) t = h) ∧ sl = q) nX := by
  refine w_p (pc1 := 1) rfl rfl ?_
  refine w_m0 (pc1 := 4) (st1 := .int 9 :: _) rfl rfl (h_gIe (j := 97) rfl rfl rfl rfl rfl (hs)) rfl ?_
  refine w_p (pc1 := 80) rfl rfl ?_
  refine w_p (pc1 := 81) rfl rfl ?_
  refine w_p (pc1 := 82) (st1 := .int 2 :: _) rfl rfl ?_
  refine w_p (pc1 := 83) rfl rfl ?_
  refine w_m0 (pc1 := 86) (st1 := .int (nI (i)) :: _) rfl rfl (h_gIe (j := 98) rfl rfl rfl rfl rfl (hw)) rfl ?_
  refine w_iadd (pc1 := 87) (u := nI (2)) (v := nI (i)) (z := nI (2 + i)) rfl (nK_add) rfl ?_
  refine w_ji (pc1 := 90) (vs := [.ref 176, .int (nI (2 + i))]) (rest := []) (m_278 (d := d + 6) (sl := 0) (s := 2 + i) (by omega)) rfl rfl rfl (fun _ _ => rfl) rfl (by exact cl_v my_278 rfl rfl rfl (Nat.le_of_ble_eq_true rfl) rfl (MH_obj rfl rfl) rfl (by decide) rfl rfl) (by rfl) (Nat.le_of_ble_eq_true rfl) (Nat.le_of_ble_eq_true rfl) rfl (fun v h q hq => ?_) (fun _ _ _ e => e.elim)
  obtain ⟨rfl, ⟨C2, S2, rfl⟩, rfl⟩ := hq
  have hw2 : C2.1 76 98 = nI i := (S2.1 76 98 (by omega) (by omega)).trans hw
  refine w_p (pc1 := 91) rfl rfl ?_
  refine w_p (pc1 := 92) rfl rfl ?_
  refine w_m0 (pc1 := 95) (st1 := .int (nI (i)) :: _) rfl rfl (h_gIe (j := 98) rfl rfl rfl rfl rfl (hw2)) rfl ?_
  refine w_p (pc1 := 96) (st1 := .int 1 :: _) rfl rfl ?_
  refine w_iadd (pc1 := 97) (u := nI (i)) (v := nI (1)) (z := nI (i + 1)) rfl (nK_add) rfl ?_
  refine w_m0 (pc1 := 100) rfl rfl (h_pI (j := 70) rfl rfl rfl rfl rfl rfl rfl ⟨rfl, rfl⟩ rfl) rfl ?_
  refine w_p (pc1 := 101) (st1 := .int 0 :: _) rfl rfl ?_
  refine w_r rfl rfl rfl (fun _ _ => rfl) cr_int ?_
  exact ⟨rfl, ⟨C2, S2, rfl⟩, rfl⟩
set_option maxRecDepth 100000 in
theorem m_279_10 {Pc : Option Value → ab_H → Nat → Prop} (hs : C.1 76 97 = 10) (w : Wd L xs d y_281 (0, [(0, .ref 176)], [], MH C t, 0) Pc nX) (hP : ∀ v h q, Pc v h q → v = none ∧ P (some (.int (nI 0))) h (sl + q)) : Wd L xs (d + 1) y_279 (0, [(0, .ref 176)], [], MH C t, sl) P nX := by
  refine w_p (pc1 := 1) rfl rfl ?_
  refine w_m0 (pc1 := 4) (st1 := .int 10 :: _) rfl rfl (h_gIe (j := 97) rfl rfl rfl rfl rfl (hs)) rfl ?_
  refine w_p (pc1 := 102) rfl rfl ?_
  refine w_p (pc1 := 103) rfl rfl ?_
  refine w_ji (pc1 := 106) (vs := [.ref 176]) (rest := []) (w) rfl rfl rfl (fun _ _ => rfl) rfl (by exact cl_v my_281 rfl rfl rfl (Nat.le_of_ble_eq_true rfl) rfl (MH_obj rfl rfl) rfl (by decide) rfl rfl) (by rfl) (Nat.le_of_ble_eq_true rfl) (Nat.le_of_ble_eq_true rfl) rfl (fun v h q hq => ?_) (fun _ _ _ e => e.elim)
  obtain ⟨rfl, hq2⟩ := hP _ _ _ hq
  refine w_p (pc1 := 107) (st1 := .int 0 :: _) rfl rfl ?_
  refine w_r rfl rfl rfl (fun _ _ => rfl) cr_int ?_
  exact hq2
set_option maxRecDepth 100000 in
theorem m_279_11 (hs : C.1 76 97 = 11) (hw : ∀ j, j < 24 → C.1 91 j = ck (wt j)) (hn : ∀ j, j < 24 → C.1 139 j = ck (nm j)) : Wd L xs d y_279 (0, [(0, .ref 176)], [], MH C t, sl) (fun v h q => some (.int (nI 0)) = v ∧ (∃ C2, flU C C2 91 24 (fun j => ck (wt j || nm j)) ∧ MH C2 t = h) ∧ sl = q) nX := by
  refine w_p (pc1 := 1) rfl rfl ?_
  refine w_m0 (pc1 := 4) (st1 := .int 11 :: _) rfl rfl (h_gIe (j := 97) rfl rfl rfl rfl rfl (hs)) rfl ?_
  refine w_p (pc1 := 108) rfl rfl ?_
  refine w_p (pc1 := 109) (st1 := .int 0 :: _) rfl rfl ?_
  refine w_p (pc1 := 110) (al1 := [(2, .int 0), (0, .ref 176)]) rfl rfl ?_
  refine lp_279 (C0 := C) (wt := wt) (nm := nm) hw hn (fun C2 F2 => ?_) 24 0 _ rfl flU_0
  refine w_p (pc1 := 152) (st1 := .int 0 :: _) rfl rfl ?_
  refine w_r rfl rfl rfl (fun _ _ => rfl) cr_int ?_
  exact ⟨rfl, ⟨C2, F2, rfl⟩, rfl⟩
set_option maxRecDepth 100000 in
theorem m_279_12 {Pc : Option Value → ab_H → Nat → Prop} (hs : C.1 76 97 = 12) (w : Wd L xs d y_283 (0, [(0, .ref 176)], [], MH C t, 0) Pc nX) (hP : ∀ v h q, Pc v h q → ∃ x, some (.int x) = v ∧ P v h (sl + q)) : Wd L xs (d + 1) y_279 (0, [(0, .ref 176)], [], MH C t, sl) P nX := by
  refine w_p (pc1 := 1) rfl rfl ?_
  refine w_m0 (pc1 := 4) (st1 := .int 12 :: _) rfl rfl (h_gIe (j := 97) rfl rfl rfl rfl rfl (hs)) rfl ?_
  refine w_p (pc1 := 153) rfl rfl ?_
  refine w_p (pc1 := 154) rfl rfl ?_
  refine w_ji (pc1 := 157) (vs := [.ref 176]) (rest := []) (w) rfl rfl rfl (fun _ _ => rfl) rfl (by exact cl_v my_283 rfl rfl rfl (Nat.le_of_ble_eq_true rfl) rfl (MH_obj rfl rfl) rfl (by decide) rfl rfl) (by rfl) (Nat.le_of_ble_eq_true rfl) (Nat.le_of_ble_eq_true rfl) rfl (fun v h q hq => ?_) (fun _ _ _ e => e.elim)
  obtain ⟨x, rfl, hq2⟩ := hP _ _ _ hq
  refine w_r rfl rfl rfl (fun _ _ => rfl) cr_int ?_
  exact hq2
end INS
