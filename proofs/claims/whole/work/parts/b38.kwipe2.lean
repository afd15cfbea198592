
/-! ONE SIDE: answers are wiped, 2; a table that isn't there is dropped -/
section FIM
variable {L : Nat} {xs : Nat → Int32} {B : Nat → Nat} {n m : Nat} {C C' C0 C1 : co_T} {t t0 t1 : ab_H} {d sl sl0 sl1 i i0 i1 j b e ti k k0 kc ks w c : Nat} {sc : sc_T} {row : Option Nat} {tg : Option (Nat × Nat)} {nl : Option Nat} {kd0 tb0 : Int32} {P : Option Value → ab_H → Nat → Prop} {X : Nat → ab_H → Nat → Prop} {cs : List Nat} {ss : List (Option (List op_T))} {E : fe_T} {tr : Nat → Option tr_T} {x : Int32}
set_option maxRecDepth 100000 in
theorem m_98n (hb : b < 6) (hT : isT C b = false) : Wd L xs (d + 1) y_98 (0, [(0, .ref 106), (1, .int (nI b))], [], MH C t, sl) (Rt none (MH C t) sl) nX := by
  refine w_p (pc1 := 1) rfl rfl ?_
  refine w_p (pc1 := 2) rfl rfl ?_
  refine w_je (pc1 := 5) (vs := [.ref 106, .int (nI (b))]) (rest := []) (st1 := [.int 0]) (m_33n (d := d) (sl := 0) hb hT) rfl rfl rfl (fun _ _ => rfl) rfl (by exact cl_v my_33 rfl rfl rfl (Nat.le_of_ble_eq_true rfl) rfl (MH_obj rfl rfl) rfl (by decide) rfl rfl) (by rfl) (Nat.le_of_ble_eq_true rfl) (Nat.le_of_ble_eq_true rfl) rfl (by rfl) ?_
  refine w_f (a := 9) (b := 8) rfl rfl rfl ?_
  refine w_r rfl rfl rfl (fun _ _ => rfl) rfl ?_
  exact ⟨rfl, rfl, rfl⟩
set_option maxRecDepth 100000 in
theorem m_8 : Wd L xs d y_8 (0, [(0, .int 8), (1, .int 0), (2, .int 5)], [], MH C t, sl) (Rt none (MH C t) sl) nX := by
  refine w_p (pc1 := 1) rfl rfl ?_
  refine w_p (pc1 := 2) rfl rfl ?_
  refine w_t (a := 46) (b := 5) rfl rfl rfl ?_
  refine w_p (pc1 := 47) rfl rfl ?_
  refine w_t (a := 59) (b := 50) rfl rfl rfl ?_
  refine w_p (pc1 := 60) rfl rfl ?_
  refine w_p (pc1 := 61) rfl rfl ?_
  refine w_t (a := 73) (b := 64) rfl rfl rfl ?_
  refine w_r rfl rfl rfl (fun _ _ => rfl) rfl ?_
  exact ⟨rfl, rfl, rfl⟩
set_option maxRecDepth 100000 in
theorem lp_7 (k : ∀ C', flU C0 C' 75 5 (fun _ => x) → Wd L xs d y_7 (27, [(4, .int (nI 5)), (0, .ref 175), (1, .int 0), (2, .int (nI 5)), (3, .int x)], [], MH C' t, sl) P X) : ∀ (f i : Nat) (C : co_T), i + f = 5 → flU C0 C 75 i (fun _ => x) → Wd L xs d y_7 (10, [(4, .int (nI i)), (0, .ref 175), (1, .int 0), (2, .int (nI 5)), (3, .int x)], [], MH C t, sl) P X
  | 0, i, C, hi, F => by
    obtain rfl : i = 5 := by omega
    refine w_p (pc1 := 12) rfl rfl ?_
    refine w_p (pc1 := 13) rfl rfl ?_
    refine w_t (a := 27) (b := 16) (bN_ge_t (a := 5) (b := 5) (by omega) (by omega) (by omega)) rfl rfl ?_
    exact k C F
  | f + 1, i, C, hi, F => by
    have ih := lp_7 k f (i + 1) (sI C 75 i x) (by omega) (flU_s F)
    refine w_p (pc1 := 12) rfl rfl ?_
    refine w_p (pc1 := 13) rfl rfl ?_
    refine w_f (a := 27) (b := 16) (bN_ge_f (a := i) (b := 5) (by omega) (by omega) (by omega)) rfl rfl ?_
    refine w_p (pc1 := 17) rfl rfl ?_
    refine w_p (pc1 := 19) rfl rfl ?_
    refine w_p (pc1 := 20) rfl rfl ?_
    refine w_m0 (pc1 := 21) rfl rfl (n_is (e := i) rfl rfl rfl (by omega)) rfl ?_
    refine w_iinc (pc1 := 24) (u := nI (i)) (z := nI (i + 1)) (al1 := [(4, .int (nI (i + 1))), (0, .ref 175), (1, .int 0), (2, .int (nI (5))), (3, .int (x))]) rfl rfl rfl nK_1 rfl rfl ?_
    refine w_p (pc1 := 10) rfl rfl ?_
    exact ih
set_option maxRecDepth 100000 in
theorem m_7 : Wd L xs (d + 1) y_7 (0, [(0, .ref 175), (1, .int 0), (2, .int 5), (3, .int x)], [], MH C t, sl) (fun v h q => none = v ∧ (∃ C', flU C C' 75 5 (fun _ => x) ∧ MH C' t = h) ∧ sl = q) nX := by
  refine w_p (pc1 := 1) rfl rfl ?_
  refine w_m0 (pc1 := 2) (st1 := .int 8 :: _) rfl rfl (h_lnI rfl rfl (by decide)) rfl ?_
  refine w_p (pc1 := 3) rfl rfl ?_
  refine w_p (pc1 := 4) rfl rfl ?_
  refine w_je (pc1 := 7) (vs := [.int 8, .int 0, .int 5]) (rest := []) (st1 := []) (m_8 (d := d) (sl := 0)) rfl rfl rfl (fun _ _ => cn_s rfl rfl rfl rfl) rfl (by exact cl_s my_8 rfl rfl rfl (Nat.le_of_ble_eq_true rfl) rfl rfl) (by rfl) (Nat.le_of_ble_eq_true rfl) (Nat.le_of_ble_eq_true rfl) rfl (by rfl) ?_
  refine w_p (pc1 := 8) rfl rfl ?_
  refine w_p (pc1 := 10) (al1 := [(4, .int 0), (0, .ref 175), (1, .int 0), (2, .int 5), (3, .int (x))]) rfl rfl ?_
  refine lp_7 (C0 := C) (fun C' F' => ?_) 5 0 _ rfl flU_0
  refine w_r rfl rfl rfl (fun _ _ => rfl) rfl ?_
  exact ⟨rfl, ⟨C', F', rfl⟩, rfl⟩
end FIM
