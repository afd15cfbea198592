
/-! THE OTHER SIDE: rule, trigger, broken -/
section MRU
variable {L : Nat} {xs : Nat → Int32} {B : Nat → Nat} {n m : Nat} {C C' C0 C1 : co_T} {t t0 t1 : ab_H} {d sl sl0 sl1 i i0 i1 j b e ti k k0 kc ks w c : Nat} {sc : sc_T} {row : Option Nat} {tg : Option (Nat × Nat)} {nl : Option Nat} {kd0 tb0 : Int32} {P : Option Value → ab_H → Nat → Prop} {X : Nat → ab_H → Nat → Prop} {cs : List Nat} {ss : List (Option (List op_T))} {E : fe_T} {tr : Nat → Option tr_T} {x r y z : Int32} {a : Int64} {nn : Nat} {u : ru_T} {wb : Bool} {g : tr_T} {Pc : Option Value → ab_H → Nat → Prop}
set_option maxRecDepth 100000 in
theorem lp_292 (hi : i < 24) (U : RUM C i u) (h6 : (rCs u).length ≤ 6) (k : Wd L xs d y_292 (83, [(4, .int (nI (rCs u).length)), (3, .int r), (0, .ref 176), (1, .int (nI i)), (2, .int y)], [], MH C t, sl) P X) : ∀ (suf pre : List Nat) (a : Int32), pre ++ suf = rCs u → bcs suf a = r → Wd L xs d y_292 (49, [(4, .int (nI pre.length)), (3, .int a), (0, .ref 176), (1, .int (nI i)), (2, .int y)], [], MH C t, sl) P X
  | [], pre, a, hp, hr => by
    have hl : pre.length = (rCs u).length := by rw [← hp]; simp
    rw [bcs] at hr
    subst hr
    have hm := U.1.2.2.2.1
    refine w_p (pc1 := 51) rfl rfl ?_
    refine w_p (pc1 := 52) rfl rfl ?_
    refine w_m0 (pc1 := 55) rfl rfl (h_gC rfl rfl rfl rfl) rfl ?_
    refine w_p (pc1 := 56) rfl rfl ?_
    refine w_m0 (pc1 := 57) (st1 := .int (nI ((rCs u).length)) :: _) rfl rfl (n_ile (e := i) rfl rfl rfl (by omega) (hm)) rfl ?_
    refine w_t (a := 83) (b := 60) (bN_ge_t (a := pre.length) (b := (rCs u).length) (by omega) (by omega) (by omega)) rfl rfl ?_
    rw [hl]
    exact k
  | c :: suf, pre, a, hp, hr => by
    have hl : pre.length + (suf.length + 1) = (rCs u).length := by rw [← hp]; simp
    have hm := U.1.2.2.2.1
    have hc : C.1 88 (6 * i + pre.length) = nI c := U.1.2.2.2.2.1 pre.length c (by rw [← hp]; simp)
    have ih := lp_292 hi U h6 k suf (pre ++ [c]) (orN a (nI c)) (by rw [← hp]; simp) (by rw [← hr, bcs])
    rw [show (pre ++ [c]).length = pre.length + 1 by simp] at ih
    refine w_p (pc1 := 51) rfl rfl ?_
    refine w_p (pc1 := 52) rfl rfl ?_
    refine w_m0 (pc1 := 55) rfl rfl (h_gC rfl rfl rfl rfl) rfl ?_
    refine w_p (pc1 := 56) rfl rfl ?_
    refine w_m0 (pc1 := 57) (st1 := .int (nI ((rCs u).length)) :: _) rfl rfl (n_ile (e := i) rfl rfl rfl (by omega) (hm)) rfl ?_
    refine w_f (a := 83) (b := 60) (bN_ge_f (a := pre.length) (b := (rCs u).length) (by omega) (by omega) (by omega)) rfl rfl ?_
    refine w_p (pc1 := 61) rfl rfl ?_
    refine w_p (pc1 := 62) (st1 := .int 1 :: _) rfl rfl ?_
    refine w_p (pc1 := 63) rfl rfl ?_
    refine w_m0 (pc1 := 66) rfl rfl (h_gC rfl rfl rfl rfl) rfl ?_
    refine w_p (pc1 := 68) (st1 := .int 6 :: _) rfl rfl ?_
    refine w_p (pc1 := 69) rfl rfl ?_
    refine w_imul (pc1 := 70) (u := nI (6)) (v := nI (i)) (z := nI (6 * i)) rfl (nK_mul) rfl ?_
    refine w_p (pc1 := 72) rfl rfl ?_
    refine w_iadd (pc1 := 73) (u := nI (6 * i)) (v := nI (pre.length)) (z := nI (6 * i + (pre.length))) rfl (nK_add) rfl ?_
    refine w_m0 (pc1 := 74) (st1 := .int (nI (c)) :: _) rfl rfl (n_ile (e := 6 * i + (pre.length)) rfl rfl rfl (by omega) (hc)) rfl ?_
    refine w_p (pc1 := 75) rfl rfl ?_
    refine w_p (pc1 := 76) rfl rfl ?_
    refine w_p (pc1 := 77) (al1 := [(3, _), (4, .int (nI (pre.length))), (0, .ref 176), (1, .int (nI (i))), (2, .int (y))]) rfl rfl ?_
    refine w_iinc (pc1 := 80) (u := nI (pre.length)) (z := nI (pre.length + 1)) (al1 := [(4, .int (nI (pre.length + 1))), (3, _), (0, .ref 176), (1, .int (nI (i))), (2, .int (y))]) rfl rfl rfl nK_1 rfl rfl ?_
    refine w_p (pc1 := 49) rfl rfl ?_
    exact ih
set_option maxRecDepth 100000 in
theorem m_292_0 (hi : i < 24) (hf : C.1 83 i = 1) (U : RUM C i u) (h6 : (rCs u).length ≤ 6) : Wd L xs (d + 1) y_292 (0, [(0, .ref 176), (1, .int (nI i)), (2, .int 0)], [], MH C t, sl) (Rt (some (.int (nI (rKd u)))) (MH (sI C 76 0 0) t) sl) nX := by
  refine w_p (pc1 := 1) rfl rfl ?_
  refine w_p (pc1 := 2) rfl rfl ?_
  refine w_p (pc1 := 3) rfl rfl ?_
  refine w_p (pc1 := 4) (st1 := .long 0 :: _) rfl rfl ?_
  refine w_m0 (pc1 := 7) (st1 := .long 23 :: _) rfl rfl rfl rfl ?_
  refine w_je (pc1 := 10) (vs := [_, .long 0, .long 23]) (rest := [.ref 176]) (st1 := [.int 1, .ref 176]) (m_189t (d := d) (sl := 0) (isIn_t (x := nI i) (m := 0) (n := 23) rfl rfl (by rw [nK_int (by omega)]; omega) (by rw [nK_int (by omega)]; omega))) rfl rfl rfl (fun _ _ => rfl) rfl (by exact cl_s my_189 rfl rfl rfl (Nat.le_of_ble_eq_true rfl) rfl rfl) (by rfl) (Nat.le_of_ble_eq_true rfl) (Nat.le_of_ble_eq_true rfl) rfl (by rfl) ?_
  refine w_f (a := 26) (b := 13) rfl rfl rfl ?_
  refine w_p (pc1 := 14) rfl rfl ?_
  refine w_m0 (pc1 := 17) rfl rfl (h_gC rfl rfl rfl rfl) rfl ?_
  refine w_p (pc1 := 18) rfl rfl ?_
  refine w_m0 (pc1 := 19) (st1 := .int 1 :: _) rfl rfl (n_ble (e := i) rfl rfl (by decide) rfl (by omega) (hf)) rfl ?_
  refine w_f (a := 26) (b := 22) rfl rfl rfl ?_
  refine w_p (pc1 := 23) (st1 := .int 1 :: _) rfl rfl ?_
  refine w_p (pc1 := 27) rfl rfl ?_
  refine w_p (pc1 := 28) rfl rfl ?_
  refine w_p (pc1 := 29) (st1 := .long 0 :: _) rfl rfl ?_
  refine w_p (pc1 := 30) (st1 := .long 0 :: _) rfl rfl ?_
  refine w_m0 (pc1 := 33) (st1 := .long 7 :: _) rfl rfl rfl rfl ?_
  refine w_je (pc1 := 36) (vs := [.long 0, .long 0, .long 7]) (rest := [.int 1, .ref 176]) (st1 := [.int 1, .int 1, .ref 176]) (m_189t (d := d) (sl := 0) (isIn_t (x := 0) (m := 0) (n := 7) rfl rfl (by decide) (by decide))) rfl rfl rfl (fun _ _ => rfl) rfl (by exact cl_s my_189 rfl rfl rfl (Nat.le_of_ble_eq_true rfl) rfl rfl) (by rfl) (Nat.le_of_ble_eq_true rfl) (Nat.le_of_ble_eq_true rfl) rfl (by rfl) ?_
  refine w_je (pc1 := 39) (vs := [.ref 176, .int 1, .int 1]) (rest := []) (st1 := [.int 1]) (m_190 (d := d) (sl := 0)) rfl rfl rfl (fun _ _ => rfl) rfl (by exact cl_v my_190 rfl rfl rfl (Nat.le_of_ble_eq_true rfl) rfl (MH_obj rfl rfl) rfl (by decide) rfl rfl) (by rfl) (Nat.le_of_ble_eq_true rfl) (Nat.le_of_ble_eq_true rfl) rfl (by rfl) ?_
  refine w_t (a := 44) (b := 42) rfl rfl rfl ?_
  refine w_p (pc1 := 45) (st1 := .int 0 :: _) rfl rfl ?_
  refine w_p (pc1 := 46) (al1 := [(3, .int 0), (0, .ref 176), (1, .int (nI (i))), (2, .int 0)]) rfl rfl ?_
  refine w_p (pc1 := 47) (st1 := .int 0 :: _) rfl rfl ?_
  refine w_p (pc1 := 49) (al1 := [(4, .int 0), (3, .int 0), (0, .ref 176), (1, .int (nI (i))), (2, .int 0)]) rfl rfl ?_
  refine lp_292 (C := sI C 76 0 0) (u := u) (r := bcs (rCs u) 0) hi U h6 ?_ (rCs u) [] 0 rfl rfl
  refine w_p (pc1 := 84) rfl rfl ?_
  refine w_p (pc1 := 128) rfl rfl ?_
  refine w_p (pc1 := 129) rfl rfl ?_
  refine w_m0 (pc1 := 132) rfl rfl (h_gC rfl rfl rfl rfl) rfl ?_
  refine w_p (pc1 := 133) rfl rfl ?_
  refine w_m0 (pc1 := 134) (st1 := .int (nI (rKd u)) :: _) rfl rfl (n_ile (e := i) rfl rfl rfl (by omega) (U.1.1)) rfl ?_
  refine w_r rfl rfl rfl (fun _ _ => rfl) cr_int ?_
  exact ⟨rfl, rfl, rfl⟩
set_option maxRecDepth 100000 in
theorem m_292_1 (hi : i < 24) (hf : C.1 83 i = 1) (U : RUM C i u) (h6 : (rCs u).length ≤ 6) : Wd L xs (d + 1) y_292 (0, [(0, .ref 176), (1, .int (nI i)), (2, .int 1)], [], MH C t, sl) (Rt (some (.int (nI (rTb u)))) (MH (sI C 76 0 0) t) sl) nX := by
  refine w_p (pc1 := 1) rfl rfl ?_
  refine w_p (pc1 := 2) rfl rfl ?_
  refine w_p (pc1 := 3) rfl rfl ?_
  refine w_p (pc1 := 4) (st1 := .long 0 :: _) rfl rfl ?_
  refine w_m0 (pc1 := 7) (st1 := .long 23 :: _) rfl rfl rfl rfl ?_
  refine w_je (pc1 := 10) (vs := [_, .long 0, .long 23]) (rest := [.ref 176]) (st1 := [.int 1, .ref 176]) (m_189t (d := d) (sl := 0) (isIn_t (x := nI i) (m := 0) (n := 23) rfl rfl (by rw [nK_int (by omega)]; omega) (by rw [nK_int (by omega)]; omega))) rfl rfl rfl (fun _ _ => rfl) rfl (by exact cl_s my_189 rfl rfl rfl (Nat.le_of_ble_eq_true rfl) rfl rfl) (by rfl) (Nat.le_of_ble_eq_true rfl) (Nat.le_of_ble_eq_true rfl) rfl (by rfl) ?_
  refine w_f (a := 26) (b := 13) rfl rfl rfl ?_
  refine w_p (pc1 := 14) rfl rfl ?_
  refine w_m0 (pc1 := 17) rfl rfl (h_gC rfl rfl rfl rfl) rfl ?_
  refine w_p (pc1 := 18) rfl rfl ?_
  refine w_m0 (pc1 := 19) (st1 := .int 1 :: _) rfl rfl (n_ble (e := i) rfl rfl (by decide) rfl (by omega) (hf)) rfl ?_
  refine w_f (a := 26) (b := 22) rfl rfl rfl ?_
  refine w_p (pc1 := 23) (st1 := .int 1 :: _) rfl rfl ?_
  refine w_p (pc1 := 27) rfl rfl ?_
  refine w_p (pc1 := 28) rfl rfl ?_
  refine w_p (pc1 := 29) (st1 := .long 1 :: _) rfl rfl ?_
  refine w_p (pc1 := 30) (st1 := .long 0 :: _) rfl rfl ?_
  refine w_m0 (pc1 := 33) (st1 := .long 7 :: _) rfl rfl rfl rfl ?_
  refine w_je (pc1 := 36) (vs := [.long 1, .long 0, .long 7]) (rest := [.int 1, .ref 176]) (st1 := [.int 1, .int 1, .ref 176]) (m_189t (d := d) (sl := 0) (isIn_t (x := 1) (m := 0) (n := 7) rfl rfl (by decide) (by decide))) rfl rfl rfl (fun _ _ => rfl) rfl (by exact cl_s my_189 rfl rfl rfl (Nat.le_of_ble_eq_true rfl) rfl rfl) (by rfl) (Nat.le_of_ble_eq_true rfl) (Nat.le_of_ble_eq_true rfl) rfl (by rfl) ?_
  refine w_je (pc1 := 39) (vs := [.ref 176, .int 1, .int 1]) (rest := []) (st1 := [.int 1]) (m_190 (d := d) (sl := 0)) rfl rfl rfl (fun _ _ => rfl) rfl (by exact cl_v my_190 rfl rfl rfl (Nat.le_of_ble_eq_true rfl) rfl (MH_obj rfl rfl) rfl (by decide) rfl rfl) (by rfl) (Nat.le_of_ble_eq_true rfl) (Nat.le_of_ble_eq_true rfl) rfl (by rfl) ?_
  refine w_t (a := 44) (b := 42) rfl rfl rfl ?_
  refine w_p (pc1 := 45) (st1 := .int 0 :: _) rfl rfl ?_
  refine w_p (pc1 := 46) (al1 := [(3, .int 0), (0, .ref 176), (1, .int (nI (i))), (2, .int 1)]) rfl rfl ?_
  refine w_p (pc1 := 47) (st1 := .int 0 :: _) rfl rfl ?_
  refine w_p (pc1 := 49) (al1 := [(4, .int 0), (3, .int 0), (0, .ref 176), (1, .int (nI (i))), (2, .int 1)]) rfl rfl ?_
  refine lp_292 (C := sI C 76 0 0) (u := u) (r := bcs (rCs u) 0) hi U h6 ?_ (rCs u) [] 0 rfl rfl
  refine w_p (pc1 := 84) rfl rfl ?_
  refine w_p (pc1 := 135) rfl rfl ?_
  refine w_p (pc1 := 136) rfl rfl ?_
  refine w_m0 (pc1 := 139) rfl rfl (h_gC rfl rfl rfl rfl) rfl ?_
  refine w_p (pc1 := 140) rfl rfl ?_
  refine w_m0 (pc1 := 141) (st1 := .int (nI (rTb u)) :: _) rfl rfl (n_ile (e := i) rfl rfl rfl (by omega) (U.1.2.1)) rfl ?_
  refine w_r rfl rfl rfl (fun _ _ => rfl) cr_int ?_
  exact ⟨rfl, rfl, rfl⟩
set_option maxRecDepth 100000 in
theorem m_292_2 (hi : i < 24) (hf : C.1 83 i = 1) (U : RUM C i u) (h6 : (rCs u).length ≤ 6) : Wd L xs (d + 1) y_292 (0, [(0, .ref 176), (1, .int (nI i)), (2, .int 2)], [], MH C t, sl) (Rt (some (.int (bcs (rCs u) 0))) (MH (sI C 76 0 0) t) sl) nX := by
  refine w_p (pc1 := 1) rfl rfl ?_
  refine w_p (pc1 := 2) rfl rfl ?_
  refine w_p (pc1 := 3) rfl rfl ?_
  refine w_p (pc1 := 4) (st1 := .long 0 :: _) rfl rfl ?_
  refine w_m0 (pc1 := 7) (st1 := .long 23 :: _) rfl rfl rfl rfl ?_
  refine w_je (pc1 := 10) (vs := [_, .long 0, .long 23]) (rest := [.ref 176]) (st1 := [.int 1, .ref 176]) (m_189t (d := d) (sl := 0) (isIn_t (x := nI i) (m := 0) (n := 23) rfl rfl (by rw [nK_int (by omega)]; omega) (by rw [nK_int (by omega)]; omega))) rfl rfl rfl (fun _ _ => rfl) rfl (by exact cl_s my_189 rfl rfl rfl (Nat.le_of_ble_eq_true rfl) rfl rfl) (by rfl) (Nat.le_of_ble_eq_true rfl) (Nat.le_of_ble_eq_true rfl) rfl (by rfl) ?_
  refine w_f (a := 26) (b := 13) rfl rfl rfl ?_
  refine w_p (pc1 := 14) rfl rfl ?_
  refine w_m0 (pc1 := 17) rfl rfl (h_gC rfl rfl rfl rfl) rfl ?_
  refine w_p (pc1 := 18) rfl rfl ?_
  refine w_m0 (pc1 := 19) (st1 := .int 1 :: _) rfl rfl (n_ble (e := i) rfl rfl (by decide) rfl (by omega) (hf)) rfl ?_
  refine w_f (a := 26) (b := 22) rfl rfl rfl ?_
  refine w_p (pc1 := 23) (st1 := .int 1 :: _) rfl rfl ?_
  refine w_p (pc1 := 27) rfl rfl ?_
  refine w_p (pc1 := 28) rfl rfl ?_
  refine w_p (pc1 := 29) (st1 := .long 2 :: _) rfl rfl ?_
  refine w_p (pc1 := 30) (st1 := .long 0 :: _) rfl rfl ?_
  refine w_m0 (pc1 := 33) (st1 := .long 7 :: _) rfl rfl rfl rfl ?_
  refine w_je (pc1 := 36) (vs := [.long 2, .long 0, .long 7]) (rest := [.int 1, .ref 176]) (st1 := [.int 1, .int 1, .ref 176]) (m_189t (d := d) (sl := 0) (isIn_t (x := 2) (m := 0) (n := 7) rfl rfl (by decide) (by decide))) rfl rfl rfl (fun _ _ => rfl) rfl (by exact cl_s my_189 rfl rfl rfl (Nat.le_of_ble_eq_true rfl) rfl rfl) (by rfl) (Nat.le_of_ble_eq_true rfl) (Nat.le_of_ble_eq_true rfl) rfl (by rfl) ?_
  refine w_je (pc1 := 39) (vs := [.ref 176, .int 1, .int 1]) (rest := []) (st1 := [.int 1]) (m_190 (d := d) (sl := 0)) rfl rfl rfl (fun _ _ => rfl) rfl (by exact cl_v my_190 rfl rfl rfl (Nat.le_of_ble_eq_true rfl) rfl (MH_obj rfl rfl) rfl (by decide) rfl rfl) (by rfl) (Nat.le_of_ble_eq_true rfl) (Nat.le_of_ble_eq_true rfl) rfl (by rfl) ?_
  refine w_t (a := 44) (b := 42) rfl rfl rfl ?_
  refine w_p (pc1 := 45) (st1 := .int 0 :: _) rfl rfl ?_
  refine w_p (pc1 := 46) (al1 := [(3, .int 0), (0, .ref 176), (1, .int (nI (i))), (2, .int 2)]) rfl rfl ?_
  refine w_p (pc1 := 47) (st1 := .int 0 :: _) rfl rfl ?_
  refine w_p (pc1 := 49) (al1 := [(4, .int 0), (3, .int 0), (0, .ref 176), (1, .int (nI (i))), (2, .int 2)]) rfl rfl ?_
  refine lp_292 (C := sI C 76 0 0) (u := u) (r := bcs (rCs u) 0) hi U h6 ?_ (rCs u) [] 0 rfl rfl
  refine w_p (pc1 := 84) rfl rfl ?_
  refine w_p (pc1 := 142) rfl rfl ?_
  refine w_p (pc1 := 143) rfl rfl ?_
  refine w_r rfl rfl rfl (fun _ _ => rfl) cr_int ?_
  exact ⟨rfl, rfl, rfl⟩
set_option maxRecDepth 100000 in
theorem m_292_3 (hi : i < 24) (hf : C.1 83 i = 1) (U : RUM C i u) (h6 : (rCs u).length ≤ 6) : Wd L xs (d + 1) y_292 (0, [(0, .ref 176), (1, .int (nI i)), (2, .int 3)], [], MH C t, sl) (Rt (some (.int (tgI (rTg u)))) (MH (sI C 76 0 0) t) sl) nX := by
  refine w_p (pc1 := 1) rfl rfl ?_
  refine w_p (pc1 := 2) rfl rfl ?_
  refine w_p (pc1 := 3) rfl rfl ?_
  refine w_p (pc1 := 4) (st1 := .long 0 :: _) rfl rfl ?_
  refine w_m0 (pc1 := 7) (st1 := .long 23 :: _) rfl rfl rfl rfl ?_
  refine w_je (pc1 := 10) (vs := [_, .long 0, .long 23]) (rest := [.ref 176]) (st1 := [.int 1, .ref 176]) (m_189t (d := d) (sl := 0) (isIn_t (x := nI i) (m := 0) (n := 23) rfl rfl (by rw [nK_int (by omega)]; omega) (by rw [nK_int (by omega)]; omega))) rfl rfl rfl (fun _ _ => rfl) rfl (by exact cl_s my_189 rfl rfl rfl (Nat.le_of_ble_eq_true rfl) rfl rfl) (by rfl) (Nat.le_of_ble_eq_true rfl) (Nat.le_of_ble_eq_true rfl) rfl (by rfl) ?_
  refine w_f (a := 26) (b := 13) rfl rfl rfl ?_
  refine w_p (pc1 := 14) rfl rfl ?_
  refine w_m0 (pc1 := 17) rfl rfl (h_gC rfl rfl rfl rfl) rfl ?_
  refine w_p (pc1 := 18) rfl rfl ?_
  refine w_m0 (pc1 := 19) (st1 := .int 1 :: _) rfl rfl (n_ble (e := i) rfl rfl (by decide) rfl (by omega) (hf)) rfl ?_
  refine w_f (a := 26) (b := 22) rfl rfl rfl ?_
  refine w_p (pc1 := 23) (st1 := .int 1 :: _) rfl rfl ?_
  refine w_p (pc1 := 27) rfl rfl ?_
  refine w_p (pc1 := 28) rfl rfl ?_
  refine w_p (pc1 := 29) (st1 := .long 3 :: _) rfl rfl ?_
  refine w_p (pc1 := 30) (st1 := .long 0 :: _) rfl rfl ?_
  refine w_m0 (pc1 := 33) (st1 := .long 7 :: _) rfl rfl rfl rfl ?_
  refine w_je (pc1 := 36) (vs := [.long 3, .long 0, .long 7]) (rest := [.int 1, .ref 176]) (st1 := [.int 1, .int 1, .ref 176]) (m_189t (d := d) (sl := 0) (isIn_t (x := 3) (m := 0) (n := 7) rfl rfl (by decide) (by decide))) rfl rfl rfl (fun _ _ => rfl) rfl (by exact cl_s my_189 rfl rfl rfl (Nat.le_of_ble_eq_true rfl) rfl rfl) (by rfl) (Nat.le_of_ble_eq_true rfl) (Nat.le_of_ble_eq_true rfl) rfl (by rfl) ?_
  refine w_je (pc1 := 39) (vs := [.ref 176, .int 1, .int 1]) (rest := []) (st1 := [.int 1]) (m_190 (d := d) (sl := 0)) rfl rfl rfl (fun _ _ => rfl) rfl (by exact cl_v my_190 rfl rfl rfl (Nat.le_of_ble_eq_true rfl) rfl (MH_obj rfl rfl) rfl (by decide) rfl rfl) (by rfl) (Nat.le_of_ble_eq_true rfl) (Nat.le_of_ble_eq_true rfl) rfl (by rfl) ?_
  refine w_t (a := 44) (b := 42) rfl rfl rfl ?_
  refine w_p (pc1 := 45) (st1 := .int 0 :: _) rfl rfl ?_
  refine w_p (pc1 := 46) (al1 := [(3, .int 0), (0, .ref 176), (1, .int (nI (i))), (2, .int 3)]) rfl rfl ?_
  refine w_p (pc1 := 47) (st1 := .int 0 :: _) rfl rfl ?_
  refine w_p (pc1 := 49) (al1 := [(4, .int 0), (3, .int 0), (0, .ref 176), (1, .int (nI (i))), (2, .int 3)]) rfl rfl ?_
  refine lp_292 (C := sI C 76 0 0) (u := u) (r := bcs (rCs u) 0) hi U h6 ?_ (rCs u) [] 0 rfl rfl
  refine w_p (pc1 := 84) rfl rfl ?_
  refine w_p (pc1 := 144) rfl rfl ?_
  refine w_p (pc1 := 145) rfl rfl ?_
  refine w_m0 (pc1 := 148) rfl rfl (h_gC rfl rfl rfl rfl) rfl ?_
  refine w_p (pc1 := 149) rfl rfl ?_
  refine w_m0 (pc1 := 150) (st1 := .int (tgI (rTg u)) :: _) rfl rfl (n_ile (e := i) rfl rfl rfl (by omega) (U.1.2.2.1)) rfl ?_
  refine w_r rfl rfl rfl (fun _ _ => rfl) cr_int ?_
  exact ⟨rfl, rfl, rfl⟩
set_option maxRecDepth 100000 in
theorem m_292_4 (hi : i < 24) (hf : C.1 83 i = 1) (U : RUM C i u) (h6 : (rCs u).length ≤ 6) : Wd L xs (d + 1) y_292 (0, [(0, .ref 176), (1, .int (nI i)), (2, .int 4)], [], MH C t, sl) (Rt (some (.int (ck (rLt u)))) (MH (sI C 76 0 0) t) sl) nX := by
  refine w_p (pc1 := 1) rfl rfl ?_
  refine w_p (pc1 := 2) rfl rfl ?_
  refine w_p (pc1 := 3) rfl rfl ?_
  refine w_p (pc1 := 4) (st1 := .long 0 :: _) rfl rfl ?_
  refine w_m0 (pc1 := 7) (st1 := .long 23 :: _) rfl rfl rfl rfl ?_
  refine w_je (pc1 := 10) (vs := [_, .long 0, .long 23]) (rest := [.ref 176]) (st1 := [.int 1, .ref 176]) (m_189t (d := d) (sl := 0) (isIn_t (x := nI i) (m := 0) (n := 23) rfl rfl (by rw [nK_int (by omega)]; omega) (by rw [nK_int (by omega)]; omega))) rfl rfl rfl (fun _ _ => rfl) rfl (by exact cl_s my_189 rfl rfl rfl (Nat.le_of_ble_eq_true rfl) rfl rfl) (by rfl) (Nat.le_of_ble_eq_true rfl) (Nat.le_of_ble_eq_true rfl) rfl (by rfl) ?_
  refine w_f (a := 26) (b := 13) rfl rfl rfl ?_
  refine w_p (pc1 := 14) rfl rfl ?_
  refine w_m0 (pc1 := 17) rfl rfl (h_gC rfl rfl rfl rfl) rfl ?_
  refine w_p (pc1 := 18) rfl rfl ?_
  refine w_m0 (pc1 := 19) (st1 := .int 1 :: _) rfl rfl (n_ble (e := i) rfl rfl (by decide) rfl (by omega) (hf)) rfl ?_
  refine w_f (a := 26) (b := 22) rfl rfl rfl ?_
  refine w_p (pc1 := 23) (st1 := .int 1 :: _) rfl rfl ?_
  refine w_p (pc1 := 27) rfl rfl ?_
  refine w_p (pc1 := 28) rfl rfl ?_
  refine w_p (pc1 := 29) (st1 := .long 4 :: _) rfl rfl ?_
  refine w_p (pc1 := 30) (st1 := .long 0 :: _) rfl rfl ?_
  refine w_m0 (pc1 := 33) (st1 := .long 7 :: _) rfl rfl rfl rfl ?_
  refine w_je (pc1 := 36) (vs := [.long 4, .long 0, .long 7]) (rest := [.int 1, .ref 176]) (st1 := [.int 1, .int 1, .ref 176]) (m_189t (d := d) (sl := 0) (isIn_t (x := 4) (m := 0) (n := 7) rfl rfl (by decide) (by decide))) rfl rfl rfl (fun _ _ => rfl) rfl (by exact cl_s my_189 rfl rfl rfl (Nat.le_of_ble_eq_true rfl) rfl rfl) (by rfl) (Nat.le_of_ble_eq_true rfl) (Nat.le_of_ble_eq_true rfl) rfl (by rfl) ?_
  refine w_je (pc1 := 39) (vs := [.ref 176, .int 1, .int 1]) (rest := []) (st1 := [.int 1]) (m_190 (d := d) (sl := 0)) rfl rfl rfl (fun _ _ => rfl) rfl (by exact cl_v my_190 rfl rfl rfl (Nat.le_of_ble_eq_true rfl) rfl (MH_obj rfl rfl) rfl (by decide) rfl rfl) (by rfl) (Nat.le_of_ble_eq_true rfl) (Nat.le_of_ble_eq_true rfl) rfl (by rfl) ?_
  refine w_t (a := 44) (b := 42) rfl rfl rfl ?_
  refine w_p (pc1 := 45) (st1 := .int 0 :: _) rfl rfl ?_
  refine w_p (pc1 := 46) (al1 := [(3, .int 0), (0, .ref 176), (1, .int (nI (i))), (2, .int 4)]) rfl rfl ?_
  refine w_p (pc1 := 47) (st1 := .int 0 :: _) rfl rfl ?_
  refine w_p (pc1 := 49) (al1 := [(4, .int 0), (3, .int 0), (0, .ref 176), (1, .int (nI (i))), (2, .int 4)]) rfl rfl ?_
  refine lp_292 (C := sI C 76 0 0) (u := u) (r := bcs (rCs u) 0) hi U h6 ?_ (rCs u) [] 0 rfl rfl
  have hz : C.1 90 i = ck (rLt u) := U.2.1.1
  cases eb : rLt u with
  | true =>
    rw [eb] at hz
    refine w_p (pc1 := 84) rfl rfl ?_
    refine w_p (pc1 := 151) rfl rfl ?_
    refine w_p (pc1 := 152) rfl rfl ?_
    refine w_m0 (pc1 := 155) rfl rfl (h_gC rfl rfl rfl rfl) rfl ?_
    refine w_p (pc1 := 156) rfl rfl ?_
    refine w_m0 (pc1 := 157) (st1 := .int 1 :: _) rfl rfl (n_ble (e := i) rfl rfl (by decide) rfl (by omega) (hz)) rfl ?_
    refine w_f (a := 164) (b := 160) rfl rfl rfl ?_
    refine w_p (pc1 := 161) (st1 := .int 1 :: _) rfl rfl ?_
    refine w_p (pc1 := 165) rfl rfl ?_
    refine w_r rfl rfl rfl (fun _ _ => rfl) cr_int ?_
    exact ⟨rfl, rfl, rfl⟩
  | false =>
    rw [eb] at hz
    refine w_p (pc1 := 84) rfl rfl ?_
    refine w_p (pc1 := 151) rfl rfl ?_
    refine w_p (pc1 := 152) rfl rfl ?_
    refine w_m0 (pc1 := 155) rfl rfl (h_gC rfl rfl rfl rfl) rfl ?_
    refine w_p (pc1 := 156) rfl rfl ?_
    refine w_m0 (pc1 := 157) (st1 := .int 0 :: _) rfl rfl (n_ble (e := i) rfl rfl (by decide) rfl (by omega) (hz)) rfl ?_
    refine w_t (a := 164) (b := 160) rfl rfl rfl ?_
    refine w_p (pc1 := 165) (st1 := .int 0 :: _) rfl rfl ?_
    refine w_r rfl rfl rfl (fun _ _ => rfl) cr_int ?_
    exact ⟨rfl, rfl, rfl⟩
set_option maxRecDepth 100000 in
theorem m_292_5 (hi : i < 24) (hf : C.1 83 i = 1) (U : RUM C i u) (h6 : (rCs u).length ≤ 6) (hw : C.1 91 i = ck wb) : Wd L xs (d + 1) y_292 (0, [(0, .ref 176), (1, .int (nI i)), (2, .int 5)], [], MH C t, sl) (Rt (some (.int (ck wb))) (MH (sI C 76 0 0) t) sl) nX := by
  refine w_p (pc1 := 1) rfl rfl ?_
  refine w_p (pc1 := 2) rfl rfl ?_
  refine w_p (pc1 := 3) rfl rfl ?_
  refine w_p (pc1 := 4) (st1 := .long 0 :: _) rfl rfl ?_
  refine w_m0 (pc1 := 7) (st1 := .long 23 :: _) rfl rfl rfl rfl ?_
  refine w_je (pc1 := 10) (vs := [_, .long 0, .long 23]) (rest := [.ref 176]) (st1 := [.int 1, .ref 176]) (m_189t (d := d) (sl := 0) (isIn_t (x := nI i) (m := 0) (n := 23) rfl rfl (by rw [nK_int (by omega)]; omega) (by rw [nK_int (by omega)]; omega))) rfl rfl rfl (fun _ _ => rfl) rfl (by exact cl_s my_189 rfl rfl rfl (Nat.le_of_ble_eq_true rfl) rfl rfl) (by rfl) (Nat.le_of_ble_eq_true rfl) (Nat.le_of_ble_eq_true rfl) rfl (by rfl) ?_
  refine w_f (a := 26) (b := 13) rfl rfl rfl ?_
  refine w_p (pc1 := 14) rfl rfl ?_
  refine w_m0 (pc1 := 17) rfl rfl (h_gC rfl rfl rfl rfl) rfl ?_
  refine w_p (pc1 := 18) rfl rfl ?_
  refine w_m0 (pc1 := 19) (st1 := .int 1 :: _) rfl rfl (n_ble (e := i) rfl rfl (by decide) rfl (by omega) (hf)) rfl ?_
  refine w_f (a := 26) (b := 22) rfl rfl rfl ?_
  refine w_p (pc1 := 23) (st1 := .int 1 :: _) rfl rfl ?_
  refine w_p (pc1 := 27) rfl rfl ?_
  refine w_p (pc1 := 28) rfl rfl ?_
  refine w_p (pc1 := 29) (st1 := .long 5 :: _) rfl rfl ?_
  refine w_p (pc1 := 30) (st1 := .long 0 :: _) rfl rfl ?_
  refine w_m0 (pc1 := 33) (st1 := .long 7 :: _) rfl rfl rfl rfl ?_
  refine w_je (pc1 := 36) (vs := [.long 5, .long 0, .long 7]) (rest := [.int 1, .ref 176]) (st1 := [.int 1, .int 1, .ref 176]) (m_189t (d := d) (sl := 0) (isIn_t (x := 5) (m := 0) (n := 7) rfl rfl (by decide) (by decide))) rfl rfl rfl (fun _ _ => rfl) rfl (by exact cl_s my_189 rfl rfl rfl (Nat.le_of_ble_eq_true rfl) rfl rfl) (by rfl) (Nat.le_of_ble_eq_true rfl) (Nat.le_of_ble_eq_true rfl) rfl (by rfl) ?_
  refine w_je (pc1 := 39) (vs := [.ref 176, .int 1, .int 1]) (rest := []) (st1 := [.int 1]) (m_190 (d := d) (sl := 0)) rfl rfl rfl (fun _ _ => rfl) rfl (by exact cl_v my_190 rfl rfl rfl (Nat.le_of_ble_eq_true rfl) rfl (MH_obj rfl rfl) rfl (by decide) rfl rfl) (by rfl) (Nat.le_of_ble_eq_true rfl) (Nat.le_of_ble_eq_true rfl) rfl (by rfl) ?_
  refine w_t (a := 44) (b := 42) rfl rfl rfl ?_
  refine w_p (pc1 := 45) (st1 := .int 0 :: _) rfl rfl ?_
  refine w_p (pc1 := 46) (al1 := [(3, .int 0), (0, .ref 176), (1, .int (nI (i))), (2, .int 5)]) rfl rfl ?_
  refine w_p (pc1 := 47) (st1 := .int 0 :: _) rfl rfl ?_
  refine w_p (pc1 := 49) (al1 := [(4, .int 0), (3, .int 0), (0, .ref 176), (1, .int (nI (i))), (2, .int 5)]) rfl rfl ?_
  refine lp_292 (C := sI C 76 0 0) (u := u) (r := bcs (rCs u) 0) hi U h6 ?_ (rCs u) [] 0 rfl rfl
  have hz : C.1 91 i = ck wb := hw
  cases eb : wb with
  | true =>
    rw [eb] at hz
    refine w_p (pc1 := 84) rfl rfl ?_
    refine w_p (pc1 := 166) rfl rfl ?_
    refine w_p (pc1 := 167) rfl rfl ?_
    refine w_m0 (pc1 := 170) rfl rfl (h_gC rfl rfl rfl rfl) rfl ?_
    refine w_p (pc1 := 171) rfl rfl ?_
    refine w_m0 (pc1 := 172) (st1 := .int 1 :: _) rfl rfl (n_ble (e := i) rfl rfl (by decide) rfl (by omega) (hz)) rfl ?_
    refine w_f (a := 179) (b := 175) rfl rfl rfl ?_
    refine w_p (pc1 := 176) (st1 := .int 1 :: _) rfl rfl ?_
    refine w_p (pc1 := 180) rfl rfl ?_
    refine w_r rfl rfl rfl (fun _ _ => rfl) cr_int ?_
    exact ⟨rfl, rfl, rfl⟩
  | false =>
    rw [eb] at hz
    refine w_p (pc1 := 84) rfl rfl ?_
    refine w_p (pc1 := 166) rfl rfl ?_
    refine w_p (pc1 := 167) rfl rfl ?_
    refine w_m0 (pc1 := 170) rfl rfl (h_gC rfl rfl rfl rfl) rfl ?_
    refine w_p (pc1 := 171) rfl rfl ?_
    refine w_m0 (pc1 := 172) (st1 := .int 0 :: _) rfl rfl (n_ble (e := i) rfl rfl (by decide) rfl (by omega) (hz)) rfl ?_
    refine w_t (a := 179) (b := 175) rfl rfl rfl ?_
    refine w_p (pc1 := 180) (st1 := .int 0 :: _) rfl rfl ?_
    refine w_r rfl rfl rfl (fun _ _ => rfl) cr_int ?_
    exact ⟨rfl, rfl, rfl⟩
set_option maxRecDepth 100000 in
theorem m_292_6 (hi : i < 24) (hf : C.1 83 i = 1) (U : RUM C i u) (h6 : (rCs u).length ≤ 6) : Wd L xs (d + 1) y_292 (0, [(0, .ref 176), (1, .int (nI i)), (2, .int 6)], [], MH C t, sl) (Rt (some (.int (nI (rDl u)))) (MH (sI C 76 0 0) t) sl) nX := by
  refine w_p (pc1 := 1) rfl rfl ?_
  refine w_p (pc1 := 2) rfl rfl ?_
  refine w_p (pc1 := 3) rfl rfl ?_
  refine w_p (pc1 := 4) (st1 := .long 0 :: _) rfl rfl ?_
  refine w_m0 (pc1 := 7) (st1 := .long 23 :: _) rfl rfl rfl rfl ?_
  refine w_je (pc1 := 10) (vs := [_, .long 0, .long 23]) (rest := [.ref 176]) (st1 := [.int 1, .ref 176]) (m_189t (d := d) (sl := 0) (isIn_t (x := nI i) (m := 0) (n := 23) rfl rfl (by rw [nK_int (by omega)]; omega) (by rw [nK_int (by omega)]; omega))) rfl rfl rfl (fun _ _ => rfl) rfl (by exact cl_s my_189 rfl rfl rfl (Nat.le_of_ble_eq_true rfl) rfl rfl) (by rfl) (Nat.le_of_ble_eq_true rfl) (Nat.le_of_ble_eq_true rfl) rfl (by rfl) ?_
  refine w_f (a := 26) (b := 13) rfl rfl rfl ?_
  refine w_p (pc1 := 14) rfl rfl ?_
  refine w_m0 (pc1 := 17) rfl rfl (h_gC rfl rfl rfl rfl) rfl ?_
  refine w_p (pc1 := 18) rfl rfl ?_
  refine w_m0 (pc1 := 19) (st1 := .int 1 :: _) rfl rfl (n_ble (e := i) rfl rfl (by decide) rfl (by omega) (hf)) rfl ?_
  refine w_f (a := 26) (b := 22) rfl rfl rfl ?_
  refine w_p (pc1 := 23) (st1 := .int 1 :: _) rfl rfl ?_
  refine w_p (pc1 := 27) rfl rfl ?_
  refine w_p (pc1 := 28) rfl rfl ?_
  refine w_p (pc1 := 29) (st1 := .long 6 :: _) rfl rfl ?_
  refine w_p (pc1 := 30) (st1 := .long 0 :: _) rfl rfl ?_
  refine w_m0 (pc1 := 33) (st1 := .long 7 :: _) rfl rfl rfl rfl ?_
  refine w_je (pc1 := 36) (vs := [.long 6, .long 0, .long 7]) (rest := [.int 1, .ref 176]) (st1 := [.int 1, .int 1, .ref 176]) (m_189t (d := d) (sl := 0) (isIn_t (x := 6) (m := 0) (n := 7) rfl rfl (by decide) (by decide))) rfl rfl rfl (fun _ _ => rfl) rfl (by exact cl_s my_189 rfl rfl rfl (Nat.le_of_ble_eq_true rfl) rfl rfl) (by rfl) (Nat.le_of_ble_eq_true rfl) (Nat.le_of_ble_eq_true rfl) rfl (by rfl) ?_
  refine w_je (pc1 := 39) (vs := [.ref 176, .int 1, .int 1]) (rest := []) (st1 := [.int 1]) (m_190 (d := d) (sl := 0)) rfl rfl rfl (fun _ _ => rfl) rfl (by exact cl_v my_190 rfl rfl rfl (Nat.le_of_ble_eq_true rfl) rfl (MH_obj rfl rfl) rfl (by decide) rfl rfl) (by rfl) (Nat.le_of_ble_eq_true rfl) (Nat.le_of_ble_eq_true rfl) rfl (by rfl) ?_
  refine w_t (a := 44) (b := 42) rfl rfl rfl ?_
  refine w_p (pc1 := 45) (st1 := .int 0 :: _) rfl rfl ?_
  refine w_p (pc1 := 46) (al1 := [(3, .int 0), (0, .ref 176), (1, .int (nI (i))), (2, .int 6)]) rfl rfl ?_
  refine w_p (pc1 := 47) (st1 := .int 0 :: _) rfl rfl ?_
  refine w_p (pc1 := 49) (al1 := [(4, .int 0), (3, .int 0), (0, .ref 176), (1, .int (nI (i))), (2, .int 6)]) rfl rfl ?_
  refine lp_292 (C := sI C 76 0 0) (u := u) (r := bcs (rCs u) 0) hi U h6 ?_ (rCs u) [] 0 rfl rfl
  refine w_p (pc1 := 84) rfl rfl ?_
  refine w_p (pc1 := 181) rfl rfl ?_
  refine w_p (pc1 := 182) rfl rfl ?_
  refine w_m0 (pc1 := 185) rfl rfl (h_gC rfl rfl rfl rfl) rfl ?_
  refine w_p (pc1 := 186) rfl rfl ?_
  refine w_m0 (pc1 := 187) (st1 := .int (nI (rDl u)) :: _) rfl rfl (n_ile (e := i) rfl rfl rfl (by omega) (U.2.1.2.1)) rfl ?_
  refine w_r rfl rfl rfl (fun _ _ => rfl) cr_int ?_
  exact ⟨rfl, rfl, rfl⟩
set_option maxRecDepth 100000 in
theorem m_292_7 (hi : i < 24) (hf : C.1 83 i = 1) (U : RUM C i u) (h6 : (rCs u).length ≤ 6) : Wd L xs (d + 1) y_292 (0, [(0, .ref 176), (1, .int (nI i)), (2, .int 7)], [], MH C t, sl) (Rt (some (.int (nI (rUp u)))) (MH (sI C 76 0 0) t) sl) nX := by
  refine w_p (pc1 := 1) rfl rfl ?_
  refine w_p (pc1 := 2) rfl rfl ?_
  refine w_p (pc1 := 3) rfl rfl ?_
  refine w_p (pc1 := 4) (st1 := .long 0 :: _) rfl rfl ?_
  refine w_m0 (pc1 := 7) (st1 := .long 23 :: _) rfl rfl rfl rfl ?_
  refine w_je (pc1 := 10) (vs := [_, .long 0, .long 23]) (rest := [.ref 176]) (st1 := [.int 1, .ref 176]) (m_189t (d := d) (sl := 0) (isIn_t (x := nI i) (m := 0) (n := 23) rfl rfl (by rw [nK_int (by omega)]; omega) (by rw [nK_int (by omega)]; omega))) rfl rfl rfl (fun _ _ => rfl) rfl (by exact cl_s my_189 rfl rfl rfl (Nat.le_of_ble_eq_true rfl) rfl rfl) (by rfl) (Nat.le_of_ble_eq_true rfl) (Nat.le_of_ble_eq_true rfl) rfl (by rfl) ?_
  refine w_f (a := 26) (b := 13) rfl rfl rfl ?_
  refine w_p (pc1 := 14) rfl rfl ?_
  refine w_m0 (pc1 := 17) rfl rfl (h_gC rfl rfl rfl rfl) rfl ?_
  refine w_p (pc1 := 18) rfl rfl ?_
  refine w_m0 (pc1 := 19) (st1 := .int 1 :: _) rfl rfl (n_ble (e := i) rfl rfl (by decide) rfl (by omega) (hf)) rfl ?_
  refine w_f (a := 26) (b := 22) rfl rfl rfl ?_
  refine w_p (pc1 := 23) (st1 := .int 1 :: _) rfl rfl ?_
  refine w_p (pc1 := 27) rfl rfl ?_
  refine w_p (pc1 := 28) rfl rfl ?_
  refine w_p (pc1 := 29) (st1 := .long 7 :: _) rfl rfl ?_
  refine w_p (pc1 := 30) (st1 := .long 0 :: _) rfl rfl ?_
  refine w_m0 (pc1 := 33) (st1 := .long 7 :: _) rfl rfl rfl rfl ?_
  refine w_je (pc1 := 36) (vs := [.long 7, .long 0, .long 7]) (rest := [.int 1, .ref 176]) (st1 := [.int 1, .int 1, .ref 176]) (m_189t (d := d) (sl := 0) (isIn_t (x := 7) (m := 0) (n := 7) rfl rfl (by decide) (by decide))) rfl rfl rfl (fun _ _ => rfl) rfl (by exact cl_s my_189 rfl rfl rfl (Nat.le_of_ble_eq_true rfl) rfl rfl) (by rfl) (Nat.le_of_ble_eq_true rfl) (Nat.le_of_ble_eq_true rfl) rfl (by rfl) ?_
  refine w_je (pc1 := 39) (vs := [.ref 176, .int 1, .int 1]) (rest := []) (st1 := [.int 1]) (m_190 (d := d) (sl := 0)) rfl rfl rfl (fun _ _ => rfl) rfl (by exact cl_v my_190 rfl rfl rfl (Nat.le_of_ble_eq_true rfl) rfl (MH_obj rfl rfl) rfl (by decide) rfl rfl) (by rfl) (Nat.le_of_ble_eq_true rfl) (Nat.le_of_ble_eq_true rfl) rfl (by rfl) ?_
  refine w_t (a := 44) (b := 42) rfl rfl rfl ?_
  refine w_p (pc1 := 45) (st1 := .int 0 :: _) rfl rfl ?_
  refine w_p (pc1 := 46) (al1 := [(3, .int 0), (0, .ref 176), (1, .int (nI (i))), (2, .int 7)]) rfl rfl ?_
  refine w_p (pc1 := 47) (st1 := .int 0 :: _) rfl rfl ?_
  refine w_p (pc1 := 49) (al1 := [(4, .int 0), (3, .int 0), (0, .ref 176), (1, .int (nI (i))), (2, .int 7)]) rfl rfl ?_
  refine lp_292 (C := sI C 76 0 0) (u := u) (r := bcs (rCs u) 0) hi U h6 ?_ (rCs u) [] 0 rfl rfl
  refine w_p (pc1 := 84) rfl rfl ?_
  refine w_p (pc1 := 188) rfl rfl ?_
  refine w_p (pc1 := 189) rfl rfl ?_
  refine w_m0 (pc1 := 192) rfl rfl (h_gC rfl rfl rfl rfl) rfl ?_
  refine w_p (pc1 := 193) rfl rfl ?_
  refine w_m0 (pc1 := 194) (st1 := .int (nI (rUp u)) :: _) rfl rfl (n_ile (e := i) rfl rfl rfl (by omega) (U.2.1.2.2)) rfl ?_
  refine w_r rfl rfl rfl (fun _ _ => rfl) cr_int ?_
  exact ⟨rfl, rfl, rfl⟩
set_option maxRecDepth 100000 in
theorem m_292x (hi : i < 24) (hf : C.1 83 i = 1) (h : ¬ (0 ≤ y.toInt ∧ y.toInt ≤ 7)) : Wd L xs (d + 1) y_292 (0, [(0, .ref 176), (1, .int (nI i)), (2, .int y)], [], MH C t, sl) (Rt (some (.int 0)) (MH (sI C 76 0 2) t) sl) nX := by
  refine w_p (pc1 := 1) rfl rfl ?_
  refine w_p (pc1 := 2) rfl rfl ?_
  refine w_p (pc1 := 3) rfl rfl ?_
  refine w_p (pc1 := 4) (st1 := .long 0 :: _) rfl rfl ?_
  refine w_m0 (pc1 := 7) (st1 := .long 23 :: _) rfl rfl rfl rfl ?_
  refine w_je (pc1 := 10) (vs := [_, .long 0, .long 23]) (rest := [.ref 176]) (st1 := [.int 1, .ref 176]) (m_189t (d := d) (sl := 0) (isIn_t (x := nI i) (m := 0) (n := 23) rfl rfl (by rw [nK_int (by omega)]; omega) (by rw [nK_int (by omega)]; omega))) rfl rfl rfl (fun _ _ => rfl) rfl (by exact cl_s my_189 rfl rfl rfl (Nat.le_of_ble_eq_true rfl) rfl rfl) (by rfl) (Nat.le_of_ble_eq_true rfl) (Nat.le_of_ble_eq_true rfl) rfl (by rfl) ?_
  refine w_f (a := 26) (b := 13) rfl rfl rfl ?_
  refine w_p (pc1 := 14) rfl rfl ?_
  refine w_m0 (pc1 := 17) rfl rfl (h_gC rfl rfl rfl rfl) rfl ?_
  refine w_p (pc1 := 18) rfl rfl ?_
  refine w_m0 (pc1 := 19) (st1 := .int 1 :: _) rfl rfl (n_ble (e := i) rfl rfl (by decide) rfl (by omega) (hf)) rfl ?_
  refine w_f (a := 26) (b := 22) rfl rfl rfl ?_
  refine w_p (pc1 := 23) (st1 := .int 1 :: _) rfl rfl ?_
  refine w_p (pc1 := 27) rfl rfl ?_
  refine w_p (pc1 := 28) rfl rfl ?_
  refine w_p (pc1 := 29) rfl rfl ?_
  refine w_p (pc1 := 30) (st1 := .long 0 :: _) rfl rfl ?_
  refine w_m0 (pc1 := 33) (st1 := .long 7 :: _) rfl rfl rfl rfl ?_
  refine w_je (pc1 := 36) (vs := [_, .long 0, .long 7]) (rest := [.int 1, .ref 176]) (st1 := [.int 0, .int 1, .ref 176]) (m_189f (d := d) (sl := 0) (isIn_f (x := y) (m := 0) (n := 7) rfl rfl h)) rfl rfl rfl (fun _ _ => rfl) rfl (by exact cl_s my_189 rfl rfl rfl (Nat.le_of_ble_eq_true rfl) rfl rfl) (by rfl) (Nat.le_of_ble_eq_true rfl) (Nat.le_of_ble_eq_true rfl) rfl (by rfl) ?_
  refine w_je (pc1 := 39) (vs := [.ref 176, .int 1, .int 0]) (rest := []) (st1 := [.int 0]) (m_190 (d := d) (sl := 0)) rfl rfl rfl (fun _ _ => rfl) rfl (by exact cl_v my_190 rfl rfl rfl (Nat.le_of_ble_eq_true rfl) rfl (MH_obj rfl rfl) rfl (by decide) rfl rfl) (by rfl) (Nat.le_of_ble_eq_true rfl) (Nat.le_of_ble_eq_true rfl) rfl (by rfl) ?_
  refine w_f (a := 44) (b := 42) rfl rfl rfl ?_
  refine w_p (pc1 := 43) (st1 := .int 0 :: _) rfl rfl ?_
  refine w_r rfl rfl rfl (fun _ _ => rfl) cr_int ?_
  exact ⟨rfl, rfl, rfl⟩
set_option maxRecDepth 100000 in
theorem m_292n (hi : i < 24) (hf : C.1 83 i = 0) : Wd L xs (d + 1) y_292 (0, [(0, .ref 176), (1, .int (nI i)), (2, .int y)], [], MH C t, sl) (Rt (some (.int 0)) (MH (sI C 76 0 1) t) sl) nX := by
  by_cases h2 : 0 ≤ y.toInt ∧ y.toInt ≤ 7
  · skip
    refine w_p (pc1 := 1) rfl rfl ?_
    refine w_p (pc1 := 2) rfl rfl ?_
    refine w_p (pc1 := 3) rfl rfl ?_
    refine w_p (pc1 := 4) (st1 := .long 0 :: _) rfl rfl ?_
    refine w_m0 (pc1 := 7) (st1 := .long 23 :: _) rfl rfl rfl rfl ?_
    refine w_je (pc1 := 10) (vs := [_, .long 0, .long 23]) (rest := [.ref 176]) (st1 := [.int 1, .ref 176]) (m_189t (d := d) (sl := 0) (isIn_t (x := nI i) (m := 0) (n := 23) rfl rfl (by rw [nK_int (by omega)]; omega) (by rw [nK_int (by omega)]; omega))) rfl rfl rfl (fun _ _ => rfl) rfl (by exact cl_s my_189 rfl rfl rfl (Nat.le_of_ble_eq_true rfl) rfl rfl) (by rfl) (Nat.le_of_ble_eq_true rfl) (Nat.le_of_ble_eq_true rfl) rfl (by rfl) ?_
    refine w_f (a := 26) (b := 13) rfl rfl rfl ?_
    refine w_p (pc1 := 14) rfl rfl ?_
    refine w_m0 (pc1 := 17) rfl rfl (h_gC rfl rfl rfl rfl) rfl ?_
    refine w_p (pc1 := 18) rfl rfl ?_
    refine w_m0 (pc1 := 19) (st1 := .int 0 :: _) rfl rfl (n_ble (e := i) rfl rfl (by decide) rfl (by omega) (hf)) rfl ?_
    refine w_t (a := 26) (b := 22) rfl rfl rfl ?_
    refine w_p (pc1 := 27) (st1 := .int 0 :: _) rfl rfl ?_
    refine w_p (pc1 := 28) rfl rfl ?_
    refine w_p (pc1 := 29) rfl rfl ?_
    refine w_p (pc1 := 30) (st1 := .long 0 :: _) rfl rfl ?_
    refine w_m0 (pc1 := 33) (st1 := .long 7 :: _) rfl rfl rfl rfl ?_
    refine w_je (pc1 := 36) (vs := [_, .long 0, .long 7]) (rest := [.int 0, .ref 176]) (st1 := [.int 1, .int 0, .ref 176]) (m_189t (d := d) (sl := 0) (isIn_t (x := y) (m := 0) (n := 7) rfl rfl h2.1 h2.2)) rfl rfl rfl (fun _ _ => rfl) rfl (by exact cl_s my_189 rfl rfl rfl (Nat.le_of_ble_eq_true rfl) rfl rfl) (by rfl) (Nat.le_of_ble_eq_true rfl) (Nat.le_of_ble_eq_true rfl) rfl (by rfl) ?_
    refine w_je (pc1 := 39) (vs := [.ref 176, .int 0, .int 1]) (rest := []) (st1 := [.int 0]) (m_190 (d := d) (sl := 0)) rfl rfl rfl (fun _ _ => rfl) rfl (by exact cl_v my_190 rfl rfl rfl (Nat.le_of_ble_eq_true rfl) rfl (MH_obj rfl rfl) rfl (by decide) rfl rfl) (by rfl) (Nat.le_of_ble_eq_true rfl) (Nat.le_of_ble_eq_true rfl) rfl (by rfl) ?_
    refine w_f (a := 44) (b := 42) rfl rfl rfl ?_
    refine w_p (pc1 := 43) (st1 := .int 0 :: _) rfl rfl ?_
    refine w_r rfl rfl rfl (fun _ _ => rfl) cr_int ?_
    exact ⟨rfl, rfl, rfl⟩
  · skip
    refine w_p (pc1 := 1) rfl rfl ?_
    refine w_p (pc1 := 2) rfl rfl ?_
    refine w_p (pc1 := 3) rfl rfl ?_
    refine w_p (pc1 := 4) (st1 := .long 0 :: _) rfl rfl ?_
    refine w_m0 (pc1 := 7) (st1 := .long 23 :: _) rfl rfl rfl rfl ?_
    refine w_je (pc1 := 10) (vs := [_, .long 0, .long 23]) (rest := [.ref 176]) (st1 := [.int 1, .ref 176]) (m_189t (d := d) (sl := 0) (isIn_t (x := nI i) (m := 0) (n := 23) rfl rfl (by rw [nK_int (by omega)]; omega) (by rw [nK_int (by omega)]; omega))) rfl rfl rfl (fun _ _ => rfl) rfl (by exact cl_s my_189 rfl rfl rfl (Nat.le_of_ble_eq_true rfl) rfl rfl) (by rfl) (Nat.le_of_ble_eq_true rfl) (Nat.le_of_ble_eq_true rfl) rfl (by rfl) ?_
    refine w_f (a := 26) (b := 13) rfl rfl rfl ?_
    refine w_p (pc1 := 14) rfl rfl ?_
    refine w_m0 (pc1 := 17) rfl rfl (h_gC rfl rfl rfl rfl) rfl ?_
    refine w_p (pc1 := 18) rfl rfl ?_
    refine w_m0 (pc1 := 19) (st1 := .int 0 :: _) rfl rfl (n_ble (e := i) rfl rfl (by decide) rfl (by omega) (hf)) rfl ?_
    refine w_t (a := 26) (b := 22) rfl rfl rfl ?_
    refine w_p (pc1 := 27) (st1 := .int 0 :: _) rfl rfl ?_
    refine w_p (pc1 := 28) rfl rfl ?_
    refine w_p (pc1 := 29) rfl rfl ?_
    refine w_p (pc1 := 30) (st1 := .long 0 :: _) rfl rfl ?_
    refine w_m0 (pc1 := 33) (st1 := .long 7 :: _) rfl rfl rfl rfl ?_
    refine w_je (pc1 := 36) (vs := [_, .long 0, .long 7]) (rest := [.int 0, .ref 176]) (st1 := [.int 0, .int 0, .ref 176]) (m_189f (d := d) (sl := 0) (isIn_f (x := y) (m := 0) (n := 7) rfl rfl h2)) rfl rfl rfl (fun _ _ => rfl) rfl (by exact cl_s my_189 rfl rfl rfl (Nat.le_of_ble_eq_true rfl) rfl rfl) (by rfl) (Nat.le_of_ble_eq_true rfl) (Nat.le_of_ble_eq_true rfl) rfl (by rfl) ?_
    refine w_je (pc1 := 39) (vs := [.ref 176, .int 0, .int 0]) (rest := []) (st1 := [.int 0]) (m_190 (d := d) (sl := 0)) rfl rfl rfl (fun _ _ => rfl) rfl (by exact cl_v my_190 rfl rfl rfl (Nat.le_of_ble_eq_true rfl) rfl (MH_obj rfl rfl) rfl (by decide) rfl rfl) (by rfl) (Nat.le_of_ble_eq_true rfl) (Nat.le_of_ble_eq_true rfl) rfl (by rfl) ?_
    refine w_f (a := 44) (b := 42) rfl rfl rfl ?_
    refine w_p (pc1 := 43) (st1 := .int 0 :: _) rfl rfl ?_
    refine w_r rfl rfl rfl (fun _ _ => rfl) cr_int ?_
    exact ⟨rfl, rfl, rfl⟩
set_option maxRecDepth 100000 in
theorem m_292o (h : ¬ (0 ≤ x.toInt ∧ x.toInt < 24)) : Wd L xs (d + 1) y_292 (0, [(0, .ref 176), (1, .int x), (2, .int y)], [], MH C t, sl) (Rt (some (.int 0)) (MH (sI C 76 0 1) t) sl) nX := by
  by_cases h2 : 0 ≤ y.toInt ∧ y.toInt ≤ 7
  · skip
    refine w_p (pc1 := 1) rfl rfl ?_
    refine w_p (pc1 := 2) rfl rfl ?_
    refine w_p (pc1 := 3) rfl rfl ?_
    refine w_p (pc1 := 4) (st1 := .long 0 :: _) rfl rfl ?_
    refine w_m0 (pc1 := 7) (st1 := .long 23 :: _) rfl rfl rfl rfl ?_
    refine w_je (pc1 := 10) (vs := [_, .long 0, .long 23]) (rest := [.ref 176]) (st1 := [.int 0, .ref 176]) (m_189f (d := d) (sl := 0) (isIn_f (x := x) (m := 0) (n := 23) rfl rfl (by omega))) rfl rfl rfl (fun _ _ => rfl) rfl (by exact cl_s my_189 rfl rfl rfl (Nat.le_of_ble_eq_true rfl) rfl rfl) (by rfl) (Nat.le_of_ble_eq_true rfl) (Nat.le_of_ble_eq_true rfl) rfl (by rfl) ?_
    refine w_t (a := 26) (b := 13) rfl rfl rfl ?_
    refine w_p (pc1 := 27) (st1 := .int 0 :: _) rfl rfl ?_
    refine w_p (pc1 := 28) rfl rfl ?_
    refine w_p (pc1 := 29) rfl rfl ?_
    refine w_p (pc1 := 30) (st1 := .long 0 :: _) rfl rfl ?_
    refine w_m0 (pc1 := 33) (st1 := .long 7 :: _) rfl rfl rfl rfl ?_
    refine w_je (pc1 := 36) (vs := [_, .long 0, .long 7]) (rest := [.int 0, .ref 176]) (st1 := [.int 1, .int 0, .ref 176]) (m_189t (d := d) (sl := 0) (isIn_t (x := y) (m := 0) (n := 7) rfl rfl h2.1 h2.2)) rfl rfl rfl (fun _ _ => rfl) rfl (by exact cl_s my_189 rfl rfl rfl (Nat.le_of_ble_eq_true rfl) rfl rfl) (by rfl) (Nat.le_of_ble_eq_true rfl) (Nat.le_of_ble_eq_true rfl) rfl (by rfl) ?_
    refine w_je (pc1 := 39) (vs := [.ref 176, .int 0, .int 1]) (rest := []) (st1 := [.int 0]) (m_190 (d := d) (sl := 0)) rfl rfl rfl (fun _ _ => rfl) rfl (by exact cl_v my_190 rfl rfl rfl (Nat.le_of_ble_eq_true rfl) rfl (MH_obj rfl rfl) rfl (by decide) rfl rfl) (by rfl) (Nat.le_of_ble_eq_true rfl) (Nat.le_of_ble_eq_true rfl) rfl (by rfl) ?_
    refine w_f (a := 44) (b := 42) rfl rfl rfl ?_
    refine w_p (pc1 := 43) (st1 := .int 0 :: _) rfl rfl ?_
    refine w_r rfl rfl rfl (fun _ _ => rfl) cr_int ?_
    exact ⟨rfl, rfl, rfl⟩
  · skip
    refine w_p (pc1 := 1) rfl rfl ?_
    refine w_p (pc1 := 2) rfl rfl ?_
    refine w_p (pc1 := 3) rfl rfl ?_
    refine w_p (pc1 := 4) (st1 := .long 0 :: _) rfl rfl ?_
    refine w_m0 (pc1 := 7) (st1 := .long 23 :: _) rfl rfl rfl rfl ?_
    refine w_je (pc1 := 10) (vs := [_, .long 0, .long 23]) (rest := [.ref 176]) (st1 := [.int 0, .ref 176]) (m_189f (d := d) (sl := 0) (isIn_f (x := x) (m := 0) (n := 23) rfl rfl (by omega))) rfl rfl rfl (fun _ _ => rfl) rfl (by exact cl_s my_189 rfl rfl rfl (Nat.le_of_ble_eq_true rfl) rfl rfl) (by rfl) (Nat.le_of_ble_eq_true rfl) (Nat.le_of_ble_eq_true rfl) rfl (by rfl) ?_
    refine w_t (a := 26) (b := 13) rfl rfl rfl ?_
    refine w_p (pc1 := 27) (st1 := .int 0 :: _) rfl rfl ?_
    refine w_p (pc1 := 28) rfl rfl ?_
    refine w_p (pc1 := 29) rfl rfl ?_
    refine w_p (pc1 := 30) (st1 := .long 0 :: _) rfl rfl ?_
    refine w_m0 (pc1 := 33) (st1 := .long 7 :: _) rfl rfl rfl rfl ?_
    refine w_je (pc1 := 36) (vs := [_, .long 0, .long 7]) (rest := [.int 0, .ref 176]) (st1 := [.int 0, .int 0, .ref 176]) (m_189f (d := d) (sl := 0) (isIn_f (x := y) (m := 0) (n := 7) rfl rfl h2)) rfl rfl rfl (fun _ _ => rfl) rfl (by exact cl_s my_189 rfl rfl rfl (Nat.le_of_ble_eq_true rfl) rfl rfl) (by rfl) (Nat.le_of_ble_eq_true rfl) (Nat.le_of_ble_eq_true rfl) rfl (by rfl) ?_
    refine w_je (pc1 := 39) (vs := [.ref 176, .int 0, .int 0]) (rest := []) (st1 := [.int 0]) (m_190 (d := d) (sl := 0)) rfl rfl rfl (fun _ _ => rfl) rfl (by exact cl_v my_190 rfl rfl rfl (Nat.le_of_ble_eq_true rfl) rfl (MH_obj rfl rfl) rfl (by decide) rfl rfl) (by rfl) (Nat.le_of_ble_eq_true rfl) (Nat.le_of_ble_eq_true rfl) rfl (by rfl) ?_
    refine w_f (a := 44) (b := 42) rfl rfl rfl ?_
    refine w_p (pc1 := 43) (st1 := .int 0 :: _) rfl rfl ?_
    refine w_r rfl rfl rfl (fun _ _ => rfl) cr_int ?_
    exact ⟨rfl, rfl, rfl⟩
set_option maxRecDepth 100000 in
theorem m_293_0 (hi : i < 8) (hf : C.1 95 i = 1) (G : TRM C i g) : Wd L xs (d + 1) y_293 (0, [(0, .ref 176), (1, .int (nI i)), (2, .int 0)], [], MH C t, sl) (Rt (some (.long ((nI (gTb g)).toInt64))) (MH (sI C 76 0 0) t) sl) nX := by
  refine w_p (pc1 := 1) rfl rfl ?_
  refine w_p (pc1 := 2) rfl rfl ?_
  refine w_p (pc1 := 3) rfl rfl ?_
  refine w_p (pc1 := 4) (st1 := .long 0 :: _) rfl rfl ?_
  refine w_m0 (pc1 := 7) (st1 := .long 7 :: _) rfl rfl rfl rfl ?_
  refine w_je (pc1 := 10) (vs := [_, .long 0, .long 7]) (rest := [.ref 176]) (st1 := [.int 1, .ref 176]) (m_189t (d := d) (sl := 0) (isIn_t (x := nI i) (m := 0) (n := 7) rfl rfl (by rw [nK_int (by omega)]; omega) (by rw [nK_int (by omega)]; omega))) rfl rfl rfl (fun _ _ => rfl) rfl (by exact cl_s my_189 rfl rfl rfl (Nat.le_of_ble_eq_true rfl) rfl rfl) (by rfl) (Nat.le_of_ble_eq_true rfl) (Nat.le_of_ble_eq_true rfl) rfl (by rfl) ?_
  refine w_f (a := 26) (b := 13) rfl rfl rfl ?_
  refine w_p (pc1 := 14) rfl rfl ?_
  refine w_m0 (pc1 := 17) rfl rfl (h_gC rfl rfl rfl rfl) rfl ?_
  refine w_p (pc1 := 18) rfl rfl ?_
  refine w_m0 (pc1 := 19) (st1 := .int 1 :: _) rfl rfl (n_ble (e := i) rfl rfl (by decide) rfl (by omega) (hf)) rfl ?_
  refine w_f (a := 26) (b := 22) rfl rfl rfl ?_
  refine w_p (pc1 := 23) (st1 := .int 1 :: _) rfl rfl ?_
  refine w_p (pc1 := 27) rfl rfl ?_
  refine w_p (pc1 := 28) rfl rfl ?_
  refine w_p (pc1 := 29) (st1 := .long 0 :: _) rfl rfl ?_
  refine w_p (pc1 := 30) (st1 := .long 0 :: _) rfl rfl ?_
  refine w_m0 (pc1 := 33) (st1 := .long 5 :: _) rfl rfl rfl rfl ?_
  refine w_je (pc1 := 36) (vs := [.long 0, .long 0, .long 5]) (rest := [.int 1, .ref 176]) (st1 := [.int 1, .int 1, .ref 176]) (m_189t (d := d) (sl := 0) (isIn_t (x := 0) (m := 0) (n := 5) rfl rfl (by decide) (by decide))) rfl rfl rfl (fun _ _ => rfl) rfl (by exact cl_s my_189 rfl rfl rfl (Nat.le_of_ble_eq_true rfl) rfl rfl) (by rfl) (Nat.le_of_ble_eq_true rfl) (Nat.le_of_ble_eq_true rfl) rfl (by rfl) ?_
  refine w_je (pc1 := 39) (vs := [.ref 176, .int 1, .int 1]) (rest := []) (st1 := [.int 1]) (m_190 (d := d) (sl := 0)) rfl rfl rfl (fun _ _ => rfl) rfl (by exact cl_v my_190 rfl rfl rfl (Nat.le_of_ble_eq_true rfl) rfl (MH_obj rfl rfl) rfl (by decide) rfl rfl) (by rfl) (Nat.le_of_ble_eq_true rfl) (Nat.le_of_ble_eq_true rfl) rfl (by rfl) ?_
  refine w_t (a := 44) (b := 42) rfl rfl rfl ?_
  refine w_p (pc1 := 45) rfl rfl ?_
  refine w_f (a := 58) (b := 48) rfl rfl rfl ?_
  refine w_p (pc1 := 49) rfl rfl ?_
  refine w_m0 (pc1 := 52) rfl rfl (h_gC rfl rfl rfl rfl) rfl ?_
  refine w_p (pc1 := 53) rfl rfl ?_
  refine w_m0 (pc1 := 54) (st1 := .int (nI (gTb g)) :: _) rfl rfl (n_ile (e := i) rfl rfl rfl (by omega) (G.1.1)) rfl ?_
  refine w_p (pc1 := 55) rfl rfl ?_
  refine w_p (pc1 := 124) rfl rfl ?_
  refine w_r rfl rfl rfl (fun _ _ => rfl) rfl ?_
  exact ⟨rfl, rfl, rfl⟩
set_option maxRecDepth 100000 in
theorem m_293_1 (hi : i < 8) (hf : C.1 95 i = 1) (G : TRM C i g) : Wd L xs (d + 1) y_293 (0, [(0, .ref 176), (1, .int (nI i)), (2, .int 1)], [], MH C t, sl) (Rt (some (.long ((nI (gTi g)).toInt64))) (MH (sI C 76 0 0) t) sl) nX := by
  refine w_p (pc1 := 1) rfl rfl ?_
  refine w_p (pc1 := 2) rfl rfl ?_
  refine w_p (pc1 := 3) rfl rfl ?_
  refine w_p (pc1 := 4) (st1 := .long 0 :: _) rfl rfl ?_
  refine w_m0 (pc1 := 7) (st1 := .long 7 :: _) rfl rfl rfl rfl ?_
  refine w_je (pc1 := 10) (vs := [_, .long 0, .long 7]) (rest := [.ref 176]) (st1 := [.int 1, .ref 176]) (m_189t (d := d) (sl := 0) (isIn_t (x := nI i) (m := 0) (n := 7) rfl rfl (by rw [nK_int (by omega)]; omega) (by rw [nK_int (by omega)]; omega))) rfl rfl rfl (fun _ _ => rfl) rfl (by exact cl_s my_189 rfl rfl rfl (Nat.le_of_ble_eq_true rfl) rfl rfl) (by rfl) (Nat.le_of_ble_eq_true rfl) (Nat.le_of_ble_eq_true rfl) rfl (by rfl) ?_
  refine w_f (a := 26) (b := 13) rfl rfl rfl ?_
  refine w_p (pc1 := 14) rfl rfl ?_
  refine w_m0 (pc1 := 17) rfl rfl (h_gC rfl rfl rfl rfl) rfl ?_
  refine w_p (pc1 := 18) rfl rfl ?_
  refine w_m0 (pc1 := 19) (st1 := .int 1 :: _) rfl rfl (n_ble (e := i) rfl rfl (by decide) rfl (by omega) (hf)) rfl ?_
  refine w_f (a := 26) (b := 22) rfl rfl rfl ?_
  refine w_p (pc1 := 23) (st1 := .int 1 :: _) rfl rfl ?_
  refine w_p (pc1 := 27) rfl rfl ?_
  refine w_p (pc1 := 28) rfl rfl ?_
  refine w_p (pc1 := 29) (st1 := .long 1 :: _) rfl rfl ?_
  refine w_p (pc1 := 30) (st1 := .long 0 :: _) rfl rfl ?_
  refine w_m0 (pc1 := 33) (st1 := .long 5 :: _) rfl rfl rfl rfl ?_
  refine w_je (pc1 := 36) (vs := [.long 1, .long 0, .long 5]) (rest := [.int 1, .ref 176]) (st1 := [.int 1, .int 1, .ref 176]) (m_189t (d := d) (sl := 0) (isIn_t (x := 1) (m := 0) (n := 5) rfl rfl (by decide) (by decide))) rfl rfl rfl (fun _ _ => rfl) rfl (by exact cl_s my_189 rfl rfl rfl (Nat.le_of_ble_eq_true rfl) rfl rfl) (by rfl) (Nat.le_of_ble_eq_true rfl) (Nat.le_of_ble_eq_true rfl) rfl (by rfl) ?_
  refine w_je (pc1 := 39) (vs := [.ref 176, .int 1, .int 1]) (rest := []) (st1 := [.int 1]) (m_190 (d := d) (sl := 0)) rfl rfl rfl (fun _ _ => rfl) rfl (by exact cl_v my_190 rfl rfl rfl (Nat.le_of_ble_eq_true rfl) rfl (MH_obj rfl rfl) rfl (by decide) rfl rfl) (by rfl) (Nat.le_of_ble_eq_true rfl) (Nat.le_of_ble_eq_true rfl) rfl (by rfl) ?_
  refine w_t (a := 44) (b := 42) rfl rfl rfl ?_
  refine w_p (pc1 := 45) rfl rfl ?_
  refine w_t (a := 58) (b := 48) rfl rfl rfl ?_
  refine w_p (pc1 := 59) rfl rfl ?_
  refine w_p (pc1 := 60) (st1 := .int 1 :: _) rfl rfl ?_
  refine w_f (a := 73) (b := 63) rfl rfl rfl ?_
  refine w_p (pc1 := 64) rfl rfl ?_
  refine w_m0 (pc1 := 67) rfl rfl (h_gC rfl rfl rfl rfl) rfl ?_
  refine w_p (pc1 := 68) rfl rfl ?_
  refine w_m0 (pc1 := 69) (st1 := .int (nI (gTi g)) :: _) rfl rfl (n_ile (e := i) rfl rfl rfl (by omega) (G.1.2.1)) rfl ?_
  refine w_p (pc1 := 70) rfl rfl ?_
  refine w_p (pc1 := 124) rfl rfl ?_
  refine w_r rfl rfl rfl (fun _ _ => rfl) rfl ?_
  exact ⟨rfl, rfl, rfl⟩
set_option maxRecDepth 100000 in
theorem m_293_2 (hi : i < 8) (hf : C.1 95 i = 1) (G : TRM C i g) : Wd L xs (d + 1) y_293 (0, [(0, .ref 176), (1, .int (nI i)), (2, .int 2)], [], MH C t, sl) (Rt (some (.long ((nI (gEv g)).toInt64))) (MH (sI C 76 0 0) t) sl) nX := by
  refine w_p (pc1 := 1) rfl rfl ?_
  refine w_p (pc1 := 2) rfl rfl ?_
  refine w_p (pc1 := 3) rfl rfl ?_
  refine w_p (pc1 := 4) (st1 := .long 0 :: _) rfl rfl ?_
  refine w_m0 (pc1 := 7) (st1 := .long 7 :: _) rfl rfl rfl rfl ?_
  refine w_je (pc1 := 10) (vs := [_, .long 0, .long 7]) (rest := [.ref 176]) (st1 := [.int 1, .ref 176]) (m_189t (d := d) (sl := 0) (isIn_t (x := nI i) (m := 0) (n := 7) rfl rfl (by rw [nK_int (by omega)]; omega) (by rw [nK_int (by omega)]; omega))) rfl rfl rfl (fun _ _ => rfl) rfl (by exact cl_s my_189 rfl rfl rfl (Nat.le_of_ble_eq_true rfl) rfl rfl) (by rfl) (Nat.le_of_ble_eq_true rfl) (Nat.le_of_ble_eq_true rfl) rfl (by rfl) ?_
  refine w_f (a := 26) (b := 13) rfl rfl rfl ?_
  refine w_p (pc1 := 14) rfl rfl ?_
  refine w_m0 (pc1 := 17) rfl rfl (h_gC rfl rfl rfl rfl) rfl ?_
  refine w_p (pc1 := 18) rfl rfl ?_
  refine w_m0 (pc1 := 19) (st1 := .int 1 :: _) rfl rfl (n_ble (e := i) rfl rfl (by decide) rfl (by omega) (hf)) rfl ?_
  refine w_f (a := 26) (b := 22) rfl rfl rfl ?_
  refine w_p (pc1 := 23) (st1 := .int 1 :: _) rfl rfl ?_
  refine w_p (pc1 := 27) rfl rfl ?_
  refine w_p (pc1 := 28) rfl rfl ?_
  refine w_p (pc1 := 29) (st1 := .long 2 :: _) rfl rfl ?_
  refine w_p (pc1 := 30) (st1 := .long 0 :: _) rfl rfl ?_
  refine w_m0 (pc1 := 33) (st1 := .long 5 :: _) rfl rfl rfl rfl ?_
  refine w_je (pc1 := 36) (vs := [.long 2, .long 0, .long 5]) (rest := [.int 1, .ref 176]) (st1 := [.int 1, .int 1, .ref 176]) (m_189t (d := d) (sl := 0) (isIn_t (x := 2) (m := 0) (n := 5) rfl rfl (by decide) (by decide))) rfl rfl rfl (fun _ _ => rfl) rfl (by exact cl_s my_189 rfl rfl rfl (Nat.le_of_ble_eq_true rfl) rfl rfl) (by rfl) (Nat.le_of_ble_eq_true rfl) (Nat.le_of_ble_eq_true rfl) rfl (by rfl) ?_
  refine w_je (pc1 := 39) (vs := [.ref 176, .int 1, .int 1]) (rest := []) (st1 := [.int 1]) (m_190 (d := d) (sl := 0)) rfl rfl rfl (fun _ _ => rfl) rfl (by exact cl_v my_190 rfl rfl rfl (Nat.le_of_ble_eq_true rfl) rfl (MH_obj rfl rfl) rfl (by decide) rfl rfl) (by rfl) (Nat.le_of_ble_eq_true rfl) (Nat.le_of_ble_eq_true rfl) rfl (by rfl) ?_
  refine w_t (a := 44) (b := 42) rfl rfl rfl ?_
  refine w_p (pc1 := 45) rfl rfl ?_
  refine w_t (a := 58) (b := 48) rfl rfl rfl ?_
  refine w_p (pc1 := 59) rfl rfl ?_
  refine w_p (pc1 := 60) (st1 := .int 1 :: _) rfl rfl ?_
  refine w_t (a := 73) (b := 63) rfl rfl rfl ?_
  refine w_p (pc1 := 74) rfl rfl ?_
  refine w_p (pc1 := 75) (st1 := .int 2 :: _) rfl rfl ?_
  refine w_f (a := 88) (b := 78) rfl rfl rfl ?_
  refine w_p (pc1 := 79) rfl rfl ?_
  refine w_m0 (pc1 := 82) rfl rfl (h_gC rfl rfl rfl rfl) rfl ?_
  refine w_p (pc1 := 83) rfl rfl ?_
  refine w_m0 (pc1 := 84) (st1 := .int (nI (gEv g)) :: _) rfl rfl (n_ile (e := i) rfl rfl rfl (by omega) (G.1.2.2.1)) rfl ?_
  refine w_p (pc1 := 85) rfl rfl ?_
  refine w_p (pc1 := 124) rfl rfl ?_
  refine w_r rfl rfl rfl (fun _ _ => rfl) rfl ?_
  exact ⟨rfl, rfl, rfl⟩
set_option maxRecDepth 100000 in
theorem m_293_3 (hi : i < 8) (hf : C.1 95 i = 1) (G : TRM C i g) : Wd L xs (d + 1) y_293 (0, [(0, .ref 176), (1, .int (nI i)), (2, .int 3)], [], MH C t, sl) (Rt (some (.long ((nI (aKd (gAc g))).toInt64))) (MH (sI C 76 0 0) t) sl) nX := by
  refine w_p (pc1 := 1) rfl rfl ?_
  refine w_p (pc1 := 2) rfl rfl ?_
  refine w_p (pc1 := 3) rfl rfl ?_
  refine w_p (pc1 := 4) (st1 := .long 0 :: _) rfl rfl ?_
  refine w_m0 (pc1 := 7) (st1 := .long 7 :: _) rfl rfl rfl rfl ?_
  refine w_je (pc1 := 10) (vs := [_, .long 0, .long 7]) (rest := [.ref 176]) (st1 := [.int 1, .ref 176]) (m_189t (d := d) (sl := 0) (isIn_t (x := nI i) (m := 0) (n := 7) rfl rfl (by rw [nK_int (by omega)]; omega) (by rw [nK_int (by omega)]; omega))) rfl rfl rfl (fun _ _ => rfl) rfl (by exact cl_s my_189 rfl rfl rfl (Nat.le_of_ble_eq_true rfl) rfl rfl) (by rfl) (Nat.le_of_ble_eq_true rfl) (Nat.le_of_ble_eq_true rfl) rfl (by rfl) ?_
  refine w_f (a := 26) (b := 13) rfl rfl rfl ?_
  refine w_p (pc1 := 14) rfl rfl ?_
  refine w_m0 (pc1 := 17) rfl rfl (h_gC rfl rfl rfl rfl) rfl ?_
  refine w_p (pc1 := 18) rfl rfl ?_
  refine w_m0 (pc1 := 19) (st1 := .int 1 :: _) rfl rfl (n_ble (e := i) rfl rfl (by decide) rfl (by omega) (hf)) rfl ?_
  refine w_f (a := 26) (b := 22) rfl rfl rfl ?_
  refine w_p (pc1 := 23) (st1 := .int 1 :: _) rfl rfl ?_
  refine w_p (pc1 := 27) rfl rfl ?_
  refine w_p (pc1 := 28) rfl rfl ?_
  refine w_p (pc1 := 29) (st1 := .long 3 :: _) rfl rfl ?_
  refine w_p (pc1 := 30) (st1 := .long 0 :: _) rfl rfl ?_
  refine w_m0 (pc1 := 33) (st1 := .long 5 :: _) rfl rfl rfl rfl ?_
  refine w_je (pc1 := 36) (vs := [.long 3, .long 0, .long 5]) (rest := [.int 1, .ref 176]) (st1 := [.int 1, .int 1, .ref 176]) (m_189t (d := d) (sl := 0) (isIn_t (x := 3) (m := 0) (n := 5) rfl rfl (by decide) (by decide))) rfl rfl rfl (fun _ _ => rfl) rfl (by exact cl_s my_189 rfl rfl rfl (Nat.le_of_ble_eq_true rfl) rfl rfl) (by rfl) (Nat.le_of_ble_eq_true rfl) (Nat.le_of_ble_eq_true rfl) rfl (by rfl) ?_
  refine w_je (pc1 := 39) (vs := [.ref 176, .int 1, .int 1]) (rest := []) (st1 := [.int 1]) (m_190 (d := d) (sl := 0)) rfl rfl rfl (fun _ _ => rfl) rfl (by exact cl_v my_190 rfl rfl rfl (Nat.le_of_ble_eq_true rfl) rfl (MH_obj rfl rfl) rfl (by decide) rfl rfl) (by rfl) (Nat.le_of_ble_eq_true rfl) (Nat.le_of_ble_eq_true rfl) rfl (by rfl) ?_
  refine w_t (a := 44) (b := 42) rfl rfl rfl ?_
  refine w_p (pc1 := 45) rfl rfl ?_
  refine w_t (a := 58) (b := 48) rfl rfl rfl ?_
  refine w_p (pc1 := 59) rfl rfl ?_
  refine w_p (pc1 := 60) (st1 := .int 1 :: _) rfl rfl ?_
  refine w_t (a := 73) (b := 63) rfl rfl rfl ?_
  refine w_p (pc1 := 74) rfl rfl ?_
  refine w_p (pc1 := 75) (st1 := .int 2 :: _) rfl rfl ?_
  refine w_t (a := 88) (b := 78) rfl rfl rfl ?_
  refine w_p (pc1 := 89) rfl rfl ?_
  refine w_p (pc1 := 90) (st1 := .int 3 :: _) rfl rfl ?_
  refine w_f (a := 103) (b := 93) rfl rfl rfl ?_
  refine w_p (pc1 := 94) rfl rfl ?_
  refine w_m0 (pc1 := 97) rfl rfl (h_gC rfl rfl rfl rfl) rfl ?_
  refine w_p (pc1 := 98) rfl rfl ?_
  refine w_m0 (pc1 := 99) (st1 := .int (nI (aKd (gAc g))) :: _) rfl rfl (n_ile (e := i) rfl rfl rfl (by omega) (G.1.2.2.2.1)) rfl ?_
  refine w_p (pc1 := 100) rfl rfl ?_
  refine w_p (pc1 := 124) rfl rfl ?_
  refine w_r rfl rfl rfl (fun _ _ => rfl) rfl ?_
  exact ⟨rfl, rfl, rfl⟩
set_option maxRecDepth 100000 in
theorem m_293_4 (hi : i < 8) (hf : C.1 95 i = 1) (G : TRM C i g) : Wd L xs (d + 1) y_293 (0, [(0, .ref 176), (1, .int (nI i)), (2, .int 4)], [], MH C t, sl) (Rt (some (.long ((tgI (aTb (gAc g))).toInt64))) (MH (sI C 76 0 0) t) sl) nX := by
  refine w_p (pc1 := 1) rfl rfl ?_
  refine w_p (pc1 := 2) rfl rfl ?_
  refine w_p (pc1 := 3) rfl rfl ?_
  refine w_p (pc1 := 4) (st1 := .long 0 :: _) rfl rfl ?_
  refine w_m0 (pc1 := 7) (st1 := .long 7 :: _) rfl rfl rfl rfl ?_
  refine w_je (pc1 := 10) (vs := [_, .long 0, .long 7]) (rest := [.ref 176]) (st1 := [.int 1, .ref 176]) (m_189t (d := d) (sl := 0) (isIn_t (x := nI i) (m := 0) (n := 7) rfl rfl (by rw [nK_int (by omega)]; omega) (by rw [nK_int (by omega)]; omega))) rfl rfl rfl (fun _ _ => rfl) rfl (by exact cl_s my_189 rfl rfl rfl (Nat.le_of_ble_eq_true rfl) rfl rfl) (by rfl) (Nat.le_of_ble_eq_true rfl) (Nat.le_of_ble_eq_true rfl) rfl (by rfl) ?_
  refine w_f (a := 26) (b := 13) rfl rfl rfl ?_
  refine w_p (pc1 := 14) rfl rfl ?_
  refine w_m0 (pc1 := 17) rfl rfl (h_gC rfl rfl rfl rfl) rfl ?_
  refine w_p (pc1 := 18) rfl rfl ?_
  refine w_m0 (pc1 := 19) (st1 := .int 1 :: _) rfl rfl (n_ble (e := i) rfl rfl (by decide) rfl (by omega) (hf)) rfl ?_
  refine w_f (a := 26) (b := 22) rfl rfl rfl ?_
  refine w_p (pc1 := 23) (st1 := .int 1 :: _) rfl rfl ?_
  refine w_p (pc1 := 27) rfl rfl ?_
  refine w_p (pc1 := 28) rfl rfl ?_
  refine w_p (pc1 := 29) (st1 := .long 4 :: _) rfl rfl ?_
  refine w_p (pc1 := 30) (st1 := .long 0 :: _) rfl rfl ?_
  refine w_m0 (pc1 := 33) (st1 := .long 5 :: _) rfl rfl rfl rfl ?_
  refine w_je (pc1 := 36) (vs := [.long 4, .long 0, .long 5]) (rest := [.int 1, .ref 176]) (st1 := [.int 1, .int 1, .ref 176]) (m_189t (d := d) (sl := 0) (isIn_t (x := 4) (m := 0) (n := 5) rfl rfl (by decide) (by decide))) rfl rfl rfl (fun _ _ => rfl) rfl (by exact cl_s my_189 rfl rfl rfl (Nat.le_of_ble_eq_true rfl) rfl rfl) (by rfl) (Nat.le_of_ble_eq_true rfl) (Nat.le_of_ble_eq_true rfl) rfl (by rfl) ?_
  refine w_je (pc1 := 39) (vs := [.ref 176, .int 1, .int 1]) (rest := []) (st1 := [.int 1]) (m_190 (d := d) (sl := 0)) rfl rfl rfl (fun _ _ => rfl) rfl (by exact cl_v my_190 rfl rfl rfl (Nat.le_of_ble_eq_true rfl) rfl (MH_obj rfl rfl) rfl (by decide) rfl rfl) (by rfl) (Nat.le_of_ble_eq_true rfl) (Nat.le_of_ble_eq_true rfl) rfl (by rfl) ?_
  refine w_t (a := 44) (b := 42) rfl rfl rfl ?_
  refine w_p (pc1 := 45) rfl rfl ?_
  refine w_t (a := 58) (b := 48) rfl rfl rfl ?_
  refine w_p (pc1 := 59) rfl rfl ?_
  refine w_p (pc1 := 60) (st1 := .int 1 :: _) rfl rfl ?_
  refine w_t (a := 73) (b := 63) rfl rfl rfl ?_
  refine w_p (pc1 := 74) rfl rfl ?_
  refine w_p (pc1 := 75) (st1 := .int 2 :: _) rfl rfl ?_
  refine w_t (a := 88) (b := 78) rfl rfl rfl ?_
  refine w_p (pc1 := 89) rfl rfl ?_
  refine w_p (pc1 := 90) (st1 := .int 3 :: _) rfl rfl ?_
  refine w_t (a := 103) (b := 93) rfl rfl rfl ?_
  refine w_p (pc1 := 104) rfl rfl ?_
  refine w_p (pc1 := 105) (st1 := .int 4 :: _) rfl rfl ?_
  refine w_f (a := 118) (b := 108) rfl rfl rfl ?_
  refine w_p (pc1 := 109) rfl rfl ?_
  refine w_m0 (pc1 := 112) rfl rfl (h_gC rfl rfl rfl rfl) rfl ?_
  refine w_p (pc1 := 113) rfl rfl ?_
  refine w_m0 (pc1 := 114) (st1 := .int (tgI (aTb (gAc g))) :: _) rfl rfl (n_ile (e := i) rfl rfl rfl (by omega) (G.1.2.2.2.2.1)) rfl ?_
  refine w_p (pc1 := 115) rfl rfl ?_
  refine w_p (pc1 := 124) rfl rfl ?_
  refine w_r rfl rfl rfl (fun _ _ => rfl) rfl ?_
  exact ⟨rfl, rfl, rfl⟩
set_option maxRecDepth 100000 in
theorem m_293_5 (hi : i < 8) (hf : C.1 95 i = 1) (G : TRM C i g) : Wd L xs (d + 1) y_293 (0, [(0, .ref 176), (1, .int (nI i)), (2, .int 5)], [], MH C t, sl) (Rt (some (.long (gNm g))) (MH (sI C 76 0 0) t) sl) nX := by
  refine w_p (pc1 := 1) rfl rfl ?_
  refine w_p (pc1 := 2) rfl rfl ?_
  refine w_p (pc1 := 3) rfl rfl ?_
  refine w_p (pc1 := 4) (st1 := .long 0 :: _) rfl rfl ?_
  refine w_m0 (pc1 := 7) (st1 := .long 7 :: _) rfl rfl rfl rfl ?_
  refine w_je (pc1 := 10) (vs := [_, .long 0, .long 7]) (rest := [.ref 176]) (st1 := [.int 1, .ref 176]) (m_189t (d := d) (sl := 0) (isIn_t (x := nI i) (m := 0) (n := 7) rfl rfl (by rw [nK_int (by omega)]; omega) (by rw [nK_int (by omega)]; omega))) rfl rfl rfl (fun _ _ => rfl) rfl (by exact cl_s my_189 rfl rfl rfl (Nat.le_of_ble_eq_true rfl) rfl rfl) (by rfl) (Nat.le_of_ble_eq_true rfl) (Nat.le_of_ble_eq_true rfl) rfl (by rfl) ?_
  refine w_f (a := 26) (b := 13) rfl rfl rfl ?_
  refine w_p (pc1 := 14) rfl rfl ?_
  refine w_m0 (pc1 := 17) rfl rfl (h_gC rfl rfl rfl rfl) rfl ?_
  refine w_p (pc1 := 18) rfl rfl ?_
  refine w_m0 (pc1 := 19) (st1 := .int 1 :: _) rfl rfl (n_ble (e := i) rfl rfl (by decide) rfl (by omega) (hf)) rfl ?_
  refine w_f (a := 26) (b := 22) rfl rfl rfl ?_
  refine w_p (pc1 := 23) (st1 := .int 1 :: _) rfl rfl ?_
  refine w_p (pc1 := 27) rfl rfl ?_
  refine w_p (pc1 := 28) rfl rfl ?_
  refine w_p (pc1 := 29) (st1 := .long 5 :: _) rfl rfl ?_
  refine w_p (pc1 := 30) (st1 := .long 0 :: _) rfl rfl ?_
  refine w_m0 (pc1 := 33) (st1 := .long 5 :: _) rfl rfl rfl rfl ?_
  refine w_je (pc1 := 36) (vs := [.long 5, .long 0, .long 5]) (rest := [.int 1, .ref 176]) (st1 := [.int 1, .int 1, .ref 176]) (m_189t (d := d) (sl := 0) (isIn_t (x := 5) (m := 0) (n := 5) rfl rfl (by decide) (by decide))) rfl rfl rfl (fun _ _ => rfl) rfl (by exact cl_s my_189 rfl rfl rfl (Nat.le_of_ble_eq_true rfl) rfl rfl) (by rfl) (Nat.le_of_ble_eq_true rfl) (Nat.le_of_ble_eq_true rfl) rfl (by rfl) ?_
  refine w_je (pc1 := 39) (vs := [.ref 176, .int 1, .int 1]) (rest := []) (st1 := [.int 1]) (m_190 (d := d) (sl := 0)) rfl rfl rfl (fun _ _ => rfl) rfl (by exact cl_v my_190 rfl rfl rfl (Nat.le_of_ble_eq_true rfl) rfl (MH_obj rfl rfl) rfl (by decide) rfl rfl) (by rfl) (Nat.le_of_ble_eq_true rfl) (Nat.le_of_ble_eq_true rfl) rfl (by rfl) ?_
  refine w_t (a := 44) (b := 42) rfl rfl rfl ?_
  refine w_p (pc1 := 45) rfl rfl ?_
  refine w_t (a := 58) (b := 48) rfl rfl rfl ?_
  refine w_p (pc1 := 59) rfl rfl ?_
  refine w_p (pc1 := 60) (st1 := .int 1 :: _) rfl rfl ?_
  refine w_t (a := 73) (b := 63) rfl rfl rfl ?_
  refine w_p (pc1 := 74) rfl rfl ?_
  refine w_p (pc1 := 75) (st1 := .int 2 :: _) rfl rfl ?_
  refine w_t (a := 88) (b := 78) rfl rfl rfl ?_
  refine w_p (pc1 := 89) rfl rfl ?_
  refine w_p (pc1 := 90) (st1 := .int 3 :: _) rfl rfl ?_
  refine w_t (a := 103) (b := 93) rfl rfl rfl ?_
  refine w_p (pc1 := 104) rfl rfl ?_
  refine w_p (pc1 := 105) (st1 := .int 4 :: _) rfl rfl ?_
  refine w_t (a := 118) (b := 108) rfl rfl rfl ?_
  refine w_p (pc1 := 119) rfl rfl ?_
  refine w_m0 (pc1 := 122) rfl rfl (h_gC rfl rfl rfl rfl) rfl ?_
  refine w_p (pc1 := 123) rfl rfl ?_
  refine w_m0 (pc1 := 124) (st1 := .long (gNm g) :: _) rfl rfl (n_lle (e := i) rfl rfl rfl (by omega) (G.1.2.2.2.2.2)) rfl ?_
  refine w_r rfl rfl rfl (fun _ _ => rfl) rfl ?_
  exact ⟨rfl, rfl, rfl⟩
set_option maxRecDepth 100000 in
theorem m_293x (hi : i < 8) (hf : C.1 95 i = 1) (h : ¬ (0 ≤ y.toInt ∧ y.toInt ≤ 5)) : Wd L xs (d + 1) y_293 (0, [(0, .ref 176), (1, .int (nI i)), (2, .int y)], [], MH C t, sl) (Rt (some (.long 0)) (MH (sI C 76 0 2) t) sl) nX := by
  refine w_p (pc1 := 1) rfl rfl ?_
  refine w_p (pc1 := 2) rfl rfl ?_
  refine w_p (pc1 := 3) rfl rfl ?_
  refine w_p (pc1 := 4) (st1 := .long 0 :: _) rfl rfl ?_
  refine w_m0 (pc1 := 7) (st1 := .long 7 :: _) rfl rfl rfl rfl ?_
  refine w_je (pc1 := 10) (vs := [_, .long 0, .long 7]) (rest := [.ref 176]) (st1 := [.int 1, .ref 176]) (m_189t (d := d) (sl := 0) (isIn_t (x := nI i) (m := 0) (n := 7) rfl rfl (by rw [nK_int (by omega)]; omega) (by rw [nK_int (by omega)]; omega))) rfl rfl rfl (fun _ _ => rfl) rfl (by exact cl_s my_189 rfl rfl rfl (Nat.le_of_ble_eq_true rfl) rfl rfl) (by rfl) (Nat.le_of_ble_eq_true rfl) (Nat.le_of_ble_eq_true rfl) rfl (by rfl) ?_
  refine w_f (a := 26) (b := 13) rfl rfl rfl ?_
  refine w_p (pc1 := 14) rfl rfl ?_
  refine w_m0 (pc1 := 17) rfl rfl (h_gC rfl rfl rfl rfl) rfl ?_
  refine w_p (pc1 := 18) rfl rfl ?_
  refine w_m0 (pc1 := 19) (st1 := .int 1 :: _) rfl rfl (n_ble (e := i) rfl rfl (by decide) rfl (by omega) (hf)) rfl ?_
  refine w_f (a := 26) (b := 22) rfl rfl rfl ?_
  refine w_p (pc1 := 23) (st1 := .int 1 :: _) rfl rfl ?_
  refine w_p (pc1 := 27) rfl rfl ?_
  refine w_p (pc1 := 28) rfl rfl ?_
  refine w_p (pc1 := 29) rfl rfl ?_
  refine w_p (pc1 := 30) (st1 := .long 0 :: _) rfl rfl ?_
  refine w_m0 (pc1 := 33) (st1 := .long 5 :: _) rfl rfl rfl rfl ?_
  refine w_je (pc1 := 36) (vs := [_, .long 0, .long 5]) (rest := [.int 1, .ref 176]) (st1 := [.int 0, .int 1, .ref 176]) (m_189f (d := d) (sl := 0) (isIn_f (x := y) (m := 0) (n := 5) rfl rfl h)) rfl rfl rfl (fun _ _ => rfl) rfl (by exact cl_s my_189 rfl rfl rfl (Nat.le_of_ble_eq_true rfl) rfl rfl) (by rfl) (Nat.le_of_ble_eq_true rfl) (Nat.le_of_ble_eq_true rfl) rfl (by rfl) ?_
  refine w_je (pc1 := 39) (vs := [.ref 176, .int 1, .int 0]) (rest := []) (st1 := [.int 0]) (m_190 (d := d) (sl := 0)) rfl rfl rfl (fun _ _ => rfl) rfl (by exact cl_v my_190 rfl rfl rfl (Nat.le_of_ble_eq_true rfl) rfl (MH_obj rfl rfl) rfl (by decide) rfl rfl) (by rfl) (Nat.le_of_ble_eq_true rfl) (Nat.le_of_ble_eq_true rfl) rfl (by rfl) ?_
  refine w_f (a := 44) (b := 42) rfl rfl rfl ?_
  refine w_p (pc1 := 43) (st1 := .long 0 :: _) rfl rfl ?_
  refine w_r rfl rfl rfl (fun _ _ => rfl) rfl ?_
  exact ⟨rfl, rfl, rfl⟩
set_option maxRecDepth 100000 in
theorem m_293n (hi : i < 8) (hf : C.1 95 i = 0) : Wd L xs (d + 1) y_293 (0, [(0, .ref 176), (1, .int (nI i)), (2, .int y)], [], MH C t, sl) (Rt (some (.long 0)) (MH (sI C 76 0 1) t) sl) nX := by
  by_cases h2 : 0 ≤ y.toInt ∧ y.toInt ≤ 5
  · skip
    refine w_p (pc1 := 1) rfl rfl ?_
    refine w_p (pc1 := 2) rfl rfl ?_
    refine w_p (pc1 := 3) rfl rfl ?_
    refine w_p (pc1 := 4) (st1 := .long 0 :: _) rfl rfl ?_
    refine w_m0 (pc1 := 7) (st1 := .long 7 :: _) rfl rfl rfl rfl ?_
    refine w_je (pc1 := 10) (vs := [_, .long 0, .long 7]) (rest := [.ref 176]) (st1 := [.int 1, .ref 176]) (m_189t (d := d) (sl := 0) (isIn_t (x := nI i) (m := 0) (n := 7) rfl rfl (by rw [nK_int (by omega)]; omega) (by rw [nK_int (by omega)]; omega))) rfl rfl rfl (fun _ _ => rfl) rfl (by exact cl_s my_189 rfl rfl rfl (Nat.le_of_ble_eq_true rfl) rfl rfl) (by rfl) (Nat.le_of_ble_eq_true rfl) (Nat.le_of_ble_eq_true rfl) rfl (by rfl) ?_
    refine w_f (a := 26) (b := 13) rfl rfl rfl ?_
    refine w_p (pc1 := 14) rfl rfl ?_
    refine w_m0 (pc1 := 17) rfl rfl (h_gC rfl rfl rfl rfl) rfl ?_
    refine w_p (pc1 := 18) rfl rfl ?_
    refine w_m0 (pc1 := 19) (st1 := .int 0 :: _) rfl rfl (n_ble (e := i) rfl rfl (by decide) rfl (by omega) (hf)) rfl ?_
    refine w_t (a := 26) (b := 22) rfl rfl rfl ?_
    refine w_p (pc1 := 27) (st1 := .int 0 :: _) rfl rfl ?_
    refine w_p (pc1 := 28) rfl rfl ?_
    refine w_p (pc1 := 29) rfl rfl ?_
    refine w_p (pc1 := 30) (st1 := .long 0 :: _) rfl rfl ?_
    refine w_m0 (pc1 := 33) (st1 := .long 5 :: _) rfl rfl rfl rfl ?_
    refine w_je (pc1 := 36) (vs := [_, .long 0, .long 5]) (rest := [.int 0, .ref 176]) (st1 := [.int 1, .int 0, .ref 176]) (m_189t (d := d) (sl := 0) (isIn_t (x := y) (m := 0) (n := 5) rfl rfl h2.1 h2.2)) rfl rfl rfl (fun _ _ => rfl) rfl (by exact cl_s my_189 rfl rfl rfl (Nat.le_of_ble_eq_true rfl) rfl rfl) (by rfl) (Nat.le_of_ble_eq_true rfl) (Nat.le_of_ble_eq_true rfl) rfl (by rfl) ?_
    refine w_je (pc1 := 39) (vs := [.ref 176, .int 0, .int 1]) (rest := []) (st1 := [.int 0]) (m_190 (d := d) (sl := 0)) rfl rfl rfl (fun _ _ => rfl) rfl (by exact cl_v my_190 rfl rfl rfl (Nat.le_of_ble_eq_true rfl) rfl (MH_obj rfl rfl) rfl (by decide) rfl rfl) (by rfl) (Nat.le_of_ble_eq_true rfl) (Nat.le_of_ble_eq_true rfl) rfl (by rfl) ?_
    refine w_f (a := 44) (b := 42) rfl rfl rfl ?_
    refine w_p (pc1 := 43) (st1 := .long 0 :: _) rfl rfl ?_
    refine w_r rfl rfl rfl (fun _ _ => rfl) rfl ?_
    exact ⟨rfl, rfl, rfl⟩
  · skip
    refine w_p (pc1 := 1) rfl rfl ?_
    refine w_p (pc1 := 2) rfl rfl ?_
    refine w_p (pc1 := 3) rfl rfl ?_
    refine w_p (pc1 := 4) (st1 := .long 0 :: _) rfl rfl ?_
    refine w_m0 (pc1 := 7) (st1 := .long 7 :: _) rfl rfl rfl rfl ?_
    refine w_je (pc1 := 10) (vs := [_, .long 0, .long 7]) (rest := [.ref 176]) (st1 := [.int 1, .ref 176]) (m_189t (d := d) (sl := 0) (isIn_t (x := nI i) (m := 0) (n := 7) rfl rfl (by rw [nK_int (by omega)]; omega) (by rw [nK_int (by omega)]; omega))) rfl rfl rfl (fun _ _ => rfl) rfl (by exact cl_s my_189 rfl rfl rfl (Nat.le_of_ble_eq_true rfl) rfl rfl) (by rfl) (Nat.le_of_ble_eq_true rfl) (Nat.le_of_ble_eq_true rfl) rfl (by rfl) ?_
    refine w_f (a := 26) (b := 13) rfl rfl rfl ?_
    refine w_p (pc1 := 14) rfl rfl ?_
    refine w_m0 (pc1 := 17) rfl rfl (h_gC rfl rfl rfl rfl) rfl ?_
    refine w_p (pc1 := 18) rfl rfl ?_
    refine w_m0 (pc1 := 19) (st1 := .int 0 :: _) rfl rfl (n_ble (e := i) rfl rfl (by decide) rfl (by omega) (hf)) rfl ?_
    refine w_t (a := 26) (b := 22) rfl rfl rfl ?_
    refine w_p (pc1 := 27) (st1 := .int 0 :: _) rfl rfl ?_
    refine w_p (pc1 := 28) rfl rfl ?_
    refine w_p (pc1 := 29) rfl rfl ?_
    refine w_p (pc1 := 30) (st1 := .long 0 :: _) rfl rfl ?_
    refine w_m0 (pc1 := 33) (st1 := .long 5 :: _) rfl rfl rfl rfl ?_
    refine w_je (pc1 := 36) (vs := [_, .long 0, .long 5]) (rest := [.int 0, .ref 176]) (st1 := [.int 0, .int 0, .ref 176]) (m_189f (d := d) (sl := 0) (isIn_f (x := y) (m := 0) (n := 5) rfl rfl h2)) rfl rfl rfl (fun _ _ => rfl) rfl (by exact cl_s my_189 rfl rfl rfl (Nat.le_of_ble_eq_true rfl) rfl rfl) (by rfl) (Nat.le_of_ble_eq_true rfl) (Nat.le_of_ble_eq_true rfl) rfl (by rfl) ?_
    refine w_je (pc1 := 39) (vs := [.ref 176, .int 0, .int 0]) (rest := []) (st1 := [.int 0]) (m_190 (d := d) (sl := 0)) rfl rfl rfl (fun _ _ => rfl) rfl (by exact cl_v my_190 rfl rfl rfl (Nat.le_of_ble_eq_true rfl) rfl (MH_obj rfl rfl) rfl (by decide) rfl rfl) (by rfl) (Nat.le_of_ble_eq_true rfl) (Nat.le_of_ble_eq_true rfl) rfl (by rfl) ?_
    refine w_f (a := 44) (b := 42) rfl rfl rfl ?_
    refine w_p (pc1 := 43) (st1 := .long 0 :: _) rfl rfl ?_
    refine w_r rfl rfl rfl (fun _ _ => rfl) rfl ?_
    exact ⟨rfl, rfl, rfl⟩
set_option maxRecDepth 100000 in
theorem m_293o (h : ¬ (0 ≤ x.toInt ∧ x.toInt < 8)) : Wd L xs (d + 1) y_293 (0, [(0, .ref 176), (1, .int x), (2, .int y)], [], MH C t, sl) (Rt (some (.long 0)) (MH (sI C 76 0 1) t) sl) nX := by
  by_cases h2 : 0 ≤ y.toInt ∧ y.toInt ≤ 5
  · skip
    refine w_p (pc1 := 1) rfl rfl ?_
    refine w_p (pc1 := 2) rfl rfl ?_
    refine w_p (pc1 := 3) rfl rfl ?_
    refine w_p (pc1 := 4) (st1 := .long 0 :: _) rfl rfl ?_
    refine w_m0 (pc1 := 7) (st1 := .long 7 :: _) rfl rfl rfl rfl ?_
    refine w_je (pc1 := 10) (vs := [_, .long 0, .long 7]) (rest := [.ref 176]) (st1 := [.int 0, .ref 176]) (m_189f (d := d) (sl := 0) (isIn_f (x := x) (m := 0) (n := 7) rfl rfl (by omega))) rfl rfl rfl (fun _ _ => rfl) rfl (by exact cl_s my_189 rfl rfl rfl (Nat.le_of_ble_eq_true rfl) rfl rfl) (by rfl) (Nat.le_of_ble_eq_true rfl) (Nat.le_of_ble_eq_true rfl) rfl (by rfl) ?_
    refine w_t (a := 26) (b := 13) rfl rfl rfl ?_
    refine w_p (pc1 := 27) (st1 := .int 0 :: _) rfl rfl ?_
    refine w_p (pc1 := 28) rfl rfl ?_
    refine w_p (pc1 := 29) rfl rfl ?_
    refine w_p (pc1 := 30) (st1 := .long 0 :: _) rfl rfl ?_
    refine w_m0 (pc1 := 33) (st1 := .long 5 :: _) rfl rfl rfl rfl ?_
    refine w_je (pc1 := 36) (vs := [_, .long 0, .long 5]) (rest := [.int 0, .ref 176]) (st1 := [.int 1, .int 0, .ref 176]) (m_189t (d := d) (sl := 0) (isIn_t (x := y) (m := 0) (n := 5) rfl rfl h2.1 h2.2)) rfl rfl rfl (fun _ _ => rfl) rfl (by exact cl_s my_189 rfl rfl rfl (Nat.le_of_ble_eq_true rfl) rfl rfl) (by rfl) (Nat.le_of_ble_eq_true rfl) (Nat.le_of_ble_eq_true rfl) rfl (by rfl) ?_
    refine w_je (pc1 := 39) (vs := [.ref 176, .int 0, .int 1]) (rest := []) (st1 := [.int 0]) (m_190 (d := d) (sl := 0)) rfl rfl rfl (fun _ _ => rfl) rfl (by exact cl_v my_190 rfl rfl rfl (Nat.le_of_ble_eq_true rfl) rfl (MH_obj rfl rfl) rfl (by decide) rfl rfl) (by rfl) (Nat.le_of_ble_eq_true rfl) (Nat.le_of_ble_eq_true rfl) rfl (by rfl) ?_
    refine w_f (a := 44) (b := 42) rfl rfl rfl ?_
    refine w_p (pc1 := 43) (st1 := .long 0 :: _) rfl rfl ?_
    refine w_r rfl rfl rfl (fun _ _ => rfl) rfl ?_
    exact ⟨rfl, rfl, rfl⟩
  · skip
    refine w_p (pc1 := 1) rfl rfl ?_
    refine w_p (pc1 := 2) rfl rfl ?_
    refine w_p (pc1 := 3) rfl rfl ?_
    refine w_p (pc1 := 4) (st1 := .long 0 :: _) rfl rfl ?_
    refine w_m0 (pc1 := 7) (st1 := .long 7 :: _) rfl rfl rfl rfl ?_
    refine w_je (pc1 := 10) (vs := [_, .long 0, .long 7]) (rest := [.ref 176]) (st1 := [.int 0, .ref 176]) (m_189f (d := d) (sl := 0) (isIn_f (x := x) (m := 0) (n := 7) rfl rfl (by omega))) rfl rfl rfl (fun _ _ => rfl) rfl (by exact cl_s my_189 rfl rfl rfl (Nat.le_of_ble_eq_true rfl) rfl rfl) (by rfl) (Nat.le_of_ble_eq_true rfl) (Nat.le_of_ble_eq_true rfl) rfl (by rfl) ?_
    refine w_t (a := 26) (b := 13) rfl rfl rfl ?_
    refine w_p (pc1 := 27) (st1 := .int 0 :: _) rfl rfl ?_
    refine w_p (pc1 := 28) rfl rfl ?_
    refine w_p (pc1 := 29) rfl rfl ?_
    refine w_p (pc1 := 30) (st1 := .long 0 :: _) rfl rfl ?_
    refine w_m0 (pc1 := 33) (st1 := .long 5 :: _) rfl rfl rfl rfl ?_
    refine w_je (pc1 := 36) (vs := [_, .long 0, .long 5]) (rest := [.int 0, .ref 176]) (st1 := [.int 0, .int 0, .ref 176]) (m_189f (d := d) (sl := 0) (isIn_f (x := y) (m := 0) (n := 5) rfl rfl h2)) rfl rfl rfl (fun _ _ => rfl) rfl (by exact cl_s my_189 rfl rfl rfl (Nat.le_of_ble_eq_true rfl) rfl rfl) (by rfl) (Nat.le_of_ble_eq_true rfl) (Nat.le_of_ble_eq_true rfl) rfl (by rfl) ?_
    refine w_je (pc1 := 39) (vs := [.ref 176, .int 0, .int 0]) (rest := []) (st1 := [.int 0]) (m_190 (d := d) (sl := 0)) rfl rfl rfl (fun _ _ => rfl) rfl (by exact cl_v my_190 rfl rfl rfl (Nat.le_of_ble_eq_true rfl) rfl (MH_obj rfl rfl) rfl (by decide) rfl rfl) (by rfl) (Nat.le_of_ble_eq_true rfl) (Nat.le_of_ble_eq_true rfl) rfl (by rfl) ?_
    refine w_f (a := 44) (b := 42) rfl rfl rfl ?_
    refine w_p (pc1 := 43) (st1 := .long 0 :: _) rfl rfl ?_
    refine w_r rfl rfl rfl (fun _ _ => rfl) rfl ?_
    exact ⟨rfl, rfl, rfl⟩
set_option maxRecDepth 100000 in
theorem m_294n (hi : i < 24) (hf : C.1 83 i = 0) : Wd L xs (d + 1) y_294 (0, [(0, .ref 176), (1, .int (nI i))], [], MH C t, sl) (Rt (some (.int 0)) (MH (sI C 76 0 1) t) sl) nX := by
  refine w_p (pc1 := 1) rfl rfl ?_
  refine w_p (pc1 := 2) rfl rfl ?_
  refine w_p (pc1 := 3) rfl rfl ?_
  refine w_p (pc1 := 4) (st1 := .long 0 :: _) rfl rfl ?_
  refine w_m0 (pc1 := 7) (st1 := .long 23 :: _) rfl rfl rfl rfl ?_
  refine w_je (pc1 := 10) (vs := [_, .long 0, .long 23]) (rest := [.ref 176]) (st1 := [.int 1, .ref 176]) (m_189t (d := d) (sl := 0) (isIn_t (x := nI i) (m := 0) (n := 23) rfl rfl (by rw [nK_int (by omega)]; omega) (by rw [nK_int (by omega)]; omega))) rfl rfl rfl (fun _ _ => rfl) rfl (by exact cl_s my_189 rfl rfl rfl (Nat.le_of_ble_eq_true rfl) rfl rfl) (by rfl) (Nat.le_of_ble_eq_true rfl) (Nat.le_of_ble_eq_true rfl) rfl (by rfl) ?_
  refine w_f (a := 26) (b := 13) rfl rfl rfl ?_
  refine w_p (pc1 := 14) rfl rfl ?_
  refine w_m0 (pc1 := 17) rfl rfl (h_gC rfl rfl rfl rfl) rfl ?_
  refine w_p (pc1 := 18) rfl rfl ?_
  refine w_m0 (pc1 := 19) (st1 := .int 0 :: _) rfl rfl (n_ble (e := i) rfl rfl (by decide) rfl (by omega) (hf)) rfl ?_
  refine w_t (a := 26) (b := 22) rfl rfl rfl ?_
  refine w_p (pc1 := 27) (st1 := .int 0 :: _) rfl rfl ?_
  refine w_p (pc1 := 28) (st1 := .int 1 :: _) rfl rfl ?_
  refine w_je (pc1 := 31) (vs := [.ref 176, .int 0, .int 1]) (rest := []) (st1 := [.int 0]) (m_190 (d := d) (sl := 0)) rfl rfl rfl (fun _ _ => rfl) rfl (by exact cl_v my_190 rfl rfl rfl (Nat.le_of_ble_eq_true rfl) rfl (MH_obj rfl rfl) rfl (by decide) rfl rfl) (by rfl) (Nat.le_of_ble_eq_true rfl) (Nat.le_of_ble_eq_true rfl) rfl (by rfl) ?_
  refine w_t (a := 42) (b := 34) rfl rfl rfl ?_
  refine w_p (pc1 := 43) (st1 := .int 0 :: _) rfl rfl ?_
  refine w_r rfl rfl rfl (fun _ _ => rfl) cr_int ?_
  exact ⟨rfl, rfl, rfl⟩
set_option maxRecDepth 100000 in
theorem m_294o (h : ¬ (0 ≤ x.toInt ∧ x.toInt < 24)) : Wd L xs (d + 1) y_294 (0, [(0, .ref 176), (1, .int x)], [], MH C t, sl) (Rt (some (.int 0)) (MH (sI C 76 0 1) t) sl) nX := by
  refine w_p (pc1 := 1) rfl rfl ?_
  refine w_p (pc1 := 2) rfl rfl ?_
  refine w_p (pc1 := 3) rfl rfl ?_
  refine w_p (pc1 := 4) (st1 := .long 0 :: _) rfl rfl ?_
  refine w_m0 (pc1 := 7) (st1 := .long 23 :: _) rfl rfl rfl rfl ?_
  refine w_je (pc1 := 10) (vs := [_, .long 0, .long 23]) (rest := [.ref 176]) (st1 := [.int 0, .ref 176]) (m_189f (d := d) (sl := 0) (isIn_f (x := x) (m := 0) (n := 23) rfl rfl (by omega))) rfl rfl rfl (fun _ _ => rfl) rfl (by exact cl_s my_189 rfl rfl rfl (Nat.le_of_ble_eq_true rfl) rfl rfl) (by rfl) (Nat.le_of_ble_eq_true rfl) (Nat.le_of_ble_eq_true rfl) rfl (by rfl) ?_
  refine w_t (a := 26) (b := 13) rfl rfl rfl ?_
  refine w_p (pc1 := 27) (st1 := .int 0 :: _) rfl rfl ?_
  refine w_p (pc1 := 28) (st1 := .int 1 :: _) rfl rfl ?_
  refine w_je (pc1 := 31) (vs := [.ref 176, .int 0, .int 1]) (rest := []) (st1 := [.int 0]) (m_190 (d := d) (sl := 0)) rfl rfl rfl (fun _ _ => rfl) rfl (by exact cl_v my_190 rfl rfl rfl (Nat.le_of_ble_eq_true rfl) rfl (MH_obj rfl rfl) rfl (by decide) rfl rfl) (by rfl) (Nat.le_of_ble_eq_true rfl) (Nat.le_of_ble_eq_true rfl) rfl (by rfl) ?_
  refine w_t (a := 42) (b := 34) rfl rfl rfl ?_
  refine w_p (pc1 := 43) (st1 := .int 0 :: _) rfl rfl ?_
  refine w_r rfl rfl rfl (fun _ _ => rfl) cr_int ?_
  exact ⟨rfl, rfl, rfl⟩
set_option maxRecDepth 100000 in
theorem m_294 (hi : i < 24) (hf : C.1 83 i = 1) (w : Wd L xs (d + 1) y_274 (0, [(0, .ref 176), (1, .int (nI i))], [], MH (sI C 76 0 0) t, 0) Pc nX) (hP : ∀ v h q, Pc v h q → ∃ x, some (.int x) = v ∧ P v h (sl + q)) : Wd L xs (d + 2) y_294 (0, [(0, .ref 176), (1, .int (nI i))], [], MH C t, sl) P nX := by
  refine w_p (pc1 := 1) rfl rfl ?_
  refine w_p (pc1 := 2) rfl rfl ?_
  refine w_p (pc1 := 3) rfl rfl ?_
  refine w_p (pc1 := 4) (st1 := .long 0 :: _) rfl rfl ?_
  refine w_m0 (pc1 := 7) (st1 := .long 23 :: _) rfl rfl rfl rfl ?_
  refine w_je (pc1 := 10) (vs := [_, .long 0, .long 23]) (rest := [.ref 176]) (st1 := [.int 1, .ref 176]) (m_189t (d := d + 1) (sl := 0) (isIn_t (x := nI i) (m := 0) (n := 23) rfl rfl (by rw [nK_int (by omega)]; omega) (by rw [nK_int (by omega)]; omega))) rfl rfl rfl (fun _ _ => rfl) rfl (by exact cl_s my_189 rfl rfl rfl (Nat.le_of_ble_eq_true rfl) rfl rfl) (by rfl) (Nat.le_of_ble_eq_true rfl) (Nat.le_of_ble_eq_true rfl) rfl (by rfl) ?_
  refine w_f (a := 26) (b := 13) rfl rfl rfl ?_
  refine w_p (pc1 := 14) rfl rfl ?_
  refine w_m0 (pc1 := 17) rfl rfl (h_gC rfl rfl rfl rfl) rfl ?_
  refine w_p (pc1 := 18) rfl rfl ?_
  refine w_m0 (pc1 := 19) (st1 := .int 1 :: _) rfl rfl (n_ble (e := i) rfl rfl (by decide) rfl (by omega) (hf)) rfl ?_
  refine w_f (a := 26) (b := 22) rfl rfl rfl ?_
  refine w_p (pc1 := 23) (st1 := .int 1 :: _) rfl rfl ?_
  refine w_p (pc1 := 27) rfl rfl ?_
  refine w_p (pc1 := 28) (st1 := .int 1 :: _) rfl rfl ?_
  refine w_je (pc1 := 31) (vs := [.ref 176, .int 1, .int 1]) (rest := []) (st1 := [.int 1]) (m_190 (d := d + 1) (sl := 0)) rfl rfl rfl (fun _ _ => rfl) rfl (by exact cl_v my_190 rfl rfl rfl (Nat.le_of_ble_eq_true rfl) rfl (MH_obj rfl rfl) rfl (by decide) rfl rfl) (by rfl) (Nat.le_of_ble_eq_true rfl) (Nat.le_of_ble_eq_true rfl) rfl (by rfl) ?_
  refine w_f (a := 42) (b := 34) rfl rfl rfl ?_
  refine w_p (pc1 := 35) rfl rfl ?_
  refine w_p (pc1 := 36) rfl rfl ?_
  refine w_ji (pc1 := 39) (vs := [.ref 176, .int (nI (i))]) (rest := []) (w) rfl rfl rfl (fun _ _ => rfl) rfl (by exact cl_v my_274 rfl rfl rfl (Nat.le_of_ble_eq_true rfl) rfl (MH_obj rfl rfl) rfl (by decide) rfl rfl) (by rfl) (Nat.le_of_ble_eq_true rfl) (Nat.le_of_ble_eq_true rfl) rfl (fun v h q hq => ?_) (fun _ _ _ e => e.elim)
  obtain ⟨x, rfl, hq2⟩ := hP _ _ _ hq
  refine w_p (pc1 := 43) rfl rfl ?_
  refine w_r rfl rfl rfl (fun _ _ => rfl) cr_int ?_
  exact hq2
end MRU
