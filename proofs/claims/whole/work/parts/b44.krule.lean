
/-! ONE SIDE: rule, trigger -/
section ORU
variable {L : Nat} {xs : Nat → Int32} {B : Nat → Nat} {n m : Nat} {C C' C0 C1 : co_T} {t t0 t1 : ab_H} {d sl sl0 sl1 i i0 i1 j b e ti k k0 kc ks w c : Nat} {sc : sc_T} {row : Option Nat} {tg : Option (Nat × Nat)} {nl : Option Nat} {kd0 tb0 : Int32} {P : Option Value → ab_H → Nat → Prop} {X : Nat → ab_H → Nat → Prop} {cs : List Nat} {ss : List (Option (List op_T))} {E : fe_T} {tr : Nat → Option tr_T} {x r y z : Int32} {a : Int64} {nn kt ka : Nat} {u : ru_T} {fc ft : Nat → Int32} {vc vw : Value} {g : tr_T} {lt : Bool}
/-! columns as bits -/
def bcs : List Nat → Int32 → Int32
  | [], a => a
  | c :: cs, a => bcs cs (orN a (nI c))
set_option maxRecDepth 100000 in
theorem lp_180 (g1 : t[k]? = some (.inr (7, [.int (nI (rKd u)), .int (nI (rTb u)), .ref (241 + kc), .ref (241 + kt), .int (nI (rCs u).length), .int (tgI (rTg u)), .int (ck (rLt u)), .int (nI (rDl u)), .int (nI (rUp u)), vc]))) (g2 : t[kc]? = some (.inl (0, 6, .inl fc))) (ga : arI fc 0 (rCs u)) (h6 : (rCs u).length ≤ 6) : ∀ (suf pre : List Nat) (a : Int32), pre ++ suf = rCs u → Wd L xs d y_180 (4, [(2, .int (nI pre.length)), (1, .int a), (0, .ref (241 + k))], [], MH C t, sl) (Rt (some (.int (bcs suf a))) (MH C t) sl) nX
  | [], pre, a, hp => by
    have hl : pre.length = (rCs u).length := by rw [← hp]; simp
    refine w_p (pc1 := 5) rfl rfl ?_
    refine w_p (pc1 := 6) rfl rfl ?_
    refine w_m0 (pc1 := 9) (st1 := .int (nI ((rCs u).length)) :: _) rfl rfl (x_gf (k := k) rfl g1 rfl) rfl ?_
    refine w_t (a := 38) (b := 12) (bN_ge_t (a := pre.length) (b := (rCs u).length) (by omega) (by omega) (by omega)) rfl rfl ?_
    refine w_p (pc1 := 39) rfl rfl ?_
    refine w_r rfl rfl rfl (fun _ _ => rfl) cr_int ?_
    exact ⟨rfl, rfl, rfl⟩
  | c :: suf, pre, a, hp => by
    have hl : pre.length + (suf.length + 1) = (rCs u).length := by rw [← hp]; simp
    have hc : fc pre.length = nI c := by
      have := ga pre.length c (by rw [← hp]; simp)
      rwa [Nat.zero_add] at this
    have ih := lp_180 g1 g2 ga h6 suf (pre ++ [c]) (orN a (nI c)) (by rw [← hp]; simp)
    rw [show (pre ++ [c]).length = pre.length + 1 by simp] at ih
    rw [bcs]
    refine w_p (pc1 := 5) rfl rfl ?_
    refine w_p (pc1 := 6) rfl rfl ?_
    refine w_m0 (pc1 := 9) (st1 := .int (nI ((rCs u).length)) :: _) rfl rfl (x_gf (k := k) rfl g1 rfl) rfl ?_
    refine w_f (a := 38) (b := 12) (bN_ge_f (a := pre.length) (b := (rCs u).length) (by omega) (by omega) (by omega)) rfl rfl ?_
    refine w_p (pc1 := 13) rfl rfl ?_
    refine w_p (pc1 := 14) rfl rfl ?_
    refine w_m0 (pc1 := 17) (st1 := .ref (241 + kc) :: _) rfl rfl (x_gf (k := k) rfl g1 rfl) rfl ?_
    refine w_m0 (pc1 := 18) (st1 := .int (nI (6)) :: _) rfl rfl (x_ln (k := kc) g2 (by decide)) rfl ?_
    refine w_f (a := 38) (b := 21) (bN_ge_f (a := pre.length) (b := 6) (by omega) (by omega) (by omega)) rfl rfl ?_
    refine w_p (pc1 := 22) rfl rfl ?_
    refine w_p (pc1 := 23) (st1 := .int 1 :: _) rfl rfl ?_
    refine w_p (pc1 := 24) rfl rfl ?_
    refine w_m0 (pc1 := 27) (st1 := .ref (241 + kc) :: _) rfl rfl (x_gf (k := k) rfl g1 rfl) rfl ?_
    refine w_p (pc1 := 28) rfl rfl ?_
    refine w_m0 (pc1 := 29) (st1 := .int (nI (c)) :: _) rfl rfl (x_ile (k := kc) (e := pre.length) g2 (by omega) (by omega) (hc)) rfl ?_
    refine w_p (pc1 := 30) rfl rfl ?_
    refine w_p (pc1 := 31) rfl rfl ?_
    refine w_p (pc1 := 32) (al1 := [(1, _), (2, .int (nI (pre.length))), (0, .ref (241 + k))]) rfl rfl ?_
    refine w_iinc (pc1 := 35) (u := nI (pre.length)) (z := nI (pre.length + 1)) (al1 := [(2, .int (nI (pre.length + 1))), (1, _), (0, .ref (241 + k))]) rfl rfl rfl nK_1 rfl rfl ?_
    refine w_p (pc1 := 4) rfl rfl ?_
    exact ih
set_option maxRecDepth 100000 in
theorem m_180 (g1 : t[k]? = some (.inr (7, [.int (nI (rKd u)), .int (nI (rTb u)), .ref (241 + kc), .ref (241 + kt), .int (nI (rCs u).length), .int (tgI (rTg u)), .int (ck (rLt u)), .int (nI (rDl u)), .int (nI (rUp u)), vc]))) (g2 : t[kc]? = some (.inl (0, 6, .inl fc))) (ga : arI fc 0 (rCs u)) (h6 : (rCs u).length ≤ 6) : Wd L xs d y_180 (0, [(0, .ref (241 + k))], [], MH C t, sl) (Rt (some (.int (bcs (rCs u) 0))) (MH C t) sl) nX := by
  refine w_p (pc1 := 1) (st1 := .int 0 :: _) rfl rfl ?_
  refine w_p (pc1 := 2) (al1 := [(1, .int 0), (0, .ref (241 + k))]) rfl rfl ?_
  refine w_p (pc1 := 3) (st1 := .int 0 :: _) rfl rfl ?_
  refine w_p (pc1 := 4) (al1 := [(2, .int 0), (1, .int 0), (0, .ref (241 + k))]) rfl rfl ?_
  exact lp_180 g1 g2 ga h6 (rCs u) [] 0 rfl
set_option maxRecDepth 100000 in
theorem m_179_0 (hi : i < 24) (h : C.2.2 11 i = some (241 + k)) (U : RUK t k u) (h6 : (rCs u).length ≤ 6) : Wd L xs (d + 1) y_179 (0, [(0, .ref 100), (1, .int (nI i)), (2, .int 0)], [], MH C t, sl) (Rt (some (.int (nI (rKd u)))) (MH C t) sl) nX := by
  obtain ⟨kc, kt, fc, ft, vc, ⟨g1, g2, _, ga, _⟩, _⟩ := U
  refine w_p (pc1 := 1) rfl rfl ?_
  refine w_m0 (pc1 := 4) rfl rfl (h_gC rfl rfl rfl rfl) rfl ?_
  refine w_p (pc1 := 5) rfl rfl ?_
  refine w_je (pc1 := 8) (vs := [.ref 106, .int (nI (i))]) (rest := []) (st1 := [.ref (241 + k)]) (m_96_s (d := d) (sl := 0) hi h) rfl rfl rfl (fun _ _ => rfl) rfl (by exact cl_v my_96 rfl rfl rfl (Nat.le_of_ble_eq_true rfl) rfl (MH_obj rfl rfl) rfl (by decide) rfl rfl) (by rfl) (Nat.le_of_ble_eq_true rfl) (Nat.le_of_ble_eq_true rfl) rfl (by rfl) ?_
  refine w_p (pc1 := 9) (al1 := [(3, .ref (241 + k)), (0, .ref 100), (1, .int (nI (i))), (2, .int 0)]) rfl rfl ?_
  refine w_p (pc1 := 10) rfl rfl ?_
  refine w_t (a := 23) (b := 13) rfl rfl rfl ?_
  refine w_p (pc1 := 24) rfl rfl ?_
  refine w_p (pc1 := 72) rfl rfl ?_
  refine w_p (pc1 := 73) rfl rfl ?_
  refine w_m0 (pc1 := 76) (st1 := .int (nI (rKd u)) :: _) rfl rfl (x_gf (k := k) rfl g1 rfl) rfl ?_
  refine w_r rfl rfl rfl (fun _ _ => rfl) cr_int ?_
  exact ⟨rfl, rfl, rfl⟩
set_option maxRecDepth 100000 in
theorem m_179_1 (hi : i < 24) (h : C.2.2 11 i = some (241 + k)) (U : RUK t k u) (h6 : (rCs u).length ≤ 6) : Wd L xs (d + 1) y_179 (0, [(0, .ref 100), (1, .int (nI i)), (2, .int 1)], [], MH C t, sl) (Rt (some (.int (nI (rTb u)))) (MH C t) sl) nX := by
  obtain ⟨kc, kt, fc, ft, vc, ⟨g1, g2, _, ga, _⟩, _⟩ := U
  refine w_p (pc1 := 1) rfl rfl ?_
  refine w_m0 (pc1 := 4) rfl rfl (h_gC rfl rfl rfl rfl) rfl ?_
  refine w_p (pc1 := 5) rfl rfl ?_
  refine w_je (pc1 := 8) (vs := [.ref 106, .int (nI (i))]) (rest := []) (st1 := [.ref (241 + k)]) (m_96_s (d := d) (sl := 0) hi h) rfl rfl rfl (fun _ _ => rfl) rfl (by exact cl_v my_96 rfl rfl rfl (Nat.le_of_ble_eq_true rfl) rfl (MH_obj rfl rfl) rfl (by decide) rfl rfl) (by rfl) (Nat.le_of_ble_eq_true rfl) (Nat.le_of_ble_eq_true rfl) rfl (by rfl) ?_
  refine w_p (pc1 := 9) (al1 := [(3, .ref (241 + k)), (0, .ref 100), (1, .int (nI (i))), (2, .int 1)]) rfl rfl ?_
  refine w_p (pc1 := 10) rfl rfl ?_
  refine w_t (a := 23) (b := 13) rfl rfl rfl ?_
  refine w_p (pc1 := 24) rfl rfl ?_
  refine w_p (pc1 := 77) rfl rfl ?_
  refine w_p (pc1 := 78) rfl rfl ?_
  refine w_m0 (pc1 := 81) (st1 := .int (nI (rTb u)) :: _) rfl rfl (x_gf (k := k) rfl g1 rfl) rfl ?_
  refine w_r rfl rfl rfl (fun _ _ => rfl) cr_int ?_
  exact ⟨rfl, rfl, rfl⟩
set_option maxRecDepth 100000 in
theorem m_179_2 (hi : i < 24) (h : C.2.2 11 i = some (241 + k)) (U : RUK t k u) (h6 : (rCs u).length ≤ 6) : Wd L xs (d + 1) y_179 (0, [(0, .ref 100), (1, .int (nI i)), (2, .int 2)], [], MH C t, sl) (Rt (some (.int (bcs (rCs u) 0))) (MH C t) sl) nX := by
  obtain ⟨kc, kt, fc, ft, vc, ⟨g1, g2, _, ga, _⟩, _⟩ := U
  refine w_p (pc1 := 1) rfl rfl ?_
  refine w_m0 (pc1 := 4) rfl rfl (h_gC rfl rfl rfl rfl) rfl ?_
  refine w_p (pc1 := 5) rfl rfl ?_
  refine w_je (pc1 := 8) (vs := [.ref 106, .int (nI (i))]) (rest := []) (st1 := [.ref (241 + k)]) (m_96_s (d := d) (sl := 0) hi h) rfl rfl rfl (fun _ _ => rfl) rfl (by exact cl_v my_96 rfl rfl rfl (Nat.le_of_ble_eq_true rfl) rfl (MH_obj rfl rfl) rfl (by decide) rfl rfl) (by rfl) (Nat.le_of_ble_eq_true rfl) (Nat.le_of_ble_eq_true rfl) rfl (by rfl) ?_
  refine w_p (pc1 := 9) (al1 := [(3, .ref (241 + k)), (0, .ref 100), (1, .int (nI (i))), (2, .int 2)]) rfl rfl ?_
  refine w_p (pc1 := 10) rfl rfl ?_
  refine w_t (a := 23) (b := 13) rfl rfl rfl ?_
  refine w_p (pc1 := 24) rfl rfl ?_
  refine w_p (pc1 := 82) rfl rfl ?_
  refine w_p (pc1 := 83) rfl rfl ?_
  refine w_je (pc1 := 86) (vs := [.ref (241 + k)]) (rest := []) (st1 := [.int (bcs (rCs u) 0)]) (m_180 (d := d) (sl := 0) g1 g2 ga h6) rfl rfl rfl (fun _ _ => rfl) rfl (by exact cl_v my_180 rfl rfl rfl (Nat.le_of_ble_eq_true rfl) rfl (x_obj g1) rfl (by decide) rfl rfl) (by rfl) (Nat.le_of_ble_eq_true rfl) (Nat.le_of_ble_eq_true rfl) rfl (by rfl) ?_
  refine w_r rfl rfl rfl (fun _ _ => rfl) cr_int ?_
  exact ⟨rfl, rfl, rfl⟩
set_option maxRecDepth 100000 in
theorem m_179_3 (hi : i < 24) (h : C.2.2 11 i = some (241 + k)) (U : RUK t k u) (h6 : (rCs u).length ≤ 6) : Wd L xs (d + 1) y_179 (0, [(0, .ref 100), (1, .int (nI i)), (2, .int 3)], [], MH C t, sl) (Rt (some (.int (tgI (rTg u)))) (MH C t) sl) nX := by
  obtain ⟨kc, kt, fc, ft, vc, ⟨g1, g2, _, ga, _⟩, _⟩ := U
  refine w_p (pc1 := 1) rfl rfl ?_
  refine w_m0 (pc1 := 4) rfl rfl (h_gC rfl rfl rfl rfl) rfl ?_
  refine w_p (pc1 := 5) rfl rfl ?_
  refine w_je (pc1 := 8) (vs := [.ref 106, .int (nI (i))]) (rest := []) (st1 := [.ref (241 + k)]) (m_96_s (d := d) (sl := 0) hi h) rfl rfl rfl (fun _ _ => rfl) rfl (by exact cl_v my_96 rfl rfl rfl (Nat.le_of_ble_eq_true rfl) rfl (MH_obj rfl rfl) rfl (by decide) rfl rfl) (by rfl) (Nat.le_of_ble_eq_true rfl) (Nat.le_of_ble_eq_true rfl) rfl (by rfl) ?_
  refine w_p (pc1 := 9) (al1 := [(3, .ref (241 + k)), (0, .ref 100), (1, .int (nI (i))), (2, .int 3)]) rfl rfl ?_
  refine w_p (pc1 := 10) rfl rfl ?_
  refine w_t (a := 23) (b := 13) rfl rfl rfl ?_
  refine w_p (pc1 := 24) rfl rfl ?_
  refine w_p (pc1 := 87) rfl rfl ?_
  refine w_p (pc1 := 88) rfl rfl ?_
  refine w_m0 (pc1 := 91) (st1 := .int (tgI (rTg u)) :: _) rfl rfl (x_gf (k := k) rfl g1 rfl) rfl ?_
  refine w_r rfl rfl rfl (fun _ _ => rfl) cr_int ?_
  exact ⟨rfl, rfl, rfl⟩
set_option maxRecDepth 100000 in
theorem m_179_5 (hi : i < 24) (h : C.2.2 11 i = some (241 + k)) (U : RUK t k u) (h6 : (rCs u).length ≤ 6) : Wd L xs (d + 1) y_179 (0, [(0, .ref 100), (1, .int (nI i)), (2, .int 5)], [], MH C t, sl) (Rt (some (.int ((C.1 6 8 >>> (nI i &&& 31)) &&& 1))) (MH C t) sl) nX := by
  obtain ⟨kc, kt, fc, ft, vc, ⟨g1, g2, _, ga, _⟩, _⟩ := U
  refine w_p (pc1 := 1) rfl rfl ?_
  refine w_m0 (pc1 := 4) rfl rfl (h_gC rfl rfl rfl rfl) rfl ?_
  refine w_p (pc1 := 5) rfl rfl ?_
  refine w_je (pc1 := 8) (vs := [.ref 106, .int (nI (i))]) (rest := []) (st1 := [.ref (241 + k)]) (m_96_s (d := d) (sl := 0) hi h) rfl rfl rfl (fun _ _ => rfl) rfl (by exact cl_v my_96 rfl rfl rfl (Nat.le_of_ble_eq_true rfl) rfl (MH_obj rfl rfl) rfl (by decide) rfl rfl) (by rfl) (Nat.le_of_ble_eq_true rfl) (Nat.le_of_ble_eq_true rfl) rfl (by rfl) ?_
  refine w_p (pc1 := 9) (al1 := [(3, .ref (241 + k)), (0, .ref 100), (1, .int (nI (i))), (2, .int 5)]) rfl rfl ?_
  refine w_p (pc1 := 10) rfl rfl ?_
  refine w_t (a := 23) (b := 13) rfl rfl rfl ?_
  refine w_p (pc1 := 24) rfl rfl ?_
  refine w_p (pc1 := 105) rfl rfl ?_
  refine w_p (pc1 := 106) rfl rfl ?_
  refine w_m0 (pc1 := 109) rfl rfl (h_gC rfl rfl rfl rfl) rfl ?_
  refine w_m0 (pc1 := 112) rfl rfl (h_gI (j := 8) rfl rfl rfl rfl rfl) rfl ?_
  refine w_p (pc1 := 113) rfl rfl ?_
  refine w_p (pc1 := 114) rfl rfl ?_
  refine w_p (pc1 := 115) (st1 := .int 1 :: _) rfl rfl ?_
  refine w_p (pc1 := 116) rfl rfl ?_
  refine w_r rfl rfl rfl (fun _ _ => rfl) cr_int ?_
  exact ⟨rfl, rfl, rfl⟩
set_option maxRecDepth 100000 in
theorem m_179_6 (hi : i < 24) (h : C.2.2 11 i = some (241 + k)) (U : RUK t k u) (h6 : (rCs u).length ≤ 6) : Wd L xs (d + 1) y_179 (0, [(0, .ref 100), (1, .int (nI i)), (2, .int 6)], [], MH C t, sl) (Rt (some (.int (nI (rDl u)))) (MH C t) sl) nX := by
  obtain ⟨kc, kt, fc, ft, vc, ⟨g1, g2, _, ga, _⟩, _⟩ := U
  refine w_p (pc1 := 1) rfl rfl ?_
  refine w_m0 (pc1 := 4) rfl rfl (h_gC rfl rfl rfl rfl) rfl ?_
  refine w_p (pc1 := 5) rfl rfl ?_
  refine w_je (pc1 := 8) (vs := [.ref 106, .int (nI (i))]) (rest := []) (st1 := [.ref (241 + k)]) (m_96_s (d := d) (sl := 0) hi h) rfl rfl rfl (fun _ _ => rfl) rfl (by exact cl_v my_96 rfl rfl rfl (Nat.le_of_ble_eq_true rfl) rfl (MH_obj rfl rfl) rfl (by decide) rfl rfl) (by rfl) (Nat.le_of_ble_eq_true rfl) (Nat.le_of_ble_eq_true rfl) rfl (by rfl) ?_
  refine w_p (pc1 := 9) (al1 := [(3, .ref (241 + k)), (0, .ref 100), (1, .int (nI (i))), (2, .int 6)]) rfl rfl ?_
  refine w_p (pc1 := 10) rfl rfl ?_
  refine w_t (a := 23) (b := 13) rfl rfl rfl ?_
  refine w_p (pc1 := 24) rfl rfl ?_
  refine w_p (pc1 := 117) rfl rfl ?_
  refine w_p (pc1 := 118) rfl rfl ?_
  refine w_m0 (pc1 := 121) (st1 := .int (nI (rDl u)) :: _) rfl rfl (x_gf (k := k) rfl g1 rfl) rfl ?_
  refine w_r rfl rfl rfl (fun _ _ => rfl) cr_int ?_
  exact ⟨rfl, rfl, rfl⟩
set_option maxRecDepth 100000 in
theorem m_179_7 (hi : i < 24) (h : C.2.2 11 i = some (241 + k)) (U : RUK t k u) (h6 : (rCs u).length ≤ 6) : Wd L xs (d + 1) y_179 (0, [(0, .ref 100), (1, .int (nI i)), (2, .int 7)], [], MH C t, sl) (Rt (some (.int (nI (rUp u)))) (MH C t) sl) nX := by
  obtain ⟨kc, kt, fc, ft, vc, ⟨g1, g2, _, ga, _⟩, _⟩ := U
  refine w_p (pc1 := 1) rfl rfl ?_
  refine w_m0 (pc1 := 4) rfl rfl (h_gC rfl rfl rfl rfl) rfl ?_
  refine w_p (pc1 := 5) rfl rfl ?_
  refine w_je (pc1 := 8) (vs := [.ref 106, .int (nI (i))]) (rest := []) (st1 := [.ref (241 + k)]) (m_96_s (d := d) (sl := 0) hi h) rfl rfl rfl (fun _ _ => rfl) rfl (by exact cl_v my_96 rfl rfl rfl (Nat.le_of_ble_eq_true rfl) rfl (MH_obj rfl rfl) rfl (by decide) rfl rfl) (by rfl) (Nat.le_of_ble_eq_true rfl) (Nat.le_of_ble_eq_true rfl) rfl (by rfl) ?_
  refine w_p (pc1 := 9) (al1 := [(3, .ref (241 + k)), (0, .ref 100), (1, .int (nI (i))), (2, .int 7)]) rfl rfl ?_
  refine w_p (pc1 := 10) rfl rfl ?_
  refine w_t (a := 23) (b := 13) rfl rfl rfl ?_
  refine w_p (pc1 := 24) rfl rfl ?_
  refine w_p (pc1 := 122) rfl rfl ?_
  refine w_p (pc1 := 123) rfl rfl ?_
  refine w_m0 (pc1 := 126) (st1 := .int (nI (rUp u)) :: _) rfl rfl (x_gf (k := k) rfl g1 rfl) rfl ?_
  refine w_r rfl rfl rfl (fun _ _ => rfl) cr_int ?_
  exact ⟨rfl, rfl, rfl⟩
set_option maxRecDepth 100000 in
theorem m_179_4 (hi : i < 24) (h : C.2.2 11 i = some (241 + k)) (U : RUK t k u) (h6 : (rCs u).length ≤ 6) : Wd L xs (d + 1) y_179 (0, [(0, .ref 100), (1, .int (nI i)), (2, .int 4)], [], MH C t, sl) (Rt (some (.int (ck (rLt u)))) (MH C t) sl) nX := by
  obtain ⟨kc, kt, fc, ft, vc, ⟨g1, g2, _, ga, _⟩, _⟩ := U
  cases hb : rLt u with
  | true =>
    refine w_p (pc1 := 1) rfl rfl ?_
    refine w_m0 (pc1 := 4) rfl rfl (h_gC rfl rfl rfl rfl) rfl ?_
    refine w_p (pc1 := 5) rfl rfl ?_
    refine w_je (pc1 := 8) (vs := [.ref 106, .int (nI (i))]) (rest := []) (st1 := [.ref (241 + k)]) (m_96_s (d := d) (sl := 0) hi h) rfl rfl rfl (fun _ _ => rfl) rfl (by exact cl_v my_96 rfl rfl rfl (Nat.le_of_ble_eq_true rfl) rfl (MH_obj rfl rfl) rfl (by decide) rfl rfl) (by rfl) (Nat.le_of_ble_eq_true rfl) (Nat.le_of_ble_eq_true rfl) rfl (by rfl) ?_
    refine w_p (pc1 := 9) (al1 := [(3, .ref (241 + k)), (0, .ref 100), (1, .int (nI (i))), (2, .int 4)]) rfl rfl ?_
    refine w_p (pc1 := 10) rfl rfl ?_
    refine w_t (a := 23) (b := 13) rfl rfl rfl ?_
    refine w_p (pc1 := 24) rfl rfl ?_
    refine w_p (pc1 := 92) rfl rfl ?_
    refine w_p (pc1 := 93) rfl rfl ?_
    refine w_m0 (pc1 := 96) (st1 := .int (ck (rLt u)) :: _) rfl rfl (x_gf (k := k) rfl g1 rfl) rfl ?_
    refine w_f (a := 103) (b := 99) (cb_eq_f (by rw [hb]; decide)) rfl rfl ?_
    refine w_p (pc1 := 100) (st1 := .int 1 :: _) rfl rfl ?_
    refine w_p (pc1 := 104) rfl rfl ?_
    refine w_r rfl rfl rfl (fun _ _ => rfl) cr_int ?_
    exact ⟨rfl, rfl, rfl⟩
  | false =>
    refine w_p (pc1 := 1) rfl rfl ?_
    refine w_m0 (pc1 := 4) rfl rfl (h_gC rfl rfl rfl rfl) rfl ?_
    refine w_p (pc1 := 5) rfl rfl ?_
    refine w_je (pc1 := 8) (vs := [.ref 106, .int (nI (i))]) (rest := []) (st1 := [.ref (241 + k)]) (m_96_s (d := d) (sl := 0) hi h) rfl rfl rfl (fun _ _ => rfl) rfl (by exact cl_v my_96 rfl rfl rfl (Nat.le_of_ble_eq_true rfl) rfl (MH_obj rfl rfl) rfl (by decide) rfl rfl) (by rfl) (Nat.le_of_ble_eq_true rfl) (Nat.le_of_ble_eq_true rfl) rfl (by rfl) ?_
    refine w_p (pc1 := 9) (al1 := [(3, .ref (241 + k)), (0, .ref 100), (1, .int (nI (i))), (2, .int 4)]) rfl rfl ?_
    refine w_p (pc1 := 10) rfl rfl ?_
    refine w_t (a := 23) (b := 13) rfl rfl rfl ?_
    refine w_p (pc1 := 24) rfl rfl ?_
    refine w_p (pc1 := 92) rfl rfl ?_
    refine w_p (pc1 := 93) rfl rfl ?_
    refine w_m0 (pc1 := 96) (st1 := .int (ck (rLt u)) :: _) rfl rfl (x_gf (k := k) rfl g1 rfl) rfl ?_
    refine w_t (a := 103) (b := 99) (cb_eq_t (by rw [hb]; rfl)) rfl rfl ?_
    refine w_p (pc1 := 104) (st1 := .int 0 :: _) rfl rfl ?_
    refine w_r rfl rfl rfl (fun _ _ => rfl) cr_int ?_
    exact ⟨rfl, rfl, rfl⟩
set_option maxRecDepth 100000 in
theorem m_179n (w : Wd L xs (d + 5) y_96 (0, [(0, .ref 106), (1, .int x)], [], MH C t, 0) (Rt (some .null) (MH C t) 0) nX) : Wd L xs (d + 6) y_179 (0, [(0, .ref 100), (1, .int x), (2, .int y)], [], MH C t, sl) nP (Xk 14 C t sl) := by
  refine w_p (pc1 := 1) rfl rfl ?_
  refine w_m0 (pc1 := 4) rfl rfl (h_gC rfl rfl rfl rfl) rfl ?_
  refine w_p (pc1 := 5) rfl rfl ?_
  refine w_je (pc1 := 8) (vs := [.ref 106, .int (x)]) (rest := []) (st1 := [.null]) (w) rfl rfl rfl (fun _ _ => rfl) rfl (by exact cl_v my_96 rfl rfl rfl (Nat.le_of_ble_eq_true rfl) rfl (MH_obj rfl rfl) rfl (by decide) rfl rfl) (by rfl) (Nat.le_of_ble_eq_true rfl) (Nat.le_of_ble_eq_true rfl) rfl (by rfl) ?_
  refine w_p (pc1 := 9) (al1 := [(3, .null), (0, .ref 100), (1, .int (x)), (2, .int (y))]) rfl rfl ?_
  refine w_p (pc1 := 10) rfl rfl ?_
  refine w_f (a := 23) (b := 13) rfl rfl rfl ?_
  refine w_x (ci := 14) rfl rfl rfl (fun _ _ => rfl) rfl rfl (fun fr lo h1 h2 => cx_ok h1 h2 rfl) (by exact ch_thr (by decide) rfl) ?_
  exact Xk_i
set_option maxRecDepth 100000 in
theorem m_179x (hi : i < 24) (h : C.2.2 11 i = some (241 + k)) (U : RUK t k u) (h6 : (rCs u).length ≤ 6) (hy : ¬ (0 ≤ y.toInt ∧ y.toInt ≤ 7)) : Wd L xs (d + 6) y_179 (0, [(0, .ref 100), (1, .int (nI i)), (2, .int y)], [], MH C t, sl) nP (Xk 13 C t sl) := by
  obtain ⟨kc, kt, fc, ft, vc, ⟨g1, g2, _, ga, _⟩, _⟩ := U
  refine w_p (pc1 := 1) rfl rfl ?_
  refine w_m0 (pc1 := 4) rfl rfl (h_gC rfl rfl rfl rfl) rfl ?_
  refine w_p (pc1 := 5) rfl rfl ?_
  refine w_je (pc1 := 8) (vs := [.ref 106, .int (nI (i))]) (rest := []) (st1 := [.ref (241 + k)]) (m_96_s (d := d + 5) (sl := 0) hi h) rfl rfl rfl (fun _ _ => rfl) rfl (by exact cl_v my_96 rfl rfl rfl (Nat.le_of_ble_eq_true rfl) rfl (MH_obj rfl rfl) rfl (by decide) rfl rfl) (by rfl) (Nat.le_of_ble_eq_true rfl) (Nat.le_of_ble_eq_true rfl) rfl (by rfl) ?_
  refine w_p (pc1 := 9) (al1 := [(3, .ref (241 + k)), (0, .ref 100), (1, .int (nI (i))), (2, .int (y))]) rfl rfl ?_
  refine w_p (pc1 := 10) rfl rfl ?_
  refine w_t (a := 23) (b := 13) rfl rfl rfl ?_
  refine w_p (pc1 := 24) rfl rfl ?_
  refine w_sd (a := 127) rfl rfl (by omega) ?_
  refine w_x (ci := 13) rfl rfl rfl (fun _ _ => rfl) rfl rfl (fun fr lo h1 h2 => cx_ok h1 h2 rfl) (by exact ch_thr (by decide) rfl) ?_
  exact Xk_i
set_option maxRecDepth 100000 in
theorem m_182_0 (hi : i < 8) (h : C.2.2 12 i = some (241 + k)) (G : TRK t k g) : Wd L xs (d + 1) y_182 (0, [(0, .ref 100), (1, .int (nI i)), (2, .int 0)], [], MH C t, sl) (Rt (some (.long ((nI (gTb g)).toInt64))) (MH C t) sl) nX := by
  obtain ⟨ka, vw, g1, _, kc, ks, fc, fs, vw2, g2, _⟩ := G
  refine w_p (pc1 := 1) rfl rfl ?_
  refine w_m0 (pc1 := 4) rfl rfl (h_gC rfl rfl rfl rfl) rfl ?_
  refine w_p (pc1 := 5) rfl rfl ?_
  refine w_je (pc1 := 8) (vs := [.ref 106, .int (nI (i))]) (rest := []) (st1 := [.ref (241 + k)]) (m_123_s (d := d) (sl := 0) hi h) rfl rfl rfl (fun _ _ => rfl) rfl (by exact cl_v my_123 rfl rfl rfl (Nat.le_of_ble_eq_true rfl) rfl (MH_obj rfl rfl) rfl (by decide) rfl rfl) (by rfl) (Nat.le_of_ble_eq_true rfl) (Nat.le_of_ble_eq_true rfl) rfl (by rfl) ?_
  refine w_p (pc1 := 9) (al1 := [(3, .ref (241 + k)), (0, .ref 100), (1, .int (nI (i))), (2, .int 0)]) rfl rfl ?_
  refine w_p (pc1 := 10) rfl rfl ?_
  refine w_t (a := 23) (b := 13) rfl rfl rfl ?_
  refine w_p (pc1 := 24) rfl rfl ?_
  refine w_p (pc1 := 64) rfl rfl ?_
  refine w_p (pc1 := 65) rfl rfl ?_
  refine w_m0 (pc1 := 68) (st1 := .int (nI (gTb g)) :: _) rfl rfl (x_gf (k := k) rfl g1 rfl) rfl ?_
  refine w_p (pc1 := 69) rfl rfl ?_
  refine w_r rfl rfl rfl (fun _ _ => rfl) rfl ?_
  exact ⟨rfl, rfl, rfl⟩
set_option maxRecDepth 100000 in
theorem m_182_1 (hi : i < 8) (h : C.2.2 12 i = some (241 + k)) (G : TRK t k g) : Wd L xs (d + 1) y_182 (0, [(0, .ref 100), (1, .int (nI i)), (2, .int 1)], [], MH C t, sl) (Rt (some (.long ((nI (gTi g)).toInt64))) (MH C t) sl) nX := by
  obtain ⟨ka, vw, g1, _, kc, ks, fc, fs, vw2, g2, _⟩ := G
  refine w_p (pc1 := 1) rfl rfl ?_
  refine w_m0 (pc1 := 4) rfl rfl (h_gC rfl rfl rfl rfl) rfl ?_
  refine w_p (pc1 := 5) rfl rfl ?_
  refine w_je (pc1 := 8) (vs := [.ref 106, .int (nI (i))]) (rest := []) (st1 := [.ref (241 + k)]) (m_123_s (d := d) (sl := 0) hi h) rfl rfl rfl (fun _ _ => rfl) rfl (by exact cl_v my_123 rfl rfl rfl (Nat.le_of_ble_eq_true rfl) rfl (MH_obj rfl rfl) rfl (by decide) rfl rfl) (by rfl) (Nat.le_of_ble_eq_true rfl) (Nat.le_of_ble_eq_true rfl) rfl (by rfl) ?_
  refine w_p (pc1 := 9) (al1 := [(3, .ref (241 + k)), (0, .ref 100), (1, .int (nI (i))), (2, .int 1)]) rfl rfl ?_
  refine w_p (pc1 := 10) rfl rfl ?_
  refine w_t (a := 23) (b := 13) rfl rfl rfl ?_
  refine w_p (pc1 := 24) rfl rfl ?_
  refine w_p (pc1 := 70) rfl rfl ?_
  refine w_p (pc1 := 71) rfl rfl ?_
  refine w_m0 (pc1 := 74) (st1 := .int (nI (gTi g)) :: _) rfl rfl (x_gf (k := k) rfl g1 rfl) rfl ?_
  refine w_p (pc1 := 75) rfl rfl ?_
  refine w_r rfl rfl rfl (fun _ _ => rfl) rfl ?_
  exact ⟨rfl, rfl, rfl⟩
set_option maxRecDepth 100000 in
theorem m_182_2 (hi : i < 8) (h : C.2.2 12 i = some (241 + k)) (G : TRK t k g) : Wd L xs (d + 1) y_182 (0, [(0, .ref 100), (1, .int (nI i)), (2, .int 2)], [], MH C t, sl) (Rt (some (.long ((nI (gEv g)).toInt64))) (MH C t) sl) nX := by
  obtain ⟨ka, vw, g1, _, kc, ks, fc, fs, vw2, g2, _⟩ := G
  refine w_p (pc1 := 1) rfl rfl ?_
  refine w_m0 (pc1 := 4) rfl rfl (h_gC rfl rfl rfl rfl) rfl ?_
  refine w_p (pc1 := 5) rfl rfl ?_
  refine w_je (pc1 := 8) (vs := [.ref 106, .int (nI (i))]) (rest := []) (st1 := [.ref (241 + k)]) (m_123_s (d := d) (sl := 0) hi h) rfl rfl rfl (fun _ _ => rfl) rfl (by exact cl_v my_123 rfl rfl rfl (Nat.le_of_ble_eq_true rfl) rfl (MH_obj rfl rfl) rfl (by decide) rfl rfl) (by rfl) (Nat.le_of_ble_eq_true rfl) (Nat.le_of_ble_eq_true rfl) rfl (by rfl) ?_
  refine w_p (pc1 := 9) (al1 := [(3, .ref (241 + k)), (0, .ref 100), (1, .int (nI (i))), (2, .int 2)]) rfl rfl ?_
  refine w_p (pc1 := 10) rfl rfl ?_
  refine w_t (a := 23) (b := 13) rfl rfl rfl ?_
  refine w_p (pc1 := 24) rfl rfl ?_
  refine w_p (pc1 := 76) rfl rfl ?_
  refine w_p (pc1 := 77) rfl rfl ?_
  refine w_m0 (pc1 := 80) (st1 := .int (nI (gEv g)) :: _) rfl rfl (x_gf (k := k) rfl g1 rfl) rfl ?_
  refine w_p (pc1 := 81) rfl rfl ?_
  refine w_r rfl rfl rfl (fun _ _ => rfl) rfl ?_
  exact ⟨rfl, rfl, rfl⟩
set_option maxRecDepth 100000 in
theorem m_182_3 (hi : i < 8) (h : C.2.2 12 i = some (241 + k)) (G : TRK t k g) : Wd L xs (d + 1) y_182 (0, [(0, .ref 100), (1, .int (nI i)), (2, .int 3)], [], MH C t, sl) (Rt (some (.long ((nI (aKd (gAc g))).toInt64))) (MH C t) sl) nX := by
  obtain ⟨ka, vw, g1, _, kc, ks, fc, fs, vw2, g2, _⟩ := G
  refine w_p (pc1 := 1) rfl rfl ?_
  refine w_m0 (pc1 := 4) rfl rfl (h_gC rfl rfl rfl rfl) rfl ?_
  refine w_p (pc1 := 5) rfl rfl ?_
  refine w_je (pc1 := 8) (vs := [.ref 106, .int (nI (i))]) (rest := []) (st1 := [.ref (241 + k)]) (m_123_s (d := d) (sl := 0) hi h) rfl rfl rfl (fun _ _ => rfl) rfl (by exact cl_v my_123 rfl rfl rfl (Nat.le_of_ble_eq_true rfl) rfl (MH_obj rfl rfl) rfl (by decide) rfl rfl) (by rfl) (Nat.le_of_ble_eq_true rfl) (Nat.le_of_ble_eq_true rfl) rfl (by rfl) ?_
  refine w_p (pc1 := 9) (al1 := [(3, .ref (241 + k)), (0, .ref 100), (1, .int (nI (i))), (2, .int 3)]) rfl rfl ?_
  refine w_p (pc1 := 10) rfl rfl ?_
  refine w_t (a := 23) (b := 13) rfl rfl rfl ?_
  refine w_p (pc1 := 24) rfl rfl ?_
  refine w_p (pc1 := 82) rfl rfl ?_
  refine w_p (pc1 := 83) rfl rfl ?_
  refine w_m0 (pc1 := 86) (st1 := .ref (241 + ka) :: _) rfl rfl (x_gf (k := k) rfl g1 rfl) rfl ?_
  refine w_m0 (pc1 := 89) (st1 := .int (nI (aKd (gAc g))) :: _) rfl rfl (x_gf (k := ka) rfl g2 rfl) rfl ?_
  refine w_p (pc1 := 90) rfl rfl ?_
  refine w_r rfl rfl rfl (fun _ _ => rfl) rfl ?_
  exact ⟨rfl, rfl, rfl⟩
set_option maxRecDepth 100000 in
theorem m_182_4 (hi : i < 8) (h : C.2.2 12 i = some (241 + k)) (G : TRK t k g) : Wd L xs (d + 1) y_182 (0, [(0, .ref 100), (1, .int (nI i)), (2, .int 4)], [], MH C t, sl) (Rt (some (.long ((tgI (aTb (gAc g))).toInt64))) (MH C t) sl) nX := by
  obtain ⟨ka, vw, g1, _, kc, ks, fc, fs, vw2, g2, _⟩ := G
  refine w_p (pc1 := 1) rfl rfl ?_
  refine w_m0 (pc1 := 4) rfl rfl (h_gC rfl rfl rfl rfl) rfl ?_
  refine w_p (pc1 := 5) rfl rfl ?_
  refine w_je (pc1 := 8) (vs := [.ref 106, .int (nI (i))]) (rest := []) (st1 := [.ref (241 + k)]) (m_123_s (d := d) (sl := 0) hi h) rfl rfl rfl (fun _ _ => rfl) rfl (by exact cl_v my_123 rfl rfl rfl (Nat.le_of_ble_eq_true rfl) rfl (MH_obj rfl rfl) rfl (by decide) rfl rfl) (by rfl) (Nat.le_of_ble_eq_true rfl) (Nat.le_of_ble_eq_true rfl) rfl (by rfl) ?_
  refine w_p (pc1 := 9) (al1 := [(3, .ref (241 + k)), (0, .ref 100), (1, .int (nI (i))), (2, .int 4)]) rfl rfl ?_
  refine w_p (pc1 := 10) rfl rfl ?_
  refine w_t (a := 23) (b := 13) rfl rfl rfl ?_
  refine w_p (pc1 := 24) rfl rfl ?_
  refine w_p (pc1 := 91) rfl rfl ?_
  refine w_p (pc1 := 92) rfl rfl ?_
  refine w_m0 (pc1 := 95) (st1 := .ref (241 + ka) :: _) rfl rfl (x_gf (k := k) rfl g1 rfl) rfl ?_
  refine w_m0 (pc1 := 98) (st1 := .int (tgI (aTb (gAc g))) :: _) rfl rfl (x_gf (k := ka) rfl g2 rfl) rfl ?_
  refine w_p (pc1 := 99) rfl rfl ?_
  refine w_r rfl rfl rfl (fun _ _ => rfl) rfl ?_
  exact ⟨rfl, rfl, rfl⟩
set_option maxRecDepth 100000 in
theorem m_182_5 (hi : i < 8) (h : C.2.2 12 i = some (241 + k)) (G : TRK t k g) : Wd L xs (d + 1) y_182 (0, [(0, .ref 100), (1, .int (nI i)), (2, .int 5)], [], MH C t, sl) (Rt (some (.long (gNm g))) (MH C t) sl) nX := by
  obtain ⟨ka, vw, g1, _, kc, ks, fc, fs, vw2, g2, _⟩ := G
  refine w_p (pc1 := 1) rfl rfl ?_
  refine w_m0 (pc1 := 4) rfl rfl (h_gC rfl rfl rfl rfl) rfl ?_
  refine w_p (pc1 := 5) rfl rfl ?_
  refine w_je (pc1 := 8) (vs := [.ref 106, .int (nI (i))]) (rest := []) (st1 := [.ref (241 + k)]) (m_123_s (d := d) (sl := 0) hi h) rfl rfl rfl (fun _ _ => rfl) rfl (by exact cl_v my_123 rfl rfl rfl (Nat.le_of_ble_eq_true rfl) rfl (MH_obj rfl rfl) rfl (by decide) rfl rfl) (by rfl) (Nat.le_of_ble_eq_true rfl) (Nat.le_of_ble_eq_true rfl) rfl (by rfl) ?_
  refine w_p (pc1 := 9) (al1 := [(3, .ref (241 + k)), (0, .ref 100), (1, .int (nI (i))), (2, .int 5)]) rfl rfl ?_
  refine w_p (pc1 := 10) rfl rfl ?_
  refine w_t (a := 23) (b := 13) rfl rfl rfl ?_
  refine w_p (pc1 := 24) rfl rfl ?_
  refine w_p (pc1 := 100) rfl rfl ?_
  refine w_p (pc1 := 101) rfl rfl ?_
  refine w_m0 (pc1 := 104) (st1 := .long (gNm g) :: _) rfl rfl (x_gf (k := k) rfl g1 rfl) rfl ?_
  refine w_r rfl rfl rfl (fun _ _ => rfl) rfl ?_
  exact ⟨rfl, rfl, rfl⟩
set_option maxRecDepth 100000 in
theorem m_182n (w : Wd L xs (d + 5) y_123 (0, [(0, .ref 106), (1, .int x)], [], MH C t, 0) (Rt (some .null) (MH C t) 0) nX) : Wd L xs (d + 6) y_182 (0, [(0, .ref 100), (1, .int x), (2, .int y)], [], MH C t, sl) nP (Xk 14 C t sl) := by
  refine w_p (pc1 := 1) rfl rfl ?_
  refine w_m0 (pc1 := 4) rfl rfl (h_gC rfl rfl rfl rfl) rfl ?_
  refine w_p (pc1 := 5) rfl rfl ?_
  refine w_je (pc1 := 8) (vs := [.ref 106, .int (x)]) (rest := []) (st1 := [.null]) (w) rfl rfl rfl (fun _ _ => rfl) rfl (by exact cl_v my_123 rfl rfl rfl (Nat.le_of_ble_eq_true rfl) rfl (MH_obj rfl rfl) rfl (by decide) rfl rfl) (by rfl) (Nat.le_of_ble_eq_true rfl) (Nat.le_of_ble_eq_true rfl) rfl (by rfl) ?_
  refine w_p (pc1 := 9) (al1 := [(3, .null), (0, .ref 100), (1, .int (x)), (2, .int (y))]) rfl rfl ?_
  refine w_p (pc1 := 10) rfl rfl ?_
  refine w_f (a := 23) (b := 13) rfl rfl rfl ?_
  refine w_x (ci := 14) rfl rfl rfl (fun _ _ => rfl) rfl rfl (fun fr lo h1 h2 => cx_ok h1 h2 rfl) (by exact ch_thr (by decide) rfl) ?_
  exact Xk_i
set_option maxRecDepth 100000 in
theorem m_182x (hi : i < 8) (h : C.2.2 12 i = some (241 + k)) (G : TRK t k g) (hy : ¬ (0 ≤ y.toInt ∧ y.toInt ≤ 5)) : Wd L xs (d + 6) y_182 (0, [(0, .ref 100), (1, .int (nI i)), (2, .int y)], [], MH C t, sl) nP (Xk 13 C t sl) := by
  obtain ⟨ka, vw, g1, _, kc, ks, fc, fs, vw2, g2, _⟩ := G
  refine w_p (pc1 := 1) rfl rfl ?_
  refine w_m0 (pc1 := 4) rfl rfl (h_gC rfl rfl rfl rfl) rfl ?_
  refine w_p (pc1 := 5) rfl rfl ?_
  refine w_je (pc1 := 8) (vs := [.ref 106, .int (nI (i))]) (rest := []) (st1 := [.ref (241 + k)]) (m_123_s (d := d + 5) (sl := 0) hi h) rfl rfl rfl (fun _ _ => rfl) rfl (by exact cl_v my_123 rfl rfl rfl (Nat.le_of_ble_eq_true rfl) rfl (MH_obj rfl rfl) rfl (by decide) rfl rfl) (by rfl) (Nat.le_of_ble_eq_true rfl) (Nat.le_of_ble_eq_true rfl) rfl (by rfl) ?_
  refine w_p (pc1 := 9) (al1 := [(3, .ref (241 + k)), (0, .ref 100), (1, .int (nI (i))), (2, .int (y))]) rfl rfl ?_
  refine w_p (pc1 := 10) rfl rfl ?_
  refine w_t (a := 23) (b := 13) rfl rfl rfl ?_
  refine w_p (pc1 := 24) rfl rfl ?_
  refine w_sd (a := 105) rfl rfl (by omega) ?_
  refine w_x (ci := 13) rfl rfl rfl (fun _ _ => rfl) rfl rfl (fun fr lo h1 h2 => cx_ok h1 h2 rfl) (by exact ch_thr (by decide) rfl) ?_
  exact Xk_i
set_option maxRecDepth 100000 in
theorem m_168x (h : ¬ (0 ≤ x.toInt ∧ x.toInt ≤ 6)) : Wd L xs (d + 6) y_168 (0, [(0, .ref 100), (1, .int x)], [], MH C t, sl) nP (Xk 13 C t sl) := by
  refine w_p (pc1 := 1) rfl rfl ?_
  refine w_sd (a := 108) rfl rfl (by omega) ?_
  refine w_x (ci := 13) rfl rfl rfl (fun _ _ => rfl) rfl rfl (fun fr lo h1 h2 => cx_ok h1 h2 rfl) (by exact ch_thr (by decide) rfl) ?_
  exact Xk_i
end ORU
