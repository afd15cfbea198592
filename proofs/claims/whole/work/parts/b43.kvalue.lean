
/-! ONE SIDE: value -/
section OVA
variable {L : Nat} {xs : Nat → Int32} {B : Nat → Nat} {n m : Nat} {C C' C0 C1 : co_T} {t t0 t1 : ab_H} {d sl sl0 sl1 i i0 i1 j b e ti k k0 kc ks w c : Nat} {sc : sc_T} {row : Option Nat} {tg : Option (Nat × Nat)} {nl : Option Nat} {kd0 tb0 : Int32} {P : Option Value → ab_H → Nat → Prop} {X : Nat → ab_H → Nat → Prop} {cs : List Nat} {ss : List (Option (List op_T))} {E : fe_T} {tr : Nat → Option tr_T} {x r y z : Int32} {a : Int64} {nn : Nat}
set_option maxRecDepth 100000 in
theorem m_47x (hb : b < 6) (hw : C.1 8 b = nI w) (h6 : w ≤ 6) (h : ¬ (0 ≤ z.toInt ∧ z.toInt < w)) : Wd L xs d y_47 (0, [(0, .ref 106), (1, .int (nI b)), (2, .int z)], [], MH C t, sl) (Rt (some (.int 0)) (MH C t) sl) nX := by
  have hk := nK_int (k := w) (by omega)
  refine w_p (pc1 := 1) rfl rfl ?_
  refine w_f (a := 34) (b := 4) (bN_lt_f (a := b) (b := 0) (by omega) (by omega) (by omega)) rfl rfl ?_
  refine w_p (pc1 := 5) rfl rfl ?_
  refine w_p (pc1 := 7) (st1 := .int 6 :: _) rfl rfl ?_
  refine w_f (a := 34) (b := 10) (bN_ge_f (a := b) (b := 6) (by omega) (by omega) (by omega)) rfl rfl ?_
  refine w_p (pc1 := 11) rfl rfl ?_
  refine w_b (a := 34) (b := 14) rfl rfl (fun c11 => ?_) (fun c11 => ?_)
  · replace c11 := ck_lt_t (n := 0) rfl c11
    refine w_p (pc1 := 35) (st1 := .int 0 :: _) rfl rfl ?_
    refine w_r rfl rfl rfl (fun _ _ => rfl) rfl ?_
    exact ⟨rfl, rfl, rfl⟩
  · replace c11 := ck_lt_f (n := 0) rfl c11
    refine w_p (pc1 := 15) rfl rfl ?_
    refine w_p (pc1 := 16) rfl rfl ?_
    refine w_m0 (pc1 := 19) rfl rfl (h_gC rfl rfl rfl rfl) rfl ?_
    refine w_p (pc1 := 20) rfl rfl ?_
    refine w_m0 (pc1 := 21) (st1 := .int (nI (w)) :: _) rfl rfl (n_ile (e := b) rfl rfl rfl (by omega) (hw)) rfl ?_
    refine w_b (a := 34) (b := 24) rfl rfl (fun c21 => ?_) (fun c21 => ?_)
    · replace c21 := cc_ge_t c21
      refine w_p (pc1 := 35) (st1 := .int 0 :: _) rfl rfl ?_
      refine w_r rfl rfl rfl (fun _ _ => rfl) rfl ?_
      exact ⟨rfl, rfl, rfl⟩
    · replace c21 := cc_ge_f c21
      exfalso; omega
set_option maxRecDepth 100000 in
theorem m_123_o (h : ¬ (0 ≤ x.toInt ∧ x.toInt < 8)) : Wd L xs d y_123 (0, [(0, .ref 106), (1, .int x)], [], MH C t, sl) (Rt (some .null) (MH C t) sl) nX := by
  refine w_p (pc1 := 1) rfl rfl ?_
  refine w_b (a := 10) (b := 4) rfl rfl (fun c1 => ?_) (fun c1 => ?_)
  · replace c1 := ck_lt_t (n := 0) rfl c1
    refine w_p (pc1 := 11) rfl rfl ?_
    refine w_p (pc1 := 20) rfl rfl ?_
    refine w_r rfl rfl rfl (fun _ _ => rfl) rfl ?_
    exact ⟨rfl, rfl, rfl⟩
  · replace c1 := ck_lt_f (n := 0) rfl c1
    refine w_p (pc1 := 5) rfl rfl ?_
    refine w_p (pc1 := 7) (st1 := .int 8 :: _) rfl rfl ?_
    refine w_b (a := 14) (b := 10) rfl rfl (fun c7 => ?_) (fun c7 => ?_)
    · replace c7 := ck_lt_t (n := 8) rfl c7
      exfalso; omega
    · replace c7 := ck_lt_f (n := 8) rfl c7
      refine w_p (pc1 := 11) rfl rfl ?_
      refine w_p (pc1 := 20) rfl rfl ?_
      refine w_r rfl rfl rfl (fun _ _ => rfl) rfl ?_
      exact ⟨rfl, rfl, rfl⟩
set_option maxRecDepth 100000 in
theorem m_177n (w : Wd L xs (d + 5) y_33 (0, [(0, .ref 106), (1, .int x)], [], MH C t, 0) (Rt (some (.int 0)) (MH C t) 0) nX) : Wd L xs (d + 6) y_177 (0, [(0, .ref 100), (1, .int x), (2, .int y), (3, .int z)], [], MH C t, sl) nP (Xk 14 C t sl) := by
  refine w_p (pc1 := 1) rfl rfl ?_
  refine w_m0 (pc1 := 4) rfl rfl (h_gC rfl rfl rfl rfl) rfl ?_
  refine w_p (pc1 := 5) rfl rfl ?_
  refine w_je (pc1 := 8) (vs := [.ref 106, .int (x)]) (rest := []) (st1 := [.int 0]) (w) rfl rfl rfl (fun _ _ => rfl) rfl (by exact cl_v my_33 rfl rfl rfl (Nat.le_of_ble_eq_true rfl) rfl (MH_obj rfl rfl) rfl (by decide) rfl rfl) (by rfl) (Nat.le_of_ble_eq_true rfl) (Nat.le_of_ble_eq_true rfl) rfl (by rfl) ?_
  refine w_f (a := 21) (b := 11) rfl rfl rfl ?_
  refine w_x (ci := 14) rfl rfl rfl (fun _ _ => rfl) rfl rfl (fun fr lo h1 h2 => cx_ok h1 h2 rfl) (by exact ch_thr (by decide) rfl) ?_
  exact Xk_i
set_option maxRecDepth 100000 in
theorem m_177r (hb : b < 6) (w : Wd L xs (d + 5) y_33 (0, [(0, .ref 106), (1, .int (nI b))], [], MH C t, 0) (Rt (some (.int 1)) (MH C t) 0) nX) (hn : C.1 16 b = nI nn) (h4 : nn ≤ 40) (h : ¬ (0 ≤ y.toInt ∧ y.toInt < nn)) : Wd L xs (d + 6) y_177 (0, [(0, .ref 100), (1, .int (nI b)), (2, .int y), (3, .int z)], [], MH C t, sl) nP (Xk 14 C t sl) := by
  have hk := nK_int (k := nn) (by omega)
  refine w_p (pc1 := 1) rfl rfl ?_
  refine w_m0 (pc1 := 4) rfl rfl (h_gC rfl rfl rfl rfl) rfl ?_
  refine w_p (pc1 := 5) rfl rfl ?_
  refine w_je (pc1 := 8) (vs := [.ref 106, .int (nI (b))]) (rest := []) (st1 := [.int 1]) (w) rfl rfl rfl (fun _ _ => rfl) rfl (by exact cl_v my_33 rfl rfl rfl (Nat.le_of_ble_eq_true rfl) rfl (MH_obj rfl rfl) rfl (by decide) rfl rfl) (by rfl) (Nat.le_of_ble_eq_true rfl) (Nat.le_of_ble_eq_true rfl) rfl (by rfl) ?_
  refine w_t (a := 21) (b := 11) rfl rfl rfl ?_
  refine w_p (pc1 := 22) rfl rfl ?_
  refine w_b (a := 41) (b := 25) rfl rfl (fun c22 => ?_) (fun c22 => ?_)
  · replace c22 := ck_lt_t (n := 0) rfl c22
    refine w_x (ci := 14) rfl rfl rfl (fun _ _ => rfl) rfl rfl (fun fr lo h1 h2 => cx_ok h1 h2 rfl) (by exact ch_thr (by decide) rfl) ?_
    exact Xk_i
  · replace c22 := ck_lt_f (n := 0) rfl c22
    refine w_p (pc1 := 26) rfl rfl ?_
    refine w_p (pc1 := 27) rfl rfl ?_
    refine w_m0 (pc1 := 30) rfl rfl (h_gC rfl rfl rfl rfl) rfl ?_
    refine w_m0 (pc1 := 33) rfl rfl (h_gC rfl rfl rfl rfl) rfl ?_
    refine w_m0 (pc1 := 36) rfl rfl (h_gC rfl rfl rfl rfl) rfl ?_
    refine w_p (pc1 := 37) rfl rfl ?_
    refine w_m0 (pc1 := 38) (st1 := .int (nI (nn)) :: _) rfl rfl (n_ile (e := b) rfl rfl rfl (by omega) (hn)) rfl ?_
    refine w_b (a := 51) (b := 41) rfl rfl (fun c38 => ?_) (fun c38 => ?_)
    · replace c38 := cc_lt_t c38
      exfalso; omega
    · replace c38 := cc_lt_f c38
      refine w_x (ci := 14) rfl rfl rfl (fun _ _ => rfl) rfl rfl (fun fr lo h1 h2 => cx_ok h1 h2 rfl) (by exact ch_thr (by decide) rfl) ?_
      exact Xk_i
set_option maxRecDepth 100000 in
theorem m_177o (hb : b < 6) (w : Wd L xs (d + 5) y_33 (0, [(0, .ref 106), (1, .int (nI b))], [], MH C t, 0) (Rt (some (.int 1)) (MH C t) 0) nX) (hn : C.1 16 b = nI nn) (h4 : nn ≤ 40) (hk : k < nn) (hz : z ≠ -1) (w2 : Wd L xs (d + 5) y_47 (0, [(0, .ref 106), (1, .int (nI b)), (2, .int z)], [], MH C t, 0) (Rt (some (.int 0)) (MH C t) 0) nX) : Wd L xs (d + 6) y_177 (0, [(0, .ref 100), (1, .int (nI b)), (2, .int (nI k)), (3, .int z)], [], MH C t, sl) nP (Xk 14 C t sl) := by
  refine w_p (pc1 := 1) rfl rfl ?_
  refine w_m0 (pc1 := 4) rfl rfl (h_gC rfl rfl rfl rfl) rfl ?_
  refine w_p (pc1 := 5) rfl rfl ?_
  refine w_je (pc1 := 8) (vs := [.ref 106, .int (nI (b))]) (rest := []) (st1 := [.int 1]) (w) rfl rfl rfl (fun _ _ => rfl) rfl (by exact cl_v my_33 rfl rfl rfl (Nat.le_of_ble_eq_true rfl) rfl (MH_obj rfl rfl) rfl (by decide) rfl rfl) (by rfl) (Nat.le_of_ble_eq_true rfl) (Nat.le_of_ble_eq_true rfl) rfl (by rfl) ?_
  refine w_t (a := 21) (b := 11) rfl rfl rfl ?_
  refine w_p (pc1 := 22) rfl rfl ?_
  refine w_f (a := 41) (b := 25) (bN_lt_f (a := k) (b := 0) (by omega) (by omega) (by omega)) rfl rfl ?_
  refine w_p (pc1 := 26) rfl rfl ?_
  refine w_p (pc1 := 27) rfl rfl ?_
  refine w_m0 (pc1 := 30) rfl rfl (h_gC rfl rfl rfl rfl) rfl ?_
  refine w_m0 (pc1 := 33) rfl rfl (h_gC rfl rfl rfl rfl) rfl ?_
  refine w_m0 (pc1 := 36) rfl rfl (h_gC rfl rfl rfl rfl) rfl ?_
  refine w_p (pc1 := 37) rfl rfl ?_
  refine w_m0 (pc1 := 38) (st1 := .int (nI (nn)) :: _) rfl rfl (n_ile (e := b) rfl rfl rfl (by omega) (hn)) rfl ?_
  refine w_t (a := 51) (b := 41) (bN_lt_t (a := k) (b := nn) (by omega) (by omega) (by omega)) rfl rfl ?_
  refine w_p (pc1 := 52) rfl rfl ?_
  refine w_p (pc1 := 53) (st1 := .int (-1) :: _) rfl rfl ?_
  refine w_t (a := 70) (b := 56) (cb_ne_t (by exact hz)) rfl rfl ?_
  refine w_p (pc1 := 71) rfl rfl ?_
  refine w_m0 (pc1 := 74) rfl rfl (h_gC rfl rfl rfl rfl) rfl ?_
  refine w_p (pc1 := 75) rfl rfl ?_
  refine w_p (pc1 := 76) rfl rfl ?_
  refine w_je (pc1 := 79) (vs := [.ref 106, .int (nI (b)), .int (z)]) (rest := []) (st1 := [.int 0]) (w2) rfl rfl rfl (fun _ _ => rfl) rfl (by exact cl_v my_47 rfl rfl rfl (Nat.le_of_ble_eq_true rfl) rfl (MH_obj rfl rfl) rfl (by decide) rfl rfl) (by rfl) (Nat.le_of_ble_eq_true rfl) (Nat.le_of_ble_eq_true rfl) rfl (by rfl) ?_
  refine w_f (a := 92) (b := 82) rfl rfl rfl ?_
  refine w_x (ci := 14) rfl rfl rfl (fun _ _ => rfl) rfl rfl (fun fr lo h1 h2 => cx_ok h1 h2 rfl) (by exact ch_thr (by decide) rfl) ?_
  exact Xk_i
set_option maxRecDepth 100000 in
theorem m_177i (hb : b < 6) (w : Wd L xs (d + 1) y_33 (0, [(0, .ref 106), (1, .int (nI b))], [], MH C t, 0) (Rt (some (.int 1)) (MH C t) 0) nX) (hn : C.1 16 b = nI nn) (h4 : nn ≤ 40) (hk : k < nn) : Wd L xs (d + 2) y_177 (0, [(0, .ref 100), (1, .int (nI b)), (2, .int (nI k)), (3, .int (-1))], [], MH C t, sl) (Rt (some (.long (C.1 15 (b * 40 + k)).toInt64)) (MH C t) sl) nX := by
  refine w_p (pc1 := 1) rfl rfl ?_
  refine w_m0 (pc1 := 4) rfl rfl (h_gC rfl rfl rfl rfl) rfl ?_
  refine w_p (pc1 := 5) rfl rfl ?_
  refine w_je (pc1 := 8) (vs := [.ref 106, .int (nI (b))]) (rest := []) (st1 := [.int 1]) (w) rfl rfl rfl (fun _ _ => rfl) rfl (by exact cl_v my_33 rfl rfl rfl (Nat.le_of_ble_eq_true rfl) rfl (MH_obj rfl rfl) rfl (by decide) rfl rfl) (by rfl) (Nat.le_of_ble_eq_true rfl) (Nat.le_of_ble_eq_true rfl) rfl (by rfl) ?_
  refine w_t (a := 21) (b := 11) rfl rfl rfl ?_
  refine w_p (pc1 := 22) rfl rfl ?_
  refine w_f (a := 41) (b := 25) (bN_lt_f (a := k) (b := 0) (by omega) (by omega) (by omega)) rfl rfl ?_
  refine w_p (pc1 := 26) rfl rfl ?_
  refine w_p (pc1 := 27) rfl rfl ?_
  refine w_m0 (pc1 := 30) rfl rfl (h_gC rfl rfl rfl rfl) rfl ?_
  refine w_m0 (pc1 := 33) rfl rfl (h_gC rfl rfl rfl rfl) rfl ?_
  refine w_m0 (pc1 := 36) rfl rfl (h_gC rfl rfl rfl rfl) rfl ?_
  refine w_p (pc1 := 37) rfl rfl ?_
  refine w_m0 (pc1 := 38) (st1 := .int (nI (nn)) :: _) rfl rfl (n_ile (e := b) rfl rfl rfl (by omega) (hn)) rfl ?_
  refine w_t (a := 51) (b := 41) (bN_lt_t (a := k) (b := nn) (by omega) (by omega) (by omega)) rfl rfl ?_
  refine w_p (pc1 := 52) rfl rfl ?_
  refine w_p (pc1 := 53) (st1 := .int (-1) :: _) rfl rfl ?_
  refine w_f (a := 70) (b := 56) rfl rfl rfl ?_
  refine w_p (pc1 := 57) rfl rfl ?_
  refine w_m0 (pc1 := 60) rfl rfl (h_gC rfl rfl rfl rfl) rfl ?_
  refine w_m0 (pc1 := 63) rfl rfl (h_gC rfl rfl rfl rfl) rfl ?_
  refine w_p (pc1 := 64) rfl rfl ?_
  refine w_p (pc1 := 65) rfl rfl ?_
  refine w_je (pc1 := 68) (vs := [.ref 113, .int (nI (b)), .int (nI (k))]) (rest := []) (st1 := [.int (C.1 15 (b * 40 + k))]) (m_131 (d := d) (sl := 0) hb hn h4 hk) rfl rfl rfl (fun _ _ => rfl) rfl (by exact cl_v my_131 rfl rfl rfl (Nat.le_of_ble_eq_true rfl) rfl (MH_obj rfl rfl) rfl (by decide) rfl rfl) (by rfl) (Nat.le_of_ble_eq_true rfl) (Nat.le_of_ble_eq_true rfl) rfl (by rfl) ?_
  refine w_p (pc1 := 69) rfl rfl ?_
  refine w_r rfl rfl rfl (fun _ _ => rfl) rfl ?_
  exact ⟨rfl, rfl, rfl⟩
set_option maxRecDepth 100000 in
theorem m_177c (hb : b < 6) (w : Wd L xs (d + 1) y_33 (0, [(0, .ref 106), (1, .int (nI b))], [], MH C t, 0) (Rt (some (.int 1)) (MH C t) 0) nX) (hn : C.1 16 b = nI nn) (h4 : nn ≤ 40) (hk : k < nn) (hc : c < 6) (w2 : Wd L xs (d + 1) y_47 (0, [(0, .ref 106), (1, .int (nI b)), (2, .int (nI c))], [], MH C t, 0) (Rt (some (.int 1)) (MH C t) 0) nX) : Wd L xs (d + 2) y_177 (0, [(0, .ref 100), (1, .int (nI b)), (2, .int (nI k)), (3, .int (nI c))], [], MH C t, sl) (Rt (some (.long (C.2.1 14 ((b * 40 + k) * 6 + c)))) (MH C t) sl) nX := by
  have hk2 := nK_int (k := c) (by omega)
  have hz : nI c ≠ -1 := fun e => by
    have := congrArg Int32.toInt e
    rw [hk2] at this
    have e1 : (-1 : Int32).toInt = -1 := rfl
    omega
  refine w_p (pc1 := 1) rfl rfl ?_
  refine w_m0 (pc1 := 4) rfl rfl (h_gC rfl rfl rfl rfl) rfl ?_
  refine w_p (pc1 := 5) rfl rfl ?_
  refine w_je (pc1 := 8) (vs := [.ref 106, .int (nI (b))]) (rest := []) (st1 := [.int 1]) (w) rfl rfl rfl (fun _ _ => rfl) rfl (by exact cl_v my_33 rfl rfl rfl (Nat.le_of_ble_eq_true rfl) rfl (MH_obj rfl rfl) rfl (by decide) rfl rfl) (by rfl) (Nat.le_of_ble_eq_true rfl) (Nat.le_of_ble_eq_true rfl) rfl (by rfl) ?_
  refine w_t (a := 21) (b := 11) rfl rfl rfl ?_
  refine w_p (pc1 := 22) rfl rfl ?_
  refine w_f (a := 41) (b := 25) (bN_lt_f (a := k) (b := 0) (by omega) (by omega) (by omega)) rfl rfl ?_
  refine w_p (pc1 := 26) rfl rfl ?_
  refine w_p (pc1 := 27) rfl rfl ?_
  refine w_m0 (pc1 := 30) rfl rfl (h_gC rfl rfl rfl rfl) rfl ?_
  refine w_m0 (pc1 := 33) rfl rfl (h_gC rfl rfl rfl rfl) rfl ?_
  refine w_m0 (pc1 := 36) rfl rfl (h_gC rfl rfl rfl rfl) rfl ?_
  refine w_p (pc1 := 37) rfl rfl ?_
  refine w_m0 (pc1 := 38) (st1 := .int (nI (nn)) :: _) rfl rfl (n_ile (e := b) rfl rfl rfl (by omega) (hn)) rfl ?_
  refine w_t (a := 51) (b := 41) (bN_lt_t (a := k) (b := nn) (by omega) (by omega) (by omega)) rfl rfl ?_
  refine w_p (pc1 := 52) rfl rfl ?_
  refine w_p (pc1 := 53) (st1 := .int (-1) :: _) rfl rfl ?_
  refine w_t (a := 70) (b := 56) (cb_ne_t (by exact hz)) rfl rfl ?_
  refine w_p (pc1 := 71) rfl rfl ?_
  refine w_m0 (pc1 := 74) rfl rfl (h_gC rfl rfl rfl rfl) rfl ?_
  refine w_p (pc1 := 75) rfl rfl ?_
  refine w_p (pc1 := 76) rfl rfl ?_
  refine w_je (pc1 := 79) (vs := [.ref 106, .int (nI (b)), .int (nI (c))]) (rest := []) (st1 := [.int 1]) (w2) rfl rfl rfl (fun _ _ => rfl) rfl (by exact cl_v my_47 rfl rfl rfl (Nat.le_of_ble_eq_true rfl) rfl (MH_obj rfl rfl) rfl (by decide) rfl rfl) (by rfl) (Nat.le_of_ble_eq_true rfl) (Nat.le_of_ble_eq_true rfl) rfl (by rfl) ?_
  refine w_t (a := 92) (b := 82) rfl rfl rfl ?_
  refine w_p (pc1 := 93) rfl rfl ?_
  refine w_m0 (pc1 := 96) rfl rfl (h_gC rfl rfl rfl rfl) rfl ?_
  refine w_m0 (pc1 := 99) rfl rfl (h_gC rfl rfl rfl rfl) rfl ?_
  refine w_p (pc1 := 100) rfl rfl ?_
  refine w_p (pc1 := 101) rfl rfl ?_
  refine w_p (pc1 := 102) rfl rfl ?_
  refine w_je (pc1 := 105) (vs := [.ref 113, .int (nI (b)), .int (nI (k)), .int (nI (c))]) (rest := []) (st1 := [.long (C.2.1 14 ((b * 40 + k) * 6 + c))]) (m_140 (d := d) (sl := 0) hb hn h4 hk hc) rfl rfl rfl (fun _ _ => rfl) rfl (by exact cl_v my_140 rfl rfl rfl (Nat.le_of_ble_eq_true rfl) rfl (MH_obj rfl rfl) rfl (by decide) rfl rfl) (by rfl) (Nat.le_of_ble_eq_true rfl) (Nat.le_of_ble_eq_true rfl) rfl (by rfl) ?_
  refine w_r rfl rfl rfl (fun _ _ => rfl) rfl ?_
  exact ⟨rfl, rfl, rfl⟩
end OVA
