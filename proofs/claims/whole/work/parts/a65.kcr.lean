
/-! ONE SIDE: a table is read, 8: a new column is read -/
section TCR
variable {L : Nat} {xs : Nat → Int32} {B : Nat → Nat} {n m : Nat} {C C' C0 C1 : co_T} {t t0 t1 : ab_H} {d sl sl0 sl1 i i0 i1 j b e ti k k0 kc ks w c : Nat} {sc : sc_T} {row : Option Nat} {tg : Option (Nat × Nat)} {nl : Option Nat} {kd0 tb0 : Int32} {P : Option Value → ab_H → Nat → Prop} {X : Nat → ab_H → Nat → Prop} {cs : List Nat} {ss : List (Option (List op_T))} {E : fe_T} {tr : Nat → Option tr_T} {ru : Nat → Option ru_T} {T : tb_S}
set_option maxRecDepth 100000 in
theorem PIt_m {r r' : pz_T (tb_S × Nat × Option Nat)} {v : Option Value} {h : ab_H} {q : Nat} (p : PIt B n m C1 t1 i1 sl1 b r v h q) (er : r' = r) (f : STB b C t C1 t1) (h2 : t1.length ≤ t.length + 4 * (i1 - i)) (h3 : i ≤ i1) (h4 : sl1 ≤ sl + 25 * (i1 - i)) : PIt B n m C t i sl b r' v h q := by
  obtain ⟨T, i', nl', C', t', ⟨p1, p2, p3, p4, p5, p6, p7⟩, p8, p9⟩ := p
  exact ⟨T, i', nl', C', t', ⟨er.trans p1, p2, p3, p4, STB_t f p5, by omega, by omega⟩, p8, by omega⟩
set_option maxRecDepth 100000 in
theorem XIt_m {α β : Type} {r : pz_T α} {r' : pz_T β} {a : Nat} {h : ab_H} {q : Nat} (p : XIt B n C1 t1 i1 sl1 b r a h q) (er : ∀ e, r = .inl e → r' = .inl e) (f : STB b C t C1 t1) (h2 : t1.length ≤ t.length + 4 * (i1 - i)) (h3 : i ≤ i1) (h4 : sl1 ≤ sl + 25 * (i1 - i)) : XIt B n C t i sl b r' a h q := by
  obtain ⟨c, j, C', t', s, ⟨p1, p2, p3, p4, p5, p6⟩, p7⟩ := p
  exact ⟨c, j, C', t', s, ⟨er _ p1, p2, STB_t f p3, by omega, by omega, by omega⟩, p7⟩
set_option maxRecDepth 100000 in
theorem d40_3 (S : tkS B n m C i) (hl : lfK (C.1 21 6) nl) (K : BK C t T) (hb : C.1 20 10 = nI b) (hb6 : b < 6) (hc6 : c < 6) : Wd L xs (d + 9) y_40 (99, [(1, .int (nI (c))), (0, .ref 120)], [], MH C t, sl) (PIt B n m C t i sl b (rNnl (tkP B n) T b c i nl)) (XIt B n C t i sl b (rNnl (tkP B n) T b c i nl)) := by
  by_cases h23 : kd B n i = 23
  · have e0 : rNnl (tkP B n) T b c i nl = if ruN T.2.2 = -1 then .inl (6, i) else .inr (addR T (0, b, [c], none, [], false, 0, 0, none), i + 1, nl) := if_pos h23
    have h1 : kd B n i ≠ 1 := by rw [h23]; decide
    have h2 : kd B n i ≠ 2 := by rw [h23]; decide
    refine w_p (pc1 := 100) rfl rfl ?_
    refine w_m0 (pc1 := 103) rfl rfl (h_gC rfl rfl rfl rfl) rfl ?_
    refine w_m0 (pc1 := 106) (st1 := .ref (kd B n i) :: _) rfl rfl (h_gRs (j := 6) rfl rfl rfl rfl rfl (tkS_tok S)) rfl ?_
    refine w_m0 (pc1 := 109) (st1 := .ref 23 :: _) rfl rfl rfl rfl ?_
    refine w_an_y (A := 130) (Bn := 112) (ok_kd) (by decide) (h23) rfl rfl rfl ?_
    refine w_p (pc1 := 113) rfl rfl ?_
    refine w_p (pc1 := 114) (st1 := .int 0 :: _) rfl rfl ?_
    refine w_ji (pc1 := 117) (vs := [.ref 120, .int 0]) (rest := []) (m_48 (d := d + 1) (sl := 0) S h1 h2 hb K.2.2) rfl rfl rfl (fun _ _ => rfl) rfl (by exact cl_v my_48 rfl rfl rfl (Nat.le_of_ble_eq_true rfl) rfl (MH_obj rfl rfl) rfl (by decide) rfl rfl) (by rfl) (Nat.le_of_ble_eq_true rfl) (Nat.le_of_ble_eq_true rfl) rfl (fun v h1 d1 hq => ?_) (fun a h1 d1 hq => ?_)
    · obtain ⟨s, ⟨hN, hs, hn⟩, hv, ⟨t1, ⟨A, l1, q1⟩, hh⟩, hd⟩ := hq
      subst hv; subst hh; subst hd
      have hsn := RLK_n K.2.2 hs hn
      have S1 : tkS B n m (nrC B n C i s t) (i + 1) := nr_S S h1 h2
      have er : rNnl (tkP B n) T b c i nl = .inr (addR T (0, b, [c], none, [], false, 0, 0, none), i + 1, nl) := e0.trans (if_neg (by rw [hN]; exact nK_m1 (by omega)))
      obtain ⟨t2, e2, g2, p2, l2⟩ := tl_st A.2.1 (.inl (0, 6, .inl (upd (fun _ => 0) 0 (nI c))))
      have A2 : RP t2 t.length (t.length + 1) (t.length + 1 + 1) 0 (nI b) (upd (fun _ => 0) 0 (nI c)) (fun _ => 0) 0 (-1) 0 0 0 .null := ⟨p2 _ _ (by omega) A.1, g2, p2 _ _ (by omega) A.2.2⟩
      obtain ⟨t3, e3, g3, p3, l3⟩ := tl_st A2.1 (.inr (7, [.int 0, .int (nI b), .ref (241 + (t.length + 1)), .ref (241 + (t.length + 1 + 1)), .int 1, .int (-1), .int 0, .int 0, .int 0, .null]))
      have q3 : tlE t t3 := fun j x h => p3 j x (by have := get_lt h; omega) (p2 j x (by have := get_lt h; omega) (q1 j x h))
      have hU : RUK t3 t.length (0, b, [c], none, [], false, 0, 0, none) := ⟨t.length + 1, t.length + 1 + 1, upd (fun _ => 0) 0 (nI c), fun _ => 0, .null, ⟨g3, p3 _ _ (by omega) A2.2.1, p3 _ _ (by omega) A2.2.2, (fun j x hj => by
        have hj : [c][j]? = some x := hj
        cases j with
        | zero => cases hj; rfl
        | succ j => cases hj), fun j x hj => (by cases hj)⟩, rfl⟩
      have fr := frF_r (C := nrC B n C i s t)
      refine w_p (pc1 := 118) (al1 := [(2, .ref (241 + t.length)), (1, .int (nI (c))), (0, .ref 120)]) rfl rfl ?_
      refine w_p (pc1 := 119) rfl rfl ?_
      refine w_m0 (pc1 := 122) (st1 := .ref (241 + (t.length + 1)) :: _) rfl rfl (x_gf (k := t.length) rfl A.1 rfl) rfl ?_
      refine w_p (pc1 := 123) (st1 := .int 0 :: _) rfl rfl ?_
      refine w_p (pc1 := 124) rfl rfl ?_
      refine w_m0 (pc1 := 125) rfl rfl (x_is (k := (t.length + 1)) (e := 0) A.2.1 (by omega) (by omega)) rfl ?_
      rw [e2]
      refine w_p (pc1 := 126) rfl rfl ?_
      refine w_p (pc1 := 127) (st1 := .int 1 :: _) rfl rfl ?_
      refine w_m0 (pc1 := 130) rfl rfl (x_pf (k := t.length) (fs' := [.int 0, .int (nI (b)), .ref (241 + (t.length + 1)), .ref (241 + (t.length + 1 + 1)), .int 1, .int (-1), .int 0, .int 0, .int 0, .null]) rfl A2.1 rfl rfl ⟨rfl, rfl⟩ (Or.inl rfl) (Nat.le_of_ble_eq_true rfl) rfl) rfl ?_
      rw [e3]
      refine w_r rfl rfl rfl (fun _ _ => rfl) rfl ?_
      refine ⟨addR T (0, b, [c], none, [], false, 0, 0, none), i + 1, nl, _, t3, ⟨er, rfl, ⟨S1, ?_⟩, BK_48 K hN hs fr q3 hU, STB_48 hsn fr q3 g3, by omega, by omega⟩, ?_, by omega⟩
      · rw [sQ_1, nxT_fr.1 21 6 (by omega)]
        exact hl
      · with_reducible rfl
    · rcases hq with ⟨hf, ha, hh, hn⟩
      · subst ha; subst hh; subst hn
        refine Or.inl ⟨ch_new (by decide) rfl, ?_⟩
        refine ⟨6, i, _, t, sl + 0, ⟨e0.trans (if_pos hf), flt_rf.1, STB_rf, by omega, by omega, by omega⟩, rfl, ?_, by omega⟩
        with_reducible rfl
  · have er : rNnl (tkP B n) T b c i nl = .inr (T, i, nl) := if_neg h23
    refine w_p (pc1 := 100) rfl rfl ?_
    refine w_m0 (pc1 := 103) rfl rfl (h_gC rfl rfl rfl rfl) rfl ?_
    refine w_m0 (pc1 := 106) (st1 := .ref (kd B n i) :: _) rfl rfl (h_gRs (j := 6) rfl rfl rfl rfl rfl (tkS_tok S)) rfl ?_
    refine w_m0 (pc1 := 109) (st1 := .ref 23 :: _) rfl rfl rfl rfl ?_
    refine w_an_n (A := 130) (ok_kd) (by decide) (h23) rfl rfl ?_
    refine w_r rfl rfl rfl (fun _ _ => rfl) rfl ?_
    refine ⟨T, i, nl, C, t, ⟨er, rfl, ⟨S, hl⟩, K, STB_F frF_r tlE_r, by omega, by omega⟩, ?_, by omega⟩
    with_reducible rfl
set_option maxRecDepth 100000 in
theorem d40_2 (S : tkS B n m C i) (hl : lfK (C.1 21 6) nl) (K : BK C t T) (hb : C.1 20 10 = nI b) (hb6 : b < 6) (hcw : c < T.1.2.1 b) : Wd L xs (d + 9) y_40 (70, [(1, .int (nI (c))), (0, .ref 120)], [], MH C t, sl) (PIt B n m C t i sl b (rDft (tkP B n) T b c i nl)) (XIt B n C t i sl b (rDft (tkP B n) T b c i nl)) := by
  have hw := (K.1.2 b hb6).1
  have hw6 := (K.1.2 b hb6).2.1
  by_cases h14 : kd B n i = 14
  · have e0 : rDft (tkP B n) T b c i nl = pb (rInt (tkP B n) (i + 1)) (fun x => rNnl (tkP B n) (setD T b c (some x.1.toInt32)) b c x.2 nl) := if_pos h14
    have S1 := nxT_S S (by rw [h14]; decide) (by rw [h14]; decide)
    have f1 := nxT_fr (B := B) (n := n) (C := C) (i := i)
    have hb1 : (nxT B n C i).1 20 10 = nI b := (f1.1 20 10 (by omega)).trans hb
    refine w_p (pc1 := 71) rfl rfl ?_
    refine w_m0 (pc1 := 74) rfl rfl (h_gC rfl rfl rfl rfl) rfl ?_
    refine w_m0 (pc1 := 77) (st1 := .ref 14 :: _) rfl rfl rfl rfl ?_
    refine w_je (pc1 := 80) (vs := [.ref 101, .ref 14]) (rest := []) (st1 := [.int 1]) (m_44y (d := d + 7) (sl := 0) S (by decide) h14 (by decide) (by decide)) rfl rfl rfl (fun _ _ => rfl) rfl (by exact cl_v my_44 rfl rfl rfl (Nat.le_of_ble_eq_true rfl) rfl (MH_obj rfl rfl) rfl (by decide) rfl rfl) (by rfl) (Nat.le_of_ble_eq_true rfl) (Nat.le_of_ble_eq_true rfl) rfl (by rfl) ?_
    refine w_f (a := 99) (b := 83) rfl rfl rfl ?_
    refine w_p (pc1 := 84) rfl rfl ?_
    refine w_m0 (pc1 := 87) rfl rfl (h_gC rfl rfl rfl rfl) rfl ?_
    refine w_p (pc1 := 88) rfl rfl ?_
    refine w_m0 (pc1 := 91) (st1 := .int (nI (b)) :: _) rfl rfl (h_gIe (j := 10) rfl rfl rfl rfl rfl (hb1)) rfl ?_
    refine w_p (pc1 := 92) rfl rfl ?_
    refine w_p (pc1 := 93) rfl rfl ?_
    refine w_ji (pc1 := 96) (vs := [.ref 120]) (rest := [.int (nI (c)), .int (nI (b)), .ref 106]) (m_45 (d := d) (sl := 0) S1) rfl rfl rfl (fun _ _ => rfl) rfl (by exact cl_v my_45 rfl rfl rfl (Nat.le_of_ble_eq_true rfl) rfl (MH_obj rfl rfl) rfl (by decide) rfl rfl) (by rfl) (Nat.le_of_ble_eq_true rfl) (Nat.le_of_ble_eq_true rfl) rfl (fun v h1 d1 hq => ?_) (fun a h1 d1 hq => ?_)
    · obtain ⟨x, i2, C2, ⟨r1, hv, r3, r4⟩, hh, hn⟩ := hq
      subst hv; subst hh; subst hn
      have hv2 := rInt_fit r1
      have hi2 := rInt_s r1
      have f2 := frN_t' f1 r4
      have hw2 : C2.1 8 b = nI (T.1.2.1 b) := (f2.1 8 b (by omega)).trans hw
      have K2 := BK_F (frF_N f2) tlE_r K
      have K3 : BK (sJ C2 10 (b * 6 + c) x) t (setD T b c (some x.toInt32)) := by
        have := BK_sd (x := some x.toInt32) K2 hb6 (show c < 6 by omega)
        rw [show e_V (some x.toInt32) = x from hv2.symm] at this
        exact this
      have S3 : tkS B n m (sJ C2 10 (b * 6 + c) x) i2 := tkS_g r3 (fun _ _ _ => rfl) (fun k j h => by rw [sJ_2, if_neg (by omega)]) (fun _ _ _ => rfl)
      have er2 := e0.trans (pb_r r1)
      have st3 : STB b C t (sJ C2 10 (b * 6 + c) x) t := STB_t (STB_F (frF_N f2) tlE_r) (STB_sd (by omega))
      refine w_je (pc1 := 99) (vs := [.ref 106, .int (nI (b)), .int (nI (c)), .long (x)]) (rest := []) (st1 := []) (m_46 (d := d + 7) (sl := 0) hb6 hw2 hw6 hcw) rfl rfl rfl (fun _ _ => rfl) rfl (by exact cl_v my_46 rfl rfl rfl (Nat.le_of_ble_eq_true rfl) rfl (MH_obj rfl rfl) rfl (by decide) rfl rfl) (by rfl) (Nat.le_of_ble_eq_true rfl) (Nat.le_of_ble_eq_true rfl) rfl (by rfl) ?_
      refine Wd_q (d40_3 (sl := sl + 0) S3 (by rw [sJ_1, f2.1 21 6 (by omega)]; exact hl) K3 ((f2.1 20 10 (by omega)).trans hb) hb6 (by omega)) (fun v h q p => ?_) (fun a h q p => ?_)
      · exact PIt_m p er2 (st3) (by omega) (by omega) (by omega)
      · exact XIt_m p (fun _ h => er2.trans h) (st3) (by omega) (by omega) (by omega)
    · rcases hq with ⟨c2, j, C', ⟨x1, x2⟩, ha, hh, hn⟩
      · subst ha; subst hh; subst hn
        refine Or.inl ⟨ch_new (by decide) rfl, ?_⟩
        have := rInt_j x1
        refine ⟨c2, j, _, t, sl + 0, ⟨e0.trans (pb_l x1), flt_rf.1, STB_t (STB_F (frF_N (frN_t' f1 x2)) tlE_r) STB_rf, by omega, by omega, by omega⟩, rfl, ?_, by omega⟩
        with_reducible rfl
  · have er2 : rDft (tkP B n) T b c i nl = rNnl (tkP B n) T b c i nl := if_neg h14
    refine w_p (pc1 := 71) rfl rfl ?_
    refine w_m0 (pc1 := 74) rfl rfl (h_gC rfl rfl rfl rfl) rfl ?_
    refine w_m0 (pc1 := 77) (st1 := .ref 14 :: _) rfl rfl rfl rfl ?_
    refine w_je (pc1 := 80) (vs := [.ref 101, .ref 14]) (rest := []) (st1 := [.int 0]) (m_44n (d := d + 8) (sl := 0) S (by decide) h14) rfl rfl rfl (fun _ _ => rfl) rfl (by exact cl_v my_44 rfl rfl rfl (Nat.le_of_ble_eq_true rfl) rfl (MH_obj rfl rfl) rfl (by decide) rfl rfl) (by rfl) (Nat.le_of_ble_eq_true rfl) (Nat.le_of_ble_eq_true rfl) rfl (by rfl) ?_
    refine w_t (a := 99) (b := 83) rfl rfl rfl ?_
    refine Wd_q (d40_3 (sl := sl + 0) S hl K hb hb6 (by omega)) (fun v h q p => ?_) (fun a h q p => ?_)
    · exact PIt_m p er2 (STB_F frF_r tlE_r) (by omega) (by omega) (by omega)
    · exact XIt_m p (fun _ h => er2.trans h) (STB_F frF_r tlE_r) (by omega) (by omega) (by omega)
set_option maxRecDepth 100000 in
theorem m_40 (S : tkS B n m C i) (hl : lfK (C.1 21 6) nl) (K : BK C t T) (hb : C.1 20 10 = nI b) (hb6 : b < 6) (hbt : T.1.1 b ≠ 0) (h3 : kd B n i = 3) : Wd L xs (d + 9) y_40 (0, [(0, .ref 120)], [], MH C t, sl) (PIt B n m C t i sl b (rNwc (tkP B n) T b i nl)) (XIt B n C t i sl b (rNwc (tkP B n) T b i nl)) := by
  have hw := (K.1.2 b hb6).1
  have hw6 := (K.1.2 b hb6).2.1
  have hT := isT_K K.1 hb6 hbt
  have h41 := m_41 (L := L) (xs := xs) (t := t) (d := d + 8) (sl := 0) (a := vl B n i) hb6 hw hw6
  rw [clF_K K.1 hb6] at h41
  by_cases hf : clF T.1 b (vl B n i) = -1
  · have e0 : rNwc (tkP B n) T b i nl = if 6 ≤ T.1.2.1 b then .inl (6, i) else rDft (tkP B n) (addC T b (vl B n i)) b (T.1.2.1 b) (i + 1) nl := if_pos hf
    by_cases h6 : 6 ≤ T.1.2.1 b
    · have er : rNwc (tkP B n) T b i nl = .inl (6, i) := e0.trans (if_pos h6)
      have hw7 : C.1 8 b = nI 6 := by rw [hw, show T.1.2.1 b = 6 by omega]
      refine w_p (pc1 := 1) rfl rfl ?_
      refine w_m0 (pc1 := 4) rfl rfl (h_gC rfl rfl rfl rfl) rfl ?_
      refine w_p (pc1 := 5) rfl rfl ?_
      refine w_m0 (pc1 := 8) (st1 := .int (nI (b)) :: _) rfl rfl (h_gIe (j := 10) rfl rfl rfl rfl rfl (hb)) rfl ?_
      refine w_p (pc1 := 9) rfl rfl ?_
      refine w_m0 (pc1 := 12) rfl rfl (h_gC rfl rfl rfl rfl) rfl ?_
      refine w_m0 (pc1 := 15) (st1 := .long (vl B n i) :: _) rfl rfl (h_gJe (j := 8) rfl rfl rfl rfl rfl (S.2.2.2.2.2.2.2)) rfl ?_
      refine w_je (pc1 := 18) (vs := [.ref 106, .int (nI (b)), .long (vl B n i)]) (rest := []) (st1 := [.int (clF T.1 b (vl B n i))]) (h41) rfl rfl rfl (fun _ _ => rfl) rfl (by exact cl_v my_41 rfl rfl rfl (Nat.le_of_ble_eq_true rfl) rfl (MH_obj rfl rfl) rfl (by decide) rfl rfl) (by rfl) (Nat.le_of_ble_eq_true rfl) (Nat.le_of_ble_eq_true rfl) rfl (by rfl) ?_
      refine w_p (pc1 := 19) (st1 := .int (-1) :: _) rfl rfl ?_
      refine w_t (a := 30) (b := 22) (cb_eq_t (by exact hf)) rfl rfl ?_
      refine w_p (pc1 := 31) rfl rfl ?_
      refine w_m0 (pc1 := 34) rfl rfl (h_gC rfl rfl rfl rfl) rfl ?_
      refine w_p (pc1 := 35) rfl rfl ?_
      refine w_m0 (pc1 := 38) (st1 := .int (nI (b)) :: _) rfl rfl (h_gIe (j := 10) rfl rfl rfl rfl rfl (hb)) rfl ?_
      refine w_p (pc1 := 39) rfl rfl ?_
      refine w_m0 (pc1 := 42) rfl rfl (h_gC rfl rfl rfl rfl) rfl ?_
      refine w_m0 (pc1 := 45) (st1 := .long (vl B n i) :: _) rfl rfl (h_gJe (j := 8) rfl rfl rfl rfl rfl (S.2.2.2.2.2.2.2)) rfl ?_
      refine w_je (pc1 := 48) (vs := [.ref 106, .int (nI (b)), .long (vl B n i)]) (rest := []) (st1 := [.int (-1)]) (m_42n (d := d + 6) (sl := 0) hT hb6 hw7) rfl rfl rfl (fun _ _ => rfl) rfl (by exact cl_v my_42 rfl rfl rfl (Nat.le_of_ble_eq_true rfl) rfl (MH_obj rfl rfl) rfl (by decide) rfl rfl) (by rfl) (Nat.le_of_ble_eq_true rfl) (Nat.le_of_ble_eq_true rfl) rfl (by rfl) ?_
      refine w_p (pc1 := 49) (al1 := [(1, .int (-1)), (0, .ref 120)]) rfl rfl ?_
      refine w_p (pc1 := 50) rfl rfl ?_
      refine w_p (pc1 := 51) (st1 := .int (-1) :: _) rfl rfl ?_
      refine w_f (a := 63) (b := 54) rfl rfl rfl ?_
      refine w_p (pc1 := 55) rfl rfl ?_
      refine w_m0 (pc1 := 58) rfl rfl (h_gC rfl rfl rfl rfl) rfl ?_
      refine w_p (pc1 := 60) (st1 := .int 6 :: _) rfl rfl ?_
      refine w_ji (pc1 := 63) (vs := [.ref 101, .int 6]) (rest := []) (m_31 (d := d + 2) (sl := 0) (c := 6) S) rfl rfl rfl (fun _ _ => rfl) rfl (by exact cl_v my_31 rfl rfl rfl (Nat.le_of_ble_eq_true rfl) rfl (MH_obj rfl rfl) rfl (by decide) rfl rfl) (by rfl) (Nat.le_of_ble_eq_true rfl) (Nat.le_of_ble_eq_true rfl) rfl (fun v h1 d1 hq => ?_) (fun a h1 d1 hq => ?_)
      · exact hq.elim
      · rcases hq with ⟨ha, hh, hn⟩
        · subst ha; subst hh; subst hn
          refine Or.inl ⟨ch_new (by decide) rfl, ?_⟩
          refine ⟨6, i, _, t, sl + 0, ⟨er, flt_rf.1, STB_rf, by omega, by omega, by omega⟩, rfl, ?_, by omega⟩
          with_reducible rfl
    · have er2 : rNwc (tkP B n) T b i nl = rDft (tkP B n) (addC T b (vl B n i)) b (T.1.2.1 b) (i + 1) nl := e0.trans (if_neg h6)
      have hw5 : T.1.2.1 b < 6 := by omega
      have K1 := BK_ac (v := vl B n i) K hb6 rfl hw5
      have st1 : STB b C t (acC C b (T.1.2.1 b) (vl B n i)) t := STB_ac hw5
      have S1 : tkS B n m (acC C b (T.1.2.1 b) (vl B n i)) i := tkS_g S (fun k j h => by rw [ac_1, if_neg (by omega)]) (fun k j h => by rw [ac_2, if_neg (by omega), if_neg (by omega)]) (fun _ _ _ => rfl)
      have S2 := nxT_S S1 (by rw [h3]; decide) (by rw [h3]; decide)
      have f2 := nxT_fr (B := B) (n := n) (C := acC C b (T.1.2.1 b) (vl B n i)) (i := i)
      have K2 := BK_F (frF_N f2) tlE_r K1
      have st2 := STB_t st1 (STB_F (b := b) (frF_N f2) (tlE_r (t := t)))
      have hb2 : (nxT B n (acC C b (T.1.2.1 b) (vl B n i)) i).1 20 10 = nI b := st2.2.2.2.1.trans hb
      have hl2 : lfK ((nxT B n (acC C b (T.1.2.1 b) (vl B n i)) i).1 21 6) nl := by rw [f2.1 21 6 (by omega), ac_1, if_neg (by omega)]; exact hl
      have hcw : T.1.2.1 b < (addC T b (vl B n i)).1.2.1 b := by
        show T.1.2.1 b < if b = b then T.1.2.1 b + 1 else T.1.2.1 b
        rw [if_pos rfl]
        omega
      refine w_p (pc1 := 1) rfl rfl ?_
      refine w_m0 (pc1 := 4) rfl rfl (h_gC rfl rfl rfl rfl) rfl ?_
      refine w_p (pc1 := 5) rfl rfl ?_
      refine w_m0 (pc1 := 8) (st1 := .int (nI (b)) :: _) rfl rfl (h_gIe (j := 10) rfl rfl rfl rfl rfl (hb)) rfl ?_
      refine w_p (pc1 := 9) rfl rfl ?_
      refine w_m0 (pc1 := 12) rfl rfl (h_gC rfl rfl rfl rfl) rfl ?_
      refine w_m0 (pc1 := 15) (st1 := .long (vl B n i) :: _) rfl rfl (h_gJe (j := 8) rfl rfl rfl rfl rfl (S.2.2.2.2.2.2.2)) rfl ?_
      refine w_je (pc1 := 18) (vs := [.ref 106, .int (nI (b)), .long (vl B n i)]) (rest := []) (st1 := [.int (clF T.1 b (vl B n i))]) (h41) rfl rfl rfl (fun _ _ => rfl) rfl (by exact cl_v my_41 rfl rfl rfl (Nat.le_of_ble_eq_true rfl) rfl (MH_obj rfl rfl) rfl (by decide) rfl rfl) (by rfl) (Nat.le_of_ble_eq_true rfl) (Nat.le_of_ble_eq_true rfl) rfl (by rfl) ?_
      refine w_p (pc1 := 19) (st1 := .int (-1) :: _) rfl rfl ?_
      refine w_t (a := 30) (b := 22) (cb_eq_t (by exact hf)) rfl rfl ?_
      refine w_p (pc1 := 31) rfl rfl ?_
      refine w_m0 (pc1 := 34) rfl rfl (h_gC rfl rfl rfl rfl) rfl ?_
      refine w_p (pc1 := 35) rfl rfl ?_
      refine w_m0 (pc1 := 38) (st1 := .int (nI (b)) :: _) rfl rfl (h_gIe (j := 10) rfl rfl rfl rfl rfl (hb)) rfl ?_
      refine w_p (pc1 := 39) rfl rfl ?_
      refine w_m0 (pc1 := 42) rfl rfl (h_gC rfl rfl rfl rfl) rfl ?_
      refine w_m0 (pc1 := 45) (st1 := .long (vl B n i) :: _) rfl rfl (h_gJe (j := 8) rfl rfl rfl rfl rfl (S.2.2.2.2.2.2.2)) rfl ?_
      refine w_je (pc1 := 48) (vs := [.ref 106, .int (nI (b)), .long (vl B n i)]) (rest := []) (st1 := [.int (nI (T.1.2.1 b))]) (m_42y (d := d + 6) (sl := 0) hT hb6 hw hw5) rfl rfl rfl (fun _ _ => rfl) rfl (by exact cl_v my_42 rfl rfl rfl (Nat.le_of_ble_eq_true rfl) rfl (MH_obj rfl rfl) rfl (by decide) rfl rfl) (by rfl) (Nat.le_of_ble_eq_true rfl) (Nat.le_of_ble_eq_true rfl) rfl (by rfl) ?_
      refine w_p (pc1 := 49) (al1 := [(1, .int (nI (T.1.2.1 b))), (0, .ref 120)]) rfl rfl ?_
      refine w_p (pc1 := 50) rfl rfl ?_
      refine w_p (pc1 := 51) (st1 := .int (-1) :: _) rfl rfl ?_
      refine w_t (a := 63) (b := 54) (cb_ne_t (by exact nK_m1 (by omega))) rfl rfl ?_
      refine w_p (pc1 := 64) rfl rfl ?_
      refine w_m0 (pc1 := 67) rfl rfl (h_gC rfl rfl rfl rfl) rfl ?_
      refine w_je (pc1 := 70) (vs := [.ref 101]) (rest := []) (st1 := []) (m_21s (d := d + 8) (sl := 0) S1 (by rw [h3]; decide) (by rw [h3]; decide)) rfl rfl rfl (fun _ _ => rfl) rfl (by exact cl_v my_21 rfl rfl rfl (Nat.le_of_ble_eq_true rfl) rfl (MH_obj rfl rfl) rfl (by decide) rfl rfl) (by rfl) (Nat.le_of_ble_eq_true rfl) (Nat.le_of_ble_eq_true rfl) rfl (by rfl) ?_
      refine Wd_q (d40_2 (sl := sl + 0) S2 hl2 K2 hb2 hb6 hcw) (fun v h q p => ?_) (fun a h q p => ?_)
      · exact PIt_m p er2 (st2) (by omega) (by omega) (by omega)
      · exact XIt_m p (fun _ h => er2.trans h) (st2) (by omega) (by omega) (by omega)
  · have er : rNwc (tkP B n) T b i nl = .inl (3, i) := if_neg hf
    refine w_p (pc1 := 1) rfl rfl ?_
    refine w_m0 (pc1 := 4) rfl rfl (h_gC rfl rfl rfl rfl) rfl ?_
    refine w_p (pc1 := 5) rfl rfl ?_
    refine w_m0 (pc1 := 8) (st1 := .int (nI (b)) :: _) rfl rfl (h_gIe (j := 10) rfl rfl rfl rfl rfl (hb)) rfl ?_
    refine w_p (pc1 := 9) rfl rfl ?_
    refine w_m0 (pc1 := 12) rfl rfl (h_gC rfl rfl rfl rfl) rfl ?_
    refine w_m0 (pc1 := 15) (st1 := .long (vl B n i) :: _) rfl rfl (h_gJe (j := 8) rfl rfl rfl rfl rfl (S.2.2.2.2.2.2.2)) rfl ?_
    refine w_je (pc1 := 18) (vs := [.ref 106, .int (nI (b)), .long (vl B n i)]) (rest := []) (st1 := [.int (clF T.1 b (vl B n i))]) (h41) rfl rfl rfl (fun _ _ => rfl) rfl (by exact cl_v my_41 rfl rfl rfl (Nat.le_of_ble_eq_true rfl) rfl (MH_obj rfl rfl) rfl (by decide) rfl rfl) (by rfl) (Nat.le_of_ble_eq_true rfl) (Nat.le_of_ble_eq_true rfl) rfl (by rfl) ?_
    refine w_p (pc1 := 19) (st1 := .int (-1) :: _) rfl rfl ?_
    refine w_f (a := 30) (b := 22) (cb_eq_f (by exact hf)) rfl rfl ?_
    refine w_p (pc1 := 23) rfl rfl ?_
    refine w_m0 (pc1 := 26) rfl rfl (h_gC rfl rfl rfl rfl) rfl ?_
    refine w_p (pc1 := 27) (st1 := .int 3 :: _) rfl rfl ?_
    refine w_ji (pc1 := 30) (vs := [.ref 101, .int 3]) (rest := []) (m_31 (d := d + 2) (sl := 0) (c := 3) S) rfl rfl rfl (fun _ _ => rfl) rfl (by exact cl_v my_31 rfl rfl rfl (Nat.le_of_ble_eq_true rfl) rfl (MH_obj rfl rfl) rfl (by decide) rfl rfl) (by rfl) (Nat.le_of_ble_eq_true rfl) (Nat.le_of_ble_eq_true rfl) rfl (fun v h1 d1 hq => ?_) (fun a h1 d1 hq => ?_)
    · exact hq.elim
    · rcases hq with ⟨ha, hh, hn⟩
      · subst ha; subst hh; subst hn
        refine Or.inl ⟨ch_new (by decide) rfl, ?_⟩
        refine ⟨3, i, _, t, sl + 0, ⟨er, flt_rf.1, STB_rf, by omega, by omega, by omega⟩, rfl, ?_, by omega⟩
        with_reducible rfl
end TCR
