
/-! ONE SIDE: a table is read, 10: references -/
def rRf2 (K : tv2) (T : tb_S) (b : Nat) (cs : List Nat) (tb i : Nat) (nl : Option Nat) : pz_T (tb_S × Nat × Option Nat) := pb (rNam K T.1 tb 7 [] i) (fun ts => if K.1 ts.2 = 45 then (if ts.1.length = cs.length ∧ kyA T.2.2 tb ts.1 24 0 = true then rRf3 K T b cs tb ts.1 (ts.2 + 1) nl else .inl (7, ts.2)) else .inl (2, ts.2))
def rRf1 (K : tv2) (T : tb_S) (b : Nat) (cs : List Nat) (i : Nat) (nl : Option Nat) : pz_T (tb_S × Nat × Option Nat) := pb (xpP K 45 i) (fun j2 => pb (xpP K 38 j2) (fun j3 => pb (rTab K T.1 j3) (fun tb => pb (xpP K 44 tb.2) (fun j4 => rRf2 K T b cs tb.1 j4 nl))))
def rRef (K : tv2) (T : tb_S) (b i : Nat) (nl : Option Nat) : pz_T (tb_S × Nat × Option Nat) := if ruN T.2.2 = -1 then .inl (6, i) else pb (xpP K 44 (i + 1)) (fun j1 => pb (rNam K T.1 b 7 [] j1) (fun cs => rRf1 K T b cs.1 cs.2 nl))
section TRG
variable {L : Nat} {xs : Nat → Int32} {B : Nat → Nat} {n m : Nat} {C C' C0 C1 : co_T} {t t0 t1 : ab_H} {d sl sl0 sl1 i i0 i1 j b e ti k k0 kc ks w c : Nat} {sc : sc_T} {row : Option Nat} {tg : Option (Nat × Nat)} {nl : Option Nat} {kd0 tb0 : Int32} {P : Option Value → ab_H → Nat → Prop} {X : Nat → ab_H → Nat → Prop} {cs : List Nat} {ss : List (Option (List op_T))} {E : fe_T} {tr : Nat → Option tr_T} {ru : Nat → Option ru_T} {T : tb_S} {s i2 sl2 tb d1 u1 : Nat} {C2 : co_T} {t2 : ab_H} {ts : List Nat}
set_option maxRecDepth 100000 in
theorem kyA_4 {ru' : Nat → Option ru_T} {b : Nat} {cs : List Nat} (h : ∀ q, ru' q = ru q ∨ (ru q = none ∧ ∃ u, ru' q = some u ∧ rKd u = 4)) : ∀ (n k : Nat), kyA ru' b cs n k = kyA ru b cs n k
  | 0, _ => rfl
  | n + 1, k => by
    rw [kyA, kyA, kyA_4 h n (k + 1)]
    rcases h k with e | ⟨e, u, e1, e2⟩
    · rw [e]
    · rw [e, e1]
      have : kyO u cs = false := by
        unfold kyO
        rw [e2]
        rfl
      simp only
      rw [this, Bool.and_false]
def RFy (B : Nat → Nat) (n m : Nat) (C : co_T) (t : ab_H) (b s i sl : Nat) (cs : List Nat) (tb : Int32) (C' : co_T) (t' : ab_H) (i' sl' : Nat) : Prop := (frN (nrC B n C i s t) C' ∧ tkS B n m C' i') ∧ (∃ fc, RP t' t.length (t.length + 1) (t.length + 1 + 1) 4 (nI b) fc (fun _ => 0) (nI cs.length) tb 0 0 0 .null ∧ arI fc 0 cs) ∧ (cs.length ≤ 6 ∧ ∀ x, x ∈ cs → x < 6) ∧ (tlE t t' ∧ t'.length = t.length + 3 ∧ i + 1 ≤ i' ∧ sl' = sl + 22)
set_option maxRecDepth 100000 in
theorem nr_SC (K : BK C t T) (F : frN (nrC B n C i s t) C2) : SCK C2 T.1 := by
  obtain ⟨f1, f3, _, _⟩ := nr_F (frF_N F)
  exact ⟨fun b hb => (f3 7 b (by omega)).trans (K.1.1 b hb), fun b hb => ⟨(f1 8 b (by omega) (by omega) (by omega) (by omega)).trans (K.1.2 b hb).1, (K.1.2 b hb).2.1, fun c hc => (f3 9 _ (by omega)).trans ((K.1.2 b hb).2.2 c hc)⟩⟩
set_option maxRecDepth 100000 in
theorem d73_2 (K : BK C t T) (hl : lfK (C.1 21 6) nl) (hN : ruN T.2.2 = nI s) (hs : s < 24) (hsn : C.2.2 11 s = none) (hn : T.2.2 s = none) (ok : ∀ i u, T.2.2 i = some u → okRu u) (hb6 : b < 6) (htb : tb < 6) (R : RFy B n m C t b s i sl cs (nI tb) C2 t2 i2 sl2) : Wd L xs (d + 9) y_73 (70, [(1, .ref (241 + t.length)), (0, .ref 120)], [], MH C2 t2, sl2) (PIt B n m C t i sl b (rRf2 (tkP B n) T b cs tb i2 nl)) (XIt B n C t i sl b (rRf2 (tkP B n) T b cs tb i2 nl)) := by
  obtain ⟨⟨F, S⟩, ⟨fc, A, a1⟩, ⟨c6, cx⟩, q2, l2, hi2, hsl⟩ := R
  refine w_p (pc1 := 71) rfl rfl ?_
  refine w_p (pc1 := 72) rfl rfl ?_
  refine w_m0 (pc1 := 75) (st1 := .int (nI (tb)) :: _) rfl rfl (x_gf (k := t.length) rfl A.1 rfl) rfl ?_
  refine w_p (pc1 := 76) rfl rfl ?_
  refine w_m0 (pc1 := 79) (st1 := .ref (241 + (t.length + 1 + 1)) :: _) rfl rfl (x_gf (k := t.length) rfl A.1 rfl) rfl ?_
  refine w_ji (pc1 := 82) (vs := [.ref 120, .int (nI (tb)), .ref (241 + (t.length + 1 + 1))]) (rest := []) (m_53 (d := d) (sl := 0) S (nr_SC K F) htb A.2.2) rfl rfl rfl (fun _ _ => rfl) rfl (by exact cl_v my_53 rfl rfl rfl (Nat.le_of_ble_eq_true rfl) rfl (MH_obj rfl rfl) rfl (by decide) rfl rfl) (by rfl) (Nat.le_of_ble_eq_true rfl) (Nat.le_of_ble_eq_true rfl) rfl (fun v h1 d1 hq => ?_) (fun a h1 d1 hq => ?_)
  · obtain ⟨ts, i3, C3, t3, ⟨r1, hv, N⟩, hh⟩ := hq
    subst hv; subst hh
    obtain ⟨⟨N1, N2⟩, ⟨ft, N3, N4⟩, ⟨N5, N6, N7⟩, ⟨N8, N9⟩, N10, N11⟩ := N
    subst N10
    have er1 := pb_r (g := fun ts => if (tkP B n).1 ts.2 = 45 then (if ts.1.length = cs.length ∧ kyA T.2.2 tb ts.1 24 0 = true then rRf3 (tkP B n) T b cs tb ts.1 (ts.2 + 1) nl else .inl (7, ts.2)) else .inl (2, ts.2)) r1
    have F3 := frN_t' F N2
    have A3 : RP t3 t.length (t.length + 1) (t.length + 1 + 1) 4 (nI b) fc ft (nI cs.length) (nI tb) 0 0 0 .null := ⟨N8 _ _ (by omega) A.1, N8 _ _ (by omega) A.2.1, N3⟩
    have q3 : tlE t t3 := fun j x h => N8 j x (by have := get_lt h; omega) (q2 j x h)
    have hw6 := (K.1.2 tb htb).2.1
    have hts : ∀ x, x ∈ ts → x < 6 := fun x hx => by have := N6 x hx; omega
    have hU0 : RUK t3 t.length (4, b, cs, some tb, [], false, 0, 0, none) := ⟨t.length + 1, t.length + 1 + 1, fc, ft, .null, ⟨A3.1, A3.2.1, A3.2.2, a1, fun j x hj => (by cases hj)⟩, rfl⟩
    have K0 := BK_48 K hN hs (frF_N F3) q3 hU0
    have ok0 : ∀ i u, (addR T (4, b, cs, some tb, [], false, 0, 0, none)).2.2 i = some u → okRu u := fun q u hu => by
      have hu : (if q = (ruN T.2.2).toNatClampNeg then some (4, b, cs, some tb, [], false, 0, 0, none) else T.2.2 q) = some u := hu
      split at hu
      · cases hu
        exact ⟨c6, cx, hb6, (by decide : 4 < 5)⟩
      · exact ok q u hu
    have ky : kyA (addR T (4, b, cs, some tb, [], false, 0, 0, none)).2.2 tb ts 24 0 = kyA T.2.2 tb ts 24 0 := kyA_4 (fun q => by
      have hq2 : (addR T (4, b, cs, some tb, [], false, 0, 0, none)).2.2 q = if q = s then some (4, b, cs, some tb, [], false, 0, 0, none) else T.2.2 q := by
        show (if q = (ruN T.2.2).toNatClampNeg then _ else _) = _
        rw [hN, nK_nat (by omega)]
      rw [hq2]
      by_cases e : q = s
      · subst e
        exact Or.inr ⟨hn, _, if_pos rfl, rfl⟩
      · exact Or.inl (if_neg e)) 24 0
    have h75 := m_75 (L := L) (xs := xs) (d := d + 7) (sl := 0) K0.2.2 ok0 htb N3 N4 hts N5
    rw [ky] at h75
    have im := N1.2.2.2.1
    by_cases h45 : kd B n i3 = 45
    · have h45' : (tkP B n).1 i3 = 45 := h45
      by_cases hk : ts.length = cs.length
      · cases hq : kyA T.2.2 tb ts 24 0 with
        | true =>
          rw [hq] at h75
          have er2 : rRf2 (tkP B n) T b cs tb i2 nl = rRf3 (tkP B n) T b cs tb ts (i3 + 1) nl := er1.trans ((if_pos h45').trans (if_pos ⟨hk, hq⟩))
          refine w_p (pc1 := 83) (al1 := [(2, .int (nI (ts.length))), (1, .ref (241 + t.length)), (0, .ref 120)]) rfl rfl ?_
          refine w_p (pc1 := 84) rfl rfl ?_
          refine w_m0 (pc1 := 87) rfl rfl (h_gC rfl rfl rfl rfl) rfl ?_
          refine w_m0 (pc1 := 90) (st1 := .ref (kd B n i3) :: _) rfl rfl (h_gRs (j := 6) rfl rfl rfl rfl rfl (tkS_tok N1)) rfl ?_
          refine w_m0 (pc1 := 93) (st1 := .ref 45 :: _) rfl rfl rfl rfl ?_
          refine w_an_y (A := 132) (Bn := 96) (ok_kd) (by decide) (h45) rfl rfl rfl ?_
          refine w_p (pc1 := 97) rfl rfl ?_
          refine w_p (pc1 := 98) rfl rfl ?_
          refine w_m0 (pc1 := 101) (st1 := .int (nI (cs.length)) :: _) rfl rfl (x_gf (k := t.length) rfl A3.1 rfl) rfl ?_
          refine w_f (a := 123) (b := 104) (bN_ne_f (a := ts.length) (b := cs.length) (by omega) (by omega) (by omega)) rfl rfl ?_
          refine w_p (pc1 := 105) rfl rfl ?_
          refine w_m0 (pc1 := 108) rfl rfl (h_gC rfl rfl rfl rfl) rfl ?_
          refine w_p (pc1 := 109) rfl rfl ?_
          refine w_m0 (pc1 := 112) (st1 := .int (nI (tb)) :: _) rfl rfl (x_gf (k := t.length) rfl A3.1 rfl) rfl ?_
          refine w_p (pc1 := 113) rfl rfl ?_
          refine w_m0 (pc1 := 116) (st1 := .ref (241 + (t.length + 1 + 1)) :: _) rfl rfl (x_gf (k := t.length) rfl A3.1 rfl) rfl ?_
          refine w_p (pc1 := 117) rfl rfl ?_
          refine w_je (pc1 := 120) (vs := [.ref 106, .int (nI (tb)), .ref (241 + (t.length + 1 + 1)), .int (nI (ts.length))]) (rest := []) (st1 := [.int 1]) (h75) rfl rfl rfl (fun _ _ => rfl) rfl (by exact cl_v my_75 rfl rfl rfl (Nat.le_of_ble_eq_true rfl) rfl (MH_obj rfl rfl) rfl (by decide) rfl rfl) (by rfl) (Nat.le_of_ble_eq_true rfl) (Nat.le_of_ble_eq_true rfl) rfl (by rfl) ?_
          refine w_t (a := 132) (b := 123) rfl rfl rfl ?_
          refine w_p (pc1 := 133) rfl rfl ?_
          refine w_m0 (pc1 := 136) rfl rfl (h_gC rfl rfl rfl rfl) rfl ?_
          refine w_m0 (pc1 := 139) (st1 := .ref 45 :: _) rfl rfl rfl rfl ?_
          refine w_je (pc1 := 142) (vs := [.ref 101, .ref 45]) (rest := []) (st1 := []) (m_38y (d := d + 7) (sl := 0) N1 (by decide) h45 (by decide) (by decide)) rfl rfl rfl (fun _ _ => rfl) rfl (by exact cl_v my_38 rfl rfl rfl (Nat.le_of_ble_eq_true rfl) rfl (MH_obj rfl rfl) rfl (by decide) rfl rfl) (by rfl) (Nat.le_of_ble_eq_true rfl) (Nat.le_of_ble_eq_true rfl) rfl (by rfl) ?_
          rw [er2]
          exact d73_3 K hl hN hs hsn ⟨⟨frN_t' F3 nxT_fr, nxT_S N1 (by rw [h45]; decide) (by rw [h45]; decide)⟩, ⟨fc, ft, A3, a1, N4⟩, q3, by omega, by omega, by omega⟩
        | false =>
          rw [hq] at h75
          have er2 : rRf2 (tkP B n) T b cs tb i2 nl = .inl (7, i3) := er1.trans ((if_pos h45').trans (if_neg (fun h => by rw [hq] at h; cases h.2)))
          refine w_p (pc1 := 83) (al1 := [(2, .int (nI (ts.length))), (1, .ref (241 + t.length)), (0, .ref 120)]) rfl rfl ?_
          refine w_p (pc1 := 84) rfl rfl ?_
          refine w_m0 (pc1 := 87) rfl rfl (h_gC rfl rfl rfl rfl) rfl ?_
          refine w_m0 (pc1 := 90) (st1 := .ref (kd B n i3) :: _) rfl rfl (h_gRs (j := 6) rfl rfl rfl rfl rfl (tkS_tok N1)) rfl ?_
          refine w_m0 (pc1 := 93) (st1 := .ref 45 :: _) rfl rfl rfl rfl ?_
          refine w_an_y (A := 132) (Bn := 96) (ok_kd) (by decide) (h45) rfl rfl rfl ?_
          refine w_p (pc1 := 97) rfl rfl ?_
          refine w_p (pc1 := 98) rfl rfl ?_
          refine w_m0 (pc1 := 101) (st1 := .int (nI (cs.length)) :: _) rfl rfl (x_gf (k := t.length) rfl A3.1 rfl) rfl ?_
          refine w_f (a := 123) (b := 104) (bN_ne_f (a := ts.length) (b := cs.length) (by omega) (by omega) (by omega)) rfl rfl ?_
          refine w_p (pc1 := 105) rfl rfl ?_
          refine w_m0 (pc1 := 108) rfl rfl (h_gC rfl rfl rfl rfl) rfl ?_
          refine w_p (pc1 := 109) rfl rfl ?_
          refine w_m0 (pc1 := 112) (st1 := .int (nI (tb)) :: _) rfl rfl (x_gf (k := t.length) rfl A3.1 rfl) rfl ?_
          refine w_p (pc1 := 113) rfl rfl ?_
          refine w_m0 (pc1 := 116) (st1 := .ref (241 + (t.length + 1 + 1)) :: _) rfl rfl (x_gf (k := t.length) rfl A3.1 rfl) rfl ?_
          refine w_p (pc1 := 117) rfl rfl ?_
          refine w_je (pc1 := 120) (vs := [.ref 106, .int (nI (tb)), .ref (241 + (t.length + 1 + 1)), .int (nI (ts.length))]) (rest := []) (st1 := [.int 0]) (h75) rfl rfl rfl (fun _ _ => rfl) rfl (by exact cl_v my_75 rfl rfl rfl (Nat.le_of_ble_eq_true rfl) rfl (MH_obj rfl rfl) rfl (by decide) rfl rfl) (by rfl) (Nat.le_of_ble_eq_true rfl) (Nat.le_of_ble_eq_true rfl) rfl (by rfl) ?_
          refine w_f (a := 132) (b := 123) rfl rfl rfl ?_
          refine w_p (pc1 := 124) rfl rfl ?_
          refine w_m0 (pc1 := 127) rfl rfl (h_gC rfl rfl rfl rfl) rfl ?_
          refine w_p (pc1 := 129) (st1 := .int 7 :: _) rfl rfl ?_
          refine w_ji (pc1 := 132) (vs := [.ref 101, .int 7]) (rest := []) (m_31 (d := d + 2) (sl := 0) (c := 7) N1) rfl rfl rfl (fun _ _ => rfl) rfl (by exact cl_v my_31 rfl rfl rfl (Nat.le_of_ble_eq_true rfl) rfl (MH_obj rfl rfl) rfl (by decide) rfl rfl) (by rfl) (Nat.le_of_ble_eq_true rfl) (Nat.le_of_ble_eq_true rfl) rfl (fun v h1 d1 hq => ?_) (fun a h1 d1 hq => ?_)
          · exact hq.elim
          · rcases hq with ⟨ha, hh, hn⟩
            · subst ha; subst hh; subst hn
              refine Or.inl ⟨ch_new (by decide) rfl, ?_⟩
              refine ⟨7, i3, _, t3, sl2 + 0, ⟨er2, flt_rf.1, STB_t (STB_48 hsn (frF_N F3) q3 A3.1) STB_rf, by omega, by omega, by omega⟩, rfl, ?_, by omega⟩
              with_reducible rfl
      · have er2 : rRf2 (tkP B n) T b cs tb i2 nl = .inl (7, i3) := er1.trans ((if_pos h45').trans (if_neg (fun h => hk h.1)))
        refine w_p (pc1 := 83) (al1 := [(2, .int (nI (ts.length))), (1, .ref (241 + t.length)), (0, .ref 120)]) rfl rfl ?_
        refine w_p (pc1 := 84) rfl rfl ?_
        refine w_m0 (pc1 := 87) rfl rfl (h_gC rfl rfl rfl rfl) rfl ?_
        refine w_m0 (pc1 := 90) (st1 := .ref (kd B n i3) :: _) rfl rfl (h_gRs (j := 6) rfl rfl rfl rfl rfl (tkS_tok N1)) rfl ?_
        refine w_m0 (pc1 := 93) (st1 := .ref 45 :: _) rfl rfl rfl rfl ?_
        refine w_an_y (A := 132) (Bn := 96) (ok_kd) (by decide) (h45) rfl rfl rfl ?_
        refine w_p (pc1 := 97) rfl rfl ?_
        refine w_p (pc1 := 98) rfl rfl ?_
        refine w_m0 (pc1 := 101) (st1 := .int (nI (cs.length)) :: _) rfl rfl (x_gf (k := t.length) rfl A3.1 rfl) rfl ?_
        refine w_t (a := 123) (b := 104) (bN_ne_t (a := ts.length) (b := cs.length) (by omega) (by omega) (by omega)) rfl rfl ?_
        refine w_p (pc1 := 124) rfl rfl ?_
        refine w_m0 (pc1 := 127) rfl rfl (h_gC rfl rfl rfl rfl) rfl ?_
        refine w_p (pc1 := 129) (st1 := .int 7 :: _) rfl rfl ?_
        refine w_ji (pc1 := 132) (vs := [.ref 101, .int 7]) (rest := []) (m_31 (d := d + 2) (sl := 0) (c := 7) N1) rfl rfl rfl (fun _ _ => rfl) rfl (by exact cl_v my_31 rfl rfl rfl (Nat.le_of_ble_eq_true rfl) rfl (MH_obj rfl rfl) rfl (by decide) rfl rfl) (by rfl) (Nat.le_of_ble_eq_true rfl) (Nat.le_of_ble_eq_true rfl) rfl (fun v h1 d1 hq => ?_) (fun a h1 d1 hq => ?_)
        · exact hq.elim
        · rcases hq with ⟨ha, hh, hn⟩
          · subst ha; subst hh; subst hn
            refine Or.inl ⟨ch_new (by decide) rfl, ?_⟩
            refine ⟨7, i3, _, t3, sl2 + 0, ⟨er2, flt_rf.1, STB_t (STB_48 hsn (frF_N F3) q3 A3.1) STB_rf, by omega, by omega, by omega⟩, rfl, ?_, by omega⟩
            with_reducible rfl
    · have er2 : rRf2 (tkP B n) T b cs tb i2 nl = .inl (2, i3) := er1.trans (if_neg h45)
      refine w_p (pc1 := 83) (al1 := [(2, .int (nI (ts.length))), (1, .ref (241 + t.length)), (0, .ref 120)]) rfl rfl ?_
      refine w_p (pc1 := 84) rfl rfl ?_
      refine w_m0 (pc1 := 87) rfl rfl (h_gC rfl rfl rfl rfl) rfl ?_
      refine w_m0 (pc1 := 90) (st1 := .ref (kd B n i3) :: _) rfl rfl (h_gRs (j := 6) rfl rfl rfl rfl rfl (tkS_tok N1)) rfl ?_
      refine w_m0 (pc1 := 93) (st1 := .ref 45 :: _) rfl rfl rfl rfl ?_
      refine w_an_n (A := 132) (ok_kd) (by decide) (h45) rfl rfl ?_
      refine w_p (pc1 := 133) rfl rfl ?_
      refine w_m0 (pc1 := 136) rfl rfl (h_gC rfl rfl rfl rfl) rfl ?_
      refine w_m0 (pc1 := 139) (st1 := .ref 45 :: _) rfl rfl rfl rfl ?_
      refine w_ji (pc1 := 142) (vs := [.ref 101, .ref 45]) (rest := []) (m_38n (d := d + 1) (sl := 0) N1 (by decide) h45) rfl rfl rfl (fun _ _ => rfl) rfl (by exact cl_v my_38 rfl rfl rfl (Nat.le_of_ble_eq_true rfl) rfl (MH_obj rfl rfl) rfl (by decide) rfl rfl) (by rfl) (Nat.le_of_ble_eq_true rfl) (Nat.le_of_ble_eq_true rfl) rfl (fun v h1 d1 hq => ?_) (fun a h1 d1 hq => ?_)
      · exact hq.elim
      · rcases hq with ⟨ha, hh, hn⟩
        · subst ha; subst hh; subst hn
          refine Or.inl ⟨ch_new (by decide) rfl, ?_⟩
          refine ⟨2, i3, _, t3, sl2 + 0, ⟨er2, flt_rf.1, STB_t (STB_48 hsn (frF_N F3) q3 A3.1) STB_rf, by omega, by omega, by omega⟩, rfl, ?_, by omega⟩
          with_reducible rfl
  · rcases hq with ⟨c2, j, C', t', ⟨x1, x2, ⟨x3, x4⟩, x5⟩, ha, hh, hn⟩
    · subst ha; subst hh; subst hn
      refine Or.inl ⟨ch_new (by decide) rfl, ?_⟩
      refine ⟨c2, j, _, t', sl2 + 0, ⟨pb_l x1, flt_rf.1, STB_t (STB_48 hsn (frF_N (frN_t' F x2)) (fun j x h => x3 j x (by have := get_lt h; omega) (q2 j x h)) (x3 _ _ (by omega) A.1)) STB_rf, by omega, by omega, by omega⟩, rfl, ?_, by omega⟩
      with_reducible rfl
set_option maxRecDepth 100000 in
theorem d73_1 (K : BK C t T) (hl : lfK (C.1 21 6) nl) (hN : ruN T.2.2 = nI s) (hs : s < 24) (hsn : C.2.2 11 s = none) (hn : T.2.2 s = none) (ok : ∀ i u, T.2.2 i = some u → okRu u) (hb6 : b < 6) (R : RFy B n m C t b s i sl cs (-1) C2 t2 i2 sl2) : Wd L xs (d + 9) y_73 (32, [(1, .ref (241 + t.length)), (0, .ref 120)], [], MH C2 t2, sl2) (PIt B n m C t i sl b (rRf1 (tkP B n) T b cs i2 nl)) (XIt B n C t i sl b (rRf1 (tkP B n) T b cs i2 nl)) := by
  obtain ⟨⟨F, S⟩, ⟨fc, A, a1⟩, ⟨c6, cx⟩, q2, l2, hi2, hsl⟩ := R
  have im := S.2.2.2.1
  by_cases h45 : kd B n i2 = 45
  · have x0 : xpP (tkP B n) 45 i2 = .inr (i2 + 1) := if_pos h45
    have S3 := nxT_S S (by rw [h45]; decide) (by rw [h45]; decide)
    have F3 := frN_t' F (nxT_fr (B := B) (n := n) (C := C2) (i := i2))
    by_cases h38 : kd B n (i2 + 1) = 38
    · have x1 : xpP (tkP B n) 38 (i2 + 1) = .inr (i2 + 1 + 1) := if_pos h38
      have S4 := nxT_S S3 (by rw [h38]; decide) (by rw [h38]; decide)
      have F4 := frN_t' F3 (nxT_fr (B := B) (n := n) (C := nxT B n C2 i2) (i := i2 + 1))
      have er1 : rRf1 (tkP B n) T b cs i2 nl = pb (rTab (tkP B n) T.1 (i2 + 1 + 1)) (fun tb => pb (xpP (tkP B n) 44 tb.2) (fun j4 => rRf2 (tkP B n) T b cs tb.1 j4 nl)) := (pb_r x0).trans (pb_r x1)
      refine w_p (pc1 := 33) rfl rfl ?_
      refine w_m0 (pc1 := 36) rfl rfl (h_gC rfl rfl rfl rfl) rfl ?_
      refine w_m0 (pc1 := 39) (st1 := .ref 45 :: _) rfl rfl rfl rfl ?_
      refine w_je (pc1 := 42) (vs := [.ref 101, .ref 45]) (rest := []) (st1 := []) (m_38y (d := d + 7) (sl := 0) S (by decide) h45 (by decide) (by decide)) rfl rfl rfl (fun _ _ => rfl) rfl (by exact cl_v my_38 rfl rfl rfl (Nat.le_of_ble_eq_true rfl) rfl (MH_obj rfl rfl) rfl (by decide) rfl rfl) (by rfl) (Nat.le_of_ble_eq_true rfl) (Nat.le_of_ble_eq_true rfl) rfl (by rfl) ?_
      refine w_p (pc1 := 43) rfl rfl ?_
      refine w_m0 (pc1 := 46) rfl rfl (h_gC rfl rfl rfl rfl) rfl ?_
      refine w_m0 (pc1 := 49) (st1 := .ref 38 :: _) rfl rfl rfl rfl ?_
      refine w_je (pc1 := 52) (vs := [.ref 101, .ref 38]) (rest := []) (st1 := []) (m_38y (d := d + 7) (sl := 0) S3 (by decide) h38 (by decide) (by decide)) rfl rfl rfl (fun _ _ => rfl) rfl (by exact cl_v my_38 rfl rfl rfl (Nat.le_of_ble_eq_true rfl) rfl (MH_obj rfl rfl) rfl (by decide) rfl rfl) (by rfl) (Nat.le_of_ble_eq_true rfl) (Nat.le_of_ble_eq_true rfl) rfl (by rfl) ?_
      refine w_p (pc1 := 53) rfl rfl ?_
      refine w_p (pc1 := 54) rfl rfl ?_
      refine w_ji (pc1 := 57) (vs := [.ref 120]) (rest := [.ref (241 + t.length)]) (m_74 (d := d + 1) (sl := 0) S4 (nr_SC K F4)) rfl rfl rfl (fun _ _ => rfl) rfl (by exact cl_v my_74 rfl rfl rfl (Nat.le_of_ble_eq_true rfl) rfl (MH_obj rfl rfl) rfl (by decide) rfl rfl) (by rfl) (Nat.le_of_ble_eq_true rfl) (Nat.le_of_ble_eq_true rfl) rfl (fun v h1 d1 hq => ?_) (fun a h1 d1 hq => ?_)
      · obtain ⟨tb, i4, C4, ⟨s1, hv, s3, s4⟩, hh, hn⟩ := hq
        subst hv; subst hh; subst hn
        obtain ⟨rfl, htb, htn⟩ := rTab_i s1
        have F5 := frN_t' F4 s4
        have er2 : rRf1 (tkP B n) T b cs i2 nl = pb (xpP (tkP B n) 44 (i2 + 1 + 1 + 1)) (fun j4 => rRf2 (tkP B n) T b cs tb j4 nl) := er1.trans (pb_r s1)
        obtain ⟨t3, e3, g3, p3, l3⟩ := tl_st A.1 (.inr (7, [.int 4, .int (nI b), .ref (241 + (t.length + 1)), .ref (241 + (t.length + 1 + 1)), .int (nI cs.length), .int (nI tb), .int 0, .int (0), .int (0), .null]))
        have q3 : tlE t t3 := fun j x h => p3 j x (by have := get_lt h; omega) (q2 j x h)
        have A3 : RP t3 t.length (t.length + 1) (t.length + 1 + 1) 4 (nI b) fc (fun _ => 0) (nI cs.length) (nI tb) 0 0 0 .null := ⟨g3, p3 _ _ (by omega) A.2.1, p3 _ _ (by omega) A.2.2⟩
        have im5 := s3.2.2.2.1
        by_cases h44 : kd B n (i2 + 1 + 1 + 1) = 44
        · have x2 : xpP (tkP B n) 44 (i2 + 1 + 1 + 1) = .inr (i2 + 1 + 1 + 1 + 1) := if_pos h44
          have er3 : rRf1 (tkP B n) T b cs i2 nl = rRf2 (tkP B n) T b cs tb (i2 + 1 + 1 + 1 + 1) nl := er2.trans (pb_r x2)
          refine w_m0 (pc1 := 60) rfl rfl (x_pf (k := t.length) (fs' := [.int 4, .int (nI (b)), .ref (241 + (t.length + 1)), .ref (241 + (t.length + 1 + 1)), .int (nI (cs.length)), .int (nI (tb)), .int 0, .int 0, .int 0, .null]) rfl A.1 rfl rfl ⟨rfl, rfl⟩ (Or.inl rfl) (Nat.le_of_ble_eq_true rfl) rfl) rfl ?_
          rw [e3]
          refine w_p (pc1 := 61) rfl rfl ?_
          refine w_m0 (pc1 := 64) rfl rfl (h_gC rfl rfl rfl rfl) rfl ?_
          refine w_m0 (pc1 := 67) (st1 := .ref 44 :: _) rfl rfl rfl rfl ?_
          refine w_je (pc1 := 70) (vs := [.ref 101, .ref 44]) (rest := []) (st1 := []) (m_38y (d := d + 7) (sl := 0) s3 (by decide) h44 (by decide) (by decide)) rfl rfl rfl (fun _ _ => rfl) rfl (by exact cl_v my_38 rfl rfl rfl (Nat.le_of_ble_eq_true rfl) rfl (MH_obj rfl rfl) rfl (by decide) rfl rfl) (by rfl) (Nat.le_of_ble_eq_true rfl) (Nat.le_of_ble_eq_true rfl) rfl (by rfl) ?_
          rw [er3]
          exact d73_2 K hl hN hs hsn hn ok hb6 htb ⟨⟨frN_t' F5 nxT_fr, nxT_S s3 (by rw [h44]; decide) (by rw [h44]; decide)⟩, ⟨fc, A3, a1⟩, ⟨c6, cx⟩, q3, by omega, by omega, by omega⟩
        · have x2 : xpP (tkP B n) 44 (i2 + 1 + 1 + 1) = .inl (2, i2 + 1 + 1 + 1) := if_neg h44
          refine w_m0 (pc1 := 60) rfl rfl (x_pf (k := t.length) (fs' := [.int 4, .int (nI (b)), .ref (241 + (t.length + 1)), .ref (241 + (t.length + 1 + 1)), .int (nI (cs.length)), .int (nI (tb)), .int 0, .int 0, .int 0, .null]) rfl A.1 rfl rfl ⟨rfl, rfl⟩ (Or.inl rfl) (Nat.le_of_ble_eq_true rfl) rfl) rfl ?_
          rw [e3]
          refine w_p (pc1 := 61) rfl rfl ?_
          refine w_m0 (pc1 := 64) rfl rfl (h_gC rfl rfl rfl rfl) rfl ?_
          refine w_m0 (pc1 := 67) (st1 := .ref 44 :: _) rfl rfl rfl rfl ?_
          refine w_ji (pc1 := 70) (vs := [.ref 101, .ref 44]) (rest := []) (m_38n (d := d + 1) (sl := 0) s3 (by decide) h44) rfl rfl rfl (fun _ _ => rfl) rfl (by exact cl_v my_38 rfl rfl rfl (Nat.le_of_ble_eq_true rfl) rfl (MH_obj rfl rfl) rfl (by decide) rfl rfl) (by rfl) (Nat.le_of_ble_eq_true rfl) (Nat.le_of_ble_eq_true rfl) rfl (fun v h1 d1 hq => ?_) (fun a h1 d1 hq => ?_)
          · exact hq.elim
          · rcases hq with ⟨ha, hh, hn⟩
            · subst ha; subst hh; subst hn
              refine Or.inl ⟨ch_new (by decide) rfl, ?_⟩
              refine ⟨2, i2 + 1 + 1 + 1, _, t3, sl2 + 0, ⟨er2.trans (pb_l x2), flt_rf.1, STB_t (STB_48 hsn (frF_N F5) q3 A3.1) STB_rf, by omega, by omega, by omega⟩, rfl, ?_, by omega⟩
              with_reducible rfl
      · rcases hq with ⟨c2, j, ⟨x1, x2⟩, ha, hh, hn⟩
        · subst ha; subst hh; subst hn
          refine Or.inl ⟨ch_new (by decide) rfl, ?_⟩
          have := rTab_j x1
          refine ⟨c2, j, _, t2, sl2 + 0, ⟨er1.trans (pb_l x1), flt_rf.1, STB_t (STB_48 hsn (frF_N F4) q2 A.1) STB_rf, by omega, by omega, by omega⟩, rfl, ?_, by omega⟩
          with_reducible rfl
    · have x1 : xpP (tkP B n) 38 (i2 + 1) = .inl (2, i2 + 1) := if_neg h38
      refine w_p (pc1 := 33) rfl rfl ?_
      refine w_m0 (pc1 := 36) rfl rfl (h_gC rfl rfl rfl rfl) rfl ?_
      refine w_m0 (pc1 := 39) (st1 := .ref 45 :: _) rfl rfl rfl rfl ?_
      refine w_je (pc1 := 42) (vs := [.ref 101, .ref 45]) (rest := []) (st1 := []) (m_38y (d := d + 7) (sl := 0) S (by decide) h45 (by decide) (by decide)) rfl rfl rfl (fun _ _ => rfl) rfl (by exact cl_v my_38 rfl rfl rfl (Nat.le_of_ble_eq_true rfl) rfl (MH_obj rfl rfl) rfl (by decide) rfl rfl) (by rfl) (Nat.le_of_ble_eq_true rfl) (Nat.le_of_ble_eq_true rfl) rfl (by rfl) ?_
      refine w_p (pc1 := 43) rfl rfl ?_
      refine w_m0 (pc1 := 46) rfl rfl (h_gC rfl rfl rfl rfl) rfl ?_
      refine w_m0 (pc1 := 49) (st1 := .ref 38 :: _) rfl rfl rfl rfl ?_
      refine w_ji (pc1 := 52) (vs := [.ref 101, .ref 38]) (rest := []) (m_38n (d := d + 1) (sl := 0) S3 (by decide) h38) rfl rfl rfl (fun _ _ => rfl) rfl (by exact cl_v my_38 rfl rfl rfl (Nat.le_of_ble_eq_true rfl) rfl (MH_obj rfl rfl) rfl (by decide) rfl rfl) (by rfl) (Nat.le_of_ble_eq_true rfl) (Nat.le_of_ble_eq_true rfl) rfl (fun v h1 d1 hq => ?_) (fun a h1 d1 hq => ?_)
      · exact hq.elim
      · rcases hq with ⟨ha, hh, hn⟩
        · subst ha; subst hh; subst hn
          refine Or.inl ⟨ch_new (by decide) rfl, ?_⟩
          refine ⟨2, i2 + 1, _, t2, sl2 + 0, ⟨(pb_r x0).trans (pb_l x1), flt_rf.1, STB_t (STB_48 hsn (frF_N F3) q2 A.1) STB_rf, by omega, by omega, by omega⟩, rfl, ?_, by omega⟩
          with_reducible rfl
  · have x0 : xpP (tkP B n) 45 i2 = .inl (2, i2) := if_neg h45
    refine w_p (pc1 := 33) rfl rfl ?_
    refine w_m0 (pc1 := 36) rfl rfl (h_gC rfl rfl rfl rfl) rfl ?_
    refine w_m0 (pc1 := 39) (st1 := .ref 45 :: _) rfl rfl rfl rfl ?_
    refine w_ji (pc1 := 42) (vs := [.ref 101, .ref 45]) (rest := []) (m_38n (d := d + 1) (sl := 0) S (by decide) h45) rfl rfl rfl (fun _ _ => rfl) rfl (by exact cl_v my_38 rfl rfl rfl (Nat.le_of_ble_eq_true rfl) rfl (MH_obj rfl rfl) rfl (by decide) rfl rfl) (by rfl) (Nat.le_of_ble_eq_true rfl) (Nat.le_of_ble_eq_true rfl) rfl (fun v h1 d1 hq => ?_) (fun a h1 d1 hq => ?_)
    · exact hq.elim
    · rcases hq with ⟨ha, hh, hn⟩
      · subst ha; subst hh; subst hn
        refine Or.inl ⟨ch_new (by decide) rfl, ?_⟩
        refine ⟨2, i2, _, t2, sl2 + 0, ⟨pb_l x0, flt_rf.1, STB_t (STB_48 hsn (frF_N F) q2 A.1) STB_rf, by omega, by omega, by omega⟩, rfl, ?_, by omega⟩
        with_reducible rfl
end TRG
