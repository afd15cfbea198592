
/-! ONE SIDE: a table is read, 11: references, checks -/
def rChk (K : tv2) (T : tb_S) (b i : Nat) (nl : Option Nat) : pz_T (tb_S × Nat × Option Nat) := if ruN T.2.2 = -1 then .inl (6, i) else pb (rFm (fE K T.1 (some b) none) 8 (i + 1) nl) (fun x => .inr (addR T (3, b, [], none, [], (rDef K x.2.1).1, 0, 0, some x.1), (rDef K x.2.1).2, x.2.2))
section TCK
variable {L : Nat} {xs : Nat → Int32} {B : Nat → Nat} {n m : Nat} {C C' C0 C1 : co_T} {t t0 t1 : ab_H} {d sl sl0 sl1 i i0 i1 j b e ti k k0 kc ks w c : Nat} {sc : sc_T} {row : Option Nat} {tg : Option (Nat × Nat)} {nl : Option Nat} {kd0 tb0 : Int32} {P : Option Value → ab_H → Nat → Prop} {X : Nat → ab_H → Nat → Prop} {cs : List Nat} {ss : List (Option (List op_T))} {E : fe_T} {tr : Nat → Option tr_T} {ru : Nat → Option ru_T} {T : tb_S} {s : Nat}
set_option maxRecDepth 100000 in
theorem m_73 (S : tkS B n m C i) (h1 : kd B n i ≠ 1) (h2 : kd B n i ≠ 2) (hl : lfK (C.1 21 6) nl) (K : BK C t T) (hb : C.1 20 10 = nI b) (hb6 : b < 6) (ok : ∀ i u, T.2.2 i = some u → okRu u) : Wd L xs (d + 9) y_73 (0, [(0, .ref 120)], [], MH C t, sl) (PIt B n m C t i sl b (rRef (tkP B n) T b i nl)) (XIt B n C t i sl b (rRef (tkP B n) T b i nl)) := by
  refine w_p (pc1 := 1) rfl rfl ?_
  refine w_p (pc1 := 2) (st1 := .int 4 :: _) rfl rfl ?_
  refine w_ji (pc1 := 5) (vs := [.ref 120, .int 4]) (rest := []) (m_48 (d := d + 1) (sl := 0) S h1 h2 hb K.2.2) rfl rfl rfl (fun _ _ => rfl) rfl (by exact cl_v my_48 rfl rfl rfl (Nat.le_of_ble_eq_true rfl) rfl (MH_obj rfl rfl) rfl (by decide) rfl rfl) (by rfl) (Nat.le_of_ble_eq_true rfl) (Nat.le_of_ble_eq_true rfl) rfl (fun v h1 d1 hq => ?_) (fun a h1 d1 hq => ?_)
  · obtain ⟨s, ⟨hN, hs, hn⟩, hv, ⟨t1, ⟨A, l1, q1⟩, hh⟩, hd⟩ := hq
    subst hv; subst hh; subst hd
    refine w_p (pc1 := 6) (al1 := [(1, .ref (241 + t.length)), (0, .ref 120)]) rfl rfl ?_
    have hsn := RLK_n K.2.2 hs hn
    have S1 : tkS B n m (nrC B n C i s t) (i + 1) := nr_S S h1 h2
    have er0 : rRef (tkP B n) T b i nl = pb (xpP (tkP B n) 44 (i + 1)) (fun j1 => pb (rNam (tkP B n) T.1 b 7 [] j1) (fun cs => rRf1 (tkP B n) T b cs.1 cs.2 nl)) := if_neg (by rw [hN]; exact nK_m1 (by omega))
    have him := S1.2.2.2.1
    by_cases h44 : kd B n (i + 1) = 44
    · have x0 : xpP (tkP B n) 44 (i + 1) = .inr (i + 1 + 1) := if_pos h44
      have S2 := nxT_S S1 (by rw [h44]; decide) (by rw [h44]; decide)
      have f2 := nxT_fr (B := B) (n := n) (C := nrC B n C i s t) (i := i + 1)
      have hb2 : (nxT B n (nrC B n C i s t) (i + 1)).1 20 10 = nI b := by rw [f2.1 20 10 (by omega), sQ_1, nxT_fr.1 20 10 (by omega)]; exact hb
      refine w_p (pc1 := 7) rfl rfl ?_
      refine w_m0 (pc1 := 10) rfl rfl (h_gC rfl rfl rfl rfl) rfl ?_
      refine w_m0 (pc1 := 13) (st1 := .ref 44 :: _) rfl rfl rfl rfl ?_
      refine w_je (pc1 := 16) (vs := [.ref 101, .ref 44]) (rest := []) (st1 := []) (m_38y (d := d + 7) (sl := 0) S1 (by decide) h44 (by decide) (by decide)) rfl rfl rfl (fun _ _ => rfl) rfl (by exact cl_v my_38 rfl rfl rfl (Nat.le_of_ble_eq_true rfl) rfl (MH_obj rfl rfl) rfl (by decide) rfl rfl) (by rfl) (Nat.le_of_ble_eq_true rfl) (Nat.le_of_ble_eq_true rfl) rfl (by rfl) ?_
      refine w_p (pc1 := 17) rfl rfl ?_
      refine w_p (pc1 := 18) rfl rfl ?_
      refine w_p (pc1 := 19) rfl rfl ?_
      refine w_m0 (pc1 := 22) (st1 := .int (nI (b)) :: _) rfl rfl (h_gIe (j := 10) rfl rfl rfl rfl rfl (hb2)) rfl ?_
      refine w_p (pc1 := 23) rfl rfl ?_
      refine w_m0 (pc1 := 26) (st1 := .ref (241 + (t.length + 1)) :: _) rfl rfl (x_gf (k := t.length) rfl A.1 rfl) rfl ?_
      refine w_ji (pc1 := 29) (vs := [.ref 120, .int (nI (b)), .ref (241 + (t.length + 1))]) (rest := [.ref (241 + t.length)]) (m_53 (d := d) (sl := 0) S2 (nr_SC K f2) hb6 A.2.1) rfl rfl rfl (fun _ _ => rfl) rfl (by exact cl_v my_53 rfl rfl rfl (Nat.le_of_ble_eq_true rfl) rfl (MH_obj rfl rfl) rfl (by decide) rfl rfl) (by rfl) (Nat.le_of_ble_eq_true rfl) (Nat.le_of_ble_eq_true rfl) rfl (fun v h1 d1 hq => ?_) (fun a h1 d1 hq => ?_)
      · obtain ⟨cs, i2, C3, t2, ⟨r1, hv, N⟩, hh⟩ := hq
        subst hv; subst hh
        obtain ⟨⟨N1, N2⟩, ⟨fc', N3, N4⟩, ⟨N5, N6, N7⟩, ⟨N8, N9⟩, N10, N11⟩ := N
        subst N10
        have er1 : rRef (tkP B n) T b i nl = rRf1 (tkP B n) T b cs i2 nl := er0.trans ((pb_r x0).trans (pb_r r1))
        have A2 : RP t2 t.length (t.length + 1) (t.length + 1 + 1) 4 (nI b) fc' (fun _ => 0) 0 (-1) 0 0 0 .null := ⟨N8 _ _ (by omega) A.1, N3, N8 _ _ (by omega) A.2.2⟩
        have q2 : tlE t t2 := fun j x h => N8 j x (by have := get_lt h; omega) (q1 j x h)
        have hw6 := (K.1.2 b hb6).2.1
        obtain ⟨t3, e3, g3, p3, l3⟩ := tl_st A2.1 (.inr (7, [.int 4, .int (nI b), .ref (241 + (t.length + 1)), .ref (241 + (t.length + 1 + 1)), .int (nI cs.length), .int (-1), .int 0, .int 0, .int 0, .null]))
        have A3 : RP t3 t.length (t.length + 1) (t.length + 1 + 1) 4 (nI b) fc' (fun _ => 0) (nI cs.length) (-1) 0 0 0 .null := ⟨g3, p3 _ _ (by omega) A2.2.1, p3 _ _ (by omega) A2.2.2⟩
        have q3 : tlE t t3 := fun j x h => p3 j x (by have := get_lt h; omega) (q2 j x h)
        refine w_m0 (pc1 := 32) rfl rfl (x_pf (k := t.length) (fs' := [.int 4, .int (nI (b)), .ref (241 + (t.length + 1)), .ref (241 + (t.length + 1 + 1)), .int (nI (cs.length)), .int (-1), .int 0, .int 0, .int 0, .null]) rfl A2.1 rfl rfl ⟨rfl, rfl⟩ (Or.inl rfl) (Nat.le_of_ble_eq_true rfl) rfl) rfl ?_
        rw [e3]
        rw [er1]
        exact d73_1 K hl hN hs hsn hn ok hb6 ⟨⟨frN_t' f2 N2, N1⟩, ⟨fc', A3, N4⟩, ⟨N5, fun x hx => by have := N6 x hx; omega⟩, q3, by omega, by omega, by omega⟩
      · rcases hq with ⟨c, j, C', t', ⟨x1, x2, ⟨x3, x4⟩, x5⟩, ha, hh, hn⟩
        · subst ha; subst hh; subst hn
          refine Or.inl ⟨ch_new (by decide) rfl, ?_⟩
          refine ⟨c, j, _, t', sl + 22, ⟨er0.trans ((pb_r x0).trans (pb_l x1)), flt_rf.1, STB_t (STB_48 hsn (frF_N (frN_t' f2 x2)) (fun j x h => x3 j x (by have := get_lt h; omega) (q1 j x h)) (x3 _ _ (by omega) A.1)) STB_rf, by omega, by omega, by omega⟩, rfl, ?_, by omega⟩
          with_reducible rfl
    · have x0 : xpP (tkP B n) 44 (i + 1) = .inl (2, i + 1) := if_neg h44
      refine w_p (pc1 := 7) rfl rfl ?_
      refine w_m0 (pc1 := 10) rfl rfl (h_gC rfl rfl rfl rfl) rfl ?_
      refine w_m0 (pc1 := 13) (st1 := .ref 44 :: _) rfl rfl rfl rfl ?_
      refine w_ji (pc1 := 16) (vs := [.ref 101, .ref 44]) (rest := []) (m_38n (d := d + 1) (sl := 0) S1 (by decide) h44) rfl rfl rfl (fun _ _ => rfl) rfl (by exact cl_v my_38 rfl rfl rfl (Nat.le_of_ble_eq_true rfl) rfl (MH_obj rfl rfl) rfl (by decide) rfl rfl) (by rfl) (Nat.le_of_ble_eq_true rfl) (Nat.le_of_ble_eq_true rfl) rfl (fun v h1 d1 hq => ?_) (fun a h1 d1 hq => ?_)
      · exact hq.elim
      · rcases hq with ⟨ha, hh, hn⟩
        · subst ha; subst hh; subst hn
          refine Or.inl ⟨ch_new (by decide) rfl, ?_⟩
          refine ⟨2, i + 1, _, t1, sl + 22, ⟨er0.trans (pb_l x0), flt_rf.1, STB_t (STB_48 hsn (frF_r (C := nrC B n C i s t)) q1 A.1) STB_rf, by omega, by omega, by omega⟩, rfl, ?_, by omega⟩
          with_reducible rfl
  · rcases hq with ⟨hf, ha, hh, hn⟩
    · subst ha; subst hh; subst hn
      refine Or.inl ⟨ch_new (by decide) rfl, ?_⟩
      refine ⟨6, i, _, t, sl + 0, ⟨if_pos hf, flt_rf.1, STB_rf, by omega, by omega, by omega⟩, rfl, ?_, by omega⟩
      with_reducible rfl
set_option maxRecDepth 100000 in
theorem nr_RX {g : Bool} (R : RX C sc (some b) none g) (hS : SCK (nrC B n C i s t) sc) : RX (nrC B n C i s t) sc (some b) none g := by
  have e : ∀ j, 7 ≤ j → (nrC B n C i s t).1 21 j = C.1 21 j := fun j hj => (nxT_fr (B := B) (n := n) (C := C) (i := i)).1 21 j (by omega)
  exact ⟨hS, ⟨(e 7 (by omega)).trans R.2.1.1, R.2.1.2⟩, ⟨(e 8 (by omega)).trans R.2.2.1.1, fun p hp => by cases hp⟩, (e 10 (by omega)).trans R.2.2.2⟩
set_option maxRecDepth 100000 in
theorem d39c (S : tkS B n m C i) (h1 : kd B n i ≠ 1) (h2 : kd B n i ≠ 2) (hl : lfK (C.1 21 6) nl) (K : BK C t T) (hb : C.1 20 10 = nI b) (hb6 : b < 6) (R : RX C T.1 (some b) none true) (hz : nzp (rChk (tkP B n) T b i nl)) : Wd L xs (d + 60) y_39 (79, [(0, .ref 120)], [], MH C t, sl) (PIt B n m C t i sl b (rChk (tkP B n) T b i nl)) (XIt B n C t i sl b (rChk (tkP B n) T b i nl)) := by
  refine w_p (pc1 := 80) rfl rfl ?_
  refine w_p (pc1 := 81) (st1 := .int 3 :: _) rfl rfl ?_
  refine w_ji (pc1 := 84) (vs := [.ref 120, .int 3]) (rest := []) (m_48 (d := d + 52) (sl := 0) S h1 h2 hb K.2.2) rfl rfl rfl (fun _ _ => rfl) rfl (by exact cl_v my_48 rfl rfl rfl (Nat.le_of_ble_eq_true rfl) rfl (MH_obj rfl rfl) rfl (by decide) rfl rfl) (by rfl) (Nat.le_of_ble_eq_true rfl) (Nat.le_of_ble_eq_true rfl) rfl (fun v h1 d1 hq => ?_) (fun a h1 d1 hq => ?_)
  · obtain ⟨s, ⟨hN, hs, hn⟩, hv, ⟨t1, ⟨A, l1, q1⟩, hh⟩, hd⟩ := hq
    subst hv; subst hh; subst hd
    refine w_p (pc1 := 85) (al1 := [(1, .ref (241 + t.length)), (0, .ref 120)]) rfl rfl ?_
    have hsn := RLK_n K.2.2 hs hn
    have S1 : tkS B n m (nrC B n C i s t) (i + 1) := nr_S S h1 h2
    have er0 : rChk (tkP B n) T b i nl = pb (rFm (fE (tkP B n) T.1 (some b) none) 8 (i + 1) nl) (fun x => .inr (addR T (3, b, [], none, [], (rDef (tkP B n) x.2.1).1, 0, 0, some x.1), (rDef (tkP B n) x.2.1).2, x.2.2)) := if_neg (by rw [hN]; exact nK_m1 (by omega))
    rw [er0] at hz
    have R1 := nr_RX R (nr_SC K (frN_r (C := nrC B n C i s t)))
    have hl1 : lfK ((nrC B n C i s t).1 21 6) nl := by rw [sQ_1, nxT_fr.1 21 6 (by omega)]; exact hl
    have hEk : eK B n (nrC B n C i s t) (fE (tkP B n) T.1 (some b) none) := RX_e R1
    have hg : (nrC B n C i s t).1 21 10 = ck true := R1.2.2.2
    cases hr : rd (fE (tkP B n) T.1 (some b) none) 6000 8 (i + 1, [], 0, nl) with
    | inl ce =>
      obtain ⟨c2, j⟩ := ce
      have f1 : rFm (fE (tkP B n) T.1 (some b) none) 8 (i + 1) nl = .inl (c2, j) := by
        unfold rFm
        rw [hr]
      have hc : c2 ≠ 0 := fun e => hz j (by rw [pb_l f1, e])
      have hcl := m_55e (L := L) (xs := xs) (t := t1) (d := d) (sl := 0) S1 hEk hl1 hc hr
      have hij : i + 1 ≤ j := rd_ij hr hc
      refine w_p (pc1 := 86) rfl rfl ?_
      refine w_p (pc1 := 87) rfl rfl ?_
      refine w_m0 (pc1 := 90) rfl rfl (h_gC rfl rfl rfl rfl) rfl ?_
      refine w_ji (pc1 := 93) (vs := [.ref 121]) (rest := [.ref (241 + t.length)]) (hcl) rfl rfl rfl (fun _ _ => rfl) rfl (by exact cl_v my_55 rfl rfl rfl (Nat.le_of_ble_eq_true rfl) rfl (MH_obj rfl rfl) rfl (by decide) rfl rfl) (by rfl) (Nat.le_of_ble_eq_true rfl) (Nat.le_of_ble_eq_true rfl) rfl (fun v h1 d1 hq => ?_) (fun a h1 d1 hq => ?_)
      · exact hq.elim
      · rcases hq with ⟨C2, f2, s2, ha, hh, hn⟩
        · subst ha; subst hh; subst hn
          refine Or.inl ⟨ch_new (by decide) rfl, ?_⟩
          refine ⟨c2, j, _, t1, sl + 22, ⟨er0.trans (pb_l f1), flt_rf.1, STB_t (STB_48 hsn f2 q1 A.1) STB_rf, by omega, by omega, by omega⟩, rfl, ?_, by omega⟩
          with_reducible rfl
    | inr z =>
      have f1 : rFm (fE (tkP B n) T.1 (some b) none) 8 (i + 1) nl = .inr (z.2.1, z.1, z.2.2.2) := by
        unfold rFm
        rw [hr]
      have er1 := er0.trans (pb_r f1)
      have hcl := m_55 (L := L) (xs := xs) (t := t1) (d := d) (sl := 0) S1 hEk hl1 hg (by omega) hr
      have hfl := rd_fle _ _ _ _ hr
      have hf1 : z.2.1.length + (i + 1) ≤ 0 + z.1 := hfl.2.1
      have hpr := rd_p1 rfl S1 (Or.inr rfl) hr
      have hm6 := tkS_600 S
      refine w_p (pc1 := 86) rfl rfl ?_
      refine w_p (pc1 := 87) rfl rfl ?_
      refine w_m0 (pc1 := 90) rfl rfl (h_gC rfl rfl rfl rfl) rfl ?_
      refine w_ji (pc1 := 93) (vs := [.ref 121]) (rest := [.ref (241 + t.length)]) (hcl) rfl rfl rfl (fun _ _ => rfl) rfl (by exact cl_v my_55 rfl rfl rfl (Nat.le_of_ble_eq_true rfl) rfl (MH_obj rfl rfl) rfl (by decide) rfl rfl) (by rfl) (Nat.le_of_ble_eq_true rfl) (Nat.le_of_ble_eq_true rfl) rfl (fun v h q hq => ?_) (fun _ _ _ e => e.elim)
      obtain ⟨rfl, ⟨C2, t2, ⟨y1, y2, y3, ⟨s0, y4⟩, y5, y6⟩, rfl⟩, rfl⟩ := hq
      have A2 : RP t2 t.length (t.length + 1) (t.length + 1 + 1) 3 (nI b) (fun _ => 0) (fun _ => 0) 0 (-1) 0 0 0 .null := ⟨y5 _ _ A.1, y5 _ _ A.2.1, y5 _ _ A.2.2⟩
      obtain ⟨t3, e3, g3, p3, l3⟩ := tl_st A2.1 (.inr (7, [.int 3, .int (nI b), .ref (241 + (t.length + 1)), .ref (241 + (t.length + 1 + 1)), .int 0, .int (-1), .int 0, .int 0, .int 0, .ref (241 + t1.length)]))
      have A3 : RP t3 t.length (t.length + 1) (t.length + 1 + 1) 3 (nI b) (fun _ => 0) (fun _ => 0) 0 (-1) 0 0 0 (.ref (241 + t1.length)) := ⟨g3, p3 _ _ (by omega) A2.2.1, p3 _ _ (by omega) A2.2.2⟩
      by_cases h20 : kd B n z.1 = 20
      · have ed : rDef (tkP B n) z.1 = (true, z.1 + 1) := if_pos h20
        have er2 : rChk (tkP B n) T b i nl = .inr (addR T (3, b, [], none, [], (rDef (tkP B n) z.1).1, 0, 0, some z.2.1), (rDef (tkP B n) z.1).2, z.2.2.2) := er1
        rw [ed] at er2
        obtain ⟨t4, e4, g4, p4, l4⟩ := tl_st A3.1 (.inr (7, [.int 3, .int (nI b), .ref (241 + (t.length + 1)), .ref (241 + (t.length + 1 + 1)), .int 0, .int (-1), .int 1, .int 0, .int 0, .ref (241 + t1.length)]))
        have q4 : tlE t t4 := fun j x h => p4 j x (by have := get_lt h; omega) (p3 j x (by have := get_lt h; omega) (y5 j x (q1 j x h)))
        have hF : FO t4 t1.length (t1.length + 1) (t1.length + 2) (t1.length + 3) z.2.1 1 s0 := by
          rw [← e4, ← e3]
          exact FO_j (FO_j y4 (by omega)) (by omega)
        have hU : RUK t4 t.length (3, b, [], none, [], true, 0, 0, some z.2.1) := ⟨t.length + 1, t.length + 1 + 1, fun _ => 0, fun _ => 0, .ref (241 + t1.length), ⟨g4, p4 _ _ (by omega) A3.2.1, p4 _ _ (by omega) A3.2.2, (fun j x hj => by cases hj), fun j x hj => (by cases hj)⟩, ⟨t1.length, t1.length + 1, t1.length + 2, t1.length + 3, s0, rfl, hF, by omega⟩⟩
        have S5 := nxT_S y1 (by rw [h20]; decide) (by rw [h20]; decide)
        have F5 := frF_t y3 (frF_N (nxT_fr (B := B) (n := n) (C := C2) (i := z.1)))
        refine w_m0 (pc1 := 96) rfl rfl (x_pf (k := t.length) (fs' := [.int 3, .int (nI (b)), .ref (241 + (t.length + 1)), .ref (241 + (t.length + 1 + 1)), .int 0, .int (-1), .int 0, .int 0, .int 0, .ref (241 + t1.length)]) rfl A2.1 rfl rfl ⟨rfl, rfl⟩ (Or.inl rfl) (Nat.le_of_ble_eq_true rfl) rfl) rfl ?_
        rw [e3]
        refine w_p (pc1 := 97) rfl rfl ?_
        refine w_p (pc1 := 98) rfl rfl ?_
        refine w_m0 (pc1 := 101) rfl rfl (h_gC rfl rfl rfl rfl) rfl ?_
        refine w_m0 (pc1 := 104) (st1 := .ref 20 :: _) rfl rfl rfl rfl ?_
        refine w_je (pc1 := 107) (vs := [.ref 101, .ref 20]) (rest := [.ref (241 + t.length)]) (st1 := [.int 1, .ref (241 + t.length)]) (m_44y (d := d + 58) (sl := 0) y1 (by decide) h20 (by decide) (by decide)) rfl rfl rfl (fun _ _ => rfl) rfl (by exact cl_v my_44 rfl rfl rfl (Nat.le_of_ble_eq_true rfl) rfl (MH_obj rfl rfl) rfl (by decide) rfl rfl) (by rfl) (Nat.le_of_ble_eq_true rfl) (Nat.le_of_ble_eq_true rfl) rfl (by rfl) ?_
        refine w_m0 (pc1 := 110) rfl rfl (x_pf (k := t.length) (fs' := [.int 3, .int (nI (b)), .ref (241 + (t.length + 1)), .ref (241 + (t.length + 1 + 1)), .int 0, .int (-1), .int 1, .int 0, .int 0, .ref (241 + t1.length)]) rfl A3.1 rfl rfl ⟨rfl, rfl⟩ (Or.inl rfl) (Nat.le_of_ble_eq_true rfl) rfl) rfl ?_
        rw [e4]
        refine w_p (pc1 := 128) rfl rfl ?_
        refine w_r rfl rfl rfl (fun _ _ => rfl) rfl ?_
        refine ⟨addR T (3, b, [], none, [], true, 0, 0, some z.2.1), z.1 + 1, z.2.2.2, _, t4, ⟨er2, rfl, ⟨S5, ?_⟩, BK_48 K hN hs F5 q4 hU, STB_48 hsn F5 q4 g4, by omega, by omega⟩, ?_, by omega⟩
        · rw [nxT_fr.1 21 6 (by omega)]; exact y2
        · with_reducible rfl
      · have ed : rDef (tkP B n) z.1 = (false, z.1) := if_neg h20
        have er2 : rChk (tkP B n) T b i nl = .inr (addR T (3, b, [], none, [], (rDef (tkP B n) z.1).1, 0, 0, some z.2.1), (rDef (tkP B n) z.1).2, z.2.2.2) := er1
        rw [ed] at er2
        obtain ⟨t4, e4, g4, p4, l4⟩ := tl_st A3.1 (.inr (7, [.int 3, .int (nI b), .ref (241 + (t.length + 1)), .ref (241 + (t.length + 1 + 1)), .int 0, .int (-1), .int 0, .int 0, .int 0, .ref (241 + t1.length)]))
        have q4 : tlE t t4 := fun j x h => p4 j x (by have := get_lt h; omega) (p3 j x (by have := get_lt h; omega) (y5 j x (q1 j x h)))
        have hF : FO t4 t1.length (t1.length + 1) (t1.length + 2) (t1.length + 3) z.2.1 1 s0 := by
          rw [← e4, ← e3]
          exact FO_j (FO_j y4 (by omega)) (by omega)
        have hU : RUK t4 t.length (3, b, [], none, [], false, 0, 0, some z.2.1) := ⟨t.length + 1, t.length + 1 + 1, fun _ => 0, fun _ => 0, .ref (241 + t1.length), ⟨g4, p4 _ _ (by omega) A3.2.1, p4 _ _ (by omega) A3.2.2, (fun j x hj => by cases hj), fun j x hj => (by cases hj)⟩, ⟨t1.length, t1.length + 1, t1.length + 2, t1.length + 3, s0, rfl, hF, by omega⟩⟩
        refine w_m0 (pc1 := 96) rfl rfl (x_pf (k := t.length) (fs' := [.int 3, .int (nI (b)), .ref (241 + (t.length + 1)), .ref (241 + (t.length + 1 + 1)), .int 0, .int (-1), .int 0, .int 0, .int 0, .ref (241 + t1.length)]) rfl A2.1 rfl rfl ⟨rfl, rfl⟩ (Or.inl rfl) (Nat.le_of_ble_eq_true rfl) rfl) rfl ?_
        rw [e3]
        refine w_p (pc1 := 97) rfl rfl ?_
        refine w_p (pc1 := 98) rfl rfl ?_
        refine w_m0 (pc1 := 101) rfl rfl (h_gC rfl rfl rfl rfl) rfl ?_
        refine w_m0 (pc1 := 104) (st1 := .ref 20 :: _) rfl rfl rfl rfl ?_
        refine w_je (pc1 := 107) (vs := [.ref 101, .ref 20]) (rest := [.ref (241 + t.length)]) (st1 := [.int 0, .ref (241 + t.length)]) (m_44n (d := d + 59) (sl := 0) y1 (by decide) h20) rfl rfl rfl (fun _ _ => rfl) rfl (by exact cl_v my_44 rfl rfl rfl (Nat.le_of_ble_eq_true rfl) rfl (MH_obj rfl rfl) rfl (by decide) rfl rfl) (by rfl) (Nat.le_of_ble_eq_true rfl) (Nat.le_of_ble_eq_true rfl) rfl (by rfl) ?_
        refine w_m0 (pc1 := 110) rfl rfl (x_pf (k := t.length) (fs' := [.int 3, .int (nI (b)), .ref (241 + (t.length + 1)), .ref (241 + (t.length + 1 + 1)), .int 0, .int (-1), .int 0, .int 0, .int 0, .ref (241 + t1.length)]) rfl A3.1 rfl rfl ⟨rfl, rfl⟩ (Or.inl rfl) (Nat.le_of_ble_eq_true rfl) rfl) rfl ?_
        rw [e4]
        refine w_p (pc1 := 128) rfl rfl ?_
        refine w_r rfl rfl rfl (fun _ _ => rfl) rfl ?_
        refine ⟨addR T (3, b, [], none, [], false, 0, 0, some z.2.1), z.1, z.2.2.2, _, t4, ⟨er2, rfl, ⟨y1, ?_⟩, BK_48 K hN hs y3 q4 hU, STB_48 hsn y3 q4 g4, by omega, by omega⟩, ?_, by omega⟩
        · exact y2
        · with_reducible rfl
  · rcases hq with ⟨hf, ha, hh, hn⟩
    · subst ha; subst hh; subst hn
      refine Or.inl ⟨ch_new (by decide) rfl, ?_⟩
      refine ⟨6, i, _, t, sl + 0, ⟨if_pos hf, flt_rf.1, STB_rf, by omega, by omega, by omega⟩, rfl, ?_, by omega⟩
      with_reducible rfl
end TCK
