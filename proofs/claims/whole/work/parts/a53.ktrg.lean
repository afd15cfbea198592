
/-! ONE SIDE: a trigger is read, 4: the whole of it -/
section TRM
variable {L : Nat} {xs : Nat → Int32} {B : Nat → Nat} {n m : Nat} {C C' C0 C1 : co_T} {t t0 t1 : ab_H} {d sl sl0 sl1 i i0 i1 j b e ti k k0 kc ks w c : Nat} {sc : sc_T} {row : Option Nat} {tg : Option (Nat × Nat)} {nl : Option Nat} {kd0 tb0 : Int32} {P : Option Value → ab_H → Nat → Prop} {X : Nat → ab_H → Nat → Prop} {cs : List Nat} {ss : List (Option (List op_T))} {E : fe_T} {tr : Nat → Option tr_T}
set_option maxRecDepth 100000 in
theorem PV_m {α : Type} {r r' : pz_T (α × Nat × Option Nat)} {Q Q' : α → co_T → ab_H → Prop} {v : Option Value} {h : ab_H} {q : Nat} (p : PV B n m C1 t1 i1 sl1 r Q v h q) (er : r' = r) (hQ : ∀ a C' t', Q a C' t' → Q' a C' t') (f1 : frD C C1) (f2 : C1.2.2 20 3 = C.2.2 20 3) (h1 : tlE t t1) (h2 : t1.length ≤ t.length + 4 * (i1 - i)) (h3 : i ≤ i1) (h4 : sl1 ≤ sl + 25 * (i1 - i)) : PV B n m C t i sl r' Q' v h q := by
  obtain ⟨a, i', nl', C', t', ⟨p1, p2, p3, p4, ⟨p5, p6⟩, p7, p8, p9⟩, p10, p11⟩ := p
  exact ⟨a, i', nl', C', t', ⟨er.trans p1, p2, hQ _ _ _ p3, p4, ⟨frD_t f1 p5, p6.trans f2⟩, tlE_t h1 p7, by omega, by omega⟩, p10, by omega⟩
set_option maxRecDepth 100000 in
theorem XD_m {α β : Type} {r : pz_T α} {r' : pz_T β} {a : Nat} {h : ab_H} {q : Nat} (p : XD B n C1 t1 i1 sl1 r a h q) (er : ∀ e, r = .inl e → r' = .inl e) (f1 : frD C C1) (h1 : tlE t t1) (h2 : t1.length ≤ t.length + 4 * (i1 - i)) (h3 : i ≤ i1) (h4 : sl1 ≤ sl + 25 * (i1 - i)) : XD B n C t i sl r' a h q := by
  obtain ⟨c, j, C', t', s, ⟨p1, p2, p3, ⟨p4, p5, p6⟩, p7⟩, p8⟩ := p
  exact ⟨c, j, C', t', s, ⟨er _ p1, p2, frD_t f1 p3, ⟨tlE_t h1 p4, by omega, by omega⟩, by omega⟩, p8⟩
set_option maxRecDepth 100000 in
theorem d78_3n {nm : Int64} {wh : Option (List op_T)} (hw : foK t 0 (.null) wh) (S : tkS B n m C i) (hi : 1 ≤ i) (hl : lfK (C.1 21 6) nl) (R : RX C sc none (some (b, e)) false) (hb : b < 6) (ht : ti < 2) (he : e < 3) (hz : nzp (rTr3 (tkP B n) sc nm (b, e) ti (wh, i, nl))) : Wd L xs (d + 62) y_78 (134, [(6, .null), (5, .int (nI (b))), (4, .int (nI (e))), (3, .int (nI (ti))), (1, .long (nm)), (0, .ref 120)], [], MH C t, sl) (PV B n m C t i sl (rTr3 (tkP B n) sc nm (b, e) ti (wh, i, nl)) (QTr (C.1 20 5))) (XD B n C t i sl (rTr3 (tkP B n) sc nm (b, e) ti (wh, i, nl))) := by
  by_cases h16 : kd B n i = 16
  · have x0 : xpP (tkP B n) 16 i = .inr (i + 1) := if_pos h16
    have er0 : rTr3 (tkP B n) sc nm (b, e) ti (wh, i, nl) = pb (rAct (tkP B n) sc (b, e) ti (i + 1) nl) (fun a => .inr ((nm, b, ti, e, wh, a.1), a.2)) := pb_r x0
    rw [er0] at hz
    have hz1 := nzp_b hz
    have S1 := nxT_S S (by rw [h16]; decide) (by rw [h16]; decide)
    have R1 := RX_F R (frF_N (nxT_fr (B := B) (n := n) (i := i)))
    have hl1 : lfK ((nxT B n C i).1 21 6) nl := by rw [nxT_fr.1 21 6 (by omega)]; exact hl
    by_cases h21 : kd B n (i + 1) = 21
    · have era : rAct (tkP B n) sc (b, e) ti (i + 1) nl = rLet (tkP B n) sc (some (b, e)) b ti e (i + 1) nl := if_pos h21
      rw [era] at hz1
      refine w_p (pc1 := 135) rfl rfl ?_
      refine w_m0 (pc1 := 138) rfl rfl (h_gC rfl rfl rfl rfl) rfl ?_
      refine w_m0 (pc1 := 141) (st1 := .ref 16 :: _) rfl rfl rfl rfl ?_
      refine w_je (pc1 := 144) (vs := [.ref 101, .ref 16]) (rest := []) (st1 := []) (m_38y (d := d + 60) (sl := 0) S (by decide) h16 (by decide) (by decide)) rfl rfl rfl (fun _ _ => rfl) rfl (by exact cl_v my_38 rfl rfl rfl (Nat.le_of_ble_eq_true rfl) rfl (MH_obj rfl rfl) rfl (by decide) rfl rfl) (by rfl) (Nat.le_of_ble_eq_true rfl) (Nat.le_of_ble_eq_true rfl) rfl (by rfl) ?_
      refine w_p (pc1 := 145) rfl rfl ?_
      refine w_m0 (pc1 := 148) rfl rfl (h_gC rfl rfl rfl rfl) rfl ?_
      refine w_m0 (pc1 := 151) (st1 := .ref (kd B n (i + 1)) :: _) rfl rfl (h_gRs (j := 6) rfl rfl rfl rfl rfl (tkS_tok S1)) rfl ?_
      refine w_m0 (pc1 := 154) (st1 := .ref 21 :: _) rfl rfl rfl rfl ?_
      refine w_an_y (A := 171) (Bn := 157) (ok_kd) (by decide) (h21) rfl rfl rfl ?_
      refine w_p (pc1 := 158) rfl rfl ?_
      refine w_p (pc1 := 160) rfl rfl ?_
      refine w_p (pc1 := 161) rfl rfl ?_
      refine w_p (pc1 := 163) rfl rfl ?_
      refine w_ji (pc1 := 166) (vs := [.ref 120, .int (nI (b)), .int (nI (ti)), .int (nI (e))]) (rest := []) (m_81 (d := d) (sl := 0) S1 h21 (by omega) hl1 R1 hb ht he hz1) rfl rfl rfl (fun _ _ => rfl) rfl (by exact cl_v my_81 rfl rfl rfl (Nat.le_of_ble_eq_true rfl) rfl (MH_obj rfl rfl) rfl (by decide) rfl rfl) (by rfl) (Nat.le_of_ble_eq_true rfl) (Nat.le_of_ble_eq_true rfl) rfl (fun v h1 d1 hq => ?_) (fun a h1 d1 hq => ?_)
      · obtain ⟨a, i2, nl2, C2, t2, ⟨r1, ⟨hv, r2⟩, ⟨r3, r4⟩, r5, r6, r7, r8⟩, hh, r9⟩ := hq
        subst hv; subst hh
        refine w_p (pc1 := 168) (al1 := [(7, .ref (241 + t.length)), (6, .null), (5, .int (nI (b))), (4, .int (nI (e))), (3, .int (nI (ti))), (1, .long (nm)), (0, .ref 120)]) rfl rfl ?_
        refine w_p (pc1 := 199) rfl rfl ?_
        refine d78_4n (foK_e r6 hw) r2 (fun t3 g1 g2 g3 => ?_)
        refine ⟨(nm, b, ti, e, wh, a), i2, nl2, sQ C2 20 9 (some (241 + t2.length)), t3, ⟨er0.trans (pb_r (era.trans r1)), rfl, ⟨⟨t2.length, by rw [sQ_3, if_pos ⟨rfl, rfl⟩], g1⟩, (r5.2 5).1.trans (nxT_fr.1 20 5 (by omega))⟩, ⟨tkS_g r3 (fun _ _ _ => rfl) (fun _ _ _ => rfl) (fun k j h => by rw [sQ_3, if_neg (by omega)]), r4⟩, ⟨frD_t (frD_N nxT_fr) (frD_t r5.1 frD_Q), ?_⟩, tlE_t r6 g2, by omega, by omega⟩, ?_, by omega⟩
        · rw [sQ_3, if_neg (by omega)]
          exact (r5.2 3).2.2.trans (nxT_fr.2.2 20 3 (by omega))
        · with_reducible rfl
      · rcases hq with ⟨c, j, C', t', s, ⟨x1, x2, x3, ⟨x4, x5, x6⟩, x7⟩, ha, hh, hn⟩
        · subst ha; subst hh; subst hn
          refine Or.inl ⟨ch_new (by decide) rfl, ?_⟩
          refine ⟨c, j, C', t', sl + s, ⟨er0.trans (pb_l (era.trans x1)), x2, frD_t (frD_N nxT_fr) x3, ⟨x4, by omega, by omega⟩, by omega⟩, rfl, ?_, by omega⟩
          with_reducible rfl
    · by_cases h32 : kd B n (i + 1) = 32
      · have era : rAct (tkP B n) sc (b, e) ti (i + 1) nl = rRai (tkP B n) (i + 1) nl := (if_neg h21).trans (if_pos h32)
        refine w_p (pc1 := 135) rfl rfl ?_
        refine w_m0 (pc1 := 138) rfl rfl (h_gC rfl rfl rfl rfl) rfl ?_
        refine w_m0 (pc1 := 141) (st1 := .ref 16 :: _) rfl rfl rfl rfl ?_
        refine w_je (pc1 := 144) (vs := [.ref 101, .ref 16]) (rest := []) (st1 := []) (m_38y (d := d + 60) (sl := 0) S (by decide) h16 (by decide) (by decide)) rfl rfl rfl (fun _ _ => rfl) rfl (by exact cl_v my_38 rfl rfl rfl (Nat.le_of_ble_eq_true rfl) rfl (MH_obj rfl rfl) rfl (by decide) rfl rfl) (by rfl) (Nat.le_of_ble_eq_true rfl) (Nat.le_of_ble_eq_true rfl) rfl (by rfl) ?_
        refine w_p (pc1 := 145) rfl rfl ?_
        refine w_m0 (pc1 := 148) rfl rfl (h_gC rfl rfl rfl rfl) rfl ?_
        refine w_m0 (pc1 := 151) (st1 := .ref (kd B n (i + 1)) :: _) rfl rfl (h_gRs (j := 6) rfl rfl rfl rfl rfl (tkS_tok S1)) rfl ?_
        refine w_m0 (pc1 := 154) (st1 := .ref 21 :: _) rfl rfl rfl rfl ?_
        refine w_an_n (A := 171) (ok_kd) (by decide) (h21) rfl rfl ?_
        refine w_p (pc1 := 172) rfl rfl ?_
        refine w_m0 (pc1 := 175) rfl rfl (h_gC rfl rfl rfl rfl) rfl ?_
        refine w_m0 (pc1 := 178) (st1 := .ref (kd B n (i + 1)) :: _) rfl rfl (h_gRs (j := 6) rfl rfl rfl rfl rfl (tkS_tok S1)) rfl ?_
        refine w_m0 (pc1 := 181) (st1 := .ref 32 :: _) rfl rfl rfl rfl ?_
        refine w_an_y (A := 193) (Bn := 184) (ok_kd) (by decide) (h32) rfl rfl rfl ?_
        refine w_p (pc1 := 185) rfl rfl ?_
        refine w_ji (pc1 := 188) (vs := [.ref 120]) (rest := []) (m_84 (d := d) (sl := 0) S1 h32 hl1) rfl rfl rfl (fun _ _ => rfl) rfl (by exact cl_v my_84 rfl rfl rfl (Nat.le_of_ble_eq_true rfl) rfl (MH_obj rfl rfl) rfl (by decide) rfl rfl) (by rfl) (Nat.le_of_ble_eq_true rfl) (Nat.le_of_ble_eq_true rfl) rfl (fun v h1 d1 hq => ?_) (fun a h1 d1 hq => ?_)
        · obtain ⟨a, i2, nl2, C2, t2, ⟨r1, ⟨hv, r2⟩, ⟨r3, r4⟩, r5, r6, r7, r8⟩, hh, r9⟩ := hq
          subst hv; subst hh
          refine w_p (pc1 := 190) (al1 := [(7, .ref (241 + t.length)), (6, .null), (5, .int (nI (b))), (4, .int (nI (e))), (3, .int (nI (ti))), (1, .long (nm)), (0, .ref 120)]) rfl rfl ?_
          refine w_p (pc1 := 199) rfl rfl ?_
          refine d78_4n (foK_e r6 hw) r2 (fun t3 g1 g2 g3 => ?_)
          refine ⟨(nm, b, ti, e, wh, a), i2, nl2, sQ C2 20 9 (some (241 + t2.length)), t3, ⟨er0.trans (pb_r (era.trans r1)), rfl, ⟨⟨t2.length, by rw [sQ_3, if_pos ⟨rfl, rfl⟩], g1⟩, (r5.2 5).1.trans (nxT_fr.1 20 5 (by omega))⟩, ⟨tkS_g r3 (fun _ _ _ => rfl) (fun _ _ _ => rfl) (fun k j h => by rw [sQ_3, if_neg (by omega)]), r4⟩, ⟨frD_t (frD_N nxT_fr) (frD_t r5.1 frD_Q), ?_⟩, tlE_t r6 g2, by omega, by omega⟩, ?_, by omega⟩
          · rw [sQ_3, if_neg (by omega)]
            exact (r5.2 3).2.2.trans (nxT_fr.2.2 20 3 (by omega))
          · with_reducible rfl
        · rcases hq with ⟨c, j, C', t', s, ⟨x1, x2, x3, ⟨x4, x5, x6⟩, x7⟩, ha, hh, hn⟩
          · subst ha; subst hh; subst hn
            refine Or.inl ⟨ch_new (by decide) rfl, ?_⟩
            refine ⟨c, j, C', t', sl + s, ⟨er0.trans (pb_l (era.trans x1)), x2, frD_t (frD_N nxT_fr) x3, ⟨x4, by omega, by omega⟩, by omega⟩, rfl, ?_, by omega⟩
            with_reducible rfl
      · have era : rAct (tkP B n) sc (b, e) ti (i + 1) nl = rChg (tkP B n) sc (some (b, e)) (i + 1) nl := (if_neg h21).trans (if_neg h32)
        rw [era] at hz1
        refine w_p (pc1 := 135) rfl rfl ?_
        refine w_m0 (pc1 := 138) rfl rfl (h_gC rfl rfl rfl rfl) rfl ?_
        refine w_m0 (pc1 := 141) (st1 := .ref 16 :: _) rfl rfl rfl rfl ?_
        refine w_je (pc1 := 144) (vs := [.ref 101, .ref 16]) (rest := []) (st1 := []) (m_38y (d := d + 60) (sl := 0) S (by decide) h16 (by decide) (by decide)) rfl rfl rfl (fun _ _ => rfl) rfl (by exact cl_v my_38 rfl rfl rfl (Nat.le_of_ble_eq_true rfl) rfl (MH_obj rfl rfl) rfl (by decide) rfl rfl) (by rfl) (Nat.le_of_ble_eq_true rfl) (Nat.le_of_ble_eq_true rfl) rfl (by rfl) ?_
        refine w_p (pc1 := 145) rfl rfl ?_
        refine w_m0 (pc1 := 148) rfl rfl (h_gC rfl rfl rfl rfl) rfl ?_
        refine w_m0 (pc1 := 151) (st1 := .ref (kd B n (i + 1)) :: _) rfl rfl (h_gRs (j := 6) rfl rfl rfl rfl rfl (tkS_tok S1)) rfl ?_
        refine w_m0 (pc1 := 154) (st1 := .ref 21 :: _) rfl rfl rfl rfl ?_
        refine w_an_n (A := 171) (ok_kd) (by decide) (h21) rfl rfl ?_
        refine w_p (pc1 := 172) rfl rfl ?_
        refine w_m0 (pc1 := 175) rfl rfl (h_gC rfl rfl rfl rfl) rfl ?_
        refine w_m0 (pc1 := 178) (st1 := .ref (kd B n (i + 1)) :: _) rfl rfl (h_gRs (j := 6) rfl rfl rfl rfl rfl (tkS_tok S1)) rfl ?_
        refine w_m0 (pc1 := 181) (st1 := .ref 32 :: _) rfl rfl rfl rfl ?_
        refine w_an_n (A := 193) (ok_kd) (by decide) (h32) rfl rfl ?_
        refine w_p (pc1 := 194) rfl rfl ?_
        refine w_ji (pc1 := 197) (vs := [.ref 120]) (rest := []) (m_85 (d := d + 1) (sl := 0) S1 hl1 R1 hz1) rfl rfl rfl (fun _ _ => rfl) rfl (by exact cl_v my_85 rfl rfl rfl (Nat.le_of_ble_eq_true rfl) rfl (MH_obj rfl rfl) rfl (by decide) rfl rfl) (by rfl) (Nat.le_of_ble_eq_true rfl) (Nat.le_of_ble_eq_true rfl) rfl (fun v h1 d1 hq => ?_) (fun a h1 d1 hq => ?_)
        · obtain ⟨a, i2, nl2, C2, t2, ⟨r1, ⟨hv, r2⟩, ⟨r3, r4⟩, r5, r6, r7, r8⟩, hh, r9⟩ := hq
          subst hv; subst hh
          refine w_p (pc1 := 199) (al1 := [(7, .ref (241 + t.length)), (6, .null), (5, .int (nI (b))), (4, .int (nI (e))), (3, .int (nI (ti))), (1, .long (nm)), (0, .ref 120)]) rfl rfl ?_
          refine d78_4n (foK_e r6 hw) r2 (fun t3 g1 g2 g3 => ?_)
          refine ⟨(nm, b, ti, e, wh, a), i2, nl2, sQ C2 20 9 (some (241 + t2.length)), t3, ⟨er0.trans (pb_r (era.trans r1)), rfl, ⟨⟨t2.length, by rw [sQ_3, if_pos ⟨rfl, rfl⟩], g1⟩, (r5.2 5).1.trans (nxT_fr.1 20 5 (by omega))⟩, ⟨tkS_g r3 (fun _ _ _ => rfl) (fun _ _ _ => rfl) (fun k j h => by rw [sQ_3, if_neg (by omega)]), r4⟩, ⟨frD_t (frD_N nxT_fr) (frD_t r5.1 frD_Q), ?_⟩, tlE_t r6 g2, by omega, by omega⟩, ?_, by omega⟩
          · rw [sQ_3, if_neg (by omega)]
            exact (r5.2 3).2.2.trans (nxT_fr.2.2 20 3 (by omega))
          · with_reducible rfl
        · rcases hq with ⟨c, j, C', t', s, ⟨x1, x2, x3, ⟨x4, x5, x6⟩, x7⟩, ha, hh, hn⟩
          · subst ha; subst hh; subst hn
            refine Or.inl ⟨ch_new (by decide) rfl, ?_⟩
            refine ⟨c, j, C', t', sl + s, ⟨er0.trans (pb_l (era.trans x1)), x2, frD_t (frD_N nxT_fr) x3, ⟨x4, by omega, by omega⟩, by omega⟩, rfl, ?_, by omega⟩
            with_reducible rfl
  · have x0 : xpP (tkP B n) 16 i = .inl (2, i) := if_neg h16
    have er0 : rTr3 (tkP B n) sc nm (b, e) ti (wh, i, nl) = .inl (2, i) := pb_l x0
    refine w_p (pc1 := 135) rfl rfl ?_
    refine w_m0 (pc1 := 138) rfl rfl (h_gC rfl rfl rfl rfl) rfl ?_
    refine w_m0 (pc1 := 141) (st1 := .ref 16 :: _) rfl rfl rfl rfl ?_
    refine w_ji (pc1 := 144) (vs := [.ref 101, .ref 16]) (rest := []) (m_38n (d := d + 54) (sl := 0) S (by decide) h16) rfl rfl rfl (fun _ _ => rfl) rfl (by exact cl_v my_38 rfl rfl rfl (Nat.le_of_ble_eq_true rfl) rfl (MH_obj rfl rfl) rfl (by decide) rfl rfl) (by rfl) (Nat.le_of_ble_eq_true rfl) (Nat.le_of_ble_eq_true rfl) rfl (fun v h1 d1 hq => ?_) (fun a h1 d1 hq => ?_)
    · exact hq.elim
    · rcases hq with ⟨ha, hh, hn⟩
      · subst ha; subst hh; subst hn
        refine Or.inl ⟨ch_new (by decide) rfl, ?_⟩
        refine ⟨2, i, _, t, sl + 0, ⟨er0, flt_rf.1, flt_rf.2, ⟨tlE_r, by omega, by omega⟩, by omega⟩, rfl, ?_, by omega⟩
        with_reducible rfl
set_option maxRecDepth 100000 in
theorem d78_3s {nm : Int64} {wh : Option (List op_T)} (hw : foK t 0 (.ref w) wh) (S : tkS B n m C i) (hi : 1 ≤ i) (hl : lfK (C.1 21 6) nl) (R : RX C sc none (some (b, e)) false) (hb : b < 6) (ht : ti < 2) (he : e < 3) (hz : nzp (rTr3 (tkP B n) sc nm (b, e) ti (wh, i, nl))) : Wd L xs (d + 62) y_78 (134, [(6, .ref (w)), (5, .int (nI (b))), (4, .int (nI (e))), (3, .int (nI (ti))), (1, .long (nm)), (0, .ref 120)], [], MH C t, sl) (PV B n m C t i sl (rTr3 (tkP B n) sc nm (b, e) ti (wh, i, nl)) (QTr (C.1 20 5))) (XD B n C t i sl (rTr3 (tkP B n) sc nm (b, e) ti (wh, i, nl))) := by
  by_cases h16 : kd B n i = 16
  · have x0 : xpP (tkP B n) 16 i = .inr (i + 1) := if_pos h16
    have er0 : rTr3 (tkP B n) sc nm (b, e) ti (wh, i, nl) = pb (rAct (tkP B n) sc (b, e) ti (i + 1) nl) (fun a => .inr ((nm, b, ti, e, wh, a.1), a.2)) := pb_r x0
    rw [er0] at hz
    have hz1 := nzp_b hz
    have S1 := nxT_S S (by rw [h16]; decide) (by rw [h16]; decide)
    have R1 := RX_F R (frF_N (nxT_fr (B := B) (n := n) (i := i)))
    have hl1 : lfK ((nxT B n C i).1 21 6) nl := by rw [nxT_fr.1 21 6 (by omega)]; exact hl
    by_cases h21 : kd B n (i + 1) = 21
    · have era : rAct (tkP B n) sc (b, e) ti (i + 1) nl = rLet (tkP B n) sc (some (b, e)) b ti e (i + 1) nl := if_pos h21
      rw [era] at hz1
      refine w_p (pc1 := 135) rfl rfl ?_
      refine w_m0 (pc1 := 138) rfl rfl (h_gC rfl rfl rfl rfl) rfl ?_
      refine w_m0 (pc1 := 141) (st1 := .ref 16 :: _) rfl rfl rfl rfl ?_
      refine w_je (pc1 := 144) (vs := [.ref 101, .ref 16]) (rest := []) (st1 := []) (m_38y (d := d + 60) (sl := 0) S (by decide) h16 (by decide) (by decide)) rfl rfl rfl (fun _ _ => rfl) rfl (by exact cl_v my_38 rfl rfl rfl (Nat.le_of_ble_eq_true rfl) rfl (MH_obj rfl rfl) rfl (by decide) rfl rfl) (by rfl) (Nat.le_of_ble_eq_true rfl) (Nat.le_of_ble_eq_true rfl) rfl (by rfl) ?_
      refine w_p (pc1 := 145) rfl rfl ?_
      refine w_m0 (pc1 := 148) rfl rfl (h_gC rfl rfl rfl rfl) rfl ?_
      refine w_m0 (pc1 := 151) (st1 := .ref (kd B n (i + 1)) :: _) rfl rfl (h_gRs (j := 6) rfl rfl rfl rfl rfl (tkS_tok S1)) rfl ?_
      refine w_m0 (pc1 := 154) (st1 := .ref 21 :: _) rfl rfl rfl rfl ?_
      refine w_an_y (A := 171) (Bn := 157) (ok_kd) (by decide) (h21) rfl rfl rfl ?_
      refine w_p (pc1 := 158) rfl rfl ?_
      refine w_p (pc1 := 160) rfl rfl ?_
      refine w_p (pc1 := 161) rfl rfl ?_
      refine w_p (pc1 := 163) rfl rfl ?_
      refine w_ji (pc1 := 166) (vs := [.ref 120, .int (nI (b)), .int (nI (ti)), .int (nI (e))]) (rest := []) (m_81 (d := d) (sl := 0) S1 h21 (by omega) hl1 R1 hb ht he hz1) rfl rfl rfl (fun _ _ => rfl) rfl (by exact cl_v my_81 rfl rfl rfl (Nat.le_of_ble_eq_true rfl) rfl (MH_obj rfl rfl) rfl (by decide) rfl rfl) (by rfl) (Nat.le_of_ble_eq_true rfl) (Nat.le_of_ble_eq_true rfl) rfl (fun v h1 d1 hq => ?_) (fun a h1 d1 hq => ?_)
      · obtain ⟨a, i2, nl2, C2, t2, ⟨r1, ⟨hv, r2⟩, ⟨r3, r4⟩, r5, r6, r7, r8⟩, hh, r9⟩ := hq
        subst hv; subst hh
        refine w_p (pc1 := 168) (al1 := [(7, .ref (241 + t.length)), (6, .ref (w)), (5, .int (nI (b))), (4, .int (nI (e))), (3, .int (nI (ti))), (1, .long (nm)), (0, .ref 120)]) rfl rfl ?_
        refine w_p (pc1 := 199) rfl rfl ?_
        refine d78_4s (foK_e r6 hw) r2 (fun t3 g1 g2 g3 => ?_)
        refine ⟨(nm, b, ti, e, wh, a), i2, nl2, sQ C2 20 9 (some (241 + t2.length)), t3, ⟨er0.trans (pb_r (era.trans r1)), rfl, ⟨⟨t2.length, by rw [sQ_3, if_pos ⟨rfl, rfl⟩], g1⟩, (r5.2 5).1.trans (nxT_fr.1 20 5 (by omega))⟩, ⟨tkS_g r3 (fun _ _ _ => rfl) (fun _ _ _ => rfl) (fun k j h => by rw [sQ_3, if_neg (by omega)]), r4⟩, ⟨frD_t (frD_N nxT_fr) (frD_t r5.1 frD_Q), ?_⟩, tlE_t r6 g2, by omega, by omega⟩, ?_, by omega⟩
        · rw [sQ_3, if_neg (by omega)]
          exact (r5.2 3).2.2.trans (nxT_fr.2.2 20 3 (by omega))
        · with_reducible rfl
      · rcases hq with ⟨c, j, C', t', s, ⟨x1, x2, x3, ⟨x4, x5, x6⟩, x7⟩, ha, hh, hn⟩
        · subst ha; subst hh; subst hn
          refine Or.inl ⟨ch_new (by decide) rfl, ?_⟩
          refine ⟨c, j, C', t', sl + s, ⟨er0.trans (pb_l (era.trans x1)), x2, frD_t (frD_N nxT_fr) x3, ⟨x4, by omega, by omega⟩, by omega⟩, rfl, ?_, by omega⟩
          with_reducible rfl
    · by_cases h32 : kd B n (i + 1) = 32
      · have era : rAct (tkP B n) sc (b, e) ti (i + 1) nl = rRai (tkP B n) (i + 1) nl := (if_neg h21).trans (if_pos h32)
        refine w_p (pc1 := 135) rfl rfl ?_
        refine w_m0 (pc1 := 138) rfl rfl (h_gC rfl rfl rfl rfl) rfl ?_
        refine w_m0 (pc1 := 141) (st1 := .ref 16 :: _) rfl rfl rfl rfl ?_
        refine w_je (pc1 := 144) (vs := [.ref 101, .ref 16]) (rest := []) (st1 := []) (m_38y (d := d + 60) (sl := 0) S (by decide) h16 (by decide) (by decide)) rfl rfl rfl (fun _ _ => rfl) rfl (by exact cl_v my_38 rfl rfl rfl (Nat.le_of_ble_eq_true rfl) rfl (MH_obj rfl rfl) rfl (by decide) rfl rfl) (by rfl) (Nat.le_of_ble_eq_true rfl) (Nat.le_of_ble_eq_true rfl) rfl (by rfl) ?_
        refine w_p (pc1 := 145) rfl rfl ?_
        refine w_m0 (pc1 := 148) rfl rfl (h_gC rfl rfl rfl rfl) rfl ?_
        refine w_m0 (pc1 := 151) (st1 := .ref (kd B n (i + 1)) :: _) rfl rfl (h_gRs (j := 6) rfl rfl rfl rfl rfl (tkS_tok S1)) rfl ?_
        refine w_m0 (pc1 := 154) (st1 := .ref 21 :: _) rfl rfl rfl rfl ?_
        refine w_an_n (A := 171) (ok_kd) (by decide) (h21) rfl rfl ?_
        refine w_p (pc1 := 172) rfl rfl ?_
        refine w_m0 (pc1 := 175) rfl rfl (h_gC rfl rfl rfl rfl) rfl ?_
        refine w_m0 (pc1 := 178) (st1 := .ref (kd B n (i + 1)) :: _) rfl rfl (h_gRs (j := 6) rfl rfl rfl rfl rfl (tkS_tok S1)) rfl ?_
        refine w_m0 (pc1 := 181) (st1 := .ref 32 :: _) rfl rfl rfl rfl ?_
        refine w_an_y (A := 193) (Bn := 184) (ok_kd) (by decide) (h32) rfl rfl rfl ?_
        refine w_p (pc1 := 185) rfl rfl ?_
        refine w_ji (pc1 := 188) (vs := [.ref 120]) (rest := []) (m_84 (d := d) (sl := 0) S1 h32 hl1) rfl rfl rfl (fun _ _ => rfl) rfl (by exact cl_v my_84 rfl rfl rfl (Nat.le_of_ble_eq_true rfl) rfl (MH_obj rfl rfl) rfl (by decide) rfl rfl) (by rfl) (Nat.le_of_ble_eq_true rfl) (Nat.le_of_ble_eq_true rfl) rfl (fun v h1 d1 hq => ?_) (fun a h1 d1 hq => ?_)
        · obtain ⟨a, i2, nl2, C2, t2, ⟨r1, ⟨hv, r2⟩, ⟨r3, r4⟩, r5, r6, r7, r8⟩, hh, r9⟩ := hq
          subst hv; subst hh
          refine w_p (pc1 := 190) (al1 := [(7, .ref (241 + t.length)), (6, .ref (w)), (5, .int (nI (b))), (4, .int (nI (e))), (3, .int (nI (ti))), (1, .long (nm)), (0, .ref 120)]) rfl rfl ?_
          refine w_p (pc1 := 199) rfl rfl ?_
          refine d78_4s (foK_e r6 hw) r2 (fun t3 g1 g2 g3 => ?_)
          refine ⟨(nm, b, ti, e, wh, a), i2, nl2, sQ C2 20 9 (some (241 + t2.length)), t3, ⟨er0.trans (pb_r (era.trans r1)), rfl, ⟨⟨t2.length, by rw [sQ_3, if_pos ⟨rfl, rfl⟩], g1⟩, (r5.2 5).1.trans (nxT_fr.1 20 5 (by omega))⟩, ⟨tkS_g r3 (fun _ _ _ => rfl) (fun _ _ _ => rfl) (fun k j h => by rw [sQ_3, if_neg (by omega)]), r4⟩, ⟨frD_t (frD_N nxT_fr) (frD_t r5.1 frD_Q), ?_⟩, tlE_t r6 g2, by omega, by omega⟩, ?_, by omega⟩
          · rw [sQ_3, if_neg (by omega)]
            exact (r5.2 3).2.2.trans (nxT_fr.2.2 20 3 (by omega))
          · with_reducible rfl
        · rcases hq with ⟨c, j, C', t', s, ⟨x1, x2, x3, ⟨x4, x5, x6⟩, x7⟩, ha, hh, hn⟩
          · subst ha; subst hh; subst hn
            refine Or.inl ⟨ch_new (by decide) rfl, ?_⟩
            refine ⟨c, j, C', t', sl + s, ⟨er0.trans (pb_l (era.trans x1)), x2, frD_t (frD_N nxT_fr) x3, ⟨x4, by omega, by omega⟩, by omega⟩, rfl, ?_, by omega⟩
            with_reducible rfl
      · have era : rAct (tkP B n) sc (b, e) ti (i + 1) nl = rChg (tkP B n) sc (some (b, e)) (i + 1) nl := (if_neg h21).trans (if_neg h32)
        rw [era] at hz1
        refine w_p (pc1 := 135) rfl rfl ?_
        refine w_m0 (pc1 := 138) rfl rfl (h_gC rfl rfl rfl rfl) rfl ?_
        refine w_m0 (pc1 := 141) (st1 := .ref 16 :: _) rfl rfl rfl rfl ?_
        refine w_je (pc1 := 144) (vs := [.ref 101, .ref 16]) (rest := []) (st1 := []) (m_38y (d := d + 60) (sl := 0) S (by decide) h16 (by decide) (by decide)) rfl rfl rfl (fun _ _ => rfl) rfl (by exact cl_v my_38 rfl rfl rfl (Nat.le_of_ble_eq_true rfl) rfl (MH_obj rfl rfl) rfl (by decide) rfl rfl) (by rfl) (Nat.le_of_ble_eq_true rfl) (Nat.le_of_ble_eq_true rfl) rfl (by rfl) ?_
        refine w_p (pc1 := 145) rfl rfl ?_
        refine w_m0 (pc1 := 148) rfl rfl (h_gC rfl rfl rfl rfl) rfl ?_
        refine w_m0 (pc1 := 151) (st1 := .ref (kd B n (i + 1)) :: _) rfl rfl (h_gRs (j := 6) rfl rfl rfl rfl rfl (tkS_tok S1)) rfl ?_
        refine w_m0 (pc1 := 154) (st1 := .ref 21 :: _) rfl rfl rfl rfl ?_
        refine w_an_n (A := 171) (ok_kd) (by decide) (h21) rfl rfl ?_
        refine w_p (pc1 := 172) rfl rfl ?_
        refine w_m0 (pc1 := 175) rfl rfl (h_gC rfl rfl rfl rfl) rfl ?_
        refine w_m0 (pc1 := 178) (st1 := .ref (kd B n (i + 1)) :: _) rfl rfl (h_gRs (j := 6) rfl rfl rfl rfl rfl (tkS_tok S1)) rfl ?_
        refine w_m0 (pc1 := 181) (st1 := .ref 32 :: _) rfl rfl rfl rfl ?_
        refine w_an_n (A := 193) (ok_kd) (by decide) (h32) rfl rfl ?_
        refine w_p (pc1 := 194) rfl rfl ?_
        refine w_ji (pc1 := 197) (vs := [.ref 120]) (rest := []) (m_85 (d := d + 1) (sl := 0) S1 hl1 R1 hz1) rfl rfl rfl (fun _ _ => rfl) rfl (by exact cl_v my_85 rfl rfl rfl (Nat.le_of_ble_eq_true rfl) rfl (MH_obj rfl rfl) rfl (by decide) rfl rfl) (by rfl) (Nat.le_of_ble_eq_true rfl) (Nat.le_of_ble_eq_true rfl) rfl (fun v h1 d1 hq => ?_) (fun a h1 d1 hq => ?_)
        · obtain ⟨a, i2, nl2, C2, t2, ⟨r1, ⟨hv, r2⟩, ⟨r3, r4⟩, r5, r6, r7, r8⟩, hh, r9⟩ := hq
          subst hv; subst hh
          refine w_p (pc1 := 199) (al1 := [(7, .ref (241 + t.length)), (6, .ref (w)), (5, .int (nI (b))), (4, .int (nI (e))), (3, .int (nI (ti))), (1, .long (nm)), (0, .ref 120)]) rfl rfl ?_
          refine d78_4s (foK_e r6 hw) r2 (fun t3 g1 g2 g3 => ?_)
          refine ⟨(nm, b, ti, e, wh, a), i2, nl2, sQ C2 20 9 (some (241 + t2.length)), t3, ⟨er0.trans (pb_r (era.trans r1)), rfl, ⟨⟨t2.length, by rw [sQ_3, if_pos ⟨rfl, rfl⟩], g1⟩, (r5.2 5).1.trans (nxT_fr.1 20 5 (by omega))⟩, ⟨tkS_g r3 (fun _ _ _ => rfl) (fun _ _ _ => rfl) (fun k j h => by rw [sQ_3, if_neg (by omega)]), r4⟩, ⟨frD_t (frD_N nxT_fr) (frD_t r5.1 frD_Q), ?_⟩, tlE_t r6 g2, by omega, by omega⟩, ?_, by omega⟩
          · rw [sQ_3, if_neg (by omega)]
            exact (r5.2 3).2.2.trans (nxT_fr.2.2 20 3 (by omega))
          · with_reducible rfl
        · rcases hq with ⟨c, j, C', t', s, ⟨x1, x2, x3, ⟨x4, x5, x6⟩, x7⟩, ha, hh, hn⟩
          · subst ha; subst hh; subst hn
            refine Or.inl ⟨ch_new (by decide) rfl, ?_⟩
            refine ⟨c, j, C', t', sl + s, ⟨er0.trans (pb_l (era.trans x1)), x2, frD_t (frD_N nxT_fr) x3, ⟨x4, by omega, by omega⟩, by omega⟩, rfl, ?_, by omega⟩
            with_reducible rfl
  · have x0 : xpP (tkP B n) 16 i = .inl (2, i) := if_neg h16
    have er0 : rTr3 (tkP B n) sc nm (b, e) ti (wh, i, nl) = .inl (2, i) := pb_l x0
    refine w_p (pc1 := 135) rfl rfl ?_
    refine w_m0 (pc1 := 138) rfl rfl (h_gC rfl rfl rfl rfl) rfl ?_
    refine w_m0 (pc1 := 141) (st1 := .ref 16 :: _) rfl rfl rfl rfl ?_
    refine w_ji (pc1 := 144) (vs := [.ref 101, .ref 16]) (rest := []) (m_38n (d := d + 54) (sl := 0) S (by decide) h16) rfl rfl rfl (fun _ _ => rfl) rfl (by exact cl_v my_38 rfl rfl rfl (Nat.le_of_ble_eq_true rfl) rfl (MH_obj rfl rfl) rfl (by decide) rfl rfl) (by rfl) (Nat.le_of_ble_eq_true rfl) (Nat.le_of_ble_eq_true rfl) rfl (fun v h1 d1 hq => ?_) (fun a h1 d1 hq => ?_)
    · exact hq.elim
    · rcases hq with ⟨ha, hh, hn⟩
      · subst ha; subst hh; subst hn
        refine Or.inl ⟨ch_new (by decide) rfl, ?_⟩
        refine ⟨2, i, _, t, sl + 0, ⟨er0, flt_rf.1, flt_rf.2, ⟨tlE_r, by omega, by omega⟩, by omega⟩, rfl, ?_, by omega⟩
        with_reducible rfl
set_option maxRecDepth 100000 in
theorem d78_2 {nm : Int64} (S : tkS B n m C i) (hi : 1 ≤ i) (hl : lfK (C.1 21 6) nl) (R : RX C sc none (some (b, e)) false) (hb : b < 6) (ht : ti < 2) (he : e < 3) (hz : nzp (rTr2 (tkP B n) sc nm (b, e) ti i nl)) : Wd L xs (d + 62) y_78 (108, [(5, .int (nI (b))), (4, .int (nI (e))), (3, .int (nI (ti))), (1, .long (nm)), (0, .ref 120)], [], MH C t, sl) (PV B n m C t i sl (rTr2 (tkP B n) sc nm (b, e) ti i nl) (QTr (C.1 20 5))) (XD B n C t i sl (rTr2 (tkP B n) sc nm (b, e) ti i nl)) := by
  by_cases h42 : kd B n i = 42
  · have er0 : rWhn (tkP B n) sc (b, e) i nl = pb (rFm (fE (tkP B n) sc none (some (b, e))) 8 (i + 1) nl) (fun x => .inr (some x.1, x.2)) := if_pos h42
    have S1 := nxT_S S (by rw [h42]; decide) (by rw [h42]; decide)
    have R1 := RX_F R (frF_N (nxT_fr (B := B) (n := n) (i := i)))
    have hl1 : lfK ((nxT B n C i).1 21 6) nl := by rw [nxT_fr.1 21 6 (by omega)]; exact hl
    have hEk : eK B n (nxT B n C i) (fE (tkP B n) sc none (some (b, e))) := RX_e R1
    have hg : (nxT B n C i).1 21 10 = ck false := R1.2.2.2
    cases hr : rd (fE (tkP B n) sc none (some (b, e))) 6000 8 (i + 1, [], 0, nl) with
    | inl ce =>
      obtain ⟨c2, j⟩ := ce
      have f1 : rFm (fE (tkP B n) sc none (some (b, e))) 8 (i + 1) nl = .inl (c2, j) := by
        unfold rFm
        rw [hr]
      have er1 : rTr2 (tkP B n) sc nm (b, e) ti i nl = .inl (c2, j) := pb_l (er0.trans (pb_l f1))
      have hc : c2 ≠ 0 := fun e => hz j (by rw [er1, e])
      have hcl := m_55e (L := L) (xs := xs) (t := t) (d := d + 2) (sl := 0) S1 hEk hl1 hc hr
      have hij : i + 1 ≤ j := rd_ij hr hc
      refine w_p (pc1 := 109) rfl rfl ?_
      refine w_m0 (pc1 := 112) rfl rfl (h_gC rfl rfl rfl rfl) rfl ?_
      refine w_m0 (pc1 := 115) (st1 := .ref 42 :: _) rfl rfl rfl rfl ?_
      refine w_je (pc1 := 118) (vs := [.ref 101, .ref 42]) (rest := []) (st1 := [.int 1]) (m_44y (d := d + 60) (sl := 0) S (by decide) h42 (by decide) (by decide)) rfl rfl rfl (fun _ _ => rfl) rfl (by exact cl_v my_44 rfl rfl rfl (Nat.le_of_ble_eq_true rfl) rfl (MH_obj rfl rfl) rfl (by decide) rfl rfl) (by rfl) (Nat.le_of_ble_eq_true rfl) (Nat.le_of_ble_eq_true rfl) rfl (by rfl) ?_
      refine w_f (a := 131) (b := 121) rfl rfl rfl ?_
      refine w_p (pc1 := 122) rfl rfl ?_
      refine w_m0 (pc1 := 125) rfl rfl (h_gC rfl rfl rfl rfl) rfl ?_
      refine w_ji (pc1 := 128) (vs := [.ref 121]) (rest := []) (hcl) rfl rfl rfl (fun _ _ => rfl) rfl (by exact cl_v my_55 rfl rfl rfl (Nat.le_of_ble_eq_true rfl) rfl (MH_obj rfl rfl) rfl (by decide) rfl rfl) (by rfl) (Nat.le_of_ble_eq_true rfl) (Nat.le_of_ble_eq_true rfl) rfl (fun v h1 d1 hq => ?_) (fun a h1 d1 hq => ?_)
      · exact hq.elim
      · rcases hq with ⟨C2, f2, s2, ha, hh, hn⟩
        · subst ha; subst hh; subst hn
          refine Or.inl ⟨ch_new (by decide) rfl, ?_⟩
          refine ⟨c2, j, _, t, sl + 0, ⟨er1, flt_rf.1, frD_t (frD_t (frD_N nxT_fr) (frD_F f2)) flt_rf.2, ⟨tlE_r, by omega, by omega⟩, by omega⟩, rfl, ?_, by omega⟩
          with_reducible rfl
    | inr z =>
      have f1 : rFm (fE (tkP B n) sc none (some (b, e))) 8 (i + 1) nl = .inr (z.2.1, z.1, z.2.2.2) := by
        unfold rFm
        rw [hr]
      have er1 : rTr2 (tkP B n) sc nm (b, e) ti i nl = rTr3 (tkP B n) sc nm (b, e) ti (some z.2.1, z.1, z.2.2.2) := pb_r (er0.trans (pb_r f1))
      rw [er1] at hz
      have hcl := m_55 (L := L) (xs := xs) (t := t) (d := d + 2) (sl := 0) S1 hEk hl1 hg (by omega) hr
      have hfl := rd_fle _ _ _ _ hr
      have hf1 : z.2.1.length + (i + 1) ≤ 0 + z.1 := hfl.2.1
      have hpr := rd_p1 rfl S1 (Or.inr rfl) hr
      have hm6 := tkS_600 S
      refine w_p (pc1 := 109) rfl rfl ?_
      refine w_m0 (pc1 := 112) rfl rfl (h_gC rfl rfl rfl rfl) rfl ?_
      refine w_m0 (pc1 := 115) (st1 := .ref 42 :: _) rfl rfl rfl rfl ?_
      refine w_je (pc1 := 118) (vs := [.ref 101, .ref 42]) (rest := []) (st1 := [.int 1]) (m_44y (d := d + 60) (sl := 0) S (by decide) h42 (by decide) (by decide)) rfl rfl rfl (fun _ _ => rfl) rfl (by exact cl_v my_44 rfl rfl rfl (Nat.le_of_ble_eq_true rfl) rfl (MH_obj rfl rfl) rfl (by decide) rfl rfl) (by rfl) (Nat.le_of_ble_eq_true rfl) (Nat.le_of_ble_eq_true rfl) rfl (by rfl) ?_
      refine w_f (a := 131) (b := 121) rfl rfl rfl ?_
      refine w_p (pc1 := 122) rfl rfl ?_
      refine w_m0 (pc1 := 125) rfl rfl (h_gC rfl rfl rfl rfl) rfl ?_
      refine w_ji (pc1 := 128) (vs := [.ref 121]) (rest := []) (hcl) rfl rfl rfl (fun _ _ => rfl) rfl (by exact cl_v my_55 rfl rfl rfl (Nat.le_of_ble_eq_true rfl) rfl (MH_obj rfl rfl) rfl (by decide) rfl rfl) (by rfl) (Nat.le_of_ble_eq_true rfl) (Nat.le_of_ble_eq_true rfl) rfl (fun v h q hq => ?_) (fun _ _ _ e => e.elim)
      obtain ⟨rfl, ⟨C2, t2, ⟨y1, y2, y3, ⟨s0, y4⟩, y5, y6⟩, rfl⟩, rfl⟩ := hq
      have hfr : frF C C2 := frF_t (frF_N nxT_fr) y3
      have hff := frRd_F hfr
      refine w_p (pc1 := 132) rfl rfl ?_
      refine w_p (pc1 := 134) (al1 := [(6, .ref (241 + t.length)), (5, .int (nI (b))), (4, .int (nI (e))), (3, .int (nI (ti))), (1, .long (nm)), (0, .ref 120)]) rfl rfl ?_
      refine Wd_q (d78_3s (d := d) (C := C2) (t := t2) (i := z.1) (sl := sl + 0 + (0 + (4 + 3 * z.2.1.length))) (wh := some z.2.1) ⟨t.length, t.length + 1, t.length + 2, t.length + 3, s0, rfl, y4, by omega⟩ y1 (by omega) y2 (RX_F R hfr) hb ht he hz) (fun v h q p => ?_) (fun a h q p => ?_)
      · exact PV_m p er1 (fun a C' t' h => ⟨h.1, h.2.trans ((hff.2 5).1)⟩) (hff.1) ((hff.2 3).2.2) (y5) (by omega) (by omega) (by omega)
      · exact XD_m p (fun _ h => er1.trans h) (hff.1) (y5) (by omega) (by omega) (by omega)
  · have er0 : rWhn (tkP B n) sc (b, e) i nl = .inr (none, i, nl) := if_neg h42
    have er1 : rTr2 (tkP B n) sc nm (b, e) ti i nl = rTr3 (tkP B n) sc nm (b, e) ti (none, i, nl) := pb_r er0
    rw [er1] at hz
    refine w_p (pc1 := 109) rfl rfl ?_
    refine w_m0 (pc1 := 112) rfl rfl (h_gC rfl rfl rfl rfl) rfl ?_
    refine w_m0 (pc1 := 115) (st1 := .ref 42 :: _) rfl rfl rfl rfl ?_
    refine w_je (pc1 := 118) (vs := [.ref 101, .ref 42]) (rest := []) (st1 := [.int 0]) (m_44n (d := d + 61) (sl := 0) S (by decide) h42) rfl rfl rfl (fun _ _ => rfl) rfl (by exact cl_v my_44 rfl rfl rfl (Nat.le_of_ble_eq_true rfl) rfl (MH_obj rfl rfl) rfl (by decide) rfl rfl) (by rfl) (Nat.le_of_ble_eq_true rfl) (Nat.le_of_ble_eq_true rfl) rfl (by rfl) ?_
    refine w_t (a := 131) (b := 121) rfl rfl rfl ?_
    refine w_p (pc1 := 132) rfl rfl ?_
    refine w_p (pc1 := 134) (al1 := [(6, .null), (5, .int (nI (b))), (4, .int (nI (e))), (3, .int (nI (ti))), (1, .long (nm)), (0, .ref 120)]) rfl rfl ?_
    refine Wd_q (d78_3n (d := d) (sl := sl + 0) (wh := none) rfl S hi hl R hb ht he hz) (fun v h q p => ?_) (fun a h q p => ?_)
    · exact PV_m p er1 (fun a C' t' h => ⟨h.1, h.2.trans (rfl)⟩) (frD_r) (rfl) (tlE_r) (by omega) (by omega) (by omega)
    · exact XD_m p (fun _ h => er1.trans h) (frD_r) (tlE_r) (by omega) (by omega) (by omega)
end TRM
