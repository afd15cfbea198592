
/-! ONE SIDE: a table is read, 6: keys -/
section TKY
variable {L : Nat} {xs : Nat → Int32} {B : Nat → Nat} {n m : Nat} {C C' C0 C1 : co_T} {t t0 t1 : ab_H} {d sl sl0 sl1 i i0 i1 j b e ti k k0 kc ks w c : Nat} {sc : sc_T} {row : Option Nat} {tg : Option (Nat × Nat)} {nl : Option Nat} {kd0 tb0 : Int32} {P : Option Value → ab_H → Nat → Prop} {X : Nat → ab_H → Nat → Prop} {cs : List Nat} {ss : List (Option (List op_T))} {E : fe_T} {tr : Nat → Option tr_T} {ru : Nat → Option ru_T} {T : tb_S} {kd2 : Nat}
/-! what is known of a rule that is being read -/
set_option maxRecDepth 100000 in
theorem RP_s {kt : Nat} {kd tb sz tg mw od ou : Int32} {fc ft : Nat → Int32} {vc : Value} (A : RP t k kc kt kd tb fc ft sz tg mw od ou vc) (h1 : kc ≠ k) (h2 : kt ≠ k) {x : List Value} {kd' tb' sz' tg' mw' od' ou' : Int32} {vc' : Value} (g : t1[k]? = some (.inr (7, [.int kd', .int tb', .ref (241 + kc), .ref (241 + kt), .int sz', .int tg', .int mw', .int od', .int ou', vc']))) (p : ∀ j x, j ≠ k → t[j]? = some x → t1[j]? = some x) : RP t1 k kc kt kd' tb' fc ft sz' tg' mw' od' ou' vc' := ⟨g, p _ _ h1 A.2.1, p _ _ h2 A.2.2⟩
set_option maxRecDepth 100000 in
theorem m_52 (S : tkS B n m C i) (h1 : kd B n i ≠ 1) (h2 : kd B n i ≠ 2) (hl : lfK (C.1 21 6) nl) (K : BK C t T) (hb : C.1 20 10 = nI b) (hb6 : b < 6) : Wd L xs (d + 9) y_52 (0, [(0, .ref 120), (1, .int (nI kd2))], [], MH C t, sl) (PIt B n m C t i sl b (rKey (tkP B n) T b kd2 i nl)) (XIt B n C t i sl b (rKey (tkP B n) T b kd2 i nl)) := by
  refine w_p (pc1 := 1) rfl rfl ?_
  refine w_p (pc1 := 2) rfl rfl ?_
  refine w_ji (pc1 := 5) (vs := [.ref 120, .int (nI (kd2))]) (rest := []) (m_48 (d := d + 1) (sl := 0) S h1 h2 hb K.2.2) rfl rfl rfl (fun _ _ => rfl) rfl (by exact cl_v my_48 rfl rfl rfl (Nat.le_of_ble_eq_true rfl) rfl (MH_obj rfl rfl) rfl (by decide) rfl rfl) (by rfl) (Nat.le_of_ble_eq_true rfl) (Nat.le_of_ble_eq_true rfl) rfl (fun v h1 d1 hq => ?_) (fun a h1 d1 hq => ?_)
  · obtain ⟨s, ⟨hN, hs, hn⟩, hv, ⟨t1, ⟨A, l1, q1⟩, hh⟩, hd⟩ := hq
    subst hv; subst hh; subst hd
    refine w_p (pc1 := 6) (al1 := [(2, .ref (241 + t.length)), (0, .ref 120), (1, .int (nI (kd2)))]) rfl rfl ?_
    have hsn := RLK_n K.2.2 hs hn
    have S1 : tkS B n m (nrC B n C i s t) (i + 1) := nr_S S h1 h2
    have er0 : rKey (tkP B n) T b kd2 i nl = pb (xpP (tkP B n) 44 (i + 1)) (fun j => pb (rNam (tkP B n) T.1 b 7 [] j) (fun y => pb (xpP (tkP B n) 45 y.2) (fun j2 => .inr (addR T (kd2, b, y.1, none, [], (rDef (tkP B n) j2).1, 0, 0, none), (rDef (tkP B n) j2).2, nl)))) := if_neg (by rw [hN]; exact nK_m1 (by omega))
    have hl1 : lfK ((nrC B n C i s t).1 21 6) nl := by rw [sQ_1, nxT_fr.1 21 6 (by omega)]; exact hl
    have him := S1.2.2.2.1
    have hm6 := tkS_600 S
    by_cases h44 : kd B n (i + 1) = 44
    · have x0 : xpP (tkP B n) 44 (i + 1) = .inr (i + 1 + 1) := if_pos h44
      have S2 := nxT_S S1 (by rw [h44]; decide) (by rw [h44]; decide)
      have f2 := nxT_fr (B := B) (n := n) (C := nrC B n C i s t) (i := i + 1)
      have hb2 : (nxT B n (nrC B n C i s t) (i + 1)).1 20 10 = nI b := by rw [f2.1 20 10 (by omega), sQ_1, nxT_fr.1 20 10 (by omega)]; exact hb
      have hS2 : SCK (nxT B n (nrC B n C i s t) (i + 1)) T.1 := by
        obtain ⟨f1, f3, _, _⟩ := nr_F (frF_N f2)
        exact ⟨fun b hb => (f3 7 b (by omega)).trans (K.1.1 b hb), fun b hb => ⟨(f1 8 b (by omega) (by omega) (by omega) (by omega)).trans (K.1.2 b hb).1, (K.1.2 b hb).2.1, fun c hc => (f3 9 _ (by omega)).trans ((K.1.2 b hb).2.2 c hc)⟩⟩
      refine w_p (pc1 := 7) rfl rfl ?_
      refine w_m0 (pc1 := 10) rfl rfl (h_gC rfl rfl rfl rfl) rfl ?_
      refine w_m0 (pc1 := 13) (st1 := .ref 44 :: _) rfl rfl rfl rfl ?_
      refine w_je (pc1 := 16) (vs := [.ref 101, .ref 44]) (rest := []) (st1 := []) (m_38y (d := d + 7) (sl := 0) S1 (by decide) h44 (by decide) (by decide)) rfl rfl rfl (fun _ _ => rfl) rfl (by exact cl_v my_38 rfl rfl rfl (Nat.le_of_ble_eq_true rfl) rfl (MH_obj rfl rfl) rfl (by decide) rfl rfl) (by rfl) (Nat.le_of_ble_eq_true rfl) (Nat.le_of_ble_eq_true rfl) rfl (by rfl) ?_
      refine w_p (pc1 := 17) rfl rfl ?_
      refine w_p (pc1 := 18) rfl rfl ?_
      refine w_p (pc1 := 19) rfl rfl ?_
      refine w_m0 (pc1 := 22) (st1 := .int (nI (b)) :: _) rfl rfl (h_gIe (j := 10) rfl rfl rfl rfl rfl (hb2)) rfl ?_
      refine w_p (pc1 := 23) rfl rfl ?_
      refine w_m0 (pc1 := 26) (st1 := .ref (241 + (t.length + 1)) :: _) rfl rfl (x_gf (k := t.length) rfl A.1 rfl) rfl ?_
      refine w_ji (pc1 := 29) (vs := [.ref 120, .int (nI (b)), .ref (241 + (t.length + 1))]) (rest := [.ref (241 + t.length)]) (m_53 (d := d) (sl := 0) S2 hS2 hb6 A.2.1) rfl rfl rfl (fun _ _ => rfl) rfl (by exact cl_v my_53 rfl rfl rfl (Nat.le_of_ble_eq_true rfl) rfl (MH_obj rfl rfl) rfl (by decide) rfl rfl) (by rfl) (Nat.le_of_ble_eq_true rfl) (Nat.le_of_ble_eq_true rfl) rfl (fun v h1 d1 hq => ?_) (fun a h1 d1 hq => ?_)
      · obtain ⟨cs, i2, C3, t2, ⟨r1, hv, N⟩, hh⟩ := hq
        subst hv; subst hh
        obtain ⟨⟨N1, N2⟩, ⟨fc', N3, N4⟩, ⟨N5, N6, N7⟩, ⟨N8, N9⟩, N10, N11⟩ := N
        subst N10
        have er1 := er0.trans ((pb_r x0).trans (pb_r r1))
        have A2 : RP t2 t.length (t.length + 1) (t.length + 1 + 1) (nI kd2) (nI b) fc' (fun _ => 0) 0 (-1) 0 0 0 .null := ⟨N8 _ _ (by omega) A.1, N3, N8 _ _ (by omega) A.2.2⟩
        have q2 : tlE t t2 := fun j x h => N8 j x (by have := get_lt h; omega) (q1 j x h)
        have f3 := frN_t' f2 N2
        obtain ⟨t3, e3, g3, p3, l3⟩ := tl_st A2.1 (.inr (7, [.int (nI kd2), .int (nI b), .ref (241 + (t.length + 1)), .ref (241 + (t.length + 1 + 1)), .int (nI cs.length), .int (-1), .int 0, .int 0, .int 0, .null]))
        have A3 : RP t3 t.length (t.length + 1) (t.length + 1 + 1) (nI kd2) (nI b) fc' (fun _ => 0) (nI cs.length) (-1) 0 0 0 .null := ⟨g3, p3 _ _ (by omega) A2.2.1, p3 _ _ (by omega) A2.2.2⟩
        have q3 : tlE t t3 := fun j x h => p3 j x (by have := get_lt h; omega) (q2 j x h)
        refine w_m0 (pc1 := 32) rfl rfl (x_pf (k := t.length) (fs' := [.int (nI (kd2)), .int (nI (b)), .ref (241 + (t.length + 1)), .ref (241 + (t.length + 1 + 1)), .int (nI (cs.length)), .int (-1), .int 0, .int 0, .int 0, .null]) rfl A2.1 rfl rfl ⟨rfl, rfl⟩ (Or.inl rfl) (Nat.le_of_ble_eq_true rfl) rfl) rfl ?_
        rw [e3]
        have N1m := N1.2.2.2.1
        by_cases h45 : kd B n i2 = 45
        · have x1 : xpP (tkP B n) 45 i2 = .inr (i2 + 1) := if_pos h45
          have er2 := er1.trans (pb_r x1)
          have S4 := nxT_S N1 (by rw [h45]; decide) (by rw [h45]; decide)
          have f4 := frN_t' f3 (nxT_fr (B := B) (n := n) (C := C3) (i := i2))
          by_cases h20 : kd B n (i2 + 1) = 20
          · have ed : rDef (tkP B n) (i2 + 1) = (true, i2 + 1 + 1) := if_pos h20
            have ed1 : (rDef (tkP B n) (i2 + 1)).1 = true := congrArg Prod.fst ed
            have ed2 : (rDef (tkP B n) (i2 + 1)).2 = i2 + 1 + 1 := congrArg Prod.snd ed
            have er3 : rKey (tkP B n) T b kd2 i nl = .inr (addR T (kd2, b, cs, none, [], (rDef (tkP B n) (i2 + 1)).1, 0, 0, none), (rDef (tkP B n) (i2 + 1)).2, nl) := er2
            rw [ed1, ed2] at er3
            obtain ⟨t4, e4, g4, p4, l4⟩ := tl_st A3.1 (.inr (7, [.int (nI kd2), .int (nI b), .ref (241 + (t.length + 1)), .ref (241 + (t.length + 1 + 1)), .int (nI cs.length), .int (-1), .int 1, .int 0, .int 0, .null]))
            have q4 : tlE t t4 := fun j x h => p4 j x (by have := get_lt h; omega) (q3 j x h)
            have hU : RUK t4 t.length (kd2, b, cs, none, [], true, 0, 0, none) := ⟨t.length + 1, t.length + 1 + 1, fc', fun _ => 0, .null, ⟨g4, p4 _ _ (by omega) A3.2.1, p4 _ _ (by omega) A3.2.2, N4, fun j x hj => (by cases hj)⟩, rfl⟩
            have S5 := nxT_S S4 (by rw [h20]; decide) (by rw [h20]; decide)
            have f5 := frN_t' f4 (nxT_fr (B := B) (n := n) (C := nxT B n C3 i2) (i := i2 + 1))
            refine w_p (pc1 := 33) rfl rfl ?_
            refine w_m0 (pc1 := 36) rfl rfl (h_gC rfl rfl rfl rfl) rfl ?_
            refine w_m0 (pc1 := 39) (st1 := .ref 45 :: _) rfl rfl rfl rfl ?_
            refine w_je (pc1 := 42) (vs := [.ref 101, .ref 45]) (rest := []) (st1 := []) (m_38y (d := d + 7) (sl := 0) N1 (by decide) h45 (by decide) (by decide)) rfl rfl rfl (fun _ _ => rfl) rfl (by exact cl_v my_38 rfl rfl rfl (Nat.le_of_ble_eq_true rfl) rfl (MH_obj rfl rfl) rfl (by decide) rfl rfl) (by rfl) (Nat.le_of_ble_eq_true rfl) (Nat.le_of_ble_eq_true rfl) rfl (by rfl) ?_
            refine w_p (pc1 := 43) rfl rfl ?_
            refine w_p (pc1 := 44) rfl rfl ?_
            refine w_m0 (pc1 := 47) rfl rfl (h_gC rfl rfl rfl rfl) rfl ?_
            refine w_m0 (pc1 := 50) (st1 := .ref 20 :: _) rfl rfl rfl rfl ?_
            refine w_je (pc1 := 53) (vs := [.ref 101, .ref 20]) (rest := [.ref (241 + t.length)]) (st1 := [.int 1, .ref (241 + t.length)]) (m_44y (d := d + 7) (sl := 0) S4 (by decide) h20 (by decide) (by decide)) rfl rfl rfl (fun _ _ => rfl) rfl (by exact cl_v my_44 rfl rfl rfl (Nat.le_of_ble_eq_true rfl) rfl (MH_obj rfl rfl) rfl (by decide) rfl rfl) (by rfl) (Nat.le_of_ble_eq_true rfl) (Nat.le_of_ble_eq_true rfl) rfl (by rfl) ?_
            refine w_m0 (pc1 := 56) rfl rfl (x_pf (k := t.length) (fs' := [.int (nI (kd2)), .int (nI (b)), .ref (241 + (t.length + 1)), .ref (241 + (t.length + 1 + 1)), .int (nI (cs.length)), .int (-1), .int 1, .int 0, .int 0, .null]) rfl A3.1 rfl rfl ⟨rfl, rfl⟩ (Or.inl rfl) (Nat.le_of_ble_eq_true rfl) rfl) rfl ?_
            rw [e4]
            refine w_r rfl rfl rfl (fun _ _ => rfl) rfl ?_
            refine ⟨addR T (kd2, b, cs, none, [], true, 0, 0, none), i2 + 1 + 1, nl, _, t4, ⟨er3, rfl, ⟨S5, ?_⟩, BK_48 K hN hs (frF_N f5) q4 hU, STB_48 hsn (frF_N f5) q4 g4, by omega, by omega⟩, ?_, by omega⟩
            · rw [f5.1 21 6 (by omega)]
              exact hl1
            · with_reducible rfl
          · have ed : rDef (tkP B n) (i2 + 1) = (false, i2 + 1) := if_neg h20
            have ed1 : (rDef (tkP B n) (i2 + 1)).1 = false := congrArg Prod.fst ed
            have ed2 : (rDef (tkP B n) (i2 + 1)).2 = i2 + 1 := congrArg Prod.snd ed
            have er3 : rKey (tkP B n) T b kd2 i nl = .inr (addR T (kd2, b, cs, none, [], (rDef (tkP B n) (i2 + 1)).1, 0, 0, none), (rDef (tkP B n) (i2 + 1)).2, nl) := er2
            rw [ed1, ed2] at er3
            obtain ⟨t4, e4, g4, p4, l4⟩ := tl_st A3.1 (.inr (7, [.int (nI kd2), .int (nI b), .ref (241 + (t.length + 1)), .ref (241 + (t.length + 1 + 1)), .int (nI cs.length), .int (-1), .int 0, .int 0, .int 0, .null]))
            have q4 : tlE t t4 := fun j x h => p4 j x (by have := get_lt h; omega) (q3 j x h)
            have hU : RUK t4 t.length (kd2, b, cs, none, [], false, 0, 0, none) := ⟨t.length + 1, t.length + 1 + 1, fc', fun _ => 0, .null, ⟨g4, p4 _ _ (by omega) A3.2.1, p4 _ _ (by omega) A3.2.2, N4, fun j x hj => (by cases hj)⟩, rfl⟩
            refine w_p (pc1 := 33) rfl rfl ?_
            refine w_m0 (pc1 := 36) rfl rfl (h_gC rfl rfl rfl rfl) rfl ?_
            refine w_m0 (pc1 := 39) (st1 := .ref 45 :: _) rfl rfl rfl rfl ?_
            refine w_je (pc1 := 42) (vs := [.ref 101, .ref 45]) (rest := []) (st1 := []) (m_38y (d := d + 7) (sl := 0) N1 (by decide) h45 (by decide) (by decide)) rfl rfl rfl (fun _ _ => rfl) rfl (by exact cl_v my_38 rfl rfl rfl (Nat.le_of_ble_eq_true rfl) rfl (MH_obj rfl rfl) rfl (by decide) rfl rfl) (by rfl) (Nat.le_of_ble_eq_true rfl) (Nat.le_of_ble_eq_true rfl) rfl (by rfl) ?_
            refine w_p (pc1 := 43) rfl rfl ?_
            refine w_p (pc1 := 44) rfl rfl ?_
            refine w_m0 (pc1 := 47) rfl rfl (h_gC rfl rfl rfl rfl) rfl ?_
            refine w_m0 (pc1 := 50) (st1 := .ref 20 :: _) rfl rfl rfl rfl ?_
            refine w_je (pc1 := 53) (vs := [.ref 101, .ref 20]) (rest := [.ref (241 + t.length)]) (st1 := [.int 0, .ref (241 + t.length)]) (m_44n (d := d + 8) (sl := 0) S4 (by decide) h20) rfl rfl rfl (fun _ _ => rfl) rfl (by exact cl_v my_44 rfl rfl rfl (Nat.le_of_ble_eq_true rfl) rfl (MH_obj rfl rfl) rfl (by decide) rfl rfl) (by rfl) (Nat.le_of_ble_eq_true rfl) (Nat.le_of_ble_eq_true rfl) rfl (by rfl) ?_
            refine w_m0 (pc1 := 56) rfl rfl (x_pf (k := t.length) (fs' := [.int (nI (kd2)), .int (nI (b)), .ref (241 + (t.length + 1)), .ref (241 + (t.length + 1 + 1)), .int (nI (cs.length)), .int (-1), .int 0, .int 0, .int 0, .null]) rfl A3.1 rfl rfl ⟨rfl, rfl⟩ (Or.inl rfl) (Nat.le_of_ble_eq_true rfl) rfl) rfl ?_
            rw [e4]
            refine w_r rfl rfl rfl (fun _ _ => rfl) rfl ?_
            refine ⟨addR T (kd2, b, cs, none, [], false, 0, 0, none), i2 + 1, nl, _, t4, ⟨er3, rfl, ⟨S4, ?_⟩, BK_48 K hN hs (frF_N f4) q4 hU, STB_48 hsn (frF_N f4) q4 g4, by omega, by omega⟩, ?_, by omega⟩
            · rw [f4.1 21 6 (by omega)]
              exact hl1
            · with_reducible rfl
        · have x1 : xpP (tkP B n) 45 i2 = .inl (2, i2) := if_neg h45
          refine w_p (pc1 := 33) rfl rfl ?_
          refine w_m0 (pc1 := 36) rfl rfl (h_gC rfl rfl rfl rfl) rfl ?_
          refine w_m0 (pc1 := 39) (st1 := .ref 45 :: _) rfl rfl rfl rfl ?_
          refine w_ji (pc1 := 42) (vs := [.ref 101, .ref 45]) (rest := []) (m_38n (d := d + 1) (sl := 0) N1 (by decide) h45) rfl rfl rfl (fun _ _ => rfl) rfl (by exact cl_v my_38 rfl rfl rfl (Nat.le_of_ble_eq_true rfl) rfl (MH_obj rfl rfl) rfl (by decide) rfl rfl) (by rfl) (Nat.le_of_ble_eq_true rfl) (Nat.le_of_ble_eq_true rfl) rfl (fun v h1 d1 hq => ?_) (fun a h1 d1 hq => ?_)
          · exact hq.elim
          · rcases hq with ⟨ha, hh, hn⟩
            · subst ha; subst hh; subst hn
              refine Or.inl ⟨ch_new (by decide) rfl, ?_⟩
              refine ⟨2, i2, _, t3, sl + 22, ⟨er1.trans (pb_l x1), flt_rf.1, STB_t (STB_48 hsn (frF_N f3) q3 A3.1) STB_rf, by omega, by omega, by omega⟩, rfl, ?_, by omega⟩
              with_reducible rfl
      · rcases hq with ⟨c, j, C', t', ⟨x1, x2, ⟨x3, x4⟩, x5⟩, ha, hh, hn⟩
        · subst ha; subst hh; subst hn
          refine Or.inl ⟨ch_new (by decide) rfl, ?_⟩
          refine ⟨c, j, _, t', sl + 22, ⟨er0.trans ((pb_r x0).trans (pb_l x1)), flt_rf.1, STB_t (STB_48 hsn (frF_N (frN_t' f2 x2)) (fun j x h => x3 j x (by have := get_lt h; omega) (q1 j x h)) (x3 _ _ (by omega) A.1)) STB_rf, by omega, by omega, by omega⟩, rfl, ?_, by omega⟩
          with_reducible rfl
    · have x0 : xpP (tkP B n) 44 (i + 1) = .inl (2, i + 1) := if_neg h44
      refine w_p (pc1 := 7) rfl rfl ?_
      refine w_m0 (pc1 := 10) rfl rfl (h_gC rfl rfl rfl rfl) rfl ?_
      refine w_m0 (pc1 := 13) (st1 := .ref 44 :: _) rfl rfl rfl rfl ?_
      refine w_ji (pc1 := 16) (vs := [.ref 101, .ref 44]) (rest := []) (m_38n (d := d + 1) (sl := 0) S1 (by decide) h44) rfl rfl rfl (fun _ _ => rfl) rfl (by exact cl_v my_38 rfl rfl rfl (Nat.le_of_ble_eq_true rfl) rfl (MH_obj rfl rfl) rfl (by decide) rfl rfl) (by rfl) (Nat.le_of_ble_eq_true rfl) (Nat.le_of_ble_eq_true rfl) rfl (fun v h1 d1 hq => ?_) (fun a h1 d1 hq => ?_)
      · exact hq.elim
      · rcases hq with ⟨ha, hh, hn⟩
        · subst ha; subst hh; subst hn
          refine Or.inl ⟨ch_new (by decide) rfl, ?_⟩
          refine ⟨2, i + 1, _, t1, sl + 22, ⟨er0.trans (pb_l x0), flt_rf.1, STB_t (STB_48 hsn (frF_r (C := nrC B n C i s t)) q1 A.1) STB_rf, by omega, by omega, by omega⟩, rfl, ?_, by omega⟩
          with_reducible rfl
  · rcases hq with ⟨hf, ha, hh, hn⟩
    · subst ha; subst hh; subst hn
      refine Or.inl ⟨ch_new (by decide) rfl, ?_⟩
      refine ⟨6, i, _, t, sl + 0, ⟨if_pos hf, flt_rf.1, STB_rf, by omega, by omega, by omega⟩, rfl, ?_, by omega⟩
      with_reducible rfl
end TKY
