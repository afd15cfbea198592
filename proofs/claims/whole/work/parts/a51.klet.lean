
/-! ONE SIDE: a trigger is read, 2: LET, RAISE -/
section TRJ
variable {L : Nat} {xs : Nat → Int32} {B : Nat → Nat} {n m : Nat} {C C' C0 C1 : co_T} {t t0 t1 : ab_H} {d sl sl0 sl1 i i0 i1 j b e ti k k0 kc ks w c : Nat} {sc : sc_T} {row : Option Nat} {tg : Option (Nat × Nat)} {nl : Option Nat} {kd0 tb0 : Int32} {P : Option Value → ab_H → Nat → Prop} {X : Nat → ab_H → Nat → Prop} {cs : List Nat} {ss : List (Option (List op_T))} {E : fe_T} {tr : Nat → Option tr_T}
set_option maxRecDepth 100000 in
theorem rCol_i {K : tv2} {sc : sc_T} {b i c i1 : Nat} {acc : List Nat} (h : rCol K sc b acc i = .inr (c, i1)) : i1 = i + 1 := by
  unfold rCol at h
  split at h
  · split at h
    · cases h
    · split at h
      · cases h
      · cases h; rfl
  · cases h
set_option maxRecDepth 100000 in
theorem rCol_j {K : tv2} {sc : sc_T} {b i j : Nat} {acc : List Nat} {c : Int32} (h : rCol K sc b acc i = .inl (c, j)) : j = i := by
  unfold rCol at h
  split at h
  · split at h
    · cases h; rfl
    · split at h
      · cases h; rfl
      · cases h
  · cases h; rfl
def rLt0 (K : tv2) (sc : sc_T) (tg : Option (Nat × Nat)) (b i : Nat) (nl : Option Nat) : pz_T (ac_T × Nat × Option Nat) := pb (rCol K sc b [] i) (fun c => pb (xpP K 50 c.2) (fun j => pb (rFm (fE K sc none tg) 3 j nl) (fun x => .inr ((3, none, [c.1], [some x.1], none, 0), x.2))))
set_option maxRecDepth 100000 in
theorem d81 (hk : k0 ≠ ks ∧ k0 ≠ kc ∧ ks ≠ kc) (S : tkS B n m C i) (hi : 1 ≤ i) (hl : lfK (C.1 21 6) nl) (R : RX C sc none tg false) (hb : b < 6) {fc : Nat → Int32} (A : AP t k0 kc ks 3 (-1) fc (fun _ => none) 0 .null 0) (hkk : k0 < kc ∧ kc < ks) (hz : nzp (rLt0 (tkP B n) sc tg b i nl)) : Wd L xs (d + 60) y_81 (37, [(4, .ref (241 + k0)), (0, .ref 120), (1, .int (nI (b))), (2, .int (nI (ti))), (3, .int (nI (e)))], [], MH C t, sl) (PWr B n m C t i sl k0 kc ks (rLt0 (tkP B n) sc tg b i nl)) (XAc B n C t i sl k0 kc ks (rLt0 (tkP B n) sc tg b i nl)) := by
  have hkt : k0 < t.length ∧ ks < t.length ∧ kc < t.length := ⟨get_lt A.1, get_lt A.2.2, get_lt A.2.1⟩
  have hm6 := tkS_600 S
  have him := S.2.2.2.1
  refine w_p (pc1 := 39) rfl rfl ?_
  refine w_m0 (pc1 := 42) (st1 := .ref (241 + kc) :: _) rfl rfl (x_gf (k := k0) rfl A.1 rfl) rfl ?_
  refine w_p (pc1 := 43) (st1 := .int 0 :: _) rfl rfl ?_
  refine w_p (pc1 := 44) rfl rfl ?_
  refine w_p (pc1 := 45) rfl rfl ?_
  refine w_p (pc1 := 47) rfl rfl ?_
  refine w_m0 (pc1 := 50) (st1 := .ref (241 + kc) :: _) rfl rfl (x_gf (k := k0) rfl A.1 rfl) rfl ?_
  refine w_p (pc1 := 51) (st1 := .int 0 :: _) rfl rfl ?_
  refine w_ji (pc1 := 54) (vs := [.ref 120, .int (nI (b)), .ref (241 + kc), .int 0]) (rest := [.int 0, .ref (241 + kc)]) (m_54 (d := d + 52) (sl := 0) (acc := []) S R.1 hb A.2.1 (fun j x hj => by cases hj) (by decide) (fun x hx => by cases hx)) rfl rfl rfl (fun _ _ => rfl) rfl (by exact cl_v my_54 rfl rfl rfl (Nat.le_of_ble_eq_true rfl) rfl (MH_obj rfl rfl) rfl (by decide) rfl rfl) (by rfl) (Nat.le_of_ble_eq_true rfl) (Nat.le_of_ble_eq_true rfl) rfl (fun v h1 d1 hq => ?_) (fun a h1 d1 hq => ?_)
  · obtain ⟨c, i1, C1, ⟨r1, ⟨hv, r2, r3⟩, r4, r5⟩, hh, hn⟩ := hq
    subst hv; subst hh; subst hn
    have hi1 := rCol_i r1
    subst hi1
    have him1 := r4.2.2.2.1
    have hl1 : lfK (C1.1 21 6) nl := by rw [r5.1 21 6 (by omega)]; exact hl
    obtain ⟨t1, e1, g1, p1, q1⟩ := tl_st A.2.1 (.inl (0, 6, .inl (upd fc 0 (nI c))))
    have A1 : AP t1 k0 kc ks 3 (-1) (upd fc 0 (nI c)) (fun _ => none) 0 .null 0 := ⟨p1 _ _ hk.2.1 A.1, g1, p1 _ _ hk.2.2 A.2.2⟩
    have er1 : rLt0 (tkP B n) sc tg b i nl = pb (xpP (tkP B n) 50 (i + 1)) (fun j => pb (rFm (fE (tkP B n) sc none tg) 3 j nl) (fun x => .inr ((3, none, [c], [some x.1], none, 0), x.2))) := pb_r r1
    rw [er1] at hz
    have hk1 : ∀ j x, j ≠ k0 → j ≠ ks → j ≠ kc → t[j]? = some x → t1[j]? = some x := fun j x h1 h2 h3 h => p1 _ _ h3 h
    refine w_m0 (pc1 := 55) rfl rfl (x_is (k := kc) (e := 0) A.2.1 (by omega) (by omega)) rfl ?_
    rw [e1]
    by_cases h50 : kd B n (i + 1) = 50
    · have x0 : xpP (tkP B n) 50 (i + 1) = .inr (i + 1 + 1) := if_pos h50
      have hz := nzp_g x0 hz
      have hS2 := nxT_S r4 (by rw [h50]; decide) (by rw [h50]; decide)
      have him2 := hS2.2.2.2.1
      have hF2 : frF C (nxT B n C1 (i + 1)) := frF_t (frF_N r5) (frF_N nxT_fr)
      have hl2 : lfK ((nxT B n C1 (i + 1)).1 21 6) nl := by rw [nxT_fr.1 21 6 (by omega)]; exact hl1
      have hR2 := RX_F R hF2
      have hEk : eK B n (nxT B n C1 (i + 1)) (fE (tkP B n) sc none tg) := RX_e hR2
      have hg : (nxT B n C1 (i + 1)).1 21 10 = ck false := hR2.2.2.2
      cases hr : rd (fE (tkP B n) sc none tg) 6000 3 (i + 1 + 1, [], 0, nl) with
      | inl ce =>
        obtain ⟨c2, j⟩ := ce
        have f1 : rFm (fE (tkP B n) sc none tg) 3 (i + 1 + 1) nl = .inl (c2, j) := by
          unfold rFm
          rw [hr]
        have hc : c2 ≠ 0 := fun e => hz j (by rw [pb_l f1, e])
        have hcl := m_83e (L := L) (xs := xs) (t := t1) (d := d + 4) (sl := 0) hS2 hEk hl2 hc hr
        have hij : i + 1 + 1 ≤ j := rd_ij hr hc
        refine w_p (pc1 := 56) rfl rfl ?_
        refine w_m0 (pc1 := 59) rfl rfl (h_gC rfl rfl rfl rfl) rfl ?_
        refine w_m0 (pc1 := 62) (st1 := .ref 50 :: _) rfl rfl rfl rfl ?_
        refine w_je (pc1 := 65) (vs := [.ref 101, .ref 50]) (rest := []) (st1 := []) (m_38y (d := d + 58) (sl := 0) r4 (by decide) h50 (by decide) (by decide)) rfl rfl rfl (fun _ _ => rfl) rfl (by exact cl_v my_38 rfl rfl rfl (Nat.le_of_ble_eq_true rfl) rfl (MH_obj rfl rfl) rfl (by decide) rfl rfl) (by rfl) (Nat.le_of_ble_eq_true rfl) (Nat.le_of_ble_eq_true rfl) rfl (by rfl) ?_
        refine w_p (pc1 := 67) rfl rfl ?_
        refine w_m0 (pc1 := 70) (st1 := .ref (241 + ks) :: _) rfl rfl (x_gf (k := k0) rfl A1.1 rfl) rfl ?_
        refine w_p (pc1 := 71) (st1 := .int 0 :: _) rfl rfl ?_
        refine w_p (pc1 := 72) rfl rfl ?_
        refine w_m0 (pc1 := 75) rfl rfl (h_gC rfl rfl rfl rfl) rfl ?_
        refine w_ji (pc1 := 78) (vs := [.ref 121]) (rest := [.int 0, .ref (241 + ks)]) (hcl) rfl rfl rfl (fun _ _ => rfl) rfl (by exact cl_v my_83 rfl rfl rfl (Nat.le_of_ble_eq_true rfl) rfl (MH_obj rfl rfl) rfl (by decide) rfl rfl) (by rfl) (Nat.le_of_ble_eq_true rfl) (Nat.le_of_ble_eq_true rfl) rfl (fun v h1 d1 hq => ?_) (fun a h1 d1 hq => ?_)
        · exact hq.elim
        · rcases hq with ⟨C2, f2, s2, ha, hh, hn⟩
          · subst ha; subst hh; subst hn
            refine Or.inl ⟨ch_new (by decide) rfl, ?_⟩
            refine ⟨c2, j, _, t1, sl + 0 + 0 + 0, ⟨er1.trans ((pb_r x0).trans (pb_l f1)), flt_rf.1, frD_t (frD_F (frF_t hF2 f2)) flt_rf.2, hk1, by omega, by omega, by omega, by omega⟩, rfl, ?_, by omega⟩
            with_reducible rfl
      | inr z =>
        have f1 : rFm (fE (tkP B n) sc none tg) 3 (i + 1 + 1) nl = .inr (z.2.1, z.1, z.2.2.2) := by
          unfold rFm
          rw [hr]
        have er := er1.trans ((pb_r x0).trans (pb_r f1))
        have hcl := m_83 (L := L) (xs := xs) (t := t1) (d := d + 4) (sl := 0) hS2 hEk hl2 hg (by omega) hr
        have hfl := rd_fle _ _ _ _ hr
        have hf1 : z.2.1.length + (i + 1 + 1) ≤ 0 + z.1 := hfl.2.1
        have hpr := rd_p1 rfl hS2 (Or.inl rfl) hr
        refine w_p (pc1 := 56) rfl rfl ?_
        refine w_m0 (pc1 := 59) rfl rfl (h_gC rfl rfl rfl rfl) rfl ?_
        refine w_m0 (pc1 := 62) (st1 := .ref 50 :: _) rfl rfl rfl rfl ?_
        refine w_je (pc1 := 65) (vs := [.ref 101, .ref 50]) (rest := []) (st1 := []) (m_38y (d := d + 58) (sl := 0) r4 (by decide) h50 (by decide) (by decide)) rfl rfl rfl (fun _ _ => rfl) rfl (by exact cl_v my_38 rfl rfl rfl (Nat.le_of_ble_eq_true rfl) rfl (MH_obj rfl rfl) rfl (by decide) rfl rfl) (by rfl) (Nat.le_of_ble_eq_true rfl) (Nat.le_of_ble_eq_true rfl) rfl (by rfl) ?_
        refine w_p (pc1 := 67) rfl rfl ?_
        refine w_m0 (pc1 := 70) (st1 := .ref (241 + ks) :: _) rfl rfl (x_gf (k := k0) rfl A1.1 rfl) rfl ?_
        refine w_p (pc1 := 71) (st1 := .int 0 :: _) rfl rfl ?_
        refine w_p (pc1 := 72) rfl rfl ?_
        refine w_m0 (pc1 := 75) rfl rfl (h_gC rfl rfl rfl rfl) rfl ?_
        refine w_ji (pc1 := 78) (vs := [.ref 121]) (rest := [.int 0, .ref (241 + ks)]) (hcl) rfl rfl rfl (fun _ _ => rfl) rfl (by exact cl_v my_83 rfl rfl rfl (Nat.le_of_ble_eq_true rfl) rfl (MH_obj rfl rfl) rfl (by decide) rfl rfl) (by rfl) (Nat.le_of_ble_eq_true rfl) (Nat.le_of_ble_eq_true rfl) rfl (fun v h q hq => ?_) (fun _ _ _ e => e.elim)
        obtain ⟨rfl, ⟨C2, t2, ⟨y1, y2, y3, ⟨s0, y4⟩, y5, y6⟩, rfl⟩, rfl⟩ := hq
        have A2 : AP t2 k0 kc ks 3 (-1) (upd fc 0 (nI c)) (fun _ => none) 0 .null 0 := ⟨y5 _ _ A1.1, y5 _ _ A1.2.1, y5 _ _ A1.2.2⟩
        obtain ⟨t3, e3, g3, p3, q3⟩ := tl_st A2.2.2 (.inl (8, 6, .inr (.inr (.inr (.inr (va_up (fun _ => none) 0 (some (241 + t1.length))))))))
        refine w_m0 (pc1 := 79) rfl rfl (x_ass (k := ks) (e := 0) A2.2.2 y4.1 rfl (by omega) (by omega)) rfl ?_
        rw [e3]
        refine w_p (pc1 := 81) rfl rfl ?_
        refine w_r rfl rfl rfl (fun _ _ => rfl) rfl ?_
        refine ⟨(3, none, [c], [some z.2.1], none, 0), z.1, z.2.2.2, C2, t3, ⟨er, rfl, ⟨y1, y2, frF_t hF2 y3⟩, ⟨kc, ks, upd fc 0 (nI c), va_up (fun _ => none) 0 (some (241 + t1.length)), .null, ⟨p3 _ _ hk.1 A2.1, p3 _ _ (Ne.symm hk.2.2) A2.2.1, ?_, g3, ?_, rfl⟩, ?_⟩, ⟨fun j x h1 h2 h3 h => p3 _ _ h2 (y5 _ _ (hk1 j x h1 h2 h3 h)), by omega, by omega, by omega, by omega⟩⟩, ?_⟩
        · intro j x hj
          have hj : [c][j]? = some x := hj
          cases j with
          | zero => cases hj; rfl
          | succ j => cases hj
        · intro j s hj
          have hj : [some z.2.1][j]? = some s := hj
          cases j with
          | zero =>
            cases hj
            rw [← e3]
            exact foN_K (foN_s (lo := t1.length) (by omega) ⟨t1.length, s0, rfl, Nat.le_refl _, y4, by omega⟩)
          | succ j => cases hj
        · intro j hj
          have hj : 1 ≤ j := hj
          exact if_neg (by omega)
        · with_reducible rfl
    · have x0 : xpP (tkP B n) 50 (i + 1) = .inl (2, i + 1) := if_neg h50
      refine w_p (pc1 := 56) rfl rfl ?_
      refine w_m0 (pc1 := 59) rfl rfl (h_gC rfl rfl rfl rfl) rfl ?_
      refine w_m0 (pc1 := 62) (st1 := .ref 50 :: _) rfl rfl rfl rfl ?_
      refine w_ji (pc1 := 65) (vs := [.ref 101, .ref 50]) (rest := []) (m_38n (d := d + 52) (sl := 0) r4 (by decide) h50) rfl rfl rfl (fun _ _ => rfl) rfl (by exact cl_v my_38 rfl rfl rfl (Nat.le_of_ble_eq_true rfl) rfl (MH_obj rfl rfl) rfl (by decide) rfl rfl) (by rfl) (Nat.le_of_ble_eq_true rfl) (Nat.le_of_ble_eq_true rfl) rfl (fun v h1 d1 hq => ?_) (fun a h1 d1 hq => ?_)
      · exact hq.elim
      · rcases hq with ⟨ha, hh, hn⟩
        · subst ha; subst hh; subst hn
          refine Or.inl ⟨ch_new (by decide) rfl, ?_⟩
          refine ⟨2, i + 1, _, t1, sl + 0 + 0, ⟨er1.trans (pb_l x0), flt_rf.1, frD_t (frD_N r5) flt_rf.2, hk1, by omega, by omega, by omega, by omega⟩, rfl, ?_, by omega⟩
          with_reducible rfl
  · rcases hq with ⟨c, j, ⟨x1, x2⟩, ha, hh, hn⟩
    · subst ha; subst hh; subst hn
      refine Or.inl ⟨ch_new (by decide) rfl, ?_⟩
      have := rCol_j x1
      refine ⟨c, j, _, t, sl + 0, ⟨pb_l x1, flt_rf.1, flt_rf.2, fun j x _ _ _ h => h, by omega, by omega, by omega, by omega⟩, rfl, ?_, by omega⟩
      with_reducible rfl
set_option maxRecDepth 100000 in
theorem m_81 (S : tkS B n m C i) (h21 : kd B n i = 21) (hi : 1 ≤ i) (hl : lfK (C.1 21 6) nl) (R : RX C sc none tg false) (hb : b < 6) (ht : ti < 2) (he : e < 3) (hz : nzp (rLet (tkP B n) sc tg b ti e i nl)) : Wd L xs (d + 61) y_81 (0, [(0, .ref 120), (1, .int (nI b)), (2, .int (nI ti)), (3, .int (nI e))], [], MH C t, sl) (PD B n m C t i sl (rLet (tkP B n) sc tg b ti e i nl) (QCh t)) (XD B n C t i sl (rLet (tkP B n) sc tg b ti e i nl)) := by
  by_cases h7 : ti = 1 ∨ e = 2
  · have er : rLet (tkP B n) sc tg b ti e i nl = .inl (7, i) := if_pos h7
    by_cases h1 : ti = 1
    · skip
      refine w_p (pc1 := 1) rfl rfl ?_
      refine w_p (pc1 := 2) (st1 := .int 1 :: _) rfl rfl ?_
      refine w_t (a := 10) (b := 5) (bN_eq_t (a := ti) (b := 1) (by omega) (by omega) (by omega)) rfl rfl ?_
      refine w_p (pc1 := 11) rfl rfl ?_
      refine w_m0 (pc1 := 14) rfl rfl (h_gC rfl rfl rfl rfl) rfl ?_
      refine w_p (pc1 := 16) (st1 := .int 7 :: _) rfl rfl ?_
      refine w_ji (pc1 := 19) (vs := [.ref 101, .int 7]) (rest := []) (m_31 (d := d + 54) (sl := 0) (c := 7) S) rfl rfl rfl (fun _ _ => rfl) rfl (by exact cl_v my_31 rfl rfl rfl (Nat.le_of_ble_eq_true rfl) rfl (MH_obj rfl rfl) rfl (by decide) rfl rfl) (by rfl) (Nat.le_of_ble_eq_true rfl) (Nat.le_of_ble_eq_true rfl) rfl (fun v h1 d1 hq => ?_) (fun a h1 d1 hq => ?_)
      · exact hq.elim
      · rcases hq with ⟨ha, hh, hn⟩
        · subst ha; subst hh; subst hn
          refine Or.inl ⟨ch_new (by decide) rfl, ?_⟩
          refine ⟨7, i, _, t, sl + 0, ⟨er, flt_rf.1, flt_rf.2, ⟨tlE_r, by omega, by omega⟩, by omega⟩, rfl, ?_, rfl⟩
          with_reducible rfl
    · have h2 : e = 2 := by omega
      refine w_p (pc1 := 1) rfl rfl ?_
      refine w_p (pc1 := 2) (st1 := .int 1 :: _) rfl rfl ?_
      refine w_f (a := 10) (b := 5) (bN_eq_f (a := ti) (b := 1) (by omega) (by omega) (by omega)) rfl rfl ?_
      refine w_p (pc1 := 6) rfl rfl ?_
      refine w_p (pc1 := 7) (st1 := .int 2 :: _) rfl rfl ?_
      refine w_f (a := 19) (b := 10) (bN_ne_f (a := e) (b := 2) (by omega) (by omega) (by omega)) rfl rfl ?_
      refine w_p (pc1 := 11) rfl rfl ?_
      refine w_m0 (pc1 := 14) rfl rfl (h_gC rfl rfl rfl rfl) rfl ?_
      refine w_p (pc1 := 16) (st1 := .int 7 :: _) rfl rfl ?_
      refine w_ji (pc1 := 19) (vs := [.ref 101, .int 7]) (rest := []) (m_31 (d := d + 54) (sl := 0) (c := 7) S) rfl rfl rfl (fun _ _ => rfl) rfl (by exact cl_v my_31 rfl rfl rfl (Nat.le_of_ble_eq_true rfl) rfl (MH_obj rfl rfl) rfl (by decide) rfl rfl) (by rfl) (Nat.le_of_ble_eq_true rfl) (Nat.le_of_ble_eq_true rfl) rfl (fun v h1 d1 hq => ?_) (fun a h1 d1 hq => ?_)
      · exact hq.elim
      · rcases hq with ⟨ha, hh, hn⟩
        · subst ha; subst hh; subst hn
          refine Or.inl ⟨ch_new (by decide) rfl, ?_⟩
          refine ⟨7, i, _, t, sl + 0, ⟨er, flt_rf.1, flt_rf.2, ⟨tlE_r, by omega, by omega⟩, by omega⟩, rfl, ?_, rfl⟩
          with_reducible rfl
  · have er : rLet (tkP B n) sc tg b ti e i nl = rLt0 (tkP B n) sc tg b (i + 1) nl := if_neg h7
    rw [er] at hz
    have S1 := nxT_S S (by rw [h21]; decide) (by rw [h21]; decide)
    have R1 := RX_F R (frF_N (nxT_fr (B := B) (n := n) (i := i)))
    have hl1 : lfK ((nxT B n C i).1 21 6) nl := by rw [nxT_fr.1 21 6 (by omega)]; exact hl
    refine w_p (pc1 := 1) rfl rfl ?_
    refine w_p (pc1 := 2) (st1 := .int 1 :: _) rfl rfl ?_
    refine w_f (a := 10) (b := 5) (bN_eq_f (a := ti) (b := 1) (by omega) (by omega) (by omega)) rfl rfl ?_
    refine w_p (pc1 := 6) rfl rfl ?_
    refine w_p (pc1 := 7) (st1 := .int 2 :: _) rfl rfl ?_
    refine w_t (a := 19) (b := 10) (bN_ne_t (a := e) (b := 2) (by omega) (by omega) (by omega)) rfl rfl ?_
    refine w_p (pc1 := 20) rfl rfl ?_
    refine w_m0 (pc1 := 23) rfl rfl (h_gC rfl rfl rfl rfl) rfl ?_
    refine w_je (pc1 := 26) (vs := [.ref 101]) (rest := []) (st1 := []) (m_21s (d := d + 60) (sl := 0) S (by rw [h21]; decide) (by rw [h21]; decide)) rfl rfl rfl (fun _ _ => rfl) rfl (by exact cl_v my_21 rfl rfl rfl (Nat.le_of_ble_eq_true rfl) rfl (MH_obj rfl rfl) rfl (by decide) rfl rfl) (by rfl) (Nat.le_of_ble_eq_true rfl) (Nat.le_of_ble_eq_true rfl) rfl (by rfl) ?_
    refine w_m (pc1 := 29) rfl rfl (x_nw (c := 9) (du := 7) (fs := [.int 0, .int 0, .null, .null, .int 0, .null, .int 0]) rfl rfl rfl rfl rfl) rfl ?_
    obtain ⟨t1, e1, n1, q1, l1⟩ := tl_mk t (.inr (9, [.int 0, .int 0, .null, .null, .int 0, .null, .int 0]))
    rw [e1]
    refine w_p (pc1 := 30) rfl rfl ?_
    refine w_p (pc1 := 31) (st1 := .int 3 :: _) rfl rfl ?_
    refine w_p (pc1 := 32) (st1 := .int (-1) :: _) rfl rfl ?_
    refine w_ji (pc1 := 35) (vs := [.ref (241 + t.length), .int 3, .int (-1)]) (rest := [.ref (241 + t.length)]) (m_82 (d := d + 59) (sl := 0) (kd0 := 3) (tb0 := -1) n1) rfl rfl rfl (fun _ _ => rfl) rfl (by exact cl_i my_82 rfl rfl rfl (Nat.le_of_ble_eq_true rfl) rfl rfl ⟨rfl, rfl, rfl⟩ rfl) (by rfl) (Nat.le_of_ble_eq_true rfl) (Nat.le_of_ble_eq_true rfl) rfl (fun v h q hq => ?_) (fun _ _ _ e => e.elim)
    obtain ⟨rfl, ⟨t3, ⟨A, l3, p3⟩, rfl⟩, rfl⟩ := hq
    rw [l1] at A l3
    refine w_p (pc1 := 37) (al1 := [(4, .ref (241 + t.length)), (0, .ref 120), (1, .int (nI (b))), (2, .int (nI (ti))), (3, .int (nI (e)))]) rfl rfl ?_
    have hbr := fun j x (hj : j ≠ t.length) (h : t[j]? = some x) => p3 j x hj (q1 j x h)
    refine Wd_q (d81 (d := d + 1) (sl := sl + 0 + 7 + (0 + 12)) ⟨by omega, by omega, by omega⟩ S1 (by omega) hl1 R1 hb A ⟨by omega, by omega⟩ hz) (fun v h q p => ?_) (fun a h q p => ?_)
    · obtain ⟨a2, i2, nl2, C3, t4, ⟨w1, w2, ⟨w3, w4, w5⟩, w6, w7⟩, w8⟩ := p
      have w9 := tlR_E (q := 0) hbr w7
      obtain ⟨_, y1, y2, y3, y4⟩ := w7
      exact ⟨a2, i2, nl2, C3, t4, ⟨er.trans w1, ⟨w2, w6⟩, ⟨w3, w4⟩, frRd_t (frRd_N nxT_fr) (frRd_F w5), w9, by omega, by omega⟩, w8, by omega⟩
    · obtain ⟨c, j, C3, t4, s, ⟨x1, x2, x3, x4⟩, x5⟩ := p
      have w9 := tlR_E (q := 0) hbr x4
      obtain ⟨_, y1, y2, y3, y4⟩ := x4
      exact ⟨c, j, C3, t4, s, ⟨er.trans x1, x2, frD_t (frD_N nxT_fr) x3, ⟨w9, by omega, by omega⟩, by omega⟩, x5⟩
end TRJ
