
/-! ONE SIDE: a trigger is read, 5: from its first word on -/
section TRZ
variable {L : Nat} {xs : Nat → Int32} {B : Nat → Nat} {n m : Nat} {C C' C0 C1 : co_T} {t t0 t1 : ab_H} {d sl sl0 sl1 i i0 i1 j b e ti k k0 kc ks w c : Nat} {sc : sc_T} {row : Option Nat} {tg : Option (Nat × Nat)} {nl : Option Nat} {kd0 tb0 : Int32} {P : Option Value → ab_H → Nat → Prop} {X : Nat → ab_H → Nat → Prop} {cs : List Nat} {ss : List (Option (List op_T))} {E : fe_T} {tr : Nat → Option tr_T}
def rTr0 (K : tv2) (sc : sc_T) (nm : Int64) (ti i : Nat) (nl : Option Nat) : pz_T (tr_T × Nat × Option Nat) := pb (rEvt K i) (fun ev => pb (xpP K 29 ev.2) (fun j => pb (rTab K sc j) (fun tb => rTr2 K sc nm (tb.1, ev.1) ti tb.2 nl)))
set_option maxRecDepth 100000 in
theorem RX_g (R : RX C sc none none false) (hb : b < 6) (he : e < 3) : RX (sI (sI C 21 8 (nI b)) 21 9 (nI e)) sc none (some (b, e)) false := by
  have e7 : (sI (sI C 21 8 (nI b)) 21 9 (nI e)).1 21 7 = C.1 21 7 := by rw [sI_1, if_neg (by omega), sI_1, if_neg (by omega)]
  have e10 : (sI (sI C 21 8 (nI b)) 21 9 (nI e)).1 21 10 = C.1 21 10 := by rw [sI_1, if_neg (by omega), sI_1, if_neg (by omega)]
  refine ⟨SCK_D (SCK_D R.1 (frD_I (by omega))) (frD_I (by omega)), ⟨e7.trans R.2.1.1, R.2.1.2⟩, ⟨?_, fun p hp => ?_⟩, e10.trans R.2.2.2⟩
  · rw [sI_1, if_neg (by omega), sI_1, if_pos ⟨rfl, rfl⟩]
    rfl
  · cases hp
    exact ⟨by rw [sI_1, if_pos ⟨rfl, rfl⟩], hb, he⟩
set_option maxRecDepth 100000 in
theorem TGK_D (h : frD C C') (T : TGK C t tr) : TGK C' t tr := fun i hi => by
  rw [h.2.2 12 i (by omega) (by omega)]
  exact T i hi
set_option maxRecDepth 100000 in
theorem d78_1 {nm : Int64} (S : tkS B n m C i) (hi : 1 ≤ i) (hl : lfK (C.1 21 6) nl) (R : RX C sc none none false) (ht : ti < 2) (hz : nzp (rTr0 (tkP B n) sc nm ti i nl)) : Wd L xs (d + 62) y_78 (68, [(3, .int (nI ti)), (1, .long nm), (0, .ref 120)], [], MH C t, sl) (PV B n m C t i sl (rTr0 (tkP B n) sc nm ti i nl) (QTr (C.1 20 5))) (XD B n C t i sl (rTr0 (tkP B n) sc nm ti i nl)) := by
  refine w_p (pc1 := 69) rfl rfl ?_
  refine w_ji (pc1 := 72) (vs := [.ref 120]) (rest := []) (m_79 (d := d + 54) (sl := 0) S) rfl rfl rfl (fun _ _ => rfl) rfl (by exact cl_v my_79 rfl rfl rfl (Nat.le_of_ble_eq_true rfl) rfl (MH_obj rfl rfl) rfl (by decide) rfl rfl) (by rfl) (Nat.le_of_ble_eq_true rfl) (Nat.le_of_ble_eq_true rfl) rfl (fun v h1 d1 hq => ?_) (fun a h1 d1 hq => ?_)
  · obtain ⟨e, i1, C1, ⟨r1, hv, r3, r4⟩, hh, hn⟩ := hq
    subst hv; subst hh; subst hn
    obtain ⟨rfl, he⟩ := rEvt_s r1
    have er1 : rTr0 (tkP B n) sc nm ti i nl = pb (xpP (tkP B n) 29 (i + 1)) (fun j => pb (rTab (tkP B n) sc j) (fun tb => rTr2 (tkP B n) sc nm (tb.1, e) ti tb.2 nl)) := pb_r r1
    rw [er1] at hz
    by_cases h29 : kd B n (i + 1) = 29
    · have x0 : xpP (tkP B n) 29 (i + 1) = .inr (i + 1 + 1) := if_pos h29
      have er2 : rTr0 (tkP B n) sc nm ti i nl = pb (rTab (tkP B n) sc (i + 1 + 1)) (fun tb => rTr2 (tkP B n) sc nm (tb.1, e) ti tb.2 nl) := er1.trans (pb_r x0)
      have hz := nzp_g x0 hz
      have S2 := nxT_S r3 (by rw [h29]; decide) (by rw [h29]; decide)
      have f2 : frN C (nxT B n C1 (i + 1)) := frN_t' r4 nxT_fr
      refine w_p (pc1 := 74) (al1 := [(4, .int (nI (e))), (3, .int (nI (ti))), (1, .long (nm)), (0, .ref 120)]) rfl rfl ?_
      refine w_p (pc1 := 75) rfl rfl ?_
      refine w_m0 (pc1 := 78) rfl rfl (h_gC rfl rfl rfl rfl) rfl ?_
      refine w_m0 (pc1 := 81) (st1 := .ref 29 :: _) rfl rfl rfl rfl ?_
      refine w_je (pc1 := 84) (vs := [.ref 101, .ref 29]) (rest := []) (st1 := []) (m_38y (d := d + 60) (sl := 0) r3 (by decide) h29 (by decide) (by decide)) rfl rfl rfl (fun _ _ => rfl) rfl (by exact cl_v my_38 rfl rfl rfl (Nat.le_of_ble_eq_true rfl) rfl (MH_obj rfl rfl) rfl (by decide) rfl rfl) (by rfl) (Nat.le_of_ble_eq_true rfl) (Nat.le_of_ble_eq_true rfl) rfl (by rfl) ?_
      refine w_p (pc1 := 85) rfl rfl ?_
      refine w_ji (pc1 := 88) (vs := [.ref 120]) (rest := []) (m_74 (d := d + 54) (sl := 0) S2 (SCK_D R.1 (frD_N f2))) rfl rfl rfl (fun _ _ => rfl) rfl (by exact cl_v my_74 rfl rfl rfl (Nat.le_of_ble_eq_true rfl) rfl (MH_obj rfl rfl) rfl (by decide) rfl rfl) (by rfl) (Nat.le_of_ble_eq_true rfl) (Nat.le_of_ble_eq_true rfl) rfl (fun v h1 d1 hq => ?_) (fun a h1 d1 hq => ?_)
      · obtain ⟨b, i2, C2, ⟨s1, hv, s3, s4⟩, hh, hn⟩ := hq
        subst hv; subst hh; subst hn
        obtain ⟨rfl, hb, hbt⟩ := rTab_i s1
        have er3 := er2.trans (pb_r s1)
        have hz := nzp_g s1 hz
        have f3 := frN_t' f2 s4
        have R3 := RX_g (RX_F R (frF_N f3)) hb he
        have S4 : tkS B n m (sI (sI C2 21 8 (nI b)) 21 9 (nI e)) (i + 1 + 1 + 1) := tkS_F s3 (fun k j h => by rw [sI_1, if_neg (by omega), sI_1, if_neg (by omega)]) rfl
        have hl4 : lfK ((sI (sI C2 21 8 (nI b)) 21 9 (nI e)).1 21 6) nl := by rw [sI_1, if_neg (by omega), sI_1, if_neg (by omega), f3.1 21 6 (by omega)]; exact hl
        have f4 : frRd C (sI (sI C2 21 8 (nI b)) 21 9 (nI e)) := frRd_t (frRd_N f3) (frRd_t (frRd_I (by decide)) (frRd_I (by decide)))
        refine w_p (pc1 := 90) (al1 := [(5, .int (nI (b))), (4, .int (nI (e))), (3, .int (nI (ti))), (1, .long (nm)), (0, .ref 120)]) rfl rfl ?_
        refine w_p (pc1 := 91) rfl rfl ?_
        refine w_m0 (pc1 := 94) rfl rfl (h_gC rfl rfl rfl rfl) rfl ?_
        refine w_p (pc1 := 96) rfl rfl ?_
        refine w_m0 (pc1 := 99) rfl rfl (h_pI (j := 8) rfl rfl rfl rfl rfl rfl rfl ⟨rfl, rfl⟩ rfl) rfl ?_
        refine w_p (pc1 := 100) rfl rfl ?_
        refine w_m0 (pc1 := 103) rfl rfl (h_gC rfl rfl rfl rfl) rfl ?_
        refine w_p (pc1 := 105) rfl rfl ?_
        refine w_m0 (pc1 := 108) rfl rfl (h_pI (j := 9) rfl rfl rfl rfl rfl rfl rfl ⟨rfl, rfl⟩ rfl) rfl ?_
        refine Wd_q (d78_2 (d := d) (sl := sl + 0 + 0 + 0) S4 (by omega) hl4 R3 hb ht he hz) (fun v h q p => ?_) (fun a h q p => ?_)
        · exact PV_m p er3 (fun a C' t' h => ⟨h.1, h.2.trans ((f4.2 5).1)⟩) (f4.1) ((f4.2 3).2.2) (tlE_r) (by omega) (by omega) (by omega)
        · exact XD_m p (fun _ h => er3.trans h) (f4.1) (tlE_r) (by omega) (by omega) (by omega)
      · rcases hq with ⟨c, j, ⟨x1, x2⟩, ha, hh, hn⟩
        · subst ha; subst hh; subst hn
          refine Or.inl ⟨ch_new (by decide) rfl, ?_⟩
          have := rTab_j x1
          refine ⟨c, j, _, t, sl + 0, ⟨er2.trans (pb_l x1), flt_rf.1, frD_t (frD_N f2) flt_rf.2, ⟨tlE_r, by omega, by omega⟩, by omega⟩, rfl, ?_, by omega⟩
          with_reducible rfl
    · have x0 : xpP (tkP B n) 29 (i + 1) = .inl (2, i + 1) := if_neg h29
      refine w_p (pc1 := 74) (al1 := [(4, .int (nI (e))), (3, .int (nI (ti))), (1, .long (nm)), (0, .ref 120)]) rfl rfl ?_
      refine w_p (pc1 := 75) rfl rfl ?_
      refine w_m0 (pc1 := 78) rfl rfl (h_gC rfl rfl rfl rfl) rfl ?_
      refine w_m0 (pc1 := 81) (st1 := .ref 29 :: _) rfl rfl rfl rfl ?_
      refine w_ji (pc1 := 84) (vs := [.ref 101, .ref 29]) (rest := []) (m_38n (d := d + 54) (sl := 0) r3 (by decide) h29) rfl rfl rfl (fun _ _ => rfl) rfl (by exact cl_v my_38 rfl rfl rfl (Nat.le_of_ble_eq_true rfl) rfl (MH_obj rfl rfl) rfl (by decide) rfl rfl) (by rfl) (Nat.le_of_ble_eq_true rfl) (Nat.le_of_ble_eq_true rfl) rfl (fun v h1 d1 hq => ?_) (fun a h1 d1 hq => ?_)
      · exact hq.elim
      · rcases hq with ⟨ha, hh, hn⟩
        · subst ha; subst hh; subst hn
          refine Or.inl ⟨ch_new (by decide) rfl, ?_⟩
          refine ⟨2, i + 1, _, t, sl + 0, ⟨er1.trans (pb_l x0), flt_rf.1, frD_t (frD_N r4) flt_rf.2, ⟨tlE_r, by omega, by omega⟩, by omega⟩, rfl, ?_, by omega⟩
          with_reducible rfl
  · rcases hq with ⟨c, j, ⟨x1, x2⟩, ha, hh, hn⟩
    · subst ha; subst hh; subst hn
      refine Or.inl ⟨ch_new (by decide) rfl, ?_⟩
      have := rEvt_j x1
      refine ⟨c, j, _, t, sl + 0, ⟨pb_l x1, flt_rf.1, frD_t (frD_r) flt_rf.2, ⟨tlE_r, by omega, by omega⟩, by omega⟩, rfl, ?_, by omega⟩
      with_reducible rfl
set_option maxRecDepth 100000 in
theorem rNew_s {K : tv2} {f : Int64 → Int32} {x : Int32} {i i1 : Nat} {v : Int64} (h : rNew K f x i = .inr (v, i1)) : i1 = i + 1 ∧ x ≠ -1 ∧ f v = -1 ∧ K.2 i = v := by
  unfold rNew at h
  split at h
  · split at h
    · split at h
      · cases h
      · rename_i h1 h2 h3
        cases h
        exact ⟨rfl, h3, h2, rfl⟩
    · cases h
  · cases h
set_option maxRecDepth 100000 in
theorem rNew_j {K : tv2} {f : Int64 → Int32} {x : Int32} {i j : Nat} {c : Int32} (h : rNew K f x i = .inl (c, j)) : j = i := by
  unfold rNew at h
  split at h
  · split at h
    · split at h
      · cases h; rfl
      · cases h
    · cases h; rfl
  · cases h; rfl
set_option maxRecDepth 100000 in
theorem m_78 (S : tkS B n m C i) (h39 : kd B n i = 39) (hl : lfK (C.1 21 6) nl) (R : RX C sc none none false) (hT : TGK C t tr) (hz : nzp (rTrg (tkP B n) sc tr i nl)) : Wd L xs (d + 62) y_78 (0, [(0, .ref 120)], [], MH C t, sl) (PV B n m C t i sl (rTrg (tkP B n) sc tr i nl) (QTr (trN tr))) (XD B n C t i sl (rTrg (tkP B n) sc tr i nl)) := by
  have S1 := nxT_S S (by rw [h39]; decide) (by rw [h39]; decide)
  have hT1 : TGK (nxT B n C i) t tr := TGK_D (frD_N nxT_fr) hT
  refine w_p (pc1 := 1) rfl rfl ?_
  refine w_m0 (pc1 := 4) rfl rfl (h_gC rfl rfl rfl rfl) rfl ?_
  refine w_je (pc1 := 7) (vs := [.ref 101]) (rest := []) (st1 := []) (m_21s (d := d + 61) (sl := 0) S (by rw [h39]; decide) (by rw [h39]; decide)) rfl rfl rfl (fun _ _ => rfl) rfl (by exact cl_v my_21 rfl rfl rfl (Nat.le_of_ble_eq_true rfl) rfl (MH_obj rfl rfl) rfl (by decide) rfl rfl) (by rfl) (Nat.le_of_ble_eq_true rfl) (Nat.le_of_ble_eq_true rfl) rfl (by rfl) ?_
  refine w_p (pc1 := 8) rfl rfl ?_
  refine w_m0 (pc1 := 11) (st1 := .ref 39 :: _) rfl rfl rfl rfl ?_
  refine w_ji (pc1 := 14) (vs := [.ref 120, .ref 39]) (rest := []) (m_30g (d := d + 54) (sl := 0) S1 hT1) rfl rfl rfl (fun _ _ => rfl) rfl (by exact cl_v my_30 rfl rfl rfl (Nat.le_of_ble_eq_true rfl) rfl (MH_obj rfl rfl) rfl (by decide) rfl rfl) (by rfl) (Nat.le_of_ble_eq_true rfl) (Nat.le_of_ble_eq_true rfl) rfl (fun v h1 d1 hq => ?_) (fun a h1 d1 hq => ?_)
  · obtain ⟨nm, i1, C1, ⟨r1, hv, r3, r4⟩, hh, hn⟩ := hq
    subst hv; subst hh; subst hn
    obtain ⟨rfl, hg1, hg2, hg3⟩ := rNew_s r1
    have er1 : rTrg (tkP B n) sc tr i nl = rTr1 (tkP B n) sc nm (i + 1 + 1) nl := pb_r r1
    rw [er1] at hz
    have f1 := frN_t' (nxT_fr (B := B) (n := n) (C := C) (i := i)) r4
    have h36 := m_36 (L := L) (xs := xs) (C := C1) (t := t) (d := d + 61) (sl := 0)
    rw [trN_K (TGK_D (frD_N f1) hT)] at h36
    refine w_p (pc1 := 15) (al1 := [(1, .long (nm)), (0, .ref 120)]) rfl rfl ?_
    refine w_p (pc1 := 16) rfl rfl ?_
    refine w_p (pc1 := 17) rfl rfl ?_
    refine w_m0 (pc1 := 20) rfl rfl (h_gC rfl rfl rfl rfl) rfl ?_
    refine w_je (pc1 := 23) (vs := [.ref 106]) (rest := [.ref 120]) (st1 := [.int (trN tr), .ref 120]) (h36) rfl rfl rfl (fun _ _ => rfl) rfl (by exact cl_v my_36 rfl rfl rfl (Nat.le_of_ble_eq_true rfl) rfl (MH_obj rfl rfl) rfl (by decide) rfl rfl) (by rfl) (Nat.le_of_ble_eq_true rfl) (Nat.le_of_ble_eq_true rfl) rfl (by rfl) ?_
    refine w_m0 (pc1 := 26) rfl rfl (h_pI (j := 5) rfl rfl rfl rfl rfl rfl rfl ⟨rfl, rfl⟩ rfl) rfl ?_
    have f2 : frD C (sI C1 20 5 (trN tr)) := frD_t (frD_N f1) (frD_I (by omega))
    have S2 : tkS B n m (sI C1 20 5 (trN tr)) (i + 1 + 1) := tkS_F r3 (fun k j h => by rw [sI_1, if_neg (by omega)]) rfl
    have R2 : RX (sI C1 20 5 (trN tr)) sc none none false := by
      have R0 := RX_F R (frF_N f1)
      have e : ∀ j, (sI C1 20 5 (trN tr)).1 21 j = C1.1 21 j := fun j => by rw [sI_1, if_neg (by omega)]
      exact ⟨SCK_D R0.1 (frD_I (by omega)), ⟨(e 7).trans R0.2.1.1, R0.2.1.2⟩, ⟨(e 8).trans R0.2.2.1.1, fun p hp => by cases hp⟩, (e 10).trans R0.2.2.2⟩
    have hl2 : lfK ((sI C1 20 5 (trN tr)).1 21 6) nl := by rw [sI_1, if_neg (by omega), f1.1 21 6 (by omega)]; exact hl
    have v2 : (sI C1 20 5 (trN tr)).2.2 20 3 = C.2.2 20 3 := f1.2.2 20 3 (by omega)
    have n2 : (sI C1 20 5 (trN tr)).1 20 5 = trN tr := by rw [sI_1, if_pos ⟨rfl, rfl⟩]
    by_cases h5 : kd B n (i + 1 + 1) = 5
    · skip
      have x0 : rTim (tkP B n) (i + 1 + 1) = .inr (1, i + 1 + 1 + 1) := if_pos h5
      have er3 : rTrg (tkP B n) sc tr i nl = rTr0 (tkP B n) sc nm 1 (i + 1 + 1 + 1) nl := er1.trans (pb_r x0)
      have hz := nzp_g x0 hz
      have S3 := nxT_S S2 (by rw [h5]; decide) (by rw [h5]; decide)
      have R3 := RX_F R2 (frF_N (nxT_fr (B := B) (n := n) (i := i + 1 + 1)))
      have hl3 : lfK ((nxT B n (sI C1 20 5 (trN tr)) (i + 1 + 1)).1 21 6) nl := by rw [nxT_fr.1 21 6 (by omega)]; exact hl2
      refine w_p (pc1 := 27) rfl rfl ?_
      refine w_m0 (pc1 := 30) rfl rfl (h_gC rfl rfl rfl rfl) rfl ?_
      refine w_m0 (pc1 := 33) (st1 := .ref (kd B n (i + 1 + 1)) :: _) rfl rfl (h_gRs (j := 6) rfl rfl rfl rfl rfl (tkS_tok S2)) rfl ?_
      refine w_m0 (pc1 := 36) (st1 := .ref 5 :: _) rfl rfl rfl rfl ?_
      refine w_an_y (A := 43) (Bn := 39) (ok_kd) (by decide) (h5) rfl rfl rfl ?_
      refine w_p (pc1 := 40) (st1 := .int 1 :: _) rfl rfl ?_
      refine w_p (pc1 := 44) rfl rfl ?_
      refine w_p (pc1 := 45) (al1 := [(3, .int 1), (1, .long (nm)), (0, .ref 120)]) rfl rfl ?_
      refine w_p (pc1 := 46) rfl rfl ?_
      refine w_m0 (pc1 := 49) rfl rfl (h_gC rfl rfl rfl rfl) rfl ?_
      refine w_m0 (pc1 := 52) (st1 := .ref 5 :: _) rfl rfl rfl rfl ?_
      refine w_je (pc1 := 55) (vs := [.ref 101, .ref 5]) (rest := []) (st1 := [.int 1]) (m_44y (d := d + 60) (sl := 0) S2 (by decide) h5 (by decide) (by decide)) rfl rfl rfl (fun _ _ => rfl) rfl (by exact cl_v my_44 rfl rfl rfl (Nat.le_of_ble_eq_true rfl) rfl (MH_obj rfl rfl) rfl (by decide) rfl rfl) (by rfl) (Nat.le_of_ble_eq_true rfl) (Nat.le_of_ble_eq_true rfl) rfl (by rfl) ?_
      refine w_t (a := 68) (b := 58) rfl rfl rfl ?_
      refine Wd_q (d78_1 (d := d) (ti := 1) (sl := sl + 0) S3 (by omega) hl3 R3 (by decide) hz) (fun v h q p => ?_) (fun a h q p => ?_)
      · exact PV_m p er3 (fun a C' t' h => ⟨h.1, h.2.trans ((nxT_fr.1 20 5 (by omega)).trans n2)⟩) (frD_t f2 (frD_N nxT_fr)) ((nxT_fr.2.2 20 3 (by omega)).trans v2) (tlE_r) (by omega) (by omega) (by omega)
      · exact XD_m p (fun _ h => er3.trans h) (frD_t f2 (frD_N nxT_fr)) (tlE_r) (by omega) (by omega) (by omega)
    · by_cases h9 : kd B n (i + 1 + 1) = 9
      · skip
        have x0 : rTim (tkP B n) (i + 1 + 1) = .inr (0, i + 1 + 1 + 1) := (if_neg h5).trans (if_pos h9)
        have er3 : rTrg (tkP B n) sc tr i nl = rTr0 (tkP B n) sc nm 0 (i + 1 + 1 + 1) nl := er1.trans (pb_r x0)
        have hz := nzp_g x0 hz
        have S3 := nxT_S S2 (by rw [h9]; decide) (by rw [h9]; decide)
        have R3 := RX_F R2 (frF_N (nxT_fr (B := B) (n := n) (i := i + 1 + 1)))
        have hl3 : lfK ((nxT B n (sI C1 20 5 (trN tr)) (i + 1 + 1)).1 21 6) nl := by rw [nxT_fr.1 21 6 (by omega)]; exact hl2
        refine w_p (pc1 := 27) rfl rfl ?_
        refine w_m0 (pc1 := 30) rfl rfl (h_gC rfl rfl rfl rfl) rfl ?_
        refine w_m0 (pc1 := 33) (st1 := .ref (kd B n (i + 1 + 1)) :: _) rfl rfl (h_gRs (j := 6) rfl rfl rfl rfl rfl (tkS_tok S2)) rfl ?_
        refine w_m0 (pc1 := 36) (st1 := .ref 5 :: _) rfl rfl rfl rfl ?_
        refine w_an_n (A := 43) (ok_kd) (by decide) (h5) rfl rfl ?_
        refine w_p (pc1 := 44) (st1 := .int 0 :: _) rfl rfl ?_
        refine w_p (pc1 := 45) (al1 := [(3, .int 0), (1, .long (nm)), (0, .ref 120)]) rfl rfl ?_
        refine w_p (pc1 := 46) rfl rfl ?_
        refine w_m0 (pc1 := 49) rfl rfl (h_gC rfl rfl rfl rfl) rfl ?_
        refine w_m0 (pc1 := 52) (st1 := .ref 5 :: _) rfl rfl rfl rfl ?_
        refine w_je (pc1 := 55) (vs := [.ref 101, .ref 5]) (rest := []) (st1 := [.int 0]) (m_44n (d := d + 61) (sl := 0) S2 (by decide) h5) rfl rfl rfl (fun _ _ => rfl) rfl (by exact cl_v my_44 rfl rfl rfl (Nat.le_of_ble_eq_true rfl) rfl (MH_obj rfl rfl) rfl (by decide) rfl rfl) (by rfl) (Nat.le_of_ble_eq_true rfl) (Nat.le_of_ble_eq_true rfl) rfl (by rfl) ?_
        refine w_f (a := 68) (b := 58) rfl rfl rfl ?_
        refine w_p (pc1 := 59) rfl rfl ?_
        refine w_m0 (pc1 := 62) rfl rfl (h_gC rfl rfl rfl rfl) rfl ?_
        refine w_m0 (pc1 := 65) (st1 := .ref 9 :: _) rfl rfl rfl rfl ?_
        refine w_je (pc1 := 68) (vs := [.ref 101, .ref 9]) (rest := []) (st1 := []) (m_38y (d := d + 60) (sl := 0) S2 (by decide) h9 (by decide) (by decide)) rfl rfl rfl (fun _ _ => rfl) rfl (by exact cl_v my_38 rfl rfl rfl (Nat.le_of_ble_eq_true rfl) rfl (MH_obj rfl rfl) rfl (by decide) rfl rfl) (by rfl) (Nat.le_of_ble_eq_true rfl) (Nat.le_of_ble_eq_true rfl) rfl (by rfl) ?_
        refine Wd_q (d78_1 (d := d) (ti := 0) (sl := sl + 0) S3 (by omega) hl3 R3 (by decide) hz) (fun v h q p => ?_) (fun a h q p => ?_)
        · exact PV_m p er3 (fun a C' t' h => ⟨h.1, h.2.trans ((nxT_fr.1 20 5 (by omega)).trans n2)⟩) (frD_t f2 (frD_N nxT_fr)) ((nxT_fr.2.2 20 3 (by omega)).trans v2) (tlE_r) (by omega) (by omega) (by omega)
        · exact XD_m p (fun _ h => er3.trans h) (frD_t f2 (frD_N nxT_fr)) (tlE_r) (by omega) (by omega) (by omega)
      · have x0 : rTim (tkP B n) (i + 1 + 1) = .inl (2, i + 1 + 1) := (if_neg h5).trans (if_neg h9)
        refine w_p (pc1 := 27) rfl rfl ?_
        refine w_m0 (pc1 := 30) rfl rfl (h_gC rfl rfl rfl rfl) rfl ?_
        refine w_m0 (pc1 := 33) (st1 := .ref (kd B n (i + 1 + 1)) :: _) rfl rfl (h_gRs (j := 6) rfl rfl rfl rfl rfl (tkS_tok S2)) rfl ?_
        refine w_m0 (pc1 := 36) (st1 := .ref 5 :: _) rfl rfl rfl rfl ?_
        refine w_an_n (A := 43) (ok_kd) (by decide) (h5) rfl rfl ?_
        refine w_p (pc1 := 44) (st1 := .int 0 :: _) rfl rfl ?_
        refine w_p (pc1 := 45) (al1 := [(3, .int 0), (1, .long (nm)), (0, .ref 120)]) rfl rfl ?_
        refine w_p (pc1 := 46) rfl rfl ?_
        refine w_m0 (pc1 := 49) rfl rfl (h_gC rfl rfl rfl rfl) rfl ?_
        refine w_m0 (pc1 := 52) (st1 := .ref 5 :: _) rfl rfl rfl rfl ?_
        refine w_je (pc1 := 55) (vs := [.ref 101, .ref 5]) (rest := []) (st1 := [.int 0]) (m_44n (d := d + 61) (sl := 0) S2 (by decide) h5) rfl rfl rfl (fun _ _ => rfl) rfl (by exact cl_v my_44 rfl rfl rfl (Nat.le_of_ble_eq_true rfl) rfl (MH_obj rfl rfl) rfl (by decide) rfl rfl) (by rfl) (Nat.le_of_ble_eq_true rfl) (Nat.le_of_ble_eq_true rfl) rfl (by rfl) ?_
        refine w_f (a := 68) (b := 58) rfl rfl rfl ?_
        refine w_p (pc1 := 59) rfl rfl ?_
        refine w_m0 (pc1 := 62) rfl rfl (h_gC rfl rfl rfl rfl) rfl ?_
        refine w_m0 (pc1 := 65) (st1 := .ref 9 :: _) rfl rfl rfl rfl ?_
        refine w_ji (pc1 := 68) (vs := [.ref 101, .ref 9]) (rest := []) (m_38n (d := d + 54) (sl := 0) S2 (by decide) h9) rfl rfl rfl (fun _ _ => rfl) rfl (by exact cl_v my_38 rfl rfl rfl (Nat.le_of_ble_eq_true rfl) rfl (MH_obj rfl rfl) rfl (by decide) rfl rfl) (by rfl) (Nat.le_of_ble_eq_true rfl) (Nat.le_of_ble_eq_true rfl) rfl (fun v h1 d1 hq => ?_) (fun a h1 d1 hq => ?_)
        · exact hq.elim
        · rcases hq with ⟨ha, hh, hn⟩
          · subst ha; subst hh; subst hn
            refine Or.inl ⟨ch_new (by decide) rfl, ?_⟩
            refine ⟨2, i + 1 + 1, _, t, sl + 0, ⟨er1.trans (pb_l x0), flt_rf.1, frD_t f2 flt_rf.2, ⟨tlE_r, by omega, by omega⟩, by omega⟩, rfl, ?_, by omega⟩
            with_reducible rfl
  · rcases hq with ⟨c, j, ⟨x1, x2⟩, ha, hh, hn⟩
    · subst ha; subst hh; subst hn
      refine Or.inl ⟨ch_new (by decide) rfl, ?_⟩
      have := rNew_j x1
      refine ⟨c, j, _, t, sl + 0, ⟨pb_l x1, flt_rf.1, frD_t (frD_N (nxT_fr (B := B) (n := n) (i := i))) flt_rf.2, ⟨tlE_r, by omega, by omega⟩, by omega⟩, rfl, ?_, by omega⟩
      with_reducible rfl
end TRZ
